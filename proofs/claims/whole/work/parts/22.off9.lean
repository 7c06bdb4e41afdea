set_option maxHeartbeats 4000000 in
set_option maxRecDepth 100000 in
theorem c_X9_hoardSizeOn (l : Launch) (D : va_G) (cT : Nat → ClassId) (sz : Nat) (a : Nat → Nat) (b : Nat → Nat → Nat) (T P : Nat → Nat → Int32) (n : Nat → Nat) (i day : Int32) (hn : Cnt n) (hI : InvT T n) (hpr : PR T (P 0)) (hbt : btw day 0 (T 0 0) = true) : Met l yX9_hoardSizeOn wsX9_hoardSizeOn ({ frames := 5, cells := 0, slots := 0, locals := 122 }) (va_Pc [.ref (a 0), .int i, .int day] (PW D cT (offW cT a b T P n) sz)) (QW (some (.int (szV T n i day))) ((poO D cT a b T n (fun P1 => P1 0 = P 0)) (va_A (offW cT a b T P n) sz)) (va_A (offW cT a b T P n) sz)) 0 0 (va_A (offW cT a b T P n) sz) := by
  refine RW_of (Bp := (poO D cT a b T n (fun P1 => P1 0 = P 0))) (by decide) rfl (Nat.le_of_ble_eq_true rfl) ?_
  intro p e s m below meth c A hx hb hr hts hown hlocks hin hml hE hD hA H locs hP hS ls hl
  have hiX9 : ∀ w ∈ wsX90, w ∈ wsX9_hoardSizeOn := by decide +kernel
  have hl : lv_has ls 3 [(0, .ref (a 0)), (1, .int i), (2, .int day)] := hl
  obtain ⟨hn0, hn1, hn2, hn3, hn4⟩ := id hn
  refine lv_aload_n hx hb dX9_hoardSizeOn_0 rfl (lv_at hl 0 rfl) ?_
  refine va_get (D := D) (ci := 9) (v := .ref (a 7)) (C := RX9) (T := TX9) (N := 7) hx hb hts hiX9 hown hE.1 hP 0 ofl_0 rfl 3 (by decide) (hts (.fieldLink RX9 30 "FindsOffice" "findBook" "LFindsOffice$FindBook;") (by decide +kernel)) (fun _ h9 => h9) rfl dX9_hoardSizeOn_1 ?_
  refine lv_iload_n hx hb dX9_hoardSizeOn_4 rfl (lv_at hl 2 rfl) ?_
  have hF := va_allA hD hS hA
  refine rw_V0 (As := [.int day]) (rest := []) ⟨hx, hb, hml, hown, hts⟩ (c_X2_gatherHoards l D cT H.size a b T P n day hn hI hpr (day_le hI hbt)) (cwV 1 hts gX9_hoardSizeOn_X2_gatherHoards rfl rfl rfl (by decide +kernel) ⟨Nat.le_of_ble_eq_true rfl, Nat.le_of_ble_eq_true rfl⟩) hE hP hD hS hA 7 2 ofl_7 rfl rfl rfl hl.1 rfl (Nat.le_of_ble_eq_true rfl) dX9_hoardSizeOn_5 ⟨Nat.le_of_ble_eq_true rfl, Nat.le_of_ble_eq_true rfl⟩ (fun H locs hB hz1 hk1 hS => ?_)
  obtain ⟨PG, hpG, hP, hD1⟩ := hB
  have hD := hD1.weaken (fun _ q _ h => hF q.1 h)
  refine lv_aload_n hx hb dX9_hoardSizeOn_8 rfl (lv_at hl 0 rfl) ?_
  refine va_get (D := D) (ci := 9) (v := .ref (a 7)) (C := RX9) (T := TX9) (N := 7) hx hb hts hiX9 hown hE.1 hP 0 ofl_0 rfl 3 (by decide) (hts (.fieldLink RX9 30 "FindsOffice" "findBook" "LFindsOffice$FindBook;") (by decide +kernel)) (fun _ h9 => h9) rfl dX9_hoardSizeOn_9 ?_
  refine lv_iload_n hx hb dX9_hoardSizeOn_12 rfl (lv_at hl 1 rfl) ?_
  refine ro_V (As := [.int i]) (rest := []) ⟨hx, hb, hml, hown, hts⟩ (c_X2_hoardSize l D cT a b T PG n i hn) (cwV 1 hts gX9_hoardSizeOn_X2_hoardSize rfl rfl rfl (by decide +kernel) ⟨Nat.le_of_ble_eq_true rfl, Nat.le_of_ble_eq_true rfl⟩) hE hP 7 2 ofl_7 rfl rfl rfl hl.1 rfl (Nat.le_of_ble_eq_true rfl) dX9_hoardSizeOn_13 ⟨Nat.zero_le _, Nat.zero_le _⟩ ?_
  exact rw_iret hx hb hr hlocks (gh_sz hn1 hbt hpG.2) ⟨_, hpG.1, hP, hD⟩ hS (Nat.le_of_ble_eq_true rfl) (Nat.le_of_ble_eq_true rfl) dX9_hoardSizeOn_16
set_option maxHeartbeats 4000000 in
set_option maxRecDepth 100000 in
theorem c_X9_isTreasureOn (l : Launch) (D : va_G) (cT : Nat → ClassId) (sz : Nat) (a : Nat → Nat) (b : Nat → Nat → Nat) (T P : Nat → Nat → Int32) (n : Nat → Nat) (i day : Int32) (hn : Cnt n) (hI : InvT T n) (hpr : PR T (P 0)) (hbt : btw day 0 (T 0 0) = true) : Met l yX9_isTreasureOn wsX9_isTreasureOn ({ frames := 5, cells := 0, slots := 0, locals := 122 }) (va_Pc [.ref (a 0), .int i, .int day] (PW D cT (offW cT a b T P n) sz)) (QW (some (.int (b2 (cdB T n i day)))) ((poO D cT a b T n (fun P1 => P1 0 = P 0)) (va_A (offW cT a b T P n) sz)) (va_A (offW cT a b T P n) sz)) 0 0 (va_A (offW cT a b T P n) sz) := by
  refine RW_of (Bp := (poO D cT a b T n (fun P1 => P1 0 = P 0))) (by decide) rfl (Nat.le_of_ble_eq_true rfl) ?_
  intro p e s m below meth c A hx hb hr hts hown hlocks hin hml hE hD hA H locs hP hS ls hl
  have hiX9 : ∀ w ∈ wsX90, w ∈ wsX9_isTreasureOn := by decide +kernel
  have hl : lv_has ls 3 [(0, .ref (a 0)), (1, .int i), (2, .int day)] := hl
  obtain ⟨hn0, hn1, hn2, hn3, hn4⟩ := id hn
  refine lv_aload_n hx hb dX9_isTreasureOn_0 rfl (lv_at hl 0 rfl) ?_
  refine va_get (D := D) (ci := 9) (v := .ref (a 7)) (C := RX9) (T := TX9) (N := 7) hx hb hts hiX9 hown hE.1 hP 0 ofl_0 rfl 3 (by decide) (hts (.fieldLink RX9 30 "FindsOffice" "findBook" "LFindsOffice$FindBook;") (by decide +kernel)) (fun _ h9 => h9) rfl dX9_isTreasureOn_1 ?_
  refine lv_iload_n hx hb dX9_isTreasureOn_4 rfl (lv_at hl 2 rfl) ?_
  have hF := va_allA hD hS hA
  refine rw_V0 (As := [.int day]) (rest := []) ⟨hx, hb, hml, hown, hts⟩ (c_X2_gatherHoards l D cT H.size a b T P n day hn hI hpr (day_le hI hbt)) (cwV 1 hts gX9_isTreasureOn_X2_gatherHoards rfl rfl rfl (by decide +kernel) ⟨Nat.le_of_ble_eq_true rfl, Nat.le_of_ble_eq_true rfl⟩) hE hP hD hS hA 7 2 ofl_7 rfl rfl rfl hl.1 rfl (Nat.le_of_ble_eq_true rfl) dX9_isTreasureOn_5 ⟨Nat.le_of_ble_eq_true rfl, Nat.le_of_ble_eq_true rfl⟩ (fun H locs hB hz1 hk1 hS => ?_)
  obtain ⟨PG, hpG, hP, hD1⟩ := hB
  have hD := hD1.weaken (fun _ q _ h => hF q.1 h)
  refine lv_aload_n hx hb dX9_isTreasureOn_8 rfl (lv_at hl 0 rfl) ?_
  refine lv_iload_n hx hb dX9_isTreasureOn_9 rfl (lv_at hl 1 rfl) ?_
  refine ro_V (As := [.int i]) (rest := []) ⟨hx, hb, hml, hown, hts⟩ (c_X9_lawThatCounts l D cT a b T PG n i hn) (cwV 1 hts gX9_isTreasureOn_X9_lawThatCounts rfl rfl rfl (by decide +kernel) ⟨Nat.le_of_ble_eq_true rfl, Nat.le_of_ble_eq_true rfl⟩) hE hP 0 9 ofl_0 rfl rfl rfl hl.1 rfl (Nat.le_of_ble_eq_true rfl) dX9_isTreasureOn_10 ⟨Nat.zero_le _, Nat.zero_le _⟩ ?_
  rcases ho1 : (lctO T PG n i) with _ | q1
  · refine topv_eq (y := .null) rfl ?_
    refine lv_ifnullN (tgt := 20) hx hb dX9_isTreasureOn_13 (by decide) ?_
    refine lv_iconst (v := 0) hx hb dX9_isTreasureOn_20 (by decide) ?_
    exact rw_zret hx hb hr hlocks (by rw [← gh_cd hn1 hbt hpG.2, ho1]; rfl) ⟨_, hpG.1, hP, hD⟩ hS (Nat.le_of_ble_eq_true rfl) (Nat.le_of_ble_eq_true rfl) dX9_isTreasureOn_21
  · refine topv_eq (y := .ref (b 0 q1)) rfl ?_
    have hq1 := lctO_lt ho1
    refine lv_ifnull hx hb dX9_isTreasureOn_13 ?_
    refine lv_iconst (v := 1) hx hb dX9_isTreasureOn_16 (by decide) ?_
    refine lv_goto (tgt := 21) hx hb dX9_isTreasureOn_17 (by decide) ?_
    exact rw_zret hx hb hr hlocks (by rw [← gh_cd hn1 hbt hpG.2, ho1]; rfl) ⟨_, hpG.1, hP, hD⟩ hS (Nat.le_of_ble_eq_true rfl) (Nat.le_of_ble_eq_true rfl) dX9_isTreasureOn_21
set_option maxHeartbeats 4000000 in
set_option maxRecDepth 100000 in
theorem c_X9_hoard (l : Launch) (D : va_G) (cT : Nat → ClassId) (sz : Nat) (a : Nat → Nat) (b : Nat → Nat → Nat) (T P : Nat → Nat → Int32) (n : Nat → Nat) (i : Int32) (hn : Cnt n) (hI : InvT T n) (hpr : PR T (P 0)) : Met l yX9_hoard wsX9_hoard ({ frames := 5, cells := 0, slots := 0, locals := 122 }) (va_Pc [.ref (a 0), .int i] (PW D cT (offW cT a b T P n) sz)) (QW (some (.int (hoV T n i))) ((poQ D cT a T n) (va_A (offW cT a b T P n) sz)) (va_A (offW cT a b T P n) sz)) 0 0 (va_A (offW cT a b T P n) sz) := by
  refine RW_of (Bp := (poQ D cT a T n)) (by decide) rfl (Nat.le_of_ble_eq_true rfl) ?_
  intro p e s m below meth c A hx hb hr hts hown hlocks hin hml hE hD hA H locs hP hS ls hl
  have hiX9 : ∀ w ∈ wsX90, w ∈ wsX9_hoard := by decide +kernel
  have hl : lv_has ls 2 [(0, .ref (a 0)), (1, .int i)] := hl
  obtain ⟨hn0, hn1, hn2, hn3, hn4⟩ := id hn
  refine lv_aload_n hx hb dX9_hoard_0 rfl (lv_at hl 0 rfl) ?_
  refine va_get (D := D) (ci := 9) (v := .ref (a 7)) (C := RX9) (T := TX9) (N := 7) hx hb hts hiX9 hown hE.1 hP 0 ofl_0 rfl 3 (by decide) (hts (.fieldLink RX9 30 "FindsOffice" "findBook" "LFindsOffice$FindBook;") (by decide +kernel)) (fun _ h9 => h9) rfl dX9_hoard_1 ?_
  refine lv_aload_n hx hb dX9_hoard_4 rfl (lv_at hl 0 rfl) ?_
  refine va_get (D := D) (ci := 9) (v := .int (T 0 0)) (C := RX9) (T := TX9) (N := 7) hx hb hts hiX9 hown hE.1 hP 0 ofl_0 rfl 0 (by decide) (hts (.fieldLink RX9 7 "FindsOffice" "now" "I") (by decide +kernel)) (fun _ h9 => h9) rfl dX9_hoard_5 ?_
  have hF := va_allA hD hS hA
  refine rw_V0 (As := [.int (T 0 0)]) (rest := []) ⟨hx, hb, hml, hown, hts⟩ (c_X2_gatherHoards l D cT H.size a b T P n (T 0 0) hn hI hpr hI.1.2) (cwV 1 hts gX9_hoard_X2_gatherHoards rfl rfl rfl (by decide +kernel) ⟨Nat.le_of_ble_eq_true rfl, Nat.le_of_ble_eq_true rfl⟩) hE hP hD hS hA 7 2 ofl_7 rfl rfl rfl hl.1 rfl (Nat.le_of_ble_eq_true rfl) dX9_hoard_8 ⟨Nat.le_of_ble_eq_true rfl, Nat.le_of_ble_eq_true rfl⟩ (fun H locs hB hz1 hk1 hS => ?_)
  obtain ⟨PG, hpG, hP, hD1⟩ := hB
  have hD := hD1.weaken (fun _ q _ h => hF q.1 h)
  refine lv_aload_n hx hb dX9_hoard_11 rfl (lv_at hl 0 rfl) ?_
  refine va_get (D := D) (ci := 9) (v := .ref (a 7)) (C := RX9) (T := TX9) (N := 7) hx hb hts hiX9 hown hE.1 hP 0 ofl_0 rfl 3 (by decide) (hts (.fieldLink RX9 30 "FindsOffice" "findBook" "LFindsOffice$FindBook;") (by decide +kernel)) (fun _ h9 => h9) rfl dX9_hoard_12 ?_
  refine lv_iload_n hx hb dX9_hoard_15 rfl (lv_at hl 1 rfl) ?_
  refine ro_V (As := [.int i]) (rest := []) ⟨hx, hb, hml, hown, hts⟩ (c_X2_hoardNumber l D cT a b T PG n i hn) (cwV 1 hts gX9_hoard_X2_hoardNumber rfl rfl rfl (by decide +kernel) ⟨Nat.le_of_ble_eq_true rfl, Nat.le_of_ble_eq_true rfl⟩) hE hP 7 2 ofl_7 rfl rfl rfl hl.1 rfl (Nat.le_of_ble_eq_true rfl) dX9_hoard_16 ⟨Nat.zero_le _, Nat.zero_le _⟩ ?_
  exact rw_iret hx hb hr hlocks (gh_ho hn1 hI hpG.2) ⟨_, _, _, _, ⟨rfl, rfl, by rw [hpG.1]; exact hpr⟩, hP, hD⟩ hS (Nat.le_of_ble_eq_true rfl) (Nat.le_of_ble_eq_true rfl) dX9_hoard_19
set_option maxHeartbeats 4000000 in
set_option maxRecDepth 100000 in
theorem c_X9_size (l : Launch) (D : va_G) (cT : Nat → ClassId) (sz : Nat) (a : Nat → Nat) (b : Nat → Nat → Nat) (T P : Nat → Nat → Int32) (n : Nat → Nat) (i day : Int32) (hn : Cnt n) (hI : InvT T n) (hpr : PR T (P 0)) : Met l yX9_size wsX9_size ({ frames := 6, cells := 0, slots := 0, locals := 144 }) (va_Pc [.ref (a 0), .int i, .int day] (PW D cT (offW cT a b T P n) sz)) (QW (some (.int (szV T n i day))) ((poQ D cT a T n) (va_A (offW cT a b T P n) sz)) (va_A (offW cT a b T P n) sz)) 0 0 (va_A (offW cT a b T P n) sz) := by
  refine RW_of (Bp := (poQ D cT a T n)) (by decide) rfl (Nat.le_of_ble_eq_true rfl) ?_
  intro p e s m below meth c A hx hb hr hts hown hlocks hin hml hE hD hA H locs hP hS ls hl
  have hl : lv_has ls 3 [(0, .ref (a 0)), (1, .int i), (2, .int day)] := hl
  obtain ⟨hn0, hn1, hn2, hn3, hn4⟩ := id hn
  refine lv_aload_n hx hb dX9_size_0 rfl (lv_at hl 0 rfl) ?_
  refine lv_iload_n hx hb dX9_size_1 rfl (lv_at hl 2 rfl) ?_
  refine ro_V (As := [.int day]) (rest := []) ⟨hx, hb, hml, hown, hts⟩ (c_X9_isPast l D cT a b T P n day hn) (cwV 1 hts gX9_size_X9_isPast rfl rfl rfl (by decide +kernel) ⟨Nat.le_of_ble_eq_true rfl, Nat.le_of_ble_eq_true rfl⟩) hE hP 0 9 ofl_0 rfl rfl rfl hl.1 rfl (Nat.le_of_ble_eq_true rfl) dX9_size_2 ⟨Nat.zero_le _, Nat.zero_le _⟩ ?_
  refine bi_eq (tgt := 17) hx hb dX9_size_5 (by decide) (fun c_1 => ?_) (fun c_1 => ?_)
  · refine lv_iconst (v := (-1)) hx hb dX9_size_17 (by decide) ?_
    exact rw_iret hx hb hr hlocks (szV_no (by simp [knB, c_1])).symm ⟨_, _, _, _, ⟨rfl, rfl, hpr⟩, hP, hD⟩ hS (Nat.le_of_ble_eq_true rfl) (Nat.le_of_ble_eq_true rfl) dX9_size_18
  · refine lv_aload_n hx hb dX9_size_8 rfl (lv_at hl 0 rfl) ?_
    refine lv_iload_n hx hb dX9_size_9 rfl (lv_at hl 1 rfl) ?_
    refine lv_iload_n hx hb dX9_size_10 rfl (lv_at hl 2 rfl) ?_
    have hF := va_allA hD hS hA
    refine rw_V1 (As := [.int i, .int day]) (rest := []) ⟨hx, hb, hml, hown, hts⟩ (c_X9_hoardSizeOn l D cT H.size a b T P n i day hn hI hpr c_1) (cwV 2 hts gX9_size_X9_hoardSizeOn rfl rfl rfl (by decide +kernel) ⟨Nat.le_of_ble_eq_true rfl, Nat.le_of_ble_eq_true rfl⟩) hE hP hD hS hA 0 9 ofl_0 rfl rfl rfl hl.1 rfl (Nat.le_of_ble_eq_true rfl) dX9_size_11 ⟨Nat.le_of_ble_eq_true rfl, Nat.le_of_ble_eq_true rfl⟩ (fun H locs hB hz1 hk1 hS => ?_)
    obtain ⟨PS, hpS, hP, hD1⟩ := hB
    have hD := hD1.weaken (fun _ q _ h => hF q.1 h)
    refine lv_goto (tgt := 18) hx hb dX9_size_14 (by decide) ?_
    exact rw_iret hx hb hr hlocks rfl ⟨_, _, _, _, ⟨rfl, rfl, by rw [hpS]; exact hpr⟩, hP, hD⟩ hS (Nat.le_of_ble_eq_true rfl) (Nat.le_of_ble_eq_true rfl) dX9_size_18
set_option maxHeartbeats 4000000 in
set_option maxRecDepth 100000 in
theorem c_X9_counts (l : Launch) (D : va_G) (cT : Nat → ClassId) (sz : Nat) (a : Nat → Nat) (b : Nat → Nat → Nat) (T P : Nat → Nat → Int32) (n : Nat → Nat) (i : Int32) (hn : Cnt n) (hI : InvT T n) (hpr : PR T (P 0)) : Met l yX9_counts wsX9_counts ({ frames := 6, cells := 0, slots := 0, locals := 144 }) (va_Pc [.ref (a 0), .int i] (PW D cT (offW cT a b T P n) sz)) (QW (some (.int (b2 (cdB T n i (T 0 0))))) ((poQ D cT a T n) (va_A (offW cT a b T P n) sz)) (va_A (offW cT a b T P n) sz)) 0 0 (va_A (offW cT a b T P n) sz) := by
  refine RW_of (Bp := (poQ D cT a T n)) (by decide) rfl (Nat.le_of_ble_eq_true rfl) ?_
  intro p e s m below meth c A hx hb hr hts hown hlocks hin hml hE hD hA H locs hP hS ls hl
  have hiX9 : ∀ w ∈ wsX90, w ∈ wsX9_counts := by decide +kernel
  have hl : lv_has ls 2 [(0, .ref (a 0)), (1, .int i)] := hl
  obtain ⟨hn0, hn1, hn2, hn3, hn4⟩ := id hn
  refine lv_aload_n hx hb dX9_counts_0 rfl (lv_at hl 0 rfl) ?_
  refine lv_iload_n hx hb dX9_counts_1 rfl (lv_at hl 1 rfl) ?_
  refine lv_aload_n hx hb dX9_counts_2 rfl (lv_at hl 0 rfl) ?_
  refine va_get (D := D) (ci := 9) (v := .int (T 0 0)) (C := RX9) (T := TX9) (N := 7) hx hb hts hiX9 hown hE.1 hP 0 ofl_0 rfl 0 (by decide) (hts (.fieldLink RX9 7 "FindsOffice" "now" "I") (by decide +kernel)) (fun _ h9 => h9) rfl dX9_counts_3 ?_
  have hF := va_allA hD hS hA
  refine rw_V1 (As := [.int i, .int (T 0 0)]) (rest := []) ⟨hx, hb, hml, hown, hts⟩ (c_X9_isTreasureOn l D cT H.size a b T P n i (T 0 0) hn hI hpr (now_btw hI)) (cwV 2 hts gX9_counts_X9_isTreasureOn rfl rfl rfl (by decide +kernel) ⟨Nat.le_of_ble_eq_true rfl, Nat.le_of_ble_eq_true rfl⟩) hE hP hD hS hA 0 9 ofl_0 rfl rfl rfl hl.1 rfl (Nat.le_of_ble_eq_true rfl) dX9_counts_6 ⟨Nat.le_of_ble_eq_true rfl, Nat.le_of_ble_eq_true rfl⟩ (fun H locs hB hz1 hk1 hS => ?_)
  obtain ⟨PS, hpS, hP, hD1⟩ := hB
  have hD := hD1.weaken (fun _ q _ h => hF q.1 h)
  exact rw_zret hx hb hr hlocks rfl ⟨_, _, _, _, ⟨rfl, rfl, by rw [hpS]; exact hpr⟩, hP, hD⟩ hS (Nat.le_of_ble_eq_true rfl) (Nat.le_of_ble_eq_true rfl) dX9_counts_9
set_option maxHeartbeats 4000000 in
set_option maxRecDepth 100000 in
theorem c_X9_counted (l : Launch) (D : va_G) (cT : Nat → ClassId) (sz : Nat) (a : Nat → Nat) (b : Nat → Nat → Nat) (T P : Nat → Nat → Int32) (n : Nat → Nat) (i day : Int32) (hn : Cnt n) (hI : InvT T n) (hpr : PR T (P 0)) : Met l yX9_counted wsX9_counted ({ frames := 6, cells := 0, slots := 0, locals := 144 }) (va_Pc [.ref (a 0), .int i, .int day] (PW D cT (offW cT a b T P n) sz)) (QW (some (.int (b2 (cdB T n i day)))) ((poQ D cT a T n) (va_A (offW cT a b T P n) sz)) (va_A (offW cT a b T P n) sz)) 0 0 (va_A (offW cT a b T P n) sz) := by
  refine RW_of (Bp := (poQ D cT a T n)) (by decide) rfl (Nat.le_of_ble_eq_true rfl) ?_
  intro p e s m below meth c A hx hb hr hts hown hlocks hin hml hE hD hA H locs hP hS ls hl
  have hl : lv_has ls 3 [(0, .ref (a 0)), (1, .int i), (2, .int day)] := hl
  obtain ⟨hn0, hn1, hn2, hn3, hn4⟩ := id hn
  refine lv_aload_n hx hb dX9_counted_0 rfl (lv_at hl 0 rfl) ?_
  refine lv_iload_n hx hb dX9_counted_1 rfl (lv_at hl 2 rfl) ?_
  refine ro_V (As := [.int day]) (rest := []) ⟨hx, hb, hml, hown, hts⟩ (c_X9_isPast l D cT a b T P n day hn) (cwV 1 hts gX9_counted_X9_isPast rfl rfl rfl (by decide +kernel) ⟨Nat.le_of_ble_eq_true rfl, Nat.le_of_ble_eq_true rfl⟩) hE hP 0 9 ofl_0 rfl rfl rfl hl.1 rfl (Nat.le_of_ble_eq_true rfl) dX9_counted_2 ⟨Nat.zero_le _, Nat.zero_le _⟩ ?_
  refine bi_eq (tgt := 21) hx hb dX9_counted_5 (by decide) (fun c_1 => ?_) (fun c_1 => ?_)
  · refine lv_iconst (v := 0) hx hb dX9_counted_21 (by decide) ?_
    exact rw_zret hx hb hr hlocks (by rw [cdB_no (by simp [knB, c_1])]; rfl) ⟨_, _, _, _, ⟨rfl, rfl, hpr⟩, hP, hD⟩ hS (Nat.le_of_ble_eq_true rfl) (Nat.le_of_ble_eq_true rfl) dX9_counted_22
  · refine lv_aload_n hx hb dX9_counted_8 rfl (lv_at hl 0 rfl) ?_
    refine lv_iload_n hx hb dX9_counted_9 rfl (lv_at hl 1 rfl) ?_
    refine lv_iload_n hx hb dX9_counted_10 rfl (lv_at hl 2 rfl) ?_
    have hF := va_allA hD hS hA
    refine rw_V1 (As := [.int i, .int day]) (rest := []) ⟨hx, hb, hml, hown, hts⟩ (c_X9_isTreasureOn l D cT H.size a b T P n i day hn hI hpr c_1) (cwV 2 hts gX9_counted_X9_isTreasureOn rfl rfl rfl (by decide +kernel) ⟨Nat.le_of_ble_eq_true rfl, Nat.le_of_ble_eq_true rfl⟩) hE hP hD hS hA 0 9 ofl_0 rfl rfl rfl hl.1 rfl (Nat.le_of_ble_eq_true rfl) dX9_counted_11 ⟨Nat.le_of_ble_eq_true rfl, Nat.le_of_ble_eq_true rfl⟩ (fun H locs hB hz1 hk1 hS => ?_)
    obtain ⟨PS, hpS, hP, hD1⟩ := hB
    have hD := hD1.weaken (fun _ q _ h => hF q.1 h)
    refine bi_eq (tgt := 21) hx hb dX9_counted_14 (by decide) (fun c_2 => ?_) (fun c_2 => ?_)
    · refine lv_iconst (v := 0) hx hb dX9_counted_21 (by decide) ?_
      exact rw_zret hx hb hr hlocks (by simp [b2, c_1, c_2]) ⟨_, _, _, _, ⟨rfl, rfl, by rw [hpS]; exact hpr⟩, hP, hD⟩ hS (Nat.le_of_ble_eq_true rfl) (Nat.le_of_ble_eq_true rfl) dX9_counted_22
    · refine lv_iconst (v := 1) hx hb dX9_counted_17 (by decide) ?_
      refine lv_goto (tgt := 22) hx hb dX9_counted_18 (by decide) ?_
      exact rw_zret hx hb hr hlocks (by simp [b2, c_1, c_2]) ⟨_, _, _, _, ⟨rfl, rfl, by rw [hpS]; exact hpr⟩, hP, hD⟩ hS (Nat.le_of_ble_eq_true rfl) (Nat.le_of_ble_eq_true rfl) dX9_counted_22
set_option maxHeartbeats 4000000 in
set_option maxRecDepth 100000 in
theorem c_X9_share (l : Launch) (D : va_G) (cT : Nat → ClassId) (sz : Nat) (a : Nat → Nat) (b : Nat → Nat → Nat) (T P : Nat → Nat → Int32) (n : Nat → Nat) (i pe : Int32) (hn : Cnt n) (hI : InvT T n) (hpr : PR T (P 0)) : Met l yX9_share wsX9_share ({ frames := 5, cells := 0, slots := 0, locals := 122 }) (va_Pc [.ref (a 0), .int i, .int pe] (PW D cT (offW cT a b T P n) sz)) (QW (some (.int (dsV T n i pe))) ((poQ D cT a T n) (va_A (offW cT a b T P n) sz)) (va_A (offW cT a b T P n) sz)) 0 0 (va_A (offW cT a b T P n) sz) := by
  refine RW_of (Bp := (poQ D cT a T n)) (by decide) rfl (Nat.le_of_ble_eq_true rfl) ?_
  intro p e s m below meth c A hx hb hr hts hown hlocks hin hml hE hD hA H locs hP hS ls hl
  have hiX9 : ∀ w ∈ wsX90, w ∈ wsX9_share := by decide +kernel
  have hl : lv_has ls 3 [(0, .ref (a 0)), (1, .int i), (2, .int pe)] := hl
  obtain ⟨hn0, hn1, hn2, hn3, hn4⟩ := id hn
  refine lv_iload_n hx hb dX9_share_0 rfl (lv_at hl 2 rfl) ?_
  refine ro_S (As := [.int pe]) (rest := []) ⟨hx, hb, hml, hown, hts⟩ (c_X9_isPerson l D cT pe ) (va_cwS 1 hts gX9_share_X9_isPerson rfl rfl rfl (by decide +kernel) ⟨Nat.le_of_ble_eq_true rfl, Nat.le_of_ble_eq_true rfl⟩) hE va_P_nil  rfl hl.1 rfl (Nat.le_of_ble_eq_true rfl) dX9_share_1 ⟨Nat.zero_le _, Nat.zero_le _⟩ ?_
  refine bi_ne (tgt := 9) hx hb dX9_share_4 (by decide) (fun c_1 => ?_) (fun c_1 => ?_)
  · rw [btw29] at c_1
    refine lv_aload_n hx hb dX9_share_9 rfl (lv_at hl 0 rfl) ?_
    refine va_get (D := D) (ci := 9) (v := .ref (a 7)) (C := RX9) (T := TX9) (N := 7) hx hb hts hiX9 hown hE.1 hP 0 ofl_0 rfl 3 (by decide) (hts (.fieldLink RX9 30 "FindsOffice" "findBook" "LFindsOffice$FindBook;") (by decide +kernel)) (fun _ h9 => h9) rfl dX9_share_10 ?_
    refine lv_aload_n hx hb dX9_share_13 rfl (lv_at hl 0 rfl) ?_
    refine va_get (D := D) (ci := 9) (v := .int (T 0 0)) (C := RX9) (T := TX9) (N := 7) hx hb hts hiX9 hown hE.1 hP 0 ofl_0 rfl 0 (by decide) (hts (.fieldLink RX9 7 "FindsOffice" "now" "I") (by decide +kernel)) (fun _ h9 => h9) rfl dX9_share_14 ?_
    have hF := va_allA hD hS hA
    refine rw_V0 (As := [.int (T 0 0)]) (rest := []) ⟨hx, hb, hml, hown, hts⟩ (c_X2_gatherHoards l D cT H.size a b T P n (T 0 0) hn hI hpr hI.1.2) (cwV 1 hts gX9_share_X2_gatherHoards rfl rfl rfl (by decide +kernel) ⟨Nat.le_of_ble_eq_true rfl, Nat.le_of_ble_eq_true rfl⟩) hE hP hD hS hA 7 2 ofl_7 rfl rfl rfl hl.1 rfl (Nat.le_of_ble_eq_true rfl) dX9_share_17 ⟨Nat.le_of_ble_eq_true rfl, Nat.le_of_ble_eq_true rfl⟩ (fun H locs hB hz1 hk1 hS => ?_)
    obtain ⟨PG, hpG, hP, hD1⟩ := hB
    have hD := hD1.weaken (fun _ q _ h => hF q.1 h)
    refine lv_aload_n hx hb dX9_share_20 rfl (lv_at hl 0 rfl) ?_
    refine lv_iload_n hx hb dX9_share_21 rfl (lv_at hl 1 rfl) ?_
    refine lv_iload_n hx hb dX9_share_22 rfl (lv_at hl 2 rfl) ?_
    refine ro_V (As := [.int i, .int pe]) (rest := []) ⟨hx, hb, hml, hown, hts⟩ (c_X9_rewardFor l D cT a b T PG n i pe hn hI.2.2.2.2.2.1) (cwV 2 hts gX9_share_X9_rewardFor rfl rfl rfl (by decide +kernel) ⟨Nat.le_of_ble_eq_true rfl, Nat.le_of_ble_eq_true rfl⟩) hE hP 0 9 ofl_0 rfl rfl rfl hl.1 rfl (Nat.le_of_ble_eq_true rfl) dX9_share_23 ⟨Nat.zero_le _, Nat.zero_le _⟩ ?_
    exact rw_iret hx hb hr hlocks (gh_rw hn1 hI c_1 hpG.2) ⟨_, _, _, _, ⟨rfl, rfl, by rw [hpG.1]; exact hpr⟩, hP, hD⟩ hS (Nat.le_of_ble_eq_true rfl) (Nat.le_of_ble_eq_true rfl) dX9_share_26
  · rw [btw29] at c_1
    refine lv_iconst (v := 0) hx hb dX9_share_7 (by decide) ?_
    exact rw_iret hx hb hr hlocks (dsV_no (by simp [c_1])).symm ⟨_, _, _, _, ⟨rfl, rfl, hpr⟩, hP, hD⟩ hS (Nat.le_of_ble_eq_true rfl) (Nat.le_of_ble_eq_true rfl) dX9_share_8
set_option maxHeartbeats 4000000 in
set_option maxRecDepth 100000 in
theorem c_X9_stillOpen (l : Launch) (D : va_G) (cT : Nat → ClassId) (sz : Nat) (a : Nat → Nat) (b : Nat → Nat → Nat) (T P : Nat → Nat → Int32) (n : Nat → Nat) (kp : Nat) (hn : Cnt n) (hI : InvT T n) (hpr : PR T (P 0)) (hkp : kp < 30) : Met l yX9_stillOpen wsX9_stillOpen ({ frames := 5, cells := 0, slots := 0, locals := 122 }) (va_Pc [.ref (a 0), .int (nI kp)] (PW D cT (offW cT a b T P n) sz)) (QW (some (.int (duS T n (nI kp) (n 1)))) ((poO D cT a b T n (fun P1 => P1 0 = P 0)) (va_A (offW cT a b T P n) sz)) (va_A (offW cT a b T P n) sz)) 0 0 (va_A (offW cT a b T P n) sz) := by
  refine RW_of (Bp := (poO D cT a b T n (fun P1 => P1 0 = P 0))) (by decide) rfl (Nat.le_of_ble_eq_true rfl) ?_
  intro p e s m below meth c A hx hb hr hts hown hlocks hin hml hE hD hA H locs hP hS ls hl
  have hiX2 : ∀ w ∈ wsX20, w ∈ wsX9_stillOpen := by decide +kernel
  have hiX9 : ∀ w ∈ wsX90, w ∈ wsX9_stillOpen := by decide +kernel
  have hl : lv_has ls 4 [(0, .ref (a 0)), (1, .int (nI kp))] := hl
  obtain ⟨hn0, hn1, hn2, hn3, hn4⟩ := id hn
  refine lv_aload_n hx hb dX9_stillOpen_0 rfl (lv_at hl 0 rfl) ?_
  refine va_get (D := D) (ci := 9) (v := .ref (a 7)) (C := RX9) (T := TX9) (N := 7) hx hb hts hiX9 hown hE.1 hP 0 ofl_0 rfl 3 (by decide) (hts (.fieldLink RX9 30 "FindsOffice" "findBook" "LFindsOffice$FindBook;") (by decide +kernel)) (fun _ h9 => h9) rfl dX9_stillOpen_1 ?_
  refine lv_aload_n hx hb dX9_stillOpen_4 rfl (lv_at hl 0 rfl) ?_
  refine va_get (D := D) (ci := 9) (v := .int (T 0 0)) (C := RX9) (T := TX9) (N := 7) hx hb hts hiX9 hown hE.1 hP 0 ofl_0 rfl 0 (by decide) (hts (.fieldLink RX9 7 "FindsOffice" "now" "I") (by decide +kernel)) (fun _ h9 => h9) rfl dX9_stillOpen_5 ?_
  have hF := va_allA hD hS hA
  refine rw_V0 (As := [.int (T 0 0)]) (rest := []) ⟨hx, hb, hml, hown, hts⟩ (c_X2_gatherHoards l D cT H.size a b T P n (T 0 0) hn hI hpr hI.1.2) (cwV 1 hts gX9_stillOpen_X2_gatherHoards rfl rfl rfl (by decide +kernel) ⟨Nat.le_of_ble_eq_true rfl, Nat.le_of_ble_eq_true rfl⟩) hE hP hD hS hA 7 2 ofl_7 rfl rfl rfl hl.1 rfl (Nat.le_of_ble_eq_true rfl) dX9_stillOpen_8 ⟨Nat.le_of_ble_eq_true rfl, Nat.le_of_ble_eq_true rfl⟩ (fun H locs hB hz1 hk1 hS => ?_)
  obtain ⟨PG, hpG, hP, hD1⟩ := hB
  have hD := hD1.weaken (fun _ q _ h => hF q.1 h)
  refine lv_iload_n hx hb dX9_stillOpen_11 rfl (lv_at hl 1 rfl) ?_
  refine ro_S (As := [.int (nI kp)]) (rest := []) ⟨hx, hb, hml, hown, hts⟩ (c_X9_isPerson l D cT (nI kp) ) (va_cwS 1 hts gX9_stillOpen_X9_isPerson rfl rfl rfl (by decide +kernel) ⟨Nat.le_of_ble_eq_true rfl, Nat.le_of_ble_eq_true rfl⟩) hE va_P_nil  rfl hl.1 rfl (Nat.le_of_ble_eq_true rfl) dX9_stillOpen_12 ⟨Nat.zero_le _, Nat.zero_le _⟩ ?_
  refine bi_eq (tgt := 28) hx hb dX9_stillOpen_15 (by decide) (fun c_1 => ?_) (fun c_1 => ?_)
  · exact absurd (c_1.symm.trans (btw29.trans (isT_nI hkp (by decide)))) (by decide)
  · refine lv_aload_n hx hb dX9_stillOpen_18 rfl (lv_at hl 0 rfl) ?_
    refine va_get (D := D) (ci := 9) (v := .ref (a 18)) (C := RX9) (T := TX9) (N := 7) hx hb hts hiX9 hown hE.1 hP 0 ofl_0 rfl 6 (by decide) (hts (.fieldLink RX9 48 "FindsOffice" "paidTo" "[I") (by decide +kernel)) (fun _ h9 => h9) rfl dX9_stillOpen_19 ?_
    refine lv_iload_n hx hb dX9_stillOpen_22 rfl (lv_at hl 1 rfl) ?_
    refine my_iald (k := kp) hx hb hE.1 hP 18 0 ofl_18 rfl rfl (by omega) (by decide) dX9_stillOpen_23 ?_
    refine lv_ineg hx hb dX9_stillOpen_24 ?_
    refine lv_goto (tgt := 29) hx hb dX9_stillOpen_25 (by decide) ?_
    refine lv_istore_n (lv' := [(2, .int (-(T 31 kp))), (0, .ref (a 0)), (1, .int (nI kp))]) hx hb dX9_stillOpen_29 rfl hl (by decide) rfl (fun ls hl => ?_)
    refine lv_iconst (v := 0) hx hb dX9_stillOpen_30 (by decide) ?_
    refine lv_istore_n (lv' := [(3, .int 0), (2, .int (-(T 31 kp))), (0, .ref (a 0)), (1, .int (nI kp))]) hx hb dX9_stillOpen_31 rfl hl (by decide) rfl (fun ls hl => ?_)
    have loop_32 : ∀ (fuel_32 : Nat) (j : Nat) (v : Int32), j ≤ n 1 → v = duS T n (nI kp) j → n 1 - j < fuel_32 → ∀ (H : Heap) (locs : List Loc), va_P D vwCl (offW cT a b T PG n) H → va_D A (offW cT a b T PG n) → va_S A s.heap H locs → ∀ (ls : Array Slot), lv_has ls 4 [(0, .ref (a 0)), (1, .int (nI kp)), (2, .int v), (3, .int (nI j))] → W p l e ({ frames := 5, cells := 0, slots := 0, locals := 122 }) s m (List.toArray [.ref (a 0), .int (nI kp)]) below meth c H locs 0 0 (MQ below (QW (some (.int (duS T n (nI kp) (n 1)))) ((poO D cT a b T n (fun P1 => P1 0 = P 0)) A) A) (List.toArray [.ref (a 0), .int (nI kp)]) s 0 0 A) (F0 m 32 ls []) := by
      intro fuel_32
      induction fuel_32 with
      | zero => intro j v hj hv hfuel_32; exact absurd hfuel_32 (Nat.not_lt_zero _)
      | succ fuel_32 ih_32 =>
        intro j v hj hv hfuel_32 H locs hP hD hS ls hl
        refine lv_iload_n hx hb dX9_stillOpen_32 rfl (lv_at hl 3 rfl) ?_
        refine lv_aload_n hx hb dX9_stillOpen_33 rfl (lv_at hl 0 rfl) ?_
        refine va_get (D := D) (ci := 9) (v := .ref (a 7)) (C := RX9) (T := TX9) (N := 7) hx hb hts hiX9 hown hE.1 hP 0 ofl_0 rfl 3 (by decide) (hts (.fieldLink RX9 30 "FindsOffice" "findBook" "LFindsOffice$FindBook;") (by decide +kernel)) (fun _ h9 => h9) rfl dX9_stillOpen_34 ?_
        refine va_get (D := D) (ci := 2) (v := .int (nI (n 1))) (C := RX2) (T := TX2) (N := 7) hx hb hts hiX2 hown hE.1 hP 7 ofl_7 rfl 1 (by decide) (hts (.fieldLink RX9 198 "FindsOffice$FindBook" "told" "I") (by decide +kernel)) (fun _ h9 => h9) rfl dX9_stillOpen_37 ?_
        refine lv_icmp_ge (tgt := 58) hx hb dX9_stillOpen_40 (by decide) (fun c_2 => ?_) (fun c_2 => ?_)
        · have k_2 := nat_le (a := (n 1)) (b := j) c_2 (by omega) (by omega)
          refine lv_iload_n hx hb dX9_stillOpen_58 rfl (lv_at hl 2 rfl) ?_
          exact rw_iret hx hb hr hlocks (by rw [hv, show j = n 1 by omega]) ⟨_, hpG.1, hP, hD⟩ hS (Nat.le_of_ble_eq_true rfl) (Nat.le_of_ble_eq_true rfl) dX9_stillOpen_59
        · have k_2 := nat_nle (a := (n 1)) (b := j) c_2 (by omega) (by omega)
          refine lv_iload_n hx hb dX9_stillOpen_43 rfl (lv_at hl 2 rfl) ?_
          refine lv_aload_n hx hb dX9_stillOpen_44 rfl (lv_at hl 0 rfl) ?_
          refine lv_iload_n hx hb dX9_stillOpen_45 rfl (lv_at hl 3 rfl) ?_
          refine lv_iload_n hx hb dX9_stillOpen_46 rfl (lv_at hl 1 rfl) ?_
          refine ro_V (As := [.int (nI j), .int (nI kp)]) (rest := [.int v]) ⟨hx, hb, hml, hown, hts⟩ (c_X9_rewardFor l D cT a b T PG n (nI j) (nI kp) hn hI.2.2.2.2.2.1) (cwV 2 hts gX9_stillOpen_X9_rewardFor rfl rfl rfl (by decide +kernel) ⟨Nat.le_of_ble_eq_true rfl, Nat.le_of_ble_eq_true rfl⟩) hE hP 0 9 ofl_0 rfl rfl rfl hl.1 rfl (Nat.le_of_ble_eq_true rfl) dX9_stillOpen_47 ⟨Nat.zero_le _, Nat.zero_le _⟩ ?_
          refine lv_iadd hx hb dX9_stillOpen_50 ?_
          refine lv_istore_n (lv' := [(2, .int (v + (rwdV T PG n (nI j) (nI kp)))), (0, .ref (a 0)), (1, .int (nI kp)), (3, .int (nI j))]) hx hb dX9_stillOpen_51 rfl hl (by decide) rfl (fun ls hl => ?_)
          refine lv_iinc (v := nI (j + 1)) (lv' := [(3, .int (nI (j + 1))), (2, .int (v + (rwdV T PG n (nI j) (nI kp)))), (0, .ref (a 0)), (1, .int (nI kp))]) hx hb dX9_stillOpen_52 hl (k := 3) rfl (nI_1 _) (by decide) rfl (fun ls hl => ?_)
          refine lv_goto (tgt := 32) hx hb dX9_stillOpen_55 (by decide) ?_
          exact ih_32 (j + 1) _ (by omega) (by rw [hv, duS, gh_rw hn1 hI (isT_nI hkp (by decide)) hpG.2]) (by omega) H locs hP hD hS ls (lv_sub hl [2, 3, 1, 0] rfl)
    exact loop_32 _ 0 _ (by omega) (by rw [duS, nI_clamp (by omega)]) (Nat.lt_succ_self _) H locs hP hD hS ls (lv_sub hl [2, 3, 1, 0] rfl)
set_option maxHeartbeats 4000000 in
set_option maxRecDepth 100000 in
theorem c_X9_due (l : Launch) (D : va_G) (cT : Nat → ClassId) (sz : Nat) (a : Nat → Nat) (b : Nat → Nat → Nat) (T P : Nat → Nat → Int32) (n : Nat → Nat) (pe : Int32) (hn : Cnt n) (hI : InvT T n) (hpr : PR T (P 0)) : Met l yX9_due wsX9_due ({ frames := 6, cells := 0, slots := 0, locals := 145 }) (va_Pc [.ref (a 0), .int pe] (PW D cT (offW cT a b T P n) sz)) (QW (some (.int (duV T n pe))) ((poQ D cT a T n) (va_A (offW cT a b T P n) sz)) (va_A (offW cT a b T P n) sz)) 0 0 (va_A (offW cT a b T P n) sz) := by
  refine RW_of (Bp := (poQ D cT a T n)) (by decide) rfl (Nat.le_of_ble_eq_true rfl) ?_
  intro p e s m below meth c A hx hb hr hts hown hlocks hin hml hE hD hA H locs hP hS ls hl
  have hl : lv_has ls 2 [(0, .ref (a 0)), (1, .int pe)] := hl
  obtain ⟨hn0, hn1, hn2, hn3, hn4⟩ := id hn
  refine lv_iload_n hx hb dX9_due_0 rfl (lv_at hl 1 rfl) ?_
  refine ro_S (As := [.int pe]) (rest := []) ⟨hx, hb, hml, hown, hts⟩ (c_X9_isPerson l D cT pe ) (va_cwS 1 hts gX9_due_X9_isPerson rfl rfl rfl (by decide +kernel) ⟨Nat.le_of_ble_eq_true rfl, Nat.le_of_ble_eq_true rfl⟩) hE va_P_nil  rfl hl.1 rfl (Nat.le_of_ble_eq_true rfl) dX9_due_1 ⟨Nat.zero_le _, Nat.zero_le _⟩ ?_
  refine bi_eq (tgt := 15) hx hb dX9_due_4 (by decide) (fun c_1 => ?_) (fun c_1 => ?_)
  · rw [btw29] at c_1
    refine lv_iconst (v := 0) hx hb dX9_due_15 (by decide) ?_
    exact rw_iret hx hb hr hlocks (by rw [duV, if_neg (by rw [c_1]; decide)]) ⟨_, _, _, _, ⟨rfl, rfl, hpr⟩, hP, hD⟩ hS (Nat.le_of_ble_eq_true rfl) (Nat.le_of_ble_eq_true rfl) dX9_due_16
  · rw [btw29] at c_1
    obtain ⟨kp, hkp, rfl⟩ := isT_k c_1 (by decide)
    refine lv_aload_n hx hb dX9_due_7 rfl (lv_at hl 0 rfl) ?_
    refine lv_iload_n hx hb dX9_due_8 rfl (lv_at hl 1 rfl) ?_
    have hF := va_allA hD hS hA
    refine rw_V1 (As := [.int (nI kp)]) (rest := []) ⟨hx, hb, hml, hown, hts⟩ (c_X9_stillOpen l D cT H.size a b T P n kp hn hI hpr hkp) (cwV 1 hts gX9_due_X9_stillOpen rfl rfl rfl (by decide +kernel) ⟨Nat.le_of_ble_eq_true rfl, Nat.le_of_ble_eq_true rfl⟩) hE hP hD hS hA 0 9 ofl_0 rfl rfl rfl hl.1 rfl (Nat.le_of_ble_eq_true rfl) dX9_due_9 ⟨Nat.le_of_ble_eq_true rfl, Nat.le_of_ble_eq_true rfl⟩ (fun H locs hB hz1 hk1 hS => ?_)
    obtain ⟨PS, hpS, hP, hD1⟩ := hB
    have hD := hD1.weaken (fun _ q _ h => hF q.1 h)
    refine lv_goto (tgt := 16) hx hb dX9_due_12 (by decide) ?_
    exact rw_iret hx hb hr hlocks (duV_at hkp).symm ⟨_, _, _, _, ⟨rfl, rfl, by rw [hpS]; exact hpr⟩, hP, hD⟩ hS (Nat.le_of_ble_eq_true rfl) (Nat.le_of_ble_eq_true rfl) dX9_due_16
set_option maxHeartbeats 4000000 in
set_option maxRecDepth 100000 in
theorem c_X9_settle (l : Launch) (D : va_G) (cT : Nat → ClassId) (sz : Nat) (a : Nat → Nat) (b : Nat → Nat → Nat) (T P : Nat → Nat → Int32) (n : Nat → Nat) (pe : Int32) (hn : Cnt n) (hI : InvT T n) (hpr : PR T (P 0)) : Met l yX9_settle wsX9_settle ({ frames := 6, cells := 0, slots := 0, locals := 145 }) (va_Pc [.ref (a 0), .int pe] (PW D cT (offW cT a b T P n) sz)) (QW (some (.int (duV T n pe))) ((poQ D cT a (seT T n pe) n) (va_A (offW cT a b T P n) sz)) (va_A (offW cT a b T P n) sz)) 0 0 (va_A (offW cT a b T P n) sz) := by
  refine RW_of (Bp := (poQ D cT a (seT T n pe) n)) (by decide) rfl (Nat.le_of_ble_eq_true rfl) ?_
  intro p e s m below meth c A hx hb hr hts hown hlocks hin hml hE hD hA H locs hP hS ls hl
  have hiX9 : ∀ w ∈ wsX90, w ∈ wsX9_settle := by decide +kernel
  have hl : lv_has ls 3 [(0, .ref (a 0)), (1, .int pe)] := hl
  obtain ⟨hn0, hn1, hn2, hn3, hn4⟩ := id hn
  refine lv_iload_n hx hb dX9_settle_0 rfl (lv_at hl 1 rfl) ?_
  refine ro_S (As := [.int pe]) (rest := []) ⟨hx, hb, hml, hown, hts⟩ (c_X9_isPerson l D cT pe ) (va_cwS 1 hts gX9_settle_X9_isPerson rfl rfl rfl (by decide +kernel) ⟨Nat.le_of_ble_eq_true rfl, Nat.le_of_ble_eq_true rfl⟩) hE va_P_nil  rfl hl.1 rfl (Nat.le_of_ble_eq_true rfl) dX9_settle_1 ⟨Nat.zero_le _, Nat.zero_le _⟩ ?_
  refine bi_ne (tgt := 9) hx hb dX9_settle_4 (by decide) (fun c_1 => ?_) (fun c_1 => ?_)
  · rw [btw29] at c_1
    obtain ⟨kp, hkp, rfl⟩ := isT_k c_1 (by decide)
    refine lv_aload_n hx hb dX9_settle_9 rfl (lv_at hl 0 rfl) ?_
    refine lv_iload_n hx hb dX9_settle_10 rfl (lv_at hl 1 rfl) ?_
    have hF := va_allA hD hS hA
    refine rw_V1 (As := [.int (nI kp)]) (rest := []) ⟨hx, hb, hml, hown, hts⟩ (c_X9_stillOpen l D cT H.size a b T P n kp hn hI hpr hkp) (cwV 1 hts gX9_settle_X9_stillOpen rfl rfl rfl (by decide +kernel) ⟨Nat.le_of_ble_eq_true rfl, Nat.le_of_ble_eq_true rfl⟩) hE hP hD hS hA 0 9 ofl_0 rfl rfl rfl hl.1 rfl (Nat.le_of_ble_eq_true rfl) dX9_settle_11 ⟨Nat.le_of_ble_eq_true rfl, Nat.le_of_ble_eq_true rfl⟩ (fun H locs hB hz1 hk1 hS => ?_)
    obtain ⟨PS, hpS, hP, hD1⟩ := hB
    have hD := hD1.weaken (fun _ q _ h => hF q.1 h)
    refine lv_istore_n (lv' := [(2, .int (duS T n (nI kp) (n 1))), (0, .ref (a 0)), (1, .int (nI kp))]) hx hb dX9_settle_14 rfl hl (by decide) rfl (fun ls hl => ?_)
    refine lv_aload_n hx hb dX9_settle_15 rfl (lv_at hl 1 rfl) ?_
    refine va_get (D := D) (ci := 9) (v := .ref (a 18)) (C := RX9) (T := TX9) (N := 7) hx hb hts hiX9 hown hE.1 hP 0 ofl_0 rfl 6 (by decide) (hts (.fieldLink RX9 48 "FindsOffice" "paidTo" "[I") (by decide +kernel)) (fun _ h9 => h9) rfl dX9_settle_16 ?_
    refine lv_iload_n hx hb dX9_settle_19 rfl (lv_at hl 2 rfl) ?_
    refine lv_dup2_11 hx hb dX9_settle_20 rfl rfl ?_
    refine my_iald (k := kp) hx hb hE.1 hP 18 0 ofl_18 rfl rfl (by omega) (by decide) dX9_settle_21 ?_
    refine lv_iload_n hx hb dX9_settle_22 rfl (lv_at hl 0 rfl) ?_
    refine lv_iadd hx hb dX9_settle_23 ?_
    refine my_iast (k := kp) hx hb hE.1 hP hD hS 18 0 ofl_18 rfl rfl (by omega) (by decide) dX9_settle_24 (fun H locs hP hD hS => ?_)
    rw [ofs_18] at hP hD
    refine lv_iload_n hx hb dX9_settle_25 rfl (lv_at hl 0 rfl) ?_
    exact rw_iret hx hb hr hlocks (duV_at hkp).symm ⟨_, _, _, _, ⟨(by rw [seT, if_pos (isT_nI hkp (by decide)), nI_clamp (by omega), duV_at hkp]), rfl, (by rw [hpS]; exact hpr)⟩, hP, hD⟩ hS (Nat.le_of_ble_eq_true rfl) (Nat.le_of_ble_eq_true rfl) dX9_settle_26
  · rw [btw29] at c_1
    refine lv_iconst (v := 0) hx hb dX9_settle_7 (by decide) ?_
    exact rw_iret hx hb hr hlocks (by rw [duV, if_neg (by rw [c_1]; decide)]) ⟨_, _, _, _, ⟨(by rw [seT, if_neg (by rw [c_1]; decide)]), rfl, hpr⟩, hP, hD⟩ hS (Nat.le_of_ble_eq_true rfl) (Nat.le_of_ble_eq_true rfl) dX9_settle_8
set_option maxHeartbeats 4000000 in
set_option maxRecDepth 100000 in
theorem c_X9_hoardsNow (l : Launch) (D : va_G) (cT : Nat → ClassId) (sz : Nat) (a : Nat → Nat) (b : Nat → Nat → Nat) (T P : Nat → Nat → Int32) (n : Nat → Nat) (hn : Cnt n) (hI : InvT T n) (hpr : PR T (P 0)) : Met l yX9_hoardsNow wsX9_hoardsNow ({ frames := 5, cells := 0, slots := 0, locals := 122 }) (va_Pc [.ref (a 0)] (PW D cT (offW cT a b T P n) sz)) (QW (some (.int (nI (hcN T n (n 1))))) ((poO D cT a b T n (fun P1 => P1 0 = P 0)) (va_A (offW cT a b T P n) sz)) (va_A (offW cT a b T P n) sz)) 0 0 (va_A (offW cT a b T P n) sz) := by
  refine RW_of (Bp := (poO D cT a b T n (fun P1 => P1 0 = P 0))) (by decide) rfl (Nat.le_of_ble_eq_true rfl) ?_
  intro p e s m below meth c A hx hb hr hts hown hlocks hin hml hE hD hA H locs hP hS ls hl
  have hiX2 : ∀ w ∈ wsX20, w ∈ wsX9_hoardsNow := by decide +kernel
  have hiX9 : ∀ w ∈ wsX90, w ∈ wsX9_hoardsNow := by decide +kernel
  have hl : lv_has ls 3 [(0, .ref (a 0))] := hl
  obtain ⟨hn0, hn1, hn2, hn3, hn4⟩ := id hn
  refine lv_aload_n hx hb dX9_hoardsNow_0 rfl (lv_at hl 0 rfl) ?_
  refine va_get (D := D) (ci := 9) (v := .ref (a 7)) (C := RX9) (T := TX9) (N := 7) hx hb hts hiX9 hown hE.1 hP 0 ofl_0 rfl 3 (by decide) (hts (.fieldLink RX9 30 "FindsOffice" "findBook" "LFindsOffice$FindBook;") (by decide +kernel)) (fun _ h9 => h9) rfl dX9_hoardsNow_1 ?_
  refine lv_aload_n hx hb dX9_hoardsNow_4 rfl (lv_at hl 0 rfl) ?_
  refine va_get (D := D) (ci := 9) (v := .int (T 0 0)) (C := RX9) (T := TX9) (N := 7) hx hb hts hiX9 hown hE.1 hP 0 ofl_0 rfl 0 (by decide) (hts (.fieldLink RX9 7 "FindsOffice" "now" "I") (by decide +kernel)) (fun _ h9 => h9) rfl dX9_hoardsNow_5 ?_
  have hF := va_allA hD hS hA
  refine rw_V0 (As := [.int (T 0 0)]) (rest := []) ⟨hx, hb, hml, hown, hts⟩ (c_X2_gatherHoards l D cT H.size a b T P n (T 0 0) hn hI hpr hI.1.2) (cwV 1 hts gX9_hoardsNow_X2_gatherHoards rfl rfl rfl (by decide +kernel) ⟨Nat.le_of_ble_eq_true rfl, Nat.le_of_ble_eq_true rfl⟩) hE hP hD hS hA 7 2 ofl_7 rfl rfl rfl hl.1 rfl (Nat.le_of_ble_eq_true rfl) dX9_hoardsNow_8 ⟨Nat.le_of_ble_eq_true rfl, Nat.le_of_ble_eq_true rfl⟩ (fun H locs hB hz1 hk1 hS => ?_)
  obtain ⟨PG, hpG, hP, hD1⟩ := hB
  have hD := hD1.weaken (fun _ q _ h => hF q.1 h)
  refine lv_iconst (v := 0) hx hb dX9_hoardsNow_11 (by decide) ?_
  refine lv_istore_n (lv' := [(1, .int 0), (0, .ref (a 0))]) hx hb dX9_hoardsNow_12 rfl hl (by decide) rfl (fun ls hl => ?_)
  refine lv_iconst (v := 0) hx hb dX9_hoardsNow_13 (by decide) ?_
  refine lv_istore_n (lv' := [(2, .int 0), (1, .int 0), (0, .ref (a 0))]) hx hb dX9_hoardsNow_14 rfl hl (by decide) rfl (fun ls hl => ?_)
  have loop_15 : ∀ (fuel_15 : Nat) (j : Nat) (v : Int32), j ≤ n 1 → v = nI (hcN T n j) → n 1 - j < fuel_15 → ∀ (H : Heap) (locs : List Loc), va_P D vwCl (offW cT a b T PG n) H → va_D A (offW cT a b T PG n) → va_S A s.heap H locs → ∀ (ls : Array Slot), lv_has ls 3 [(0, .ref (a 0)), (1, .int v), (2, .int (nI j))] → W p l e ({ frames := 5, cells := 0, slots := 0, locals := 122 }) s m (List.toArray [.ref (a 0)]) below meth c H locs 0 0 (MQ below (QW (some (.int (nI (hcN T n (n 1))))) ((poO D cT a b T n (fun P1 => P1 0 = P 0)) A) A) (List.toArray [.ref (a 0)]) s 0 0 A) (F0 m 15 ls []) := by
    intro fuel_15
    induction fuel_15 with
    | zero => intro j v hj hv hfuel_15; exact absurd hfuel_15 (Nat.not_lt_zero _)
    | succ fuel_15 ih_15 =>
      intro j v hj hv hfuel_15 H locs hP hD hS ls hl
      refine lv_iload_n hx hb dX9_hoardsNow_15 rfl (lv_at hl 2 rfl) ?_
      refine lv_aload_n hx hb dX9_hoardsNow_16 rfl (lv_at hl 0 rfl) ?_
      refine va_get (D := D) (ci := 9) (v := .ref (a 7)) (C := RX9) (T := TX9) (N := 7) hx hb hts hiX9 hown hE.1 hP 0 ofl_0 rfl 3 (by decide) (hts (.fieldLink RX9 30 "FindsOffice" "findBook" "LFindsOffice$FindBook;") (by decide +kernel)) (fun _ h9 => h9) rfl dX9_hoardsNow_17 ?_
      refine va_get (D := D) (ci := 2) (v := .int (nI (n 1))) (C := RX2) (T := TX2) (N := 7) hx hb hts hiX2 hown hE.1 hP 7 ofl_7 rfl 1 (by decide) (hts (.fieldLink RX9 198 "FindsOffice$FindBook" "told" "I") (by decide +kernel)) (fun _ h9 => h9) rfl dX9_hoardsNow_20 ?_
      refine lv_icmp_ge (tgt := 47) hx hb dX9_hoardsNow_23 (by decide) (fun c_1 => ?_) (fun c_1 => ?_)
      · have k_1 := nat_le (a := (n 1)) (b := j) c_1 (by omega) (by omega)
        refine lv_iload_n hx hb dX9_hoardsNow_47 rfl (lv_at hl 1 rfl) ?_
        exact rw_iret hx hb hr hlocks (by rw [hv, show j = n 1 by omega]) ⟨_, hpG.1, hP, hD⟩ hS (Nat.le_of_ble_eq_true rfl) (Nat.le_of_ble_eq_true rfl) dX9_hoardsNow_48
      · have k_1 := nat_nle (a := (n 1)) (b := j) c_1 (by omega) (by omega)
        refine lv_aload_n hx hb dX9_hoardsNow_26 rfl (lv_at hl 0 rfl) ?_
        refine va_get (D := D) (ci := 9) (v := .ref (a 7)) (C := RX9) (T := TX9) (N := 7) hx hb hts hiX9 hown hE.1 hP 0 ofl_0 rfl 3 (by decide) (hts (.fieldLink RX9 30 "FindsOffice" "findBook" "LFindsOffice$FindBook;") (by decide +kernel)) (fun _ h9 => h9) rfl dX9_hoardsNow_27 ?_
        refine lv_iload_n hx hb dX9_hoardsNow_30 rfl (lv_at hl 2 rfl) ?_
        refine ro_V (As := [.int (nI j)]) (rest := []) ⟨hx, hb, hml, hown, hts⟩ (c_X2_hoardNumber l D cT a b T PG n (nI j) hn) (cwV 1 hts gX9_hoardsNow_X2_hoardNumber rfl rfl rfl (by decide +kernel) ⟨Nat.le_of_ble_eq_true rfl, Nat.le_of_ble_eq_true rfl⟩) hE hP 7 2 ofl_7 rfl rfl rfl hl.1 rfl (Nat.le_of_ble_eq_true rfl) dX9_hoardsNow_31 ⟨Nat.zero_le _, Nat.zero_le _⟩ ?_
        refine lv_iload_n hx hb dX9_hoardsNow_34 rfl (lv_at hl 2 rfl) ?_
        refine lv_icmp_ne (tgt := 41) hx hb dX9_hoardsNow_35 (by decide) (fun c_2 => ?_) (fun c_2 => ?_)
        · refine lv_iinc (v := nI (j + 1)) (lv' := [(2, .int (nI (j + 1))), (0, .ref (a 0)), (1, .int v)]) hx hb dX9_hoardsNow_41 hl (k := 2) rfl (nI_1 _) (by decide) rfl (fun ls hl => ?_)
          refine lv_goto (tgt := 15) hx hb dX9_hoardsNow_44 (by decide) ?_
          exact ih_15 (j + 1) _ (by omega) (by rw [gh_ho hn1 hI hpG.2] at c_2; subst hv; simp [hcN, nI_1, c_2]) (by omega) H locs hP hD hS ls (lv_sub hl [1, 2, 0] rfl)
        · refine lv_iinc (v := v + 1) (lv' := [(1, .int (v + 1)), (0, .ref (a 0)), (2, .int (nI j))]) hx hb dX9_hoardsNow_38 hl (k := 1) rfl (rfl) (by decide) rfl (fun ls hl => ?_)
          refine lv_iinc (v := nI (j + 1)) (lv' := [(2, .int (nI (j + 1))), (1, .int (v + 1)), (0, .ref (a 0))]) hx hb dX9_hoardsNow_41 hl (k := 2) rfl (nI_1 _) (by decide) rfl (fun ls hl => ?_)
          refine lv_goto (tgt := 15) hx hb dX9_hoardsNow_44 (by decide) ?_
          exact ih_15 (j + 1) _ (by omega) (by rw [gh_ho hn1 hI hpG.2] at c_2; subst hv; simp [hcN, nI_1, c_2]) (by omega) H locs hP hD hS ls (lv_sub hl [2, 1, 0] rfl)
  exact loop_15 _ 0 0 (by omega) rfl (Nat.lt_succ_self _) H locs hP hD hS ls (lv_sub hl [2, 1, 0] rfl)
set_option maxHeartbeats 4000000 in
set_option maxRecDepth 100000 in
theorem c_X9_treasuresNow (l : Launch) (D : va_G) (cT : Nat → ClassId) (sz : Nat) (a : Nat → Nat) (b : Nat → Nat → Nat) (T P : Nat → Nat → Int32) (n : Nat → Nat) (hn : Cnt n) (hI : InvT T n) (hpr : PR T (P 0)) : Met l yX9_treasuresNow wsX9_treasuresNow ({ frames := 5, cells := 0, slots := 0, locals := 122 }) (va_Pc [.ref (a 0)] (PW D cT (offW cT a b T P n) sz)) (QW (some (.int (nI (tcN T n (n 1))))) ((poO D cT a b T n (fun P1 => P1 0 = P 0)) (va_A (offW cT a b T P n) sz)) (va_A (offW cT a b T P n) sz)) 0 0 (va_A (offW cT a b T P n) sz) := by
  refine RW_of (Bp := (poO D cT a b T n (fun P1 => P1 0 = P 0))) (by decide) rfl (Nat.le_of_ble_eq_true rfl) ?_
  intro p e s m below meth c A hx hb hr hts hown hlocks hin hml hE hD hA H locs hP hS ls hl
  have hiX2 : ∀ w ∈ wsX20, w ∈ wsX9_treasuresNow := by decide +kernel
  have hiX9 : ∀ w ∈ wsX90, w ∈ wsX9_treasuresNow := by decide +kernel
  have hl : lv_has ls 3 [(0, .ref (a 0))] := hl
  obtain ⟨hn0, hn1, hn2, hn3, hn4⟩ := id hn
  refine lv_aload_n hx hb dX9_treasuresNow_0 rfl (lv_at hl 0 rfl) ?_
  refine va_get (D := D) (ci := 9) (v := .ref (a 7)) (C := RX9) (T := TX9) (N := 7) hx hb hts hiX9 hown hE.1 hP 0 ofl_0 rfl 3 (by decide) (hts (.fieldLink RX9 30 "FindsOffice" "findBook" "LFindsOffice$FindBook;") (by decide +kernel)) (fun _ h9 => h9) rfl dX9_treasuresNow_1 ?_
  refine lv_aload_n hx hb dX9_treasuresNow_4 rfl (lv_at hl 0 rfl) ?_
  refine va_get (D := D) (ci := 9) (v := .int (T 0 0)) (C := RX9) (T := TX9) (N := 7) hx hb hts hiX9 hown hE.1 hP 0 ofl_0 rfl 0 (by decide) (hts (.fieldLink RX9 7 "FindsOffice" "now" "I") (by decide +kernel)) (fun _ h9 => h9) rfl dX9_treasuresNow_5 ?_
  have hF := va_allA hD hS hA
  refine rw_V0 (As := [.int (T 0 0)]) (rest := []) ⟨hx, hb, hml, hown, hts⟩ (c_X2_gatherHoards l D cT H.size a b T P n (T 0 0) hn hI hpr hI.1.2) (cwV 1 hts gX9_treasuresNow_X2_gatherHoards rfl rfl rfl (by decide +kernel) ⟨Nat.le_of_ble_eq_true rfl, Nat.le_of_ble_eq_true rfl⟩) hE hP hD hS hA 7 2 ofl_7 rfl rfl rfl hl.1 rfl (Nat.le_of_ble_eq_true rfl) dX9_treasuresNow_8 ⟨Nat.le_of_ble_eq_true rfl, Nat.le_of_ble_eq_true rfl⟩ (fun H locs hB hz1 hk1 hS => ?_)
  obtain ⟨PG, hpG, hP, hD1⟩ := hB
  have hD := hD1.weaken (fun _ q _ h => hF q.1 h)
  refine lv_iconst (v := 0) hx hb dX9_treasuresNow_11 (by decide) ?_
  refine lv_istore_n (lv' := [(1, .int 0), (0, .ref (a 0))]) hx hb dX9_treasuresNow_12 rfl hl (by decide) rfl (fun ls hl => ?_)
  refine lv_iconst (v := 0) hx hb dX9_treasuresNow_13 (by decide) ?_
  refine lv_istore_n (lv' := [(2, .int 0), (1, .int 0), (0, .ref (a 0))]) hx hb dX9_treasuresNow_14 rfl hl (by decide) rfl (fun ls hl => ?_)
  have loop_15 : ∀ (fuel_15 : Nat) (j : Nat) (v : Int32), j ≤ n 1 → v = nI (tcN T n j) → n 1 - j < fuel_15 → ∀ (H : Heap) (locs : List Loc), va_P D vwCl (offW cT a b T PG n) H → va_D A (offW cT a b T PG n) → va_S A s.heap H locs → ∀ (ls : Array Slot), lv_has ls 3 [(0, .ref (a 0)), (1, .int v), (2, .int (nI j))] → W p l e ({ frames := 5, cells := 0, slots := 0, locals := 122 }) s m (List.toArray [.ref (a 0)]) below meth c H locs 0 0 (MQ below (QW (some (.int (nI (tcN T n (n 1))))) ((poO D cT a b T n (fun P1 => P1 0 = P 0)) A) A) (List.toArray [.ref (a 0)]) s 0 0 A) (F0 m 15 ls []) := by
    intro fuel_15
    induction fuel_15 with
    | zero => intro j v hj hv hfuel_15; exact absurd hfuel_15 (Nat.not_lt_zero _)
    | succ fuel_15 ih_15 =>
      intro j v hj hv hfuel_15 H locs hP hD hS ls hl
      refine lv_iload_n hx hb dX9_treasuresNow_15 rfl (lv_at hl 2 rfl) ?_
      refine lv_aload_n hx hb dX9_treasuresNow_16 rfl (lv_at hl 0 rfl) ?_
      refine va_get (D := D) (ci := 9) (v := .ref (a 7)) (C := RX9) (T := TX9) (N := 7) hx hb hts hiX9 hown hE.1 hP 0 ofl_0 rfl 3 (by decide) (hts (.fieldLink RX9 30 "FindsOffice" "findBook" "LFindsOffice$FindBook;") (by decide +kernel)) (fun _ h9 => h9) rfl dX9_treasuresNow_17 ?_
      refine va_get (D := D) (ci := 2) (v := .int (nI (n 1))) (C := RX2) (T := TX2) (N := 7) hx hb hts hiX2 hown hE.1 hP 7 ofl_7 rfl 1 (by decide) (hts (.fieldLink RX9 198 "FindsOffice$FindBook" "told" "I") (by decide +kernel)) (fun _ h9 => h9) rfl dX9_treasuresNow_20 ?_
      refine lv_icmp_ge (tgt := 43) hx hb dX9_treasuresNow_23 (by decide) (fun c_1 => ?_) (fun c_1 => ?_)
      · have k_1 := nat_le (a := (n 1)) (b := j) c_1 (by omega) (by omega)
        refine lv_iload_n hx hb dX9_treasuresNow_43 rfl (lv_at hl 1 rfl) ?_
        exact rw_iret hx hb hr hlocks (by rw [hv, show j = n 1 by omega]) ⟨_, hpG.1, hP, hD⟩ hS (Nat.le_of_ble_eq_true rfl) (Nat.le_of_ble_eq_true rfl) dX9_treasuresNow_44
      · have k_1 := nat_nle (a := (n 1)) (b := j) c_1 (by omega) (by omega)
        refine lv_aload_n hx hb dX9_treasuresNow_26 rfl (lv_at hl 0 rfl) ?_
        refine lv_iload_n hx hb dX9_treasuresNow_27 rfl (lv_at hl 2 rfl) ?_
        refine ro_V (As := [.int (nI j)]) (rest := []) ⟨hx, hb, hml, hown, hts⟩ (c_X9_lawThatCounts l D cT a b T PG n (nI j) hn) (cwV 1 hts gX9_treasuresNow_X9_lawThatCounts rfl rfl rfl (by decide +kernel) ⟨Nat.le_of_ble_eq_true rfl, Nat.le_of_ble_eq_true rfl⟩) hE hP 0 9 ofl_0 rfl rfl rfl hl.1 rfl (Nat.le_of_ble_eq_true rfl) dX9_treasuresNow_28 ⟨Nat.zero_le _, Nat.zero_le _⟩ ?_
        rcases ho2 : (lctO T PG n (nI j)) with _ | q2
        · refine topv_eq (y := .null) rfl ?_
          refine lv_ifnullN (tgt := 37) hx hb dX9_treasuresNow_31 (by decide) ?_
          refine lv_iinc (v := nI (j + 1)) (lv' := [(2, .int (nI (j + 1))), (0, .ref (a 0)), (1, .int v)]) hx hb dX9_treasuresNow_37 hl (k := 2) rfl (nI_1 _) (by decide) rfl (fun ls hl => ?_)
          refine lv_goto (tgt := 15) hx hb dX9_treasuresNow_40 (by decide) ?_
          exact ih_15 (j + 1) _ (by omega) (by subst hv; simp [tcN, nI_1, ← gh_cd hn1 (now_btw hI) hpG.2, ho2]) (by omega) H locs hP hD hS ls (lv_sub hl [1, 2, 0] rfl)
        · refine topv_eq (y := .ref (b 0 q2)) rfl ?_
          have hq2 := lctO_lt ho2
          refine lv_ifnull hx hb dX9_treasuresNow_31 ?_
          refine lv_iinc (v := v + 1) (lv' := [(1, .int (v + 1)), (0, .ref (a 0)), (2, .int (nI j))]) hx hb dX9_treasuresNow_34 hl (k := 1) rfl (rfl) (by decide) rfl (fun ls hl => ?_)
          refine lv_iinc (v := nI (j + 1)) (lv' := [(2, .int (nI (j + 1))), (1, .int (v + 1)), (0, .ref (a 0))]) hx hb dX9_treasuresNow_37 hl (k := 2) rfl (nI_1 _) (by decide) rfl (fun ls hl => ?_)
          refine lv_goto (tgt := 15) hx hb dX9_treasuresNow_40 (by decide) ?_
          exact ih_15 (j + 1) _ (by omega) (by subst hv; simp [tcN, nI_1, ← gh_cd hn1 (now_btw hI) hpG.2, ho2]) (by omega) H locs hP hD hS ls (lv_sub hl [2, 1, 0] rfl)
  exact loop_15 _ 0 0 (by omega) rfl (Nat.lt_succ_self _) H locs hP hD hS ls (lv_sub hl [2, 1, 0] rfl)
set_option maxHeartbeats 4000000 in
set_option maxRecDepth 100000 in
theorem c_X9_count (l : Launch) (D : va_G) (cT : Nat → ClassId) (sz : Nat) (a : Nat → Nat) (b : Nat → Nat → Nat) (T P : Nat → Nat → Int32) (n : Nat → Nat) (what : Int32) (hn : Cnt n) (hI : InvT T n) (hpr : PR T (P 0)) : Met l yX9_count wsX9_count ({ frames := 6, cells := 0, slots := 0, locals := 144 }) (va_Pc [.ref (a 0), .int what] (PW D cT (offW cT a b T P n) sz)) (QW (some (.int (coV T n what))) ((poQ D cT a T n) (va_A (offW cT a b T P n) sz)) (va_A (offW cT a b T P n) sz)) 0 0 (va_A (offW cT a b T P n) sz) := by
  refine RW_of (Bp := (poQ D cT a T n)) (by decide) rfl (Nat.le_of_ble_eq_true rfl) ?_
  intro p e s m below meth c A hx hb hr hts hown hlocks hin hml hE hD hA H locs hP hS ls hl
  have hiX0 : ∀ w ∈ wsX00, w ∈ wsX9_count := by decide +kernel
  have hiX2 : ∀ w ∈ wsX20, w ∈ wsX9_count := by decide +kernel
  have hiX5 : ∀ w ∈ wsX50, w ∈ wsX9_count := by decide +kernel
  have hiX6 : ∀ w ∈ wsX60, w ∈ wsX9_count := by decide +kernel
  have hiX9 : ∀ w ∈ wsX90, w ∈ wsX9_count := by decide +kernel
  have hl : lv_has ls 2 [(0, .ref (a 0)), (1, .int what)] := hl
  obtain ⟨hn0, hn1, hn2, hn3, hn4⟩ := id hn
  refine lv_iload_n hx hb dX9_count_0 rfl (lv_at hl 1 rfl) ?_
  rcases pk_ix what (n := 9) (by decide) with hsw | hsw | ⟨jsw, hjsw, rfl⟩
  · refine lv_tableOut (tgt := 115) hx hb dX9_count_1 (Or.inl (tsw_lo hsw)) (by decide) ?_
    refine lv_iconst (v := (-1)) hx hb dX9_count_115 (by decide) ?_
    exact rw_iret hx hb hr hlocks (by first | exact (coV_lo hsw).symm | exact (coV_hi hsw).symm) ⟨_, _, _, _, ⟨rfl, rfl, hpr⟩, hP, hD⟩ hS (Nat.le_of_ble_eq_true rfl) (Nat.le_of_ble_eq_true rfl) dX9_count_116
  · refine lv_tableOut (tgt := 115) hx hb dX9_count_1 (Or.inr (tsw_hi (n := 8) hsw (by decide))) (by decide) ?_
    refine lv_iconst (v := (-1)) hx hb dX9_count_115 (by decide) ?_
    exact rw_iret hx hb hr hlocks (by first | exact (coV_lo hsw).symm | exact (coV_hi hsw).symm) ⟨_, _, _, _, ⟨rfl, rfl, hpr⟩, hP, hD⟩ hS (Nat.le_of_ble_eq_true rfl) (Nat.le_of_ble_eq_true rfl) dX9_count_116
  · rcases (show jsw = 0 ∨ jsw = 1 ∨ jsw = 2 ∨ jsw = 3 ∨ jsw = 4 ∨ jsw = 5 ∨ jsw = 6 ∨ jsw = 7 ∨ jsw = 8 by omega) with rfl | rfl | rfl | rfl | rfl | rfl | rfl | rfl | rfl
    · refine lv_tableIn (x := nI 0) (off := 51) (tgt := 52) hx hb dX9_count_1 (by decide) (by decide) rfl (by decide) ?_
      refine lv_aload_n hx hb dX9_count_52 rfl (lv_at hl 0 rfl) ?_
      refine va_get (D := D) (ci := 9) (v := .int (T 0 0)) (C := RX9) (T := TX9) (N := 7) hx hb hts hiX9 hown hE.1 hP 0 ofl_0 rfl 0 (by decide) (hts (.fieldLink RX9 7 "FindsOffice" "now" "I") (by decide +kernel)) (fun _ h9 => h9) rfl dX9_count_53 ?_
      exact rw_iret hx hb hr hlocks rfl ⟨_, _, _, _, ⟨rfl, rfl, hpr⟩, hP, hD⟩ hS (Nat.le_of_ble_eq_true rfl) (Nat.le_of_ble_eq_true rfl) dX9_count_56
    · refine lv_tableIn (x := nI 1) (off := 56) (tgt := 57) hx hb dX9_count_1 (by decide) (by decide) rfl (by decide) ?_
      refine lv_aload_n hx hb dX9_count_57 rfl (lv_at hl 0 rfl) ?_
      refine va_get (D := D) (ci := 9) (v := .ref (a 7)) (C := RX9) (T := TX9) (N := 7) hx hb hts hiX9 hown hE.1 hP 0 ofl_0 rfl 3 (by decide) (hts (.fieldLink RX9 30 "FindsOffice" "findBook" "LFindsOffice$FindBook;") (by decide +kernel)) (fun _ h9 => h9) rfl dX9_count_58 ?_
      refine va_get (D := D) (ci := 2) (v := .int (nI (n 1))) (C := RX2) (T := TX2) (N := 7) hx hb hts hiX2 hown hE.1 hP 7 ofl_7 rfl 1 (by decide) (hts (.fieldLink RX9 198 "FindsOffice$FindBook" "told" "I") (by decide +kernel)) (fun _ h9 => h9) rfl dX9_count_61 ?_
      exact rw_iret hx hb hr hlocks rfl ⟨_, _, _, _, ⟨rfl, rfl, hpr⟩, hP, hD⟩ hS (Nat.le_of_ble_eq_true rfl) (Nat.le_of_ble_eq_true rfl) dX9_count_64
    · refine lv_tableIn (x := nI 2) (off := 64) (tgt := 65) hx hb dX9_count_1 (by decide) (by decide) rfl (by decide) ?_
      refine lv_aload_n hx hb dX9_count_65 rfl (lv_at hl 0 rfl) ?_
      have hF := va_allA hD hS hA
      refine rw_V1 (As := []) (rest := []) ⟨hx, hb, hml, hown, hts⟩ (c_X9_hoardsNow l D cT H.size a b T P n hn hI hpr) (cwV 0 hts gX9_count_X9_hoardsNow rfl rfl rfl (by decide +kernel) ⟨Nat.le_of_ble_eq_true rfl, Nat.le_of_ble_eq_true rfl⟩) hE hP hD hS hA 0 9 ofl_0 rfl rfl rfl hl.1 rfl (Nat.le_of_ble_eq_true rfl) dX9_count_66 ⟨Nat.le_of_ble_eq_true rfl, Nat.le_of_ble_eq_true rfl⟩ (fun H locs hB hz1 hk1 hS => ?_)
      obtain ⟨PS, hpS, hP, hD1⟩ := hB
      have hD := hD1.weaken (fun _ q _ h => hF q.1 h)
      exact rw_iret hx hb hr hlocks rfl ⟨_, _, _, _, ⟨rfl, rfl, by rw [hpS]; exact hpr⟩, hP, hD⟩ hS (Nat.le_of_ble_eq_true rfl) (Nat.le_of_ble_eq_true rfl) dX9_count_69
    · refine lv_tableIn (x := nI 3) (off := 69) (tgt := 70) hx hb dX9_count_1 (by decide) (by decide) rfl (by decide) ?_
      refine lv_aload_n hx hb dX9_count_70 rfl (lv_at hl 0 rfl) ?_
      refine va_get (D := D) (ci := 9) (v := .ref (a 1)) (C := RX9) (T := TX9) (N := 7) hx hb hts hiX9 hown hE.1 hP 0 ofl_0 rfl 1 (by decide) (hts (.fieldLink RX9 16 "FindsOffice" "lawBook" "LFindsOffice$LawBook;") (by decide +kernel)) (fun _ h9 => h9) rfl dX9_count_71 ?_
      refine va_get (D := D) (ci := 5) (v := .int (nI (n 0))) (C := RX5) (T := TX5) (N := 2) hx hb hts hiX5 hown hE.1 hP 1 ofl_1 rfl 1 (by decide) (hts (.fieldLink RX9 205 "FindsOffice$LawBook" "told" "I") (by decide +kernel)) (fun _ h9 => h9) rfl dX9_count_74 ?_
      exact rw_iret hx hb hr hlocks rfl ⟨_, _, _, _, ⟨rfl, rfl, hpr⟩, hP, hD⟩ hS (Nat.le_of_ble_eq_true rfl) (Nat.le_of_ble_eq_true rfl) dX9_count_77
    · refine lv_tableIn (x := nI 4) (off := 77) (tgt := 78) hx hb dX9_count_1 (by decide) (by decide) rfl (by decide) ?_
      refine lv_aload_n hx hb dX9_count_78 rfl (lv_at hl 0 rfl) ?_
      refine va_get (D := D) (ci := 9) (v := .ref (a 13)) (C := RX9) (T := TX9) (N := 7) hx hb hts hiX9 hown hE.1 hP 0 ofl_0 rfl 4 (by decide) (hts (.fieldLink RX9 37 "FindsOffice" "market" "LFindsOffice$Market;") (by decide +kernel)) (fun _ h9 => h9) rfl dX9_count_79 ?_
      refine va_get (D := D) (ci := 6) (v := .int (nI (n 2))) (C := RX6) (T := TX6) (N := 3) hx hb hts hiX6 hown hE.1 hP 13 ofl_13 rfl 1 (by decide) (hts (.fieldLink RX9 206 "FindsOffice$Market" "told" "I") (by decide +kernel)) (fun _ h9 => h9) rfl dX9_count_82 ?_
      exact rw_iret hx hb hr hlocks rfl ⟨_, _, _, _, ⟨rfl, rfl, hpr⟩, hP, hD⟩ hS (Nat.le_of_ble_eq_true rfl) (Nat.le_of_ble_eq_true rfl) dX9_count_85
    · refine lv_tableIn (x := nI 5) (off := 85) (tgt := 86) hx hb dX9_count_1 (by decide) (by decide) rfl (by decide) ?_
      refine lv_aload_n hx hb dX9_count_86 rfl (lv_at hl 0 rfl) ?_
      refine va_get (D := D) (ci := 9) (v := .ref (a 16)) (C := RX9) (T := TX9) (N := 7) hx hb hts hiX9 hown hE.1 hP 0 ofl_0 rfl 5 (by decide) (hts (.fieldLink RX9 44 "FindsOffice" "circle" "LFindsOffice$Circle;") (by decide +kernel)) (fun _ h9 => h9) rfl dX9_count_87 ?_
      refine va_get (D := D) (ci := 0) (v := .int (nI (n 3))) (C := RX0) (T := TX0) (N := 3) hx hb hts hiX0 hown hE.1 hP 16 ofl_16 rfl 1 (by decide) (hts (.fieldLink RX9 207 "FindsOffice$Circle" "told" "I") (by decide +kernel)) (fun _ h9 => h9) rfl dX9_count_90 ?_
      exact rw_iret hx hb hr hlocks rfl ⟨_, _, _, _, ⟨rfl, rfl, hpr⟩, hP, hD⟩ hS (Nat.le_of_ble_eq_true rfl) (Nat.le_of_ble_eq_true rfl) dX9_count_93
    · refine lv_tableIn (x := nI 6) (off := 93) (tgt := 94) hx hb dX9_count_1 (by decide) (by decide) rfl (by decide) ?_
      refine lv_aload_n hx hb dX9_count_94 rfl (lv_at hl 0 rfl) ?_
      refine va_get (D := D) (ci := 9) (v := .ref (a 7)) (C := RX9) (T := TX9) (N := 7) hx hb hts hiX9 hown hE.1 hP 0 ofl_0 rfl 3 (by decide) (hts (.fieldLink RX9 30 "FindsOffice" "findBook" "LFindsOffice$FindBook;") (by decide +kernel)) (fun _ h9 => h9) rfl dX9_count_95 ?_
      refine va_get (D := D) (ci := 2) (v := .int (T 14 0)) (C := RX2) (T := TX2) (N := 7) hx hb hts hiX2 hown hE.1 hP 7 ofl_7 rfl 3 (by decide) (hts (.fieldLink RX9 208 "FindsOffice$FindBook" "pairsParted" "I") (by decide +kernel)) (fun _ h9 => h9) rfl dX9_count_98 ?_
      exact rw_iret hx hb hr hlocks rfl ⟨_, _, _, _, ⟨rfl, rfl, hpr⟩, hP, hD⟩ hS (Nat.le_of_ble_eq_true rfl) (Nat.le_of_ble_eq_true rfl) dX9_count_101
    · refine lv_tableIn (x := nI 7) (off := 101) (tgt := 102) hx hb dX9_count_1 (by decide) (by decide) rfl (by decide) ?_
      refine lv_aload_n hx hb dX9_count_102 rfl (lv_at hl 0 rfl) ?_
      have hF := va_allA hD hS hA
      refine rw_V1 (As := []) (rest := []) ⟨hx, hb, hml, hown, hts⟩ (c_X9_treasuresNow l D cT H.size a b T P n hn hI hpr) (cwV 0 hts gX9_count_X9_treasuresNow rfl rfl rfl (by decide +kernel) ⟨Nat.le_of_ble_eq_true rfl, Nat.le_of_ble_eq_true rfl⟩) hE hP hD hS hA 0 9 ofl_0 rfl rfl rfl hl.1 rfl (Nat.le_of_ble_eq_true rfl) dX9_count_103 ⟨Nat.le_of_ble_eq_true rfl, Nat.le_of_ble_eq_true rfl⟩ (fun H locs hB hz1 hk1 hS => ?_)
      obtain ⟨PS, hpS, hP, hD1⟩ := hB
      have hD := hD1.weaken (fun _ q _ h => hF q.1 h)
      exact rw_iret hx hb hr hlocks rfl ⟨_, _, _, _, ⟨rfl, rfl, by rw [hpS]; exact hpr⟩, hP, hD⟩ hS (Nat.le_of_ble_eq_true rfl) (Nat.le_of_ble_eq_true rfl) dX9_count_106
    · refine lv_tableIn (x := nI 8) (off := 106) (tgt := 107) hx hb dX9_count_1 (by decide) (by decide) rfl (by decide) ?_
      refine lv_aload_n hx hb dX9_count_107 rfl (lv_at hl 0 rfl) ?_
      refine va_get (D := D) (ci := 9) (v := .ref (a 16)) (C := RX9) (T := TX9) (N := 7) hx hb hts hiX9 hown hE.1 hP 0 ofl_0 rfl 5 (by decide) (hts (.fieldLink RX9 44 "FindsOffice" "circle" "LFindsOffice$Circle;") (by decide +kernel)) (fun _ h9 => h9) rfl dX9_count_108 ?_
      refine ro_V (As := []) (rest := []) ⟨hx, hb, hml, hown, hts⟩ (c_X0_next l D cT a b T P n hn) (cwV 0 hts gX9_count_X0_next rfl rfl rfl (by decide +kernel) ⟨Nat.le_of_ble_eq_true rfl, Nat.le_of_ble_eq_true rfl⟩) hE hP 16 0 ofl_16 rfl rfl rfl hl.1 rfl (Nat.le_of_ble_eq_true rfl) dX9_count_111 ⟨Nat.zero_le _, Nat.zero_le _⟩ ?_
      exact rw_iret hx hb hr hlocks rfl ⟨_, _, _, _, ⟨rfl, rfl, hpr⟩, hP, hD⟩ hS (Nat.le_of_ble_eq_true rfl) (Nat.le_of_ble_eq_true rfl) dX9_count_114
set_option maxHeartbeats 4000000 in
set_option maxRecDepth 100000 in
theorem c_X9_go (l : Launch) (D : va_G) (cT : Nat → ClassId) (sz : Nat) (a : Nat → Nat) (b : Nat → Nat → Nat) (T P : Nat → Nat → Int32) (n : Nat → Nat) (d : Int32) (hn : Cnt n) (hI : InvT T n) (hpr : PR T (P 0)) : Met l yX9_go wsX9_go ({ frames := 1, cells := 0, slots := 0, locals := 23 }) (va_Pc [.ref (a 0), .int d] (PW D cT (offW cT a b T P n) sz)) (QW (some (.int (goV T d))) ((poQ D cT a (goT T d) n) (va_A (offW cT a b T P n) sz)) (va_A (offW cT a b T P n) sz)) 0 0 (va_A (offW cT a b T P n) sz) := by
  refine RW_of (Bp := (poQ D cT a (goT T d) n)) (by decide) rfl (Nat.le_of_ble_eq_true rfl) ?_
  intro p e s m below meth c A hx hb hr hts hown hlocks hin hml hE hD hA H locs hP hS ls hl
  have hiX9 : ∀ w ∈ wsX90, w ∈ wsX9_go := by decide +kernel
  have hl : lv_has ls 2 [(0, .ref (a 0)), (1, .int d)] := hl
  obtain ⟨hn0, hn1, hn2, hn3, hn4⟩ := id hn
  refine lv_iload_n hx hb dX9_go_0 rfl (lv_at hl 1 rfl) ?_
  refine lv_iconst (v := 0) hx hb dX9_go_1 (by decide) ?_
  refine lv_sipush (v := 20000) hx hb dX9_go_2 (by decide) ?_
  refine ro_S (As := [.int d, .int 0, .int 20000]) (rest := []) ⟨hx, hb, hml, hown, hts⟩ (c_X9_isBetween l D cT d 0 20000 ) (va_cwS 3 hts gX9_go_X9_isBetween rfl rfl rfl (by decide +kernel) ⟨Nat.le_of_ble_eq_true rfl, Nat.le_of_ble_eq_true rfl⟩) hE va_P_nil  rfl hl.1 rfl (Nat.le_of_ble_eq_true rfl) dX9_go_5 ⟨Nat.zero_le _, Nat.zero_le _⟩ ?_
  refine bi_ne (tgt := 13) hx hb dX9_go_8 (by decide) (fun c_1 => ?_) (fun c_1 => ?_)
  · refine lv_aload_n hx hb dX9_go_13 rfl (lv_at hl 0 rfl) ?_
    refine lv_aload_n hx hb dX9_go_14 rfl (lv_at hl 0 rfl) ?_
    refine va_get (D := D) (ci := 9) (v := .int (T 0 0)) (C := RX9) (T := TX9) (N := 7) hx hb hts hiX9 hown hE.1 hP 0 ofl_0 rfl 0 (by decide) (hts (.fieldLink RX9 7 "FindsOffice" "now" "I") (by decide +kernel)) (fun _ h9 => h9) rfl dX9_go_15 ?_
    refine lv_iload_n hx hb dX9_go_18 rfl (lv_at hl 1 rfl) ?_
    refine lv_iadd hx hb dX9_go_19 ?_
    refine lv_sipush (v := 20000) hx hb dX9_go_20 (by decide) ?_
    refine va_mmin hx hb (hml.trans hl.1.symm) hown (hts (.methodLink RX9 56 Lib.Math.min.name) (by decide +kernel)) (hts (.static Lib.Math.min.name) (by decide +kernel)) (hts (.initialized "java/lang/Math") (by decide +kernel)) (hts (.code Lib.Math.min.name Lib.Math.min.code 2 (some .int)) (by decide +kernel)) (Nat.le_of_ble_eq_true rfl) (Nat.le_of_ble_eq_true rfl) (Nat.zero_le _) (Nat.zero_le _) dX9_go_23 ?_
    refine va_put (D := D) (ci := 9) (v := .int (if 20000 < ((T 0 0) + d) then 20000 else ((T 0 0) + d))) (ty := .int) (C := RX9) (T := TX9) (N := 7) hx hb hts hiX9 tyX9 tyX9_ok nmX9 hown hE.1 hP hD hS 0 ofl_0 rfl 0 (by decide) (hts (.fieldLink RX9 7 "FindsOffice" "now" "I") (by decide +kernel)) (fun _ h9 => h9) rfl (by decide +kernel) rfl rfl (Nat.le_of_ble_eq_true rfl) dX9_go_26 (fun H locs hP hD hS => ?_)
    rw [ofp_0_0] at hP hD
    refine lv_aload_n hx hb dX9_go_29 rfl (lv_at hl 0 rfl) ?_
    refine va_get (D := D) (ci := 9) (v := .int ((va_up T 0 (fun _ => if 20000 < ((T 0 0) + d) then 20000 else ((T 0 0) + d))) 0 0)) (C := RX9) (T := TX9) (N := 7) hx hb hts hiX9 hown hE.1 hP 0 ofl_0 rfl 0 (by decide) (hts (.fieldLink RX9 7 "FindsOffice" "now" "I") (by decide +kernel)) (fun _ h9 => h9) rfl dX9_go_30 ?_
    exact rw_iret hx hb hr hlocks (by rw [goV, if_pos c_1]; rfl) ⟨_, _, (va_up T 0 (fun _ => if 20000 < ((T 0 0) + d) then 20000 else ((T 0 0) + d))), _, ⟨(by rw [goT, if_pos c_1]), rfl, hpr⟩, hP, hD⟩ hS (Nat.le_of_ble_eq_true rfl) (Nat.le_of_ble_eq_true rfl) dX9_go_33
  · refine lv_iconst (v := (-1)) hx hb dX9_go_11 (by decide) ?_
    exact rw_iret hx hb hr hlocks (by simp [goV, c_1]) ⟨_, _, _, _, ⟨(by simp [goT, c_1]), rfl, hpr⟩, hP, hD⟩ hS (Nat.le_of_ble_eq_true rfl) (Nat.le_of_ble_eq_true rfl) dX9_go_12
set_option maxHeartbeats 4000000 in
set_option maxRecDepth 100000 in
theorem c_X2_separate (l : Launch) (D : va_G) (cT : Nat → ClassId) (sz : Nat) (a : Nat → Nat) (b : Nat → Nat → Nat) (T P : Nat → Nat → Int32) (n : Nat → Nat) (i j : Int32) (hn : Cnt n) (hI : InvT T n) (hpr : PR T (P 0)) : Met l yX2_separate wsX2_separate ({ frames := 2, cells := 0, slots := 0, locals := 46 }) (va_Pc [.ref (a 7), .int i, .int j, .int (T 0 0)] (PW D cT (offW cT a b T P n) sz)) (QW (some (.int (b2 (paB T n i j)))) ((poQ D cT a (if paB T n i j = true then paT T i.toNatClampNeg j.toNatClampNeg else T) n) (va_A (offW cT a b T P n) sz)) (va_A (offW cT a b T P n) sz)) 0 0 (va_A (offW cT a b T P n) sz) := by
  refine RW_of (Bp := (poQ D cT a (if paB T n i j = true then paT T i.toNatClampNeg j.toNatClampNeg else T) n)) (by decide) rfl (Nat.le_of_ble_eq_true rfl) ?_
  intro p e s m below meth c A hx hb hr hts hown hlocks hin hml hE hD hA H locs hP hS ls hl
  have hiX2 : ∀ w ∈ wsX20, w ∈ wsX2_separate := by decide +kernel
  have hl : lv_has ls 5 [(0, .ref (a 7)), (1, .int i), (2, .int j), (3, .int (T 0 0))] := hl
  obtain ⟨hn0, hn1, hn2, hn3, hn4⟩ := id hn
  refine lv_aload_n hx hb dX2_separate_0 rfl (lv_at hl 0 rfl) ?_
  refine lv_iload_n hx hb dX2_separate_1 rfl (lv_at hl 1 rfl) ?_
  refine lv_iload_n hx hb dX2_separate_2 rfl (lv_at hl 2 rfl) ?_
  refine ro_V (As := [.int i, .int j]) (rest := []) ⟨hx, hb, hml, hown, hts⟩ (c_X2_pairOf l D cT a b T P n i j hn) (cwV 2 hts gX2_separate_X2_pairOf rfl rfl rfl (by decide +kernel) ⟨Nat.le_of_ble_eq_true rfl, Nat.le_of_ble_eq_true rfl⟩) hE hP 7 2 ofl_7 rfl rfl rfl hl.1 rfl (Nat.le_of_ble_eq_true rfl) dX2_separate_3 ⟨Nat.zero_le _, Nat.zero_le _⟩ ?_
  refine lv_istore (lv' := [(4, .int (prV (n 1) i j)), (0, .ref (a 7)), (1, .int i), (2, .int j), (3, .int (T 0 0))]) hx hb dX2_separate_6 hl (by decide) rfl (fun ls hl => ?_)
  refine lv_iload hx hb dX2_separate_8 (lv_at hl 0 rfl) ?_
  refine lv_iconst (v := (-1)) hx hb dX2_separate_10 (by decide) ?_
  refine lv_icmp_eq (tgt := 25) hx hb dX2_separate_11 (by decide) (fun c_1 => ?_) (fun c_1 => ?_)
  · refine lv_iconst (v := 0) hx hb dX2_separate_25 (by decide) ?_
    exact rw_zret hx hb hr hlocks (by rw [paB_no (prV_m1 hn1 c_1)]; rfl) ⟨_, _, _, _, ⟨(by rw [if_neg (by rw [paB_no (prV_m1 hn1 c_1)]; decide)]), rfl, hpr⟩, hP, hD⟩ hS (Nat.le_of_ble_eq_true rfl) (Nat.le_of_ble_eq_true rfl) dX2_separate_26
  · obtain ⟨x, y, hxl, hyl, hxy, rfl, rfl, hpv⟩ := prV_ne hn1 c_1
    refine lv_aload_n hx hb dX2_separate_14 rfl (lv_at hl 1 rfl) ?_
    refine va_get (D := D) (ci := 2) (v := .ref (a 9)) (C := RX2) (T := TX2) (N := 7) hx hb hts hiX2 hown hE.1 hP 7 ofl_7 rfl 2 (by decide) (hts (.fieldLink RX2 21 "FindsOffice$FindBook" "partedOn" "[I") (by decide +kernel)) (fun _ h9 => h9) rfl dX2_separate_15 ?_
    refine lv_iload hx hb dX2_separate_18 (lv_at hl 0 rfl) ?_
    refine my_iald (k := tri x y) hx hb hE.1 hP 9 0 ofl_9 rfl hpv (tri_lt hxl hyl hn1 hxy) (by decide) dX2_separate_20 ?_
    refine lv_iconst (v := (-1)) hx hb dX2_separate_21 (by decide) ?_
    refine lv_icmp_eq (tgt := 27) hx hb dX2_separate_22 (by decide) (fun c_2 => ?_) (fun c_2 => ?_)
    · refine lv_aload_n hx hb dX2_separate_27 rfl (lv_at hl 1 rfl) ?_
      refine va_get (D := D) (ci := 2) (v := .ref (a 9)) (C := RX2) (T := TX2) (N := 7) hx hb hts hiX2 hown hE.1 hP 7 ofl_7 rfl 2 (by decide) (hts (.fieldLink RX2 21 "FindsOffice$FindBook" "partedOn" "[I") (by decide +kernel)) (fun _ h9 => h9) rfl dX2_separate_28 ?_
      refine lv_iload hx hb dX2_separate_31 (lv_at hl 0 rfl) ?_
      refine lv_iload_n hx hb dX2_separate_33 rfl (lv_at hl 4 rfl) ?_
      refine my_iast (k := tri x y) hx hb hE.1 hP hD hS 9 0 ofl_9 rfl hpv (tri_lt hxl hyl hn1 hxy) (by decide) dX2_separate_34 (fun H locs hP hD hS => ?_)
      rw [ofs_9] at hP hD
      refine lv_aload_n hx hb dX2_separate_35 rfl (lv_at hl 1 rfl) ?_
      refine lv_dup hx hb dX2_separate_36 rfl ?_
      refine va_get (D := D) (ci := 2) (v := .int (T 14 0)) (C := RX2) (T := TX2) (N := 7) hx hb hts hiX2 hown hE.1 hP 7 ofl_7 rfl 3 (by decide) (hts (.fieldLink RX2 25 "FindsOffice$FindBook" "pairsParted" "I") (by decide +kernel)) (fun _ h9 => h9) rfl dX2_separate_37 ?_
      refine lv_iconst (v := 1) hx hb dX2_separate_40 (by decide) ?_
      refine lv_iadd hx hb dX2_separate_41 ?_
      refine va_put (D := D) (ci := 2) (v := .int ((T 14 0) + 1)) (ty := .int) (C := RX2) (T := TX2) (N := 7) hx hb hts hiX2 tyX2 tyX2_ok nmX2 hown hE.1 hP hD hS 7 ofl_7 rfl 3 (by decide) (hts (.fieldLink RX2 25 "FindsOffice$FindBook" "pairsParted" "I") (by decide +kernel)) (fun _ h9 => h9) rfl (by decide +kernel) rfl rfl (Nat.le_of_ble_eq_true rfl) dX2_separate_42 (fun H locs hP hD hS => ?_)
      rw [ofp_7_3] at hP hD
      refine lv_iconst (v := 1) hx hb dX2_separate_45 (by decide) ?_
      exact rw_zret hx hb hr hlocks (by rw [paB_at hxl hyl hn1 hxy, (pr_m1 hI hpr (by omega) (by omega) hxy).mp c_2]; rfl) ⟨_, _, paT T x y, _, ⟨(by rw [if_pos (show paB T n (nI x) (nI y) = true by rw [paB_at hxl hyl hn1 hxy, (pr_m1 hI hpr (by omega) (by omega) hxy).mp c_2]; rfl), nI_clamp (by omega), nI_clamp (by omega)]), rfl, PR_add hpr (by omega) (by omega) hxy (now_ne hI)⟩, hP, hD⟩ hS (Nat.le_of_ble_eq_true rfl) (Nat.le_of_ble_eq_true rfl) dX2_separate_46
    · refine lv_iconst (v := 0) hx hb dX2_separate_25 (by decide) ?_
      exact rw_zret hx hb hr hlocks (by rw [paB_at hxl hyl hn1 hxy, decide_eq_false (fun q => c_2 ((pr_m1 hI hpr (by omega) (by omega) hxy).mpr q))]; rfl) ⟨_, _, _, _, ⟨(by rw [if_neg (by rw [paB_at hxl hyl hn1 hxy, decide_eq_false (fun q => c_2 ((pr_m1 hI hpr (by omega) (by omega) hxy).mpr q))]; decide)]), rfl, hpr⟩, hP, hD⟩ hS (Nat.le_of_ble_eq_true rfl) (Nat.le_of_ble_eq_true rfl) dX2_separate_26
set_option maxHeartbeats 4000000 in
set_option maxRecDepth 100000 in
theorem c_X9_part (l : Launch) (D : va_G) (cT : Nat → ClassId) (sz : Nat) (a : Nat → Nat) (b : Nat → Nat → Nat) (T P : Nat → Nat → Int32) (n : Nat → Nat) (i j : Int32) (hn : Cnt n) (hI : InvT T n) (hpr : PR T (P 0)) : Met l yX9_part wsX9_part ({ frames := 3, cells := 0, slots := 0, locals := 70 }) (va_Pc [.ref (a 0), .int i, .int j] (PW D cT (offW cT a b T P n) sz)) (QW (some (.int (b2 (paB T n i j)))) ((poQ D cT a (if paB T n i j = true then paT T i.toNatClampNeg j.toNatClampNeg else T) n) (va_A (offW cT a b T P n) sz)) (va_A (offW cT a b T P n) sz)) 0 0 (va_A (offW cT a b T P n) sz) := by
  refine RW_of (Bp := (poQ D cT a (if paB T n i j = true then paT T i.toNatClampNeg j.toNatClampNeg else T) n)) (by decide) rfl (Nat.le_of_ble_eq_true rfl) ?_
  intro p e s m below meth c A hx hb hr hts hown hlocks hin hml hE hD hA H locs hP hS ls hl
  have hiX9 : ∀ w ∈ wsX90, w ∈ wsX9_part := by decide +kernel
  have hl : lv_has ls 3 [(0, .ref (a 0)), (1, .int i), (2, .int j)] := hl
  obtain ⟨hn0, hn1, hn2, hn3, hn4⟩ := id hn
  refine lv_aload_n hx hb dX9_part_0 rfl (lv_at hl 0 rfl) ?_
  refine va_get (D := D) (ci := 9) (v := .ref (a 7)) (C := RX9) (T := TX9) (N := 7) hx hb hts hiX9 hown hE.1 hP 0 ofl_0 rfl 3 (by decide) (hts (.fieldLink RX9 30 "FindsOffice" "findBook" "LFindsOffice$FindBook;") (by decide +kernel)) (fun _ h9 => h9) rfl dX9_part_1 ?_
  refine lv_iload_n hx hb dX9_part_4 rfl (lv_at hl 1 rfl) ?_
  refine lv_iload_n hx hb dX9_part_5 rfl (lv_at hl 2 rfl) ?_
  refine lv_aload_n hx hb dX9_part_6 rfl (lv_at hl 0 rfl) ?_
  refine va_get (D := D) (ci := 9) (v := .int (T 0 0)) (C := RX9) (T := TX9) (N := 7) hx hb hts hiX9 hown hE.1 hP 0 ofl_0 rfl 0 (by decide) (hts (.fieldLink RX9 7 "FindsOffice" "now" "I") (by decide +kernel)) (fun _ h9 => h9) rfl dX9_part_7 ?_
  have hF := va_allA hD hS hA
  refine rw_V1 (As := [.int i, .int j, .int (T 0 0)]) (rest := []) ⟨hx, hb, hml, hown, hts⟩ (c_X2_separate l D cT H.size a b T P n i j hn hI hpr) (cwV 3 hts gX9_part_X2_separate rfl rfl rfl (by decide +kernel) ⟨Nat.le_of_ble_eq_true rfl, Nat.le_of_ble_eq_true rfl⟩) hE hP hD hS hA 7 2 ofl_7 rfl rfl rfl hl.1 rfl (Nat.le_of_ble_eq_true rfl) dX9_part_10 ⟨Nat.le_of_ble_eq_true rfl, Nat.le_of_ble_eq_true rfl⟩ (fun H locs hB hz1 hk1 hS => ?_)
  obtain ⟨bV, PV, TV, nV, hpV, hP, hD1⟩ := hB
  have hD := hD1.weaken (fun _ q _ h => hF q.1 h)
  exact rw_zret hx hb hr hlocks rfl ⟨_, _, _, _, hpV, hP, hD⟩ hS (Nat.le_of_ble_eq_true rfl) (Nat.le_of_ble_eq_true rfl) dX9_part_13
set_option maxHeartbeats 4000000 in
set_option maxRecDepth 100000 in
theorem c_X3_enter (l : Launch) (D : va_G) (cT : Nat → ClassId) (sz : Nat) (a : Nat → Nat) (b : Nat → Nat → Nat) (T P : Nat → Nat → Int32) (n : Nat → Nat) (pl d pe : Int32) (hn : Cnt n) (hI : InvT T n) (hpr : PR T (P 0)) : Met l yX3_enter wsX3_enter ({ frames := 2, cells := 0, slots := 0, locals := 42 }) (va_Pc [.ref (a 3), .int pl, .int d, .int pe] (PW D cT (offW cT a b T P n) sz)) (QW (some (.int (b2 (owB n pl d pe)))) ((poQ D cT a (if owB n pl d pe = true then owT T n pl d pe else T) (if owB n pl d pe = true then va_up n 4 (n 4 + 1) else n)) (va_A (offW cT a b T P n) sz)) (va_A (offW cT a b T P n) sz)) 0 0 (va_A (offW cT a b T P n) sz) := by
  refine RW_of (Bp := (poQ D cT a (if owB n pl d pe = true then owT T n pl d pe else T) (if owB n pl d pe = true then va_up n 4 (n 4 + 1) else n))) (by decide) rfl (Nat.le_of_ble_eq_true rfl) ?_
  intro p e s m below meth c A hx hb hr hts hown hlocks hin hml hE hD hA H locs hP hS ls hl
  have hiX3 : ∀ w ∈ wsX30, w ∈ wsX3_enter := by decide +kernel
  have hl : lv_has ls 5 [(0, .ref (a 3)), (1, .int pl), (2, .int d), (3, .int pe)] := hl
  obtain ⟨hn0, hn1, hn2, hn3, hn4⟩ := id hn
  have J_29 : ∀ (jv : Int32), jv = (b2 (btw pl 0 99 && (btw d 0 20000 && btw pe 0 29))) → ∀ (ls : Array Slot), lv_has ls 5 [(0, .ref (a 3)), (1, .int pl), (2, .int d), (3, .int pe)] → W p l e ({ frames := 2, cells := 0, slots := 0, locals := 42 }) s m (List.toArray [.ref (a 3), .int pl, .int d, .int pe]) below meth c H locs 0 0 (MQ below (QW (some (.int (b2 (owB n pl d pe)))) ((poQ D cT a (if owB n pl d pe = true then owT T n pl d pe else T) (if owB n pl d pe = true then va_up n 4 (n 4 + 1) else n)) A) A) (List.toArray [.ref (a 3), .int pl, .int d, .int pe]) s 0 0 A) (F0 m 29 ls [.int jv]) := by
    intro jv hjv ls hl
    subst hjv
    refine lv_istore (lv' := [(4, .int (b2 (btw pl 0 99 && (btw d 0 20000 && btw pe 0 29)))), (0, .ref (a 3)), (1, .int pl), (2, .int d), (3, .int pe)]) hx hb dX3_enter_29 hl (by decide) rfl (fun ls hl => ?_)
    refine lv_aload_n hx hb dX3_enter_31 rfl (lv_at hl 1 rfl) ?_
    refine va_get (D := D) (ci := 3) (v := .int (nI (n 4))) (C := RX3) (T := TX3) (N := 4) hx hb hts hiX3 hown hE.1 hP 3 ofl_3 rfl 3 (by decide) (hts (.fieldLink RX3 21 "FindsOffice$LandBook" "told" "I") (by decide +kernel)) (fun _ h9 => h9) rfl dX3_enter_32 ?_
    refine lv_bipush (v := 100) hx hb dX3_enter_35 (by decide) ?_
    refine lv_icmp_ge (tgt := 45) hx hb dX3_enter_37 (by decide) (fun c_1 => ?_) (fun c_1 => ?_)
    · have k_1 := nat_le (a := 100) (b := (n 4)) c_1 (by omega) (by omega)
      have hful : nI (n 4) = 100 := by rw [show n 4 = 100 by omega]; rfl
      refine lv_iconst (v := 0) hx hb dX3_enter_45 (by decide) ?_
      exact rw_zret hx hb hr hlocks (by simp [b2, owB, hful]) ⟨_, _, _, _, ⟨(by rw [if_neg (show ¬ owB n pl d pe = true by simp [owB, hful])]), (by rw [if_neg (show ¬ owB n pl d pe = true by simp [owB, hful])]), hpr⟩, hP, hD⟩ hS (Nat.le_of_ble_eq_true rfl) (Nat.le_of_ble_eq_true rfl) dX3_enter_46
    · have k_1 := nat_nle (a := 100) (b := (n 4)) c_1 (by omega) (by omega)
      have hful : ¬ nI (n 4) = 100 := fun q => absurd (nat_eq (a := n 4) (b := 100) q (by omega) (by decide)) (by omega)
      refine lv_iload hx hb dX3_enter_40 (lv_at hl 0 rfl) ?_
      refine bi_ne (tgt := 47) hx hb dX3_enter_42 (by decide) (fun c_2 => ?_) (fun c_2 => ?_)
      · refine lv_aload_n hx hb dX3_enter_47 rfl (lv_at hl 1 rfl) ?_
        refine va_get (D := D) (ci := 3) (v := .ref (a 4)) (C := RX3) (T := TX3) (N := 4) hx hb hts hiX3 hown hE.1 hP 3 ofl_3 rfl 0 (by decide) (hts (.fieldLink RX3 11 "FindsOffice$LandBook" "plots" "[I") (by decide +kernel)) (fun _ h9 => h9) rfl dX3_enter_48 ?_
        refine lv_aload_n hx hb dX3_enter_51 rfl (lv_at hl 1 rfl) ?_
        refine va_get (D := D) (ci := 3) (v := .int (nI (n 4))) (C := RX3) (T := TX3) (N := 4) hx hb hts hiX3 hown hE.1 hP 3 ofl_3 rfl 3 (by decide) (hts (.fieldLink RX3 21 "FindsOffice$LandBook" "told" "I") (by decide +kernel)) (fun _ h9 => h9) rfl dX3_enter_52 ?_
        refine lv_iload_n hx hb dX3_enter_55 rfl (lv_at hl 2 rfl) ?_
        refine my_iast (k := (n 4)) hx hb hE.1 hP hD hS 4 0 ofl_4 rfl rfl (by omega) (by decide) dX3_enter_56 (fun H locs hP hD hS => ?_)
        rw [ofs_4] at hP hD
        refine lv_aload_n hx hb dX3_enter_57 rfl (lv_at hl 1 rfl) ?_
        refine va_get (D := D) (ci := 3) (v := .ref (a 5)) (C := RX3) (T := TX3) (N := 4) hx hb hts hiX3 hown hE.1 hP 3 ofl_3 rfl 1 (by decide) (hts (.fieldLink RX3 15 "FindsOffice$LandBook" "days" "[I") (by decide +kernel)) (fun _ h9 => h9) rfl dX3_enter_58 ?_
        refine lv_aload_n hx hb dX3_enter_61 rfl (lv_at hl 1 rfl) ?_
        refine va_get (D := D) (ci := 3) (v := .int (nI (n 4))) (C := RX3) (T := TX3) (N := 4) hx hb hts hiX3 hown hE.1 hP 3 ofl_3 rfl 3 (by decide) (hts (.fieldLink RX3 21 "FindsOffice$LandBook" "told" "I") (by decide +kernel)) (fun _ h9 => h9) rfl dX3_enter_62 ?_
        refine lv_iload_n hx hb dX3_enter_65 rfl (lv_at hl 3 rfl) ?_
        refine my_iast (k := (n 4)) hx hb hE.1 hP hD hS 5 0 ofl_5 rfl rfl (by omega) (by decide) dX3_enter_66 (fun H locs hP hD hS => ?_)
        rw [ofs_5] at hP hD
        refine lv_aload_n hx hb dX3_enter_67 rfl (lv_at hl 1 rfl) ?_
        refine va_get (D := D) (ci := 3) (v := .ref (a 6)) (C := RX3) (T := TX3) (N := 4) hx hb hts hiX3 hown hE.1 hP 3 ofl_3 rfl 2 (by decide) (hts (.fieldLink RX3 18 "FindsOffice$LandBook" "holders" "[I") (by decide +kernel)) (fun _ h9 => h9) rfl dX3_enter_68 ?_
        refine lv_aload_n hx hb dX3_enter_71 rfl (lv_at hl 1 rfl) ?_
        refine va_get (D := D) (ci := 3) (v := .int (nI (n 4))) (C := RX3) (T := TX3) (N := 4) hx hb hts hiX3 hown hE.1 hP 3 ofl_3 rfl 3 (by decide) (hts (.fieldLink RX3 21 "FindsOffice$LandBook" "told" "I") (by decide +kernel)) (fun _ h9 => h9) rfl dX3_enter_72 ?_
        refine lv_iload_n hx hb dX3_enter_75 rfl (lv_at hl 4 rfl) ?_
        refine my_iast (k := (n 4)) hx hb hE.1 hP hD hS 6 0 ofl_6 rfl rfl (by omega) (by decide) dX3_enter_76 (fun H locs hP hD hS => ?_)
        rw [ofs_6] at hP hD
        refine lv_aload_n hx hb dX3_enter_77 rfl (lv_at hl 1 rfl) ?_
        refine lv_dup hx hb dX3_enter_78 rfl ?_
        refine va_get (D := D) (ci := 3) (v := .int (nI (n 4))) (C := RX3) (T := TX3) (N := 4) hx hb hts hiX3 hown hE.1 hP 3 ofl_3 rfl 3 (by decide) (hts (.fieldLink RX3 21 "FindsOffice$LandBook" "told" "I") (by decide +kernel)) (fun _ h9 => h9) rfl dX3_enter_79 ?_
        refine lv_iconst (v := 1) hx hb dX3_enter_82 (by decide) ?_
        refine lv_iadd hx hb dX3_enter_83 ?_
        refine topi_eq (nI_add _ 1) ?_
        refine va_put (D := D) (ci := 3) (v := .int (nI ((n 4) + 1))) (ty := .int) (C := RX3) (T := TX3) (N := 4) hx hb hts hiX3 tyX3 tyX3_ok nmX3 hown hE.1 hP hD hS 3 ofl_3 rfl 3 (by decide) (hts (.fieldLink RX3 21 "FindsOffice$LandBook" "told" "I") (by decide +kernel)) (fun _ h9 => h9) rfl (by decide +kernel) rfl rfl (Nat.le_of_ble_eq_true rfl) dX3_enter_84 (fun H locs hP hD hS => ?_)
        rw [ofp_3_3] at hP hD
        refine lv_iconst (v := 1) hx hb dX3_enter_87 (by decide) ?_
        exact rw_zret hx hb hr hlocks (by have h9 := c_2; simp only [Bool.and_eq_true] at h9; simp [b2, owB, hful, h9]) ⟨_, _, owT T n pl d pe, va_up n 4 (n 4 + 1), ⟨(by rw [if_pos (show owB n pl d pe = true by rw [owB_of, c_2]; simp [hful])]), (by rw [if_pos (show owB n pl d pe = true by rw [owB_of, c_2]; simp [hful])]), hpr⟩, hP, hD⟩ hS (Nat.le_of_ble_eq_true rfl) (Nat.le_of_ble_eq_true rfl) dX3_enter_88
      · refine lv_iconst (v := 0) hx hb dX3_enter_45 (by decide) ?_
        exact rw_zret hx hb hr hlocks (by have h9 := c_2; rw [owB_of]; simp [b2, h9]) ⟨_, _, _, _, ⟨(by rw [if_neg (show ¬ owB n pl d pe = true by rw [owB_of, c_2]; simp)]), (by rw [if_neg (show ¬ owB n pl d pe = true by rw [owB_of, c_2]; simp)]), hpr⟩, hP, hD⟩ hS (Nat.le_of_ble_eq_true rfl) (Nat.le_of_ble_eq_true rfl) dX3_enter_46
  refine lv_iload_n hx hb dX3_enter_0 rfl (lv_at hl 1 rfl) ?_
  refine lv_iconst (v := 0) hx hb dX3_enter_1 (by decide) ?_
  refine lv_bipush (v := 99) hx hb dX3_enter_2 (by decide) ?_
  refine ro_SN (As := [.int pl, .int 0, .int 99]) (rest := []) ⟨hx, hb, hml, hown, hts⟩ (c_X9_isBetween l D cT pl 0 99 ) ⟨va_cnB (own := RX3) (host := RX9) 3 hts gX3_enter_X9_isBetween_n25 rfl rfl rfl (hE.2 (RX3, 25, yX9_isBetween, RX9) (by decide +kernel)) (hts (.initialized RX9) (by decide +kernel)) (by decide +kernel) ⟨Nat.le_of_ble_eq_true rfl, Nat.le_of_ble_eq_true rfl⟩, hts (.static yX9_isBetween) (by decide +kernel), trivial⟩ hE va_P_nil  rfl hl.1 rfl (Nat.le_of_ble_eq_true rfl) dX3_enter_4 ⟨Nat.zero_le _, Nat.zero_le _⟩ ?_
  refine bi_eq (tgt := 28) hx hb dX3_enter_7 (by decide) (fun c_3 => ?_) (fun c_3 => ?_)
  · refine lv_iconst (v := 0) hx hb dX3_enter_28 (by decide) ?_
    exact J_29 _ (by simp [b2, c_3]) ls (lv_sub hl [0, 1, 2, 3] rfl)
  · refine lv_iload_n hx hb dX3_enter_10 rfl (lv_at hl 2 rfl) ?_
    refine ro_SN (As := [.int d]) (rest := []) ⟨hx, hb, hml, hown, hts⟩ (c_X9_isDay l D cT d ) ⟨va_cnB (own := RX3) (host := RX9) 1 hts gX3_enter_X9_isDay_n29 rfl rfl rfl (hE.2 (RX3, 29, yX9_isDay, RX9) (by decide +kernel)) (hts (.initialized RX9) (by decide +kernel)) (by decide +kernel) ⟨Nat.le_of_ble_eq_true rfl, Nat.le_of_ble_eq_true rfl⟩, hts (.static yX9_isDay) (by decide +kernel), trivial⟩ hE va_P_nil  rfl hl.1 rfl (Nat.le_of_ble_eq_true rfl) dX3_enter_11 ⟨Nat.zero_le _, Nat.zero_le _⟩ ?_
    refine bi_eq (tgt := 28) hx hb dX3_enter_14 (by decide) (fun c_4 => ?_) (fun c_4 => ?_)
    · refine lv_iconst (v := 0) hx hb dX3_enter_28 (by decide) ?_
      exact J_29 _ (by simp [b2, c_3, c_4]) ls (lv_sub hl [0, 1, 2, 3] rfl)
    · refine lv_iload_n hx hb dX3_enter_17 rfl (lv_at hl 3 rfl) ?_
      refine ro_SN (As := [.int pe]) (rest := []) ⟨hx, hb, hml, hown, hts⟩ (c_X9_isPerson l D cT pe ) ⟨va_cnB (own := RX3) (host := RX9) 1 hts gX3_enter_X9_isPerson_n33 rfl rfl rfl (hE.2 (RX3, 33, yX9_isPerson, RX9) (by decide +kernel)) (hts (.initialized RX9) (by decide +kernel)) (by decide +kernel) ⟨Nat.le_of_ble_eq_true rfl, Nat.le_of_ble_eq_true rfl⟩, hts (.static yX9_isPerson) (by decide +kernel), trivial⟩ hE va_P_nil  rfl hl.1 rfl (Nat.le_of_ble_eq_true rfl) dX3_enter_18 ⟨Nat.zero_le _, Nat.zero_le _⟩ ?_
      refine bi_eq (tgt := 28) hx hb dX3_enter_21 (by decide) (fun c_5 => ?_) (fun c_5 => ?_)
      · refine lv_iconst (v := 0) hx hb dX3_enter_28 (by decide) ?_
        exact J_29 _ (by simp [b2, c_3, c_4, c_5]) ls (lv_sub hl [0, 1, 2, 3] rfl)
      · refine lv_iconst (v := 1) hx hb dX3_enter_24 (by decide) ?_
        refine lv_goto (tgt := 29) hx hb dX3_enter_25 (by decide) ?_
        exact J_29 _ (by simp [b2, c_3, c_4, c_5]) ls (lv_sub hl [0, 1, 2, 3] rfl)
set_option maxHeartbeats 4000000 in
set_option maxRecDepth 100000 in
theorem c_X9_owner (l : Launch) (D : va_G) (cT : Nat → ClassId) (sz : Nat) (a : Nat → Nat) (b : Nat → Nat → Nat) (T P : Nat → Nat → Int32) (n : Nat → Nat) (pl d pe : Int32) (hn : Cnt n) (hI : InvT T n) (hpr : PR T (P 0)) : Met l yX9_owner wsX9_owner ({ frames := 3, cells := 0, slots := 0, locals := 66 }) (va_Pc [.ref (a 0), .int pl, .int d, .int pe] (PW D cT (offW cT a b T P n) sz)) (QW (some (.int (b2 (owB n pl d pe)))) ((poQ D cT a (if owB n pl d pe = true then owT T n pl d pe else T) (if owB n pl d pe = true then va_up n 4 (n 4 + 1) else n)) (va_A (offW cT a b T P n) sz)) (va_A (offW cT a b T P n) sz)) 0 0 (va_A (offW cT a b T P n) sz) := by
  refine RW_of (Bp := (poQ D cT a (if owB n pl d pe = true then owT T n pl d pe else T) (if owB n pl d pe = true then va_up n 4 (n 4 + 1) else n))) (by decide) rfl (Nat.le_of_ble_eq_true rfl) ?_
  intro p e s m below meth c A hx hb hr hts hown hlocks hin hml hE hD hA H locs hP hS ls hl
  have hiX9 : ∀ w ∈ wsX90, w ∈ wsX9_owner := by decide +kernel
  have hl : lv_has ls 4 [(0, .ref (a 0)), (1, .int pl), (2, .int d), (3, .int pe)] := hl
  obtain ⟨hn0, hn1, hn2, hn3, hn4⟩ := id hn
  refine lv_aload_n hx hb dX9_owner_0 rfl (lv_at hl 0 rfl) ?_
  refine va_get (D := D) (ci := 9) (v := .ref (a 3)) (C := RX9) (T := TX9) (N := 7) hx hb hts hiX9 hown hE.1 hP 0 ofl_0 rfl 2 (by decide) (hts (.fieldLink RX9 23 "FindsOffice" "landBook" "LFindsOffice$LandBook;") (by decide +kernel)) (fun _ h9 => h9) rfl dX9_owner_1 ?_
  refine lv_iload_n hx hb dX9_owner_4 rfl (lv_at hl 1 rfl) ?_
  refine lv_iload_n hx hb dX9_owner_5 rfl (lv_at hl 2 rfl) ?_
  refine lv_iload_n hx hb dX9_owner_6 rfl (lv_at hl 3 rfl) ?_
  have hF := va_allA hD hS hA
  refine rw_V1 (As := [.int pl, .int d, .int pe]) (rest := []) ⟨hx, hb, hml, hown, hts⟩ (c_X3_enter l D cT H.size a b T P n pl d pe hn hI hpr) (cwV 3 hts gX9_owner_X3_enter rfl rfl rfl (by decide +kernel) ⟨Nat.le_of_ble_eq_true rfl, Nat.le_of_ble_eq_true rfl⟩) hE hP hD hS hA 3 3 ofl_3 rfl rfl rfl hl.1 rfl (Nat.le_of_ble_eq_true rfl) dX9_owner_7 ⟨Nat.le_of_ble_eq_true rfl, Nat.le_of_ble_eq_true rfl⟩ (fun H locs hB hz1 hk1 hS => ?_)
  obtain ⟨bV, PV, TV, nV, hpV, hP, hD1⟩ := hB
  have hD := hD1.weaken (fun _ q _ h => hF q.1 h)
  exact rw_zret hx hb hr hlocks rfl ⟨_, _, _, _, hpV, hP, hD⟩ hS (Nat.le_of_ble_eq_true rfl) (Nat.le_of_ble_eq_true rfl) dX9_owner_10
set_option maxHeartbeats 4000000 in
set_option maxRecDepth 100000 in
theorem c_X6_setLevel (l : Launch) (D : va_G) (cT : Nat → ClassId) (sz : Nat) (a : Nat → Nat) (b : Nat → Nat → Nat) (T P : Nat → Nat → Int32) (n : Nat → Nat) (y v : Int32) (hn : Cnt n) (hI : InvT T n) (hpr : PR T (P 0)) : Met l yX6_setLevel wsX6_setLevel ({ frames := 1, cells := 0, slots := 0, locals := 22 }) (va_Pc [.ref (a 13), .int y, .int v] (PW D cT (offW cT a b T P n) sz)) (QW (some (.int (b2 (ixB y v)))) ((poQ D cT a (if ixB y v = true then ixT T y v else T) n) (va_A (offW cT a b T P n) sz)) (va_A (offW cT a b T P n) sz)) 0 0 (va_A (offW cT a b T P n) sz) := by
  refine RW_of (Bp := (poQ D cT a (if ixB y v = true then ixT T y v else T) n)) (by decide) rfl (Nat.le_of_ble_eq_true rfl) ?_
  intro p e s m below meth c A hx hb hr hts hown hlocks hin hml hE hD hA H locs hP hS ls hl
  have hiX6 : ∀ w ∈ wsX60, w ∈ wsX6_setLevel := by decide +kernel
  have hl : lv_has ls 3 [(0, .ref (a 13)), (1, .int y), (2, .int v)] := hl
  obtain ⟨hn0, hn1, hn2, hn3, hn4⟩ := id hn
  refine lv_iload_n hx hb dX6_setLevel_0 rfl (lv_at hl 1 rfl) ?_
  refine lv_sipush (v := 1950) hx hb dX6_setLevel_1 (by decide) ?_
  refine lv_sipush (v := 2004) hx hb dX6_setLevel_4 (by decide) ?_
  refine ro_SN (As := [.int y, .int 1950, .int 2004]) (rest := []) ⟨hx, hb, hml, hown, hts⟩ (c_X9_isBetween l D cT y 1950 2004 ) ⟨va_cnB (own := RX6) (host := RX9) 3 hts gX6_setLevel_X9_isBetween_n31 rfl rfl rfl (hE.2 (RX6, 31, yX9_isBetween, RX9) (by decide +kernel)) (hts (.initialized RX9) (by decide +kernel)) (by decide +kernel) ⟨Nat.le_of_ble_eq_true rfl, Nat.le_of_ble_eq_true rfl⟩, hts (.static yX9_isBetween) (by decide +kernel), trivial⟩ hE va_P_nil  rfl hl.1 rfl (Nat.le_of_ble_eq_true rfl) dX6_setLevel_7 ⟨Nat.zero_le _, Nat.zero_le _⟩ ?_
  refine bi_eq (tgt := 24) hx hb dX6_setLevel_10 (by decide) (fun c_1 => ?_) (fun c_1 => ?_)
  · refine lv_iconst (v := 0) hx hb dX6_setLevel_24 (by decide) ?_
    exact rw_zret hx hb hr hlocks (by simp [b2, ixB, c_1]) ⟨_, _, _, _, ⟨(by rw [if_neg (show ¬ ixB y v = true by simp [ixB, c_1])]), rfl, hpr⟩, hP, hD⟩ hS (Nat.le_of_ble_eq_true rfl) (Nat.le_of_ble_eq_true rfl) dX6_setLevel_25
  · obtain ⟨k, hk, he⟩ := ix_ix c_1
    refine lv_iload_n hx hb dX6_setLevel_13 rfl (lv_at hl 2 rfl) ?_
    refine lv_iconst (v := 1) hx hb dX6_setLevel_14 (by decide) ?_
    refine lv_sipush (v := 10000) hx hb dX6_setLevel_15 (by decide) ?_
    refine ro_SN (As := [.int v, .int 1, .int 10000]) (rest := []) ⟨hx, hb, hml, hown, hts⟩ (c_X9_isBetween l D cT v 1 10000 ) ⟨va_cnB (own := RX6) (host := RX9) 3 hts gX6_setLevel_X9_isBetween_n31 rfl rfl rfl (hE.2 (RX6, 31, yX9_isBetween, RX9) (by decide +kernel)) (hts (.initialized RX9) (by decide +kernel)) (by decide +kernel) ⟨Nat.le_of_ble_eq_true rfl, Nat.le_of_ble_eq_true rfl⟩, hts (.static yX9_isBetween) (by decide +kernel), trivial⟩ hE va_P_nil  rfl hl.1 rfl (Nat.le_of_ble_eq_true rfl) dX6_setLevel_18 ⟨Nat.zero_le _, Nat.zero_le _⟩ ?_
    refine bi_ne (tgt := 26) hx hb dX6_setLevel_21 (by decide) (fun c_2 => ?_) (fun c_2 => ?_)
    · refine lv_aload_n hx hb dX6_setLevel_26 rfl (lv_at hl 0 rfl) ?_
      refine va_get (D := D) (ci := 6) (v := .ref (a 15)) (C := RX6) (T := TX6) (N := 3) hx hb hts hiX6 hown hE.1 hP 13 ofl_13 rfl 2 (by decide) (hts (.fieldLink RX6 21 "FindsOffice$Market" "levels" "[I") (by decide +kernel)) (fun _ h9 => h9) rfl dX6_setLevel_27 ?_
      refine lv_iload_n hx hb dX6_setLevel_30 rfl (lv_at hl 1 rfl) ?_
      refine lv_sipush (v := 1950) hx hb dX6_setLevel_31 (by decide) ?_
      refine lv_isub hx hb dX6_setLevel_34 ?_
      refine lv_iload_n hx hb dX6_setLevel_35 rfl (lv_at hl 2 rfl) ?_
      refine my_iast (k := k) hx hb hE.1 hP hD hS 15 0 ofl_15 rfl he hk (by decide) dX6_setLevel_36 (fun H locs hP hD hS => ?_)
      rw [ofs_15] at hP hD
      refine lv_iconst (v := 1) hx hb dX6_setLevel_37 (by decide) ?_
      exact rw_zret hx hb hr hlocks (by simp [b2, ixB, c_1, c_2]) ⟨_, _, (va_up T 25 (upd (T 25) k v)), _, ⟨(by rw [if_pos (show ixB y v = true by simp [ixB, c_1, c_2]), ixT, he, nI_clamp (by omega)]), rfl, hpr⟩, hP, hD⟩ hS (Nat.le_of_ble_eq_true rfl) (Nat.le_of_ble_eq_true rfl) dX6_setLevel_38
    · refine lv_iconst (v := 0) hx hb dX6_setLevel_24 (by decide) ?_
      exact rw_zret hx hb hr hlocks (by simp [b2, ixB, c_1, c_2]) ⟨_, _, _, _, ⟨(by rw [if_neg (show ¬ ixB y v = true by simp [ixB, c_1, c_2])]), rfl, hpr⟩, hP, hD⟩ hS (Nat.le_of_ble_eq_true rfl) (Nat.le_of_ble_eq_true rfl) dX6_setLevel_25
set_option maxHeartbeats 4000000 in
set_option maxRecDepth 100000 in
theorem c_X9_index (l : Launch) (D : va_G) (cT : Nat → ClassId) (sz : Nat) (a : Nat → Nat) (b : Nat → Nat → Nat) (T P : Nat → Nat → Int32) (n : Nat → Nat) (y v : Int32) (hn : Cnt n) (hI : InvT T n) (hpr : PR T (P 0)) : Met l yX9_index wsX9_index ({ frames := 2, cells := 0, slots := 0, locals := 44 }) (va_Pc [.ref (a 0), .int y, .int v] (PW D cT (offW cT a b T P n) sz)) (QW (some (.int (b2 (ixB y v)))) ((poQ D cT a (if ixB y v = true then ixT T y v else T) n) (va_A (offW cT a b T P n) sz)) (va_A (offW cT a b T P n) sz)) 0 0 (va_A (offW cT a b T P n) sz) := by
  refine RW_of (Bp := (poQ D cT a (if ixB y v = true then ixT T y v else T) n)) (by decide) rfl (Nat.le_of_ble_eq_true rfl) ?_
  intro p e s m below meth c A hx hb hr hts hown hlocks hin hml hE hD hA H locs hP hS ls hl
  have hiX9 : ∀ w ∈ wsX90, w ∈ wsX9_index := by decide +kernel
  have hl : lv_has ls 3 [(0, .ref (a 0)), (1, .int y), (2, .int v)] := hl
  obtain ⟨hn0, hn1, hn2, hn3, hn4⟩ := id hn
  refine lv_aload_n hx hb dX9_index_0 rfl (lv_at hl 0 rfl) ?_
  refine va_get (D := D) (ci := 9) (v := .ref (a 13)) (C := RX9) (T := TX9) (N := 7) hx hb hts hiX9 hown hE.1 hP 0 ofl_0 rfl 4 (by decide) (hts (.fieldLink RX9 37 "FindsOffice" "market" "LFindsOffice$Market;") (by decide +kernel)) (fun _ h9 => h9) rfl dX9_index_1 ?_
  refine lv_iload_n hx hb dX9_index_4 rfl (lv_at hl 1 rfl) ?_
  refine lv_iload_n hx hb dX9_index_5 rfl (lv_at hl 2 rfl) ?_
  have hF := va_allA hD hS hA
  refine rw_V1 (As := [.int y, .int v]) (rest := []) ⟨hx, hb, hml, hown, hts⟩ (c_X6_setLevel l D cT H.size a b T P n y v hn hI hpr) (cwV 2 hts gX9_index_X6_setLevel rfl rfl rfl (by decide +kernel) ⟨Nat.le_of_ble_eq_true rfl, Nat.le_of_ble_eq_true rfl⟩) hE hP hD hS hA 13 6 ofl_13 rfl rfl rfl hl.1 rfl (Nat.le_of_ble_eq_true rfl) dX9_index_6 ⟨Nat.le_of_ble_eq_true rfl, Nat.le_of_ble_eq_true rfl⟩ (fun H locs hB hz1 hk1 hS => ?_)
  obtain ⟨bV, PV, TV, nV, hpV, hP, hD1⟩ := hB
  have hD := hD1.weaken (fun _ q _ h => hF q.1 h)
  exact rw_zret hx hb hr hlocks rfl ⟨_, _, _, _, hpV, hP, hD⟩ hS (Nat.le_of_ble_eq_true rfl) (Nat.le_of_ble_eq_true rfl) dX9_index_9
