set_option maxHeartbeats 4000000 in
set_option maxRecDepth 100000 in
theorem c_X9_offer (l : Launch) (D : va_G) (cT : Nat → ClassId) (sz : Nat) (a : Nat → Nat) (b : Nat → Nat → Nat) (T P : Nat → Nat → Int32) (n : Nat → Nat) (i : Int32) (hn : Cnt n) (hI : InvT T n) (hpr : PR T (P 0)) : Met l yX9_offer wsX9_offer ({ frames := 6, cells := 0, slots := 0, locals := 144 }) (va_Pc [.ref (a 0), .int i] (PW D cT (offW cT a b T P n) sz)) (QW (some (.int (oI (ofR T n i)))) ((poQ D cT a (ofT T n i) n) (va_A (offW cT a b T P n) sz)) (va_A (offW cT a b T P n) sz)) 0 0 (va_A (offW cT a b T P n) sz) := by
  refine RW_of (Bp := (poQ D cT a (ofT T n i) n)) (by decide) rfl (Nat.le_of_ble_eq_true rfl) ?_
  intro p e s m below meth c A hx hb hr hts hown hlocks hin hml hE hD hA H locs hP hS ls hl
  have hiX1 : ∀ w ∈ wsX10, w ∈ wsX9_offer := by decide +kernel
  have hiX9 : ∀ w ∈ wsX90, w ∈ wsX9_offer := by decide +kernel
  have hl : lv_has ls 3 [(0, .ref (a 0)), (1, .int i)] := hl
  obtain ⟨hn0, hn1, hn2, hn3, hn4⟩ := id hn
  refine lv_aload_n hx hb dX9_offer_0 rfl (lv_at hl 0 rfl) ?_
  refine va_get (D := D) (ci := 9) (v := .ref (a 7)) (C := RX9) (T := TX9) (N := 7) hx hb hts hiX9 hown hE.1 hP 0 ofl_0 rfl 3 (by decide) (hts (.fieldLink RX9 30 "FindsOffice" "findBook" "LFindsOffice$FindBook;") (by decide +kernel)) (fun _ h9 => h9) rfl dX9_offer_1 ?_
  refine lv_iload_n hx hb dX9_offer_4 rfl (lv_at hl 1 rfl) ?_
  refine ro_V (As := [.int i]) (rest := []) ⟨hx, hb, hml, hown, hts⟩ (c_X2_numbered l D cT a b T P n i hn) (cwV 1 hts gX9_offer_X2_numbered rfl rfl rfl (by decide +kernel) ⟨Nat.le_of_ble_eq_true rfl, Nat.le_of_ble_eq_true rfl⟩) hE hP 7 2 ofl_7 rfl rfl rfl hl.1 rfl (Nat.le_of_ble_eq_true rfl) dX9_offer_5 ⟨Nat.zero_le _, Nat.zero_le _⟩ ?_
  rcases nuV_cases (b 1) (n 1) i (by omega) with ⟨k1, hk1, rfl, hv1⟩ | ⟨hf1, hv1⟩
  · refine topv_eq hv1 ?_
    refine lv_astore_n (lv' := [(2, .ref (b 1 k1)), (0, .ref (a 0)), (1, .int (nI k1))]) hx hb dX9_offer_8 rfl hl (by decide) rfl (fun ls hl => ?_)
    refine lv_aload_n hx hb dX9_offer_9 rfl (lv_at hl 0 rfl) ?_
    refine lv_ifnull hx hb dX9_offer_10 ?_
    refine lv_aload_n hx hb dX9_offer_13 rfl (lv_at hl 0 rfl) ?_
    have hq_2 := off_find (k := k1) hP (by omega)
    refine va_get (D := D) (ci := 1) (v := .int (T 12 k1)) (C := RX1) (T := TX1) (N := 11) hx hb hts hiX1 hown hE.1 hq_2 0 rfl rfl 10 (by decide) (hts (.fieldLink RX9 136 "FindsOffice$Find" "keeper" "I") (by decide +kernel)) (fun _ h9 => h9) rfl dX9_offer_14 ?_
    refine lv_iconst (v := (-1)) hx hb dX9_offer_17 (by decide) ?_
    refine lv_icmp_ne (tgt := 33) hx hb dX9_offer_18 (by decide) (fun c_3 => ?_) (fun c_3 => ?_)
    · refine lv_iconst (v := (-1)) hx hb dX9_offer_33 (by decide) ?_
      exact rw_iret hx hb hr hlocks (by rw [ofR_no (by rw [ofB_at hk1 hn1]; simp [c_3])]; rfl) ⟨_, _, T, n, ⟨(ofT_no (ofR_no (by rw [ofB_at hk1 hn1]; simp [c_3]))).symm, rfl, hpr⟩, hP, hD⟩ hS (Nat.le_of_ble_eq_true rfl) (Nat.le_of_ble_eq_true rfl) dX9_offer_34
    · refine lv_aload_n hx hb dX9_offer_21 rfl (lv_at hl 1 rfl) ?_
      refine lv_iload_n hx hb dX9_offer_22 rfl (lv_at hl 2 rfl) ?_
      refine lv_aload_n hx hb dX9_offer_23 rfl (lv_at hl 1 rfl) ?_
      refine va_get (D := D) (ci := 9) (v := .int (T 0 0)) (C := RX9) (T := TX9) (N := 7) hx hb hts hiX9 hown hE.1 hP 0 ofl_0 rfl 0 (by decide) (hts (.fieldLink RX9 7 "FindsOffice" "now" "I") (by decide +kernel)) (fun _ h9 => h9) rfl dX9_offer_24 ?_
      have hF := va_allA hD hS hA
      refine rw_V1 (As := [.int (nI k1), .int (T 0 0)]) (rest := []) ⟨hx, hb, hml, hown, hts⟩ (c_X9_isTreasureOn l D cT H.size a b T P n (nI k1) (T 0 0) hn hI hpr (now_btw hI)) (cwV 2 hts gX9_offer_X9_isTreasureOn rfl rfl rfl (by decide +kernel) ⟨Nat.le_of_ble_eq_true rfl, Nat.le_of_ble_eq_true rfl⟩) hE hP hD hS hA 0 9 ofl_0 rfl rfl rfl hl.1 rfl (Nat.le_of_ble_eq_true rfl) dX9_offer_27 ⟨Nat.le_of_ble_eq_true rfl, Nat.le_of_ble_eq_true rfl⟩ (fun H locs hB hz1 hkf hS => ?_)
      obtain ⟨PS, hpS, hP, hD1⟩ := hB
      have hD := hD1.weaken (fun _ q _ h => hF q.1 h)
      refine bi_ne (tgt := 35) hx hb dX9_offer_30 (by decide) (fun c_4 => ?_) (fun c_4 => ?_)
      · refine lv_aload_n hx hb dX9_offer_35 rfl (lv_at hl 0 rfl) ?_
        refine lv_aload_n hx hb dX9_offer_36 rfl (lv_at hl 1 rfl) ?_
        refine va_get (D := D) (ci := 9) (v := .ref (a 16)) (C := RX9) (T := TX9) (N := 7) hx hb hts hiX9 hown hE.1 hP 0 ofl_0 rfl 5 (by decide) (hts (.fieldLink RX9 44 "FindsOffice" "circle" "LFindsOffice$Circle;") (by decide +kernel)) (fun _ h9 => h9) rfl dX9_offer_37 ?_
        refine lv_aload_n hx hb dX9_offer_40 rfl (lv_at hl 0 rfl) ?_
        have hq_5 := off_find (k := k1) hP (by omega)
        refine va_get (D := D) (ci := 1) (v := .int (T 4 k1)) (C := RX1) (T := TX1) (N := 11) hx hb hts hiX1 hown hE.1 hq_5 0 rfl rfl 2 (by decide) (hts (.fieldLink RX9 115 "FindsOffice$Find" "metal" "I") (by decide +kernel)) (fun _ h9 => h9) rfl dX9_offer_41 ?_
        refine lv_aload_n hx hb dX9_offer_44 rfl (lv_at hl 1 rfl) ?_
        refine lv_aload_n hx hb dX9_offer_45 rfl (lv_at hl 0 rfl) ?_
        refine ro_V (As := [.ref (b 1 k1)]) (rest := [.int (T 4 k1), .ref (a 16), .ref (b 1 k1)]) ⟨hx, hb, hml, hown, hts⟩ (c_X9_worthNow l D cT a b T PS n k1 hn (by omega)) (cwV 1 hts gX9_offer_X9_worthNow rfl rfl rfl (by decide +kernel) ⟨Nat.le_of_ble_eq_true rfl, Nat.le_of_ble_eq_true rfl⟩) hE hP 0 9 ofl_0 rfl rfl rfl hl.1 rfl (Nat.le_of_ble_eq_true rfl) dX9_offer_46 ⟨Nat.zero_le _, Nat.zero_le _⟩ ?_
        have hF := va_allA hD hS hA
        refine rw_V1 (As := [.int (T 4 k1), .int (worV T n k1)]) (rest := [.ref (b 1 k1)]) ⟨hx, hb, hml, hown, hts⟩ (c_X0_sell l D cT H.size a b T PS n (T 4 k1) (worV T n k1) hn hI (by rw [hpS]; exact hpr)) (cwV 2 hts gX9_offer_X0_sell rfl rfl rfl (by decide +kernel) ⟨Nat.le_of_ble_eq_true rfl, Nat.le_of_ble_eq_true rfl⟩) hE hP hD hS hA 16 0 ofl_16 rfl rfl rfl hl.1 rfl (Nat.le_of_ble_eq_true rfl) dX9_offer_49 ⟨Nat.le_of_ble_eq_true rfl, Nat.le_of_ble_eq_true rfl⟩ (fun H locs hB hz1 hkf hS => ?_)
        obtain ⟨PL, hpL, hP, hD1⟩ := hB
        have hD := hD1.weaken (fun _ q _ h => hF q.1 h)
        have hpr2 : PR T (PL 0) := by rw [hpL, hpS]; exact hpr
        rcases hof : ofO T n (T 4 k1) (worV T n k1) (nxV (n 3) (T 36 0)).toNatClampNeg (n 3) with _ | mu
        · rw [hof] at hP hD
          have hP : va_P D vwCl (offW cT a b T PL n) H := hP
          have hD : va_D A (offW cT a b T PL n) := hD
          refine topi_eq (y := -1) rfl ?_
          refine va_put (D := D) (ci := 1) (v := .int (-1)) (ty := .int) (C := RX1) (T := TX1) (N := 11) hx hb hts hiX1 tyX1 tyX1_ok nmX1 hown hE.1 hP hD hS (19 + (n 0 + k1)) (off_get hk1) rfl 10 (by decide) (hts (.fieldLink RX9 136 "FindsOffice$Find" "keeper" "I") (by decide +kernel)) (fun _ h9 => h9) rfl (by decide +kernel) rfl rfl (Nat.le_of_ble_eq_true rfl) dX9_offer_52 (fun H locs hP hD hS => ?_)
          rw [off_set hk1] at hP hD
          refine lv_aload_n hx hb dX9_offer_55 rfl (lv_at hl 0 rfl) ?_
          have hq_6 := off_find (k := k1) hP (by omega)
          refine va_get (D := D) (ci := 1) (v := .int ((va_up T 12 (upd (T 12) k1 (-1))) 12 k1)) (C := RX1) (T := TX1) (N := 11) hx hb hts hiX1 hown hE.1 hq_6 0 rfl rfl 10 (by decide) (hts (.fieldLink RX9 136 "FindsOffice$Find" "keeper" "I") (by decide +kernel)) (fun _ h9 => h9) rfl dX9_offer_56 ?_
          exact rw_iret hx hb hr hlocks (by rw [ofR_at hk1 hn1 c_3 c_4, hof]; exact pk_us) ⟨_, PL, T, n, ⟨(ofT_no (by rw [ofR_at hk1 hn1 c_3 c_4, hof])).symm, rfl, hpr2⟩, (by have h9 := hP; rwa [up_same (upd_same c_3).symm] at h9), (by have h9 := hD; rwa [up_same (upd_same c_3).symm] at h9)⟩ hS (Nat.le_of_ble_eq_true rfl) (Nat.le_of_ble_eq_true rfl) dX9_offer_59
        · rw [hof] at hP hD
          have hP : va_P D vwCl (offW cT a b (va_up (va_up T 35 (upd (T 35) mu (T 35 mu + worV T n k1))) 36 (fun _ => nI mu)) PL n) H := hP
          have hD : va_D A (offW cT a b (va_up (va_up T 35 (upd (T 35) mu (T 35 mu + worV T n k1))) 36 (fun _ => nI mu)) PL n) := hD
          refine topi_eq (y := nI mu) rfl ?_
          refine va_put (D := D) (ci := 1) (v := .int (nI mu)) (ty := .int) (C := RX1) (T := TX1) (N := 11) hx hb hts hiX1 tyX1 tyX1_ok nmX1 hown hE.1 hP hD hS (19 + (n 0 + k1)) (off_get hk1) rfl 10 (by decide) (hts (.fieldLink RX9 136 "FindsOffice$Find" "keeper" "I") (by decide +kernel)) (fun _ h9 => h9) rfl (by decide +kernel) rfl rfl (Nat.le_of_ble_eq_true rfl) dX9_offer_52 (fun H locs hP hD hS => ?_)
          rw [off_set hk1] at hP hD
          refine lv_aload_n hx hb dX9_offer_55 rfl (lv_at hl 0 rfl) ?_
          have hq_7 := off_find (k := k1) hP (by omega)
          refine va_get (D := D) (ci := 1) (v := .int ((va_up (va_up (va_up T 35 (upd (T 35) mu (T 35 mu + worV T n k1))) 36 (fun _ => nI mu)) 12 (upd ((va_up (va_up T 35 (upd (T 35) mu (T 35 mu + worV T n k1))) 36 (fun _ => nI mu)) 12) k1 (nI mu))) 12 k1)) (C := RX1) (T := TX1) (N := 11) hx hb hts hiX1 hown hE.1 hq_7 0 rfl rfl 10 (by decide) (hts (.fieldLink RX9 136 "FindsOffice$Find" "keeper" "I") (by decide +kernel)) (fun _ h9 => h9) rfl dX9_offer_56 ?_
          exact rw_iret hx hb hr hlocks (by rw [ofR_at hk1 hn1 c_3 c_4, hof]; exact pk_us) ⟨_, PL, va_up (va_up (va_up T 12 (upd (T 12) k1 (nI mu))) 35 (upd (T 35) mu (T 35 mu + worV T n k1))) 36 (fun _ => nI mu), n, ⟨(ofT_at (by omega) (by rw [ofR_at hk1 hn1 c_3 c_4, hof])).symm, rfl, hpr2⟩, hP, hD⟩ hS (Nat.le_of_ble_eq_true rfl) (Nat.le_of_ble_eq_true rfl) dX9_offer_59
      · refine lv_iconst (v := (-1)) hx hb dX9_offer_33 (by decide) ?_
        exact rw_iret hx hb hr hlocks (by rw [ofR_no (by rw [ofB_at hk1 hn1]; simp [c_3, c_4])]; rfl) ⟨_, _, T, n, ⟨(ofT_no (ofR_no (by rw [ofB_at hk1 hn1]; simp [c_3, c_4]))).symm, rfl, (by rw [hpS]; exact hpr)⟩, hP, hD⟩ hS (Nat.le_of_ble_eq_true rfl) (Nat.le_of_ble_eq_true rfl) dX9_offer_34
  · refine topv_eq hv1 ?_
    refine lv_astore_nN (lv' := [(2, .null), (0, .ref (a 0)), (1, .int i)]) hx hb dX9_offer_8 rfl hl (by decide) rfl (fun ls hl => ?_)
    refine lv_aload_nN hx hb dX9_offer_9 rfl (lv_at hl 0 rfl) ?_
    refine lv_ifnullN (tgt := 33) hx hb dX9_offer_10 (by decide) ?_
    refine lv_iconst (v := (-1)) hx hb dX9_offer_33 (by decide) ?_
    exact rw_iret hx hb hr hlocks (by rw [ofR_no (by simp [ofB, hf1])]; rfl) ⟨_, _, T, n, ⟨(ofT_no (ofR_no (by simp [ofB, hf1]))).symm, rfl, hpr⟩, hP, hD⟩ hS (Nat.le_of_ble_eq_true rfl) (Nat.le_of_ble_eq_true rfl) dX9_offer_34
set_option maxHeartbeats 4000000 in
set_option maxRecDepth 100000 in
theorem c_X9_isRank (l : Launch) (D : va_G) (cT : Nat → ClassId) (r : Int32) : Met l yX9_isRank wsX9_isRank ({ frames := 1, cells := 0, slots := 0, locals := 22 }) (va_Pc [.int r] (PD D cT ([]))) (QR (.int (b2 (btw r 0 3)))) 0 0 (fun _ => False) := by
  refine RD_of (by decide) rfl (Nat.le_of_ble_eq_true rfl) ?_
  intro p e s m below meth c hx hb hr hts hown hlocks hml hE hP hWD ls hl
  have hl : lv_has ls 1 [(0, .int r)] := hl
  obtain ⟨tw, hWZ, hWT⟩ := id hWD
  refine lv_iload_n hx hb dX9_isRank_0 rfl (lv_at hl 0 rfl) ?_
  refine lv_iconst (v := 0) hx hb dX9_isRank_1 (by decide) ?_
  refine va_gets (own := RX9) (ref := "FindsOffice") hx hb hWZ va_S.rf hown (hts (.fieldLink RX9 217 "FindsOffice" "WIDTHS" "[I") (by decide +kernel)) (fun _ h9 => h9) dX9_isRank_2 ?_
  refine va_tlen (v := 4) hx hb hWT va_S.rf rfl dX9_isRank_5 ?_
  refine lv_iconst (v := 1) hx hb dX9_isRank_6 (by decide) ?_
  refine lv_isub hx hb dX9_isRank_7 ?_
  refine topi_eq (y := 3) (by decide) ?_
  refine ro_S (As := [.int r, .int 0, .int 3]) (rest := []) ⟨hx, hb, hml, hown, hts⟩ (c_X9_isBetween l D cT r 0 3 ) (va_cwS 3 hts gX9_isRank_X9_isBetween rfl rfl rfl (by decide +kernel) ⟨Nat.le_of_ble_eq_true rfl, Nat.le_of_ble_eq_true rfl⟩) hE va_P_nil  rfl hl.1 rfl (Nat.le_of_ble_eq_true rfl) dX9_isRank_8 ⟨Nat.zero_le _, Nat.zero_le _⟩ ?_
  exact ro_zret hx hb hr hlocks (by first | rfl | (simp [b2, btw]; done)) dX9_isRank_11
set_option maxHeartbeats 4000000 in
set_option maxRecDepth 100000 in
theorem c_X9_roundDown (l : Launch) (D : va_G) (cT : Nat → ClassId) (x r : Int32) : Met l yX9_roundDown wsX9_roundDown ({ frames := 2, cells := 0, slots := 0, locals := 42 }) (va_Pc [.int x, .int r] (PD D cT ([]))) (QR (.int (rdV x r))) 0 0 (fun _ => False) := by
  refine RD_of (by decide) rfl (Nat.le_of_ble_eq_true rfl) ?_
  intro p e s m below meth c hx hb hr hts hown hlocks hml hE hP hWD ls hl
  have hl : lv_has ls 3 [(0, .int x), (1, .int r)] := hl
  obtain ⟨tw, hWZ, hWT⟩ := id hWD
  have J_16 : ∀ (jv : Int32), jv = (widV r) → ∀ (ls : Array Slot), lv_has ls 3 [(0, .int x), (1, .int r)] → W p l e ({ frames := 2, cells := 0, slots := 0, locals := 42 }) s m (List.toArray [.int x, .int r]) below meth c s.heap [] 0 0 (MQ below (QR (.int (rdV x r))) (List.toArray [.int x, .int r]) s 0 0 (fun _ => False)) (F0 m 16 ls [.int jv]) := by
    intro jv hjv ls hl
    subst hjv
    refine lv_istore_n (lv' := [(2, .int (widV r)), (0, .int x), (1, .int r)]) hx hb dX9_roundDown_16 rfl hl (by decide) rfl (fun ls hl => ?_)
    refine lv_iload_n hx hb dX9_roundDown_17 rfl (lv_at hl 0 rfl) ?_
    refine lv_if_le (tgt := 29) hx hb dX9_roundDown_18 (by decide) (fun c_1 => ?_) (fun c_1 => ?_)
    · exact absurd c_1 (wid_pos r)
    · have hne : ¬ widV r = 0 := fun q => c_1 (by rw [q]; decide)
      refine lv_iload_n hx hb dX9_roundDown_21 rfl (lv_at hl 1 rfl) ?_
      refine lv_iload_n hx hb dX9_roundDown_22 rfl (lv_at hl 1 rfl) ?_
      refine lv_iload_n hx hb dX9_roundDown_23 rfl (lv_at hl 0 rfl) ?_
      refine lv_irem hx hb dX9_roundDown_24 hne ?_
      refine lv_isub hx hb dX9_roundDown_25 ?_
      refine lv_goto (tgt := 30) hx hb dX9_roundDown_26 (by decide) ?_
      exact ro_iret hx hb hr hlocks rfl dX9_roundDown_30
  refine lv_iload_n hx hb dX9_roundDown_0 rfl (lv_at hl 1 rfl) ?_
  refine rd_S (As := [.int r]) (rest := []) ⟨hx, hb, hml, hown, hts⟩ (c_X9_isRank l D cT r ) (va_cwS 1 hts gX9_roundDown_X9_isRank rfl rfl rfl (by decide +kernel) ⟨Nat.le_of_ble_eq_true rfl, Nat.le_of_ble_eq_true rfl⟩) hE va_P_nil hWD  rfl hl.1 rfl (Nat.le_of_ble_eq_true rfl) dX9_roundDown_1 ⟨Nat.zero_le _, Nat.zero_le _⟩ ?_
  refine bi_eq (tgt := 15) hx hb dX9_roundDown_4 (by decide) (fun c_2 => ?_) (fun c_2 => ?_)
  · refine lv_iconst (v := 1) hx hb dX9_roundDown_15 (by decide) ?_
    exact J_16 _ (wid_no c_2) ls (lv_sub hl [0, 1] rfl)
  · obtain ⟨k, hk, rfl⟩ := rank_k c_2
    refine va_gets (own := RX9) (ref := "FindsOffice") hx hb hWZ va_S.rf hown (hts (.fieldLink RX9 217 "FindsOffice" "WIDTHS" "[I") (by decide +kernel)) (fun _ h9 => h9) dX9_roundDown_7 ?_
    refine lv_iload_n hx hb dX9_roundDown_10 rfl (lv_at hl 1 rfl) ?_
    refine va_ti (v := .int (widV (nI k))) hx hb hWT va_S.rf (vp_in_nI hk (by decide)) (by rw [nI_clamp (by omega), wid_nI hk]) dX9_roundDown_11 ?_
    refine lv_goto (tgt := 16) hx hb dX9_roundDown_12 (by decide) ?_
    exact J_16 _ rfl ls (lv_sub hl [0, 1] rfl)
set_option maxHeartbeats 4000000 in
set_option maxRecDepth 100000 in
theorem c_X9_isCorner (l : Launch) (D : va_G) (cT : Nat → ClassId) (co r : Int32) : Met l yX9_isCorner wsX9_isCorner ({ frames := 3, cells := 0, slots := 0, locals := 64 }) (va_Pc [.int co, .int r] (PD D cT ([]))) (QR (.int (b2 (crB co r)))) 0 0 (fun _ => False) := by
  refine RD_of (by decide) rfl (Nat.le_of_ble_eq_true rfl) ?_
  intro p e s m below meth c hx hb hr hts hown hlocks hml hE hP hWD ls hl
  have hl : lv_has ls 4 [(0, .int co), (1, .int r)] := hl
  refine lv_iload_n hx hb dX9_isCorner_0 rfl (lv_at hl 0 rfl) ?_
  refine lv_iconst (v := 0) hx hb dX9_isCorner_1 (by decide) ?_
  refine lv_ldc (own := RX9) (v := 1002000) hx hb hown (hts (.constant RX9 220 1002000) (by decide +kernel)) dX9_isCorner_2 ?_
  refine ro_S (As := [.int co, .int 0, .int 1002000]) (rest := []) ⟨hx, hb, hml, hown, hts⟩ (c_X9_isBetween l D cT co 0 1002000 ) (va_cwS 3 hts gX9_isCorner_X9_isBetween rfl rfl rfl (by decide +kernel) ⟨Nat.le_of_ble_eq_true rfl, Nat.le_of_ble_eq_true rfl⟩) hE va_P_nil  rfl hl.1 rfl (Nat.le_of_ble_eq_true rfl) dX9_isCorner_4 ⟨Nat.zero_le _, Nat.zero_le _⟩ ?_
  refine bi_ne (tgt := 12) hx hb dX9_isCorner_7 (by decide) (fun c_1 => ?_) (fun c_1 => ?_)
  · refine lv_iload_n hx hb dX9_isCorner_12 rfl (lv_at hl 0 rfl) ?_
    refine lv_sipush (v := 1001) hx hb dX9_isCorner_13 (by decide) ?_
    refine lv_idiv hx hb dX9_isCorner_16 (by decide) ?_
    refine lv_istore_n (lv' := [(2, .int (co / 1001)), (0, .int co), (1, .int r)]) hx hb dX9_isCorner_17 rfl hl (by decide) rfl (fun ls hl => ?_)
    refine lv_iload_n hx hb dX9_isCorner_18 rfl (lv_at hl 1 rfl) ?_
    refine lv_sipush (v := 1001) hx hb dX9_isCorner_19 (by decide) ?_
    refine lv_irem hx hb dX9_isCorner_22 (by decide) ?_
    refine lv_istore_n (lv' := [(3, .int (co - co / 1001 * 1001)), (2, .int (co / 1001)), (0, .int co), (1, .int r)]) hx hb dX9_isCorner_23 rfl hl (by decide) rfl (fun ls hl => ?_)
    refine lv_iload_n hx hb dX9_isCorner_24 rfl (lv_at hl 1 rfl) ?_
    refine lv_iload_n hx hb dX9_isCorner_25 rfl (lv_at hl 1 rfl) ?_
    refine lv_iload_n hx hb dX9_isCorner_26 rfl (lv_at hl 3 rfl) ?_
    refine rd_S (As := [.int (co / 1001), .int r]) (rest := [.int (co / 1001)]) ⟨hx, hb, hml, hown, hts⟩ (c_X9_roundDown l D cT (co / 1001) r ) (va_cwS 2 hts gX9_isCorner_X9_roundDown rfl rfl rfl (by decide +kernel) ⟨Nat.le_of_ble_eq_true rfl, Nat.le_of_ble_eq_true rfl⟩) hE va_P_nil hWD  rfl hl.1 rfl (Nat.le_of_ble_eq_true rfl) dX9_isCorner_27 ⟨Nat.zero_le _, Nat.zero_le _⟩ ?_
    refine lv_icmp_ne (tgt := 46) hx hb dX9_isCorner_30 (by decide) (fun c_2 => ?_) (fun c_2 => ?_)
    · refine lv_iconst (v := 0) hx hb dX9_isCorner_46 (by decide) ?_
      exact ro_zret hx hb hr hlocks (by rw [crB, ← rd_self, ← rd_self, c_1, decide_eq_false c_2]; rfl) dX9_isCorner_47
    · refine lv_iload_n hx hb dX9_isCorner_33 rfl (lv_at hl 0 rfl) ?_
      refine lv_iload_n hx hb dX9_isCorner_34 rfl (lv_at hl 0 rfl) ?_
      refine lv_iload_n hx hb dX9_isCorner_35 rfl (lv_at hl 3 rfl) ?_
      refine rd_S (As := [.int (co - co / 1001 * 1001), .int r]) (rest := [.int (co - co / 1001 * 1001)]) ⟨hx, hb, hml, hown, hts⟩ (c_X9_roundDown l D cT (co - co / 1001 * 1001) r ) (va_cwS 2 hts gX9_isCorner_X9_roundDown rfl rfl rfl (by decide +kernel) ⟨Nat.le_of_ble_eq_true rfl, Nat.le_of_ble_eq_true rfl⟩) hE va_P_nil hWD  rfl hl.1 rfl (Nat.le_of_ble_eq_true rfl) dX9_isCorner_36 ⟨Nat.zero_le _, Nat.zero_le _⟩ ?_
      refine lv_icmp_ne (tgt := 46) hx hb dX9_isCorner_39 (by decide) (fun c_3 => ?_) (fun c_3 => ?_)
      · refine lv_iconst (v := 0) hx hb dX9_isCorner_46 (by decide) ?_
        exact ro_zret hx hb hr hlocks (by rw [crB, ← rd_self, ← rd_self, c_1, decide_eq_true c_2, decide_eq_false c_3]; rfl) dX9_isCorner_47
      · refine lv_iconst (v := 1) hx hb dX9_isCorner_42 (by decide) ?_
        refine lv_goto (tgt := 47) hx hb dX9_isCorner_43 (by decide) ?_
        exact ro_zret hx hb hr hlocks (by rw [crB, ← rd_self, ← rd_self, c_1, decide_eq_true c_2, decide_eq_true c_3]; rfl) dX9_isCorner_47
  · refine lv_iconst (v := 0) hx hb dX9_isCorner_10 (by decide) ?_
    exact ro_zret hx hb hr hlocks (by simp [crB, b2, c_1]) dX9_isCorner_11
set_option maxHeartbeats 4000000 in
set_option maxRecDepth 100000 in
theorem c_X9_place (l : Launch) (D : va_G) (cT : Nat → ClassId) (a : Nat → Nat) (b : Nat → Nat → Nat) (T P : Nat → Nat → Int32) (n : Nat → Nat) (i r : Int32) (hn : Cnt n) : Met l yX9_place wsX9_place ({ frames := 3, cells := 0, slots := 0, locals := 64 }) (va_Pc [.ref (a 0), .int i, .int r] (PD D cT (offW cT a b T P n))) (QR (.int (plV T n i r))) 0 0 (fun _ => False) := by
  refine RD_of (by decide) rfl (Nat.le_of_ble_eq_true rfl) ?_
  intro p e s m below meth c hx hb hr hts hown hlocks hml hE hP hWD ls hl
  have hiX1 : ∀ w ∈ wsX10, w ∈ wsX9_place := by decide +kernel
  have hiX9 : ∀ w ∈ wsX90, w ∈ wsX9_place := by decide +kernel
  have hl : lv_has ls 4 [(0, .ref (a 0)), (1, .int i), (2, .int r)] := hl
  obtain ⟨hn0, hn1, hn2, hn3, hn4⟩ := id hn
  refine lv_aload_n hx hb dX9_place_0 rfl (lv_at hl 0 rfl) ?_
  refine va_get (D := D) (ci := 9) (v := .ref (a 7)) (C := RX9) (T := TX9) (N := 7) hx hb hts hiX9 hown hE.1 hP 0 ofl_0 rfl 3 (by decide) (hts (.fieldLink RX9 30 "FindsOffice" "findBook" "LFindsOffice$FindBook;") (by decide +kernel)) (fun _ h9 => h9) rfl dX9_place_1 ?_
  refine lv_iload_n hx hb dX9_place_4 rfl (lv_at hl 1 rfl) ?_
  refine ro_V (As := [.int i]) (rest := []) ⟨hx, hb, hml, hown, hts⟩ (c_X2_numbered l D cT a b T P n i hn) (cwV 1 hts gX9_place_X2_numbered rfl rfl rfl (by decide +kernel) ⟨Nat.le_of_ble_eq_true rfl, Nat.le_of_ble_eq_true rfl⟩) hE hP 7 2 ofl_7 rfl rfl rfl hl.1 rfl (Nat.le_of_ble_eq_true rfl) dX9_place_5 ⟨Nat.zero_le _, Nat.zero_le _⟩ ?_
  rcases nuV_cases (b 1) (n 1) i (by omega) with ⟨k1, hk1, rfl, hv1⟩ | ⟨hf1, hv1⟩
  · refine topv_eq hv1 ?_
    refine lv_astore_n (lv' := [(3, .ref (b 1 k1)), (0, .ref (a 0)), (1, .int (nI k1)), (2, .int r)]) hx hb dX9_place_8 rfl hl (by decide) rfl (fun ls hl => ?_)
    refine lv_aload_n hx hb dX9_place_9 rfl (lv_at hl 0 rfl) ?_
    refine lv_ifnull hx hb dX9_place_10 ?_
    refine lv_iload_n hx hb dX9_place_13 rfl (lv_at hl 3 rfl) ?_
    refine rd_S (As := [.int r]) (rest := []) ⟨hx, hb, hml, hown, hts⟩ (c_X9_isRank l D cT r ) (va_cwS 1 hts gX9_place_X9_isRank rfl rfl rfl (by decide +kernel) ⟨Nat.le_of_ble_eq_true rfl, Nat.le_of_ble_eq_true rfl⟩) hE va_P_nil hWD  rfl hl.1 rfl (Nat.le_of_ble_eq_true rfl) dX9_place_14 ⟨Nat.zero_le _, Nat.zero_le _⟩ ?_
    refine bi_ne (tgt := 22) hx hb dX9_place_17 (by decide) (fun c_2 => ?_) (fun c_2 => ?_)
    · refine lv_aload_n hx hb dX9_place_22 rfl (lv_at hl 0 rfl) ?_
      have hq_3 := off_find (k := k1) hP (by omega)
      refine va_get (D := D) (ci := 1) (v := .int (T 2 k1)) (C := RX1) (T := TX1) (N := 11) hx hb hts hiX1 hown hE.1 hq_3 0 rfl rfl 0 (by decide) (hts (.fieldLink RX9 165 "FindsOffice$Find" "x" "I") (by decide +kernel)) (fun _ h9 => h9) rfl dX9_place_23 ?_
      refine lv_iload_n hx hb dX9_place_26 rfl (lv_at hl 3 rfl) ?_
      refine rd_S (As := [.int (T 2 k1), .int r]) (rest := []) ⟨hx, hb, hml, hown, hts⟩ (c_X9_roundDown l D cT (T 2 k1) r ) (va_cwS 2 hts gX9_place_X9_roundDown rfl rfl rfl (by decide +kernel) ⟨Nat.le_of_ble_eq_true rfl, Nat.le_of_ble_eq_true rfl⟩) hE va_P_nil hWD  rfl hl.1 rfl (Nat.le_of_ble_eq_true rfl) dX9_place_27 ⟨Nat.zero_le _, Nat.zero_le _⟩ ?_
      refine lv_sipush (v := 1000) hx hb dX9_place_30 (by decide) ?_
      refine lv_imul hx hb dX9_place_33 ?_
      refine lv_aload_n hx hb dX9_place_34 rfl (lv_at hl 0 rfl) ?_
      refine va_get (D := D) (ci := 1) (v := .int (T 3 k1)) (C := RX1) (T := TX1) (N := 11) hx hb hts hiX1 hown hE.1 hq_3 0 rfl rfl 1 (by decide) (hts (.fieldLink RX9 171 "FindsOffice$Find" "y" "I") (by decide +kernel)) (fun _ h9 => h9) rfl dX9_place_35 ?_
      refine lv_iload_n hx hb dX9_place_38 rfl (lv_at hl 3 rfl) ?_
      refine rd_S (As := [.int (T 3 k1), .int r]) (rest := [.int ((rdV (T 2 k1) r) * 1000)]) ⟨hx, hb, hml, hown, hts⟩ (c_X9_roundDown l D cT (T 3 k1) r ) (va_cwS 2 hts gX9_place_X9_roundDown rfl rfl rfl (by decide +kernel) ⟨Nat.le_of_ble_eq_true rfl, Nat.le_of_ble_eq_true rfl⟩) hE va_P_nil hWD  rfl hl.1 rfl (Nat.le_of_ble_eq_true rfl) dX9_place_39 ⟨Nat.zero_le _, Nat.zero_le _⟩ ?_
      refine lv_iadd hx hb dX9_place_42 ?_
      exact ro_iret hx hb hr hlocks (by rw [plV, if_pos (by simp [isT_nI hk1 (show n 1 < 2 ^ 31 by omega), c_2]), nI_clamp (by omega)]) dX9_place_43
    · refine lv_iconst (v := (-1)) hx hb dX9_place_20 (by decide) ?_
      exact ro_iret hx hb hr hlocks (by simp [plV, c_2]) dX9_place_21
  · refine topv_eq hv1 ?_
    refine lv_astore_nN (lv' := [(3, .null), (0, .ref (a 0)), (1, .int i), (2, .int r)]) hx hb dX9_place_8 rfl hl (by decide) rfl (fun ls hl => ?_)
    refine lv_aload_nN hx hb dX9_place_9 rfl (lv_at hl 0 rfl) ?_
    refine lv_ifnullN (tgt := 20) hx hb dX9_place_10 (by decide) ?_
    refine lv_iconst (v := (-1)) hx hb dX9_place_20 (by decide) ?_
    exact ro_iret hx hb hr hlocks (by simp [plV, hf1]) dX9_place_21
set_option maxHeartbeats 4000000 in
set_option maxRecDepth 100000 in
theorem c_X9_within (l : Launch) (D : va_G) (cT : Nat → ClassId) (a : Nat → Nat) (b : Nat → Nat → Nat) (T P : Nat → Nat → Int32) (n : Nat → Nat) (co ot r : Int32) (hn : Cnt n) : Met l yX9_within wsX9_within ({ frames := 4, cells := 0, slots := 0, locals := 87 }) (va_Pc [.ref (a 0), .int co, .int ot, .int r] (PD D cT (offW cT a b T P n))) (QR (.int (wiV T n co ot r))) 0 0 (fun _ => False) := by
  refine RD_of (by decide) rfl (Nat.le_of_ble_eq_true rfl) ?_
  intro p e s m below meth c hx hb hr hts hown hlocks hml hE hP hWD ls hl
  have hiX9 : ∀ w ∈ wsX90, w ∈ wsX9_within := by decide +kernel
  have hl : lv_has ls 8 [(0, .ref (a 0)), (1, .int co), (2, .int ot), (3, .int r)] := hl
  obtain ⟨hn0, hn1, hn2, hn3, hn4⟩ := id hn
  refine lv_iload_n hx hb dX9_within_0 rfl (lv_at hl 3 rfl) ?_
  refine rd_S (As := [.int r]) (rest := []) ⟨hx, hb, hml, hown, hts⟩ (c_X9_isRank l D cT r ) (va_cwS 1 hts gX9_within_X9_isRank rfl rfl rfl (by decide +kernel) ⟨Nat.le_of_ble_eq_true rfl, Nat.le_of_ble_eq_true rfl⟩) hE va_P_nil hWD  rfl hl.1 rfl (Nat.le_of_ble_eq_true rfl) dX9_within_1 ⟨Nat.zero_le _, Nat.zero_le _⟩ ?_
  refine bi_eq (tgt := 23) hx hb dX9_within_4 (by decide) (fun c_1 => ?_) (fun c_1 => ?_)
  · refine lv_iconst (v := (-1)) hx hb dX9_within_23 (by decide) ?_
    exact ro_iret hx hb hr hlocks (by rw [wiV, if_neg (by simp [wiB, c_1])]) dX9_within_24
  · refine lv_iload_n hx hb dX9_within_7 rfl (lv_at hl 1 rfl) ?_
    refine lv_iload_n hx hb dX9_within_8 rfl (lv_at hl 3 rfl) ?_
    refine rd_S (As := [.int co, .int r]) (rest := []) ⟨hx, hb, hml, hown, hts⟩ (c_X9_isCorner l D cT co r ) (va_cwS 2 hts gX9_within_X9_isCorner rfl rfl rfl (by decide +kernel) ⟨Nat.le_of_ble_eq_true rfl, Nat.le_of_ble_eq_true rfl⟩) hE va_P_nil hWD  rfl hl.1 rfl (Nat.le_of_ble_eq_true rfl) dX9_within_9 ⟨Nat.zero_le _, Nat.zero_le _⟩ ?_
    refine bi_eq (tgt := 23) hx hb dX9_within_12 (by decide) (fun c_2 => ?_) (fun c_2 => ?_)
    · refine lv_iconst (v := (-1)) hx hb dX9_within_23 (by decide) ?_
      exact ro_iret hx hb hr hlocks (by rw [wiV, if_neg (by simp [wiB, c_1, c_2])]) dX9_within_24
    · refine lv_iload_n hx hb dX9_within_15 rfl (lv_at hl 2 rfl) ?_
      refine lv_iload_n hx hb dX9_within_16 rfl (lv_at hl 3 rfl) ?_
      refine rd_S (As := [.int ot, .int r]) (rest := []) ⟨hx, hb, hml, hown, hts⟩ (c_X9_isCorner l D cT ot r ) (va_cwS 2 hts gX9_within_X9_isCorner rfl rfl rfl (by decide +kernel) ⟨Nat.le_of_ble_eq_true rfl, Nat.le_of_ble_eq_true rfl⟩) hE va_P_nil hWD  rfl hl.1 rfl (Nat.le_of_ble_eq_true rfl) dX9_within_17 ⟨Nat.zero_le _, Nat.zero_le _⟩ ?_
      refine bi_ne (tgt := 25) hx hb dX9_within_20 (by decide) (fun c_3 => ?_) (fun c_3 => ?_)
      · refine lv_iload_n hx hb dX9_within_25 rfl (lv_at hl 1 rfl) ?_
        refine lv_sipush (v := 1001) hx hb dX9_within_26 (by decide) ?_
        refine lv_idiv hx hb dX9_within_29 (by decide) ?_
        refine lv_istore (lv' := [(4, .int (co / 1001)), (0, .ref (a 0)), (1, .int co), (2, .int ot), (3, .int r)]) hx hb dX9_within_30 hl (by decide) rfl (fun ls hl => ?_)
        refine lv_iload_n hx hb dX9_within_32 rfl (lv_at hl 2 rfl) ?_
        refine lv_sipush (v := 1001) hx hb dX9_within_33 (by decide) ?_
        refine lv_irem hx hb dX9_within_36 (by decide) ?_
        refine lv_istore (lv' := [(5, .int (co - co / 1001 * 1001)), (4, .int (co / 1001)), (0, .ref (a 0)), (1, .int co), (2, .int ot), (3, .int r)]) hx hb dX9_within_37 hl (by decide) rfl (fun ls hl => ?_)
        refine lv_iload_n hx hb dX9_within_39 rfl (lv_at hl 4 rfl) ?_
        refine lv_sipush (v := 1001) hx hb dX9_within_40 (by decide) ?_
        refine lv_idiv hx hb dX9_within_43 (by decide) ?_
        refine lv_istore (lv' := [(6, .int (ot / 1001)), (5, .int (co - co / 1001 * 1001)), (4, .int (co / 1001)), (0, .ref (a 0)), (1, .int co), (2, .int ot), (3, .int r)]) hx hb dX9_within_44 hl (by decide) rfl (fun ls hl => ?_)
        refine lv_iload_n hx hb dX9_within_46 rfl (lv_at hl 5 rfl) ?_
        refine lv_sipush (v := 1001) hx hb dX9_within_47 (by decide) ?_
        refine lv_irem hx hb dX9_within_50 (by decide) ?_
        refine lv_istore (lv' := [(7, .int (ot - ot / 1001 * 1001)), (6, .int (ot / 1001)), (5, .int (co - co / 1001 * 1001)), (4, .int (co / 1001)), (0, .ref (a 0)), (1, .int co), (2, .int ot), (3, .int r)]) hx hb dX9_within_51 hl (by decide) rfl (fun ls hl => ?_)
        refine lv_iload hx hb dX9_within_53 (lv_at hl 1 rfl) ?_
        refine lv_iload hx hb dX9_within_55 (lv_at hl 3 rfl) ?_
        refine lv_icmp_le (tgt := 67) hx hb dX9_within_57 (by decide) (fun c_4 => ?_) (fun c_4 => ?_)
        · refine lv_iconst (v := (-1)) hx hb dX9_within_67 (by decide) ?_
          exact ro_iret hx hb hr hlocks (by rw [wiV, if_neg (by simp [wiB, c_1, c_2, c_3, c_4])]) dX9_within_68
        · refine lv_iload hx hb dX9_within_60 (lv_at hl 0 rfl) ?_
          refine lv_iload hx hb dX9_within_62 (lv_at hl 2 rfl) ?_
          refine lv_icmp_gt (tgt := 69) hx hb dX9_within_64 (by decide) (fun c_5 => ?_) (fun c_5 => ?_)
          · refine lv_aload_n hx hb dX9_within_69 rfl (lv_at hl 4 rfl) ?_
            refine va_get (D := D) (ci := 9) (v := .ref (a 7)) (C := RX9) (T := TX9) (N := 7) hx hb hts hiX9 hown hE.1 hP 0 ofl_0 rfl 3 (by decide) (hts (.fieldLink RX9 30 "FindsOffice" "findBook" "LFindsOffice$FindBook;") (by decide +kernel)) (fun _ h9 => h9) rfl dX9_within_70 ?_
            refine lv_iload hx hb dX9_within_73 (lv_at hl 3 rfl) ?_
            refine lv_iload hx hb dX9_within_75 (lv_at hl 1 rfl) ?_
            refine lv_iload hx hb dX9_within_77 (lv_at hl 2 rfl) ?_
            refine lv_iload hx hb dX9_within_79 (lv_at hl 0 rfl) ?_
            refine ro_V (As := [.int (co / 1001), .int (ot / 1001), .int (co - co / 1001 * 1001), .int (ot - ot / 1001 * 1001)]) (rest := []) ⟨hx, hb, hml, hown, hts⟩ (c_X2_tally l D cT a b T P n (co / 1001) (ot / 1001) (co - co / 1001 * 1001) (ot - ot / 1001 * 1001) hn) (cwV 4 hts gX9_within_X2_tally rfl rfl rfl (by decide +kernel) ⟨Nat.le_of_ble_eq_true rfl, Nat.le_of_ble_eq_true rfl⟩) hE hP 7 2 ofl_7 rfl rfl rfl hl.1 rfl (Nat.le_of_ble_eq_true rfl) dX9_within_81 ⟨Nat.zero_le _, Nat.zero_le _⟩ ?_
            exact ro_iret hx hb hr hlocks (by rw [wiV, if_pos (by simp [wiB, c_1, c_2, c_3, c_4, c_5])]) dX9_within_84
          · refine lv_iconst (v := (-1)) hx hb dX9_within_67 (by decide) ?_
            exact ro_iret hx hb hr hlocks (by rw [wiV, if_neg (by simp [wiB, c_1, c_2, c_3, c_4, c_5])]) dX9_within_68
      · refine lv_iconst (v := (-1)) hx hb dX9_within_23 (by decide) ?_
        exact ro_iret hx hb hr hlocks (by rw [wiV, if_neg (by simp [wiB, c_1, c_2, c_3])]) dX9_within_24
set_option maxHeartbeats 4000000 in
set_option maxRecDepth 100000 in
theorem c_X10_place (l : Launch) (D : va_G) (cT : Nat → ClassId) (a : Nat → Nat) (T : Nat → Nat → Int32) (n : Nat → Nat) (z : Nat → Int32) (i r : Int32) (hn : Cnt n) : Met l yX10_place wsX10_place ({ frames := 2, cells := 0, slots := 0, locals := 43 }) (va_Pc [.ref (a 0), .int i, .int r] (PB D cT (modW cT a T n z))) (QR (.int (plV T n i r))) 0 0 (fun _ => False) := by
  refine RO_of (by decide) rfl (Nat.le_of_ble_eq_true rfl) ?_
  intro p e s m below meth c hx hb hr hts hown hlocks hml hE hP ls hl
  have hiX10 : ∀ w ∈ wsX100, w ∈ wsX10_place := by decide +kernel
  have hl : lv_has ls 4 [(0, .ref (a 0)), (1, .int i), (2, .int r)] := hl
  obtain ⟨hn0, hn1, hn2, hn3, hn4⟩ := id hn
  refine lv_aload_n hx hb dX10_place_0 rfl (lv_at hl 0 rfl) ?_
  refine lv_iload_n hx hb dX10_place_1 rfl (lv_at hl 1 rfl) ?_
  refine ro_V (As := [.int i]) (rest := []) ⟨hx, hb, hml, hown, hts⟩ (c_X10_isFind l D cT a T n z i hn) (cwV 1 hts gX10_place_X10_isFind rfl rfl rfl (by decide +kernel) ⟨Nat.le_of_ble_eq_true rfl, Nat.le_of_ble_eq_true rfl⟩) hE hP 0 10 mol_0 rfl rfl rfl hl.1 rfl (Nat.le_of_ble_eq_true rfl) dX10_place_2 ⟨Nat.zero_le _, Nat.zero_le _⟩ ?_
  refine bi_eq (tgt := 17) hx hb dX10_place_5 (by decide) (fun c_1 => ?_) (fun c_1 => ?_)
  · refine lv_iconst (v := (-1)) hx hb dX10_place_17 (by decide) ?_
    exact ro_iret hx hb hr hlocks (by simp [plV, c_1]) dX10_place_18
  · obtain ⟨k, hk, rfl⟩ := isT_k c_1 (by omega)
    refine lv_iload_n hx hb dX10_place_8 rfl (lv_at hl 2 rfl) ?_
    refine lv_iconst (v := 0) hx hb dX10_place_9 (by decide) ?_
    refine lv_iconst (v := 3) hx hb dX10_place_10 (by decide) ?_
    refine ro_S (As := [.int r, .int 0, .int 3]) (rest := []) ⟨hx, hb, hml, hown, hts⟩ (c_X10_in l D cT r 0 3 ) (va_cwS 3 hts gX10_place_X10_in rfl rfl rfl (by decide +kernel) ⟨Nat.le_of_ble_eq_true rfl, Nat.le_of_ble_eq_true rfl⟩) hE va_P_nil  rfl hl.1 rfl (Nat.le_of_ble_eq_true rfl) dX10_place_11 ⟨Nat.zero_le _, Nat.zero_le _⟩ ?_
    refine bi_ne (tgt := 19) hx hb dX10_place_14 (by decide) (fun c_2 => ?_) (fun c_2 => ?_)
    · refine lv_iload_n hx hb dX10_place_19 rfl (lv_at hl 2 rfl) ?_
      refine ro_S (As := [.int r]) (rest := []) ⟨hx, hb, hml, hown, hts⟩ (c_X10_wide l D cT r ) (va_cwS 1 hts gX10_place_X10_wide rfl rfl rfl (by decide +kernel) ⟨Nat.le_of_ble_eq_true rfl, Nat.le_of_ble_eq_true rfl⟩) hE va_P_nil  rfl hl.1 rfl (Nat.le_of_ble_eq_true rfl) dX10_place_20 ⟨Nat.zero_le _, Nat.zero_le _⟩ ?_
      refine topi_eq (y := widV r) rfl ?_
      refine lv_istore_n (lv' := [(3, .int (widV r)), (0, .ref (a 0)), (1, .int (nI k)), (2, .int r)]) hx hb dX10_place_23 rfl hl (by decide) rfl (fun ls hl => ?_)
      have hne : ¬ widV r = 0 := fun q => wid_pos r (by rw [q]; decide)
      refine lv_aload_n hx hb dX10_place_24 rfl (lv_at hl 1 rfl) ?_
      refine va_get (D := D) (ci := 10) (v := .ref (a 2)) (C := RX10) (T := TX10) (N := 38) hx hb hts hiX10 hown hE.1 hP 0 mol_0 rfl 2 (by decide) (hts (.fieldLink RX10 9 "FindsOfficeModel" "x" "[I") (by decide +kernel)) (fun _ h9 => h9) rfl dX10_place_25 ?_
      refine lv_iload_n hx hb dX10_place_28 rfl (lv_at hl 2 rfl) ?_
      refine my_iald (k := k) hx hb hE.1 hP 1 0 mol_2 rfl rfl (by omega) (by decide) dX10_place_29 ?_
      refine lv_aload_n hx hb dX10_place_30 rfl (lv_at hl 1 rfl) ?_
      refine va_get (D := D) (ci := 10) (v := .ref (a 2)) (C := RX10) (T := TX10) (N := 38) hx hb hts hiX10 hown hE.1 hP 0 mol_0 rfl 2 (by decide) (hts (.fieldLink RX10 9 "FindsOfficeModel" "x" "[I") (by decide +kernel)) (fun _ h9 => h9) rfl dX10_place_31 ?_
      refine lv_iload_n hx hb dX10_place_34 rfl (lv_at hl 2 rfl) ?_
      refine my_iald (k := k) hx hb hE.1 hP 1 0 mol_2 rfl rfl (by omega) (by decide) dX10_place_35 ?_
      refine lv_iload_n hx hb dX10_place_36 rfl (lv_at hl 0 rfl) ?_
      refine lv_irem hx hb dX10_place_37 hne ?_
      refine lv_isub hx hb dX10_place_38 ?_
      refine lv_sipush (v := 1000) hx hb dX10_place_39 (by decide) ?_
      refine lv_imul hx hb dX10_place_42 ?_
      refine lv_aload_n hx hb dX10_place_43 rfl (lv_at hl 1 rfl) ?_
      refine va_get (D := D) (ci := 10) (v := .ref (a 3)) (C := RX10) (T := TX10) (N := 38) hx hb hts hiX10 hown hE.1 hP 0 mol_0 rfl 3 (by decide) (hts (.fieldLink RX10 13 "FindsOfficeModel" "y" "[I") (by decide +kernel)) (fun _ h9 => h9) rfl dX10_place_44 ?_
      refine lv_iload_n hx hb dX10_place_47 rfl (lv_at hl 2 rfl) ?_
      refine my_iald (k := k) hx hb hE.1 hP 2 0 mol_3 rfl rfl (by omega) (by decide) dX10_place_48 ?_
      refine lv_iadd hx hb dX10_place_49 ?_
      refine lv_aload_n hx hb dX10_place_50 rfl (lv_at hl 1 rfl) ?_
      refine va_get (D := D) (ci := 10) (v := .ref (a 3)) (C := RX10) (T := TX10) (N := 38) hx hb hts hiX10 hown hE.1 hP 0 mol_0 rfl 3 (by decide) (hts (.fieldLink RX10 13 "FindsOfficeModel" "y" "[I") (by decide +kernel)) (fun _ h9 => h9) rfl dX10_place_51 ?_
      refine lv_iload_n hx hb dX10_place_54 rfl (lv_at hl 2 rfl) ?_
      refine my_iald (k := k) hx hb hE.1 hP 2 0 mol_3 rfl rfl (by omega) (by decide) dX10_place_55 ?_
      refine lv_iload_n hx hb dX10_place_56 rfl (lv_at hl 0 rfl) ?_
      refine lv_irem hx hb dX10_place_57 hne ?_
      refine lv_isub hx hb dX10_place_58 ?_
      exact ro_iret hx hb hr hlocks (by rw [plV, if_pos (by simp [c_1, c_2]), nI_clamp (by omega)]; exact pl_sum) dX10_place_59
    · refine lv_iconst (v := (-1)) hx hb dX10_place_17 (by decide) ?_
      exact ro_iret hx hb hr hlocks (by simp [plV, c_1, c_2]) dX10_place_18
set_option maxHeartbeats 4000000 in
set_option maxRecDepth 100000 in
theorem c_X10_within (l : Launch) (D : va_G) (cT : Nat → ClassId) (a : Nat → Nat) (T : Nat → Nat → Int32) (n : Nat → Nat) (z : Nat → Int32) (co ot r : Int32) (hn : Cnt n) : Met l yX10_within wsX10_within ({ frames := 1, cells := 0, slots := 0, locals := 22 }) (va_Pc [.ref (a 0), .int co, .int ot, .int r] (PB D cT (modW cT a T n z))) (QR (.int (wiV T n co ot r))) 0 0 (fun _ => False) := by
  refine RO_of (by decide) rfl (Nat.le_of_ble_eq_true rfl) ?_
  intro p e s m below meth c hx hb hr hts hown hlocks hml hE hP ls hl
  have hiX10 : ∀ w ∈ wsX100, w ∈ wsX10_within := by decide +kernel
  have hl : lv_has ls 11 [(0, .ref (a 0)), (1, .int co), (2, .int ot), (3, .int r)] := hl
  obtain ⟨hn0, hn1, hn2, hn3, hn4⟩ := id hn
  refine lv_iload_n hx hb dX10_within_0 rfl (lv_at hl 3 rfl) ?_
  refine lv_iconst (v := 0) hx hb dX10_within_1 (by decide) ?_
  refine lv_iconst (v := 3) hx hb dX10_within_2 (by decide) ?_
  refine ro_S (As := [.int r, .int 0, .int 3]) (rest := []) ⟨hx, hb, hml, hown, hts⟩ (c_X10_in l D cT r 0 3 ) (va_cwS 3 hts gX10_within_X10_in rfl rfl rfl (by decide +kernel) ⟨Nat.le_of_ble_eq_true rfl, Nat.le_of_ble_eq_true rfl⟩) hE va_P_nil  rfl hl.1 rfl (Nat.le_of_ble_eq_true rfl) dX10_within_3 ⟨Nat.zero_le _, Nat.zero_le _⟩ ?_
  refine bi_eq (tgt := 29) hx hb dX10_within_6 (by decide) (fun c_1 => ?_) (fun c_1 => ?_)
  · refine lv_iconst (v := (-1)) hx hb dX10_within_29 (by decide) ?_
    exact ro_iret hx hb hr hlocks (by rw [wiV, if_neg (by simp [wiB, crB, c_1])]) dX10_within_30
  · refine lv_iload_n hx hb dX10_within_9 rfl (lv_at hl 1 rfl) ?_
    refine lv_iconst (v := 0) hx hb dX10_within_10 (by decide) ?_
    refine lv_ldc (own := RX10) (v := 1002000) hx hb hown (hts (.constant RX10 183 1002000) (by decide +kernel)) dX10_within_11 ?_
    refine ro_S (As := [.int co, .int 0, .int 1002000]) (rest := []) ⟨hx, hb, hml, hown, hts⟩ (c_X10_in l D cT co 0 1002000 ) (va_cwS 3 hts gX10_within_X10_in rfl rfl rfl (by decide +kernel) ⟨Nat.le_of_ble_eq_true rfl, Nat.le_of_ble_eq_true rfl⟩) hE va_P_nil  rfl hl.1 rfl (Nat.le_of_ble_eq_true rfl) dX10_within_13 ⟨Nat.zero_le _, Nat.zero_le _⟩ ?_
    refine bi_eq (tgt := 29) hx hb dX10_within_16 (by decide) (fun c_2 => ?_) (fun c_2 => ?_)
    · refine lv_iconst (v := (-1)) hx hb dX10_within_29 (by decide) ?_
      exact ro_iret hx hb hr hlocks (by rw [wiV, if_neg (by simp [wiB, crB, c_1, c_2])]) dX10_within_30
    · refine lv_iload_n hx hb dX10_within_19 rfl (lv_at hl 2 rfl) ?_
      refine lv_iconst (v := 0) hx hb dX10_within_20 (by decide) ?_
      refine lv_ldc (own := RX10) (v := 1002000) hx hb hown (hts (.constant RX10 183 1002000) (by decide +kernel)) dX10_within_21 ?_
      refine ro_S (As := [.int ot, .int 0, .int 1002000]) (rest := []) ⟨hx, hb, hml, hown, hts⟩ (c_X10_in l D cT ot 0 1002000 ) (va_cwS 3 hts gX10_within_X10_in rfl rfl rfl (by decide +kernel) ⟨Nat.le_of_ble_eq_true rfl, Nat.le_of_ble_eq_true rfl⟩) hE va_P_nil  rfl hl.1 rfl (Nat.le_of_ble_eq_true rfl) dX10_within_23 ⟨Nat.zero_le _, Nat.zero_le _⟩ ?_
      refine bi_ne (tgt := 31) hx hb dX10_within_26 (by decide) (fun c_3 => ?_) (fun c_3 => ?_)
      · refine lv_iload_n hx hb dX10_within_31 rfl (lv_at hl 1 rfl) ?_
        refine lv_sipush (v := 1001) hx hb dX10_within_32 (by decide) ?_
        refine lv_idiv hx hb dX10_within_35 (by decide) ?_
        refine lv_istore (lv' := [(4, .int (co / 1001)), (0, .ref (a 0)), (1, .int co), (2, .int ot), (3, .int r)]) hx hb dX10_within_36 hl (by decide) rfl (fun ls hl => ?_)
        refine lv_iload_n hx hb dX10_within_38 rfl (lv_at hl 2 rfl) ?_
        refine lv_sipush (v := 1001) hx hb dX10_within_39 (by decide) ?_
        refine lv_irem hx hb dX10_within_42 (by decide) ?_
        refine lv_istore (lv' := [(5, .int (co - co / 1001 * 1001)), (4, .int (co / 1001)), (0, .ref (a 0)), (1, .int co), (2, .int ot), (3, .int r)]) hx hb dX10_within_43 hl (by decide) rfl (fun ls hl => ?_)
        refine lv_iload_n hx hb dX10_within_45 rfl (lv_at hl 4 rfl) ?_
        refine lv_sipush (v := 1001) hx hb dX10_within_46 (by decide) ?_
        refine lv_idiv hx hb dX10_within_49 (by decide) ?_
        refine lv_istore (lv' := [(6, .int (ot / 1001)), (5, .int (co - co / 1001 * 1001)), (4, .int (co / 1001)), (0, .ref (a 0)), (1, .int co), (2, .int ot), (3, .int r)]) hx hb dX10_within_50 hl (by decide) rfl (fun ls hl => ?_)
        refine lv_iload_n hx hb dX10_within_52 rfl (lv_at hl 5 rfl) ?_
        refine lv_sipush (v := 1001) hx hb dX10_within_53 (by decide) ?_
        refine lv_irem hx hb dX10_within_56 (by decide) ?_
        refine lv_istore (lv' := [(7, .int (ot - ot / 1001 * 1001)), (6, .int (ot / 1001)), (5, .int (co - co / 1001 * 1001)), (4, .int (co / 1001)), (0, .ref (a 0)), (1, .int co), (2, .int ot), (3, .int r)]) hx hb dX10_within_57 hl (by decide) rfl (fun ls hl => ?_)
        refine lv_iload_n hx hb dX10_within_59 rfl (lv_at hl 7 rfl) ?_
        refine ro_S (As := [.int r]) (rest := []) ⟨hx, hb, hml, hown, hts⟩ (c_X10_wide l D cT r ) (va_cwS 1 hts gX10_within_X10_wide rfl rfl rfl (by decide +kernel) ⟨Nat.le_of_ble_eq_true rfl, Nat.le_of_ble_eq_true rfl⟩) hE va_P_nil  rfl hl.1 rfl (Nat.le_of_ble_eq_true rfl) dX10_within_60 ⟨Nat.zero_le _, Nat.zero_le _⟩ ?_
        refine topi_eq (y := widV r) rfl ?_
        refine lv_istore (lv' := [(8, .int (widV r)), (7, .int (ot - ot / 1001 * 1001)), (6, .int (ot / 1001)), (5, .int (co - co / 1001 * 1001)), (4, .int (co / 1001)), (0, .ref (a 0)), (1, .int co), (2, .int ot), (3, .int r)]) hx hb dX10_within_63 hl (by decide) rfl (fun ls hl => ?_)
        have hne : ¬ widV r = 0 := fun q => wid_pos r (by rw [q]; decide)
        refine lv_iload hx hb dX10_within_65 (lv_at hl 4 rfl) ?_
        refine lv_iload hx hb dX10_within_67 (lv_at hl 0 rfl) ?_
        refine lv_irem hx hb dX10_within_69 hne ?_
        refine lv_iload hx hb dX10_within_70 (lv_at hl 2 rfl) ?_
        refine lv_iload hx hb dX10_within_72 (lv_at hl 0 rfl) ?_
        refine lv_irem hx hb dX10_within_74 hne ?_
        refine lv_iadd hx hb dX10_within_75 ?_
        refine lv_iload hx hb dX10_within_76 (lv_at hl 3 rfl) ?_
        refine lv_iload hx hb dX10_within_78 (lv_at hl 0 rfl) ?_
        refine lv_irem hx hb dX10_within_80 hne ?_
        refine lv_iadd hx hb dX10_within_81 ?_
        refine lv_iload hx hb dX10_within_82 (lv_at hl 1 rfl) ?_
        refine lv_iload hx hb dX10_within_84 (lv_at hl 0 rfl) ?_
        refine lv_irem hx hb dX10_within_86 hne ?_
        refine lv_iadd hx hb dX10_within_87 ?_
        refine lv_if_gt (tgt := 105) hx hb dX10_within_88 (by decide) (fun c_4 => ?_) (fun c_4 => ?_)
        · refine lv_iconst (v := (-1)) hx hb dX10_within_105 (by decide) ?_
          exact ro_iret hx hb hr hlocks (by rw [wiV, if_neg (by rw [within_eq c_1 c_2 c_3]; simp only [rmV]; simp [c_4])]) dX10_within_106
        · refine lv_iload hx hb dX10_within_91 (lv_at hl 2 rfl) ?_
          refine lv_iload hx hb dX10_within_93 (lv_at hl 4 rfl) ?_
          refine lv_icmp_le (tgt := 105) hx hb dX10_within_95 (by decide) (fun c_5 => ?_) (fun c_5 => ?_)
          · refine lv_iconst (v := (-1)) hx hb dX10_within_105 (by decide) ?_
            exact ro_iret hx hb hr hlocks (by rw [wiV, if_neg (by rw [within_eq c_1 c_2 c_3]; simp only [rmV]; simp [c_4, c_5])]) dX10_within_106
          · refine lv_iload hx hb dX10_within_98 (lv_at hl 1 rfl) ?_
            refine lv_iload hx hb dX10_within_100 (lv_at hl 3 rfl) ?_
            refine lv_icmp_gt (tgt := 107) hx hb dX10_within_102 (by decide) (fun c_6 => ?_) (fun c_6 => ?_)
            · refine lv_iconst (v := 0) hx hb dX10_within_107 (by decide) ?_
              refine lv_istore (lv' := [(9, .int 0), (8, .int (widV r)), (7, .int (ot - ot / 1001 * 1001)), (6, .int (ot / 1001)), (5, .int (co - co / 1001 * 1001)), (4, .int (co / 1001)), (0, .ref (a 0)), (1, .int co), (2, .int ot), (3, .int r)]) hx hb dX10_within_108 hl (by decide) rfl (fun ls hl => ?_)
              refine lv_iconst (v := 0) hx hb dX10_within_110 (by decide) ?_
              refine lv_istore (lv' := [(10, .int 0), (9, .int 0), (8, .int (widV r)), (7, .int (ot - ot / 1001 * 1001)), (6, .int (ot / 1001)), (5, .int (co - co / 1001 * 1001)), (4, .int (co / 1001)), (0, .ref (a 0)), (1, .int co), (2, .int ot), (3, .int r)]) hx hb dX10_within_111 hl (by decide) rfl (fun ls hl => ?_)
              have loop_113 : ∀ (fuel_113 : Nat) (j : Nat) (v : Int32), j ≤ n 1 → v = nI (tlN T (co / 1001) (ot / 1001) (co - co / 1001 * 1001) (ot - ot / 1001 * 1001) j) → n 1 - j < fuel_113 → ∀ (ls : Array Slot), lv_has ls 11 [(0, .ref (a 0)), (1, .int co), (2, .int ot), (3, .int r), (4, .int (co / 1001)), (5, .int (co - co / 1001 * 1001)), (6, .int (ot / 1001)), (7, .int (ot - ot / 1001 * 1001)), (8, .int (widV r)), (9, .int v), (10, .int (nI j))] → W p l e ({ frames := 1, cells := 0, slots := 0, locals := 22 }) s m (List.toArray [.ref (a 0), .int co, .int ot, .int r]) below meth c s.heap [] 0 0 (MQ below (QR (.int (wiV T n co ot r))) (List.toArray [.ref (a 0), .int co, .int ot, .int r]) s 0 0 (fun _ => False)) (F0 m 113 ls []) := by
                intro fuel_113
                induction fuel_113 with
                | zero => intro j v hj hv hfuel_113; exact absurd hfuel_113 (Nat.not_lt_zero _)
                | succ fuel_113 ih_113 =>
                  intro j v hj hv hfuel_113 ls hl
                  refine lv_iload hx hb dX10_within_113 (lv_at hl 10 rfl) ?_
                  refine lv_aload_n hx hb dX10_within_115 rfl (lv_at hl 0 rfl) ?_
                  refine va_get (D := D) (ci := 10) (v := .int (nI (n 1))) (C := RX10) (T := TX10) (N := 38) hx hb hts hiX10 hown hE.1 hP 0 mol_0 rfl 1 (by decide) (hts (.fieldLink RX10 106 "FindsOfficeModel" "finds" "I") (by decide +kernel)) (fun _ h9 => h9) rfl dX10_within_116 ?_
                  refine lv_icmp_ge (tgt := 176) hx hb dX10_within_119 (by decide) (fun c_7 => ?_) (fun c_7 => ?_)
                  · have k_7 := nat_le (a := (n 1)) (b := j) c_7 (by omega) (by omega)
                    refine lv_iload hx hb dX10_within_176 (lv_at hl 9 rfl) ?_
                    exact ro_iret hx hb hr hlocks (by rw [wiV, if_pos (by rw [within_eq c_1 c_2 c_3]; simp only [rmV]; simp [c_4, c_5, c_6]), hv, show j = n 1 by omega]) dX10_within_178
                  · have k_7 := nat_nle (a := (n 1)) (b := j) c_7 (by omega) (by omega)
                    refine lv_iload hx hb dX10_within_122 (lv_at hl 9 rfl) ?_
                    have J_167 : ∀ (jv : Int32), jv = (b2 (btw (T 2 j) (co / 1001) (ot / 1001 - 1) && btw (T 3 j) (co - co / 1001 * 1001) (ot - ot / 1001 * 1001 - 1))) → ∀ (ls : Array Slot), lv_has ls 11 [(0, .ref (a 0)), (1, .int co), (2, .int ot), (3, .int r), (4, .int (co / 1001)), (5, .int (co - co / 1001 * 1001)), (6, .int (ot / 1001)), (7, .int (ot - ot / 1001 * 1001)), (8, .int (widV r)), (9, .int v), (10, .int (nI j))] → W p l e ({ frames := 1, cells := 0, slots := 0, locals := 22 }) s m (List.toArray [.ref (a 0), .int co, .int ot, .int r]) below meth c s.heap [] 0 0 (MQ below (QR (.int (wiV T n co ot r))) (List.toArray [.ref (a 0), .int co, .int ot, .int r]) s 0 0 (fun _ => False)) (F0 m 167 ls [.int jv, .int v]) := by
                      intro jv hjv ls hl
                      subst hjv
                      refine lv_iadd hx hb dX10_within_167 ?_
                      refine lv_istore (lv' := [(9, .int (v + (b2 (btw (T 2 j) (co / 1001) (ot / 1001 - 1) && btw (T 3 j) (co - co / 1001 * 1001) (ot - ot / 1001 * 1001 - 1))))), (0, .ref (a 0)), (1, .int co), (2, .int ot), (3, .int r), (4, .int (co / 1001)), (5, .int (co - co / 1001 * 1001)), (6, .int (ot / 1001)), (7, .int (ot - ot / 1001 * 1001)), (8, .int (widV r)), (10, .int (nI j))]) hx hb dX10_within_168 hl (by decide) rfl (fun ls hl => ?_)
                      refine lv_iinc (v := nI (j + 1)) (lv' := [(10, .int (nI (j + 1))), (9, .int (v + (b2 (btw (T 2 j) (co / 1001) (ot / 1001 - 1) && btw (T 3 j) (co - co / 1001 * 1001) (ot - ot / 1001 * 1001 - 1))))), (0, .ref (a 0)), (1, .int co), (2, .int ot), (3, .int r), (4, .int (co / 1001)), (5, .int (co - co / 1001 * 1001)), (6, .int (ot / 1001)), (7, .int (ot - ot / 1001 * 1001)), (8, .int (widV r))]) hx hb dX10_within_170 hl (k := 10) rfl (nI_1 _) (by decide) rfl (fun ls hl => ?_)
                      refine lv_goto (tgt := 113) hx hb dX10_within_173 (by decide) ?_
                      exact ih_113 (j + 1) _ (by omega) (by rw [hv, tlN]; exact sb_step) (by omega) ls (lv_sub hl [2, 3, 4, 5, 6, 7, 8, 9, 10, 1, 0] rfl)
                    refine lv_aload_n hx hb dX10_within_124 rfl (lv_at hl 0 rfl) ?_
                    refine va_get (D := D) (ci := 10) (v := .ref (a 2)) (C := RX10) (T := TX10) (N := 38) hx hb hts hiX10 hown hE.1 hP 0 mol_0 rfl 2 (by decide) (hts (.fieldLink RX10 9 "FindsOfficeModel" "x" "[I") (by decide +kernel)) (fun _ h9 => h9) rfl dX10_within_125 ?_
                    refine lv_iload hx hb dX10_within_128 (lv_at hl 10 rfl) ?_
                    refine my_iald (k := j) hx hb hE.1 hP 1 0 mol_2 rfl rfl (by omega) (by decide) dX10_within_130 ?_
                    refine lv_iload hx hb dX10_within_131 (lv_at hl 4 rfl) ?_
                    refine lv_iload hx hb dX10_within_133 (lv_at hl 6 rfl) ?_
                    refine lv_iconst (v := 1) hx hb dX10_within_135 (by decide) ?_
                    refine lv_isub hx hb dX10_within_136 ?_
                    refine ro_S (As := [.int (T 2 j), .int (co / 1001), .int ((ot / 1001) - 1)]) (rest := [.int v]) ⟨hx, hb, hml, hown, hts⟩ (c_X10_in l D cT (T 2 j) (co / 1001) ((ot / 1001) - 1) ) (va_cwS 3 hts gX10_within_X10_in rfl rfl rfl (by decide +kernel) ⟨Nat.le_of_ble_eq_true rfl, Nat.le_of_ble_eq_true rfl⟩) hE va_P_nil  rfl hl.1 rfl (Nat.le_of_ble_eq_true rfl) dX10_within_137 ⟨Nat.zero_le _, Nat.zero_le _⟩ ?_
                    refine bi_eq (tgt := 166) hx hb dX10_within_140 (by decide) (fun c_8 => ?_) (fun c_8 => ?_)
                    · refine lv_iconst (v := 0) hx hb dX10_within_166 (by decide) ?_
                      exact J_167 _ (by simp [b2, c_1, c_2, c_3, c_4, c_5, c_6, c_7, c_8]) ls (lv_sub hl [0, 1, 2, 3, 4, 5, 6, 7, 8, 9, 10] rfl)
                    · refine lv_aload_n hx hb dX10_within_143 rfl (lv_at hl 0 rfl) ?_
                      refine va_get (D := D) (ci := 10) (v := .ref (a 3)) (C := RX10) (T := TX10) (N := 38) hx hb hts hiX10 hown hE.1 hP 0 mol_0 rfl 3 (by decide) (hts (.fieldLink RX10 13 "FindsOfficeModel" "y" "[I") (by decide +kernel)) (fun _ h9 => h9) rfl dX10_within_144 ?_
                      refine lv_iload hx hb dX10_within_147 (lv_at hl 10 rfl) ?_
                      refine my_iald (k := j) hx hb hE.1 hP 2 0 mol_3 rfl rfl (by omega) (by decide) dX10_within_149 ?_
                      refine lv_iload hx hb dX10_within_150 (lv_at hl 5 rfl) ?_
                      refine lv_iload hx hb dX10_within_152 (lv_at hl 7 rfl) ?_
                      refine lv_iconst (v := 1) hx hb dX10_within_154 (by decide) ?_
                      refine lv_isub hx hb dX10_within_155 ?_
                      refine ro_S (As := [.int (T 3 j), .int (co - co / 1001 * 1001), .int ((ot - ot / 1001 * 1001) - 1)]) (rest := [.int v]) ⟨hx, hb, hml, hown, hts⟩ (c_X10_in l D cT (T 3 j) (co - co / 1001 * 1001) ((ot - ot / 1001 * 1001) - 1) ) (va_cwS 3 hts gX10_within_X10_in rfl rfl rfl (by decide +kernel) ⟨Nat.le_of_ble_eq_true rfl, Nat.le_of_ble_eq_true rfl⟩) hE va_P_nil  rfl hl.1 rfl (Nat.le_of_ble_eq_true rfl) dX10_within_156 ⟨Nat.zero_le _, Nat.zero_le _⟩ ?_
                      refine bi_eq (tgt := 166) hx hb dX10_within_159 (by decide) (fun c_9 => ?_) (fun c_9 => ?_)
                      · refine lv_iconst (v := 0) hx hb dX10_within_166 (by decide) ?_
                        exact J_167 _ (by simp [b2, c_1, c_2, c_3, c_4, c_5, c_6, c_7, c_8, c_9]) ls (lv_sub hl [0, 1, 2, 3, 4, 5, 6, 7, 8, 9, 10] rfl)
                      · refine lv_iconst (v := 1) hx hb dX10_within_162 (by decide) ?_
                        refine lv_goto (tgt := 167) hx hb dX10_within_163 (by decide) ?_
                        exact J_167 _ (by simp [b2, c_1, c_2, c_3, c_4, c_5, c_6, c_7, c_8, c_9]) ls (lv_sub hl [0, 1, 2, 3, 4, 5, 6, 7, 8, 9, 10] rfl)
              exact loop_113 _ 0 0 (by omega) rfl (Nat.lt_succ_self _) ls (lv_sub hl [7, 8, 9, 10, 6, 5, 4, 3, 2, 1, 0] rfl)
            · refine lv_iconst (v := (-1)) hx hb dX10_within_105 (by decide) ?_
              exact ro_iret hx hb hr hlocks (by rw [wiV, if_neg (by rw [within_eq c_1 c_2 c_3]; simp only [rmV]; simp [c_4, c_5, c_6])]) dX10_within_106
      · refine lv_iconst (v := (-1)) hx hb dX10_within_29 (by decide) ?_
        exact ro_iret hx hb hr hlocks (by rw [wiV, if_neg (by simp [wiB, crB, c_1, c_2, c_3])]) dX10_within_30
