set_option maxHeartbeats 4000000 in
set_option maxRecDepth 100000 in
theorem c_X2_isTold (l : Launch) (D : va_G) (cT : Nat → ClassId) (a : Nat → Nat) (b : Nat → Nat → Nat) (T P : Nat → Nat → Int32) (n : Nat → Nat) (i : Int32) (hn : Cnt n) : Met l yX2_isTold wsX2_isTold ({ frames := 0, cells := 0, slots := 0, locals := 0 }) (va_Pc [.ref (a 7), .int i] (PB D cT (offW cT a b T P n))) (QR (.int (b2 (isT (n 1) i)))) 0 0 (fun _ => False) := by
  refine RO_of (by decide) rfl (Nat.le_of_ble_eq_true rfl) ?_
  intro p e s m below meth c hx hb hr hts hown hlocks hml hE hP ls hl
  have hiX2 : ∀ w ∈ wsX20, w ∈ wsX2_isTold := by decide +kernel
  have hl : lv_has ls 2 [(0, .ref (a 7)), (1, .int i)] := hl
  obtain ⟨hn0, hn1, hn2, hn3, hn4⟩ := id hn
  refine lv_iload_n hx hb dX2_isTold_0 rfl (lv_at hl 1 rfl) ?_
  refine lv_if_lt (tgt := 22) hx hb dX2_isTold_1 (by decide) (fun c_1 => ?_) (fun c_1 => ?_)
  · refine lv_iconst (v := 0) hx hb dX2_isTold_22 (by decide) ?_
    exact ro_zret hx hb hr hlocks (by first | rfl | (simp [b2, btw, isT, c_1]; done)) dX2_isTold_23
  · refine lv_iload_n hx hb dX2_isTold_4 rfl (lv_at hl 1 rfl) ?_
    refine lv_aload_n hx hb dX2_isTold_5 rfl (lv_at hl 0 rfl) ?_
    refine va_get (D := D) (ci := 2) (v := .int (nI (n 1))) (C := RX2) (T := TX2) (N := 7) hx hb hts hiX2 hown hE.1 hP 7 ofl_7 rfl 1 (by decide) (hts (.fieldLink RX2 17 "FindsOffice$FindBook" "told" "I") (by decide +kernel)) (fun _ h9 => h9) rfl dX2_isTold_6 ?_
    refine lv_icmp_ge (tgt := 22) hx hb dX2_isTold_9 (by decide) (fun c_2 => ?_) (fun c_2 => ?_)
    · refine lv_iconst (v := 0) hx hb dX2_isTold_22 (by decide) ?_
      exact ro_zret hx hb hr hlocks (by first | rfl | (simp [b2, btw, isT, c_1, c_2]; done)) dX2_isTold_23
    · refine lv_iload_n hx hb dX2_isTold_12 rfl (lv_at hl 1 rfl) ?_
      refine lv_bipush (v := 50) hx hb dX2_isTold_13 (by decide) ?_
      refine lv_icmp_ge (tgt := 22) hx hb dX2_isTold_15 (by decide) (fun c_3 => ?_) (fun c_3 => ?_)
      · exact absurd c_3 (nle_of c_2 hn1 (by decide))
      · refine lv_iconst (v := 1) hx hb dX2_isTold_18 (by decide) ?_
        refine lv_goto (tgt := 23) hx hb dX2_isTold_19 (by decide) ?_
        exact ro_zret hx hb hr hlocks (by first | rfl | (simp [b2, btw, isT, c_1, c_2, c_3]; done)) dX2_isTold_23
set_option maxHeartbeats 4000000 in
set_option maxRecDepth 100000 in
theorem c_X2_numbered (l : Launch) (D : va_G) (cT : Nat → ClassId) (a : Nat → Nat) (b : Nat → Nat → Nat) (T P : Nat → Nat → Int32) (n : Nat → Nat) (i : Int32) (hn : Cnt n) : Met l yX2_numbered wsX2_numbered ({ frames := 1, cells := 0, slots := 0, locals := 21 }) (va_Pc [.ref (a 7), .int i] (PB D cT (offW cT a b T P n))) (QR (nuV (b 1) (n 1) i)) 0 0 (fun _ => False) := by
  refine RO_of (by decide) rfl (Nat.le_of_ble_eq_true rfl) ?_
  intro p e s m below meth c hx hb hr hts hown hlocks hml hE hP ls hl
  have hiX2 : ∀ w ∈ wsX20, w ∈ wsX2_numbered := by decide +kernel
  have hl : lv_has ls 2 [(0, .ref (a 7)), (1, .int i)] := hl
  obtain ⟨hn0, hn1, hn2, hn3, hn4⟩ := id hn
  refine lv_aload_n hx hb dX2_numbered_0 rfl (lv_at hl 0 rfl) ?_
  refine lv_iload_n hx hb dX2_numbered_1 rfl (lv_at hl 1 rfl) ?_
  refine ro_V (As := [.int i]) (rest := []) ⟨hx, hb, hml, hown, hts⟩ (c_X2_isTold l D cT a b T P n i hn) (cwV 1 hts gX2_numbered_X2_isTold rfl rfl rfl (by decide +kernel) ⟨Nat.le_of_ble_eq_true rfl, Nat.le_of_ble_eq_true rfl⟩) hE hP 7 2 ofl_7 rfl rfl rfl hl.1 rfl (Nat.le_of_ble_eq_true rfl) dX2_numbered_2 ⟨Nat.zero_le _, Nat.zero_le _⟩ ?_
  refine bi_eq (tgt := 17) hx hb dX2_numbered_5 (by decide) (fun c_1 => ?_) (fun c_1 => ?_)
  · refine lv_null hx hb dX2_numbered_17 ?_
    exact ro_aret hx hb hr hlocks (by rw [nuV, c_1]; rfl) (Or.inl rfl) dX2_numbered_18
  · obtain ⟨k, hk, rfl⟩ := isT_k c_1 (by omega)
    refine lv_aload_n hx hb dX2_numbered_8 rfl (lv_at hl 0 rfl) ?_
    refine va_get (D := D) (ci := 2) (v := .ref (a 8)) (C := RX2) (T := TX2) (N := 7) hx hb hts hiX2 hown hE.1 hP 7 ofl_7 rfl 0 (by decide) (hts (.fieldLink RX2 13 "FindsOffice$FindBook" "finds" "[LFindsOffice$Find;") (by decide +kernel)) (fun _ h9 => h9) rfl dX2_numbered_9 ?_
    refine lv_iload_n hx hb dX2_numbered_12 rfl (lv_at hl 1 rfl) ?_
    refine my_aldq (k := k) (v := .ref (b 1 k)) hx hb hE.1 hP 8 3 ofl_8 rfl rfl (by omega) (by decide) (by exact pf_at (by omega)) dX2_numbered_13 ?_
    refine lv_goto (tgt := 18) hx hb dX2_numbered_14 (by decide) ?_
    exact ro_aret hx hb hr hlocks (nuV_at hk (by omega)).symm (Or.inr ⟨_, rfl⟩) dX2_numbered_18
set_option maxHeartbeats 4000000 in
set_option maxRecDepth 100000 in
theorem c_X2_pairOf (l : Launch) (D : va_G) (cT : Nat → ClassId) (a : Nat → Nat) (b : Nat → Nat → Nat) (T P : Nat → Nat → Int32) (n : Nat → Nat) (i j : Int32) (hn : Cnt n) : Met l yX2_pairOf wsX2_pairOf ({ frames := 1, cells := 0, slots := 0, locals := 23 }) (va_Pc [.ref (a 7), .int i, .int j] (PB D cT (offW cT a b T P n))) (QR (.int (prV (n 1) i j))) 0 0 (fun _ => False) := by
  refine RO_of (by decide) rfl (Nat.le_of_ble_eq_true rfl) ?_
  intro p e s m below meth c hx hb hr hts hown hlocks hml hE hP ls hl
  have hl : lv_has ls 4 [(0, .ref (a 7)), (1, .int i), (2, .int j)] := hl
  obtain ⟨hn0, hn1, hn2, hn3, hn4⟩ := id hn
  refine lv_aload_n hx hb dX2_pairOf_0 rfl (lv_at hl 0 rfl) ?_
  refine lv_iload_n hx hb dX2_pairOf_1 rfl (lv_at hl 1 rfl) ?_
  refine ro_V (As := [.int i]) (rest := []) ⟨hx, hb, hml, hown, hts⟩ (c_X2_isTold l D cT a b T P n i hn) (cwV 1 hts gX2_pairOf_X2_isTold rfl rfl rfl (by decide +kernel) ⟨Nat.le_of_ble_eq_true rfl, Nat.le_of_ble_eq_true rfl⟩) hE hP 7 2 ofl_7 rfl rfl rfl hl.1 rfl (Nat.le_of_ble_eq_true rfl) dX2_pairOf_2 ⟨Nat.zero_le _, Nat.zero_le _⟩ ?_
  refine bi_eq (tgt := 21) hx hb dX2_pairOf_5 (by decide) (fun c_1 => ?_) (fun c_1 => ?_)
  · refine lv_iconst (v := (-1)) hx hb dX2_pairOf_21 (by decide) ?_
    exact ro_iret hx hb hr hlocks (by simp [prV, c_1]) dX2_pairOf_22
  · obtain ⟨k, hk, rfl⟩ := isT_k c_1 (by omega)
    refine lv_aload_n hx hb dX2_pairOf_8 rfl (lv_at hl 0 rfl) ?_
    refine lv_iload_n hx hb dX2_pairOf_9 rfl (lv_at hl 2 rfl) ?_
    refine ro_V (As := [.int j]) (rest := []) ⟨hx, hb, hml, hown, hts⟩ (c_X2_isTold l D cT a b T P n j hn) (cwV 1 hts gX2_pairOf_X2_isTold rfl rfl rfl (by decide +kernel) ⟨Nat.le_of_ble_eq_true rfl, Nat.le_of_ble_eq_true rfl⟩) hE hP 7 2 ofl_7 rfl rfl rfl hl.1 rfl (Nat.le_of_ble_eq_true rfl) dX2_pairOf_10 ⟨Nat.zero_le _, Nat.zero_le _⟩ ?_
    refine bi_eq (tgt := 21) hx hb dX2_pairOf_13 (by decide) (fun c_2 => ?_) (fun c_2 => ?_)
    · refine lv_iconst (v := (-1)) hx hb dX2_pairOf_21 (by decide) ?_
      exact ro_iret hx hb hr hlocks (by simp [prV, c_1, c_2]) dX2_pairOf_22
    · obtain ⟨q, hq, rfl⟩ := isT_k c_2 (by omega)
      refine lv_iload_n hx hb dX2_pairOf_16 rfl (lv_at hl 1 rfl) ?_
      refine lv_iload_n hx hb dX2_pairOf_17 rfl (lv_at hl 2 rfl) ?_
      refine lv_icmp_ne (tgt := 23) hx hb dX2_pairOf_18 (by decide) (fun c_3 => ?_) (fun c_3 => ?_)
      · have k_3 := nat_ne (a := k) (b := q) c_3
        refine lv_iload_n hx hb dX2_pairOf_23 rfl (lv_at hl 1 rfl) ?_
        refine lv_iload_n hx hb dX2_pairOf_24 rfl (lv_at hl 2 rfl) ?_
        refine va_mmax hx hb (hml.trans hl.1.symm) hown (hts (.methodLink RX2 55 Lib.Math.max.name) (by decide +kernel)) (hts (.static Lib.Math.max.name) (by decide +kernel)) (hts (.initialized "java/lang/Math") (by decide +kernel)) (hts (.code Lib.Math.max.name Lib.Math.max.code 2 (some .int)) (by decide +kernel)) (Nat.le_of_ble_eq_true rfl) (Nat.le_of_ble_eq_true rfl) (Nat.zero_le _) (Nat.zero_le _) dX2_pairOf_25 ?_
        refine lv_istore_n (lv' := [(3, .int (if (nI k) < (nI q) then (nI q) else (nI k))), (0, .ref (a 7)), (1, .int (nI k)), (2, .int (nI q))]) hx hb dX2_pairOf_28 rfl hl (by decide) rfl (fun ls hl => ?_)
        refine lv_iload_n hx hb dX2_pairOf_29 rfl (lv_at hl 0 rfl) ?_
        refine lv_iload_n hx hb dX2_pairOf_30 rfl (lv_at hl 0 rfl) ?_
        refine lv_iconst (v := 1) hx hb dX2_pairOf_31 (by decide) ?_
        refine lv_isub hx hb dX2_pairOf_32 ?_
        refine lv_imul hx hb dX2_pairOf_33 ?_
        refine lv_iconst (v := 2) hx hb dX2_pairOf_34 (by decide) ?_
        refine lv_idiv hx hb dX2_pairOf_35 (by decide) ?_
        refine lv_iload_n hx hb dX2_pairOf_36 rfl (lv_at hl 2 rfl) ?_
        refine lv_iload_n hx hb dX2_pairOf_37 rfl (lv_at hl 3 rfl) ?_
        refine va_mmin hx hb (hml.trans hl.1.symm) hown (hts (.methodLink RX2 60 Lib.Math.min.name) (by decide +kernel)) (hts (.static Lib.Math.min.name) (by decide +kernel)) (hts (.initialized "java/lang/Math") (by decide +kernel)) (hts (.code Lib.Math.min.name Lib.Math.min.code 2 (some .int)) (by decide +kernel)) (Nat.le_of_ble_eq_true rfl) (Nat.le_of_ble_eq_true rfl) (Nat.zero_le _) (Nat.zero_le _) dX2_pairOf_38 ?_
        refine lv_iadd hx hb dX2_pairOf_41 ?_
        exact ro_iret hx hb hr hlocks ((pair_eq hk hq hn1 k_3).trans (prV_nI hk hq (by omega) k_3).symm) dX2_pairOf_42
      · have k_3 := nat_eq (a := k) (b := q) c_3 (by omega) (by omega)
        refine lv_iconst (v := (-1)) hx hb dX2_pairOf_21 (by decide) ?_
        exact ro_iret hx hb hr hlocks (by simp [prV, c_1, c_2, c_3]) dX2_pairOf_22
set_option maxHeartbeats 4000000 in
set_option maxRecDepth 100000 in
theorem c_X2_isJoined (l : Launch) (D : va_G) (cT : Nat → ClassId) (a : Nat → Nat) (b : Nat → Nat → Nat) (T P : Nat → Nat → Int32) (n : Nat → Nat) (day : Int32) (pa qa : Nat) (hn : Cnt n) (hp : pa < n 1) (hq : qa < n 1) (hpq : pa ≠ qa) : Met l yX2_isJoined wsX2_isJoined ({ frames := 2, cells := 0, slots := 0, locals := 46 }) (va_Pc [.ref (a 7), .int (nI pa), .int (nI qa), .int day] (PB D cT (offW cT a b T P n))) (QR (.int (b2 (jnB T (P 0) pa qa day)))) 0 0 (fun _ => False) := by
  refine RO_of (by decide) rfl (Nat.le_of_ble_eq_true rfl) ?_
  intro p e s m below meth c hx hb hr hts hown hlocks hml hE hP ls hl
  have hiX2 : ∀ w ∈ wsX20, w ∈ wsX2_isJoined := by decide +kernel
  have hl : lv_has ls 7 [(0, .ref (a 7)), (1, .int (nI pa)), (2, .int (nI qa)), (3, .int day)] := hl
  obtain ⟨hn0, hn1, hn2, hn3, hn4⟩ := id hn
  have hPa := off_find (k := pa) hP (by omega)
  have hPb := off_find (k := qa) hP (by omega)
  refine lv_aload_n hx hb dX2_isJoined_0 rfl (lv_at hl 0 rfl) ?_
  refine lv_iload_n hx hb dX2_isJoined_1 rfl (lv_at hl 1 rfl) ?_
  refine ro_V (As := [.int (nI pa)]) (rest := []) ⟨hx, hb, hml, hown, hts⟩ (c_X2_numbered l D cT a b T P n (nI pa) hn) (cwV 1 hts gX2_isJoined_X2_numbered rfl rfl rfl (by decide +kernel) ⟨Nat.le_of_ble_eq_true rfl, Nat.le_of_ble_eq_true rfl⟩) hE hP 7 2 ofl_7 rfl rfl rfl hl.1 rfl (Nat.le_of_ble_eq_true rfl) dX2_isJoined_2 ⟨Nat.zero_le _, Nat.zero_le _⟩ ?_
  refine topv_eq (nuV_at (k := pa) (by omega) (by omega)) ?_
  refine lv_astore (lv' := [(4, .ref (b 1 pa)), (0, .ref (a 7)), (1, .int (nI pa)), (2, .int (nI qa)), (3, .int day)]) hx hb dX2_isJoined_5 hl (by decide) rfl (fun ls hl => ?_)
  refine lv_aload_n hx hb dX2_isJoined_7 rfl (lv_at hl 1 rfl) ?_
  refine lv_iload_n hx hb dX2_isJoined_8 rfl (lv_at hl 3 rfl) ?_
  refine ro_V (As := [.int (nI qa)]) (rest := []) ⟨hx, hb, hml, hown, hts⟩ (c_X2_numbered l D cT a b T P n (nI qa) hn) (cwV 1 hts gX2_isJoined_X2_numbered rfl rfl rfl (by decide +kernel) ⟨Nat.le_of_ble_eq_true rfl, Nat.le_of_ble_eq_true rfl⟩) hE hP 7 2 ofl_7 rfl rfl rfl hl.1 rfl (Nat.le_of_ble_eq_true rfl) dX2_isJoined_9 ⟨Nat.zero_le _, Nat.zero_le _⟩ ?_
  refine topv_eq (nuV_at (k := qa) (by omega) (by omega)) ?_
  refine lv_astore (lv' := [(5, .ref (b 1 qa)), (4, .ref (b 1 pa)), (0, .ref (a 7)), (1, .int (nI pa)), (2, .int (nI qa)), (3, .int day)]) hx hb dX2_isJoined_12 hl (by decide) rfl (fun ls hl => ?_)
  refine lv_aload hx hb dX2_isJoined_14 (lv_at hl 1 rfl) ?_
  refine lv_ifnull hx hb dX2_isJoined_16 ?_
  refine lv_aload hx hb dX2_isJoined_19 (lv_at hl 0 rfl) ?_
  refine lv_ifnull hx hb dX2_isJoined_21 ?_
  refine lv_aload hx hb dX2_isJoined_24 (lv_at hl 1 rfl) ?_
  refine lv_aload hx hb dX2_isJoined_26 (lv_at hl 0 rfl) ?_
  refine ro_V (As := [.ref (b 1 qa)]) (rest := []) ⟨hx, hb, hml, hown, hts⟩ (c_X1_isNear l D cT (b 1 pa) (b 1 qa) (T 2 pa) (T 3 pa) (T 4 pa) (T 5 pa) (T 6 pa) (T 7 pa) (T 8 pa) (T 10 pa) (T 9 pa) (T 11 pa) (T 12 pa) (T 2 qa) (T 3 qa) (T 4 qa) (T 5 qa) (T 6 qa) (T 7 qa) (T 8 qa) (T 10 qa) (T 9 qa) (T 11 qa) (T 12 qa) ) (cwV 1 hts gX2_isJoined_X1_isNear rfl rfl rfl (by decide +kernel) ⟨Nat.le_of_ble_eq_true rfl, Nat.le_of_ble_eq_true rfl⟩) hE (va_P.two hPa hPb) 0 1 rfl rfl rfl rfl hl.1 rfl (Nat.le_of_ble_eq_true rfl) dX2_isJoined_28 ⟨Nat.zero_le _, Nat.zero_le _⟩ ?_
  refine bi_ne (tgt := 36) hx hb dX2_isJoined_31 (by decide) (fun c_1 => ?_) (fun c_1 => ?_)
  · refine lv_aload_n hx hb dX2_isJoined_36 rfl (lv_at hl 2 rfl) ?_
    refine lv_iload_n hx hb dX2_isJoined_37 rfl (lv_at hl 3 rfl) ?_
    refine lv_iload_n hx hb dX2_isJoined_38 rfl (lv_at hl 4 rfl) ?_
    refine ro_V (As := [.int (nI pa), .int (nI qa)]) (rest := []) ⟨hx, hb, hml, hown, hts⟩ (c_X2_pairOf l D cT a b T P n (nI pa) (nI qa) hn) (cwV 2 hts gX2_isJoined_X2_pairOf rfl rfl rfl (by decide +kernel) ⟨Nat.le_of_ble_eq_true rfl, Nat.le_of_ble_eq_true rfl⟩) hE hP 7 2 ofl_7 rfl rfl rfl hl.1 rfl (Nat.le_of_ble_eq_true rfl) dX2_isJoined_39 ⟨Nat.zero_le _, Nat.zero_le _⟩ ?_
    refine topi_eq (prV_nI (by omega) (by omega) (by omega) (by omega)) ?_
    refine lv_istore (lv' := [(6, .int (nI (tri pa qa))), (5, .ref (b 1 qa)), (4, .ref (b 1 pa)), (0, .ref (a 7)), (1, .int (nI pa)), (2, .int (nI qa)), (3, .int day)]) hx hb dX2_isJoined_42 hl (by decide) rfl (fun ls hl => ?_)
    refine lv_iload hx hb dX2_isJoined_44 (lv_at hl 0 rfl) ?_
    refine lv_iconst (v := (-1)) hx hb dX2_isJoined_46 (by decide) ?_
    refine lv_icmp_eq (tgt := 76) hx hb dX2_isJoined_47 (by decide) (fun c_2 => ?_) (fun c_2 => ?_)
    · exact absurd c_2 (nI_ne_m1 (Nat.lt_trans (tri_lt hp hq hn1 hpq) (by decide)))
    · refine lv_aload_n hx hb dX2_isJoined_50 rfl (lv_at hl 3 rfl) ?_
      refine va_get (D := D) (ci := 2) (v := .ref (a 9)) (C := RX2) (T := TX2) (N := 7) hx hb hts hiX2 hown hE.1 hP 7 ofl_7 rfl 2 (by decide) (hts (.fieldLink RX2 21 "FindsOffice$FindBook" "partedOn" "[I") (by decide +kernel)) (fun _ h9 => h9) rfl dX2_isJoined_51 ?_
      refine lv_iload hx hb dX2_isJoined_54 (lv_at hl 0 rfl) ?_
      refine my_iald (k := tri pa qa) hx hb hE.1 hP 9 0 ofl_9 rfl rfl (tri_lt hp hq hn1 hpq) (by decide) dX2_isJoined_56 ?_
      refine lv_iconst (v := (-1)) hx hb dX2_isJoined_57 (by decide) ?_
      refine lv_icmp_eq (tgt := 72) hx hb dX2_isJoined_58 (by decide) (fun c_3 => ?_) (fun c_3 => ?_)
      · refine lv_iconst (v := 1) hx hb dX2_isJoined_72 (by decide) ?_
        refine lv_goto (tgt := 77) hx hb dX2_isJoined_73 (by decide) ?_
        exact ro_zret hx hb hr hlocks (by first | rfl | (simp [b2, btw, jnB, c_1, c_2, c_3]; done)) dX2_isJoined_77
      · refine lv_aload_n hx hb dX2_isJoined_61 rfl (lv_at hl 3 rfl) ?_
        refine va_get (D := D) (ci := 2) (v := .ref (a 9)) (C := RX2) (T := TX2) (N := 7) hx hb hts hiX2 hown hE.1 hP 7 ofl_7 rfl 2 (by decide) (hts (.fieldLink RX2 21 "FindsOffice$FindBook" "partedOn" "[I") (by decide +kernel)) (fun _ h9 => h9) rfl dX2_isJoined_62 ?_
        refine lv_iload hx hb dX2_isJoined_65 (lv_at hl 0 rfl) ?_
        refine my_iald (k := tri pa qa) hx hb hE.1 hP 9 0 ofl_9 rfl rfl (tri_lt hp hq hn1 hpq) (by decide) dX2_isJoined_67 ?_
        refine lv_iload_n hx hb dX2_isJoined_68 rfl (lv_at hl 6 rfl) ?_
        refine lv_icmp_le (tgt := 76) hx hb dX2_isJoined_69 (by decide) (fun c_4 => ?_) (fun c_4 => ?_)
        · refine lv_iconst (v := 0) hx hb dX2_isJoined_76 (by decide) ?_
          exact ro_zret hx hb hr hlocks (by first | rfl | (simp [b2, btw, jnB, c_1, c_2, c_3, c_4]; done)) dX2_isJoined_77
        · refine lv_iconst (v := 1) hx hb dX2_isJoined_72 (by decide) ?_
          refine lv_goto (tgt := 77) hx hb dX2_isJoined_73 (by decide) ?_
          exact ro_zret hx hb hr hlocks (by first | rfl | (simp [b2, btw, jnB, c_1, c_2, c_3, c_4]; done)) dX2_isJoined_77
  · refine lv_iconst (v := 0) hx hb dX2_isJoined_34 (by decide) ?_
    exact ro_zret hx hb hr hlocks (by first | rfl | (simp [b2, btw, jnB, c_1]; done)) dX2_isJoined_35
set_option maxHeartbeats 4000000 in
set_option maxRecDepth 100000 in
theorem c_X2_knownBy (l : Launch) (D : va_G) (cT : Nat → ClassId) (a : Nat → Nat) (b : Nat → Nat → Nat) (T P : Nat → Nat → Int32) (n : Nat → Nat) (day : Int32) (hn : Cnt n) : Met l yX2_knownBy wsX2_knownBy ({ frames := 2, cells := 0, slots := 0, locals := 42 }) (va_Pc [.ref (a 7), .int day] (PB D cT (offW cT a b T P n))) (QR (.int (nI (kbN T day (n 1))))) 0 0 (fun _ => False) := by
  refine RO_of (by decide) rfl (Nat.le_of_ble_eq_true rfl) ?_
  intro p e s m below meth c hx hb hr hts hown hlocks hml hE hP ls hl
  have hiX1 : ∀ w ∈ wsX10, w ∈ wsX2_knownBy := by decide +kernel
  have hiX2 : ∀ w ∈ wsX20, w ∈ wsX2_knownBy := by decide +kernel
  have hl : lv_has ls 5 [(0, .ref (a 7)), (1, .int day)] := hl
  obtain ⟨hn0, hn1, hn2, hn3, hn4⟩ := id hn
  refine lv_iconst (v := 0) hx hb dX2_knownBy_0 (by decide) ?_
  refine lv_istore_n (lv' := [(2, .int 0), (0, .ref (a 7)), (1, .int day)]) hx hb dX2_knownBy_1 rfl hl (by decide) rfl (fun ls hl => ?_)
  refine lv_iconst (v := 0) hx hb dX2_knownBy_2 (by decide) ?_
  refine lv_istore_n (lv' := [(3, .int 0), (2, .int 0), (0, .ref (a 7)), (1, .int day)]) hx hb dX2_knownBy_3 rfl hl (by decide) rfl (fun ls hl => ?_)
  have loop_4 : ∀ (fuel_4 : Nat) (j : Nat) (v : Int32), j ≤ n 1 → v = nI (kbN T day j) → n 1 - j < fuel_4 → ∀ (ls : Array Slot), lv_has ls 5 [(0, .ref (a 7)), (1, .int day), (2, .int v), (3, .int (nI j))] → W p l e ({ frames := 2, cells := 0, slots := 0, locals := 42 }) s m (List.toArray [.ref (a 7), .int day]) below meth c s.heap [] 0 0 (MQ below (QR (.int (nI (kbN T day (n 1))))) (List.toArray [.ref (a 7), .int day]) s 0 0 (fun _ => False)) (F0 m 4 ls []) := by
    intro fuel_4
    induction fuel_4 with
    | zero => intro j v hj hv hfuel_4; exact absurd hfuel_4 (Nat.not_lt_zero _)
    | succ fuel_4 ih_4 =>
      intro j v hj hv hfuel_4 ls hl
      refine lv_iload_n hx hb dX2_knownBy_4 rfl (lv_at hl 3 rfl) ?_
      refine lv_aload_n hx hb dX2_knownBy_5 rfl (lv_at hl 0 rfl) ?_
      refine va_get (D := D) (ci := 2) (v := .int (nI (n 1))) (C := RX2) (T := TX2) (N := 7) hx hb hts hiX2 hown hE.1 hP 7 ofl_7 rfl 1 (by decide) (hts (.fieldLink RX2 17 "FindsOffice$FindBook" "told" "I") (by decide +kernel)) (fun _ h9 => h9) rfl dX2_knownBy_6 ?_
      refine lv_icmp_ge (tgt := 43) hx hb dX2_knownBy_9 (by decide) (fun c_1 => ?_) (fun c_1 => ?_)
      · have k_1 := nat_le (a := (n 1)) (b := j) c_1 (by omega) (by omega)
        refine lv_iload_n hx hb dX2_knownBy_43 rfl (lv_at hl 2 rfl) ?_
        exact ro_iret hx hb hr hlocks (by rw [hv]; congr 2; omega) dX2_knownBy_44
      · have k_1 := nat_nle (a := (n 1)) (b := j) c_1 (by omega) (by omega)
        refine lv_aload_n hx hb dX2_knownBy_12 rfl (lv_at hl 0 rfl) ?_
        refine lv_iload_n hx hb dX2_knownBy_13 rfl (lv_at hl 3 rfl) ?_
        refine ro_V (As := [.int (nI j)]) (rest := []) ⟨hx, hb, hml, hown, hts⟩ (c_X2_numbered l D cT a b T P n (nI j) hn) (cwV 1 hts gX2_knownBy_X2_numbered rfl rfl rfl (by decide +kernel) ⟨Nat.le_of_ble_eq_true rfl, Nat.le_of_ble_eq_true rfl⟩) hE hP 7 2 ofl_7 rfl rfl rfl hl.1 rfl (Nat.le_of_ble_eq_true rfl) dX2_knownBy_14 ⟨Nat.zero_le _, Nat.zero_le _⟩ ?_
        refine topv_eq (nuV_at (k := j) (by omega) (by omega)) ?_
        refine lv_astore (lv' := [(4, .ref (b 1 j)), (0, .ref (a 7)), (1, .int day), (2, .int v), (3, .int (nI j))]) hx hb dX2_knownBy_17 hl (by decide) rfl (fun ls hl => ?_)
        refine lv_aload hx hb dX2_knownBy_19 (lv_at hl 0 rfl) ?_
        refine lv_ifnull hx hb dX2_knownBy_21 ?_
        refine lv_aload hx hb dX2_knownBy_24 (lv_at hl 0 rfl) ?_
        have hq_2 := off_find (k := j) hP (by omega)
        refine va_get (D := D) (ci := 1) (v := .int (T 11 j)) (C := RX1) (T := TX1) (N := 11) hx hb hts hiX1 hown hE.1 hq_2 0 rfl rfl 9 (by decide) (hts (.fieldLink RX2 79 "FindsOffice$Find" "known" "I") (by decide +kernel)) (fun _ h9 => h9) rfl dX2_knownBy_26 ?_
        refine lv_iload_n hx hb dX2_knownBy_29 rfl (lv_at hl 2 rfl) ?_
        refine lv_icmp_gt (tgt := 37) hx hb dX2_knownBy_30 (by decide) (fun c_3 => ?_) (fun c_3 => ?_)
        · refine lv_iinc (v := nI (j + 1)) (lv' := [(3, .int (nI (j + 1))), (4, .ref (b 1 j)), (0, .ref (a 7)), (1, .int day), (2, .int v)]) hx hb dX2_knownBy_37 hl (k := 4) rfl (nI_1 _) (by decide) rfl (fun ls hl => ?_)
          refine lv_goto (tgt := 4) hx hb dX2_knownBy_40 (by decide) ?_
          exact ih_4 (j + 1) _ (by omega) (by first | (subst hv; simp [kbN, c_1, c_3]; done) | (simp [kbN, c_1, c_3]; done)) (by omega) ls (lv_sub hl [2, 3, 4, 0] rfl)
        · refine lv_iload_n hx hb dX2_knownBy_33 rfl (lv_at hl 4 rfl) ?_
          refine lv_iconst (v := 1) hx hb dX2_knownBy_34 (by decide) ?_
          refine lv_iadd hx hb dX2_knownBy_35 ?_
          refine topi_eq (nI_add _ 1) ?_
          refine lv_istore_n (lv' := [(2, .int (nI (j + 1))), (4, .ref (b 1 j)), (0, .ref (a 7)), (1, .int day), (3, .int (nI j))]) hx hb dX2_knownBy_36 rfl hl (by decide) rfl (fun ls hl => ?_)
          refine lv_iinc (v := nI (j + 1)) (lv' := [(3, .int (nI (j + 1))), (2, .int (nI (j + 1))), (4, .ref (b 1 j)), (0, .ref (a 7)), (1, .int day)]) hx hb dX2_knownBy_37 hl (k := 4) rfl (nI_1 _) (by decide) rfl (fun ls hl => ?_)
          refine lv_goto (tgt := 4) hx hb dX2_knownBy_40 (by decide) ?_
          exact ih_4 (j + 1) _ (by omega) (by first | (subst hv; simp [kbN, c_1, c_3]; done) | (simp [kbN, c_1, c_3]; done)) (by omega) ls (lv_sub hl [3, 4, 1, 0] rfl)
  exact loop_4 _ 0 0 (by omega) rfl (Nat.lt_succ_self _) ls (lv_sub hl [2, 3, 1, 0] rfl)
set_option maxHeartbeats 4000000 in
set_option maxRecDepth 100000 in
theorem c_X2_hoardNumber (l : Launch) (D : va_G) (cT : Nat → ClassId) (a : Nat → Nat) (b : Nat → Nat → Nat) (T P : Nat → Nat → Int32) (n : Nat → Nat) (i : Int32) (hn : Cnt n) : Met l yX2_hoardNumber wsX2_hoardNumber ({ frames := 1, cells := 0, slots := 0, locals := 21 }) (va_Pc [.ref (a 7), .int i] (PB D cT (offW cT a b T P n))) (QR (.int (hoN (n 1) (P 1) i))) 0 0 (fun _ => False) := by
  refine RO_of (by decide) rfl (Nat.le_of_ble_eq_true rfl) ?_
  intro p e s m below meth c hx hb hr hts hown hlocks hml hE hP ls hl
  have hiX2 : ∀ w ∈ wsX20, w ∈ wsX2_hoardNumber := by decide +kernel
  have hl : lv_has ls 2 [(0, .ref (a 7)), (1, .int i)] := hl
  obtain ⟨hn0, hn1, hn2, hn3, hn4⟩ := id hn
  refine lv_aload_n hx hb dX2_hoardNumber_0 rfl (lv_at hl 0 rfl) ?_
  refine lv_iload_n hx hb dX2_hoardNumber_1 rfl (lv_at hl 1 rfl) ?_
  refine ro_V (As := [.int i]) (rest := []) ⟨hx, hb, hml, hown, hts⟩ (c_X2_isTold l D cT a b T P n i hn) (cwV 1 hts gX2_hoardNumber_X2_isTold rfl rfl rfl (by decide +kernel) ⟨Nat.le_of_ble_eq_true rfl, Nat.le_of_ble_eq_true rfl⟩) hE hP 7 2 ofl_7 rfl rfl rfl hl.1 rfl (Nat.le_of_ble_eq_true rfl) dX2_hoardNumber_2 ⟨Nat.zero_le _, Nat.zero_le _⟩ ?_
  refine bi_eq (tgt := 17) hx hb dX2_hoardNumber_5 (by decide) (fun c_1 => ?_) (fun c_1 => ?_)
  · refine lv_iconst (v := (-1)) hx hb dX2_hoardNumber_17 (by decide) ?_
    exact ro_iret hx hb hr hlocks (hoN_no c_1).symm dX2_hoardNumber_18
  · obtain ⟨k, hk, rfl⟩ := isT_k c_1 (by omega)
    refine lv_aload_n hx hb dX2_hoardNumber_8 rfl (lv_at hl 0 rfl) ?_
    refine va_get (D := D) (ci := 2) (v := .ref (a 10)) (C := RX2) (T := TX2) (N := 7) hx hb hts hiX2 hown hE.1 hP 7 ofl_7 rfl 4 (by decide) (hts (.fieldLink RX2 28 "FindsOffice$FindBook" "hoardOf" "[I") (by decide +kernel)) (fun _ h9 => h9) rfl dX2_hoardNumber_9 ?_
    refine lv_iload_n hx hb dX2_hoardNumber_12 rfl (lv_at hl 1 rfl) ?_
    refine my_iald (k := k) hx hb hE.1 hP 10 0 ofl_10 rfl rfl (by omega) (by decide) dX2_hoardNumber_13 ?_
    refine lv_goto (tgt := 18) hx hb dX2_hoardNumber_14 (by decide) ?_
    exact ro_iret hx hb hr hlocks (hoN_at hk (by omega)).symm dX2_hoardNumber_18
set_option maxHeartbeats 4000000 in
set_option maxRecDepth 100000 in
theorem c_X2_hoardSize (l : Launch) (D : va_G) (cT : Nat → ClassId) (a : Nat → Nat) (b : Nat → Nat → Nat) (T P : Nat → Nat → Int32) (n : Nat → Nat) (i : Int32) (hn : Cnt n) : Met l yX2_hoardSize wsX2_hoardSize ({ frames := 1, cells := 0, slots := 0, locals := 21 }) (va_Pc [.ref (a 7), .int i] (PB D cT (offW cT a b T P n))) (QR (.int (hoN (n 1) (P 2) (hoN (n 1) (P 1) i)))) 0 0 (fun _ => False) := by
  refine RO_of (by decide) rfl (Nat.le_of_ble_eq_true rfl) ?_
  intro p e s m below meth c hx hb hr hts hown hlocks hml hE hP ls hl
  have hiX2 : ∀ w ∈ wsX20, w ∈ wsX2_hoardSize := by decide +kernel
  have hl : lv_has ls 3 [(0, .ref (a 7)), (1, .int i)] := hl
  obtain ⟨hn0, hn1, hn2, hn3, hn4⟩ := id hn
  have J_18 : ∀ (jv : Int32), jv = (hoN (n 1) (P 1) i) → ∀ (ls : Array Slot), lv_has ls 3 [(0, .ref (a 7)), (1, .int i)] → W p l e ({ frames := 1, cells := 0, slots := 0, locals := 21 }) s m (List.toArray [.ref (a 7), .int i]) below meth c s.heap [] 0 0 (MQ below (QR (.int (hoN (n 1) (P 2) (hoN (n 1) (P 1) i)))) (List.toArray [.ref (a 7), .int i]) s 0 0 (fun _ => False)) (F0 m 18 ls [.int jv]) := by
    intro jv hjv ls hl
    subst hjv
    refine lv_istore_n (lv' := [(2, .int (hoN (n 1) (P 1) i)), (0, .ref (a 7)), (1, .int i)]) hx hb dX2_hoardSize_18 rfl hl (by decide) rfl (fun ls hl => ?_)
    refine lv_aload_n hx hb dX2_hoardSize_19 rfl (lv_at hl 1 rfl) ?_
    refine lv_iload_n hx hb dX2_hoardSize_20 rfl (lv_at hl 0 rfl) ?_
    refine ro_V (As := [.int (hoN (n 1) (P 1) i)]) (rest := []) ⟨hx, hb, hml, hown, hts⟩ (c_X2_isTold l D cT a b T P n (hoN (n 1) (P 1) i) hn) (cwV 1 hts gX2_hoardSize_X2_isTold rfl rfl rfl (by decide +kernel) ⟨Nat.le_of_ble_eq_true rfl, Nat.le_of_ble_eq_true rfl⟩) hE hP 7 2 ofl_7 rfl rfl rfl hl.1 rfl (Nat.le_of_ble_eq_true rfl) dX2_hoardSize_21 ⟨Nat.zero_le _, Nat.zero_le _⟩ ?_
    refine bi_eq (tgt := 36) hx hb dX2_hoardSize_24 (by decide) (fun c_1 => ?_) (fun c_1 => ?_)
    · refine lv_iconst (v := (-1)) hx hb dX2_hoardSize_36 (by decide) ?_
      exact ro_iret hx hb hr hlocks (hoN_no c_1).symm dX2_hoardSize_37
    · obtain ⟨k2, hk2, he2⟩ := isT_k c_1 (by omega)
      refine lv_aload_n hx hb dX2_hoardSize_27 rfl (lv_at hl 1 rfl) ?_
      refine va_get (D := D) (ci := 2) (v := .ref (a 11)) (C := RX2) (T := TX2) (N := 7) hx hb hts hiX2 hown hE.1 hP 7 ofl_7 rfl 5 (by decide) (hts (.fieldLink RX2 31 "FindsOffice$FindBook" "sizeOf" "[I") (by decide +kernel)) (fun _ h9 => h9) rfl dX2_hoardSize_28 ?_
      refine lv_iload_n hx hb dX2_hoardSize_31 rfl (lv_at hl 0 rfl) ?_
      refine my_iald (k := k2) hx hb hE.1 hP 11 0 ofl_11 rfl he2 (by omega) (by decide) dX2_hoardSize_32 ?_
      refine lv_goto (tgt := 37) hx hb dX2_hoardSize_33 (by decide) ?_
      exact ro_iret hx hb hr hlocks (by rw [he2]; exact (hoN_at hk2 (by omega)).symm) dX2_hoardSize_37
  refine lv_aload_n hx hb dX2_hoardSize_0 rfl (lv_at hl 0 rfl) ?_
  refine lv_iload_n hx hb dX2_hoardSize_1 rfl (lv_at hl 1 rfl) ?_
  refine ro_V (As := [.int i]) (rest := []) ⟨hx, hb, hml, hown, hts⟩ (c_X2_isTold l D cT a b T P n i hn) (cwV 1 hts gX2_hoardSize_X2_isTold rfl rfl rfl (by decide +kernel) ⟨Nat.le_of_ble_eq_true rfl, Nat.le_of_ble_eq_true rfl⟩) hE hP 7 2 ofl_7 rfl rfl rfl hl.1 rfl (Nat.le_of_ble_eq_true rfl) dX2_hoardSize_2 ⟨Nat.zero_le _, Nat.zero_le _⟩ ?_
  refine bi_eq (tgt := 17) hx hb dX2_hoardSize_5 (by decide) (fun c_2 => ?_) (fun c_2 => ?_)
  · refine lv_iconst (v := (-1)) hx hb dX2_hoardSize_17 (by decide) ?_
    exact J_18 _ (hoN_no c_2).symm ls (lv_sub hl [0, 1] rfl)
  · obtain ⟨k, hk, rfl⟩ := isT_k c_2 (by omega)
    refine lv_aload_n hx hb dX2_hoardSize_8 rfl (lv_at hl 0 rfl) ?_
    refine va_get (D := D) (ci := 2) (v := .ref (a 10)) (C := RX2) (T := TX2) (N := 7) hx hb hts hiX2 hown hE.1 hP 7 ofl_7 rfl 4 (by decide) (hts (.fieldLink RX2 28 "FindsOffice$FindBook" "hoardOf" "[I") (by decide +kernel)) (fun _ h9 => h9) rfl dX2_hoardSize_9 ?_
    refine lv_iload_n hx hb dX2_hoardSize_12 rfl (lv_at hl 1 rfl) ?_
    refine my_iald (k := k) hx hb hE.1 hP 10 0 ofl_10 rfl rfl (by omega) (by decide) dX2_hoardSize_13 ?_
    refine lv_goto (tgt := 18) hx hb dX2_hoardSize_14 (by decide) ?_
    exact J_18 _ (hoN_at hk (by omega)).symm ls (lv_sub hl [0, 1] rfl)
set_option maxHeartbeats 4000000 in
set_option maxRecDepth 100000 in
theorem c_X2_tally (l : Launch) (D : va_G) (cT : Nat → ClassId) (a : Nat → Nat) (b : Nat → Nat → Nat) (T P : Nat → Nat → Int32) (n : Nat → Nat) (le ri lo hi : Int32) (hn : Cnt n) : Met l yX2_tally wsX2_tally ({ frames := 2, cells := 0, slots := 0, locals := 42 }) (va_Pc [.ref (a 7), .int le, .int ri, .int lo, .int hi] (PB D cT (offW cT a b T P n))) (QR (.int (nI (tlN T le ri lo hi (n 1))))) 0 0 (fun _ => False) := by
  refine RO_of (by decide) rfl (Nat.le_of_ble_eq_true rfl) ?_
  intro p e s m below meth c hx hb hr hts hown hlocks hml hE hP ls hl
  have hiX1 : ∀ w ∈ wsX10, w ∈ wsX2_tally := by decide +kernel
  have hiX2 : ∀ w ∈ wsX20, w ∈ wsX2_tally := by decide +kernel
  have hl : lv_has ls 8 [(0, .ref (a 7)), (1, .int le), (2, .int ri), (3, .int lo), (4, .int hi)] := hl
  obtain ⟨hn0, hn1, hn2, hn3, hn4⟩ := id hn
  refine lv_iconst (v := 0) hx hb dX2_tally_0 (by decide) ?_
  refine lv_istore (lv' := [(5, .int 0), (0, .ref (a 7)), (1, .int le), (2, .int ri), (3, .int lo), (4, .int hi)]) hx hb dX2_tally_1 hl (by decide) rfl (fun ls hl => ?_)
  refine lv_iconst (v := 0) hx hb dX2_tally_3 (by decide) ?_
  refine lv_istore (lv' := [(6, .int 0), (5, .int 0), (0, .ref (a 7)), (1, .int le), (2, .int ri), (3, .int lo), (4, .int hi)]) hx hb dX2_tally_4 hl (by decide) rfl (fun ls hl => ?_)
  have loop_6 : ∀ (fuel_6 : Nat) (j : Nat) (v : Int32), j ≤ n 1 → v = nI (tlN T le ri lo hi j) → n 1 - j < fuel_6 → ∀ (ls : Array Slot), lv_has ls 8 [(0, .ref (a 7)), (1, .int le), (2, .int ri), (3, .int lo), (4, .int hi), (5, .int v), (6, .int (nI j))] → W p l e ({ frames := 2, cells := 0, slots := 0, locals := 42 }) s m (List.toArray [.ref (a 7), .int le, .int ri, .int lo, .int hi]) below meth c s.heap [] 0 0 (MQ below (QR (.int (nI (tlN T le ri lo hi (n 1))))) (List.toArray [.ref (a 7), .int le, .int ri, .int lo, .int hi]) s 0 0 (fun _ => False)) (F0 m 6 ls []) := by
    intro fuel_6
    induction fuel_6 with
    | zero => intro j v hj hv hfuel_6; exact absurd hfuel_6 (Nat.not_lt_zero _)
    | succ fuel_6 ih_6 =>
      intro j v hj hv hfuel_6 ls hl
      refine lv_iload hx hb dX2_tally_6 (lv_at hl 6 rfl) ?_
      refine lv_aload_n hx hb dX2_tally_8 rfl (lv_at hl 0 rfl) ?_
      refine va_get (D := D) (ci := 2) (v := .int (nI (n 1))) (C := RX2) (T := TX2) (N := 7) hx hb hts hiX2 hown hE.1 hP 7 ofl_7 rfl 1 (by decide) (hts (.fieldLink RX2 17 "FindsOffice$FindBook" "told" "I") (by decide +kernel)) (fun _ h9 => h9) rfl dX2_tally_9 ?_
      refine lv_icmp_ge (tgt := 68) hx hb dX2_tally_12 (by decide) (fun c_1 => ?_) (fun c_1 => ?_)
      · have k_1 := nat_le (a := (n 1)) (b := j) c_1 (by omega) (by omega)
        refine lv_iload hx hb dX2_tally_68 (lv_at hl 5 rfl) ?_
        exact ro_iret hx hb hr hlocks (by rw [hv]; congr 2; omega) dX2_tally_70
      · have k_1 := nat_nle (a := (n 1)) (b := j) c_1 (by omega) (by omega)
        refine lv_aload_n hx hb dX2_tally_15 rfl (lv_at hl 0 rfl) ?_
        refine lv_iload hx hb dX2_tally_16 (lv_at hl 6 rfl) ?_
        refine ro_V (As := [.int (nI j)]) (rest := []) ⟨hx, hb, hml, hown, hts⟩ (c_X2_numbered l D cT a b T P n (nI j) hn) (cwV 1 hts gX2_tally_X2_numbered rfl rfl rfl (by decide +kernel) ⟨Nat.le_of_ble_eq_true rfl, Nat.le_of_ble_eq_true rfl⟩) hE hP 7 2 ofl_7 rfl rfl rfl hl.1 rfl (Nat.le_of_ble_eq_true rfl) dX2_tally_18 ⟨Nat.zero_le _, Nat.zero_le _⟩ ?_
        refine topv_eq (nuV_at (k := j) (by omega) (by omega)) ?_
        refine lv_astore (lv' := [(7, .ref (b 1 j)), (0, .ref (a 7)), (1, .int le), (2, .int ri), (3, .int lo), (4, .int hi), (5, .int v), (6, .int (nI j))]) hx hb dX2_tally_21 hl (by decide) rfl (fun ls hl => ?_)
        refine lv_aload hx hb dX2_tally_23 (lv_at hl 0 rfl) ?_
        refine lv_ifnull hx hb dX2_tally_25 ?_
        refine lv_aload hx hb dX2_tally_28 (lv_at hl 0 rfl) ?_
        have hq_2 := off_find (k := j) hP (by omega)
        refine va_get (D := D) (ci := 1) (v := .int (T 2 j)) (C := RX1) (T := TX1) (N := 11) hx hb hts hiX1 hown hE.1 hq_2 0 rfl rfl 0 (by decide) (hts (.fieldLink RX2 86 "FindsOffice$Find" "x" "I") (by decide +kernel)) (fun _ h9 => h9) rfl dX2_tally_30 ?_
        refine lv_iload_n hx hb dX2_tally_33 rfl (lv_at hl 2 rfl) ?_
        refine lv_iload_n hx hb dX2_tally_34 rfl (lv_at hl 3 rfl) ?_
        refine lv_iconst (v := 1) hx hb dX2_tally_35 (by decide) ?_
        refine lv_isub hx hb dX2_tally_36 ?_
        refine ro_SN (As := [.int (T 2 j), .int le, .int (ri - 1)]) (rest := []) ⟨hx, hb, hml, hown, hts⟩ (c_X9_isBetween l D cT (T 2 j) le (ri - 1) ) ⟨va_cnB (own := RX2) (host := RX9) 3 hts gX2_tally_X9_isBetween_n89 rfl rfl rfl (hE.2 (RX2, 89, yX9_isBetween, RX9) (by decide +kernel)) (hts (.initialized RX9) (by decide +kernel)) (by decide +kernel) ⟨Nat.le_of_ble_eq_true rfl, Nat.le_of_ble_eq_true rfl⟩, hts (.static yX9_isBetween) (by decide +kernel), trivial⟩ hE va_P_nil  rfl hl.1 rfl (Nat.le_of_ble_eq_true rfl) dX2_tally_37 ⟨Nat.zero_le _, Nat.zero_le _⟩ ?_
        refine bi_eq (tgt := 62) hx hb dX2_tally_40 (by decide) (fun c_3 => ?_) (fun c_3 => ?_)
        · refine lv_iinc (v := nI (j + 1)) (lv' := [(6, .int (nI (j + 1))), (7, .ref (b 1 j)), (0, .ref (a 7)), (1, .int le), (2, .int ri), (3, .int lo), (4, .int hi), (5, .int v)]) hx hb dX2_tally_62 hl (k := 7) rfl (nI_1 _) (by decide) rfl (fun ls hl => ?_)
          refine lv_goto (tgt := 6) hx hb dX2_tally_65 (by decide) ?_
          exact ih_6 (j + 1) _ (by omega) (by subst hv; simp [tlN, nI_1, c_1, c_3]) (by omega) ls (lv_sub hl [2, 3, 4, 5, 6, 7, 0] rfl)
        · refine lv_aload hx hb dX2_tally_43 (lv_at hl 0 rfl) ?_
          refine va_get (D := D) (ci := 1) (v := .int (T 3 j)) (C := RX1) (T := TX1) (N := 11) hx hb hts hiX1 hown hE.1 hq_2 0 rfl rfl 1 (by decide) (hts (.fieldLink RX2 92 "FindsOffice$Find" "y" "I") (by decide +kernel)) (fun _ h9 => h9) rfl dX2_tally_45 ?_
          refine lv_iload_n hx hb dX2_tally_48 rfl (lv_at hl 4 rfl) ?_
          refine lv_iload hx hb dX2_tally_49 (lv_at hl 5 rfl) ?_
          refine lv_iconst (v := 1) hx hb dX2_tally_51 (by decide) ?_
          refine lv_isub hx hb dX2_tally_52 ?_
          refine ro_SN (As := [.int (T 3 j), .int lo, .int (hi - 1)]) (rest := []) ⟨hx, hb, hml, hown, hts⟩ (c_X9_isBetween l D cT (T 3 j) lo (hi - 1) ) ⟨va_cnB (own := RX2) (host := RX9) 3 hts gX2_tally_X9_isBetween_n89 rfl rfl rfl (hE.2 (RX2, 89, yX9_isBetween, RX9) (by decide +kernel)) (hts (.initialized RX9) (by decide +kernel)) (by decide +kernel) ⟨Nat.le_of_ble_eq_true rfl, Nat.le_of_ble_eq_true rfl⟩, hts (.static yX9_isBetween) (by decide +kernel), trivial⟩ hE va_P_nil  rfl hl.1 rfl (Nat.le_of_ble_eq_true rfl) dX2_tally_53 ⟨Nat.zero_le _, Nat.zero_le _⟩ ?_
          refine bi_eq (tgt := 62) hx hb dX2_tally_56 (by decide) (fun c_4 => ?_) (fun c_4 => ?_)
          · refine lv_iinc (v := nI (j + 1)) (lv' := [(6, .int (nI (j + 1))), (7, .ref (b 1 j)), (0, .ref (a 7)), (1, .int le), (2, .int ri), (3, .int lo), (4, .int hi), (5, .int v)]) hx hb dX2_tally_62 hl (k := 7) rfl (nI_1 _) (by decide) rfl (fun ls hl => ?_)
            refine lv_goto (tgt := 6) hx hb dX2_tally_65 (by decide) ?_
            exact ih_6 (j + 1) _ (by omega) (by subst hv; simp [tlN, nI_1, c_1, c_3, c_4]) (by omega) ls (lv_sub hl [2, 3, 4, 5, 6, 7, 0] rfl)
          · refine lv_iinc (v := v + 1) (lv' := [(5, .int (v + 1)), (7, .ref (b 1 j)), (0, .ref (a 7)), (1, .int le), (2, .int ri), (3, .int lo), (4, .int hi), (6, .int (nI j))]) hx hb dX2_tally_59 hl (k := 6) rfl (rfl) (by decide) rfl (fun ls hl => ?_)
            refine lv_iinc (v := nI (j + 1)) (lv' := [(6, .int (nI (j + 1))), (5, .int (v + 1)), (7, .ref (b 1 j)), (0, .ref (a 7)), (1, .int le), (2, .int ri), (3, .int lo), (4, .int hi)]) hx hb dX2_tally_62 hl (k := 7) rfl (nI_1 _) (by decide) rfl (fun ls hl => ?_)
            refine lv_goto (tgt := 6) hx hb dX2_tally_65 (by decide) ?_
            exact ih_6 (j + 1) _ (by omega) (by subst hv; simp [tlN, nI_1, c_1, c_3, c_4]) (by omega) ls (lv_sub hl [3, 4, 5, 6, 7, 1, 0] rfl)
  exact loop_6 _ 0 0 (by omega) rfl (Nat.lt_succ_self _) ls (lv_sub hl [2, 3, 4, 5, 6, 1, 0] rfl)
set_option maxHeartbeats 4000000 in
set_option maxRecDepth 100000 in
theorem c_X5_inForce (l : Launch) (D : va_G) (cT : Nat → ClassId) (a : Nat → Nat) (b : Nat → Nat → Nat) (T P : Nat → Nat → Int32) (n : Nat → Nat) (day : Int32) (hn : Cnt n) : Met l yX5_inForce wsX5_inForce ({ frames := 0, cells := 0, slots := 0, locals := 0 }) (va_Pc [.ref (a 1), .int day] (PB D cT (offW cT a b T P n))) (QR (va_rf ((ifN T day (n 0)).map (b 0)))) 0 0 (fun _ => False) := by
  refine RO_of (by decide) rfl (Nat.le_of_ble_eq_true rfl) ?_
  intro p e s m below meth c hx hb hr hts hown hlocks hml hE hP ls hl
  have hiX4 : ∀ w ∈ wsX40, w ∈ wsX5_inForce := by decide +kernel
  have hiX5 : ∀ w ∈ wsX50, w ∈ wsX5_inForce := by decide +kernel
  have hl : lv_has ls 5 [(0, .ref (a 1)), (1, .int day)] := hl
  obtain ⟨hn0, hn1, hn2, hn3, hn4⟩ := id hn
  refine lv_null hx hb dX5_inForce_0 ?_
  refine lv_astore_nN (lv' := [(2, .null), (0, .ref (a 1)), (1, .int day)]) hx hb dX5_inForce_1 rfl hl (by decide) rfl (fun ls hl => ?_)
  refine lv_iconst (v := 0) hx hb dX5_inForce_2 (by decide) ?_
  refine lv_istore_n (lv' := [(3, .int 0), (2, .null), (0, .ref (a 1)), (1, .int day)]) hx hb dX5_inForce_3 rfl hl (by decide) rfl (fun ls hl => ?_)
  have loop_4 : ∀ (fuel_4 : Nat) (j : Nat) (o : Option Nat), j ≤ n 0 → o = ifN T day j → n 0 - j < fuel_4 → ∀ (ls : Array Slot), lv_has ls 5 [(0, .ref (a 1)), (1, .int day), (2, va_rf (o.map (b 0))), (3, .int (nI j))] → W p l e ({ frames := 0, cells := 0, slots := 0, locals := 0 }) s m (List.toArray [.ref (a 1), .int day]) below meth c s.heap [] 0 0 (MQ below (QR (va_rf ((ifN T day (n 0)).map (b 0)))) (List.toArray [.ref (a 1), .int day]) s 0 0 (fun _ => False)) (F0 m 4 ls []) := by
    intro fuel_4
    induction fuel_4 with
    | zero => intro j o hj ho hfuel_4; exact absurd hfuel_4 (Nat.not_lt_zero _)
    | succ fuel_4 ih_4 =>
      intro j o hj ho hfuel_4 ls hl
      rcases o with _ | q0
      · have ho0 := ho
        refine lv_iload_n hx hb dX5_inForce_4 rfl (lv_at hl 3 rfl) ?_
        refine lv_aload_n hx hb dX5_inForce_5 rfl (lv_at hl 0 rfl) ?_
        refine va_get (D := D) (ci := 5) (v := .int (nI (n 0))) (C := RX5) (T := TX5) (N := 2) hx hb hts hiX5 hown hE.1 hP 1 ofl_1 rfl 1 (by decide) (hts (.fieldLink RX5 17 "FindsOffice$LawBook" "told" "I") (by decide +kernel)) (fun _ h9 => h9) rfl dX5_inForce_6 ?_
        refine lv_icmp_ge (tgt := 65) hx hb dX5_inForce_9 (by decide) (fun c_1 => ?_) (fun c_1 => ?_)
        · have k_1 := nat_le (a := (n 0)) (b := j) c_1 (by omega) (by omega)
          refine lv_aload_nN hx hb dX5_inForce_65 rfl (lv_at hl 2 rfl) ?_
          exact ro_aret hx hb hr hlocks (by rw [show n 0 = j by omega, ← ho0]; rfl) (Or.inl rfl) dX5_inForce_66
        · have k_1 := nat_nle (a := (n 0)) (b := j) c_1 (by omega) (by omega)
          refine lv_iload_n hx hb dX5_inForce_12 rfl (lv_at hl 3 rfl) ?_
          refine lv_bipush (v := 20) hx hb dX5_inForce_13 (by decide) ?_
          refine lv_icmp_ge (tgt := 65) hx hb dX5_inForce_15 (by decide) (fun c_2 => ?_) (fun c_2 => ?_)
          · have k_2 := nat_le (a := 20) (b := j) c_2 (by omega) (by omega)
            exfalso; omega
          · have k_2 := nat_nle (a := 20) (b := j) c_2 (by omega) (by omega)
            refine lv_aload_n hx hb dX5_inForce_18 rfl (lv_at hl 0 rfl) ?_
            refine va_get (D := D) (ci := 5) (v := .ref (a 2)) (C := RX5) (T := TX5) (N := 2) hx hb hts hiX5 hown hE.1 hP 1 ofl_1 rfl 0 (by decide) (hts (.fieldLink RX5 13 "FindsOffice$LawBook" "laws" "[LFindsOffice$Law;") (by decide +kernel)) (fun _ h9 => h9) rfl dX5_inForce_19 ?_
            refine lv_iload_n hx hb dX5_inForce_22 rfl (lv_at hl 3 rfl) ?_
            refine my_aldq (k := j) (v := .ref (b 0 j)) hx hb hE.1 hP 2 2 ofl_2 rfl rfl (by omega) (by decide) (by exact pf_at (by omega)) dX5_inForce_23 ?_
            refine lv_astore (lv' := [(4, .ref (b 0 j)), (0, .ref (a 1)), (1, .int day), (2, .null), (3, .int (nI j))]) hx hb dX5_inForce_24 hl (by decide) rfl (fun ls hl => ?_)
            refine lv_aload hx hb dX5_inForce_26 (lv_at hl 0 rfl) ?_
            refine lv_ifnull hx hb dX5_inForce_28 ?_
            refine lv_aload hx hb dX5_inForce_31 (lv_at hl 0 rfl) ?_
            have hq_3 := off_law (k := j) hP (by omega)
            refine va_get (D := D) (ci := 4) (v := .int (T 16 j)) (C := RX4) (T := TX4) (N := 5) hx hb hts hiX4 hown hE.1 hq_3 0 rfl rfl 0 (by decide) (hts (.fieldLink RX5 25 "FindsOffice$Law" "from" "I") (by decide +kernel)) (fun _ h9 => h9) rfl dX5_inForce_33 ?_
            refine lv_iload_n hx hb dX5_inForce_36 rfl (lv_at hl 2 rfl) ?_
            refine lv_icmp_gt (tgt := 59) hx hb dX5_inForce_37 (by decide) (fun c_4 => ?_) (fun c_4 => ?_)
            · refine lv_iinc (v := nI (j + 1)) (lv' := [(3, .int (nI (j + 1))), (4, .ref (b 0 j)), (0, .ref (a 1)), (1, .int day), (2, .null)]) hx hb dX5_inForce_59 hl (k := 4) rfl (nI_1 _) (by decide) rfl (fun ls hl => ?_)
              refine lv_goto (tgt := 4) hx hb dX5_inForce_62 (by decide) ?_
              exact ih_4 (j + 1) (none) (by omega) (by simp [ifN, ← ho0, c_1, c_2, c_4]) (by omega) ls (lv_sub hl [2, 3, 4, 0] rfl)
            · refine lv_aload_nN hx hb dX5_inForce_40 rfl (lv_at hl 3 rfl) ?_
              refine lv_ifnullN (tgt := 56) hx hb dX5_inForce_41 (by decide) ?_
              refine lv_aload hx hb dX5_inForce_56 (lv_at hl 0 rfl) ?_
              refine lv_astore_n (lv' := [(2, .ref (b 0 j)), (4, .ref (b 0 j)), (0, .ref (a 1)), (1, .int day), (3, .int (nI j))]) hx hb dX5_inForce_58 rfl hl (by decide) rfl (fun ls hl => ?_)
              refine lv_iinc (v := nI (j + 1)) (lv' := [(3, .int (nI (j + 1))), (2, .ref (b 0 j)), (4, .ref (b 0 j)), (0, .ref (a 1)), (1, .int day)]) hx hb dX5_inForce_59 hl (k := 4) rfl (nI_1 _) (by decide) rfl (fun ls hl => ?_)
              refine lv_goto (tgt := 4) hx hb dX5_inForce_62 (by decide) ?_
              exact ih_4 (j + 1) (some j) (by omega) (by simp [ifN, ← ho0, c_1, c_2, c_4]) (by omega) ls (lv_sub hl [3, 4, 1, 0] rfl)
      · have hq0 := ifN_lt ho.symm
        have ho0 := ho
        refine lv_iload_n hx hb dX5_inForce_4 rfl (lv_at hl 3 rfl) ?_
        refine lv_aload_n hx hb dX5_inForce_5 rfl (lv_at hl 0 rfl) ?_
        refine va_get (D := D) (ci := 5) (v := .int (nI (n 0))) (C := RX5) (T := TX5) (N := 2) hx hb hts hiX5 hown hE.1 hP 1 ofl_1 rfl 1 (by decide) (hts (.fieldLink RX5 17 "FindsOffice$LawBook" "told" "I") (by decide +kernel)) (fun _ h9 => h9) rfl dX5_inForce_6 ?_
        refine lv_icmp_ge (tgt := 65) hx hb dX5_inForce_9 (by decide) (fun c_5 => ?_) (fun c_5 => ?_)
        · have k_5 := nat_le (a := (n 0)) (b := j) c_5 (by omega) (by omega)
          refine lv_aload_n hx hb dX5_inForce_65 rfl (lv_at hl 2 rfl) ?_
          exact ro_aret hx hb hr hlocks (by rw [show n 0 = j by omega, ← ho0]; rfl) (Or.inr ⟨_, rfl⟩) dX5_inForce_66
        · have k_5 := nat_nle (a := (n 0)) (b := j) c_5 (by omega) (by omega)
          refine lv_iload_n hx hb dX5_inForce_12 rfl (lv_at hl 3 rfl) ?_
          refine lv_bipush (v := 20) hx hb dX5_inForce_13 (by decide) ?_
          refine lv_icmp_ge (tgt := 65) hx hb dX5_inForce_15 (by decide) (fun c_6 => ?_) (fun c_6 => ?_)
          · have k_6 := nat_le (a := 20) (b := j) c_6 (by omega) (by omega)
            exfalso; omega
          · have k_6 := nat_nle (a := 20) (b := j) c_6 (by omega) (by omega)
            refine lv_aload_n hx hb dX5_inForce_18 rfl (lv_at hl 0 rfl) ?_
            refine va_get (D := D) (ci := 5) (v := .ref (a 2)) (C := RX5) (T := TX5) (N := 2) hx hb hts hiX5 hown hE.1 hP 1 ofl_1 rfl 0 (by decide) (hts (.fieldLink RX5 13 "FindsOffice$LawBook" "laws" "[LFindsOffice$Law;") (by decide +kernel)) (fun _ h9 => h9) rfl dX5_inForce_19 ?_
            refine lv_iload_n hx hb dX5_inForce_22 rfl (lv_at hl 3 rfl) ?_
            refine my_aldq (k := j) (v := .ref (b 0 j)) hx hb hE.1 hP 2 2 ofl_2 rfl rfl (by omega) (by decide) (by exact pf_at (by omega)) dX5_inForce_23 ?_
            refine lv_astore (lv' := [(4, .ref (b 0 j)), (0, .ref (a 1)), (1, .int day), (2, .ref (b 0 q0)), (3, .int (nI j))]) hx hb dX5_inForce_24 hl (by decide) rfl (fun ls hl => ?_)
            refine lv_aload hx hb dX5_inForce_26 (lv_at hl 0 rfl) ?_
            refine lv_ifnull hx hb dX5_inForce_28 ?_
            refine lv_aload hx hb dX5_inForce_31 (lv_at hl 0 rfl) ?_
            have hq_7 := off_law (k := j) hP (by omega)
            refine va_get (D := D) (ci := 4) (v := .int (T 16 j)) (C := RX4) (T := TX4) (N := 5) hx hb hts hiX4 hown hE.1 hq_7 0 rfl rfl 0 (by decide) (hts (.fieldLink RX5 25 "FindsOffice$Law" "from" "I") (by decide +kernel)) (fun _ h9 => h9) rfl dX5_inForce_33 ?_
            refine lv_iload_n hx hb dX5_inForce_36 rfl (lv_at hl 2 rfl) ?_
            refine lv_icmp_gt (tgt := 59) hx hb dX5_inForce_37 (by decide) (fun c_8 => ?_) (fun c_8 => ?_)
            · refine lv_iinc (v := nI (j + 1)) (lv' := [(3, .int (nI (j + 1))), (4, .ref (b 0 j)), (0, .ref (a 1)), (1, .int day), (2, .ref (b 0 q0))]) hx hb dX5_inForce_59 hl (k := 4) rfl (nI_1 _) (by decide) rfl (fun ls hl => ?_)
              refine lv_goto (tgt := 4) hx hb dX5_inForce_62 (by decide) ?_
              exact ih_4 (j + 1) (some q0) (by omega) (by simp [ifN, ← ho0, c_5, c_6, c_8]) (by omega) ls (lv_sub hl [2, 3, 4, 0] rfl)
            · refine lv_aload_n hx hb dX5_inForce_40 rfl (lv_at hl 3 rfl) ?_
              refine lv_ifnull hx hb dX5_inForce_41 ?_
              refine lv_aload hx hb dX5_inForce_44 (lv_at hl 0 rfl) ?_
              refine va_get (D := D) (ci := 4) (v := .int (T 16 j)) (C := RX4) (T := TX4) (N := 5) hx hb hts hiX4 hown hE.1 hq_7 0 rfl rfl 0 (by decide) (hts (.fieldLink RX5 25 "FindsOffice$Law" "from" "I") (by decide +kernel)) (fun _ h9 => h9) rfl dX5_inForce_46 ?_
              refine lv_aload_n hx hb dX5_inForce_49 rfl (lv_at hl 3 rfl) ?_
              have hq_9 := off_law (k := q0) hP (by omega)
              refine va_get (D := D) (ci := 4) (v := .int (T 16 q0)) (C := RX4) (T := TX4) (N := 5) hx hb hts hiX4 hown hE.1 hq_9 0 rfl rfl 0 (by decide) (hts (.fieldLink RX5 25 "FindsOffice$Law" "from" "I") (by decide +kernel)) (fun _ h9 => h9) rfl dX5_inForce_50 ?_
              refine lv_icmp_lt (tgt := 59) hx hb dX5_inForce_53 (by decide) (fun c_10 => ?_) (fun c_10 => ?_)
              · refine lv_iinc (v := nI (j + 1)) (lv' := [(3, .int (nI (j + 1))), (4, .ref (b 0 j)), (0, .ref (a 1)), (1, .int day), (2, .ref (b 0 q0))]) hx hb dX5_inForce_59 hl (k := 4) rfl (nI_1 _) (by decide) rfl (fun ls hl => ?_)
                refine lv_goto (tgt := 4) hx hb dX5_inForce_62 (by decide) ?_
                exact ih_4 (j + 1) (some q0) (by omega) (by simp [ifN, ← ho0, c_5, c_6, c_8, c_10]) (by omega) ls (lv_sub hl [2, 3, 4, 0] rfl)
              · refine lv_aload hx hb dX5_inForce_56 (lv_at hl 0 rfl) ?_
                refine lv_astore_n (lv' := [(2, .ref (b 0 j)), (4, .ref (b 0 j)), (0, .ref (a 1)), (1, .int day), (3, .int (nI j))]) hx hb dX5_inForce_58 rfl hl (by decide) rfl (fun ls hl => ?_)
                refine lv_iinc (v := nI (j + 1)) (lv' := [(3, .int (nI (j + 1))), (2, .ref (b 0 j)), (4, .ref (b 0 j)), (0, .ref (a 1)), (1, .int day)]) hx hb dX5_inForce_59 hl (k := 4) rfl (nI_1 _) (by decide) rfl (fun ls hl => ?_)
                refine lv_goto (tgt := 4) hx hb dX5_inForce_62 (by decide) ?_
                exact ih_4 (j + 1) (some j) (by omega) (by simp [ifN, ← ho0, c_5, c_6, c_8, c_10]) (by omega) ls (lv_sub hl [3, 4, 1, 0] rfl)
  exact loop_4 _ 0 none (by omega) rfl (Nat.lt_succ_self _) ls (lv_sub hl [2, 3, 1, 0] rfl)
set_option maxHeartbeats 4000000 in
set_option maxRecDepth 100000 in
theorem c_X3_holderOn (l : Launch) (D : va_G) (cT : Nat → ClassId) (a : Nat → Nat) (b : Nat → Nat → Nat) (T P : Nat → Nat → Int32) (n : Nat → Nat) (plot day : Int32) (hn : Cnt n) (hpos : ∀ k, k < n 4 → ¬ T 23 k < 0) : Met l yX3_holderOn wsX3_holderOn ({ frames := 0, cells := 0, slots := 0, locals := 0 }) (va_Pc [.ref (a 3), .int plot, .int day] (PB D cT (offW cT a b T P n))) (QR (.int (owW (T 24) (owN T plot day (n 4))))) 0 0 (fun _ => False) := by
  refine RO_of (by decide) rfl (Nat.le_of_ble_eq_true rfl) ?_
  intro p e s m below meth c hx hb hr hts hown hlocks hml hE hP ls hl
  have hiX3 : ∀ w ∈ wsX30, w ∈ wsX3_holderOn := by decide +kernel
  have hl : lv_has ls 6 [(0, .ref (a 3)), (1, .int plot), (2, .int day)] := hl
  obtain ⟨hn0, hn1, hn2, hn3, hn4⟩ := id hn
  refine lv_iconst (v := 0) hx hb dX3_holderOn_0 (by decide) ?_
  refine lv_istore_n (lv' := [(3, .int 0), (0, .ref (a 3)), (1, .int plot), (2, .int day)]) hx hb dX3_holderOn_1 rfl hl (by decide) rfl (fun ls hl => ?_)
  refine lv_iconst (v := 0) hx hb dX3_holderOn_2 (by decide) ?_
  refine lv_istore (lv' := [(4, .int 0), (3, .int 0), (0, .ref (a 3)), (1, .int plot), (2, .int day)]) hx hb dX3_holderOn_3 hl (by decide) rfl (fun ls hl => ?_)
  refine lv_iconst (v := 0) hx hb dX3_holderOn_5 (by decide) ?_
  refine lv_istore (lv' := [(5, .int 0), (4, .int 0), (3, .int 0), (0, .ref (a 3)), (1, .int plot), (2, .int day)]) hx hb dX3_holderOn_6 hl (by decide) rfl (fun ls hl => ?_)
  have loop_8 : ∀ (fuel_8 : Nat) (j : Nat) (v u : Int32), j ≤ n 4 → v = owW (T 24) (owN T plot day j) → u = owW (T 23) (owN T plot day j) → n 4 - j < fuel_8 → ∀ (ls : Array Slot), lv_has ls 6 [(0, .ref (a 3)), (1, .int plot), (2, .int day), (3, .int v), (4, .int u), (5, .int (nI j))] → W p l e ({ frames := 0, cells := 0, slots := 0, locals := 0 }) s m (List.toArray [.ref (a 3), .int plot, .int day]) below meth c s.heap [] 0 0 (MQ below (QR (.int (owW (T 24) (owN T plot day (n 4))))) (List.toArray [.ref (a 3), .int plot, .int day]) s 0 0 (fun _ => False)) (F0 m 8 ls []) := by
    intro fuel_8
    induction fuel_8 with
    | zero => intro j v u hj hv hu hfuel_8; exact absurd hfuel_8 (Nat.not_lt_zero _)
    | succ fuel_8 ih_8 =>
      intro j v u hj hv hu hfuel_8 ls hl
      refine lv_iload hx hb dX3_holderOn_8 (lv_at hl 5 rfl) ?_
      refine lv_aload_n hx hb dX3_holderOn_10 rfl (lv_at hl 0 rfl) ?_
      refine va_get (D := D) (ci := 3) (v := .int (nI (n 4))) (C := RX3) (T := TX3) (N := 4) hx hb hts hiX3 hown hE.1 hP 3 ofl_3 rfl 3 (by decide) (hts (.fieldLink RX3 21 "FindsOffice$LandBook" "told" "I") (by decide +kernel)) (fun _ h9 => h9) rfl dX3_holderOn_11 ?_
      refine lv_icmp_ge (tgt := 81) hx hb dX3_holderOn_14 (by decide) (fun c_1 => ?_) (fun c_1 => ?_)
      · have k_1 := nat_le (a := (n 4)) (b := j) c_1 (by omega) (by omega)
        refine lv_iload_n hx hb dX3_holderOn_81 rfl (lv_at hl 3 rfl) ?_
        exact ro_iret hx hb hr hlocks (by rw [hv]; congr 2; omega) dX3_holderOn_82
      · have k_1 := nat_nle (a := (n 4)) (b := j) c_1 (by omega) (by omega)
        refine lv_iload hx hb dX3_holderOn_17 (lv_at hl 5 rfl) ?_
        refine lv_bipush (v := 100) hx hb dX3_holderOn_19 (by decide) ?_
        refine lv_icmp_ge (tgt := 81) hx hb dX3_holderOn_21 (by decide) (fun c_2 => ?_) (fun c_2 => ?_)
        · have k_2 := nat_le (a := 100) (b := j) c_2 (by omega) (by omega)
          exfalso; omega
        · have k_2 := nat_nle (a := 100) (b := j) c_2 (by omega) (by omega)
          refine lv_aload_n hx hb dX3_holderOn_24 rfl (lv_at hl 0 rfl) ?_
          refine va_get (D := D) (ci := 3) (v := .ref (a 4)) (C := RX3) (T := TX3) (N := 4) hx hb hts hiX3 hown hE.1 hP 3 ofl_3 rfl 0 (by decide) (hts (.fieldLink RX3 11 "FindsOffice$LandBook" "plots" "[I") (by decide +kernel)) (fun _ h9 => h9) rfl dX3_holderOn_25 ?_
          refine lv_iload hx hb dX3_holderOn_28 (lv_at hl 5 rfl) ?_
          refine my_iald (k := j) hx hb hE.1 hP 4 0 ofl_4 rfl rfl (by omega) (by decide) dX3_holderOn_30 ?_
          refine lv_iload_n hx hb dX3_holderOn_31 rfl (lv_at hl 1 rfl) ?_
          refine lv_icmp_ne (tgt := 75) hx hb dX3_holderOn_32 (by decide) (fun c_3 => ?_) (fun c_3 => ?_)
          · refine lv_iinc (v := nI (j + 1)) (lv' := [(5, .int (nI (j + 1))), (0, .ref (a 3)), (1, .int plot), (2, .int day), (3, .int v), (4, .int u)]) hx hb dX3_holderOn_75 hl (k := 5) rfl (nI_1 _) (by decide) rfl (fun ls hl => ?_)
            refine lv_goto (tgt := 8) hx hb dX3_holderOn_78 (by decide) ?_
            exact ih_8 (j + 1) _ _ (by omega) (by subst hv; subst hu; rw [owN_succ (hpos j (by omega)), if_neg (by simp [c_1, c_2, c_3])]) (by subst hv; subst hu; rw [owN_succ (hpos j (by omega)), if_neg (by simp [c_1, c_2, c_3])]) (by omega) ls (lv_sub hl [1, 2, 3, 4, 5, 0] rfl)
          · refine lv_aload_n hx hb dX3_holderOn_35 rfl (lv_at hl 0 rfl) ?_
            refine va_get (D := D) (ci := 3) (v := .ref (a 5)) (C := RX3) (T := TX3) (N := 4) hx hb hts hiX3 hown hE.1 hP 3 ofl_3 rfl 1 (by decide) (hts (.fieldLink RX3 15 "FindsOffice$LandBook" "days" "[I") (by decide +kernel)) (fun _ h9 => h9) rfl dX3_holderOn_36 ?_
            refine lv_iload hx hb dX3_holderOn_39 (lv_at hl 5 rfl) ?_
            refine my_iald (k := j) hx hb hE.1 hP 5 0 ofl_5 rfl rfl (by omega) (by decide) dX3_holderOn_41 ?_
            refine lv_iload_n hx hb dX3_holderOn_42 rfl (lv_at hl 2 rfl) ?_
            refine lv_icmp_gt (tgt := 75) hx hb dX3_holderOn_43 (by decide) (fun c_4 => ?_) (fun c_4 => ?_)
            · refine lv_iinc (v := nI (j + 1)) (lv' := [(5, .int (nI (j + 1))), (0, .ref (a 3)), (1, .int plot), (2, .int day), (3, .int v), (4, .int u)]) hx hb dX3_holderOn_75 hl (k := 5) rfl (nI_1 _) (by decide) rfl (fun ls hl => ?_)
              refine lv_goto (tgt := 8) hx hb dX3_holderOn_78 (by decide) ?_
              exact ih_8 (j + 1) _ _ (by omega) (by subst hv; subst hu; rw [owN_succ (hpos j (by omega)), if_neg (by simp [c_1, c_2, c_3, c_4])]) (by subst hv; subst hu; rw [owN_succ (hpos j (by omega)), if_neg (by simp [c_1, c_2, c_3, c_4])]) (by omega) ls (lv_sub hl [1, 2, 3, 4, 5, 0] rfl)
            · refine lv_aload_n hx hb dX3_holderOn_46 rfl (lv_at hl 0 rfl) ?_
              refine va_get (D := D) (ci := 3) (v := .ref (a 5)) (C := RX3) (T := TX3) (N := 4) hx hb hts hiX3 hown hE.1 hP 3 ofl_3 rfl 1 (by decide) (hts (.fieldLink RX3 15 "FindsOffice$LandBook" "days" "[I") (by decide +kernel)) (fun _ h9 => h9) rfl dX3_holderOn_47 ?_
              refine lv_iload hx hb dX3_holderOn_50 (lv_at hl 5 rfl) ?_
              refine my_iald (k := j) hx hb hE.1 hP 5 0 ofl_5 rfl rfl (by omega) (by decide) dX3_holderOn_52 ?_
              refine lv_iload hx hb dX3_holderOn_53 (lv_at hl 4 rfl) ?_
              refine lv_icmp_lt (tgt := 75) hx hb dX3_holderOn_55 (by decide) (fun c_5 => ?_) (fun c_5 => ?_)
              · refine lv_iinc (v := nI (j + 1)) (lv' := [(5, .int (nI (j + 1))), (0, .ref (a 3)), (1, .int plot), (2, .int day), (3, .int v), (4, .int u)]) hx hb dX3_holderOn_75 hl (k := 5) rfl (nI_1 _) (by decide) rfl (fun ls hl => ?_)
                refine lv_goto (tgt := 8) hx hb dX3_holderOn_78 (by decide) ?_
                exact ih_8 (j + 1) _ _ (by omega) (by subst hv; subst hu; rw [owN_succ (hpos j (by omega)), if_neg (by simp [c_1, c_2, c_3, c_4, c_5])]) (by subst hv; subst hu; rw [owN_succ (hpos j (by omega)), if_neg (by simp [c_1, c_2, c_3, c_4, c_5])]) (by omega) ls (lv_sub hl [1, 2, 3, 4, 5, 0] rfl)
              · refine lv_aload_n hx hb dX3_holderOn_58 rfl (lv_at hl 0 rfl) ?_
                refine va_get (D := D) (ci := 3) (v := .ref (a 6)) (C := RX3) (T := TX3) (N := 4) hx hb hts hiX3 hown hE.1 hP 3 ofl_3 rfl 2 (by decide) (hts (.fieldLink RX3 18 "FindsOffice$LandBook" "holders" "[I") (by decide +kernel)) (fun _ h9 => h9) rfl dX3_holderOn_59 ?_
                refine lv_iload hx hb dX3_holderOn_62 (lv_at hl 5 rfl) ?_
                refine my_iald (k := j) hx hb hE.1 hP 6 0 ofl_6 rfl rfl (by omega) (by decide) dX3_holderOn_64 ?_
                refine lv_istore_n (lv' := [(3, .int (T 24 j)), (0, .ref (a 3)), (1, .int plot), (2, .int day), (4, .int u), (5, .int (nI j))]) hx hb dX3_holderOn_65 rfl hl (by decide) rfl (fun ls hl => ?_)
                refine lv_aload_n hx hb dX3_holderOn_66 rfl (lv_at hl 1 rfl) ?_
                refine va_get (D := D) (ci := 3) (v := .ref (a 5)) (C := RX3) (T := TX3) (N := 4) hx hb hts hiX3 hown hE.1 hP 3 ofl_3 rfl 1 (by decide) (hts (.fieldLink RX3 15 "FindsOffice$LandBook" "days" "[I") (by decide +kernel)) (fun _ h9 => h9) rfl dX3_holderOn_67 ?_
                refine lv_iload hx hb dX3_holderOn_70 (lv_at hl 5 rfl) ?_
                refine my_iald (k := j) hx hb hE.1 hP 5 0 ofl_5 rfl rfl (by omega) (by decide) dX3_holderOn_72 ?_
                refine lv_istore (lv' := [(4, .int (T 23 j)), (3, .int (T 24 j)), (0, .ref (a 3)), (1, .int plot), (2, .int day), (5, .int (nI j))]) hx hb dX3_holderOn_73 hl (by decide) rfl (fun ls hl => ?_)
                refine lv_iinc (v := nI (j + 1)) (lv' := [(5, .int (nI (j + 1))), (4, .int (T 23 j)), (3, .int (T 24 j)), (0, .ref (a 3)), (1, .int plot), (2, .int day)]) hx hb dX3_holderOn_75 hl (k := 5) rfl (nI_1 _) (by decide) rfl (fun ls hl => ?_)
                refine lv_goto (tgt := 8) hx hb dX3_holderOn_78 (by decide) ?_
                exact ih_8 (j + 1) _ _ (by omega) (by subst hv; subst hu; rw [owN_succ (hpos j (by omega)), if_pos ⟨c_3, c_4, c_5⟩]; rfl) (by subst hv; subst hu; rw [owN_succ (hpos j (by omega)), if_pos ⟨c_3, c_4, c_5⟩]; rfl) (by omega) ls (lv_sub hl [3, 4, 5, 2, 1, 0] rfl)
  exact loop_8 _ 0 0 0 (by omega) rfl rfl (Nat.lt_succ_self _) ls (lv_sub hl [3, 4, 5, 2, 1, 0] rfl)
set_option maxHeartbeats 4000000 in
set_option maxRecDepth 100000 in
theorem c_X0_numbered (l : Launch) (D : va_G) (cT : Nat → ClassId) (a : Nat → Nat) (b : Nat → Nat → Nat) (T P : Nat → Nat → Int32) (n : Nat → Nat) (i : Int32) (hn : Cnt n) : Met l yX0_numbered wsX0_numbered ({ frames := 0, cells := 0, slots := 0, locals := 0 }) (va_Pc [.ref (a 16), .int i] (PB D cT (offW cT a b T P n))) (QR (nuV (b 3) (n 3) i)) 0 0 (fun _ => False) := by
  refine RO_of (by decide) rfl (Nat.le_of_ble_eq_true rfl) ?_
  intro p e s m below meth c hx hb hr hts hown hlocks hml hE hP ls hl
  have hiX0 : ∀ w ∈ wsX00, w ∈ wsX0_numbered := by decide +kernel
  have hl : lv_has ls 2 [(0, .ref (a 16)), (1, .int i)] := hl
  obtain ⟨hn0, hn1, hn2, hn3, hn4⟩ := id hn
  refine lv_iload_n hx hb dX0_numbered_0 rfl (lv_at hl 1 rfl) ?_
  refine lv_if_lt (tgt := 27) hx hb dX0_numbered_1 (by decide) (fun c_1 => ?_) (fun c_1 => ?_)
  · refine lv_null hx hb dX0_numbered_27 ?_
    exact ro_aret hx hb hr hlocks (by simp [nuV, isT, c_1]) (Or.inl rfl) dX0_numbered_28
  · refine lv_iload_n hx hb dX0_numbered_4 rfl (lv_at hl 1 rfl) ?_
    refine lv_aload_n hx hb dX0_numbered_5 rfl (lv_at hl 0 rfl) ?_
    refine va_get (D := D) (ci := 0) (v := .int (nI (n 3))) (C := RX0) (T := TX0) (N := 3) hx hb hts hiX0 hown hE.1 hP 16 ofl_16 rfl 1 (by decide) (hts (.fieldLink RX0 17 "FindsOffice$Circle" "told" "I") (by decide +kernel)) (fun _ h9 => h9) rfl dX0_numbered_6 ?_
    refine lv_icmp_ge (tgt := 27) hx hb dX0_numbered_9 (by decide) (fun c_2 => ?_) (fun c_2 => ?_)
    · refine lv_null hx hb dX0_numbered_27 ?_
      exact ro_aret hx hb hr hlocks (by simp [nuV, isT, c_2]) (Or.inl rfl) dX0_numbered_28
    · refine lv_iload_n hx hb dX0_numbered_12 rfl (lv_at hl 1 rfl) ?_
      refine lv_bipush (v := 10) hx hb dX0_numbered_13 (by decide) ?_
      refine lv_icmp_ge (tgt := 27) hx hb dX0_numbered_15 (by decide) (fun c_3 => ?_) (fun c_3 => ?_)
      · exact absurd c_3 (nle_of c_2 hn3 (by decide))
      · obtain ⟨k, hk, rfl⟩ := isT_k (m := n 3) (i := i) (by simp [isT, c_1, c_2]) (by omega)
        refine lv_aload_n hx hb dX0_numbered_18 rfl (lv_at hl 0 rfl) ?_
        refine va_get (D := D) (ci := 0) (v := .ref (a 17)) (C := RX0) (T := TX0) (N := 3) hx hb hts hiX0 hown hE.1 hP 16 ofl_16 rfl 0 (by decide) (hts (.fieldLink RX0 13 "FindsOffice$Circle" "museums" "[LFindsOffice$Museum;") (by decide +kernel)) (fun _ h9 => h9) rfl dX0_numbered_19 ?_
        refine lv_iload_n hx hb dX0_numbered_22 rfl (lv_at hl 1 rfl) ?_
        refine my_aldq (k := k) (v := .ref (b 3 k)) hx hb hE.1 hP 17 5 ofl_17 rfl rfl (by omega) (by decide) (by exact pf_at (by omega)) dX0_numbered_23 ?_
        refine lv_goto (tgt := 28) hx hb dX0_numbered_24 (by decide) ?_
        exact ro_aret hx hb hr hlocks (nuV_at hk (by omega)).symm (Or.inr ⟨_, rfl⟩) dX0_numbered_28
set_option maxHeartbeats 4000000 in
set_option maxRecDepth 100000 in
theorem c_X0_next (l : Launch) (D : va_G) (cT : Nat → ClassId) (a : Nat → Nat) (b : Nat → Nat → Nat) (T P : Nat → Nat → Int32) (n : Nat → Nat) (hn : Cnt n) : Met l yX0_next wsX0_next ({ frames := 0, cells := 0, slots := 0, locals := 0 }) (va_Pc [.ref (a 16)] (PB D cT (offW cT a b T P n))) (QR (.int (nxV (n 3) (T 36 0)))) 0 0 (fun _ => False) := by
  refine RO_of (by decide) rfl (Nat.le_of_ble_eq_true rfl) ?_
  intro p e s m below meth c hx hb hr hts hown hlocks hml hE hP ls hl
  have hiX0 : ∀ w ∈ wsX00, w ∈ wsX0_next := by decide +kernel
  have hl : lv_has ls 1 [(0, .ref (a 16))] := hl
  obtain ⟨hn0, hn1, hn2, hn3, hn4⟩ := id hn
  refine lv_aload_n hx hb dX0_next_0 rfl (lv_at hl 0 rfl) ?_
  refine va_get (D := D) (ci := 0) (v := .int (nI (n 3))) (C := RX0) (T := TX0) (N := 3) hx hb hts hiX0 hown hE.1 hP 16 ofl_16 rfl 1 (by decide) (hts (.fieldLink RX0 17 "FindsOffice$Circle" "told" "I") (by decide +kernel)) (fun _ h9 => h9) rfl dX0_next_1 ?_
  refine lv_if_ne (tgt := 9) hx hb dX0_next_4 (by decide) (fun c_1 => ?_) (fun c_1 => ?_)
  · refine lv_aload_n hx hb dX0_next_9 rfl (lv_at hl 0 rfl) ?_
    refine va_get (D := D) (ci := 0) (v := .int (T 36 0 + 1)) (C := RX0) (T := TX0) (N := 3) hx hb hts hiX0 hown hE.1 hP 16 ofl_16 rfl 2 (by decide) (hts (.fieldLink RX0 21 "FindsOffice$Circle" "behindLatest" "I") (by decide +kernel)) (fun _ h9 => h9) rfl dX0_next_10 ?_
    refine lv_aload_n hx hb dX0_next_13 rfl (lv_at hl 0 rfl) ?_
    refine va_get (D := D) (ci := 0) (v := .int (nI (n 3))) (C := RX0) (T := TX0) (N := 3) hx hb hts hiX0 hown hE.1 hP 16 ofl_16 rfl 1 (by decide) (hts (.fieldLink RX0 17 "FindsOffice$Circle" "told" "I") (by decide +kernel)) (fun _ h9 => h9) rfl dX0_next_14 ?_
    refine lv_icmp_ge (tgt := 27) hx hb dX0_next_17 (by decide) (fun c_2 => ?_) (fun c_2 => ?_)
    · refine lv_iconst (v := 0) hx hb dX0_next_27 (by decide) ?_
      exact ro_iret hx hb hr hlocks (by first | rfl | (simp [b2, btw, nxV, c_1, c_2]; done)) dX0_next_28
    · refine lv_aload_n hx hb dX0_next_20 rfl (lv_at hl 0 rfl) ?_
      refine va_get (D := D) (ci := 0) (v := .int (T 36 0 + 1)) (C := RX0) (T := TX0) (N := 3) hx hb hts hiX0 hown hE.1 hP 16 ofl_16 rfl 2 (by decide) (hts (.fieldLink RX0 21 "FindsOffice$Circle" "behindLatest" "I") (by decide +kernel)) (fun _ h9 => h9) rfl dX0_next_21 ?_
      refine lv_goto (tgt := 28) hx hb dX0_next_24 (by decide) ?_
      exact ro_iret hx hb hr hlocks (by first | rfl | (simp [b2, btw, nxV, c_1, c_2]; done)) dX0_next_28
  · refine lv_iconst (v := (-1)) hx hb dX0_next_7 (by decide) ?_
    exact ro_iret hx hb hr hlocks (by first | rfl | (simp [b2, btw, nxV, c_1]; done)) dX0_next_8
set_option maxHeartbeats 4000000 in
set_option maxRecDepth 100000 in
theorem c_X6_levelIn (l : Launch) (D : va_G) (cT : Nat → ClassId) (a : Nat → Nat) (b : Nat → Nat → Nat) (T P : Nat → Nat → Int32) (n : Nat → Nat) (i : Int32) (hn : Cnt n) : Met l yX6_levelIn wsX6_levelIn ({ frames := 0, cells := 0, slots := 0, locals := 0 }) (va_Pc [.ref (a 13), .int i] (PB D cT (offW cT a b T P n))) (QR (.int (lvV (T 25) i))) 0 0 (fun _ => False) := by
  refine RO_of (by decide) rfl (Nat.le_of_ble_eq_true rfl) ?_
  intro p e s m below meth c hx hb hr hts hown hlocks hml hE hP ls hl
  have hiX6 : ∀ w ∈ wsX60, w ∈ wsX6_levelIn := by decide +kernel
  have hl : lv_has ls 3 [(0, .ref (a 13)), (1, .int i)] := hl
  obtain ⟨hn0, hn1, hn2, hn3, hn4⟩ := id hn
  refine lv_iload_n hx hb dX6_levelIn_0 rfl (lv_at hl 1 rfl) ?_
  refine lv_sipush (v := 1950) hx hb dX6_levelIn_1 (by decide) ?_
  refine lv_isub hx hb dX6_levelIn_4 ?_
  refine lv_istore_n (lv' := [(2, .int (i - 1950)), (0, .ref (a 13)), (1, .int i)]) hx hb dX6_levelIn_5 rfl hl (by decide) rfl (fun ls hl => ?_)
  refine lv_iload_n hx hb dX6_levelIn_6 rfl (lv_at hl 0 rfl) ?_
  refine lv_if_lt (tgt := 28) hx hb dX6_levelIn_7 (by decide) (fun c_1 => ?_) (fun c_1 => ?_)
  · refine lv_bipush (v := 100) hx hb dX6_levelIn_28 (by decide) ?_
    exact ro_iret hx hb hr hlocks (by simp [lvV, c_1]) dX6_levelIn_30
  · refine lv_iload_n hx hb dX6_levelIn_10 rfl (lv_at hl 0 rfl) ?_
    refine lv_aload_n hx hb dX6_levelIn_11 rfl (lv_at hl 1 rfl) ?_
    refine va_get (D := D) (ci := 6) (v := .ref (a 15)) (C := RX6) (T := TX6) (N := 3) hx hb hts hiX6 hown hE.1 hP 13 ofl_13 rfl 2 (by decide) (hts (.fieldLink RX6 21 "FindsOffice$Market" "levels" "[I") (by decide +kernel)) (fun _ h9 => h9) rfl dX6_levelIn_12 ?_
    refine va_alen (v := 55) hx hb hE.1 hP 15 0 ofl_15 rfl rfl dX6_levelIn_15 ?_
    refine lv_icmp_ge (tgt := 28) hx hb dX6_levelIn_16 (by decide) (fun c_2 => ?_) (fun c_2 => ?_)
    · refine lv_bipush (v := 100) hx hb dX6_levelIn_28 (by decide) ?_
      exact ro_iret hx hb hr hlocks (by simp [lvV, c_1, c_2]) dX6_levelIn_30
    · obtain ⟨k, hk, he⟩ := isT_k (m := 55) (i := i - 1950) (by simp only [isT, Bool.and_eq_true, Bool.not_eq_true', decide_eq_false_iff_not]; exact ⟨c_1, c_2⟩) (by decide)
      refine lv_aload_n hx hb dX6_levelIn_19 rfl (lv_at hl 1 rfl) ?_
      refine va_get (D := D) (ci := 6) (v := .ref (a 15)) (C := RX6) (T := TX6) (N := 3) hx hb hts hiX6 hown hE.1 hP 13 ofl_13 rfl 2 (by decide) (hts (.fieldLink RX6 21 "FindsOffice$Market" "levels" "[I") (by decide +kernel)) (fun _ h9 => h9) rfl dX6_levelIn_20 ?_
      refine lv_iload_n hx hb dX6_levelIn_23 rfl (lv_at hl 0 rfl) ?_
      refine my_iald (k := k) hx hb hE.1 hP 15 0 ofl_15 rfl he hk (by decide) dX6_levelIn_24 ?_
      refine lv_goto (tgt := 30) hx hb dX6_levelIn_25 (by decide) ?_
      exact ro_iret hx hb hr hlocks (by simp only [lvV, c_1, c_2, decide_false, Bool.not_false, Bool.and_self, if_true]; rw [he, nI_clamp (by omega)]) dX6_levelIn_30
set_option maxHeartbeats 4000000 in
set_option maxRecDepth 100000 in
theorem c_X6_salesOf (l : Launch) (D : va_G) (cT : Nat → ClassId) (a : Nat → Nat) (b : Nat → Nat → Nat) (T P : Nat → Nat → Int32) (n : Nat → Nat) (me : Int32) (hn : Cnt n) : Met l yX6_salesOf wsX6_salesOf ({ frames := 0, cells := 0, slots := 0, locals := 0 }) (va_Pc [.ref (a 13), .int me] (PB D cT (offW cT a b T P n))) (QR (.int (nI (saN T me (n 2))))) 0 0 (fun _ => False) := by
  refine RO_of (by decide) rfl (Nat.le_of_ble_eq_true rfl) ?_
  intro p e s m below meth c hx hb hr hts hown hlocks hml hE hP ls hl
  have hiX6 : ∀ w ∈ wsX60, w ∈ wsX6_salesOf := by decide +kernel
  have hiX8 : ∀ w ∈ wsX80, w ∈ wsX6_salesOf := by decide +kernel
  have hl : lv_has ls 5 [(0, .ref (a 13)), (1, .int me)] := hl
  obtain ⟨hn0, hn1, hn2, hn3, hn4⟩ := id hn
  refine lv_iconst (v := 0) hx hb dX6_salesOf_0 (by decide) ?_
  refine lv_istore_n (lv' := [(2, .int 0), (0, .ref (a 13)), (1, .int me)]) hx hb dX6_salesOf_1 rfl hl (by decide) rfl (fun ls hl => ?_)
  refine lv_iconst (v := 0) hx hb dX6_salesOf_2 (by decide) ?_
  refine lv_istore_n (lv' := [(3, .int 0), (2, .int 0), (0, .ref (a 13)), (1, .int me)]) hx hb dX6_salesOf_3 rfl hl (by decide) rfl (fun ls hl => ?_)
  have loop_4 : ∀ (fuel_4 : Nat) (j : Nat) (v : Int32), j ≤ n 2 → v = nI (saN T me j) → n 2 - j < fuel_4 → ∀ (ls : Array Slot), lv_has ls 5 [(0, .ref (a 13)), (1, .int me), (2, .int v), (3, .int (nI j))] → W p l e ({ frames := 0, cells := 0, slots := 0, locals := 0 }) s m (List.toArray [.ref (a 13), .int me]) below meth c s.heap [] 0 0 (MQ below (QR (.int (nI (saN T me (n 2))))) (List.toArray [.ref (a 13), .int me]) s 0 0 (fun _ => False)) (F0 m 4 ls []) := by
    intro fuel_4
    induction fuel_4 with
    | zero => intro j v hj hv hfuel_4; exact absurd hfuel_4 (Nat.not_lt_zero _)
    | succ fuel_4 ih_4 =>
      intro j v hj hv hfuel_4 ls hl
      refine lv_iload_n hx hb dX6_salesOf_4 rfl (lv_at hl 3 rfl) ?_
      refine lv_aload_n hx hb dX6_salesOf_5 rfl (lv_at hl 0 rfl) ?_
      refine va_get (D := D) (ci := 6) (v := .int (nI (n 2))) (C := RX6) (T := TX6) (N := 3) hx hb hts hiX6 hown hE.1 hP 13 ofl_13 rfl 1 (by decide) (hts (.fieldLink RX6 17 "FindsOffice$Market" "told" "I") (by decide +kernel)) (fun _ h9 => h9) rfl dX6_salesOf_6 ?_
      refine lv_icmp_ge (tgt := 49) hx hb dX6_salesOf_9 (by decide) (fun c_1 => ?_) (fun c_1 => ?_)
      · have k_1 := nat_le (a := (n 2)) (b := j) c_1 (by omega) (by omega)
        refine lv_iload_n hx hb dX6_salesOf_49 rfl (lv_at hl 2 rfl) ?_
        exact ro_iret hx hb hr hlocks (by rw [hv]; congr 2; omega) dX6_salesOf_50
      · have k_1 := nat_nle (a := (n 2)) (b := j) c_1 (by omega) (by omega)
        refine lv_iload_n hx hb dX6_salesOf_12 rfl (lv_at hl 3 rfl) ?_
        refine lv_bipush (v := 60) hx hb dX6_salesOf_13 (by decide) ?_
        refine lv_icmp_ge (tgt := 49) hx hb dX6_salesOf_15 (by decide) (fun c_2 => ?_) (fun c_2 => ?_)
        · have k_2 := nat_le (a := 60) (b := j) c_2 (by omega) (by omega)
          exfalso; omega
        · have k_2 := nat_nle (a := 60) (b := j) c_2 (by omega) (by omega)
          refine lv_aload_n hx hb dX6_salesOf_18 rfl (lv_at hl 0 rfl) ?_
          refine va_get (D := D) (ci := 6) (v := .ref (a 14)) (C := RX6) (T := TX6) (N := 3) hx hb hts hiX6 hown hE.1 hP 13 ofl_13 rfl 0 (by decide) (hts (.fieldLink RX6 13 "FindsOffice$Market" "sales" "[LFindsOffice$Sale;") (by decide +kernel)) (fun _ h9 => h9) rfl dX6_salesOf_19 ?_
          refine lv_iload_n hx hb dX6_salesOf_22 rfl (lv_at hl 3 rfl) ?_
          refine my_aldq (k := j) (v := .ref (b 2 j)) hx hb hE.1 hP 14 4 ofl_14 rfl rfl (by omega) (by decide) (by exact pf_at (by omega)) dX6_salesOf_23 ?_
          refine lv_astore (lv' := [(4, .ref (b 2 j)), (0, .ref (a 13)), (1, .int me), (2, .int v), (3, .int (nI j))]) hx hb dX6_salesOf_24 hl (by decide) rfl (fun ls hl => ?_)
          refine lv_aload hx hb dX6_salesOf_26 (lv_at hl 0 rfl) ?_
          refine lv_ifnull hx hb dX6_salesOf_28 ?_
          refine lv_aload hx hb dX6_salesOf_31 (lv_at hl 0 rfl) ?_
          have hq_3 := off_sale (k := j) hP (by omega)
          refine va_get (D := D) (ci := 8) (v := .int (T 27 j)) (C := RX8) (T := TX8) (N := 4) hx hb hts hiX8 hown hE.1 hq_3 0 rfl rfl 0 (by decide) (hts (.fieldLink RX6 39 "FindsOffice$Sale" "metal" "I") (by decide +kernel)) (fun _ h9 => h9) rfl dX6_salesOf_33 ?_
          refine lv_iload_n hx hb dX6_salesOf_36 rfl (lv_at hl 2 rfl) ?_
          refine lv_icmp_ne (tgt := 43) hx hb dX6_salesOf_37 (by decide) (fun c_4 => ?_) (fun c_4 => ?_)
          · refine lv_iinc (v := nI (j + 1)) (lv' := [(3, .int (nI (j + 1))), (4, .ref (b 2 j)), (0, .ref (a 13)), (1, .int me), (2, .int v)]) hx hb dX6_salesOf_43 hl (k := 4) rfl (nI_1 _) (by decide) rfl (fun ls hl => ?_)
            refine lv_goto (tgt := 4) hx hb dX6_salesOf_46 (by decide) ?_
            exact ih_4 (j + 1) _ (by omega) (by subst hv; simp [saN, nI_1, c_1, c_2, c_4]) (by omega) ls (lv_sub hl [2, 3, 4, 0] rfl)
          · refine lv_iinc (v := v + 1) (lv' := [(2, .int (v + 1)), (4, .ref (b 2 j)), (0, .ref (a 13)), (1, .int me), (3, .int (nI j))]) hx hb dX6_salesOf_40 hl (k := 3) rfl (rfl) (by decide) rfl (fun ls hl => ?_)
            refine lv_iinc (v := nI (j + 1)) (lv' := [(3, .int (nI (j + 1))), (2, .int (v + 1)), (4, .ref (b 2 j)), (0, .ref (a 13)), (1, .int me)]) hx hb dX6_salesOf_43 hl (k := 4) rfl (nI_1 _) (by decide) rfl (fun ls hl => ?_)
            refine lv_goto (tgt := 4) hx hb dX6_salesOf_46 (by decide) ?_
            exact ih_4 (j + 1) _ (by omega) (by subst hv; simp [saN, nI_1, c_1, c_2, c_4]) (by omega) ls (lv_sub hl [3, 4, 1, 0] rfl)
  exact loop_4 _ 0 0 (by omega) rfl (Nat.lt_succ_self _) ls (lv_sub hl [2, 3, 1, 0] rfl)
set_option maxHeartbeats 4000000 in
set_option maxRecDepth 100000 in
theorem c_X6_priceIn (l : Launch) (D : va_G) (cT : Nat → ClassId) (a : Nat → Nat) (b : Nat → Nat → Nat) (T P : Nat → Nat → Int32) (n : Nat → Nat) (year : Int32) (j : Nat) (hn : Cnt n) (hj : j < n 2) : Met l yX6_priceIn wsX6_priceIn ({ frames := 1, cells := 0, slots := 0, locals := 22 }) (va_Pc [.ref (a 13), .int year, .ref (b 2 j)] (PB D cT (offW cT a b T P n))) (QR (.long (prL T year j))) 0 0 (fun _ => False) := by
  refine RO_of (by decide) rfl (Nat.le_of_ble_eq_true rfl) ?_
  intro p e s m below meth c hx hb hr hts hown hlocks hml hE hP ls hl
  have hiX8 : ∀ w ∈ wsX80, w ∈ wsX6_priceIn := by decide +kernel
  have hl : lv_has ls 4 [(0, .ref (a 13)), (1, .int year), (2, .ref (b 2 j))] := hl
  obtain ⟨hn0, hn1, hn2, hn3, hn4⟩ := id hn
  refine lv_aload_n hx hb dX6_priceIn_0 rfl (lv_at hl 0 rfl) ?_
  refine lv_aload_n hx hb dX6_priceIn_1 rfl (lv_at hl 2 rfl) ?_
  have hq_1 := off_sale (k := j) hP (by omega)
  refine va_get (D := D) (ci := 8) (v := .int (T 28 j)) (C := RX8) (T := TX8) (N := 4) hx hb hts hiX8 hown hE.1 hq_1 0 rfl rfl 1 (by decide) (hts (.fieldLink RX6 61 "FindsOffice$Sale" "day" "I") (by decide +kernel)) (fun _ h9 => h9) rfl dX6_priceIn_2 ?_
  refine ro_SN (As := [.int (T 28 j)]) (rest := [.ref (a 13)]) ⟨hx, hb, hml, hown, hts⟩ (c_X9_yearOf l D cT (T 28 j) ) ⟨va_cnB (own := RX6) (host := RX9) 1 hts gX6_priceIn_X9_yearOf_n64 rfl rfl rfl (hE.2 (RX6, 64, yX9_yearOf, RX9) (by decide +kernel)) (hts (.initialized RX9) (by decide +kernel)) (by decide +kernel) ⟨Nat.le_of_ble_eq_true rfl, Nat.le_of_ble_eq_true rfl⟩, hts (.static yX9_yearOf) (by decide +kernel), trivial⟩ hE va_P_nil  rfl hl.1 rfl (Nat.le_of_ble_eq_true rfl) dX6_priceIn_5 ⟨Nat.zero_le _, Nat.zero_le _⟩ ?_
  refine ro_V (As := [.int (1950 + (T 28 j) / 365)]) (rest := []) ⟨hx, hb, hml, hown, hts⟩ (c_X6_levelIn l D cT a b T P n (1950 + (T 28 j) / 365) hn) (cwV 1 hts gX6_priceIn_X6_levelIn rfl rfl rfl (by decide +kernel) ⟨Nat.le_of_ble_eq_true rfl, Nat.le_of_ble_eq_true rfl⟩) hE hP 13 6 ofl_13 rfl rfl rfl hl.1 rfl (Nat.le_of_ble_eq_true rfl) dX6_priceIn_8 ⟨Nat.zero_le _, Nat.zero_le _⟩ ?_
  refine lv_istore_n (lv' := [(3, .int (lvV (T 25) (1950 + (T 28 j) / 365))), (0, .ref (a 13)), (1, .int year), (2, .ref (b 2 j))]) hx hb dX6_priceIn_11 rfl hl (by decide) rfl (fun ls hl => ?_)
  refine lv_iload_n hx hb dX6_priceIn_12 rfl (lv_at hl 0 rfl) ?_
  refine lv_if_le (tgt := 34) hx hb dX6_priceIn_13 (by decide) (fun c_2 => ?_) (fun c_2 => ?_)
  · refine lv_lconst (v := 0) hx hb dX6_priceIn_34 (by decide) ?_
    exact ro_lret hx hb hr hlocks (by simp [prL, c_2]) dX6_priceIn_35
  · have hne : ¬ (lvV (T 25) (1950 + T 28 j / 365)).toInt64 = 0 := lv_ne c_2
    refine lv_aload_n hx hb dX6_priceIn_16 rfl (lv_at hl 3 rfl) ?_
    refine va_get (D := D) (ci := 8) (v := .int (T 30 j)) (C := RX8) (T := TX8) (N := 4) hx hb hts hiX8 hown hE.1 hq_1 0 rfl rfl 3 (by decide) (hts (.fieldLink RX6 70 "FindsOffice$Sale" "price" "I") (by decide +kernel)) (fun _ h9 => h9) rfl dX6_priceIn_17 ?_
    refine lv_i2l (v := (T 30 j).toInt64) hx hb dX6_priceIn_20 rfl ?_
    refine lv_aload_n hx hb dX6_priceIn_21 rfl (lv_at hl 1 rfl) ?_
    refine lv_iload_n hx hb dX6_priceIn_22 rfl (lv_at hl 2 rfl) ?_
    refine ro_V (As := [.int year]) (rest := [.long ((T 30 j).toInt64)]) ⟨hx, hb, hml, hown, hts⟩ (c_X6_levelIn l D cT a b T P n year hn) (cwV 1 hts gX6_priceIn_X6_levelIn rfl rfl rfl (by decide +kernel) ⟨Nat.le_of_ble_eq_true rfl, Nat.le_of_ble_eq_true rfl⟩) hE hP 13 6 ofl_13 rfl rfl rfl hl.1 rfl (Nat.le_of_ble_eq_true rfl) dX6_priceIn_23 ⟨Nat.zero_le _, Nat.zero_le _⟩ ?_
    refine lv_i2l (v := (lvV (T 25) year).toInt64) hx hb dX6_priceIn_26 rfl ?_
    refine lv_lmul hx hb dX6_priceIn_27 ?_
    refine lv_iload_n hx hb dX6_priceIn_28 rfl (lv_at hl 0 rfl) ?_
    refine lv_i2l (v := (lvV (T 25) (1950 + (T 28 j) / 365)).toInt64) hx hb dX6_priceIn_29 rfl ?_
    refine lv_ldiv hx hb dX6_priceIn_30 hne ?_
    refine lv_goto (tgt := 35) hx hb dX6_priceIn_31 (by decide) ?_
    exact ro_lret hx hb hr hlocks (by simp [prL, c_2]) dX6_priceIn_35
set_option maxHeartbeats 4000000 in
set_option maxRecDepth 100000 in
theorem c_X6_appraise (l : Launch) (D : va_G) (cT : Nat → ClassId) (a : Nat → Nat) (b : Nat → Nat → Nat) (T P : Nat → Nat → Int32) (n : Nat → Nat) (me we year : Int32) (hn : Cnt n) : Met l yX6_appraise wsX6_appraise ({ frames := 2, cells := 0, slots := 0, locals := 45 }) (va_Pc [.ref (a 13), .int me, .int we, .int year] (PB D cT (offW cT a b T P n))) (QR (.int (apV T me we year (n 2)))) 0 0 (fun _ => False) := by
  refine RO_of (by decide) rfl (Nat.le_of_ble_eq_true rfl) ?_
  intro p e s m below meth c hx hb hr hts hown hlocks hml hE hP ls hl
  have hiX6 : ∀ w ∈ wsX60, w ∈ wsX6_appraise := by decide +kernel
  have hiX8 : ∀ w ∈ wsX80, w ∈ wsX6_appraise := by decide +kernel
  have hl : lv_has ls 10 [(0, .ref (a 13)), (1, .int me), (2, .int we), (3, .int year)] := hl
  obtain ⟨hn0, hn1, hn2, hn3, hn4⟩ := id hn
  refine lv_lconst (v := 0) hx hb dX6_appraise_0 (by decide) ?_
  refine lv_lstore (lv' := [(4, .long 0), (0, .ref (a 13)), (1, .int me), (2, .int we), (3, .int year)]) hx hb dX6_appraise_1 hl (by decide) rfl (fun ls hl => ?_)
  refine lv_lconst (v := 0) hx hb dX6_appraise_3 (by decide) ?_
  refine lv_lstore (lv' := [(6, .long 0), (4, .long 0), (0, .ref (a 13)), (1, .int me), (2, .int we), (3, .int year)]) hx hb dX6_appraise_4 hl (by decide) rfl (fun ls hl => ?_)
  refine lv_iconst (v := 0) hx hb dX6_appraise_6 (by decide) ?_
  refine lv_istore (lv' := [(8, .int 0), (6, .long 0), (4, .long 0), (0, .ref (a 13)), (1, .int me), (2, .int we), (3, .int year)]) hx hb dX6_appraise_7 hl (by decide) rfl (fun ls hl => ?_)
  have loop_9 : ∀ (fuel_9 : Nat) (j : Nat) (v w : Int64), j ≤ n 2 → v = apS T me year j → w = apW T me j → n 2 - j < fuel_9 → ∀ (ls : Array Slot), lv_has ls 10 [(0, .ref (a 13)), (1, .int me), (2, .int we), (3, .int year), (4, .long v), (6, .long w), (8, .int (nI j))] → W p l e ({ frames := 2, cells := 0, slots := 0, locals := 45 }) s m (List.toArray [.ref (a 13), .int me, .int we, .int year]) below meth c s.heap [] 0 0 (MQ below (QR (.int (apV T me we year (n 2)))) (List.toArray [.ref (a 13), .int me, .int we, .int year]) s 0 0 (fun _ => False)) (F0 m 9 ls []) := by
    intro fuel_9
    induction fuel_9 with
    | zero => intro j v w hj hv hw hfuel_9; exact absurd hfuel_9 (Nat.not_lt_zero _)
    | succ fuel_9 ih_9 =>
      intro j v w hj hv hw hfuel_9 ls hl
      refine lv_iload hx hb dX6_appraise_9 (lv_at hl 6 rfl) ?_
      refine lv_aload_n hx hb dX6_appraise_11 rfl (lv_at hl 0 rfl) ?_
      refine va_get (D := D) (ci := 6) (v := .int (nI (n 2))) (C := RX6) (T := TX6) (N := 3) hx hb hts hiX6 hown hE.1 hP 13 ofl_13 rfl 1 (by decide) (hts (.fieldLink RX6 17 "FindsOffice$Market" "told" "I") (by decide +kernel)) (fun _ h9 => h9) rfl dX6_appraise_12 ?_
      refine lv_icmp_ge (tgt := 77) hx hb dX6_appraise_15 (by decide) (fun c_1 => ?_) (fun c_1 => ?_)
      · have k_1 := nat_le (a := (n 2)) (b := j) c_1 (by omega) (by omega)
        refine lv_lload hx hb dX6_appraise_77 (lv_at hl 5 rfl) ?_
        refine lv_lconst (v := 0) hx hb dX6_appraise_79 (by decide) ?_
        refine W.lcmp hx hb dX6_appraise_80 ?_
        refine lv_if_gt (tgt := 86) hx hb dX6_appraise_81 (by decide) (fun c_2 => ?_) (fun c_2 => ?_)
        · have hjn : j = n 2 := by omega
          have hw0 : 0 < w := lg_pos c_2
          refine lv_lload hx hb dX6_appraise_86 (lv_at hl 4 rfl) ?_
          refine lv_iload_n hx hb dX6_appraise_88 rfl (lv_at hl 2 rfl) ?_
          refine lv_i2l (v := we.toInt64) hx hb dX6_appraise_89 rfl ?_
          refine lv_lmul hx hb dX6_appraise_90 ?_
          refine lv_lload hx hb dX6_appraise_91 (lv_at hl 5 rfl) ?_
          refine lv_ldiv hx hb dX6_appraise_93 (fun q => absurd hw0 (by rw [q]; decide)) ?_
          refine lv_ldc2 (own := RX6) (v := 1000000) hx hb hown (hts (.constantLong RX6 53 1000000) (by decide +kernel)) dX6_appraise_94 ?_
          refine va_mmin_long hx hb (hml.trans hl.1.symm) hown (hts (.methodLink RX6 55 Lib.MathLoose.min_long.x) (by decide +kernel)) (hts (.static Lib.MathLoose.min_long.x) (by decide +kernel)) (hts (.initialized "java/lang/Math") (by decide +kernel)) (hts (.code Lib.MathLoose.min_long.x Lib.MathLoose.min_long.code 4 (some .long)) (by decide +kernel)) (Nat.le_of_ble_eq_true rfl) (Nat.le_of_ble_eq_true rfl) (Nat.zero_le _) (Nat.zero_le _) dX6_appraise_97 ?_
          refine lv_l2i (v := (if 1000000 < ((v * we.toInt64) / w) then 1000000 else ((v * we.toInt64) / w)).toInt32) hx hb dX6_appraise_100 rfl ?_
          exact ro_iret hx hb hr hlocks (by rw [hw, show j = n 2 by omega] at hw0; rw [hv, hw, show j = n 2 by omega, apV, if_pos hw0]) dX6_appraise_101
        · have hw0 : ¬ 0 < w := lg_npos c_2
          refine lv_iconst (v := 0) hx hb dX6_appraise_84 (by decide) ?_
          exact ro_iret hx hb hr hlocks (by rw [hw, show j = n 2 by omega] at hw0; simp [apV, hw0]) dX6_appraise_85
      · have k_1 := nat_nle (a := (n 2)) (b := j) c_1 (by omega) (by omega)
        refine lv_iload hx hb dX6_appraise_18 (lv_at hl 6 rfl) ?_
        refine lv_bipush (v := 60) hx hb dX6_appraise_20 (by decide) ?_
        refine lv_icmp_ge (tgt := 77) hx hb dX6_appraise_22 (by decide) (fun c_3 => ?_) (fun c_3 => ?_)
        · have k_3 := nat_le (a := 60) (b := j) c_3 (by omega) (by omega)
          exfalso; omega
        · have k_3 := nat_nle (a := 60) (b := j) c_3 (by omega) (by omega)
          refine lv_aload_n hx hb dX6_appraise_25 rfl (lv_at hl 0 rfl) ?_
          refine va_get (D := D) (ci := 6) (v := .ref (a 14)) (C := RX6) (T := TX6) (N := 3) hx hb hts hiX6 hown hE.1 hP 13 ofl_13 rfl 0 (by decide) (hts (.fieldLink RX6 13 "FindsOffice$Market" "sales" "[LFindsOffice$Sale;") (by decide +kernel)) (fun _ h9 => h9) rfl dX6_appraise_26 ?_
          refine lv_iload hx hb dX6_appraise_29 (lv_at hl 6 rfl) ?_
          refine my_aldq (k := j) (v := .ref (b 2 j)) hx hb hE.1 hP 14 4 ofl_14 rfl rfl (by omega) (by decide) (by exact pf_at (by omega)) dX6_appraise_31 ?_
          refine lv_astore (lv' := [(9, .ref (b 2 j)), (0, .ref (a 13)), (1, .int me), (2, .int we), (3, .int year), (4, .long v), (6, .long w), (8, .int (nI j))]) hx hb dX6_appraise_32 hl (by decide) rfl (fun ls hl => ?_)
          refine lv_aload hx hb dX6_appraise_34 (lv_at hl 0 rfl) ?_
          refine lv_ifnull hx hb dX6_appraise_36 ?_
          refine lv_aload hx hb dX6_appraise_39 (lv_at hl 0 rfl) ?_
          have hq_4 := off_sale (k := j) hP (by omega)
          refine va_get (D := D) (ci := 8) (v := .int (T 27 j)) (C := RX8) (T := TX8) (N := 4) hx hb hts hiX8 hown hE.1 hq_4 0 rfl rfl 0 (by decide) (hts (.fieldLink RX6 39 "FindsOffice$Sale" "metal" "I") (by decide +kernel)) (fun _ h9 => h9) rfl dX6_appraise_41 ?_
          refine lv_iload_n hx hb dX6_appraise_44 rfl (lv_at hl 2 rfl) ?_
          refine lv_icmp_ne (tgt := 71) hx hb dX6_appraise_45 (by decide) (fun c_5 => ?_) (fun c_5 => ?_)
          · refine lv_iinc (v := nI (j + 1)) (lv' := [(8, .int (nI (j + 1))), (9, .ref (b 2 j)), (0, .ref (a 13)), (1, .int me), (2, .int we), (3, .int year), (4, .long v), (6, .long w)]) hx hb dX6_appraise_71 hl (k := 7) rfl (nI_1 _) (by decide) rfl (fun ls hl => ?_)
            refine lv_goto (tgt := 9) hx hb dX6_appraise_74 (by decide) ?_
            exact ih_9 (j + 1) _ _ (by omega) (by rw [hv]; simp [apS, c_1, c_3, c_5]) (by rw [hw]; simp [apW, c_1, c_3, c_5]) (by omega) ls (lv_sub hl [2, 3, 4, 5, 6, 7, 0] rfl)
          · refine lv_lload hx hb dX6_appraise_48 (lv_at hl 5 rfl) ?_
            refine lv_aload_n hx hb dX6_appraise_50 rfl (lv_at hl 1 rfl) ?_
            refine lv_iload_n hx hb dX6_appraise_51 rfl (lv_at hl 4 rfl) ?_
            refine lv_aload hx hb dX6_appraise_52 (lv_at hl 0 rfl) ?_
            refine ro_V (As := [.int year, .ref (b 2 j)]) (rest := [.long v]) ⟨hx, hb, hml, hown, hts⟩ (c_X6_priceIn l D cT a b T P n year j hn (by omega)) (cwV 2 hts gX6_appraise_X6_priceIn rfl rfl rfl (by decide +kernel) ⟨Nat.le_of_ble_eq_true rfl, Nat.le_of_ble_eq_true rfl⟩) hE hP 13 6 ofl_13 rfl rfl rfl hl.1 rfl (Nat.le_of_ble_eq_true rfl) dX6_appraise_54 ⟨Nat.zero_le _, Nat.zero_le _⟩ ?_
            refine lv_ladd hx hb dX6_appraise_57 ?_
            refine lv_lstore (lv' := [(4, .long (v + (prL T year j))), (9, .ref (b 2 j)), (0, .ref (a 13)), (1, .int me), (2, .int we), (3, .int year), (6, .long w), (8, .int (nI j))]) hx hb dX6_appraise_58 hl (by decide) rfl (fun ls hl => ?_)
            refine lv_lload hx hb dX6_appraise_60 (lv_at hl 6 rfl) ?_
            refine lv_aload hx hb dX6_appraise_62 (lv_at hl 1 rfl) ?_
            refine va_get (D := D) (ci := 8) (v := .int (T 29 j)) (C := RX8) (T := TX8) (N := 4) hx hb hts hiX8 hown hE.1 hq_4 0 rfl rfl 2 (by decide) (hts (.fieldLink RX6 50 "FindsOffice$Sale" "weight" "I") (by decide +kernel)) (fun _ h9 => h9) rfl dX6_appraise_64 ?_
            refine lv_i2l (v := (T 29 j).toInt64) hx hb dX6_appraise_67 rfl ?_
            refine lv_ladd hx hb dX6_appraise_68 ?_
            refine lv_lstore (lv' := [(6, .long (w + ((T 29 j).toInt64))), (4, .long (v + (prL T year j))), (9, .ref (b 2 j)), (0, .ref (a 13)), (1, .int me), (2, .int we), (3, .int year), (8, .int (nI j))]) hx hb dX6_appraise_69 hl (by decide) rfl (fun ls hl => ?_)
            refine lv_iinc (v := nI (j + 1)) (lv' := [(8, .int (nI (j + 1))), (6, .long (w + ((T 29 j).toInt64))), (4, .long (v + (prL T year j))), (9, .ref (b 2 j)), (0, .ref (a 13)), (1, .int me), (2, .int we), (3, .int year)]) hx hb dX6_appraise_71 hl (k := 7) rfl (nI_1 _) (by decide) rfl (fun ls hl => ?_)
            refine lv_goto (tgt := 9) hx hb dX6_appraise_74 (by decide) ?_
            exact ih_9 (j + 1) _ _ (by omega) (by rw [hv]; simp [apS, c_1, c_3, c_5]) (by rw [hw]; simp [apW, c_1, c_3, c_5]) (by omega) ls (lv_sub hl [4, 5, 6, 7, 2, 1, 0] rfl)
  exact loop_9 _ 0 0 0 (by omega) rfl rfl (Nat.lt_succ_self _) ls (lv_sub hl [3, 4, 5, 6, 2, 1, 0] rfl)
