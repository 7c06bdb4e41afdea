set_option maxHeartbeats 4000000 in
set_option maxRecDepth 100000 in
theorem c_X10_isFind (l : Launch) (D : va_G) (cT : Nat → ClassId) (a : Nat → Nat) (T : Nat → Nat → Int32) (n : Nat → Nat) (z : Nat → Int32) (i : Int32) (hn : Cnt n) : Met l yX10_isFind wsX10_isFind ({ frames := 1, cells := 0, slots := 0, locals := 22 }) (va_Pc [.ref (a 0), .int i] (PB D cT (modW cT a T n z))) (QR (.int (b2 (isT (n 1) i)))) 0 0 (fun _ => False) := by
  refine RO_of (by decide) rfl (Nat.le_of_ble_eq_true rfl) ?_
  intro p e s m below meth c hx hb hr hts hown hlocks hml hE hP ls hl
  have hiX10 : ∀ w ∈ wsX100, w ∈ wsX10_isFind := by decide +kernel
  have hl : lv_has ls 2 [(0, .ref (a 0)), (1, .int i)] := hl
  obtain ⟨hn0, hn1, hn2, hn3, hn4⟩ := id hn
  refine lv_iload_n hx hb dX10_isFind_0 rfl (lv_at hl 1 rfl) ?_
  refine lv_iconst (v := 0) hx hb dX10_isFind_1 (by decide) ?_
  refine lv_aload_n hx hb dX10_isFind_2 rfl (lv_at hl 0 rfl) ?_
  refine va_get (D := D) (ci := 10) (v := .int (nI (n 1))) (C := RX10) (T := TX10) (N := 38) hx hb hts hiX10 hown hE.1 hP 0 mol_0 rfl 1 (by decide) (hts (.fieldLink RX10 106 "FindsOfficeModel" "finds" "I") (by decide +kernel)) (fun _ h9 => h9) rfl dX10_isFind_3 ?_
  refine lv_iconst (v := 1) hx hb dX10_isFind_6 (by decide) ?_
  refine lv_isub hx hb dX10_isFind_7 ?_
  refine ro_S (As := [.int i, .int 0, .int ((nI (n 1)) - 1)]) (rest := []) ⟨hx, hb, hml, hown, hts⟩ (c_X10_in l D cT i 0 ((nI (n 1)) - 1) ) (va_cwS 3 hts gX10_isFind_X10_in rfl rfl rfl (by decide +kernel) ⟨Nat.le_of_ble_eq_true rfl, Nat.le_of_ble_eq_true rfl⟩) hE va_P_nil  rfl hl.1 rfl (Nat.le_of_ble_eq_true rfl) dX10_isFind_8 ⟨Nat.zero_le _, Nat.zero_le _⟩ ?_
  exact ro_zret hx hb hr hlocks (by rw [btw_isT (by omega)]) dX10_isFind_11
set_option maxHeartbeats 4000000 in
set_option maxRecDepth 100000 in
theorem c_X10_lawOf (l : Launch) (D : va_G) (cT : Nat → ClassId) (a : Nat → Nat) (T : Nat → Nat → Int32) (n : Nat → Nat) (z : Nat → Int32) (day : Int32) (hn : Cnt n) : Met l yX10_lawOf wsX10_lawOf ({ frames := 0, cells := 0, slots := 0, locals := 0 }) (va_Pc [.ref (a 0), .int day] (PB D cT (modW cT a T n z))) (QR (.int (oI (ifN T day (n 0))))) 0 0 (fun _ => False) := by
  refine RO_of (by decide) rfl (Nat.le_of_ble_eq_true rfl) ?_
  intro p e s m below meth c hx hb hr hts hown hlocks hml hE hP ls hl
  have hiX10 : ∀ w ∈ wsX100, w ∈ wsX10_lawOf := by decide +kernel
  have hl : lv_has ls 4 [(0, .ref (a 0)), (1, .int day)] := hl
  obtain ⟨hn0, hn1, hn2, hn3, hn4⟩ := id hn
  refine lv_iconst (v := (-1)) hx hb dX10_lawOf_0 (by decide) ?_
  refine lv_istore_n (lv' := [(2, .int (-1)), (0, .ref (a 0)), (1, .int day)]) hx hb dX10_lawOf_1 rfl hl (by decide) rfl (fun ls hl => ?_)
  refine lv_iconst (v := 0) hx hb dX10_lawOf_2 (by decide) ?_
  refine lv_istore_n (lv' := [(3, .int 0), (2, .int (-1)), (0, .ref (a 0)), (1, .int day)]) hx hb dX10_lawOf_3 rfl hl (by decide) rfl (fun ls hl => ?_)
  have loop_4 : ∀ (fuel_4 : Nat) (j : Nat) (v : Int32), j ≤ n 0 → v = oI (ifN T day j) → n 0 - j < fuel_4 → ∀ (ls : Array Slot), lv_has ls 4 [(0, .ref (a 0)), (1, .int day), (2, .int v), (3, .int (nI j))] → W p l e ({ frames := 0, cells := 0, slots := 0, locals := 0 }) s m (List.toArray [.ref (a 0), .int day]) below meth c s.heap [] 0 0 (MQ below (QR (.int (oI (ifN T day (n 0))))) (List.toArray [.ref (a 0), .int day]) s 0 0 (fun _ => False)) (F0 m 4 ls []) := by
    intro fuel_4
    induction fuel_4 with
    | zero => intro j v hj hv hfuel_4; exact absurd hfuel_4 (Nat.not_lt_zero _)
    | succ fuel_4 ih_4 =>
      intro j v hj hv hfuel_4 ls hl
      refine lv_iload_n hx hb dX10_lawOf_4 rfl (lv_at hl 3 rfl) ?_
      refine lv_aload_n hx hb dX10_lawOf_5 rfl (lv_at hl 0 rfl) ?_
      refine va_get (D := D) (ci := 10) (v := .int (nI (n 0))) (C := RX10) (T := TX10) (N := 38) hx hb hts hiX10 hown hE.1 hP 0 mol_0 rfl 15 (by decide) (hts (.fieldLink RX10 116 "FindsOfficeModel" "laws" "I") (by decide +kernel)) (fun _ h9 => h9) rfl dX10_lawOf_6 ?_
      refine lv_icmp_ge (tgt := 50) hx hb dX10_lawOf_9 (by decide) (fun c_1 => ?_) (fun c_1 => ?_)
      · have k_1 := nat_le (a := (n 0)) (b := j) c_1 (by omega) (by omega)
        refine lv_iload_n hx hb dX10_lawOf_50 rfl (lv_at hl 2 rfl) ?_
        exact ro_iret hx hb hr hlocks (by rw [hv]; congr 2; omega) dX10_lawOf_51
      · have k_1 := nat_nle (a := (n 0)) (b := j) c_1 (by omega) (by omega)
        refine lv_aload_n hx hb dX10_lawOf_12 rfl (lv_at hl 0 rfl) ?_
        refine va_get (D := D) (ci := 10) (v := .ref (a 16)) (C := RX10) (T := TX10) (N := 38) hx hb hts hiX10 hown hE.1 hP 0 mol_0 rfl 16 (by decide) (hts (.fieldLink RX10 46 "FindsOfficeModel" "lawDay" "[I") (by decide +kernel)) (fun _ h9 => h9) rfl dX10_lawOf_13 ?_
        refine lv_iload_n hx hb dX10_lawOf_16 rfl (lv_at hl 3 rfl) ?_
        refine my_iald (k := j) hx hb hE.1 hP 13 0 mol_16 rfl rfl (by omega) (by decide) dX10_lawOf_17 ?_
        refine lv_iload_n hx hb dX10_lawOf_18 rfl (lv_at hl 1 rfl) ?_
        refine lv_icmp_gt (tgt := 44) hx hb dX10_lawOf_19 (by decide) (fun c_2 => ?_) (fun c_2 => ?_)
        · refine lv_iinc (v := nI (j + 1)) (lv' := [(3, .int (nI (j + 1))), (0, .ref (a 0)), (1, .int day), (2, .int v)]) hx hb dX10_lawOf_44 hl (k := 3) rfl (nI_1 _) (by decide) rfl (fun ls hl => ?_)
          refine lv_goto (tgt := 4) hx hb dX10_lawOf_47 (by decide) ?_
          exact ih_4 (j + 1) _ (by omega) (by rw [ifN]; simp [hv, c_1, c_2]) (by omega) ls (lv_sub hl [1, 2, 3, 0] rfl)
        · refine lv_iload_n hx hb dX10_lawOf_22 rfl (lv_at hl 2 rfl) ?_
          refine lv_iconst (v := (-1)) hx hb dX10_lawOf_23 (by decide) ?_
          refine lv_icmp_eq (tgt := 42) hx hb dX10_lawOf_24 (by decide) (fun c_3 => ?_) (fun c_3 => ?_)
          · have hno := oI_no hv (fun q hq => Nat.lt_trans (ifN_lt hq) (by omega)) c_3
            refine lv_iload_n hx hb dX10_lawOf_42 rfl (lv_at hl 3 rfl) ?_
            refine lv_istore_n (lv' := [(2, .int (nI j)), (0, .ref (a 0)), (1, .int day), (3, .int (nI j))]) hx hb dX10_lawOf_43 rfl hl (by decide) rfl (fun ls hl => ?_)
            refine lv_iinc (v := nI (j + 1)) (lv' := [(3, .int (nI (j + 1))), (2, .int (nI j)), (0, .ref (a 0)), (1, .int day)]) hx hb dX10_lawOf_44 hl (k := 3) rfl (nI_1 _) (by decide) rfl (fun ls hl => ?_)
            refine lv_goto (tgt := 4) hx hb dX10_lawOf_47 (by decide) ?_
            exact ih_4 (j + 1) _ (by omega) (by rw [ifN, hno]; simp [oI, c_1, c_2, c_3]) (by omega) ls (lv_sub hl [2, 3, 1, 0] rfl)
          · obtain ⟨q0, hqe, hqv⟩ := oI_some hv c_3
            have hq0 := ifN_lt hqe
            refine lv_aload_n hx hb dX10_lawOf_27 rfl (lv_at hl 0 rfl) ?_
            refine va_get (D := D) (ci := 10) (v := .ref (a 16)) (C := RX10) (T := TX10) (N := 38) hx hb hts hiX10 hown hE.1 hP 0 mol_0 rfl 16 (by decide) (hts (.fieldLink RX10 46 "FindsOfficeModel" "lawDay" "[I") (by decide +kernel)) (fun _ h9 => h9) rfl dX10_lawOf_28 ?_
            refine lv_iload_n hx hb dX10_lawOf_31 rfl (lv_at hl 3 rfl) ?_
            refine my_iald (k := j) hx hb hE.1 hP 13 0 mol_16 rfl rfl (by omega) (by decide) dX10_lawOf_32 ?_
            refine lv_aload_n hx hb dX10_lawOf_33 rfl (lv_at hl 0 rfl) ?_
            refine va_get (D := D) (ci := 10) (v := .ref (a 16)) (C := RX10) (T := TX10) (N := 38) hx hb hts hiX10 hown hE.1 hP 0 mol_0 rfl 16 (by decide) (hts (.fieldLink RX10 46 "FindsOfficeModel" "lawDay" "[I") (by decide +kernel)) (fun _ h9 => h9) rfl dX10_lawOf_34 ?_
            refine lv_iload_n hx hb dX10_lawOf_37 rfl (lv_at hl 2 rfl) ?_
            refine my_iald (k := q0) hx hb hE.1 hP 13 0 mol_16 rfl hqv (by omega) (by decide) dX10_lawOf_38 ?_
            refine lv_icmp_lt (tgt := 44) hx hb dX10_lawOf_39 (by decide) (fun c_4 => ?_) (fun c_4 => ?_)
            · refine lv_iinc (v := nI (j + 1)) (lv' := [(3, .int (nI (j + 1))), (0, .ref (a 0)), (1, .int day), (2, .int v)]) hx hb dX10_lawOf_44 hl (k := 3) rfl (nI_1 _) (by decide) rfl (fun ls hl => ?_)
              refine lv_goto (tgt := 4) hx hb dX10_lawOf_47 (by decide) ?_
              exact ih_4 (j + 1) _ (by omega) (by rw [ifN, hqe]; simp [hqv, oI, c_1, c_2, c_3, c_4]) (by omega) ls (lv_sub hl [1, 2, 3, 0] rfl)
            · refine lv_iload_n hx hb dX10_lawOf_42 rfl (lv_at hl 3 rfl) ?_
              refine lv_istore_n (lv' := [(2, .int (nI j)), (0, .ref (a 0)), (1, .int day), (3, .int (nI j))]) hx hb dX10_lawOf_43 rfl hl (by decide) rfl (fun ls hl => ?_)
              refine lv_iinc (v := nI (j + 1)) (lv' := [(3, .int (nI (j + 1))), (2, .int (nI j)), (0, .ref (a 0)), (1, .int day)]) hx hb dX10_lawOf_44 hl (k := 3) rfl (nI_1 _) (by decide) rfl (fun ls hl => ?_)
              refine lv_goto (tgt := 4) hx hb dX10_lawOf_47 (by decide) ?_
              exact ih_4 (j + 1) _ (by omega) (by rw [ifN, hqe]; simp [oI, c_1, c_2, c_3, c_4]) (by omega) ls (lv_sub hl [2, 3, 1, 0] rfl)
  exact loop_4 _ 0 (-1) (by omega) rfl (Nat.lt_succ_self _) ls (lv_sub hl [2, 3, 1, 0] rfl)
set_option maxHeartbeats 4000000 in
set_option maxRecDepth 100000 in
theorem c_X10_ownerOn (l : Launch) (D : va_G) (cT : Nat → ClassId) (a : Nat → Nat) (T : Nat → Nat → Int32) (n : Nat → Nat) (z : Nat → Int32) (plot day : Int32) (hn : Cnt n) : Met l yX10_ownerOn wsX10_ownerOn ({ frames := 0, cells := 0, slots := 0, locals := 0 }) (va_Pc [.ref (a 0), .int plot, .int day] (PB D cT (modW cT a T n z))) (QR (.int (owW (T 24) (owN T plot day (n 4))))) 0 0 (fun _ => False) := by
  refine RO_of (by decide) rfl (Nat.le_of_ble_eq_true rfl) ?_
  intro p e s m below meth c hx hb hr hts hown hlocks hml hE hP ls hl
  have hiX10 : ∀ w ∈ wsX100, w ∈ wsX10_ownerOn := by decide +kernel
  have hl : lv_has ls 5 [(0, .ref (a 0)), (1, .int plot), (2, .int day)] := hl
  obtain ⟨hn0, hn1, hn2, hn3, hn4⟩ := id hn
  refine lv_iconst (v := (-1)) hx hb dX10_ownerOn_0 (by decide) ?_
  refine lv_istore_n (lv' := [(3, .int (-1)), (0, .ref (a 0)), (1, .int plot), (2, .int day)]) hx hb dX10_ownerOn_1 rfl hl (by decide) rfl (fun ls hl => ?_)
  refine lv_iconst (v := 0) hx hb dX10_ownerOn_2 (by decide) ?_
  refine lv_istore (lv' := [(4, .int 0), (3, .int (-1)), (0, .ref (a 0)), (1, .int plot), (2, .int day)]) hx hb dX10_ownerOn_3 hl (by decide) rfl (fun ls hl => ?_)
  have loop_5 : ∀ (fuel_5 : Nat) (j : Nat) (v : Int32), j ≤ n 4 → v = oI (owN T plot day j) → n 4 - j < fuel_5 → ∀ (ls : Array Slot), lv_has ls 5 [(0, .ref (a 0)), (1, .int plot), (2, .int day), (3, .int v), (4, .int (nI j))] → W p l e ({ frames := 0, cells := 0, slots := 0, locals := 0 }) s m (List.toArray [.ref (a 0), .int plot, .int day]) below meth c s.heap [] 0 0 (MQ below (QR (.int (owW (T 24) (owN T plot day (n 4))))) (List.toArray [.ref (a 0), .int plot, .int day]) s 0 0 (fun _ => False)) (F0 m 5 ls []) := by
    intro fuel_5
    induction fuel_5 with
    | zero => intro j v hj hv hfuel_5; exact absurd hfuel_5 (Nat.not_lt_zero _)
    | succ fuel_5 ih_5 =>
      intro j v hj hv hfuel_5 ls hl
      refine lv_iload hx hb dX10_ownerOn_5 (lv_at hl 4 rfl) ?_
      refine lv_aload_n hx hb dX10_ownerOn_7 rfl (lv_at hl 0 rfl) ?_
      refine va_get (D := D) (ci := 10) (v := .int (nI (n 4))) (C := RX10) (T := TX10) (N := 38) hx hb hts hiX10 hown hE.1 hP 0 mol_0 rfl 21 (by decide) (hts (.fieldLink RX10 123 "FindsOfficeModel" "owners" "I") (by decide +kernel)) (fun _ h9 => h9) rfl dX10_ownerOn_8 ?_
      refine lv_icmp_ge (tgt := 66) hx hb dX10_ownerOn_11 (by decide) (fun c_1 => ?_) (fun c_1 => ?_)
      · have k_1 := nat_le (a := (n 4)) (b := j) c_1 (by omega) (by omega)
        refine lv_iload_n hx hb dX10_ownerOn_66 rfl (lv_at hl 3 rfl) ?_
        refine lv_iconst (v := (-1)) hx hb dX10_ownerOn_67 (by decide) ?_
        refine lv_icmp_ne (tgt := 75) hx hb dX10_ownerOn_68 (by decide) (fun c_2 => ?_) (fun c_2 => ?_)
        · obtain ⟨q0, hqe, hqv⟩ := oI_some hv c_2
          have hq0 := owN_lt hqe
          refine lv_aload_n hx hb dX10_ownerOn_75 rfl (lv_at hl 0 rfl) ?_
          refine va_get (D := D) (ci := 10) (v := .ref (a 24)) (C := RX10) (T := TX10) (N := 38) hx hb hts hiX10 hown hE.1 hP 0 mol_0 rfl 24 (by decide) (hts (.fieldLink RX10 67 "FindsOfficeModel" "ownWho" "[I") (by decide +kernel)) (fun _ h9 => h9) rfl dX10_ownerOn_76 ?_
          refine lv_iload_n hx hb dX10_ownerOn_79 rfl (lv_at hl 3 rfl) ?_
          refine my_iald (k := q0) hx hb hE.1 hP 20 0 mol_24 rfl hqv (by omega) (by decide) dX10_ownerOn_80 ?_
          exact ro_iret hx hb hr hlocks (by rw [show n 4 = j by omega, hqe]; rfl) dX10_ownerOn_81
        · have hno := oI_no hv (fun q hq => Nat.lt_trans (owN_lt hq) (by omega)) c_2
          refine lv_iconst (v := 0) hx hb dX10_ownerOn_71 (by decide) ?_
          refine lv_goto (tgt := 81) hx hb dX10_ownerOn_72 (by decide) ?_
          exact ro_iret hx hb hr hlocks (by rw [show n 4 = j by omega, hno]; rfl) dX10_ownerOn_81
      · have k_1 := nat_nle (a := (n 4)) (b := j) c_1 (by omega) (by omega)
        refine lv_aload_n hx hb dX10_ownerOn_14 rfl (lv_at hl 0 rfl) ?_
        refine va_get (D := D) (ci := 10) (v := .ref (a 22)) (C := RX10) (T := TX10) (N := 38) hx hb hts hiX10 hown hE.1 hP 0 mol_0 rfl 22 (by decide) (hts (.fieldLink RX10 61 "FindsOfficeModel" "ownPlot" "[I") (by decide +kernel)) (fun _ h9 => h9) rfl dX10_ownerOn_15 ?_
        refine lv_iload hx hb dX10_ownerOn_18 (lv_at hl 4 rfl) ?_
        refine my_iald (k := j) hx hb hE.1 hP 18 0 mol_22 rfl rfl (by omega) (by decide) dX10_ownerOn_20 ?_
        refine lv_iload_n hx hb dX10_ownerOn_21 rfl (lv_at hl 1 rfl) ?_
        refine lv_icmp_ne (tgt := 60) hx hb dX10_ownerOn_22 (by decide) (fun c_3 => ?_) (fun c_3 => ?_)
        · refine lv_iinc (v := nI (j + 1)) (lv' := [(4, .int (nI (j + 1))), (0, .ref (a 0)), (1, .int plot), (2, .int day), (3, .int v)]) hx hb dX10_ownerOn_60 hl (k := 4) rfl (nI_1 _) (by decide) rfl (fun ls hl => ?_)
          refine lv_goto (tgt := 5) hx hb dX10_ownerOn_63 (by decide) ?_
          exact ih_5 (j + 1) _ (by omega) (by rw [owN]; simp [hv, c_1, c_3]) (by omega) ls (lv_sub hl [1, 2, 3, 4, 0] rfl)
        · refine lv_aload_n hx hb dX10_ownerOn_25 rfl (lv_at hl 0 rfl) ?_
          refine va_get (D := D) (ci := 10) (v := .ref (a 23)) (C := RX10) (T := TX10) (N := 38) hx hb hts hiX10 hown hE.1 hP 0 mol_0 rfl 23 (by decide) (hts (.fieldLink RX10 64 "FindsOfficeModel" "ownDay" "[I") (by decide +kernel)) (fun _ h9 => h9) rfl dX10_ownerOn_26 ?_
          refine lv_iload hx hb dX10_ownerOn_29 (lv_at hl 4 rfl) ?_
          refine my_iald (k := j) hx hb hE.1 hP 19 0 mol_23 rfl rfl (by omega) (by decide) dX10_ownerOn_31 ?_
          refine lv_iload_n hx hb dX10_ownerOn_32 rfl (lv_at hl 2 rfl) ?_
          refine lv_icmp_gt (tgt := 60) hx hb dX10_ownerOn_33 (by decide) (fun c_4 => ?_) (fun c_4 => ?_)
          · refine lv_iinc (v := nI (j + 1)) (lv' := [(4, .int (nI (j + 1))), (0, .ref (a 0)), (1, .int plot), (2, .int day), (3, .int v)]) hx hb dX10_ownerOn_60 hl (k := 4) rfl (nI_1 _) (by decide) rfl (fun ls hl => ?_)
            refine lv_goto (tgt := 5) hx hb dX10_ownerOn_63 (by decide) ?_
            exact ih_5 (j + 1) _ (by omega) (by rw [owN]; simp [hv, c_1, c_3, c_4]) (by omega) ls (lv_sub hl [1, 2, 3, 4, 0] rfl)
          · refine lv_iload_n hx hb dX10_ownerOn_36 rfl (lv_at hl 3 rfl) ?_
            refine lv_iconst (v := (-1)) hx hb dX10_ownerOn_37 (by decide) ?_
            refine lv_icmp_eq (tgt := 57) hx hb dX10_ownerOn_38 (by decide) (fun c_5 => ?_) (fun c_5 => ?_)
            · have hno := oI_no hv (fun q hq => Nat.lt_trans (owN_lt hq) (by omega)) c_5
              refine lv_iload hx hb dX10_ownerOn_57 (lv_at hl 4 rfl) ?_
              refine lv_istore_n (lv' := [(3, .int (nI j)), (0, .ref (a 0)), (1, .int plot), (2, .int day), (4, .int (nI j))]) hx hb dX10_ownerOn_59 rfl hl (by decide) rfl (fun ls hl => ?_)
              refine lv_iinc (v := nI (j + 1)) (lv' := [(4, .int (nI (j + 1))), (3, .int (nI j)), (0, .ref (a 0)), (1, .int plot), (2, .int day)]) hx hb dX10_ownerOn_60 hl (k := 4) rfl (nI_1 _) (by decide) rfl (fun ls hl => ?_)
              refine lv_goto (tgt := 5) hx hb dX10_ownerOn_63 (by decide) ?_
              exact ih_5 (j + 1) _ (by omega) (by rw [owN, hno]; simp [oI, c_1, c_3, c_4, c_5]) (by omega) ls (lv_sub hl [2, 3, 4, 1, 0] rfl)
            · obtain ⟨q0, hqe, hqv⟩ := oI_some hv c_5
              have hq0 := owN_lt hqe
              refine lv_aload_n hx hb dX10_ownerOn_41 rfl (lv_at hl 0 rfl) ?_
              refine va_get (D := D) (ci := 10) (v := .ref (a 23)) (C := RX10) (T := TX10) (N := 38) hx hb hts hiX10 hown hE.1 hP 0 mol_0 rfl 23 (by decide) (hts (.fieldLink RX10 64 "FindsOfficeModel" "ownDay" "[I") (by decide +kernel)) (fun _ h9 => h9) rfl dX10_ownerOn_42 ?_
              refine lv_iload hx hb dX10_ownerOn_45 (lv_at hl 4 rfl) ?_
              refine my_iald (k := j) hx hb hE.1 hP 19 0 mol_23 rfl rfl (by omega) (by decide) dX10_ownerOn_47 ?_
              refine lv_aload_n hx hb dX10_ownerOn_48 rfl (lv_at hl 0 rfl) ?_
              refine va_get (D := D) (ci := 10) (v := .ref (a 23)) (C := RX10) (T := TX10) (N := 38) hx hb hts hiX10 hown hE.1 hP 0 mol_0 rfl 23 (by decide) (hts (.fieldLink RX10 64 "FindsOfficeModel" "ownDay" "[I") (by decide +kernel)) (fun _ h9 => h9) rfl dX10_ownerOn_49 ?_
              refine lv_iload_n hx hb dX10_ownerOn_52 rfl (lv_at hl 3 rfl) ?_
              refine my_iald (k := q0) hx hb hE.1 hP 19 0 mol_23 rfl hqv (by omega) (by decide) dX10_ownerOn_53 ?_
              refine lv_icmp_lt (tgt := 60) hx hb dX10_ownerOn_54 (by decide) (fun c_6 => ?_) (fun c_6 => ?_)
              · refine lv_iinc (v := nI (j + 1)) (lv' := [(4, .int (nI (j + 1))), (0, .ref (a 0)), (1, .int plot), (2, .int day), (3, .int v)]) hx hb dX10_ownerOn_60 hl (k := 4) rfl (nI_1 _) (by decide) rfl (fun ls hl => ?_)
                refine lv_goto (tgt := 5) hx hb dX10_ownerOn_63 (by decide) ?_
                exact ih_5 (j + 1) _ (by omega) (by rw [owN, hqe]; simp [hqv, oI, c_1, c_3, c_4, c_5, c_6]) (by omega) ls (lv_sub hl [1, 2, 3, 4, 0] rfl)
              · refine lv_iload hx hb dX10_ownerOn_57 (lv_at hl 4 rfl) ?_
                refine lv_istore_n (lv' := [(3, .int (nI j)), (0, .ref (a 0)), (1, .int plot), (2, .int day), (4, .int (nI j))]) hx hb dX10_ownerOn_59 rfl hl (by decide) rfl (fun ls hl => ?_)
                refine lv_iinc (v := nI (j + 1)) (lv' := [(4, .int (nI (j + 1))), (3, .int (nI j)), (0, .ref (a 0)), (1, .int plot), (2, .int day)]) hx hb dX10_ownerOn_60 hl (k := 4) rfl (nI_1 _) (by decide) rfl (fun ls hl => ?_)
                refine lv_goto (tgt := 5) hx hb dX10_ownerOn_63 (by decide) ?_
                exact ih_5 (j + 1) _ (by omega) (by rw [owN, hqe]; simp [oI, c_1, c_3, c_4, c_5, c_6]) (by omega) ls (lv_sub hl [2, 3, 4, 1, 0] rfl)
  exact loop_5 _ 0 (-1) (by omega) rfl (Nat.lt_succ_self _) ls (lv_sub hl [2, 3, 4, 1, 0] rfl)
set_option maxHeartbeats 4000000 in
set_option maxRecDepth 100000 in
theorem c_X10_ownerOf (l : Launch) (D : va_G) (cT : Nat → ClassId) (a : Nat → Nat) (T : Nat → Nat → Int32) (n : Nat → Nat) (z : Nat → Int32) (k : Nat) (hn : Cnt n) (hk : k < n 1) : Met l yX10_ownerOf wsX10_ownerOf ({ frames := 1, cells := 0, slots := 0, locals := 24 }) (va_Pc [.ref (a 0), .int (nI k)] (PB D cT (modW cT a T n z))) (QR (.int (lndV T n k))) 0 0 (fun _ => False) := by
  refine RO_of (by decide) rfl (Nat.le_of_ble_eq_true rfl) ?_
  intro p e s m below meth c hx hb hr hts hown hlocks hml hE hP ls hl
  have hiX10 : ∀ w ∈ wsX100, w ∈ wsX10_ownerOf := by decide +kernel
  have hl : lv_has ls 2 [(0, .ref (a 0)), (1, .int (nI k))] := hl
  obtain ⟨hn0, hn1, hn2, hn3, hn4⟩ := id hn
  refine lv_aload_n hx hb dX10_ownerOf_0 rfl (lv_at hl 0 rfl) ?_
  refine lv_bipush (v := 10) hx hb dX10_ownerOf_1 (by decide) ?_
  refine lv_aload_n hx hb dX10_ownerOf_3 rfl (lv_at hl 0 rfl) ?_
  refine va_get (D := D) (ci := 10) (v := .ref (a 2)) (C := RX10) (T := TX10) (N := 38) hx hb hts hiX10 hown hE.1 hP 0 mol_0 rfl 2 (by decide) (hts (.fieldLink RX10 9 "FindsOfficeModel" "x" "[I") (by decide +kernel)) (fun _ h9 => h9) rfl dX10_ownerOf_4 ?_
  refine lv_iload_n hx hb dX10_ownerOf_7 rfl (lv_at hl 1 rfl) ?_
  refine my_iald (k := k) hx hb hE.1 hP 1 0 mol_2 rfl rfl (by omega) (by decide) dX10_ownerOf_8 ?_
  refine lv_bipush (v := 100) hx hb dX10_ownerOf_9 (by decide) ?_
  refine lv_idiv hx hb dX10_ownerOf_11 (by decide) ?_
  refine lv_imul hx hb dX10_ownerOf_12 ?_
  refine lv_aload_n hx hb dX10_ownerOf_13 rfl (lv_at hl 0 rfl) ?_
  refine va_get (D := D) (ci := 10) (v := .ref (a 3)) (C := RX10) (T := TX10) (N := 38) hx hb hts hiX10 hown hE.1 hP 0 mol_0 rfl 3 (by decide) (hts (.fieldLink RX10 13 "FindsOfficeModel" "y" "[I") (by decide +kernel)) (fun _ h9 => h9) rfl dX10_ownerOf_14 ?_
  refine lv_iload_n hx hb dX10_ownerOf_17 rfl (lv_at hl 1 rfl) ?_
  refine my_iald (k := k) hx hb hE.1 hP 2 0 mol_3 rfl rfl (by omega) (by decide) dX10_ownerOf_18 ?_
  refine lv_bipush (v := 100) hx hb dX10_ownerOf_19 (by decide) ?_
  refine lv_idiv hx hb dX10_ownerOf_21 (by decide) ?_
  refine lv_iadd hx hb dX10_ownerOf_22 ?_
  refine lv_aload_n hx hb dX10_ownerOf_23 rfl (lv_at hl 0 rfl) ?_
  refine va_get (D := D) (ci := 10) (v := .ref (a 10)) (C := RX10) (T := TX10) (N := 38) hx hb hts hiX10 hown hE.1 hP 0 mol_0 rfl 10 (by decide) (hts (.fieldLink RX10 34 "FindsOfficeModel" "foundOn" "[I") (by decide +kernel)) (fun _ h9 => h9) rfl dX10_ownerOf_24 ?_
  refine lv_iload_n hx hb dX10_ownerOf_27 rfl (lv_at hl 1 rfl) ?_
  refine my_iald (k := k) hx hb hE.1 hP 9 0 mol_10 rfl rfl (by omega) (by decide) dX10_ownerOf_28 ?_
  refine ro_V (As := [.int ((10 * ((T 2 k) / 100)) + ((T 3 k) / 100)), .int (T 10 k)]) (rest := []) ⟨hx, hb, hml, hown, hts⟩ (c_X10_ownerOn l D cT a T n z ((10 * ((T 2 k) / 100)) + ((T 3 k) / 100)) (T 10 k) hn) (cwV 2 hts gX10_ownerOf_X10_ownerOn rfl rfl rfl (by decide +kernel) ⟨Nat.le_of_ble_eq_true rfl, Nat.le_of_ble_eq_true rfl⟩) hE hP 0 10 mol_0 rfl rfl rfl hl.1 rfl (Nat.le_of_ble_eq_true rfl) dX10_ownerOf_29 ⟨Nat.zero_le _, Nat.zero_le _⟩ ?_
  exact ro_iret hx hb hr hlocks (by rw [lndV, Int32.mul_comm]) dX10_ownerOf_32
set_option maxHeartbeats 4000000 in
set_option maxRecDepth 100000 in
theorem c_X10_isJoined (l : Launch) (D : va_G) (cT : Nat → ClassId) (a : Nat → Nat) (T : Nat → Nat → Int32) (n : Nat → Nat) (z : Nat → Int32) (day : Int32) (pa qa : Nat) (hn : Cnt n) (hp : pa < n 1) (hq : qa < n 1) : Met l yX10_isJoined wsX10_isJoined ({ frames := 1, cells := 0, slots := 0, locals := 22 }) (va_Pc [.ref (a 0), .int (nI pa), .int (nI qa), .int day] (PB D cT (modW cT a T n z))) (QR (.int (b2 (jnM T pa qa day)))) 0 0 (fun _ => False) := by
  refine RO_of (by decide) rfl (Nat.le_of_ble_eq_true rfl) ?_
  intro p e s m below meth c hx hb hr hts hown hlocks hml hE hP ls hl
  have hiX10 : ∀ w ∈ wsX100, w ∈ wsX10_isJoined := by decide +kernel
  have hl : lv_has ls 4 [(0, .ref (a 0)), (1, .int (nI pa)), (2, .int (nI qa)), (3, .int day)] := hl
  obtain ⟨hn0, hn1, hn2, hn3, hn4⟩ := id hn
  refine lv_aload_n hx hb dX10_isJoined_0 rfl (lv_at hl 0 rfl) ?_
  refine va_get (D := D) (ci := 10) (v := .ref (a 2)) (C := RX10) (T := TX10) (N := 38) hx hb hts hiX10 hown hE.1 hP 0 mol_0 rfl 2 (by decide) (hts (.fieldLink RX10 9 "FindsOfficeModel" "x" "[I") (by decide +kernel)) (fun _ h9 => h9) rfl dX10_isJoined_1 ?_
  refine lv_iload_n hx hb dX10_isJoined_4 rfl (lv_at hl 1 rfl) ?_
  refine my_iald (k := pa) hx hb hE.1 hP 1 0 mol_2 rfl rfl (by omega) (by decide) dX10_isJoined_5 ?_
  refine lv_aload_n hx hb dX10_isJoined_6 rfl (lv_at hl 0 rfl) ?_
  refine va_get (D := D) (ci := 10) (v := .ref (a 2)) (C := RX10) (T := TX10) (N := 38) hx hb hts hiX10 hown hE.1 hP 0 mol_0 rfl 2 (by decide) (hts (.fieldLink RX10 9 "FindsOfficeModel" "x" "[I") (by decide +kernel)) (fun _ h9 => h9) rfl dX10_isJoined_7 ?_
  refine lv_iload_n hx hb dX10_isJoined_10 rfl (lv_at hl 2 rfl) ?_
  refine my_iald (k := qa) hx hb hE.1 hP 1 0 mol_2 rfl rfl (by omega) (by decide) dX10_isJoined_11 ?_
  refine lv_isub hx hb dX10_isJoined_12 ?_
  refine lv_bipush (v := (-10)) hx hb dX10_isJoined_13 (by decide) ?_
  refine lv_bipush (v := 10) hx hb dX10_isJoined_15 (by decide) ?_
  refine ro_S (As := [.int ((T 2 pa) - (T 2 qa)), .int (-10), .int 10]) (rest := []) ⟨hx, hb, hml, hown, hts⟩ (c_X10_in l D cT ((T 2 pa) - (T 2 qa)) (-10) 10 ) (va_cwS 3 hts gX10_isJoined_X10_in rfl rfl rfl (by decide +kernel) ⟨Nat.le_of_ble_eq_true rfl, Nat.le_of_ble_eq_true rfl⟩) hE va_P_nil  rfl hl.1 rfl (Nat.le_of_ble_eq_true rfl) dX10_isJoined_17 ⟨Nat.zero_le _, Nat.zero_le _⟩ ?_
  refine bi_eq (tgt := 95) hx hb dX10_isJoined_20 (by decide) (fun c_1 => ?_) (fun c_1 => ?_)
  · refine lv_iconst (v := 0) hx hb dX10_isJoined_95 (by decide) ?_
    exact ro_zret hx hb hr hlocks (by simp only [jnM, b2, c_1, decide_true, decide_false, Bool.not_true, Bool.not_false, Bool.true_and, Bool.false_and, Bool.and_false]; first | rfl | decide) dX10_isJoined_96
  · refine lv_aload_n hx hb dX10_isJoined_23 rfl (lv_at hl 0 rfl) ?_
    refine va_get (D := D) (ci := 10) (v := .ref (a 3)) (C := RX10) (T := TX10) (N := 38) hx hb hts hiX10 hown hE.1 hP 0 mol_0 rfl 3 (by decide) (hts (.fieldLink RX10 13 "FindsOfficeModel" "y" "[I") (by decide +kernel)) (fun _ h9 => h9) rfl dX10_isJoined_24 ?_
    refine lv_iload_n hx hb dX10_isJoined_27 rfl (lv_at hl 1 rfl) ?_
    refine my_iald (k := pa) hx hb hE.1 hP 2 0 mol_3 rfl rfl (by omega) (by decide) dX10_isJoined_28 ?_
    refine lv_aload_n hx hb dX10_isJoined_29 rfl (lv_at hl 0 rfl) ?_
    refine va_get (D := D) (ci := 10) (v := .ref (a 3)) (C := RX10) (T := TX10) (N := 38) hx hb hts hiX10 hown hE.1 hP 0 mol_0 rfl 3 (by decide) (hts (.fieldLink RX10 13 "FindsOfficeModel" "y" "[I") (by decide +kernel)) (fun _ h9 => h9) rfl dX10_isJoined_30 ?_
    refine lv_iload_n hx hb dX10_isJoined_33 rfl (lv_at hl 2 rfl) ?_
    refine my_iald (k := qa) hx hb hE.1 hP 2 0 mol_3 rfl rfl (by omega) (by decide) dX10_isJoined_34 ?_
    refine lv_isub hx hb dX10_isJoined_35 ?_
    refine lv_bipush (v := (-10)) hx hb dX10_isJoined_36 (by decide) ?_
    refine lv_bipush (v := 10) hx hb dX10_isJoined_38 (by decide) ?_
    refine ro_S (As := [.int ((T 3 pa) - (T 3 qa)), .int (-10), .int 10]) (rest := []) ⟨hx, hb, hml, hown, hts⟩ (c_X10_in l D cT ((T 3 pa) - (T 3 qa)) (-10) 10 ) (va_cwS 3 hts gX10_isJoined_X10_in rfl rfl rfl (by decide +kernel) ⟨Nat.le_of_ble_eq_true rfl, Nat.le_of_ble_eq_true rfl⟩) hE va_P_nil  rfl hl.1 rfl (Nat.le_of_ble_eq_true rfl) dX10_isJoined_40 ⟨Nat.zero_le _, Nat.zero_le _⟩ ?_
    refine bi_eq (tgt := 95) hx hb dX10_isJoined_43 (by decide) (fun c_2 => ?_) (fun c_2 => ?_)
    · refine lv_iconst (v := 0) hx hb dX10_isJoined_95 (by decide) ?_
      exact ro_zret hx hb hr hlocks (by simp only [jnM, b2, c_1, c_2, decide_true, decide_false, Bool.not_true, Bool.not_false, Bool.true_and, Bool.false_and, Bool.and_false]; first | rfl | decide) dX10_isJoined_96
    · refine lv_aload_n hx hb dX10_isJoined_46 rfl (lv_at hl 0 rfl) ?_
      refine va_get (D := D) (ci := 10) (v := .ref (a 7)) (C := RX10) (T := TX10) (N := 38) hx hb hts hiX10 hown hE.1 hP 0 mol_0 rfl 7 (by decide) (hts (.fieldLink RX10 25 "FindsOfficeModel" "from" "[I") (by decide +kernel)) (fun _ h9 => h9) rfl dX10_isJoined_47 ?_
      refine lv_iload_n hx hb dX10_isJoined_50 rfl (lv_at hl 1 rfl) ?_
      refine my_iald (k := pa) hx hb hE.1 hP 6 0 mol_7 rfl rfl (by omega) (by decide) dX10_isJoined_51 ?_
      refine lv_aload_n hx hb dX10_isJoined_52 rfl (lv_at hl 0 rfl) ?_
      refine va_get (D := D) (ci := 10) (v := .ref (a 8)) (C := RX10) (T := TX10) (N := 38) hx hb hts hiX10 hown hE.1 hP 0 mol_0 rfl 8 (by decide) (hts (.fieldLink RX10 28 "FindsOfficeModel" "to" "[I") (by decide +kernel)) (fun _ h9 => h9) rfl dX10_isJoined_53 ?_
      refine lv_iload_n hx hb dX10_isJoined_56 rfl (lv_at hl 2 rfl) ?_
      refine my_iald (k := qa) hx hb hE.1 hP 7 0 mol_8 rfl rfl (by omega) (by decide) dX10_isJoined_57 ?_
      refine lv_icmp_gt (tgt := 95) hx hb dX10_isJoined_58 (by decide) (fun c_3 => ?_) (fun c_3 => ?_)
      · refine lv_iconst (v := 0) hx hb dX10_isJoined_95 (by decide) ?_
        exact ro_zret hx hb hr hlocks (by simp only [jnM, b2, c_1, c_2, c_3, decide_true, decide_false, Bool.not_true, Bool.not_false, Bool.true_and, Bool.false_and, Bool.and_false]; first | rfl | decide) dX10_isJoined_96
      · refine lv_aload_n hx hb dX10_isJoined_61 rfl (lv_at hl 0 rfl) ?_
        refine va_get (D := D) (ci := 10) (v := .ref (a 7)) (C := RX10) (T := TX10) (N := 38) hx hb hts hiX10 hown hE.1 hP 0 mol_0 rfl 7 (by decide) (hts (.fieldLink RX10 25 "FindsOfficeModel" "from" "[I") (by decide +kernel)) (fun _ h9 => h9) rfl dX10_isJoined_62 ?_
        refine lv_iload_n hx hb dX10_isJoined_65 rfl (lv_at hl 2 rfl) ?_
        refine my_iald (k := qa) hx hb hE.1 hP 6 0 mol_7 rfl rfl (by omega) (by decide) dX10_isJoined_66 ?_
        refine lv_aload_n hx hb dX10_isJoined_67 rfl (lv_at hl 0 rfl) ?_
        refine va_get (D := D) (ci := 10) (v := .ref (a 8)) (C := RX10) (T := TX10) (N := 38) hx hb hts hiX10 hown hE.1 hP 0 mol_0 rfl 8 (by decide) (hts (.fieldLink RX10 28 "FindsOfficeModel" "to" "[I") (by decide +kernel)) (fun _ h9 => h9) rfl dX10_isJoined_68 ?_
        refine lv_iload_n hx hb dX10_isJoined_71 rfl (lv_at hl 1 rfl) ?_
        refine my_iald (k := pa) hx hb hE.1 hP 7 0 mol_8 rfl rfl (by omega) (by decide) dX10_isJoined_72 ?_
        refine lv_icmp_gt (tgt := 95) hx hb dX10_isJoined_73 (by decide) (fun c_4 => ?_) (fun c_4 => ?_)
        · refine lv_iconst (v := 0) hx hb dX10_isJoined_95 (by decide) ?_
          exact ro_zret hx hb hr hlocks (by simp only [jnM, b2, c_1, c_2, c_3, c_4, decide_true, decide_false, Bool.not_true, Bool.not_false, Bool.true_and, Bool.false_and, Bool.and_false]; first | rfl | decide) dX10_isJoined_96
        · refine lv_aload_n hx hb dX10_isJoined_76 rfl (lv_at hl 0 rfl) ?_
          refine va_get (D := D) (ci := 10) (v := .ref (a 13)) (C := RX10) (T := TX10) (N := 38) hx hb hts hiX10 hown hE.1 hP 0 mol_0 rfl 13 (by decide) (hts (.fieldLink RX10 43 "FindsOfficeModel" "parted" "[I") (by decide +kernel)) (fun _ h9 => h9) rfl dX10_isJoined_77 ?_
          refine lv_bipush (v := 50) hx hb dX10_isJoined_80 (by decide) ?_
          refine lv_iload_n hx hb dX10_isJoined_82 rfl (lv_at hl 1 rfl) ?_
          refine lv_imul hx hb dX10_isJoined_83 ?_
          refine lv_iload_n hx hb dX10_isJoined_84 rfl (lv_at hl 2 rfl) ?_
          refine lv_iadd hx hb dX10_isJoined_85 ?_
          refine my_iald (k := 50 * pa + qa) hx hb hE.1 hP 12 0 mol_13 rfl (by rw [show (50 : Int32) = nI 50 from rfl, pk_mul, nI_add]) (by omega) (by decide) dX10_isJoined_86 ?_
          refine lv_iload_n hx hb dX10_isJoined_87 rfl (lv_at hl 3 rfl) ?_
          refine lv_icmp_le (tgt := 95) hx hb dX10_isJoined_88 (by decide) (fun c_5 => ?_) (fun c_5 => ?_)
          · refine lv_iconst (v := 0) hx hb dX10_isJoined_95 (by decide) ?_
            exact ro_zret hx hb hr hlocks (by simp only [jnM, b2, c_1, c_2, c_3, c_4, c_5, decide_true, decide_false, Bool.not_true, Bool.not_false, Bool.true_and, Bool.false_and, Bool.and_false]; first | rfl | decide) dX10_isJoined_96
          · refine lv_iconst (v := 1) hx hb dX10_isJoined_91 (by decide) ?_
            refine lv_goto (tgt := 96) hx hb dX10_isJoined_92 (by decide) ?_
            exact ro_zret hx hb hr hlocks (by simp only [jnM, b2, c_1, c_2, c_3, c_4, c_5, decide_true, decide_false, Bool.not_true, Bool.not_false, Bool.true_and, Bool.false_and, Bool.and_false]; first | rfl | decide) dX10_isJoined_96
set_option maxHeartbeats 4000000 in
set_option maxRecDepth 100000 in
theorem c_X10_isKnown (l : Launch) (D : va_G) (cT : Nat → ClassId) (a : Nat → Nat) (T : Nat → Nat → Int32) (n : Nat → Nat) (z : Nat → Int32) (i day : Int32) (hn : Cnt n) : Met l yX10_isKnown wsX10_isKnown ({ frames := 2, cells := 0, slots := 0, locals := 43 }) (va_Pc [.ref (a 0), .int i, .int day] (PB D cT (modW cT a T n z))) (QR (.int (b2 (knB T n i day)))) 0 0 (fun _ => False) := by
  refine RO_of (by decide) rfl (Nat.le_of_ble_eq_true rfl) ?_
  intro p e s m below meth c hx hb hr hts hown hlocks hml hE hP ls hl
  have hiX10 : ∀ w ∈ wsX100, w ∈ wsX10_isKnown := by decide +kernel
  have hl : lv_has ls 3 [(0, .ref (a 0)), (1, .int i), (2, .int day)] := hl
  obtain ⟨hn0, hn1, hn2, hn3, hn4⟩ := id hn
  refine lv_aload_n hx hb dX10_isKnown_0 rfl (lv_at hl 0 rfl) ?_
  refine lv_iload_n hx hb dX10_isKnown_1 rfl (lv_at hl 1 rfl) ?_
  refine ro_V (As := [.int i]) (rest := []) ⟨hx, hb, hml, hown, hts⟩ (c_X10_isFind l D cT a T n z i hn) (cwV 1 hts gX10_isKnown_X10_isFind rfl rfl rfl (by decide +kernel) ⟨Nat.le_of_ble_eq_true rfl, Nat.le_of_ble_eq_true rfl⟩) hE hP 0 10 mol_0 rfl rfl rfl hl.1 rfl (Nat.le_of_ble_eq_true rfl) dX10_isKnown_2 ⟨Nat.zero_le _, Nat.zero_le _⟩ ?_
  refine bi_eq (tgt := 34) hx hb dX10_isKnown_5 (by decide) (fun c_1 => ?_) (fun c_1 => ?_)
  · refine lv_iconst (v := 0) hx hb dX10_isKnown_34 (by decide) ?_
    exact ro_zret hx hb hr hlocks (by simp [knB, b2, c_1]) dX10_isKnown_35
  · obtain ⟨k, hk, rfl⟩ := isT_k c_1 (by omega)
    refine lv_iload_n hx hb dX10_isKnown_8 rfl (lv_at hl 2 rfl) ?_
    refine lv_iconst (v := 0) hx hb dX10_isKnown_9 (by decide) ?_
    refine lv_aload_n hx hb dX10_isKnown_10 rfl (lv_at hl 0 rfl) ?_
    refine va_get (D := D) (ci := 10) (v := .int (T 0 0)) (C := RX10) (T := TX10) (N := 38) hx hb hts hiX10 hown hE.1 hP 0 mol_0 rfl 0 (by decide) (hts (.fieldLink RX10 113 "FindsOfficeModel" "now" "I") (by decide +kernel)) (fun _ h9 => h9) rfl dX10_isKnown_11 ?_
    refine ro_S (As := [.int day, .int 0, .int (T 0 0)]) (rest := []) ⟨hx, hb, hml, hown, hts⟩ (c_X10_in l D cT day 0 (T 0 0) ) (va_cwS 3 hts gX10_isKnown_X10_in rfl rfl rfl (by decide +kernel) ⟨Nat.le_of_ble_eq_true rfl, Nat.le_of_ble_eq_true rfl⟩) hE va_P_nil  rfl hl.1 rfl (Nat.le_of_ble_eq_true rfl) dX10_isKnown_14 ⟨Nat.zero_le _, Nat.zero_le _⟩ ?_
    refine bi_eq (tgt := 34) hx hb dX10_isKnown_17 (by decide) (fun c_2 => ?_) (fun c_2 => ?_)
    · refine lv_iconst (v := 0) hx hb dX10_isKnown_34 (by decide) ?_
      exact ro_zret hx hb hr hlocks (by simp [knB, b2, isT_nI hk (show n 1 < 2 ^ 31 by omega), nI_clamp (show k < 2 ^ 31 by omega), c_2]) dX10_isKnown_35
    · refine lv_aload_n hx hb dX10_isKnown_20 rfl (lv_at hl 0 rfl) ?_
      refine va_get (D := D) (ci := 10) (v := .ref (a 11)) (C := RX10) (T := TX10) (N := 38) hx hb hts hiX10 hown hE.1 hP 0 mol_0 rfl 11 (by decide) (hts (.fieldLink RX10 37 "FindsOfficeModel" "knownOn" "[I") (by decide +kernel)) (fun _ h9 => h9) rfl dX10_isKnown_21 ?_
      refine lv_iload_n hx hb dX10_isKnown_24 rfl (lv_at hl 1 rfl) ?_
      refine my_iald (k := k) hx hb hE.1 hP 10 0 mol_11 rfl rfl (by omega) (by decide) dX10_isKnown_25 ?_
      refine lv_iload_n hx hb dX10_isKnown_26 rfl (lv_at hl 2 rfl) ?_
      refine lv_icmp_gt (tgt := 34) hx hb dX10_isKnown_27 (by decide) (fun c_3 => ?_) (fun c_3 => ?_)
      · refine lv_iconst (v := 0) hx hb dX10_isKnown_34 (by decide) ?_
        exact ro_zret hx hb hr hlocks (by simp [knB, b2, isT_nI hk (show n 1 < 2 ^ 31 by omega), nI_clamp (show k < 2 ^ 31 by omega), c_2, c_3]) dX10_isKnown_35
      · refine lv_iconst (v := 1) hx hb dX10_isKnown_30 (by decide) ?_
        refine lv_goto (tgt := 35) hx hb dX10_isKnown_31 (by decide) ?_
        exact ro_zret hx hb hr hlocks (by simp [knB, b2, isT_nI hk (show n 1 < 2 ^ 31 by omega), nI_clamp (show k < 2 ^ 31 by omega), c_2, c_3]) dX10_isKnown_35
set_option maxHeartbeats 4000000 in
set_option maxRecDepth 100000 in
theorem c_X10_told (l : Launch) (D : va_G) (cT : Nat → ClassId) (a : Nat → Nat) (T : Nat → Nat → Int32) (n : Nat → Nat) (z : Nat → Int32) (i what : Int32) (hn : Cnt n) : Met l yX10_told wsX10_told ({ frames := 2, cells := 0, slots := 0, locals := 45 }) (va_Pc [.ref (a 0), .int i, .int what] (PB D cT (modW cT a T n z))) (QR (.int (tdV T n i what))) 0 0 (fun _ => False) := by
  refine RO_of (by decide) rfl (Nat.le_of_ble_eq_true rfl) ?_
  intro p e s m below meth c hx hb hr hts hown hlocks hml hE hP ls hl
  have hiX10 : ∀ w ∈ wsX100, w ∈ wsX10_told := by decide +kernel
  have hl : lv_has ls 3 [(0, .ref (a 0)), (1, .int i), (2, .int what)] := hl
  obtain ⟨hn0, hn1, hn2, hn3, hn4⟩ := id hn
  refine lv_aload_n hx hb dX10_told_0 rfl (lv_at hl 0 rfl) ?_
  refine lv_iload_n hx hb dX10_told_1 rfl (lv_at hl 1 rfl) ?_
  refine ro_V (As := [.int i]) (rest := []) ⟨hx, hb, hml, hown, hts⟩ (c_X10_isFind l D cT a T n z i hn) (cwV 1 hts gX10_told_X10_isFind rfl rfl rfl (by decide +kernel) ⟨Nat.le_of_ble_eq_true rfl, Nat.le_of_ble_eq_true rfl⟩) hE hP 0 10 mol_0 rfl rfl rfl hl.1 rfl (Nat.le_of_ble_eq_true rfl) dX10_told_2 ⟨Nat.zero_le _, Nat.zero_le _⟩ ?_
  refine bi_ne (tgt := 11) hx hb dX10_told_5 (by decide) (fun c_1 => ?_) (fun c_1 => ?_)
  · obtain ⟨k, hk, rfl⟩ := isT_k c_1 (by omega)
    refine lv_iload_n hx hb dX10_told_11 rfl (lv_at hl 2 rfl) ?_
    rcases pk_ix what (n := 10) (by decide) with hsw | hsw | ⟨jsw, hjsw, rfl⟩
    · refine lv_tableOut (tgt := 137) hx hb dX10_told_12 (Or.inl (tsw_lo hsw)) (by decide) ?_
      refine lv_ldc (own := RX10) (v := (-2147483648)) hx hb hown (hts (.constant RX10 157 (-2147483648)) (by decide +kernel)) dX10_told_137 ?_
      exact ro_iret hx hb hr hlocks (by rw [tdV_at hk hn1]; first | simp [isT_lo hsw] | (rw [isT_hi (m := 10) hsw]; rfl)) dX10_told_139
    · refine lv_tableOut (tgt := 137) hx hb dX10_told_12 (Or.inr (tsw_hi (n := 9) hsw (by decide))) (by decide) ?_
      refine lv_ldc (own := RX10) (v := (-2147483648)) hx hb hown (hts (.constant RX10 157 (-2147483648)) (by decide +kernel)) dX10_told_137 ?_
      exact ro_iret hx hb hr hlocks (by rw [tdV_at hk hn1]; first | simp [isT_lo hsw] | (rw [isT_hi (m := 10) hsw]; rfl)) dX10_told_139
    · rcases (show jsw = 0 ∨ jsw = 1 ∨ jsw = 2 ∨ jsw = 3 ∨ jsw = 4 ∨ jsw = 5 ∨ jsw = 6 ∨ jsw = 7 ∨ jsw = 8 ∨ jsw = 9 by omega) with rfl | rfl | rfl | rfl | rfl | rfl | rfl | rfl | rfl | rfl
      · refine lv_tableIn (x := nI 0) (off := 56) (tgt := 68) hx hb dX10_told_12 (by decide) (by decide) rfl (by decide) ?_
        refine lv_aload_n hx hb dX10_told_68 rfl (lv_at hl 0 rfl) ?_
        refine va_get (D := D) (ci := 10) (v := .ref (a 10)) (C := RX10) (T := TX10) (N := 38) hx hb hts hiX10 hown hE.1 hP 0 mol_0 rfl 10 (by decide) (hts (.fieldLink RX10 34 "FindsOfficeModel" "foundOn" "[I") (by decide +kernel)) (fun _ h9 => h9) rfl dX10_told_69 ?_
        refine lv_iload_n hx hb dX10_told_72 rfl (lv_at hl 1 rfl) ?_
        refine my_iald (k := k) hx hb hE.1 hP 9 0 mol_10 rfl rfl (by omega) (by decide) dX10_told_73 ?_
        exact ro_iret hx hb hr hlocks (by rw [tdV_at hk hn1]; rfl) dX10_told_74
      · refine lv_tableIn (x := nI 1) (off := 63) (tgt := 75) hx hb dX10_told_12 (by decide) (by decide) rfl (by decide) ?_
        refine lv_aload_n hx hb dX10_told_75 rfl (lv_at hl 0 rfl) ?_
        refine va_get (D := D) (ci := 10) (v := .ref (a 11)) (C := RX10) (T := TX10) (N := 38) hx hb hts hiX10 hown hE.1 hP 0 mol_0 rfl 11 (by decide) (hts (.fieldLink RX10 37 "FindsOfficeModel" "knownOn" "[I") (by decide +kernel)) (fun _ h9 => h9) rfl dX10_told_76 ?_
        refine lv_iload_n hx hb dX10_told_79 rfl (lv_at hl 1 rfl) ?_
        refine my_iald (k := k) hx hb hE.1 hP 10 0 mol_11 rfl rfl (by omega) (by decide) dX10_told_80 ?_
        exact ro_iret hx hb hr hlocks (by rw [tdV_at hk hn1]; rfl) dX10_told_81
      · refine lv_tableIn (x := nI 2) (off := 70) (tgt := 82) hx hb dX10_told_12 (by decide) (by decide) rfl (by decide) ?_
        refine lv_aload_n hx hb dX10_told_82 rfl (lv_at hl 0 rfl) ?_
        refine va_get (D := D) (ci := 10) (v := .ref (a 4)) (C := RX10) (T := TX10) (N := 38) hx hb hts hiX10 hown hE.1 hP 0 mol_0 rfl 4 (by decide) (hts (.fieldLink RX10 16 "FindsOfficeModel" "metal" "[I") (by decide +kernel)) (fun _ h9 => h9) rfl dX10_told_83 ?_
        refine lv_iload_n hx hb dX10_told_86 rfl (lv_at hl 1 rfl) ?_
        refine my_iald (k := k) hx hb hE.1 hP 3 0 mol_4 rfl rfl (by omega) (by decide) dX10_told_87 ?_
        exact ro_iret hx hb hr hlocks (by rw [tdV_at hk hn1]; rfl) dX10_told_88
      · refine lv_tableIn (x := nI 3) (off := 77) (tgt := 89) hx hb dX10_told_12 (by decide) (by decide) rfl (by decide) ?_
        refine lv_aload_n hx hb dX10_told_89 rfl (lv_at hl 0 rfl) ?_
        refine va_get (D := D) (ci := 10) (v := .ref (a 5)) (C := RX10) (T := TX10) (N := 38) hx hb hts hiX10 hown hE.1 hP 0 mol_0 rfl 5 (by decide) (hts (.fieldLink RX10 19 "FindsOfficeModel" "purity" "[I") (by decide +kernel)) (fun _ h9 => h9) rfl dX10_told_90 ?_
        refine lv_iload_n hx hb dX10_told_93 rfl (lv_at hl 1 rfl) ?_
        refine my_iald (k := k) hx hb hE.1 hP 4 0 mol_5 rfl rfl (by omega) (by decide) dX10_told_94 ?_
        exact ro_iret hx hb hr hlocks (by rw [tdV_at hk hn1]; rfl) dX10_told_95
      · refine lv_tableIn (x := nI 4) (off := 84) (tgt := 96) hx hb dX10_told_12 (by decide) (by decide) rfl (by decide) ?_
        refine lv_aload_n hx hb dX10_told_96 rfl (lv_at hl 0 rfl) ?_
        refine va_get (D := D) (ci := 10) (v := .ref (a 6)) (C := RX10) (T := TX10) (N := 38) hx hb hts hiX10 hown hE.1 hP 0 mol_0 rfl 6 (by decide) (hts (.fieldLink RX10 22 "FindsOfficeModel" "weight" "[I") (by decide +kernel)) (fun _ h9 => h9) rfl dX10_told_97 ?_
        refine lv_iload_n hx hb dX10_told_100 rfl (lv_at hl 1 rfl) ?_
        refine my_iald (k := k) hx hb hE.1 hP 5 0 mol_6 rfl rfl (by omega) (by decide) dX10_told_101 ?_
        exact ro_iret hx hb hr hlocks (by rw [tdV_at hk hn1]; rfl) dX10_told_102
      · refine lv_tableIn (x := nI 5) (off := 91) (tgt := 103) hx hb dX10_told_12 (by decide) (by decide) rfl (by decide) ?_
        refine lv_aload_n hx hb dX10_told_103 rfl (lv_at hl 0 rfl) ?_
        refine va_get (D := D) (ci := 10) (v := .ref (a 7)) (C := RX10) (T := TX10) (N := 38) hx hb hts hiX10 hown hE.1 hP 0 mol_0 rfl 7 (by decide) (hts (.fieldLink RX10 25 "FindsOfficeModel" "from" "[I") (by decide +kernel)) (fun _ h9 => h9) rfl dX10_told_104 ?_
        refine lv_iload_n hx hb dX10_told_107 rfl (lv_at hl 1 rfl) ?_
        refine my_iald (k := k) hx hb hE.1 hP 6 0 mol_7 rfl rfl (by omega) (by decide) dX10_told_108 ?_
        exact ro_iret hx hb hr hlocks (by rw [tdV_at hk hn1]; rfl) dX10_told_109
      · refine lv_tableIn (x := nI 6) (off := 98) (tgt := 110) hx hb dX10_told_12 (by decide) (by decide) rfl (by decide) ?_
        refine lv_aload_n hx hb dX10_told_110 rfl (lv_at hl 0 rfl) ?_
        refine va_get (D := D) (ci := 10) (v := .ref (a 8)) (C := RX10) (T := TX10) (N := 38) hx hb hts hiX10 hown hE.1 hP 0 mol_0 rfl 8 (by decide) (hts (.fieldLink RX10 28 "FindsOfficeModel" "to" "[I") (by decide +kernel)) (fun _ h9 => h9) rfl dX10_told_111 ?_
        refine lv_iload_n hx hb dX10_told_114 rfl (lv_at hl 1 rfl) ?_
        refine my_iald (k := k) hx hb hE.1 hP 7 0 mol_8 rfl rfl (by omega) (by decide) dX10_told_115 ?_
        exact ro_iret hx hb hr hlocks (by rw [tdV_at hk hn1]; rfl) dX10_told_116
      · refine lv_tableIn (x := nI 7) (off := 105) (tgt := 117) hx hb dX10_told_12 (by decide) (by decide) rfl (by decide) ?_
        refine lv_aload_n hx hb dX10_told_117 rfl (lv_at hl 0 rfl) ?_
        refine va_get (D := D) (ci := 10) (v := .ref (a 9)) (C := RX10) (T := TX10) (N := 38) hx hb hts hiX10 hown hE.1 hP 0 mol_0 rfl 9 (by decide) (hts (.fieldLink RX10 31 "FindsOfficeModel" "finder" "[I") (by decide +kernel)) (fun _ h9 => h9) rfl dX10_told_118 ?_
        refine lv_iload_n hx hb dX10_told_121 rfl (lv_at hl 1 rfl) ?_
        refine my_iald (k := k) hx hb hE.1 hP 8 0 mol_9 rfl rfl (by omega) (by decide) dX10_told_122 ?_
        exact ro_iret hx hb hr hlocks (by rw [tdV_at hk hn1]; rfl) dX10_told_123
      · refine lv_tableIn (x := nI 8) (off := 112) (tgt := 124) hx hb dX10_told_12 (by decide) (by decide) rfl (by decide) ?_
        refine lv_aload_n hx hb dX10_told_124 rfl (lv_at hl 0 rfl) ?_
        refine lv_iload_n hx hb dX10_told_125 rfl (lv_at hl 1 rfl) ?_
        refine ro_V (As := [.int (nI k)]) (rest := []) ⟨hx, hb, hml, hown, hts⟩ (c_X10_ownerOf l D cT a T n z k hn (by omega)) (cwV 1 hts gX10_told_X10_ownerOf rfl rfl rfl (by decide +kernel) ⟨Nat.le_of_ble_eq_true rfl, Nat.le_of_ble_eq_true rfl⟩) hE hP 0 10 mol_0 rfl rfl rfl hl.1 rfl (Nat.le_of_ble_eq_true rfl) dX10_told_126 ⟨Nat.zero_le _, Nat.zero_le _⟩ ?_
        exact ro_iret hx hb hr hlocks (by rw [tdV_at hk hn1]; rfl) dX10_told_129
      · refine lv_tableIn (x := nI 9) (off := 118) (tgt := 130) hx hb dX10_told_12 (by decide) (by decide) rfl (by decide) ?_
        refine lv_aload_n hx hb dX10_told_130 rfl (lv_at hl 0 rfl) ?_
        refine va_get (D := D) (ci := 10) (v := .ref (a 12)) (C := RX10) (T := TX10) (N := 38) hx hb hts hiX10 hown hE.1 hP 0 mol_0 rfl 12 (by decide) (hts (.fieldLink RX10 40 "FindsOfficeModel" "museumOf" "[I") (by decide +kernel)) (fun _ h9 => h9) rfl dX10_told_131 ?_
        refine lv_iload_n hx hb dX10_told_134 rfl (lv_at hl 1 rfl) ?_
        refine my_iald (k := k) hx hb hE.1 hP 11 0 mol_12 rfl rfl (by omega) (by decide) dX10_told_135 ?_
        exact ro_iret hx hb hr hlocks (by rw [tdV_at hk hn1]; rfl) dX10_told_136
  · refine lv_ldc (own := RX10) (v := (-2147483648)) hx hb hown (hts (.constant RX10 157 (-2147483648)) (by decide +kernel)) dX10_told_8 ?_
    exact ro_iret hx hb hr hlocks (by simp [tdV, c_1]) dX10_told_10
set_option maxHeartbeats 4000000 in
set_option maxRecDepth 100000 in
theorem c_X10_paid (l : Launch) (D : va_G) (cT : Nat → ClassId) (a : Nat → Nat) (T : Nat → Nat → Int32) (n : Nat → Nat) (z : Nat → Int32) (pe : Int32) (hn : Cnt n) : Met l yX10_paid wsX10_paid ({ frames := 2, cells := 0, slots := 0, locals := 42 }) (va_Pc [.ref (a 0), .int pe] (PB D cT (modW cT a T n z))) (QR (.int (pdV T pe))) 0 0 (fun _ => False) := by
  refine RO_of (by decide) rfl (Nat.le_of_ble_eq_true rfl) ?_
  intro p e s m below meth c hx hb hr hts hown hlocks hml hE hP ls hl
  have hiX10 : ∀ w ∈ wsX100, w ∈ wsX10_paid := by decide +kernel
  have hl : lv_has ls 2 [(0, .ref (a 0)), (1, .int pe)] := hl
  obtain ⟨hn0, hn1, hn2, hn3, hn4⟩ := id hn
  refine lv_iload_n hx hb dX10_paid_0 rfl (lv_at hl 1 rfl) ?_
  refine ro_S (As := [.int pe]) (rest := []) ⟨hx, hb, hml, hown, hts⟩ (c_X10_isPerson l D cT pe ) (va_cwS 1 hts gX10_paid_X10_isPerson rfl rfl rfl (by decide +kernel) ⟨Nat.le_of_ble_eq_true rfl, Nat.le_of_ble_eq_true rfl⟩) hE va_P_nil  rfl hl.1 rfl (Nat.le_of_ble_eq_true rfl) dX10_paid_1 ⟨Nat.zero_le _, Nat.zero_le _⟩ ?_
  refine bi_eq (tgt := 16) hx hb dX10_paid_4 (by decide) (fun c_1 => ?_) (fun c_1 => ?_)
  · rw [btw29] at c_1
    refine lv_iconst (v := 0) hx hb dX10_paid_16 (by decide) ?_
    exact ro_iret hx hb hr hlocks (by simp [pdV, c_1]) dX10_paid_17
  · rw [btw29] at c_1
    obtain ⟨k, hk, rfl⟩ := isT_k c_1 (by decide)
    refine lv_aload_n hx hb dX10_paid_7 rfl (lv_at hl 0 rfl) ?_
    refine va_get (D := D) (ci := 10) (v := .ref (a 31)) (C := RX10) (T := TX10) (N := 38) hx hb hts hiX10 hown hE.1 hP 0 mol_0 rfl 31 (by decide) (hts (.fieldLink RX10 85 "FindsOfficeModel" "paid" "[I") (by decide +kernel)) (fun _ h9 => h9) rfl dX10_paid_8 ?_
    refine lv_iload_n hx hb dX10_paid_11 rfl (lv_at hl 1 rfl) ?_
    refine my_iald (k := k) hx hb hE.1 hP 26 0 mol_31 rfl rfl (by omega) (by decide) dX10_paid_12 ?_
    refine lv_goto (tgt := 17) hx hb dX10_paid_13 (by decide) ?_
    exact ro_iret hx hb hr hlocks (by rw [pdV, if_pos (isT_nI hk (by decide)), nI_clamp (by omega)]) dX10_paid_17
set_option maxHeartbeats 4000000 in
set_option maxRecDepth 100000 in
theorem c_X10_spent (l : Launch) (D : va_G) (cT : Nat → ClassId) (a : Nat → Nat) (T : Nat → Nat → Int32) (n : Nat → Nat) (z : Nat → Int32) (i : Int32) (hn : Cnt n) : Met l yX10_spent wsX10_spent ({ frames := 1, cells := 0, slots := 0, locals := 22 }) (va_Pc [.ref (a 0), .int i] (PB D cT (modW cT a T n z))) (QR (.int (spV T n i))) 0 0 (fun _ => False) := by
  refine RO_of (by decide) rfl (Nat.le_of_ble_eq_true rfl) ?_
  intro p e s m below meth c hx hb hr hts hown hlocks hml hE hP ls hl
  have hiX10 : ∀ w ∈ wsX100, w ∈ wsX10_spent := by decide +kernel
  have hl : lv_has ls 2 [(0, .ref (a 0)), (1, .int i)] := hl
  obtain ⟨hn0, hn1, hn2, hn3, hn4⟩ := id hn
  refine lv_iload_n hx hb dX10_spent_0 rfl (lv_at hl 1 rfl) ?_
  refine lv_iconst (v := 0) hx hb dX10_spent_1 (by decide) ?_
  refine lv_aload_n hx hb dX10_spent_2 rfl (lv_at hl 0 rfl) ?_
  refine va_get (D := D) (ci := 10) (v := .int (nI (n 3))) (C := RX10) (T := TX10) (N := 38) hx hb hts hiX10 hown hE.1 hP 0 mol_0 rfl 32 (by decide) (hts (.fieldLink RX10 184 "FindsOfficeModel" "museums" "I") (by decide +kernel)) (fun _ h9 => h9) rfl dX10_spent_3 ?_
  refine lv_iconst (v := 1) hx hb dX10_spent_6 (by decide) ?_
  refine lv_isub hx hb dX10_spent_7 ?_
  refine ro_S (As := [.int i, .int 0, .int ((nI (n 3)) - 1)]) (rest := []) ⟨hx, hb, hml, hown, hts⟩ (c_X10_in l D cT i 0 ((nI (n 3)) - 1) ) (va_cwS 3 hts gX10_spent_X10_in rfl rfl rfl (by decide +kernel) ⟨Nat.le_of_ble_eq_true rfl, Nat.le_of_ble_eq_true rfl⟩) hE va_P_nil  rfl hl.1 rfl (Nat.le_of_ble_eq_true rfl) dX10_spent_8 ⟨Nat.zero_le _, Nat.zero_le _⟩ ?_
  refine bi_eq (tgt := 23) hx hb dX10_spent_11 (by decide) (fun c_1 => ?_) (fun c_1 => ?_)
  · rw [btw_isT (by omega)] at c_1
    refine lv_iconst (v := (-1)) hx hb dX10_spent_23 (by decide) ?_
    exact ro_iret hx hb hr hlocks (by simp [spV, c_1]) dX10_spent_24
  · rw [btw_isT (by omega)] at c_1
    obtain ⟨k, hk, rfl⟩ := isT_k c_1 (by omega)
    refine lv_aload_n hx hb dX10_spent_14 rfl (lv_at hl 0 rfl) ?_
    refine va_get (D := D) (ci := 10) (v := .ref (a 35)) (C := RX10) (T := TX10) (N := 38) hx hb hts hiX10 hown hE.1 hP 0 mol_0 rfl 35 (by decide) (hts (.fieldLink RX10 94 "FindsOfficeModel" "spent" "[I") (by decide +kernel)) (fun _ h9 => h9) rfl dX10_spent_15 ?_
    refine lv_iload_n hx hb dX10_spent_18 rfl (lv_at hl 1 rfl) ?_
    refine my_iald (k := k) hx hb hE.1 hP 29 0 mol_35 rfl rfl (by omega) (by decide) dX10_spent_19 ?_
    refine lv_goto (tgt := 24) hx hb dX10_spent_20 (by decide) ?_
    exact ro_iret hx hb hr hlocks (by rw [spV, if_pos (isT_nI hk (by omega)), nI_clamp (by omega)]) dX10_spent_24
set_option maxHeartbeats 4000000 in
set_option maxRecDepth 100000 in
theorem c_X10_turn (l : Launch) (D : va_G) (cT : Nat → ClassId) (a : Nat → Nat) (T : Nat → Nat → Int32) (n : Nat → Nat) (z : Nat → Int32) (hn : Cnt n) (hla : ¬ T 36 0 < -1 ∧ T 36 0 < nI (n 3)) : Met l yX10_turn wsX10_turn ({ frames := 0, cells := 0, slots := 0, locals := 0 }) (va_Pc [.ref (a 0)] (PB D cT (modW cT a T n z))) (QR (.int (nxV (n 3) (T 36 0)))) 0 0 (fun _ => False) := by
  refine RO_of (by decide) rfl (Nat.le_of_ble_eq_true rfl) ?_
  intro p e s m below meth c hx hb hr hts hown hlocks hml hE hP ls hl
  have hiX10 : ∀ w ∈ wsX100, w ∈ wsX10_turn := by decide +kernel
  have hl : lv_has ls 1 [(0, .ref (a 0))] := hl
  obtain ⟨hn0, hn1, hn2, hn3, hn4⟩ := id hn
  refine lv_aload_n hx hb dX10_turn_0 rfl (lv_at hl 0 rfl) ?_
  refine va_get (D := D) (ci := 10) (v := .int (nI (n 3))) (C := RX10) (T := TX10) (N := 38) hx hb hts hiX10 hown hE.1 hP 0 mol_0 rfl 32 (by decide) (hts (.fieldLink RX10 184 "FindsOfficeModel" "museums" "I") (by decide +kernel)) (fun _ h9 => h9) rfl dX10_turn_1 ?_
  refine lv_if_ne (tgt := 11) hx hb dX10_turn_4 (by decide) (fun c_1 => ?_) (fun c_1 => ?_)
  · refine lv_aload_n hx hb dX10_turn_11 rfl (lv_at hl 0 rfl) ?_
    refine va_get (D := D) (ci := 10) (v := .int (T 36 0)) (C := RX10) (T := TX10) (N := 38) hx hb hts hiX10 hown hE.1 hP 0 mol_0 rfl 36 (by decide) (hts (.fieldLink RX10 97 "FindsOfficeModel" "latest" "I") (by decide +kernel)) (fun _ h9 => h9) rfl dX10_turn_12 ?_
    refine lv_iconst (v := 1) hx hb dX10_turn_15 (by decide) ?_
    refine lv_iadd hx hb dX10_turn_16 ?_
    refine lv_aload_n hx hb dX10_turn_17 rfl (lv_at hl 0 rfl) ?_
    refine va_get (D := D) (ci := 10) (v := .int (nI (n 3))) (C := RX10) (T := TX10) (N := 38) hx hb hts hiX10 hown hE.1 hP 0 mol_0 rfl 32 (by decide) (hts (.fieldLink RX10 184 "FindsOfficeModel" "museums" "I") (by decide +kernel)) (fun _ h9 => h9) rfl dX10_turn_18 ?_
    refine lv_irem hx hb dX10_turn_21 c_1 ?_
    exact ro_iret hx hb hr hlocks (turn_eq hn3 hla.1 hla.2 c_1) dX10_turn_22
  · refine lv_iconst (v := (-1)) hx hb dX10_turn_7 (by decide) ?_
    refine lv_goto (tgt := 22) hx hb dX10_turn_8 (by decide) ?_
    exact ro_iret hx hb hr hlocks (by simp [nxV, c_1]) dX10_turn_22
set_option maxHeartbeats 4000000 in
set_option maxRecDepth 100000 in
theorem c_X10_worth (l : Launch) (D : va_G) (cT : Nat → ClassId) (a : Nat → Nat) (T : Nat → Nat → Int32) (n : Nat → Nat) (z : Nat → Int32) (i : Int32) (hn : Cnt n) (hI : InvT T n) : Met l yX10_worth wsX10_worth ({ frames := 2, cells := 0, slots := 0, locals := 43 }) (va_Pc [.ref (a 0), .int i] (PB D cT (modW cT a T n z))) (QR (.int (wrV T n i))) 0 0 (fun _ => False) := by
  refine RO_of (by decide) rfl (Nat.le_of_ble_eq_true rfl) ?_
  intro p e s m below meth c hx hb hr hts hown hlocks hml hE hP ls hl
  have hiX10 : ∀ w ∈ wsX100, w ∈ wsX10_worth := by decide +kernel
  have hl : lv_has ls 8 [(0, .ref (a 0)), (1, .int i)] := hl
  obtain ⟨hn0, hn1, hn2, hn3, hn4⟩ := id hn
  refine lv_aload_n hx hb dX10_worth_0 rfl (lv_at hl 0 rfl) ?_
  refine lv_iload_n hx hb dX10_worth_1 rfl (lv_at hl 1 rfl) ?_
  refine ro_V (As := [.int i]) (rest := []) ⟨hx, hb, hml, hown, hts⟩ (c_X10_isFind l D cT a T n z i hn) (cwV 1 hts gX10_worth_X10_isFind rfl rfl rfl (by decide +kernel) ⟨Nat.le_of_ble_eq_true rfl, Nat.le_of_ble_eq_true rfl⟩) hE hP 0 10 mol_0 rfl rfl rfl hl.1 rfl (Nat.le_of_ble_eq_true rfl) dX10_worth_2 ⟨Nat.zero_le _, Nat.zero_le _⟩ ?_
  refine bi_ne (tgt := 10) hx hb dX10_worth_5 (by decide) (fun c_1 => ?_) (fun c_1 => ?_)
  · obtain ⟨k, hk, rfl⟩ := isT_k c_1 (by omega)
    obtain ⟨ka, hka, eka, lka⟩ := yr_ix (d := T 0 0) hI.1.1 hI.1.2
    have hidx := hI.2.2.2.2.2.2.1
    have hsa := hI.2.2.2.2.2.2.2.1
    refine lv_lconst (v := 0) hx hb dX10_worth_10 (by decide) ?_
    refine lv_lstore_n (lv' := [(2, .long 0), (0, .ref (a 0)), (1, .int (nI k))]) hx hb dX10_worth_11 rfl hl (by decide) rfl (fun ls hl => ?_)
    refine lv_lconst (v := 0) hx hb dX10_worth_12 (by decide) ?_
    refine lv_lstore (lv' := [(4, .long 0), (2, .long 0), (0, .ref (a 0)), (1, .int (nI k))]) hx hb dX10_worth_13 hl (by decide) rfl (fun ls hl => ?_)
    refine lv_iconst (v := 0) hx hb dX10_worth_15 (by decide) ?_
    refine lv_istore (lv' := [(6, .int 0), (4, .long 0), (2, .long 0), (0, .ref (a 0)), (1, .int (nI k))]) hx hb dX10_worth_16 hl (by decide) rfl (fun ls hl => ?_)
    have loop_18 : ∀ (fuel_18 : Nat) (j : Nat) (v w : Int64), j ≤ n 2 → v = apS T (T 4 k) (1950 + T 0 0 / 365) j → w = apW T (T 4 k) j → n 2 - j < fuel_18 → ∀ (ls : Array Slot), lv_has ls 8 [(0, .ref (a 0)), (1, .int (nI k)), (2, .long v), (4, .long w), (6, .int (nI j))] → W p l e ({ frames := 2, cells := 0, slots := 0, locals := 43 }) s m (List.toArray [.ref (a 0), .int (nI k)]) below meth c s.heap [] 0 0 (MQ below (QR (.int (wrV T n (nI k)))) (List.toArray [.ref (a 0), .int (nI k)]) s 0 0 (fun _ => False)) (F0 m 18 ls []) := by
      intro fuel_18
      induction fuel_18 with
      | zero => intro j v w hj hv hw hfuel_18; exact absurd hfuel_18 (Nat.not_lt_zero _)
      | succ fuel_18 ih_18 =>
        intro j v w hj hv hw hfuel_18 ls hl
        refine lv_iload hx hb dX10_worth_18 (lv_at hl 4 rfl) ?_
        refine lv_aload_n hx hb dX10_worth_20 rfl (lv_at hl 0 rfl) ?_
        refine va_get (D := D) (ci := 10) (v := .int (nI (n 2))) (C := RX10) (T := TX10) (N := 38) hx hb hts hiX10 hown hE.1 hP 0 mol_0 rfl 26 (by decide) (hts (.fieldLink RX10 161 "FindsOfficeModel" "sales" "I") (by decide +kernel)) (fun _ h9 => h9) rfl dX10_worth_21 ?_
        refine lv_icmp_ge (tgt := 115) hx hb dX10_worth_24 (by decide) (fun c_2 => ?_) (fun c_2 => ?_)
        · have k_2 := nat_le (a := (n 2)) (b := j) c_2 (by omega) (by omega)
          refine lv_lload hx hb dX10_worth_115 (lv_at hl 3 rfl) ?_
          refine lv_lconst (v := 0) hx hb dX10_worth_117 (by decide) ?_
          refine W.lcmp hx hb dX10_worth_118 ?_
          refine lv_if_ne (tgt := 124) hx hb dX10_worth_119 (by decide) (fun c_3 => ?_) (fun c_3 => ?_)
          · have hwz : ¬ w = 0 := fun q => c_3 ((lg_cmp_eq w 0).mpr q)
            refine lv_lload_n hx hb dX10_worth_124 rfl (lv_at hl 2 rfl) ?_
            refine lv_aload_n hx hb dX10_worth_125 rfl (lv_at hl 0 rfl) ?_
            refine va_get (D := D) (ci := 10) (v := .ref (a 6)) (C := RX10) (T := TX10) (N := 38) hx hb hts hiX10 hown hE.1 hP 0 mol_0 rfl 6 (by decide) (hts (.fieldLink RX10 22 "FindsOfficeModel" "weight" "[I") (by decide +kernel)) (fun _ h9 => h9) rfl dX10_worth_126 ?_
            refine lv_iload_n hx hb dX10_worth_129 rfl (lv_at hl 1 rfl) ?_
            refine my_iald (k := k) hx hb hE.1 hP 5 0 mol_6 rfl rfl (by omega) (by decide) dX10_worth_130 ?_
            refine lv_i2l (v := (T 6 k).toInt64) hx hb dX10_worth_131 rfl ?_
            refine lv_lmul hx hb dX10_worth_132 ?_
            refine lv_lload hx hb dX10_worth_133 (lv_at hl 3 rfl) ?_
            refine lv_ldiv hx hb dX10_worth_135 hwz ?_
            refine lv_lstore (lv' := [(6, .long ((v * ((T 6 k).toInt64)) / w)), (0, .ref (a 0)), (1, .int (nI k)), (2, .long v), (4, .long w)]) hx hb dX10_worth_136 hl (by decide) rfl (fun ls hl => ?_)
            refine lv_lload hx hb dX10_worth_138 (lv_at hl 0 rfl) ?_
            refine lv_ldc2 (own := RX10) (v := 1000000) hx hb hown (hts (.constantLong RX10 164 1000000) (by decide +kernel)) dX10_worth_140 ?_
            refine W.lcmp hx hb dX10_worth_143 ?_
            refine lv_if_le (tgt := 152) hx hb dX10_worth_144 (by decide) (fun c_4 => ?_) (fun c_4 => ?_)
            · refine lv_lload hx hb dX10_worth_152 (lv_at hl 0 rfl) ?_
              refine lv_l2i (v := ((v * ((T 6 k).toInt64)) / w).toInt32) hx hb dX10_worth_154 rfl ?_
              exact ro_iret hx hb hr hlocks (by rw [wr_hi hk hn1 hn2 (fun q hq => (hsa q hq).2.1) (show j = n 2 by omega) hv hw hwz, if_neg (lg_npos2 c_4)]) dX10_worth_155
            · refine lv_ldc (own := RX10) (v := 1000000) hx hb hown (hts (.constant RX10 105 1000000) (by decide +kernel)) dX10_worth_147 ?_
              refine lv_goto (tgt := 155) hx hb dX10_worth_149 (by decide) ?_
              exact ro_iret hx hb hr hlocks (by rw [wr_hi hk hn1 hn2 (fun q hq => (hsa q hq).2.1) (show j = n 2 by omega) hv hw hwz, if_pos (lg_pos2 c_4)]; rfl) dX10_worth_155
          · have hwz : w = 0 := (lg_cmp_eq w 0).mp c_3
            refine lv_iconst (v := 0) hx hb dX10_worth_122 (by decide) ?_
            exact ro_iret hx hb hr hlocks (by rw [wrV, if_pos (isT_nI hk (by omega)), nI_clamp (by omega), worV, apV, if_neg (by rw [← show j = n 2 by omega, ← hw, hwz]; decide)]) dX10_worth_123
        · have k_2 := nat_nle (a := (n 2)) (b := j) c_2 (by omega) (by omega)
          refine lv_aload_n hx hb dX10_worth_27 rfl (lv_at hl 0 rfl) ?_
          refine va_get (D := D) (ci := 10) (v := .ref (a 27)) (C := RX10) (T := TX10) (N := 38) hx hb hts hiX10 hown hE.1 hP 0 mol_0 rfl 27 (by decide) (hts (.fieldLink RX10 73 "FindsOfficeModel" "saleMetal" "[I") (by decide +kernel)) (fun _ h9 => h9) rfl dX10_worth_28 ?_
          refine lv_iload hx hb dX10_worth_31 (lv_at hl 4 rfl) ?_
          refine my_iald (k := j) hx hb hE.1 hP 22 0 mol_27 rfl rfl (by omega) (by decide) dX10_worth_33 ?_
          refine lv_aload_n hx hb dX10_worth_34 rfl (lv_at hl 0 rfl) ?_
          refine va_get (D := D) (ci := 10) (v := .ref (a 4)) (C := RX10) (T := TX10) (N := 38) hx hb hts hiX10 hown hE.1 hP 0 mol_0 rfl 4 (by decide) (hts (.fieldLink RX10 16 "FindsOfficeModel" "metal" "[I") (by decide +kernel)) (fun _ h9 => h9) rfl dX10_worth_35 ?_
          refine lv_iload_n hx hb dX10_worth_38 rfl (lv_at hl 1 rfl) ?_
          refine my_iald (k := k) hx hb hE.1 hP 3 0 mol_4 rfl rfl (by omega) (by decide) dX10_worth_39 ?_
          refine lv_icmp_eq (tgt := 46) hx hb dX10_worth_40 (by decide) (fun c_5 => ?_) (fun c_5 => ?_)
          · obtain ⟨kb, hkb, ekb, lkb⟩ := yr_ix (d := T 28 j) (btw_t (hsa j (by omega)).1).1 (btw_t (hsa j (by omega)).1).2
            refine lv_lload_n hx hb dX10_worth_46 rfl (lv_at hl 2 rfl) ?_
            refine lv_aload_n hx hb dX10_worth_47 rfl (lv_at hl 0 rfl) ?_
            refine va_get (D := D) (ci := 10) (v := .ref (a 30)) (C := RX10) (T := TX10) (N := 38) hx hb hts hiX10 hown hE.1 hP 0 mol_0 rfl 30 (by decide) (hts (.fieldLink RX10 82 "FindsOfficeModel" "salePrice" "[I") (by decide +kernel)) (fun _ h9 => h9) rfl dX10_worth_48 ?_
            refine lv_iload hx hb dX10_worth_51 (lv_at hl 4 rfl) ?_
            refine my_iald (k := j) hx hb hE.1 hP 25 0 mol_30 rfl rfl (by omega) (by decide) dX10_worth_53 ?_
            refine lv_i2l (v := (T 30 j).toInt64) hx hb dX10_worth_54 rfl ?_
            refine lv_aload_n hx hb dX10_worth_55 rfl (lv_at hl 0 rfl) ?_
            refine va_get (D := D) (ci := 10) (v := .ref (a 25)) (C := RX10) (T := TX10) (N := 38) hx hb hts hiX10 hown hE.1 hP 0 mol_0 rfl 25 (by decide) (hts (.fieldLink RX10 70 "FindsOfficeModel" "index" "[I") (by decide +kernel)) (fun _ h9 => h9) rfl dX10_worth_56 ?_
            refine lv_aload_n hx hb dX10_worth_59 rfl (lv_at hl 0 rfl) ?_
            refine va_get (D := D) (ci := 10) (v := .int (T 0 0)) (C := RX10) (T := TX10) (N := 38) hx hb hts hiX10 hown hE.1 hP 0 mol_0 rfl 0 (by decide) (hts (.fieldLink RX10 113 "FindsOfficeModel" "now" "I") (by decide +kernel)) (fun _ h9 => h9) rfl dX10_worth_60 ?_
            refine ro_S (As := [.int (T 0 0)]) (rest := [.ref (a 25), .long ((T 30 j).toInt64), .long v]) ⟨hx, hb, hml, hown, hts⟩ (c_X10_yearOf l D cT (T 0 0) ) (va_cwS 1 hts gX10_worth_X10_yearOf rfl rfl rfl (by decide +kernel) ⟨Nat.le_of_ble_eq_true rfl, Nat.le_of_ble_eq_true rfl⟩) hE va_P_nil  rfl hl.1 rfl (Nat.le_of_ble_eq_true rfl) dX10_worth_63 ⟨Nat.zero_le _, Nat.zero_le _⟩ ?_
            refine lv_sipush (v := 1950) hx hb dX10_worth_66 (by decide) ?_
            refine lv_isub hx hb dX10_worth_69 ?_
            refine my_iald (k := ka) hx hb hE.1 hP 21 0 mol_25 rfl eka hka (by decide) dX10_worth_70 ?_
            refine lv_i2l (v := (T 25 ka).toInt64) hx hb dX10_worth_71 rfl ?_
            refine lv_lmul hx hb dX10_worth_72 ?_
            refine lv_aload_n hx hb dX10_worth_73 rfl (lv_at hl 0 rfl) ?_
            refine va_get (D := D) (ci := 10) (v := .ref (a 25)) (C := RX10) (T := TX10) (N := 38) hx hb hts hiX10 hown hE.1 hP 0 mol_0 rfl 25 (by decide) (hts (.fieldLink RX10 70 "FindsOfficeModel" "index" "[I") (by decide +kernel)) (fun _ h9 => h9) rfl dX10_worth_74 ?_
            refine lv_aload_n hx hb dX10_worth_77 rfl (lv_at hl 0 rfl) ?_
            refine va_get (D := D) (ci := 10) (v := .ref (a 28)) (C := RX10) (T := TX10) (N := 38) hx hb hts hiX10 hown hE.1 hP 0 mol_0 rfl 28 (by decide) (hts (.fieldLink RX10 76 "FindsOfficeModel" "saleDay" "[I") (by decide +kernel)) (fun _ h9 => h9) rfl dX10_worth_78 ?_
            refine lv_iload hx hb dX10_worth_81 (lv_at hl 4 rfl) ?_
            refine my_iald (k := j) hx hb hE.1 hP 23 0 mol_28 rfl rfl (by omega) (by decide) dX10_worth_83 ?_
            refine ro_S (As := [.int (T 28 j)]) (rest := [.ref (a 25), .long (((T 30 j).toInt64) * ((T 25 ka).toInt64)), .long v]) ⟨hx, hb, hml, hown, hts⟩ (c_X10_yearOf l D cT (T 28 j) ) (va_cwS 1 hts gX10_worth_X10_yearOf rfl rfl rfl (by decide +kernel) ⟨Nat.le_of_ble_eq_true rfl, Nat.le_of_ble_eq_true rfl⟩) hE va_P_nil  rfl hl.1 rfl (Nat.le_of_ble_eq_true rfl) dX10_worth_84 ⟨Nat.zero_le _, Nat.zero_le _⟩ ?_
            refine lv_sipush (v := 1950) hx hb dX10_worth_87 (by decide) ?_
            refine lv_isub hx hb dX10_worth_90 ?_
            refine my_iald (k := kb) hx hb hE.1 hP 21 0 mol_25 rfl ekb hkb (by decide) dX10_worth_91 ?_
            refine lv_i2l (v := (T 25 kb).toInt64) hx hb dX10_worth_92 rfl ?_
            refine lv_ldiv hx hb dX10_worth_93 (lv_ne (lv_le0 (hidx kb hkb))) ?_
            refine lv_ladd hx hb dX10_worth_94 ?_
            refine lv_lstore_n (lv' := [(2, .long (v + ((((T 30 j).toInt64) * ((T 25 ka).toInt64)) / ((T 25 kb).toInt64)))), (0, .ref (a 0)), (1, .int (nI k)), (4, .long w), (6, .int (nI j))]) hx hb dX10_worth_95 rfl hl (by decide) rfl (fun ls hl => ?_)
            refine lv_lload hx hb dX10_worth_96 (lv_at hl 3 rfl) ?_
            refine lv_aload_n hx hb dX10_worth_98 rfl (lv_at hl 1 rfl) ?_
            refine va_get (D := D) (ci := 10) (v := .ref (a 29)) (C := RX10) (T := TX10) (N := 38) hx hb hts hiX10 hown hE.1 hP 0 mol_0 rfl 29 (by decide) (hts (.fieldLink RX10 79 "FindsOfficeModel" "saleWeight" "[I") (by decide +kernel)) (fun _ h9 => h9) rfl dX10_worth_99 ?_
            refine lv_iload hx hb dX10_worth_102 (lv_at hl 4 rfl) ?_
            refine my_iald (k := j) hx hb hE.1 hP 24 0 mol_29 rfl rfl (by omega) (by decide) dX10_worth_104 ?_
            refine lv_i2l (v := (T 29 j).toInt64) hx hb dX10_worth_105 rfl ?_
            refine lv_ladd hx hb dX10_worth_106 ?_
            refine lv_lstore (lv' := [(4, .long (w + ((T 29 j).toInt64))), (2, .long (v + ((((T 30 j).toInt64) * ((T 25 ka).toInt64)) / ((T 25 kb).toInt64)))), (0, .ref (a 0)), (1, .int (nI k)), (6, .int (nI j))]) hx hb dX10_worth_107 hl (by decide) rfl (fun ls hl => ?_)
            refine lv_iinc (v := nI (j + 1)) (lv' := [(6, .int (nI (j + 1))), (4, .long (w + ((T 29 j).toInt64))), (2, .long (v + ((((T 30 j).toInt64) * ((T 25 ka).toInt64)) / ((T 25 kb).toInt64)))), (0, .ref (a 0)), (1, .int (nI k))]) hx hb dX10_worth_109 hl (k := 4) rfl (nI_1 _) (by decide) rfl (fun ls hl => ?_)
            refine lv_goto (tgt := 18) hx hb dX10_worth_112 (by decide) ?_
            exact ih_18 (j + 1) _ _ (by omega) (by rw [hv, apS, if_pos c_5, prL, lkb, if_neg (lv_le0 (hidx kb hkb)), lka]) (by rw [hw, apW, if_pos c_5]) (by omega) ls (lv_sub hl [3, 4, 2, 1, 0] rfl)
          · refine lv_goto (tgt := 109) hx hb dX10_worth_43 (by decide) ?_
            refine lv_iinc (v := nI (j + 1)) (lv' := [(6, .int (nI (j + 1))), (0, .ref (a 0)), (1, .int (nI k)), (2, .long v), (4, .long w)]) hx hb dX10_worth_109 hl (k := 4) rfl (nI_1 _) (by decide) rfl (fun ls hl => ?_)
            refine lv_goto (tgt := 18) hx hb dX10_worth_112 (by decide) ?_
            exact ih_18 (j + 1) _ _ (by omega) (by rw [hv, apS, if_neg c_5]) (by rw [hw, apW, if_neg c_5]) (by omega) ls (lv_sub hl [1, 2, 3, 4, 0] rfl)
    exact loop_18 _ 0 0 0 (by omega) rfl rfl (Nat.lt_succ_self _) ls (lv_sub hl [3, 4, 2, 1, 0] rfl)
  · refine lv_iconst (v := (-1)) hx hb dX10_worth_8 (by decide) ?_
    exact ro_iret hx hb hr hlocks (by simp [wrV, c_1]) dX10_worth_9
