set_option maxHeartbeats 4000000 in
set_option maxRecDepth 100000 in
theorem c_X4_init (l : Launch) (D : va_G) (cT : Nat → ClassId) (sz : Nat) (h0 : Nat) (d w t : Int32) : Met l yX4_init wsX4_init ({ frames := 1, cells := 0, slots := 0, locals := 20 }) (va_Pc [.ref h0, .int d, .int w, .int t] (PW D cT ([(h0, .inr (4, [.int 0, .int 0, .int 0, .int 0, .int 0]))]) sz)) (QW none ((po1 D h0 4 [.int d, .int (w / 1000000), .int (w / 1000 - w / 1000 / 1000 * 1000), .int (w - w / 1000 * 1000), .int t]) (va_A ([(h0, .inr (4, [.int 0, .int 0, .int 0, .int 0, .int 0]))]) sz)) (va_A ([(h0, .inr (4, [.int 0, .int 0, .int 0, .int 0, .int 0]))]) sz)) 0 0 (va_A ([(h0, .inr (4, [.int 0, .int 0, .int 0, .int 0, .int 0]))]) sz) := by
  refine RW_of (Bp := (po1 D h0 4 [.int d, .int (w / 1000000), .int (w / 1000 - w / 1000 / 1000 * 1000), .int (w - w / 1000 * 1000), .int t])) (by decide) rfl (Nat.le_of_ble_eq_true rfl) ?_
  intro p e s m below meth c A hx hb hr hts hown hlocks hin hml hE hD hA H locs hP hS ls hl
  have hiX4 : ∀ w ∈ wsX40, w ∈ wsX4_init := by decide +kernel
  have hl : lv_has ls 4 [(0, .ref h0), (1, .int d), (2, .int w), (3, .int t)] := hl
  refine lv_aload_n hx hb dX4_init_0 rfl (lv_at hl 0 rfl) ?_
  refine W.objInit hx hb hown (hts (.methodLink RX4 1 objectInit) (by decide +kernel)) (hts (.instanceMethod objectInit) (by decide +kernel)) (hts (.code objectInit ⟨#[0xb1]⟩ 1 none) (by decide +kernel)) rfl (by rw [hml]; exact hl.1) rfl dX4_init_1 (Nat.le_of_ble_eq_true rfl) (Nat.le_of_ble_eq_true rfl) ?_
  refine W.eq (g2 := F0 m 4 ls []) rfl ?_
  refine lv_aload_n hx hb dX4_init_4 rfl (lv_at hl 0 rfl) ?_
  refine lv_iload_n hx hb dX4_init_5 rfl (lv_at hl 1 rfl) ?_
  refine va_putF (D := D) (ci := 4) (v := .int d) (ty := .int) (C := RX4) (T := TX4) (N := 5) hx hb hts hiX4 tyX4 tyX4_ok nmX4 hown hE.1 hP hD hS 0 rfl rfl 0 (by decide) (hts (.fieldLink RX4 7 "FindsOffice$Law" "from" "I") (by decide +kernel)) (fun _ h9 => h9) rfl hin rfl (by decide +kernel) rfl rfl (Nat.le_of_ble_eq_true rfl) dX4_init_6 (fun H locs hP hD hS => ?_)
  have hP : va_P D vwCl [(h0, .inr (4, [.int d, .int 0, .int 0, .int 0, .int 0]))] H := hP
  have hD : va_D A [(h0, .inr (4, [.int d, .int 0, .int 0, .int 0, .int 0]))] := hD
  refine lv_aload_n hx hb dX4_init_9 rfl (lv_at hl 0 rfl) ?_
  refine lv_iload_n hx hb dX4_init_10 rfl (lv_at hl 2 rfl) ?_
  refine lv_ldc (own := RX4) (v := 1000000) hx hb hown (hts (.constant RX4 13 1000000) (by decide +kernel)) dX4_init_11 ?_
  refine lv_idiv hx hb dX4_init_13 (by decide) ?_
  refine va_putF (D := D) (ci := 4) (v := .int (w / 1000000)) (ty := .int) (C := RX4) (T := TX4) (N := 5) hx hb hts hiX4 tyX4 tyX4_ok nmX4 hown hE.1 hP hD hS 0 rfl rfl 1 (by decide) (hts (.fieldLink RX4 14 "FindsOffice$Law" "age" "I") (by decide +kernel)) (fun _ h9 => h9) rfl hin rfl (by decide +kernel) rfl rfl (Nat.le_of_ble_eq_true rfl) dX4_init_14 (fun H locs hP hD hS => ?_)
  have hP : va_P D vwCl [(h0, .inr (4, [.int d, .int (w / 1000000), .int 0, .int 0, .int 0]))] H := hP
  have hD : va_D A [(h0, .inr (4, [.int d, .int (w / 1000000), .int 0, .int 0, .int 0]))] := hD
  refine lv_aload_n hx hb dX4_init_17 rfl (lv_at hl 0 rfl) ?_
  refine lv_iload_n hx hb dX4_init_18 rfl (lv_at hl 2 rfl) ?_
  refine lv_sipush (v := 1000) hx hb dX4_init_19 (by decide) ?_
  refine lv_idiv hx hb dX4_init_22 (by decide) ?_
  refine lv_sipush (v := 1000) hx hb dX4_init_23 (by decide) ?_
  refine lv_irem hx hb dX4_init_26 (by decide) ?_
  refine va_putF (D := D) (ci := 4) (v := .int ((w / 1000) - (w / 1000) / 1000 * 1000)) (ty := .int) (C := RX4) (T := TX4) (N := 5) hx hb hts hiX4 tyX4 tyX4_ok nmX4 hown hE.1 hP hD hS 0 rfl rfl 2 (by decide) (hts (.fieldLink RX4 17 "FindsOffice$Law" "parts" "I") (by decide +kernel)) (fun _ h9 => h9) rfl hin rfl (by decide +kernel) rfl rfl (Nat.le_of_ble_eq_true rfl) dX4_init_27 (fun H locs hP hD hS => ?_)
  have hP : va_P D vwCl [(h0, .inr (4, [.int d, .int (w / 1000000), .int ((w / 1000) - (w / 1000) / 1000 * 1000), .int 0, .int 0]))] H := hP
  have hD : va_D A [(h0, .inr (4, [.int d, .int (w / 1000000), .int ((w / 1000) - (w / 1000) / 1000 * 1000), .int 0, .int 0]))] := hD
  refine lv_aload_n hx hb dX4_init_30 rfl (lv_at hl 0 rfl) ?_
  refine lv_iload_n hx hb dX4_init_31 rfl (lv_at hl 2 rfl) ?_
  refine lv_sipush (v := 1000) hx hb dX4_init_32 (by decide) ?_
  refine lv_irem hx hb dX4_init_35 (by decide) ?_
  refine va_putF (D := D) (ci := 4) (v := .int (w - w / 1000 * 1000)) (ty := .int) (C := RX4) (T := TX4) (N := 5) hx hb hts hiX4 tyX4 tyX4_ok nmX4 hown hE.1 hP hD hS 0 rfl rfl 3 (by decide) (hts (.fieldLink RX4 20 "FindsOffice$Law" "percent" "I") (by decide +kernel)) (fun _ h9 => h9) rfl hin rfl (by decide +kernel) rfl rfl (Nat.le_of_ble_eq_true rfl) dX4_init_36 (fun H locs hP hD hS => ?_)
  have hP : va_P D vwCl [(h0, .inr (4, [.int d, .int (w / 1000000), .int ((w / 1000) - (w / 1000) / 1000 * 1000), .int (w - w / 1000 * 1000), .int 0]))] H := hP
  have hD : va_D A [(h0, .inr (4, [.int d, .int (w / 1000000), .int ((w / 1000) - (w / 1000) / 1000 * 1000), .int (w - w / 1000 * 1000), .int 0]))] := hD
  refine lv_aload_n hx hb dX4_init_39 rfl (lv_at hl 0 rfl) ?_
  refine lv_iload_n hx hb dX4_init_40 rfl (lv_at hl 3 rfl) ?_
  refine va_putF (D := D) (ci := 4) (v := .int t) (ty := .int) (C := RX4) (T := TX4) (N := 5) hx hb hts hiX4 tyX4 tyX4_ok nmX4 hown hE.1 hP hD hS 0 rfl rfl 4 (by decide) (hts (.fieldLink RX4 23 "FindsOffice$Law" "together" "I") (by decide +kernel)) (fun _ h9 => h9) rfl hin rfl (by decide +kernel) rfl rfl (Nat.le_of_ble_eq_true rfl) dX4_init_41 (fun H locs hP hD hS => ?_)
  have hP : va_P D vwCl [(h0, .inr (4, [.int d, .int (w / 1000000), .int ((w / 1000) - (w / 1000) / 1000 * 1000), .int (w - w / 1000 * 1000), .int t]))] H := hP
  have hD : va_D A [(h0, .inr (4, [.int d, .int (w / 1000000), .int ((w / 1000) - (w / 1000) / 1000 * 1000), .int (w - w / 1000 * 1000), .int t]))] := hD
  exact rw_vret hx hb hr hlocks ⟨hP, hD⟩ hS (Nat.le_of_ble_eq_true rfl) (Nat.le_of_ble_eq_true rfl) dX4_init_44
set_option maxHeartbeats 4000000 in
set_option maxRecDepth 100000 in
theorem c_X1_init (l : Launch) (D : va_G) (cT : Nat → ClassId) (sz : Nat) (h0 : Nat) (wh wt we wo kn : Int32) : Met l yX1_init wsX1_init ({ frames := 1, cells := 0, slots := 0, locals := 20 }) (va_Pc [.ref h0, .int wh, .int wt, .int we, .int wo, .int kn] (PW D cT ([(h0, .inr (1, [.int 0, .int 0, .int 0, .int 0, .int 0, .int 0, .int 0, .int 0, .int 0, .int 0, .int 0]))]) sz)) (QW none ((po1 D h0 1 [.int (wh / 1000), .int (wh - wh / 1000 * 1000), .int (wt / 100000000), .int (wt / 10000 - wt / 10000 / 10000 * 10000), .int (if wt - wt / 10000 * 10000 = 0 then 10000 else wt - wt / 10000 * 10000), .int (we / 10000 - 3000), .int (we - we / 10000 * 10000 - 3000), .int (wo / 100), .int (wo - wo / 100 * 100), .int kn, .int (-1)]) (va_A ([(h0, .inr (1, [.int 0, .int 0, .int 0, .int 0, .int 0, .int 0, .int 0, .int 0, .int 0, .int 0, .int 0]))]) sz)) (va_A ([(h0, .inr (1, [.int 0, .int 0, .int 0, .int 0, .int 0, .int 0, .int 0, .int 0, .int 0, .int 0, .int 0]))]) sz)) 0 0 (va_A ([(h0, .inr (1, [.int 0, .int 0, .int 0, .int 0, .int 0, .int 0, .int 0, .int 0, .int 0, .int 0, .int 0]))]) sz) := by
  refine RW_of (Bp := (po1 D h0 1 [.int (wh / 1000), .int (wh - wh / 1000 * 1000), .int (wt / 100000000), .int (wt / 10000 - wt / 10000 / 10000 * 10000), .int (if wt - wt / 10000 * 10000 = 0 then 10000 else wt - wt / 10000 * 10000), .int (we / 10000 - 3000), .int (we - we / 10000 * 10000 - 3000), .int (wo / 100), .int (wo - wo / 100 * 100), .int kn, .int (-1)])) (by decide) rfl (Nat.le_of_ble_eq_true rfl) ?_
  intro p e s m below meth c A hx hb hr hts hown hlocks hin hml hE hD hA H locs hP hS ls hl
  have hiX1 : ∀ w ∈ wsX10, w ∈ wsX1_init := by decide +kernel
  have hl : lv_has ls 6 [(0, .ref h0), (1, .int wh), (2, .int wt), (3, .int we), (4, .int wo), (5, .int kn)] := hl
  refine lv_aload_n hx hb dX1_init_0 rfl (lv_at hl 0 rfl) ?_
  refine W.objInit hx hb hown (hts (.methodLink RX1 3 objectInit) (by decide +kernel)) (hts (.instanceMethod objectInit) (by decide +kernel)) (hts (.code objectInit ⟨#[0xb1]⟩ 1 none) (by decide +kernel)) rfl (by rw [hml]; exact hl.1) rfl dX1_init_1 (Nat.le_of_ble_eq_true rfl) (Nat.le_of_ble_eq_true rfl) ?_
  refine W.eq (g2 := F0 m 4 ls []) rfl ?_
  refine lv_aload_n hx hb dX1_init_4 rfl (lv_at hl 0 rfl) ?_
  refine lv_iload_n hx hb dX1_init_5 rfl (lv_at hl 1 rfl) ?_
  refine lv_sipush (v := 1000) hx hb dX1_init_6 (by decide) ?_
  refine lv_idiv hx hb dX1_init_9 (by decide) ?_
  refine va_putF (D := D) (ci := 1) (v := .int (wh / 1000)) (ty := .int) (C := RX1) (T := TX1) (N := 11) hx hb hts hiX1 tyX1 tyX1_ok nmX1 hown hE.1 hP hD hS 0 rfl rfl 0 (by decide) (hts (.fieldLink RX1 9 "FindsOffice$Find" "x" "I") (by decide +kernel)) (fun _ h9 => h9) rfl hin rfl (by decide +kernel) rfl rfl (Nat.le_of_ble_eq_true rfl) dX1_init_10 (fun H locs hP hD hS => ?_)
  have hP : va_P D vwCl [(h0, .inr (1, [.int (wh / 1000), .int 0, .int 0, .int 0, .int 0, .int 0, .int 0, .int 0, .int 0, .int 0, .int 0]))] H := hP
  have hD : va_D A [(h0, .inr (1, [.int (wh / 1000), .int 0, .int 0, .int 0, .int 0, .int 0, .int 0, .int 0, .int 0, .int 0, .int 0]))] := hD
  refine lv_aload_n hx hb dX1_init_13 rfl (lv_at hl 0 rfl) ?_
  refine lv_iload_n hx hb dX1_init_14 rfl (lv_at hl 1 rfl) ?_
  refine lv_sipush (v := 1000) hx hb dX1_init_15 (by decide) ?_
  refine lv_irem hx hb dX1_init_18 (by decide) ?_
  refine va_putF (D := D) (ci := 1) (v := .int (wh - wh / 1000 * 1000)) (ty := .int) (C := RX1) (T := TX1) (N := 11) hx hb hts hiX1 tyX1 tyX1_ok nmX1 hown hE.1 hP hD hS 0 rfl rfl 1 (by decide) (hts (.fieldLink RX1 15 "FindsOffice$Find" "y" "I") (by decide +kernel)) (fun _ h9 => h9) rfl hin rfl (by decide +kernel) rfl rfl (Nat.le_of_ble_eq_true rfl) dX1_init_19 (fun H locs hP hD hS => ?_)
  have hP : va_P D vwCl [(h0, .inr (1, [.int (wh / 1000), .int (wh - wh / 1000 * 1000), .int 0, .int 0, .int 0, .int 0, .int 0, .int 0, .int 0, .int 0, .int 0]))] H := hP
  have hD : va_D A [(h0, .inr (1, [.int (wh / 1000), .int (wh - wh / 1000 * 1000), .int 0, .int 0, .int 0, .int 0, .int 0, .int 0, .int 0, .int 0, .int 0]))] := hD
  refine lv_aload_n hx hb dX1_init_22 rfl (lv_at hl 0 rfl) ?_
  refine lv_iload_n hx hb dX1_init_23 rfl (lv_at hl 2 rfl) ?_
  refine lv_ldc (own := RX1) (v := 100000000) hx hb hown (hts (.constant RX1 18 100000000) (by decide +kernel)) dX1_init_24 ?_
  refine lv_idiv hx hb dX1_init_26 (by decide) ?_
  refine va_putF (D := D) (ci := 1) (v := .int (wt / 100000000)) (ty := .int) (C := RX1) (T := TX1) (N := 11) hx hb hts hiX1 tyX1 tyX1_ok nmX1 hown hE.1 hP hD hS 0 rfl rfl 2 (by decide) (hts (.fieldLink RX1 19 "FindsOffice$Find" "metal" "I") (by decide +kernel)) (fun _ h9 => h9) rfl hin rfl (by decide +kernel) rfl rfl (Nat.le_of_ble_eq_true rfl) dX1_init_27 (fun H locs hP hD hS => ?_)
  have hP : va_P D vwCl [(h0, .inr (1, [.int (wh / 1000), .int (wh - wh / 1000 * 1000), .int (wt / 100000000), .int 0, .int 0, .int 0, .int 0, .int 0, .int 0, .int 0, .int 0]))] H := hP
  have hD : va_D A [(h0, .inr (1, [.int (wh / 1000), .int (wh - wh / 1000 * 1000), .int (wt / 100000000), .int 0, .int 0, .int 0, .int 0, .int 0, .int 0, .int 0, .int 0]))] := hD
  refine lv_aload_n hx hb dX1_init_30 rfl (lv_at hl 0 rfl) ?_
  refine lv_iload_n hx hb dX1_init_31 rfl (lv_at hl 2 rfl) ?_
  refine lv_sipush (v := 10000) hx hb dX1_init_32 (by decide) ?_
  refine lv_idiv hx hb dX1_init_35 (by decide) ?_
  refine lv_sipush (v := 10000) hx hb dX1_init_36 (by decide) ?_
  refine lv_irem hx hb dX1_init_39 (by decide) ?_
  refine va_putF (D := D) (ci := 1) (v := .int ((wt / 10000) - (wt / 10000) / 10000 * 10000)) (ty := .int) (C := RX1) (T := TX1) (N := 11) hx hb hts hiX1 tyX1 tyX1_ok nmX1 hown hE.1 hP hD hS 0 rfl rfl 3 (by decide) (hts (.fieldLink RX1 22 "FindsOffice$Find" "purity" "I") (by decide +kernel)) (fun _ h9 => h9) rfl hin rfl (by decide +kernel) rfl rfl (Nat.le_of_ble_eq_true rfl) dX1_init_40 (fun H locs hP hD hS => ?_)
  have hP : va_P D vwCl [(h0, .inr (1, [.int (wh / 1000), .int (wh - wh / 1000 * 1000), .int (wt / 100000000), .int ((wt / 10000) - (wt / 10000) / 10000 * 10000), .int 0, .int 0, .int 0, .int 0, .int 0, .int 0, .int 0]))] H := hP
  have hD : va_D A [(h0, .inr (1, [.int (wh / 1000), .int (wh - wh / 1000 * 1000), .int (wt / 100000000), .int ((wt / 10000) - (wt / 10000) / 10000 * 10000), .int 0, .int 0, .int 0, .int 0, .int 0, .int 0, .int 0]))] := hD
  refine lv_aload_n hx hb dX1_init_43 rfl (lv_at hl 0 rfl) ?_
  have J_63 : ∀ (jv : Int32), jv = (if wt - wt / 10000 * 10000 = 0 then 10000 else wt - wt / 10000 * 10000) → ∀ (ls : Array Slot), lv_has ls 6 [(0, .ref h0), (1, .int wh), (2, .int wt), (3, .int we), (4, .int wo), (5, .int kn)] → W p l e ({ frames := 1, cells := 0, slots := 0, locals := 20 }) s m (List.toArray [.ref h0, .int wh, .int wt, .int we, .int wo, .int kn]) below meth c H locs 0 0 (MQ below (QW none ((po1 D h0 1 [.int (wh / 1000), .int (wh - wh / 1000 * 1000), .int (wt / 100000000), .int (wt / 10000 - wt / 10000 / 10000 * 10000), .int (if wt - wt / 10000 * 10000 = 0 then 10000 else wt - wt / 10000 * 10000), .int (we / 10000 - 3000), .int (we - we / 10000 * 10000 - 3000), .int (wo / 100), .int (wo - wo / 100 * 100), .int kn, .int (-1)]) A) A) (List.toArray [.ref h0, .int wh, .int wt, .int we, .int wo, .int kn]) s 0 0 A) (F0 m 63 ls [.int jv, .ref h0]) := by
    intro jv hjv ls hl
    subst hjv
    refine va_putF (D := D) (ci := 1) (v := .int (if wt - wt / 10000 * 10000 = 0 then 10000 else wt - wt / 10000 * 10000)) (ty := .int) (C := RX1) (T := TX1) (N := 11) hx hb hts hiX1 tyX1 tyX1_ok nmX1 hown hE.1 hP hD hS 0 rfl rfl 4 (by decide) (hts (.fieldLink RX1 25 "FindsOffice$Find" "weight" "I") (by decide +kernel)) (fun _ h9 => h9) rfl hin rfl (by decide +kernel) rfl rfl (Nat.le_of_ble_eq_true rfl) dX1_init_63 (fun H locs hP hD hS => ?_)
    have hP : va_P D vwCl [(h0, .inr (1, [.int (wh / 1000), .int (wh - wh / 1000 * 1000), .int (wt / 100000000), .int ((wt / 10000) - (wt / 10000) / 10000 * 10000), .int (if wt - wt / 10000 * 10000 = 0 then 10000 else wt - wt / 10000 * 10000), .int 0, .int 0, .int 0, .int 0, .int 0, .int 0]))] H := hP
    have hD : va_D A [(h0, .inr (1, [.int (wh / 1000), .int (wh - wh / 1000 * 1000), .int (wt / 100000000), .int ((wt / 10000) - (wt / 10000) / 10000 * 10000), .int (if wt - wt / 10000 * 10000 = 0 then 10000 else wt - wt / 10000 * 10000), .int 0, .int 0, .int 0, .int 0, .int 0, .int 0]))] := hD
    refine lv_aload_n hx hb dX1_init_66 rfl (lv_at hl 0 rfl) ?_
    refine lv_iload_n hx hb dX1_init_67 rfl (lv_at hl 3 rfl) ?_
    refine lv_sipush (v := 10000) hx hb dX1_init_68 (by decide) ?_
    refine lv_idiv hx hb dX1_init_71 (by decide) ?_
    refine lv_sipush (v := 3000) hx hb dX1_init_72 (by decide) ?_
    refine lv_isub hx hb dX1_init_75 ?_
    refine va_putF (D := D) (ci := 1) (v := .int ((we / 10000) - 3000)) (ty := .int) (C := RX1) (T := TX1) (N := 11) hx hb hts hiX1 tyX1 tyX1_ok nmX1 hown hE.1 hP hD hS 0 rfl rfl 5 (by decide) (hts (.fieldLink RX1 28 "FindsOffice$Find" "firstYear" "I") (by decide +kernel)) (fun _ h9 => h9) rfl hin rfl (by decide +kernel) rfl rfl (Nat.le_of_ble_eq_true rfl) dX1_init_76 (fun H locs hP hD hS => ?_)
    have hP : va_P D vwCl [(h0, .inr (1, [.int (wh / 1000), .int (wh - wh / 1000 * 1000), .int (wt / 100000000), .int ((wt / 10000) - (wt / 10000) / 10000 * 10000), .int (if wt - wt / 10000 * 10000 = 0 then 10000 else wt - wt / 10000 * 10000), .int ((we / 10000) - 3000), .int 0, .int 0, .int 0, .int 0, .int 0]))] H := hP
    have hD : va_D A [(h0, .inr (1, [.int (wh / 1000), .int (wh - wh / 1000 * 1000), .int (wt / 100000000), .int ((wt / 10000) - (wt / 10000) / 10000 * 10000), .int (if wt - wt / 10000 * 10000 = 0 then 10000 else wt - wt / 10000 * 10000), .int ((we / 10000) - 3000), .int 0, .int 0, .int 0, .int 0, .int 0]))] := hD
    refine lv_aload_n hx hb dX1_init_79 rfl (lv_at hl 0 rfl) ?_
    refine lv_iload_n hx hb dX1_init_80 rfl (lv_at hl 3 rfl) ?_
    refine lv_sipush (v := 10000) hx hb dX1_init_81 (by decide) ?_
    refine lv_irem hx hb dX1_init_84 (by decide) ?_
    refine lv_sipush (v := 3000) hx hb dX1_init_85 (by decide) ?_
    refine lv_isub hx hb dX1_init_88 ?_
    refine va_putF (D := D) (ci := 1) (v := .int ((we - we / 10000 * 10000) - 3000)) (ty := .int) (C := RX1) (T := TX1) (N := 11) hx hb hts hiX1 tyX1 tyX1_ok nmX1 hown hE.1 hP hD hS 0 rfl rfl 6 (by decide) (hts (.fieldLink RX1 31 "FindsOffice$Find" "lastYear" "I") (by decide +kernel)) (fun _ h9 => h9) rfl hin rfl (by decide +kernel) rfl rfl (Nat.le_of_ble_eq_true rfl) dX1_init_89 (fun H locs hP hD hS => ?_)
    have hP : va_P D vwCl [(h0, .inr (1, [.int (wh / 1000), .int (wh - wh / 1000 * 1000), .int (wt / 100000000), .int ((wt / 10000) - (wt / 10000) / 10000 * 10000), .int (if wt - wt / 10000 * 10000 = 0 then 10000 else wt - wt / 10000 * 10000), .int ((we / 10000) - 3000), .int ((we - we / 10000 * 10000) - 3000), .int 0, .int 0, .int 0, .int 0]))] H := hP
    have hD : va_D A [(h0, .inr (1, [.int (wh / 1000), .int (wh - wh / 1000 * 1000), .int (wt / 100000000), .int ((wt / 10000) - (wt / 10000) / 10000 * 10000), .int (if wt - wt / 10000 * 10000 = 0 then 10000 else wt - wt / 10000 * 10000), .int ((we / 10000) - 3000), .int ((we - we / 10000 * 10000) - 3000), .int 0, .int 0, .int 0, .int 0]))] := hD
    refine lv_aload_n hx hb dX1_init_92 rfl (lv_at hl 0 rfl) ?_
    refine lv_iload hx hb dX1_init_93 (lv_at hl 4 rfl) ?_
    refine lv_bipush (v := 100) hx hb dX1_init_95 (by decide) ?_
    refine lv_idiv hx hb dX1_init_97 (by decide) ?_
    refine va_putF (D := D) (ci := 1) (v := .int (wo / 100)) (ty := .int) (C := RX1) (T := TX1) (N := 11) hx hb hts hiX1 tyX1 tyX1_ok nmX1 hown hE.1 hP hD hS 0 rfl rfl 7 (by decide) (hts (.fieldLink RX1 34 "FindsOffice$Find" "found" "I") (by decide +kernel)) (fun _ h9 => h9) rfl hin rfl (by decide +kernel) rfl rfl (Nat.le_of_ble_eq_true rfl) dX1_init_98 (fun H locs hP hD hS => ?_)
    have hP : va_P D vwCl [(h0, .inr (1, [.int (wh / 1000), .int (wh - wh / 1000 * 1000), .int (wt / 100000000), .int ((wt / 10000) - (wt / 10000) / 10000 * 10000), .int (if wt - wt / 10000 * 10000 = 0 then 10000 else wt - wt / 10000 * 10000), .int ((we / 10000) - 3000), .int ((we - we / 10000 * 10000) - 3000), .int (wo / 100), .int 0, .int 0, .int 0]))] H := hP
    have hD : va_D A [(h0, .inr (1, [.int (wh / 1000), .int (wh - wh / 1000 * 1000), .int (wt / 100000000), .int ((wt / 10000) - (wt / 10000) / 10000 * 10000), .int (if wt - wt / 10000 * 10000 = 0 then 10000 else wt - wt / 10000 * 10000), .int ((we / 10000) - 3000), .int ((we - we / 10000 * 10000) - 3000), .int (wo / 100), .int 0, .int 0, .int 0]))] := hD
    refine lv_aload_n hx hb dX1_init_101 rfl (lv_at hl 0 rfl) ?_
    refine lv_iload hx hb dX1_init_102 (lv_at hl 4 rfl) ?_
    refine lv_bipush (v := 100) hx hb dX1_init_104 (by decide) ?_
    refine lv_irem hx hb dX1_init_106 (by decide) ?_
    refine va_putF (D := D) (ci := 1) (v := .int (wo - wo / 100 * 100)) (ty := .int) (C := RX1) (T := TX1) (N := 11) hx hb hts hiX1 tyX1 tyX1_ok nmX1 hown hE.1 hP hD hS 0 rfl rfl 8 (by decide) (hts (.fieldLink RX1 37 "FindsOffice$Find" "finder" "I") (by decide +kernel)) (fun _ h9 => h9) rfl hin rfl (by decide +kernel) rfl rfl (Nat.le_of_ble_eq_true rfl) dX1_init_107 (fun H locs hP hD hS => ?_)
    have hP : va_P D vwCl [(h0, .inr (1, [.int (wh / 1000), .int (wh - wh / 1000 * 1000), .int (wt / 100000000), .int ((wt / 10000) - (wt / 10000) / 10000 * 10000), .int (if wt - wt / 10000 * 10000 = 0 then 10000 else wt - wt / 10000 * 10000), .int ((we / 10000) - 3000), .int ((we - we / 10000 * 10000) - 3000), .int (wo / 100), .int (wo - wo / 100 * 100), .int 0, .int 0]))] H := hP
    have hD : va_D A [(h0, .inr (1, [.int (wh / 1000), .int (wh - wh / 1000 * 1000), .int (wt / 100000000), .int ((wt / 10000) - (wt / 10000) / 10000 * 10000), .int (if wt - wt / 10000 * 10000 = 0 then 10000 else wt - wt / 10000 * 10000), .int ((we / 10000) - 3000), .int ((we - we / 10000 * 10000) - 3000), .int (wo / 100), .int (wo - wo / 100 * 100), .int 0, .int 0]))] := hD
    refine lv_aload_n hx hb dX1_init_110 rfl (lv_at hl 0 rfl) ?_
    refine lv_iload hx hb dX1_init_111 (lv_at hl 5 rfl) ?_
    refine va_putF (D := D) (ci := 1) (v := .int kn) (ty := .int) (C := RX1) (T := TX1) (N := 11) hx hb hts hiX1 tyX1 tyX1_ok nmX1 hown hE.1 hP hD hS 0 rfl rfl 9 (by decide) (hts (.fieldLink RX1 40 "FindsOffice$Find" "known" "I") (by decide +kernel)) (fun _ h9 => h9) rfl hin rfl (by decide +kernel) rfl rfl (Nat.le_of_ble_eq_true rfl) dX1_init_113 (fun H locs hP hD hS => ?_)
    have hP : va_P D vwCl [(h0, .inr (1, [.int (wh / 1000), .int (wh - wh / 1000 * 1000), .int (wt / 100000000), .int ((wt / 10000) - (wt / 10000) / 10000 * 10000), .int (if wt - wt / 10000 * 10000 = 0 then 10000 else wt - wt / 10000 * 10000), .int ((we / 10000) - 3000), .int ((we - we / 10000 * 10000) - 3000), .int (wo / 100), .int (wo - wo / 100 * 100), .int kn, .int 0]))] H := hP
    have hD : va_D A [(h0, .inr (1, [.int (wh / 1000), .int (wh - wh / 1000 * 1000), .int (wt / 100000000), .int ((wt / 10000) - (wt / 10000) / 10000 * 10000), .int (if wt - wt / 10000 * 10000 = 0 then 10000 else wt - wt / 10000 * 10000), .int ((we / 10000) - 3000), .int ((we - we / 10000 * 10000) - 3000), .int (wo / 100), .int (wo - wo / 100 * 100), .int kn, .int 0]))] := hD
    refine lv_aload_n hx hb dX1_init_116 rfl (lv_at hl 0 rfl) ?_
    refine lv_iconst (v := (-1)) hx hb dX1_init_117 (by decide) ?_
    refine va_put (D := D) (ci := 1) (v := .int (-1)) (ty := .int) (C := RX1) (T := TX1) (N := 11) hx hb hts hiX1 tyX1 tyX1_ok nmX1 hown hE.1 hP hD hS 0 rfl rfl 10 (by decide) (hts (.fieldLink RX1 43 "FindsOffice$Find" "keeper" "I") (by decide +kernel)) (fun _ h9 => h9) rfl (by decide +kernel) rfl rfl (Nat.le_of_ble_eq_true rfl) dX1_init_118 (fun H locs hP hD hS => ?_)
    have hP : va_P D vwCl [(h0, .inr (1, [.int (wh / 1000), .int (wh - wh / 1000 * 1000), .int (wt / 100000000), .int ((wt / 10000) - (wt / 10000) / 10000 * 10000), .int (if wt - wt / 10000 * 10000 = 0 then 10000 else wt - wt / 10000 * 10000), .int ((we / 10000) - 3000), .int ((we - we / 10000 * 10000) - 3000), .int (wo / 100), .int (wo - wo / 100 * 100), .int kn, .int (-1)]))] H := hP
    have hD : va_D A [(h0, .inr (1, [.int (wh / 1000), .int (wh - wh / 1000 * 1000), .int (wt / 100000000), .int ((wt / 10000) - (wt / 10000) / 10000 * 10000), .int (if wt - wt / 10000 * 10000 = 0 then 10000 else wt - wt / 10000 * 10000), .int ((we / 10000) - 3000), .int ((we - we / 10000 * 10000) - 3000), .int (wo / 100), .int (wo - wo / 100 * 100), .int kn, .int (-1)]))] := hD
    exact rw_vret hx hb hr hlocks ⟨hP, hD⟩ hS (Nat.le_of_ble_eq_true rfl) (Nat.le_of_ble_eq_true rfl) dX1_init_121
  refine lv_iload_n hx hb dX1_init_44 rfl (lv_at hl 2 rfl) ?_
  refine lv_sipush (v := 10000) hx hb dX1_init_45 (by decide) ?_
  refine lv_irem hx hb dX1_init_48 (by decide) ?_
  refine lv_if_ne (tgt := 58) hx hb dX1_init_49 (by decide) (fun c_1 => ?_) (fun c_1 => ?_)
  · refine lv_iload_n hx hb dX1_init_58 rfl (lv_at hl 2 rfl) ?_
    refine lv_sipush (v := 10000) hx hb dX1_init_59 (by decide) ?_
    refine lv_irem hx hb dX1_init_62 (by decide) ?_
    exact J_63 _ (by rw [if_neg c_1]) ls (lv_sub hl [0, 1, 2, 3, 4, 5] rfl)
  · refine lv_sipush (v := 10000) hx hb dX1_init_52 (by decide) ?_
    refine lv_goto (tgt := 63) hx hb dX1_init_55 (by decide) ?_
    exact J_63 _ (by rw [if_pos c_1]) ls (lv_sub hl [0, 1, 2, 3, 4, 5] rfl)
set_option maxHeartbeats 4000000 in
set_option maxRecDepth 100000 in
theorem c_X8_init (l : Launch) (D : va_G) (cT : Nat → ClassId) (sz : Nat) (h0 : Nat) (me d we pr : Int32) : Met l yX8_init wsX8_init ({ frames := 1, cells := 0, slots := 0, locals := 20 }) (va_Pc [.ref h0, .int me, .int d, .int we, .int pr] (PW D cT ([(h0, .inr (8, [.int 0, .int 0, .int 0, .int 0]))]) sz)) (QW none ((po1 D h0 8 [.int me, .int d, .int we, .int pr]) (va_A ([(h0, .inr (8, [.int 0, .int 0, .int 0, .int 0]))]) sz)) (va_A ([(h0, .inr (8, [.int 0, .int 0, .int 0, .int 0]))]) sz)) 0 0 (va_A ([(h0, .inr (8, [.int 0, .int 0, .int 0, .int 0]))]) sz) := by
  refine RW_of (Bp := (po1 D h0 8 [.int me, .int d, .int we, .int pr])) (by decide) rfl (Nat.le_of_ble_eq_true rfl) ?_
  intro p e s m below meth c A hx hb hr hts hown hlocks hin hml hE hD hA H locs hP hS ls hl
  have hiX8 : ∀ w ∈ wsX80, w ∈ wsX8_init := by decide +kernel
  have hl : lv_has ls 5 [(0, .ref h0), (1, .int me), (2, .int d), (3, .int we), (4, .int pr)] := hl
  refine lv_aload_n hx hb dX8_init_0 rfl (lv_at hl 0 rfl) ?_
  refine W.objInit hx hb hown (hts (.methodLink RX8 3 objectInit) (by decide +kernel)) (hts (.instanceMethod objectInit) (by decide +kernel)) (hts (.code objectInit ⟨#[0xb1]⟩ 1 none) (by decide +kernel)) rfl (by rw [hml]; exact hl.1) rfl dX8_init_1 (Nat.le_of_ble_eq_true rfl) (Nat.le_of_ble_eq_true rfl) ?_
  refine W.eq (g2 := F0 m 4 ls []) rfl ?_
  refine lv_aload_n hx hb dX8_init_4 rfl (lv_at hl 0 rfl) ?_
  refine lv_iload_n hx hb dX8_init_5 rfl (lv_at hl 1 rfl) ?_
  refine va_putF (D := D) (ci := 8) (v := .int me) (ty := .int) (C := RX8) (T := TX8) (N := 4) hx hb hts hiX8 tyX8 tyX8_ok nmX8 hown hE.1 hP hD hS 0 rfl rfl 0 (by decide) (hts (.fieldLink RX8 9 "FindsOffice$Sale" "metal" "I") (by decide +kernel)) (fun _ h9 => h9) rfl hin rfl (by decide +kernel) rfl rfl (Nat.le_of_ble_eq_true rfl) dX8_init_6 (fun H locs hP hD hS => ?_)
  have hP : va_P D vwCl [(h0, .inr (8, [.int me, .int 0, .int 0, .int 0]))] H := hP
  have hD : va_D A [(h0, .inr (8, [.int me, .int 0, .int 0, .int 0]))] := hD
  refine lv_aload_n hx hb dX8_init_9 rfl (lv_at hl 0 rfl) ?_
  refine lv_iload_n hx hb dX8_init_10 rfl (lv_at hl 2 rfl) ?_
  refine va_putF (D := D) (ci := 8) (v := .int d) (ty := .int) (C := RX8) (T := TX8) (N := 4) hx hb hts hiX8 tyX8 tyX8_ok nmX8 hown hE.1 hP hD hS 0 rfl rfl 1 (by decide) (hts (.fieldLink RX8 15 "FindsOffice$Sale" "day" "I") (by decide +kernel)) (fun _ h9 => h9) rfl hin rfl (by decide +kernel) rfl rfl (Nat.le_of_ble_eq_true rfl) dX8_init_11 (fun H locs hP hD hS => ?_)
  have hP : va_P D vwCl [(h0, .inr (8, [.int me, .int d, .int 0, .int 0]))] H := hP
  have hD : va_D A [(h0, .inr (8, [.int me, .int d, .int 0, .int 0]))] := hD
  refine lv_aload_n hx hb dX8_init_14 rfl (lv_at hl 0 rfl) ?_
  refine lv_iload_n hx hb dX8_init_15 rfl (lv_at hl 3 rfl) ?_
  refine va_putF (D := D) (ci := 8) (v := .int we) (ty := .int) (C := RX8) (T := TX8) (N := 4) hx hb hts hiX8 tyX8 tyX8_ok nmX8 hown hE.1 hP hD hS 0 rfl rfl 2 (by decide) (hts (.fieldLink RX8 18 "FindsOffice$Sale" "weight" "I") (by decide +kernel)) (fun _ h9 => h9) rfl hin rfl (by decide +kernel) rfl rfl (Nat.le_of_ble_eq_true rfl) dX8_init_16 (fun H locs hP hD hS => ?_)
  have hP : va_P D vwCl [(h0, .inr (8, [.int me, .int d, .int we, .int 0]))] H := hP
  have hD : va_D A [(h0, .inr (8, [.int me, .int d, .int we, .int 0]))] := hD
  refine lv_aload_n hx hb dX8_init_19 rfl (lv_at hl 0 rfl) ?_
  refine lv_iload hx hb dX8_init_20 (lv_at hl 4 rfl) ?_
  refine va_putF (D := D) (ci := 8) (v := .int pr) (ty := .int) (C := RX8) (T := TX8) (N := 4) hx hb hts hiX8 tyX8 tyX8_ok nmX8 hown hE.1 hP hD hS 0 rfl rfl 3 (by decide) (hts (.fieldLink RX8 21 "FindsOffice$Sale" "price" "I") (by decide +kernel)) (fun _ h9 => h9) rfl hin rfl (by decide +kernel) rfl rfl (Nat.le_of_ble_eq_true rfl) dX8_init_22 (fun H locs hP hD hS => ?_)
  have hP : va_P D vwCl [(h0, .inr (8, [.int me, .int d, .int we, .int pr]))] H := hP
  have hD : va_D A [(h0, .inr (8, [.int me, .int d, .int we, .int pr]))] := hD
  exact rw_vret hx hb hr hlocks ⟨hP, hD⟩ hS (Nat.le_of_ble_eq_true rfl) (Nat.le_of_ble_eq_true rfl) dX8_init_25
set_option maxHeartbeats 4000000 in
set_option maxRecDepth 100000 in
theorem c_X7_init (l : Launch) (D : va_G) (cT : Nat → ClassId) (sz : Nat) (h0 : Nat) (me wo : Int32) : Met l yX7_init wsX7_init ({ frames := 1, cells := 0, slots := 0, locals := 20 }) (va_Pc [.ref h0, .int me, .int wo] (PW D cT ([(h0, .inr (7, [.int 0, .int 0, .int 0]))]) sz)) (QW none ((po1 D h0 7 [.int me, .int wo, .int 0]) (va_A ([(h0, .inr (7, [.int 0, .int 0, .int 0]))]) sz)) (va_A ([(h0, .inr (7, [.int 0, .int 0, .int 0]))]) sz)) 0 0 (va_A ([(h0, .inr (7, [.int 0, .int 0, .int 0]))]) sz) := by
  refine RW_of (Bp := (po1 D h0 7 [.int me, .int wo, .int 0])) (by decide) rfl (Nat.le_of_ble_eq_true rfl) ?_
  intro p e s m below meth c A hx hb hr hts hown hlocks hin hml hE hD hA H locs hP hS ls hl
  have hiX7 : ∀ w ∈ wsX70, w ∈ wsX7_init := by decide +kernel
  have hl : lv_has ls 3 [(0, .ref h0), (1, .int me), (2, .int wo)] := hl
  refine lv_aload_n hx hb dX7_init_0 rfl (lv_at hl 0 rfl) ?_
  refine W.objInit hx hb hown (hts (.methodLink RX7 3 objectInit) (by decide +kernel)) (hts (.instanceMethod objectInit) (by decide +kernel)) (hts (.code objectInit ⟨#[0xb1]⟩ 1 none) (by decide +kernel)) rfl (by rw [hml]; exact hl.1) rfl dX7_init_1 (Nat.le_of_ble_eq_true rfl) (Nat.le_of_ble_eq_true rfl) ?_
  refine W.eq (g2 := F0 m 4 ls []) rfl ?_
  refine lv_aload_n hx hb dX7_init_4 rfl (lv_at hl 0 rfl) ?_
  refine lv_iload_n hx hb dX7_init_5 rfl (lv_at hl 1 rfl) ?_
  refine va_putF (D := D) (ci := 7) (v := .int me) (ty := .int) (C := RX7) (T := TX7) (N := 3) hx hb hts hiX7 tyX7 tyX7_ok nmX7 hown hE.1 hP hD hS 0 rfl rfl 0 (by decide) (hts (.fieldLink RX7 9 "FindsOffice$Museum" "metals" "I") (by decide +kernel)) (fun _ h9 => h9) rfl hin rfl (by decide +kernel) rfl rfl (Nat.le_of_ble_eq_true rfl) dX7_init_6 (fun H locs hP hD hS => ?_)
  have hP : va_P D vwCl [(h0, .inr (7, [.int me, .int 0, .int 0]))] H := hP
  have hD : va_D A [(h0, .inr (7, [.int me, .int 0, .int 0]))] := hD
  refine lv_aload_n hx hb dX7_init_9 rfl (lv_at hl 0 rfl) ?_
  refine lv_iload_n hx hb dX7_init_10 rfl (lv_at hl 2 rfl) ?_
  refine va_putF (D := D) (ci := 7) (v := .int wo) (ty := .int) (C := RX7) (T := TX7) (N := 3) hx hb hts hiX7 tyX7 tyX7_ok nmX7 hown hE.1 hP hD hS 0 rfl rfl 1 (by decide) (hts (.fieldLink RX7 15 "FindsOffice$Museum" "mostWorth" "I") (by decide +kernel)) (fun _ h9 => h9) rfl hin rfl (by decide +kernel) rfl rfl (Nat.le_of_ble_eq_true rfl) dX7_init_11 (fun H locs hP hD hS => ?_)
  have hP : va_P D vwCl [(h0, .inr (7, [.int me, .int wo, .int 0]))] H := hP
  have hD : va_D A [(h0, .inr (7, [.int me, .int wo, .int 0]))] := hD
  refine lv_aload_n hx hb dX7_init_14 rfl (lv_at hl 0 rfl) ?_
  refine lv_iconst (v := 0) hx hb dX7_init_15 (by decide) ?_
  refine va_put (D := D) (ci := 7) (v := .int 0) (ty := .int) (C := RX7) (T := TX7) (N := 3) hx hb hts hiX7 tyX7 tyX7_ok nmX7 hown hE.1 hP hD hS 0 rfl rfl 2 (by decide) (hts (.fieldLink RX7 18 "FindsOffice$Museum" "outlay" "I") (by decide +kernel)) (fun _ h9 => h9) rfl (by decide +kernel) rfl rfl (Nat.le_of_ble_eq_true rfl) dX7_init_16 (fun H locs hP hD hS => ?_)
  have hP : va_P D vwCl [(h0, .inr (7, [.int me, .int wo, .int 0]))] H := hP
  have hD : va_D A [(h0, .inr (7, [.int me, .int wo, .int 0]))] := hD
  exact rw_vret hx hb hr hlocks ⟨hP, hD⟩ hS (Nat.le_of_ble_eq_true rfl) (Nat.le_of_ble_eq_true rfl) dX7_init_19
set_option maxHeartbeats 4000000 in
set_option maxRecDepth 100000 in
theorem c_X5_enact (l : Launch) (D : va_G) (cT : Nat → ClassId) (sz : Nat) (a : Nat → Nat) (b : Nat → Nat → Nat) (T P : Nat → Nat → Int32) (n : Nat → Nat) (q : Nat) (u0 u1 u2 u3 u4 : Int32) (hn : Cnt n) (hpr : PR T (P 0)) : Met l yX5_enact wsX5_enact ({ frames := 3, cells := 0, slots := 0, locals := 62 }) (va_Pc [.ref (a 1), .ref q] (PW D cT ((q, .inr (4, [.int u0, .int u1, .int u2, .int u3, .int u4])) :: offW cT a b T P n) sz)) (QW (some (.int (if ((btw u0 0 20000 && (btw u1 0 2000 && (btw u2 0 999 && (btw u3 0 100 && btw u4 1 50)))) && !decide (nI (n 0) = 20)) = true then nI (n 0 + 1) else -1))) ((poQ D cT a (if ((btw u0 0 20000 && (btw u1 0 2000 && (btw u2 0 999 && (btw u3 0 100 && btw u4 1 50)))) && !decide (nI (n 0) = 20)) = true then lawT T n u0 u1 u2 u3 u4 else T) (if ((btw u0 0 20000 && (btw u1 0 2000 && (btw u2 0 999 && (btw u3 0 100 && btw u4 1 50)))) && !decide (nI (n 0) = 20)) = true then va_up n 0 (n 0 + 1) else n)) (va_A ((q, .inr (4, [.int u0, .int u1, .int u2, .int u3, .int u4])) :: offW cT a b T P n) sz)) (va_A ((q, .inr (4, [.int u0, .int u1, .int u2, .int u3, .int u4])) :: offW cT a b T P n) sz)) 0 0 (va_A ((q, .inr (4, [.int u0, .int u1, .int u2, .int u3, .int u4])) :: offW cT a b T P n) sz) := by
  refine RW_of (Bp := (poQ D cT a (if ((btw u0 0 20000 && (btw u1 0 2000 && (btw u2 0 999 && (btw u3 0 100 && btw u4 1 50)))) && !decide (nI (n 0) = 20)) = true then lawT T n u0 u1 u2 u3 u4 else T) (if ((btw u0 0 20000 && (btw u1 0 2000 && (btw u2 0 999 && (btw u3 0 100 && btw u4 1 50)))) && !decide (nI (n 0) = 20)) = true then va_up n 0 (n 0 + 1) else n))) (by decide) rfl (Nat.le_of_ble_eq_true rfl) ?_
  intro p e s m below meth c A hx hb hr hts hown hlocks hin hml hE hD hA H locs hP hS ls hl
  have hiX5 : ∀ w ∈ wsX50, w ∈ wsX5_enact := by decide +kernel
  have hl : lv_has ls 2 [(0, .ref (a 1)), (1, .ref q)] := hl
  obtain ⟨hn0, hn1, hn2, hn3, hn4⟩ := id hn
  have hq0 := hP.at1 (k := 0) rfl
  refine lv_aload_n hx hb dX5_enact_0 rfl (lv_at hl 0 rfl) ?_
  refine va_get (D := D) (ci := 5) (v := .int (nI (n 0))) (C := RX5) (T := TX5) (N := 2) hx hb hts hiX5 hown hE.1 hP 2 (ofl_1 (cT := cT) (a := a) (b := b) (T := T) (P := P) (n := n)) rfl 1 (by decide) (hts (.fieldLink RX5 17 "FindsOffice$LawBook" "told" "I") (by decide +kernel)) (fun _ h9 => h9) rfl dX5_enact_1 ?_
  refine lv_bipush (v := 20) hx hb dX5_enact_4 (by decide) ?_
  refine lv_icmp_ge (tgt := 16) hx hb dX5_enact_6 (by decide) (fun c_1 => ?_) (fun c_1 => ?_)
  · have k_1 := nat_le (a := 20) (b := (n 0)) c_1 (by omega) (by omega)
    have hful : nI (n 0) = 20 := by rw [show n 0 = 20 by omega]; rfl
    refine lv_iconst (v := (-1)) hx hb dX5_enact_16 (by decide) ?_
    exact rw_iret hx hb hr hlocks (by rw [if_neg (show ¬ ((btw u0 0 20000 && (btw u1 0 2000 && (btw u2 0 999 && (btw u3 0 100 && btw u4 1 50)))) && !decide (nI (n 0) = 20)) = true by simp [hful])]) ⟨_, _, T, n, ⟨(by rw [if_neg (show ¬ ((btw u0 0 20000 && (btw u1 0 2000 && (btw u2 0 999 && (btw u3 0 100 && btw u4 1 50)))) && !decide (nI (n 0) = 20)) = true by simp [hful])]), (by rw [if_neg (show ¬ ((btw u0 0 20000 && (btw u1 0 2000 && (btw u2 0 999 && (btw u3 0 100 && btw u4 1 50)))) && !decide (nI (n 0) = 20)) = true by simp [hful])]), hpr⟩, hP.tl, hD.tl⟩ hS (Nat.le_of_ble_eq_true rfl) (Nat.le_of_ble_eq_true rfl) dX5_enact_17
  · have k_1 := nat_nle (a := 20) (b := (n 0)) c_1 (by omega) (by omega)
    have hful : ¬ nI (n 0) = 20 := fun q => absurd (nat_eq (a := n 0) (b := 20) q (by omega) (by decide)) (by omega)
    refine lv_aload_n hx hb dX5_enact_9 rfl (lv_at hl 1 rfl) ?_
    refine ro_V (As := []) (rest := []) ⟨hx, hb, hml, hown, hts⟩ (c_X4_isPossible l D cT q u0 u1 u2 u3 u4 ) (cwV 0 hts gX5_enact_X4_isPossible rfl rfl rfl (by decide +kernel) ⟨Nat.le_of_ble_eq_true rfl, Nat.le_of_ble_eq_true rfl⟩) hE hq0 0 4 rfl rfl rfl rfl hl.1 rfl (Nat.le_of_ble_eq_true rfl) dX5_enact_10 ⟨Nat.zero_le _, Nat.zero_le _⟩ ?_
    refine bi_ne (tgt := 18) hx hb dX5_enact_13 (by decide) (fun c_2 => ?_) (fun c_2 => ?_)
    · refine lv_aload_n hx hb dX5_enact_18 rfl (lv_at hl 0 rfl) ?_
      refine va_get (D := D) (ci := 5) (v := .ref (a 2)) (C := RX5) (T := TX5) (N := 2) hx hb hts hiX5 hown hE.1 hP 2 (ofl_1 (cT := cT) (a := a) (b := b) (T := T) (P := P) (n := n)) rfl 0 (by decide) (hts (.fieldLink RX5 13 "FindsOffice$LawBook" "laws" "[LFindsOffice$Law;") (by decide +kernel)) (fun _ h9 => h9) rfl dX5_enact_19 ?_
      refine lv_aload_n hx hb dX5_enact_22 rfl (lv_at hl 0 rfl) ?_
      refine va_get (D := D) (ci := 5) (v := .int (nI (n 0))) (C := RX5) (T := TX5) (N := 2) hx hb hts hiX5 hown hE.1 hP 2 (ofl_1 (cT := cT) (a := a) (b := b) (T := T) (P := P) (n := n)) rfl 1 (by decide) (hts (.fieldLink RX5 17 "FindsOffice$LawBook" "told" "I") (by decide +kernel)) (fun _ h9 => h9) rfl dX5_enact_23 ?_
      refine lv_aload_n hx hb dX5_enact_26 rfl (lv_at hl 1 rfl) ?_
      refine my_astq (k := n 0) (r := (RX4, TX4, 5)) hx hb hE.1 hP hD hS 3 2 0 4 (ofl_2 (cT := cT) (a := a) (b := b) (T := T) (P := P) (n := n)) rfl rfl rfl rfl (by omega) (by decide) dX5_enact_27 (fun H locs hP hD hS => ?_)
      refine lv_aload_n hx hb dX5_enact_28 rfl (lv_at hl 0 rfl) ?_
      refine lv_dup hx hb dX5_enact_29 rfl ?_
      refine va_get (D := D) (ci := 5) (v := .int (nI (n 0))) (C := RX5) (T := TX5) (N := 2) hx hb hts hiX5 hown hE.1 hP 2 rfl rfl 1 (by decide) (hts (.fieldLink RX5 17 "FindsOffice$LawBook" "told" "I") (by decide +kernel)) (fun _ h9 => h9) rfl dX5_enact_30 ?_
      refine lv_iconst (v := 1) hx hb dX5_enact_33 (by decide) ?_
      refine lv_iadd hx hb dX5_enact_34 ?_
      refine topi_eq (nI_add _ 1) ?_
      refine va_put (D := D) (ci := 5) (v := .int (nI ((n 0) + 1))) (ty := .int) (C := RX5) (T := TX5) (N := 2) hx hb hts hiX5 tyX5 tyX5_ok nmX5 hown hE.1 hP hD hS 2 rfl rfl 1 (by decide) (hts (.fieldLink RX5 17 "FindsOffice$LawBook" "told" "I") (by decide +kernel)) (fun _ h9 => h9) rfl (by decide +kernel) rfl rfl (Nat.le_of_ble_eq_true rfl) dX5_enact_35 (fun H locs hP hD hS => ?_)
      have hq1 := hP.at1 (k := 0) rfl
      obtain ⟨hP, hD⟩ := en_law (cT := cT) (a := a) (b := b) (T := T) (P := P) (n := n) (q := q) (u0 := u0) (u1 := u1) (u2 := u2) (u3 := u3) (u4 := u4) hP hD
      have hlt : n 0 < 20 := by omega
      refine lv_aload_n hx hb dX5_enact_38 rfl (lv_at hl 0 rfl) ?_
      refine va_get (D := D) (ci := 5) (v := .int (nI ((va_up n 0 (n 0 + 1)) 0))) (C := RX5) (T := TX5) (N := 2) hx hb hts hiX5 hown hE.1 hP 1 ofl_1 rfl 1 (by decide) (hts (.fieldLink RX5 17 "FindsOffice$LawBook" "told" "I") (by decide +kernel)) (fun _ h9 => h9) rfl dX5_enact_39 ?_
      exact rw_iret hx hb hr hlocks (by rw [if_pos (show ((btw u0 0 20000 && (btw u1 0 2000 && (btw u2 0 999 && (btw u3 0 100 && btw u4 1 50)))) && !decide (nI (n 0) = 20)) = true by rw [c_2]; simp [hful])] <;> rfl) ⟨_, _, (lawT T n u0 u1 u2 u3 u4), va_up n 0 (n 0 + 1), ⟨(by rw [if_pos (show ((btw u0 0 20000 && (btw u1 0 2000 && (btw u2 0 999 && (btw u3 0 100 && btw u4 1 50)))) && !decide (nI (n 0) = 20)) = true by rw [c_2]; simp [hful])]), (by rw [if_pos (show ((btw u0 0 20000 && (btw u1 0 2000 && (btw u2 0 999 && (btw u3 0 100 && btw u4 1 50)))) && !decide (nI (n 0) = 20)) = true by rw [c_2]; simp [hful])]), hpr⟩, hP, hD⟩ hS (Nat.le_of_ble_eq_true rfl) (Nat.le_of_ble_eq_true rfl) dX5_enact_42
    · refine lv_iconst (v := (-1)) hx hb dX5_enact_16 (by decide) ?_
      exact rw_iret hx hb hr hlocks (by rw [if_neg (show ¬ ((btw u0 0 20000 && (btw u1 0 2000 && (btw u2 0 999 && (btw u3 0 100 && btw u4 1 50)))) && !decide (nI (n 0) = 20)) = true by simp [c_2])]) ⟨_, _, T, n, ⟨(by rw [if_neg (show ¬ ((btw u0 0 20000 && (btw u1 0 2000 && (btw u2 0 999 && (btw u3 0 100 && btw u4 1 50)))) && !decide (nI (n 0) = 20)) = true by simp [c_2])]), (by rw [if_neg (show ¬ ((btw u0 0 20000 && (btw u1 0 2000 && (btw u2 0 999 && (btw u3 0 100 && btw u4 1 50)))) && !decide (nI (n 0) = 20)) = true by simp [c_2])]), hpr⟩, hP.tl, hD.tl⟩ hS (Nat.le_of_ble_eq_true rfl) (Nat.le_of_ble_eq_true rfl) dX5_enact_17
set_option maxHeartbeats 4000000 in
set_option maxRecDepth 100000 in
theorem c_X2_enter (l : Launch) (D : va_G) (cT : Nat → ClassId) (sz : Nat) (a : Nat → Nat) (b : Nat → Nat → Nat) (T P : Nat → Nat → Int32) (n : Nat → Nat) (q : Nat) (u0 u1 u2 u3 u4 u5 u6 u7 u8 u9 u10 : Int32) (hn : Cnt n) (hpr : PR T (P 0)) : Met l yX2_enter wsX2_enter ({ frames := 3, cells := 0, slots := 0, locals := 65 }) (va_Pc [.ref (a 7), .ref q] (PW D cT ((q, .inr (1, [.int u0, .int u1, .int u2, .int u3, .int u4, .int u5, .int u6, .int u7, .int u8, .int u9, .int u10])) :: offW cT a b T P n) sz)) (QW (some (.int (if (((btw u0 0 999 && btw u1 0 999) && ((btw u2 0 2 && (btw u3 0 1000 && btw u4 1 10000)) && ((!decide (u5 < (-3000)) && (!decide (u6 < u5) && !decide (2000 < u6))) && (btw u7 0 u9 && btw u8 0 29)))) && !decide (nI (n 1) = 50)) = true then nI (n 1) else -1))) ((poQ D cT a (if (((btw u0 0 999 && btw u1 0 999) && ((btw u2 0 2 && (btw u3 0 1000 && btw u4 1 10000)) && ((!decide (u5 < (-3000)) && (!decide (u6 < u5) && !decide (2000 < u6))) && (btw u7 0 u9 && btw u8 0 29)))) && !decide (nI (n 1) = 50)) = true then findT T n u0 u1 u2 u3 u4 u5 u6 u7 u8 u9 u10 else T) (if (((btw u0 0 999 && btw u1 0 999) && ((btw u2 0 2 && (btw u3 0 1000 && btw u4 1 10000)) && ((!decide (u5 < (-3000)) && (!decide (u6 < u5) && !decide (2000 < u6))) && (btw u7 0 u9 && btw u8 0 29)))) && !decide (nI (n 1) = 50)) = true then va_up n 1 (n 1 + 1) else n)) (va_A ((q, .inr (1, [.int u0, .int u1, .int u2, .int u3, .int u4, .int u5, .int u6, .int u7, .int u8, .int u9, .int u10])) :: offW cT a b T P n) sz)) (va_A ((q, .inr (1, [.int u0, .int u1, .int u2, .int u3, .int u4, .int u5, .int u6, .int u7, .int u8, .int u9, .int u10])) :: offW cT a b T P n) sz)) 0 0 (va_A ((q, .inr (1, [.int u0, .int u1, .int u2, .int u3, .int u4, .int u5, .int u6, .int u7, .int u8, .int u9, .int u10])) :: offW cT a b T P n) sz) := by
  refine RW_of (Bp := (poQ D cT a (if (((btw u0 0 999 && btw u1 0 999) && ((btw u2 0 2 && (btw u3 0 1000 && btw u4 1 10000)) && ((!decide (u5 < (-3000)) && (!decide (u6 < u5) && !decide (2000 < u6))) && (btw u7 0 u9 && btw u8 0 29)))) && !decide (nI (n 1) = 50)) = true then findT T n u0 u1 u2 u3 u4 u5 u6 u7 u8 u9 u10 else T) (if (((btw u0 0 999 && btw u1 0 999) && ((btw u2 0 2 && (btw u3 0 1000 && btw u4 1 10000)) && ((!decide (u5 < (-3000)) && (!decide (u6 < u5) && !decide (2000 < u6))) && (btw u7 0 u9 && btw u8 0 29)))) && !decide (nI (n 1) = 50)) = true then va_up n 1 (n 1 + 1) else n))) (by decide) rfl (Nat.le_of_ble_eq_true rfl) ?_
  intro p e s m below meth c A hx hb hr hts hown hlocks hin hml hE hD hA H locs hP hS ls hl
  have hiX2 : ∀ w ∈ wsX20, w ∈ wsX2_enter := by decide +kernel
  have hl : lv_has ls 2 [(0, .ref (a 7)), (1, .ref q)] := hl
  obtain ⟨hn0, hn1, hn2, hn3, hn4⟩ := id hn
  have hq0 := hP.at1 (k := 0) rfl
  refine lv_aload_n hx hb dX2_enter_0 rfl (lv_at hl 0 rfl) ?_
  refine va_get (D := D) (ci := 2) (v := .int (nI (n 1))) (C := RX2) (T := TX2) (N := 7) hx hb hts hiX2 hown hE.1 hP 8 (ofl_7 (cT := cT) (a := a) (b := b) (T := T) (P := P) (n := n)) rfl 1 (by decide) (hts (.fieldLink RX2 17 "FindsOffice$FindBook" "told" "I") (by decide +kernel)) (fun _ h9 => h9) rfl dX2_enter_1 ?_
  refine lv_bipush (v := 50) hx hb dX2_enter_4 (by decide) ?_
  refine lv_icmp_ge (tgt := 16) hx hb dX2_enter_6 (by decide) (fun c_1 => ?_) (fun c_1 => ?_)
  · have k_1 := nat_le (a := 50) (b := (n 1)) c_1 (by omega) (by omega)
    have hful : nI (n 1) = 50 := by rw [show n 1 = 50 by omega]; rfl
    refine lv_iconst (v := (-1)) hx hb dX2_enter_16 (by decide) ?_
    exact rw_iret hx hb hr hlocks (by rw [if_neg (show ¬ (((btw u0 0 999 && btw u1 0 999) && ((btw u2 0 2 && (btw u3 0 1000 && btw u4 1 10000)) && ((!decide (u5 < (-3000)) && (!decide (u6 < u5) && !decide (2000 < u6))) && (btw u7 0 u9 && btw u8 0 29)))) && !decide (nI (n 1) = 50)) = true by simp [hful])]) ⟨_, _, T, n, ⟨(by rw [if_neg (show ¬ (((btw u0 0 999 && btw u1 0 999) && ((btw u2 0 2 && (btw u3 0 1000 && btw u4 1 10000)) && ((!decide (u5 < (-3000)) && (!decide (u6 < u5) && !decide (2000 < u6))) && (btw u7 0 u9 && btw u8 0 29)))) && !decide (nI (n 1) = 50)) = true by simp [hful])]), (by rw [if_neg (show ¬ (((btw u0 0 999 && btw u1 0 999) && ((btw u2 0 2 && (btw u3 0 1000 && btw u4 1 10000)) && ((!decide (u5 < (-3000)) && (!decide (u6 < u5) && !decide (2000 < u6))) && (btw u7 0 u9 && btw u8 0 29)))) && !decide (nI (n 1) = 50)) = true by simp [hful])]), hpr⟩, hP.tl, hD.tl⟩ hS (Nat.le_of_ble_eq_true rfl) (Nat.le_of_ble_eq_true rfl) dX2_enter_17
  · have k_1 := nat_nle (a := 50) (b := (n 1)) c_1 (by omega) (by omega)
    have hful : ¬ nI (n 1) = 50 := fun q => absurd (nat_eq (a := n 1) (b := 50) q (by omega) (by decide)) (by omega)
    refine lv_aload_n hx hb dX2_enter_9 rfl (lv_at hl 1 rfl) ?_
    refine ro_V (As := []) (rest := []) ⟨hx, hb, hml, hown, hts⟩ (c_X1_isPossible l D cT q u0 u1 u2 u3 u4 u5 u6 u7 u8 u9 u10 ) (cwV 0 hts gX2_enter_X1_isPossible rfl rfl rfl (by decide +kernel) ⟨Nat.le_of_ble_eq_true rfl, Nat.le_of_ble_eq_true rfl⟩) hE hq0 0 1 rfl rfl rfl rfl hl.1 rfl (Nat.le_of_ble_eq_true rfl) dX2_enter_10 ⟨Nat.zero_le _, Nat.zero_le _⟩ ?_
    refine bi_ne (tgt := 18) hx hb dX2_enter_13 (by decide) (fun c_2 => ?_) (fun c_2 => ?_)
    · refine lv_aload_n hx hb dX2_enter_18 rfl (lv_at hl 0 rfl) ?_
      refine va_get (D := D) (ci := 2) (v := .ref (a 8)) (C := RX2) (T := TX2) (N := 7) hx hb hts hiX2 hown hE.1 hP 8 (ofl_7 (cT := cT) (a := a) (b := b) (T := T) (P := P) (n := n)) rfl 0 (by decide) (hts (.fieldLink RX2 13 "FindsOffice$FindBook" "finds" "[LFindsOffice$Find;") (by decide +kernel)) (fun _ h9 => h9) rfl dX2_enter_19 ?_
      refine lv_aload_n hx hb dX2_enter_22 rfl (lv_at hl 0 rfl) ?_
      refine va_get (D := D) (ci := 2) (v := .int (nI (n 1))) (C := RX2) (T := TX2) (N := 7) hx hb hts hiX2 hown hE.1 hP 8 (ofl_7 (cT := cT) (a := a) (b := b) (T := T) (P := P) (n := n)) rfl 1 (by decide) (hts (.fieldLink RX2 17 "FindsOffice$FindBook" "told" "I") (by decide +kernel)) (fun _ h9 => h9) rfl dX2_enter_23 ?_
      refine lv_aload_n hx hb dX2_enter_26 rfl (lv_at hl 1 rfl) ?_
      refine my_astq (k := n 1) (r := (RX1, TX1, 11)) hx hb hE.1 hP hD hS 9 3 0 1 (ofl_8 (cT := cT) (a := a) (b := b) (T := T) (P := P) (n := n)) rfl rfl rfl rfl (by omega) (by decide) dX2_enter_27 (fun H locs hP hD hS => ?_)
      refine lv_aload_n hx hb dX2_enter_28 rfl (lv_at hl 0 rfl) ?_
      refine lv_dup hx hb dX2_enter_29 rfl ?_
      refine va_get (D := D) (ci := 2) (v := .int (nI (n 1))) (C := RX2) (T := TX2) (N := 7) hx hb hts hiX2 hown hE.1 hP 8 rfl rfl 1 (by decide) (hts (.fieldLink RX2 17 "FindsOffice$FindBook" "told" "I") (by decide +kernel)) (fun _ h9 => h9) rfl dX2_enter_30 ?_
      refine lv_iconst (v := 1) hx hb dX2_enter_33 (by decide) ?_
      refine lv_iadd hx hb dX2_enter_34 ?_
      refine topi_eq (nI_add _ 1) ?_
      refine va_put (D := D) (ci := 2) (v := .int (nI ((n 1) + 1))) (ty := .int) (C := RX2) (T := TX2) (N := 7) hx hb hts hiX2 tyX2 tyX2_ok nmX2 hown hE.1 hP hD hS 8 rfl rfl 1 (by decide) (hts (.fieldLink RX2 17 "FindsOffice$FindBook" "told" "I") (by decide +kernel)) (fun _ h9 => h9) rfl (by decide +kernel) rfl rfl (Nat.le_of_ble_eq_true rfl) dX2_enter_35 (fun H locs hP hD hS => ?_)
      have hq1 := hP.at1 (k := 0) rfl
      obtain ⟨hP, hD⟩ := en_find (cT := cT) (a := a) (b := b) (T := T) (P := P) (n := n) (q := q) (u0 := u0) (u1 := u1) (u2 := u2) (u3 := u3) (u4 := u4) (u5 := u5) (u6 := u6) (u7 := u7) (u8 := u8) (u9 := u9) (u10 := u10) hP hD
      have hlt : n 1 < 50 := by omega
      refine lv_aload_n hx hb dX2_enter_38 rfl (lv_at hl 0 rfl) ?_
      refine va_get (D := D) (ci := 2) (v := .int (nI ((va_up n 1 (n 1 + 1)) 1))) (C := RX2) (T := TX2) (N := 7) hx hb hts hiX2 hown hE.1 hP 7 ofl_7 rfl 1 (by decide) (hts (.fieldLink RX2 17 "FindsOffice$FindBook" "told" "I") (by decide +kernel)) (fun _ h9 => h9) rfl dX2_enter_39 ?_
      refine lv_iconst (v := 1) hx hb dX2_enter_42 (by decide) ?_
      refine lv_isub hx hb dX2_enter_43 ?_
      exact rw_iret hx hb hr hlocks (by rw [if_pos (show (((btw u0 0 999 && btw u1 0 999) && ((btw u2 0 2 && (btw u3 0 1000 && btw u4 1 10000)) && ((!decide (u5 < (-3000)) && (!decide (u6 < u5) && !decide (2000 < u6))) && (btw u7 0 u9 && btw u8 0 29)))) && !decide (nI (n 1) = 50)) = true by rw [c_2]; simp [hful])] <;> exact nI_pred _) ⟨_, _, (findT T n u0 u1 u2 u3 u4 u5 u6 u7 u8 u9 u10), va_up n 1 (n 1 + 1), ⟨(by rw [if_pos (show (((btw u0 0 999 && btw u1 0 999) && ((btw u2 0 2 && (btw u3 0 1000 && btw u4 1 10000)) && ((!decide (u5 < (-3000)) && (!decide (u6 < u5) && !decide (2000 < u6))) && (btw u7 0 u9 && btw u8 0 29)))) && !decide (nI (n 1) = 50)) = true by rw [c_2]; simp [hful])]), (by rw [if_pos (show (((btw u0 0 999 && btw u1 0 999) && ((btw u2 0 2 && (btw u3 0 1000 && btw u4 1 10000)) && ((!decide (u5 < (-3000)) && (!decide (u6 < u5) && !decide (2000 < u6))) && (btw u7 0 u9 && btw u8 0 29)))) && !decide (nI (n 1) = 50)) = true by rw [c_2]; simp [hful])]), hpr⟩, hP, hD⟩ hS (Nat.le_of_ble_eq_true rfl) (Nat.le_of_ble_eq_true rfl) dX2_enter_44
    · refine lv_iconst (v := (-1)) hx hb dX2_enter_16 (by decide) ?_
      exact rw_iret hx hb hr hlocks (by rw [if_neg (show ¬ (((btw u0 0 999 && btw u1 0 999) && ((btw u2 0 2 && (btw u3 0 1000 && btw u4 1 10000)) && ((!decide (u5 < (-3000)) && (!decide (u6 < u5) && !decide (2000 < u6))) && (btw u7 0 u9 && btw u8 0 29)))) && !decide (nI (n 1) = 50)) = true by simp [c_2])]) ⟨_, _, T, n, ⟨(by rw [if_neg (show ¬ (((btw u0 0 999 && btw u1 0 999) && ((btw u2 0 2 && (btw u3 0 1000 && btw u4 1 10000)) && ((!decide (u5 < (-3000)) && (!decide (u6 < u5) && !decide (2000 < u6))) && (btw u7 0 u9 && btw u8 0 29)))) && !decide (nI (n 1) = 50)) = true by simp [c_2])]), (by rw [if_neg (show ¬ (((btw u0 0 999 && btw u1 0 999) && ((btw u2 0 2 && (btw u3 0 1000 && btw u4 1 10000)) && ((!decide (u5 < (-3000)) && (!decide (u6 < u5) && !decide (2000 < u6))) && (btw u7 0 u9 && btw u8 0 29)))) && !decide (nI (n 1) = 50)) = true by simp [c_2])]), hpr⟩, hP.tl, hD.tl⟩ hS (Nat.le_of_ble_eq_true rfl) (Nat.le_of_ble_eq_true rfl) dX2_enter_17
set_option maxHeartbeats 4000000 in
set_option maxRecDepth 100000 in
theorem c_X6_enter (l : Launch) (D : va_G) (cT : Nat → ClassId) (sz : Nat) (a : Nat → Nat) (b : Nat → Nat → Nat) (T P : Nat → Nat → Int32) (n : Nat → Nat) (q : Nat) (u0 u1 u2 u3 : Int32) (hn : Cnt n) (hpr : PR T (P 0)) : Met l yX6_enter wsX6_enter ({ frames := 3, cells := 0, slots := 0, locals := 62 }) (va_Pc [.ref (a 13), .ref q] (PW D cT ((q, .inr (8, [.int u0, .int u1, .int u2, .int u3])) :: offW cT a b T P n) sz)) (QW (some (.int (if ((btw u0 0 2 && (btw u1 0 20000 && (btw u2 1 10000 && btw u3 0 1000000))) && !decide (nI (n 2) = 60)) = true then nI (saN (saleT T n u0 u1 u2 u3) u0 (n 2 + 1)) else -1))) ((poQ D cT a (if ((btw u0 0 2 && (btw u1 0 20000 && (btw u2 1 10000 && btw u3 0 1000000))) && !decide (nI (n 2) = 60)) = true then saleT T n u0 u1 u2 u3 else T) (if ((btw u0 0 2 && (btw u1 0 20000 && (btw u2 1 10000 && btw u3 0 1000000))) && !decide (nI (n 2) = 60)) = true then va_up n 2 (n 2 + 1) else n)) (va_A ((q, .inr (8, [.int u0, .int u1, .int u2, .int u3])) :: offW cT a b T P n) sz)) (va_A ((q, .inr (8, [.int u0, .int u1, .int u2, .int u3])) :: offW cT a b T P n) sz)) 0 0 (va_A ((q, .inr (8, [.int u0, .int u1, .int u2, .int u3])) :: offW cT a b T P n) sz) := by
  refine RW_of (Bp := (poQ D cT a (if ((btw u0 0 2 && (btw u1 0 20000 && (btw u2 1 10000 && btw u3 0 1000000))) && !decide (nI (n 2) = 60)) = true then saleT T n u0 u1 u2 u3 else T) (if ((btw u0 0 2 && (btw u1 0 20000 && (btw u2 1 10000 && btw u3 0 1000000))) && !decide (nI (n 2) = 60)) = true then va_up n 2 (n 2 + 1) else n))) (by decide) rfl (Nat.le_of_ble_eq_true rfl) ?_
  intro p e s m below meth c A hx hb hr hts hown hlocks hin hml hE hD hA H locs hP hS ls hl
  have hiX6 : ∀ w ∈ wsX60, w ∈ wsX6_enter := by decide +kernel
  have hiX8 : ∀ w ∈ wsX80, w ∈ wsX6_enter := by decide +kernel
  have hl : lv_has ls 2 [(0, .ref (a 13)), (1, .ref q)] := hl
  obtain ⟨hn0, hn1, hn2, hn3, hn4⟩ := id hn
  have hq0 := hP.at1 (k := 0) rfl
  refine lv_aload_n hx hb dX6_enter_0 rfl (lv_at hl 0 rfl) ?_
  refine va_get (D := D) (ci := 6) (v := .int (nI (n 2))) (C := RX6) (T := TX6) (N := 3) hx hb hts hiX6 hown hE.1 hP 14 (ofl_13 (cT := cT) (a := a) (b := b) (T := T) (P := P) (n := n)) rfl 1 (by decide) (hts (.fieldLink RX6 17 "FindsOffice$Market" "told" "I") (by decide +kernel)) (fun _ h9 => h9) rfl dX6_enter_1 ?_
  refine lv_bipush (v := 60) hx hb dX6_enter_4 (by decide) ?_
  refine lv_icmp_ge (tgt := 16) hx hb dX6_enter_6 (by decide) (fun c_1 => ?_) (fun c_1 => ?_)
  · have k_1 := nat_le (a := 60) (b := (n 2)) c_1 (by omega) (by omega)
    have hful : nI (n 2) = 60 := by rw [show n 2 = 60 by omega]; rfl
    refine lv_iconst (v := (-1)) hx hb dX6_enter_16 (by decide) ?_
    exact rw_iret hx hb hr hlocks (by rw [if_neg (show ¬ ((btw u0 0 2 && (btw u1 0 20000 && (btw u2 1 10000 && btw u3 0 1000000))) && !decide (nI (n 2) = 60)) = true by simp [hful])]) ⟨_, _, T, n, ⟨(by rw [if_neg (show ¬ ((btw u0 0 2 && (btw u1 0 20000 && (btw u2 1 10000 && btw u3 0 1000000))) && !decide (nI (n 2) = 60)) = true by simp [hful])]), (by rw [if_neg (show ¬ ((btw u0 0 2 && (btw u1 0 20000 && (btw u2 1 10000 && btw u3 0 1000000))) && !decide (nI (n 2) = 60)) = true by simp [hful])]), hpr⟩, hP.tl, hD.tl⟩ hS (Nat.le_of_ble_eq_true rfl) (Nat.le_of_ble_eq_true rfl) dX6_enter_17
  · have k_1 := nat_nle (a := 60) (b := (n 2)) c_1 (by omega) (by omega)
    have hful : ¬ nI (n 2) = 60 := fun q => absurd (nat_eq (a := n 2) (b := 60) q (by omega) (by decide)) (by omega)
    refine lv_aload_n hx hb dX6_enter_9 rfl (lv_at hl 1 rfl) ?_
    refine ro_V (As := []) (rest := []) ⟨hx, hb, hml, hown, hts⟩ (c_X8_isPossible l D cT q u0 u1 u2 u3 ) (cwV 0 hts gX6_enter_X8_isPossible rfl rfl rfl (by decide +kernel) ⟨Nat.le_of_ble_eq_true rfl, Nat.le_of_ble_eq_true rfl⟩) hE hq0 0 8 rfl rfl rfl rfl hl.1 rfl (Nat.le_of_ble_eq_true rfl) dX6_enter_10 ⟨Nat.zero_le _, Nat.zero_le _⟩ ?_
    refine bi_ne (tgt := 18) hx hb dX6_enter_13 (by decide) (fun c_2 => ?_) (fun c_2 => ?_)
    · refine lv_aload_n hx hb dX6_enter_18 rfl (lv_at hl 0 rfl) ?_
      refine va_get (D := D) (ci := 6) (v := .ref (a 14)) (C := RX6) (T := TX6) (N := 3) hx hb hts hiX6 hown hE.1 hP 14 (ofl_13 (cT := cT) (a := a) (b := b) (T := T) (P := P) (n := n)) rfl 0 (by decide) (hts (.fieldLink RX6 13 "FindsOffice$Market" "sales" "[LFindsOffice$Sale;") (by decide +kernel)) (fun _ h9 => h9) rfl dX6_enter_19 ?_
      refine lv_aload_n hx hb dX6_enter_22 rfl (lv_at hl 0 rfl) ?_
      refine va_get (D := D) (ci := 6) (v := .int (nI (n 2))) (C := RX6) (T := TX6) (N := 3) hx hb hts hiX6 hown hE.1 hP 14 (ofl_13 (cT := cT) (a := a) (b := b) (T := T) (P := P) (n := n)) rfl 1 (by decide) (hts (.fieldLink RX6 17 "FindsOffice$Market" "told" "I") (by decide +kernel)) (fun _ h9 => h9) rfl dX6_enter_23 ?_
      refine lv_aload_n hx hb dX6_enter_26 rfl (lv_at hl 1 rfl) ?_
      refine my_astq (k := n 2) (r := (RX8, TX8, 4)) hx hb hE.1 hP hD hS 15 4 0 8 (ofl_14 (cT := cT) (a := a) (b := b) (T := T) (P := P) (n := n)) rfl rfl rfl rfl (by omega) (by decide) dX6_enter_27 (fun H locs hP hD hS => ?_)
      refine lv_aload_n hx hb dX6_enter_28 rfl (lv_at hl 0 rfl) ?_
      refine lv_dup hx hb dX6_enter_29 rfl ?_
      refine va_get (D := D) (ci := 6) (v := .int (nI (n 2))) (C := RX6) (T := TX6) (N := 3) hx hb hts hiX6 hown hE.1 hP 14 rfl rfl 1 (by decide) (hts (.fieldLink RX6 17 "FindsOffice$Market" "told" "I") (by decide +kernel)) (fun _ h9 => h9) rfl dX6_enter_30 ?_
      refine lv_iconst (v := 1) hx hb dX6_enter_33 (by decide) ?_
      refine lv_iadd hx hb dX6_enter_34 ?_
      refine topi_eq (nI_add _ 1) ?_
      refine va_put (D := D) (ci := 6) (v := .int (nI ((n 2) + 1))) (ty := .int) (C := RX6) (T := TX6) (N := 3) hx hb hts hiX6 tyX6 tyX6_ok nmX6 hown hE.1 hP hD hS 14 rfl rfl 1 (by decide) (hts (.fieldLink RX6 17 "FindsOffice$Market" "told" "I") (by decide +kernel)) (fun _ h9 => h9) rfl (by decide +kernel) rfl rfl (Nat.le_of_ble_eq_true rfl) dX6_enter_35 (fun H locs hP hD hS => ?_)
      have hq1 := hP.at1 (k := 0) rfl
      obtain ⟨hP, hD⟩ := en_sale (cT := cT) (a := a) (b := b) (T := T) (P := P) (n := n) (q := q) (u0 := u0) (u1 := u1) (u2 := u2) (u3 := u3) hP hD
      have hlt : n 2 < 60 := by omega
      refine lv_aload_n hx hb dX6_enter_38 rfl (lv_at hl 0 rfl) ?_
      refine lv_aload_n hx hb dX6_enter_39 rfl (lv_at hl 1 rfl) ?_
      refine va_get (D := D) (ci := 8) (v := .int u0) (C := RX8) (T := TX8) (N := 4) hx hb hts hiX8 hown hE.1 hq1 0 rfl rfl 0 (by decide) (hts (.fieldLink RX6 39 "FindsOffice$Sale" "metal" "I") (by decide +kernel)) (fun _ h9 => h9) rfl dX6_enter_40 ?_
      refine ro_V (As := [.int u0]) (rest := []) ⟨hx, hb, hml, hown, hts⟩ (c_X6_salesOf l D cT a (va_up b 2 (va_up (b 2) (n 2) q)) (saleT T n u0 u1 u2 u3) P (va_up n 2 (n 2 + 1)) u0 (Cnt.up2 hn hlt)) (cwV 1 hts gX6_enter_X6_salesOf rfl rfl rfl (by decide +kernel) ⟨Nat.le_of_ble_eq_true rfl, Nat.le_of_ble_eq_true rfl⟩) hE hP 13 6 ofl_13 rfl rfl rfl hl.1 rfl (Nat.le_of_ble_eq_true rfl) dX6_enter_43 ⟨Nat.zero_le _, Nat.zero_le _⟩ ?_
      exact rw_iret hx hb hr hlocks (by rw [if_pos (show ((btw u0 0 2 && (btw u1 0 20000 && (btw u2 1 10000 && btw u3 0 1000000))) && !decide (nI (n 2) = 60)) = true by rw [c_2]; simp [hful])] <;> rfl) ⟨_, _, (saleT T n u0 u1 u2 u3), va_up n 2 (n 2 + 1), ⟨(by rw [if_pos (show ((btw u0 0 2 && (btw u1 0 20000 && (btw u2 1 10000 && btw u3 0 1000000))) && !decide (nI (n 2) = 60)) = true by rw [c_2]; simp [hful])]), (by rw [if_pos (show ((btw u0 0 2 && (btw u1 0 20000 && (btw u2 1 10000 && btw u3 0 1000000))) && !decide (nI (n 2) = 60)) = true by rw [c_2]; simp [hful])]), hpr⟩, hP, hD⟩ hS (Nat.le_of_ble_eq_true rfl) (Nat.le_of_ble_eq_true rfl) dX6_enter_46
    · refine lv_iconst (v := (-1)) hx hb dX6_enter_16 (by decide) ?_
      exact rw_iret hx hb hr hlocks (by rw [if_neg (show ¬ ((btw u0 0 2 && (btw u1 0 20000 && (btw u2 1 10000 && btw u3 0 1000000))) && !decide (nI (n 2) = 60)) = true by simp [c_2])]) ⟨_, _, T, n, ⟨(by rw [if_neg (show ¬ ((btw u0 0 2 && (btw u1 0 20000 && (btw u2 1 10000 && btw u3 0 1000000))) && !decide (nI (n 2) = 60)) = true by simp [c_2])]), (by rw [if_neg (show ¬ ((btw u0 0 2 && (btw u1 0 20000 && (btw u2 1 10000 && btw u3 0 1000000))) && !decide (nI (n 2) = 60)) = true by simp [c_2])]), hpr⟩, hP.tl, hD.tl⟩ hS (Nat.le_of_ble_eq_true rfl) (Nat.le_of_ble_eq_true rfl) dX6_enter_17
set_option maxHeartbeats 4000000 in
set_option maxRecDepth 100000 in
theorem c_X0_enter (l : Launch) (D : va_G) (cT : Nat → ClassId) (sz : Nat) (a : Nat → Nat) (b : Nat → Nat → Nat) (T P : Nat → Nat → Int32) (n : Nat → Nat) (q : Nat) (u0 u1 u2 : Int32) (hn : Cnt n) (hpr : PR T (P 0)) : Met l yX0_enter wsX0_enter ({ frames := 2, cells := 0, slots := 0, locals := 42 }) (va_Pc [.ref (a 16), .ref q] (PW D cT ((q, .inr (7, [.int u0, .int u1, .int u2])) :: offW cT a b T P n) sz)) (QW (some (.int (if ((btw u0 0 7 && btw u1 0 1000000) && !decide (nI (n 3) = 10)) = true then nI (n 3) else -1))) ((poQ D cT a (if ((btw u0 0 7 && btw u1 0 1000000) && !decide (nI (n 3) = 10)) = true then museumT T n u0 u1 u2 else T) (if ((btw u0 0 7 && btw u1 0 1000000) && !decide (nI (n 3) = 10)) = true then va_up n 3 (n 3 + 1) else n)) (va_A ((q, .inr (7, [.int u0, .int u1, .int u2])) :: offW cT a b T P n) sz)) (va_A ((q, .inr (7, [.int u0, .int u1, .int u2])) :: offW cT a b T P n) sz)) 0 0 (va_A ((q, .inr (7, [.int u0, .int u1, .int u2])) :: offW cT a b T P n) sz) := by
  refine RW_of (Bp := (poQ D cT a (if ((btw u0 0 7 && btw u1 0 1000000) && !decide (nI (n 3) = 10)) = true then museumT T n u0 u1 u2 else T) (if ((btw u0 0 7 && btw u1 0 1000000) && !decide (nI (n 3) = 10)) = true then va_up n 3 (n 3 + 1) else n))) (by decide) rfl (Nat.le_of_ble_eq_true rfl) ?_
  intro p e s m below meth c A hx hb hr hts hown hlocks hin hml hE hD hA H locs hP hS ls hl
  have hiX0 : ∀ w ∈ wsX00, w ∈ wsX0_enter := by decide +kernel
  have hl : lv_has ls 2 [(0, .ref (a 16)), (1, .ref q)] := hl
  obtain ⟨hn0, hn1, hn2, hn3, hn4⟩ := id hn
  have hq0 := hP.at1 (k := 0) rfl
  refine lv_aload_n hx hb dX0_enter_0 rfl (lv_at hl 0 rfl) ?_
  refine va_get (D := D) (ci := 0) (v := .int (nI (n 3))) (C := RX0) (T := TX0) (N := 3) hx hb hts hiX0 hown hE.1 hP 17 (ofl_16 (cT := cT) (a := a) (b := b) (T := T) (P := P) (n := n)) rfl 1 (by decide) (hts (.fieldLink RX0 17 "FindsOffice$Circle" "told" "I") (by decide +kernel)) (fun _ h9 => h9) rfl dX0_enter_1 ?_
  refine lv_bipush (v := 10) hx hb dX0_enter_4 (by decide) ?_
  refine lv_icmp_ge (tgt := 16) hx hb dX0_enter_6 (by decide) (fun c_1 => ?_) (fun c_1 => ?_)
  · have k_1 := nat_le (a := 10) (b := (n 3)) c_1 (by omega) (by omega)
    have hful : nI (n 3) = 10 := by rw [show n 3 = 10 by omega]; rfl
    refine lv_iconst (v := (-1)) hx hb dX0_enter_16 (by decide) ?_
    exact rw_iret hx hb hr hlocks (by rw [if_neg (show ¬ ((btw u0 0 7 && btw u1 0 1000000) && !decide (nI (n 3) = 10)) = true by simp [hful])]) ⟨_, _, T, n, ⟨(by rw [if_neg (show ¬ ((btw u0 0 7 && btw u1 0 1000000) && !decide (nI (n 3) = 10)) = true by simp [hful])]), (by rw [if_neg (show ¬ ((btw u0 0 7 && btw u1 0 1000000) && !decide (nI (n 3) = 10)) = true by simp [hful])]), hpr⟩, hP.tl, hD.tl⟩ hS (Nat.le_of_ble_eq_true rfl) (Nat.le_of_ble_eq_true rfl) dX0_enter_17
  · have k_1 := nat_nle (a := 10) (b := (n 3)) c_1 (by omega) (by omega)
    have hful : ¬ nI (n 3) = 10 := fun q => absurd (nat_eq (a := n 3) (b := 10) q (by omega) (by decide)) (by omega)
    refine lv_aload_n hx hb dX0_enter_9 rfl (lv_at hl 1 rfl) ?_
    refine ro_V (As := []) (rest := []) ⟨hx, hb, hml, hown, hts⟩ (c_X7_isPossible l D cT q u0 u1 u2 ) (cwV 0 hts gX0_enter_X7_isPossible rfl rfl rfl (by decide +kernel) ⟨Nat.le_of_ble_eq_true rfl, Nat.le_of_ble_eq_true rfl⟩) hE hq0 0 7 rfl rfl rfl rfl hl.1 rfl (Nat.le_of_ble_eq_true rfl) dX0_enter_10 ⟨Nat.zero_le _, Nat.zero_le _⟩ ?_
    refine bi_ne (tgt := 18) hx hb dX0_enter_13 (by decide) (fun c_2 => ?_) (fun c_2 => ?_)
    · refine lv_aload_n hx hb dX0_enter_18 rfl (lv_at hl 0 rfl) ?_
      refine va_get (D := D) (ci := 0) (v := .ref (a 17)) (C := RX0) (T := TX0) (N := 3) hx hb hts hiX0 hown hE.1 hP 17 (ofl_16 (cT := cT) (a := a) (b := b) (T := T) (P := P) (n := n)) rfl 0 (by decide) (hts (.fieldLink RX0 13 "FindsOffice$Circle" "museums" "[LFindsOffice$Museum;") (by decide +kernel)) (fun _ h9 => h9) rfl dX0_enter_19 ?_
      refine lv_aload_n hx hb dX0_enter_22 rfl (lv_at hl 0 rfl) ?_
      refine va_get (D := D) (ci := 0) (v := .int (nI (n 3))) (C := RX0) (T := TX0) (N := 3) hx hb hts hiX0 hown hE.1 hP 17 (ofl_16 (cT := cT) (a := a) (b := b) (T := T) (P := P) (n := n)) rfl 1 (by decide) (hts (.fieldLink RX0 17 "FindsOffice$Circle" "told" "I") (by decide +kernel)) (fun _ h9 => h9) rfl dX0_enter_23 ?_
      refine lv_aload_n hx hb dX0_enter_26 rfl (lv_at hl 1 rfl) ?_
      refine my_astq (k := n 3) (r := (RX7, TX7, 3)) hx hb hE.1 hP hD hS 18 5 0 7 (ofl_17 (cT := cT) (a := a) (b := b) (T := T) (P := P) (n := n)) rfl rfl rfl rfl (by omega) (by decide) dX0_enter_27 (fun H locs hP hD hS => ?_)
      refine lv_aload_n hx hb dX0_enter_28 rfl (lv_at hl 0 rfl) ?_
      refine lv_dup hx hb dX0_enter_29 rfl ?_
      refine va_get (D := D) (ci := 0) (v := .int (nI (n 3))) (C := RX0) (T := TX0) (N := 3) hx hb hts hiX0 hown hE.1 hP 17 rfl rfl 1 (by decide) (hts (.fieldLink RX0 17 "FindsOffice$Circle" "told" "I") (by decide +kernel)) (fun _ h9 => h9) rfl dX0_enter_30 ?_
      refine lv_iconst (v := 1) hx hb dX0_enter_33 (by decide) ?_
      refine lv_iadd hx hb dX0_enter_34 ?_
      refine topi_eq (nI_add _ 1) ?_
      refine va_put (D := D) (ci := 0) (v := .int (nI ((n 3) + 1))) (ty := .int) (C := RX0) (T := TX0) (N := 3) hx hb hts hiX0 tyX0 tyX0_ok nmX0 hown hE.1 hP hD hS 17 rfl rfl 1 (by decide) (hts (.fieldLink RX0 17 "FindsOffice$Circle" "told" "I") (by decide +kernel)) (fun _ h9 => h9) rfl (by decide +kernel) rfl rfl (Nat.le_of_ble_eq_true rfl) dX0_enter_35 (fun H locs hP hD hS => ?_)
      have hq1 := hP.at1 (k := 0) rfl
      obtain ⟨hP, hD⟩ := en_museum (cT := cT) (a := a) (b := b) (T := T) (P := P) (n := n) (q := q) (u0 := u0) (u1 := u1) (u2 := u2) hP hD
      have hlt : n 3 < 10 := by omega
      refine lv_aload_n hx hb dX0_enter_38 rfl (lv_at hl 0 rfl) ?_
      refine va_get (D := D) (ci := 0) (v := .int (nI ((va_up n 3 (n 3 + 1)) 3))) (C := RX0) (T := TX0) (N := 3) hx hb hts hiX0 hown hE.1 hP 16 ofl_16 rfl 1 (by decide) (hts (.fieldLink RX0 17 "FindsOffice$Circle" "told" "I") (by decide +kernel)) (fun _ h9 => h9) rfl dX0_enter_39 ?_
      refine lv_iconst (v := 1) hx hb dX0_enter_42 (by decide) ?_
      refine lv_isub hx hb dX0_enter_43 ?_
      exact rw_iret hx hb hr hlocks (by rw [if_pos (show ((btw u0 0 7 && btw u1 0 1000000) && !decide (nI (n 3) = 10)) = true by rw [c_2]; simp [hful])] <;> exact nI_pred _) ⟨_, _, (museumT T n u0 u1 u2), va_up n 3 (n 3 + 1), ⟨(by rw [if_pos (show ((btw u0 0 7 && btw u1 0 1000000) && !decide (nI (n 3) = 10)) = true by rw [c_2]; simp [hful])]), (by rw [if_pos (show ((btw u0 0 7 && btw u1 0 1000000) && !decide (nI (n 3) = 10)) = true by rw [c_2]; simp [hful])]), hpr⟩, hP, hD⟩ hS (Nat.le_of_ble_eq_true rfl) (Nat.le_of_ble_eq_true rfl) dX0_enter_44
    · refine lv_iconst (v := (-1)) hx hb dX0_enter_16 (by decide) ?_
      exact rw_iret hx hb hr hlocks (by rw [if_neg (show ¬ ((btw u0 0 7 && btw u1 0 1000000) && !decide (nI (n 3) = 10)) = true by simp [c_2])]) ⟨_, _, T, n, ⟨(by rw [if_neg (show ¬ ((btw u0 0 7 && btw u1 0 1000000) && !decide (nI (n 3) = 10)) = true by simp [c_2])]), (by rw [if_neg (show ¬ ((btw u0 0 7 && btw u1 0 1000000) && !decide (nI (n 3) = 10)) = true by simp [c_2])]), hpr⟩, hP.tl, hD.tl⟩ hS (Nat.le_of_ble_eq_true rfl) (Nat.le_of_ble_eq_true rfl) dX0_enter_17
set_option maxHeartbeats 4000000 in
set_option maxRecDepth 100000 in
theorem c_X9_law (l : Launch) (D : va_G) (cT : Nat → ClassId) (sz : Nat) (a : Nat → Nat) (b : Nat → Nat → Nat) (T P : Nat → Nat → Int32) (n : Nat → Nat) (d w t : Int32) (hn : Cnt n) (hI : InvT T n) (hpr : PR T (P 0)) : Met l yX9_law wsX9_law ({ frames := 4, cells := 1, slots := 5, locals := 83 }) (va_Pc [.ref (a 0), .int d, .int w, .int t] (PW D cT (offW cT a b T P n) sz)) (QW (some (.int (if lwB n d w t = true then nI (n 0 + 1) else -1))) ((poQ D cT a (if lwB n d w t = true then lwT T n d w t else T) (if lwB n d w t = true then va_up n 0 (n 0 + 1) else n)) (va_A (offW cT a b T P n) sz)) (va_A (offW cT a b T P n) sz)) 1 5 (va_A (offW cT a b T P n) sz) := by
  refine RW_of (Bp := (poQ D cT a (if lwB n d w t = true then lwT T n d w t else T) (if lwB n d w t = true then va_up n 0 (n 0 + 1) else n))) (by decide) rfl (Nat.le_of_ble_eq_true rfl) ?_
  intro p e s m below meth c A hx hb hr hts hown hlocks hin hml hE hD hA H locs hP hS ls hl
  have hiX4 : ∀ w ∈ wsX40, w ∈ wsX9_law := by decide +kernel
  have hiX9 : ∀ w ∈ wsX90, w ∈ wsX9_law := by decide +kernel
  have hl : lv_has ls 4 [(0, .ref (a 0)), (1, .int d), (2, .int w), (3, .int t)] := hl
  obtain ⟨hn0, hn1, hn2, hn3, hn4⟩ := id hn
  refine lv_aload_n hx hb dX9_law_0 rfl (lv_at hl 0 rfl) ?_
  refine va_get (D := D) (ci := 9) (v := .ref (a 1)) (C := RX9) (T := TX9) (N := 7) hx hb hts hiX9 hown hE.1 hP 0 ofl_0 rfl 1 (by decide) (hts (.fieldLink RX9 16 "FindsOffice" "lawBook" "LFindsOffice$LawBook;") (by decide +kernel)) (fun _ h9 => h9) rfl dX9_law_1 ?_
  refine va_new (ci := 4) (fs := [.int 0, .int 0, .int 0, .int 0, .int 0]) (C := RX4) (T := TX4) (N := 5) hx hb hts hiX4 tyX4 tyX4_ok hown (hts (.classLink RX9 62 RX4) (by decide +kernel)) (hts (.instantiable RX4 5) (by decide +kernel)) (hts (.initialized RX4) (by decide +kernel)) hE.1 hP hD hS hA rfl (fun j hj => by rcases (show j = 0 ∨ j = 1 ∨ j = 2 ∨ j = 3 ∨ j = 4 by omega) with rfl | rfl | rfl | rfl | rfl <;> rfl) (Nat.le_of_ble_eq_true rfl) (Nat.le_of_ble_eq_true rfl) dX9_law_4 (fun q H hP hD hS => ?_)
  have hP := hP.rot
  have hD := hD.rot
  refine W.widen (k := 1) (n := 5) (by omega) (by omega) ?_
  have hPc := hP.at1 (k := 0) rfl
  have hDc := hD.at1 (k := 0) rfl
  refine lv_dup hx hb dX9_law_7 rfl ?_
  refine lv_iload_n hx hb dX9_law_8 rfl (lv_at hl 1 rfl) ?_
  refine lv_iload_n hx hb dX9_law_9 rfl (lv_at hl 2 rfl) ?_
  refine lv_iload_n hx hb dX9_law_10 rfl (lv_at hl 3 rfl) ?_
  have hF := va_allA hDc hS hA
  refine rw_I0 (As := [.int d, .int w, .int t]) (rest := [.ref q, .ref (a 1)]) ⟨hx, hb, hml, hown, hts⟩ (c_X4_init l D cT H.size q d w t ) (cwI 3 hts gX9_law_X4_init rfl rfl rfl (hts (.initialized RX4) (by decide +kernel)) (hts (.methodLink RX9 64 yX4_init) (by decide +kernel)) (hts (.instanceMethod yX4_init) (by decide +kernel)) rfl (by decide +kernel) ⟨Nat.le_of_ble_eq_true rfl, Nat.le_of_ble_eq_true rfl⟩) hE hPc hDc hS hA  rfl hl.1 rfl (Nat.le_of_ble_eq_true rfl) dX9_law_11 ⟨Nat.le_of_ble_eq_true rfl, Nat.le_of_ble_eq_true rfl⟩ (fun H locs hB hz1 hk1 hS => ?_)
  obtain ⟨hP1, hD1⟩ := hB
  obtain ⟨hP, hD⟩ := join_set (k := 0) hP hD rfl hk1 hP1
  have hP : va_P D vwCl ((q, .inr (4, [.int d, .int (w / 1000000), .int (w / 1000 - w / 1000 / 1000 * 1000), .int (w - w / 1000 * 1000), .int t])) :: offW cT a b T P n) H := hP
  have hD : va_D A ((q, .inr (4, [.int d, .int (w / 1000000), .int (w / 1000 - w / 1000 / 1000 * 1000), .int (w - w / 1000 * 1000), .int t])) :: offW cT a b T P n) := hD
  have hF := va_allA hD hS hA
  refine rw_V1 (As := [.ref q]) (rest := []) ⟨hx, hb, hml, hown, hts⟩ (c_X5_enact l D cT H.size a b T P n q d (w / 1000000) (w / 1000 - w / 1000 / 1000 * 1000) (w - w / 1000 * 1000) t hn hpr) (cwV 1 hts gX9_law_X5_enact rfl rfl rfl (by decide +kernel) ⟨Nat.le_of_ble_eq_true rfl, Nat.le_of_ble_eq_true rfl⟩) hE hP hD hS hA 2 5 (ofl_1 (cT := cT) (a := a) (b := b) (T := T) (P := P) (n := n)) rfl rfl rfl hl.1 rfl (Nat.le_of_ble_eq_true rfl) dX9_law_14 ⟨Nat.le_of_ble_eq_true rfl, Nat.le_of_ble_eq_true rfl⟩ (fun H locs hB hz1 hk1 hS => ?_)
  obtain ⟨bV, PV, TV, nV, hpV, hP, hD1⟩ := hB
  have hD := hD1.weaken (fun _ q _ h => hF q.1 h)
  exact rw_iret hx hb hr hlocks (by rw [law_ok] <;> rfl) ⟨_, _, _, _, ⟨hpV.1.trans (by rw [law_ok]; rfl), hpV.2.1.trans (by rw [law_ok]), hpV.2.2⟩, hP, hD⟩ hS (Nat.le_of_ble_eq_true rfl) (Nat.le_of_ble_eq_true rfl) dX9_law_17
set_option maxHeartbeats 4000000 in
set_option maxRecDepth 100000 in
theorem c_X9_find (l : Launch) (D : va_G) (cT : Nat → ClassId) (sz : Nat) (a : Nat → Nat) (b : Nat → Nat → Nat) (T P : Nat → Nat → Int32) (n : Nat → Nat) (wh wt we wo : Int32) (hn : Cnt n) (hI : InvT T n) (hpr : PR T (P 0)) : Met l yX9_find wsX9_find ({ frames := 4, cells := 1, slots := 11, locals := 86 }) (va_Pc [.ref (a 0), .int wh, .int wt, .int we, .int wo] (PW D cT (offW cT a b T P n) sz)) (QW (some (.int (if fiB T n wh wt we wo = true then nI (n 1) else -1))) ((poQ D cT a (if fiB T n wh wt we wo = true then fiT T n wh wt we wo else T) (if fiB T n wh wt we wo = true then va_up n 1 (n 1 + 1) else n)) (va_A (offW cT a b T P n) sz)) (va_A (offW cT a b T P n) sz)) 1 11 (va_A (offW cT a b T P n) sz) := by
  refine RW_of (Bp := (poQ D cT a (if fiB T n wh wt we wo = true then fiT T n wh wt we wo else T) (if fiB T n wh wt we wo = true then va_up n 1 (n 1 + 1) else n))) (by decide) rfl (Nat.le_of_ble_eq_true rfl) ?_
  intro p e s m below meth c A hx hb hr hts hown hlocks hin hml hE hD hA H locs hP hS ls hl
  have hiX1 : ∀ w ∈ wsX10, w ∈ wsX9_find := by decide +kernel
  have hiX9 : ∀ w ∈ wsX90, w ∈ wsX9_find := by decide +kernel
  have hl : lv_has ls 5 [(0, .ref (a 0)), (1, .int wh), (2, .int wt), (3, .int we), (4, .int wo)] := hl
  obtain ⟨hn0, hn1, hn2, hn3, hn4⟩ := id hn
  refine lv_aload_n hx hb dX9_find_0 rfl (lv_at hl 0 rfl) ?_
  refine va_get (D := D) (ci := 9) (v := .ref (a 7)) (C := RX9) (T := TX9) (N := 7) hx hb hts hiX9 hown hE.1 hP 0 ofl_0 rfl 3 (by decide) (hts (.fieldLink RX9 30 "FindsOffice" "findBook" "LFindsOffice$FindBook;") (by decide +kernel)) (fun _ h9 => h9) rfl dX9_find_1 ?_
  refine va_new (ci := 1) (fs := [.int 0, .int 0, .int 0, .int 0, .int 0, .int 0, .int 0, .int 0, .int 0, .int 0, .int 0]) (C := RX1) (T := TX1) (N := 11) hx hb hts hiX1 tyX1 tyX1_ok hown (hts (.classLink RX9 74 RX1) (by decide +kernel)) (hts (.instantiable RX1 11) (by decide +kernel)) (hts (.initialized RX1) (by decide +kernel)) hE.1 hP hD hS hA rfl (fun j hj => by rcases (show j = 0 ∨ j = 1 ∨ j = 2 ∨ j = 3 ∨ j = 4 ∨ j = 5 ∨ j = 6 ∨ j = 7 ∨ j = 8 ∨ j = 9 ∨ j = 10 by omega) with rfl | rfl | rfl | rfl | rfl | rfl | rfl | rfl | rfl | rfl | rfl <;> rfl) (Nat.le_of_ble_eq_true rfl) (Nat.le_of_ble_eq_true rfl) dX9_find_4 (fun q H hP hD hS => ?_)
  have hP := hP.rot
  have hD := hD.rot
  refine W.widen (k := 1) (n := 11) (by omega) (by omega) ?_
  have hPc := hP.at1 (k := 0) rfl
  have hDc := hD.at1 (k := 0) rfl
  refine lv_dup hx hb dX9_find_7 rfl ?_
  refine lv_iload_n hx hb dX9_find_8 rfl (lv_at hl 1 rfl) ?_
  refine lv_iload_n hx hb dX9_find_9 rfl (lv_at hl 2 rfl) ?_
  refine lv_iload_n hx hb dX9_find_10 rfl (lv_at hl 3 rfl) ?_
  refine lv_iload hx hb dX9_find_11 (lv_at hl 4 rfl) ?_
  refine lv_aload_n hx hb dX9_find_13 rfl (lv_at hl 0 rfl) ?_
  refine va_get (D := D) (ci := 9) (v := .int (T 0 0)) (C := RX9) (T := TX9) (N := 7) hx hb hts hiX9 hown hE.1 hP 1 (ofl_0 (cT := cT) (a := a) (b := b) (T := T) (P := P) (n := n)) rfl 0 (by decide) (hts (.fieldLink RX9 7 "FindsOffice" "now" "I") (by decide +kernel)) (fun _ h9 => h9) rfl dX9_find_14 ?_
  have hF := va_allA hDc hS hA
  refine rw_I0 (As := [.int wh, .int wt, .int we, .int wo, .int (T 0 0)]) (rest := [.ref q, .ref (a 7)]) ⟨hx, hb, hml, hown, hts⟩ (c_X1_init l D cT H.size q wh wt we wo (T 0 0) ) (cwI 5 hts gX9_find_X1_init rfl rfl rfl (hts (.initialized RX1) (by decide +kernel)) (hts (.methodLink RX9 76 yX1_init) (by decide +kernel)) (hts (.instanceMethod yX1_init) (by decide +kernel)) rfl (by decide +kernel) ⟨Nat.le_of_ble_eq_true rfl, Nat.le_of_ble_eq_true rfl⟩) hE hPc hDc hS hA  rfl hl.1 rfl (Nat.le_of_ble_eq_true rfl) dX9_find_17 ⟨Nat.le_of_ble_eq_true rfl, Nat.le_of_ble_eq_true rfl⟩ (fun H locs hB hz1 hk1 hS => ?_)
  obtain ⟨hP1, hD1⟩ := hB
  obtain ⟨hP, hD⟩ := join_set (k := 0) hP hD rfl hk1 hP1
  have hP : va_P D vwCl ((q, .inr (1, [.int (wh / 1000), .int (wh - wh / 1000 * 1000), .int (wt / 100000000), .int (wt / 10000 - wt / 10000 / 10000 * 10000), .int (if wt - wt / 10000 * 10000 = 0 then 10000 else wt - wt / 10000 * 10000), .int (we / 10000 - 3000), .int (we - we / 10000 * 10000 - 3000), .int (wo / 100), .int (wo - wo / 100 * 100), .int (T 0 0), .int (-1)])) :: offW cT a b T P n) H := hP
  have hD : va_D A ((q, .inr (1, [.int (wh / 1000), .int (wh - wh / 1000 * 1000), .int (wt / 100000000), .int (wt / 10000 - wt / 10000 / 10000 * 10000), .int (if wt - wt / 10000 * 10000 = 0 then 10000 else wt - wt / 10000 * 10000), .int (we / 10000 - 3000), .int (we - we / 10000 * 10000 - 3000), .int (wo / 100), .int (wo - wo / 100 * 100), .int (T 0 0), .int (-1)])) :: offW cT a b T P n) := hD
  have hF := va_allA hD hS hA
  refine rw_V1 (As := [.ref q]) (rest := []) ⟨hx, hb, hml, hown, hts⟩ (c_X2_enter l D cT H.size a b T P n q (wh / 1000) (wh - wh / 1000 * 1000) (wt / 100000000) (wt / 10000 - wt / 10000 / 10000 * 10000) (if wt - wt / 10000 * 10000 = 0 then 10000 else wt - wt / 10000 * 10000) (we / 10000 - 3000) (we - we / 10000 * 10000 - 3000) (wo / 100) (wo - wo / 100 * 100) (T 0 0) (-1) hn hpr) (cwV 1 hts gX9_find_X2_enter rfl rfl rfl (by decide +kernel) ⟨Nat.le_of_ble_eq_true rfl, Nat.le_of_ble_eq_true rfl⟩) hE hP hD hS hA 8 2 (ofl_7 (cT := cT) (a := a) (b := b) (T := T) (P := P) (n := n)) rfl rfl rfl hl.1 rfl (Nat.le_of_ble_eq_true rfl) dX9_find_20 ⟨Nat.le_of_ble_eq_true rfl, Nat.le_of_ble_eq_true rfl⟩ (fun H locs hB hz1 hk1 hS => ?_)
  obtain ⟨bV, PV, TV, nV, hpV, hP, hD1⟩ := hB
  have hD := hD1.weaken (fun _ q _ h => hF q.1 h)
  exact rw_iret hx hb hr hlocks (by rw [find_ok hI] <;> rfl) ⟨_, _, _, _, ⟨hpV.1.trans (by rw [find_ok hI]; rfl), hpV.2.1.trans (by rw [find_ok hI]), hpV.2.2⟩, hP, hD⟩ hS (Nat.le_of_ble_eq_true rfl) (Nat.le_of_ble_eq_true rfl) dX9_find_23
set_option maxHeartbeats 4000000 in
set_option maxRecDepth 100000 in
theorem c_X9_sale (l : Launch) (D : va_G) (cT : Nat → ClassId) (sz : Nat) (a : Nat → Nat) (b : Nat → Nat → Nat) (T P : Nat → Nat → Int32) (n : Nat → Nat) (me d we pr : Int32) (hn : Cnt n) (hI : InvT T n) (hpr : PR T (P 0)) : Met l yX9_sale wsX9_sale ({ frames := 4, cells := 1, slots := 4, locals := 83 }) (va_Pc [.ref (a 0), .int me, .int d, .int we, .int pr] (PW D cT (offW cT a b T P n) sz)) (QW (some (.int (if saB T n me d we pr = true then nI (saN (saT T n me d we pr) me (n 2 + 1)) else -1))) ((poQ D cT a (if saB T n me d we pr = true then saT T n me d we pr else T) (if saB T n me d we pr = true then va_up n 2 (n 2 + 1) else n)) (va_A (offW cT a b T P n) sz)) (va_A (offW cT a b T P n) sz)) 1 4 (va_A (offW cT a b T P n) sz) := by
  refine RW_of (Bp := (poQ D cT a (if saB T n me d we pr = true then saT T n me d we pr else T) (if saB T n me d we pr = true then va_up n 2 (n 2 + 1) else n))) (by decide) rfl (Nat.le_of_ble_eq_true rfl) ?_
  intro p e s m below meth c A hx hb hr hts hown hlocks hin hml hE hD hA H locs hP hS ls hl
  have hiX8 : ∀ w ∈ wsX80, w ∈ wsX9_sale := by decide +kernel
  have hiX9 : ∀ w ∈ wsX90, w ∈ wsX9_sale := by decide +kernel
  have hl : lv_has ls 5 [(0, .ref (a 0)), (1, .int me), (2, .int d), (3, .int we), (4, .int pr)] := hl
  obtain ⟨hn0, hn1, hn2, hn3, hn4⟩ := id hn
  refine lv_aload_n hx hb dX9_sale_0 rfl (lv_at hl 0 rfl) ?_
  refine lv_iload_n hx hb dX9_sale_1 rfl (lv_at hl 2 rfl) ?_
  refine ro_V (As := [.int d]) (rest := []) ⟨hx, hb, hml, hown, hts⟩ (c_X9_isPast l D cT a b T P n d hn) (cwV 1 hts gX9_sale_X9_isPast rfl rfl rfl (by decide +kernel) ⟨Nat.le_of_ble_eq_true rfl, Nat.le_of_ble_eq_true rfl⟩) hE hP 0 9 ofl_0 rfl rfl rfl hl.1 rfl (Nat.le_of_ble_eq_true rfl) dX9_sale_2 ⟨Nat.zero_le _, Nat.zero_le _⟩ ?_
  refine bi_eq (tgt := 30) hx hb dX9_sale_5 (by decide) (fun c_1 => ?_) (fun c_1 => ?_)
  · refine lv_iconst (v := (-1)) hx hb dX9_sale_30 (by decide) ?_
    exact rw_iret hx hb hr hlocks (by rw [if_neg (show ¬ saB T n me d we pr = true by simp [saB, c_1])]) ⟨_, _, _, _, ⟨(by rw [if_neg (show ¬ saB T n me d we pr = true by simp [saB, c_1])]), (by rw [if_neg (show ¬ saB T n me d we pr = true by simp [saB, c_1])]), hpr⟩, hP, hD⟩ hS (Nat.le_of_ble_eq_true rfl) (Nat.le_of_ble_eq_true rfl) dX9_sale_31
  · refine lv_aload_n hx hb dX9_sale_8 rfl (lv_at hl 0 rfl) ?_
    refine va_get (D := D) (ci := 9) (v := .ref (a 13)) (C := RX9) (T := TX9) (N := 7) hx hb hts hiX9 hown hE.1 hP 0 ofl_0 rfl 4 (by decide) (hts (.fieldLink RX9 37 "FindsOffice" "market" "LFindsOffice$Market;") (by decide +kernel)) (fun _ h9 => h9) rfl dX9_sale_9 ?_
    refine va_new (ci := 8) (fs := [.int 0, .int 0, .int 0, .int 0]) (C := RX8) (T := TX8) (N := 4) hx hb hts hiX8 tyX8 tyX8_ok hown (hts (.classLink RX9 142 RX8) (by decide +kernel)) (hts (.instantiable RX8 4) (by decide +kernel)) (hts (.initialized RX8) (by decide +kernel)) hE.1 hP hD hS hA rfl (fun j hj => by rcases (show j = 0 ∨ j = 1 ∨ j = 2 ∨ j = 3 by omega) with rfl | rfl | rfl | rfl <;> rfl) (Nat.le_of_ble_eq_true rfl) (Nat.le_of_ble_eq_true rfl) dX9_sale_12 (fun q H hP hD hS => ?_)
    have hP := hP.rot
    have hD := hD.rot
    refine W.widen (k := 1) (n := 4) (by omega) (by omega) ?_
    have hPc := hP.at1 (k := 0) rfl
    have hDc := hD.at1 (k := 0) rfl
    refine lv_dup hx hb dX9_sale_15 rfl ?_
    refine lv_iload_n hx hb dX9_sale_16 rfl (lv_at hl 1 rfl) ?_
    refine lv_iload_n hx hb dX9_sale_17 rfl (lv_at hl 2 rfl) ?_
    refine lv_iload_n hx hb dX9_sale_18 rfl (lv_at hl 3 rfl) ?_
    refine lv_iload hx hb dX9_sale_19 (lv_at hl 4 rfl) ?_
    have hF := va_allA hDc hS hA
    refine rw_I0 (As := [.int me, .int d, .int we, .int pr]) (rest := [.ref q, .ref (a 13)]) ⟨hx, hb, hml, hown, hts⟩ (c_X8_init l D cT H.size q me d we pr ) (cwI 4 hts gX9_sale_X8_init rfl rfl rfl (hts (.initialized RX8) (by decide +kernel)) (hts (.methodLink RX9 144 yX8_init) (by decide +kernel)) (hts (.instanceMethod yX8_init) (by decide +kernel)) rfl (by decide +kernel) ⟨Nat.le_of_ble_eq_true rfl, Nat.le_of_ble_eq_true rfl⟩) hE hPc hDc hS hA  rfl hl.1 rfl (Nat.le_of_ble_eq_true rfl) dX9_sale_21 ⟨Nat.le_of_ble_eq_true rfl, Nat.le_of_ble_eq_true rfl⟩ (fun H locs hB hz1 hk1 hS => ?_)
    obtain ⟨hP1, hD1⟩ := hB
    obtain ⟨hP, hD⟩ := join_set (k := 0) hP hD rfl hk1 hP1
    have hP : va_P D vwCl ((q, .inr (8, [.int me, .int d, .int we, .int pr])) :: offW cT a b T P n) H := hP
    have hD : va_D A ((q, .inr (8, [.int me, .int d, .int we, .int pr])) :: offW cT a b T P n) := hD
    have hF := va_allA hD hS hA
    refine rw_V1 (As := [.ref q]) (rest := []) ⟨hx, hb, hml, hown, hts⟩ (c_X6_enter l D cT H.size a b T P n q me d we pr hn hpr) (cwV 1 hts gX9_sale_X6_enter rfl rfl rfl (by decide +kernel) ⟨Nat.le_of_ble_eq_true rfl, Nat.le_of_ble_eq_true rfl⟩) hE hP hD hS hA 14 6 (ofl_13 (cT := cT) (a := a) (b := b) (T := T) (P := P) (n := n)) rfl rfl rfl hl.1 rfl (Nat.le_of_ble_eq_true rfl) dX9_sale_24 ⟨Nat.le_of_ble_eq_true rfl, Nat.le_of_ble_eq_true rfl⟩ (fun H locs hB hz1 hk1 hS => ?_)
    obtain ⟨bV, PV, TV, nV, hpV, hP, hD1⟩ := hB
    have hD := hD1.weaken (fun _ q _ h => hF q.1 h)
    refine lv_goto (tgt := 31) hx hb dX9_sale_27 (by decide) ?_
    exact rw_iret hx hb hr hlocks (by rw [sale_ok hI c_1] <;> rfl) ⟨_, _, _, _, ⟨hpV.1.trans (by rw [sale_ok hI c_1]; rfl), hpV.2.1.trans (by rw [sale_ok hI c_1]), hpV.2.2⟩, hP, hD⟩ hS (Nat.le_of_ble_eq_true rfl) (Nat.le_of_ble_eq_true rfl) dX9_sale_31
set_option maxHeartbeats 4000000 in
set_option maxRecDepth 100000 in
theorem c_X9_museum (l : Launch) (D : va_G) (cT : Nat → ClassId) (sz : Nat) (a : Nat → Nat) (b : Nat → Nat → Nat) (T P : Nat → Nat → Int32) (n : Nat → Nat) (me wo : Int32) (hn : Cnt n) (hI : InvT T n) (hpr : PR T (P 0)) (h35 : T 35 (n 3) = 0) : Met l yX9_museum wsX9_museum ({ frames := 3, cells := 1, slots := 3, locals := 63 }) (va_Pc [.ref (a 0), .int me, .int wo] (PW D cT (offW cT a b T P n) sz)) (QW (some (.int (if muB n me wo = true then nI (n 3) else -1))) ((poQ D cT a (if muB n me wo = true then muT T n me wo else T) (if muB n me wo = true then va_up n 3 (n 3 + 1) else n)) (va_A (offW cT a b T P n) sz)) (va_A (offW cT a b T P n) sz)) 1 3 (va_A (offW cT a b T P n) sz) := by
  refine RW_of (Bp := (poQ D cT a (if muB n me wo = true then muT T n me wo else T) (if muB n me wo = true then va_up n 3 (n 3 + 1) else n))) (by decide) rfl (Nat.le_of_ble_eq_true rfl) ?_
  intro p e s m below meth c A hx hb hr hts hown hlocks hin hml hE hD hA H locs hP hS ls hl
  have hiX7 : ∀ w ∈ wsX70, w ∈ wsX9_museum := by decide +kernel
  have hiX9 : ∀ w ∈ wsX90, w ∈ wsX9_museum := by decide +kernel
  have hl : lv_has ls 3 [(0, .ref (a 0)), (1, .int me), (2, .int wo)] := hl
  obtain ⟨hn0, hn1, hn2, hn3, hn4⟩ := id hn
  refine lv_aload_n hx hb dX9_museum_0 rfl (lv_at hl 0 rfl) ?_
  refine va_get (D := D) (ci := 9) (v := .ref (a 16)) (C := RX9) (T := TX9) (N := 7) hx hb hts hiX9 hown hE.1 hP 0 ofl_0 rfl 5 (by decide) (hts (.fieldLink RX9 44 "FindsOffice" "circle" "LFindsOffice$Circle;") (by decide +kernel)) (fun _ h9 => h9) rfl dX9_museum_1 ?_
  refine va_new (ci := 7) (fs := [.int 0, .int 0, .int 0]) (C := RX7) (T := TX7) (N := 3) hx hb hts hiX7 tyX7 tyX7_ok hown (hts (.classLink RX9 181 RX7) (by decide +kernel)) (hts (.instantiable RX7 3) (by decide +kernel)) (hts (.initialized RX7) (by decide +kernel)) hE.1 hP hD hS hA rfl (fun j hj => by rcases (show j = 0 ∨ j = 1 ∨ j = 2 by omega) with rfl | rfl | rfl <;> rfl) (Nat.le_of_ble_eq_true rfl) (Nat.le_of_ble_eq_true rfl) dX9_museum_4 (fun q H hP hD hS => ?_)
  have hP := hP.rot
  have hD := hD.rot
  refine W.widen (k := 1) (n := 3) (by omega) (by omega) ?_
  have hPc := hP.at1 (k := 0) rfl
  have hDc := hD.at1 (k := 0) rfl
  refine lv_dup hx hb dX9_museum_7 rfl ?_
  refine lv_iload_n hx hb dX9_museum_8 rfl (lv_at hl 1 rfl) ?_
  refine lv_iload_n hx hb dX9_museum_9 rfl (lv_at hl 2 rfl) ?_
  have hF := va_allA hDc hS hA
  refine rw_I0 (As := [.int me, .int wo]) (rest := [.ref q, .ref (a 16)]) ⟨hx, hb, hml, hown, hts⟩ (c_X7_init l D cT H.size q me wo ) (cwI 2 hts gX9_museum_X7_init rfl rfl rfl (hts (.initialized RX7) (by decide +kernel)) (hts (.methodLink RX9 183 yX7_init) (by decide +kernel)) (hts (.instanceMethod yX7_init) (by decide +kernel)) rfl (by decide +kernel) ⟨Nat.le_of_ble_eq_true rfl, Nat.le_of_ble_eq_true rfl⟩) hE hPc hDc hS hA  rfl hl.1 rfl (Nat.le_of_ble_eq_true rfl) dX9_museum_10 ⟨Nat.le_of_ble_eq_true rfl, Nat.le_of_ble_eq_true rfl⟩ (fun H locs hB hz1 hk1 hS => ?_)
  obtain ⟨hP1, hD1⟩ := hB
  obtain ⟨hP, hD⟩ := join_set (k := 0) hP hD rfl hk1 hP1
  have hP : va_P D vwCl ((q, .inr (7, [.int me, .int wo, .int 0])) :: offW cT a b T P n) H := hP
  have hD : va_D A ((q, .inr (7, [.int me, .int wo, .int 0])) :: offW cT a b T P n) := hD
  have hF := va_allA hD hS hA
  refine rw_V1 (As := [.ref q]) (rest := []) ⟨hx, hb, hml, hown, hts⟩ (c_X0_enter l D cT H.size a b T P n q me wo 0 hn hpr) (cwV 1 hts gX9_museum_X0_enter rfl rfl rfl (by decide +kernel) ⟨Nat.le_of_ble_eq_true rfl, Nat.le_of_ble_eq_true rfl⟩) hE hP hD hS hA 17 0 (ofl_16 (cT := cT) (a := a) (b := b) (T := T) (P := P) (n := n)) rfl rfl rfl hl.1 rfl (Nat.le_of_ble_eq_true rfl) dX9_museum_13 ⟨Nat.le_of_ble_eq_true rfl, Nat.le_of_ble_eq_true rfl⟩ (fun H locs hB hz1 hk1 hS => ?_)
  obtain ⟨bV, PV, TV, nV, hpV, hP, hD1⟩ := hB
  have hD := hD1.weaken (fun _ q _ h => hF q.1 h)
  exact rw_iret hx hb hr hlocks (by rw [mus_ok] <;> rfl) ⟨_, _, _, _, ⟨hpV.1.trans (by rw [mus_ok, mus_T h35]), hpV.2.1.trans (by rw [mus_ok]), hpV.2.2⟩, hP, hD⟩ hS (Nat.le_of_ble_eq_true rfl) (Nat.le_of_ble_eq_true rfl) dX9_museum_16
set_option maxHeartbeats 4000000 in
set_option maxRecDepth 100000 in
theorem c_X0_sell (l : Launch) (D : va_G) (cT : Nat → ClassId) (sz : Nat) (a : Nat → Nat) (b : Nat → Nat → Nat) (T P : Nat → Nat → Int32) (n : Nat → Nat) (me w : Int32) (hn : Cnt n) (hI : InvT T n) (hpr : PR T (P 0)) : Met l yX0_sell wsX0_sell ({ frames := 1, cells := 0, slots := 0, locals := 22 }) (va_Pc [.ref (a 16), .int me, .int w] (PW D cT (offW cT a b T P n) sz)) (QW (some (.int (oI (ofO T n me w (nxV (n 3) (T 36 0)).toNatClampNeg (n 3))))) ((poO D cT a b (slT T w (ofO T n me w (nxV (n 3) (T 36 0)).toNatClampNeg (n 3))) n (fun P1 => P1 0 = P 0)) (va_A (offW cT a b T P n) sz)) (va_A (offW cT a b T P n) sz)) 0 0 (va_A (offW cT a b T P n) sz) := by
  refine RW_of (Bp := (poO D cT a b (slT T w (ofO T n me w (nxV (n 3) (T 36 0)).toNatClampNeg (n 3))) n (fun P1 => P1 0 = P 0))) (by decide) rfl (Nat.le_of_ble_eq_true rfl) ?_
  intro p e s m below meth c A hx hb hr hts hown hlocks hin hml hE hD hA H locs hP hS ls hl
  have hiX0 : ∀ w ∈ wsX00, w ∈ wsX0_sell := by decide +kernel
  have hiX7 : ∀ w ∈ wsX70, w ∈ wsX0_sell := by decide +kernel
  have hl : lv_has ls 7 [(0, .ref (a 16)), (1, .int me), (2, .int w)] := hl
  obtain ⟨hn0, hn1, hn2, hn3, hn4⟩ := id hn
  refine lv_aload_n hx hb dX0_sell_0 rfl (lv_at hl 0 rfl) ?_
  refine ro_V (As := []) (rest := []) ⟨hx, hb, hml, hown, hts⟩ (c_X0_next l D cT a b T P n hn) (cwV 0 hts gX0_sell_X0_next rfl rfl rfl (by decide +kernel) ⟨Nat.le_of_ble_eq_true rfl, Nat.le_of_ble_eq_true rfl⟩) hE hP 16 0 ofl_16 rfl rfl rfl hl.1 rfl (Nat.le_of_ble_eq_true rfl) dX0_sell_1 ⟨Nat.zero_le _, Nat.zero_le _⟩ ?_
  refine lv_istore_n (lv' := [(3, .int (nxV (n 3) (T 36 0))), (0, .ref (a 16)), (1, .int me), (2, .int w)]) hx hb dX0_sell_4 rfl hl (by decide) rfl (fun ls hl => ?_)
  refine lv_iconst (v := 0) hx hb dX0_sell_5 (by decide) ?_
  refine lv_istore (lv' := [(4, .int 0), (3, .int (nxV (n 3) (T 36 0))), (0, .ref (a 16)), (1, .int me), (2, .int w)]) hx hb dX0_sell_6 hl (by decide) rfl (fun ls hl => ?_)
  have loop_8 : ∀ (fuel_8 : Nat) (j : Nat), j ≤ n 3 → ofO T n me w (nxV (n 3) (T 36 0)).toNatClampNeg (n 3 - j) = ofO T n me w (nxV (n 3) (T 36 0)).toNatClampNeg (n 3) → n 3 - j < fuel_8 → ∀ (H : Heap) (locs : List Loc), va_P D vwCl (offW cT a b T P n) H → va_D A (offW cT a b T P n) → va_S A s.heap H locs → ∀ (ls : Array Slot), lv_has ls 7 [(0, .ref (a 16)), (1, .int me), (2, .int w), (3, .int (nxV (n 3) (T 36 0))), (4, .int (nI j))] → W p l e ({ frames := 1, cells := 0, slots := 0, locals := 22 }) s m (List.toArray [.ref (a 16), .int me, .int w]) below meth c H locs 0 0 (MQ below (QW (some (.int (oI (ofO T n me w (nxV (n 3) (T 36 0)).toNatClampNeg (n 3))))) ((poO D cT a b (slT T w (ofO T n me w (nxV (n 3) (T 36 0)).toNatClampNeg (n 3))) n (fun P1 => P1 0 = P 0)) A) A) (List.toArray [.ref (a 16), .int me, .int w]) s 0 0 A) (F0 m 8 ls []) := by
    intro fuel_8
    induction fuel_8 with
    | zero => intro j hj hs hfuel_8; exact absurd hfuel_8 (Nat.not_lt_zero _)
    | succ fuel_8 ih_8 =>
      intro j hj hs hfuel_8 H locs hP hD hS ls hl
      refine lv_iload hx hb dX0_sell_8 (lv_at hl 4 rfl) ?_
      refine lv_aload_n hx hb dX0_sell_10 rfl (lv_at hl 0 rfl) ?_
      refine va_get (D := D) (ci := 0) (v := .int (nI (n 3))) (C := RX0) (T := TX0) (N := 3) hx hb hts hiX0 hown hE.1 hP 16 ofl_16 rfl 1 (by decide) (hts (.fieldLink RX0 17 "FindsOffice$Circle" "told" "I") (by decide +kernel)) (fun _ h9 => h9) rfl dX0_sell_11 ?_
      refine lv_icmp_ge (tgt := 97) hx hb dX0_sell_14 (by decide) (fun c_1 => ?_) (fun c_1 => ?_)
      · have k_1 := nat_le (a := (n 3)) (b := j) c_1 (by omega) (by omega)
        refine lv_iconst (v := (-1)) hx hb dX0_sell_97 (by decide) ?_
        exact rw_iret hx hb hr hlocks (by rw [← hs, show n 3 - j = 0 by omega]; rfl) ⟨_, rfl, (by rw [← hs, show n 3 - j = 0 by omega]; exact hP), (by rw [← hs, show n 3 - j = 0 by omega]; exact hD)⟩ hS (Nat.le_of_ble_eq_true rfl) (Nat.le_of_ble_eq_true rfl) dX0_sell_98
      · have k_1 := nat_nle (a := (n 3)) (b := j) c_1 (by omega) (by omega)
        have hjl : j < n 3 := by omega
        obtain ⟨f, hf, hfe⟩ := nx_nat hn3 hI.2.2.2.2.2.2.2.2.1 hI.2.2.2.2.2.2.2.2.2 (show n 3 ≠ 0 by omega)
        have hml3 : (f + j) % n 3 < n 3 := Nat.mod_lt _ (by omega)
        rw [hfe, nI_clamp (show f < 2 ^ 31 by omega)] at hs
        have J_44 : ∀ (jv : Int32), jv = (nI ((f + j) % n 3)) → ∀ (ls : Array Slot), lv_has ls 7 [(0, .ref (a 16)), (1, .int me), (2, .int w), (3, .int (nxV (n 3) (T 36 0))), (4, .int (nI j))] → W p l e ({ frames := 1, cells := 0, slots := 0, locals := 22 }) s m (List.toArray [.ref (a 16), .int me, .int w]) below meth c H locs 0 0 (MQ below (QW (some (.int (oI (ofO T n me w (nxV (n 3) (T 36 0)).toNatClampNeg (n 3))))) ((poO D cT a b (slT T w (ofO T n me w (nxV (n 3) (T 36 0)).toNatClampNeg (n 3))) n (fun P1 => P1 0 = P 0)) A) A) (List.toArray [.ref (a 16), .int me, .int w]) s 0 0 A) (F0 m 44 ls [.int jv]) := by
          intro jv hjv ls hl
          subst hjv
          refine lv_istore (lv' := [(5, .int (nI ((f + j) % n 3))), (0, .ref (a 16)), (1, .int me), (2, .int w), (3, .int (nxV (n 3) (T 36 0))), (4, .int (nI j))]) hx hb dX0_sell_44 hl (by decide) rfl (fun ls hl => ?_)
          refine lv_aload_n hx hb dX0_sell_46 rfl (lv_at hl 1 rfl) ?_
          refine lv_iload hx hb dX0_sell_47 (lv_at hl 0 rfl) ?_
          refine ro_V (As := [.int (nI ((f + j) % n 3))]) (rest := []) ⟨hx, hb, hml, hown, hts⟩ (c_X0_numbered l D cT a b T P n (nI ((f + j) % n 3)) hn) (cwV 1 hts gX0_sell_X0_numbered rfl rfl rfl (by decide +kernel) ⟨Nat.le_of_ble_eq_true rfl, Nat.le_of_ble_eq_true rfl⟩) hE hP 16 0 ofl_16 rfl rfl rfl hl.1 rfl (Nat.le_of_ble_eq_true rfl) dX0_sell_49 ⟨Nat.zero_le _, Nat.zero_le _⟩ ?_
          refine topv_eq (nuV_at (k := (f + j) % n 3) (by omega) (by omega)) ?_
          refine lv_astore (lv' := [(6, .ref (b 3 ((f + j) % n 3))), (5, .int (nI ((f + j) % n 3))), (0, .ref (a 16)), (1, .int me), (2, .int w), (3, .int (nxV (n 3) (T 36 0))), (4, .int (nI j))]) hx hb dX0_sell_52 hl (by decide) rfl (fun ls hl => ?_)
          refine lv_aload hx hb dX0_sell_54 (lv_at hl 0 rfl) ?_
          refine lv_ifnull hx hb dX0_sell_56 ?_
          refine lv_aload hx hb dX0_sell_59 (lv_at hl 0 rfl) ?_
          refine lv_iload_n hx hb dX0_sell_61 rfl (lv_at hl 3 rfl) ?_
          refine lv_iload_n hx hb dX0_sell_62 rfl (lv_at hl 4 rfl) ?_
          have hq_2 := off_museum (k := (f + j) % n 3) hP (by omega)
          refine ro_V (As := [.int me, .int w]) (rest := []) ⟨hx, hb, hml, hown, hts⟩ (c_X7_takes l D cT (b 3 ((f + j) % n 3)) (T 33 ((f + j) % n 3)) (T 34 ((f + j) % n 3)) (T 35 ((f + j) % n 3)) me w ) (cwV 2 hts gX0_sell_X7_takes rfl rfl rfl (by decide +kernel) ⟨Nat.le_of_ble_eq_true rfl, Nat.le_of_ble_eq_true rfl⟩) hE hq_2 0 7 rfl rfl rfl rfl hl.1 rfl (Nat.le_of_ble_eq_true rfl) dX0_sell_63 ⟨Nat.zero_le _, Nat.zero_le _⟩ ?_
          refine bi_eq (tgt := 91) hx hb dX0_sell_66 (by decide) (fun c_3 => ?_) (fun c_3 => ?_)
          · refine lv_iinc (v := nI (j + 1)) (lv' := [(4, .int (nI (j + 1))), (6, .ref (b 3 ((f + j) % n 3))), (5, .int (nI ((f + j) % n 3))), (0, .ref (a 16)), (1, .int me), (2, .int w), (3, .int (nxV (n 3) (T 36 0)))]) hx hb dX0_sell_91 hl (k := 6) rfl (nI_1 _) (by decide) rfl (fun ls hl => ?_)
            refine lv_goto (tgt := 8) hx hb dX0_sell_94 (by decide) ?_
            exact ih_8 (j + 1) (by omega) (by rw [hfe, nI_clamp (show f < 2 ^ 31 by omega), ← hs, of_step hjl, if_neg (show ¬ tkB T ((f + j) % n 3) me w = true by rw [show tkB T ((f + j) % n 3) me w = false from c_3]; decide)]) (by omega) H locs hP hD hS ls (lv_sub hl [3, 4, 5, 6, 0] rfl)
          · refine lv_aload hx hb dX0_sell_69 (lv_at hl 0 rfl) ?_
            refine lv_dup hx hb dX0_sell_71 rfl ?_
            refine va_get (D := D) (ci := 7) (v := .int (T 35 ((f + j) % n 3))) (C := RX7) (T := TX7) (N := 3) hx hb hts hiX7 hown hE.1 hq_2 0 rfl rfl 2 (by decide) (hts (.fieldLink RX0 40 "FindsOffice$Museum" "outlay" "I") (by decide +kernel)) (fun _ h9 => h9) rfl dX0_sell_72 ?_
            refine lv_iload_n hx hb dX0_sell_75 rfl (lv_at hl 4 rfl) ?_
            refine lv_iadd hx hb dX0_sell_76 ?_
            have hres : ofO T n me w (nxV (n 3) (T 36 0)).toNatClampNeg (n 3) = some ((f + j) % n 3) := by rw [hfe, nI_clamp (show f < 2 ^ 31 by omega), ← hs, of_step hjl, if_pos (show tkB T ((f + j) % n 3) me w = true from c_3)]
            refine va_put (D := D) (ci := 7) (v := .int ((T 35 ((f + j) % n 3)) + w)) (ty := .int) (C := RX7) (T := TX7) (N := 3) hx hb hts hiX7 tyX7 tyX7_ok nmX7 hown hE.1 hP hD hS (19 + (n 0 + (n 1 + (n 2 + (f + j) % n 3)))) (ofm_get hml3) rfl 2 (by decide) (hts (.fieldLink RX0 40 "FindsOffice$Museum" "outlay" "I") (by decide +kernel)) (fun _ h9 => h9) rfl (by decide +kernel) rfl rfl (Nat.le_of_ble_eq_true rfl) dX0_sell_77 (fun H locs hP hD hS => ?_)
            rw [ofm_set hml3] at hP hD
            refine lv_aload_n hx hb dX0_sell_80 rfl (lv_at hl 2 rfl) ?_
            refine lv_iload hx hb dX0_sell_81 (lv_at hl 1 rfl) ?_
            refine lv_iconst (v := 1) hx hb dX0_sell_83 (by decide) ?_
            refine lv_iadd hx hb dX0_sell_84 ?_
            refine va_put (D := D) (ci := 0) (v := .int ((nI ((f + j) % n 3)) + 1)) (ty := .int) (C := RX0) (T := TX0) (N := 3) hx hb hts hiX0 tyX0 tyX0_ok nmX0 hown hE.1 hP hD hS 16 ofl_16 rfl 2 (by decide) (hts (.fieldLink RX0 21 "FindsOffice$Circle" "behindLatest" "I") (by decide +kernel)) (fun _ h9 => h9) rfl (by decide +kernel) rfl rfl (Nat.le_of_ble_eq_true rfl) dX0_sell_85 (fun H locs hP hD hS => ?_)
            rw [ofp_16_2] at hP hD
            refine lv_iload hx hb dX0_sell_88 (lv_at hl 1 rfl) ?_
            exact rw_iret hx hb hr hlocks (by rw [hres]; rfl) ⟨_, rfl, (by rw [hres]; exact hP), (by rw [hres]; exact hD)⟩ hS (Nat.le_of_ble_eq_true rfl) (Nat.le_of_ble_eq_true rfl) dX0_sell_90
        refine lv_iload_n hx hb dX0_sell_17 rfl (lv_at hl 3 rfl) ?_
        refine lv_iload hx hb dX0_sell_18 (lv_at hl 4 rfl) ?_
        refine lv_iadd hx hb dX0_sell_20 ?_
        refine lv_aload_n hx hb dX0_sell_21 rfl (lv_at hl 0 rfl) ?_
        refine va_get (D := D) (ci := 0) (v := .int (nI (n 3))) (C := RX0) (T := TX0) (N := 3) hx hb hts hiX0 hown hE.1 hP 16 ofl_16 rfl 1 (by decide) (hts (.fieldLink RX0 17 "FindsOffice$Circle" "told" "I") (by decide +kernel)) (fun _ h9 => h9) rfl dX0_sell_22 ?_
        refine lv_icmp_ge (tgt := 35) hx hb dX0_sell_25 (by decide) (fun c_4 => ?_) (fun c_4 => ?_)
        · refine lv_iload_n hx hb dX0_sell_35 rfl (lv_at hl 3 rfl) ?_
          refine lv_iload hx hb dX0_sell_36 (lv_at hl 4 rfl) ?_
          refine lv_iadd hx hb dX0_sell_38 ?_
          refine lv_aload_n hx hb dX0_sell_39 rfl (lv_at hl 0 rfl) ?_
          refine va_get (D := D) (ci := 0) (v := .int (nI (n 3))) (C := RX0) (T := TX0) (N := 3) hx hb hts hiX0 hown hE.1 hP 16 ofl_16 rfl 1 (by decide) (hts (.fieldLink RX0 17 "FindsOffice$Circle" "told" "I") (by decide +kernel)) (fun _ h9 => h9) rfl dX0_sell_40 ?_
          refine lv_isub hx hb dX0_sell_43 ?_
          exact J_44 _ (sel_ge hfe hf hjl hn3 c_4) ls (lv_sub hl [0, 1, 2, 3, 4] rfl)
        · refine lv_iload_n hx hb dX0_sell_28 rfl (lv_at hl 3 rfl) ?_
          refine lv_iload hx hb dX0_sell_29 (lv_at hl 4 rfl) ?_
          refine lv_iadd hx hb dX0_sell_31 ?_
          refine lv_goto (tgt := 44) hx hb dX0_sell_32 (by decide) ?_
          exact J_44 _ (sel_lt hfe hf hjl hn3 c_4) ls (lv_sub hl [0, 1, 2, 3, 4] rfl)
  exact loop_8 _ 0 (by omega) rfl (Nat.lt_succ_self _) H locs hP hD hS ls (lv_sub hl [2, 3, 4, 1, 0] rfl)
