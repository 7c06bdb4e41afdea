set_option maxHeartbeats 4000000 in
set_option maxRecDepth 100000 in
theorem c_X10_go (l : Launch) (D : va_G) (cT : Nat → ClassId) (sz : Nat) (a : Nat → Nat) (T : Nat → Nat → Int32) (n : Nat → Nat) (z : Nat → Int32) (d : Int32) (hn : Cnt n) : Met l yX10_go wsX10_go ({ frames := 1, cells := 0, slots := 0, locals := 22 }) (va_Pc [.ref (a 0), .int d] (PW D cT (modW cT a T n z) sz)) (QW (some (.int (goV T d))) ((poN D cT a (goT T d) n) (va_A (modW cT a T n z) sz)) (va_A (modW cT a T n z) sz)) 0 0 (va_A (modW cT a T n z) sz) := by
  refine RW_of (Bp := (poN D cT a (goT T d) n)) (by decide) rfl (Nat.le_of_ble_eq_true rfl) ?_
  intro p e s m below meth c A hx hb hr hts hown hlocks hin hml hE hD hA H locs hP hS ls hl
  have hiX10 : ∀ w ∈ wsX100, w ∈ wsX10_go := by decide +kernel
  have hl : lv_has ls 2 [(0, .ref (a 0)), (1, .int d)] := hl
  obtain ⟨hn0, hn1, hn2, hn3, hn4⟩ := id hn
  refine lv_iload_n hx hb dX10_go_0 rfl (lv_at hl 1 rfl) ?_
  refine lv_iconst (v := 0) hx hb dX10_go_1 (by decide) ?_
  refine lv_sipush (v := 20000) hx hb dX10_go_2 (by decide) ?_
  refine ro_S (As := [.int d, .int 0, .int 20000]) (rest := []) ⟨hx, hb, hml, hown, hts⟩ (c_X10_in l D cT d 0 20000 ) (va_cwS 3 hts gX10_go_X10_in rfl rfl rfl (by decide +kernel) ⟨Nat.le_of_ble_eq_true rfl, Nat.le_of_ble_eq_true rfl⟩) hE va_P_nil  rfl hl.1 rfl (Nat.le_of_ble_eq_true rfl) dX10_go_5 ⟨Nat.zero_le _, Nat.zero_le _⟩ ?_
  refine bi_ne (tgt := 13) hx hb dX10_go_8 (by decide) (fun c_1 => ?_) (fun c_1 => ?_)
  · refine lv_aload_n hx hb dX10_go_13 rfl (lv_at hl 0 rfl) ?_
    have J_38 : ∀ (jv : Int32), jv = (if 20000 < T 0 0 + d then 20000 else T 0 0 + d) → ∀ (ls : Array Slot), lv_has ls 2 [(0, .ref (a 0)), (1, .int d)] → W p l e ({ frames := 1, cells := 0, slots := 0, locals := 22 }) s m (List.toArray [.ref (a 0), .int d]) below meth c H locs 0 0 (MQ below (QW (some (.int (goV T d))) ((poN D cT a (goT T d) n) A) A) (List.toArray [.ref (a 0), .int d]) s 0 0 A) (F0 m 38 ls [.int jv, .ref (a 0)]) := by
      intro jv hjv ls hl
      subst hjv
      refine va_put (D := D) (ci := 10) (v := .int (if 20000 < T 0 0 + d then 20000 else T 0 0 + d)) (ty := .int) (C := RX10) (T := TX10) (N := 38) hx hb hts hiX10 tyX10 tyX10_ok nmX10 hown hE.1 hP hD hS 0 mol_0 rfl 0 (by decide) (hts (.fieldLink RX10 113 "FindsOfficeModel" "now" "I") (by decide +kernel)) (fun _ h9 => h9) rfl (by decide +kernel) rfl rfl (Nat.le_of_ble_eq_true rfl) dX10_go_38 (fun H locs hP hD hS => ?_)
      rw [mos_0] at hP hD
      refine lv_aload_n hx hb dX10_go_41 rfl (lv_at hl 0 rfl) ?_
      refine va_get (D := D) (ci := 10) (v := .int ((va_up T 0 (fun _ => if 20000 < T 0 0 + d then 20000 else T 0 0 + d)) 0 0)) (C := RX10) (T := TX10) (N := 38) hx hb hts hiX10 hown hE.1 hP 0 mol_0 rfl 0 (by decide) (hts (.fieldLink RX10 113 "FindsOfficeModel" "now" "I") (by decide +kernel)) (fun _ h9 => h9) rfl dX10_go_42 ?_
      exact rw_iret hx hb hr hlocks (by rw [goV, if_pos c_1]; rfl) ⟨_, _, _, ⟨(by rw [goT, if_pos c_1]), rfl⟩, hP, hD⟩ hS (Nat.le_of_ble_eq_true rfl) (Nat.le_of_ble_eq_true rfl) dX10_go_45
    refine lv_aload_n hx hb dX10_go_14 rfl (lv_at hl 0 rfl) ?_
    refine va_get (D := D) (ci := 10) (v := .int (T 0 0)) (C := RX10) (T := TX10) (N := 38) hx hb hts hiX10 hown hE.1 hP 0 mol_0 rfl 0 (by decide) (hts (.fieldLink RX10 113 "FindsOfficeModel" "now" "I") (by decide +kernel)) (fun _ h9 => h9) rfl dX10_go_15 ?_
    refine lv_iload_n hx hb dX10_go_18 rfl (lv_at hl 1 rfl) ?_
    refine lv_iadd hx hb dX10_go_19 ?_
    refine lv_sipush (v := 20000) hx hb dX10_go_20 (by decide) ?_
    refine lv_icmp_le (tgt := 32) hx hb dX10_go_23 (by decide) (fun c_2 => ?_) (fun c_2 => ?_)
    · refine lv_aload_n hx hb dX10_go_32 rfl (lv_at hl 0 rfl) ?_
      refine va_get (D := D) (ci := 10) (v := .int (T 0 0)) (C := RX10) (T := TX10) (N := 38) hx hb hts hiX10 hown hE.1 hP 0 mol_0 rfl 0 (by decide) (hts (.fieldLink RX10 113 "FindsOfficeModel" "now" "I") (by decide +kernel)) (fun _ h9 => h9) rfl dX10_go_33 ?_
      refine lv_iload_n hx hb dX10_go_36 rfl (lv_at hl 1 rfl) ?_
      refine lv_iadd hx hb dX10_go_37 ?_
      exact J_38 _ (by rw [if_neg (Int32.not_lt.mpr c_2)]) ls (lv_sub hl [0, 1] rfl)
    · refine lv_sipush (v := 20000) hx hb dX10_go_26 (by decide) ?_
      refine lv_goto (tgt := 38) hx hb dX10_go_29 (by decide) ?_
      exact J_38 _ (by rw [if_pos (Int32.not_le.mp c_2)]) ls (lv_sub hl [0, 1] rfl)
  · refine lv_iconst (v := (-1)) hx hb dX10_go_11 (by decide) ?_
    exact rw_iret hx hb hr hlocks (by simp [goV, c_1]) ⟨_, _, _, ⟨(by simp [goT, c_1]), rfl⟩, hP, hD⟩ hS (Nat.le_of_ble_eq_true rfl) (Nat.le_of_ble_eq_true rfl) dX10_go_12
set_option maxHeartbeats 4000000 in
set_option maxRecDepth 100000 in
theorem c_X10_law (l : Launch) (D : va_G) (cT : Nat → ClassId) (sz : Nat) (a : Nat → Nat) (T : Nat → Nat → Int32) (n : Nat → Nat) (z : Nat → Int32) (d w t : Int32) (hn : Cnt n) : Met l yX10_law wsX10_law ({ frames := 1, cells := 0, slots := 0, locals := 22 }) (va_Pc [.ref (a 0), .int d, .int w, .int t] (PW D cT (modW cT a T n z) sz)) (QW (some (.int (if lwB n d w t = true then nI (n 0 + 1) else -1))) ((poN D cT a (if lwB n d w t = true then lwT T n d w t else T) (if lwB n d w t = true then va_up n 0 (n 0 + 1) else n)) (va_A (modW cT a T n z) sz)) (va_A (modW cT a T n z) sz)) 0 0 (va_A (modW cT a T n z) sz) := by
  refine RW_of (Bp := (poN D cT a (if lwB n d w t = true then lwT T n d w t else T) (if lwB n d w t = true then va_up n 0 (n 0 + 1) else n))) (by decide) rfl (Nat.le_of_ble_eq_true rfl) ?_
  intro p e s m below meth c A hx hb hr hts hown hlocks hin hml hE hD hA H locs hP hS ls hl
  have hiX10 : ∀ w ∈ wsX100, w ∈ wsX10_law := by decide +kernel
  have hl : lv_has ls 4 [(0, .ref (a 0)), (1, .int d), (2, .int w), (3, .int t)] := hl
  obtain ⟨hn0, hn1, hn2, hn3, hn4⟩ := id hn
  refine lv_iload_n hx hb dX10_law_0 rfl (lv_at hl 1 rfl) ?_
  refine lv_iconst (v := 0) hx hb dX10_law_1 (by decide) ?_
  refine lv_sipush (v := 20000) hx hb dX10_law_2 (by decide) ?_
  refine ro_S (As := [.int d, .int 0, .int 20000]) (rest := []) ⟨hx, hb, hml, hown, hts⟩ (c_X10_in l D cT d 0 20000 ) (va_cwS 3 hts gX10_law_X10_in rfl rfl rfl (by decide +kernel) ⟨Nat.le_of_ble_eq_true rfl, Nat.le_of_ble_eq_true rfl⟩) hE va_P_nil  rfl hl.1 rfl (Nat.le_of_ble_eq_true rfl) dX10_law_5 ⟨Nat.zero_le _, Nat.zero_le _⟩ ?_
  refine bi_eq (tgt := 54) hx hb dX10_law_8 (by decide) (fun c_1 => ?_) (fun c_1 => ?_)
  · refine lv_iconst (v := (-1)) hx hb dX10_law_54 (by decide) ?_
    exact rw_iret hx hb hr hlocks (by rw [if_neg (show ¬ lwB n d w t = true by simp [lwB, c_1])]) ⟨_, _, _, ⟨(by rw [if_neg (show ¬ lwB n d w t = true by simp [lwB, c_1])]), (by rw [if_neg (show ¬ lwB n d w t = true by simp [lwB, c_1])])⟩, hP, hD⟩ hS (Nat.le_of_ble_eq_true rfl) (Nat.le_of_ble_eq_true rfl) dX10_law_55
  · refine lv_iload_n hx hb dX10_law_11 rfl (lv_at hl 2 rfl) ?_
    refine lv_if_lt (tgt := 54) hx hb dX10_law_12 (by decide) (fun c_2 => ?_) (fun c_2 => ?_)
    · refine lv_iconst (v := (-1)) hx hb dX10_law_54 (by decide) ?_
      exact rw_iret hx hb hr hlocks (by rw [if_neg (show ¬ lwB n d w t = true by simp [lwB, c_1, c_2])]) ⟨_, _, _, ⟨(by rw [if_neg (show ¬ lwB n d w t = true by simp [lwB, c_1, c_2])]), (by rw [if_neg (show ¬ lwB n d w t = true by simp [lwB, c_1, c_2])])⟩, hP, hD⟩ hS (Nat.le_of_ble_eq_true rfl) (Nat.le_of_ble_eq_true rfl) dX10_law_55
    · refine lv_iload_n hx hb dX10_law_15 rfl (lv_at hl 2 rfl) ?_
      refine lv_ldc (own := RX10) (v := 1000000) hx hb hown (hts (.constant RX10 105 1000000) (by decide +kernel)) dX10_law_16 ?_
      refine lv_idiv hx hb dX10_law_18 (by decide) ?_
      refine lv_sipush (v := 2000) hx hb dX10_law_19 (by decide) ?_
      refine lv_icmp_gt (tgt := 54) hx hb dX10_law_22 (by decide) (fun c_3 => ?_) (fun c_3 => ?_)
      · refine lv_iconst (v := (-1)) hx hb dX10_law_54 (by decide) ?_
        exact rw_iret hx hb hr hlocks (by rw [if_neg (show ¬ lwB n d w t = true by simp [lwB, c_1, c_2, c_3])]) ⟨_, _, _, ⟨(by rw [if_neg (show ¬ lwB n d w t = true by simp [lwB, c_1, c_2, c_3])]), (by rw [if_neg (show ¬ lwB n d w t = true by simp [lwB, c_1, c_2, c_3])])⟩, hP, hD⟩ hS (Nat.le_of_ble_eq_true rfl) (Nat.le_of_ble_eq_true rfl) dX10_law_55
      · refine lv_iload_n hx hb dX10_law_25 rfl (lv_at hl 2 rfl) ?_
        refine lv_sipush (v := 1000) hx hb dX10_law_26 (by decide) ?_
        refine lv_irem hx hb dX10_law_29 (by decide) ?_
        refine lv_bipush (v := 100) hx hb dX10_law_30 (by decide) ?_
        refine lv_icmp_gt (tgt := 54) hx hb dX10_law_32 (by decide) (fun c_4 => ?_) (fun c_4 => ?_)
        · refine lv_iconst (v := (-1)) hx hb dX10_law_54 (by decide) ?_
          exact rw_iret hx hb hr hlocks (by rw [if_neg (show ¬ lwB n d w t = true by simp [lwB, c_1, c_2, c_3, c_4])]) ⟨_, _, _, ⟨(by rw [if_neg (show ¬ lwB n d w t = true by simp [lwB, c_1, c_2, c_3, c_4])]), (by rw [if_neg (show ¬ lwB n d w t = true by simp [lwB, c_1, c_2, c_3, c_4])])⟩, hP, hD⟩ hS (Nat.le_of_ble_eq_true rfl) (Nat.le_of_ble_eq_true rfl) dX10_law_55
        · refine lv_iload_n hx hb dX10_law_35 rfl (lv_at hl 3 rfl) ?_
          refine lv_iconst (v := 1) hx hb dX10_law_36 (by decide) ?_
          refine lv_bipush (v := 50) hx hb dX10_law_37 (by decide) ?_
          refine ro_S (As := [.int t, .int 1, .int 50]) (rest := []) ⟨hx, hb, hml, hown, hts⟩ (c_X10_in l D cT t 1 50 ) (va_cwS 3 hts gX10_law_X10_in rfl rfl rfl (by decide +kernel) ⟨Nat.le_of_ble_eq_true rfl, Nat.le_of_ble_eq_true rfl⟩) hE va_P_nil  rfl hl.1 rfl (Nat.le_of_ble_eq_true rfl) dX10_law_39 ⟨Nat.zero_le _, Nat.zero_le _⟩ ?_
          refine bi_eq (tgt := 54) hx hb dX10_law_42 (by decide) (fun c_5 => ?_) (fun c_5 => ?_)
          · refine lv_iconst (v := (-1)) hx hb dX10_law_54 (by decide) ?_
            exact rw_iret hx hb hr hlocks (by rw [if_neg (show ¬ lwB n d w t = true by simp [lwB, c_1, c_2, c_3, c_4, c_5])]) ⟨_, _, _, ⟨(by rw [if_neg (show ¬ lwB n d w t = true by simp [lwB, c_1, c_2, c_3, c_4, c_5])]), (by rw [if_neg (show ¬ lwB n d w t = true by simp [lwB, c_1, c_2, c_3, c_4, c_5])])⟩, hP, hD⟩ hS (Nat.le_of_ble_eq_true rfl) (Nat.le_of_ble_eq_true rfl) dX10_law_55
          · refine lv_aload_n hx hb dX10_law_45 rfl (lv_at hl 0 rfl) ?_
            refine va_get (D := D) (ci := 10) (v := .int (nI (n 0))) (C := RX10) (T := TX10) (N := 38) hx hb hts hiX10 hown hE.1 hP 0 mol_0 rfl 15 (by decide) (hts (.fieldLink RX10 116 "FindsOfficeModel" "laws" "I") (by decide +kernel)) (fun _ h9 => h9) rfl dX10_law_46 ?_
            refine lv_bipush (v := 20) hx hb dX10_law_49 (by decide) ?_
            refine lv_icmp_ne (tgt := 56) hx hb dX10_law_51 (by decide) (fun c_6 => ?_) (fun c_6 => ?_)
            · have k_6 := nat_ne (a := (n 0)) (b := 20) c_6
              refine lv_aload_n hx hb dX10_law_56 rfl (lv_at hl 0 rfl) ?_
              refine va_get (D := D) (ci := 10) (v := .ref (a 16)) (C := RX10) (T := TX10) (N := 38) hx hb hts hiX10 hown hE.1 hP 0 mol_0 rfl 16 (by decide) (hts (.fieldLink RX10 46 "FindsOfficeModel" "lawDay" "[I") (by decide +kernel)) (fun _ h9 => h9) rfl dX10_law_57 ?_
              refine lv_aload_n hx hb dX10_law_60 rfl (lv_at hl 0 rfl) ?_
              refine va_get (D := D) (ci := 10) (v := .int (nI (n 0))) (C := RX10) (T := TX10) (N := 38) hx hb hts hiX10 hown hE.1 hP 0 mol_0 rfl 15 (by decide) (hts (.fieldLink RX10 116 "FindsOfficeModel" "laws" "I") (by decide +kernel)) (fun _ h9 => h9) rfl dX10_law_61 ?_
              refine lv_iload_n hx hb dX10_law_64 rfl (lv_at hl 1 rfl) ?_
              refine my_iast (k := (n 0)) hx hb hE.1 hP hD hS 13 0 mol_16 rfl rfl (by omega) (by decide) dX10_law_65 (fun H locs hP hD hS => ?_)
              rw [mos_16] at hP hD
              refine lv_aload_n hx hb dX10_law_66 rfl (lv_at hl 0 rfl) ?_
              refine va_get (D := D) (ci := 10) (v := .ref (a 17)) (C := RX10) (T := TX10) (N := 38) hx hb hts hiX10 hown hE.1 hP 0 mol_0 rfl 17 (by decide) (hts (.fieldLink RX10 49 "FindsOfficeModel" "age" "[I") (by decide +kernel)) (fun _ h9 => h9) rfl dX10_law_67 ?_
              refine lv_aload_n hx hb dX10_law_70 rfl (lv_at hl 0 rfl) ?_
              refine va_get (D := D) (ci := 10) (v := .int (nI (n 0))) (C := RX10) (T := TX10) (N := 38) hx hb hts hiX10 hown hE.1 hP 0 mol_0 rfl 15 (by decide) (hts (.fieldLink RX10 116 "FindsOfficeModel" "laws" "I") (by decide +kernel)) (fun _ h9 => h9) rfl dX10_law_71 ?_
              refine lv_iload_n hx hb dX10_law_74 rfl (lv_at hl 2 rfl) ?_
              refine lv_ldc (own := RX10) (v := 1000000) hx hb hown (hts (.constant RX10 105 1000000) (by decide +kernel)) dX10_law_75 ?_
              refine lv_idiv hx hb dX10_law_77 (by decide) ?_
              refine my_iast (k := (n 0)) hx hb hE.1 hP hD hS 14 0 mol_17 rfl rfl (by omega) (by decide) dX10_law_78 (fun H locs hP hD hS => ?_)
              rw [mos_17] at hP hD
              refine lv_aload_n hx hb dX10_law_79 rfl (lv_at hl 0 rfl) ?_
              refine va_get (D := D) (ci := 10) (v := .ref (a 18)) (C := RX10) (T := TX10) (N := 38) hx hb hts hiX10 hown hE.1 hP 0 mol_0 rfl 18 (by decide) (hts (.fieldLink RX10 52 "FindsOfficeModel" "parts" "[I") (by decide +kernel)) (fun _ h9 => h9) rfl dX10_law_80 ?_
              refine lv_aload_n hx hb dX10_law_83 rfl (lv_at hl 0 rfl) ?_
              refine va_get (D := D) (ci := 10) (v := .int (nI (n 0))) (C := RX10) (T := TX10) (N := 38) hx hb hts hiX10 hown hE.1 hP 0 mol_0 rfl 15 (by decide) (hts (.fieldLink RX10 116 "FindsOfficeModel" "laws" "I") (by decide +kernel)) (fun _ h9 => h9) rfl dX10_law_84 ?_
              refine lv_iload_n hx hb dX10_law_87 rfl (lv_at hl 2 rfl) ?_
              refine lv_sipush (v := 1000) hx hb dX10_law_88 (by decide) ?_
              refine lv_idiv hx hb dX10_law_91 (by decide) ?_
              refine lv_sipush (v := 1000) hx hb dX10_law_92 (by decide) ?_
              refine lv_irem hx hb dX10_law_95 (by decide) ?_
              refine my_iast (k := (n 0)) hx hb hE.1 hP hD hS 15 0 mol_18 rfl rfl (by omega) (by decide) dX10_law_96 (fun H locs hP hD hS => ?_)
              rw [mos_18] at hP hD
              refine lv_aload_n hx hb dX10_law_97 rfl (lv_at hl 0 rfl) ?_
              refine va_get (D := D) (ci := 10) (v := .ref (a 19)) (C := RX10) (T := TX10) (N := 38) hx hb hts hiX10 hown hE.1 hP 0 mol_0 rfl 19 (by decide) (hts (.fieldLink RX10 55 "FindsOfficeModel" "shareOf" "[I") (by decide +kernel)) (fun _ h9 => h9) rfl dX10_law_98 ?_
              refine lv_aload_n hx hb dX10_law_101 rfl (lv_at hl 0 rfl) ?_
              refine va_get (D := D) (ci := 10) (v := .int (nI (n 0))) (C := RX10) (T := TX10) (N := 38) hx hb hts hiX10 hown hE.1 hP 0 mol_0 rfl 15 (by decide) (hts (.fieldLink RX10 116 "FindsOfficeModel" "laws" "I") (by decide +kernel)) (fun _ h9 => h9) rfl dX10_law_102 ?_
              refine lv_iload_n hx hb dX10_law_105 rfl (lv_at hl 2 rfl) ?_
              refine lv_sipush (v := 1000) hx hb dX10_law_106 (by decide) ?_
              refine lv_irem hx hb dX10_law_109 (by decide) ?_
              refine my_iast (k := (n 0)) hx hb hE.1 hP hD hS 16 0 mol_19 rfl rfl (by omega) (by decide) dX10_law_110 (fun H locs hP hD hS => ?_)
              rw [mos_19] at hP hD
              refine lv_aload_n hx hb dX10_law_111 rfl (lv_at hl 0 rfl) ?_
              refine va_get (D := D) (ci := 10) (v := .ref (a 20)) (C := RX10) (T := TX10) (N := 38) hx hb hts hiX10 hown hE.1 hP 0 mol_0 rfl 20 (by decide) (hts (.fieldLink RX10 58 "FindsOfficeModel" "together" "[I") (by decide +kernel)) (fun _ h9 => h9) rfl dX10_law_112 ?_
              refine lv_aload_n hx hb dX10_law_115 rfl (lv_at hl 0 rfl) ?_
              refine va_get (D := D) (ci := 10) (v := .int (nI (n 0))) (C := RX10) (T := TX10) (N := 38) hx hb hts hiX10 hown hE.1 hP 0 mol_0 rfl 15 (by decide) (hts (.fieldLink RX10 116 "FindsOfficeModel" "laws" "I") (by decide +kernel)) (fun _ h9 => h9) rfl dX10_law_116 ?_
              refine lv_iload_n hx hb dX10_law_119 rfl (lv_at hl 3 rfl) ?_
              refine my_iast (k := (n 0)) hx hb hE.1 hP hD hS 17 0 mol_20 rfl rfl (by omega) (by decide) dX10_law_120 (fun H locs hP hD hS => ?_)
              rw [mos_20] at hP hD
              refine lv_aload_n hx hb dX10_law_121 rfl (lv_at hl 0 rfl) ?_
              refine lv_dup hx hb dX10_law_122 rfl ?_
              refine va_get (D := D) (ci := 10) (v := .int (nI (n 0))) (C := RX10) (T := TX10) (N := 38) hx hb hts hiX10 hown hE.1 hP 0 mol_0 rfl 15 (by decide) (hts (.fieldLink RX10 116 "FindsOfficeModel" "laws" "I") (by decide +kernel)) (fun _ h9 => h9) rfl dX10_law_123 ?_
              refine lv_iconst (v := 1) hx hb dX10_law_126 (by decide) ?_
              refine lv_iadd hx hb dX10_law_127 ?_
              refine topi_eq (nI_add _ 1) ?_
              refine va_put (D := D) (ci := 10) (v := .int (nI ((n 0) + 1))) (ty := .int) (C := RX10) (T := TX10) (N := 38) hx hb hts hiX10 tyX10 tyX10_ok nmX10 hown hE.1 hP hD hS 0 mol_0 rfl 15 (by decide) (hts (.fieldLink RX10 116 "FindsOfficeModel" "laws" "I") (by decide +kernel)) (fun _ h9 => h9) rfl (by decide +kernel) rfl rfl (Nat.le_of_ble_eq_true rfl) dX10_law_128 (fun H locs hP hD hS => ?_)
              rw [mos_15] at hP hD
              refine lv_aload_n hx hb dX10_law_131 rfl (lv_at hl 0 rfl) ?_
              refine va_get (D := D) (ci := 10) (v := .int (nI ((va_up n 0 ((n 0) + 1)) 0))) (C := RX10) (T := TX10) (N := 38) hx hb hts hiX10 hown hE.1 hP 0 mol_0 rfl 15 (by decide) (hts (.fieldLink RX10 116 "FindsOfficeModel" "laws" "I") (by decide +kernel)) (fun _ h9 => h9) rfl dX10_law_132 ?_
              exact rw_iret hx hb hr hlocks (by rw [if_pos (show lwB n d w t = true by simp [lwB, c_1, c_2, c_3, c_4, c_5, c_6])] <;> rfl) ⟨_, _, _, ⟨(by rw [if_pos (show lwB n d w t = true by simp [lwB, c_1, c_2, c_3, c_4, c_5, c_6])]; rfl), (by rw [if_pos (show lwB n d w t = true by simp [lwB, c_1, c_2, c_3, c_4, c_5, c_6])])⟩, hP, hD⟩ hS (Nat.le_of_ble_eq_true rfl) (Nat.le_of_ble_eq_true rfl) dX10_law_135
            · have k_6 := nat_eq (a := (n 0)) (b := 20) c_6 (by omega) (by omega)
              refine lv_iconst (v := (-1)) hx hb dX10_law_54 (by decide) ?_
              exact rw_iret hx hb hr hlocks (by rw [if_neg (show ¬ lwB n d w t = true by simp [lwB, c_1, c_2, c_3, c_4, c_5, c_6])]) ⟨_, _, _, ⟨(by rw [if_neg (show ¬ lwB n d w t = true by simp [lwB, c_1, c_2, c_3, c_4, c_5, c_6])]), (by rw [if_neg (show ¬ lwB n d w t = true by simp [lwB, c_1, c_2, c_3, c_4, c_5, c_6])])⟩, hP, hD⟩ hS (Nat.le_of_ble_eq_true rfl) (Nat.le_of_ble_eq_true rfl) dX10_law_55
set_option maxHeartbeats 4000000 in
set_option maxRecDepth 100000 in
theorem c_X10_owner (l : Launch) (D : va_G) (cT : Nat → ClassId) (sz : Nat) (a : Nat → Nat) (T : Nat → Nat → Int32) (n : Nat → Nat) (z : Nat → Int32) (pl d pe : Int32) (hn : Cnt n) : Met l yX10_owner wsX10_owner ({ frames := 2, cells := 0, slots := 0, locals := 42 }) (va_Pc [.ref (a 0), .int pl, .int d, .int pe] (PW D cT (modW cT a T n z) sz)) (QW (some (.int (b2 (owB n pl d pe)))) ((poN D cT a (if owB n pl d pe = true then owT T n pl d pe else T) (if owB n pl d pe = true then va_up n 4 (n 4 + 1) else n)) (va_A (modW cT a T n z) sz)) (va_A (modW cT a T n z) sz)) 0 0 (va_A (modW cT a T n z) sz) := by
  refine RW_of (Bp := (poN D cT a (if owB n pl d pe = true then owT T n pl d pe else T) (if owB n pl d pe = true then va_up n 4 (n 4 + 1) else n))) (by decide) rfl (Nat.le_of_ble_eq_true rfl) ?_
  intro p e s m below meth c A hx hb hr hts hown hlocks hin hml hE hD hA H locs hP hS ls hl
  have hiX10 : ∀ w ∈ wsX100, w ∈ wsX10_owner := by decide +kernel
  have hl : lv_has ls 4 [(0, .ref (a 0)), (1, .int pl), (2, .int d), (3, .int pe)] := hl
  obtain ⟨hn0, hn1, hn2, hn3, hn4⟩ := id hn
  refine lv_iload_n hx hb dX10_owner_0 rfl (lv_at hl 1 rfl) ?_
  refine lv_iconst (v := 0) hx hb dX10_owner_1 (by decide) ?_
  refine lv_bipush (v := 99) hx hb dX10_owner_2 (by decide) ?_
  refine ro_S (As := [.int pl, .int 0, .int 99]) (rest := []) ⟨hx, hb, hml, hown, hts⟩ (c_X10_in l D cT pl 0 99 ) (va_cwS 3 hts gX10_owner_X10_in rfl rfl rfl (by decide +kernel) ⟨Nat.le_of_ble_eq_true rfl, Nat.le_of_ble_eq_true rfl⟩) hE va_P_nil  rfl hl.1 rfl (Nat.le_of_ble_eq_true rfl) dX10_owner_4 ⟨Nat.zero_le _, Nat.zero_le _⟩ ?_
  refine bi_eq (tgt := 37) hx hb dX10_owner_7 (by decide) (fun c_1 => ?_) (fun c_1 => ?_)
  · refine lv_iconst (v := 0) hx hb dX10_owner_37 (by decide) ?_
    exact rw_zret hx hb hr hlocks (by simp [b2, owB, c_1]) ⟨_, _, _, ⟨(by rw [if_neg (show ¬ owB n pl d pe = true by simp [owB, c_1])]), (by rw [if_neg (show ¬ owB n pl d pe = true by simp [owB, c_1])])⟩, hP, hD⟩ hS (Nat.le_of_ble_eq_true rfl) (Nat.le_of_ble_eq_true rfl) dX10_owner_38
  · refine lv_iload_n hx hb dX10_owner_10 rfl (lv_at hl 2 rfl) ?_
    refine lv_iconst (v := 0) hx hb dX10_owner_11 (by decide) ?_
    refine lv_sipush (v := 20000) hx hb dX10_owner_12 (by decide) ?_
    refine ro_S (As := [.int d, .int 0, .int 20000]) (rest := []) ⟨hx, hb, hml, hown, hts⟩ (c_X10_in l D cT d 0 20000 ) (va_cwS 3 hts gX10_owner_X10_in rfl rfl rfl (by decide +kernel) ⟨Nat.le_of_ble_eq_true rfl, Nat.le_of_ble_eq_true rfl⟩) hE va_P_nil  rfl hl.1 rfl (Nat.le_of_ble_eq_true rfl) dX10_owner_15 ⟨Nat.zero_le _, Nat.zero_le _⟩ ?_
    refine bi_eq (tgt := 37) hx hb dX10_owner_18 (by decide) (fun c_2 => ?_) (fun c_2 => ?_)
    · refine lv_iconst (v := 0) hx hb dX10_owner_37 (by decide) ?_
      exact rw_zret hx hb hr hlocks (by simp [b2, owB, c_1, c_2]) ⟨_, _, _, ⟨(by rw [if_neg (show ¬ owB n pl d pe = true by simp [owB, c_1, c_2])]), (by rw [if_neg (show ¬ owB n pl d pe = true by simp [owB, c_1, c_2])])⟩, hP, hD⟩ hS (Nat.le_of_ble_eq_true rfl) (Nat.le_of_ble_eq_true rfl) dX10_owner_38
    · refine lv_iload_n hx hb dX10_owner_21 rfl (lv_at hl 3 rfl) ?_
      refine ro_S (As := [.int pe]) (rest := []) ⟨hx, hb, hml, hown, hts⟩ (c_X10_isPerson l D cT pe ) (va_cwS 1 hts gX10_owner_X10_isPerson rfl rfl rfl (by decide +kernel) ⟨Nat.le_of_ble_eq_true rfl, Nat.le_of_ble_eq_true rfl⟩) hE va_P_nil  rfl hl.1 rfl (Nat.le_of_ble_eq_true rfl) dX10_owner_22 ⟨Nat.zero_le _, Nat.zero_le _⟩ ?_
      refine bi_eq (tgt := 37) hx hb dX10_owner_25 (by decide) (fun c_3 => ?_) (fun c_3 => ?_)
      · refine lv_iconst (v := 0) hx hb dX10_owner_37 (by decide) ?_
        exact rw_zret hx hb hr hlocks (by simp [b2, owB, c_1, c_2, c_3]) ⟨_, _, _, ⟨(by rw [if_neg (show ¬ owB n pl d pe = true by simp [owB, c_1, c_2, c_3])]), (by rw [if_neg (show ¬ owB n pl d pe = true by simp [owB, c_1, c_2, c_3])])⟩, hP, hD⟩ hS (Nat.le_of_ble_eq_true rfl) (Nat.le_of_ble_eq_true rfl) dX10_owner_38
      · refine lv_aload_n hx hb dX10_owner_28 rfl (lv_at hl 0 rfl) ?_
        refine va_get (D := D) (ci := 10) (v := .int (nI (n 4))) (C := RX10) (T := TX10) (N := 38) hx hb hts hiX10 hown hE.1 hP 0 mol_0 rfl 21 (by decide) (hts (.fieldLink RX10 123 "FindsOfficeModel" "owners" "I") (by decide +kernel)) (fun _ h9 => h9) rfl dX10_owner_29 ?_
        refine lv_bipush (v := 100) hx hb dX10_owner_32 (by decide) ?_
        refine lv_icmp_ne (tgt := 39) hx hb dX10_owner_34 (by decide) (fun c_4 => ?_) (fun c_4 => ?_)
        · have k_4 := nat_ne (a := (n 4)) (b := 100) c_4
          refine lv_aload_n hx hb dX10_owner_39 rfl (lv_at hl 0 rfl) ?_
          refine va_get (D := D) (ci := 10) (v := .ref (a 22)) (C := RX10) (T := TX10) (N := 38) hx hb hts hiX10 hown hE.1 hP 0 mol_0 rfl 22 (by decide) (hts (.fieldLink RX10 61 "FindsOfficeModel" "ownPlot" "[I") (by decide +kernel)) (fun _ h9 => h9) rfl dX10_owner_40 ?_
          refine lv_aload_n hx hb dX10_owner_43 rfl (lv_at hl 0 rfl) ?_
          refine va_get (D := D) (ci := 10) (v := .int (nI (n 4))) (C := RX10) (T := TX10) (N := 38) hx hb hts hiX10 hown hE.1 hP 0 mol_0 rfl 21 (by decide) (hts (.fieldLink RX10 123 "FindsOfficeModel" "owners" "I") (by decide +kernel)) (fun _ h9 => h9) rfl dX10_owner_44 ?_
          refine lv_iload_n hx hb dX10_owner_47 rfl (lv_at hl 1 rfl) ?_
          refine my_iast (k := (n 4)) hx hb hE.1 hP hD hS 18 0 mol_22 rfl rfl (by omega) (by decide) dX10_owner_48 (fun H locs hP hD hS => ?_)
          rw [mos_22] at hP hD
          refine lv_aload_n hx hb dX10_owner_49 rfl (lv_at hl 0 rfl) ?_
          refine va_get (D := D) (ci := 10) (v := .ref (a 23)) (C := RX10) (T := TX10) (N := 38) hx hb hts hiX10 hown hE.1 hP 0 mol_0 rfl 23 (by decide) (hts (.fieldLink RX10 64 "FindsOfficeModel" "ownDay" "[I") (by decide +kernel)) (fun _ h9 => h9) rfl dX10_owner_50 ?_
          refine lv_aload_n hx hb dX10_owner_53 rfl (lv_at hl 0 rfl) ?_
          refine va_get (D := D) (ci := 10) (v := .int (nI (n 4))) (C := RX10) (T := TX10) (N := 38) hx hb hts hiX10 hown hE.1 hP 0 mol_0 rfl 21 (by decide) (hts (.fieldLink RX10 123 "FindsOfficeModel" "owners" "I") (by decide +kernel)) (fun _ h9 => h9) rfl dX10_owner_54 ?_
          refine lv_iload_n hx hb dX10_owner_57 rfl (lv_at hl 2 rfl) ?_
          refine my_iast (k := (n 4)) hx hb hE.1 hP hD hS 19 0 mol_23 rfl rfl (by omega) (by decide) dX10_owner_58 (fun H locs hP hD hS => ?_)
          rw [mos_23] at hP hD
          refine lv_aload_n hx hb dX10_owner_59 rfl (lv_at hl 0 rfl) ?_
          refine va_get (D := D) (ci := 10) (v := .ref (a 24)) (C := RX10) (T := TX10) (N := 38) hx hb hts hiX10 hown hE.1 hP 0 mol_0 rfl 24 (by decide) (hts (.fieldLink RX10 67 "FindsOfficeModel" "ownWho" "[I") (by decide +kernel)) (fun _ h9 => h9) rfl dX10_owner_60 ?_
          refine lv_aload_n hx hb dX10_owner_63 rfl (lv_at hl 0 rfl) ?_
          refine va_get (D := D) (ci := 10) (v := .int (nI (n 4))) (C := RX10) (T := TX10) (N := 38) hx hb hts hiX10 hown hE.1 hP 0 mol_0 rfl 21 (by decide) (hts (.fieldLink RX10 123 "FindsOfficeModel" "owners" "I") (by decide +kernel)) (fun _ h9 => h9) rfl dX10_owner_64 ?_
          refine lv_iload_n hx hb dX10_owner_67 rfl (lv_at hl 3 rfl) ?_
          refine my_iast (k := (n 4)) hx hb hE.1 hP hD hS 20 0 mol_24 rfl rfl (by omega) (by decide) dX10_owner_68 (fun H locs hP hD hS => ?_)
          rw [mos_24] at hP hD
          refine lv_aload_n hx hb dX10_owner_69 rfl (lv_at hl 0 rfl) ?_
          refine lv_dup hx hb dX10_owner_70 rfl ?_
          refine va_get (D := D) (ci := 10) (v := .int (nI (n 4))) (C := RX10) (T := TX10) (N := 38) hx hb hts hiX10 hown hE.1 hP 0 mol_0 rfl 21 (by decide) (hts (.fieldLink RX10 123 "FindsOfficeModel" "owners" "I") (by decide +kernel)) (fun _ h9 => h9) rfl dX10_owner_71 ?_
          refine lv_iconst (v := 1) hx hb dX10_owner_74 (by decide) ?_
          refine lv_iadd hx hb dX10_owner_75 ?_
          refine topi_eq (nI_add _ 1) ?_
          refine va_put (D := D) (ci := 10) (v := .int (nI ((n 4) + 1))) (ty := .int) (C := RX10) (T := TX10) (N := 38) hx hb hts hiX10 tyX10 tyX10_ok nmX10 hown hE.1 hP hD hS 0 mol_0 rfl 21 (by decide) (hts (.fieldLink RX10 123 "FindsOfficeModel" "owners" "I") (by decide +kernel)) (fun _ h9 => h9) rfl (by decide +kernel) rfl rfl (Nat.le_of_ble_eq_true rfl) dX10_owner_76 (fun H locs hP hD hS => ?_)
          rw [mos_21] at hP hD
          refine lv_iconst (v := 1) hx hb dX10_owner_79 (by decide) ?_
          exact rw_zret hx hb hr hlocks (by simp [b2, owB, c_1, c_2, c_3, c_4]) ⟨_, _, _, ⟨(by rw [if_pos (show owB n pl d pe = true by simp [owB, c_1, c_2, c_3, c_4])]; rfl), (by rw [if_pos (show owB n pl d pe = true by simp [owB, c_1, c_2, c_3, c_4])])⟩, hP, hD⟩ hS (Nat.le_of_ble_eq_true rfl) (Nat.le_of_ble_eq_true rfl) dX10_owner_80
        · have k_4 := nat_eq (a := (n 4)) (b := 100) c_4 (by omega) (by omega)
          refine lv_iconst (v := 0) hx hb dX10_owner_37 (by decide) ?_
          exact rw_zret hx hb hr hlocks (by simp [b2, owB, c_1, c_2, c_3, c_4]) ⟨_, _, _, ⟨(by rw [if_neg (show ¬ owB n pl d pe = true by simp [owB, c_1, c_2, c_3, c_4])]), (by rw [if_neg (show ¬ owB n pl d pe = true by simp [owB, c_1, c_2, c_3, c_4])])⟩, hP, hD⟩ hS (Nat.le_of_ble_eq_true rfl) (Nat.le_of_ble_eq_true rfl) dX10_owner_38
set_option maxHeartbeats 4000000 in
set_option maxRecDepth 100000 in
theorem c_X10_find (l : Launch) (D : va_G) (cT : Nat → ClassId) (sz : Nat) (a : Nat → Nat) (T : Nat → Nat → Int32) (n : Nat → Nat) (z : Nat → Int32) (wh wt we wo : Int32) (hn : Cnt n) : Met l yX10_find wsX10_find ({ frames := 2, cells := 0, slots := 0, locals := 42 }) (va_Pc [.ref (a 0), .int wh, .int wt, .int we, .int wo] (PW D cT (modW cT a T n z) sz)) (QW (some (.int (if fiB T n wh wt we wo = true then nI (n 1) else -1))) ((poN D cT a (if fiB T n wh wt we wo = true then fiT T n wh wt we wo else T) (if fiB T n wh wt we wo = true then va_up n 1 (n 1 + 1) else n)) (va_A (modW cT a T n z) sz)) (va_A (modW cT a T n z) sz)) 0 0 (va_A (modW cT a T n z) sz) := by
  refine RW_of (Bp := (poN D cT a (if fiB T n wh wt we wo = true then fiT T n wh wt we wo else T) (if fiB T n wh wt we wo = true then va_up n 1 (n 1 + 1) else n))) (by decide) rfl (Nat.le_of_ble_eq_true rfl) ?_
  intro p e s m below meth c A hx hb hr hts hown hlocks hin hml hE hD hA H locs hP hS ls hl
  have hiX10 : ∀ w ∈ wsX100, w ∈ wsX10_find := by decide +kernel
  have hl : lv_has ls 10 [(0, .ref (a 0)), (1, .int wh), (2, .int wt), (3, .int we), (4, .int wo)] := hl
  obtain ⟨hn0, hn1, hn2, hn3, hn4⟩ := id hn
  refine lv_iload_n hx hb dX10_find_0 rfl (lv_at hl 1 rfl) ?_
  refine lv_if_lt (tgt := 23) hx hb dX10_find_1 (by decide) (fun c_1 => ?_) (fun c_1 => ?_)
  · refine lv_iconst (v := (-1)) hx hb dX10_find_23 (by decide) ?_
    exact rw_iret hx hb hr hlocks (by rw [if_neg (show ¬ fiB T n wh wt we wo = true by simp [fiB, c_1])]) ⟨_, _, _, ⟨(by rw [if_neg (show ¬ fiB T n wh wt we wo = true by simp [fiB, c_1])]), (by rw [if_neg (show ¬ fiB T n wh wt we wo = true by simp [fiB, c_1])])⟩, hP, hD⟩ hS (Nat.le_of_ble_eq_true rfl) (Nat.le_of_ble_eq_true rfl) dX10_find_24
  · refine lv_iload_n hx hb dX10_find_4 rfl (lv_at hl 2 rfl) ?_
    refine lv_if_lt (tgt := 23) hx hb dX10_find_5 (by decide) (fun c_2 => ?_) (fun c_2 => ?_)
    · refine lv_iconst (v := (-1)) hx hb dX10_find_23 (by decide) ?_
      exact rw_iret hx hb hr hlocks (by rw [if_neg (show ¬ fiB T n wh wt we wo = true by simp [fiB, c_1, c_2])]) ⟨_, _, _, ⟨(by rw [if_neg (show ¬ fiB T n wh wt we wo = true by simp [fiB, c_1, c_2])]), (by rw [if_neg (show ¬ fiB T n wh wt we wo = true by simp [fiB, c_1, c_2])])⟩, hP, hD⟩ hS (Nat.le_of_ble_eq_true rfl) (Nat.le_of_ble_eq_true rfl) dX10_find_24
    · refine lv_iload_n hx hb dX10_find_8 rfl (lv_at hl 3 rfl) ?_
      refine lv_if_lt (tgt := 23) hx hb dX10_find_9 (by decide) (fun c_3 => ?_) (fun c_3 => ?_)
      · refine lv_iconst (v := (-1)) hx hb dX10_find_23 (by decide) ?_
        exact rw_iret hx hb hr hlocks (by rw [if_neg (show ¬ fiB T n wh wt we wo = true by simp [fiB, c_1, c_2, c_3])]) ⟨_, _, _, ⟨(by rw [if_neg (show ¬ fiB T n wh wt we wo = true by simp [fiB, c_1, c_2, c_3])]), (by rw [if_neg (show ¬ fiB T n wh wt we wo = true by simp [fiB, c_1, c_2, c_3])])⟩, hP, hD⟩ hS (Nat.le_of_ble_eq_true rfl) (Nat.le_of_ble_eq_true rfl) dX10_find_24
      · refine lv_iload hx hb dX10_find_12 (lv_at hl 4 rfl) ?_
        refine lv_if_lt (tgt := 23) hx hb dX10_find_14 (by decide) (fun c_4 => ?_) (fun c_4 => ?_)
        · refine lv_iconst (v := (-1)) hx hb dX10_find_23 (by decide) ?_
          exact rw_iret hx hb hr hlocks (by rw [if_neg (show ¬ fiB T n wh wt we wo = true by simp [fiB, c_1, c_2, c_3, c_4])]) ⟨_, _, _, ⟨(by rw [if_neg (show ¬ fiB T n wh wt we wo = true by simp [fiB, c_1, c_2, c_3, c_4])]), (by rw [if_neg (show ¬ fiB T n wh wt we wo = true by simp [fiB, c_1, c_2, c_3, c_4])])⟩, hP, hD⟩ hS (Nat.le_of_ble_eq_true rfl) (Nat.le_of_ble_eq_true rfl) dX10_find_24
        · refine lv_iload_n hx hb dX10_find_17 rfl (lv_at hl 1 rfl) ?_
          refine lv_ldc (own := RX10) (v := 1000000) hx hb hown (hts (.constant RX10 105 1000000) (by decide +kernel)) dX10_find_18 ?_
          refine lv_icmp_lt (tgt := 25) hx hb dX10_find_20 (by decide) (fun c_5 => ?_) (fun c_5 => ?_)
          · have J_44 : ∀ (jv : Int32), jv = (if wt - wt / 10000 * 10000 = 0 then 10000 else wt - wt / 10000 * 10000) → ∀ (ls : Array Slot), lv_has ls 10 [(0, .ref (a 0)), (1, .int wh), (2, .int wt), (3, .int we), (4, .int wo)] → W p l e ({ frames := 2, cells := 0, slots := 0, locals := 42 }) s m (List.toArray [.ref (a 0), .int wh, .int wt, .int we, .int wo]) below meth c H locs 0 0 (MQ below (QW (some (.int (if fiB T n wh wt we wo = true then nI (n 1) else -1))) ((poN D cT a (if fiB T n wh wt we wo = true then fiT T n wh wt we wo else T) (if fiB T n wh wt we wo = true then va_up n 1 (n 1 + 1) else n)) A) A) (List.toArray [.ref (a 0), .int wh, .int wt, .int we, .int wo]) s 0 0 A) (F0 m 44 ls [.int jv]) := by
              intro jv hjv ls hl
              subst hjv
              refine lv_istore (lv' := [(5, .int (if wt - wt / 10000 * 10000 = 0 then 10000 else wt - wt / 10000 * 10000)), (0, .ref (a 0)), (1, .int wh), (2, .int wt), (3, .int we), (4, .int wo)]) hx hb dX10_find_44 hl (by decide) rfl (fun ls hl => ?_)
              refine lv_iload_n hx hb dX10_find_46 rfl (lv_at hl 3 rfl) ?_
              refine lv_sipush (v := 10000) hx hb dX10_find_47 (by decide) ?_
              refine lv_idiv hx hb dX10_find_50 (by decide) ?_
              refine lv_sipush (v := 10000) hx hb dX10_find_51 (by decide) ?_
              refine lv_irem hx hb dX10_find_54 (by decide) ?_
              refine lv_istore (lv' := [(6, .int ((wt / 10000) - (wt / 10000) / 10000 * 10000)), (5, .int (if wt - wt / 10000 * 10000 = 0 then 10000 else wt - wt / 10000 * 10000)), (0, .ref (a 0)), (1, .int wh), (2, .int wt), (3, .int we), (4, .int wo)]) hx hb dX10_find_55 hl (by decide) rfl (fun ls hl => ?_)
              refine lv_iload_n hx hb dX10_find_57 rfl (lv_at hl 4 rfl) ?_
              refine lv_ldc (own := RX10) (v := 100000000) hx hb hown (hts (.constant RX10 126 100000000) (by decide +kernel)) dX10_find_58 ?_
              refine lv_idiv hx hb dX10_find_60 (by decide) ?_
              refine lv_istore (lv' := [(7, .int (wt / 100000000)), (6, .int ((wt / 10000) - (wt / 10000) / 10000 * 10000)), (5, .int (if wt - wt / 10000 * 10000 = 0 then 10000 else wt - wt / 10000 * 10000)), (0, .ref (a 0)), (1, .int wh), (2, .int wt), (3, .int we), (4, .int wo)]) hx hb dX10_find_61 hl (by decide) rfl (fun ls hl => ?_)
              refine lv_iload_n hx hb dX10_find_63 rfl (lv_at hl 6 rfl) ?_
              refine lv_sipush (v := 10000) hx hb dX10_find_64 (by decide) ?_
              refine lv_idiv hx hb dX10_find_67 (by decide) ?_
              refine lv_istore (lv' := [(8, .int (we / 10000)), (7, .int (wt / 100000000)), (6, .int ((wt / 10000) - (wt / 10000) / 10000 * 10000)), (5, .int (if wt - wt / 10000 * 10000 = 0 then 10000 else wt - wt / 10000 * 10000)), (0, .ref (a 0)), (1, .int wh), (2, .int wt), (3, .int we), (4, .int wo)]) hx hb dX10_find_68 hl (by decide) rfl (fun ls hl => ?_)
              refine lv_iload_n hx hb dX10_find_70 rfl (lv_at hl 7 rfl) ?_
              refine lv_sipush (v := 10000) hx hb dX10_find_71 (by decide) ?_
              refine lv_irem hx hb dX10_find_74 (by decide) ?_
              refine lv_istore (lv' := [(9, .int (we - we / 10000 * 10000)), (8, .int (we / 10000)), (7, .int (wt / 100000000)), (6, .int ((wt / 10000) - (wt / 10000) / 10000 * 10000)), (5, .int (if wt - wt / 10000 * 10000 = 0 then 10000 else wt - wt / 10000 * 10000)), (0, .ref (a 0)), (1, .int wh), (2, .int wt), (3, .int we), (4, .int wo)]) hx hb dX10_find_75 hl (by decide) rfl (fun ls hl => ?_)
              refine lv_iload hx hb dX10_find_77 (lv_at hl 2 rfl) ?_
              refine lv_iconst (v := 2) hx hb dX10_find_79 (by decide) ?_
              refine lv_icmp_gt (tgt := 144) hx hb dX10_find_80 (by decide) (fun c_6 => ?_) (fun c_6 => ?_)
              · refine lv_iconst (v := (-1)) hx hb dX10_find_144 (by decide) ?_
                exact rw_iret hx hb hr hlocks (by rw [if_neg (show ¬ fiB T n wh wt we wo = true by simp [fiB, c_1, c_2, c_3, c_4, c_5, c_6])]) ⟨_, _, _, ⟨(by rw [if_neg (show ¬ fiB T n wh wt we wo = true by simp [fiB, c_1, c_2, c_3, c_4, c_5, c_6])]), (by rw [if_neg (show ¬ fiB T n wh wt we wo = true by simp [fiB, c_1, c_2, c_3, c_4, c_5, c_6])])⟩, hP, hD⟩ hS (Nat.le_of_ble_eq_true rfl) (Nat.le_of_ble_eq_true rfl) dX10_find_145
              · refine lv_iload hx hb dX10_find_83 (lv_at hl 3 rfl) ?_
                refine lv_sipush (v := 1000) hx hb dX10_find_85 (by decide) ?_
                refine lv_icmp_gt (tgt := 144) hx hb dX10_find_88 (by decide) (fun c_7 => ?_) (fun c_7 => ?_)
                · refine lv_iconst (v := (-1)) hx hb dX10_find_144 (by decide) ?_
                  exact rw_iret hx hb hr hlocks (by rw [if_neg (show ¬ fiB T n wh wt we wo = true by simp [fiB, c_1, c_2, c_3, c_4, c_5, c_6, c_7])]) ⟨_, _, _, ⟨(by rw [if_neg (show ¬ fiB T n wh wt we wo = true by simp [fiB, c_1, c_2, c_3, c_4, c_5, c_6, c_7])]), (by rw [if_neg (show ¬ fiB T n wh wt we wo = true by simp [fiB, c_1, c_2, c_3, c_4, c_5, c_6, c_7])])⟩, hP, hD⟩ hS (Nat.le_of_ble_eq_true rfl) (Nat.le_of_ble_eq_true rfl) dX10_find_145
                · refine lv_iload hx hb dX10_find_91 (lv_at hl 1 rfl) ?_
                  refine lv_sipush (v := 5000) hx hb dX10_find_93 (by decide) ?_
                  refine lv_icmp_gt (tgt := 144) hx hb dX10_find_96 (by decide) (fun c_8 => ?_) (fun c_8 => ?_)
                  · refine lv_iconst (v := (-1)) hx hb dX10_find_144 (by decide) ?_
                    exact rw_iret hx hb hr hlocks (by rw [if_neg (show ¬ fiB T n wh wt we wo = true by simp [fiB, c_1, c_2, c_3, c_4, c_5, c_6, c_7, c_8])]) ⟨_, _, _, ⟨(by rw [if_neg (show ¬ fiB T n wh wt we wo = true by simp [fiB, c_1, c_2, c_3, c_4, c_5, c_6, c_7, c_8])]), (by rw [if_neg (show ¬ fiB T n wh wt we wo = true by simp [fiB, c_1, c_2, c_3, c_4, c_5, c_6, c_7, c_8])])⟩, hP, hD⟩ hS (Nat.le_of_ble_eq_true rfl) (Nat.le_of_ble_eq_true rfl) dX10_find_145
                  · refine lv_iload hx hb dX10_find_99 (lv_at hl 0 rfl) ?_
                    refine lv_iload hx hb dX10_find_101 (lv_at hl 1 rfl) ?_
                    refine lv_sipush (v := 5000) hx hb dX10_find_103 (by decide) ?_
                    refine ro_S (As := [.int (we - we / 10000 * 10000), .int (we / 10000), .int 5000]) (rest := []) ⟨hx, hb, hml, hown, hts⟩ (c_X10_in l D cT (we - we / 10000 * 10000) (we / 10000) 5000 ) (va_cwS 3 hts gX10_find_X10_in rfl rfl rfl (by decide +kernel) ⟨Nat.le_of_ble_eq_true rfl, Nat.le_of_ble_eq_true rfl⟩) hE va_P_nil  rfl hl.1 rfl (Nat.le_of_ble_eq_true rfl) dX10_find_106 ⟨Nat.zero_le _, Nat.zero_le _⟩ ?_
                    refine bi_eq (tgt := 144) hx hb dX10_find_109 (by decide) (fun c_9 => ?_) (fun c_9 => ?_)
                    · refine lv_iconst (v := (-1)) hx hb dX10_find_144 (by decide) ?_
                      exact rw_iret hx hb hr hlocks (by rw [if_neg (show ¬ fiB T n wh wt we wo = true by simp [fiB, c_1, c_2, c_3, c_4, c_5, c_6, c_7, c_8, c_9])]) ⟨_, _, _, ⟨(by rw [if_neg (show ¬ fiB T n wh wt we wo = true by simp [fiB, c_1, c_2, c_3, c_4, c_5, c_6, c_7, c_8, c_9])]), (by rw [if_neg (show ¬ fiB T n wh wt we wo = true by simp [fiB, c_1, c_2, c_3, c_4, c_5, c_6, c_7, c_8, c_9])])⟩, hP, hD⟩ hS (Nat.le_of_ble_eq_true rfl) (Nat.le_of_ble_eq_true rfl) dX10_find_145
                    · refine lv_iload hx hb dX10_find_112 (lv_at hl 9 rfl) ?_
                      refine lv_bipush (v := 100) hx hb dX10_find_114 (by decide) ?_
                      refine lv_irem hx hb dX10_find_116 (by decide) ?_
                      refine ro_S (As := [.int (wo - wo / 100 * 100)]) (rest := []) ⟨hx, hb, hml, hown, hts⟩ (c_X10_isPerson l D cT (wo - wo / 100 * 100) ) (va_cwS 1 hts gX10_find_X10_isPerson rfl rfl rfl (by decide +kernel) ⟨Nat.le_of_ble_eq_true rfl, Nat.le_of_ble_eq_true rfl⟩) hE va_P_nil  rfl hl.1 rfl (Nat.le_of_ble_eq_true rfl) dX10_find_117 ⟨Nat.zero_le _, Nat.zero_le _⟩ ?_
                      refine bi_eq (tgt := 144) hx hb dX10_find_120 (by decide) (fun c_10 => ?_) (fun c_10 => ?_)
                      · refine lv_iconst (v := (-1)) hx hb dX10_find_144 (by decide) ?_
                        exact rw_iret hx hb hr hlocks (by rw [if_neg (show ¬ fiB T n wh wt we wo = true by simp [fiB, c_1, c_2, c_3, c_4, c_5, c_6, c_7, c_8, c_9, c_10])]) ⟨_, _, _, ⟨(by rw [if_neg (show ¬ fiB T n wh wt we wo = true by simp [fiB, c_1, c_2, c_3, c_4, c_5, c_6, c_7, c_8, c_9, c_10])]), (by rw [if_neg (show ¬ fiB T n wh wt we wo = true by simp [fiB, c_1, c_2, c_3, c_4, c_5, c_6, c_7, c_8, c_9, c_10])])⟩, hP, hD⟩ hS (Nat.le_of_ble_eq_true rfl) (Nat.le_of_ble_eq_true rfl) dX10_find_145
                      · refine lv_iload hx hb dX10_find_123 (lv_at hl 9 rfl) ?_
                        refine lv_bipush (v := 100) hx hb dX10_find_125 (by decide) ?_
                        refine lv_idiv hx hb dX10_find_127 (by decide) ?_
                        refine lv_aload_n hx hb dX10_find_128 rfl (lv_at hl 5 rfl) ?_
                        refine va_get (D := D) (ci := 10) (v := .int (T 0 0)) (C := RX10) (T := TX10) (N := 38) hx hb hts hiX10 hown hE.1 hP 0 mol_0 rfl 0 (by decide) (hts (.fieldLink RX10 113 "FindsOfficeModel" "now" "I") (by decide +kernel)) (fun _ h9 => h9) rfl dX10_find_129 ?_
                        refine lv_icmp_gt (tgt := 144) hx hb dX10_find_132 (by decide) (fun c_11 => ?_) (fun c_11 => ?_)
                        · refine lv_iconst (v := (-1)) hx hb dX10_find_144 (by decide) ?_
                          exact rw_iret hx hb hr hlocks (by rw [if_neg (show ¬ fiB T n wh wt we wo = true by simp [fiB, c_1, c_2, c_3, c_4, c_5, c_6, c_7, c_8, c_9, c_10, c_11])]) ⟨_, _, _, ⟨(by rw [if_neg (show ¬ fiB T n wh wt we wo = true by simp [fiB, c_1, c_2, c_3, c_4, c_5, c_6, c_7, c_8, c_9, c_10, c_11])]), (by rw [if_neg (show ¬ fiB T n wh wt we wo = true by simp [fiB, c_1, c_2, c_3, c_4, c_5, c_6, c_7, c_8, c_9, c_10, c_11])])⟩, hP, hD⟩ hS (Nat.le_of_ble_eq_true rfl) (Nat.le_of_ble_eq_true rfl) dX10_find_145
                        · refine lv_aload_n hx hb dX10_find_135 rfl (lv_at hl 5 rfl) ?_
                          refine va_get (D := D) (ci := 10) (v := .int (nI (n 1))) (C := RX10) (T := TX10) (N := 38) hx hb hts hiX10 hown hE.1 hP 0 mol_0 rfl 1 (by decide) (hts (.fieldLink RX10 106 "FindsOfficeModel" "finds" "I") (by decide +kernel)) (fun _ h9 => h9) rfl dX10_find_136 ?_
                          refine lv_bipush (v := 50) hx hb dX10_find_139 (by decide) ?_
                          refine lv_icmp_ne (tgt := 146) hx hb dX10_find_141 (by decide) (fun c_12 => ?_) (fun c_12 => ?_)
                          · have k_12 := nat_ne (a := (n 1)) (b := 50) c_12
                            refine lv_aload_n hx hb dX10_find_146 rfl (lv_at hl 5 rfl) ?_
                            refine va_get (D := D) (ci := 10) (v := .ref (a 2)) (C := RX10) (T := TX10) (N := 38) hx hb hts hiX10 hown hE.1 hP 0 mol_0 rfl 2 (by decide) (hts (.fieldLink RX10 9 "FindsOfficeModel" "x" "[I") (by decide +kernel)) (fun _ h9 => h9) rfl dX10_find_147 ?_
                            refine lv_aload_n hx hb dX10_find_150 rfl (lv_at hl 5 rfl) ?_
                            refine va_get (D := D) (ci := 10) (v := .int (nI (n 1))) (C := RX10) (T := TX10) (N := 38) hx hb hts hiX10 hown hE.1 hP 0 mol_0 rfl 1 (by decide) (hts (.fieldLink RX10 106 "FindsOfficeModel" "finds" "I") (by decide +kernel)) (fun _ h9 => h9) rfl dX10_find_151 ?_
                            refine lv_iload_n hx hb dX10_find_154 rfl (lv_at hl 6 rfl) ?_
                            refine lv_sipush (v := 1000) hx hb dX10_find_155 (by decide) ?_
                            refine lv_idiv hx hb dX10_find_158 (by decide) ?_
                            refine my_iast (k := (n 1)) hx hb hE.1 hP hD hS 1 0 mol_2 rfl rfl (by omega) (by decide) dX10_find_159 (fun H locs hP hD hS => ?_)
                            rw [mos_2] at hP hD
                            refine lv_aload_n hx hb dX10_find_160 rfl (lv_at hl 5 rfl) ?_
                            refine va_get (D := D) (ci := 10) (v := .ref (a 3)) (C := RX10) (T := TX10) (N := 38) hx hb hts hiX10 hown hE.1 hP 0 mol_0 rfl 3 (by decide) (hts (.fieldLink RX10 13 "FindsOfficeModel" "y" "[I") (by decide +kernel)) (fun _ h9 => h9) rfl dX10_find_161 ?_
                            refine lv_aload_n hx hb dX10_find_164 rfl (lv_at hl 5 rfl) ?_
                            refine va_get (D := D) (ci := 10) (v := .int (nI (n 1))) (C := RX10) (T := TX10) (N := 38) hx hb hts hiX10 hown hE.1 hP 0 mol_0 rfl 1 (by decide) (hts (.fieldLink RX10 106 "FindsOfficeModel" "finds" "I") (by decide +kernel)) (fun _ h9 => h9) rfl dX10_find_165 ?_
                            refine lv_iload_n hx hb dX10_find_168 rfl (lv_at hl 6 rfl) ?_
                            refine lv_sipush (v := 1000) hx hb dX10_find_169 (by decide) ?_
                            refine lv_irem hx hb dX10_find_172 (by decide) ?_
                            refine my_iast (k := (n 1)) hx hb hE.1 hP hD hS 2 0 mol_3 rfl rfl (by omega) (by decide) dX10_find_173 (fun H locs hP hD hS => ?_)
                            rw [mos_3] at hP hD
                            refine lv_aload_n hx hb dX10_find_174 rfl (lv_at hl 5 rfl) ?_
                            refine va_get (D := D) (ci := 10) (v := .ref (a 4)) (C := RX10) (T := TX10) (N := 38) hx hb hts hiX10 hown hE.1 hP 0 mol_0 rfl 4 (by decide) (hts (.fieldLink RX10 16 "FindsOfficeModel" "metal" "[I") (by decide +kernel)) (fun _ h9 => h9) rfl dX10_find_175 ?_
                            refine lv_aload_n hx hb dX10_find_178 rfl (lv_at hl 5 rfl) ?_
                            refine va_get (D := D) (ci := 10) (v := .int (nI (n 1))) (C := RX10) (T := TX10) (N := 38) hx hb hts hiX10 hown hE.1 hP 0 mol_0 rfl 1 (by decide) (hts (.fieldLink RX10 106 "FindsOfficeModel" "finds" "I") (by decide +kernel)) (fun _ h9 => h9) rfl dX10_find_179 ?_
                            refine lv_iload hx hb dX10_find_182 (lv_at hl 2 rfl) ?_
                            refine my_iast (k := (n 1)) hx hb hE.1 hP hD hS 3 0 mol_4 rfl rfl (by omega) (by decide) dX10_find_184 (fun H locs hP hD hS => ?_)
                            rw [mos_4] at hP hD
                            refine lv_aload_n hx hb dX10_find_185 rfl (lv_at hl 5 rfl) ?_
                            refine va_get (D := D) (ci := 10) (v := .ref (a 5)) (C := RX10) (T := TX10) (N := 38) hx hb hts hiX10 hown hE.1 hP 0 mol_0 rfl 5 (by decide) (hts (.fieldLink RX10 19 "FindsOfficeModel" "purity" "[I") (by decide +kernel)) (fun _ h9 => h9) rfl dX10_find_186 ?_
                            refine lv_aload_n hx hb dX10_find_189 rfl (lv_at hl 5 rfl) ?_
                            refine va_get (D := D) (ci := 10) (v := .int (nI (n 1))) (C := RX10) (T := TX10) (N := 38) hx hb hts hiX10 hown hE.1 hP 0 mol_0 rfl 1 (by decide) (hts (.fieldLink RX10 106 "FindsOfficeModel" "finds" "I") (by decide +kernel)) (fun _ h9 => h9) rfl dX10_find_190 ?_
                            refine lv_iload hx hb dX10_find_193 (lv_at hl 3 rfl) ?_
                            refine my_iast (k := (n 1)) hx hb hE.1 hP hD hS 4 0 mol_5 rfl rfl (by omega) (by decide) dX10_find_195 (fun H locs hP hD hS => ?_)
                            rw [mos_5] at hP hD
                            refine lv_aload_n hx hb dX10_find_196 rfl (lv_at hl 5 rfl) ?_
                            refine va_get (D := D) (ci := 10) (v := .ref (a 6)) (C := RX10) (T := TX10) (N := 38) hx hb hts hiX10 hown hE.1 hP 0 mol_0 rfl 6 (by decide) (hts (.fieldLink RX10 22 "FindsOfficeModel" "weight" "[I") (by decide +kernel)) (fun _ h9 => h9) rfl dX10_find_197 ?_
                            refine lv_aload_n hx hb dX10_find_200 rfl (lv_at hl 5 rfl) ?_
                            refine va_get (D := D) (ci := 10) (v := .int (nI (n 1))) (C := RX10) (T := TX10) (N := 38) hx hb hts hiX10 hown hE.1 hP 0 mol_0 rfl 1 (by decide) (hts (.fieldLink RX10 106 "FindsOfficeModel" "finds" "I") (by decide +kernel)) (fun _ h9 => h9) rfl dX10_find_201 ?_
                            refine lv_iload hx hb dX10_find_204 (lv_at hl 4 rfl) ?_
                            refine my_iast (k := (n 1)) hx hb hE.1 hP hD hS 5 0 mol_6 rfl rfl (by omega) (by decide) dX10_find_206 (fun H locs hP hD hS => ?_)
                            rw [mos_6] at hP hD
                            refine lv_aload_n hx hb dX10_find_207 rfl (lv_at hl 5 rfl) ?_
                            refine va_get (D := D) (ci := 10) (v := .ref (a 7)) (C := RX10) (T := TX10) (N := 38) hx hb hts hiX10 hown hE.1 hP 0 mol_0 rfl 7 (by decide) (hts (.fieldLink RX10 25 "FindsOfficeModel" "from" "[I") (by decide +kernel)) (fun _ h9 => h9) rfl dX10_find_208 ?_
                            refine lv_aload_n hx hb dX10_find_211 rfl (lv_at hl 5 rfl) ?_
                            refine va_get (D := D) (ci := 10) (v := .int (nI (n 1))) (C := RX10) (T := TX10) (N := 38) hx hb hts hiX10 hown hE.1 hP 0 mol_0 rfl 1 (by decide) (hts (.fieldLink RX10 106 "FindsOfficeModel" "finds" "I") (by decide +kernel)) (fun _ h9 => h9) rfl dX10_find_212 ?_
                            refine lv_iload hx hb dX10_find_215 (lv_at hl 1 rfl) ?_
                            refine lv_sipush (v := 3000) hx hb dX10_find_217 (by decide) ?_
                            refine lv_isub hx hb dX10_find_220 ?_
                            refine my_iast (k := (n 1)) hx hb hE.1 hP hD hS 6 0 mol_7 rfl rfl (by omega) (by decide) dX10_find_221 (fun H locs hP hD hS => ?_)
                            rw [mos_7] at hP hD
                            refine lv_aload_n hx hb dX10_find_222 rfl (lv_at hl 5 rfl) ?_
                            refine va_get (D := D) (ci := 10) (v := .ref (a 8)) (C := RX10) (T := TX10) (N := 38) hx hb hts hiX10 hown hE.1 hP 0 mol_0 rfl 8 (by decide) (hts (.fieldLink RX10 28 "FindsOfficeModel" "to" "[I") (by decide +kernel)) (fun _ h9 => h9) rfl dX10_find_223 ?_
                            refine lv_aload_n hx hb dX10_find_226 rfl (lv_at hl 5 rfl) ?_
                            refine va_get (D := D) (ci := 10) (v := .int (nI (n 1))) (C := RX10) (T := TX10) (N := 38) hx hb hts hiX10 hown hE.1 hP 0 mol_0 rfl 1 (by decide) (hts (.fieldLink RX10 106 "FindsOfficeModel" "finds" "I") (by decide +kernel)) (fun _ h9 => h9) rfl dX10_find_227 ?_
                            refine lv_iload hx hb dX10_find_230 (lv_at hl 0 rfl) ?_
                            refine lv_sipush (v := 3000) hx hb dX10_find_232 (by decide) ?_
                            refine lv_isub hx hb dX10_find_235 ?_
                            refine my_iast (k := (n 1)) hx hb hE.1 hP hD hS 7 0 mol_8 rfl rfl (by omega) (by decide) dX10_find_236 (fun H locs hP hD hS => ?_)
                            rw [mos_8] at hP hD
                            refine lv_aload_n hx hb dX10_find_237 rfl (lv_at hl 5 rfl) ?_
                            refine va_get (D := D) (ci := 10) (v := .ref (a 9)) (C := RX10) (T := TX10) (N := 38) hx hb hts hiX10 hown hE.1 hP 0 mol_0 rfl 9 (by decide) (hts (.fieldLink RX10 31 "FindsOfficeModel" "finder" "[I") (by decide +kernel)) (fun _ h9 => h9) rfl dX10_find_238 ?_
                            refine lv_aload_n hx hb dX10_find_241 rfl (lv_at hl 5 rfl) ?_
                            refine va_get (D := D) (ci := 10) (v := .int (nI (n 1))) (C := RX10) (T := TX10) (N := 38) hx hb hts hiX10 hown hE.1 hP 0 mol_0 rfl 1 (by decide) (hts (.fieldLink RX10 106 "FindsOfficeModel" "finds" "I") (by decide +kernel)) (fun _ h9 => h9) rfl dX10_find_242 ?_
                            refine lv_iload hx hb dX10_find_245 (lv_at hl 9 rfl) ?_
                            refine lv_bipush (v := 100) hx hb dX10_find_247 (by decide) ?_
                            refine lv_irem hx hb dX10_find_249 (by decide) ?_
                            refine my_iast (k := (n 1)) hx hb hE.1 hP hD hS 8 0 mol_9 rfl rfl (by omega) (by decide) dX10_find_250 (fun H locs hP hD hS => ?_)
                            rw [mos_9] at hP hD
                            refine lv_aload_n hx hb dX10_find_251 rfl (lv_at hl 5 rfl) ?_
                            refine va_get (D := D) (ci := 10) (v := .ref (a 10)) (C := RX10) (T := TX10) (N := 38) hx hb hts hiX10 hown hE.1 hP 0 mol_0 rfl 10 (by decide) (hts (.fieldLink RX10 34 "FindsOfficeModel" "foundOn" "[I") (by decide +kernel)) (fun _ h9 => h9) rfl dX10_find_252 ?_
                            refine lv_aload_n hx hb dX10_find_255 rfl (lv_at hl 5 rfl) ?_
                            refine va_get (D := D) (ci := 10) (v := .int (nI (n 1))) (C := RX10) (T := TX10) (N := 38) hx hb hts hiX10 hown hE.1 hP 0 mol_0 rfl 1 (by decide) (hts (.fieldLink RX10 106 "FindsOfficeModel" "finds" "I") (by decide +kernel)) (fun _ h9 => h9) rfl dX10_find_256 ?_
                            refine lv_iload hx hb dX10_find_259 (lv_at hl 9 rfl) ?_
                            refine lv_bipush (v := 100) hx hb dX10_find_261 (by decide) ?_
                            refine lv_idiv hx hb dX10_find_263 (by decide) ?_
                            refine my_iast (k := (n 1)) hx hb hE.1 hP hD hS 9 0 mol_10 rfl rfl (by omega) (by decide) dX10_find_264 (fun H locs hP hD hS => ?_)
                            rw [mos_10] at hP hD
                            refine lv_aload_n hx hb dX10_find_265 rfl (lv_at hl 5 rfl) ?_
                            refine va_get (D := D) (ci := 10) (v := .ref (a 11)) (C := RX10) (T := TX10) (N := 38) hx hb hts hiX10 hown hE.1 hP 0 mol_0 rfl 11 (by decide) (hts (.fieldLink RX10 37 "FindsOfficeModel" "knownOn" "[I") (by decide +kernel)) (fun _ h9 => h9) rfl dX10_find_266 ?_
                            refine lv_aload_n hx hb dX10_find_269 rfl (lv_at hl 5 rfl) ?_
                            refine va_get (D := D) (ci := 10) (v := .int (nI (n 1))) (C := RX10) (T := TX10) (N := 38) hx hb hts hiX10 hown hE.1 hP 0 mol_0 rfl 1 (by decide) (hts (.fieldLink RX10 106 "FindsOfficeModel" "finds" "I") (by decide +kernel)) (fun _ h9 => h9) rfl dX10_find_270 ?_
                            refine lv_aload_n hx hb dX10_find_273 rfl (lv_at hl 5 rfl) ?_
                            refine va_get (D := D) (ci := 10) (v := .int ((va_up (va_up (va_up (va_up (va_up (va_up (va_up (va_up (va_up T 2 (upd (T 2) (n 1) (wh / 1000))) 3 (upd ((va_up T 2 (upd (T 2) (n 1) (wh / 1000))) 3) (n 1) (wh - wh / 1000 * 1000))) 4 (upd ((va_up (va_up T 2 (upd (T 2) (n 1) (wh / 1000))) 3 (upd ((va_up T 2 (upd (T 2) (n 1) (wh / 1000))) 3) (n 1) (wh - wh / 1000 * 1000))) 4) (n 1) (wt / 100000000))) 5 (upd ((va_up (va_up (va_up T 2 (upd (T 2) (n 1) (wh / 1000))) 3 (upd ((va_up T 2 (upd (T 2) (n 1) (wh / 1000))) 3) (n 1) (wh - wh / 1000 * 1000))) 4 (upd ((va_up (va_up T 2 (upd (T 2) (n 1) (wh / 1000))) 3 (upd ((va_up T 2 (upd (T 2) (n 1) (wh / 1000))) 3) (n 1) (wh - wh / 1000 * 1000))) 4) (n 1) (wt / 100000000))) 5) (n 1) ((wt / 10000) - (wt / 10000) / 10000 * 10000))) 6 (upd ((va_up (va_up (va_up (va_up T 2 (upd (T 2) (n 1) (wh / 1000))) 3 (upd ((va_up T 2 (upd (T 2) (n 1) (wh / 1000))) 3) (n 1) (wh - wh / 1000 * 1000))) 4 (upd ((va_up (va_up T 2 (upd (T 2) (n 1) (wh / 1000))) 3 (upd ((va_up T 2 (upd (T 2) (n 1) (wh / 1000))) 3) (n 1) (wh - wh / 1000 * 1000))) 4) (n 1) (wt / 100000000))) 5 (upd ((va_up (va_up (va_up T 2 (upd (T 2) (n 1) (wh / 1000))) 3 (upd ((va_up T 2 (upd (T 2) (n 1) (wh / 1000))) 3) (n 1) (wh - wh / 1000 * 1000))) 4 (upd ((va_up (va_up T 2 (upd (T 2) (n 1) (wh / 1000))) 3 (upd ((va_up T 2 (upd (T 2) (n 1) (wh / 1000))) 3) (n 1) (wh - wh / 1000 * 1000))) 4) (n 1) (wt / 100000000))) 5) (n 1) ((wt / 10000) - (wt / 10000) / 10000 * 10000))) 6) (n 1) (if wt - wt / 10000 * 10000 = 0 then 10000 else wt - wt / 10000 * 10000))) 7 (upd ((va_up (va_up (va_up (va_up (va_up T 2 (upd (T 2) (n 1) (wh / 1000))) 3 (upd ((va_up T 2 (upd (T 2) (n 1) (wh / 1000))) 3) (n 1) (wh - wh / 1000 * 1000))) 4 (upd ((va_up (va_up T 2 (upd (T 2) (n 1) (wh / 1000))) 3 (upd ((va_up T 2 (upd (T 2) (n 1) (wh / 1000))) 3) (n 1) (wh - wh / 1000 * 1000))) 4) (n 1) (wt / 100000000))) 5 (upd ((va_up (va_up (va_up T 2 (upd (T 2) (n 1) (wh / 1000))) 3 (upd ((va_up T 2 (upd (T 2) (n 1) (wh / 1000))) 3) (n 1) (wh - wh / 1000 * 1000))) 4 (upd ((va_up (va_up T 2 (upd (T 2) (n 1) (wh / 1000))) 3 (upd ((va_up T 2 (upd (T 2) (n 1) (wh / 1000))) 3) (n 1) (wh - wh / 1000 * 1000))) 4) (n 1) (wt / 100000000))) 5) (n 1) ((wt / 10000) - (wt / 10000) / 10000 * 10000))) 6 (upd ((va_up (va_up (va_up (va_up T 2 (upd (T 2) (n 1) (wh / 1000))) 3 (upd ((va_up T 2 (upd (T 2) (n 1) (wh / 1000))) 3) (n 1) (wh - wh / 1000 * 1000))) 4 (upd ((va_up (va_up T 2 (upd (T 2) (n 1) (wh / 1000))) 3 (upd ((va_up T 2 (upd (T 2) (n 1) (wh / 1000))) 3) (n 1) (wh - wh / 1000 * 1000))) 4) (n 1) (wt / 100000000))) 5 (upd ((va_up (va_up (va_up T 2 (upd (T 2) (n 1) (wh / 1000))) 3 (upd ((va_up T 2 (upd (T 2) (n 1) (wh / 1000))) 3) (n 1) (wh - wh / 1000 * 1000))) 4 (upd ((va_up (va_up T 2 (upd (T 2) (n 1) (wh / 1000))) 3 (upd ((va_up T 2 (upd (T 2) (n 1) (wh / 1000))) 3) (n 1) (wh - wh / 1000 * 1000))) 4) (n 1) (wt / 100000000))) 5) (n 1) ((wt / 10000) - (wt / 10000) / 10000 * 10000))) 6) (n 1) (if wt - wt / 10000 * 10000 = 0 then 10000 else wt - wt / 10000 * 10000))) 7) (n 1) ((we / 10000) - 3000))) 8 (upd ((va_up (va_up (va_up (va_up (va_up (va_up T 2 (upd (T 2) (n 1) (wh / 1000))) 3 (upd ((va_up T 2 (upd (T 2) (n 1) (wh / 1000))) 3) (n 1) (wh - wh / 1000 * 1000))) 4 (upd ((va_up (va_up T 2 (upd (T 2) (n 1) (wh / 1000))) 3 (upd ((va_up T 2 (upd (T 2) (n 1) (wh / 1000))) 3) (n 1) (wh - wh / 1000 * 1000))) 4) (n 1) (wt / 100000000))) 5 (upd ((va_up (va_up (va_up T 2 (upd (T 2) (n 1) (wh / 1000))) 3 (upd ((va_up T 2 (upd (T 2) (n 1) (wh / 1000))) 3) (n 1) (wh - wh / 1000 * 1000))) 4 (upd ((va_up (va_up T 2 (upd (T 2) (n 1) (wh / 1000))) 3 (upd ((va_up T 2 (upd (T 2) (n 1) (wh / 1000))) 3) (n 1) (wh - wh / 1000 * 1000))) 4) (n 1) (wt / 100000000))) 5) (n 1) ((wt / 10000) - (wt / 10000) / 10000 * 10000))) 6 (upd ((va_up (va_up (va_up (va_up T 2 (upd (T 2) (n 1) (wh / 1000))) 3 (upd ((va_up T 2 (upd (T 2) (n 1) (wh / 1000))) 3) (n 1) (wh - wh / 1000 * 1000))) 4 (upd ((va_up (va_up T 2 (upd (T 2) (n 1) (wh / 1000))) 3 (upd ((va_up T 2 (upd (T 2) (n 1) (wh / 1000))) 3) (n 1) (wh - wh / 1000 * 1000))) 4) (n 1) (wt / 100000000))) 5 (upd ((va_up (va_up (va_up T 2 (upd (T 2) (n 1) (wh / 1000))) 3 (upd ((va_up T 2 (upd (T 2) (n 1) (wh / 1000))) 3) (n 1) (wh - wh / 1000 * 1000))) 4 (upd ((va_up (va_up T 2 (upd (T 2) (n 1) (wh / 1000))) 3 (upd ((va_up T 2 (upd (T 2) (n 1) (wh / 1000))) 3) (n 1) (wh - wh / 1000 * 1000))) 4) (n 1) (wt / 100000000))) 5) (n 1) ((wt / 10000) - (wt / 10000) / 10000 * 10000))) 6) (n 1) (if wt - wt / 10000 * 10000 = 0 then 10000 else wt - wt / 10000 * 10000))) 7 (upd ((va_up (va_up (va_up (va_up (va_up T 2 (upd (T 2) (n 1) (wh / 1000))) 3 (upd ((va_up T 2 (upd (T 2) (n 1) (wh / 1000))) 3) (n 1) (wh - wh / 1000 * 1000))) 4 (upd ((va_up (va_up T 2 (upd (T 2) (n 1) (wh / 1000))) 3 (upd ((va_up T 2 (upd (T 2) (n 1) (wh / 1000))) 3) (n 1) (wh - wh / 1000 * 1000))) 4) (n 1) (wt / 100000000))) 5 (upd ((va_up (va_up (va_up T 2 (upd (T 2) (n 1) (wh / 1000))) 3 (upd ((va_up T 2 (upd (T 2) (n 1) (wh / 1000))) 3) (n 1) (wh - wh / 1000 * 1000))) 4 (upd ((va_up (va_up T 2 (upd (T 2) (n 1) (wh / 1000))) 3 (upd ((va_up T 2 (upd (T 2) (n 1) (wh / 1000))) 3) (n 1) (wh - wh / 1000 * 1000))) 4) (n 1) (wt / 100000000))) 5) (n 1) ((wt / 10000) - (wt / 10000) / 10000 * 10000))) 6 (upd ((va_up (va_up (va_up (va_up T 2 (upd (T 2) (n 1) (wh / 1000))) 3 (upd ((va_up T 2 (upd (T 2) (n 1) (wh / 1000))) 3) (n 1) (wh - wh / 1000 * 1000))) 4 (upd ((va_up (va_up T 2 (upd (T 2) (n 1) (wh / 1000))) 3 (upd ((va_up T 2 (upd (T 2) (n 1) (wh / 1000))) 3) (n 1) (wh - wh / 1000 * 1000))) 4) (n 1) (wt / 100000000))) 5 (upd ((va_up (va_up (va_up T 2 (upd (T 2) (n 1) (wh / 1000))) 3 (upd ((va_up T 2 (upd (T 2) (n 1) (wh / 1000))) 3) (n 1) (wh - wh / 1000 * 1000))) 4 (upd ((va_up (va_up T 2 (upd (T 2) (n 1) (wh / 1000))) 3 (upd ((va_up T 2 (upd (T 2) (n 1) (wh / 1000))) 3) (n 1) (wh - wh / 1000 * 1000))) 4) (n 1) (wt / 100000000))) 5) (n 1) ((wt / 10000) - (wt / 10000) / 10000 * 10000))) 6) (n 1) (if wt - wt / 10000 * 10000 = 0 then 10000 else wt - wt / 10000 * 10000))) 7) (n 1) ((we / 10000) - 3000))) 8) (n 1) ((we - we / 10000 * 10000) - 3000))) 9 (upd ((va_up (va_up (va_up (va_up (va_up (va_up (va_up T 2 (upd (T 2) (n 1) (wh / 1000))) 3 (upd ((va_up T 2 (upd (T 2) (n 1) (wh / 1000))) 3) (n 1) (wh - wh / 1000 * 1000))) 4 (upd ((va_up (va_up T 2 (upd (T 2) (n 1) (wh / 1000))) 3 (upd ((va_up T 2 (upd (T 2) (n 1) (wh / 1000))) 3) (n 1) (wh - wh / 1000 * 1000))) 4) (n 1) (wt / 100000000))) 5 (upd ((va_up (va_up (va_up T 2 (upd (T 2) (n 1) (wh / 1000))) 3 (upd ((va_up T 2 (upd (T 2) (n 1) (wh / 1000))) 3) (n 1) (wh - wh / 1000 * 1000))) 4 (upd ((va_up (va_up T 2 (upd (T 2) (n 1) (wh / 1000))) 3 (upd ((va_up T 2 (upd (T 2) (n 1) (wh / 1000))) 3) (n 1) (wh - wh / 1000 * 1000))) 4) (n 1) (wt / 100000000))) 5) (n 1) ((wt / 10000) - (wt / 10000) / 10000 * 10000))) 6 (upd ((va_up (va_up (va_up (va_up T 2 (upd (T 2) (n 1) (wh / 1000))) 3 (upd ((va_up T 2 (upd (T 2) (n 1) (wh / 1000))) 3) (n 1) (wh - wh / 1000 * 1000))) 4 (upd ((va_up (va_up T 2 (upd (T 2) (n 1) (wh / 1000))) 3 (upd ((va_up T 2 (upd (T 2) (n 1) (wh / 1000))) 3) (n 1) (wh - wh / 1000 * 1000))) 4) (n 1) (wt / 100000000))) 5 (upd ((va_up (va_up (va_up T 2 (upd (T 2) (n 1) (wh / 1000))) 3 (upd ((va_up T 2 (upd (T 2) (n 1) (wh / 1000))) 3) (n 1) (wh - wh / 1000 * 1000))) 4 (upd ((va_up (va_up T 2 (upd (T 2) (n 1) (wh / 1000))) 3 (upd ((va_up T 2 (upd (T 2) (n 1) (wh / 1000))) 3) (n 1) (wh - wh / 1000 * 1000))) 4) (n 1) (wt / 100000000))) 5) (n 1) ((wt / 10000) - (wt / 10000) / 10000 * 10000))) 6) (n 1) (if wt - wt / 10000 * 10000 = 0 then 10000 else wt - wt / 10000 * 10000))) 7 (upd ((va_up (va_up (va_up (va_up (va_up T 2 (upd (T 2) (n 1) (wh / 1000))) 3 (upd ((va_up T 2 (upd (T 2) (n 1) (wh / 1000))) 3) (n 1) (wh - wh / 1000 * 1000))) 4 (upd ((va_up (va_up T 2 (upd (T 2) (n 1) (wh / 1000))) 3 (upd ((va_up T 2 (upd (T 2) (n 1) (wh / 1000))) 3) (n 1) (wh - wh / 1000 * 1000))) 4) (n 1) (wt / 100000000))) 5 (upd ((va_up (va_up (va_up T 2 (upd (T 2) (n 1) (wh / 1000))) 3 (upd ((va_up T 2 (upd (T 2) (n 1) (wh / 1000))) 3) (n 1) (wh - wh / 1000 * 1000))) 4 (upd ((va_up (va_up T 2 (upd (T 2) (n 1) (wh / 1000))) 3 (upd ((va_up T 2 (upd (T 2) (n 1) (wh / 1000))) 3) (n 1) (wh - wh / 1000 * 1000))) 4) (n 1) (wt / 100000000))) 5) (n 1) ((wt / 10000) - (wt / 10000) / 10000 * 10000))) 6 (upd ((va_up (va_up (va_up (va_up T 2 (upd (T 2) (n 1) (wh / 1000))) 3 (upd ((va_up T 2 (upd (T 2) (n 1) (wh / 1000))) 3) (n 1) (wh - wh / 1000 * 1000))) 4 (upd ((va_up (va_up T 2 (upd (T 2) (n 1) (wh / 1000))) 3 (upd ((va_up T 2 (upd (T 2) (n 1) (wh / 1000))) 3) (n 1) (wh - wh / 1000 * 1000))) 4) (n 1) (wt / 100000000))) 5 (upd ((va_up (va_up (va_up T 2 (upd (T 2) (n 1) (wh / 1000))) 3 (upd ((va_up T 2 (upd (T 2) (n 1) (wh / 1000))) 3) (n 1) (wh - wh / 1000 * 1000))) 4 (upd ((va_up (va_up T 2 (upd (T 2) (n 1) (wh / 1000))) 3 (upd ((va_up T 2 (upd (T 2) (n 1) (wh / 1000))) 3) (n 1) (wh - wh / 1000 * 1000))) 4) (n 1) (wt / 100000000))) 5) (n 1) ((wt / 10000) - (wt / 10000) / 10000 * 10000))) 6) (n 1) (if wt - wt / 10000 * 10000 = 0 then 10000 else wt - wt / 10000 * 10000))) 7) (n 1) ((we / 10000) - 3000))) 8 (upd ((va_up (va_up (va_up (va_up (va_up (va_up T 2 (upd (T 2) (n 1) (wh / 1000))) 3 (upd ((va_up T 2 (upd (T 2) (n 1) (wh / 1000))) 3) (n 1) (wh - wh / 1000 * 1000))) 4 (upd ((va_up (va_up T 2 (upd (T 2) (n 1) (wh / 1000))) 3 (upd ((va_up T 2 (upd (T 2) (n 1) (wh / 1000))) 3) (n 1) (wh - wh / 1000 * 1000))) 4) (n 1) (wt / 100000000))) 5 (upd ((va_up (va_up (va_up T 2 (upd (T 2) (n 1) (wh / 1000))) 3 (upd ((va_up T 2 (upd (T 2) (n 1) (wh / 1000))) 3) (n 1) (wh - wh / 1000 * 1000))) 4 (upd ((va_up (va_up T 2 (upd (T 2) (n 1) (wh / 1000))) 3 (upd ((va_up T 2 (upd (T 2) (n 1) (wh / 1000))) 3) (n 1) (wh - wh / 1000 * 1000))) 4) (n 1) (wt / 100000000))) 5) (n 1) ((wt / 10000) - (wt / 10000) / 10000 * 10000))) 6 (upd ((va_up (va_up (va_up (va_up T 2 (upd (T 2) (n 1) (wh / 1000))) 3 (upd ((va_up T 2 (upd (T 2) (n 1) (wh / 1000))) 3) (n 1) (wh - wh / 1000 * 1000))) 4 (upd ((va_up (va_up T 2 (upd (T 2) (n 1) (wh / 1000))) 3 (upd ((va_up T 2 (upd (T 2) (n 1) (wh / 1000))) 3) (n 1) (wh - wh / 1000 * 1000))) 4) (n 1) (wt / 100000000))) 5 (upd ((va_up (va_up (va_up T 2 (upd (T 2) (n 1) (wh / 1000))) 3 (upd ((va_up T 2 (upd (T 2) (n 1) (wh / 1000))) 3) (n 1) (wh - wh / 1000 * 1000))) 4 (upd ((va_up (va_up T 2 (upd (T 2) (n 1) (wh / 1000))) 3 (upd ((va_up T 2 (upd (T 2) (n 1) (wh / 1000))) 3) (n 1) (wh - wh / 1000 * 1000))) 4) (n 1) (wt / 100000000))) 5) (n 1) ((wt / 10000) - (wt / 10000) / 10000 * 10000))) 6) (n 1) (if wt - wt / 10000 * 10000 = 0 then 10000 else wt - wt / 10000 * 10000))) 7 (upd ((va_up (va_up (va_up (va_up (va_up T 2 (upd (T 2) (n 1) (wh / 1000))) 3 (upd ((va_up T 2 (upd (T 2) (n 1) (wh / 1000))) 3) (n 1) (wh - wh / 1000 * 1000))) 4 (upd ((va_up (va_up T 2 (upd (T 2) (n 1) (wh / 1000))) 3 (upd ((va_up T 2 (upd (T 2) (n 1) (wh / 1000))) 3) (n 1) (wh - wh / 1000 * 1000))) 4) (n 1) (wt / 100000000))) 5 (upd ((va_up (va_up (va_up T 2 (upd (T 2) (n 1) (wh / 1000))) 3 (upd ((va_up T 2 (upd (T 2) (n 1) (wh / 1000))) 3) (n 1) (wh - wh / 1000 * 1000))) 4 (upd ((va_up (va_up T 2 (upd (T 2) (n 1) (wh / 1000))) 3 (upd ((va_up T 2 (upd (T 2) (n 1) (wh / 1000))) 3) (n 1) (wh - wh / 1000 * 1000))) 4) (n 1) (wt / 100000000))) 5) (n 1) ((wt / 10000) - (wt / 10000) / 10000 * 10000))) 6 (upd ((va_up (va_up (va_up (va_up T 2 (upd (T 2) (n 1) (wh / 1000))) 3 (upd ((va_up T 2 (upd (T 2) (n 1) (wh / 1000))) 3) (n 1) (wh - wh / 1000 * 1000))) 4 (upd ((va_up (va_up T 2 (upd (T 2) (n 1) (wh / 1000))) 3 (upd ((va_up T 2 (upd (T 2) (n 1) (wh / 1000))) 3) (n 1) (wh - wh / 1000 * 1000))) 4) (n 1) (wt / 100000000))) 5 (upd ((va_up (va_up (va_up T 2 (upd (T 2) (n 1) (wh / 1000))) 3 (upd ((va_up T 2 (upd (T 2) (n 1) (wh / 1000))) 3) (n 1) (wh - wh / 1000 * 1000))) 4 (upd ((va_up (va_up T 2 (upd (T 2) (n 1) (wh / 1000))) 3 (upd ((va_up T 2 (upd (T 2) (n 1) (wh / 1000))) 3) (n 1) (wh - wh / 1000 * 1000))) 4) (n 1) (wt / 100000000))) 5) (n 1) ((wt / 10000) - (wt / 10000) / 10000 * 10000))) 6) (n 1) (if wt - wt / 10000 * 10000 = 0 then 10000 else wt - wt / 10000 * 10000))) 7) (n 1) ((we / 10000) - 3000))) 8) (n 1) ((we - we / 10000 * 10000) - 3000))) 9) (n 1) (wo - wo / 100 * 100))) 10 (upd ((va_up (va_up (va_up (va_up (va_up (va_up (va_up (va_up T 2 (upd (T 2) (n 1) (wh / 1000))) 3 (upd ((va_up T 2 (upd (T 2) (n 1) (wh / 1000))) 3) (n 1) (wh - wh / 1000 * 1000))) 4 (upd ((va_up (va_up T 2 (upd (T 2) (n 1) (wh / 1000))) 3 (upd ((va_up T 2 (upd (T 2) (n 1) (wh / 1000))) 3) (n 1) (wh - wh / 1000 * 1000))) 4) (n 1) (wt / 100000000))) 5 (upd ((va_up (va_up (va_up T 2 (upd (T 2) (n 1) (wh / 1000))) 3 (upd ((va_up T 2 (upd (T 2) (n 1) (wh / 1000))) 3) (n 1) (wh - wh / 1000 * 1000))) 4 (upd ((va_up (va_up T 2 (upd (T 2) (n 1) (wh / 1000))) 3 (upd ((va_up T 2 (upd (T 2) (n 1) (wh / 1000))) 3) (n 1) (wh - wh / 1000 * 1000))) 4) (n 1) (wt / 100000000))) 5) (n 1) ((wt / 10000) - (wt / 10000) / 10000 * 10000))) 6 (upd ((va_up (va_up (va_up (va_up T 2 (upd (T 2) (n 1) (wh / 1000))) 3 (upd ((va_up T 2 (upd (T 2) (n 1) (wh / 1000))) 3) (n 1) (wh - wh / 1000 * 1000))) 4 (upd ((va_up (va_up T 2 (upd (T 2) (n 1) (wh / 1000))) 3 (upd ((va_up T 2 (upd (T 2) (n 1) (wh / 1000))) 3) (n 1) (wh - wh / 1000 * 1000))) 4) (n 1) (wt / 100000000))) 5 (upd ((va_up (va_up (va_up T 2 (upd (T 2) (n 1) (wh / 1000))) 3 (upd ((va_up T 2 (upd (T 2) (n 1) (wh / 1000))) 3) (n 1) (wh - wh / 1000 * 1000))) 4 (upd ((va_up (va_up T 2 (upd (T 2) (n 1) (wh / 1000))) 3 (upd ((va_up T 2 (upd (T 2) (n 1) (wh / 1000))) 3) (n 1) (wh - wh / 1000 * 1000))) 4) (n 1) (wt / 100000000))) 5) (n 1) ((wt / 10000) - (wt / 10000) / 10000 * 10000))) 6) (n 1) (if wt - wt / 10000 * 10000 = 0 then 10000 else wt - wt / 10000 * 10000))) 7 (upd ((va_up (va_up (va_up (va_up (va_up T 2 (upd (T 2) (n 1) (wh / 1000))) 3 (upd ((va_up T 2 (upd (T 2) (n 1) (wh / 1000))) 3) (n 1) (wh - wh / 1000 * 1000))) 4 (upd ((va_up (va_up T 2 (upd (T 2) (n 1) (wh / 1000))) 3 (upd ((va_up T 2 (upd (T 2) (n 1) (wh / 1000))) 3) (n 1) (wh - wh / 1000 * 1000))) 4) (n 1) (wt / 100000000))) 5 (upd ((va_up (va_up (va_up T 2 (upd (T 2) (n 1) (wh / 1000))) 3 (upd ((va_up T 2 (upd (T 2) (n 1) (wh / 1000))) 3) (n 1) (wh - wh / 1000 * 1000))) 4 (upd ((va_up (va_up T 2 (upd (T 2) (n 1) (wh / 1000))) 3 (upd ((va_up T 2 (upd (T 2) (n 1) (wh / 1000))) 3) (n 1) (wh - wh / 1000 * 1000))) 4) (n 1) (wt / 100000000))) 5) (n 1) ((wt / 10000) - (wt / 10000) / 10000 * 10000))) 6 (upd ((va_up (va_up (va_up (va_up T 2 (upd (T 2) (n 1) (wh / 1000))) 3 (upd ((va_up T 2 (upd (T 2) (n 1) (wh / 1000))) 3) (n 1) (wh - wh / 1000 * 1000))) 4 (upd ((va_up (va_up T 2 (upd (T 2) (n 1) (wh / 1000))) 3 (upd ((va_up T 2 (upd (T 2) (n 1) (wh / 1000))) 3) (n 1) (wh - wh / 1000 * 1000))) 4) (n 1) (wt / 100000000))) 5 (upd ((va_up (va_up (va_up T 2 (upd (T 2) (n 1) (wh / 1000))) 3 (upd ((va_up T 2 (upd (T 2) (n 1) (wh / 1000))) 3) (n 1) (wh - wh / 1000 * 1000))) 4 (upd ((va_up (va_up T 2 (upd (T 2) (n 1) (wh / 1000))) 3 (upd ((va_up T 2 (upd (T 2) (n 1) (wh / 1000))) 3) (n 1) (wh - wh / 1000 * 1000))) 4) (n 1) (wt / 100000000))) 5) (n 1) ((wt / 10000) - (wt / 10000) / 10000 * 10000))) 6) (n 1) (if wt - wt / 10000 * 10000 = 0 then 10000 else wt - wt / 10000 * 10000))) 7) (n 1) ((we / 10000) - 3000))) 8 (upd ((va_up (va_up (va_up (va_up (va_up (va_up T 2 (upd (T 2) (n 1) (wh / 1000))) 3 (upd ((va_up T 2 (upd (T 2) (n 1) (wh / 1000))) 3) (n 1) (wh - wh / 1000 * 1000))) 4 (upd ((va_up (va_up T 2 (upd (T 2) (n 1) (wh / 1000))) 3 (upd ((va_up T 2 (upd (T 2) (n 1) (wh / 1000))) 3) (n 1) (wh - wh / 1000 * 1000))) 4) (n 1) (wt / 100000000))) 5 (upd ((va_up (va_up (va_up T 2 (upd (T 2) (n 1) (wh / 1000))) 3 (upd ((va_up T 2 (upd (T 2) (n 1) (wh / 1000))) 3) (n 1) (wh - wh / 1000 * 1000))) 4 (upd ((va_up (va_up T 2 (upd (T 2) (n 1) (wh / 1000))) 3 (upd ((va_up T 2 (upd (T 2) (n 1) (wh / 1000))) 3) (n 1) (wh - wh / 1000 * 1000))) 4) (n 1) (wt / 100000000))) 5) (n 1) ((wt / 10000) - (wt / 10000) / 10000 * 10000))) 6 (upd ((va_up (va_up (va_up (va_up T 2 (upd (T 2) (n 1) (wh / 1000))) 3 (upd ((va_up T 2 (upd (T 2) (n 1) (wh / 1000))) 3) (n 1) (wh - wh / 1000 * 1000))) 4 (upd ((va_up (va_up T 2 (upd (T 2) (n 1) (wh / 1000))) 3 (upd ((va_up T 2 (upd (T 2) (n 1) (wh / 1000))) 3) (n 1) (wh - wh / 1000 * 1000))) 4) (n 1) (wt / 100000000))) 5 (upd ((va_up (va_up (va_up T 2 (upd (T 2) (n 1) (wh / 1000))) 3 (upd ((va_up T 2 (upd (T 2) (n 1) (wh / 1000))) 3) (n 1) (wh - wh / 1000 * 1000))) 4 (upd ((va_up (va_up T 2 (upd (T 2) (n 1) (wh / 1000))) 3 (upd ((va_up T 2 (upd (T 2) (n 1) (wh / 1000))) 3) (n 1) (wh - wh / 1000 * 1000))) 4) (n 1) (wt / 100000000))) 5) (n 1) ((wt / 10000) - (wt / 10000) / 10000 * 10000))) 6) (n 1) (if wt - wt / 10000 * 10000 = 0 then 10000 else wt - wt / 10000 * 10000))) 7 (upd ((va_up (va_up (va_up (va_up (va_up T 2 (upd (T 2) (n 1) (wh / 1000))) 3 (upd ((va_up T 2 (upd (T 2) (n 1) (wh / 1000))) 3) (n 1) (wh - wh / 1000 * 1000))) 4 (upd ((va_up (va_up T 2 (upd (T 2) (n 1) (wh / 1000))) 3 (upd ((va_up T 2 (upd (T 2) (n 1) (wh / 1000))) 3) (n 1) (wh - wh / 1000 * 1000))) 4) (n 1) (wt / 100000000))) 5 (upd ((va_up (va_up (va_up T 2 (upd (T 2) (n 1) (wh / 1000))) 3 (upd ((va_up T 2 (upd (T 2) (n 1) (wh / 1000))) 3) (n 1) (wh - wh / 1000 * 1000))) 4 (upd ((va_up (va_up T 2 (upd (T 2) (n 1) (wh / 1000))) 3 (upd ((va_up T 2 (upd (T 2) (n 1) (wh / 1000))) 3) (n 1) (wh - wh / 1000 * 1000))) 4) (n 1) (wt / 100000000))) 5) (n 1) ((wt / 10000) - (wt / 10000) / 10000 * 10000))) 6 (upd ((va_up (va_up (va_up (va_up T 2 (upd (T 2) (n 1) (wh / 1000))) 3 (upd ((va_up T 2 (upd (T 2) (n 1) (wh / 1000))) 3) (n 1) (wh - wh / 1000 * 1000))) 4 (upd ((va_up (va_up T 2 (upd (T 2) (n 1) (wh / 1000))) 3 (upd ((va_up T 2 (upd (T 2) (n 1) (wh / 1000))) 3) (n 1) (wh - wh / 1000 * 1000))) 4) (n 1) (wt / 100000000))) 5 (upd ((va_up (va_up (va_up T 2 (upd (T 2) (n 1) (wh / 1000))) 3 (upd ((va_up T 2 (upd (T 2) (n 1) (wh / 1000))) 3) (n 1) (wh - wh / 1000 * 1000))) 4 (upd ((va_up (va_up T 2 (upd (T 2) (n 1) (wh / 1000))) 3 (upd ((va_up T 2 (upd (T 2) (n 1) (wh / 1000))) 3) (n 1) (wh - wh / 1000 * 1000))) 4) (n 1) (wt / 100000000))) 5) (n 1) ((wt / 10000) - (wt / 10000) / 10000 * 10000))) 6) (n 1) (if wt - wt / 10000 * 10000 = 0 then 10000 else wt - wt / 10000 * 10000))) 7) (n 1) ((we / 10000) - 3000))) 8) (n 1) ((we - we / 10000 * 10000) - 3000))) 9 (upd ((va_up (va_up (va_up (va_up (va_up (va_up (va_up T 2 (upd (T 2) (n 1) (wh / 1000))) 3 (upd ((va_up T 2 (upd (T 2) (n 1) (wh / 1000))) 3) (n 1) (wh - wh / 1000 * 1000))) 4 (upd ((va_up (va_up T 2 (upd (T 2) (n 1) (wh / 1000))) 3 (upd ((va_up T 2 (upd (T 2) (n 1) (wh / 1000))) 3) (n 1) (wh - wh / 1000 * 1000))) 4) (n 1) (wt / 100000000))) 5 (upd ((va_up (va_up (va_up T 2 (upd (T 2) (n 1) (wh / 1000))) 3 (upd ((va_up T 2 (upd (T 2) (n 1) (wh / 1000))) 3) (n 1) (wh - wh / 1000 * 1000))) 4 (upd ((va_up (va_up T 2 (upd (T 2) (n 1) (wh / 1000))) 3 (upd ((va_up T 2 (upd (T 2) (n 1) (wh / 1000))) 3) (n 1) (wh - wh / 1000 * 1000))) 4) (n 1) (wt / 100000000))) 5) (n 1) ((wt / 10000) - (wt / 10000) / 10000 * 10000))) 6 (upd ((va_up (va_up (va_up (va_up T 2 (upd (T 2) (n 1) (wh / 1000))) 3 (upd ((va_up T 2 (upd (T 2) (n 1) (wh / 1000))) 3) (n 1) (wh - wh / 1000 * 1000))) 4 (upd ((va_up (va_up T 2 (upd (T 2) (n 1) (wh / 1000))) 3 (upd ((va_up T 2 (upd (T 2) (n 1) (wh / 1000))) 3) (n 1) (wh - wh / 1000 * 1000))) 4) (n 1) (wt / 100000000))) 5 (upd ((va_up (va_up (va_up T 2 (upd (T 2) (n 1) (wh / 1000))) 3 (upd ((va_up T 2 (upd (T 2) (n 1) (wh / 1000))) 3) (n 1) (wh - wh / 1000 * 1000))) 4 (upd ((va_up (va_up T 2 (upd (T 2) (n 1) (wh / 1000))) 3 (upd ((va_up T 2 (upd (T 2) (n 1) (wh / 1000))) 3) (n 1) (wh - wh / 1000 * 1000))) 4) (n 1) (wt / 100000000))) 5) (n 1) ((wt / 10000) - (wt / 10000) / 10000 * 10000))) 6) (n 1) (if wt - wt / 10000 * 10000 = 0 then 10000 else wt - wt / 10000 * 10000))) 7 (upd ((va_up (va_up (va_up (va_up (va_up T 2 (upd (T 2) (n 1) (wh / 1000))) 3 (upd ((va_up T 2 (upd (T 2) (n 1) (wh / 1000))) 3) (n 1) (wh - wh / 1000 * 1000))) 4 (upd ((va_up (va_up T 2 (upd (T 2) (n 1) (wh / 1000))) 3 (upd ((va_up T 2 (upd (T 2) (n 1) (wh / 1000))) 3) (n 1) (wh - wh / 1000 * 1000))) 4) (n 1) (wt / 100000000))) 5 (upd ((va_up (va_up (va_up T 2 (upd (T 2) (n 1) (wh / 1000))) 3 (upd ((va_up T 2 (upd (T 2) (n 1) (wh / 1000))) 3) (n 1) (wh - wh / 1000 * 1000))) 4 (upd ((va_up (va_up T 2 (upd (T 2) (n 1) (wh / 1000))) 3 (upd ((va_up T 2 (upd (T 2) (n 1) (wh / 1000))) 3) (n 1) (wh - wh / 1000 * 1000))) 4) (n 1) (wt / 100000000))) 5) (n 1) ((wt / 10000) - (wt / 10000) / 10000 * 10000))) 6 (upd ((va_up (va_up (va_up (va_up T 2 (upd (T 2) (n 1) (wh / 1000))) 3 (upd ((va_up T 2 (upd (T 2) (n 1) (wh / 1000))) 3) (n 1) (wh - wh / 1000 * 1000))) 4 (upd ((va_up (va_up T 2 (upd (T 2) (n 1) (wh / 1000))) 3 (upd ((va_up T 2 (upd (T 2) (n 1) (wh / 1000))) 3) (n 1) (wh - wh / 1000 * 1000))) 4) (n 1) (wt / 100000000))) 5 (upd ((va_up (va_up (va_up T 2 (upd (T 2) (n 1) (wh / 1000))) 3 (upd ((va_up T 2 (upd (T 2) (n 1) (wh / 1000))) 3) (n 1) (wh - wh / 1000 * 1000))) 4 (upd ((va_up (va_up T 2 (upd (T 2) (n 1) (wh / 1000))) 3 (upd ((va_up T 2 (upd (T 2) (n 1) (wh / 1000))) 3) (n 1) (wh - wh / 1000 * 1000))) 4) (n 1) (wt / 100000000))) 5) (n 1) ((wt / 10000) - (wt / 10000) / 10000 * 10000))) 6) (n 1) (if wt - wt / 10000 * 10000 = 0 then 10000 else wt - wt / 10000 * 10000))) 7) (n 1) ((we / 10000) - 3000))) 8 (upd ((va_up (va_up (va_up (va_up (va_up (va_up T 2 (upd (T 2) (n 1) (wh / 1000))) 3 (upd ((va_up T 2 (upd (T 2) (n 1) (wh / 1000))) 3) (n 1) (wh - wh / 1000 * 1000))) 4 (upd ((va_up (va_up T 2 (upd (T 2) (n 1) (wh / 1000))) 3 (upd ((va_up T 2 (upd (T 2) (n 1) (wh / 1000))) 3) (n 1) (wh - wh / 1000 * 1000))) 4) (n 1) (wt / 100000000))) 5 (upd ((va_up (va_up (va_up T 2 (upd (T 2) (n 1) (wh / 1000))) 3 (upd ((va_up T 2 (upd (T 2) (n 1) (wh / 1000))) 3) (n 1) (wh - wh / 1000 * 1000))) 4 (upd ((va_up (va_up T 2 (upd (T 2) (n 1) (wh / 1000))) 3 (upd ((va_up T 2 (upd (T 2) (n 1) (wh / 1000))) 3) (n 1) (wh - wh / 1000 * 1000))) 4) (n 1) (wt / 100000000))) 5) (n 1) ((wt / 10000) - (wt / 10000) / 10000 * 10000))) 6 (upd ((va_up (va_up (va_up (va_up T 2 (upd (T 2) (n 1) (wh / 1000))) 3 (upd ((va_up T 2 (upd (T 2) (n 1) (wh / 1000))) 3) (n 1) (wh - wh / 1000 * 1000))) 4 (upd ((va_up (va_up T 2 (upd (T 2) (n 1) (wh / 1000))) 3 (upd ((va_up T 2 (upd (T 2) (n 1) (wh / 1000))) 3) (n 1) (wh - wh / 1000 * 1000))) 4) (n 1) (wt / 100000000))) 5 (upd ((va_up (va_up (va_up T 2 (upd (T 2) (n 1) (wh / 1000))) 3 (upd ((va_up T 2 (upd (T 2) (n 1) (wh / 1000))) 3) (n 1) (wh - wh / 1000 * 1000))) 4 (upd ((va_up (va_up T 2 (upd (T 2) (n 1) (wh / 1000))) 3 (upd ((va_up T 2 (upd (T 2) (n 1) (wh / 1000))) 3) (n 1) (wh - wh / 1000 * 1000))) 4) (n 1) (wt / 100000000))) 5) (n 1) ((wt / 10000) - (wt / 10000) / 10000 * 10000))) 6) (n 1) (if wt - wt / 10000 * 10000 = 0 then 10000 else wt - wt / 10000 * 10000))) 7 (upd ((va_up (va_up (va_up (va_up (va_up T 2 (upd (T 2) (n 1) (wh / 1000))) 3 (upd ((va_up T 2 (upd (T 2) (n 1) (wh / 1000))) 3) (n 1) (wh - wh / 1000 * 1000))) 4 (upd ((va_up (va_up T 2 (upd (T 2) (n 1) (wh / 1000))) 3 (upd ((va_up T 2 (upd (T 2) (n 1) (wh / 1000))) 3) (n 1) (wh - wh / 1000 * 1000))) 4) (n 1) (wt / 100000000))) 5 (upd ((va_up (va_up (va_up T 2 (upd (T 2) (n 1) (wh / 1000))) 3 (upd ((va_up T 2 (upd (T 2) (n 1) (wh / 1000))) 3) (n 1) (wh - wh / 1000 * 1000))) 4 (upd ((va_up (va_up T 2 (upd (T 2) (n 1) (wh / 1000))) 3 (upd ((va_up T 2 (upd (T 2) (n 1) (wh / 1000))) 3) (n 1) (wh - wh / 1000 * 1000))) 4) (n 1) (wt / 100000000))) 5) (n 1) ((wt / 10000) - (wt / 10000) / 10000 * 10000))) 6 (upd ((va_up (va_up (va_up (va_up T 2 (upd (T 2) (n 1) (wh / 1000))) 3 (upd ((va_up T 2 (upd (T 2) (n 1) (wh / 1000))) 3) (n 1) (wh - wh / 1000 * 1000))) 4 (upd ((va_up (va_up T 2 (upd (T 2) (n 1) (wh / 1000))) 3 (upd ((va_up T 2 (upd (T 2) (n 1) (wh / 1000))) 3) (n 1) (wh - wh / 1000 * 1000))) 4) (n 1) (wt / 100000000))) 5 (upd ((va_up (va_up (va_up T 2 (upd (T 2) (n 1) (wh / 1000))) 3 (upd ((va_up T 2 (upd (T 2) (n 1) (wh / 1000))) 3) (n 1) (wh - wh / 1000 * 1000))) 4 (upd ((va_up (va_up T 2 (upd (T 2) (n 1) (wh / 1000))) 3 (upd ((va_up T 2 (upd (T 2) (n 1) (wh / 1000))) 3) (n 1) (wh - wh / 1000 * 1000))) 4) (n 1) (wt / 100000000))) 5) (n 1) ((wt / 10000) - (wt / 10000) / 10000 * 10000))) 6) (n 1) (if wt - wt / 10000 * 10000 = 0 then 10000 else wt - wt / 10000 * 10000))) 7) (n 1) ((we / 10000) - 3000))) 8) (n 1) ((we - we / 10000 * 10000) - 3000))) 9) (n 1) (wo - wo / 100 * 100))) 10) (n 1) (wo / 100))) 0 0)) (C := RX10) (T := TX10) (N := 38) hx hb hts hiX10 hown hE.1 hP 0 mol_0 rfl 0 (by decide) (hts (.fieldLink RX10 113 "FindsOfficeModel" "now" "I") (by decide +kernel)) (fun _ h9 => h9) rfl dX10_find_274 ?_
                            refine my_iast (k := (n 1)) hx hb hE.1 hP hD hS 10 0 mol_11 rfl rfl (by omega) (by decide) dX10_find_277 (fun H locs hP hD hS => ?_)
                            rw [mos_11] at hP hD
                            refine lv_aload_n hx hb dX10_find_278 rfl (lv_at hl 5 rfl) ?_
                            refine va_get (D := D) (ci := 10) (v := .ref (a 12)) (C := RX10) (T := TX10) (N := 38) hx hb hts hiX10 hown hE.1 hP 0 mol_0 rfl 12 (by decide) (hts (.fieldLink RX10 40 "FindsOfficeModel" "museumOf" "[I") (by decide +kernel)) (fun _ h9 => h9) rfl dX10_find_279 ?_
                            refine lv_aload_n hx hb dX10_find_282 rfl (lv_at hl 5 rfl) ?_
                            refine va_get (D := D) (ci := 10) (v := .int (nI (n 1))) (C := RX10) (T := TX10) (N := 38) hx hb hts hiX10 hown hE.1 hP 0 mol_0 rfl 1 (by decide) (hts (.fieldLink RX10 106 "FindsOfficeModel" "finds" "I") (by decide +kernel)) (fun _ h9 => h9) rfl dX10_find_283 ?_
                            refine lv_iconst (v := (-1)) hx hb dX10_find_286 (by decide) ?_
                            refine my_iast (k := (n 1)) hx hb hE.1 hP hD hS 11 0 mol_12 rfl rfl (by omega) (by decide) dX10_find_287 (fun H locs hP hD hS => ?_)
                            rw [mos_12] at hP hD
                            refine lv_aload_n hx hb dX10_find_288 rfl (lv_at hl 5 rfl) ?_
                            refine lv_dup hx hb dX10_find_289 rfl ?_
                            refine va_get (D := D) (ci := 10) (v := .int (nI (n 1))) (C := RX10) (T := TX10) (N := 38) hx hb hts hiX10 hown hE.1 hP 0 mol_0 rfl 1 (by decide) (hts (.fieldLink RX10 106 "FindsOfficeModel" "finds" "I") (by decide +kernel)) (fun _ h9 => h9) rfl dX10_find_290 ?_
                            refine lv_iconst (v := 1) hx hb dX10_find_293 (by decide) ?_
                            refine lv_iadd hx hb dX10_find_294 ?_
                            refine topi_eq (nI_add _ 1) ?_
                            refine va_put (D := D) (ci := 10) (v := .int (nI ((n 1) + 1))) (ty := .int) (C := RX10) (T := TX10) (N := 38) hx hb hts hiX10 tyX10 tyX10_ok nmX10 hown hE.1 hP hD hS 0 mol_0 rfl 1 (by decide) (hts (.fieldLink RX10 106 "FindsOfficeModel" "finds" "I") (by decide +kernel)) (fun _ h9 => h9) rfl (by decide +kernel) rfl rfl (Nat.le_of_ble_eq_true rfl) dX10_find_295 (fun H locs hP hD hS => ?_)
                            rw [mos_1] at hP hD
                            refine lv_aload_n hx hb dX10_find_298 rfl (lv_at hl 5 rfl) ?_
                            refine va_get (D := D) (ci := 10) (v := .int (nI ((va_up n 1 ((n 1) + 1)) 1))) (C := RX10) (T := TX10) (N := 38) hx hb hts hiX10 hown hE.1 hP 0 mol_0 rfl 1 (by decide) (hts (.fieldLink RX10 106 "FindsOfficeModel" "finds" "I") (by decide +kernel)) (fun _ h9 => h9) rfl dX10_find_299 ?_
                            refine lv_iconst (v := 1) hx hb dX10_find_302 (by decide) ?_
                            refine lv_isub hx hb dX10_find_303 ?_
                            exact rw_iret hx hb hr hlocks (by rw [if_pos (show fiB T n wh wt we wo = true by simp [fiB, c_1, c_2, c_3, c_4, c_5, c_6, c_7, c_8, c_9, c_10, c_11, c_12])] <;> exact nI_pred _) ⟨_, _, _, ⟨(by rw [if_pos (show fiB T n wh wt we wo = true by simp [fiB, c_1, c_2, c_3, c_4, c_5, c_6, c_7, c_8, c_9, c_10, c_11, c_12])]; rfl), (by rw [if_pos (show fiB T n wh wt we wo = true by simp [fiB, c_1, c_2, c_3, c_4, c_5, c_6, c_7, c_8, c_9, c_10, c_11, c_12])])⟩, hP, hD⟩ hS (Nat.le_of_ble_eq_true rfl) (Nat.le_of_ble_eq_true rfl) dX10_find_304
                          · have k_12 := nat_eq (a := (n 1)) (b := 50) c_12 (by omega) (by omega)
                            refine lv_iconst (v := (-1)) hx hb dX10_find_144 (by decide) ?_
                            exact rw_iret hx hb hr hlocks (by rw [if_neg (show ¬ fiB T n wh wt we wo = true by simp [fiB, c_1, c_2, c_3, c_4, c_5, c_6, c_7, c_8, c_9, c_10, c_11, c_12])]) ⟨_, _, _, ⟨(by rw [if_neg (show ¬ fiB T n wh wt we wo = true by simp [fiB, c_1, c_2, c_3, c_4, c_5, c_6, c_7, c_8, c_9, c_10, c_11, c_12])]), (by rw [if_neg (show ¬ fiB T n wh wt we wo = true by simp [fiB, c_1, c_2, c_3, c_4, c_5, c_6, c_7, c_8, c_9, c_10, c_11, c_12])])⟩, hP, hD⟩ hS (Nat.le_of_ble_eq_true rfl) (Nat.le_of_ble_eq_true rfl) dX10_find_145
            refine lv_iload_n hx hb dX10_find_25 rfl (lv_at hl 2 rfl) ?_
            refine lv_sipush (v := 10000) hx hb dX10_find_26 (by decide) ?_
            refine lv_irem hx hb dX10_find_29 (by decide) ?_
            refine lv_if_ne (tgt := 39) hx hb dX10_find_30 (by decide) (fun c_13 => ?_) (fun c_13 => ?_)
            · refine lv_iload_n hx hb dX10_find_39 rfl (lv_at hl 2 rfl) ?_
              refine lv_sipush (v := 10000) hx hb dX10_find_40 (by decide) ?_
              refine lv_irem hx hb dX10_find_43 (by decide) ?_
              exact J_44 _ (by rw [if_neg c_13]) ls (lv_sub hl [0, 1, 2, 3, 4] rfl)
            · refine lv_sipush (v := 10000) hx hb dX10_find_33 (by decide) ?_
              refine lv_goto (tgt := 44) hx hb dX10_find_36 (by decide) ?_
              exact J_44 _ (by rw [if_pos c_13]) ls (lv_sub hl [0, 1, 2, 3, 4] rfl)
          · refine lv_iconst (v := (-1)) hx hb dX10_find_23 (by decide) ?_
            exact rw_iret hx hb hr hlocks (by rw [if_neg (show ¬ fiB T n wh wt we wo = true by simp [fiB, c_1, c_2, c_3, c_4, c_5])]) ⟨_, _, _, ⟨(by rw [if_neg (show ¬ fiB T n wh wt we wo = true by simp [fiB, c_1, c_2, c_3, c_4, c_5])]), (by rw [if_neg (show ¬ fiB T n wh wt we wo = true by simp [fiB, c_1, c_2, c_3, c_4, c_5])])⟩, hP, hD⟩ hS (Nat.le_of_ble_eq_true rfl) (Nat.le_of_ble_eq_true rfl) dX10_find_24
set_option maxHeartbeats 4000000 in
set_option maxRecDepth 100000 in
theorem c_X10_part (l : Launch) (D : va_G) (cT : Nat → ClassId) (sz : Nat) (a : Nat → Nat) (T : Nat → Nat → Int32) (n : Nat → Nat) (z : Nat → Int32) (i j : Int32) (hn : Cnt n) : Met l yX10_part wsX10_part ({ frames := 2, cells := 0, slots := 0, locals := 43 }) (va_Pc [.ref (a 0), .int i, .int j] (PW D cT (modW cT a T n z) sz)) (QW (some (.int (b2 (paB T n i j)))) ((poN D cT a (if paB T n i j = true then paT T i.toNatClampNeg j.toNatClampNeg else T) n) (va_A (modW cT a T n z) sz)) (va_A (modW cT a T n z) sz)) 0 0 (va_A (modW cT a T n z) sz) := by
  refine RW_of (Bp := (poN D cT a (if paB T n i j = true then paT T i.toNatClampNeg j.toNatClampNeg else T) n)) (by decide) rfl (Nat.le_of_ble_eq_true rfl) ?_
  intro p e s m below meth c A hx hb hr hts hown hlocks hin hml hE hD hA H locs hP hS ls hl
  have hiX10 : ∀ w ∈ wsX100, w ∈ wsX10_part := by decide +kernel
  have hl : lv_has ls 3 [(0, .ref (a 0)), (1, .int i), (2, .int j)] := hl
  obtain ⟨hn0, hn1, hn2, hn3, hn4⟩ := id hn
  refine lv_aload_n hx hb dX10_part_0 rfl (lv_at hl 0 rfl) ?_
  refine lv_iload_n hx hb dX10_part_1 rfl (lv_at hl 1 rfl) ?_
  refine ro_V (As := [.int i]) (rest := []) ⟨hx, hb, hml, hown, hts⟩ (c_X10_isFind l D cT a T n z i hn) (cwV 1 hts gX10_part_X10_isFind rfl rfl rfl (by decide +kernel) ⟨Nat.le_of_ble_eq_true rfl, Nat.le_of_ble_eq_true rfl⟩) hE hP 0 10 mol_0 rfl rfl rfl hl.1 rfl (Nat.le_of_ble_eq_true rfl) dX10_part_2 ⟨Nat.zero_le _, Nat.zero_le _⟩ ?_
  refine bi_eq (tgt := 37) hx hb dX10_part_5 (by decide) (fun c_1 => ?_) (fun c_1 => ?_)
  · refine lv_iconst (v := 0) hx hb dX10_part_37 (by decide) ?_
    exact rw_zret hx hb hr hlocks (by simp [b2, paB, c_1]) ⟨_, _, _, ⟨(by rw [if_neg (by simp [paB, c_1])]), rfl⟩, hP, hD⟩ hS (Nat.le_of_ble_eq_true rfl) (Nat.le_of_ble_eq_true rfl) dX10_part_38
  · obtain ⟨k, hk, rfl⟩ := isT_k c_1 (by omega)
    refine lv_aload_n hx hb dX10_part_8 rfl (lv_at hl 0 rfl) ?_
    refine lv_iload_n hx hb dX10_part_9 rfl (lv_at hl 2 rfl) ?_
    refine ro_V (As := [.int j]) (rest := []) ⟨hx, hb, hml, hown, hts⟩ (c_X10_isFind l D cT a T n z j hn) (cwV 1 hts gX10_part_X10_isFind rfl rfl rfl (by decide +kernel) ⟨Nat.le_of_ble_eq_true rfl, Nat.le_of_ble_eq_true rfl⟩) hE hP 0 10 mol_0 rfl rfl rfl hl.1 rfl (Nat.le_of_ble_eq_true rfl) dX10_part_10 ⟨Nat.zero_le _, Nat.zero_le _⟩ ?_
    refine bi_eq (tgt := 37) hx hb dX10_part_13 (by decide) (fun c_2 => ?_) (fun c_2 => ?_)
    · refine lv_iconst (v := 0) hx hb dX10_part_37 (by decide) ?_
      exact rw_zret hx hb hr hlocks (by simp [b2, paB, c_1, c_2]) ⟨_, _, _, ⟨(by rw [if_neg (by simp [paB, c_1, c_2])]), rfl⟩, hP, hD⟩ hS (Nat.le_of_ble_eq_true rfl) (Nat.le_of_ble_eq_true rfl) dX10_part_38
    · obtain ⟨q, hq, rfl⟩ := isT_k c_2 (by omega)
      refine lv_iload_n hx hb dX10_part_16 rfl (lv_at hl 1 rfl) ?_
      refine lv_iload_n hx hb dX10_part_17 rfl (lv_at hl 2 rfl) ?_
      refine lv_icmp_eq (tgt := 37) hx hb dX10_part_18 (by decide) (fun c_3 => ?_) (fun c_3 => ?_)
      · have k_3 := nat_eq (a := k) (b := q) c_3 (by omega) (by omega)
        refine lv_iconst (v := 0) hx hb dX10_part_37 (by decide) ?_
        exact rw_zret hx hb hr hlocks (by simp [b2, paB, nI_clamp (show k < 2 ^ 31 by omega), nI_clamp (show q < 2 ^ 31 by omega), c_1, c_2, c_3]) ⟨_, _, _, ⟨(by rw [if_neg (by simp [paB, nI_clamp (show k < 2 ^ 31 by omega), nI_clamp (show q < 2 ^ 31 by omega), c_1, c_2, c_3])]), rfl⟩, hP, hD⟩ hS (Nat.le_of_ble_eq_true rfl) (Nat.le_of_ble_eq_true rfl) dX10_part_38
      · have k_3 := nat_ne (a := k) (b := q) c_3
        refine lv_aload_n hx hb dX10_part_21 rfl (lv_at hl 0 rfl) ?_
        refine va_get (D := D) (ci := 10) (v := .ref (a 13)) (C := RX10) (T := TX10) (N := 38) hx hb hts hiX10 hown hE.1 hP 0 mol_0 rfl 13 (by decide) (hts (.fieldLink RX10 43 "FindsOfficeModel" "parted" "[I") (by decide +kernel)) (fun _ h9 => h9) rfl dX10_part_22 ?_
        refine lv_bipush (v := 50) hx hb dX10_part_25 (by decide) ?_
        refine lv_iload_n hx hb dX10_part_27 rfl (lv_at hl 1 rfl) ?_
        refine lv_imul hx hb dX10_part_28 ?_
        refine lv_iload_n hx hb dX10_part_29 rfl (lv_at hl 2 rfl) ?_
        refine lv_iadd hx hb dX10_part_30 ?_
        refine my_iald (k := 50 * k + q) hx hb hE.1 hP 12 0 mol_13 rfl (by rw [show (50 : Int32) = nI 50 from rfl, pk_mul, nI_add]) (by omega) (by decide) dX10_part_31 ?_
        refine lv_ldc (own := RX10) (v := 1000000) hx hb hown (hts (.constant RX10 105 1000000) (by decide +kernel)) dX10_part_32 ?_
        refine lv_icmp_eq (tgt := 39) hx hb dX10_part_34 (by decide) (fun c_4 => ?_) (fun c_4 => ?_)
        · refine lv_aload_n hx hb dX10_part_39 rfl (lv_at hl 0 rfl) ?_
          refine va_get (D := D) (ci := 10) (v := .ref (a 13)) (C := RX10) (T := TX10) (N := 38) hx hb hts hiX10 hown hE.1 hP 0 mol_0 rfl 13 (by decide) (hts (.fieldLink RX10 43 "FindsOfficeModel" "parted" "[I") (by decide +kernel)) (fun _ h9 => h9) rfl dX10_part_40 ?_
          refine lv_bipush (v := 50) hx hb dX10_part_43 (by decide) ?_
          refine lv_iload_n hx hb dX10_part_45 rfl (lv_at hl 1 rfl) ?_
          refine lv_imul hx hb dX10_part_46 ?_
          refine lv_iload_n hx hb dX10_part_47 rfl (lv_at hl 2 rfl) ?_
          refine lv_iadd hx hb dX10_part_48 ?_
          refine lv_aload_n hx hb dX10_part_49 rfl (lv_at hl 0 rfl) ?_
          refine va_get (D := D) (ci := 10) (v := .int (T 0 0)) (C := RX10) (T := TX10) (N := 38) hx hb hts hiX10 hown hE.1 hP 0 mol_0 rfl 0 (by decide) (hts (.fieldLink RX10 113 "FindsOfficeModel" "now" "I") (by decide +kernel)) (fun _ h9 => h9) rfl dX10_part_50 ?_
          refine my_iast (k := 50 * k + q) hx hb hE.1 hP hD hS 12 0 mol_13 rfl (by rw [show (50 : Int32) = nI 50 from rfl, pk_mul, nI_add]) (by omega) (by decide) dX10_part_53 (fun H locs hP hD hS => ?_)
          rw [mos_13] at hP hD
          refine lv_aload_n hx hb dX10_part_54 rfl (lv_at hl 0 rfl) ?_
          refine va_get (D := D) (ci := 10) (v := .ref (a 13)) (C := RX10) (T := TX10) (N := 38) hx hb hts hiX10 hown hE.1 hP 0 mol_0 rfl 13 (by decide) (hts (.fieldLink RX10 43 "FindsOfficeModel" "parted" "[I") (by decide +kernel)) (fun _ h9 => h9) rfl dX10_part_55 ?_
          refine lv_bipush (v := 50) hx hb dX10_part_58 (by decide) ?_
          refine lv_iload_n hx hb dX10_part_60 rfl (lv_at hl 2 rfl) ?_
          refine lv_imul hx hb dX10_part_61 ?_
          refine lv_iload_n hx hb dX10_part_62 rfl (lv_at hl 1 rfl) ?_
          refine lv_iadd hx hb dX10_part_63 ?_
          refine lv_aload_n hx hb dX10_part_64 rfl (lv_at hl 0 rfl) ?_
          refine va_get (D := D) (ci := 10) (v := .int ((va_up T 13 (upd (T 13) (50 * k + q) (T 0 0))) 0 0)) (C := RX10) (T := TX10) (N := 38) hx hb hts hiX10 hown hE.1 hP 0 mol_0 rfl 0 (by decide) (hts (.fieldLink RX10 113 "FindsOfficeModel" "now" "I") (by decide +kernel)) (fun _ h9 => h9) rfl dX10_part_65 ?_
          refine my_iast (k := 50 * q + k) hx hb hE.1 hP hD hS 12 0 mol_13 rfl (by rw [show (50 : Int32) = nI 50 from rfl, pk_mul, nI_add]) (by omega) (by decide) dX10_part_68 (fun H locs hP hD hS => ?_)
          rw [mos_13] at hP hD
          refine lv_aload_n hx hb dX10_part_69 rfl (lv_at hl 0 rfl) ?_
          refine lv_dup hx hb dX10_part_70 rfl ?_
          refine va_get (D := D) (ci := 10) (v := .int ((va_up (va_up T 13 (upd (T 13) (50 * k + q) (T 0 0))) 13 (upd ((va_up T 13 (upd (T 13) (50 * k + q) (T 0 0))) 13) (50 * q + k) ((va_up T 13 (upd (T 13) (50 * k + q) (T 0 0))) 0 0))) 14 0)) (C := RX10) (T := TX10) (N := 38) hx hb hts hiX10 hown hE.1 hP 0 mol_0 rfl 14 (by decide) (hts (.fieldLink RX10 130 "FindsOfficeModel" "partings" "I") (by decide +kernel)) (fun _ h9 => h9) rfl dX10_part_71 ?_
          refine lv_iconst (v := 1) hx hb dX10_part_74 (by decide) ?_
          refine lv_iadd hx hb dX10_part_75 ?_
          refine va_put (D := D) (ci := 10) (v := .int (((va_up (va_up T 13 (upd (T 13) (50 * k + q) (T 0 0))) 13 (upd ((va_up T 13 (upd (T 13) (50 * k + q) (T 0 0))) 13) (50 * q + k) ((va_up T 13 (upd (T 13) (50 * k + q) (T 0 0))) 0 0))) 14 0) + 1)) (ty := .int) (C := RX10) (T := TX10) (N := 38) hx hb hts hiX10 tyX10 tyX10_ok nmX10 hown hE.1 hP hD hS 0 mol_0 rfl 14 (by decide) (hts (.fieldLink RX10 130 "FindsOfficeModel" "partings" "I") (by decide +kernel)) (fun _ h9 => h9) rfl (by decide +kernel) rfl rfl (Nat.le_of_ble_eq_true rfl) dX10_part_76 (fun H locs hP hD hS => ?_)
          rw [mos_14] at hP hD
          refine lv_iconst (v := 1) hx hb dX10_part_79 (by decide) ?_
          exact rw_zret hx hb hr hlocks (by simp [b2, paB, nI_clamp (show k < 2 ^ 31 by omega), nI_clamp (show q < 2 ^ 31 by omega), c_1, c_2, c_3, c_4]) ⟨_, _, _, ⟨(by rw [if_pos (show paB T n (nI k) (nI q) = true by simp [paB, nI_clamp (show k < 2 ^ 31 by omega), nI_clamp (show q < 2 ^ 31 by omega), c_1, c_2, c_3, c_4]), nI_clamp (by omega), nI_clamp (by omega)]; rfl), rfl⟩, hP, hD⟩ hS (Nat.le_of_ble_eq_true rfl) (Nat.le_of_ble_eq_true rfl) dX10_part_80
        · refine lv_iconst (v := 0) hx hb dX10_part_37 (by decide) ?_
          exact rw_zret hx hb hr hlocks (by simp [b2, paB, nI_clamp (show k < 2 ^ 31 by omega), nI_clamp (show q < 2 ^ 31 by omega), c_1, c_2, c_3, c_4]) ⟨_, _, _, ⟨(by rw [if_neg (by simp [paB, nI_clamp (show k < 2 ^ 31 by omega), nI_clamp (show q < 2 ^ 31 by omega), c_1, c_2, c_3, c_4])]), rfl⟩, hP, hD⟩ hS (Nat.le_of_ble_eq_true rfl) (Nat.le_of_ble_eq_true rfl) dX10_part_38
set_option maxHeartbeats 4000000 in
set_option maxRecDepth 100000 in
theorem c_X10_index (l : Launch) (D : va_G) (cT : Nat → ClassId) (sz : Nat) (a : Nat → Nat) (T : Nat → Nat → Int32) (n : Nat → Nat) (z : Nat → Int32) (y v : Int32) (hn : Cnt n) : Met l yX10_index wsX10_index ({ frames := 1, cells := 0, slots := 0, locals := 22 }) (va_Pc [.ref (a 0), .int y, .int v] (PW D cT (modW cT a T n z) sz)) (QW (some (.int (b2 (ixB y v)))) ((poN D cT a (if ixB y v = true then ixT T y v else T) n) (va_A (modW cT a T n z) sz)) (va_A (modW cT a T n z) sz)) 0 0 (va_A (modW cT a T n z) sz) := by
  refine RW_of (Bp := (poN D cT a (if ixB y v = true then ixT T y v else T) n)) (by decide) rfl (Nat.le_of_ble_eq_true rfl) ?_
  intro p e s m below meth c A hx hb hr hts hown hlocks hin hml hE hD hA H locs hP hS ls hl
  have hiX10 : ∀ w ∈ wsX100, w ∈ wsX10_index := by decide +kernel
  have hl : lv_has ls 3 [(0, .ref (a 0)), (1, .int y), (2, .int v)] := hl
  obtain ⟨hn0, hn1, hn2, hn3, hn4⟩ := id hn
  refine lv_iload_n hx hb dX10_index_0 rfl (lv_at hl 1 rfl) ?_
  refine lv_sipush (v := 1950) hx hb dX10_index_1 (by decide) ?_
  refine lv_sipush (v := 2004) hx hb dX10_index_4 (by decide) ?_
  refine ro_S (As := [.int y, .int 1950, .int 2004]) (rest := []) ⟨hx, hb, hml, hown, hts⟩ (c_X10_in l D cT y 1950 2004 ) (va_cwS 3 hts gX10_index_X10_in rfl rfl rfl (by decide +kernel) ⟨Nat.le_of_ble_eq_true rfl, Nat.le_of_ble_eq_true rfl⟩) hE va_P_nil  rfl hl.1 rfl (Nat.le_of_ble_eq_true rfl) dX10_index_7 ⟨Nat.zero_le _, Nat.zero_le _⟩ ?_
  refine bi_eq (tgt := 24) hx hb dX10_index_10 (by decide) (fun c_1 => ?_) (fun c_1 => ?_)
  · refine lv_iconst (v := 0) hx hb dX10_index_24 (by decide) ?_
    exact rw_zret hx hb hr hlocks (by simp [b2, ixB, c_1]) ⟨_, _, _, ⟨(by rw [if_neg (by simp [ixB, c_1])]), rfl⟩, hP, hD⟩ hS (Nat.le_of_ble_eq_true rfl) (Nat.le_of_ble_eq_true rfl) dX10_index_25
  · obtain ⟨k, hk, he⟩ := ix_ix c_1
    refine lv_iload_n hx hb dX10_index_13 rfl (lv_at hl 2 rfl) ?_
    refine lv_iconst (v := 1) hx hb dX10_index_14 (by decide) ?_
    refine lv_sipush (v := 10000) hx hb dX10_index_15 (by decide) ?_
    refine ro_S (As := [.int v, .int 1, .int 10000]) (rest := []) ⟨hx, hb, hml, hown, hts⟩ (c_X10_in l D cT v 1 10000 ) (va_cwS 3 hts gX10_index_X10_in rfl rfl rfl (by decide +kernel) ⟨Nat.le_of_ble_eq_true rfl, Nat.le_of_ble_eq_true rfl⟩) hE va_P_nil  rfl hl.1 rfl (Nat.le_of_ble_eq_true rfl) dX10_index_18 ⟨Nat.zero_le _, Nat.zero_le _⟩ ?_
    refine bi_ne (tgt := 26) hx hb dX10_index_21 (by decide) (fun c_2 => ?_) (fun c_2 => ?_)
    · refine lv_aload_n hx hb dX10_index_26 rfl (lv_at hl 0 rfl) ?_
      refine va_get (D := D) (ci := 10) (v := .ref (a 25)) (C := RX10) (T := TX10) (N := 38) hx hb hts hiX10 hown hE.1 hP 0 mol_0 rfl 25 (by decide) (hts (.fieldLink RX10 70 "FindsOfficeModel" "index" "[I") (by decide +kernel)) (fun _ h9 => h9) rfl dX10_index_27 ?_
      refine lv_iload_n hx hb dX10_index_30 rfl (lv_at hl 1 rfl) ?_
      refine lv_sipush (v := 1950) hx hb dX10_index_31 (by decide) ?_
      refine lv_isub hx hb dX10_index_34 ?_
      refine lv_iload_n hx hb dX10_index_35 rfl (lv_at hl 2 rfl) ?_
      refine my_iast (k := k) hx hb hE.1 hP hD hS 21 0 mol_25 rfl he hk (by decide) dX10_index_36 (fun H locs hP hD hS => ?_)
      rw [mos_25] at hP hD
      refine lv_iconst (v := 1) hx hb dX10_index_37 (by decide) ?_
      exact rw_zret hx hb hr hlocks (by simp [b2, ixB, c_1, c_2]) ⟨_, _, _, ⟨(by rw [if_pos (by simp [ixB, c_1, c_2]), ixT, he, nI_clamp (by omega)]), rfl⟩, hP, hD⟩ hS (Nat.le_of_ble_eq_true rfl) (Nat.le_of_ble_eq_true rfl) dX10_index_38
    · refine lv_iconst (v := 0) hx hb dX10_index_24 (by decide) ?_
      exact rw_zret hx hb hr hlocks (by simp [b2, ixB, c_1, c_2]) ⟨_, _, _, ⟨(by rw [if_neg (by simp [ixB, c_1, c_2])]), rfl⟩, hP, hD⟩ hS (Nat.le_of_ble_eq_true rfl) (Nat.le_of_ble_eq_true rfl) dX10_index_25
set_option maxHeartbeats 4000000 in
set_option maxRecDepth 100000 in
theorem c_X10_sale (l : Launch) (D : va_G) (cT : Nat → ClassId) (sz : Nat) (a : Nat → Nat) (T : Nat → Nat → Int32) (n : Nat → Nat) (z : Nat → Int32) (me d we pr : Int32) (hn : Cnt n) : Met l yX10_sale wsX10_sale ({ frames := 1, cells := 0, slots := 0, locals := 22 }) (va_Pc [.ref (a 0), .int me, .int d, .int we, .int pr] (PW D cT (modW cT a T n z) sz)) (QW (some (.int (if saB T n me d we pr = true then nI (saN (saT T n me d we pr) me (n 2 + 1)) else -1))) ((poN D cT a (if saB T n me d we pr = true then saT T n me d we pr else T) (if saB T n me d we pr = true then va_up n 2 (n 2 + 1) else n)) (va_A (modW cT a T n z) sz)) (va_A (modW cT a T n z) sz)) 0 0 (va_A (modW cT a T n z) sz) := by
  refine RW_of (Bp := (poN D cT a (if saB T n me d we pr = true then saT T n me d we pr else T) (if saB T n me d we pr = true then va_up n 2 (n 2 + 1) else n))) (by decide) rfl (Nat.le_of_ble_eq_true rfl) ?_
  intro p e s m below meth c A hx hb hr hts hown hlocks hin hml hE hD hA H locs hP hS ls hl
  have hiX10 : ∀ w ∈ wsX100, w ∈ wsX10_sale := by decide +kernel
  have hl : lv_has ls 7 [(0, .ref (a 0)), (1, .int me), (2, .int d), (3, .int we), (4, .int pr)] := hl
  obtain ⟨hn0, hn1, hn2, hn3, hn4⟩ := id hn
  refine lv_iload_n hx hb dX10_sale_0 rfl (lv_at hl 1 rfl) ?_
  refine lv_iconst (v := 0) hx hb dX10_sale_1 (by decide) ?_
  refine lv_iconst (v := 2) hx hb dX10_sale_2 (by decide) ?_
  refine ro_S (As := [.int me, .int 0, .int 2]) (rest := []) ⟨hx, hb, hml, hown, hts⟩ (c_X10_in l D cT me 0 2 ) (va_cwS 3 hts gX10_sale_X10_in rfl rfl rfl (by decide +kernel) ⟨Nat.le_of_ble_eq_true rfl, Nat.le_of_ble_eq_true rfl⟩) hE va_P_nil  rfl hl.1 rfl (Nat.le_of_ble_eq_true rfl) dX10_sale_3 ⟨Nat.zero_le _, Nat.zero_le _⟩ ?_
  refine bi_eq (tgt := 52) hx hb dX10_sale_6 (by decide) (fun c_1 => ?_) (fun c_1 => ?_)
  · refine lv_iconst (v := (-1)) hx hb dX10_sale_52 (by decide) ?_
    exact rw_iret hx hb hr hlocks (by rw [if_neg (by simp [saB, c_1])]) ⟨_, _, _, ⟨(by rw [if_neg (by simp [saB, c_1])]), (by rw [if_neg (by simp [saB, c_1])])⟩, hP, hD⟩ hS (Nat.le_of_ble_eq_true rfl) (Nat.le_of_ble_eq_true rfl) dX10_sale_53
  · refine lv_iload_n hx hb dX10_sale_9 rfl (lv_at hl 2 rfl) ?_
    refine lv_iconst (v := 0) hx hb dX10_sale_10 (by decide) ?_
    refine lv_aload_n hx hb dX10_sale_11 rfl (lv_at hl 0 rfl) ?_
    refine va_get (D := D) (ci := 10) (v := .int (T 0 0)) (C := RX10) (T := TX10) (N := 38) hx hb hts hiX10 hown hE.1 hP 0 mol_0 rfl 0 (by decide) (hts (.fieldLink RX10 113 "FindsOfficeModel" "now" "I") (by decide +kernel)) (fun _ h9 => h9) rfl dX10_sale_12 ?_
    refine ro_S (As := [.int d, .int 0, .int (T 0 0)]) (rest := []) ⟨hx, hb, hml, hown, hts⟩ (c_X10_in l D cT d 0 (T 0 0) ) (va_cwS 3 hts gX10_sale_X10_in rfl rfl rfl (by decide +kernel) ⟨Nat.le_of_ble_eq_true rfl, Nat.le_of_ble_eq_true rfl⟩) hE va_P_nil  rfl hl.1 rfl (Nat.le_of_ble_eq_true rfl) dX10_sale_15 ⟨Nat.zero_le _, Nat.zero_le _⟩ ?_
    refine bi_eq (tgt := 52) hx hb dX10_sale_18 (by decide) (fun c_2 => ?_) (fun c_2 => ?_)
    · refine lv_iconst (v := (-1)) hx hb dX10_sale_52 (by decide) ?_
      exact rw_iret hx hb hr hlocks (by rw [if_neg (by simp [saB, c_1, c_2])]) ⟨_, _, _, ⟨(by rw [if_neg (by simp [saB, c_1, c_2])]), (by rw [if_neg (by simp [saB, c_1, c_2])])⟩, hP, hD⟩ hS (Nat.le_of_ble_eq_true rfl) (Nat.le_of_ble_eq_true rfl) dX10_sale_53
    · refine lv_iload_n hx hb dX10_sale_21 rfl (lv_at hl 3 rfl) ?_
      refine lv_iconst (v := 1) hx hb dX10_sale_22 (by decide) ?_
      refine lv_sipush (v := 10000) hx hb dX10_sale_23 (by decide) ?_
      refine ro_S (As := [.int we, .int 1, .int 10000]) (rest := []) ⟨hx, hb, hml, hown, hts⟩ (c_X10_in l D cT we 1 10000 ) (va_cwS 3 hts gX10_sale_X10_in rfl rfl rfl (by decide +kernel) ⟨Nat.le_of_ble_eq_true rfl, Nat.le_of_ble_eq_true rfl⟩) hE va_P_nil  rfl hl.1 rfl (Nat.le_of_ble_eq_true rfl) dX10_sale_26 ⟨Nat.zero_le _, Nat.zero_le _⟩ ?_
      refine bi_eq (tgt := 52) hx hb dX10_sale_29 (by decide) (fun c_3 => ?_) (fun c_3 => ?_)
      · refine lv_iconst (v := (-1)) hx hb dX10_sale_52 (by decide) ?_
        exact rw_iret hx hb hr hlocks (by rw [if_neg (by simp [saB, c_1, c_2, c_3])]) ⟨_, _, _, ⟨(by rw [if_neg (by simp [saB, c_1, c_2, c_3])]), (by rw [if_neg (by simp [saB, c_1, c_2, c_3])])⟩, hP, hD⟩ hS (Nat.le_of_ble_eq_true rfl) (Nat.le_of_ble_eq_true rfl) dX10_sale_53
      · refine lv_iload hx hb dX10_sale_32 (lv_at hl 4 rfl) ?_
        refine lv_iconst (v := 0) hx hb dX10_sale_34 (by decide) ?_
        refine lv_ldc (own := RX10) (v := 1000000) hx hb hown (hts (.constant RX10 105 1000000) (by decide +kernel)) dX10_sale_35 ?_
        refine ro_S (As := [.int pr, .int 0, .int 1000000]) (rest := []) ⟨hx, hb, hml, hown, hts⟩ (c_X10_in l D cT pr 0 1000000 ) (va_cwS 3 hts gX10_sale_X10_in rfl rfl rfl (by decide +kernel) ⟨Nat.le_of_ble_eq_true rfl, Nat.le_of_ble_eq_true rfl⟩) hE va_P_nil  rfl hl.1 rfl (Nat.le_of_ble_eq_true rfl) dX10_sale_37 ⟨Nat.zero_le _, Nat.zero_le _⟩ ?_
        refine bi_eq (tgt := 52) hx hb dX10_sale_40 (by decide) (fun c_4 => ?_) (fun c_4 => ?_)
        · refine lv_iconst (v := (-1)) hx hb dX10_sale_52 (by decide) ?_
          exact rw_iret hx hb hr hlocks (by rw [if_neg (by simp [saB, c_1, c_2, c_3, c_4])]) ⟨_, _, _, ⟨(by rw [if_neg (by simp [saB, c_1, c_2, c_3, c_4])]), (by rw [if_neg (by simp [saB, c_1, c_2, c_3, c_4])])⟩, hP, hD⟩ hS (Nat.le_of_ble_eq_true rfl) (Nat.le_of_ble_eq_true rfl) dX10_sale_53
        · refine lv_aload_n hx hb dX10_sale_43 rfl (lv_at hl 0 rfl) ?_
          refine va_get (D := D) (ci := 10) (v := .int (nI (n 2))) (C := RX10) (T := TX10) (N := 38) hx hb hts hiX10 hown hE.1 hP 0 mol_0 rfl 26 (by decide) (hts (.fieldLink RX10 161 "FindsOfficeModel" "sales" "I") (by decide +kernel)) (fun _ h9 => h9) rfl dX10_sale_44 ?_
          refine lv_bipush (v := 60) hx hb dX10_sale_47 (by decide) ?_
          refine lv_icmp_ne (tgt := 54) hx hb dX10_sale_49 (by decide) (fun c_5 => ?_) (fun c_5 => ?_)
          · have k_5 := nat_ne (a := (n 2)) (b := 60) c_5
            refine lv_aload_n hx hb dX10_sale_54 rfl (lv_at hl 0 rfl) ?_
            refine va_get (D := D) (ci := 10) (v := .ref (a 27)) (C := RX10) (T := TX10) (N := 38) hx hb hts hiX10 hown hE.1 hP 0 mol_0 rfl 27 (by decide) (hts (.fieldLink RX10 73 "FindsOfficeModel" "saleMetal" "[I") (by decide +kernel)) (fun _ h9 => h9) rfl dX10_sale_55 ?_
            refine lv_aload_n hx hb dX10_sale_58 rfl (lv_at hl 0 rfl) ?_
            refine va_get (D := D) (ci := 10) (v := .int (nI (n 2))) (C := RX10) (T := TX10) (N := 38) hx hb hts hiX10 hown hE.1 hP 0 mol_0 rfl 26 (by decide) (hts (.fieldLink RX10 161 "FindsOfficeModel" "sales" "I") (by decide +kernel)) (fun _ h9 => h9) rfl dX10_sale_59 ?_
            refine lv_iload_n hx hb dX10_sale_62 rfl (lv_at hl 1 rfl) ?_
            refine my_iast (k := (n 2)) hx hb hE.1 hP hD hS 22 0 mol_27 rfl rfl (by omega) (by decide) dX10_sale_63 (fun H locs hP hD hS => ?_)
            rw [mos_27] at hP hD
            refine lv_aload_n hx hb dX10_sale_64 rfl (lv_at hl 0 rfl) ?_
            refine va_get (D := D) (ci := 10) (v := .ref (a 28)) (C := RX10) (T := TX10) (N := 38) hx hb hts hiX10 hown hE.1 hP 0 mol_0 rfl 28 (by decide) (hts (.fieldLink RX10 76 "FindsOfficeModel" "saleDay" "[I") (by decide +kernel)) (fun _ h9 => h9) rfl dX10_sale_65 ?_
            refine lv_aload_n hx hb dX10_sale_68 rfl (lv_at hl 0 rfl) ?_
            refine va_get (D := D) (ci := 10) (v := .int (nI (n 2))) (C := RX10) (T := TX10) (N := 38) hx hb hts hiX10 hown hE.1 hP 0 mol_0 rfl 26 (by decide) (hts (.fieldLink RX10 161 "FindsOfficeModel" "sales" "I") (by decide +kernel)) (fun _ h9 => h9) rfl dX10_sale_69 ?_
            refine lv_iload_n hx hb dX10_sale_72 rfl (lv_at hl 2 rfl) ?_
            refine my_iast (k := (n 2)) hx hb hE.1 hP hD hS 23 0 mol_28 rfl rfl (by omega) (by decide) dX10_sale_73 (fun H locs hP hD hS => ?_)
            rw [mos_28] at hP hD
            refine lv_aload_n hx hb dX10_sale_74 rfl (lv_at hl 0 rfl) ?_
            refine va_get (D := D) (ci := 10) (v := .ref (a 29)) (C := RX10) (T := TX10) (N := 38) hx hb hts hiX10 hown hE.1 hP 0 mol_0 rfl 29 (by decide) (hts (.fieldLink RX10 79 "FindsOfficeModel" "saleWeight" "[I") (by decide +kernel)) (fun _ h9 => h9) rfl dX10_sale_75 ?_
            refine lv_aload_n hx hb dX10_sale_78 rfl (lv_at hl 0 rfl) ?_
            refine va_get (D := D) (ci := 10) (v := .int (nI (n 2))) (C := RX10) (T := TX10) (N := 38) hx hb hts hiX10 hown hE.1 hP 0 mol_0 rfl 26 (by decide) (hts (.fieldLink RX10 161 "FindsOfficeModel" "sales" "I") (by decide +kernel)) (fun _ h9 => h9) rfl dX10_sale_79 ?_
            refine lv_iload_n hx hb dX10_sale_82 rfl (lv_at hl 3 rfl) ?_
            refine my_iast (k := (n 2)) hx hb hE.1 hP hD hS 24 0 mol_29 rfl rfl (by omega) (by decide) dX10_sale_83 (fun H locs hP hD hS => ?_)
            rw [mos_29] at hP hD
            refine lv_aload_n hx hb dX10_sale_84 rfl (lv_at hl 0 rfl) ?_
            refine va_get (D := D) (ci := 10) (v := .ref (a 30)) (C := RX10) (T := TX10) (N := 38) hx hb hts hiX10 hown hE.1 hP 0 mol_0 rfl 30 (by decide) (hts (.fieldLink RX10 82 "FindsOfficeModel" "salePrice" "[I") (by decide +kernel)) (fun _ h9 => h9) rfl dX10_sale_85 ?_
            refine lv_aload_n hx hb dX10_sale_88 rfl (lv_at hl 0 rfl) ?_
            refine va_get (D := D) (ci := 10) (v := .int (nI (n 2))) (C := RX10) (T := TX10) (N := 38) hx hb hts hiX10 hown hE.1 hP 0 mol_0 rfl 26 (by decide) (hts (.fieldLink RX10 161 "FindsOfficeModel" "sales" "I") (by decide +kernel)) (fun _ h9 => h9) rfl dX10_sale_89 ?_
            refine lv_iload hx hb dX10_sale_92 (lv_at hl 4 rfl) ?_
            refine my_iast (k := (n 2)) hx hb hE.1 hP hD hS 25 0 mol_30 rfl rfl (by omega) (by decide) dX10_sale_94 (fun H locs hP hD hS => ?_)
            rw [mos_30] at hP hD
            refine lv_aload_n hx hb dX10_sale_95 rfl (lv_at hl 0 rfl) ?_
            refine lv_dup hx hb dX10_sale_96 rfl ?_
            refine va_get (D := D) (ci := 10) (v := .int (nI (n 2))) (C := RX10) (T := TX10) (N := 38) hx hb hts hiX10 hown hE.1 hP 0 mol_0 rfl 26 (by decide) (hts (.fieldLink RX10 161 "FindsOfficeModel" "sales" "I") (by decide +kernel)) (fun _ h9 => h9) rfl dX10_sale_97 ?_
            refine lv_iconst (v := 1) hx hb dX10_sale_100 (by decide) ?_
            refine lv_iadd hx hb dX10_sale_101 ?_
            refine topi_eq (nI_add _ 1) ?_
            refine va_put (D := D) (ci := 10) (v := .int (nI ((n 2) + 1))) (ty := .int) (C := RX10) (T := TX10) (N := 38) hx hb hts hiX10 tyX10 tyX10_ok nmX10 hown hE.1 hP hD hS 0 mol_0 rfl 26 (by decide) (hts (.fieldLink RX10 161 "FindsOfficeModel" "sales" "I") (by decide +kernel)) (fun _ h9 => h9) rfl (by decide +kernel) rfl rfl (Nat.le_of_ble_eq_true rfl) dX10_sale_102 (fun H locs hP hD hS => ?_)
            rw [mos_26] at hP hD
            have hlt : n 2 < 60 := by omega
            have hP : va_P D vwCl (modW cT a (saT T n me d we pr) (va_up n 2 (n 2 + 1)) z) H := hP
            have hD : va_D A (modW cT a (saT T n me d we pr) (va_up n 2 (n 2 + 1)) z) := hD
            have hm2 : va_up n 2 (n 2 + 1) 2 = n 2 + 1 := rfl
            refine lv_iconst (v := 0) hx hb dX10_sale_105 (by decide) ?_
            refine lv_istore (lv' := [(5, .int 0), (0, .ref (a 0)), (1, .int me), (2, .int d), (3, .int we), (4, .int pr)]) hx hb dX10_sale_106 hl (by decide) rfl (fun ls hl => ?_)
            refine lv_iconst (v := 0) hx hb dX10_sale_108 (by decide) ?_
            refine lv_istore (lv' := [(6, .int 0), (5, .int 0), (0, .ref (a 0)), (1, .int me), (2, .int d), (3, .int we), (4, .int pr)]) hx hb dX10_sale_109 hl (by decide) rfl (fun ls hl => ?_)
            have loop_111 : ∀ (fuel_111 : Nat) (j : Nat) (v : Int32), j ≤ n 2 + 1 → v = nI (saN (saT T n me d we pr) me j) → n 2 + 1 - j < fuel_111 → ∀ (H : Heap) (locs : List Loc), va_P D vwCl (modW cT a (saT T n me d we pr) (va_up n 2 (n 2 + 1)) z) H → va_D A (modW cT a (saT T n me d we pr) (va_up n 2 (n 2 + 1)) z) → va_S A s.heap H locs → ∀ (ls : Array Slot), lv_has ls 7 [(0, .ref (a 0)), (1, .int me), (2, .int d), (3, .int we), (4, .int pr), (5, .int v), (6, .int (nI j))] → W p l e ({ frames := 1, cells := 0, slots := 0, locals := 22 }) s m (List.toArray [.ref (a 0), .int me, .int d, .int we, .int pr]) below meth c H locs 0 0 (MQ below (QW (some (.int (if saB T n me d we pr = true then nI (saN (saT T n me d we pr) me (n 2 + 1)) else -1))) ((poN D cT a (if saB T n me d we pr = true then saT T n me d we pr else T) (if saB T n me d we pr = true then va_up n 2 (n 2 + 1) else n)) A) A) (List.toArray [.ref (a 0), .int me, .int d, .int we, .int pr]) s 0 0 A) (F0 m 111 ls []) := by
              intro fuel_111
              induction fuel_111 with
              | zero => intro j v hj hv hfuel_111; exact absurd hfuel_111 (Nat.not_lt_zero _)
              | succ fuel_111 ih_111 =>
                intro j v hj hv hfuel_111 H locs hP hD hS ls hl
                refine lv_iload hx hb dX10_sale_111 (lv_at hl 6 rfl) ?_
                refine lv_aload_n hx hb dX10_sale_113 rfl (lv_at hl 0 rfl) ?_
                refine va_get (D := D) (ci := 10) (v := .int (nI ((va_up n 2 (n 2 + 1)) 2))) (C := RX10) (T := TX10) (N := 38) hx hb hts hiX10 hown hE.1 hP 0 mol_0 rfl 26 (by decide) (hts (.fieldLink RX10 161 "FindsOfficeModel" "sales" "I") (by decide +kernel)) (fun _ h9 => h9) rfl dX10_sale_114 ?_
                refine lv_icmp_ge (tgt := 147) hx hb dX10_sale_117 (by decide) (fun c_6 => ?_) (fun c_6 => ?_)
                · have k_6 := nat_le (a := ((va_up n 2 (n 2 + 1)) 2)) (b := j) c_6 (by omega) (by omega)
                  refine lv_iload hx hb dX10_sale_147 (lv_at hl 5 rfl) ?_
                  exact rw_iret hx hb hr hlocks (by rw [if_pos (by simp [saB, c_1, c_2, c_3, c_4, c_5]), hv, show j = n 2 + 1 by omega]) ⟨_, _, _, ⟨(by rw [if_pos (by simp [saB, c_1, c_2, c_3, c_4, c_5])]), (by rw [if_pos (by simp [saB, c_1, c_2, c_3, c_4, c_5])])⟩, hP, hD⟩ hS (Nat.le_of_ble_eq_true rfl) (Nat.le_of_ble_eq_true rfl) dX10_sale_149
                · have k_6 := nat_nle (a := ((va_up n 2 (n 2 + 1)) 2)) (b := j) c_6 (by omega) (by omega)
                  refine lv_iload hx hb dX10_sale_120 (lv_at hl 5 rfl) ?_
                  refine lv_aload_n hx hb dX10_sale_122 rfl (lv_at hl 0 rfl) ?_
                  refine va_get (D := D) (ci := 10) (v := .ref (a 27)) (C := RX10) (T := TX10) (N := 38) hx hb hts hiX10 hown hE.1 hP 0 mol_0 rfl 27 (by decide) (hts (.fieldLink RX10 73 "FindsOfficeModel" "saleMetal" "[I") (by decide +kernel)) (fun _ h9 => h9) rfl dX10_sale_123 ?_
                  refine lv_iload hx hb dX10_sale_126 (lv_at hl 6 rfl) ?_
                  refine my_iald (k := j) hx hb hE.1 hP 22 0 mol_27 rfl rfl (by omega) (by decide) dX10_sale_128 ?_
                  have J_138 : ∀ (jv : Int32), jv = (b2 (decide (saT T n me d we pr 27 j = me))) → ∀ (ls : Array Slot), lv_has ls 7 [(0, .ref (a 0)), (1, .int me), (2, .int d), (3, .int we), (4, .int pr), (5, .int v), (6, .int (nI j))] → W p l e ({ frames := 1, cells := 0, slots := 0, locals := 22 }) s m (List.toArray [.ref (a 0), .int me, .int d, .int we, .int pr]) below meth c H locs 0 0 (MQ below (QW (some (.int (if saB T n me d we pr = true then nI (saN (saT T n me d we pr) me (n 2 + 1)) else -1))) ((poN D cT a (if saB T n me d we pr = true then saT T n me d we pr else T) (if saB T n me d we pr = true then va_up n 2 (n 2 + 1) else n)) A) A) (List.toArray [.ref (a 0), .int me, .int d, .int we, .int pr]) s 0 0 A) (F0 m 138 ls [.int jv, .int v]) := by
                    intro jv hjv ls hl
                    subst hjv
                    refine lv_iadd hx hb dX10_sale_138 ?_
                    refine lv_istore (lv' := [(5, .int (v + (b2 (decide (saT T n me d we pr 27 j = me))))), (0, .ref (a 0)), (1, .int me), (2, .int d), (3, .int we), (4, .int pr), (6, .int (nI j))]) hx hb dX10_sale_139 hl (by decide) rfl (fun ls hl => ?_)
                    refine lv_iinc (v := nI (j + 1)) (lv' := [(6, .int (nI (j + 1))), (5, .int (v + (b2 (decide (saT T n me d we pr 27 j = me))))), (0, .ref (a 0)), (1, .int me), (2, .int d), (3, .int we), (4, .int pr)]) hx hb dX10_sale_141 hl (k := 6) rfl (nI_1 _) (by decide) rfl (fun ls hl => ?_)
                    refine lv_goto (tgt := 111) hx hb dX10_sale_144 (by decide) ?_
                    exact ih_111 (j + 1) _ (by omega) (by rw [hv, saN]; exact sa_step) (by omega) H locs hP hD hS ls (lv_sub hl [2, 3, 4, 5, 6, 1, 0] rfl)
                  refine lv_iload_n hx hb dX10_sale_129 rfl (lv_at hl 1 rfl) ?_
                  refine lv_icmp_ne (tgt := 137) hx hb dX10_sale_130 (by decide) (fun c_7 => ?_) (fun c_7 => ?_)
                  · refine lv_iconst (v := 0) hx hb dX10_sale_137 (by decide) ?_
                    exact J_138 _ (by simp [b2, c_7]) ls (lv_sub hl [0, 1, 2, 3, 4, 5, 6] rfl)
                  · refine lv_iconst (v := 1) hx hb dX10_sale_133 (by decide) ?_
                    refine lv_goto (tgt := 138) hx hb dX10_sale_134 (by decide) ?_
                    exact J_138 _ (by simp [b2, c_7]) ls (lv_sub hl [0, 1, 2, 3, 4, 5, 6] rfl)
            exact loop_111 _ 0 0 (by omega) rfl (Nat.lt_succ_self _) H locs hP hD hS ls (lv_sub hl [2, 3, 4, 5, 6, 1, 0] rfl)
          · have k_5 := nat_eq (a := (n 2)) (b := 60) c_5 (by omega) (by omega)
            refine lv_iconst (v := (-1)) hx hb dX10_sale_52 (by decide) ?_
            exact rw_iret hx hb hr hlocks (by rw [if_neg (by simp [saB, c_1, c_2, c_3, c_4, c_5])]) ⟨_, _, _, ⟨(by rw [if_neg (by simp [saB, c_1, c_2, c_3, c_4, c_5])]), (by rw [if_neg (by simp [saB, c_1, c_2, c_3, c_4, c_5])])⟩, hP, hD⟩ hS (Nat.le_of_ble_eq_true rfl) (Nat.le_of_ble_eq_true rfl) dX10_sale_53
set_option maxHeartbeats 4000000 in
set_option maxRecDepth 100000 in
theorem c_X10_museum (l : Launch) (D : va_G) (cT : Nat → ClassId) (sz : Nat) (a : Nat → Nat) (T : Nat → Nat → Int32) (n : Nat → Nat) (z : Nat → Int32) (me wo : Int32) (hn : Cnt n) : Met l yX10_museum wsX10_museum ({ frames := 1, cells := 0, slots := 0, locals := 22 }) (va_Pc [.ref (a 0), .int me, .int wo] (PW D cT (modW cT a T n z) sz)) (QW (some (.int (if muB n me wo = true then nI (n 3) else -1))) ((poN D cT a (if muB n me wo = true then muT T n me wo else T) (if muB n me wo = true then va_up n 3 (n 3 + 1) else n)) (va_A (modW cT a T n z) sz)) (va_A (modW cT a T n z) sz)) 0 0 (va_A (modW cT a T n z) sz) := by
  refine RW_of (Bp := (poN D cT a (if muB n me wo = true then muT T n me wo else T) (if muB n me wo = true then va_up n 3 (n 3 + 1) else n))) (by decide) rfl (Nat.le_of_ble_eq_true rfl) ?_
  intro p e s m below meth c A hx hb hr hts hown hlocks hin hml hE hD hA H locs hP hS ls hl
  have hiX10 : ∀ w ∈ wsX100, w ∈ wsX10_museum := by decide +kernel
  have hl : lv_has ls 3 [(0, .ref (a 0)), (1, .int me), (2, .int wo)] := hl
  obtain ⟨hn0, hn1, hn2, hn3, hn4⟩ := id hn
  refine lv_iload_n hx hb dX10_museum_0 rfl (lv_at hl 1 rfl) ?_
  refine lv_iconst (v := 0) hx hb dX10_museum_1 (by decide) ?_
  refine lv_bipush (v := 7) hx hb dX10_museum_2 (by decide) ?_
  refine ro_S (As := [.int me, .int 0, .int 7]) (rest := []) ⟨hx, hb, hml, hown, hts⟩ (c_X10_in l D cT me 0 7 ) (va_cwS 3 hts gX10_museum_X10_in rfl rfl rfl (by decide +kernel) ⟨Nat.le_of_ble_eq_true rfl, Nat.le_of_ble_eq_true rfl⟩) hE va_P_nil  rfl hl.1 rfl (Nat.le_of_ble_eq_true rfl) dX10_museum_4 ⟨Nat.zero_le _, Nat.zero_le _⟩ ?_
  refine bi_eq (tgt := 29) hx hb dX10_museum_7 (by decide) (fun c_1 => ?_) (fun c_1 => ?_)
  · refine lv_iconst (v := (-1)) hx hb dX10_museum_29 (by decide) ?_
    exact rw_iret hx hb hr hlocks (by rw [if_neg (show ¬ muB n me wo = true by simp [muB, c_1])]) ⟨_, _, _, ⟨(by rw [if_neg (show ¬ muB n me wo = true by simp [muB, c_1])]), (by rw [if_neg (show ¬ muB n me wo = true by simp [muB, c_1])])⟩, hP, hD⟩ hS (Nat.le_of_ble_eq_true rfl) (Nat.le_of_ble_eq_true rfl) dX10_museum_30
  · refine lv_iload_n hx hb dX10_museum_10 rfl (lv_at hl 2 rfl) ?_
    refine lv_iconst (v := 0) hx hb dX10_museum_11 (by decide) ?_
    refine lv_ldc (own := RX10) (v := 1000000) hx hb hown (hts (.constant RX10 105 1000000) (by decide +kernel)) dX10_museum_12 ?_
    refine ro_S (As := [.int wo, .int 0, .int 1000000]) (rest := []) ⟨hx, hb, hml, hown, hts⟩ (c_X10_in l D cT wo 0 1000000 ) (va_cwS 3 hts gX10_museum_X10_in rfl rfl rfl (by decide +kernel) ⟨Nat.le_of_ble_eq_true rfl, Nat.le_of_ble_eq_true rfl⟩) hE va_P_nil  rfl hl.1 rfl (Nat.le_of_ble_eq_true rfl) dX10_museum_14 ⟨Nat.zero_le _, Nat.zero_le _⟩ ?_
    refine bi_eq (tgt := 29) hx hb dX10_museum_17 (by decide) (fun c_2 => ?_) (fun c_2 => ?_)
    · refine lv_iconst (v := (-1)) hx hb dX10_museum_29 (by decide) ?_
      exact rw_iret hx hb hr hlocks (by rw [if_neg (show ¬ muB n me wo = true by simp [muB, c_1, c_2])]) ⟨_, _, _, ⟨(by rw [if_neg (show ¬ muB n me wo = true by simp [muB, c_1, c_2])]), (by rw [if_neg (show ¬ muB n me wo = true by simp [muB, c_1, c_2])])⟩, hP, hD⟩ hS (Nat.le_of_ble_eq_true rfl) (Nat.le_of_ble_eq_true rfl) dX10_museum_30
    · refine lv_aload_n hx hb dX10_museum_20 rfl (lv_at hl 0 rfl) ?_
      refine va_get (D := D) (ci := 10) (v := .int (nI (n 3))) (C := RX10) (T := TX10) (N := 38) hx hb hts hiX10 hown hE.1 hP 0 mol_0 rfl 32 (by decide) (hts (.fieldLink RX10 184 "FindsOfficeModel" "museums" "I") (by decide +kernel)) (fun _ h9 => h9) rfl dX10_museum_21 ?_
      refine lv_bipush (v := 10) hx hb dX10_museum_24 (by decide) ?_
      refine lv_icmp_ne (tgt := 31) hx hb dX10_museum_26 (by decide) (fun c_3 => ?_) (fun c_3 => ?_)
      · have k_3 := nat_ne (a := (n 3)) (b := 10) c_3
        refine lv_aload_n hx hb dX10_museum_31 rfl (lv_at hl 0 rfl) ?_
        refine va_get (D := D) (ci := 10) (v := .ref (a 33)) (C := RX10) (T := TX10) (N := 38) hx hb hts hiX10 hown hE.1 hP 0 mol_0 rfl 33 (by decide) (hts (.fieldLink RX10 88 "FindsOfficeModel" "takes" "[I") (by decide +kernel)) (fun _ h9 => h9) rfl dX10_museum_32 ?_
        refine lv_aload_n hx hb dX10_museum_35 rfl (lv_at hl 0 rfl) ?_
        refine va_get (D := D) (ci := 10) (v := .int (nI (n 3))) (C := RX10) (T := TX10) (N := 38) hx hb hts hiX10 hown hE.1 hP 0 mol_0 rfl 32 (by decide) (hts (.fieldLink RX10 184 "FindsOfficeModel" "museums" "I") (by decide +kernel)) (fun _ h9 => h9) rfl dX10_museum_36 ?_
        refine lv_iload_n hx hb dX10_museum_39 rfl (lv_at hl 1 rfl) ?_
        refine my_iast (k := (n 3)) hx hb hE.1 hP hD hS 27 0 mol_33 rfl rfl (by omega) (by decide) dX10_museum_40 (fun H locs hP hD hS => ?_)
        rw [mos_33] at hP hD
        refine lv_aload_n hx hb dX10_museum_41 rfl (lv_at hl 0 rfl) ?_
        refine va_get (D := D) (ci := 10) (v := .ref (a 34)) (C := RX10) (T := TX10) (N := 38) hx hb hts hiX10 hown hE.1 hP 0 mol_0 rfl 34 (by decide) (hts (.fieldLink RX10 91 "FindsOfficeModel" "most" "[I") (by decide +kernel)) (fun _ h9 => h9) rfl dX10_museum_42 ?_
        refine lv_aload_n hx hb dX10_museum_45 rfl (lv_at hl 0 rfl) ?_
        refine va_get (D := D) (ci := 10) (v := .int (nI (n 3))) (C := RX10) (T := TX10) (N := 38) hx hb hts hiX10 hown hE.1 hP 0 mol_0 rfl 32 (by decide) (hts (.fieldLink RX10 184 "FindsOfficeModel" "museums" "I") (by decide +kernel)) (fun _ h9 => h9) rfl dX10_museum_46 ?_
        refine lv_iload_n hx hb dX10_museum_49 rfl (lv_at hl 2 rfl) ?_
        refine my_iast (k := (n 3)) hx hb hE.1 hP hD hS 28 0 mol_34 rfl rfl (by omega) (by decide) dX10_museum_50 (fun H locs hP hD hS => ?_)
        rw [mos_34] at hP hD
        refine lv_aload_n hx hb dX10_museum_51 rfl (lv_at hl 0 rfl) ?_
        refine lv_dup hx hb dX10_museum_52 rfl ?_
        refine va_get (D := D) (ci := 10) (v := .int (nI (n 3))) (C := RX10) (T := TX10) (N := 38) hx hb hts hiX10 hown hE.1 hP 0 mol_0 rfl 32 (by decide) (hts (.fieldLink RX10 184 "FindsOfficeModel" "museums" "I") (by decide +kernel)) (fun _ h9 => h9) rfl dX10_museum_53 ?_
        refine lv_iconst (v := 1) hx hb dX10_museum_56 (by decide) ?_
        refine lv_iadd hx hb dX10_museum_57 ?_
        refine topi_eq (nI_add _ 1) ?_
        refine va_put (D := D) (ci := 10) (v := .int (nI ((n 3) + 1))) (ty := .int) (C := RX10) (T := TX10) (N := 38) hx hb hts hiX10 tyX10 tyX10_ok nmX10 hown hE.1 hP hD hS 0 mol_0 rfl 32 (by decide) (hts (.fieldLink RX10 184 "FindsOfficeModel" "museums" "I") (by decide +kernel)) (fun _ h9 => h9) rfl (by decide +kernel) rfl rfl (Nat.le_of_ble_eq_true rfl) dX10_museum_58 (fun H locs hP hD hS => ?_)
        rw [mos_32] at hP hD
        refine lv_aload_n hx hb dX10_museum_61 rfl (lv_at hl 0 rfl) ?_
        refine va_get (D := D) (ci := 10) (v := .int (nI ((va_up n 3 ((n 3) + 1)) 3))) (C := RX10) (T := TX10) (N := 38) hx hb hts hiX10 hown hE.1 hP 0 mol_0 rfl 32 (by decide) (hts (.fieldLink RX10 184 "FindsOfficeModel" "museums" "I") (by decide +kernel)) (fun _ h9 => h9) rfl dX10_museum_62 ?_
        refine lv_iconst (v := 1) hx hb dX10_museum_65 (by decide) ?_
        refine lv_isub hx hb dX10_museum_66 ?_
        exact rw_iret hx hb hr hlocks (by rw [if_pos (show muB n me wo = true by simp [muB, c_1, c_2, c_3])] <;> exact nI_pred _) ⟨_, _, _, ⟨(by rw [if_pos (show muB n me wo = true by simp [muB, c_1, c_2, c_3])]; rfl), (by rw [if_pos (show muB n me wo = true by simp [muB, c_1, c_2, c_3])])⟩, hP, hD⟩ hS (Nat.le_of_ble_eq_true rfl) (Nat.le_of_ble_eq_true rfl) dX10_museum_67
      · have k_3 := nat_eq (a := (n 3)) (b := 10) c_3 (by omega) (by omega)
        refine lv_iconst (v := (-1)) hx hb dX10_museum_29 (by decide) ?_
        exact rw_iret hx hb hr hlocks (by rw [if_neg (show ¬ muB n me wo = true by simp [muB, c_1, c_2, c_3])]) ⟨_, _, _, ⟨(by rw [if_neg (show ¬ muB n me wo = true by simp [muB, c_1, c_2, c_3])]), (by rw [if_neg (show ¬ muB n me wo = true by simp [muB, c_1, c_2, c_3])])⟩, hP, hD⟩ hS (Nat.le_of_ble_eq_true rfl) (Nat.le_of_ble_eq_true rfl) dX10_museum_30
