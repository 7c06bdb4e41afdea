set_option maxHeartbeats 4000000 in
set_option maxRecDepth 100000 in
theorem c_X10_reaches (l : Launch) (D : va_G) (cT : Nat → ClassId) (sz : Nat) (a : Nat → Nat) (T : Nat → Nat → Int32) (n : Nat → Nat) (z : Nat → Int32) (day : Int32) (f : Nat) (hn : Cnt n) (hf : f < n 1) (hV : ¬ day < T 11 f) : Met l yX10_reaches wsX10_reaches ({ frames := 2, cells := 0, slots := 0, locals := 45 }) (va_Pc [.ref (a 0), .int (nI f), .int day] (PW D cT (modW cT a T n z) sz)) (QW (some (.int (nI (hsN T n day f)))) ((poM D cT a T n (fun z1 => ∀ x, x < n 1 → (z1 x = 0 ∨ z1 x = 1) ∧ (z1 x = 1 ↔ Rch T n day f x))) (va_A (modW cT a T n z) sz)) (va_A (modW cT a T n z) sz)) 0 0 (va_A (modW cT a T n z) sz) := by
  refine RW_of (Bp := (poM D cT a T n (fun z1 => ∀ x, x < n 1 → (z1 x = 0 ∨ z1 x = 1) ∧ (z1 x = 1 ↔ Rch T n day f x)))) (by decide) rfl (Nat.le_of_ble_eq_true rfl) ?_
  intro p e s m below meth c A hx hb hr hts hown hlocks hin hml hE hD hA H locs hP hS ls hl
  have hiX10 : ∀ w ∈ wsX100, w ∈ wsX10_reaches := by decide +kernel
  have hl : lv_has ls 7 [(0, .ref (a 0)), (1, .int (nI f)), (2, .int day)] := hl
  obtain ⟨hn0, hn1, hn2, hn3, hn4⟩ := id hn
  refine lv_iconst (v := 0) hx hb dX10_reaches_0 (by decide) ?_
  refine lv_istore_n (lv' := [(3, .int 0), (0, .ref (a 0)), (1, .int (nI f)), (2, .int day)]) hx hb dX10_reaches_1 rfl hl (by decide) rfl (fun ls hl => ?_)
  have loop_2 : ∀ (fuel_2 : Nat) (j : Nat) (zz : Nat → Int32), j ≤ n 1 → (∀ x, x < j → zz x = b2 (decide (x = f))) → n 1 - j < fuel_2 → ∀ (H : Heap) (locs : List Loc), va_P D vwCl (modW cT a T n zz) H → va_D A (modW cT a T n zz) → va_S A s.heap H locs → ∀ (ls : Array Slot), lv_has ls 7 [(0, .ref (a 0)), (1, .int (nI f)), (2, .int day), (3, .int (nI j))] → W p l e ({ frames := 2, cells := 0, slots := 0, locals := 45 }) s m (List.toArray [.ref (a 0), .int (nI f), .int day]) below meth c H locs 0 0 (MQ below (QW (some (.int (nI (hsN T n day f)))) ((poM D cT a T n (fun z1 => ∀ x, x < n 1 → (z1 x = 0 ∨ z1 x = 1) ∧ (z1 x = 1 ↔ Rch T n day f x))) A) A) (List.toArray [.ref (a 0), .int (nI f), .int day]) s 0 0 A) (F0 m 2 ls []) := by
    intro fuel_2
    induction fuel_2 with
    | zero => intro j zz hj hz hfuel_2; exact absurd hfuel_2 (Nat.not_lt_zero _)
    | succ fuel_2 ih_2 =>
      intro j zz hj hz hfuel_2 H locs hP hD hS ls hl
      refine lv_iload_n hx hb dX10_reaches_2 rfl (lv_at hl 3 rfl) ?_
      refine lv_aload_n hx hb dX10_reaches_3 rfl (lv_at hl 0 rfl) ?_
      refine va_get (D := D) (ci := 10) (v := .int (nI (n 1))) (C := RX10) (T := TX10) (N := 38) hx hb hts hiX10 hown hE.1 hP 0 mol_0 rfl 1 (by decide) (hts (.fieldLink RX10 106 "FindsOfficeModel" "finds" "I") (by decide +kernel)) (fun _ h9 => h9) rfl dX10_reaches_4 ?_
      refine lv_icmp_ge (tgt := 32) hx hb dX10_reaches_7 (by decide) (fun c_1 => ?_) (fun c_1 => ?_)
      · have k_1 := nat_le (a := (n 1)) (b := j) c_1 (by omega) (by omega)
        refine lv_iconst (v := 1) hx hb dX10_reaches_32 (by decide) ?_
        refine lv_istore_n (lv' := [(3, .int 1), (0, .ref (a 0)), (1, .int (nI f)), (2, .int day)]) hx hb dX10_reaches_33 rfl hl (by decide) rfl (fun ls hl => ?_)
        refine lv_iconst (v := 1) hx hb dX10_reaches_34 (by decide) ?_
        refine lv_istore (lv' := [(4, .int 1), (3, .int 1), (0, .ref (a 0)), (1, .int (nI f)), (2, .int day)]) hx hb dX10_reaches_35 hl (by decide) rfl (fun ls hl => ?_)
        have loop_37 : ∀ (fuel_37 : Nat) (ct : Nat) (mo : Bool) (zz : Nat → Int32), RI T n day f zz ct → (mo = false → Cl T n day zz (n 1)) → 2 * (n 1 - ct) + (if mo = true then 1 else 0) < fuel_37 → ∀ (H : Heap) (locs : List Loc), va_P D vwCl (modW cT a T n zz) H → va_D A (modW cT a T n zz) → va_S A s.heap H locs → ∀ (ls : Array Slot), lv_has ls 7 [(0, .ref (a 0)), (1, .int (nI f)), (2, .int day), (3, .int (nI ct)), (4, .int (b2 mo))] → W p l e ({ frames := 2, cells := 0, slots := 0, locals := 45 }) s m (List.toArray [.ref (a 0), .int (nI f), .int day]) below meth c H locs 0 0 (MQ below (QW (some (.int (nI (hsN T n day f)))) ((poM D cT a T n (fun z1 => ∀ x, x < n 1 → (z1 x = 0 ∨ z1 x = 1) ∧ (z1 x = 1 ↔ Rch T n day f x))) A) A) (List.toArray [.ref (a 0), .int (nI f), .int day]) s 0 0 A) (F0 m 37 ls []) := by
          intro fuel_37
          induction fuel_37 with
          | zero => intro ct mo zz hri hcl hfuel_37; exact absurd hfuel_37 (Nat.not_lt_zero _)
          | succ fuel_37 ih_37 =>
            intro ct mo zz hri hcl hfuel_37 H locs hP hD hS ls hl
            refine lv_iload hx hb dX10_reaches_37 (lv_at hl 4 rfl) ?_
            refine bi_eq (tgt := 144) hx hb dX10_reaches_39 (by decide) (fun c_2 => ?_) (fun c_2 => ?_)
            · refine lv_iload_n hx hb dX10_reaches_144 rfl (lv_at hl 3 rfl) ?_
              exact rw_iret hx hb hr hlocks (by rw [(RI_all hri (hcl c_2)).2]) ⟨_, (RI_all hri (hcl c_2)).1, hP, hD⟩ hS (Nat.le_of_ble_eq_true rfl) (Nat.le_of_ble_eq_true rfl) dX10_reaches_145
            · have hmo := c_2
              refine lv_iconst (v := 0) hx hb dX10_reaches_42 (by decide) ?_
              refine lv_istore (lv' := [(4, .int 0), (0, .ref (a 0)), (1, .int (nI f)), (2, .int day), (3, .int (nI ct))]) hx hb dX10_reaches_43 hl (by decide) rfl (fun ls hl => ?_)
              refine lv_iconst (v := 0) hx hb dX10_reaches_45 (by decide) ?_
              refine lv_istore (lv' := [(5, .int 0), (4, .int 0), (0, .ref (a 0)), (1, .int (nI f)), (2, .int day), (3, .int (nI ct))]) hx hb dX10_reaches_46 hl (by decide) rfl (fun ls hl => ?_)
              have loop_48 : ∀ (fuel_48 : Nat) (u ct1 : Nat) (m1 : Bool) (z1 : Nat → Int32), u ≤ n 1 → RI T n day f z1 ct1 → (m1 = false → Cl T n day z1 u ∧ ct1 = ct) → (m1 = true → ct < ct1) → n 1 - u < fuel_48 → ∀ (H : Heap) (locs : List Loc), va_P D vwCl (modW cT a T n z1) H → va_D A (modW cT a T n z1) → va_S A s.heap H locs → ∀ (ls : Array Slot), lv_has ls 7 [(0, .ref (a 0)), (1, .int (nI f)), (2, .int day), (3, .int (nI ct1)), (4, .int (b2 m1)), (5, .int (nI u))] → W p l e ({ frames := 2, cells := 0, slots := 0, locals := 45 }) s m (List.toArray [.ref (a 0), .int (nI f), .int day]) below meth c H locs 0 0 (MQ below (QW (some (.int (nI (hsN T n day f)))) ((poM D cT a T n (fun z1 => ∀ x, x < n 1 → (z1 x = 0 ∨ z1 x = 1) ∧ (z1 x = 1 ↔ Rch T n day f x))) A) A) (List.toArray [.ref (a 0), .int (nI f), .int day]) s 0 0 A) (F0 m 48 ls []) := by
                intro fuel_48
                induction fuel_48 with
                | zero => intro u ct1 m1 z1 hu hri1 hcl1 hgt1 hfuel_48; exact absurd hfuel_48 (Nat.not_lt_zero _)
                | succ fuel_48 ih_48 =>
                  intro u ct1 m1 z1 hu hri1 hcl1 hgt1 hfuel_48 H locs hP hD hS ls hl
                  refine lv_iload hx hb dX10_reaches_48 (lv_at hl 5 rfl) ?_
                  refine lv_aload_n hx hb dX10_reaches_50 rfl (lv_at hl 0 rfl) ?_
                  refine va_get (D := D) (ci := 10) (v := .int (nI (n 1))) (C := RX10) (T := TX10) (N := 38) hx hb hts hiX10 hown hE.1 hP 0 mol_0 rfl 1 (by decide) (hts (.fieldLink RX10 106 "FindsOfficeModel" "finds" "I") (by decide +kernel)) (fun _ h9 => h9) rfl dX10_reaches_51 ?_
                  refine lv_icmp_ge (tgt := 141) hx hb dX10_reaches_54 (by decide) (fun c_3 => ?_) (fun c_3 => ?_)
                  · have k_3 := nat_le (a := (n 1)) (b := u) c_3 (by omega) (by omega)
                    refine lv_goto (tgt := 37) hx hb dX10_reaches_141 (by decide) ?_
                    exact ih_37 ct1 m1 z1 hri1 (fun h => by have := (hcl1 h).1; rwa [show u = n 1 by omega] at this) (pass_meas hri1 (fun h => (hcl1 h).2) hgt1 (by simpa [hmo] using hfuel_37)) H locs hP hD hS ls (lv_sub hl [0, 1, 2, 3, 4] rfl)
                  · have k_3 := nat_nle (a := (n 1)) (b := u) c_3 (by omega) (by omega)
                    have hul : u < n 1 := by omega
                    refine lv_iconst (v := 0) hx hb dX10_reaches_57 (by decide) ?_
                    refine lv_istore (lv' := [(6, .int 0), (0, .ref (a 0)), (1, .int (nI f)), (2, .int day), (3, .int (nI ct1)), (4, .int (b2 m1)), (5, .int (nI u))]) hx hb dX10_reaches_58 hl (by decide) rfl (fun ls hl => ?_)
                    have loop_60 : ∀ (fuel_60 : Nat) (w ct2 : Nat) (m2 : Bool) (z2 : Nat → Int32), w ≤ n 1 → RI T n day f z2 ct2 → (m2 = false → Cl T n day z2 u ∧ ct2 = ct ∧ ∀ v, v < w → z2 u = 1 → Ed T n day u v → z2 v = 1) → (m2 = true → ct < ct2) → n 1 - w < fuel_60 → ∀ (H : Heap) (locs : List Loc), va_P D vwCl (modW cT a T n z2) H → va_D A (modW cT a T n z2) → va_S A s.heap H locs → ∀ (ls : Array Slot), lv_has ls 7 [(0, .ref (a 0)), (1, .int (nI f)), (2, .int day), (3, .int (nI ct2)), (4, .int (b2 m2)), (5, .int (nI u)), (6, .int (nI w))] → W p l e ({ frames := 2, cells := 0, slots := 0, locals := 45 }) s m (List.toArray [.ref (a 0), .int (nI f), .int day]) below meth c H locs 0 0 (MQ below (QW (some (.int (nI (hsN T n day f)))) ((poM D cT a T n (fun z1 => ∀ x, x < n 1 → (z1 x = 0 ∨ z1 x = 1) ∧ (z1 x = 1 ↔ Rch T n day f x))) A) A) (List.toArray [.ref (a 0), .int (nI f), .int day]) s 0 0 A) (F0 m 60 ls []) := by
                      intro fuel_60
                      induction fuel_60 with
                      | zero => intro w ct2 m2 z2 hw hri2 hcl2 hgt2 hfuel_60; exact absurd hfuel_60 (Nat.not_lt_zero _)
                      | succ fuel_60 ih_60 =>
                        intro w ct2 m2 z2 hw hri2 hcl2 hgt2 hfuel_60 H locs hP hD hS ls hl
                        refine lv_iload hx hb dX10_reaches_60 (lv_at hl 6 rfl) ?_
                        refine lv_aload_n hx hb dX10_reaches_62 rfl (lv_at hl 0 rfl) ?_
                        refine va_get (D := D) (ci := 10) (v := .int (nI (n 1))) (C := RX10) (T := TX10) (N := 38) hx hb hts hiX10 hown hE.1 hP 0 mol_0 rfl 1 (by decide) (hts (.fieldLink RX10 106 "FindsOfficeModel" "finds" "I") (by decide +kernel)) (fun _ h9 => h9) rfl dX10_reaches_63 ?_
                        refine lv_icmp_ge (tgt := 135) hx hb dX10_reaches_66 (by decide) (fun c_4 => ?_) (fun c_4 => ?_)
                        · have k_4 := nat_le (a := (n 1)) (b := w) c_4 (by omega) (by omega)
                          refine lv_iinc (v := nI (u + 1)) (lv' := [(5, .int (nI (u + 1))), (0, .ref (a 0)), (1, .int (nI f)), (2, .int day), (3, .int (nI ct2)), (4, .int (b2 m2)), (6, .int (nI w))]) hx hb dX10_reaches_135 hl (k := 5) rfl (nI_1 _) (by decide) rfl (fun ls hl => ?_)
                          refine lv_goto (tgt := 48) hx hb dX10_reaches_138 (by decide) ?_
                          exact ih_48 (u + 1) ct2 m2 z2 (by omega) hri2 (fun h => ⟨Cl_succ (hcl2 h).1 (fun hz v e => (hcl2 h).2.2 v (by have := e.2.1.1; omega) hz e), (hcl2 h).2.1⟩) hgt2 (by omega) H locs hP hD hS ls (lv_sub hl [1, 2, 3, 4, 5, 0] rfl)
                        · have k_4 := nat_nle (a := (n 1)) (b := w) c_4 (by omega) (by omega)
                          refine lv_aload_n hx hb dX10_reaches_69 rfl (lv_at hl 0 rfl) ?_
                          refine va_get (D := D) (ci := 10) (v := .ref (a 37)) (C := RX10) (T := TX10) (N := 38) hx hb hts hiX10 hown hE.1 hP 0 mol_0 rfl 37 (by decide) (hts (.fieldLink RX10 101 "FindsOfficeModel" "isReached" "[Z") (by decide +kernel)) (fun _ h9 => h9) rfl dX10_reaches_70 ?_
                          refine lv_iload hx hb dX10_reaches_73 (lv_at hl 5 rfl) ?_
                          refine my_zald (k := u) hx hb hE.1 hP 30 1 mol_37 rfl rfl (by omega) (by decide) dX10_reaches_75 ?_
                          refine lv_if_eq (tgt := 135) hx hb dX10_reaches_76 (by decide) (fun c_5 => ?_) (fun c_5 => ?_)
                          · refine lv_iinc (v := nI (u + 1)) (lv' := [(5, .int (nI (u + 1))), (0, .ref (a 0)), (1, .int (nI f)), (2, .int day), (3, .int (nI ct2)), (4, .int (b2 m2)), (6, .int (nI w))]) hx hb dX10_reaches_135 hl (k := 5) rfl (nI_1 _) (by decide) rfl (fun ls hl => ?_)
                            refine lv_goto (tgt := 48) hx hb dX10_reaches_138 (by decide) ?_
                            exact ih_48 (u + 1) ct2 m2 z2 (by omega) hri2 (fun h => ⟨Cl_succ (hcl2 h).1 (fun hz => absurd (c_5.symm.trans hz) (by decide)), (hcl2 h).2.1⟩) hgt2 (by omega) H locs hP hD hS ls (lv_sub hl [1, 2, 3, 4, 5, 0] rfl)
                          · refine lv_aload_n hx hb dX10_reaches_79 rfl (lv_at hl 0 rfl) ?_
                            refine va_get (D := D) (ci := 10) (v := .ref (a 37)) (C := RX10) (T := TX10) (N := 38) hx hb hts hiX10 hown hE.1 hP 0 mol_0 rfl 37 (by decide) (hts (.fieldLink RX10 101 "FindsOfficeModel" "isReached" "[Z") (by decide +kernel)) (fun _ h9 => h9) rfl dX10_reaches_80 ?_
                            refine lv_iload hx hb dX10_reaches_83 (lv_at hl 6 rfl) ?_
                            refine my_zald (k := w) hx hb hE.1 hP 30 1 mol_37 rfl rfl (by omega) (by decide) dX10_reaches_85 ?_
                            refine lv_if_ne (tgt := 129) hx hb dX10_reaches_86 (by decide) (fun c_6 => ?_) (fun c_6 => ?_)
                            · refine lv_iinc (v := nI (w + 1)) (lv' := [(6, .int (nI (w + 1))), (0, .ref (a 0)), (1, .int (nI f)), (2, .int day), (3, .int (nI ct2)), (4, .int (b2 m2)), (5, .int (nI u))]) hx hb dX10_reaches_129 hl (k := 6) rfl (nI_1 _) (by decide) rfl (fun ls hl => ?_)
                              refine lv_goto (tgt := 60) hx hb dX10_reaches_132 (by decide) ?_
                              exact ih_60 (w + 1) ct2 m2 z2 (by omega) hri2 (fun h => ⟨(hcl2 h).1, (hcl2 h).2.1, Cw_succ (hcl2 h).2.2 (fun _ _ => ri_one hri2 (by omega) c_6)⟩) hgt2 (by omega) H locs hP hD hS ls (lv_sub hl [1, 2, 3, 4, 5, 6, 0] rfl)
                            · refine lv_aload_n hx hb dX10_reaches_89 rfl (lv_at hl 0 rfl) ?_
                              refine va_get (D := D) (ci := 10) (v := .ref (a 11)) (C := RX10) (T := TX10) (N := 38) hx hb hts hiX10 hown hE.1 hP 0 mol_0 rfl 11 (by decide) (hts (.fieldLink RX10 37 "FindsOfficeModel" "knownOn" "[I") (by decide +kernel)) (fun _ h9 => h9) rfl dX10_reaches_90 ?_
                              refine lv_iload hx hb dX10_reaches_93 (lv_at hl 6 rfl) ?_
                              refine my_iald (k := w) hx hb hE.1 hP 10 0 mol_11 rfl rfl (by omega) (by decide) dX10_reaches_95 ?_
                              refine lv_iload_n hx hb dX10_reaches_96 rfl (lv_at hl 2 rfl) ?_
                              refine lv_icmp_gt (tgt := 129) hx hb dX10_reaches_97 (by decide) (fun c_7 => ?_) (fun c_7 => ?_)
                              · refine lv_iinc (v := nI (w + 1)) (lv' := [(6, .int (nI (w + 1))), (0, .ref (a 0)), (1, .int (nI f)), (2, .int day), (3, .int (nI ct2)), (4, .int (b2 m2)), (5, .int (nI u))]) hx hb dX10_reaches_129 hl (k := 6) rfl (nI_1 _) (by decide) rfl (fun ls hl => ?_)
                                refine lv_goto (tgt := 60) hx hb dX10_reaches_132 (by decide) ?_
                                exact ih_60 (w + 1) ct2 m2 z2 (by omega) hri2 (fun h => ⟨(hcl2 h).1, (hcl2 h).2.1, Cw_succ (hcl2 h).2.2 (fun _ e => absurd c_7 e.2.1.2)⟩) hgt2 (by omega) H locs hP hD hS ls (lv_sub hl [1, 2, 3, 4, 5, 6, 0] rfl)
                              · refine lv_aload_n hx hb dX10_reaches_100 rfl (lv_at hl 0 rfl) ?_
                                refine lv_iload hx hb dX10_reaches_101 (lv_at hl 5 rfl) ?_
                                refine lv_iload hx hb dX10_reaches_103 (lv_at hl 6 rfl) ?_
                                refine lv_iload_n hx hb dX10_reaches_105 rfl (lv_at hl 2 rfl) ?_
                                refine ro_V (As := [.int (nI u), .int (nI w), .int day]) (rest := []) ⟨hx, hb, hml, hown, hts⟩ (c_X10_isJoined l D cT a T n z2 day u w hn (by omega) (by omega)) (cwV 3 hts gX10_reaches_X10_isJoined rfl rfl rfl (by decide +kernel) ⟨Nat.le_of_ble_eq_true rfl, Nat.le_of_ble_eq_true rfl⟩) hE hP 0 10 mol_0 rfl rfl rfl hl.1 rfl (Nat.le_of_ble_eq_true rfl) dX10_reaches_106 ⟨Nat.zero_le _, Nat.zero_le _⟩ ?_
                                refine bi_ne (tgt := 115) hx hb dX10_reaches_109 (by decide) (fun c_8 => ?_) (fun c_8 => ?_)
                                · refine lv_aload_n hx hb dX10_reaches_115 rfl (lv_at hl 0 rfl) ?_
                                  refine va_get (D := D) (ci := 10) (v := .ref (a 37)) (C := RX10) (T := TX10) (N := 38) hx hb hts hiX10 hown hE.1 hP 0 mol_0 rfl 37 (by decide) (hts (.fieldLink RX10 101 "FindsOfficeModel" "isReached" "[Z") (by decide +kernel)) (fun _ h9 => h9) rfl dX10_reaches_116 ?_
                                  refine lv_iload hx hb dX10_reaches_119 (lv_at hl 6 rfl) ?_
                                  refine lv_iconst (v := 1) hx hb dX10_reaches_121 (by decide) ?_
                                  refine my_zast (k := w) hx hb hE.1 hP hD hS 30 1 mol_37 rfl rfl (by omega) (by decide) rfl dX10_reaches_122 (fun H locs hP hD hS => ?_)
                                  rw [mos_37] at hP hD
                                  refine lv_iconst (v := 1) hx hb dX10_reaches_123 (by decide) ?_
                                  refine lv_istore (lv' := [(4, .int 1), (0, .ref (a 0)), (1, .int (nI f)), (2, .int day), (3, .int (nI ct2)), (5, .int (nI u)), (6, .int (nI w))]) hx hb dX10_reaches_124 hl (by decide) rfl (fun ls hl => ?_)
                                  refine lv_iinc (v := nI (ct2 + 1)) (lv' := [(3, .int (nI (ct2 + 1))), (4, .int 1), (0, .ref (a 0)), (1, .int (nI f)), (2, .int day), (5, .int (nI u)), (6, .int (nI w))]) hx hb dX10_reaches_126 hl (k := 4) rfl (nI_1 _) (by decide) rfl (fun ls hl => ?_)
                                  refine lv_iinc (v := nI (w + 1)) (lv' := [(6, .int (nI (w + 1))), (3, .int (nI (ct2 + 1))), (4, .int 1), (0, .ref (a 0)), (1, .int (nI f)), (2, .int day), (5, .int (nI u))]) hx hb dX10_reaches_129 hl (k := 6) rfl (nI_1 _) (by decide) rfl (fun ls hl => ?_)
                                  refine lv_goto (tgt := 60) hx hb dX10_reaches_132 (by decide) ?_
                                  exact ih_60 (w + 1) (ct2 + 1) true (upd z2 w 1) (by omega) (RI_add hri2 (ri_one hri2 hul c_5) hul (by rw [c_6]; decide) (ri_ed hri2 ⟨hf, hV⟩ hul (by omega) (ri_one hri2 hul c_5) c_6 c_7 c_8)) (fun h => by cases h) (fun _ => Nat.lt_succ_of_le (ri_le (fun h => (hcl2 h).2.1) hgt2)) (by omega) H locs hP hD hS ls (lv_sub hl [3, 4, 5, 1, 2, 6, 0] rfl)
                                · refine lv_goto (tgt := 129) hx hb dX10_reaches_112 (by decide) ?_
                                  refine lv_iinc (v := nI (w + 1)) (lv' := [(6, .int (nI (w + 1))), (0, .ref (a 0)), (1, .int (nI f)), (2, .int day), (3, .int (nI ct2)), (4, .int (b2 m2)), (5, .int (nI u))]) hx hb dX10_reaches_129 hl (k := 6) rfl (nI_1 _) (by decide) rfl (fun ls hl => ?_)
                                  refine lv_goto (tgt := 60) hx hb dX10_reaches_132 (by decide) ?_
                                  exact ih_60 (w + 1) ct2 m2 z2 (by omega) hri2 (fun h => ⟨(hcl2 h).1, (hcl2 h).2.1, Cw_succ (hcl2 h).2.2 (fun _ e => absurd e.2.2.2 (by rw [c_8]; decide))⟩) hgt2 (by omega) H locs hP hD hS ls (lv_sub hl [1, 2, 3, 4, 5, 6, 0] rfl)
                    exact loop_60 _ 0 ct1 m1 z1 (by omega) hri1 (fun h => ⟨(hcl1 h).1, (hcl1 h).2, fun v hv => absurd hv (by omega)⟩) hgt1 (Nat.lt_succ_self _) H locs hP hD hS ls (lv_sub hl [1, 2, 3, 4, 5, 6, 0] rfl)
              exact loop_48 _ 0 ct false zz (by omega) hri (fun _ => ⟨fun x hx => absurd hx (by omega), rfl⟩) (fun h => by cases h) (Nat.lt_succ_self _) H locs hP hD hS ls (lv_sub hl [2, 3, 4, 5, 1, 0] rfl)
        exact loop_37 _ 1 true zz (RI_0 hf (fun x hx => hz x (by omega))) (fun h => by cases h) (Nat.lt_succ_self _) H locs hP hD hS ls (lv_sub hl [2, 3, 4, 1, 0] rfl)
      · have k_1 := nat_nle (a := (n 1)) (b := j) c_1 (by omega) (by omega)
        refine lv_aload_n hx hb dX10_reaches_10 rfl (lv_at hl 0 rfl) ?_
        refine va_get (D := D) (ci := 10) (v := .ref (a 37)) (C := RX10) (T := TX10) (N := 38) hx hb hts hiX10 hown hE.1 hP 0 mol_0 rfl 37 (by decide) (hts (.fieldLink RX10 101 "FindsOfficeModel" "isReached" "[Z") (by decide +kernel)) (fun _ h9 => h9) rfl dX10_reaches_11 ?_
        refine lv_iload_n hx hb dX10_reaches_14 rfl (lv_at hl 3 rfl) ?_
        have J_25 : ∀ (jv : Int32), jv = (b2 (decide (j = f))) → ∀ (ls : Array Slot), lv_has ls 7 [(0, .ref (a 0)), (1, .int (nI f)), (2, .int day), (3, .int (nI j))] → W p l e ({ frames := 2, cells := 0, slots := 0, locals := 45 }) s m (List.toArray [.ref (a 0), .int (nI f), .int day]) below meth c H locs 0 0 (MQ below (QW (some (.int (nI (hsN T n day f)))) ((poM D cT a T n (fun z1 => ∀ x, x < n 1 → (z1 x = 0 ∨ z1 x = 1) ∧ (z1 x = 1 ↔ Rch T n day f x))) A) A) (List.toArray [.ref (a 0), .int (nI f), .int day]) s 0 0 A) (F0 m 25 ls [.int jv, .int (nI j), .ref (a 37)]) := by
          intro jv hjv ls hl
          subst hjv
          refine my_zast (k := j) hx hb hE.1 hP hD hS 30 1 mol_37 rfl rfl (by omega) (by decide) (b2_vn _) dX10_reaches_25 (fun H locs hP hD hS => ?_)
          rw [mos_37] at hP hD
          refine lv_iinc (v := nI (j + 1)) (lv' := [(3, .int (nI (j + 1))), (0, .ref (a 0)), (1, .int (nI f)), (2, .int day)]) hx hb dX10_reaches_26 hl (k := 3) rfl (nI_1 _) (by decide) rfl (fun ls hl => ?_)
          refine lv_goto (tgt := 2) hx hb dX10_reaches_29 (by decide) ?_
          exact ih_2 (j + 1) (upd zz j (b2 (decide (j = f)))) (by omega) (upd_lt hz rfl) (by omega) H locs hP hD hS ls (lv_sub hl [1, 2, 3, 0] rfl)
        refine lv_iload_n hx hb dX10_reaches_15 rfl (lv_at hl 3 rfl) ?_
        refine lv_iload_n hx hb dX10_reaches_16 rfl (lv_at hl 1 rfl) ?_
        refine lv_icmp_ne (tgt := 24) hx hb dX10_reaches_17 (by decide) (fun c_9 => ?_) (fun c_9 => ?_)
        · have k_9 := nat_ne (a := j) (b := f) c_9
          refine lv_iconst (v := 0) hx hb dX10_reaches_24 (by decide) ?_
          exact J_25 _ (by simp [b2, k_9]) ls (lv_sub hl [0, 1, 2, 3] rfl)
        · have k_9 := nat_eq (a := j) (b := f) c_9 (by omega) (by omega)
          refine lv_iconst (v := 1) hx hb dX10_reaches_20 (by decide) ?_
          refine lv_goto (tgt := 25) hx hb dX10_reaches_21 (by decide) ?_
          exact J_25 _ (by simp [b2, k_9]) ls (lv_sub hl [0, 1, 2, 3] rfl)
  exact loop_2 _ 0 z (by omega) (fun x hx => absurd hx (by omega)) (Nat.lt_succ_self _) H locs hP hD hS ls (lv_sub hl [1, 2, 3, 0] rfl)
