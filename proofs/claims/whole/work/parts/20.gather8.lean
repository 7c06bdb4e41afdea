set_option maxHeartbeats 4000000 in
set_option maxRecDepth 100000 in
theorem c_J7_fill_53178 (l : Launch) (D : va_G) (cT : Nat → ClassId) (sz : Nat) (q0 N : Nat) (f : Nat → Int32) (v : Int32) (hN : N < 2 ^ 31) : Met l yJ7_fill_53178 wsJ7_fill_53178 ({ frames := 0, cells := 0, slots := 0, locals := 0 }) (va_Pc [.ref q0, .int v] (PW D cT ([(q0, .inl (cT 0, N, .inl f))]) sz)) (QW none ((poF D cT q0 N v) (va_A ([(q0, .inl (cT 0, N, .inl f))]) sz)) (va_A ([(q0, .inl (cT 0, N, .inl f))]) sz)) 0 0 (va_A ([(q0, .inl (cT 0, N, .inl f))]) sz) := by
  refine RW_of (Bp := (poF D cT q0 N v)) (by decide) rfl (Nat.le_of_ble_eq_true rfl) ?_
  intro p e s m below meth c A hx hb hr hts hown hlocks hin hml hE hD hA H locs hP hS ls hl
  have hl : lv_has ls 4 [(0, .ref q0), (1, .int v)] := hl
  refine lv_iconst (v := 0) hx hb dJ7_fill_53178_0 (by decide) ?_
  refine lv_istore_n (lv' := [(2, .int 0), (0, .ref q0), (1, .int v)]) hx hb dJ7_fill_53178_1 rfl hl (by decide) rfl (fun ls hl => ?_)
  refine lv_aload_n hx hb dJ7_fill_53178_2 rfl (lv_at hl 1 rfl) ?_
  refine va_alen (v := nI N) hx hb hE.1 hP 0 0 rfl rfl rfl dJ7_fill_53178_3 ?_
  refine lv_istore_n (lv' := [(3, .int (nI N)), (2, .int 0), (0, .ref q0), (1, .int v)]) hx hb dJ7_fill_53178_4 rfl hl (by decide) rfl (fun ls hl => ?_)
  have loop_5 : ∀ (fuel_5 : Nat) (j : Nat) (g : Nat → Int32), j ≤ N → (∀ k, k < j → g k = v) → N - j < fuel_5 → ∀ (H : Heap) (locs : List Loc), va_P D vwCl ([(q0, .inl (cT 0, N, .inl g))]) H → va_D A ([(q0, .inl (cT 0, N, .inl g))]) → va_S A s.heap H locs → ∀ (ls : Array Slot), lv_has ls 4 [(0, .ref q0), (1, .int v), (2, .int (nI j)), (3, .int (nI N))] → W p l e ({ frames := 0, cells := 0, slots := 0, locals := 0 }) s m (List.toArray [.ref q0, .int v]) below meth c H locs 0 0 (MQ below (QW none ((poF D cT q0 N v) A) A) (List.toArray [.ref q0, .int v]) s 0 0 A) (F0 m 5 ls []) := by
    intro fuel_5
    induction fuel_5 with
    | zero => intro j g hj hg hfuel_5; exact absurd hfuel_5 (Nat.not_lt_zero _)
    | succ fuel_5 ih_5 =>
      intro j g hj hg hfuel_5 H locs hP hD hS ls hl
      refine lv_iload_n hx hb dJ7_fill_53178_5 rfl (lv_at hl 2 rfl) ?_
      refine lv_iload_n hx hb dJ7_fill_53178_6 rfl (lv_at hl 3 rfl) ?_
      refine lv_icmp_ge (tgt := 20) hx hb dJ7_fill_53178_7 (by decide) (fun c_1 => ?_) (fun c_1 => ?_)
      · have k_1 := nat_le (a := N) (b := j) c_1 (by omega) (by omega)
        exact rw_vret hx hb hr hlocks ⟨_, (fun k hk => hg k (by omega)), hP, hD⟩ hS (Nat.le_of_ble_eq_true rfl) (Nat.le_of_ble_eq_true rfl) dJ7_fill_53178_20
      · have k_1 := nat_nle (a := N) (b := j) c_1 (by omega) (by omega)
        refine lv_aload_n hx hb dJ7_fill_53178_10 rfl (lv_at hl 0 rfl) ?_
        refine lv_iload_n hx hb dJ7_fill_53178_11 rfl (lv_at hl 2 rfl) ?_
        refine lv_iload_n hx hb dJ7_fill_53178_12 rfl (lv_at hl 1 rfl) ?_
        refine my_iast (k := j) hx hb hE.1 hP hD hS 0 0 rfl rfl rfl (by omega) hN dJ7_fill_53178_13 (fun H locs hP hD hS => ?_)
        have hP : va_P D vwCl [(q0, .inl (cT 0, N, .inl (upd g j v)))] H := hP
        have hD : va_D A [(q0, .inl (cT 0, N, .inl (upd g j v)))] := hD
        refine lv_iinc (v := nI (j + 1)) (lv' := [(2, .int (nI (j + 1))), (0, .ref q0), (1, .int v), (3, .int (nI N))]) hx hb dJ7_fill_53178_14 hl (k := 2) rfl (nI_1 _) (by decide) rfl (fun ls hl => ?_)
        refine lv_goto (tgt := 5) hx hb dJ7_fill_53178_17 (by decide) ?_
        exact ih_5 (j + 1) (upd g j v) (by omega) (upd_lt (g := fun _ => v) hg rfl) (by omega) H locs hP hD hS ls (lv_sub hl [1, 2, 0, 3] rfl)
  exact loop_5 _ 0 f (by omega) (fun k hk => absurd hk (by omega)) (Nat.lt_succ_self _) H locs hP hD hS ls (lv_sub hl [2, 3, 1, 0] rfl)
set_option maxHeartbeats 4000000 in
set_option maxRecDepth 100000 in
theorem c_X2_gatherFrom (l : Launch) (D : va_G) (cT : Nat → ClassId) (sz : Nat) (a : Nat → Nat) (b : Nat → Nat → Nat) (T P : Nat → Nat → Int32) (n : Nat → Nat) (day : Int32) (j K : Nat) (hn : Cnt n) (hI : InvT T n) (hpr : PR T (P 0)) (hdy : ¬ 20000 < day) (hK : ∀ x, x < K ↔ Vx T n day x) (hKn : K ≤ n 1) (hh : HH T n day K j (P 1)) (hjK : j < K) (hjd : hdN T n day j = j) : Met l yX2_gatherFrom wsX2_gatherFrom ({ frames := 3, cells := 0, slots := 0, locals := 72 }) (va_Pc [.ref (a 7), .int (nI j), .int (nI K), .int day] (PW D cT (offW cT a b T P n) sz)) (QW (some (.int (nI (hsN T n day j)))) ((poO D cT a b T n (fun P1 => (P1 0 = P 0 ∧ P1 2 = P 2) ∧ HH T n day K (j + 1) (P1 1))) (va_A (offW cT a b T P n) sz)) (va_A (offW cT a b T P n) sz)) 0 0 (va_A (offW cT a b T P n) sz) := by
  refine RW_of (Bp := (poO D cT a b T n (fun P1 => (P1 0 = P 0 ∧ P1 2 = P 2) ∧ HH T n day K (j + 1) (P1 1)))) (by decide) rfl (Nat.le_of_ble_eq_true rfl) ?_
  intro p e s m below meth c A hx hb hr hts hown hlocks hin hml hE hD hA H locs hP hS ls hl
  have hiX2 : ∀ w ∈ wsX20, w ∈ wsX2_gatherFrom := by decide +kernel
  have hl : lv_has ls 8 [(0, .ref (a 7)), (1, .int (nI j)), (2, .int (nI K)), (3, .int day)] := hl
  obtain ⟨hn0, hn1, hn2, hn3, hn4⟩ := id hn
  refine lv_aload_n hx hb dX2_gatherFrom_0 rfl (lv_at hl 0 rfl) ?_
  refine va_get (D := D) (ci := 2) (v := .ref (a 10)) (C := RX2) (T := TX2) (N := 7) hx hb hts hiX2 hown hE.1 hP 7 ofl_7 rfl 4 (by decide) (hts (.fieldLink RX2 28 "FindsOffice$FindBook" "hoardOf" "[I") (by decide +kernel)) (fun _ h9 => h9) rfl dX2_gatherFrom_1 ?_
  refine lv_iload_n hx hb dX2_gatherFrom_4 rfl (lv_at hl 1 rfl) ?_
  refine lv_iload_n hx hb dX2_gatherFrom_5 rfl (lv_at hl 1 rfl) ?_
  refine my_iast (k := j) hx hb hE.1 hP hD hS 10 0 ofl_10 rfl rfl (by omega) (by decide) dX2_gatherFrom_6 (fun H locs hP hD hS => ?_)
  rw [ofs_10] at hP hD
  refine lv_aload_n hx hb dX2_gatherFrom_7 rfl (lv_at hl 0 rfl) ?_
  refine va_get (D := D) (ci := 2) (v := .ref (a 12)) (C := RX2) (T := TX2) (N := 7) hx hb hts hiX2 hown hE.1 hP 7 ofl_7 rfl 6 (by decide) (hts (.fieldLink RX2 34 "FindsOffice$FindBook" "reached" "[I") (by decide +kernel)) (fun _ h9 => h9) rfl dX2_gatherFrom_8 ?_
  refine lv_iconst (v := 0) hx hb dX2_gatherFrom_11 (by decide) ?_
  refine lv_iload_n hx hb dX2_gatherFrom_12 rfl (lv_at hl 1 rfl) ?_
  refine my_iast (k := 0) hx hb hE.1 hP hD hS 12 0 ofl_12 rfl rfl (by decide) (by decide) dX2_gatherFrom_13 (fun H locs hP hD hS => ?_)
  rw [ofs_12] at hP hD
  refine lv_iconst (v := 1) hx hb dX2_gatherFrom_14 (by decide) ?_
  refine lv_istore (lv' := [(4, .int 1), (0, .ref (a 7)), (1, .int (nI j)), (2, .int (nI K)), (3, .int day)]) hx hb dX2_gatherFrom_15 hl (by decide) rfl (fun ls hl => ?_)
  refine lv_iconst (v := 0) hx hb dX2_gatherFrom_17 (by decide) ?_
  refine lv_istore (lv' := [(5, .int 0), (4, .int 1), (0, .ref (a 7)), (1, .int (nI j)), (2, .int (nI K)), (3, .int day)]) hx hb dX2_gatherFrom_18 hl (by decide) rfl (fun ls hl => ?_)
  have loop_20 : ∀ (fuel_20 : Nat) (dn sz : Nat) (Q : Nat → Nat → Int32), dn ≤ sz → GI T n day K j P Q sz → GC T day K j Q dn → 50 - dn < fuel_20 → ∀ (H : Heap) (locs : List Loc), va_P D vwCl (offW cT a b T Q n) H → va_D A (offW cT a b T Q n) → va_S A s.heap H locs → ∀ (ls : Array Slot), lv_has ls 8 [(0, .ref (a 7)), (1, .int (nI j)), (2, .int (nI K)), (3, .int day), (4, .int (nI sz)), (5, .int (nI dn))] → W p l e ({ frames := 3, cells := 0, slots := 0, locals := 72 }) s m (List.toArray [.ref (a 7), .int (nI j), .int (nI K), .int day]) below meth c H locs 0 0 (MQ below (QW (some (.int (nI (hsN T n day j)))) ((poO D cT a b T n (fun P1 => (P1 0 = P 0 ∧ P1 2 = P 2) ∧ HH T n day K (j + 1) (P1 1))) A) A) (List.toArray [.ref (a 7), .int (nI j), .int (nI K), .int day]) s 0 0 A) (F0 m 20 ls []) := by
    intro fuel_20
    induction fuel_20 with
    | zero => intro dn sz Q hds hgi hgc hfuel_20; exact absurd hfuel_20 (Nat.not_lt_zero _)
    | succ fuel_20 ih_20 =>
      intro dn sz Q hds hgi hgc hfuel_20 H locs hP hD hS ls hl
      have hs50 := GI_le hgi
      refine lv_iload hx hb dX2_gatherFrom_20 (lv_at hl 5 rfl) ?_
      refine lv_iload hx hb dX2_gatherFrom_22 (lv_at hl 4 rfl) ?_
      refine lv_icmp_ge (tgt := 131) hx hb dX2_gatherFrom_24 (by decide) (fun c_1 => ?_) (fun c_1 => ?_)
      · have k_1 := nat_le (a := sz) (b := dn) c_1 (by omega) (by omega)
        refine lv_iload hx hb dX2_gatherFrom_131 (lv_at hl 4 rfl) ?_
        exact rw_iret hx hb hr hlocks (by rw [← (GI_end hn1 hI hK hh hjK hjd hgi (by have h9 := hgc; rwa [show dn = sz by omega] at h9)).1]) ⟨_, ⟨hgi.1, (GI_end hn1 hI hK hh hjK hjd hgi (by have h9 := hgc; rwa [show dn = sz by omega] at h9)).2⟩, hP, hD⟩ hS (Nat.le_of_ble_eq_true rfl) (Nat.le_of_ble_eq_true rfl) dX2_gatherFrom_133
      · have k_1 := nat_nle (a := sz) (b := dn) c_1 (by omega) (by omega)
        refine lv_iload hx hb dX2_gatherFrom_27 (lv_at hl 5 rfl) ?_
        refine lv_bipush (v := 50) hx hb dX2_gatherFrom_29 (by decide) ?_
        refine lv_icmp_ge (tgt := 131) hx hb dX2_gatherFrom_31 (by decide) (fun c_2 => ?_) (fun c_2 => ?_)
        · have k_2 := nat_le (a := 50) (b := dn) c_2 (by omega) (by omega)
          exfalso; omega
        · have k_2 := nat_nle (a := 50) (b := dn) c_2 (by omega) (by omega)
          refine lv_iload_n hx hb dX2_gatherFrom_34 rfl (lv_at hl 1 rfl) ?_
          refine lv_iconst (v := 1) hx hb dX2_gatherFrom_35 (by decide) ?_
          refine lv_iadd hx hb dX2_gatherFrom_36 ?_
          refine topi_eq (nI_add _ 1) ?_
          refine lv_istore (lv' := [(6, .int (nI (j + 1))), (0, .ref (a 7)), (1, .int (nI j)), (2, .int (nI K)), (3, .int day), (4, .int (nI sz)), (5, .int (nI dn))]) hx hb dX2_gatherFrom_37 hl (by decide) rfl (fun ls hl => ?_)
          have loop_39 : ∀ (fuel_39 : Nat) (w sz1 : Nat) (Q1 : Nat → Nat → Int32), j < w → w ≤ K → GI T n day K j P Q1 sz1 → dn < sz1 → GC T day K j Q1 dn → GP T day K j Q1 dn w → K - w < fuel_39 → ∀ (H : Heap) (locs : List Loc), va_P D vwCl (offW cT a b T Q1 n) H → va_D A (offW cT a b T Q1 n) → va_S A s.heap H locs → ∀ (ls : Array Slot), lv_has ls 8 [(0, .ref (a 7)), (1, .int (nI j)), (2, .int (nI K)), (3, .int day), (4, .int (nI sz1)), (5, .int (nI dn)), (6, .int (nI w))] → W p l e ({ frames := 3, cells := 0, slots := 0, locals := 72 }) s m (List.toArray [.ref (a 7), .int (nI j), .int (nI K), .int day]) below meth c H locs 0 0 (MQ below (QW (some (.int (nI (hsN T n day j)))) ((poO D cT a b T n (fun P1 => (P1 0 = P 0 ∧ P1 2 = P 2) ∧ HH T n day K (j + 1) (P1 1))) A) A) (List.toArray [.ref (a 7), .int (nI j), .int (nI K), .int day]) s 0 0 A) (F0 m 39 ls []) := by
            intro fuel_39
            induction fuel_39 with
            | zero => intro w sz1 Q1 hjw hwK hgi1 hdn hgc1 hgp hfuel_39; exact absurd hfuel_39 (Nat.not_lt_zero _)
            | succ fuel_39 ih_39 =>
              intro w sz1 Q1 hjw hwK hgi1 hdn hgc1 hgp hfuel_39 H locs hP hD hS ls hl
              have hs51 := GI_le hgi1
              refine lv_iload hx hb dX2_gatherFrom_39 (lv_at hl 6 rfl) ?_
              refine lv_iload_n hx hb dX2_gatherFrom_41 rfl (lv_at hl 2 rfl) ?_
              refine lv_icmp_ge (tgt := 125) hx hb dX2_gatherFrom_42 (by decide) (fun c_3 => ?_) (fun c_3 => ?_)
              · have k_3 := nat_le (a := K) (b := w) c_3 (by omega) (by omega)
                refine lv_iinc (v := nI (dn + 1)) (lv' := [(5, .int (nI (dn + 1))), (0, .ref (a 7)), (1, .int (nI j)), (2, .int (nI K)), (3, .int day), (4, .int (nI sz1)), (6, .int (nI w))]) hx hb dX2_gatherFrom_125 hl (k := 5) rfl (nI_1 _) (by decide) rfl (fun ls hl => ?_)
                refine lv_goto (tgt := 20) hx hb dX2_gatherFrom_128 (by decide) ?_
                exact ih_20 (dn + 1) sz1 Q1 (by omega) hgi1 (GC_succ hgc1 (by have h9 := hgp; rwa [show w = K by omega] at h9)) (by omega) H locs hP hD hS ls (lv_sub hl [1, 2, 3, 4, 5, 0] rfl)
              · have k_3 := nat_nle (a := K) (b := w) c_3 (by omega) (by omega)
                refine lv_iload hx hb dX2_gatherFrom_45 (lv_at hl 6 rfl) ?_
                refine lv_bipush (v := 50) hx hb dX2_gatherFrom_47 (by decide) ?_
                refine lv_icmp_ge (tgt := 125) hx hb dX2_gatherFrom_49 (by decide) (fun c_4 => ?_) (fun c_4 => ?_)
                · have k_4 := nat_le (a := 50) (b := w) c_4 (by omega) (by omega)
                  exfalso; omega
                · have k_4 := nat_nle (a := 50) (b := w) c_4 (by omega) (by omega)
                  refine lv_aload_n hx hb dX2_gatherFrom_52 rfl (lv_at hl 0 rfl) ?_
                  refine va_get (D := D) (ci := 2) (v := .ref (a 10)) (C := RX2) (T := TX2) (N := 7) hx hb hts hiX2 hown hE.1 hP 7 ofl_7 rfl 4 (by decide) (hts (.fieldLink RX2 28 "FindsOffice$FindBook" "hoardOf" "[I") (by decide +kernel)) (fun _ h9 => h9) rfl dX2_gatherFrom_53 ?_
                  refine lv_iload hx hb dX2_gatherFrom_56 (lv_at hl 6 rfl) ?_
                  refine my_iald (k := w) hx hb hE.1 hP 10 0 ofl_10 rfl rfl (by omega) (by decide) dX2_gatherFrom_58 ?_
                  refine lv_iconst (v := (-1)) hx hb dX2_gatherFrom_59 (by decide) ?_
                  refine lv_icmp_ne (tgt := 74) hx hb dX2_gatherFrom_60 (by decide) (fun c_5 => ?_) (fun c_5 => ?_)
                  · refine lv_iconst (v := 0) hx hb dX2_gatherFrom_74 (by decide) ?_
                    refine lv_istore (lv' := [(7, .int 0), (0, .ref (a 7)), (1, .int (nI j)), (2, .int (nI K)), (3, .int day), (4, .int (nI sz1)), (5, .int (nI dn)), (6, .int (nI w))]) hx hb dX2_gatherFrom_75 hl (by decide) rfl (fun ls hl => ?_)
                    refine lv_iload hx hb dX2_gatherFrom_77 (lv_at hl 0 rfl) ?_
                    refine lv_if_eq (tgt := 119) hx hb dX2_gatherFrom_79 (by decide) (fun c_6 => ?_) (fun c_6 => ?_)
                    · refine lv_iinc (v := nI (w + 1)) (lv' := [(6, .int (nI (w + 1))), (7, .int 0), (0, .ref (a 7)), (1, .int (nI j)), (2, .int (nI K)), (3, .int day), (4, .int (nI sz1)), (5, .int (nI dn))]) hx hb dX2_gatherFrom_119 hl (k := 7) rfl (nI_1 _) (by decide) rfl (fun ls hl => ?_)
                      refine lv_goto (tgt := 39) hx hb dX2_gatherFrom_122 (by decide) ?_
                      exact ih_39 (w + 1) sz1 Q1 (by omega) (by omega) hgi1 hdn hgc1 (GP_skip hgp (fun _ _ _ _ => c_5)) (by omega) H locs hP hD hS ls (lv_sub hl [2, 3, 4, 5, 6, 7, 0] rfl)
                    · exact absurd c_6 (by decide)
                  · refine lv_iload hx hb dX2_gatherFrom_63 (lv_at hl 4 rfl) ?_
                    refine lv_bipush (v := 50) hx hb dX2_gatherFrom_65 (by decide) ?_
                    refine lv_icmp_ge (tgt := 74) hx hb dX2_gatherFrom_67 (by decide) (fun c_7 => ?_) (fun c_7 => ?_)
                    · have k_7 := nat_le (a := 50) (b := sz1) c_7 (by omega) (by omega)
                      exact absurd (GI_free hgi1 (show j < 50 by omega) (show w < 50 by omega) c_5) (by omega)
                    · have k_7 := nat_nle (a := 50) (b := sz1) c_7 (by omega) (by omega)
                      refine lv_iconst (v := 1) hx hb dX2_gatherFrom_70 (by decide) ?_
                      refine lv_goto (tgt := 75) hx hb dX2_gatherFrom_71 (by decide) ?_
                      refine lv_istore (lv' := [(7, .int 1), (0, .ref (a 7)), (1, .int (nI j)), (2, .int (nI K)), (3, .int day), (4, .int (nI sz1)), (5, .int (nI dn)), (6, .int (nI w))]) hx hb dX2_gatherFrom_75 hl (by decide) rfl (fun ls hl => ?_)
                      refine lv_iload hx hb dX2_gatherFrom_77 (lv_at hl 0 rfl) ?_
                      refine lv_if_eq (tgt := 119) hx hb dX2_gatherFrom_79 (by decide) (fun c_8 => ?_) (fun c_8 => ?_)
                      · exact absurd c_8 (by decide)
                      · refine lv_aload_n hx hb dX2_gatherFrom_82 rfl (lv_at hl 1 rfl) ?_
                        refine lv_aload_n hx hb dX2_gatherFrom_83 rfl (lv_at hl 1 rfl) ?_
                        refine va_get (D := D) (ci := 2) (v := .ref (a 12)) (C := RX2) (T := TX2) (N := 7) hx hb hts hiX2 hown hE.1 hP 7 ofl_7 rfl 6 (by decide) (hts (.fieldLink RX2 34 "FindsOffice$FindBook" "reached" "[I") (by decide +kernel)) (fun _ h9 => h9) rfl dX2_gatherFrom_84 ?_
                        refine lv_iload hx hb dX2_gatherFrom_87 (lv_at hl 6 rfl) ?_
                        obtain ⟨x, hxe, hxK, hxj⟩ := hgi1.2.1 dn hdn
                        have hxn : x < n 1 := ((hK x).mp hxK).1
                        refine my_iald (k := dn) hx hb hE.1 hP 12 0 ofl_12 rfl rfl (by omega) (by decide) dX2_gatherFrom_89 ?_
                        refine topi_eq hxe ?_
                        have hxw : x ≠ w := fun q => by rw [q, c_5] at hxj; exact nI_ne_m1 (by omega) hxj.symm
                        refine lv_iload hx hb dX2_gatherFrom_90 (lv_at hl 7 rfl) ?_
                        refine lv_iload_n hx hb dX2_gatherFrom_92 rfl (lv_at hl 4 rfl) ?_
                        refine ro_V (As := [.int (nI x), .int (nI w), .int day]) (rest := []) ⟨hx, hb, hml, hown, hts⟩ (c_X2_isJoined l D cT a b T Q1 n day x w hn hxn (by omega) hxw) (cwV 3 hts gX2_gatherFrom_X2_isJoined rfl rfl rfl (by decide +kernel) ⟨Nat.le_of_ble_eq_true rfl, Nat.le_of_ble_eq_true rfl⟩) hE hP 7 2 ofl_7 rfl rfl rfl hl.1 rfl (Nat.le_of_ble_eq_true rfl) dX2_gatherFrom_93 ⟨Nat.zero_le _, Nat.zero_le _⟩ ?_
                        refine bi_eq (tgt := 119) hx hb dX2_gatherFrom_96 (by decide) (fun c_9 => ?_) (fun c_9 => ?_)
                        · rw [hgi1.1.1, jn_eq hn1 hI hpr hdy hxn (show w < n 1 by omega) hxw] at c_9
                          refine lv_iinc (v := nI (w + 1)) (lv' := [(6, .int (nI (w + 1))), (7, .int 1), (0, .ref (a 7)), (1, .int (nI j)), (2, .int (nI K)), (3, .int day), (4, .int (nI sz1)), (5, .int (nI dn))]) hx hb dX2_gatherFrom_119 hl (k := 7) rfl (nI_1 _) (by decide) rfl (fun ls hl => ?_)
                          refine lv_goto (tgt := 39) hx hb dX2_gatherFrom_122 (by decide) ?_
                          exact ih_39 (w + 1) sz1 Q1 (by omega) (by omega) hgi1 hdn hgc1 (GP_skip hgp (fun y hy _ hq => by have e := nat_eq (hy.symm.trans hxe) (by omega) (by omega); rw [e, c_9] at hq; cases hq)) (by omega) H locs hP hD hS ls (lv_sub hl [2, 3, 4, 5, 6, 7, 0] rfl)
                        · rw [hgi1.1.1, jn_eq hn1 hI hpr hdy hxn (show w < n 1 by omega) hxw] at c_9
                          refine lv_aload_n hx hb dX2_gatherFrom_99 rfl (lv_at hl 1 rfl) ?_
                          refine va_get (D := D) (ci := 2) (v := .ref (a 10)) (C := RX2) (T := TX2) (N := 7) hx hb hts hiX2 hown hE.1 hP 7 ofl_7 rfl 4 (by decide) (hts (.fieldLink RX2 28 "FindsOffice$FindBook" "hoardOf" "[I") (by decide +kernel)) (fun _ h9 => h9) rfl dX2_gatherFrom_100 ?_
                          refine lv_iload hx hb dX2_gatherFrom_103 (lv_at hl 7 rfl) ?_
                          refine lv_iload_n hx hb dX2_gatherFrom_105 rfl (lv_at hl 2 rfl) ?_
                          refine my_iast (k := w) hx hb hE.1 hP hD hS 10 0 ofl_10 rfl rfl (by omega) (by decide) dX2_gatherFrom_106 (fun H locs hP hD hS => ?_)
                          rw [ofs_10] at hP hD
                          refine lv_aload_n hx hb dX2_gatherFrom_107 rfl (lv_at hl 1 rfl) ?_
                          refine va_get (D := D) (ci := 2) (v := .ref (a 12)) (C := RX2) (T := TX2) (N := 7) hx hb hts hiX2 hown hE.1 hP 7 ofl_7 rfl 6 (by decide) (hts (.fieldLink RX2 34 "FindsOffice$FindBook" "reached" "[I") (by decide +kernel)) (fun _ h9 => h9) rfl dX2_gatherFrom_108 ?_
                          refine lv_iload hx hb dX2_gatherFrom_111 (lv_at hl 5 rfl) ?_
                          refine lv_iload hx hb dX2_gatherFrom_113 (lv_at hl 7 rfl) ?_
                          refine my_iast (k := sz1) hx hb hE.1 hP hD hS 12 0 ofl_12 rfl rfl (by omega) (by decide) dX2_gatherFrom_115 (fun H locs hP hD hS => ?_)
                          rw [ofs_12] at hP hD
                          refine lv_iinc (v := nI (sz1 + 1)) (lv' := [(4, .int (nI (sz1 + 1))), (7, .int 1), (0, .ref (a 7)), (1, .int (nI j)), (2, .int (nI K)), (3, .int day), (5, .int (nI dn)), (6, .int (nI w))]) hx hb dX2_gatherFrom_116 hl (k := 5) rfl (nI_1 _) (by decide) rfl (fun ls hl => ?_)
                          refine lv_iinc (v := nI (w + 1)) (lv' := [(6, .int (nI (w + 1))), (4, .int (nI (sz1 + 1))), (7, .int 1), (0, .ref (a 7)), (1, .int (nI j)), (2, .int (nI K)), (3, .int day), (5, .int (nI dn))]) hx hb dX2_gatherFrom_119 hl (k := 7) rfl (nI_1 _) (by decide) rfl (fun ls hl => ?_)
                          refine lv_goto (tgt := 39) hx hb dX2_gatherFrom_122 (by decide) ?_
                          exact ih_39 (w + 1) (sz1 + 1) (va_up (va_up Q1 1 (upd (Q1 1) w (nI j))) 3 (upd (Q1 3) sz1 (nI w))) (by omega) (by omega) (GI_add hn1 hK hgi1 hxK hxj (by omega) c_5 c_9 (by omega)) (by omega) (GC_add (by omega) (by omega) hgc1) (GP_add hdn (by omega) hgp) (by omega) H locs hP hD hS ls (lv_sub hl [3, 4, 5, 6, 1, 7, 0] rfl)
          exact loop_39 _ (j + 1) sz Q (by omega) (by omega) hgi (by omega) hgc (fun x _ _ y h1 h2 => absurd h2 (by omega)) (Nat.lt_succ_self _) H locs hP hD hS ls (lv_sub hl [1, 2, 3, 4, 5, 6, 0] rfl)
  exact loop_20 _ 0 1 (va_up (va_up P 1 (upd (P 1) j (nI j))) 3 (upd (P 3) 0 (nI j))) (by omega) (GI_0 hn1 hK hh hjK) (fun i hi => absurd hi (by omega)) (Nat.lt_succ_self _) H locs hP hD hS ls (lv_sub hl [2, 3, 4, 5, 1, 0] rfl)
set_option maxHeartbeats 4000000 in
set_option maxRecDepth 100000 in
theorem c_X2_gatherHoards (l : Launch) (D : va_G) (cT : Nat → ClassId) (sz : Nat) (a : Nat → Nat) (b : Nat → Nat → Nat) (T P : Nat → Nat → Int32) (n : Nat → Nat) (day : Int32) (hn : Cnt n) (hI : InvT T n) (hpr : PR T (P 0)) (hdy : ¬ 20000 < day) : Met l yX2_gatherHoards wsX2_gatherHoards ({ frames := 4, cells := 0, slots := 0, locals := 99 }) (va_Pc [.ref (a 7), .int day] (PW D cT (offW cT a b T P n) sz)) (QW none ((poO D cT a b T n (fun P1 => P1 0 = P 0 ∧ GH T n day P1)) (va_A (offW cT a b T P n) sz)) (va_A (offW cT a b T P n) sz)) 0 0 (va_A (offW cT a b T P n) sz) := by
  refine RW_of (Bp := (poO D cT a b T n (fun P1 => P1 0 = P 0 ∧ GH T n day P1))) (by decide) rfl (Nat.le_of_ble_eq_true rfl) ?_
  intro p e s m below meth c A hx hb hr hts hown hlocks hin hml hE hD hA H locs hP hS ls hl
  have hiX2 : ∀ w ∈ wsX20, w ∈ wsX2_gatherHoards := by decide +kernel
  have hl : lv_has ls 4 [(0, .ref (a 7)), (1, .int day)] := hl
  obtain ⟨hn0, hn1, hn2, hn3, hn4⟩ := id hn
  refine lv_aload_n hx hb dX2_gatherHoards_0 rfl (lv_at hl 0 rfl) ?_
  refine va_get (D := D) (ci := 2) (v := .ref (a 10)) (C := RX2) (T := TX2) (N := 7) hx hb hts hiX2 hown hE.1 hP 7 ofl_7 rfl 4 (by decide) (hts (.fieldLink RX2 28 "FindsOffice$FindBook" "hoardOf" "[I") (by decide +kernel)) (fun _ h9 => h9) rfl dX2_gatherHoards_1 ?_
  refine lv_iconst (v := (-1)) hx hb dX2_gatherHoards_4 (by decide) ?_
  have hPc := hP.at1 (ofl_10 (cT := cT) (a := a) (b := b) (T := T) (P := P) (n := n))
  have hDc := hD.at1 (ofl_10 (cT := cT) (a := a) (b := b) (T := T) (P := P) (n := n))
  refine rw_S0 (As := [.ref (a 10), .int (-1)]) (rest := []) ⟨hx, hb, hml, hown, hts⟩ (c_J7_fill_53178 l D cT H.size (a 10) 50 (P 1) (-1) (by decide)) (va_cwS 2 hts gX2_gatherHoards_J7_fill_53178 rfl rfl rfl (by decide +kernel) ⟨Nat.le_of_ble_eq_true rfl, Nat.le_of_ble_eq_true rfl⟩) hE hPc hDc hS hA rfl hl.1 rfl (Nat.le_of_ble_eq_true rfl) dX2_gatherHoards_5 ⟨Nat.le_of_ble_eq_true rfl, Nat.le_of_ble_eq_true rfl⟩ (fun H locs hB hz1 hk1 hS => ?_)
  obtain ⟨gf, hgf, hP1, hD1⟩ := hB
  obtain ⟨hP, hD⟩ := join_set hP hD ofl_10 hk1 hP1
  rw [ofs_10] at hP hD
  refine lv_aload_n hx hb dX2_gatherHoards_8 rfl (lv_at hl 0 rfl) ?_
  refine lv_iload_n hx hb dX2_gatherHoards_9 rfl (lv_at hl 1 rfl) ?_
  refine ro_V (As := [.int day]) (rest := []) ⟨hx, hb, hml, hown, hts⟩ (c_X2_knownBy l D cT a b T (va_up P 1 gf) n day hn) (cwV 1 hts gX2_gatherHoards_X2_knownBy rfl rfl rfl (by decide +kernel) ⟨Nat.le_of_ble_eq_true rfl, Nat.le_of_ble_eq_true rfl⟩) hE hP 7 2 ofl_7 rfl rfl rfl hl.1 rfl (Nat.le_of_ble_eq_true rfl) dX2_gatherHoards_10 ⟨Nat.zero_le _, Nat.zero_le _⟩ ?_
  refine lv_istore_n (lv' := [(2, .int (nI (kbN T day (n 1)))), (0, .ref (a 7)), (1, .int day)]) hx hb dX2_gatherHoards_13 rfl hl (by decide) rfl (fun ls hl => ?_)
  have hKv := kb_vx (T := T) (n := n) (day := day) hI
  have hKl := kb_le (T := T) (day := day) (m := n 1)
  refine lv_iconst (v := 0) hx hb dX2_gatherHoards_14 (by decide) ?_
  refine lv_istore_n (lv' := [(3, .int 0), (2, .int (nI (kbN T day (n 1)))), (0, .ref (a 7)), (1, .int day)]) hx hb dX2_gatherHoards_15 rfl hl (by decide) rfl (fun ls hl => ?_)
  have loop_16 : ∀ (fuel_16 : Nat) (j : Nat) (Q : Nat → Nat → Int32), j ≤ kbN T day (n 1) → Q 0 = P 0 → HH T n day (kbN T day (n 1)) j (Q 1) → (∀ x, x < kbN T day (n 1) → hdN T n day x < j → Q 2 (hdN T n day x) = nI (hsN T n day x)) → kbN T day (n 1) - j < fuel_16 → ∀ (H : Heap) (locs : List Loc), va_P D vwCl (offW cT a b T Q n) H → va_D A (offW cT a b T Q n) → va_S A s.heap H locs → ∀ (ls : Array Slot), lv_has ls 4 [(0, .ref (a 7)), (1, .int day), (2, .int (nI (kbN T day (n 1)))), (3, .int (nI j))] → W p l e ({ frames := 4, cells := 0, slots := 0, locals := 99 }) s m (List.toArray [.ref (a 7), .int day]) below meth c H locs 0 0 (MQ below (QW none ((poO D cT a b T n (fun P1 => P1 0 = P 0 ∧ GH T n day P1)) A) A) (List.toArray [.ref (a 7), .int day]) s 0 0 A) (F0 m 16 ls []) := by
    intro fuel_16
    induction fuel_16 with
    | zero => intro j Q hj hQ0 hhh hsz hfuel_16; exact absurd hfuel_16 (Nat.not_lt_zero _)
    | succ fuel_16 ih_16 =>
      intro j Q hj hQ0 hhh hsz hfuel_16 H locs hP hD hS ls hl
      refine lv_iload_n hx hb dX2_gatherHoards_16 rfl (lv_at hl 3 rfl) ?_
      refine lv_iload_n hx hb dX2_gatherHoards_17 rfl (lv_at hl 2 rfl) ?_
      refine lv_icmp_ge (tgt := 56) hx hb dX2_gatherHoards_18 (by decide) (fun c_1 => ?_) (fun c_1 => ?_)
      · have k_1 := nat_le (a := (kbN T day (n 1))) (b := j) c_1 (by omega) (by omega)
        exact rw_vret hx hb hr hlocks ⟨_, ⟨hQ0, gh_of hKv hn1 (by omega) hhh hsz⟩, hP, hD⟩ hS (Nat.le_of_ble_eq_true rfl) (Nat.le_of_ble_eq_true rfl) dX2_gatherHoards_56
      · have k_1 := nat_nle (a := (kbN T day (n 1))) (b := j) c_1 (by omega) (by omega)
        refine lv_iload_n hx hb dX2_gatherHoards_21 rfl (lv_at hl 3 rfl) ?_
        refine lv_bipush (v := 50) hx hb dX2_gatherHoards_22 (by decide) ?_
        refine lv_icmp_ge (tgt := 56) hx hb dX2_gatherHoards_24 (by decide) (fun c_2 => ?_) (fun c_2 => ?_)
        · have k_2 := nat_le (a := 50) (b := j) c_2 (by omega) (by omega)
          exfalso; omega
        · have k_2 := nat_nle (a := 50) (b := j) c_2 (by omega) (by omega)
          refine lv_aload_n hx hb dX2_gatherHoards_27 rfl (lv_at hl 0 rfl) ?_
          refine va_get (D := D) (ci := 2) (v := .ref (a 10)) (C := RX2) (T := TX2) (N := 7) hx hb hts hiX2 hown hE.1 hP 7 ofl_7 rfl 4 (by decide) (hts (.fieldLink RX2 28 "FindsOffice$FindBook" "hoardOf" "[I") (by decide +kernel)) (fun _ h9 => h9) rfl dX2_gatherHoards_28 ?_
          refine lv_iload_n hx hb dX2_gatherHoards_31 rfl (lv_at hl 3 rfl) ?_
          refine my_iald (k := j) hx hb hE.1 hP 10 0 ofl_10 rfl rfl (by omega) (by decide) dX2_gatherHoards_32 ?_
          refine lv_iconst (v := (-1)) hx hb dX2_gatherHoards_33 (by decide) ?_
          refine lv_icmp_ne (tgt := 50) hx hb dX2_gatherHoards_34 (by decide) (fun c_3 => ?_) (fun c_3 => ?_)
          · refine lv_iinc (v := nI (j + 1)) (lv' := [(3, .int (nI (j + 1))), (0, .ref (a 7)), (1, .int day), (2, .int (nI (kbN T day (n 1))))]) hx hb dX2_gatherHoards_50 hl (k := 3) rfl (nI_1 _) (by decide) rfl (fun ls hl => ?_)
            refine lv_goto (tgt := 16) hx hb dX2_gatherHoards_53 (by decide) ?_
            exact ih_16 (j + 1) Q (by omega) hQ0 (HH_skip hn1 hKv hhh (by omega) c_3 hI) (sz_skip hn1 hI hKv hhh (by omega) c_3 hsz) (by omega) H locs hP hD hS ls (lv_sub hl [1, 2, 3, 0] rfl)
          · refine lv_aload_n hx hb dX2_gatherHoards_37 rfl (lv_at hl 0 rfl) ?_
            refine va_get (D := D) (ci := 2) (v := .ref (a 11)) (C := RX2) (T := TX2) (N := 7) hx hb hts hiX2 hown hE.1 hP 7 ofl_7 rfl 5 (by decide) (hts (.fieldLink RX2 31 "FindsOffice$FindBook" "sizeOf" "[I") (by decide +kernel)) (fun _ h9 => h9) rfl dX2_gatherHoards_38 ?_
            refine lv_iload_n hx hb dX2_gatherHoards_41 rfl (lv_at hl 3 rfl) ?_
            refine lv_aload_n hx hb dX2_gatherHoards_42 rfl (lv_at hl 0 rfl) ?_
            refine lv_iload_n hx hb dX2_gatherHoards_43 rfl (lv_at hl 3 rfl) ?_
            refine lv_iload_n hx hb dX2_gatherHoards_44 rfl (lv_at hl 2 rfl) ?_
            refine lv_iload_n hx hb dX2_gatherHoards_45 rfl (lv_at hl 1 rfl) ?_
            have hF := va_allA hD hS hA
            refine rw_V1 (As := [.int (nI j), .int (nI (kbN T day (n 1))), .int day]) (rest := [.int (nI j), .ref (a 11)]) ⟨hx, hb, hml, hown, hts⟩ (c_X2_gatherFrom l D cT H.size a b T Q n day j (kbN T day (n 1)) hn hI (by rw [hQ0]; exact hpr) hdy hKv hKl hhh (by omega) (HH_eq hKv hn1 hhh (by omega) c_3)) (cwV 3 hts gX2_gatherHoards_X2_gatherFrom rfl rfl rfl (by decide +kernel) ⟨Nat.le_of_ble_eq_true rfl, Nat.le_of_ble_eq_true rfl⟩) hE hP hD hS hA 7 2 ofl_7 rfl rfl rfl hl.1 rfl (Nat.le_of_ble_eq_true rfl) dX2_gatherHoards_46 ⟨Nat.le_of_ble_eq_true rfl, Nat.le_of_ble_eq_true rfl⟩ (fun H locs hB hz1 hk1 hS => ?_)
            obtain ⟨PG, hpG, hP, hD1⟩ := hB
            have hD := hD1.weaken (fun _ q _ h => hF q.1 h)
            refine my_iast (k := j) hx hb hE.1 hP hD hS 11 0 ofl_11 rfl rfl (by omega) (by decide) dX2_gatherHoards_49 (fun H locs hP hD hS => ?_)
            rw [ofs_11] at hP hD
            refine lv_iinc (v := nI (j + 1)) (lv' := [(3, .int (nI (j + 1))), (0, .ref (a 7)), (1, .int day), (2, .int (nI (kbN T day (n 1))))]) hx hb dX2_gatherHoards_50 hl (k := 3) rfl (nI_1 _) (by decide) rfl (fun ls hl => ?_)
            refine lv_goto (tgt := 16) hx hb dX2_gatherHoards_53 (by decide) ?_
            exact ih_16 (j + 1) (va_up PG 2 (upd (PG 2) j (nI (hsN T n day j)))) (by omega) (hpG.1.1.trans hQ0) hpG.2 (sz_add hn1 hI hKv (by omega) (HH_eq hKv hn1 hhh (by omega) c_3) hpG.1.2 hsz) (by omega) H locs hP hD hS ls (lv_sub hl [1, 2, 3, 0] rfl)
  exact loop_16 _ 0 (va_up P 1 gf) (by omega) rfl (fun x hx => ⟨fun _ h => absurd h (by omega), fun _ => hgf x hx⟩) (fun x _ h => absurd h (by omega)) (Nat.lt_succ_self _) H locs hP hD hS ls (lv_sub hl [2, 3, 1, 0] rfl)
