/-! quotients and rests of ints of either sign -/
theorem i32_rng (w : Int32) : -2147483648 ≤ w.toInt ∧ w.toInt ≤ 2147483647 := ⟨Int32.le_toInt w, Int32.toInt_le w⟩
theorem i32_div {w : Int32} (c : Nat) (h0 : 2 ≤ c) (h1 : c < 2 ^ 31) : (0 ≤ w.toInt → (w / nI c).toInt = w.toInt / c) ∧ (w.toInt < 0 → (w / nI c).toInt = -((-w.toInt) / c)) := by
  have r := i32_rng w
  have ec : (nI c).toInt = c := nI_toInt h1
  constructor
  · intro h
    have q0 : 0 ≤ w.toInt / c := Int.ediv_nonneg h (by omega)
    have q1 : w.toInt / c ≤ w.toInt := Int.ediv_le_self _ h
    rw [Int32.toInt_div, ec, Int.tdiv_eq_ediv_of_nonneg h, Int.bmod_eq_of_le (by omega) (by omega)]
  · intro h
    have h2 : 0 ≤ -w.toInt := by omega
    have q0 : 0 ≤ (-w.toInt) / c := Int.ediv_nonneg h2 (by omega)
    have q1 : (-w.toInt) / c * 2 ≤ -w.toInt := by
      have a := Int.ediv_mul_le (-w.toInt) (show (c : Int) ≠ 0 by omega)
      have b : (-w.toInt) / c * 2 ≤ (-w.toInt) / c * c := Int.mul_le_mul_of_nonneg_left (by omega) q0
      omega
    have e : w.toInt.tdiv c = -((-w.toInt) / c) := by
      have := Int.neg_tdiv (-w.toInt) c
      rw [Int.neg_neg] at this
      rw [this, Int.tdiv_eq_ediv_of_nonneg h2]
    rw [Int32.toInt_div, ec, e, Int.bmod_eq_of_le (by omega) (by omega)]
theorem i32_rem {w : Int32} (c : Nat) (h0 : 2 ≤ c) (h1 : c < 2 ^ 31) : (0 ≤ w.toInt → (w - w / nI c * nI c).toInt = w.toInt % c) ∧ (w.toInt < 0 → (w - w / nI c * nI c).toInt = -((-w.toInt) % c)) := by
  have r := i32_rng w
  have ec : (nI c).toInt = c := nI_toInt h1
  have d := i32_div (w := w) c h0 h1
  constructor
  · intro h
    have hd := d.1 h
    have m0 : 0 ≤ w.toInt % c := Int.emod_nonneg _ (by omega)
    have m1 : w.toInt % c < c := Int.emod_lt_of_pos _ (by omega)
    have q0 : 0 ≤ w.toInt / c := Int.ediv_nonneg h (by omega)
    have e := Int.mul_ediv_add_emod w.toInt c
    have p0 : 0 ≤ (c : Int) * (w.toInt / c) := Int.mul_nonneg (by omega) q0
    have em : (w / nI c * nI c).toInt = c * (w.toInt / c) := by
      rw [Int32.toInt_mul, hd, ec, Int.mul_comm, Int.bmod_eq_of_le (by omega) (by omega)]
    rw [Int32.toInt_sub, em, Int.bmod_eq_of_le (by omega) (by omega)]
    omega
  · intro h
    have hd := d.2 h
    have h2 : 0 ≤ -w.toInt := by omega
    have m0 : 0 ≤ (-w.toInt) % c := Int.emod_nonneg _ (by omega)
    have m1 : (-w.toInt) % c < c := Int.emod_lt_of_pos _ (by omega)
    have q0 : 0 ≤ (-w.toInt) / c := Int.ediv_nonneg h2 (by omega)
    have e := Int.mul_ediv_add_emod (-w.toInt) c
    have p0 : 0 ≤ (c : Int) * ((-w.toInt) / c) := Int.mul_nonneg (by omega) q0
    have em : (w / nI c * nI c).toInt = -(c * ((-w.toInt) / c)) := by
      rw [Int32.toInt_mul, hd, ec, Int.neg_mul, Int.mul_comm, Int.bmod_eq_of_le (by omega) (by omega)]
    rw [Int32.toInt_sub, em, Int.bmod_eq_of_le (by omega) (by omega)]
    omega
theorem btw_iff {v lo hi : Int32} : btw v lo hi = true ↔ lo.toInt ≤ v.toInt ∧ v.toInt ≤ hi.toInt := by
  constructor
  · intro h
    have := btw_t h
    exact ⟨Int32.le_iff_toInt_le.mp (Int32.not_lt.mp this.1), Int32.le_iff_toInt_le.mp (Int32.not_lt.mp this.2)⟩
  · intro h
    have a : ¬ v < lo := Int32.not_lt.mpr (Int32.le_iff_toInt_le.mpr h.1)
    have b : ¬ hi < v := Int32.not_lt.mpr (Int32.le_iff_toInt_le.mpr h.2)
    simp [btw, a, b]
theorem nd_iff {x y : Int32} : (!decide (x < y)) = true ↔ y.toInt ≤ x.toInt := by
  simp only [Bool.not_eq_true', decide_eq_false_iff_not, Int32.not_lt, Int32.le_iff_toInt_le]
theorem dl_iff {x y : Int32} : decide (x < y) = true ↔ x.toInt < y.toInt := by simp only [decide_eq_true_eq, Int32.lt_iff_toInt_lt]
theorem k0 : (0 : Int32).toInt = 0 := rfl
theorem k1 : (1 : Int32).toInt = 1 := rfl
theorem k2 : (2 : Int32).toInt = 2 := rfl
theorem k100 : (100 : Int32).toInt = 100 := rfl
theorem k999 : (999 : Int32).toInt = 999 := rfl
theorem k1000 : (1000 : Int32).toInt = 1000 := rfl
theorem k2000 : (2000 : Int32).toInt = 2000 := rfl
theorem k3000 : (3000 : Int32).toInt = 3000 := rfl
theorem km3000 : (-3000 : Int32).toInt = -3000 := rfl
theorem k5000 : (5000 : Int32).toInt = 5000 := rfl
theorem k10000 : (10000 : Int32).toInt = 10000 := rfl
theorem k1e6 : (1000000 : Int32).toInt = 1000000 := rfl
theorem k29 : (29 : Int32).toInt = 29 := rfl
theorem law_num {w : Int32} : (btw (w / 1000000) 0 2000 && (btw (w / 1000 - w / 1000 / 1000 * 1000) 0 999 && btw (w - w / 1000 * 1000) 0 100)) = (!decide (w < 0) && (!decide (2000 < w / 1000000) && !decide (100 < w - w / 1000 * 1000))) := by
  have r := i32_rng w
  have a := i32_div (w := w) 1000000 (by decide) (by decide)
  have b := i32_div (w := w) 1000 (by decide) (by decide)
  have c := i32_rem (w := w) 1000 (by decide) (by decide)
  have d := i32_rem (w := w / 1000) 1000 (by decide) (by decide)
  rw [Bool.eq_iff_iff]
  simp only [Bool.and_eq_true, btw_iff, nd_iff, k0, k2000, k999, k100]
  rw [show nI 1000000 = (1000000 : Int32) from rfl] at a
  rw [show nI 1000 = (1000 : Int32) from rfl] at b c d
  generalize (w / 1000000).toInt = A at *
  generalize (w - w / 1000 * 1000).toInt = C at *
  generalize (w / 1000 - w / 1000 / 1000 * 1000).toInt = E at *
  generalize (w / 1000).toInt = B at *
  generalize w.toInt = X at *
  omega
theorem law_ok {n : Nat → Nat} {d w t : Int32} : ((btw d 0 20000 && (btw (w / 1000000) 0 2000 && (btw (w / 1000 - w / 1000 / 1000 * 1000) 0 999 && (btw (w - w / 1000 * 1000) 0 100 && btw t 1 50)))) && !decide (nI (n 0) = 20)) = lwB n d w t := by
  have h := @law_num w
  rw [lwB]
  have e : (btw (w / 1000000) 0 2000 && (btw (w / 1000 - w / 1000 / 1000 * 1000) 0 999 && (btw (w - w / 1000 * 1000) 0 100 && btw t 1 50))) = ((btw (w / 1000000) 0 2000 && (btw (w / 1000 - w / 1000 / 1000 * 1000) 0 999 && btw (w - w / 1000 * 1000) 0 100)) && btw t 1 50) := by simp only [Bool.and_assoc]
  rw [e, h]
  simp only [Bool.and_assoc]
theorem find_a {w : Int32} : (btw (w / 1000) 0 999 && btw (w - w / 1000 * 1000) 0 999) = (!decide (w < 0) && decide (w < 1000000)) := by
  have r := i32_rng w
  have b := i32_div (w := w) 1000 (by decide) (by decide)
  have c := i32_rem (w := w) 1000 (by decide) (by decide)
  rw [Bool.eq_iff_iff]
  simp only [Bool.and_eq_true, btw_iff, nd_iff, dl_iff, k0, k999, k1e6]
  rw [show nI 1000 = (1000 : Int32) from rfl] at b c
  generalize (w - w / 1000 * 1000).toInt = C at *
  generalize (w / 1000).toInt = B at *
  generalize w.toInt = X at *
  omega
theorem find_b {w : Int32} : (btw (w / 100000000) 0 2 && (btw (w / 10000 - w / 10000 / 10000 * 10000) 0 1000 && btw (if w - w / 10000 * 10000 = 0 then 10000 else w - w / 10000 * 10000) 1 10000)) = (!decide (w < 0) && (!decide (2 < w / 100000000) && !decide (1000 < w / 10000 - w / 10000 / 10000 * 10000))) := by
  have r := i32_rng w
  have a := i32_div (w := w) 100000000 (by decide) (by decide)
  have b := i32_div (w := w) 10000 (by decide) (by decide)
  have c := i32_rem (w := w) 10000 (by decide) (by decide)
  have d := i32_rem (w := w / 10000) 10000 (by decide) (by decide)
  have hz : (w - w / 10000 * 10000 = 0) ↔ ((w - w / 10000 * 10000).toInt = 0) := ⟨fun q => by rw [q]; rfl, fun q => Int32.toInt_inj.mp (by rw [q]; rfl)⟩
  have hif : (if w - w / 10000 * 10000 = 0 then (10000 : Int32) else w - w / 10000 * 10000).toInt = if (w - w / 10000 * 10000).toInt = 0 then 10000 else (w - w / 10000 * 10000).toInt := by
    by_cases q : w - w / 10000 * 10000 = 0
    · rw [if_pos q, if_pos (hz.mp q)]; rfl
    · rw [if_neg q, if_neg (fun z => q (hz.mpr z))]
  rw [Bool.eq_iff_iff]
  simp only [Bool.and_eq_true, btw_iff, nd_iff, k0, k1, k2, k1000, k10000, hif]
  rw [show nI 100000000 = (100000000 : Int32) from rfl] at a
  rw [show nI 10000 = (10000 : Int32) from rfl] at b c d
  generalize (w / 100000000).toInt = A at *
  generalize (w - w / 10000 * 10000).toInt = C at *
  generalize (w / 10000 - w / 10000 / 10000 * 10000).toInt = E at *
  generalize (w / 10000).toInt = B at *
  generalize w.toInt = X at *
  split <;> omega
theorem find_c {w : Int32} : (!decide (w / 10000 - 3000 < -3000) && (!decide (w - w / 10000 * 10000 - 3000 < w / 10000 - 3000) && !decide (2000 < w - w / 10000 * 10000 - 3000))) = (!decide (w < 0) && (!decide (5000 < w / 10000) && btw (w - w / 10000 * 10000) (w / 10000) 5000)) := by
  have r := i32_rng w
  have b := i32_div (w := w) 10000 (by decide) (by decide)
  have c := i32_rem (w := w) 10000 (by decide) (by decide)
  rw [show nI 10000 = (10000 : Int32) from rfl] at b c
  have hb : -214748 ≤ (w / 10000).toInt ∧ (w / 10000).toInt ≤ 214748 := by
    generalize (w / 10000).toInt = B at *
    generalize w.toInt = X at *
    omega
  have hc : -10000 ≤ (w - w / 10000 * 10000).toInt ∧ (w - w / 10000 * 10000).toInt ≤ 10000 := by
    generalize (w - w / 10000 * 10000).toInt = B at *
    generalize w.toInt = X at *
    omega
  have e1 : (w / 10000 - 3000).toInt = (w / 10000).toInt - 3000 := by rw [Int32.toInt_sub, k3000, Int.bmod_eq_of_le (by omega) (by omega)]
  have e2 : (w - w / 10000 * 10000 - 3000).toInt = (w - w / 10000 * 10000).toInt - 3000 := by rw [Int32.toInt_sub, k3000, Int.bmod_eq_of_le (by omega) (by omega)]
  rw [Bool.eq_iff_iff]
  simp only [Bool.and_eq_true, btw_iff, nd_iff, k0, km3000, k2000, k5000, e1, e2]
  generalize (w - w / 10000 * 10000).toInt = C at *
  generalize (w / 10000).toInt = B at *
  generalize w.toInt = X at *
  omega
theorem find_d {w t : Int32} (ht : 0 ≤ t.toInt) : (btw (w / 100) 0 t && btw (w - w / 100 * 100) 0 29) = (!decide (w < 0) && (btw (w - w / 100 * 100) 0 29 && !decide (t < w / 100))) := by
  have r := i32_rng w
  have b := i32_div (w := w) 100 (by decide) (by decide)
  have c := i32_rem (w := w) 100 (by decide) (by decide)
  rw [Bool.eq_iff_iff]
  simp only [Bool.and_eq_true, btw_iff, nd_iff, k0, k29]
  rw [show nI 100 = (100 : Int32) from rfl] at b c
  generalize (w - w / 100 * 100).toInt = C at *
  generalize (w / 100).toInt = B at *
  generalize w.toInt = X at *
  omega
theorem find_ok {T : Nat → Nat → Int32} {n : Nat → Nat} (hI : InvT T n) {wh wt we wo : Int32} : (((btw (wh / 1000) 0 999 && btw (wh - wh / 1000 * 1000) 0 999) && ((btw (wt / 100000000) 0 2 && (btw (wt / 10000 - wt / 10000 / 10000 * 10000) 0 1000 && btw (if wt - wt / 10000 * 10000 = 0 then 10000 else wt - wt / 10000 * 10000) 1 10000)) && ((!decide (we / 10000 - 3000 < -3000) && (!decide (we - we / 10000 * 10000 - 3000 < we / 10000 - 3000) && !decide (2000 < we - we / 10000 * 10000 - 3000))) && (btw (wo / 100) 0 (T 0 0) && btw (wo - wo / 100 * 100) 0 29)))) && !decide (nI (n 1) = 50)) = fiB T n wh wt we wo := by
  have ht : 0 ≤ (T 0 0).toInt := Int32.le_iff_toInt_le.mp (Int32.not_lt.mp hI.1.1)
  rw [find_a, find_b, find_c, find_d ht, fiB]
  cases decide (wh < 0) <;> cases decide (wh < 1000000) <;> cases decide (wt < 0) <;> cases decide (we < 0) <;> cases decide (wo < 0) <;> simp [Bool.and_assoc]
theorem sale_ok {T : Nat → Nat → Int32} {n : Nat → Nat} (hI : InvT T n) {me d we pr : Int32} (hd : btw d 0 (T 0 0) = true) : ((btw me 0 2 && (btw d 0 20000 && (btw we 1 10000 && btw pr 0 1000000))) && !decide (nI (n 2) = 60)) = saB T n me d we pr := by
  have h2 : btw d 0 20000 = true := by
    have := btw_t hd
    have h3 := day_le hI hd
    simp [btw, this.1, h3]
  rw [saB, hd, h2]
  simp only [Bool.and_assoc]
theorem mus_ok {n : Nat → Nat} {me wo : Int32} : ((btw me 0 7 && btw wo 0 1000000) && !decide (nI (n 3) = 10)) = muB n me wo := by rw [muB]; simp only [Bool.and_assoc]
theorem upd_same {f : Nat → Int32} {k : Nat} {v : Int32} (h : f k = v) : upd f k v = f := by
  funext j
  by_cases e : j = k
  · subst e; rw [pk_us, h]
  · rw [pk_un e]
theorem up_same {T : Nat → Nat → Int32} {i : Nat} {f : Nat → Int32} (h : T i = f) : va_up T i f = T := by
  funext j
  by_cases e : j = i
  · subst e; rw [va_up_self, h]
  · rw [va_up_ne _ _ e]
