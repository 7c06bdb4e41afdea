/-! the reference's reading methods -/
theorem btw_isT {m : Nat} {i : Int32} (hm : m < 2 ^ 31) : btw i 0 (nI m - 1) = isT m i := by
  have e : (nI m - 1 < i) ↔ (nI m ≤ i) := by
    have h1 : (nI m - 1).toInt = (m : Int) - 1 := by
      rcases Nat.eq_zero_or_pos m with h | h
      · subst h; rfl
      · have e : nI m - 1 = nI (m - 1) := pk_sub (a := m) (b := 1) h
        rw [e, nI_toInt (by omega)]; omega
    rw [Int32.lt_iff_toInt_lt, Int32.le_iff_toInt_le, h1, nI_toInt hm]
    omega
  simp [btw, isT, e]
def oI (o : Option Nat) : Int32 := match o with
  | none => -1
  | some q => nI q
theorem oI_no {o : Option Nat} {v : Int32} (hv : v = oI o) (hb : ∀ q, o = some q → q < 2 ^ 31) (h : v = -1) : o = none := by
  cases o with
  | none => rfl
  | some q => exact absurd (hv.symm.trans h) (nI_ne_m1 (hb q rfl))
theorem oI_some {o : Option Nat} {v : Int32} (hv : v = oI o) (h : ¬ v = -1) : ∃ q, o = some q ∧ v = nI q := by
  cases o with
  | none => exact absurd hv h
  | some q => exact ⟨q, rfl, hv⟩
def jnM (T : Nat → Nat → Int32) (pa qa : Nat) (day : Int32) : Bool := btw (T 2 pa - T 2 qa) (-10) 10 && (btw (T 3 pa - T 3 qa) (-10) 10 && (!decide (T 8 qa < T 7 pa) && (!decide (T 8 pa < T 7 qa) && !decide (T 13 (50 * pa + qa) ≤ day))))
def knB (T : Nat → Nat → Int32) (n : Nat → Nat) (i day : Int32) : Bool := isT (n 1) i && (btw day 0 (T 0 0) && !decide (day < T 11 i.toNatClampNeg))
/-- a day's place in the index -/
theorem yr_ix {d : Int32} (h0 : ¬ d < 0) (h1 : ¬ 20000 < d) : ∃ k, k < 55 ∧ 1950 + d / 365 - 1950 = nI k ∧ ∀ f : Nat → Int32, lvV f (1950 + d / 365) = f k := by
  obtain ⟨j, hj, rfl⟩ := nI_of h0
  have hj2 : j ≤ 20000 := by
    have := nat_nlt (a := 20000) (b := j) h1 (by decide) hj
    exact this
  have e1 : nI j / 365 = nI (j / 365) := pk_div (a := j) (d := 365) hj (by decide) (by decide)
  have e2 : (1950 : Int32) + nI (j / 365) = nI (1950 + j / 365) := nI_add 1950 (j / 365)
  have e3 : nI (1950 + j / 365) - 1950 = nI (j / 365) := by
    have := pk_sub (a := 1950 + j / 365) (b := 1950) (by omega)
    rw [show (1950 : Int32) = nI 1950 from rfl, this, show 1950 + j / 365 - 1950 = j / 365 by omega]
  refine ⟨j / 365, by omega, by rw [e1, e2, e3], fun f => ?_⟩
  have hp : ¬ nI (j / 365) < 0 := nI_pos (by omega)
  have hq : ¬ (55 : Int32) ≤ nI (j / 365) := fun q => by
    have := nat_le (a := 55) (b := j / 365) q (by decide) (by omega)
    omega
  rw [lvV, e1, e2, e3]
  simp only [hp, hq, decide_false, Bool.not_false, Bool.and_self, if_true]
  rw [nI_clamp (by omega)]
/-- what holds of every state -/
def InvT (T : Nat → Nat → Int32) (n : Nat → Nat) : Prop :=
  (¬ T 0 0 < 0 ∧ ¬ 20000 < T 0 0) ∧
  (∀ k, k < n 1 → (btw (T 2 k) 0 999 = true ∧ btw (T 3 k) 0 999 = true) ∧ (btw (T 4 k) 0 2 = true ∧ btw (T 6 k) 1 10000 = true) ∧ (btw (T 10 k) 0 20000 = true ∧ btw (T 11 k) 0 (T 0 0) = true)) ∧
  (∀ i j, i ≤ j → j < n 1 → ¬ T 11 j < T 11 i) ∧
  (∀ x y, x < 50 → y < 50 → x ≠ y → T 13 (50 * x + y) = T 13 (50 * y + x) ∧ (T 13 (50 * x + y) = 1000000 ∨ btw (T 13 (50 * x + y)) 0 20000 = true)) ∧
  (∀ k, k < n 0 → btw (T 19 k) 0 100 = true) ∧
  (∀ k, k < n 4 → ¬ T 23 k < 0) ∧
  (∀ k, k < 55 → btw (T 25 k) 1 10000 = true) ∧
  (∀ k, k < n 2 → btw (T 28 k) 0 20000 = true ∧ btw (T 29 k) 1 10000 = true ∧ btw (T 30 k) 0 1000000 = true) ∧
  (¬ T 36 0 < -1 ∧ T 36 0 < nI (n 3))
theorem lng_pos {T : Nat → Nat → Int32} {me : Int32} {m : Nat} (hw : ∀ k, k < m → btw (T 29 k) 1 10000 = true) : ∀ j, j ≤ m → j ≤ 60 → 0 ≤ (apW T me j).toInt ∧ (apW T me j).toInt ≤ 10000 * j
  | 0, _, _ => by simp [apW]
  | j + 1, h1, h2 => by
    have ih := lng_pos (me := me) hw j (by omega) (by omega)
    rw [apW]
    split
    · have hb := btw_t (hw j (by omega))
      have b1 : 1 ≤ (T 29 j).toInt := by have := Int32.not_lt.mp hb.1; exact Int32.le_iff_toInt_le.mp this
      have b2 : (T 29 j).toInt ≤ 10000 := by have := Int32.not_lt.mp hb.2; exact Int32.le_iff_toInt_le.mp this
      have e : (T 29 j).toInt64.toInt = (T 29 j).toInt := Int32.toInt_toInt64 _
      rw [Int64.toInt_add, e, Int.bmod_eq_of_le (by omega) (by omega)]
      omega
    · omega
theorem apW_nz {T : Nat → Nat → Int32} {me : Int32} {m : Nat} (hw : ∀ k, k < m → btw (T 29 k) 1 10000 = true) (hm : m ≤ 60) (h : ¬ apW T me m = 0) : 0 < apW T me m := by
  have h1 := lng_pos (me := me) hw m (Nat.le_refl _) hm
  rw [Int64.lt_iff_toInt_lt]
  have e0 : (0 : Int64).toInt = 0 := rfl
  have : (apW T me m).toInt ≠ 0 := fun q => h (Int64.toInt_inj.mp (by rw [q, e0]))
  omega
theorem lv_le0 {x : Int32} (h : btw x 1 10000 = true) : ¬ x ≤ 0 := fun q => by
  have h1 := (btw_t h).1
  rw [Int32.lt_iff_toInt_lt] at h1
  rw [Int32.le_iff_toInt_le] at q
  have e0 : (0 : Int32).toInt = 0 := rfl
  have e1 : (1 : Int32).toInt = 1 := rfl
  omega
/-- whose turn it is, by a remainder -/
theorem turn_eq {m : Nat} {la : Int32} (hm : m ≤ 10) (h0 : ¬ la < -1) (h1 : la < nI m) (hz : ¬ nI m = 0) : (la + 1) - (la + 1) / nI m * nI m = nxV m la := by
  have hmp : 0 < m := Nat.pos_of_ne_zero (fun q => hz (by rw [q]; rfl))
  have a0 : -1 ≤ la.toInt := by have := Int32.not_lt.mp h0; exact Int32.le_iff_toInt_le.mp this
  have a1 : la.toInt < m := by have := Int32.lt_iff_toInt_lt.mp h1; rwa [nI_toInt (by omega)] at this
  have e1 : (la + 1).toInt = la.toInt + 1 := by
    rw [Int32.toInt_add]
    have : (1 : Int32).toInt = 1 := rfl
    rw [this, Int.bmod_eq_of_le (by omega) (by omega)]
  have hp : ¬ la + 1 < 0 := fun q => by
    have := Int32.lt_iff_toInt_lt.mp q
    rw [e1] at this
    have e0 : (0 : Int32).toInt = 0 := rfl
    omega
  obtain ⟨j, hj, ej⟩ := nI_of hp
  have hj2 : j ≤ m := by
    have := nI_toInt hj
    rw [← ej, e1] at this
    omega
  rw [nxV, if_neg hz, ej, pk_rem hj hmp (by omega)]
  by_cases h : j = m
  · subst h
    rw [if_pos (nI_le (Nat.le_refl _) (by omega)), Nat.mod_self]; rfl
  · rw [if_neg (nI_ge (by omega) (by omega)), Nat.mod_eq_of_lt (by omega)]
theorem wr_hi {T : Nat → Nat → Int32} {n : Nat → Nat} {k j : Nat} {v w : Int64} (hk : k < n 1) (hn1 : n 1 ≤ 50) (hn2 : n 2 ≤ 60) (hsa : ∀ q, q < n 2 → btw (T 29 q) 1 10000 = true) (hjn : j = n 2) (hv : v = apS T (T 4 k) (1950 + T 0 0 / 365) j) (hw : w = apW T (T 4 k) j) (hwz : ¬ w = 0) : wrV T n (nI k) = (if 1000000 < v * (T 6 k).toInt64 / w then (1000000 : Int64) else v * (T 6 k).toInt64 / w).toInt32 := by
  subst hjn
  have h0 : 0 < apW T (T 4 k) (n 2) := apW_nz hsa hn2 (by rw [← hw]; exact hwz)
  rw [wrV, if_pos (isT_nI hk (by omega)), nI_clamp (by omega), worV, apV, if_pos h0, ← hw, ← hv]
theorem lg_pos2 {w : Int64} (h : ¬ lg_cmp w 1000000 ≤ 0) : 1000000 < w := Int64.not_le.mp (fun q => h ((lg_cmp_le w 1000000).mpr q))
theorem lg_npos2 {w : Int64} (h : lg_cmp w 1000000 ≤ 0) : ¬ 1000000 < w := Int64.not_lt.mpr ((lg_cmp_le w 1000000).mp h)
