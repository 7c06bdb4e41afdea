/-! the reference: hoards, what counts, shares, offers -/
theorem hoV_at {T : Nat → Nat → Int32} {n : Nat → Nat} {k : Nat} (hk : k < n 1) (hn : n 1 ≤ 50) : hoV T n (nI k) = nI (hdN T n (T 0 0) k) := by rw [hoV, if_pos (isT_nI hk (by omega)), nI_clamp (by omega)]
theorem knB_at {T : Nat → Nat → Int32} {n : Nat → Nat} {k : Nat} {day : Int32} (hk : k < n 1) (hn : n 1 ≤ 50) (h1 : btw day 0 (T 0 0) = true) (h2 : ¬ day < T 11 k) : knB T n (nI k) day = true := by
  simp [knB, isT_nI hk (show n 1 < 2 ^ 31 by omega), nI_clamp (show k < 2 ^ 31 by omega), h1, h2]
theorem szV_at {T : Nat → Nat → Int32} {n : Nat → Nat} {k : Nat} {day : Int32} (hk : k < n 1) (hn : n 1 ≤ 50) (h : knB T n (nI k) day = true) : szV T n (nI k) day = nI (hsN T n day k) := by rw [szV, if_pos h, nI_clamp (by omega)]
theorem szV_no {T : Nat → Nat → Int32} {n : Nat → Nat} {i day : Int32} (h : knB T n i day = false) : szV T n i day = -1 := by rw [szV, if_neg (by rw [h]; decide)]
theorem cdB_at {T : Nat → Nat → Int32} {n : Nat → Nat} {k : Nat} {day : Int32} (hk : k < n 1) (hn : n 1 ≤ 50) (h : knB T n (nI k) day = true) : cdB T n (nI k) day = (lcO T n k (nI (hsN T n day k))).isSome := by rw [cdB, h, nI_clamp (by omega)]; rfl
theorem cdB_no {T : Nat → Nat → Int32} {n : Nat → Nat} {i day : Int32} (h : knB T n i day = false) : cdB T n i day = false := by rw [cdB, h]; rfl
theorem cdB_q {T : Nat → Nat → Int32} {n : Nat → Nat} {k : Nat} {day : Int32} (h : cdB T n (nI k) day = true) (hk : k < n 1) (hn : n 1 ≤ 50) : ∃ q, q < n 0 ∧ ifN T (T 10 k) (n 0) = some q ∧ lcO T n k (nI (hsN T n day k)) = some q := by
  simp only [cdB, Bool.and_eq_true] at h
  rw [nI_clamp (by omega)] at h
  obtain ⟨q, hq⟩ := Option.isSome_iff_exists.mp h.2
  have hq2 := hq
  unfold lcO at hq
  split at hq
  · cases hq
  · next q' h' =>
    split at hq
    · cases hq; exact ⟨q, ifN_lt h', h', hq2⟩
    · cases hq
theorem cdB_f {T : Nat → Nat → Int32} {n : Nat → Nat} {k : Nat} (hI : InvT T n) (h : cdB T n (nI k) (T 0 0) = false) (hk : k < n 1) (hn : n 1 ≤ 50) : lcO T n k (nI (hsN T n (T 0 0) k)) = none := by
  have h1 := knB_now hI (nI k) hn
  rw [isT_nI hk (by omega)] at h1
  rw [cdB_at hk hn h1] at h
  simpa using h
theorem dsV_at {T : Nat → Nat → Int32} {n : Nat → Nat} {k q : Nat} {pe : Int32} (hk : k < n 1) (hn : n 1 ≤ 50) (hp : isT 30 pe = true) (h : lcO T n k (nI (hsN T n (T 0 0) k)) = some q) : dsV T n (nI k) pe = shV T n k q pe := by
  rw [dsV, if_pos (by simp [isT_nI hk (show n 1 < 2 ^ 31 by omega), hp]), nI_clamp (by omega), h]
theorem dsV_none {T : Nat → Nat → Int32} {n : Nat → Nat} {k : Nat} {pe : Int32} (hk : k < n 1) (hn : n 1 ≤ 50) (h : lcO T n k (nI (hsN T n (T 0 0) k)) = none) : dsV T n (nI k) pe = 0 := by
  rw [dsV]
  split
  · rw [nI_clamp (by omega), h]
  · rfl
theorem dsV_no {T : Nat → Nat → Int32} {n : Nat → Nat} {i pe : Int32} (h : (isT (n 1) i && isT 30 pe) = false) : dsV T n i pe = 0 := by rw [dsV, if_neg (by rw [h]; decide)]
theorem wor_in {T : Nat → Nat → Int32} {n : Nat → Nat} (hn : Cnt n) (hI : InvT T n) {k : Nat} (hk : k < n 1) : ¬ worV T n k < 0 ∧ ¬ 1000000 < worV T n k := by
  have hw : 1 ≤ (T 6 k).toInt ∧ (T 6 k).toInt ≤ 10000 := by
    have := btw_t (hI.2.1 k hk).2.1.2
    exact ⟨Int32.le_iff_toInt_le.mp (Int32.not_lt.mp this.1), Int32.le_iff_toInt_le.mp (Int32.not_lt.mp this.2)⟩
  have hlv : ∀ d : Int32, btw d 0 20000 = true → 1 ≤ (lvV (T 25) (1950 + d / 365)).toInt ∧ (lvV (T 25) (1950 + d / 365)).toInt ≤ 10000 := fun d hd => by
    obtain ⟨kb, hkb, -, e⟩ := yr_ix (btw_t hd).1 (btw_t hd).2
    rw [e]
    have := btw_t (hI.2.2.2.2.2.2.1 kb hkb)
    exact ⟨Int32.le_iff_toInt_le.mp (Int32.not_lt.mp this.1), Int32.le_iff_toInt_le.mp (Int32.not_lt.mp this.2)⟩
  have hnow : btw (T 0 0) 0 20000 = true := by simp [btw, hI.1.1, hI.1.2]
  have hpr : ∀ j, j < n 2 → 0 ≤ (prL T (1950 + T 0 0 / 365) j).toInt ∧ (prL T (1950 + T 0 0 / 365) j).toInt ≤ 10000000000 := fun j hj => by
    have hs := hI.2.2.2.2.2.2.2.1 j hj
    have p := btw_t hs.2.2
    have p0 : 0 ≤ (T 30 j).toInt := Int32.le_iff_toInt_le.mp (Int32.not_lt.mp p.1)
    have p1 : (T 30 j).toInt ≤ 1000000 := Int32.le_iff_toInt_le.mp (Int32.not_lt.mp p.2)
    have a := hlv _ hnow
    have b := hlv _ hs.1
    unfold prL
    split
    · exact ⟨by decide, by decide⟩
    · have e1 : ((T 30 j).toInt64 * (lvV (T 25) (1950 + T 0 0 / 365)).toInt64).toInt = (T 30 j).toInt * (lvV (T 25) (1950 + T 0 0 / 365)).toInt := by
        have m0 : 0 ≤ (T 30 j).toInt * (lvV (T 25) (1950 + T 0 0 / 365)).toInt := Int.mul_nonneg p0 (by omega)
        have m1 : (T 30 j).toInt * (lvV (T 25) (1950 + T 0 0 / 365)).toInt ≤ 1000000 * 10000 := Int.mul_le_mul p1 a.2 (by omega) (by decide)
        rw [Int64.toInt_mul, Int32.toInt_toInt64, Int32.toInt_toInt64, Int.bmod_eq_of_le (by omega) (by omega)]
      have m0 : 0 ≤ (T 30 j).toInt * (lvV (T 25) (1950 + T 0 0 / 365)).toInt := Int.mul_nonneg p0 (by omega)
      have m1 : (T 30 j).toInt * (lvV (T 25) (1950 + T 0 0 / 365)).toInt ≤ 1000000 * 10000 := Int.mul_le_mul p1 a.2 (by omega) (by decide)
      generalize (T 30 j).toInt * (lvV (T 25) (1950 + T 0 0 / 365)).toInt = X at *
      generalize hB : (lvV (T 25) (1950 + T 28 j / 365)).toInt = B at *
      have e2 : ((T 30 j).toInt64 * (lvV (T 25) (1950 + T 0 0 / 365)).toInt64 / (lvV (T 25) (1950 + T 28 j / 365)).toInt64).toInt = X.tdiv B := by
        rw [Int64.toInt_div, e1, Int32.toInt_toInt64, hB]
        have t0 : 0 ≤ X.tdiv B := Int.tdiv_nonneg m0 (by omega)
        have t1 : X.tdiv B ≤ X := by
          rw [Int.tdiv_eq_ediv_of_nonneg m0]; exact Int.ediv_le_self _ m0
        rw [Int.bmod_eq_of_le (by omega) (by omega)]
      rw [e2]
      have t0 : 0 ≤ X.tdiv B := Int.tdiv_nonneg m0 (by omega)
      have t1 : X.tdiv B ≤ X := by
        rw [Int.tdiv_eq_ediv_of_nonneg m0]; exact Int.ediv_le_self _ m0
      omega
  have hS : ∀ me j, j ≤ n 2 → 0 ≤ (apS T me (1950 + T 0 0 / 365) j).toInt ∧ (apS T me (1950 + T 0 0 / 365) j).toInt ≤ 10000000000 * j := fun me j => by
    induction j with
    | zero => intro _; simp [apS]
    | succ j ih =>
      intro hj
      have ih := ih (by omega)
      have h60 := hn.2.2.1
      rw [apS]
      split
      · have q := hpr j (by omega)
        rw [Int64.toInt_add, Int.bmod_eq_of_le (by omega) (by omega)]
        omega
      · omega
  have h60 := hn.2.2.1
  have hs := hS (T 4 k) (n 2) (Nat.le_refl _)
  unfold worV apV
  split
  · next hw0 =>
    have hw1 := lng_pos (T := T) (me := T 4 k) (m := n 2) (fun q hq => (hI.2.2.2.2.2.2.2.1 q hq).2.1) (n 2) (Nat.le_refl _) h60
    have hw2 : 0 < (apW T (T 4 k) (n 2)).toInt := Int64.lt_iff_toInt_lt.mp hw0
    have e1 : (apS T (T 4 k) (1950 + T 0 0 / 365) (n 2) * (T 6 k).toInt64).toInt = (apS T (T 4 k) (1950 + T 0 0 / 365) (n 2)).toInt * (T 6 k).toInt := by
      have m0 : 0 ≤ (apS T (T 4 k) (1950 + T 0 0 / 365) (n 2)).toInt * (T 6 k).toInt := Int.mul_nonneg hs.1 (by omega)
      have m1 : (apS T (T 4 k) (1950 + T 0 0 / 365) (n 2)).toInt * (T 6 k).toInt ≤ (10000000000 * 60) * 10000 := Int.mul_le_mul (by omega) hw.2 (by omega) (by decide)
      rw [Int64.toInt_mul, Int32.toInt_toInt64, Int.bmod_eq_of_le (by omega) (by omega)]
    have m0 : 0 ≤ (apS T (T 4 k) (1950 + T 0 0 / 365) (n 2)).toInt * (T 6 k).toInt := Int.mul_nonneg hs.1 (by omega)
    have m1 : (apS T (T 4 k) (1950 + T 0 0 / 365) (n 2)).toInt * (T 6 k).toInt ≤ (10000000000 * 60) * 10000 := Int.mul_le_mul (by omega) hw.2 (by omega) (by decide)
    have e2 : 0 ≤ (apS T (T 4 k) (1950 + T 0 0 / 365) (n 2) * (T 6 k).toInt64 / apW T (T 4 k) (n 2)).toInt := by
      rw [Int64.toInt_div, e1]
      generalize (apS T (T 4 k) (1950 + T 0 0 / 365) (n 2)).toInt * (T 6 k).toInt = X at *
      have t0 : 0 ≤ X.tdiv (apW T (T 4 k) (n 2)).toInt := Int.tdiv_nonneg m0 (by omega)
      have t1 : X.tdiv (apW T (T 4 k) (n 2)).toInt ≤ X := by
        rw [Int.tdiv_eq_ediv_of_nonneg m0]; exact Int.ediv_le_self _ m0
      rw [Int.bmod_eq_of_le (by omega) (by omega)]
      exact t0
    generalize apS T (T 4 k) (1950 + T 0 0 / 365) (n 2) * (T 6 k).toInt64 / apW T (T 4 k) (n 2) = Y at *
    split
    · exact ⟨by decide, by decide⟩
    · next hY =>
      have y1 : Y.toInt ≤ 1000000 := by
        have := Int64.le_iff_toInt_le.mp (Int64.not_lt.mp hY)
        exact this
      have e3 : Y.toInt32.toInt = Y.toInt := by
        rw [Int64.toInt_toInt32, Int.bmod_eq_of_le (by omega) (by omega)]
      constructor
      · intro q
        have := Int32.lt_iff_toInt_lt.mp q
        rw [e3] at this
        have e0 : (0 : Int32).toInt = 0 := rfl
        omega
      · intro q
        have := Int32.lt_iff_toInt_lt.mp q
        rw [e3] at this
        have e0 : (1000000 : Int32).toInt = 1000000 := rfl
        omega
  · exact ⟨by decide, by decide⟩
theorem sh_sum {T : Nat → Nat → Int32} {n : Nat → Nat} {k q : Nat} {pe o : Int32} (ho : o = worV T n k * T 19 q / 100) : (if T 9 k = pe then o else 0) + (if lndV T n k = pe then worV T n k - o else 0) = shV T n k q pe := by
  subst ho
  rw [shV]
  split <;> split <;> simp [Int32.sub_eq_add_neg, Int32.add_assoc]
theorem wrV_at {T : Nat → Nat → Int32} {n : Nat → Nat} {k : Nat} (hk : k < n 1) (hn : n 1 ≤ 50) : wrV T n (nI k) = worV T n k := by rw [wrV, if_pos (isT_nI hk (by omega)), nI_clamp (by omega)]
theorem duV_at {T : Nat → Nat → Int32} {n : Nat → Nat} {k : Nat} (hk : k < 30) : duV T n (nI k) = duS T n (nI k) (n 1) := by rw [duV, if_pos (isT_nI hk (by decide))]
theorem coV_lo {T : Nat → Nat → Int32} {n : Nat → Nat} {x : Int32} (h : x < 0) : coV T n x = -1 := by rw [coV, isT_lo h]; rfl
theorem coV_hi {T : Nat → Nat → Int32} {n : Nat → Nat} {x : Int32} (h : nI 9 ≤ x) : coV T n x = -1 := by rw [coV, isT_hi h]; rfl
theorem tk_no1 {T : Nat → Nat → Int32} {m : Nat} {me w : Int32} (h : (T 33 m >>> (me &&& 31)) &&& 1 = 0) : tkB T m me w = false := by simp [tkB, h]
theorem tk_no2 {T : Nat → Nat → Int32} {m : Nat} {me w : Int32} (h : ¬ w ≤ T 34 m) : tkB T m me w = false := by simp [tkB, Int32.not_le.mp h]
theorem tk_yes {T : Nat → Nat → Int32} {m : Nat} {me w : Int32} (h : ¬ (T 33 m >>> (me &&& 31)) &&& 1 = 0) (h2 : w ≤ T 34 m) : tkB T m me w = true := by
  have h1 := (bit01 (T 33 m >>> (me &&& 31))).resolve_left h
  simp [tkB, h1, Int32.not_lt.mpr h2]
theorem of_step {T : Nat → Nat → Int32} {n : Nat → Nat} {me w : Int32} {fi j : Nat} (hj : j < n 3) : ofO T n me w fi (n 3 - j) = if tkB T ((fi + j) % n 3) me w = true then some ((fi + j) % n 3) else ofO T n me w fi (n 3 - (j + 1)) := by
  rw [show n 3 - j = (n 3 - (j + 1)) + 1 by omega, ofO, show n 3 - (n 3 - (j + 1) + 1) = j by omega]
theorem ofB_at {T : Nat → Nat → Int32} {n : Nat → Nat} {k : Nat} (hk : k < n 1) (hn : n 1 ≤ 50) : ofB T n (nI k) = (decide (T 12 k = -1) && cdB T n (nI k) (T 0 0)) := by rw [ofB, isT_nI hk (by omega), nI_clamp (by omega)]; rfl
theorem ofR_at {T : Nat → Nat → Int32} {n : Nat → Nat} {k : Nat} (hk : k < n 1) (hn : n 1 ≤ 50) (h1 : T 12 k = -1) (h2 : cdB T n (nI k) (T 0 0) = true) : ofR T n (nI k) = ofO T n (T 4 k) (worV T n k) (nxV (n 3) (T 36 0)).toNatClampNeg (n 3) := by
  rw [ofR, if_pos (by rw [ofB_at hk hn, h1, h2]; rfl), nI_clamp (by omega)]
theorem ofR_no {T : Nat → Nat → Int32} {n : Nat → Nat} {i : Int32} (h : ofB T n i = false) : ofR T n i = none := by rw [ofR, h]; rfl
theorem ofT_no {T : Nat → Nat → Int32} {n : Nat → Nat} {i : Int32} (h : ofR T n i = none) : ofT T n i = T := by rw [ofT, h]
theorem ofT_at {T : Nat → Nat → Int32} {n : Nat → Nat} {k m : Nat} (hk : k < 2 ^ 31) (h : ofR T n (nI k) = some m) : ofT T n (nI k) = va_up (va_up (va_up T 12 (upd (T 12) k (nI m))) 35 (upd (T 35) m (T 35 m + worV T n k))) 36 (fun _ => nI m) := by rw [ofT, h, nI_clamp hk]
theorem sb_step {c : Nat} {B : Bool} : nI c + b2 B = nI (c + (if B = true then 1 else 0)) := by
  cases B
  · exact (Int32.add_zero _)
  · exact nI_1 c
