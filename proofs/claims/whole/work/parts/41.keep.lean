/-! what holds of every state is kept by every call -/
def Jv (T : Nat → Nat → Int32) (n : Nat → Nat) : Prop := Cnt n ∧ InvT T n ∧ ∀ k, n 3 ≤ k → T 35 k = 0
theorem btw_mk {v lo hi : Int32} (h1 : ¬ v < lo) (h2 : ¬ hi < v) : btw v lo hi = true := by simp [btw, h1, h2]
theorem lt_upd {p : Int32 → Prop} {f : Nat → Int32} {m : Nat} {v : Int32} (h : ∀ k, k < m → p (f k)) (hv : p v) : ∀ k, k < m + 1 → p (upd f m v k) := fun k hk => by
  by_cases e : k = m
  · subst e; rw [pk_us]; exact hv
  · rw [pk_un e]; exact h k (by omega)
theorem keep_go {T : Nat → Nat → Int32} {n : Nat → Nat} {d : Int32} (h : Jv T n) : Jv (goT T d) n := by
  obtain ⟨hn, hI, h35⟩ := h
  unfold goT
  split
  · next hd =>
    have b1 := btw_t hd
    have a0 : 0 ≤ (T 0 0).toInt := Int32.le_iff_toInt_le.mp (Int32.not_lt.mp hI.1.1)
    have a1 : (T 0 0).toInt ≤ 20000 := Int32.le_iff_toInt_le.mp (Int32.not_lt.mp hI.1.2)
    have d0 : 0 ≤ d.toInt := Int32.le_iff_toInt_le.mp (Int32.not_lt.mp b1.1)
    have d1 : d.toInt ≤ 20000 := Int32.le_iff_toInt_le.mp (Int32.not_lt.mp b1.2)
    have e : (T 0 0 + d).toInt = (T 0 0).toInt + d.toInt := by rw [Int32.toInt_add, Int.bmod_eq_of_le (by omega) (by omega)]
    have k2 : (20000 : Int32).toInt = 20000 := rfl
    have hv : (T 0 0).toInt ≤ (if 20000 < T 0 0 + d then 20000 else T 0 0 + d).toInt ∧ (if 20000 < T 0 0 + d then 20000 else T 0 0 + d).toInt ≤ 20000 := by
      split
      · rw [k2]; omega
      · next g =>
        have := Int32.le_iff_toInt_le.mp (Int32.not_lt.mp g)
        rw [e] at this ⊢
        rw [k2] at this
        omega
    generalize (if 20000 < T 0 0 + d then (20000 : Int32) else T 0 0 + d) = v at *
    refine ⟨hn, ⟨⟨?_, ?_⟩, ?_, hI.2.2.1, hI.2.2.2.1, hI.2.2.2.2.1, hI.2.2.2.2.2.1, hI.2.2.2.2.2.2.1, hI.2.2.2.2.2.2.2.1, hI.2.2.2.2.2.2.2.2⟩, h35⟩
    · exact Int32.not_lt.mpr (Int32.le_iff_toInt_le.mpr (by show (0 : Int32).toInt ≤ v.toInt; rw [k0]; omega))
    · exact Int32.not_lt.mpr (Int32.le_iff_toInt_le.mpr (by show v.toInt ≤ (20000 : Int32).toInt; rw [k2]; omega))
    · intro k hk
      have q := hI.2.1 k hk
      refine ⟨q.1, q.2.1, q.2.2.1, ?_⟩
      have q2 := btw_iff.mp q.2.2.2
      exact btw_iff.mpr ⟨q2.1, by show (T 11 k).toInt ≤ v.toInt; omega⟩
  · exact ⟨hn, hI, h35⟩
theorem nI_lim {m N : Nat} (h : m ≤ N) (hN : N < 2 ^ 31) (q : ¬ nI m = nI N) : m < N := by
  rcases Nat.lt_or_ge m N with g | g
  · exact g
  · exact absurd (by rw [show m = N by omega]) q
theorem keep_law {T : Nat → Nat → Int32} {n : Nat → Nat} {d w t : Int32} (h : Jv T n) : Jv (if lwB n d w t = true then lwT T n d w t else T) (if lwB n d w t = true then va_up n 0 (n 0 + 1) else n) := by
  obtain ⟨hn, hI, h35⟩ := h
  split
  · next ho =>
    have ho2 := ho
    rw [← law_ok] at ho2
    simp only [Bool.and_eq_true, Bool.not_eq_true', decide_eq_false_iff_not] at ho2
    have hl : n 0 < 20 := nI_lim hn.1 (by decide) ho2.2
    refine ⟨⟨(show n 0 + 1 ≤ 20 by omega), hn.2.1, hn.2.2.1, hn.2.2.2.1, hn.2.2.2.2⟩, ⟨hI.1, hI.2.1, hI.2.2.1, hI.2.2.2.1, ?_, hI.2.2.2.2.2.1, hI.2.2.2.2.2.2.1, hI.2.2.2.2.2.2.2.1, hI.2.2.2.2.2.2.2.2⟩, h35⟩
    exact lt_upd (p := fun x => btw x 0 100 = true) hI.2.2.2.2.1 ho2.1.2.2.2.1
  · exact ⟨hn, hI, h35⟩
theorem keep_owner {T : Nat → Nat → Int32} {n : Nat → Nat} {pl d pe : Int32} (h : Jv T n) : Jv (if owB n pl d pe = true then owT T n pl d pe else T) (if owB n pl d pe = true then va_up n 4 (n 4 + 1) else n) := by
  obtain ⟨hn, hI, h35⟩ := h
  split
  · next ho =>
    simp only [owB, Bool.and_eq_true, Bool.not_eq_true', decide_eq_false_iff_not] at ho
    have hl : n 4 < 100 := nI_lim hn.2.2.2.2 (by decide) ho.2.2.2
    refine ⟨⟨hn.1, hn.2.1, hn.2.2.1, hn.2.2.2.1, (show n 4 + 1 ≤ 100 by omega)⟩, ⟨hI.1, hI.2.1, hI.2.2.1, hI.2.2.2.1, hI.2.2.2.2.1, ?_, hI.2.2.2.2.2.2.1, hI.2.2.2.2.2.2.2.1, hI.2.2.2.2.2.2.2.2⟩, h35⟩
    exact lt_upd (p := fun x => ¬ x < 0) hI.2.2.2.2.2.1 (btw_t ho.2.1).1
  · exact ⟨hn, hI, h35⟩
theorem keep_find {T : Nat → Nat → Int32} {n : Nat → Nat} {wh wt we wo : Int32} (h : Jv T n) : Jv (if fiB T n wh wt we wo = true then fiT T n wh wt we wo else T) (if fiB T n wh wt we wo = true then va_up n 1 (n 1 + 1) else n) := by
  obtain ⟨hn, hI, h35⟩ := h
  split
  · next ho =>
    have ho2 := ho
    rw [← find_ok hI] at ho2
    simp only [Bool.and_eq_true, Bool.not_eq_true', decide_eq_false_iff_not] at ho2
    obtain ⟨⟨⟨x1, x2⟩, ⟨x3, x4, x5⟩, -, x6, x7⟩, x8⟩ := ho2
    have hl : n 1 < 50 := nI_lim hn.2.1 (by decide) x8
    have hnow : btw (T 0 0) 0 (T 0 0) = true := btw_mk hI.1.1 (fun q => Int32.lt_irrefl q)
    have hd : btw (wo / 100) 0 20000 = true := btw_mk (btw_t x6).1 (fun q => hI.1.2 (Int32.lt_of_lt_of_le q (Int32.not_lt.mp (btw_t x6).2)))
    refine ⟨⟨hn.1, (show n 1 + 1 ≤ 50 by omega), hn.2.2.1, hn.2.2.2.1, hn.2.2.2.2⟩, ⟨hI.1, ?_, ?_, hI.2.2.2.1, hI.2.2.2.2.1, hI.2.2.2.2.2.1, hI.2.2.2.2.2.2.1, hI.2.2.2.2.2.2.2.1, hI.2.2.2.2.2.2.2.2⟩, h35⟩
    · intro k hk
      have hk : k < n 1 + 1 := hk
      show (btw (upd (T 2) (n 1) (wh / 1000) k) 0 999 = true ∧ btw (upd (T 3) (n 1) (wh - wh / 1000 * 1000) k) 0 999 = true) ∧ (btw (upd (T 4) (n 1) (wt / 100000000) k) 0 2 = true ∧ btw (upd (T 6) (n 1) (if wt - wt / 10000 * 10000 = 0 then 10000 else wt - wt / 10000 * 10000) k) 1 10000 = true) ∧ (btw (upd (T 10) (n 1) (wo / 100) k) 0 20000 = true ∧ btw (upd (T 11) (n 1) (T 0 0) k) 0 (T 0 0) = true)
      by_cases e : k = n 1
      · subst e
        simp only [pk_us]
        exact ⟨⟨x1, x2⟩, ⟨x3, x5⟩, hd, hnow⟩
      · simp only [pk_un e]
        exact hI.2.1 k (by omega)
    · intro i j hij hj
      have hj : j < n 1 + 1 := hj
      show ¬ upd (T 11) (n 1) (T 0 0) j < upd (T 11) (n 1) (T 0 0) i
      by_cases e : j = n 1
      · subst e
        rw [pk_us]
        by_cases e2 : i = n 1
        · subst e2; rw [pk_us]; exact fun q => Int32.lt_irrefl q
        · rw [pk_un e2]; exact (btw_t (hI.2.1 i (by omega)).2.2.2).2
      · rw [pk_un e, pk_un (show i ≠ n 1 by omega)]
        exact hI.2.2.1 i j hij (by omega)
  · exact ⟨hn, hI, h35⟩
theorem keep_part {T : Nat → Nat → Int32} {n : Nat → Nat} {i j : Int32} (h : Jv T n) : Jv (if paB T n i j = true then paT T i.toNatClampNeg j.toNatClampNeg else T) n := by
  obtain ⟨hn, hI, h35⟩ := h
  split
  · next ho =>
    simp only [paB, Bool.and_eq_true] at ho
    have h50 := hn.2.1
    obtain ⟨x, hx, rfl⟩ := isT_k ho.1 (by omega)
    obtain ⟨y, hy, rfl⟩ := isT_k ho.2.1 (by omega)
    rw [nI_clamp (by omega), nI_clamp (by omega)]
    have hnow : btw (T 0 0) 0 20000 = true := btw_mk hI.1.1 hI.1.2
    refine ⟨hn, ⟨hI.1, hI.2.1, hI.2.2.1, ?_, hI.2.2.2.2.1, hI.2.2.2.2.2.1, hI.2.2.2.2.2.2.1, hI.2.2.2.2.2.2.2.1, hI.2.2.2.2.2.2.2.2⟩, h35⟩
    intro u v hu hv huv
    show upd (upd (T 13) (50 * x + y) (T 0 0)) (50 * y + x) (T 0 0) (50 * u + v) = upd (upd (T 13) (50 * x + y) (T 0 0)) (50 * y + x) (T 0 0) (50 * v + u) ∧ (upd (upd (T 13) (50 * x + y) (T 0 0)) (50 * y + x) (T 0 0) (50 * u + v) = 1000000 ∨ btw (upd (upd (T 13) (50 * x + y) (T 0 0)) (50 * y + x) (T 0 0) (50 * u + v)) 0 20000 = true)
    have val : ∀ r c, r < 50 → c < 50 → upd (upd (T 13) (50 * x + y) (T 0 0)) (50 * y + x) (T 0 0) (50 * r + c) = if (r = x ∧ c = y) ∨ (r = y ∧ c = x) then T 0 0 else T 13 (50 * r + c) := fun r c hr hc => by
      rw [upd_map, upd_map]
      by_cases q1 : r = y ∧ c = x
      · rw [if_pos (by omega), if_pos (Or.inr q1)]
      · rw [if_neg (by omega)]
        by_cases q2 : r = x ∧ c = y
        · rw [if_pos (by omega), if_pos (Or.inl q2)]
        · rw [if_neg (by omega), if_neg (by omega)]
    rw [val u v hu hv, val v u hv hu]
    have old := hI.2.2.2.1 u v hu hv huv
    by_cases q : (u = x ∧ v = y) ∨ (u = y ∧ v = x)
    · rw [if_pos q, if_pos (by omega)]
      exact ⟨rfl, Or.inr hnow⟩
    · rw [if_neg q, if_neg (by omega)]
      exact old
  · exact ⟨hn, hI, h35⟩
theorem keep_index {T : Nat → Nat → Int32} {n : Nat → Nat} {y v : Int32} (h : Jv T n) : Jv (if ixB y v = true then ixT T y v else T) n := by
  obtain ⟨hn, hI, h35⟩ := h
  split
  · next ho =>
    simp only [ixB, Bool.and_eq_true] at ho
    refine ⟨hn, ⟨hI.1, hI.2.1, hI.2.2.1, hI.2.2.2.1, hI.2.2.2.2.1, hI.2.2.2.2.2.1, ?_, hI.2.2.2.2.2.2.2.1, hI.2.2.2.2.2.2.2.2⟩, h35⟩
    intro k hk
    show btw (upd (T 25) (y - 1950).toNatClampNeg v k) 1 10000 = true
    by_cases e : k = (y - 1950).toNatClampNeg
    · rw [e, pk_us]; exact ho.2
    · rw [pk_un e]; exact hI.2.2.2.2.2.2.1 k hk
  · exact ⟨hn, hI, h35⟩
theorem keep_sale {T : Nat → Nat → Int32} {n : Nat → Nat} {me d we pr : Int32} (h : Jv T n) : Jv (if saB T n me d we pr = true then saT T n me d we pr else T) (if saB T n me d we pr = true then va_up n 2 (n 2 + 1) else n) := by
  obtain ⟨hn, hI, h35⟩ := h
  split
  · next ho =>
    simp only [saB, Bool.and_eq_true, Bool.not_eq_true', decide_eq_false_iff_not] at ho
    have hl : n 2 < 60 := nI_lim hn.2.2.1 (by decide) ho.2.2.2.2
    have hd : btw d 0 20000 = true := btw_mk (btw_t ho.2.1).1 (day_le hI ho.2.1)
    refine ⟨⟨hn.1, hn.2.1, (show n 2 + 1 ≤ 60 by omega), hn.2.2.2.1, hn.2.2.2.2⟩, ⟨hI.1, hI.2.1, hI.2.2.1, hI.2.2.2.1, hI.2.2.2.2.1, hI.2.2.2.2.2.1, hI.2.2.2.2.2.2.1, ?_, hI.2.2.2.2.2.2.2.2⟩, h35⟩
    intro k hk
    have hk : k < n 2 + 1 := hk
    show btw (upd (T 28) (n 2) d k) 0 20000 = true ∧ btw (upd (T 29) (n 2) we k) 1 10000 = true ∧ btw (upd (T 30) (n 2) pr k) 0 1000000 = true
    by_cases e : k = n 2
    · subst e; simp only [pk_us]; exact ⟨hd, ho.2.2.1, ho.2.2.2.1⟩
    · simp only [pk_un e]; exact hI.2.2.2.2.2.2.2.1 k (by omega)
  · exact ⟨hn, hI, h35⟩
theorem keep_settle {T : Nat → Nat → Int32} {n : Nat → Nat} {pe : Int32} (h : Jv T n) : Jv (seT T n pe) n := by
  unfold seT
  split
  · exact h
  · exact h
theorem keep_museum {T : Nat → Nat → Int32} {n : Nat → Nat} {me wo : Int32} (h : Jv T n) : Jv (if muB n me wo = true then muT T n me wo else T) (if muB n me wo = true then va_up n 3 (n 3 + 1) else n) := by
  obtain ⟨hn, hI, h35⟩ := h
  split
  · next ho =>
    simp only [muB, Bool.and_eq_true, Bool.not_eq_true', decide_eq_false_iff_not] at ho
    have hl : n 3 < 10 := nI_lim hn.2.2.2.1 (by decide) ho.2.2
    refine ⟨⟨hn.1, hn.2.1, hn.2.2.1, (show n 3 + 1 ≤ 10 by omega), hn.2.2.2.2⟩, ⟨hI.1, hI.2.1, hI.2.2.1, hI.2.2.2.1, hI.2.2.2.2.1, hI.2.2.2.2.2.1, hI.2.2.2.2.2.2.1, hI.2.2.2.2.2.2.2.1, hI.2.2.2.2.2.2.2.2.1, ?_⟩, fun k h1 => h35 k (by have h1 : n 3 + 1 ≤ k := h1; omega)⟩
    exact Int32.lt_of_lt_of_le hI.2.2.2.2.2.2.2.2.2 (nI_le (a := n 3) (b := n 3 + 1) (by omega) (by omega))
  · exact ⟨hn, hI, h35⟩
theorem keep_offer {T : Nat → Nat → Int32} {n : Nat → Nat} {i : Int32} (h : Jv T n) : Jv (ofT T n i) n := by
  obtain ⟨hn, hI, h35⟩ := h
  unfold ofT
  split
  · exact ⟨hn, hI, h35⟩
  · next m hm =>
    have hml : m < n 3 := by
      unfold ofR at hm
      split at hm
      · exact ofO_lt (Nat.le_refl _) hm
      · cases hm
    have h10 := hn.2.2.2.1
    refine ⟨hn, ⟨hI.1, hI.2.1, hI.2.2.1, hI.2.2.2.1, hI.2.2.2.2.1, hI.2.2.2.2.2.1, hI.2.2.2.2.2.2.1, hI.2.2.2.2.2.2.2.1, ?_, nI_lt hml (by omega)⟩, fun k h1 => ?_⟩
    · show ¬ nI m < -1
      exact fun q => nI_pos (show m < 2 ^ 31 by omega) (Int32.lt_trans q (by decide))
    · show upd (T 35) m (T 35 m + worV T n i.toNatClampNeg) k = 0
      rw [pk_un (show k ≠ m by omega)]
      exact h35 k h1
theorem Jv0 : Jv T0 N0 := by
  refine ⟨⟨by decide, by decide, by decide, by decide, by decide⟩, ⟨⟨by decide, by decide⟩, fun k hk => absurd hk (Nat.not_lt_zero _), fun i j _ hj => absurd hj (Nat.not_lt_zero _), fun x y _ _ _ => ⟨rfl, Or.inl rfl⟩, fun k hk => absurd hk (Nat.not_lt_zero _), fun k hk => absurd hk (Nat.not_lt_zero _), fun k _ => (show btw 100 1 10000 = true by decide), fun k hk => absurd hk (Nat.not_lt_zero _), ⟨by decide, by decide⟩⟩, fun k _ => rfl⟩
theorem PR0 : PR T0 (P0 0) := fun x y _ _ _ => ⟨fun _ => rfl, fun q => absurd rfl q⟩
