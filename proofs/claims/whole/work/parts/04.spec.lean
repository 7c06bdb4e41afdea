/-! reading methods of the class: what they answer -/
theorem nle_of {m N : Nat} {i : Int32} (h : ¬ nI m ≤ i) (hm : m ≤ N) (hN : N < 2 ^ 31) : ¬ nI N ≤ i := fun q => h (Int32.le_trans (nI_le hm hN) q)
def nearB (u0 u1 u5 u6 g0 g1 g5 g6 : Int32) : Bool := !decide (10 < (if 0 ≤ u0 - g0 then u0 - g0 else 0 - (u0 - g0))) && (!decide (10 < (if 0 ≤ u1 - g1 then u1 - g1 else 0 - (u1 - g1))) && (!decide (g6 < u5) && !decide (u6 < g5)))
def tri (p q : Nat) : Nat := max p q * (max p q - 1) / 2 + min p q
theorem tri_lt {p q m : Nat} (hp : p < m) (hq : q < m) (hm : m ≤ 50) (hne : p ≠ q) : tri p q < 1225 := by
  have h1 : max p q ≤ 49 := by omega
  have h2 : min p q + 1 ≤ max p q := by omega
  unfold tri
  generalize max p q = x at *
  generalize min p q = y at *
  have h3 : x * (x - 1) / 2 + x ≤ 1225 := by
    have : x * (x - 1) ≤ 49 * 48 := Nat.mul_le_mul h1 (by omega)
    omega
  omega
def prV (m : Nat) (i j : Int32) : Int32 := if (isT m i && (isT m j && !decide (i = j))) = true then nI (tri i.toNatClampNeg j.toNatClampNeg) else -1
theorem prV_nI {m p q : Nat} (hp : p < m) (hq : q < m) (hm : m < 2 ^ 31) (hne : p ≠ q) : prV m (nI p) (nI q) = nI (tri p q) := by
  have : ¬ nI p = nI q := fun h => hne ((nI_eq (by omega) (by omega)).mp h)
  simp [prV, isT_nI hp hm, isT_nI hq hm, this, nI_clamp (show p < 2 ^ 31 by omega), nI_clamp (show q < 2 ^ 31 by omega)]
theorem pair_eq {p q m : Nat} (hp : p < m) (hq : q < m) (hm : m ≤ 50) (hne : p ≠ q) : (if nI p < nI q then nI q else nI p) * ((if nI p < nI q then nI q else nI p) - 1) / 2 + (if nI q < nI p then nI q else nI p) = nI (tri p q) := by
  have e1 : (if nI p < nI q then nI q else nI p) = nI (max p q) := by
    by_cases h : p < q
    · rw [if_pos ((nI_ltI (by omega) (by omega)).mpr h)]; congr 1; omega
    · rw [if_neg (fun z => h ((nI_ltI (by omega) (by omega)).mp z))]; congr 1; omega
  have e2 : (if nI q < nI p then nI q else nI p) = nI (min p q) := by
    by_cases h : q < p
    · rw [if_pos ((nI_ltI (by omega) (by omega)).mpr h)]; congr 1; omega
    · rw [if_neg (fun z => h ((nI_ltI (by omega) (by omega)).mp z))]; congr 1; omega
  rw [e1, e2]
  have h1 : 1 ≤ max p q := by omega
  have h2 : max p q ≤ 49 := by omega
  unfold tri
  generalize max p q = x at *
  generalize min p q = y at *
  have hm2 : x * (x - 1) ≤ 49 * 48 := Nat.mul_le_mul h2 (by omega)
  have e3 : nI x - 1 = nI (x - 1) := by have := pk_sub (a := x) (b := 1) h1; exact this
  rw [e3, pk_mul]
  have e4 : nI (x * (x - 1)) / 2 = nI (x * (x - 1) / 2) := pk_div (a := x * (x - 1)) (d := 2) (by omega) (by decide) (by decide)
  rw [e4, nI_add]
theorem nI_ne_m1 {k : Nat} (h : k < 2 ^ 31) : ¬ nI k = -1 := fun q => nI_pos h (by rw [q]; decide)
def jnB (T : Nat → Nat → Int32) (pd : Nat → Int32) (p q : Nat) (day : Int32) : Bool := nearB (T 2 p) (T 3 p) (T 7 p) (T 8 p) (T 2 q) (T 3 q) (T 7 q) (T 8 q) && (decide (pd (tri p q) = -1) || !decide (pd (tri p q) ≤ day))
def kbN (T : Nat → Nat → Int32) (day : Int32) : Nat → Nat
  | 0 => 0
  | j + 1 => if day < T 11 j then kbN T day j else j + 1
def hoN (m : Nat) (h : Nat → Int32) (i : Int32) : Int32 := if isT m i = true then h i.toNatClampNeg else -1
theorem hoN_at {m k : Nat} {h : Nat → Int32} (hk : k < m) (hm : m < 2 ^ 31) : hoN m h (nI k) = h k := by rw [hoN, if_pos (isT_nI hk hm), nI_clamp (by omega)]
theorem hoN_no {m : Nat} {h : Nat → Int32} {i : Int32} (hf : isT m i = false) : hoN m h i = -1 := by rw [hoN, hf]; rfl
def tlN (T : Nat → Nat → Int32) (le ri lo hi : Int32) : Nat → Nat
  | 0 => 0
  | j + 1 => tlN T le ri lo hi j + (if (btw (T 2 j) le (ri - 1) && btw (T 3 j) lo (hi - 1)) = true then 1 else 0)
def ifN (T : Nat → Nat → Int32) (day : Int32) : Nat → Option Nat
  | 0 => none
  | j + 1 => if day < T 16 j then ifN T day j else match ifN T day j with
    | none => some j
    | some q => if T 16 j < T 16 q then some q else some j
theorem ifN_lt {T : Nat → Nat → Int32} {day : Int32} : ∀ {j q : Nat}, ifN T day j = some q → q < j
  | 0, q, h => by simp [ifN] at h
  | j + 1, q, h => by
    rw [ifN] at h
    split at h
    · exact Nat.lt_succ_of_lt (ifN_lt h)
    · split at h
      · cases h; omega
      · next q' hq' =>
        split at h
        · cases h; exact Nat.lt_succ_of_lt (ifN_lt hq')
        · cases h; omega
def owN (T : Nat → Nat → Int32) (plot day : Int32) : Nat → Option Nat
  | 0 => none
  | j + 1 => if T 22 j = plot then (if day < T 23 j then owN T plot day j else match owN T plot day j with
    | none => some j
    | some q => if T 23 j < T 23 q then some q else some j) else owN T plot day j
theorem owN_lt {T : Nat → Nat → Int32} {plot day : Int32} : ∀ {j q : Nat}, owN T plot day j = some q → q < j
  | 0, q, h => by simp [owN] at h
  | j + 1, q, h => by
    rw [owN] at h
    split at h
    · split at h
      · exact Nat.lt_succ_of_lt (owN_lt h)
      · split at h
        · cases h; omega
        · next q' hq' =>
          split at h
          · cases h; exact Nat.lt_succ_of_lt (owN_lt hq')
          · cases h; omega
    · exact Nat.lt_succ_of_lt (owN_lt h)
def owW (f : Nat → Int32) (o : Option Nat) : Int32 := match o with
  | none => 0
  | some q => f q
theorem owN_succ {T : Nat → Nat → Int32} {plot day : Int32} {j : Nat} (h0 : ¬ T 23 j < 0) : owN T plot day (j + 1) = if T 22 j = plot ∧ ¬ day < T 23 j ∧ ¬ T 23 j < owW (T 23) (owN T plot day j) then some j else owN T plot day j := by
  rw [owN]
  by_cases h1 : T 22 j = plot
  · by_cases h2 : day < T 23 j
    · simp [h1, h2]
    · cases h3 : owN T plot day j with
      | none => simp [h1, h2, owW, h0]
      | some q =>
        by_cases h4 : T 23 j < T 23 q
        · simp [h1, h2, owW, h4]
        · simp [h1, h2, owW, h4]
  · simp [h1]
def covB (u1 u2 u4 g2 g3 g6 g7 fe : Int32) : Bool := (!decide (1950 + g7 / 365 - g6 < u1)) && ((!decide (g2 = 0) && !decide (g3 < u2)) || !decide (fe < u4))
def nxV (m : Nat) (la : Int32) : Int32 := if nI m = 0 then -1 else if nI m ≤ la + 1 then 0 else la + 1
def lvV (f : Nat → Int32) (year : Int32) : Int32 := if (!decide (year - 1950 < 0) && !decide (55 ≤ year - 1950)) = true then f (year - 1950).toNatClampNeg else 100
def saN (T : Nat → Nat → Int32) (me : Int32) : Nat → Nat
  | 0 => 0
  | j + 1 => saN T me j + (if T 27 j = me then 1 else 0)
def prL (T : Nat → Nat → Int32) (year : Int32) (j : Nat) : Int64 := if (lvV (T 25) (1950 + T 28 j / 365)) ≤ 0 then 0 else (T 30 j).toInt64 * (lvV (T 25) year).toInt64 / (lvV (T 25) (1950 + T 28 j / 365)).toInt64
def apS (T : Nat → Nat → Int32) (me year : Int32) : Nat → Int64
  | 0 => 0
  | j + 1 => if T 27 j = me then apS T me year j + prL T year j else apS T me year j
def apW (T : Nat → Nat → Int32) (me : Int32) : Nat → Int64
  | 0 => 0
  | j + 1 => if T 27 j = me then apW T me j + (T 29 j).toInt64 else apW T me j
def apV (T : Nat → Nat → Int32) (me we year : Int32) (m : Nat) : Int32 := if 0 < apW T me m then (if 1000000 < apS T me year m * we.toInt64 / apW T me m then (1000000 : Int64) else apS T me year m * we.toInt64 / apW T me m).toInt32 else 0
theorem lv_ne {x : Int32} (h : ¬ x ≤ 0) : ¬ x.toInt64 = 0 := fun q => h (by
  have e : x.toInt64.toInt = x.toInt := Int32.toInt_toInt64 x
  rw [q] at e
  rw [Int32.le_iff_toInt_le]
  have e2 : (0 : Int64).toInt = 0 := rfl
  have e3 : (0 : Int32).toInt = 0 := rfl
  omega)
theorem lg_pos {w : Int64} (h : 0 < lg_cmp w 0) : 0 < w := (lg_cmp_gt w 0).mp h
theorem lg_npos {w : Int64} (h : ¬ 0 < lg_cmp w 0) : ¬ 0 < w := fun q => h ((lg_cmp_gt w 0).mpr q)
