/-! more reading methods -/
theorem tsw_lo {x : Int32} (h : x < 0) : x.toInt < 0 := Int32.lt_iff_toInt_lt.mp h
theorem tsw_hi {x : Int32} {n : Nat} (h : nI (n + 1) ≤ x) (hn : n + 1 < 2 ^ 31) : (n : Int) < x.toInt := by
  have h1 := Int32.le_iff_toInt_le.mp h
  rw [nI_toInt hn] at h1
  omega
theorem isT_lo {m : Nat} {x : Int32} (h : x < 0) : isT m x = false := by simp [isT, h]
theorem isT_hi {m : Nat} {x : Int32} (h : nI m ≤ x) : isT m x = false := by simp [isT, h]
def lndV (T : Nat → Nat → Int32) (n : Nat → Nat) (k : Nat) : Int32 := owW (T 24) (owN T (T 2 k / 100 * 10 + T 3 k / 100) (T 10 k) (n 4))
def worV (T : Nat → Nat → Int32) (n : Nat → Nat) (k : Nat) : Int32 := apV T (T 4 k) (T 6 k) (1950 + T 0 0 / 365) (n 2)
/-- the law that counts a find, by the size of its hoard -/
def lcO (T : Nat → Nat → Int32) (n : Nat → Nat) (k : Nat) (fe : Int32) : Option Nat := match ifN T (T 10 k) (n 0) with
  | none => none
  | some q => if covB (T 17 q) (T 18 q) (T 20 q) (T 4 k) (T 5 k) (T 8 k) (T 10 k) fe = true then some q else none
def lctO (T P : Nat → Nat → Int32) (n : Nat → Nat) (i : Int32) : Option Nat := if isT (n 1) i = true then (if hoN (n 1) (P 2) (hoN (n 1) (P 1) i) = -1 then none else lcO T n i.toNatClampNeg (hoN (n 1) (P 2) (hoN (n 1) (P 1) i))) else none
theorem lctO_at {T P : Nat → Nat → Int32} {n : Nat → Nat} {k : Nat} (hk : k < n 1) (hn : n 1 ≤ 50) : lctO T P n (nI k) = if hoN (n 1) (P 2) (P 1 k) = -1 then none else lcO T n k (hoN (n 1) (P 2) (P 1 k)) := by
  rw [lctO, if_pos (isT_nI hk (by omega)), hoN_at hk (by omega), nI_clamp (by omega)]
theorem lcO_lt {T : Nat → Nat → Int32} {n : Nat → Nat} {k q : Nat} {fe : Int32} (h : lcO T n k fe = some q) : q < n 0 := by
  unfold lcO at h
  split at h
  · cases h
  · next q' h' =>
    split at h
    · cases h; exact ifN_lt h'
    · cases h
theorem lctO_lt {T P : Nat → Nat → Int32} {n : Nat → Nat} {i : Int32} {q : Nat} (h : lctO T P n i = some q) : q < n 0 := by
  unfold lctO at h
  split at h
  · split at h
    · cases h
    · exact lcO_lt h
  · cases h
/-- a person's share of a find that counts by law q -/
def shV (T : Nat → Nat → Int32) (n : Nat → Nat) (k q : Nat) (pe : Int32) : Int32 := if lndV T n k = pe then (if T 9 k = pe then worV T n k * T 19 q / 100 else 0) + worV T n k - worV T n k * T 19 q / 100 else (if T 9 k = pe then worV T n k * T 19 q / 100 else 0)
def rwdV (T P : Nat → Nat → Int32) (n : Nat → Nat) (i pe : Int32) : Int32 := if isT (n 1) i = true then (match lctO T P n i with
  | none => 0
  | some q => shV T n i.toNatClampNeg q pe) else 0
def tdV (T : Nat → Nat → Int32) (n : Nat → Nat) (i what : Int32) : Int32 := if isT (n 1) i = true then (if isT 10 what = true then (match what.toNatClampNeg with
  | 0 => T 10 i.toNatClampNeg
  | 1 => T 11 i.toNatClampNeg
  | 2 => T 4 i.toNatClampNeg
  | 3 => T 5 i.toNatClampNeg
  | 4 => T 6 i.toNatClampNeg
  | 5 => T 7 i.toNatClampNeg
  | 6 => T 8 i.toNatClampNeg
  | 7 => T 9 i.toNatClampNeg
  | 8 => lndV T n i.toNatClampNeg
  | _ => T 12 i.toNatClampNeg) else -2147483648) else -2147483648
theorem tdV_at {T : Nat → Nat → Int32} {n : Nat → Nat} {k : Nat} {what : Int32} (hk : k < n 1) (hn : n 1 ≤ 50) : tdV T n (nI k) what = (if isT 10 what = true then (match what.toNatClampNeg with
  | 0 => T 10 k
  | 1 => T 11 k
  | 2 => T 4 k
  | 3 => T 5 k
  | 4 => T 6 k
  | 5 => T 7 k
  | 6 => T 8 k
  | 7 => T 9 k
  | 8 => lndV T n k
  | _ => T 12 k) else -2147483648) := by rw [tdV, if_pos (isT_nI hk (by omega)), nI_clamp (by omega)]
def wrV (T : Nat → Nat → Int32) (n : Nat → Nat) (i : Int32) : Int32 := if isT (n 1) i = true then worV T n i.toNatClampNeg else -1
def pdV (T : Nat → Nat → Int32) (pe : Int32) : Int32 := if isT 30 pe = true then T 31 pe.toNatClampNeg else 0
theorem btw29 {x : Int32} : btw x 0 29 = isT 30 x := by
  have e : (29 < x) ↔ (nI 30 ≤ x) := by
    rw [Int32.lt_iff_toInt_lt, Int32.le_iff_toInt_le]
    have e1 : (29 : Int32).toInt = 29 := rfl
    have e2 : (nI 30).toInt = 30 := rfl
    omega
  simp [btw, isT, e]
def spV (T : Nat → Nat → Int32) (n : Nat → Nat) (i : Int32) : Int32 := if isT (n 3) i = true then T 35 i.toNatClampNeg else -1
