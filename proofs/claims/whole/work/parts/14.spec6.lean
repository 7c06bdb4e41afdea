/-! the reference's writing methods: what they answer, and the state behind them -/
def poN (D : va_G) (cT : Nat → ClassId) (a : Nat → Nat) (T2 : Nat → Nat → Int32) (n2 : Nat → Nat) (A : Nat → Prop) (H : Heap) : Prop := ∃ (T1 : Nat → Nat → Int32) (n1 : Nat → Nat) (z1 : Nat → Int32), (T1 = T2 ∧ n1 = n2) ∧ va_P D vwCl (modW cT a T1 n1 z1) H ∧ va_D A (modW cT a T1 n1 z1)
def goV (T : Nat → Nat → Int32) (d : Int32) : Int32 := if btw d 0 20000 = true then (if 20000 < T 0 0 + d then 20000 else T 0 0 + d) else -1
def goT (T : Nat → Nat → Int32) (d : Int32) : Nat → Nat → Int32 := if btw d 0 20000 = true then va_up T 0 (fun _ => if 20000 < T 0 0 + d then 20000 else T 0 0 + d) else T
def lwB (n : Nat → Nat) (d w t : Int32) : Bool := btw d 0 20000 && (!decide (w < 0) && (!decide (2000 < w / 1000000) && (!decide (100 < w - w / 1000 * 1000) && (btw t 1 50 && !decide (nI (n 0) = 20)))))
def lwT (T : Nat → Nat → Int32) (n : Nat → Nat) (d w t : Int32) : Nat → Nat → Int32 := va_up (va_up (va_up (va_up (va_up T 16 (upd (T 16) (n 0) d)) 17 (upd (T 17) (n 0) (w / 1000000))) 18 (upd (T 18) (n 0) (w / 1000 - w / 1000 / 1000 * 1000))) 19 (upd (T 19) (n 0) (w - w / 1000 * 1000))) 20 (upd (T 20) (n 0) t)
def owB (n : Nat → Nat) (pl d pe : Int32) : Bool := btw pl 0 99 && (btw d 0 20000 && (btw pe 0 29 && !decide (nI (n 4) = 100)))
def owT (T : Nat → Nat → Int32) (n : Nat → Nat) (pl d pe : Int32) : Nat → Nat → Int32 := va_up (va_up (va_up T 22 (upd (T 22) (n 4) pl)) 23 (upd (T 23) (n 4) d)) 24 (upd (T 24) (n 4) pe)
def fiB (T : Nat → Nat → Int32) (n : Nat → Nat) (wh wt we wo : Int32) : Bool := (!decide (wh < 0) && (!decide (wt < 0) && (!decide (we < 0) && (!decide (wo < 0) && decide (wh < 1000000))))) && (!decide (2 < wt / 100000000) && (!decide (1000 < wt / 10000 - wt / 10000 / 10000 * 10000) && (!decide (5000 < we / 10000) && (btw (we - we / 10000 * 10000) (we / 10000) 5000 && (btw (wo - wo / 100 * 100) 0 29 && (!decide (T 0 0 < wo / 100) && !decide (nI (n 1) = 50)))))))
def fiT (T : Nat → Nat → Int32) (n : Nat → Nat) (wh wt we wo : Int32) : Nat → Nat → Int32 := va_up (va_up (va_up (va_up (va_up (va_up (va_up (va_up (va_up (va_up (va_up T 2 (upd (T 2) (n 1) (wh / 1000))) 3 (upd (T 3) (n 1) (wh - wh / 1000 * 1000))) 4 (upd (T 4) (n 1) (wt / 100000000))) 5 (upd (T 5) (n 1) (wt / 10000 - wt / 10000 / 10000 * 10000))) 6 (upd (T 6) (n 1) (if wt - wt / 10000 * 10000 = 0 then 10000 else wt - wt / 10000 * 10000))) 7 (upd (T 7) (n 1) (we / 10000 - 3000))) 8 (upd (T 8) (n 1) (we - we / 10000 * 10000 - 3000))) 9 (upd (T 9) (n 1) (wo - wo / 100 * 100))) 10 (upd (T 10) (n 1) (wo / 100))) 11 (upd (T 11) (n 1) (T 0 0))) 12 (upd (T 12) (n 1) (-1))
def paB (T : Nat → Nat → Int32) (n : Nat → Nat) (i j : Int32) : Bool := isT (n 1) i && (isT (n 1) j && (!decide (i = j) && decide (T 13 (50 * i.toNatClampNeg + j.toNatClampNeg) = 1000000)))
def paT (T : Nat → Nat → Int32) (x y : Nat) : Nat → Nat → Int32 := va_up (va_up (va_up T 13 (upd (T 13) (50 * x + y) (T 0 0))) 13 (upd (upd (T 13) (50 * x + y) (T 0 0)) (50 * y + x) (T 0 0))) 14 (fun _ => T 14 0 + 1)
def ixB (y v : Int32) : Bool := btw y 1950 2004 && btw v 1 10000
def ixT (T : Nat → Nat → Int32) (y v : Int32) : Nat → Nat → Int32 := va_up T 25 (upd (T 25) (y - 1950).toNatClampNeg v)
def saB (T : Nat → Nat → Int32) (n : Nat → Nat) (me d we pr : Int32) : Bool := btw me 0 2 && (btw d 0 (T 0 0) && (btw we 1 10000 && (btw pr 0 1000000 && !decide (nI (n 2) = 60))))
def saT (T : Nat → Nat → Int32) (n : Nat → Nat) (me d we pr : Int32) : Nat → Nat → Int32 := va_up (va_up (va_up (va_up T 27 (upd (T 27) (n 2) me)) 28 (upd (T 28) (n 2) d)) 29 (upd (T 29) (n 2) we)) 30 (upd (T 30) (n 2) pr)
def muB (n : Nat → Nat) (me wo : Int32) : Bool := btw me 0 7 && (btw wo 0 1000000 && !decide (nI (n 3) = 10))
def muT (T : Nat → Nat → Int32) (n : Nat → Nat) (me wo : Int32) : Nat → Nat → Int32 := va_up (va_up T 33 (upd (T 33) (n 3) me)) 34 (upd (T 34) (n 3) wo)
noncomputable def dsV (T : Nat → Nat → Int32) (n : Nat → Nat) (i pe : Int32) : Int32 := if (isT (n 1) i && isT 30 pe) = true then (match lcO T n i.toNatClampNeg (nI (hsN T n (T 0 0) i.toNatClampNeg)) with
  | none => 0
  | some q => shV T n i.toNatClampNeg q pe) else 0
noncomputable def duS (T : Nat → Nat → Int32) (n : Nat → Nat) (pe : Int32) : Nat → Int32
  | 0 => -(T 31 pe.toNatClampNeg)
  | j + 1 => duS T n pe j + dsV T n (nI j) pe
noncomputable def duV (T : Nat → Nat → Int32) (n : Nat → Nat) (pe : Int32) : Int32 := if isT 30 pe = true then duS T n pe (n 1) else 0
noncomputable def seT (T : Nat → Nat → Int32) (n : Nat → Nat) (pe : Int32) : Nat → Nat → Int32 := if isT 30 pe = true then va_up T 31 (upd (T 31) pe.toNatClampNeg (T 31 pe.toNatClampNeg + duV T n pe)) else T
noncomputable def hcN (T : Nat → Nat → Int32) (n : Nat → Nat) : Nat → Nat
  | 0 => 0
  | j + 1 => hcN T n j + (if hoV T n (nI j) = nI j then 1 else 0)
noncomputable def tcN (T : Nat → Nat → Int32) (n : Nat → Nat) : Nat → Nat
  | 0 => 0
  | j + 1 => tcN T n j + (if cdB T n (nI j) (T 0 0) = true then 1 else 0)
noncomputable def coV (T : Nat → Nat → Int32) (n : Nat → Nat) (what : Int32) : Int32 := if isT 9 what = true then (match what.toNatClampNeg with
  | 0 => T 0 0
  | 1 => nI (n 1)
  | 2 => nI (hcN T n (n 1))
  | 3 => nI (n 0)
  | 4 => nI (n 2)
  | 5 => nI (n 3)
  | 6 => T 14 0
  | 7 => nI (tcN T n (n 1))
  | _ => nxV (n 3) (T 36 0)) else -1
def tkB (T : Nat → Nat → Int32) (m : Nat) (me w : Int32) : Bool := decide ((T 33 m >>> (me &&& 31)) &&& 1 = 1) && !decide (T 34 m < w)
/-- the museum that takes it: r are still to be asked -/
def ofO (T : Nat → Nat → Int32) (n : Nat → Nat) (me w : Int32) (fi : Nat) : Nat → Option Nat
  | 0 => none
  | r + 1 => if tkB T ((fi + (n 3 - (r + 1))) % n 3) me w = true then some ((fi + (n 3 - (r + 1))) % n 3) else ofO T n me w fi r
theorem ofO_lt {T : Nat → Nat → Int32} {n : Nat → Nat} {me w : Int32} {fi m : Nat} : ∀ {r : Nat}, r ≤ n 3 → ofO T n me w fi r = some m → m < n 3
  | 0, _, h => by simp [ofO] at h
  | r + 1, hr, h => by
    rw [ofO] at h
    split at h
    · cases h; exact Nat.mod_lt _ (by omega)
    · exact ofO_lt (by omega) h
noncomputable def ofB (T : Nat → Nat → Int32) (n : Nat → Nat) (i : Int32) : Bool := isT (n 1) i && (decide (T 12 i.toNatClampNeg = -1) && cdB T n i (T 0 0))
noncomputable def ofR (T : Nat → Nat → Int32) (n : Nat → Nat) (i : Int32) : Option Nat := if ofB T n i = true then ofO T n (T 4 i.toNatClampNeg) (worV T n i.toNatClampNeg) (nxV (n 3) (T 36 0)).toNatClampNeg (n 3) else none
noncomputable def ofT (T : Nat → Nat → Int32) (n : Nat → Nat) (i : Int32) : Nat → Nat → Int32 := match ofR T n i with
  | none => T
  | some m => va_up (va_up (va_up T 12 (upd (T 12) i.toNatClampNeg (nI m))) 35 (upd (T 35) m (T 35 m + worV T n i.toNatClampNeg))) 36 (fun _ => nI m)
theorem nx_nat {m : Nat} {la : Int32} (hm : m ≤ 10) (h0 : ¬ la < -1) (h1 : la < nI m) (hz : m ≠ 0) : ∃ f, f < m ∧ nxV m la = nI f := by
  have hz' : ¬ nI m = 0 := fun q => hz (nat_eq (a := m) (b := 0) q (by omega) (by decide))
  have a0 : -1 ≤ la.toInt := by have := Int32.not_lt.mp h0; exact Int32.le_iff_toInt_le.mp this
  have a1 : la.toInt < m := by have := Int32.lt_iff_toInt_lt.mp h1; rwa [nI_toInt (by omega)] at this
  have e1 : (la + 1).toInt = la.toInt + 1 := by
    rw [Int32.toInt_add]
    have : (1 : Int32).toInt = 1 := rfl
    rw [this, Int.bmod_eq_of_le (by omega) (by omega)]
  have hp : ¬ la + 1 < 0 := fun q => by
    have := Int32.lt_iff_toInt_lt.mp q
    rw [e1] at this
    have e0 : (0 : Int32).toInt = 0 := rfl
    omega
  obtain ⟨j, hj, ej⟩ := nI_of hp
  rw [nxV, if_neg hz', ej]
  by_cases h : m ≤ j
  · rw [if_pos (nI_le h hj)]; exact ⟨0, by omega, rfl⟩
  · rw [if_neg (nI_ge (by omega) (by omega))]; exact ⟨j, by omega, rfl⟩
theorem bit01 (x : Int32) : x &&& 1 = 0 ∨ x &&& 1 = 1 := by
  obtain ⟨j, hj, e⟩ := pk_andE x (m := 1) 1 (by decide)
  rcases (show j = 0 ∨ j = 1 by omega) with h | h
  · left; rw [e, h]; rfl
  · right; rw [e, h]; rfl
/-- a share in ints is the share in longs -/
theorem share_eq {w t : Int32} (hw0 : ¬ w < 0) (hw1 : ¬ 1000000 < w) (ht : btw t 0 100 = true) : (w.toInt64 * t.toInt64 / 100).toInt32 = w * t / 100 := by
  obtain ⟨x, hx, rfl⟩ := nI_of hw0
  obtain ⟨y, hy, rfl⟩ := nI_of (btw_t ht).1
  have h1 : x ≤ 1000000 := nat_nlt (a := 1000000) (b := x) hw1 (by decide) hx
  have h2 : y ≤ 100 := nat_nlt (a := 100) (b := y) (btw_t ht).2 (by decide) hy
  have h3 : x * y ≤ 1000000 * 100 := Nat.mul_le_mul h1 h2
  rw [nI_l hx, nI_l hy, lN_mul, show (100 : Int64) = lN 100 from rfl, pk_lDiv (by omega) (by decide) (by decide), lN_i, pk_mul, show (100 : Int32) = nI 100 from rfl, pk_div (by omega) (by decide) (by decide)]
theorem ix_ix {y : Int32} (h : btw y 1950 2004 = true) : ∃ k, k < 55 ∧ y - 1950 = nI k := by
  have h1 := btw_t h
  have a0 : 1950 ≤ y.toInt := Int32.le_iff_toInt_le.mp (Int32.not_lt.mp h1.1)
  have a1 : y.toInt ≤ 2004 := Int32.le_iff_toInt_le.mp (Int32.not_lt.mp h1.2)
  have e : (y - 1950).toInt = y.toInt - 1950 := by
    rw [Int32.toInt_sub]
    have : (1950 : Int32).toInt = 1950 := rfl
    rw [this, Int.bmod_eq_of_le (by omega) (by omega)]
  have hp : ¬ y - 1950 < 0 := fun q => by
    have := Int32.lt_iff_toInt_lt.mp q
    rw [e] at this
    have e0 : (0 : Int32).toInt = 0 := rfl
    omega
  obtain ⟨j, hj, ej⟩ := nI_of hp
  refine ⟨j, ?_, ej⟩
  have := nI_toInt hj
  rw [← ej, e] at this
  omega
theorem sa_step {c : Nat} {q : Prop} {d : Decidable q} : nI c + b2 (@decide q d) = nI (c + (@ite Nat q d 1 0)) := by
  by_cases h : q
  · simp only [b2, h, decide_true, if_true]; exact nI_1 c
  · simp only [b2, h, decide_false, if_false]; exact (Int32.add_zero _)
