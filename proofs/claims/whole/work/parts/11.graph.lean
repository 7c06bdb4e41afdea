/-! what can be reached by joined finds; counts and least numbers -/
def Vx (T : Nat → Nat → Int32) (n : Nat → Nat) (day : Int32) (v : Nat) : Prop := v < n 1 ∧ ¬ day < T 11 v
def Ed (T : Nat → Nat → Int32) (n : Nat → Nat) (day : Int32) (u v : Nat) : Prop := Vx T n day u ∧ Vx T n day v ∧ u ≠ v ∧ jnM T u v day = true
def Rch (T : Nat → Nat → Int32) (n : Nat → Nat) (day : Int32) (f x : Nat) : Prop := ∀ S : Nat → Prop, S f → (∀ u v, S u → Ed T n day u v → S v) → S x
section GRAPH
variable {T : Nat → Nat → Int32} {n : Nat → Nat} {day : Int32}
theorem Rch.refl {f : Nat} : Rch T n day f f := fun _ h _ => h
theorem Rch.step {f u v : Nat} (h : Rch T n day f u) (e : Ed T n day u v) : Rch T n day f v := fun S h0 hs => hs u v (h S h0 hs) e
theorem Rch.trans {f u v : Nat} (h1 : Rch T n day f u) (h2 : Rch T n day u v) : Rch T n day f v := fun S h0 hs => h2 S (h1 S h0 hs) hs
theorem Rch.vx {f x : Nat} (h0 : Vx T n day f) (h : Rch T n day f x) : Vx T n day x := h (Vx T n day) h0 (fun _ _ _ e => e.2.1)
theorem Rch.symm (hs : ∀ u v, Ed T n day u v → Ed T n day v u) {f x : Nat} (h : Rch T n day f x) : Rch T n day x f := h (fun y => Rch T n day y f) Rch.refl (fun u v hu e => (Rch.refl.step (hs u v e)).trans hu)
end GRAPH
noncomputable def cntP (S : Nat → Prop) : Nat → Nat
  | 0 => 0
  | m + 1 => cntP S m + @ite Nat (S m) (Classical.propDecidable _) 1 0
noncomputable def lstP (S : Nat → Prop) : Nat → Nat
  | 0 => 0
  | m + 1 => @ite Nat (∃ x, x < m ∧ S x) (Classical.propDecidable _) (lstP S m) m
theorem cntP_congr {S S' : Nat → Prop} : ∀ {m : Nat}, (∀ x, x < m → (S x ↔ S' x)) → cntP S m = cntP S' m
  | 0, _ => rfl
  | m + 1, h => by
    rw [cntP, cntP, cntP_congr (fun x hx => h x (by omega))]
    by_cases hS : S m
    · rw [if_pos hS, if_pos ((h m (by omega)).mp hS)]
    · rw [if_neg hS, if_neg (fun q => hS ((h m (by omega)).mpr q))]
theorem cntP_le {S : Nat → Prop} : ∀ {m : Nat}, cntP S m ≤ m
  | 0 => Nat.le_refl _
  | m + 1 => by
    have := cntP_le (S := S) (m := m)
    rw [cntP]
    split <;> omega
theorem cntP_lt {S : Nat → Prop} {y : Nat} (hy : ¬ S y) : ∀ {m : Nat}, y < m → cntP S m < m
  | 0, h => by omega
  | m + 1, h => by
    rw [cntP]
    by_cases e : y = m
    · subst e
      have := cntP_le (S := S) (m := y)
      rw [if_neg hy]; omega
    · have := cntP_lt hy (m := m) (by omega)
      split <;> omega
theorem cntP_pos {S : Nat → Prop} {y : Nat} (hy : S y) : ∀ {m : Nat}, y < m → 1 ≤ cntP S m
  | 0, h => by omega
  | m + 1, h => by
    rw [cntP]
    by_cases e : y = m
    · subst e
      rw [if_pos hy]; omega
    · have := cntP_pos hy (m := m) (by omega)
      omega
theorem cntP_add {S S' : Nat → Prop} {y : Nat} (hy : ¬ S y) (h : ∀ x, S' x ↔ (S x ∨ x = y)) : ∀ {m : Nat}, y < m → cntP S' m = cntP S m + 1
  | 0, q => by omega
  | m + 1, q => by
    rw [cntP, cntP]
    by_cases e : y = m
    · subst e
      rw [cntP_congr (S := S') (S' := S) (fun x hx => by rw [h]; exact ⟨fun z => z.elim id (fun z => absurd z (by omega)), Or.inl⟩), if_pos ((h y).mpr (Or.inr rfl)), if_neg hy]
    · rw [cntP_add hy h (m := m) (by omega)]
      by_cases hS : S m
      · rw [if_pos hS, if_pos ((h m).mpr (Or.inl hS))]
      · rw [if_neg hS, if_neg (fun z => ((h m).mp z).elim hS (fun z => e z.symm))]
theorem cntP_zero {S : Nat → Prop} : ∀ {m : Nat}, (∀ x, x < m → ¬ S x) → cntP S m = 0
  | 0, _ => rfl
  | m + 1, h => by rw [cntP, cntP_zero (fun x hx => h x (by omega)), if_neg (h m (by omega))]
theorem cntP_ext {S : Nat → Prop} {m k : Nat} (hk : m ≤ k) (h : ∀ x, m ≤ x → x < k → ¬ S x) : cntP S k = cntP S m := by
  induction k with
  | zero => rw [show m = 0 by omega]
  | succ k ih =>
    by_cases e : m = k + 1
    · rw [e]
    · rw [cntP, if_neg (h k (by omega) (by omega)), ih (by omega) (fun x h1 h2 => h x h1 (by omega)), Nat.add_zero]
theorem lstP_spec {S : Nat → Prop} : ∀ {m : Nat}, (∃ x, x < m ∧ S x) → S (lstP S m) ∧ lstP S m < m ∧ ∀ y, S y → lstP S m ≤ y
  | 0, h => by obtain ⟨x, h, _⟩ := h; omega
  | m + 1, h => by
    rw [lstP]
    by_cases e : ∃ x, x < m ∧ S x
    · rw [if_pos e]
      obtain ⟨h1, h2, h3⟩ := lstP_spec e
      exact ⟨h1, by omega, h3⟩
    · rw [if_neg e]
      obtain ⟨x, hx, hS⟩ := h
      have hxm : x = m := by
        rcases Nat.lt_or_ge x m with q | q
        · exact absurd ⟨x, q, hS⟩ e
        · omega
      subst hxm
      exact ⟨hS, by omega, fun y hy => by
        rcases Nat.lt_or_ge y x with q | q
        · exact absurd ⟨y, q, hy⟩ e
        · exact q⟩
theorem lstP_uniq {S : Nat → Prop} {m k : Nat} (hk : k < m) (hS : S k) (hl : ∀ y, y < k → ¬ S y) : lstP S m = k := by
  obtain ⟨h1, h2, h3⟩ := lstP_spec (S := S) ⟨k, hk, hS⟩
  have := h3 k hS
  rcases Nat.lt_or_ge (lstP S m) k with q | q
  · exact absurd h1 (hl _ q)
  · omega
theorem lstP_congr {S S' : Nat → Prop} {m : Nat} (he : ∃ x, x < m ∧ S x) (h : ∀ x, S x ↔ S' x) : lstP S m = lstP S' m := by
  rw [show S = S' from funext fun x => propext (h x)]
/-- the hoard's number, and its size, as known on a day -/
noncomputable def hdN (T : Nat → Nat → Int32) (n : Nat → Nat) (day : Int32) (k : Nat) : Nat := lstP (Rch T n day k) (n 1)
noncomputable def hsN (T : Nat → Nat → Int32) (n : Nat → Nat) (day : Int32) (k : Nat) : Nat := cntP (Rch T n day k) (n 1)
/-- edges have no direction -/
theorem i32_abs {x y : Int32} (hx : btw x 0 999 = true) (hy : btw y 0 999 = true) : (x - y).toInt = x.toInt - y.toInt ∧ 0 ≤ x.toInt ∧ x.toInt ≤ 999 ∧ 0 ≤ y.toInt ∧ y.toInt ≤ 999 := by
  have a := btw_t hx
  have b := btw_t hy
  have a1 : 0 ≤ x.toInt := Int32.le_iff_toInt_le.mp (Int32.not_lt.mp a.1)
  have a2 : x.toInt ≤ 999 := Int32.le_iff_toInt_le.mp (Int32.not_lt.mp a.2)
  have b1 : 0 ≤ y.toInt := Int32.le_iff_toInt_le.mp (Int32.not_lt.mp b.1)
  have b2 : y.toInt ≤ 999 := Int32.le_iff_toInt_le.mp (Int32.not_lt.mp b.2)
  refine ⟨?_, a1, a2, b1, b2⟩
  rw [Int32.toInt_sub, Int.bmod_eq_of_le (by omega) (by omega)]
theorem i32_lt {x y : Int32} : x < y ↔ x.toInt < y.toInt := Int32.lt_iff_toInt_lt
theorem i32_le {x y : Int32} : x ≤ y ↔ x.toInt ≤ y.toInt := Int32.le_iff_toInt_le
theorem i32_m10 : (-10 : Int32).toInt = -10 := rfl
theorem i32_10 : (10 : Int32).toInt = 10 := rfl
theorem i32_0 : (0 : Int32).toInt = 0 := rfl
theorem btw_sym {x y : Int32} (hx : btw x 0 999 = true) (hy : btw y 0 999 = true) : btw (x - y) (-10) 10 = btw (y - x) (-10) 10 := by
  obtain ⟨e1, h⟩ := i32_abs hx hy
  obtain ⟨e2, -⟩ := i32_abs hy hx
  have f1 : (x - y < -10) ↔ (10 < y - x) := by rw [i32_lt, i32_lt, e1, e2, i32_m10, i32_10]; omega
  have f2 : (10 < x - y) ↔ (y - x < -10) := by rw [i32_lt, i32_lt, e1, e2, i32_m10, i32_10]; omega
  simp only [btw, f1, f2, Bool.and_comm]
theorem abs_btw {x y : Int32} (hx : btw x 0 999 = true) (hy : btw y 0 999 = true) : (!decide (10 < (if 0 ≤ x - y then x - y else 0 - (x - y)))) = btw (x - y) (-10) 10 := by
  obtain ⟨e1, h⟩ := i32_abs hx hy
  have hz : (0 - (x - y)).toInt = -(x.toInt - y.toInt) := by
    rw [Int32.toInt_sub, e1, i32_0, Int.bmod_eq_of_le (by omega) (by omega)]; omega
  have f : (10 < (if 0 ≤ x - y then x - y else 0 - (x - y))) ↔ ((x - y < -10) ∨ (10 < x - y)) := by
    split
    · next q => rw [i32_le, i32_0, e1] at q; rw [i32_lt, i32_lt, e1, i32_m10, i32_10]; omega
    · next q => rw [i32_le, i32_0, e1] at q; rw [i32_lt, i32_lt, i32_lt, e1, hz, i32_m10, i32_10]; omega
  have f2 : decide (10 < (if 0 ≤ x - y then x - y else 0 - (x - y))) = (decide (x - y < -10) || decide (10 < x - y)) := by
    rw [← Bool.decide_or]; exact decide_eq_decide.mpr f
  rw [f2, btw, Bool.not_or]
theorem Ed.sym {T : Nat → Nat → Int32} {n : Nat → Nat} {day : Int32} (hn : n 1 ≤ 50) (hI : InvT T n) {u v : Nat} (h : Ed T n day u v) : Ed T n day v u := by
  obtain ⟨hu, hv, hne, hj⟩ := h
  refine ⟨hv, hu, fun q => hne q.symm, ?_⟩
  have iu := hI.2.1 u hu.1
  have iv := hI.2.1 v hv.1
  have ip := (hI.2.2.2.1 u v (Nat.lt_of_lt_of_le hu.1 hn) (Nat.lt_of_lt_of_le hv.1 hn) hne).1
  rw [← hj, jnM, jnM, btw_sym iu.1.1 iv.1.1, btw_sym iu.1.2 iv.1.2, ip]
  cases decide (T 8 v < T 7 u) <;> cases decide (T 8 u < T 7 v) <;> rfl
theorem Rch.sym {T : Nat → Nat → Int32} {n : Nat → Nat} {day : Int32} (hn : n 1 ≤ 50) (hI : InvT T n) {f x : Nat} (h : Rch T n day f x) : Rch T n day x f := Rch.symm (fun _ _ e => Ed.sym hn hI e) h
theorem Rch.same {T : Nat → Nat → Int32} {n : Nat → Nat} {day : Int32} (hn : n 1 ≤ 50) (hI : InvT T n) {f x : Nat} (h : Rch T n day f x) : Rch T n day f = Rch T n day x := funext fun y => propext ⟨fun q => (h.sym hn hI).trans q, fun q => h.trans q⟩
theorem hdN_le {T : Nat → Nat → Int32} {n : Nat → Nat} {day : Int32} {k : Nat} (hk : k < n 1) : hdN T n day k ≤ k := (lstP_spec ⟨k, hk, Rch.refl⟩).2.2 k Rch.refl
theorem hdN_r {T : Nat → Nat → Int32} {n : Nat → Nat} {day : Int32} {k : Nat} (hk : k < n 1) : Rch T n day k (hdN T n day k) := (lstP_spec ⟨k, hk, Rch.refl⟩).1
theorem hdN_same {T : Nat → Nat → Int32} {n : Nat → Nat} {day : Int32} (hn : n 1 ≤ 50) (hI : InvT T n) {k x : Nat} (h : Rch T n day k x) : hdN T n day k = hdN T n day x := by rw [hdN, hdN, h.same hn hI]
theorem hsN_same {T : Nat → Nat → Int32} {n : Nat → Nat} {day : Int32} (hn : n 1 ≤ 50) (hI : InvT T n) {k x : Nat} (h : Rch T n day k x) : hsN T n day k = hsN T n day x := by rw [hsN, hsN, h.same hn hI]
/-- the reference's marks -/
def RI (T : Nat → Nat → Int32) (n : Nat → Nat) (day : Int32) (f : Nat) (z : Nat → Int32) (ct : Nat) : Prop := (∀ x, x < n 1 → (z x = 0 ∨ z x = 1) ∧ (z x = 1 → Rch T n day f x)) ∧ z f = 1 ∧ ct = cntP (fun x => z x = 1) (n 1)
def Cl (T : Nat → Nat → Int32) (n : Nat → Nat) (day : Int32) (z : Nat → Int32) (a : Nat) : Prop := ∀ u, u < a → z u = 1 → ∀ v, Ed T n day u v → z v = 1
theorem upd_self {f : Nat → Int32} {k : Nat} {x : Int32} : upd f k x k = x := pk_us
theorem RI_0 {T : Nat → Nat → Int32} {n : Nat → Nat} {day : Int32} {f : Nat} {z : Nat → Int32} (hf : f < n 1) (h : ∀ x, x < n 1 → z x = b2 (decide (x = f))) : RI T n day f z 1 := by
  have e1 : ∀ x, x < n 1 → (z x = 1 ↔ x = f) := fun x hx => by
    rw [h x hx]
    by_cases e : x = f
    · simp [b2, e]
    · simp [b2, e]
  refine ⟨fun x hx => ⟨?_, fun q => by rw [(e1 x hx).mp q]; exact Rch.refl⟩, (e1 f hf).mpr rfl, ?_⟩
  · rw [h x hx]
    by_cases e : x = f
    · simp [b2, e]
    · simp [b2, e]
  · rw [cntP_congr (S' := fun x => x = f) e1, cntP_add (S := fun _ => False) (y := f) (fun q => q) (fun x => by simp) hf, cntP_zero (fun _ _ q => q)]
theorem RI_add {T : Nat → Nat → Int32} {n : Nat → Nat} {day : Int32} {f u v ct : Nat} {z : Nat → Int32} (h : RI T n day f z ct) (hu : z u = 1) (hul : u < n 1) (hv : ¬ z v = 1) (e : Ed T n day u v) : RI T n day f (upd z v 1) (ct + 1) := by
  obtain ⟨h1, h2, h3⟩ := h
  have hvl := e.2.1.1
  refine ⟨fun x hx => ?_, ?_, ?_⟩
  · by_cases q : x = v
    · subst q
      rw [pk_us]
      exact ⟨Or.inr rfl, fun _ => ((h1 u hul).2 hu).step e⟩
    · rw [pk_un q]; exact h1 x hx
  · by_cases q : f = v
    · subst q; exact pk_us
    · rw [pk_un q]; exact h2
  · have := cntP_add (S := fun x => z x = 1) (S' := fun x => upd z v 1 x = 1) (y := v) hv (fun x => by
      by_cases q : x = v
      · subst q; simp [pk_us]
      · simp [pk_un q, q]) hvl
    rw [h3]; exact this.symm
/-- closed marks are all that can be reached -/
theorem RI_all {T : Nat → Nat → Int32} {n : Nat → Nat} {day : Int32} {f ct : Nat} {z : Nat → Int32} (h : RI T n day f z ct) (hc : Cl T n day z (n 1)) : (∀ x, x < n 1 → (z x = 0 ∨ z x = 1) ∧ (z x = 1 ↔ Rch T n day f x)) ∧ ct = hsN T n day f := by
  have key : ∀ x, x < n 1 → (z x = 1 ↔ Rch T n day f x) := fun x hx => ⟨(h.1 x hx).2, fun q => q (fun y => z y = 1) h.2.1 (fun u v hu e => hc u e.1.1 hu v e)⟩
  exact ⟨fun x hx => ⟨(h.1 x hx).1, key x hx⟩, by rw [h.2.2, hsN]; exact cntP_congr key⟩
def poM (D : va_G) (cT : Nat → ClassId) (a : Nat → Nat) (T : Nat → Nat → Int32) (n : Nat → Nat) (F : (Nat → Int32) → Prop) (A : Nat → Prop) (H : Heap) : Prop := ∃ z1 : Nat → Int32, F z1 ∧ va_P D vwCl (modW cT a T n z1) H ∧ va_D A (modW cT a T n z1)
def poO (D : va_G) (cT : Nat → ClassId) (a : Nat → Nat) (b : Nat → Nat → Nat) (T : Nat → Nat → Int32) (n : Nat → Nat) (F : (Nat → Nat → Int32) → Prop) (A : Nat → Prop) (H : Heap) : Prop := ∃ P1 : Nat → Nat → Int32, F P1 ∧ va_P D vwCl (offW cT a b T P1 n) H ∧ va_D A (offW cT a b T P1 n)
theorem b2_vn (B : Bool) : vp_nar .boolean (b2 B) = b2 B := by cases B <;> rfl
section MYROWS2
variable {p : Program} {l : Launch} {e : Env} {R : Room} {s : State} {m : MethodId} {args : Array Value} {below : List Frame} {meth : Method} {c : Code} {H : Heap} {locs : List Loc} {cells slots : Nat} {Q : State → Prop}
variable {cc : ByteArray} {pc : Nat} {ls : Array Slot} {rest : List Value} {D : va_G} {cl : List vw_C} {A : Nat → Prop} {a : Nat} {tys : List (ClassId × FieldType)} {ws : va_W} {H0 : Heap} {cA : ClassId} {n : Nat} {f : Nat → Int32} {i x : Int32} {k : Nat}
theorem my_zast (hx : p.tables.exec = Jvm.exec) (hb : c.code = cc) (hK : va_K D cl tys s) (hP : va_P D cl ws H) (hD : va_D A ws) (hS : va_S A H0 H locs) (q0 t0 : Nat) (ha : ws[q0]? = some (a, .inl (cA, n, .inl f))) (ht : tys[t0]? = some (cA, .boolean)) (hi : i = nI k) (hk : k < n) (hn : n < 2 ^ 31) (hnar : vp_nar .boolean x = x) (hdg : decode cc pc = .ok (.bastore, 1)) (kk : ∀ (H1 : Heap) (locs1 : List Loc), va_P D cl (ws.set q0 (a, .inl (cA, n, .inl (upd f k x)))) H1 → va_D A (ws.set q0 (a, .inl (cA, n, .inl (upd f k x)))) → va_S A H0 H1 locs1 → W p l e R s m args below meth c H1 locs1 cells slots Q (F0 m (pc + 1) ls rest)) : W p l e R s m args below meth c H locs cells slots Q (F0 m pc ls (.int x :: .int i :: .ref a :: rest)) := by
  subst hi
  refine va_zast hx hb hK hP hD hS q0 t0 ha ht (vp_in_nI hk hn) hdg ?_
  rw [nI_clamp (Nat.lt_trans hk hn), hnar]
  exact kk
end MYROWS2
