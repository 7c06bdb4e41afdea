/-! the class's gathering of hoards -/
/-- the pairs parted, as the class holds them -/
def PR (T : Nat → Nat → Int32) (pd : Nat → Int32) : Prop := ∀ x y, x < 50 → y < 50 → x ≠ y → (T 13 (50 * x + y) = 1000000 → pd (tri x y) = -1) ∧ (¬ T 13 (50 * x + y) = 1000000 → pd (tri x y) = T 13 (50 * x + y))
theorem jn_eq {T : Nat → Nat → Int32} {n : Nat → Nat} {pd : Nat → Int32} {day : Int32} (hn : n 1 ≤ 50) (hI : InvT T n) (hp : PR T pd) (hd : ¬ 20000 < day) {x y : Nat} (hx : x < n 1) (hy : y < n 1) (hne : x ≠ y) : jnB T pd x y day = jnM T x y day := by
  have ix := hI.2.1 x hx
  have iy := hI.2.1 y hy
  have ip := hI.2.2.2.1 x y (by omega) (by omega) hne
  have hq := hp x y (by omega) (by omega) hne
  have key : (decide (pd (tri x y) = -1) || !decide (pd (tri x y) ≤ day)) = !decide (T 13 (50 * x + y) ≤ day) := by
    by_cases h : T 13 (50 * x + y) = 1000000
    · have h1 : ¬ T 13 (50 * x + y) ≤ day := fun q => by
        rw [h] at q
        have a1 := Int32.le_iff_toInt_le.mp q
        have a2 := Int32.le_iff_toInt_le.mp (Int32.not_lt.mp hd)
        have e1 : (1000000 : Int32).toInt = 1000000 := rfl
        have e2 : (20000 : Int32).toInt = 20000 := rfl
        omega
      simp [hq.1 h, h1]
    · have h2 := (ip.2.resolve_left h)
      have h3 : ¬ T 13 (50 * x + y) = -1 := fun q => by
        have := (btw_t h2).1
        rw [q] at this
        exact this (by decide)
      simp [hq.2 h, h3]
  rw [jnB, nearB, abs_btw ix.1.1 iy.1.1, abs_btw ix.1.2 iy.1.2, key, jnM]
  simp only [Bool.and_assoc]
theorem kb_le {T : Nat → Nat → Int32} {day : Int32} : ∀ {m : Nat}, kbN T day m ≤ m
  | 0 => Nat.le_refl _
  | m + 1 => by
    have := kb_le (T := T) (day := day) (m := m)
    rw [kbN]
    split <;> omega
theorem kb_in {T : Nat → Nat → Int32} {day : Int32} (hmo : ∀ i j, i ≤ j → ∀ m, j < m → ¬ T 11 j < T 11 i) : ∀ {m x : Nat}, x < m → (x < kbN T day m ↔ ¬ day < T 11 x)
  | 0, x, h => by omega
  | m + 1, x, h => by
    rw [kbN]
    by_cases hd : day < T 11 m
    · rw [if_pos hd]
      by_cases e : x = m
      · subst e
        have := kb_le (T := T) (day := day) (m := x)
        exact ⟨fun q => by omega, fun q => absurd hd q⟩
      · exact kb_in hmo (m := m) (by omega)
    · rw [if_neg hd]
      exact ⟨fun _ q => hd (by
        have h1 := hmo x m (by omega) (m + 1) (by omega)
        have h2 := Int32.not_lt.mp h1
        exact Int32.lt_of_lt_of_le q h2), fun _ => h⟩
theorem kb_vx {T : Nat → Nat → Int32} {n : Nat → Nat} {day : Int32} (hI : InvT T n) (x : Nat) : x < kbN T day (n 1) ↔ Vx T n day x := by
  have key : ∀ m, m ≤ n 1 → ∀ x, x < m → (x < kbN T day m ↔ ¬ day < T 11 x) := by
    intro m
    induction m with
    | zero => intro _ x h; omega
    | succ m ih =>
      intro hm x hx
      rw [kbN]
      by_cases hd : day < T 11 m
      · rw [if_pos hd]
        by_cases e : x = m
        · subst e
          have := kb_le (T := T) (day := day) (m := x)
          exact ⟨fun q => by omega, fun q => absurd hd q⟩
        · exact ih (by omega) x (by omega)
      · rw [if_neg hd]
        exact ⟨fun _ q => hd (by
          have h1 := hI.2.2.1 x m (by omega) (by omega)
          exact Int32.lt_of_lt_of_le q (Int32.not_lt.mp h1)), fun _ => hx⟩
  constructor
  · intro h
    have h1 := kb_le (T := T) (day := day) (m := n 1)
    exact ⟨by omega, (key (n 1) (Nat.le_refl _) x (by omega)).mp h⟩
  · intro h
    exact (key (n 1) (Nat.le_refl _) x h.1).mpr h.2
/-- what the class has gathered, below number j -/
def HH (T : Nat → Nat → Int32) (n : Nat → Nat) (day : Int32) (K j : Nat) (h : Nat → Int32) : Prop := ∀ x, x < 50 → (x < K → hdN T n day x < j → h x = nI (hdN T n day x)) ∧ ((x < K → ¬ hdN T n day x < j) → h x = -1)
def GI (T : Nat → Nat → Int32) (n : Nat → Nat) (day : Int32) (K j : Nat) (P Q : Nat → Nat → Int32) (sz : Nat) : Prop := (Q 0 = P 0 ∧ Q 2 = P 2) ∧ (∀ i, i < sz → ∃ x, Q 3 i = nI x ∧ x < K ∧ Q 1 x = nI j) ∧ (∀ x, x < 50 → Q 1 x = nI j → (x < K ∧ Rch T n day j x ∧ ∃ i, i < sz ∧ Q 3 i = nI x)) ∧ (∀ x, x < 50 → ¬ Q 1 x = nI j → Q 1 x = P 1 x) ∧ sz = cntP (fun x => Q 1 x = nI j) 50 ∧ Q 1 j = nI j
def GC (T : Nat → Nat → Int32) (day : Int32) (K j : Nat) (Q : Nat → Nat → Int32) (d : Nat) : Prop := ∀ i, i < d → ∀ x, Q 3 i = nI x → x < K → ∀ y, j < y → y < K → jnM T x y day = true → ¬ Q 1 y = -1
def GP (T : Nat → Nat → Int32) (day : Int32) (K j : Nat) (Q : Nat → Nat → Int32) (d w : Nat) : Prop := ∀ x, Q 3 d = nI x → x < K → ∀ y, j < y → y < w → jnM T x y day = true → ¬ Q 1 y = -1
section GATHER
variable {T P Q : Nat → Nat → Int32} {n : Nat → Nat} {day : Int32} {K j sz d w : Nat}
theorem HH_ne (hn : n 1 ≤ 50) (hK : ∀ x, x < K ↔ Vx T n day x) (h : HH T n day K j (P 1)) (hj : j < 50) {x : Nat} (hx : x < 50) : ¬ P 1 x = nI j := by
  intro q
  by_cases e : x < K ∧ hdN T n day x < j
  · have := (h x hx).1 e.1 e.2
    rw [this] at q
    have h2 := nat_eq q (by omega) (by omega)
    omega
  · have := (h x hx).2 (fun a b => e ⟨a, b⟩)
    rw [this] at q
    exact nI_ne_m1 (by omega) q.symm
theorem GI_0 (hn : n 1 ≤ 50) (hK : ∀ x, x < K ↔ Vx T n day x) (h : HH T n day K j (P 1)) (hjK : j < K) : GI T n day K j P (va_up (va_up P 1 (upd (P 1) j (nI j))) 3 (upd (P 3) 0 (nI j))) 1 := by
  have hj : j < n 1 := ((hK j).mp hjK).1
  have hS : ∀ x, x < 50 → ((upd (P 1) j (nI j)) x = nI j ↔ x = j) := fun x hx => by
    by_cases e : x = j
    · subst e; simp [pk_us]
    · rw [pk_un e]; exact ⟨fun q => absurd q (HH_ne hn hK h (by omega) hx), fun q => absurd q e⟩
  refine ⟨⟨rfl, rfl⟩, ?_, ?_, ?_, ?_, pk_us⟩
  · intro i hi
    rw [show i = 0 by omega]
    exact ⟨j, (show upd (P 3) 0 (nI j) 0 = nI j from pk_us), hjK, (show upd (P 1) j (nI j) j = nI j from pk_us)⟩
  · intro x hx q
    have e := (hS x hx).mp q
    subst e
    exact ⟨hjK, Rch.refl, 0, by omega, (show upd (P 3) 0 (nI x) 0 = nI x from pk_us)⟩
  · intro x hx q
    have e : x ≠ j := fun e => q ((hS x hx).mpr e)
    exact pk_un e
  · show 1 = cntP (fun x => upd (P 1) j (nI j) x = nI j) 50
    rw [cntP_congr (S' := fun x => x = j) hS, cntP_add (S := fun _ => False) (y := j) (fun q => q) (fun x => by simp) (by omega), cntP_zero (fun _ _ q => q)]
theorem GI_add (hn : n 1 ≤ 50) (hK : ∀ x, x < K ↔ Vx T n day x) (h : GI T n day K j P Q sz) {x : Nat} (hx : x < K) (hQx : Q 1 x = nI j) (hw : w < K) (hQw : Q 1 w = -1) (he : jnM T x w day = true) (hj : j < 50) : GI T n day K j P (va_up (va_up Q 1 (upd (Q 1) w (nI j))) 3 (upd (Q 3) sz (nI w))) (sz + 1) := by
  obtain ⟨⟨h1, h2⟩, h3, h4, h5, h6, h7⟩ := h
  have hwn : w < n 1 := ((hK w).mp hw).1
  have hxn : x < n 1 := ((hK x).mp hx).1
  have hm : ¬ Q 1 w = nI j := fun q => by rw [hQw] at q; exact nI_ne_m1 (by omega) q.symm
  have hxw : x ≠ w := fun q => hm (by rw [← q]; exact hQx)
  refine ⟨⟨h1, h2⟩, ?_, ?_, ?_, ?_, ?_⟩
  · intro i hi
    by_cases e : i = sz
    · subst e
      exact ⟨w, pk_us, hw, pk_us⟩
    · obtain ⟨y, y1, y2, y3⟩ := h3 i (by omega)
      refine ⟨y, (pk_un e).trans y1, y2, ?_⟩
      show upd (Q 1) w (nI j) y = nI j
      by_cases ey : y = w
      · subst ey; exact pk_us
      · rw [pk_un ey]; exact y3
  · intro y hy q
    by_cases ey : y = w
    · subst ey
      exact ⟨hw, (h4 x (by omega) hQx).2.1.step ⟨(hK x).mp hx, (hK y).mp hw, hxw, he⟩, sz, by omega, pk_us⟩
    · have q' : Q 1 y = nI j := by rw [← q]; exact (pk_un ey).symm
      obtain ⟨a1, a2, i, a3, a4⟩ := h4 y hy q'
      exact ⟨a1, a2, i, by omega, (pk_un (by omega)).trans a4⟩
  · intro y hy q
    have ey : y ≠ w := fun e => q (by rw [e]; exact pk_us)
    have q' : ¬ Q 1 y = nI j := fun z => q ((pk_un ey).trans z)
    exact (pk_un ey).trans (h5 y hy q')
  · show sz + 1 = cntP (fun y => upd (Q 1) w (nI j) y = nI j) 50
    have := cntP_add (S := fun y => Q 1 y = nI j) (S' := fun y => upd (Q 1) w (nI j) y = nI j) (y := w) hm (fun y => by
      by_cases e : y = w
      · subst e; simp [pk_us]
      · simp [pk_un e, e]) (m := 50) (by omega)
    rw [this, ← h6]
  · show upd (Q 1) w (nI j) j = nI j
    by_cases e : j = w
    · subst e; exact pk_us
    · rw [pk_un e]; exact h7
theorem GC_add (hsz : d ≤ sz) (hj : j < 50) (h : GC T day K j Q d) : GC T day K j (va_up (va_up Q 1 (upd (Q 1) w (nI j))) 3 (upd (Q 3) sz (nI w))) d := by
  intro i hi x hx hxK y h1 h2 h3
  have hx' : Q 3 i = nI x := by rw [← hx]; exact (pk_un (by omega)).symm
  show ¬ upd (Q 1) w (nI j) y = -1
  by_cases e : y = w
  · subst e; rw [pk_us]; exact nI_ne_m1 (by omega)
  · rw [pk_un e]; exact h i hi x hx' hxK y h1 h2 h3
theorem GP_add (hsz : d < sz) (hj : j < 50) (h : GP T day K j Q d w) : GP T day K j (va_up (va_up Q 1 (upd (Q 1) w (nI j))) 3 (upd (Q 3) sz (nI w))) d (w + 1) := by
  intro x hx hxK y h1 h2 h3
  have hx' : Q 3 d = nI x := by rw [← hx]; exact (pk_un (by omega)).symm
  show ¬ upd (Q 1) w (nI j) y = -1
  by_cases e : y = w
  · subst e; rw [pk_us]; exact nI_ne_m1 (by omega)
  · rw [pk_un e]; exact h x hx' hxK y h1 (by omega) h3
theorem GP_skip (h : GP T day K j Q d w) (hs : ∀ x, Q 3 d = nI x → x < K → jnM T x w day = true → ¬ Q 1 w = -1) : GP T day K j Q d (w + 1) := by
  intro x hx hxK y h1 h2 h3
  by_cases e : y = w
  · subst e; exact hs x hx hxK h3
  · exact h x hx hxK y h1 (by omega) h3
theorem GC_succ (h : GC T day K j Q d) (hp : GP T day K j Q d K) : GC T day K j Q (d + 1) := by
  intro i hi x hx hxK y h1 h2 h3
  by_cases e : i = d
  · subst e; exact hp x hx hxK y h1 h2 h3
  · exact h i (by omega) x hx hxK y h1 h2 h3
theorem GI_le (h : GI T n day K j P Q sz) : sz ≤ 50 := by rw [h.2.2.2.2.1]; exact cntP_le
theorem GI_free (h : GI T n day K j P Q sz) (hj : j < 50) (hw : w < 50) (hQ : Q 1 w = -1) : sz < 50 := by
  rw [h.2.2.2.2.1]
  exact cntP_lt (S := fun x => Q 1 x = nI j) (y := w) (fun q => by rw [hQ] at q; exact nI_ne_m1 (by omega) q.symm) hw
theorem GI_end (hn : n 1 ≤ 50) (hI : InvT T n) (hK : ∀ x, x < K ↔ Vx T n day x) (hh : HH T n day K j (P 1)) (hjK : j < K) (hjd : hdN T n day j = j) (h : GI T n day K j P Q sz) (hc : GC T day K j Q sz) : sz = hsN T n day j ∧ HH T n day K (j + 1) (Q 1) := by
  have hjn : j < n 1 := ((hK j).mp hjK).1
  have hjV := (hK j).mp hjK
  have key : ∀ x, Rch T n day j x → x < 50 ∧ Q 1 x = nI j := fun x q => by
    refine q (fun y => y < 50 ∧ Q 1 y = nI j) ⟨by omega, h.2.2.2.2.2⟩ ?_
    intro u v hu e
    obtain ⟨u1, u2, i, u3, u4⟩ := h.2.2.1 u hu.1 hu.2
    have hvn := e.2.1.1
    have hv50 : v < 50 := by omega
    have hrv : Rch T n day j v := u2.step e
    have hdv : hdN T n day v = j := by rw [← hdN_same hn hI hrv, hjd]
    have hvj : j ≤ v := by have := hdN_le (T := T) (day := day) hvn; omega
    refine ⟨hv50, ?_⟩
    by_cases ev : v = j
    · subst ev; exact h.2.2.2.2.2
    · have h1 := hc i u3 u u4 u1 v (by omega) ((hK v).mpr e.2.1) e.2.2.2
      by_cases hq : Q 1 v = nI j
      · exact hq
      · have h2 := h.2.2.2.1 v hv50 hq
        have h3 := (hh v hv50).2 (fun _ => by omega)
        exact absurd (h2.trans h3) h1
  constructor
  · rw [h.2.2.2.2.1, cntP_congr (S' := Rch T n day j) (fun x hx => ⟨fun q => (h.2.2.1 x hx q).2.1, fun q => (key x q).2⟩), cntP_ext hn (fun x h1 _ q => by have := (q.vx hjV).1; omega)]
    rfl
  · intro x hx
    constructor
    · intro hxK hlt
      have hxn : x < n 1 := ((hK x).mp hxK).1
      by_cases e : hdN T n day x = j
      · have h1 : Rch T n day x j := by have := hdN_r (T := T) (day := day) hxn; rwa [e] at this
        rw [e]; exact (key x (h1.sym hn hI)).2
      · have h2 : ¬ Q 1 x = nI j := fun q => e (by
          have := (h.2.2.1 x hx q).2.1
          rw [← hdN_same hn hI this, hjd])
        rw [h.2.2.2.1 x hx h2]
        exact (hh x hx).1 hxK (by omega)
    · intro hno
      have h2 : ¬ Q 1 x = nI j := fun q => by
        have h3 := h.2.2.1 x hx q
        have h4 : hdN T n day x = j := by rw [← hdN_same hn hI h3.2.1, hjd]
        exact hno h3.1 (by omega)
      rw [h.2.2.2.1 x hx h2]
      exact (hh x hx).2 (fun a => by have := hno a; omega)
theorem HH_skip (hn : n 1 ≤ 50) (hK : ∀ x, x < K ↔ Vx T n day x) {h : Nat → Int32} (hh : HH T n day K j h) (hjK : j < K) (hne : ¬ h j = -1) (hI : InvT T n) : HH T n day K (j + 1) h := by
  have hjn : j < n 1 := ((hK j).mp hjK).1
  have hlt : hdN T n day j < j := by
    rcases Nat.lt_or_ge (hdN T n day j) j with q | q
    · exact q
    · exact absurd ((hh j (by omega)).2 (fun _ => by omega)) hne
  intro x hx
  constructor
  · intro hxK hl
    by_cases e : hdN T n day x = j
    · have hxn : x < n 1 := ((hK x).mp hxK).1
      have h1 : Rch T n day x j := by have := hdN_r (T := T) (day := day) hxn; rwa [e] at this
      have h2 := hdN_same hn hI h1
      omega
    · exact (hh x hx).1 hxK (by omega)
  · intro hno
    exact (hh x hx).2 (fun a => by have := hno a; omega)
theorem HH_eq (hK : ∀ x, x < K ↔ Vx T n day x) {h : Nat → Int32} (hn : n 1 ≤ 50) (hh : HH T n day K j h) (hjK : j < K) (he : h j = -1) : hdN T n day j = j := by
  have hjn : j < n 1 := ((hK j).mp hjK).1
  have hle := hdN_le (T := T) (day := day) hjn
  rcases Nat.lt_or_ge (hdN T n day j) j with q | q
  · have := (hh j (by omega)).1 hjK q
    rw [he] at this
    exact absurd this.symm (nI_ne_m1 (by omega))
  · omega
end GATHER
/-- what is gathered: the hoard of each find known, and its size -/
def GH (T : Nat → Nat → Int32) (n : Nat → Nat) (day : Int32) (Q : Nat → Nat → Int32) : Prop := ∀ x, x < 50 → (Vx T n day x → Q 1 x = nI (hdN T n day x) ∧ Q 2 (hdN T n day x) = nI (hsN T n day x)) ∧ (¬ Vx T n day x → Q 1 x = -1)
theorem hsN_le {T : Nat → Nat → Int32} {n : Nat → Nat} {day : Int32} {k : Nat} : hsN T n day k ≤ n 1 := cntP_le
theorem gh_size {T Q : Nat → Nat → Int32} {n : Nat → Nat} {day : Int32} (hn : n 1 ≤ 50) (hg : GH T n day Q) {k : Nat} (hk : k < n 1) : (Vx T n day k → hoN (n 1) (Q 2) (hoN (n 1) (Q 1) (nI k)) = nI (hsN T n day k)) ∧ (¬ Vx T n day k → hoN (n 1) (Q 2) (hoN (n 1) (Q 1) (nI k)) = -1) := by
  have g := hg k (by omega)
  constructor
  · intro hv
    have hl : hdN T n day k < n 1 := Nat.lt_of_le_of_lt (hdN_le hk) hk
    rw [hoN_at hk (by omega), (g.1 hv).1, hoN_at hl (by omega), (g.1 hv).2]
  · intro hv
    rw [hoN_at hk (by omega), g.2 hv]
    exact hoN_no (isT_lo (by decide))
theorem gh_lct {T Q : Nat → Nat → Int32} {n : Nat → Nat} {day : Int32} (hn : n 1 ≤ 50) (hg : GH T n day Q) {k : Nat} (hk : k < n 1) : (Vx T n day k → lctO T Q n (nI k) = lcO T n k (nI (hsN T n day k))) ∧ (¬ Vx T n day k → lctO T Q n (nI k) = none) := by
  have g := gh_size hn hg hk
  rw [lctO_at hk hn]
  rw [hoN_at hk (by omega)] at g
  constructor
  · intro hv
    have hl := hsN_le (T := T) (n := n) (day := day) (k := k)
    rw [g.1 hv, if_neg (nI_ne_m1 (by omega))]
  · intro hv
    rw [g.2 hv, if_pos rfl]
