/-! lemmas for the reference's search -/
theorem upd_lt {z g : Nat → Int32} {j : Nat} {v : Int32} (h : ∀ x, x < j → z x = g x) (e : v = g j) : ∀ x, x < j + 1 → upd z j v x = g x := fun x hx => by
  by_cases q : x = j
  · subst q; rw [pk_us]; exact e
  · rw [pk_un q]; exact h x (by omega)
theorem ri_one {T : Nat → Nat → Int32} {n : Nat → Nat} {day : Int32} {f ct x : Nat} {z : Nat → Int32} (h : RI T n day f z ct) (hx : x < n 1) (hz : ¬ z x = 0) : z x = 1 := ((h.1 x hx).1).resolve_left hz
theorem Cl_succ {T : Nat → Nat → Int32} {n : Nat → Nat} {day : Int32} {u : Nat} {z : Nat → Int32} (h : Cl T n day z u) (hs : z u = 1 → ∀ v, Ed T n day u v → z v = 1) : Cl T n day z (u + 1) := fun x hx hz v e => by
  by_cases q : x = u
  · subst q; exact hs hz v e
  · exact h x (by omega) hz v e
theorem Cw_succ {T : Nat → Nat → Int32} {n : Nat → Nat} {day : Int32} {u w : Nat} {z : Nat → Int32} (h : ∀ v, v < w → z u = 1 → Ed T n day u v → z v = 1) (hs : z u = 1 → Ed T n day u w → z w = 1) : ∀ v, v < w + 1 → z u = 1 → Ed T n day u v → z v = 1 := fun x hx hz e => by
  by_cases q : x = w
  · subst q; exact hs hz e
  · exact h x (by omega) hz e
theorem pass_meas {T : Nat → Nat → Int32} {n : Nat → Nat} {day : Int32} {f ct ct1 fuel : Nat} {m1 : Bool} {z : Nat → Int32} (h : RI T n day f z ct1) (h1 : m1 = false → ct1 = ct) (h2 : m1 = true → ct < ct1) (hf : 2 * (n 1 - ct) + 1 < fuel + 1) : 2 * (n 1 - ct1) + (if m1 = true then 1 else 0) < fuel := by
  have := cntP_le (S := fun x => z x = 1) (m := n 1)
  rw [← h.2.2] at this
  cases m1 with
  | false => have := h1 rfl; simp; omega
  | true => have := h2 rfl; simp; omega
theorem ri_le {ct ct2 : Nat} {m2 : Bool} (h1 : m2 = false → ct2 = ct) (h2 : m2 = true → ct < ct2) : ct ≤ ct2 := by
  cases m2 with
  | false => have := h1 rfl; omega
  | true => have := h2 rfl; omega
theorem ri_ed {T : Nat → Nat → Int32} {n : Nat → Nat} {day : Int32} {f ct u w : Nat} {z : Nat → Int32} (h : RI T n day f z ct) (hf : Vx T n day f) (hu : u < n 1) (hw : w < n 1) (hzu : z u = 1) (hzw : z w = 0) (hd : ¬ day < T 11 w) (hj : jnM T u w day = true) : Ed T n day u w := ⟨((h.1 u hu).2 hzu).vx hf, ⟨hw, hd⟩, fun q => by rw [q, hzw] at hzu; exact absurd hzu (by decide), hj⟩
noncomputable def hoV (T : Nat → Nat → Int32) (n : Nat → Nat) (i : Int32) : Int32 := @ite Int32 (isT (n 1) i = true) (Classical.propDecidable _) (nI (hdN T n (T 0 0) i.toNatClampNeg)) (-1)
noncomputable def szV (T : Nat → Nat → Int32) (n : Nat → Nat) (i day : Int32) : Int32 := @ite Int32 (knB T n i day = true) (Classical.propDecidable _) (nI (hsN T n day i.toNatClampNeg)) (-1)
noncomputable def cdB (T : Nat → Nat → Int32) (n : Nat → Nat) (i day : Int32) : Bool := knB T n i day && (lcO T n i.toNatClampNeg (nI (hsN T n day i.toNatClampNeg))).isSome
theorem knB_k {T : Nat → Nat → Int32} {n : Nat → Nat} {i day : Int32} (h : knB T n i day = true) (hn : n 1 ≤ 50) : ∃ k, k < n 1 ∧ i = nI k ∧ (btw day 0 (T 0 0) = true ∧ ¬ day < T 11 k) := by
  simp only [knB, Bool.and_eq_true] at h
  obtain ⟨k, hk, e⟩ := isT_k h.1 (by omega)
  subst e
  rw [nI_clamp (by omega)] at h
  exact ⟨k, hk, rfl, h.2.1, by simpa using h.2.2⟩
theorem now_vx {T : Nat → Nat → Int32} {n : Nat → Nat} (hI : InvT T n) {k : Nat} (hk : k < n 1) : Vx T n (T 0 0) k := ⟨hk, (btw_t (hI.2.1 k hk).2.2.2).2⟩
theorem knB_now {T : Nat → Nat → Int32} {n : Nat → Nat} (hI : InvT T n) (i : Int32) (hn : n 1 ≤ 50) : knB T n i (T 0 0) = isT (n 1) i := by
  cases h : isT (n 1) i with
  | false => simp [knB, h]
  | true =>
    obtain ⟨k, hk, e⟩ := isT_k h (by omega)
    subst e
    have h1 := (now_vx hI hk).2
    have h2 : btw (T 0 0) 0 (T 0 0) = true := by simp [btw, hI.1.1, Int32.lt_irrefl]
    simp only [knB, h, nI_clamp (show k < 2 ^ 31 by omega), h2, h1, decide_false, Bool.not_false, Bool.and_self]
/-- what counts, by the law's parts -/
theorem lc_none {T : Nat → Nat → Int32} {n : Nat → Nat} {k : Nat} {fe : Int32} (h : ifN T (T 10 k) (n 0) = none) : lcO T n k fe = none := by rw [lcO, h]
theorem lc_some {T : Nat → Nat → Int32} {n : Nat → Nat} {k q : Nat} {fe : Int32} (h : ifN T (T 10 k) (n 0) = some q) : (lcO T n k fe).isSome = covB (T 17 q) (T 18 q) (T 20 q) (T 4 k) (T 5 k) (T 8 k) (T 10 k) fe := by
  rw [lcO, h]
  dsimp only
  split
  · next g => rw [g]; rfl
  · next g => simpa using g
