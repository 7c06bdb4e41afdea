/-! the class: hoards, what counts, shares -/
def poQ (D : va_G) (cT : Nat → ClassId) (a : Nat → Nat) (T2 : Nat → Nat → Int32) (n2 : Nat → Nat) (A : Nat → Prop) (H : Heap) : Prop := ∃ (b1 : Nat → Nat → Nat) (P1 T1 : Nat → Nat → Int32) (n1 : Nat → Nat), (T1 = T2 ∧ n1 = n2 ∧ PR T1 (P1 0)) ∧ va_P D vwCl (offW cT a b1 T1 P1 n1) H ∧ va_D A (offW cT a b1 T1 P1 n1)
theorem day_le {T : Nat → Nat → Int32} {n : Nat → Nat} {day : Int32} (hI : InvT T n) (h : btw day 0 (T 0 0) = true) : ¬ 20000 < day := fun q => hI.1.2 (Int32.lt_of_lt_of_le q (Int32.not_lt.mp (btw_t h).2))
theorem now_btw {T : Nat → Nat → Int32} {n : Nat → Nat} (hI : InvT T n) : btw (T 0 0) 0 (T 0 0) = true := by simp [btw, hI.1.1, Int32.lt_irrefl]
theorem gh_sz {T Q : Nat → Nat → Int32} {n : Nat → Nat} {day i : Int32} (hn : n 1 ≤ 50) (hb : btw day 0 (T 0 0) = true) (hg : GH T n day Q) : hoN (n 1) (Q 2) (hoN (n 1) (Q 1) i) = szV T n i day := by
  cases h : isT (n 1) i with
  | false => rw [hoN_no h, hoN_no (isT_lo (by decide)), szV_no (by simp [knB, h])]
  | true =>
    obtain ⟨k, hk, rfl⟩ := isT_k h (by omega)
    by_cases hv : day < T 11 k
    · rw [(gh_size hn hg hk).2 (fun q => q.2 hv), szV_no (by simp [knB, nI_clamp (show k < 2 ^ 31 by omega), hv])]
    · rw [(gh_size hn hg hk).1 ⟨hk, hv⟩, szV_at hk hn (knB_at hk hn hb hv)]
theorem gh_cd {T Q : Nat → Nat → Int32} {n : Nat → Nat} {day i : Int32} (hn : n 1 ≤ 50) (hb : btw day 0 (T 0 0) = true) (hg : GH T n day Q) : (lctO T Q n i).isSome = cdB T n i day := by
  cases h : isT (n 1) i with
  | false => rw [lctO, h, cdB_no (by simp [knB, h])]; rfl
  | true =>
    obtain ⟨k, hk, rfl⟩ := isT_k h (by omega)
    by_cases hv : day < T 11 k
    · rw [(gh_lct hn hg hk).2 (fun q => q.2 hv), cdB_no (by simp [knB, nI_clamp (show k < 2 ^ 31 by omega), hv])]; rfl
    · rw [(gh_lct hn hg hk).1 ⟨hk, hv⟩, cdB_at hk hn (knB_at hk hn hb hv)]
theorem gh_rw {T Q : Nat → Nat → Int32} {n : Nat → Nat} {i pe : Int32} (hn : n 1 ≤ 50) (hI : InvT T n) (hp : isT 30 pe = true) (hg : GH T n (T 0 0) Q) : rwdV T Q n i pe = dsV T n i pe := by
  cases h : isT (n 1) i with
  | false => rw [rwdV, h, dsV_no (by simp [h])]; rfl
  | true =>
    obtain ⟨k, hk, rfl⟩ := isT_k h (by omega)
    rw [rwdV, h, if_pos rfl, (gh_lct hn hg hk).1 (now_vx hI hk), nI_clamp (by omega), dsV, if_pos (by simp [h, hp]), nI_clamp (by omega)]
    cases lcO T n k (nI (hsN T n (T 0 0) k)) <;> rfl
theorem gh_ho {T Q : Nat → Nat → Int32} {n : Nat → Nat} {i : Int32} (hn : n 1 ≤ 50) (hI : InvT T n) (hg : GH T n (T 0 0) Q) : hoN (n 1) (Q 1) i = hoV T n i := by
  cases h : isT (n 1) i with
  | false => rw [hoN_no h, hoV, if_neg (by rw [h]; decide)]
  | true =>
    obtain ⟨k, hk, rfl⟩ := isT_k h (by omega)
    rw [hoN_at hk (by omega), ((hg k (by omega)).1 (now_vx hI hk)).1, hoV_at hk hn]
theorem tri_s (M : Nat) : (M + 1) * M / 2 = M * (M - 1) / 2 + M := by
  cases M with
  | zero => rfl
  | succ m =>
    have e1 : (m + 1 + 1) * (m + 1) = (m + 1) * m + 2 * (m + 1) := by rw [Nat.add_mul (m + 1) 1 (m + 1), Nat.mul_add (m + 1) m 1]; omega
    rw [e1, show m + 1 - 1 = m from rfl, Nat.add_mul_div_left _ _ (by decide : 0 < 2)]
theorem tri_mono {M N : Nat} (h : M < N) : M * (M - 1) / 2 + M ≤ N * (N - 1) / 2 := by
  induction N with
  | zero => omega
  | succ N ih =>
    have e := tri_s N
    rw [show N + 1 - 1 = N from rfl, e]
    by_cases q : M = N
    · subst q; omega
    · have := ih (by omega); omega
theorem tri_inj {x y u v : Nat} (h1 : x ≠ y) (h2 : u ≠ v) (h : tri x y = tri u v) : (x = u ∧ y = v) ∨ (x = v ∧ y = u) := by
  unfold tri at h
  have a1 : min x y < max x y := by omega
  have a2 : min u v < max u v := by omega
  have e : max x y = max u v := by
    rcases Nat.lt_trichotomy (max x y) (max u v) with q | q | q
    · have := tri_mono q; omega
    · exact q
    · have := tri_mono q; omega
  have e2 : min x y = min u v := by rw [e] at h; omega
  omega
theorem tri_comm (x y : Nat) : tri x y = tri y x := by unfold tri; rw [Nat.max_comm, Nat.min_comm]
theorem PR_add {T : Nat → Nat → Int32} {pd : Nat → Int32} {x y : Nat} (h : PR T pd) (hx : x < 50) (hy : y < 50) (hxy : x ≠ y) (hw : ¬ T 0 0 = 1000000) : PR (paT T x y) (upd pd (tri x y) (T 0 0)) := by
  have e13 : (paT T x y) 13 = upd (upd (T 13) (50 * x + y) (T 0 0)) (50 * y + x) (T 0 0) := rfl
  intro u v hu hv huv
  by_cases q : tri u v = tri x y
  · have hval : (paT T x y) 13 (50 * u + v) = T 0 0 := by
      rw [e13]
      rcases tri_inj huv hxy q with ⟨h1, h2⟩ | ⟨h1, h2⟩
      · subst h1; subst h2
        by_cases z : 50 * u + v = 50 * v + u
        · rw [z, pk_us]
        · rw [pk_un z, pk_us]
      · subst h1; subst h2; exact pk_us
    rw [q, pk_us, hval]
    exact ⟨fun z => absurd z hw, fun _ => rfl⟩
  · have hval : (paT T x y) 13 (50 * u + v) = T 13 (50 * u + v) := by
      rw [e13, pk_un (fun z => q (by rw [show u = y by omega, show v = x by omega]; exact tri_comm _ _)), pk_un (fun z => q (by rw [show u = x by omega, show v = y by omega]))]
    rw [pk_un q, hval]
    exact h u v hu hv huv
theorem now_ne {T : Nat → Nat → Int32} {n : Nat → Nat} (hI : InvT T n) : ¬ T 0 0 = 1000000 := fun q => hI.1.2 (by rw [q]; decide)
theorem pr_m1 {T : Nat → Nat → Int32} {n : Nat → Nat} {pd : Nat → Int32} (hI : InvT T n) (h : PR T pd) {x y : Nat} (hx : x < 50) (hy : y < 50) (hxy : x ≠ y) : pd (tri x y) = -1 ↔ T 13 (50 * x + y) = 1000000 := by
  have a := h x y hx hy hxy
  have b := (hI.2.2.2.1 x y hx hy hxy).2
  constructor
  · intro q
    by_cases z : T 13 (50 * x + y) = 1000000
    · exact z
    · have := a.2 z
      rw [q] at this
      have h2 := (btw_t (b.resolve_left z)).1
      rw [← this] at h2
      exact absurd (by decide) h2
  · exact a.1
theorem prV_ne {m : Nat} {i j : Int32} (hm : m ≤ 50) (h : ¬ prV m i j = -1) : ∃ x y, x < m ∧ y < m ∧ x ≠ y ∧ i = nI x ∧ j = nI y ∧ prV m i j = nI (tri x y) := by
  by_cases q : (isT m i && (isT m j && !decide (i = j))) = true
  · simp only [Bool.and_eq_true, Bool.not_eq_true', decide_eq_false_iff_not] at q
    obtain ⟨x, hx, rfl⟩ := isT_k q.1 (by omega)
    obtain ⟨y, hy, rfl⟩ := isT_k q.2.1 (by omega)
    have hne : x ≠ y := fun z => q.2.2 (by rw [z])
    exact ⟨x, y, hx, hy, hne, rfl, rfl, prV_nI hx hy (by omega) hne⟩
  · exact absurd (by rw [prV, if_neg q]) h
theorem prV_m1 {m : Nat} {i j : Int32} (hm : m ≤ 50) (h : prV m i j = -1) : (isT m i && (isT m j && !decide (i = j))) = false := by
  cases q : (isT m i && (isT m j && !decide (i = j))) with
  | false => rfl
  | true =>
    simp only [Bool.and_eq_true, Bool.not_eq_true', decide_eq_false_iff_not] at q
    obtain ⟨x, hx, rfl⟩ := isT_k q.1 (by omega)
    obtain ⟨y, hy, rfl⟩ := isT_k q.2.1 (by omega)
    have hne : x ≠ y := fun z => q.2.2 (by rw [z])
    rw [prV_nI hx hy (by omega) hne] at h
    exact absurd h (nI_ne_m1 (Nat.lt_trans (tri_lt hx hy hm hne) (by decide)))
theorem paB_no {T : Nat → Nat → Int32} {n : Nat → Nat} {i j : Int32} (h : (isT (n 1) i && (isT (n 1) j && !decide (i = j))) = false) : paB T n i j = false := by
  rw [paB]
  cases a : isT (n 1) i <;> cases b : isT (n 1) j <;> simp_all
theorem paB_at {T : Nat → Nat → Int32} {n : Nat → Nat} {x y : Nat} (hx : x < n 1) (hy : y < n 1) (hn : n 1 ≤ 50) (hne : x ≠ y) : paB T n (nI x) (nI y) = decide (T 13 (50 * x + y) = 1000000) := by
  have : ¬ nI x = nI y := fun q => hne ((nI_eq (by omega) (by omega)).mp q)
  simp [paB, isT_nI hx (show n 1 < 2 ^ 31 by omega), isT_nI hy (show n 1 < 2 ^ 31 by omega), this, nI_clamp (show x < 2 ^ 31 by omega), nI_clamp (show y < 2 ^ 31 by omega)]
theorem owB_of {n : Nat → Nat} {pl d pe : Int32} : owB n pl d pe = ((btw pl 0 99 && (btw d 0 20000 && btw pe 0 29)) && !decide (nI (n 4) = 100)) := by
  rw [owB]; cases btw pl 0 99 <;> cases btw d 0 20000 <;> cases btw pe 0 29 <;> rfl
