/-! joins: a call that writes one cell of a world -/
theorem va_P.at1 {D : va_G} {cl : List vw_C} {ws : va_W} {H : Heap} {k : Nat} {q : Nat × va_E} (h : va_P D cl ws H) (he : ws[k]? = some q) : va_P D cl [q] H := va_P.of (fun x hx => by rw [List.mem_singleton.mp hx]; exact h k q he)
theorem va_D.at1 {A : Nat → Prop} {ws : va_W} {k : Nat} {q : Nat × va_E} (h : va_D A ws) (he : ws[k]? = some q) : va_D A [q] := by
  refine ⟨fun i j x y hx hy _ => ?_, fun i x hx => ?_⟩
  · have h1 : i < 1 := (List.getElem?_eq_some_iff.mp hx).1
    have h2 : j < 1 := (List.getElem?_eq_some_iff.mp hy).1
    omega
  · have h1 : i < 1 := (List.getElem?_eq_some_iff.mp hx).1
    rw [show i = 0 by omega] at hx
    cases hx
    exact h.2 k q he
theorem join_set {A0 : Nat → Prop} {D : va_G} {cl : List vw_C} {ws : va_W} {H H1 : Heap} {k a : Nat} {e e' : va_E} (hP : va_P D cl ws H) (hD : va_D A0 ws) (he : ws[k]? = some (a, e)) (hk : ∀ q : Nat, q < H.size → ¬ va_A [(a, e)] H.size q → H1[q]? = H[q]?) (hP1 : va_P D cl [(a, e')] H1) : va_P D cl (ws.set k (a, e')) H1 ∧ va_D A0 (ws.set k (a, e')) := by
  refine ⟨fun i q hq => ?_, hD.set he⟩
  have hl := (List.getElem?_eq_some_iff.mp he).1
  by_cases hi : i = k
  · subst hi
    rw [List.getElem?_set_self hl] at hq
    cases hq
    exact hP1 0 _ rfl
  · rw [List.getElem?_set_ne (Ne.symm hi)] at hq
    have hz := hP i q hq
    refine hz.kept (hk q.1 hz.lt (fun z => ?_))
    rcases z with ⟨j, e2, hj⟩ | z
    · have hj1 : j < 1 := (List.getElem?_eq_some_iff.mp hj).1
      rw [show j = 0 by omega] at hj
      cases hj
      exact hi (hD.1 i k q (q.1, e) hq he rfl)
    · exact absurd hz.lt (by omega)
def poF (D : va_G) (cT : Nat → ClassId) (q0 N : Nat) (v : Int32) (A : Nat → Prop) (H : Heap) : Prop := ∃ g : Nat → Int32, (∀ k, k < N → g k = v) ∧ va_P D vwCl [(q0, .inl (cT 0, N, .inl g))] H ∧ va_D A [(q0, .inl (cT 0, N, .inl g))]
theorem sz_skip {T Q : Nat → Nat → Int32} {n : Nat → Nat} {day : Int32} {K j : Nat} (hn : n 1 ≤ 50) (hI : InvT T n) (hK : ∀ x, x < K ↔ Vx T n day x) (hh : HH T n day K j (Q 1)) (hjK : j < K) (hne : ¬ Q 1 j = -1) (h : ∀ x, x < K → hdN T n day x < j → Q 2 (hdN T n day x) = nI (hsN T n day x)) : ∀ x, x < K → hdN T n day x < j + 1 → Q 2 (hdN T n day x) = nI (hsN T n day x) := fun x hx hl => by
  by_cases e : hdN T n day x = j
  · have hxn : x < n 1 := ((hK x).mp hx).1
    have hjn : j < n 1 := ((hK j).mp hjK).1
    have h1 : Rch T n day x j := by have := hdN_r (T := T) (day := day) hxn; rwa [e] at this
    have h2 := hdN_same hn hI h1
    exact absurd ((hh j (by omega)).2 (fun _ => by omega)) hne
  · exact h x hx (by omega)
theorem sz_add {T Q G : Nat → Nat → Int32} {n : Nat → Nat} {day : Int32} {K j : Nat} (hn : n 1 ≤ 50) (hI : InvT T n) (hK : ∀ x, x < K ↔ Vx T n day x) (hjK : j < K) (hjd : hdN T n day j = j) (hG : G 2 = Q 2) (h : ∀ x, x < K → hdN T n day x < j → Q 2 (hdN T n day x) = nI (hsN T n day x)) : ∀ x, x < K → hdN T n day x < j + 1 → (va_up G 2 (upd (G 2) j (nI (hsN T n day j)))) 2 (hdN T n day x) = nI (hsN T n day x) := fun x hx hl => by
  show upd (G 2) j (nI (hsN T n day j)) (hdN T n day x) = _
  have hxn : x < n 1 := ((hK x).mp hx).1
  by_cases e : hdN T n day x = j
  · have h1 : Rch T n day x j := by have := hdN_r (T := T) (day := day) hxn; rwa [e] at this
    rw [e, pk_us, hsN_same hn hI h1]
  · rw [pk_un e, hG]; exact h x hx (by omega)
theorem gh_of {T Q : Nat → Nat → Int32} {n : Nat → Nat} {day : Int32} {K j : Nat} (hK : ∀ x, x < K ↔ Vx T n day x) (hn : n 1 ≤ 50) (hj : K ≤ j) (hh : HH T n day K j (Q 1)) (hs : ∀ x, x < K → hdN T n day x < j → Q 2 (hdN T n day x) = nI (hsN T n day x)) : GH T n day Q := fun x hx => by
  constructor
  · intro hv
    have hxK := (hK x).mpr hv
    have hl : hdN T n day x < j := by have := hdN_le (T := T) (day := day) hv.1; omega
    exact ⟨(hh x hx).1 hxK hl, hs x hxK hl⟩
  · intro hv
    exact (hh x hx).2 (fun q => absurd ((hK x).mp q) hv)
