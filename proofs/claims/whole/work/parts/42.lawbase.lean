/-! THE CLAIM OUT OF ONE WALK OF THE LAW'S BODY. Your part is whole_start (and what it stands on); all else here is the same for every law, but numbers. -/
def R_law : String := "FindsOfficeLaw"
def lw_P (b : Addr) (xs : List Int32) (args : Array Value) (s : State) : Prop := args = #[.ref b] ∧ s.IntsAt b xs ∧ xs.length ≤ 2560 ∧ (Jvm.Cond.and given_1 narrow_1).before args s = true
def lw_Q (_ : Array Value) (s : State) (o : Outcome) (t : State) : Prop := o = .returned (some (.int 1)) ∧ Framed s o t [] 600000 7302249
def lw_Z (below : List Frame) (a : Array Value) (s : State) : State → Prop := fun t => ∃ o, t.status = .running ∧ Ended t below o ∧ lw_Q a s o t
/-- the law's own end, with 1 on the stack, nothing written that was there before, its room as the claim has it -/
theorem lw_ret {p : Program} {l : Launch} {e : Env} {s : State} {m : MethodId} {below : List Frame} {meth : Method} {c : Code} {b : Nat} (hx : p.tables.exec = Jvm.exec) (hb : c.code = code) (hr : meth.sig.returnType = ret) (hlocks : meth.locks = false) {pc : Nat} {H : Heap} {ls : Array Slot} (hdg : decode code pc = .ok (.ireturn, 1)) : W p l e room_1 s m #[Value.ref b] below meth c H [] 600000 7302249 (lw_Z below #[Value.ref b] s) (F0 m pc ls [.int 1]) := by
  intro T hT X
  obtain ⟨fs, hret, hrun, hended, hW, hframe⟩ := X.leave (v := some (.int 1)) (hlocks := hlocks) (fun h => by rw [hr] at h; cases h)
  have hmeth' : T.vm.method? m = some meth := X.method'
  refine ⟨T.setFrames fs, ?_, .returned (some (.int 1)), hrun, hended, rfl, ⟨_, rfl⟩, hW, hframe⟩
  jvm_step X.here [X.here.top, hx, hb, hdg, hmeth', hr, ret, narrow_b1]
  (try refine ⟨rfl, ?_⟩); (try refine ⟨rfl, ?_⟩)
  first | (intro acts; rw [hret _ acts rfl rfl rfl]) | rw [hret _ _ rfl rfl rfl]
  exact Steps.refl _
/-- what holds at the law's entry: the machine, the code, the tables' words (any of lw_tbl by 'hts w (by decide +kernel)'), the script of L ints xs at the cell b, what the Statement gives of the start (any of its parts by flat_of_before) -/
def lw_At (p : Program) (s : State) (m : MethodId) (meth : Method) (c : Code) (b L : Nat) (xs : Nat → Int32) : Prop :=
  p.tables.exec = Jvm.exec ∧ c.code = code ∧ meth.sig.returnType = ret ∧ c.maxLocals = 4 ∧ s.vm.findClass R_law = some m.cls ∧ (∀ w ∈ lw_tbl, w.before #[Value.ref b] s = true) ∧ va_X b L xs s s.heap ∧ b < s.heap.size ∧ meth.locks = false ∧ (Jvm.Cond.and given_1 narrow_1).before #[Value.ref b] s = true
section JOIN
variable {A0 : Nat → Prop} {w1 w1' w2 : va_W}
theorem app_r {w1 w2 : va_W} {k : Nat} {q : Nat × va_E} (h : w2[k]? = some q) : (w1 ++ w2)[w1.length + k]? = some q := by
  rw [List.getElem?_append_right (by omega), show w1.length + k - w1.length = k by omega]
  exact h
theorem app_l {w1 w2 : va_W} {k : Nat} {q : Nat × va_E} (h : w1[k]? = some q) : (w1 ++ w2)[k]? = some q := by
  rw [List.getElem?_append_left (List.getElem?_eq_some_iff.mp h).1]
  exact h
theorem lw_lft (h : va_D A0 (w1 ++ w2)) : va_D A0 w1 := ⟨fun i j p q hi hj e => h.1 i j p q (app_l hi) (app_l hj) e, fun k q hk => h.2 k q (app_l hk)⟩
theorem lw_rgt (h : va_D A0 (w1 ++ w2)) : va_D A0 w2 := ⟨fun i j p q hi hj e => by have := h.1 _ _ p q (app_r hi) (app_r hj) e; omega, fun k q hk => h.2 _ q (app_r hk)⟩
theorem lw_dis (h : va_D A0 (w1 ++ w2)) : ∀ (i j : Nat) (p q : Nat × va_E), w1[i]? = some p → w2[j]? = some q → p.1 ≠ q.1 := fun i j p q hi hj e => by
  have hl := (List.getElem?_eq_some_iff.mp hi).1
  have := h.1 i (w1.length + j) p q (app_l hi) (app_r hj) e
  omega
theorem lw_comm (h : va_D A0 (w1 ++ w2)) : va_D A0 (w2 ++ w1) := va_D.app (lw_rgt h) (lw_lft h) (fun i j p q hi hj e => lw_dis h j i q p hj hi e.symm)
theorem lw_Prgt {D : va_G} {H : Heap} (h : va_P D vwCl (w1 ++ w2) H) : va_P D vwCl w2 H := fun k q hk => h _ q (app_r hk)
theorem lw_Plft {D : va_G} {H : Heap} (h : va_P D vwCl (w1 ++ w2) H) : va_P D vwCl w1 H := fun k q hk => h k q (app_l hk)
theorem join2 {D : va_G} {H H1 : Heap} (hP2 : va_P D vwCl w2 H) (hD : va_D A0 (w1 ++ w2)) (hA : ∀ q, H.size ≤ q → A0 q) (hk : ∀ q : Nat, q < H.size → ¬ va_A w1 H.size q → H1[q]? = H[q]?) (hD1 : va_D (va_A w1 H.size) w1') : va_P D vwCl w2 H1 ∧ va_D A0 (w1' ++ w2) := by
  have hno : ∀ (k : Nat) (q : Nat × va_E), w2[k]? = some q → ¬ va_A w1 H.size q.1 := fun k q hq z => by
    rcases z with ⟨j, e2, hj⟩ | z
    · exact lw_dis hD j k _ q hj hq rfl
    · exact absurd (hP2 k q hq).lt (Nat.not_lt.mpr z)
  refine ⟨hP2.kept (fun k q hq => hk q.1 (hP2 k q hq).lt (hno k q hq)), va_D.app (hD1.weaken (fun k q hq z => ?_)) (lw_rgt hD) (fun i j p q hi hj e => hno j q hj (e ▸ hD1.2 i p hi))⟩
  rcases z with ⟨j, e2, hj⟩ | z
  · exact (lw_lft hD).2 j (q.1, e2) hj
  · exact hA _ z
end JOIN
section MID
variable {A0 : Nat → Prop} {D : va_G} {cT : Nat → ClassId} {a : Nat → Nat} {b : Nat → Nat → Nat} {T T2 P : Nat → Nat → Int32} {n n2 : Nat → Nat} {z : Nat → Int32} {H H1 : Heap} {w : va_W} {F : (Nat → Int32) → Prop}
theorem mid9 (hB : poQ D cT a T2 n2 (va_A (offW cT a b T P n) H.size) H1) (hM : va_P D vwCl w H) (hD : va_D A0 (offW cT a b T P n ++ w)) (hA : ∀ q, H.size ≤ q → A0 q) (hk : ∀ q : Nat, q < H.size → ¬ va_A (offW cT a b T P n) H.size q → H1[q]? = H[q]?) : ∃ (b2 : Nat → Nat → Nat) (P2 : Nat → Nat → Int32), PR T2 (P2 0) ∧ va_P D vwCl (offW cT a b2 T2 P2 n2) H1 ∧ va_P D vwCl w H1 ∧ va_D A0 (offW cT a b2 T2 P2 n2 ++ w) := by
  obtain ⟨b1, P1, T1, n1, ⟨rfl, rfl, hpr⟩, hP1, hD1⟩ := hB
  obtain ⟨h1, h2⟩ := join2 hM hD hA hk hD1
  exact ⟨b1, P1, hpr, hP1, h1, h2⟩
theorem mid10 (hB : poN D cT a T2 n2 (va_A (modW cT a T n z) H.size) H1) (hO : va_P D vwCl w H) (hD : va_D A0 (w ++ modW cT a T n z)) (hA : ∀ q, H.size ≤ q → A0 q) (hk : ∀ q : Nat, q < H.size → ¬ va_A (modW cT a T n z) H.size q → H1[q]? = H[q]?) : ∃ z2 : Nat → Int32, va_P D vwCl w H1 ∧ va_P D vwCl (modW cT a T2 n2 z2) H1 ∧ va_D A0 (w ++ modW cT a T2 n2 z2) := by
  obtain ⟨T1, n1, z1, ⟨rfl, rfl⟩, hP1, hD1⟩ := hB
  obtain ⟨h1, h2⟩ := join2 hO (lw_comm hD) hA hk hD1
  exact ⟨z1, h1, hP1, lw_comm h2⟩
theorem mid10M (hB : poM D cT a T n F (va_A (modW cT a T n z) H.size) H1) (hO : va_P D vwCl w H) (hD : va_D A0 (w ++ modW cT a T n z)) (hA : ∀ q, H.size ≤ q → A0 q) (hk : ∀ q : Nat, q < H.size → ¬ va_A (modW cT a T n z) H.size q → H1[q]? = H[q]?) : ∃ z2 : Nat → Int32, va_P D vwCl w H1 ∧ va_P D vwCl (modW cT a T n z2) H1 ∧ va_D A0 (w ++ modW cT a T n z2) := by
  obtain ⟨z1, -, hP1, hD1⟩ := hB
  obtain ⟨h1, h2⟩ := join2 hO (lw_comm hD) hA hk hD1
  exact ⟨z1, h1, hP1, lw_comm h2⟩
end MID
/-- class and reference side by side, of the same numbers -/
def lwI (D : va_G) (cT : Nat → ClassId) (ao am : Nat → Nat) (s : State) (T : Nat → Nat → Int32) (n : Nat → Nat) (H : Heap) (locs : List Loc) : Prop := ∃ (bo : Nat → Nat → Nat) (P : Nat → Nat → Int32) (z : Nat → Int32), Jv T n ∧ PR T (P 0) ∧ va_P D vwCl (offW cT ao bo T P n) H ∧ va_P D vwCl (modW cT am T n z) H ∧ va_D (fun q : Nat => s.heap.size ≤ q) (offW cT ao bo T P n ++ modW cT am T n z) ∧ va_S (fun q : Nat => s.heap.size ≤ q) s.heap H locs
/-- the way on from the end of a call's comparison -/
def lwK (p : Program) (l : Launch) (e : Env) (s : State) (m : MethodId) (below : List Frame) (meth : Method) (c : Code) (D : va_G) (cT : Nat → ClassId) (ao am : Nat → Nat) (b i cells slots : Nat) : Prop := ∀ (T : Nat → Nat → Int32) (n : Nat → Nat) (H : Heap) (locs : List Loc), lwI D cT ao am s T n H locs → ∀ ls : Array Slot, lv_has ls 4 [(0, .ref b), (1, .ref (ao 0)), (2, .ref (am 0)), (3, .int (nI i))] → W p l e room_1 s m #[Value.ref b] below meth c H locs cells slots (lw_Z below #[Value.ref b] s) (F0 m 869 ls [])
section SLD
variable {p : Program} {l : Launch} {e : Env} {R : Room} {s : State} {m : MethodId} {args : Array Value} {below : List Frame} {meth : Method} {c : Code} {H H0 : Heap} {locs : List Loc} {cells slots pc : Nat} {Q : State → Prop} {cc : ByteArray} {ls : Array Slot} {rest : List Value} {A : Nat → Prop}
theorem my_sld (hx : p.tables.exec = Jvm.exec) (hb : c.code = cc) {b L k : Nat} {xs : Nat → Int32} (hX : va_X b L xs s H0) (hbl : b < H0.size) (hbA : ¬ A b) (hS : va_S A H0 H locs) (hk : k < L) (hL : L < 2 ^ 31) (hdg : decode cc pc = .ok (.iaload, 1)) (kk : W p l e R s m args below meth c H locs cells slots Q (F0 m (pc + 1) ls (.int (xs k) :: rest))) : W p l e R s m args below meth c H locs cells slots Q (F0 m pc ls (.int (nI k) :: .ref b :: rest)) :=
  va_sld hx hb hX hbl hbA hS (vp_in_nI hk hL) hdg (by rw [nI_clamp (by omega)]; exact kk)
end SLD
theorem head_le {L i : Nat} (hL : L ≤ 2560) (hi : i ≤ L) (h : ¬ nI i > Int32.ofNat L - 5) : i + 5 ≤ L := by
  have h1 : ¬ (Int32.ofNat L - 5 < nI i) := h
  have e1 : (Int32.ofNat L).toInt = (L : Int) := nI_toInt (n := L) (by omega)
  have e2 : (5 : Int32).toInt = 5 := rfl
  have e3 : (Int32.ofNat L - 5).toInt = (L : Int) - 5 := by rw [Int32.toInt_sub, e1, e2, Int.bmod_eq_of_le (by omega) (by omega)]
  have e4 : (nI i).toInt = (i : Int) := nI_toInt (by omega)
  have := Int32.le_iff_toInt_le.mp (Int32.not_lt.mp h1)
  rw [e3, e4] at this
  omega
