/-! places told by ranks -/
def wid (j : Nat) : Int32 := match j with
  | 0 => 500
  | 1 => 100
  | 2 => 10
  | _ => 1
def WD (U : State) (H : Heap) : Prop := ∃ t, va_Z "FindsOffice" "WIDTHS" "[I" (.ref t) (fun _ => False) U H ∧ va_T .int t 4 (fun j => .int (wid j)) (fun _ => False) U H
theorem WD.moved {u U : State} {H : Heap} (hvm : u.vm.Alike U.vm) (h : WD u H) : WD U H := by
  obtain ⟨t, h1, h2⟩ := h
  exact ⟨t, va_Z.moved hvm h1, va_T.moved hvm h2⟩
theorem WD.kept {U : State} {H H1 : Heap} (h : WD U H) (hq : ∀ a : Nat, a < H.size → H1[a]? = H[a]?) : WD U H1 := by
  obtain ⟨t, h1, h2⟩ := h
  exact ⟨t, va_Z.kept h1 (fun a ha _ => hq a ha), va_T.kept h2 (fun a ha _ => hq a ha)⟩
def PD (D : va_G) (cT : Nat → ClassId) (ws : va_W) (U : State) : Prop := PB D cT ws U ∧ WD U U.heap
theorem pd_blind {D : va_G} {cT : Nat → ClassId} {ws : va_W} {av : List Value} : FrameBlind (va_Pc av (PD D cT ws)) := fun _ U g mk q => ⟨q.1, ⟨q.2.1.1.call, q.2.1.2⟩, WD.moved (u := U) (U := U.calling g mk _) (Vm.Alike.refl U.vm) q.2.2⟩
section RDS
variable {p : Program} {l : Launch} {e : Env} {R : Room} {s : State} {m : MethodId} {args : Array Value} {below : List Frame} {meth : Method} {c : Code} {H : Heap} {locs : List Loc} {cells slots : Nat} {Q : State → Prop} {cc bytes : ByteArray} {pc nL maxL n index : Nat} {ls : Array Slot} {rest st0 As : List Value} {w : Value} {D : va_G} {cT : Nat → ClassId} {wc : va_W} {own C : String} {y : MethodName} {wsC Ts : List Cond} {rm : Room} {ret : Option FieldType} {b : Addr} {fs : List Value} {q : vw_C}
theorem rd_S (S : CallFix p m c cc nL s args Ts own) (hM : Met l y wsC rm (va_Pc As (PD D cT wc)) (QR w) 0 0 (fun _ => False)) (cw : CallB R s args own index y bytes maxL ret wsC rm 0 0 n ∧ (Cond.static y).before args s = true) (hE : EV D cT s) (hP : va_P D vwCl wc H) (hWD : WD s H) (hn : As.length = n) (hsize : ls.size = nL) (hst : st0 = As.reverse ++ rest) (hW : (rest.map fun v => v.category).sum ≤ 8) (hdg : decode cc pc = .ok (.invokestatic index, 3)) (hf : cells ≤ R.cells ∧ slots ≤ R.slots) (kk : W p l e R s m args below meth c H locs cells slots Q (F0 m (pc + 3) ls (w :: rest))) : W p l e R s m args below meth c H locs cells slots Q (F0 m pc ls st0) :=
  ro_go (va_runS S hM cw ⟨pd_blind, fun U hU hWm => ⟨rfl, ⟨EV.moved hWm hE, by rw [hU]; exact hP⟩, by rw [hU]; exact hWD.moved hWm.alike⟩⟩ rfl hn hsize hst (lv_room hW) hdg hf) kk
theorem rd_V (S : CallFix p m c cc nL s args Ts own) (hM : Met l y wsC rm (va_Pc (.ref b :: As) (PD D cT wc)) (QR w) 0 0 (fun _ => False)) (cw : CallW R s args own C index y bytes maxL ret wsC rm 0 0 n) (hE : EV D cT s) (hP : va_P D vwCl wc H) (hWD : WD s H) (q0 ci : Nat) (he : wc[q0]? = some (b, .inr (ci, fs))) (hc : vwCl[ci]? = some q) (hqC : q.1 = C) (hn : As.length = n) (hsize : ls.size = nL) (hst : st0 = As.reverse ++ .ref b :: rest) (hW : (rest.map fun v => v.category).sum ≤ 8) (hdg : decode cc pc = .ok (.invokevirtual index, 3)) (hf : cells ≤ R.cells ∧ slots ≤ R.slots) (kk : W p l e R s m args below meth c H locs cells slots Q (F0 m (pc + 3) ls (w :: rest))) : W p l e R s m args below meth c H locs cells slots Q (F0 m pc ls st0) :=
  ro_go (va_runV S hM cw ⟨pd_blind, by rw [← hqC]; exact va_recv hE.1 hP hc he, fun U hU hWm => ⟨rfl, ⟨EV.moved hWm hE, by rw [hU]; exact hP⟩, by rw [hU]; exact hWD.moved hWm.alike⟩⟩ rfl hn hsize hst (lv_room hW) hdg hf) kk
end RDS
theorem RD_of {l : Launch} {y : MethodName} {ws ws' : List Cond} {rm : Room} {cc : ByteArray} {maxL : Nat} {ret : Option FieldType} {av : List Value} {D : va_G} {cT : Nat → ClassId} {wo : va_W} {w : Value} (hy : plainName y.cls = true) (hw : ws = Cond.code y cc maxL ret :: ws') (hlen : (lg_sl av).length ≤ maxL)
    (body : ∀ (p : Program) (e : Env) (s : State) (m : MethodId) (below : List Frame) (meth : Method) (c : Code), p.tables.exec = Jvm.exec → c.code = cc → meth.sig.returnType = ret → (∀ w ∈ ws, w.before av.toArray s = true) → s.vm.findClass y.cls = some m.cls → meth.locks = false → c.maxLocals = maxL → EV D cT s → va_P D vwCl wo s.heap → WD s s.heap → ∀ ls : Array Slot, lv_has ls maxL (lv_args 0 av) → W p l e rm s m av.toArray below meth c s.heap [] 0 0 (MQ below (QR w) av.toArray s 0 0 (fun _ => False)) (F0 m 0 ls [])) : Met l y ws rm (va_Pc av (PD D cT wo)) (QR w) 0 0 (fun _ => False) := by
  refine Met.ofW (cc := cc) (maxL := maxL) (ret := ret) hy hw ?_
  intro p e s m args below meth c s₁ B hml hv
  obtain ⟨rfl, ⟨hE, hP⟩, hWD⟩ := hv
  have hts := atoms_spec (ws := ws) B.pre
  have hl := lv_entry av (n := maxL) hlen
  rw [lg_entry_eq]
  exact body p e s m below meth c B.exec B.bytes B.returns hts (findClass_of_methodNamed B.named) B.notSynchronized hml hE hP hWD _ hl
def widV (r : Int32) : Int32 := if r = 0 then 500 else if r = 1 then 100 else if r = 2 then 10 else 1
theorem wid_nI {k : Nat} (h : k < 4) : wid k = widV (nI k) := by rcases (show k = 0 ∨ k = 1 ∨ k = 2 ∨ k = 3 by omega) with rfl | rfl | rfl | rfl <;> rfl
theorem wid_no {r : Int32} (h : btw r 0 3 = false) : (1 : Int32) = widV r := by
  have h0 : ¬ r = 0 := fun q => by rw [q] at h; exact absurd h (by decide)
  have h1 : ¬ r = 1 := fun q => by rw [q] at h; exact absurd h (by decide)
  have h2 : ¬ r = 2 := fun q => by rw [q] at h; exact absurd h (by decide)
  rw [widV, if_neg h0, if_neg h1, if_neg h2]
theorem wid_pos (r : Int32) : ¬ widV r ≤ 0 := by
  unfold widV
  split
  · decide
  · split
    · decide
    · split <;> decide
theorem wid_nat (r : Int32) : ∃ w : Nat, 0 < w ∧ w ≤ 500 ∧ widV r = nI w := by
  unfold widV
  split
  · exact ⟨500, by decide, by decide, rfl⟩
  · split
    · exact ⟨100, by decide, by decide, rfl⟩
    · split
      · exact ⟨10, by decide, by decide, rfl⟩
      · exact ⟨1, by decide, by decide, rfl⟩
def rmV (x r : Int32) : Int32 := x - x / widV r * widV r
def rdV (x r : Int32) : Int32 := x - rmV x r
theorem rank_k {r : Int32} (h : btw r 0 3 = true) : ∃ k, k < 4 ∧ r = nI k := by
  obtain ⟨j, hj, e⟩ := nI_of (btw_t h).1
  subst e
  have := nat_nlt (a := 3) (b := j) (btw_t h).2 (by decide) hj
  exact ⟨j, by omega, rfl⟩
theorem rd_self {x r : Int32} : decide (x = rdV x r) = decide (rmV x r = 0) := by
  apply decide_eq_decide.mpr
  unfold rdV
  constructor
  · intro h
    have : x - (x - rmV x r) = x - x := by rw [← h]
    rw [Int32.sub_self] at this
    rw [← this, Int32.sub_eq_add_neg, Int32.sub_eq_add_neg, Int32.neg_add, Int32.sub_eq_add_neg, Int32.neg_neg, ← Int32.add_assoc, Int32.add_right_neg, Int32.zero_add]
  · intro h; rw [h]; exact (Int32.sub_zero x).symm
def crB (co r : Int32) : Bool := btw co 0 1002000 && (decide (rmV (co / 1001) r = 0) && decide (rmV (co - co / 1001 * 1001) r = 0))
noncomputable def plV (T : Nat → Nat → Int32) (n : Nat → Nat) (i r : Int32) : Int32 := if (isT (n 1) i && btw r 0 3) = true then rdV (T 2 i.toNatClampNeg) r * 1000 + rdV (T 3 i.toNatClampNeg) r else -1
def wiB (co ot r : Int32) : Bool := btw r 0 3 && (crB co r && (crB ot r && (!decide (ot / 1001 ≤ co / 1001) && !decide (ot - ot / 1001 * 1001 ≤ co - co / 1001 * 1001))))
def wiV (T : Nat → Nat → Int32) (n : Nat → Nat) (co ot r : Int32) : Int32 := if wiB co ot r = true then nI (tlN T (co / 1001) (ot / 1001) (co - co / 1001 * 1001) (ot - ot / 1001 * 1001) (n 1)) else -1
theorem rm_nat {k : Nat} (hk : k < 2000000) (r : Int32) : ∃ j, j < 500 ∧ rmV (nI k) r = nI j := by
  obtain ⟨w, h0, h1, e⟩ := wid_nat r
  unfold rmV
  rw [e, pk_rem (by omega) h0 (by omega)]
  exact ⟨k % w, Nat.lt_of_lt_of_le (Nat.mod_lt _ h0) h1, rfl⟩
theorem sum4 {x y u v : Int32} (hx : ∃ j, j < 500 ∧ x = nI j) (hy : ∃ j, j < 500 ∧ y = nI j) (hu : ∃ j, j < 500 ∧ u = nI j) (hv : ∃ j, j < 500 ∧ v = nI j) : (0 < x + y + u + v) ↔ ¬ (x = 0 ∧ y = 0 ∧ u = 0 ∧ v = 0) := by
  obtain ⟨a, ha, rfl⟩ := hx
  obtain ⟨b, hb, rfl⟩ := hy
  obtain ⟨c, hc, rfl⟩ := hu
  obtain ⟨d, hd, rfl⟩ := hv
  rw [nI_add, nI_add, nI_add]
  have z : ∀ k : Nat, k < 5000 → (nI k = 0 ↔ k = 0) := fun k hk => ⟨fun q => nat_eq (a := k) (b := 0) q (by omega) (by decide), fun q => by rw [q]; rfl⟩
  rw [z a (by omega), z b (by omega), z c (by omega), z d (by omega)]
  have l : (0 : Int32) < nI (a + b + c + d) ↔ 0 < a + b + c + d := ⟨fun q => nat_lt (a := 0) q (by decide) (by omega), fun q => nI_lt (a := 0) q (by omega)⟩
  rw [l]
  omega
theorem co_nat {co : Int32} (h : btw co 0 1002000 = true) : ∃ k, k ≤ 1002000 ∧ co = nI k ∧ co / 1001 = nI (k / 1001) ∧ co - co / 1001 * 1001 = nI (k % 1001) := by
  obtain ⟨j, hj, e⟩ := nI_of (btw_t h).1
  subst e
  have h1 := nat_nlt (a := 1002000) (b := j) (btw_t h).2 (by decide) hj
  exact ⟨j, h1, rfl, pk_div (a := j) (d := 1001) hj (by decide) (by decide), pk_rem (a := j) (d := 1001) hj (by decide) (by decide)⟩
theorem within_eq {co ot r : Int32} (hr : btw r 0 3 = true) (hc : btw co 0 1002000 = true) (ho : btw ot 0 1002000 = true) : wiB co ot r = (!decide (0 < rmV (co / 1001) r + rmV (ot / 1001) r + rmV (co - co / 1001 * 1001) r + rmV (ot - ot / 1001 * 1001) r) && (!decide (ot / 1001 ≤ co / 1001) && !decide (ot - ot / 1001 * 1001 ≤ co - co / 1001 * 1001))) := by
  obtain ⟨kc, k1, -, e1, e2⟩ := co_nat hc
  obtain ⟨ko, k2, -, e3, e4⟩ := co_nat ho
  have s := sum4 (x := rmV (co / 1001) r) (y := rmV (ot / 1001) r) (u := rmV (co - co / 1001 * 1001) r) (v := rmV (ot - ot / 1001 * 1001) r) (by rw [e1]; exact rm_nat (by omega) r) (by rw [e3]; exact rm_nat (by omega) r) (by rw [e2]; exact rm_nat (by omega) r) (by rw [e4]; exact rm_nat (by omega) r)
  have d : decide (0 < rmV (co / 1001) r + rmV (ot / 1001) r + rmV (co - co / 1001 * 1001) r + rmV (ot - ot / 1001 * 1001) r) = !(decide (rmV (co / 1001) r = 0) && (decide (rmV (ot / 1001) r = 0) && (decide (rmV (co - co / 1001 * 1001) r = 0) && decide (rmV (ot - ot / 1001 * 1001) r = 0)))) := by
    by_cases a1 : rmV (co / 1001) r = 0 <;> by_cases a2 : rmV (ot / 1001) r = 0 <;> by_cases a3 : rmV (co - co / 1001 * 1001) r = 0 <;> by_cases a4 : rmV (ot - ot / 1001 * 1001) r = 0 <;> simp only [s] <;> simp [a1, a2, a3, a4]
  rw [wiB, crB, crB, hr, hc, ho, d]
  cases decide (rmV (co / 1001) r = 0) <;> cases decide (rmV (ot / 1001) r = 0) <;> cases decide (rmV (co - co / 1001 * 1001) r = 0) <;> cases decide (rmV (ot - ot / 1001 * 1001) r = 0) <;> rfl
theorem pl_sum {x y r : Int32} : (x - rmV x r) * 1000 + y - rmV y r = rdV x r * 1000 + rdV y r := by
  unfold rdV
  rw [Int32.sub_eq_add_neg (a := (x - rmV x r) * 1000 + y), Int32.sub_eq_add_neg (a := y), Int32.add_assoc]
