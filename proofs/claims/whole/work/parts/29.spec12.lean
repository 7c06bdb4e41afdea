/-! constructors -/
def AOs (U : State) : Prop := va_AO "FindsOffice$Law" U ∧ va_AO "FindsOffice$Find" U ∧ va_AO "FindsOffice$Sale" U ∧ va_AO "FindsOffice$Museum" U
theorem AOs.moved {u U : State} (hvm : u.vm.Alike U.vm) (h : AOs u) : AOs U := ⟨h.1.moved hvm, h.2.1.moved hvm, h.2.2.1.moved hvm, h.2.2.2.moved hvm⟩
def PA (D : va_G) (cT : Nat → ClassId) (ws : va_W) (sz : Nat) (U : State) : Prop := PW D cT ws sz U ∧ AOs U
theorem pa_blind {D : va_G} {cT : Nat → ClassId} {ws : va_W} {sz : Nat} {av : List Value} : FrameBlind (va_Pc av (PA D cT ws sz)) := fun _ U g mk q => ⟨q.1, ⟨q.2.1.1.call, q.2.1.2⟩, AOs.moved (u := U) (U := U.calling g mk _) (Vm.Alike.refl U.vm) q.2.2⟩
section RAS
variable {p : Program} {l : Launch} {e : Env} {R : Room} {s : State} {m : MethodId} {args : Array Value} {below : List Frame} {meth : Method} {c : Code} {H : Heap} {locs : List Loc} {cells slots : Nat} {Q : State → Prop} {cc bytes : ByteArray} {pc nL maxL n index mc ms : Nat} {ls : Array Slot} {rest st0 As : List Value} {D : va_G} {cT : Nat → ClassId} {wc : va_W} {own C host : String} {y : MethodName} {wsC Ts : List Cond} {rm : Room} {b : Addr} {A0 : Nat → Prop} {H0 : Heap} {Bp : Heap → Prop}
theorem ra_I0 (S : CallFix p m c cc nL s args Ts own) (hM : Met l y wsC rm (va_Pc (.ref b :: As) (PA D cT wc H.size)) (QW none Bp (va_A wc H.size)) mc ms (va_A wc H.size)) (cw : CallB R s args own index y bytes maxL none wsC rm mc ms n ∧ y.name = "<init>" ∧ (Cond.instanceMethod y).before args s = true) (hE : EV D cT s) (hAO : AOs s) (hP : va_P D vwCl wc H) (hD : va_D A0 wc) (hS : va_S A0 H0 H locs) (hA : ∀ q, H0.size ≤ q → A0 q) (hn : As.length = n) (hsize : ls.size = nL) (hst : st0 = As.reverse ++ .ref b :: rest) (hW : (rest.map fun v => v.category).sum ≤ 8) (hdg : decode cc pc = .ok (.invokespecial index, 3)) (hf : cells + mc ≤ R.cells ∧ slots + ms ≤ R.slots)
    (kk : ∀ (H1 : Heap) (locs1 : List Loc), Bp H1 → H.size ≤ H1.size → (∀ q : Nat, q < H.size → ¬ va_A wc H.size q → H1[q]? = H[q]?) → va_S A0 H0 H1 locs1 → W p l e R s m args below meth c H1 locs1 (cells + mc) (slots + ms) Q (F0 m (pc + 3) ls rest)) : W p l e R s m args below meth c H locs cells slots Q (F0 m pc ls st0) :=
  rw_go0 (va_runI S hM cw ⟨pa_blind, fun U hU hWm => ⟨rfl, ⟨EV.moved hWm hE, by rw [hU]; exact hP, by rw [hU], hD.weaken (fun _ _ _ _ => trivial)⟩, hAO.moved hWm.alike⟩⟩ rfl hn hsize hst (lv_room hW) hdg hf) hS (va_allA hD hS hA) kk
theorem ra_IN0 (S : CallFix p m c cc nL s args Ts own) (hM : Met l y wsC rm (va_Pc (.ref b :: As) (PA D cT wc H.size)) (QW none Bp (va_A wc H.size)) mc ms (va_A wc H.size)) (cw : va_CN R s args own index y host bytes maxL none wsC rm mc ms n ∧ y.name = "<init>" ∧ (Cond.instanceMethod y).before args s = true) (hE : EV D cT s) (hAO : AOs s) (hP : va_P D vwCl wc H) (hD : va_D A0 wc) (hS : va_S A0 H0 H locs) (hA : ∀ q, H0.size ≤ q → A0 q) (hn : As.length = n) (hsize : ls.size = nL) (hst : st0 = As.reverse ++ .ref b :: rest) (hW : (rest.map fun v => v.category).sum ≤ 8) (hdg : decode cc pc = .ok (.invokespecial index, 3)) (hf : cells + mc ≤ R.cells ∧ slots + ms ≤ R.slots)
    (kk : ∀ (H1 : Heap) (locs1 : List Loc), Bp H1 → H.size ≤ H1.size → (∀ q : Nat, q < H.size → ¬ va_A wc H.size q → H1[q]? = H[q]?) → va_S A0 H0 H1 locs1 → W p l e R s m args below meth c H1 locs1 (cells + mc) (slots + ms) Q (F0 m (pc + 3) ls rest)) : W p l e R s m args below meth c H locs cells slots Q (F0 m pc ls st0) :=
  rw_go0 (va_runIN S hM cw ⟨pa_blind, fun U hU hWm => ⟨rfl, ⟨EV.moved hWm hE, by rw [hU]; exact hP, by rw [hU], hD.weaken (fun _ _ _ _ => trivial)⟩, hAO.moved hWm.alike⟩⟩ rfl hn hsize hst (lv_room hW) hdg hf) hS (va_allA hD hS hA) kk
end RAS
theorem RA_of {l : Launch} {y : MethodName} {ws ws' : List Cond} {rm : Room} {cc : ByteArray} {maxL : Nat} {ret : Option FieldType} {av : List Value} {D : va_G} {cT : Nat → ClassId} {wo : va_W} {vo : Option Value} {sz mc ms : Nat} {Bp : (Nat → Prop) → Heap → Prop} (hy : plainName y.cls = true) (hw : ws = Cond.code y cc maxL ret :: ws') (hlen : (lg_sl av).length ≤ maxL)
    (body : ∀ (p : Program) (e : Env) (s : State) (m : MethodId) (below : List Frame) (meth : Method) (c : Code) (A : Nat → Prop), p.tables.exec = Jvm.exec → c.code = cc → meth.sig.returnType = ret → (∀ w ∈ ws, w.before av.toArray s = true) → s.vm.findClass y.cls = some m.cls → meth.locks = false → meth.name = y.name → c.maxLocals = maxL → EV D cT s → AOs s → va_D A wo → (∀ q, s.heap.size ≤ q → A q) → ∀ (H : Heap) (locs : List Loc), va_P D vwCl wo H → va_S A s.heap H locs → ∀ ls : Array Slot, lv_has ls maxL (lv_args 0 av) → W p l e rm s m av.toArray below meth c H locs 0 0 (MQ below (QW vo (Bp A) A) av.toArray s mc ms A) (F0 m 0 ls [])) : Met l y ws rm (va_Pc av (PA D cT wo sz)) (QW vo (Bp (va_A wo sz)) (va_A wo sz)) mc ms (va_A wo sz) := by
  refine Met.ofW (cc := cc) (maxL := maxL) (ret := ret) hy hw ?_
  intro p e s m args below meth c s₁ B hml hv
  obtain ⟨rfl, ⟨hE, hP, hsz, hD0⟩, hAO⟩ := hv
  subst hsz
  have hts := atoms_spec (ws := ws) B.pre
  have hl := lv_entry av (n := maxL) hlen
  rw [lg_entry_eq]
  exact body p e s m below meth c (va_A wo s.heap.size) B.exec B.bytes B.returns hts (findClass_of_methodNamed B.named) B.notSynchronized (name_of_methodNamed B.named B.method).1 hml hE hAO hD0.self (fun q h => Or.inr h) s.heap [] hP va_S.rf _ hl
/-- an array class is known by its name -/
theorem cA_eq {D : va_G} {cl : List vw_C} {tys : List (ClassId × FieldType)} {s : State} {cA c1 : ClassId} {ty : FieldType} (i : Nat) (h1 : va_K D cl tys s) (hi : tys[i]? = some (c1, ty)) (h2 : va_K D cl (tys ++ [(cA, ty)]) s) : cA = c1 := by
  have a := (h1.2 i _ hi).2
  have b := (h2.2 tys.length (cA, ty) (by simp)).2
  unfold va_RA at a b
  cases ty with
  | object C =>
    obtain ⟨_, _, _, _, _, a4⟩ := a
    obtain ⟨_, _, _, _, _, b4⟩ := b
    exact Option.some.inj (b4.symm.trans a4)
  | _ => exact Option.some.inj (b.symm.trans a)
theorem cell_ext {cA : ClassId} {N : Nat} {f g : Nat → Int32} (h : ∀ k, k < N → f k = g k) : vp_cell cA (N, .inl f) = vp_cell cA (N, .inl g) := by
  show arrV cA N (fun j => .int (f j)) = arrV cA N (fun j => .int (g j))
  unfold arrV
  congr 1
  apply congrArg
  funext j
  show Value.int (f j.val) = Value.int (g j.val)
  rw [h j.val j.isLt]
theorem va_P.ext {D : va_G} {cl : List vw_C} {ws : va_W} {H : Heap} {k a : Nat} {cA : ClassId} {N : Nat} {f g : Nat → Int32} (hP : va_P D cl ws H) (he : ws[k]? = some (a, .inl (cA, N, .inl f))) (h : ∀ k, k < N → f k = g k) : va_P D cl (ws.set k (a, .inl (cA, N, .inl g))) H := fun i q hq => by
  have hl := (List.getElem?_eq_some_iff.mp he).1
  by_cases hi : i = k
  · subst hi
    rw [List.getElem?_set_self hl] at hq
    cases hq
    have := hP i _ he
    show H[a]? = some (vp_cell cA (N, .inl g))
    rw [← cell_ext h]
    exact this
  · rw [List.getElem?_set_ne (Ne.symm hi)] at hq
    exact hP i q hq
theorem ext_set {D : va_G} {cl : List vw_C} {A : Nat → Prop} {ws : va_W} {H : Heap} {k a : Nat} {cA : ClassId} {N : Nat} {f g : Nat → Int32} (hP : va_P D cl ws H) (hD : va_D A ws) (he : ws[k]? = some (a, .inl (cA, N, .inl f))) (h : ∀ k, k < N → f k = g k) : va_P D cl (ws.set k (a, .inl (cA, N, .inl g))) H ∧ va_D A (ws.set k (a, .inl (cA, N, .inl g))) := ⟨hP.ext he h, hD.set he⟩
def poE (D : va_G) (F : (Nat → Nat) → va_W) (A : Nat → Prop) (H : Heap) : Prop := ∃ q : Nat → Nat, va_P D vwCl (F q) H ∧ va_D A (F q)
def adr (l : List Nat) : Nat → Nat := fun i => l.getD i 0
def T0 : Nat → Nat → Int32 := fun i => if i = 13 then (fun _ => 1000000) else if i = 25 then (fun _ => 100) else if i = 36 then (fun _ => -1) else (fun _ => 0)
def P0 : Nat → Nat → Int32 := fun i => if i = 0 then (fun _ => -1) else (fun _ => 0)
def N0 : Nat → Nat := fun _ => 0
theorem pf_zero {b : Nat → Nat} : pf b 0 = fun _ => none := by funext k; simp [pf]
def poI (D : va_G) (cT : Nat → ClassId) (h0 : Nat) (A : Nat → Prop) (H : Heap) : Prop := ∃ a : Nat → Nat, a 0 = h0 ∧ va_P D vwCl (offW cT a (fun _ _ => 0) T0 P0 N0) H ∧ va_D A (offW cT a (fun _ _ => 0) T0 P0 N0)
def poJ (D : va_G) (cT : Nat → ClassId) (h0 : Nat) (A : Nat → Prop) (H : Heap) : Prop := ∃ a : Nat → Nat, a 0 = h0 ∧ va_P D vwCl (modW cT a T0 N0 (fun _ => 0)) H ∧ va_D A (modW cT a T0 N0 (fun _ => 0))
theorem off_init {cT : Nat → ClassId} {a : Nat → Nat} : offW cT a (fun _ _ => 0) T0 P0 N0 = [(a 0, .inr (9, [.int 0, .ref (a 1), .ref (a 3), .ref (a 7), .ref (a 13), .ref (a 16), .ref (a 18)])), (a 1, .inr (5, [.ref (a 2), .int 0])), (a 2, .inl (cT 2, 20, .inr (.inr (.inr (.inr (fun _ => none)))))), (a 3, .inr (3, [.ref (a 4), .ref (a 5), .ref (a 6), .int 0])), (a 4, .inl (cT 0, 100, .inl (fun _ => 0))), (a 5, .inl (cT 0, 100, .inl (fun _ => 0))), (a 6, .inl (cT 0, 100, .inl (fun _ => 0))), (a 7, .inr (2, [.ref (a 8), .int 0, .ref (a 9), .int 0, .ref (a 10), .ref (a 11), .ref (a 12)])), (a 8, .inl (cT 3, 50, .inr (.inr (.inr (.inr (fun _ => none)))))), (a 9, .inl (cT 0, 1225, .inl (fun _ => -1))), (a 10, .inl (cT 0, 50, .inl (fun _ => 0))), (a 11, .inl (cT 0, 50, .inl (fun _ => 0))), (a 12, .inl (cT 0, 50, .inl (fun _ => 0))), (a 13, .inr (6, [.ref (a 14), .int 0, .ref (a 15)])), (a 14, .inl (cT 4, 60, .inr (.inr (.inr (.inr (fun _ => none)))))), (a 15, .inl (cT 0, 55, .inl (fun _ => 100))), (a 16, .inr (0, [.ref (a 17), .int 0, .int 0])), (a 17, .inl (cT 5, 10, .inr (.inr (.inr (.inr (fun _ => none)))))), (a 18, .inl (cT 0, 30, .inl (fun _ => 0)))] := by
  show offX cT a (fun _ _ => 0) T0 P0 N0 ++ [] = _
  rw [List.append_nil]
  unfold offX
  rw [show pf ((fun _ _ => 0 : Nat → Nat → Nat) 0) (N0 0) = fun _ => none from pf_zero, show pf ((fun _ _ => 0 : Nat → Nat → Nat) 1) (N0 1) = fun _ => none from pf_zero, show pf ((fun _ _ => 0 : Nat → Nat → Nat) 2) (N0 2) = fun _ => none from pf_zero, show pf ((fun _ _ => 0 : Nat → Nat → Nat) 3) (N0 3) = fun _ => none from pf_zero, show T0 36 0 + 1 = 0 by decide]
  rfl
