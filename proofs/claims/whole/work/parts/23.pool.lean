/-! worlds: permuted, with one more object, with a pooled object written -/
theorem va_D_nd {A : Nat → Prop} {ws : va_W} : va_D A ws ↔ (ws.map (fun q => q.1)).Nodup ∧ ∀ q ∈ ws, A q.1 := by
  constructor
  · intro h
    refine ⟨?_, fun q hq => ?_⟩
    · rw [List.Nodup, List.pairwise_iff_getElem]
      intro i j hi hj hij e
      rw [List.length_map] at hi hj
      simp only [List.getElem_map] at e
      have := h.1 i j ws[i] ws[j] (List.getElem?_eq_getElem hi) (List.getElem?_eq_getElem hj) e
      omega
    · obtain ⟨k, hk⟩ := List.getElem?_of_mem hq
      exact h.2 k q hk
  · intro h
    refine ⟨fun i j x y hx hy e => ?_, fun k q hk => h.2 q (List.mem_of_getElem? hk)⟩
    obtain ⟨hi, ex⟩ := List.getElem?_eq_some_iff.mp hx
    obtain ⟨hj, ey⟩ := List.getElem?_eq_some_iff.mp hy
    have hp := h.1
    rw [List.Nodup, List.pairwise_iff_getElem] at hp
    rcases Nat.lt_trichotomy i j with q | q | q
    · exact ((hp i j (by rw [List.length_map]; exact hi) (by rw [List.length_map]; exact hj) q) (by simp only [List.getElem_map]; rw [ex, ey, e])).elim
    · exact q
    · exact ((hp j i (by rw [List.length_map]; exact hj) (by rw [List.length_map]; exact hi) q) (by simp only [List.getElem_map]; rw [ex, ey, e])).elim
theorem va_P.perm {D : va_G} {cl : List vw_C} {ws ws' : va_W} {H : Heap} (h : va_P D cl ws H) (hp : ws'.Perm ws) : va_P D cl ws' H := va_P.of (fun _ hq => h.mem (hp.mem_iff.mp hq))
theorem va_D.perm {A : Nat → Prop} {ws ws' : va_W} (h : va_D A ws) (hp : ws'.Perm ws) : va_D A ws' := by
  rw [va_D_nd] at h ⊢
  exact ⟨((hp.map _).nodup_iff).mpr h.1, fun q hq => h.2 q (hp.mem_iff.mp hq)⟩
theorem perm_rot (x : Nat × va_E) (ws : va_W) : (x :: ws).Perm (ws ++ [x]) := (List.perm_append_singleton x ws).symm
theorem perm_mid (x : Nat × va_E) (X L R : va_W) : (X ++ ((L ++ [x]) ++ R)).Perm (x :: (X ++ (L ++ R))) := by
  have e : X ++ ((L ++ [x]) ++ R) = (X ++ L) ++ x :: R := by simp
  rw [e, ← List.append_assoc]
  exact List.perm_middle
theorem plw_push {ci : Nat} {b b' : Nat → Nat} {m : Nat} {f f' : Nat → List Value} (h : ∀ k, k < m → b' k = b k ∧ f' k = f k) : plw ci b' (m + 1) f' = plw ci b m f ++ [(b' m, .inr (ci, f' m))] := by
  unfold plw
  rw [List.range_succ, List.map_append]
  congr 1
  apply List.map_congr_left
  intro k hk
  rw [(h k (List.mem_range.mp hk)).1, (h k (List.mem_range.mp hk)).2]
theorem pf_push {b : Nat → Nat} {m q : Nat} : va_up (pf b m) m (some q) = pf (va_up b m q) (m + 1) := by
  funext k
  unfold va_up pf
  by_cases h : k = m
  · subst h; simp
  · by_cases g : k < m
    · simp [h, g, Nat.lt_succ_of_lt g]
    · have : ¬ k < m + 1 := by omega
      simp [h, g, this]
theorem plw_get {ci : Nat} {b : Nat → Nat} {m k : Nat} {f : Nat → List Value} (h : k < m) : (plw ci b m f)[k]? = some (b k, .inr (ci, f k)) := by
  unfold plw
  rw [List.getElem?_map, List.getElem?_range h]; rfl
theorem plw_len {ci : Nat} {b : Nat → Nat} {m : Nat} {f : Nat → List Value} : (plw ci b m f).length = m := by unfold plw; simp
theorem plw_set {ci : Nat} {b : Nat → Nat} {m k : Nat} {f f' : Nat → List Value} {fs : List Value} (h : k < m) (hf : ∀ j, f' j = if j = k then fs else f j) : (plw ci b m f).set k (b k, .inr (ci, fs)) = plw ci b m f' := by
  apply List.ext_getElem?
  intro j
  by_cases e : j = k
  · subst e
    rw [List.getElem?_set_self (by rw [plw_len]; exact h), plw_get h, hf, if_pos rfl]
  · rw [List.getElem?_set_ne (Ne.symm e)]
    rcases Nat.lt_or_ge j m with q | q
    · rw [plw_get q, plw_get q, hf, if_neg e]
    · rw [List.getElem?_eq_none (by rw [plw_len]; exact q), List.getElem?_eq_none (by rw [plw_len]; exact q)]
theorem upd_map {f : Nat → Int32} {k j : Nat} {x : Int32} : upd f k x j = if j = k then x else f j := rfl
def lawT (T : Nat → Nat → Int32) (n : Nat → Nat) (u0 u1 u2 u3 u4 : Int32) : Nat → Nat → Int32 := va_up (va_up (va_up (va_up (va_up T 16 (upd (T 16) (n 0) u0)) 17 (upd (T 17) (n 0) u1)) 18 (upd (T 18) (n 0) u2)) 19 (upd (T 19) (n 0) u3)) 20 (upd (T 20) (n 0) u4)
theorem en_law_perm {cT : Nat → ClassId} {a : Nat → Nat} {b : Nat → Nat → Nat} {T P : Nat → Nat → Int32} {n : Nat → Nat} {q : Nat} {u0 u1 u2 u3 u4 : Int32} : (offW cT a (va_up b 0 (va_up (b 0) (n 0) q)) (lawT T n u0 u1 u2 u3 u4) P (va_up n 0 (n 0 + 1))).Perm ((((q, .inr (4, [.int u0, .int u1, .int u2, .int u3, .int u4])) :: offW cT a b T P n).set 3 (a 2, .inl (cT 2, 20, .inr (.inr (.inr (.inr (va_up (pf (b 0) (n 0)) (n 0) (some q)))))))).set 2 (a 1, .inr (5, [.ref (a 2), .int (nI (n 0 + 1))]))) := by
  have hnew : lawF (lawT T n u0 u1 u2 u3 u4) (n 0) = [.int u0, .int u1, .int u2, .int u3, .int u4] := by
    show ([.int (upd (T 16) (n 0) u0 (n 0)), .int (upd (T 17) (n 0) u1 (n 0)), .int (upd (T 18) (n 0) u2 (n 0)), .int (upd (T 19) (n 0) u3 (n 0)), .int (upd (T 20) (n 0) u4 (n 0))] : List Value) = _
    simp only [pk_us]
  have hold : ∀ k, k < n 0 → lawF (lawT T n u0 u1 u2 u3 u4) k = lawF T k := fun k hk => by
    show ([.int (upd (T 16) (n 0) u0 k), .int (upd (T 17) (n 0) u1 k), .int (upd (T 18) (n 0) u2 k), .int (upd (T 19) (n 0) u3 k), .int (upd (T 20) (n 0) u4 k)] : List Value) = _
    simp only [pk_un (show k ≠ n 0 by omega)]
  have e0 : plw 4 (va_up (b 0) (n 0) q) (n 0 + 1) (lawF (lawT T n u0 u1 u2 u3 u4)) = plw 4 (b 0) (n 0) (lawF T) ++ [(q, .inr (4, [.int u0, .int u1, .int u2, .int u3, .int u4]))] := by
    rw [plw_push (b := b 0) (f := lawF T) (fun k hk => ⟨va_up_ne _ _ (by omega), hold k hk⟩), va_up_self, hnew]
  have e1 : offW cT a (va_up b 0 (va_up (b 0) (n 0) q)) (lawT T n u0 u1 u2 u3 u4) P (va_up n 0 (n 0 + 1)) = offX cT a (va_up b 0 (va_up (b 0) (n 0) q)) (lawT T n u0 u1 u2 u3 u4) P (va_up n 0 (n 0 + 1)) ++ ((plw 4 (b 0) (n 0) (lawF T) ++ [(q, .inr (4, [.int u0, .int u1, .int u2, .int u3, .int u4]))]) ++ (plw 1 (b 1) (n 1) (findF T) ++ (plw 8 (b 2) (n 2) (saleF T) ++ (plw 7 (b 3) (n 3) (museumF T))))) := by
    show offX cT a (va_up b 0 (va_up (b 0) (n 0) q)) (lawT T n u0 u1 u2 u3 u4) P (va_up n 0 (n 0 + 1)) ++ poolW _ _ _ = _
    congr 1
    show plw 4 (va_up (b 0) (n 0) q) (n 0 + 1) (lawF (lawT T n u0 u1 u2 u3 u4)) ++ (plw 1 (b 1) (n 1) (findF T) ++ (plw 8 (b 2) (n 2) (saleF T) ++ (plw 7 (b 3) (n 3) (museumF T)))) = _
    rw [e0]
  have e2 : ((((q, .inr (4, [.int u0, .int u1, .int u2, .int u3, .int u4])) :: offW cT a b T P n).set 3 (a 2, .inl (cT 2, 20, .inr (.inr (.inr (.inr (va_up (pf (b 0) (n 0)) (n 0) (some q)))))))).set 2 (a 1, .inr (5, [.ref (a 2), .int (nI (n 0 + 1))]))) = (q, .inr (4, [.int u0, .int u1, .int u2, .int u3, .int u4])) :: (offX cT a (va_up b 0 (va_up (b 0) (n 0) q)) (lawT T n u0 u1 u2 u3 u4) P (va_up n 0 (n 0 + 1)) ++ poolW b T n) := by
    rw [pf_push]; rfl
  rw [e1, e2]
  show _
  exact perm_mid _ _ _ _
theorem en_law {D : va_G} {A : Nat → Prop} {H : Heap} {cT : Nat → ClassId} {a : Nat → Nat} {b : Nat → Nat → Nat} {T P : Nat → Nat → Int32} {n : Nat → Nat} {q : Nat} {u0 u1 u2 u3 u4 : Int32} (hP : va_P D vwCl ((((q, .inr (4, [.int u0, .int u1, .int u2, .int u3, .int u4])) :: offW cT a b T P n).set 3 (a 2, .inl (cT 2, 20, .inr (.inr (.inr (.inr (va_up (pf (b 0) (n 0)) (n 0) (some q)))))))).set 2 (a 1, .inr (5, [.ref (a 2), .int (nI (n 0 + 1))]))) H) (hD : va_D A ((((q, .inr (4, [.int u0, .int u1, .int u2, .int u3, .int u4])) :: offW cT a b T P n).set 3 (a 2, .inl (cT 2, 20, .inr (.inr (.inr (.inr (va_up (pf (b 0) (n 0)) (n 0) (some q)))))))).set 2 (a 1, .inr (5, [.ref (a 2), .int (nI (n 0 + 1))])))) : va_P D vwCl (offW cT a (va_up b 0 (va_up (b 0) (n 0) q)) (lawT T n u0 u1 u2 u3 u4) P (va_up n 0 (n 0 + 1))) H ∧ va_D A (offW cT a (va_up b 0 (va_up (b 0) (n 0) q)) (lawT T n u0 u1 u2 u3 u4) P (va_up n 0 (n 0 + 1))) := ⟨hP.perm en_law_perm, hD.perm en_law_perm⟩
def findT (T : Nat → Nat → Int32) (n : Nat → Nat) (u0 u1 u2 u3 u4 u5 u6 u7 u8 u9 u10 : Int32) : Nat → Nat → Int32 := va_up (va_up (va_up (va_up (va_up (va_up (va_up (va_up (va_up (va_up (va_up T 2 (upd (T 2) (n 1) u0)) 3 (upd (T 3) (n 1) u1)) 4 (upd (T 4) (n 1) u2)) 5 (upd (T 5) (n 1) u3)) 6 (upd (T 6) (n 1) u4)) 7 (upd (T 7) (n 1) u5)) 8 (upd (T 8) (n 1) u6)) 9 (upd (T 9) (n 1) u8)) 10 (upd (T 10) (n 1) u7)) 11 (upd (T 11) (n 1) u9)) 12 (upd (T 12) (n 1) u10)
theorem en_find_perm {cT : Nat → ClassId} {a : Nat → Nat} {b : Nat → Nat → Nat} {T P : Nat → Nat → Int32} {n : Nat → Nat} {q : Nat} {u0 u1 u2 u3 u4 u5 u6 u7 u8 u9 u10 : Int32} : (offW cT a (va_up b 1 (va_up (b 1) (n 1) q)) (findT T n u0 u1 u2 u3 u4 u5 u6 u7 u8 u9 u10) P (va_up n 1 (n 1 + 1))).Perm ((((q, .inr (1, [.int u0, .int u1, .int u2, .int u3, .int u4, .int u5, .int u6, .int u7, .int u8, .int u9, .int u10])) :: offW cT a b T P n).set 9 (a 8, .inl (cT 3, 50, .inr (.inr (.inr (.inr (va_up (pf (b 1) (n 1)) (n 1) (some q)))))))).set 8 (a 7, .inr (2, [.ref (a 8), .int (nI (n 1 + 1)), .ref (a 9), .int (T 14 0), .ref (a 10), .ref (a 11), .ref (a 12)]))) := by
  have hnew : findF (findT T n u0 u1 u2 u3 u4 u5 u6 u7 u8 u9 u10) (n 1) = [.int u0, .int u1, .int u2, .int u3, .int u4, .int u5, .int u6, .int u7, .int u8, .int u9, .int u10] := by
    show ([.int (upd (T 2) (n 1) u0 (n 1)), .int (upd (T 3) (n 1) u1 (n 1)), .int (upd (T 4) (n 1) u2 (n 1)), .int (upd (T 5) (n 1) u3 (n 1)), .int (upd (T 6) (n 1) u4 (n 1)), .int (upd (T 7) (n 1) u5 (n 1)), .int (upd (T 8) (n 1) u6 (n 1)), .int (upd (T 10) (n 1) u7 (n 1)), .int (upd (T 9) (n 1) u8 (n 1)), .int (upd (T 11) (n 1) u9 (n 1)), .int (upd (T 12) (n 1) u10 (n 1))] : List Value) = _
    simp only [pk_us]
  have hold : ∀ k, k < n 1 → findF (findT T n u0 u1 u2 u3 u4 u5 u6 u7 u8 u9 u10) k = findF T k := fun k hk => by
    show ([.int (upd (T 2) (n 1) u0 k), .int (upd (T 3) (n 1) u1 k), .int (upd (T 4) (n 1) u2 k), .int (upd (T 5) (n 1) u3 k), .int (upd (T 6) (n 1) u4 k), .int (upd (T 7) (n 1) u5 k), .int (upd (T 8) (n 1) u6 k), .int (upd (T 10) (n 1) u7 k), .int (upd (T 9) (n 1) u8 k), .int (upd (T 11) (n 1) u9 k), .int (upd (T 12) (n 1) u10 k)] : List Value) = _
    simp only [pk_un (show k ≠ n 1 by omega)]
  have e0 : plw 1 (va_up (b 1) (n 1) q) (n 1 + 1) (findF (findT T n u0 u1 u2 u3 u4 u5 u6 u7 u8 u9 u10)) = plw 1 (b 1) (n 1) (findF T) ++ [(q, .inr (1, [.int u0, .int u1, .int u2, .int u3, .int u4, .int u5, .int u6, .int u7, .int u8, .int u9, .int u10]))] := by
    rw [plw_push (b := b 1) (f := findF T) (fun k hk => ⟨va_up_ne _ _ (by omega), hold k hk⟩), va_up_self, hnew]
  have e1 : offW cT a (va_up b 1 (va_up (b 1) (n 1) q)) (findT T n u0 u1 u2 u3 u4 u5 u6 u7 u8 u9 u10) P (va_up n 1 (n 1 + 1)) = offX cT a (va_up b 1 (va_up (b 1) (n 1) q)) (findT T n u0 u1 u2 u3 u4 u5 u6 u7 u8 u9 u10) P (va_up n 1 (n 1 + 1)) ++ (plw 4 (b 0) (n 0) (lawF T) ++ ((plw 1 (b 1) (n 1) (findF T) ++ [(q, .inr (1, [.int u0, .int u1, .int u2, .int u3, .int u4, .int u5, .int u6, .int u7, .int u8, .int u9, .int u10]))]) ++ (plw 8 (b 2) (n 2) (saleF T) ++ (plw 7 (b 3) (n 3) (museumF T))))) := by
    show offX cT a (va_up b 1 (va_up (b 1) (n 1) q)) (findT T n u0 u1 u2 u3 u4 u5 u6 u7 u8 u9 u10) P (va_up n 1 (n 1 + 1)) ++ poolW _ _ _ = _
    congr 1
    show plw 4 (b 0) (n 0) (lawF T) ++ (plw 1 (va_up (b 1) (n 1) q) (n 1 + 1) (findF (findT T n u0 u1 u2 u3 u4 u5 u6 u7 u8 u9 u10)) ++ (plw 8 (b 2) (n 2) (saleF T) ++ (plw 7 (b 3) (n 3) (museumF T)))) = _
    rw [e0]
  have e2 : ((((q, .inr (1, [.int u0, .int u1, .int u2, .int u3, .int u4, .int u5, .int u6, .int u7, .int u8, .int u9, .int u10])) :: offW cT a b T P n).set 9 (a 8, .inl (cT 3, 50, .inr (.inr (.inr (.inr (va_up (pf (b 1) (n 1)) (n 1) (some q)))))))).set 8 (a 7, .inr (2, [.ref (a 8), .int (nI (n 1 + 1)), .ref (a 9), .int (T 14 0), .ref (a 10), .ref (a 11), .ref (a 12)]))) = (q, .inr (1, [.int u0, .int u1, .int u2, .int u3, .int u4, .int u5, .int u6, .int u7, .int u8, .int u9, .int u10])) :: (offX cT a (va_up b 1 (va_up (b 1) (n 1) q)) (findT T n u0 u1 u2 u3 u4 u5 u6 u7 u8 u9 u10) P (va_up n 1 (n 1 + 1)) ++ poolW b T n) := by
    rw [pf_push]; rfl
  rw [e1, e2]
  show _
  have h := perm_mid (q, .inr (1, [.int u0, .int u1, .int u2, .int u3, .int u4, .int u5, .int u6, .int u7, .int u8, .int u9, .int u10])) (offX cT a (va_up b 1 (va_up (b 1) (n 1) q)) (findT T n u0 u1 u2 u3 u4 u5 u6 u7 u8 u9 u10) P (va_up n 1 (n 1 + 1)) ++ plw 4 (b 0) (n 0) (lawF T)) (plw 1 (b 1) (n 1) (findF T)) (plw 8 (b 2) (n 2) (saleF T) ++ plw 7 (b 3) (n 3) (museumF T))
  simpa only [List.append_assoc, poolW] using h
theorem en_find {D : va_G} {A : Nat → Prop} {H : Heap} {cT : Nat → ClassId} {a : Nat → Nat} {b : Nat → Nat → Nat} {T P : Nat → Nat → Int32} {n : Nat → Nat} {q : Nat} {u0 u1 u2 u3 u4 u5 u6 u7 u8 u9 u10 : Int32} (hP : va_P D vwCl ((((q, .inr (1, [.int u0, .int u1, .int u2, .int u3, .int u4, .int u5, .int u6, .int u7, .int u8, .int u9, .int u10])) :: offW cT a b T P n).set 9 (a 8, .inl (cT 3, 50, .inr (.inr (.inr (.inr (va_up (pf (b 1) (n 1)) (n 1) (some q)))))))).set 8 (a 7, .inr (2, [.ref (a 8), .int (nI (n 1 + 1)), .ref (a 9), .int (T 14 0), .ref (a 10), .ref (a 11), .ref (a 12)]))) H) (hD : va_D A ((((q, .inr (1, [.int u0, .int u1, .int u2, .int u3, .int u4, .int u5, .int u6, .int u7, .int u8, .int u9, .int u10])) :: offW cT a b T P n).set 9 (a 8, .inl (cT 3, 50, .inr (.inr (.inr (.inr (va_up (pf (b 1) (n 1)) (n 1) (some q)))))))).set 8 (a 7, .inr (2, [.ref (a 8), .int (nI (n 1 + 1)), .ref (a 9), .int (T 14 0), .ref (a 10), .ref (a 11), .ref (a 12)])))) : va_P D vwCl (offW cT a (va_up b 1 (va_up (b 1) (n 1) q)) (findT T n u0 u1 u2 u3 u4 u5 u6 u7 u8 u9 u10) P (va_up n 1 (n 1 + 1))) H ∧ va_D A (offW cT a (va_up b 1 (va_up (b 1) (n 1) q)) (findT T n u0 u1 u2 u3 u4 u5 u6 u7 u8 u9 u10) P (va_up n 1 (n 1 + 1))) := ⟨hP.perm en_find_perm, hD.perm en_find_perm⟩
def saleT (T : Nat → Nat → Int32) (n : Nat → Nat) (u0 u1 u2 u3 : Int32) : Nat → Nat → Int32 := va_up (va_up (va_up (va_up T 27 (upd (T 27) (n 2) u0)) 28 (upd (T 28) (n 2) u1)) 29 (upd (T 29) (n 2) u2)) 30 (upd (T 30) (n 2) u3)
theorem en_sale_perm {cT : Nat → ClassId} {a : Nat → Nat} {b : Nat → Nat → Nat} {T P : Nat → Nat → Int32} {n : Nat → Nat} {q : Nat} {u0 u1 u2 u3 : Int32} : (offW cT a (va_up b 2 (va_up (b 2) (n 2) q)) (saleT T n u0 u1 u2 u3) P (va_up n 2 (n 2 + 1))).Perm ((((q, .inr (8, [.int u0, .int u1, .int u2, .int u3])) :: offW cT a b T P n).set 15 (a 14, .inl (cT 4, 60, .inr (.inr (.inr (.inr (va_up (pf (b 2) (n 2)) (n 2) (some q)))))))).set 14 (a 13, .inr (6, [.ref (a 14), .int (nI (n 2 + 1)), .ref (a 15)]))) := by
  have hnew : saleF (saleT T n u0 u1 u2 u3) (n 2) = [.int u0, .int u1, .int u2, .int u3] := by
    show ([.int (upd (T 27) (n 2) u0 (n 2)), .int (upd (T 28) (n 2) u1 (n 2)), .int (upd (T 29) (n 2) u2 (n 2)), .int (upd (T 30) (n 2) u3 (n 2))] : List Value) = _
    simp only [pk_us]
  have hold : ∀ k, k < n 2 → saleF (saleT T n u0 u1 u2 u3) k = saleF T k := fun k hk => by
    show ([.int (upd (T 27) (n 2) u0 k), .int (upd (T 28) (n 2) u1 k), .int (upd (T 29) (n 2) u2 k), .int (upd (T 30) (n 2) u3 k)] : List Value) = _
    simp only [pk_un (show k ≠ n 2 by omega)]
  have e0 : plw 8 (va_up (b 2) (n 2) q) (n 2 + 1) (saleF (saleT T n u0 u1 u2 u3)) = plw 8 (b 2) (n 2) (saleF T) ++ [(q, .inr (8, [.int u0, .int u1, .int u2, .int u3]))] := by
    rw [plw_push (b := b 2) (f := saleF T) (fun k hk => ⟨va_up_ne _ _ (by omega), hold k hk⟩), va_up_self, hnew]
  have e1 : offW cT a (va_up b 2 (va_up (b 2) (n 2) q)) (saleT T n u0 u1 u2 u3) P (va_up n 2 (n 2 + 1)) = offX cT a (va_up b 2 (va_up (b 2) (n 2) q)) (saleT T n u0 u1 u2 u3) P (va_up n 2 (n 2 + 1)) ++ (plw 4 (b 0) (n 0) (lawF T) ++ (plw 1 (b 1) (n 1) (findF T) ++ ((plw 8 (b 2) (n 2) (saleF T) ++ [(q, .inr (8, [.int u0, .int u1, .int u2, .int u3]))]) ++ (plw 7 (b 3) (n 3) (museumF T))))) := by
    show offX cT a (va_up b 2 (va_up (b 2) (n 2) q)) (saleT T n u0 u1 u2 u3) P (va_up n 2 (n 2 + 1)) ++ poolW _ _ _ = _
    congr 1
    show plw 4 (b 0) (n 0) (lawF T) ++ (plw 1 (b 1) (n 1) (findF T) ++ (plw 8 (va_up (b 2) (n 2) q) (n 2 + 1) (saleF (saleT T n u0 u1 u2 u3)) ++ (plw 7 (b 3) (n 3) (museumF T)))) = _
    rw [e0]
  have e2 : ((((q, .inr (8, [.int u0, .int u1, .int u2, .int u3])) :: offW cT a b T P n).set 15 (a 14, .inl (cT 4, 60, .inr (.inr (.inr (.inr (va_up (pf (b 2) (n 2)) (n 2) (some q)))))))).set 14 (a 13, .inr (6, [.ref (a 14), .int (nI (n 2 + 1)), .ref (a 15)]))) = (q, .inr (8, [.int u0, .int u1, .int u2, .int u3])) :: (offX cT a (va_up b 2 (va_up (b 2) (n 2) q)) (saleT T n u0 u1 u2 u3) P (va_up n 2 (n 2 + 1)) ++ poolW b T n) := by
    rw [pf_push]; rfl
  rw [e1, e2]
  show _
  have h := perm_mid (q, .inr (8, [.int u0, .int u1, .int u2, .int u3])) (offX cT a (va_up b 2 (va_up (b 2) (n 2) q)) (saleT T n u0 u1 u2 u3) P (va_up n 2 (n 2 + 1)) ++ (plw 4 (b 0) (n 0) (lawF T) ++ plw 1 (b 1) (n 1) (findF T))) (plw 8 (b 2) (n 2) (saleF T)) (plw 7 (b 3) (n 3) (museumF T))
  simpa only [List.append_assoc, poolW] using h
theorem en_sale {D : va_G} {A : Nat → Prop} {H : Heap} {cT : Nat → ClassId} {a : Nat → Nat} {b : Nat → Nat → Nat} {T P : Nat → Nat → Int32} {n : Nat → Nat} {q : Nat} {u0 u1 u2 u3 : Int32} (hP : va_P D vwCl ((((q, .inr (8, [.int u0, .int u1, .int u2, .int u3])) :: offW cT a b T P n).set 15 (a 14, .inl (cT 4, 60, .inr (.inr (.inr (.inr (va_up (pf (b 2) (n 2)) (n 2) (some q)))))))).set 14 (a 13, .inr (6, [.ref (a 14), .int (nI (n 2 + 1)), .ref (a 15)]))) H) (hD : va_D A ((((q, .inr (8, [.int u0, .int u1, .int u2, .int u3])) :: offW cT a b T P n).set 15 (a 14, .inl (cT 4, 60, .inr (.inr (.inr (.inr (va_up (pf (b 2) (n 2)) (n 2) (some q)))))))).set 14 (a 13, .inr (6, [.ref (a 14), .int (nI (n 2 + 1)), .ref (a 15)])))) : va_P D vwCl (offW cT a (va_up b 2 (va_up (b 2) (n 2) q)) (saleT T n u0 u1 u2 u3) P (va_up n 2 (n 2 + 1))) H ∧ va_D A (offW cT a (va_up b 2 (va_up (b 2) (n 2) q)) (saleT T n u0 u1 u2 u3) P (va_up n 2 (n 2 + 1))) := ⟨hP.perm en_sale_perm, hD.perm en_sale_perm⟩
def museumT (T : Nat → Nat → Int32) (n : Nat → Nat) (u0 u1 u2 : Int32) : Nat → Nat → Int32 := va_up (va_up (va_up T 33 (upd (T 33) (n 3) u0)) 34 (upd (T 34) (n 3) u1)) 35 (upd (T 35) (n 3) u2)
theorem en_museum_perm {cT : Nat → ClassId} {a : Nat → Nat} {b : Nat → Nat → Nat} {T P : Nat → Nat → Int32} {n : Nat → Nat} {q : Nat} {u0 u1 u2 : Int32} : (offW cT a (va_up b 3 (va_up (b 3) (n 3) q)) (museumT T n u0 u1 u2) P (va_up n 3 (n 3 + 1))).Perm ((((q, .inr (7, [.int u0, .int u1, .int u2])) :: offW cT a b T P n).set 18 (a 17, .inl (cT 5, 10, .inr (.inr (.inr (.inr (va_up (pf (b 3) (n 3)) (n 3) (some q)))))))).set 17 (a 16, .inr (0, [.ref (a 17), .int (nI (n 3 + 1)), .int (T 36 0 + 1)]))) := by
  have hnew : museumF (museumT T n u0 u1 u2) (n 3) = [.int u0, .int u1, .int u2] := by
    show ([.int (upd (T 33) (n 3) u0 (n 3)), .int (upd (T 34) (n 3) u1 (n 3)), .int (upd (T 35) (n 3) u2 (n 3))] : List Value) = _
    simp only [pk_us]
  have hold : ∀ k, k < n 3 → museumF (museumT T n u0 u1 u2) k = museumF T k := fun k hk => by
    show ([.int (upd (T 33) (n 3) u0 k), .int (upd (T 34) (n 3) u1 k), .int (upd (T 35) (n 3) u2 k)] : List Value) = _
    simp only [pk_un (show k ≠ n 3 by omega)]
  have e0 : plw 7 (va_up (b 3) (n 3) q) (n 3 + 1) (museumF (museumT T n u0 u1 u2)) = plw 7 (b 3) (n 3) (museumF T) ++ [(q, .inr (7, [.int u0, .int u1, .int u2]))] := by
    rw [plw_push (b := b 3) (f := museumF T) (fun k hk => ⟨va_up_ne _ _ (by omega), hold k hk⟩), va_up_self, hnew]
  have e1 : offW cT a (va_up b 3 (va_up (b 3) (n 3) q)) (museumT T n u0 u1 u2) P (va_up n 3 (n 3 + 1)) = offX cT a (va_up b 3 (va_up (b 3) (n 3) q)) (museumT T n u0 u1 u2) P (va_up n 3 (n 3 + 1)) ++ (plw 4 (b 0) (n 0) (lawF T) ++ (plw 1 (b 1) (n 1) (findF T) ++ (plw 8 (b 2) (n 2) (saleF T) ++ ((plw 7 (b 3) (n 3) (museumF T) ++ [(q, .inr (7, [.int u0, .int u1, .int u2]))]))))) := by
    show offX cT a (va_up b 3 (va_up (b 3) (n 3) q)) (museumT T n u0 u1 u2) P (va_up n 3 (n 3 + 1)) ++ poolW _ _ _ = _
    congr 1
    show plw 4 (b 0) (n 0) (lawF T) ++ (plw 1 (b 1) (n 1) (findF T) ++ (plw 8 (b 2) (n 2) (saleF T) ++ (plw 7 (va_up (b 3) (n 3) q) (n 3 + 1) (museumF (museumT T n u0 u1 u2))))) = _
    rw [e0]
  have e2 : ((((q, .inr (7, [.int u0, .int u1, .int u2])) :: offW cT a b T P n).set 18 (a 17, .inl (cT 5, 10, .inr (.inr (.inr (.inr (va_up (pf (b 3) (n 3)) (n 3) (some q)))))))).set 17 (a 16, .inr (0, [.ref (a 17), .int (nI (n 3 + 1)), .int (T 36 0 + 1)]))) = (q, .inr (7, [.int u0, .int u1, .int u2])) :: (offX cT a (va_up b 3 (va_up (b 3) (n 3) q)) (museumT T n u0 u1 u2) P (va_up n 3 (n 3 + 1)) ++ poolW b T n) := by
    rw [pf_push]; rfl
  rw [e1, e2]
  show _
  have h := perm_mid (q, .inr (7, [.int u0, .int u1, .int u2])) (offX cT a (va_up b 3 (va_up (b 3) (n 3) q)) (museumT T n u0 u1 u2) P (va_up n 3 (n 3 + 1)) ++ (plw 4 (b 0) (n 0) (lawF T) ++ (plw 1 (b 1) (n 1) (findF T) ++ plw 8 (b 2) (n 2) (saleF T)))) (plw 7 (b 3) (n 3) (museumF T)) []
  simpa only [List.append_assoc, List.append_nil, poolW] using h
theorem en_museum {D : va_G} {A : Nat → Prop} {H : Heap} {cT : Nat → ClassId} {a : Nat → Nat} {b : Nat → Nat → Nat} {T P : Nat → Nat → Int32} {n : Nat → Nat} {q : Nat} {u0 u1 u2 : Int32} (hP : va_P D vwCl ((((q, .inr (7, [.int u0, .int u1, .int u2])) :: offW cT a b T P n).set 18 (a 17, .inl (cT 5, 10, .inr (.inr (.inr (.inr (va_up (pf (b 3) (n 3)) (n 3) (some q)))))))).set 17 (a 16, .inr (0, [.ref (a 17), .int (nI (n 3 + 1)), .int (T 36 0 + 1)]))) H) (hD : va_D A ((((q, .inr (7, [.int u0, .int u1, .int u2])) :: offW cT a b T P n).set 18 (a 17, .inl (cT 5, 10, .inr (.inr (.inr (.inr (va_up (pf (b 3) (n 3)) (n 3) (some q)))))))).set 17 (a 16, .inr (0, [.ref (a 17), .int (nI (n 3 + 1)), .int (T 36 0 + 1)])))) : va_P D vwCl (offW cT a (va_up b 3 (va_up (b 3) (n 3) q)) (museumT T n u0 u1 u2) P (va_up n 3 (n 3 + 1))) H ∧ va_D A (offW cT a (va_up b 3 (va_up (b 3) (n 3) q)) (museumT T n u0 u1 u2) P (va_up n 3 (n 3 + 1))) := ⟨hP.perm en_museum_perm, hD.perm en_museum_perm⟩
theorem ofm_get {cT : Nat → ClassId} {a : Nat → Nat} {b : Nat → Nat → Nat} {T P : Nat → Nat → Int32} {n : Nat → Nat} {m : Nat} (h : m < n 3) : (offW cT a b T P n)[19 + (n 0 + (n 1 + (n 2 + m)))]? = some (b 3 m, .inr (7, museumF T m)) := by
  unfold offW poolW
  rw [List.getElem?_append_right (by simp [offX]), show 19 + (n 0 + (n 1 + (n 2 + m))) - (offX cT a b T P n).length = n 0 + (n 1 + (n 2 + m)) by simp [offX], List.getElem?_append_right (by rw [plw_len]; omega), plw_len, Nat.add_sub_cancel_left, List.getElem?_append_right (by rw [plw_len]; omega), plw_len, Nat.add_sub_cancel_left, List.getElem?_append_right (by rw [plw_len]; omega), plw_len, Nat.add_sub_cancel_left]
  exact plw_get h
theorem ofm_set {cT : Nat → ClassId} {a : Nat → Nat} {b : Nat → Nat → Nat} {T P : Nat → Nat → Int32} {n : Nat → Nat} {m : Nat} {v : Int32} (h : m < n 3) : (offW cT a b T P n).set (19 + (n 0 + (n 1 + (n 2 + m)))) (b 3 m, .inr (7, (museumF T m).set 2 (.int v))) = offW cT a b (va_up T 35 (upd (T 35) m v)) P n := by
  unfold offW poolW
  rw [List.set_append_right _ _ (by simp [offX]), show 19 + (n 0 + (n 1 + (n 2 + m))) - (offX cT a b T P n).length = n 0 + (n 1 + (n 2 + m)) by simp [offX], List.set_append_right _ _ (by rw [plw_len]; omega), plw_len, Nat.add_sub_cancel_left, List.set_append_right _ _ (by rw [plw_len]; omega), plw_len, Nat.add_sub_cancel_left, List.set_append_right _ _ (by rw [plw_len]; omega), plw_len, Nat.add_sub_cancel_left]
  rw [plw_set (f' := museumF (va_up T 35 (upd (T 35) m v))) h (fun j => ?_)]
  · rfl
  · show ([.int (T 33 j), .int (T 34 j), .int (upd (T 35) m v j)] : List Value) = _
    by_cases e : j = m
    · subst e; rw [if_pos rfl, pk_us]; rfl
    · rw [if_neg e, pk_un e]
theorem off_get {cT : Nat → ClassId} {a : Nat → Nat} {b : Nat → Nat → Nat} {T P : Nat → Nat → Int32} {n : Nat → Nat} {m : Nat} (h : m < n 1) : (offW cT a b T P n)[19 + (n 0 + m)]? = some (b 1 m, .inr (1, findF T m)) := by
  unfold offW poolW
  rw [List.getElem?_append_right (by simp [offX]), show 19 + (n 0 + m) - (offX cT a b T P n).length = n 0 + m by simp [offX], List.getElem?_append_right (by rw [plw_len]; omega), plw_len, Nat.add_sub_cancel_left, List.getElem?_append_left (by rw [plw_len]; omega)]
  exact plw_get h
theorem off_set {cT : Nat → ClassId} {a : Nat → Nat} {b : Nat → Nat → Nat} {T P : Nat → Nat → Int32} {n : Nat → Nat} {m : Nat} {v : Int32} (h : m < n 1) : (offW cT a b T P n).set (19 + (n 0 + m)) (b 1 m, .inr (1, (findF T m).set 10 (.int v))) = offW cT a b (va_up T 12 (upd (T 12) m v)) P n := by
  unfold offW poolW
  rw [List.set_append_right _ _ (by simp [offX]), show 19 + (n 0 + m) - (offX cT a b T P n).length = n 0 + m by simp [offX], List.set_append_right _ _ (by rw [plw_len]; omega), plw_len, Nat.add_sub_cancel_left, List.set_append_left _ _ (by rw [plw_len]; omega)]
  rw [plw_set (f' := findF (va_up T 12 (upd (T 12) m v))) h (fun j => ?_)]
  · rfl
  · show ([.int (T 2 j), .int (T 3 j), .int (T 4 j), .int (T 5 j), .int (T 6 j), .int (T 7 j), .int (T 8 j), .int (T 10 j), .int (T 9 j), .int (T 11 j), .int (upd (T 12) m v j)] : List Value) = _
    by_cases e : j = m
    · subst e; rw [if_pos rfl, pk_us]; rfl
    · rw [if_neg e, pk_un e]
def po1 (D : va_G) (h0 ci : Nat) (fs : List Value) (A : Nat → Prop) (H : Heap) : Prop := va_P D vwCl [(h0, .inr (ci, fs))] H ∧ va_D A [(h0, .inr (ci, fs))]
section MYROWS3
variable {p : Program} {l : Launch} {e : Env} {R : Room} {s : State} {m : MethodId} {args : Array Value} {below : List Frame} {meth : Method} {c : Code} {H : Heap} {locs : List Loc} {cells slots : Nat} {Q : State → Prop}
variable {cc : ByteArray} {pc : Nat} {ls : Array Slot} {rest : List Value} {D : va_G} {cl : List vw_C} {A : Nat → Prop} {a : Nat} {tys : List (ClassId × FieldType)} {ws : va_W} {H0 : Heap} {cA : ClassId} {n : Nat} {i : Int32} {k : Nat}
theorem my_astq (hx : p.tables.exec = Jvm.exec) (hb : c.code = cc) (hK : va_K D cl tys s) (hP : va_P D cl ws H) (hD : va_D A ws) (hS : va_S A H0 H locs) (q0 t0 qk ci : Nat) {r : vw_C} {v : Nat} {vs : List Value} {f : Nat → Option Nat} (ha : ws[q0]? = some (a, .inl (cA, n, .inr (.inr (.inr (.inr f)))))) (ht : tys[t0]? = some (cA, .object r.1)) (hv : ws[qk]? = some (v, .inr (ci, vs))) (hc : cl[ci]? = some r) (hi : i = nI k) (hk : k < n) (hn : n < 2 ^ 31) (hdg : decode cc pc = .ok (.aastore, 1))
    (kk : ∀ (H1 : Heap) (locs1 : List Loc), va_P D cl (ws.set q0 (a, .inl (cA, n, .inr (.inr (.inr (.inr (va_up f k (some v)))))))) H1 → va_D A (ws.set q0 (a, .inl (cA, n, .inr (.inr (.inr (.inr (va_up f k (some v)))))))) → va_S A H0 H1 locs1 → W p l e R s m args below meth c H1 locs1 cells slots Q (F0 m (pc + 1) ls rest)) : W p l e R s m args below meth c H locs cells slots Q (F0 m pc ls (.ref v :: .int i :: .ref a :: rest)) := by
  subst hi
  refine va_astq hx hb hK hP hD hS q0 t0 qk ci ha ht hv hc (vp_in_nI hk hn) hdg ?_
  rw [nI_clamp (Nat.lt_trans hk hn)]
  exact kk
end MYROWS3
