/-! entering a new thing told -/
theorem va_P.tl {D : va_G} {cl : List vw_C} {x : Nat × va_E} {ws : va_W} {H : Heap} (h : va_P D cl (x :: ws) H) : va_P D cl ws H := va_P.of (fun _ hq => h.mem (List.mem_cons_of_mem _ hq))
theorem va_D.tl {A : Nat → Prop} {x : Nat × va_E} {ws : va_W} (h : va_D A (x :: ws)) : va_D A ws := by
  refine ⟨fun i j p q hi hj e => ?_, fun k q hk => h.2 (k + 1) q hk⟩
  have := h.1 (i + 1) (j + 1) p q hi hj e
  omega
theorem va_P.rot {D : va_G} {cl : List vw_C} {x : Nat × va_E} {ws : va_W} {H : Heap} (h : va_P D cl (ws ++ [x]) H) : va_P D cl (x :: ws) H := h.perm (perm_rot x ws)
theorem va_D.rot {A : Nat → Prop} {x : Nat × va_E} {ws : va_W} (h : va_D A (ws ++ [x])) : va_D A (x :: ws) := h.perm (perm_rot x ws)
theorem Cnt.up2 {n : Nat → Nat} (h : Cnt n) (hl : n 2 < 60) : Cnt (va_up n 2 (n 2 + 1)) := ⟨h.1, h.2.1, (show n 2 + 1 ≤ 60 by omega), h.2.2.2.1, h.2.2.2.2⟩
theorem mus_T {T : Nat → Nat → Int32} {n : Nat → Nat} {me wo : Int32} (h : T 35 (n 3) = 0) : museumT T n me wo 0 = muT T n me wo := by
  unfold museumT muT
  rw [upd_same h]
  exact up_same rfl
theorem sel_mod {f j m : Nat} (hf : f < m) (hj : j < m) : (f + j) % m = if f + j < m then f + j else f + j - m := by
  split
  · next h => exact Nat.mod_eq_of_lt h
  · next h => rw [Nat.mod_eq_sub_mod (by omega), Nat.mod_eq_of_lt (by omega)]
theorem sel_lt {f j m : Nat} {v : Int32} (hv : v = nI f) (hf : f < m) (hj : j < m) (hm : m ≤ 10) (h : ¬ nI m ≤ v + nI j) : v + nI j = nI ((f + j) % m) := by
  rw [hv, nI_add] at h ⊢
  have := nat_nle h (by omega) (by omega)
  rw [sel_mod hf hj, if_pos this]
theorem sel_ge {f j m : Nat} {v : Int32} (hv : v = nI f) (hf : f < m) (hj : j < m) (hm : m ≤ 10) (h : nI m ≤ v + nI j) : v + nI j - nI m = nI ((f + j) % m) := by
  rw [hv, nI_add] at h ⊢
  have := nat_le h (by omega) (by omega)
  rw [sel_mod hf hj, if_neg (by omega), pk_sub this]
def slT (T : Nat → Nat → Int32) (w : Int32) (o : Option Nat) : Nat → Nat → Int32 := match o with
  | none => T
  | some m => va_up (va_up T 35 (upd (T 35) m (T 35 m + w))) 36 (fun _ => nI m)
