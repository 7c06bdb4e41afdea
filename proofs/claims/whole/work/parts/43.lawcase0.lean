section LAWC0
variable {p : Program} {e : Env} {s : State} {m : MethodId} {below : List Frame} {meth : Method} {c : Code} {D : va_G} {cT : Nat → ClassId} {ao am : Nat → Nat} {b L i cells slots : Nat} {xs : Nat → Int32} {T : Nat → Nat → Int32} {n : Nat → Nat} {H : Heap} {locs : List Loc} {ls : Array Slot}
set_option maxHeartbeats 4000000 in
set_option maxRecDepth 100000 in
theorem law_140 (l : Launch) (hL : L ≤ 2560) (C0 : lw_At p s m meth c b L xs) (hE : EV D cT s) (hWD : WD s s.heap) (hi : i + 5 ≤ L) (hc : cells + 1 ≤ 600000) (hs : slots + 11 ≤ 7302249) (hI : lwI D cT ao am s T n H locs) (hl : lv_has ls 4 [(0, .ref b), (1, .ref (ao 0)), (2, .ref (am 0)), (3, .int (nI i))]) (kk : lwK p l e s m below meth c D cT ao am b i (cells + 1) (slots + 11)) : W p l e room_1 s m #[Value.ref b] below meth c H locs cells slots (lw_Z below #[Value.ref b] s) (F0 m 140 ls []) := by
  obtain ⟨hx, hb, hr, hml, hown, htT, hX, hbl, hlocks, hgv⟩ := C0
  have hts : ∀ w ∈ wsL_law, w.before #[Value.ref b] s = true := fun w h => htT w (wsL_law_in w h)
  have hA : ∀ q : Nat, s.heap.size ≤ q → (fun q : Nat => s.heap.size ≤ q) q := fun _ h => h
  have hbA : ¬ (fun q : Nat => s.heap.size ≤ q) b := Nat.not_le.mpr hbl
  obtain ⟨bo, P, z, hJ, hpr, hO, hM, hD, hS⟩ := hI
  have hH : ∀ q : Nat, H.size ≤ q → (fun q : Nat => s.heap.size ≤ q) q := fun q h => Nat.le_trans hS.1 h
  refine lv_aload_n hx hb dL_law_140 rfl (lv_at hl 1 rfl) ?_
  refine lv_aload_n hx hb dL_law_141 rfl (lv_at hl 0 rfl) ?_
  refine lv_iload_n hx hb dL_law_142 rfl (lv_at hl 3 rfl) ?_
  refine lv_iconst (v := 1) hx hb dL_law_143 (by decide) ?_
  refine lv_iadd hx hb dL_law_144 ?_
  refine topi_eq (nI_add _ 1) ?_
  refine my_sld (k := i + 1) hx hb hX hbl hbA hS (by omega) (by omega) dL_law_145 ?_
  refine rw_V1 (As := [.int (xs (i + 1))]) (rest := []) ⟨hx, hb, hml, hown, hts⟩ (c_X9_go l D cT H.size ao bo T P n (xs (i + 1)) hJ.1 hJ.2.1 hpr) (cwV 1 hts gL_law_X9_go rfl rfl rfl (by decide +kernel) ⟨Nat.le_of_ble_eq_true rfl, Nat.le_of_ble_eq_true rfl⟩) hE hO (lw_lft hD) hS hA 0 9 ofl_0 rfl rfl rfl hl.1 rfl (Nat.le_of_ble_eq_true rfl) dL_law_146 ⟨(show cells + 0 ≤ 600000 by omega), (show slots + 0 ≤ 7302249 by omega)⟩ (fun H1 locs1 hB hz1 hk1 hS => ?_)
  obtain ⟨bo2, P2, hpr2, hO, hM, hD⟩ := mid9 hB hM hD hH hk1
  have hH : ∀ q : Nat, H1.size ≤ q → (fun q : Nat => s.heap.size ≤ q) q := fun q h => Nat.le_trans hS.1 h
  refine lv_aload_n hx hb dL_law_149 rfl (lv_at hl 2 rfl) ?_
  refine lv_aload_n hx hb dL_law_150 rfl (lv_at hl 0 rfl) ?_
  refine lv_iload_n hx hb dL_law_151 rfl (lv_at hl 3 rfl) ?_
  refine lv_iconst (v := 1) hx hb dL_law_152 (by decide) ?_
  refine lv_iadd hx hb dL_law_153 ?_
  refine topi_eq (nI_add _ 1) ?_
  refine my_sld (k := i + 1) hx hb hX hbl hbA hS (by omega) (by omega) dL_law_154 ?_
  refine rw_V1 (As := [.int (xs (i + 1))]) (rest := [_]) ⟨hx, hb, hml, hown, hts⟩ (c_X10_go l D cT H1.size am T n z (xs (i + 1)) hJ.1) (cwV 1 hts gL_law_X10_go rfl rfl rfl (by decide +kernel) ⟨Nat.le_of_ble_eq_true rfl, Nat.le_of_ble_eq_true rfl⟩) hE hM (lw_rgt hD) hS hA 0 10 mol_0 rfl rfl rfl hl.1 rfl (Nat.le_of_ble_eq_true rfl) dL_law_155 ⟨(show cells + 0 + 0 ≤ 600000 by omega), (show slots + 0 + 0 ≤ 7302249 by omega)⟩ (fun H2 locs2 hB hz2 hk2 hS => ?_)
  obtain ⟨z2, hO, hM, hD⟩ := mid10 hB hO hD hH hk2
  refine lv_icmp_eq (tgt := 869) hx hb dL_law_158 (by decide) (fun _ => ?_) (fun q => absurd rfl q)
  refine W.widen (k := cells + 1) (n := slots + 11) (by omega) (by omega) ?_
  exact kk _ _ _ _ ⟨bo2, P2, z2, keep_go hJ, hpr2, hO, hM, hD, hS⟩ ls hl
set_option maxHeartbeats 4000000 in
set_option maxRecDepth 100000 in
theorem law_163 (l : Launch) (hL : L ≤ 2560) (C0 : lw_At p s m meth c b L xs) (hE : EV D cT s) (hWD : WD s s.heap) (hi : i + 5 ≤ L) (hc : cells + 1 ≤ 600000) (hs : slots + 11 ≤ 7302249) (hI : lwI D cT ao am s T n H locs) (hl : lv_has ls 4 [(0, .ref b), (1, .ref (ao 0)), (2, .ref (am 0)), (3, .int (nI i))]) (kk : lwK p l e s m below meth c D cT ao am b i (cells + 1) (slots + 11)) : W p l e room_1 s m #[Value.ref b] below meth c H locs cells slots (lw_Z below #[Value.ref b] s) (F0 m 163 ls []) := by
  obtain ⟨hx, hb, hr, hml, hown, htT, hX, hbl, hlocks, hgv⟩ := C0
  have hts : ∀ w ∈ wsL_law, w.before #[Value.ref b] s = true := fun w h => htT w (wsL_law_in w h)
  have hA : ∀ q : Nat, s.heap.size ≤ q → (fun q : Nat => s.heap.size ≤ q) q := fun _ h => h
  have hbA : ¬ (fun q : Nat => s.heap.size ≤ q) b := Nat.not_le.mpr hbl
  obtain ⟨bo, P, z, hJ, hpr, hO, hM, hD, hS⟩ := hI
  have hH : ∀ q : Nat, H.size ≤ q → (fun q : Nat => s.heap.size ≤ q) q := fun q h => Nat.le_trans hS.1 h
  refine lv_aload_n hx hb dL_law_163 rfl (lv_at hl 1 rfl) ?_
  refine lv_aload_n hx hb dL_law_164 rfl (lv_at hl 0 rfl) ?_
  refine lv_iload_n hx hb dL_law_165 rfl (lv_at hl 3 rfl) ?_
  refine lv_iconst (v := 1) hx hb dL_law_166 (by decide) ?_
  refine lv_iadd hx hb dL_law_167 ?_
  refine topi_eq (nI_add _ 1) ?_
  refine my_sld (k := i + 1) hx hb hX hbl hbA hS (by omega) (by omega) dL_law_168 ?_
  refine lv_aload_n hx hb dL_law_169 rfl (lv_at hl 0 rfl) ?_
  refine lv_iload_n hx hb dL_law_170 rfl (lv_at hl 3 rfl) ?_
  refine lv_iconst (v := 2) hx hb dL_law_171 (by decide) ?_
  refine lv_iadd hx hb dL_law_172 ?_
  refine topi_eq (nI_add _ 2) ?_
  refine my_sld (k := i + 2) hx hb hX hbl hbA hS (by omega) (by omega) dL_law_173 ?_
  refine lv_aload_n hx hb dL_law_174 rfl (lv_at hl 0 rfl) ?_
  refine lv_iload_n hx hb dL_law_175 rfl (lv_at hl 3 rfl) ?_
  refine lv_iconst (v := 3) hx hb dL_law_176 (by decide) ?_
  refine lv_iadd hx hb dL_law_177 ?_
  refine topi_eq (nI_add _ 3) ?_
  refine my_sld (k := i + 3) hx hb hX hbl hbA hS (by omega) (by omega) dL_law_178 ?_
  refine rw_V1 (As := [.int (xs (i + 1)), .int (xs (i + 2)), .int (xs (i + 3))]) (rest := []) ⟨hx, hb, hml, hown, hts⟩ (c_X9_law l D cT H.size ao bo T P n (xs (i + 1)) (xs (i + 2)) (xs (i + 3)) hJ.1 hJ.2.1 hpr) (cwV 3 hts gL_law_X9_law rfl rfl rfl (by decide +kernel) ⟨Nat.le_of_ble_eq_true rfl, Nat.le_of_ble_eq_true rfl⟩) hE hO (lw_lft hD) hS hA 0 9 ofl_0 rfl rfl rfl hl.1 rfl (Nat.le_of_ble_eq_true rfl) dL_law_179 ⟨(show cells + 1 ≤ 600000 by omega), (show slots + 5 ≤ 7302249 by omega)⟩ (fun H1 locs1 hB hz1 hk1 hS => ?_)
  obtain ⟨bo2, P2, hpr2, hO, hM, hD⟩ := mid9 hB hM hD hH hk1
  have hH : ∀ q : Nat, H1.size ≤ q → (fun q : Nat => s.heap.size ≤ q) q := fun q h => Nat.le_trans hS.1 h
  refine lv_aload_n hx hb dL_law_182 rfl (lv_at hl 2 rfl) ?_
  refine lv_aload_n hx hb dL_law_183 rfl (lv_at hl 0 rfl) ?_
  refine lv_iload_n hx hb dL_law_184 rfl (lv_at hl 3 rfl) ?_
  refine lv_iconst (v := 1) hx hb dL_law_185 (by decide) ?_
  refine lv_iadd hx hb dL_law_186 ?_
  refine topi_eq (nI_add _ 1) ?_
  refine my_sld (k := i + 1) hx hb hX hbl hbA hS (by omega) (by omega) dL_law_187 ?_
  refine lv_aload_n hx hb dL_law_188 rfl (lv_at hl 0 rfl) ?_
  refine lv_iload_n hx hb dL_law_189 rfl (lv_at hl 3 rfl) ?_
  refine lv_iconst (v := 2) hx hb dL_law_190 (by decide) ?_
  refine lv_iadd hx hb dL_law_191 ?_
  refine topi_eq (nI_add _ 2) ?_
  refine my_sld (k := i + 2) hx hb hX hbl hbA hS (by omega) (by omega) dL_law_192 ?_
  refine lv_aload_n hx hb dL_law_193 rfl (lv_at hl 0 rfl) ?_
  refine lv_iload_n hx hb dL_law_194 rfl (lv_at hl 3 rfl) ?_
  refine lv_iconst (v := 3) hx hb dL_law_195 (by decide) ?_
  refine lv_iadd hx hb dL_law_196 ?_
  refine topi_eq (nI_add _ 3) ?_
  refine my_sld (k := i + 3) hx hb hX hbl hbA hS (by omega) (by omega) dL_law_197 ?_
  refine rw_V1 (As := [.int (xs (i + 1)), .int (xs (i + 2)), .int (xs (i + 3))]) (rest := [_]) ⟨hx, hb, hml, hown, hts⟩ (c_X10_law l D cT H1.size am T n z (xs (i + 1)) (xs (i + 2)) (xs (i + 3)) hJ.1) (cwV 3 hts gL_law_X10_law rfl rfl rfl (by decide +kernel) ⟨Nat.le_of_ble_eq_true rfl, Nat.le_of_ble_eq_true rfl⟩) hE hM (lw_rgt hD) hS hA 0 10 mol_0 rfl rfl rfl hl.1 rfl (Nat.le_of_ble_eq_true rfl) dL_law_198 ⟨(show cells + 1 + 0 ≤ 600000 by omega), (show slots + 5 + 0 ≤ 7302249 by omega)⟩ (fun H2 locs2 hB hz2 hk2 hS => ?_)
  obtain ⟨z2, hO, hM, hD⟩ := mid10 hB hO hD hH hk2
  refine lv_icmp_eq (tgt := 869) hx hb dL_law_201 (by decide) (fun _ => ?_) (fun q => absurd rfl q)
  refine W.widen (k := cells + 1) (n := slots + 11) (by omega) (by omega) ?_
  exact kk _ _ _ _ ⟨bo2, P2, z2, keep_law hJ, hpr2, hO, hM, hD, hS⟩ ls hl
set_option maxHeartbeats 4000000 in
set_option maxRecDepth 100000 in
theorem law_206 (l : Launch) (hL : L ≤ 2560) (C0 : lw_At p s m meth c b L xs) (hE : EV D cT s) (hWD : WD s s.heap) (hi : i + 5 ≤ L) (hc : cells + 1 ≤ 600000) (hs : slots + 11 ≤ 7302249) (hI : lwI D cT ao am s T n H locs) (hl : lv_has ls 4 [(0, .ref b), (1, .ref (ao 0)), (2, .ref (am 0)), (3, .int (nI i))]) (kk : lwK p l e s m below meth c D cT ao am b i (cells + 1) (slots + 11)) : W p l e room_1 s m #[Value.ref b] below meth c H locs cells slots (lw_Z below #[Value.ref b] s) (F0 m 206 ls []) := by
  obtain ⟨hx, hb, hr, hml, hown, htT, hX, hbl, hlocks, hgv⟩ := C0
  have hts : ∀ w ∈ wsL_law, w.before #[Value.ref b] s = true := fun w h => htT w (wsL_law_in w h)
  have hA : ∀ q : Nat, s.heap.size ≤ q → (fun q : Nat => s.heap.size ≤ q) q := fun _ h => h
  have hbA : ¬ (fun q : Nat => s.heap.size ≤ q) b := Nat.not_le.mpr hbl
  obtain ⟨bo, P, z, hJ, hpr, hO, hM, hD, hS⟩ := hI
  have hH : ∀ q : Nat, H.size ≤ q → (fun q : Nat => s.heap.size ≤ q) q := fun q h => Nat.le_trans hS.1 h
  refine lv_aload_n hx hb dL_law_206 rfl (lv_at hl 1 rfl) ?_
  refine lv_aload_n hx hb dL_law_207 rfl (lv_at hl 0 rfl) ?_
  refine lv_iload_n hx hb dL_law_208 rfl (lv_at hl 3 rfl) ?_
  refine lv_iconst (v := 1) hx hb dL_law_209 (by decide) ?_
  refine lv_iadd hx hb dL_law_210 ?_
  refine topi_eq (nI_add _ 1) ?_
  refine my_sld (k := i + 1) hx hb hX hbl hbA hS (by omega) (by omega) dL_law_211 ?_
  refine lv_aload_n hx hb dL_law_212 rfl (lv_at hl 0 rfl) ?_
  refine lv_iload_n hx hb dL_law_213 rfl (lv_at hl 3 rfl) ?_
  refine lv_iconst (v := 2) hx hb dL_law_214 (by decide) ?_
  refine lv_iadd hx hb dL_law_215 ?_
  refine topi_eq (nI_add _ 2) ?_
  refine my_sld (k := i + 2) hx hb hX hbl hbA hS (by omega) (by omega) dL_law_216 ?_
  refine lv_aload_n hx hb dL_law_217 rfl (lv_at hl 0 rfl) ?_
  refine lv_iload_n hx hb dL_law_218 rfl (lv_at hl 3 rfl) ?_
  refine lv_iconst (v := 3) hx hb dL_law_219 (by decide) ?_
  refine lv_iadd hx hb dL_law_220 ?_
  refine topi_eq (nI_add _ 3) ?_
  refine my_sld (k := i + 3) hx hb hX hbl hbA hS (by omega) (by omega) dL_law_221 ?_
  refine rw_V1 (As := [.int (xs (i + 1)), .int (xs (i + 2)), .int (xs (i + 3))]) (rest := []) ⟨hx, hb, hml, hown, hts⟩ (c_X9_owner l D cT H.size ao bo T P n (xs (i + 1)) (xs (i + 2)) (xs (i + 3)) hJ.1 hJ.2.1 hpr) (cwV 3 hts gL_law_X9_owner rfl rfl rfl (by decide +kernel) ⟨Nat.le_of_ble_eq_true rfl, Nat.le_of_ble_eq_true rfl⟩) hE hO (lw_lft hD) hS hA 0 9 ofl_0 rfl rfl rfl hl.1 rfl (Nat.le_of_ble_eq_true rfl) dL_law_222 ⟨(show cells + 0 ≤ 600000 by omega), (show slots + 0 ≤ 7302249 by omega)⟩ (fun H1 locs1 hB hz1 hk1 hS => ?_)
  obtain ⟨bo2, P2, hpr2, hO, hM, hD⟩ := mid9 hB hM hD hH hk1
  have hH : ∀ q : Nat, H1.size ≤ q → (fun q : Nat => s.heap.size ≤ q) q := fun q h => Nat.le_trans hS.1 h
  refine lv_aload_n hx hb dL_law_225 rfl (lv_at hl 2 rfl) ?_
  refine lv_aload_n hx hb dL_law_226 rfl (lv_at hl 0 rfl) ?_
  refine lv_iload_n hx hb dL_law_227 rfl (lv_at hl 3 rfl) ?_
  refine lv_iconst (v := 1) hx hb dL_law_228 (by decide) ?_
  refine lv_iadd hx hb dL_law_229 ?_
  refine topi_eq (nI_add _ 1) ?_
  refine my_sld (k := i + 1) hx hb hX hbl hbA hS (by omega) (by omega) dL_law_230 ?_
  refine lv_aload_n hx hb dL_law_231 rfl (lv_at hl 0 rfl) ?_
  refine lv_iload_n hx hb dL_law_232 rfl (lv_at hl 3 rfl) ?_
  refine lv_iconst (v := 2) hx hb dL_law_233 (by decide) ?_
  refine lv_iadd hx hb dL_law_234 ?_
  refine topi_eq (nI_add _ 2) ?_
  refine my_sld (k := i + 2) hx hb hX hbl hbA hS (by omega) (by omega) dL_law_235 ?_
  refine lv_aload_n hx hb dL_law_236 rfl (lv_at hl 0 rfl) ?_
  refine lv_iload_n hx hb dL_law_237 rfl (lv_at hl 3 rfl) ?_
  refine lv_iconst (v := 3) hx hb dL_law_238 (by decide) ?_
  refine lv_iadd hx hb dL_law_239 ?_
  refine topi_eq (nI_add _ 3) ?_
  refine my_sld (k := i + 3) hx hb hX hbl hbA hS (by omega) (by omega) dL_law_240 ?_
  refine rw_V1 (As := [.int (xs (i + 1)), .int (xs (i + 2)), .int (xs (i + 3))]) (rest := [_]) ⟨hx, hb, hml, hown, hts⟩ (c_X10_owner l D cT H1.size am T n z (xs (i + 1)) (xs (i + 2)) (xs (i + 3)) hJ.1) (cwV 3 hts gL_law_X10_owner rfl rfl rfl (by decide +kernel) ⟨Nat.le_of_ble_eq_true rfl, Nat.le_of_ble_eq_true rfl⟩) hE hM (lw_rgt hD) hS hA 0 10 mol_0 rfl rfl rfl hl.1 rfl (Nat.le_of_ble_eq_true rfl) dL_law_241 ⟨(show cells + 0 + 0 ≤ 600000 by omega), (show slots + 0 + 0 ≤ 7302249 by omega)⟩ (fun H2 locs2 hB hz2 hk2 hS => ?_)
  obtain ⟨z2, hO, hM, hD⟩ := mid10 hB hO hD hH hk2
  refine lv_icmp_eq (tgt := 869) hx hb dL_law_244 (by decide) (fun _ => ?_) (fun q => absurd rfl q)
  refine W.widen (k := cells + 1) (n := slots + 11) (by omega) (by omega) ?_
  exact kk _ _ _ _ ⟨bo2, P2, z2, keep_owner hJ, hpr2, hO, hM, hD, hS⟩ ls hl
set_option maxHeartbeats 4000000 in
set_option maxRecDepth 100000 in
theorem law_249 (l : Launch) (hL : L ≤ 2560) (C0 : lw_At p s m meth c b L xs) (hE : EV D cT s) (hWD : WD s s.heap) (hi : i + 5 ≤ L) (hc : cells + 1 ≤ 600000) (hs : slots + 11 ≤ 7302249) (hI : lwI D cT ao am s T n H locs) (hl : lv_has ls 4 [(0, .ref b), (1, .ref (ao 0)), (2, .ref (am 0)), (3, .int (nI i))]) (kk : lwK p l e s m below meth c D cT ao am b i (cells + 1) (slots + 11)) : W p l e room_1 s m #[Value.ref b] below meth c H locs cells slots (lw_Z below #[Value.ref b] s) (F0 m 249 ls []) := by
  obtain ⟨hx, hb, hr, hml, hown, htT, hX, hbl, hlocks, hgv⟩ := C0
  have hts : ∀ w ∈ wsL_law, w.before #[Value.ref b] s = true := fun w h => htT w (wsL_law_in w h)
  have hA : ∀ q : Nat, s.heap.size ≤ q → (fun q : Nat => s.heap.size ≤ q) q := fun _ h => h
  have hbA : ¬ (fun q : Nat => s.heap.size ≤ q) b := Nat.not_le.mpr hbl
  obtain ⟨bo, P, z, hJ, hpr, hO, hM, hD, hS⟩ := hI
  have hH : ∀ q : Nat, H.size ≤ q → (fun q : Nat => s.heap.size ≤ q) q := fun q h => Nat.le_trans hS.1 h
  refine lv_aload_n hx hb dL_law_249 rfl (lv_at hl 1 rfl) ?_
  refine lv_aload_n hx hb dL_law_250 rfl (lv_at hl 0 rfl) ?_
  refine lv_iload_n hx hb dL_law_251 rfl (lv_at hl 3 rfl) ?_
  refine lv_iconst (v := 1) hx hb dL_law_252 (by decide) ?_
  refine lv_iadd hx hb dL_law_253 ?_
  refine topi_eq (nI_add _ 1) ?_
  refine my_sld (k := i + 1) hx hb hX hbl hbA hS (by omega) (by omega) dL_law_254 ?_
  refine lv_aload_n hx hb dL_law_255 rfl (lv_at hl 0 rfl) ?_
  refine lv_iload_n hx hb dL_law_256 rfl (lv_at hl 3 rfl) ?_
  refine lv_iconst (v := 2) hx hb dL_law_257 (by decide) ?_
  refine lv_iadd hx hb dL_law_258 ?_
  refine topi_eq (nI_add _ 2) ?_
  refine my_sld (k := i + 2) hx hb hX hbl hbA hS (by omega) (by omega) dL_law_259 ?_
  refine lv_aload_n hx hb dL_law_260 rfl (lv_at hl 0 rfl) ?_
  refine lv_iload_n hx hb dL_law_261 rfl (lv_at hl 3 rfl) ?_
  refine lv_iconst (v := 3) hx hb dL_law_262 (by decide) ?_
  refine lv_iadd hx hb dL_law_263 ?_
  refine topi_eq (nI_add _ 3) ?_
  refine my_sld (k := i + 3) hx hb hX hbl hbA hS (by omega) (by omega) dL_law_264 ?_
  refine lv_aload_n hx hb dL_law_265 rfl (lv_at hl 0 rfl) ?_
  refine lv_iload_n hx hb dL_law_266 rfl (lv_at hl 3 rfl) ?_
  refine lv_iconst (v := 4) hx hb dL_law_267 (by decide) ?_
  refine lv_iadd hx hb dL_law_268 ?_
  refine topi_eq (nI_add _ 4) ?_
  refine my_sld (k := i + 4) hx hb hX hbl hbA hS (by omega) (by omega) dL_law_269 ?_
  refine rw_V1 (As := [.int (xs (i + 1)), .int (xs (i + 2)), .int (xs (i + 3)), .int (xs (i + 4))]) (rest := []) ⟨hx, hb, hml, hown, hts⟩ (c_X9_find l D cT H.size ao bo T P n (xs (i + 1)) (xs (i + 2)) (xs (i + 3)) (xs (i + 4)) hJ.1 hJ.2.1 hpr) (cwV 4 hts gL_law_X9_find rfl rfl rfl (by decide +kernel) ⟨Nat.le_of_ble_eq_true rfl, Nat.le_of_ble_eq_true rfl⟩) hE hO (lw_lft hD) hS hA 0 9 ofl_0 rfl rfl rfl hl.1 rfl (Nat.le_of_ble_eq_true rfl) dL_law_270 ⟨(show cells + 1 ≤ 600000 by omega), (show slots + 11 ≤ 7302249 by omega)⟩ (fun H1 locs1 hB hz1 hk1 hS => ?_)
  obtain ⟨bo2, P2, hpr2, hO, hM, hD⟩ := mid9 hB hM hD hH hk1
  have hH : ∀ q : Nat, H1.size ≤ q → (fun q : Nat => s.heap.size ≤ q) q := fun q h => Nat.le_trans hS.1 h
  refine lv_aload_n hx hb dL_law_273 rfl (lv_at hl 2 rfl) ?_
  refine lv_aload_n hx hb dL_law_274 rfl (lv_at hl 0 rfl) ?_
  refine lv_iload_n hx hb dL_law_275 rfl (lv_at hl 3 rfl) ?_
  refine lv_iconst (v := 1) hx hb dL_law_276 (by decide) ?_
  refine lv_iadd hx hb dL_law_277 ?_
  refine topi_eq (nI_add _ 1) ?_
  refine my_sld (k := i + 1) hx hb hX hbl hbA hS (by omega) (by omega) dL_law_278 ?_
  refine lv_aload_n hx hb dL_law_279 rfl (lv_at hl 0 rfl) ?_
  refine lv_iload_n hx hb dL_law_280 rfl (lv_at hl 3 rfl) ?_
  refine lv_iconst (v := 2) hx hb dL_law_281 (by decide) ?_
  refine lv_iadd hx hb dL_law_282 ?_
  refine topi_eq (nI_add _ 2) ?_
  refine my_sld (k := i + 2) hx hb hX hbl hbA hS (by omega) (by omega) dL_law_283 ?_
  refine lv_aload_n hx hb dL_law_284 rfl (lv_at hl 0 rfl) ?_
  refine lv_iload_n hx hb dL_law_285 rfl (lv_at hl 3 rfl) ?_
  refine lv_iconst (v := 3) hx hb dL_law_286 (by decide) ?_
  refine lv_iadd hx hb dL_law_287 ?_
  refine topi_eq (nI_add _ 3) ?_
  refine my_sld (k := i + 3) hx hb hX hbl hbA hS (by omega) (by omega) dL_law_288 ?_
  refine lv_aload_n hx hb dL_law_289 rfl (lv_at hl 0 rfl) ?_
  refine lv_iload_n hx hb dL_law_290 rfl (lv_at hl 3 rfl) ?_
  refine lv_iconst (v := 4) hx hb dL_law_291 (by decide) ?_
  refine lv_iadd hx hb dL_law_292 ?_
  refine topi_eq (nI_add _ 4) ?_
  refine my_sld (k := i + 4) hx hb hX hbl hbA hS (by omega) (by omega) dL_law_293 ?_
  refine rw_V1 (As := [.int (xs (i + 1)), .int (xs (i + 2)), .int (xs (i + 3)), .int (xs (i + 4))]) (rest := [_]) ⟨hx, hb, hml, hown, hts⟩ (c_X10_find l D cT H1.size am T n z (xs (i + 1)) (xs (i + 2)) (xs (i + 3)) (xs (i + 4)) hJ.1) (cwV 4 hts gL_law_X10_find rfl rfl rfl (by decide +kernel) ⟨Nat.le_of_ble_eq_true rfl, Nat.le_of_ble_eq_true rfl⟩) hE hM (lw_rgt hD) hS hA 0 10 mol_0 rfl rfl rfl hl.1 rfl (Nat.le_of_ble_eq_true rfl) dL_law_294 ⟨(show cells + 1 + 0 ≤ 600000 by omega), (show slots + 11 + 0 ≤ 7302249 by omega)⟩ (fun H2 locs2 hB hz2 hk2 hS => ?_)
  obtain ⟨z2, hO, hM, hD⟩ := mid10 hB hO hD hH hk2
  refine lv_icmp_eq (tgt := 869) hx hb dL_law_297 (by decide) (fun _ => ?_) (fun q => absurd rfl q)
  refine W.widen (k := cells + 1) (n := slots + 11) (by omega) (by omega) ?_
  exact kk _ _ _ _ ⟨bo2, P2, z2, keep_find hJ, hpr2, hO, hM, hD, hS⟩ ls hl
set_option maxHeartbeats 4000000 in
set_option maxRecDepth 100000 in
theorem law_302 (l : Launch) (hL : L ≤ 2560) (C0 : lw_At p s m meth c b L xs) (hE : EV D cT s) (hWD : WD s s.heap) (hi : i + 5 ≤ L) (hc : cells + 1 ≤ 600000) (hs : slots + 11 ≤ 7302249) (hI : lwI D cT ao am s T n H locs) (hl : lv_has ls 4 [(0, .ref b), (1, .ref (ao 0)), (2, .ref (am 0)), (3, .int (nI i))]) (kk : lwK p l e s m below meth c D cT ao am b i (cells + 1) (slots + 11)) : W p l e room_1 s m #[Value.ref b] below meth c H locs cells slots (lw_Z below #[Value.ref b] s) (F0 m 302 ls []) := by
  obtain ⟨hx, hb, hr, hml, hown, htT, hX, hbl, hlocks, hgv⟩ := C0
  have hts : ∀ w ∈ wsL_law, w.before #[Value.ref b] s = true := fun w h => htT w (wsL_law_in w h)
  have hA : ∀ q : Nat, s.heap.size ≤ q → (fun q : Nat => s.heap.size ≤ q) q := fun _ h => h
  have hbA : ¬ (fun q : Nat => s.heap.size ≤ q) b := Nat.not_le.mpr hbl
  obtain ⟨bo, P, z, hJ, hpr, hO, hM, hD, hS⟩ := hI
  have hH : ∀ q : Nat, H.size ≤ q → (fun q : Nat => s.heap.size ≤ q) q := fun q h => Nat.le_trans hS.1 h
  refine lv_aload_n hx hb dL_law_302 rfl (lv_at hl 1 rfl) ?_
  refine lv_aload_n hx hb dL_law_303 rfl (lv_at hl 0 rfl) ?_
  refine lv_iload_n hx hb dL_law_304 rfl (lv_at hl 3 rfl) ?_
  refine lv_iconst (v := 1) hx hb dL_law_305 (by decide) ?_
  refine lv_iadd hx hb dL_law_306 ?_
  refine topi_eq (nI_add _ 1) ?_
  refine my_sld (k := i + 1) hx hb hX hbl hbA hS (by omega) (by omega) dL_law_307 ?_
  refine lv_aload_n hx hb dL_law_308 rfl (lv_at hl 0 rfl) ?_
  refine lv_iload_n hx hb dL_law_309 rfl (lv_at hl 3 rfl) ?_
  refine lv_iconst (v := 2) hx hb dL_law_310 (by decide) ?_
  refine lv_iadd hx hb dL_law_311 ?_
  refine topi_eq (nI_add _ 2) ?_
  refine my_sld (k := i + 2) hx hb hX hbl hbA hS (by omega) (by omega) dL_law_312 ?_
  refine rw_V1 (As := [.int (xs (i + 1)), .int (xs (i + 2))]) (rest := []) ⟨hx, hb, hml, hown, hts⟩ (c_X9_part l D cT H.size ao bo T P n (xs (i + 1)) (xs (i + 2)) hJ.1 hJ.2.1 hpr) (cwV 2 hts gL_law_X9_part rfl rfl rfl (by decide +kernel) ⟨Nat.le_of_ble_eq_true rfl, Nat.le_of_ble_eq_true rfl⟩) hE hO (lw_lft hD) hS hA 0 9 ofl_0 rfl rfl rfl hl.1 rfl (Nat.le_of_ble_eq_true rfl) dL_law_313 ⟨(show cells + 0 ≤ 600000 by omega), (show slots + 0 ≤ 7302249 by omega)⟩ (fun H1 locs1 hB hz1 hk1 hS => ?_)
  obtain ⟨bo2, P2, hpr2, hO, hM, hD⟩ := mid9 hB hM hD hH hk1
  have hH : ∀ q : Nat, H1.size ≤ q → (fun q : Nat => s.heap.size ≤ q) q := fun q h => Nat.le_trans hS.1 h
  refine lv_aload_n hx hb dL_law_316 rfl (lv_at hl 2 rfl) ?_
  refine lv_aload_n hx hb dL_law_317 rfl (lv_at hl 0 rfl) ?_
  refine lv_iload_n hx hb dL_law_318 rfl (lv_at hl 3 rfl) ?_
  refine lv_iconst (v := 1) hx hb dL_law_319 (by decide) ?_
  refine lv_iadd hx hb dL_law_320 ?_
  refine topi_eq (nI_add _ 1) ?_
  refine my_sld (k := i + 1) hx hb hX hbl hbA hS (by omega) (by omega) dL_law_321 ?_
  refine lv_aload_n hx hb dL_law_322 rfl (lv_at hl 0 rfl) ?_
  refine lv_iload_n hx hb dL_law_323 rfl (lv_at hl 3 rfl) ?_
  refine lv_iconst (v := 2) hx hb dL_law_324 (by decide) ?_
  refine lv_iadd hx hb dL_law_325 ?_
  refine topi_eq (nI_add _ 2) ?_
  refine my_sld (k := i + 2) hx hb hX hbl hbA hS (by omega) (by omega) dL_law_326 ?_
  refine rw_V1 (As := [.int (xs (i + 1)), .int (xs (i + 2))]) (rest := [_]) ⟨hx, hb, hml, hown, hts⟩ (c_X10_part l D cT H1.size am T n z (xs (i + 1)) (xs (i + 2)) hJ.1) (cwV 2 hts gL_law_X10_part rfl rfl rfl (by decide +kernel) ⟨Nat.le_of_ble_eq_true rfl, Nat.le_of_ble_eq_true rfl⟩) hE hM (lw_rgt hD) hS hA 0 10 mol_0 rfl rfl rfl hl.1 rfl (Nat.le_of_ble_eq_true rfl) dL_law_327 ⟨(show cells + 0 + 0 ≤ 600000 by omega), (show slots + 0 + 0 ≤ 7302249 by omega)⟩ (fun H2 locs2 hB hz2 hk2 hS => ?_)
  obtain ⟨z2, hO, hM, hD⟩ := mid10 hB hO hD hH hk2
  refine lv_icmp_eq (tgt := 869) hx hb dL_law_330 (by decide) (fun _ => ?_) (fun q => absurd rfl q)
  refine W.widen (k := cells + 1) (n := slots + 11) (by omega) (by omega) ?_
  exact kk _ _ _ _ ⟨bo2, P2, z2, keep_part hJ, hpr2, hO, hM, hD, hS⟩ ls hl
set_option maxHeartbeats 4000000 in
set_option maxRecDepth 100000 in
theorem law_335 (l : Launch) (hL : L ≤ 2560) (C0 : lw_At p s m meth c b L xs) (hE : EV D cT s) (hWD : WD s s.heap) (hi : i + 5 ≤ L) (hc : cells + 1 ≤ 600000) (hs : slots + 11 ≤ 7302249) (hI : lwI D cT ao am s T n H locs) (hl : lv_has ls 4 [(0, .ref b), (1, .ref (ao 0)), (2, .ref (am 0)), (3, .int (nI i))]) (kk : lwK p l e s m below meth c D cT ao am b i (cells + 1) (slots + 11)) : W p l e room_1 s m #[Value.ref b] below meth c H locs cells slots (lw_Z below #[Value.ref b] s) (F0 m 335 ls []) := by
  obtain ⟨hx, hb, hr, hml, hown, htT, hX, hbl, hlocks, hgv⟩ := C0
  have hts : ∀ w ∈ wsL_law, w.before #[Value.ref b] s = true := fun w h => htT w (wsL_law_in w h)
  have hA : ∀ q : Nat, s.heap.size ≤ q → (fun q : Nat => s.heap.size ≤ q) q := fun _ h => h
  have hbA : ¬ (fun q : Nat => s.heap.size ≤ q) b := Nat.not_le.mpr hbl
  obtain ⟨bo, P, z, hJ, hpr, hO, hM, hD, hS⟩ := hI
  have hH : ∀ q : Nat, H.size ≤ q → (fun q : Nat => s.heap.size ≤ q) q := fun q h => Nat.le_trans hS.1 h
  refine lv_aload_n hx hb dL_law_335 rfl (lv_at hl 1 rfl) ?_
  refine lv_aload_n hx hb dL_law_336 rfl (lv_at hl 0 rfl) ?_
  refine lv_iload_n hx hb dL_law_337 rfl (lv_at hl 3 rfl) ?_
  refine lv_iconst (v := 1) hx hb dL_law_338 (by decide) ?_
  refine lv_iadd hx hb dL_law_339 ?_
  refine topi_eq (nI_add _ 1) ?_
  refine my_sld (k := i + 1) hx hb hX hbl hbA hS (by omega) (by omega) dL_law_340 ?_
  refine rw_V1 (As := [.int (xs (i + 1))]) (rest := []) ⟨hx, hb, hml, hown, hts⟩ (c_X9_hoard l D cT H.size ao bo T P n (xs (i + 1)) hJ.1 hJ.2.1 hpr) (cwV 1 hts gL_law_X9_hoard rfl rfl rfl (by decide +kernel) ⟨Nat.le_of_ble_eq_true rfl, Nat.le_of_ble_eq_true rfl⟩) hE hO (lw_lft hD) hS hA 0 9 ofl_0 rfl rfl rfl hl.1 rfl (Nat.le_of_ble_eq_true rfl) dL_law_341 ⟨(show cells + 0 ≤ 600000 by omega), (show slots + 0 ≤ 7302249 by omega)⟩ (fun H1 locs1 hB hz1 hk1 hS => ?_)
  obtain ⟨bo2, P2, hpr2, hO, hM, hD⟩ := mid9 hB hM hD hH hk1
  have hH : ∀ q : Nat, H1.size ≤ q → (fun q : Nat => s.heap.size ≤ q) q := fun q h => Nat.le_trans hS.1 h
  refine lv_aload_n hx hb dL_law_344 rfl (lv_at hl 2 rfl) ?_
  refine lv_aload_n hx hb dL_law_345 rfl (lv_at hl 0 rfl) ?_
  refine lv_iload_n hx hb dL_law_346 rfl (lv_at hl 3 rfl) ?_
  refine lv_iconst (v := 1) hx hb dL_law_347 (by decide) ?_
  refine lv_iadd hx hb dL_law_348 ?_
  refine topi_eq (nI_add _ 1) ?_
  refine my_sld (k := i + 1) hx hb hX hbl hbA hS (by omega) (by omega) dL_law_349 ?_
  refine rw_V1 (As := [.int (xs (i + 1))]) (rest := [_]) ⟨hx, hb, hml, hown, hts⟩ (c_X10_hoard l D cT H1.size am T n z (xs (i + 1)) hJ.1 hJ.2.1) (cwV 1 hts gL_law_X10_hoard rfl rfl rfl (by decide +kernel) ⟨Nat.le_of_ble_eq_true rfl, Nat.le_of_ble_eq_true rfl⟩) hE hM (lw_rgt hD) hS hA 0 10 mol_0 rfl rfl rfl hl.1 rfl (Nat.le_of_ble_eq_true rfl) dL_law_350 ⟨(show cells + 0 + 0 ≤ 600000 by omega), (show slots + 0 + 0 ≤ 7302249 by omega)⟩ (fun H2 locs2 hB hz2 hk2 hS => ?_)
  obtain ⟨z2, hO, hM, hD⟩ := mid10M hB hO hD hH hk2
  refine lv_icmp_eq (tgt := 869) hx hb dL_law_353 (by decide) (fun _ => ?_) (fun q => absurd rfl q)
  refine W.widen (k := cells + 1) (n := slots + 11) (by omega) (by omega) ?_
  exact kk _ _ _ _ ⟨bo2, P2, z2, hJ, hpr2, hO, hM, hD, hS⟩ ls hl
end LAWC0
