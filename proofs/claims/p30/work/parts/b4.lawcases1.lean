set_option maxHeartbeats 8000000 in
set_option maxRecDepth 100000 in
/-- feed, on both sides -/
theorem law_0 {p : Program} {l : Launch} {e : Env} {s : State} {m : MethodId} {below : List Frame} {meth : Method} {c : Code} {b L : Nat} {xs : Nat → Int32} (C0 : lw_At p s m meth c b L xs) (i : Nat) (hi : i + 6 ≤ L) (hL : L ≤ 3072) (D : va_G) (adK adV : Nat → Nat) (fo : Option Nat) (hnz : NZ s) (hcz : CZ s) (hsz : SZ adK adV fo (fun q : Nat => s.heap.size ≤ q) s s.heap) (ho hm : Nat) (ad : Nat → Nat) (cs : Nat → ClassId) (iv : Nat → Int32) (fv : Nat → Nat → Int32) (gv : Nat → Int64) (ws : va_W) (tys : List (ClassId × FieldType)) (I0 : LI D s ws tys ho cs iv fv) {H : Heap} {locs : List Loc} (cells slots : Nat) (hc : cells + 10 ≤ 600000) (hs : slots + 300 ≤ 7302250) (hP : va_P D vwCl (ws ++ mw hm ad cs iv fv gv) H) (hD : va_D (fun q : Nat => s.heap.size ≤ q) (ws ++ mw hm ad cs iv fv gv)) (hS : va_S (fun q : Nat => s.heap.size ≤ q) s.heap H locs) {ls : Array Slot} (hl : lv_has ls 4 [(0, .ref b), (1, .ref ho), (2, .ref hm), (3, .int (nI i))]) (KK : ∀ (ws : va_W) (tys : List (ClassId × FieldType)) (iv : Nat → Int32) (fv : Nat → Nat → Int32) (gv : Nat → Int64) (H : Heap) (locs : List Loc) (ls : Array Slot), LI D s ws tys ho cs iv fv → va_P D vwCl (ws ++ mw hm ad cs iv fv gv) H → va_D (fun q : Nat => s.heap.size ≤ q) (ws ++ mw hm ad cs iv fv gv) → va_S (fun q : Nat => s.heap.size ≤ q) s.heap H locs → lv_has ls 4 [(0, .ref b), (1, .ref ho), (2, .ref hm), (3, .int (nI i))] → W p l e room_1 s m #[Value.ref b] below meth c H locs (cells + 10) (slots + 300) (lw_Z below #[Value.ref b] s) (F0 m 1269 ls [])) : W p l e room_1 s m #[Value.ref b] below meth c H locs cells slots (lw_Z below #[Value.ref b] s) (F0 m 168 ls []) := by
  obtain ⟨hx, hb, hr, hml, hown, hts0, hX, hbl, hlocks, hgv⟩ := id C0
  have hts := fun w h => hts0 w (wsL_law_in w h)
  have hA : ∀ q : Nat, s.heap.size ≤ q → (fun q : Nat => s.heap.size ≤ q) q := fun _ h => h
  have hbA : ¬ (fun q : Nat => s.heap.size ≤ q) b := Nat.not_le.mpr hbl
  obtain ⟨ρ, lc, bc, rc, fc, tl, n14, hKx, hKm, X, ⟨h1, b1, h3, b3, h13, b13, h14, b14, h43, b43, hN, hC⟩, V⟩ := I0
  have hM := nv_all V b3
  have hZ := nv_z V
  refine lv_aload_n hx hb dL_law_168 rfl (lv_at hl 1 rfl) ?_
  refine lv_aload_n hx hb dL_law_169 rfl (lv_at hl 0 rfl) ?_
  refine lv_iload_n hx hb dL_law_170 rfl (lv_at hl 3 rfl) ?_
  refine lv_iconst (v := 1) hx hb dL_law_171 (by decide) ?_
  refine lv_iadd hx hb dL_law_172 ?_
  refine tp_i (y := nI (i + 1)) (nI_add i 1) ?_
  refine va_sld hx hb hX hbl hbA hS (vp_in_nI (n := i + 1) (by omega) (by omega)) dL_law_173 ?_
  refine tp_i (y := xs (i + 1)) (by rw [nI_clamp (n := i + 1) (by omega)]) ?_
  refine lv_aload_n hx hb dL_law_174 rfl (lv_at hl 0 rfl) ?_
  refine lv_iload_n hx hb dL_law_175 rfl (lv_at hl 3 rfl) ?_
  refine lv_iconst (v := 2) hx hb dL_law_176 (by decide) ?_
  refine lv_iadd hx hb dL_law_177 ?_
  refine tp_i (y := nI (i + 2)) (nI_add i 2) ?_
  refine va_sld hx hb hX hbl hbA hS (vp_in_nI (n := i + 2) (by omega) (by omega)) dL_law_178 ?_
  refine tp_i (y := xs (i + 2)) (by rw [nI_clamp (n := i + 2) (by omega)]) ?_
  refine lv_aload_n hx hb dL_law_179 rfl (lv_at hl 0 rfl) ?_
  refine lv_iload_n hx hb dL_law_180 rfl (lv_at hl 3 rfl) ?_
  refine lv_iconst (v := 3) hx hb dL_law_181 (by decide) ?_
  refine lv_iadd hx hb dL_law_182 ?_
  refine tp_i (y := nI (i + 3)) (nI_add i 3) ?_
  refine va_sld hx hb hX hbl hbA hS (vp_in_nI (n := i + 3) (by omega) (by omega)) dL_law_183 ?_
  refine tp_i (y := xs (i + 3)) (by rw [nI_clamp (n := i + 3) (by omega)]) ?_
  refine lv_aload_n hx hb dL_law_184 rfl (lv_at hl 0 rfl) ?_
  refine lv_iload_n hx hb dL_law_185 rfl (lv_at hl 3 rfl) ?_
  refine lv_iconst (v := 4) hx hb dL_law_186 (by decide) ?_
  refine lv_iadd hx hb dL_law_187 ?_
  refine tp_i (y := nI (i + 4)) (nI_add i 4) ?_
  refine va_sld hx hb hX hbl hbA hS (vp_in_nI (n := i + 4) (by omega) (by omega)) dL_law_188 ?_
  refine tp_i (y := xs (i + 4)) (by rw [nI_clamp (n := i + 4) (by omega)]) ?_
  refine lv_aload_n hx hb dL_law_189 rfl (lv_at hl 0 rfl) ?_
  refine lv_iload_n hx hb dL_law_190 rfl (lv_at hl 3 rfl) ?_
  refine lv_iconst (v := 5) hx hb dL_law_191 (by decide) ?_
  refine lv_iadd hx hb dL_law_192 ?_
  refine tp_i (y := nI (i + 5)) (nI_add i 5) ?_
  refine va_sld hx hb hX hbl hbA hS (vp_in_nI (n := i + 5) (by omega) (by omega)) dL_law_193 ?_
  refine tp_i (y := xs (i + 5)) (by rw [nI_clamp (n := i + 5) (by omega)]) ?_
  have hFc := free_all (vD_l hD) hS hA
  obtain ⟨k0, e0⟩ := xi_at X
  refine va_calli (va_runV (As := [.int (xs (i + 1)), .int (xs (i + 2)), .int (xs (i + 3)), .int (xs (i + 4)), .int (xs (i + 5))]) (rest := []) ⟨hx, hb, hml, hown, hts⟩ (h_feed l D ρ ws tys fv ho lc bc rc fc (iv 2) tl (xs (i + 1)) (xs (i + 2)) (xs (i + 3)) (xs (i + 4)) (xs (i + 5)) H.size X) (cwV 5 hts gL_law_X8_feed rfl rfl rfl (by decide +kernel) ⟨Nat.le_of_ble_eq_true rfl, Nat.le_of_ble_eq_true rfl⟩) ⟨fun a U g mk q => by obtain ⟨q0, q1, qP, qK, qD⟩ := q; exact ⟨q0, q1, qP, va_K.moved (u := U) (U := U.calling g mk a) (Vm.Alike.refl U.vm) qK, qD⟩, va_recv hKx (vP_l hP) (ci := 8) (q0 := k0) rfl e0.choose_spec, fun U hU hW => ⟨rfl, by rw [hU], by rw [hU]; exact vP_l hP, va_K.moved hW.alike hKx, (vD_l hD).weaken (fun _ _ _ _ => trivial)⟩⟩ rfl rfl hl.1 rfl (lv_room (Nat.le_of_ble_eq_true rfl)) dL_law_194 ⟨by show cells + 0 ≤ 600000; omega, by show slots + 0 ≤ 7302250; omega⟩) hS (fun q _ h => hFc q h) hFc (fun r1 u1 t1 H1 locs1 ht1 hvm1 k1 hB1 hz1 hk1 hS => ?_)
  obtain ⟨ws1, ty1, -, -, hP1, hK1, hD1, X1⟩ := hB1
  rw [ht1] at hP1
  have hKx1 := va_K.moved hvm1.symm hK1
  obtain ⟨hP, hD⟩ := lj_l hP hD hk1 hFc hP1 hD1
  refine lv_pop hx hb dL_law_197 rfl ?_
  refine lv_aload_n hx hb dL_law_198 rfl (lv_at hl 2 rfl) ?_
  refine lv_aload_n hx hb dL_law_199 rfl (lv_at hl 0 rfl) ?_
  refine lv_iload_n hx hb dL_law_200 rfl (lv_at hl 3 rfl) ?_
  refine lv_iconst (v := 1) hx hb dL_law_201 (by decide) ?_
  refine lv_iadd hx hb dL_law_202 ?_
  refine tp_i (y := nI (i + 1)) (nI_add i 1) ?_
  refine va_sld hx hb hX hbl hbA hS (vp_in_nI (n := i + 1) (by omega) (by omega)) dL_law_203 ?_
  refine tp_i (y := xs (i + 1)) (by rw [nI_clamp (n := i + 1) (by omega)]) ?_
  refine lv_aload_n hx hb dL_law_204 rfl (lv_at hl 0 rfl) ?_
  refine lv_iload_n hx hb dL_law_205 rfl (lv_at hl 3 rfl) ?_
  refine lv_iconst (v := 2) hx hb dL_law_206 (by decide) ?_
  refine lv_iadd hx hb dL_law_207 ?_
  refine tp_i (y := nI (i + 2)) (nI_add i 2) ?_
  refine va_sld hx hb hX hbl hbA hS (vp_in_nI (n := i + 2) (by omega) (by omega)) dL_law_208 ?_
  refine tp_i (y := xs (i + 2)) (by rw [nI_clamp (n := i + 2) (by omega)]) ?_
  refine lv_aload_n hx hb dL_law_209 rfl (lv_at hl 0 rfl) ?_
  refine lv_iload_n hx hb dL_law_210 rfl (lv_at hl 3 rfl) ?_
  refine lv_iconst (v := 3) hx hb dL_law_211 (by decide) ?_
  refine lv_iadd hx hb dL_law_212 ?_
  refine tp_i (y := nI (i + 3)) (nI_add i 3) ?_
  refine va_sld hx hb hX hbl hbA hS (vp_in_nI (n := i + 3) (by omega) (by omega)) dL_law_213 ?_
  refine tp_i (y := xs (i + 3)) (by rw [nI_clamp (n := i + 3) (by omega)]) ?_
  refine lv_aload_n hx hb dL_law_214 rfl (lv_at hl 0 rfl) ?_
  refine lv_iload_n hx hb dL_law_215 rfl (lv_at hl 3 rfl) ?_
  refine lv_iconst (v := 4) hx hb dL_law_216 (by decide) ?_
  refine lv_iadd hx hb dL_law_217 ?_
  refine tp_i (y := nI (i + 4)) (nI_add i 4) ?_
  refine va_sld hx hb hX hbl hbA hS (vp_in_nI (n := i + 4) (by omega) (by omega)) dL_law_218 ?_
  refine tp_i (y := xs (i + 4)) (by rw [nI_clamp (n := i + 4) (by omega)]) ?_
  refine lv_aload_n hx hb dL_law_219 rfl (lv_at hl 0 rfl) ?_
  refine lv_iload_n hx hb dL_law_220 rfl (lv_at hl 3 rfl) ?_
  refine lv_iconst (v := 5) hx hb dL_law_221 (by decide) ?_
  refine lv_iadd hx hb dL_law_222 ?_
  refine tp_i (y := nI (i + 5)) (nI_add i 5) ?_
  refine va_sld hx hb hX hbl hbA hS (vp_in_nI (n := i + 5) (by omega) (by omega)) dL_law_223 ?_
  refine tp_i (y := xs (i + 5)) (by rw [nI_clamp (n := i + 5) (by omega)]) ?_
  have hFm := free_all (vD_r hD) hS hA
  refine va_calli (va_runV (As := [.int (xs (i + 1)), .int (xs (i + 2)), .int (xs (i + 3)), .int (xs (i + 4)), .int (xs (i + 5))]) (rest := []) ⟨hx, hb, hml, hown, hts⟩ (m_feed l D hm ad cs iv fv gv tl (xs (i + 1)) (xs (i + 2)) (xs (i + 3)) (xs (i + 4)) (xs (i + 5)) H1.size h1 b1) (cwV 5 hts gL_law_X9_feed rfl rfl rfl (by decide +kernel) ⟨Nat.le_of_ble_eq_true rfl, Nat.le_of_ble_eq_true rfl⟩) ⟨fun a U g mk q => by obtain ⟨q0, q1, qP, qK, qD⟩ := q; exact ⟨q0, q1, qP, va_K.moved (u := U) (U := U.calling g mk a) (Vm.Alike.refl U.vm) qK, qD⟩, va_recv hKm (vP_r hP) (ci := 9) (q0 := 0) rfl rfl, fun U hU hW => ⟨rfl, by rw [hU], by rw [hU]; exact vP_r hP, va_K.moved hW.alike hKm, (vD_r hD).weaken (fun _ _ _ _ => trivial)⟩⟩ rfl rfl hl.1 rfl (lv_room (Nat.le_of_ble_eq_true rfl)) dL_law_224 ⟨by show _ + 0 ≤ 600000; omega, by show _ + 0 ≤ 7302250; omega⟩) hS (fun q _ h => hFm q h) hFm (fun r2 u2 t2 H2 locs2 ht2 hvm2 k2 hB2 hz2 hk2 hS => ?_)
  subst k2
  obtain ⟨k1_, f0_, q0, q1, hP2, hK2, hD2⟩ := hB2
  rw [ht2] at hP2
  obtain ⟨hP, hD⟩ := lj_r hP hD hk2 hFm hP2 hD2
  refine lv_pop hx hb dL_law_227 rfl ?_
  refine lv_goto (tgt := 1269) hx hb dL_law_228 (by decide) ?_
  have X2 : XI ρ (uF fv 0 f0_) ws1 ty1 ho lc bc rc fc ((upd iv 1 (nI k1_)) 2) k1_ := ((xi_tl X1 q0.symm).fvx rfl rfl rfl rfl rfl rfl rfl rfl rfl rfl)
  have V2 : NV (uF fv 0 f0_) lc := (nv_fv V rfl rfl (fun _ => rfl) (fun _ => rfl))
  have hb9 := xi_b X2
  have M2 : MI (upd iv 1 (nI k1_)) (uF fv 0 f0_) k1_ lc bc n14 fc := ⟨rfl, hb9.2.2.2.2, h3, hb9.1, h13, b13, h14, b14, h43, b43, hN, hC⟩
  refine W.widen (k := cells + 10) (n := slots + 300) (by omega) (by omega) ?_
  exact KK ws1 ty1 (upd iv 1 (nI k1_)) (uF fv 0 f0_) gv _ _ ls ⟨ρ, lc, bc, rc, fc, k1_, n14, hKx1, hKm, X2, M2, V2⟩ hP hD hS (lv_sub hl [0, 1, 2, 3] rfl)
set_option maxHeartbeats 8000000 in
set_option maxRecDepth 100000 in
/-- end, on both sides -/
theorem law_1 {p : Program} {l : Launch} {e : Env} {s : State} {m : MethodId} {below : List Frame} {meth : Method} {c : Code} {b L : Nat} {xs : Nat → Int32} (C0 : lw_At p s m meth c b L xs) (i : Nat) (hi : i + 6 ≤ L) (hL : L ≤ 3072) (D : va_G) (adK adV : Nat → Nat) (fo : Option Nat) (hnz : NZ s) (hcz : CZ s) (hsz : SZ adK adV fo (fun q : Nat => s.heap.size ≤ q) s s.heap) (ho hm : Nat) (ad : Nat → Nat) (cs : Nat → ClassId) (iv : Nat → Int32) (fv : Nat → Nat → Int32) (gv : Nat → Int64) (ws : va_W) (tys : List (ClassId × FieldType)) (I0 : LI D s ws tys ho cs iv fv) {H : Heap} {locs : List Loc} (cells slots : Nat) (hc : cells + 10 ≤ 600000) (hs : slots + 300 ≤ 7302250) (hP : va_P D vwCl (ws ++ mw hm ad cs iv fv gv) H) (hD : va_D (fun q : Nat => s.heap.size ≤ q) (ws ++ mw hm ad cs iv fv gv)) (hS : va_S (fun q : Nat => s.heap.size ≤ q) s.heap H locs) {ls : Array Slot} (hl : lv_has ls 4 [(0, .ref b), (1, .ref ho), (2, .ref hm), (3, .int (nI i))]) (KK : ∀ (ws : va_W) (tys : List (ClassId × FieldType)) (iv : Nat → Int32) (fv : Nat → Nat → Int32) (gv : Nat → Int64) (H : Heap) (locs : List Loc) (ls : Array Slot), LI D s ws tys ho cs iv fv → va_P D vwCl (ws ++ mw hm ad cs iv fv gv) H → va_D (fun q : Nat => s.heap.size ≤ q) (ws ++ mw hm ad cs iv fv gv) → va_S (fun q : Nat => s.heap.size ≤ q) s.heap H locs → lv_has ls 4 [(0, .ref b), (1, .ref ho), (2, .ref hm), (3, .int (nI i))] → W p l e room_1 s m #[Value.ref b] below meth c H locs (cells + 10) (slots + 300) (lw_Z below #[Value.ref b] s) (F0 m 1269 ls [])) : W p l e room_1 s m #[Value.ref b] below meth c H locs cells slots (lw_Z below #[Value.ref b] s) (F0 m 231 ls []) := by
  obtain ⟨hx, hb, hr, hml, hown, hts0, hX, hbl, hlocks, hgv⟩ := id C0
  have hts := fun w h => hts0 w (wsL_law_in w h)
  have hA : ∀ q : Nat, s.heap.size ≤ q → (fun q : Nat => s.heap.size ≤ q) q := fun _ h => h
  have hbA : ¬ (fun q : Nat => s.heap.size ≤ q) b := Nat.not_le.mpr hbl
  obtain ⟨ρ, lc, bc, rc, fc, tl, n14, hKx, hKm, X, ⟨h1, b1, h3, b3, h13, b13, h14, b14, h43, b43, hN, hC⟩, V⟩ := I0
  have hM := nv_all V b3
  have hZ := nv_z V
  refine lv_aload_n hx hb dL_law_231 rfl (lv_at hl 1 rfl) ?_
  refine lv_aload_n hx hb dL_law_232 rfl (lv_at hl 0 rfl) ?_
  refine lv_iload_n hx hb dL_law_233 rfl (lv_at hl 3 rfl) ?_
  refine lv_iconst (v := 1) hx hb dL_law_234 (by decide) ?_
  refine lv_iadd hx hb dL_law_235 ?_
  refine tp_i (y := nI (i + 1)) (nI_add i 1) ?_
  refine va_sld hx hb hX hbl hbA hS (vp_in_nI (n := i + 1) (by omega) (by omega)) dL_law_236 ?_
  refine tp_i (y := xs (i + 1)) (by rw [nI_clamp (n := i + 1) (by omega)]) ?_
  have hFc := free_all (vD_l hD) hS hA
  obtain ⟨k0, e0⟩ := xi_at X
  refine va_calli (va_runV (As := [.int (xs (i + 1))]) (rest := []) ⟨hx, hb, hml, hown, hts⟩ (h_end l D ρ ws tys fv ho lc bc rc fc (iv 2) tl (xs (i + 1)) H.size X) (cwV 1 hts gL_law_X8_end rfl rfl rfl (by decide +kernel) ⟨Nat.le_of_ble_eq_true rfl, Nat.le_of_ble_eq_true rfl⟩) ⟨fun a U g mk q => by obtain ⟨q0, q1, qP, qK, qD⟩ := q; exact ⟨q0, q1, qP, va_K.moved (u := U) (U := U.calling g mk a) (Vm.Alike.refl U.vm) qK, qD⟩, va_recv hKx (vP_l hP) (ci := 8) (q0 := k0) rfl e0.choose_spec, fun U hU hW => ⟨rfl, by rw [hU], by rw [hU]; exact vP_l hP, va_K.moved hW.alike hKx, (vD_l hD).weaken (fun _ _ _ _ => trivial)⟩⟩ rfl rfl hl.1 rfl (lv_room (Nat.le_of_ble_eq_true rfl)) dL_law_237 ⟨by show cells + 0 ≤ 600000; omega, by show slots + 0 ≤ 7302250; omega⟩) hS (fun q _ h => hFc q h) hFc (fun r1 u1 t1 H1 locs1 ht1 hvm1 k1 hB1 hz1 hk1 hS => ?_)
  obtain ⟨ws1, ty1, -, -, hP1, hK1, hD1, X1⟩ := hB1
  rw [ht1] at hP1
  have hKx1 := va_K.moved hvm1.symm hK1
  obtain ⟨hP, hD⟩ := lj_l hP hD hk1 hFc hP1 hD1
  refine lv_pop hx hb dL_law_240 rfl ?_
  refine lv_aload_n hx hb dL_law_241 rfl (lv_at hl 2 rfl) ?_
  refine lv_aload_n hx hb dL_law_242 rfl (lv_at hl 0 rfl) ?_
  refine lv_iload_n hx hb dL_law_243 rfl (lv_at hl 3 rfl) ?_
  refine lv_iconst (v := 1) hx hb dL_law_244 (by decide) ?_
  refine lv_iadd hx hb dL_law_245 ?_
  refine tp_i (y := nI (i + 1)) (nI_add i 1) ?_
  refine va_sld hx hb hX hbl hbA hS (vp_in_nI (n := i + 1) (by omega) (by omega)) dL_law_246 ?_
  refine tp_i (y := xs (i + 1)) (by rw [nI_clamp (n := i + 1) (by omega)]) ?_
  have hFm := free_all (vD_r hD) hS hA
  refine va_calli (va_runV (As := [.int (xs (i + 1))]) (rest := []) ⟨hx, hb, hml, hown, hts⟩ (m_end l D hm ad cs iv fv gv tl (xs (i + 1)) H1.size h1 b1) (cwV 1 hts gL_law_X9_end rfl rfl rfl (by decide +kernel) ⟨Nat.le_of_ble_eq_true rfl, Nat.le_of_ble_eq_true rfl⟩) ⟨fun a U g mk q => by obtain ⟨q0, q1, qP, qK, qD⟩ := q; exact ⟨q0, q1, qP, va_K.moved (u := U) (U := U.calling g mk a) (Vm.Alike.refl U.vm) qK, qD⟩, va_recv hKm (vP_r hP) (ci := 9) (q0 := 0) rfl rfl, fun U hU hW => ⟨rfl, by rw [hU], by rw [hU]; exact vP_r hP, va_K.moved hW.alike hKm, (vD_r hD).weaken (fun _ _ _ _ => trivial)⟩⟩ rfl rfl hl.1 rfl (lv_room (Nat.le_of_ble_eq_true rfl)) dL_law_247 ⟨by show _ + 0 ≤ 600000; omega, by show _ + 0 ≤ 7302250; omega⟩) hS (fun q _ h => hFm q h) hFm (fun r2 u2 t2 H2 locs2 ht2 hvm2 k2 hB2 hz2 hk2 hS => ?_)
  subst k2
  obtain ⟨k1_, q0, q1, q2, hP2, hK2, hD2⟩ := hB2
  rw [ht2] at hP2
  obtain ⟨hP, hD⟩ := lj_r hP hD hk2 hFm hP2 hD2
  refine lv_pop hx hb dL_law_250 rfl ?_
  refine lv_goto (tgt := 1269) hx hb dL_law_251 (by decide) ?_
  have X2 : XI ρ fv ws1 ty1 ho lc bc rc fc ((upd iv 1 (nI k1_)) 2) k1_ := ((xi_tl X1 q1.symm).fvx rfl rfl rfl rfl rfl rfl rfl rfl rfl rfl)
  have V2 : NV fv lc := (nv_fv V rfl rfl (fun _ => rfl) (fun _ => rfl))
  have hb9 := xi_b X2
  have M2 : MI (upd iv 1 (nI k1_)) fv k1_ lc bc n14 fc := ⟨rfl, hb9.2.2.2.2, h3, hb9.1, h13, b13, h14, b14, h43, b43, hN, hC⟩
  refine W.widen (k := cells + 10) (n := slots + 300) (by omega) (by omega) ?_
  exact KK ws1 ty1 (upd iv 1 (nI k1_)) fv gv _ _ ls ⟨ρ, lc, bc, rc, fc, k1_, n14, hKx1, hKm, X2, M2, V2⟩ hP hD hS (lv_sub hl [0, 1, 2, 3] rfl)
set_option maxHeartbeats 8000000 in
set_option maxRecDepth 100000 in
/-- today, on both sides -/
theorem law_2 {p : Program} {l : Launch} {e : Env} {s : State} {m : MethodId} {below : List Frame} {meth : Method} {c : Code} {b L : Nat} {xs : Nat → Int32} (C0 : lw_At p s m meth c b L xs) (i : Nat) (hi : i + 6 ≤ L) (hL : L ≤ 3072) (D : va_G) (adK adV : Nat → Nat) (fo : Option Nat) (hnz : NZ s) (hcz : CZ s) (hsz : SZ adK adV fo (fun q : Nat => s.heap.size ≤ q) s s.heap) (ho hm : Nat) (ad : Nat → Nat) (cs : Nat → ClassId) (iv : Nat → Int32) (fv : Nat → Nat → Int32) (gv : Nat → Int64) (ws : va_W) (tys : List (ClassId × FieldType)) (I0 : LI D s ws tys ho cs iv fv) {H : Heap} {locs : List Loc} (cells slots : Nat) (hc : cells + 10 ≤ 600000) (hs : slots + 300 ≤ 7302250) (hP : va_P D vwCl (ws ++ mw hm ad cs iv fv gv) H) (hD : va_D (fun q : Nat => s.heap.size ≤ q) (ws ++ mw hm ad cs iv fv gv)) (hS : va_S (fun q : Nat => s.heap.size ≤ q) s.heap H locs) {ls : Array Slot} (hl : lv_has ls 4 [(0, .ref b), (1, .ref ho), (2, .ref hm), (3, .int (nI i))]) (KK : ∀ (ws : va_W) (tys : List (ClassId × FieldType)) (iv : Nat → Int32) (fv : Nat → Nat → Int32) (gv : Nat → Int64) (H : Heap) (locs : List Loc) (ls : Array Slot), LI D s ws tys ho cs iv fv → va_P D vwCl (ws ++ mw hm ad cs iv fv gv) H → va_D (fun q : Nat => s.heap.size ≤ q) (ws ++ mw hm ad cs iv fv gv) → va_S (fun q : Nat => s.heap.size ≤ q) s.heap H locs → lv_has ls 4 [(0, .ref b), (1, .ref ho), (2, .ref hm), (3, .int (nI i))] → W p l e room_1 s m #[Value.ref b] below meth c H locs (cells + 10) (slots + 300) (lw_Z below #[Value.ref b] s) (F0 m 1269 ls [])) : W p l e room_1 s m #[Value.ref b] below meth c H locs cells slots (lw_Z below #[Value.ref b] s) (F0 m 254 ls []) := by
  obtain ⟨hx, hb, hr, hml, hown, hts0, hX, hbl, hlocks, hgv⟩ := id C0
  have hts := fun w h => hts0 w (wsL_law_in w h)
  have hA : ∀ q : Nat, s.heap.size ≤ q → (fun q : Nat => s.heap.size ≤ q) q := fun _ h => h
  have hbA : ¬ (fun q : Nat => s.heap.size ≤ q) b := Nat.not_le.mpr hbl
  obtain ⟨ρ, lc, bc, rc, fc, tl, n14, hKx, hKm, X, ⟨h1, b1, h3, b3, h13, b13, h14, b14, h43, b43, hN, hC⟩, V⟩ := I0
  have hM := nv_all V b3
  have hZ := nv_z V
  refine lv_aload_n hx hb dL_law_254 rfl (lv_at hl 1 rfl) ?_
  refine lv_aload_n hx hb dL_law_255 rfl (lv_at hl 0 rfl) ?_
  refine lv_iload_n hx hb dL_law_256 rfl (lv_at hl 3 rfl) ?_
  refine lv_iconst (v := 1) hx hb dL_law_257 (by decide) ?_
  refine lv_iadd hx hb dL_law_258 ?_
  refine tp_i (y := nI (i + 1)) (nI_add i 1) ?_
  refine va_sld hx hb hX hbl hbA hS (vp_in_nI (n := i + 1) (by omega) (by omega)) dL_law_259 ?_
  refine tp_i (y := xs (i + 1)) (by rw [nI_clamp (n := i + 1) (by omega)]) ?_
  have hFc := free_all (vD_l hD) hS hA
  obtain ⟨k0, e0⟩ := xi_at X
  refine va_calli (va_runV (As := [.int (xs (i + 1))]) (rest := []) ⟨hx, hb, hml, hown, hts⟩ (h_today l D ρ ws tys fv ho lc bc rc fc (iv 2) tl (xs (i + 1)) H.size X) (cwV 1 hts gL_law_X8_today rfl rfl rfl (by decide +kernel) ⟨Nat.le_of_ble_eq_true rfl, Nat.le_of_ble_eq_true rfl⟩) ⟨fun a U g mk q => by obtain ⟨q0, q1, qP, qK, qD⟩ := q; exact ⟨q0, q1, qP, va_K.moved (u := U) (U := U.calling g mk a) (Vm.Alike.refl U.vm) qK, qD⟩, va_recv hKx (vP_l hP) (ci := 8) (q0 := k0) rfl e0.choose_spec, fun U hU hW => ⟨rfl, by rw [hU], by rw [hU]; exact vP_l hP, va_K.moved hW.alike hKx, (vD_l hD).weaken (fun _ _ _ _ => trivial)⟩⟩ rfl rfl hl.1 rfl (lv_room (Nat.le_of_ble_eq_true rfl)) dL_law_260 ⟨by show cells + 0 ≤ 600000; omega, by show slots + 0 ≤ 7302250; omega⟩) hS (fun q _ h => hFc q h) hFc (fun r1 u1 t1 H1 locs1 ht1 hvm1 k1 hB1 hz1 hk1 hS => ?_)
  obtain ⟨ws1, ty1, -, -, hP1, hK1, hD1, X1⟩ := hB1
  rw [ht1] at hP1
  have hKx1 := va_K.moved hvm1.symm hK1
  obtain ⟨hP, hD⟩ := lj_l hP hD hk1 hFc hP1 hD1
  refine lv_pop hx hb dL_law_263 rfl ?_
  refine lv_aload_n hx hb dL_law_264 rfl (lv_at hl 2 rfl) ?_
  refine lv_aload_n hx hb dL_law_265 rfl (lv_at hl 0 rfl) ?_
  refine lv_iload_n hx hb dL_law_266 rfl (lv_at hl 3 rfl) ?_
  refine lv_iconst (v := 1) hx hb dL_law_267 (by decide) ?_
  refine lv_iadd hx hb dL_law_268 ?_
  refine tp_i (y := nI (i + 1)) (nI_add i 1) ?_
  refine va_sld hx hb hX hbl hbA hS (vp_in_nI (n := i + 1) (by omega) (by omega)) dL_law_269 ?_
  refine tp_i (y := xs (i + 1)) (by rw [nI_clamp (n := i + 1) (by omega)]) ?_
  have hFm := free_all (vD_r hD) hS hA
  refine va_calli (va_runV (As := [.int (xs (i + 1))]) (rest := []) ⟨hx, hb, hml, hown, hts⟩ (m_today l D hm ad cs iv fv gv  (xs (i + 1)) H1.size  ) (cwV 1 hts gL_law_X9_today rfl rfl rfl (by decide +kernel) ⟨Nat.le_of_ble_eq_true rfl, Nat.le_of_ble_eq_true rfl⟩) ⟨fun a U g mk q => by obtain ⟨q0, q1, qP, qK, qD⟩ := q; exact ⟨q0, q1, qP, va_K.moved (u := U) (U := U.calling g mk a) (Vm.Alike.refl U.vm) qK, qD⟩, va_recv hKm (vP_r hP) (ci := 9) (q0 := 0) rfl rfl, fun U hU hW => ⟨rfl, by rw [hU], by rw [hU]; exact vP_r hP, va_K.moved hW.alike hKm, (vD_r hD).weaken (fun _ _ _ _ => trivial)⟩⟩ rfl rfl hl.1 rfl (lv_room (Nat.le_of_ble_eq_true rfl)) dL_law_270 ⟨by show _ + 0 ≤ 600000; omega, by show _ + 0 ≤ 7302250; omega⟩) hS (fun q _ h => hFm q h) hFm (fun r2 u2 t2 H2 locs2 ht2 hvm2 k2 hB2 hz2 hk2 hS => ?_)
  subst k2
  obtain ⟨d9_, q0, q1, hP2, hK2, hD2⟩ := hB2
  rw [ht2] at hP2
  obtain ⟨hP, hD⟩ := lj_r hP hD hk2 hFm hP2 hD2
  refine lv_pop hx hb dL_law_273 rfl ?_
  refine lv_goto (tgt := 1269) hx hb dL_law_274 (by decide) ?_
  have X2 : XI ρ fv ws1 ty1 ho lc bc rc fc ((upd iv 2 d9_) 2) tl := ((xi_dn X1 q0.symm).fvx rfl rfl rfl rfl rfl rfl rfl rfl rfl rfl)
  have V2 : NV fv lc := (nv_fv V rfl rfl (fun _ => rfl) (fun _ => rfl))
  have hb9 := xi_b X2
  have M2 : MI (upd iv 2 d9_) fv tl lc bc n14 fc := ⟨h1, hb9.2.2.2.2, h3, hb9.1, h13, b13, h14, b14, h43, b43, hN, hC⟩
  refine W.widen (k := cells + 10) (n := slots + 300) (by omega) (by omega) ?_
  exact KK ws1 ty1 (upd iv 2 d9_) fv gv _ _ ls ⟨ρ, lc, bc, rc, fc, tl, n14, hKx1, hKm, X2, M2, V2⟩ hP hD hS (lv_sub hl [0, 1, 2, 3] rfl)
set_option maxHeartbeats 8000000 in
set_option maxRecDepth 100000 in
/-- lot, on both sides -/
theorem law_3 {p : Program} {l : Launch} {e : Env} {s : State} {m : MethodId} {below : List Frame} {meth : Method} {c : Code} {b L : Nat} {xs : Nat → Int32} (C0 : lw_At p s m meth c b L xs) (i : Nat) (hi : i + 6 ≤ L) (hL : L ≤ 3072) (D : va_G) (adK adV : Nat → Nat) (fo : Option Nat) (hnz : NZ s) (hcz : CZ s) (hsz : SZ adK adV fo (fun q : Nat => s.heap.size ≤ q) s s.heap) (ho hm : Nat) (ad : Nat → Nat) (cs : Nat → ClassId) (iv : Nat → Int32) (fv : Nat → Nat → Int32) (gv : Nat → Int64) (ws : va_W) (tys : List (ClassId × FieldType)) (I0 : LI D s ws tys ho cs iv fv) {H : Heap} {locs : List Loc} (cells slots : Nat) (hc : cells + 10 ≤ 600000) (hs : slots + 300 ≤ 7302250) (hP : va_P D vwCl (ws ++ mw hm ad cs iv fv gv) H) (hD : va_D (fun q : Nat => s.heap.size ≤ q) (ws ++ mw hm ad cs iv fv gv)) (hS : va_S (fun q : Nat => s.heap.size ≤ q) s.heap H locs) {ls : Array Slot} (hl : lv_has ls 4 [(0, .ref b), (1, .ref ho), (2, .ref hm), (3, .int (nI i))]) (KK : ∀ (ws : va_W) (tys : List (ClassId × FieldType)) (iv : Nat → Int32) (fv : Nat → Nat → Int32) (gv : Nat → Int64) (H : Heap) (locs : List Loc) (ls : Array Slot), LI D s ws tys ho cs iv fv → va_P D vwCl (ws ++ mw hm ad cs iv fv gv) H → va_D (fun q : Nat => s.heap.size ≤ q) (ws ++ mw hm ad cs iv fv gv) → va_S (fun q : Nat => s.heap.size ≤ q) s.heap H locs → lv_has ls 4 [(0, .ref b), (1, .ref ho), (2, .ref hm), (3, .int (nI i))] → W p l e room_1 s m #[Value.ref b] below meth c H locs (cells + 10) (slots + 300) (lw_Z below #[Value.ref b] s) (F0 m 1269 ls [])) : W p l e room_1 s m #[Value.ref b] below meth c H locs cells slots (lw_Z below #[Value.ref b] s) (F0 m 277 ls []) := by
  obtain ⟨hx, hb, hr, hml, hown, hts0, hX, hbl, hlocks, hgv⟩ := id C0
  have hts := fun w h => hts0 w (wsL_law_in w h)
  have hA : ∀ q : Nat, s.heap.size ≤ q → (fun q : Nat => s.heap.size ≤ q) q := fun _ h => h
  have hbA : ¬ (fun q : Nat => s.heap.size ≤ q) b := Nat.not_le.mpr hbl
  obtain ⟨ρ, lc, bc, rc, fc, tl, n14, hKx, hKm, X, ⟨h1, b1, h3, b3, h13, b13, h14, b14, h43, b43, hN, hC⟩, V⟩ := I0
  have hM := nv_all V b3
  have hZ := nv_z V
  refine lv_aload_n hx hb dL_law_277 rfl (lv_at hl 1 rfl) ?_
  refine lv_aload_n hx hb dL_law_278 rfl (lv_at hl 0 rfl) ?_
  refine lv_iload_n hx hb dL_law_279 rfl (lv_at hl 3 rfl) ?_
  refine lv_iconst (v := 1) hx hb dL_law_280 (by decide) ?_
  refine lv_iadd hx hb dL_law_281 ?_
  refine tp_i (y := nI (i + 1)) (nI_add i 1) ?_
  refine va_sld hx hb hX hbl hbA hS (vp_in_nI (n := i + 1) (by omega) (by omega)) dL_law_282 ?_
  refine tp_i (y := xs (i + 1)) (by rw [nI_clamp (n := i + 1) (by omega)]) ?_
  refine lv_aload_n hx hb dL_law_283 rfl (lv_at hl 0 rfl) ?_
  refine lv_iload_n hx hb dL_law_284 rfl (lv_at hl 3 rfl) ?_
  refine lv_iconst (v := 2) hx hb dL_law_285 (by decide) ?_
  refine lv_iadd hx hb dL_law_286 ?_
  refine tp_i (y := nI (i + 2)) (nI_add i 2) ?_
  refine va_sld hx hb hX hbl hbA hS (vp_in_nI (n := i + 2) (by omega) (by omega)) dL_law_287 ?_
  refine tp_i (y := xs (i + 2)) (by rw [nI_clamp (n := i + 2) (by omega)]) ?_
  refine lv_aload_n hx hb dL_law_288 rfl (lv_at hl 0 rfl) ?_
  refine lv_iload_n hx hb dL_law_289 rfl (lv_at hl 3 rfl) ?_
  refine lv_iconst (v := 3) hx hb dL_law_290 (by decide) ?_
  refine lv_iadd hx hb dL_law_291 ?_
  refine tp_i (y := nI (i + 3)) (nI_add i 3) ?_
  refine va_sld hx hb hX hbl hbA hS (vp_in_nI (n := i + 3) (by omega) (by omega)) dL_law_292 ?_
  refine tp_i (y := xs (i + 3)) (by rw [nI_clamp (n := i + 3) (by omega)]) ?_
  refine lv_aload_n hx hb dL_law_293 rfl (lv_at hl 0 rfl) ?_
  refine lv_iload_n hx hb dL_law_294 rfl (lv_at hl 3 rfl) ?_
  refine lv_iconst (v := 4) hx hb dL_law_295 (by decide) ?_
  refine lv_iadd hx hb dL_law_296 ?_
  refine tp_i (y := nI (i + 4)) (nI_add i 4) ?_
  refine va_sld hx hb hX hbl hbA hS (vp_in_nI (n := i + 4) (by omega) (by omega)) dL_law_297 ?_
  refine tp_i (y := xs (i + 4)) (by rw [nI_clamp (n := i + 4) (by omega)]) ?_
  refine lv_aload_n hx hb dL_law_298 rfl (lv_at hl 0 rfl) ?_
  refine lv_iload_n hx hb dL_law_299 rfl (lv_at hl 3 rfl) ?_
  refine lv_iconst (v := 5) hx hb dL_law_300 (by decide) ?_
  refine lv_iadd hx hb dL_law_301 ?_
  refine tp_i (y := nI (i + 5)) (nI_add i 5) ?_
  refine va_sld hx hb hX hbl hbA hS (vp_in_nI (n := i + 5) (by omega) (by omega)) dL_law_302 ?_
  refine tp_i (y := xs (i + 5)) (by rw [nI_clamp (n := i + 5) (by omega)]) ?_
  have hFc := free_all (vD_l hD) hS hA
  obtain ⟨k0, e0⟩ := xi_at X
  refine va_calli (va_runV (As := [.int (xs (i + 1)), .int (xs (i + 2)), .int (xs (i + 3)), .int (xs (i + 4)), .int (xs (i + 5))]) (rest := []) ⟨hx, hb, hml, hown, hts⟩ (h_lot l D ρ ws tys fv ho lc bc rc fc (iv 2) tl (xs (i + 1)) (xs (i + 2)) (xs (i + 3)) (xs (i + 4)) (xs (i + 5)) H.size X) (cwV 5 hts gL_law_X8_lot rfl rfl rfl (by decide +kernel) ⟨Nat.le_of_ble_eq_true rfl, Nat.le_of_ble_eq_true rfl⟩) ⟨fun a U g mk q => by obtain ⟨q0, q1, qP, qK, qD, qZ⟩ := q; exact ⟨q0, q1, qP, va_K.moved (u := U) (U := U.calling g mk a) (Vm.Alike.refl U.vm) qK, qD, NZ.same rfl qZ⟩, va_recv hKx (vP_l hP) (ci := 8) (q0 := k0) rfl e0.choose_spec, fun U hU hW => ⟨rfl, by rw [hU], by rw [hU]; exact vP_l hP, va_K.moved hW.alike hKx, (vD_l hD).weaken (fun _ _ _ _ => trivial), NZ.warm hW hnz⟩⟩ rfl rfl hl.1 rfl (lv_room (Nat.le_of_ble_eq_true rfl)) dL_law_303 ⟨by show cells + 6 ≤ 600000; omega, by show slots + 30 ≤ 7302250; omega⟩) hS (fun q _ h => hFc q h) hFc (fun r1 u1 t1 H1 locs1 ht1 hvm1 k1 hB1 hz1 hk1 hS => ?_)
  obtain ⟨ws1, ty1, hP1, hK1, hD1, X1⟩ := hB1
  rw [ht1] at hP1
  have hKx1 := va_K.moved hvm1.symm hK1
  obtain ⟨hP, hD⟩ := lj_l hP hD hk1 hFc hP1 hD1
  refine lv_pop hx hb dL_law_306 rfl ?_
  refine lv_aload_n hx hb dL_law_307 rfl (lv_at hl 2 rfl) ?_
  refine lv_aload_n hx hb dL_law_308 rfl (lv_at hl 0 rfl) ?_
  refine lv_iload_n hx hb dL_law_309 rfl (lv_at hl 3 rfl) ?_
  refine lv_iconst (v := 1) hx hb dL_law_310 (by decide) ?_
  refine lv_iadd hx hb dL_law_311 ?_
  refine tp_i (y := nI (i + 1)) (nI_add i 1) ?_
  refine va_sld hx hb hX hbl hbA hS (vp_in_nI (n := i + 1) (by omega) (by omega)) dL_law_312 ?_
  refine tp_i (y := xs (i + 1)) (by rw [nI_clamp (n := i + 1) (by omega)]) ?_
  refine lv_aload_n hx hb dL_law_313 rfl (lv_at hl 0 rfl) ?_
  refine lv_iload_n hx hb dL_law_314 rfl (lv_at hl 3 rfl) ?_
  refine lv_iconst (v := 2) hx hb dL_law_315 (by decide) ?_
  refine lv_iadd hx hb dL_law_316 ?_
  refine tp_i (y := nI (i + 2)) (nI_add i 2) ?_
  refine va_sld hx hb hX hbl hbA hS (vp_in_nI (n := i + 2) (by omega) (by omega)) dL_law_317 ?_
  refine tp_i (y := xs (i + 2)) (by rw [nI_clamp (n := i + 2) (by omega)]) ?_
  refine lv_aload_n hx hb dL_law_318 rfl (lv_at hl 0 rfl) ?_
  refine lv_iload_n hx hb dL_law_319 rfl (lv_at hl 3 rfl) ?_
  refine lv_iconst (v := 3) hx hb dL_law_320 (by decide) ?_
  refine lv_iadd hx hb dL_law_321 ?_
  refine tp_i (y := nI (i + 3)) (nI_add i 3) ?_
  refine va_sld hx hb hX hbl hbA hS (vp_in_nI (n := i + 3) (by omega) (by omega)) dL_law_322 ?_
  refine tp_i (y := xs (i + 3)) (by rw [nI_clamp (n := i + 3) (by omega)]) ?_
  refine lv_aload_n hx hb dL_law_323 rfl (lv_at hl 0 rfl) ?_
  refine lv_iload_n hx hb dL_law_324 rfl (lv_at hl 3 rfl) ?_
  refine lv_iconst (v := 4) hx hb dL_law_325 (by decide) ?_
  refine lv_iadd hx hb dL_law_326 ?_
  refine tp_i (y := nI (i + 4)) (nI_add i 4) ?_
  refine va_sld hx hb hX hbl hbA hS (vp_in_nI (n := i + 4) (by omega) (by omega)) dL_law_327 ?_
  refine tp_i (y := xs (i + 4)) (by rw [nI_clamp (n := i + 4) (by omega)]) ?_
  refine lv_aload_n hx hb dL_law_328 rfl (lv_at hl 0 rfl) ?_
  refine lv_iload_n hx hb dL_law_329 rfl (lv_at hl 3 rfl) ?_
  refine lv_iconst (v := 5) hx hb dL_law_330 (by decide) ?_
  refine lv_iadd hx hb dL_law_331 ?_
  refine tp_i (y := nI (i + 5)) (nI_add i 5) ?_
  refine va_sld hx hb hX hbl hbA hS (vp_in_nI (n := i + 5) (by omega) (by omega)) dL_law_332 ?_
  refine tp_i (y := xs (i + 5)) (by rw [nI_clamp (n := i + 5) (by omega)]) ?_
  have hFm := free_all (vD_r hD) hS hA
  refine va_calli (va_runV (As := [.int (xs (i + 1)), .int (xs (i + 2)), .int (xs (i + 3)), .int (xs (i + 4)), .int (xs (i + 5))]) (rest := []) ⟨hx, hb, hml, hown, hts⟩ (m_lot l D hm ad cs iv fv gv lc (xs (i + 1)) (xs (i + 2)) (xs (i + 3)) (xs (i + 4)) (xs (i + 5)) H1.size h3 b3) (cwV 5 hts gL_law_X9_lot rfl rfl rfl (by decide +kernel) ⟨Nat.le_of_ble_eq_true rfl, Nat.le_of_ble_eq_true rfl⟩) ⟨fun a U g mk q => by obtain ⟨q0, q1, qP, qK, qD⟩ := q; exact ⟨q0, q1, qP, va_K.moved (u := U) (U := U.calling g mk a) (Vm.Alike.refl U.vm) qK, qD⟩, va_recv hKm (vP_r hP) (ci := 9) (q0 := 0) rfl rfl, fun U hU hW => ⟨rfl, by rw [hU], by rw [hU]; exact vP_r hP, va_K.moved hW.alike hKm, (vD_r hD).weaken (fun _ _ _ _ => trivial)⟩⟩ rfl rfl hl.1 rfl (lv_room (Nat.le_of_ble_eq_true rfl)) dL_law_333 ⟨by show _ + 0 ≤ 600000; omega, by show _ + 0 ≤ 7302250; omega⟩) hS (fun q _ h => hFm q h) hFm (fun r2 u2 t2 H2 locs2 ht2 hvm2 k2 hB2 hz2 hk2 hS => ?_)
  subst k2
  obtain ⟨k3_, f4_, f5_, f6_, f7_, q0, q1, q2, q3, hP2, hK2, hD2⟩ := hB2
  rw [ht2] at hP2
  obtain ⟨hP, hD⟩ := lj_r hP hD hk2 hFm hP2 hD2
  refine lv_pop hx hb dL_law_336 rfl ?_
  refine lv_goto (tgt := 1269) hx hb dL_law_337 (by decide) ?_
  obtain ⟨ρ2, X2⟩ : ∃ σ : Nat → Nat, XI σ (uF (uF (uF (uF fv 4 f4_) 5 f5_) 6 f6_) 7 f7_) ws1 ty1 ho k3_ bc rc fc ((upd iv 3 (nI k3_)) 2) tl := by
    rcases X1 with ⟨n1, X1⟩ | ⟨n1, σ, X1⟩
    · rcases q3 with ⟨n2, e4, e5, e6, e7⟩ | ⟨n2, R⟩
      · refine ⟨ρ, ?_⟩
        rw [q1, if_pos n1, e4, e5, e6, e7, uF_id, uF_id, uF_id, uF_id]; exact X1
      · exact absurd n1 n2
    · rcases q3 with ⟨n2, -⟩ | ⟨n2, R⟩
      · exact absurd n2 n1
      · refine ⟨σ, ?_⟩
        rw [q1, if_neg n1]; exact X1 _ R
  have V2 : NV (uF (uF (uF (uF fv 4 f4_) 5 f5_) 6 f6_) 7 f7_) k3_ := (by
    rcases q3 with ⟨n2, e4, e5, e6, e7⟩ | ⟨n2, R⟩
    · rw [q1, if_pos n2, e4, e5, e6, e7, uF_id, uF_id, uF_id, uF_id]; exact V
    · rw [q1, if_neg n2]; exact nv_lot V (fun z => n2 (Or.inr (Or.inl (Or.inl z)))) (fun z => n2 (Or.inr (Or.inl (Or.inr z)))) R rfl rfl)
  have hb9 := xi_b X2
  have M2 : MI (upd iv 3 (nI k3_)) (uF (uF (uF (uF fv 4 f4_) 5 f5_) 6 f6_) 7 f7_) tl k3_ bc n14 fc := ⟨h1, hb9.2.2.2.2, rfl, hb9.1, h13, b13, h14, b14, h43, b43, hN, hC⟩
  refine W.widen (k := cells + 10) (n := slots + 300) (by omega) (by omega) ?_
  exact KK ws1 ty1 (upd iv 3 (nI k3_)) (uF (uF (uF (uF fv 4 f4_) 5 f5_) 6 f6_) 7 f7_) gv _ _ ls ⟨ρ2, k3_, bc, rc, fc, tl, n14, hKx1, hKm, X2, M2, V2⟩ hP hD hS (lv_sub hl [0, 1, 2, 3] rfl)
set_option maxHeartbeats 8000000 in
set_option maxRecDepth 100000 in
/-- pollen, on both sides -/
theorem law_4 {p : Program} {l : Launch} {e : Env} {s : State} {m : MethodId} {below : List Frame} {meth : Method} {c : Code} {b L : Nat} {xs : Nat → Int32} (C0 : lw_At p s m meth c b L xs) (i : Nat) (hi : i + 6 ≤ L) (hL : L ≤ 3072) (D : va_G) (adK adV : Nat → Nat) (fo : Option Nat) (hnz : NZ s) (hcz : CZ s) (hsz : SZ adK adV fo (fun q : Nat => s.heap.size ≤ q) s s.heap) (ho hm : Nat) (ad : Nat → Nat) (cs : Nat → ClassId) (iv : Nat → Int32) (fv : Nat → Nat → Int32) (gv : Nat → Int64) (ws : va_W) (tys : List (ClassId × FieldType)) (I0 : LI D s ws tys ho cs iv fv) {H : Heap} {locs : List Loc} (cells slots : Nat) (hc : cells + 10 ≤ 600000) (hs : slots + 300 ≤ 7302250) (hP : va_P D vwCl (ws ++ mw hm ad cs iv fv gv) H) (hD : va_D (fun q : Nat => s.heap.size ≤ q) (ws ++ mw hm ad cs iv fv gv)) (hS : va_S (fun q : Nat => s.heap.size ≤ q) s.heap H locs) {ls : Array Slot} (hl : lv_has ls 4 [(0, .ref b), (1, .ref ho), (2, .ref hm), (3, .int (nI i))]) (KK : ∀ (ws : va_W) (tys : List (ClassId × FieldType)) (iv : Nat → Int32) (fv : Nat → Nat → Int32) (gv : Nat → Int64) (H : Heap) (locs : List Loc) (ls : Array Slot), LI D s ws tys ho cs iv fv → va_P D vwCl (ws ++ mw hm ad cs iv fv gv) H → va_D (fun q : Nat => s.heap.size ≤ q) (ws ++ mw hm ad cs iv fv gv) → va_S (fun q : Nat => s.heap.size ≤ q) s.heap H locs → lv_has ls 4 [(0, .ref b), (1, .ref ho), (2, .ref hm), (3, .int (nI i))] → W p l e room_1 s m #[Value.ref b] below meth c H locs (cells + 10) (slots + 300) (lw_Z below #[Value.ref b] s) (F0 m 1269 ls [])) : W p l e room_1 s m #[Value.ref b] below meth c H locs cells slots (lw_Z below #[Value.ref b] s) (F0 m 340 ls []) := by
  obtain ⟨hx, hb, hr, hml, hown, hts0, hX, hbl, hlocks, hgv⟩ := id C0
  have hts := fun w h => hts0 w (wsL_law_in w h)
  have hA : ∀ q : Nat, s.heap.size ≤ q → (fun q : Nat => s.heap.size ≤ q) q := fun _ h => h
  have hbA : ¬ (fun q : Nat => s.heap.size ≤ q) b := Nat.not_le.mpr hbl
  obtain ⟨ρ, lc, bc, rc, fc, tl, n14, hKx, hKm, X, ⟨h1, b1, h3, b3, h13, b13, h14, b14, h43, b43, hN, hC⟩, V⟩ := I0
  have hM := nv_all V b3
  have hZ := nv_z V
  refine lv_aload_n hx hb dL_law_340 rfl (lv_at hl 1 rfl) ?_
  refine lv_aload_n hx hb dL_law_341 rfl (lv_at hl 0 rfl) ?_
  refine lv_iload_n hx hb dL_law_342 rfl (lv_at hl 3 rfl) ?_
  refine lv_iconst (v := 1) hx hb dL_law_343 (by decide) ?_
  refine lv_iadd hx hb dL_law_344 ?_
  refine tp_i (y := nI (i + 1)) (nI_add i 1) ?_
  refine va_sld hx hb hX hbl hbA hS (vp_in_nI (n := i + 1) (by omega) (by omega)) dL_law_345 ?_
  refine tp_i (y := xs (i + 1)) (by rw [nI_clamp (n := i + 1) (by omega)]) ?_
  refine lv_aload_n hx hb dL_law_346 rfl (lv_at hl 0 rfl) ?_
  refine lv_iload_n hx hb dL_law_347 rfl (lv_at hl 3 rfl) ?_
  refine lv_iconst (v := 2) hx hb dL_law_348 (by decide) ?_
  refine lv_iadd hx hb dL_law_349 ?_
  refine tp_i (y := nI (i + 2)) (nI_add i 2) ?_
  refine va_sld hx hb hX hbl hbA hS (vp_in_nI (n := i + 2) (by omega) (by omega)) dL_law_350 ?_
  refine tp_i (y := xs (i + 2)) (by rw [nI_clamp (n := i + 2) (by omega)]) ?_
  refine lv_aload_n hx hb dL_law_351 rfl (lv_at hl 0 rfl) ?_
  refine lv_iload_n hx hb dL_law_352 rfl (lv_at hl 3 rfl) ?_
  refine lv_iconst (v := 3) hx hb dL_law_353 (by decide) ?_
  refine lv_iadd hx hb dL_law_354 ?_
  refine tp_i (y := nI (i + 3)) (nI_add i 3) ?_
  refine va_sld hx hb hX hbl hbA hS (vp_in_nI (n := i + 3) (by omega) (by omega)) dL_law_355 ?_
  refine tp_i (y := xs (i + 3)) (by rw [nI_clamp (n := i + 3) (by omega)]) ?_
  refine lv_aload_n hx hb dL_law_356 rfl (lv_at hl 0 rfl) ?_
  refine lv_iload_n hx hb dL_law_357 rfl (lv_at hl 3 rfl) ?_
  refine lv_iconst (v := 4) hx hb dL_law_358 (by decide) ?_
  refine lv_iadd hx hb dL_law_359 ?_
  refine tp_i (y := nI (i + 4)) (nI_add i 4) ?_
  refine va_sld hx hb hX hbl hbA hS (vp_in_nI (n := i + 4) (by omega) (by omega)) dL_law_360 ?_
  refine tp_i (y := xs (i + 4)) (by rw [nI_clamp (n := i + 4) (by omega)]) ?_
  have hFc := free_all (vD_l hD) hS hA
  obtain ⟨k0, e0⟩ := xi_at X
  refine va_calli (va_runV (As := [.int (xs (i + 1)), .int (xs (i + 2)), .int (xs (i + 3)), .int (xs (i + 4))]) (rest := []) ⟨hx, hb, hml, hown, hts⟩ (h_pollen l D ρ ws tys fv ho lc bc rc fc (iv 2) tl (xs (i + 1)) (xs (i + 2)) (xs (i + 3)) (xs (i + 4)) H.size X) (cwV 4 hts gL_law_X8_pollen rfl rfl rfl (by decide +kernel) ⟨Nat.le_of_ble_eq_true rfl, Nat.le_of_ble_eq_true rfl⟩) ⟨fun a U g mk q => by obtain ⟨q0, q1, qP, qK, qD⟩ := q; exact ⟨q0, q1, qP, va_K.moved (u := U) (U := U.calling g mk a) (Vm.Alike.refl U.vm) qK, qD⟩, va_recv hKx (vP_l hP) (ci := 8) (q0 := k0) rfl e0.choose_spec, fun U hU hW => ⟨rfl, by rw [hU], by rw [hU]; exact vP_l hP, va_K.moved hW.alike hKx, (vD_l hD).weaken (fun _ _ _ _ => trivial)⟩⟩ rfl rfl hl.1 rfl (lv_room (Nat.le_of_ble_eq_true rfl)) dL_law_361 ⟨by show cells + 0 ≤ 600000; omega, by show slots + 0 ≤ 7302250; omega⟩) hS (fun q _ h => hFc q h) hFc (fun r1 u1 t1 H1 locs1 ht1 hvm1 k1 hB1 hz1 hk1 hS => ?_)
  obtain ⟨ws1, ty1, -, hP1, hK1, hD1, X1⟩ := hB1
  rw [ht1] at hP1
  have hKx1 := va_K.moved hvm1.symm hK1
  obtain ⟨hP, hD⟩ := lj_l hP hD hk1 hFc hP1 hD1
  refine lv_pop hx hb dL_law_364 rfl ?_
  refine lv_aload_n hx hb dL_law_365 rfl (lv_at hl 2 rfl) ?_
  refine lv_aload_n hx hb dL_law_366 rfl (lv_at hl 0 rfl) ?_
  refine lv_iload_n hx hb dL_law_367 rfl (lv_at hl 3 rfl) ?_
  refine lv_iconst (v := 1) hx hb dL_law_368 (by decide) ?_
  refine lv_iadd hx hb dL_law_369 ?_
  refine tp_i (y := nI (i + 1)) (nI_add i 1) ?_
  refine va_sld hx hb hX hbl hbA hS (vp_in_nI (n := i + 1) (by omega) (by omega)) dL_law_370 ?_
  refine tp_i (y := xs (i + 1)) (by rw [nI_clamp (n := i + 1) (by omega)]) ?_
  refine lv_aload_n hx hb dL_law_371 rfl (lv_at hl 0 rfl) ?_
  refine lv_iload_n hx hb dL_law_372 rfl (lv_at hl 3 rfl) ?_
  refine lv_iconst (v := 2) hx hb dL_law_373 (by decide) ?_
  refine lv_iadd hx hb dL_law_374 ?_
  refine tp_i (y := nI (i + 2)) (nI_add i 2) ?_
  refine va_sld hx hb hX hbl hbA hS (vp_in_nI (n := i + 2) (by omega) (by omega)) dL_law_375 ?_
  refine tp_i (y := xs (i + 2)) (by rw [nI_clamp (n := i + 2) (by omega)]) ?_
  refine lv_aload_n hx hb dL_law_376 rfl (lv_at hl 0 rfl) ?_
  refine lv_iload_n hx hb dL_law_377 rfl (lv_at hl 3 rfl) ?_
  refine lv_iconst (v := 3) hx hb dL_law_378 (by decide) ?_
  refine lv_iadd hx hb dL_law_379 ?_
  refine tp_i (y := nI (i + 3)) (nI_add i 3) ?_
  refine va_sld hx hb hX hbl hbA hS (vp_in_nI (n := i + 3) (by omega) (by omega)) dL_law_380 ?_
  refine tp_i (y := xs (i + 3)) (by rw [nI_clamp (n := i + 3) (by omega)]) ?_
  refine lv_aload_n hx hb dL_law_381 rfl (lv_at hl 0 rfl) ?_
  refine lv_iload_n hx hb dL_law_382 rfl (lv_at hl 3 rfl) ?_
  refine lv_iconst (v := 4) hx hb dL_law_383 (by decide) ?_
  refine lv_iadd hx hb dL_law_384 ?_
  refine tp_i (y := nI (i + 4)) (nI_add i 4) ?_
  refine va_sld hx hb hX hbl hbA hS (vp_in_nI (n := i + 4) (by omega) (by omega)) dL_law_385 ?_
  refine tp_i (y := xs (i + 4)) (by rw [nI_clamp (n := i + 4) (by omega)]) ?_
  have hFm := free_all (vD_r hD) hS hA
  refine va_calli (va_runV (As := [.int (xs (i + 1)), .int (xs (i + 2)), .int (xs (i + 3)), .int (xs (i + 4))]) (rest := []) ⟨hx, hb, hml, hown, hts⟩ (m_pollen l D hm ad cs iv fv gv lc (xs (i + 1)) (xs (i + 2)) (xs (i + 3)) (xs (i + 4)) H1.size h3 b3) (cwV 4 hts gL_law_X9_pollen rfl rfl rfl (by decide +kernel) ⟨Nat.le_of_ble_eq_true rfl, Nat.le_of_ble_eq_true rfl⟩) ⟨fun a U g mk q => by obtain ⟨q0, q1, qP, qK, qD⟩ := q; exact ⟨q0, q1, qP, va_K.moved (u := U) (U := U.calling g mk a) (Vm.Alike.refl U.vm) qK, qD⟩, va_recv hKm (vP_r hP) (ci := 9) (q0 := 0) rfl rfl, fun U hU hW => ⟨rfl, by rw [hU], by rw [hU]; exact vP_r hP, va_K.moved hW.alike hKm, (vD_r hD).weaken (fun _ _ _ _ => trivial)⟩⟩ rfl rfl hl.1 rfl (lv_room (Nat.le_of_ble_eq_true rfl)) dL_law_386 ⟨by show _ + 0 ≤ 600000; omega, by show _ + 0 ≤ 7302250; omega⟩) hS (fun q _ h => hFm q h) hFm (fun r2 u2 t2 H2 locs2 ht2 hvm2 k2 hB2 hz2 hk2 hS => ?_)
  subst k2
  obtain ⟨f5_, f6_, q0, hP2, hK2, hD2⟩ := hB2
  rw [ht2] at hP2
  obtain ⟨hP, hD⟩ := lj_r hP hD hk2 hFm hP2 hD2
  refine lv_pop hx hb dL_law_389 rfl ?_
  refine lv_goto (tgt := 1269) hx hb dL_law_390 (by decide) ?_
  have X2 : XI ρ (uF (uF fv 5 f5_) 6 f6_) ws1 ty1 ho lc bc rc fc (iv 2) tl := (by rcases X1 with ⟨n1, X1⟩ | ⟨n1, X1⟩ <;> rcases q0 with ⟨n2, -, e2⟩ | ⟨n2, -, e2⟩ <;> first | exact absurd n1 n2 | exact absurd n2 n1 | (rw [e2.1, e2.2]; exact X1) | (rw [e2.1, e2.2, uF_id, uF_id]; exact X1))
  have V2 : NV (uF (uF fv 5 f5_) 6 f6_) lc := (nv_fv V rfl rfl (fun _ => rfl) (fun _ => rfl))
  have hb9 := xi_b X2
  have M2 : MI iv (uF (uF fv 5 f5_) 6 f6_) tl lc bc n14 fc := ⟨h1, hb9.2.2.2.2, h3, hb9.1, h13, b13, h14, b14, h43, b43, hN, hC⟩
  refine W.widen (k := cells + 10) (n := slots + 300) (by omega) (by omega) ?_
  exact KK ws1 ty1 iv (uF (uF fv 5 f5_) 6 f6_) gv _ _ ls ⟨ρ, lc, bc, rc, fc, tl, n14, hKx1, hKm, X2, M2, V2⟩ hP hD hS (lv_sub hl [0, 1, 2, 3] rfl)
set_option maxHeartbeats 8000000 in
set_option maxRecDepth 100000 in
/-- test, on both sides -/
theorem law_5 {p : Program} {l : Launch} {e : Env} {s : State} {m : MethodId} {below : List Frame} {meth : Method} {c : Code} {b L : Nat} {xs : Nat → Int32} (C0 : lw_At p s m meth c b L xs) (i : Nat) (hi : i + 6 ≤ L) (hL : L ≤ 3072) (D : va_G) (adK adV : Nat → Nat) (fo : Option Nat) (hnz : NZ s) (hcz : CZ s) (hsz : SZ adK adV fo (fun q : Nat => s.heap.size ≤ q) s s.heap) (ho hm : Nat) (ad : Nat → Nat) (cs : Nat → ClassId) (iv : Nat → Int32) (fv : Nat → Nat → Int32) (gv : Nat → Int64) (ws : va_W) (tys : List (ClassId × FieldType)) (I0 : LI D s ws tys ho cs iv fv) {H : Heap} {locs : List Loc} (cells slots : Nat) (hc : cells + 10 ≤ 600000) (hs : slots + 300 ≤ 7302250) (hP : va_P D vwCl (ws ++ mw hm ad cs iv fv gv) H) (hD : va_D (fun q : Nat => s.heap.size ≤ q) (ws ++ mw hm ad cs iv fv gv)) (hS : va_S (fun q : Nat => s.heap.size ≤ q) s.heap H locs) {ls : Array Slot} (hl : lv_has ls 4 [(0, .ref b), (1, .ref ho), (2, .ref hm), (3, .int (nI i))]) (KK : ∀ (ws : va_W) (tys : List (ClassId × FieldType)) (iv : Nat → Int32) (fv : Nat → Nat → Int32) (gv : Nat → Int64) (H : Heap) (locs : List Loc) (ls : Array Slot), LI D s ws tys ho cs iv fv → va_P D vwCl (ws ++ mw hm ad cs iv fv gv) H → va_D (fun q : Nat => s.heap.size ≤ q) (ws ++ mw hm ad cs iv fv gv) → va_S (fun q : Nat => s.heap.size ≤ q) s.heap H locs → lv_has ls 4 [(0, .ref b), (1, .ref ho), (2, .ref hm), (3, .int (nI i))] → W p l e room_1 s m #[Value.ref b] below meth c H locs (cells + 10) (slots + 300) (lw_Z below #[Value.ref b] s) (F0 m 1269 ls [])) : W p l e room_1 s m #[Value.ref b] below meth c H locs cells slots (lw_Z below #[Value.ref b] s) (F0 m 393 ls []) := by
  obtain ⟨hx, hb, hr, hml, hown, hts0, hX, hbl, hlocks, hgv⟩ := id C0
  have hts := fun w h => hts0 w (wsL_law_in w h)
  have hA : ∀ q : Nat, s.heap.size ≤ q → (fun q : Nat => s.heap.size ≤ q) q := fun _ h => h
  have hbA : ¬ (fun q : Nat => s.heap.size ≤ q) b := Nat.not_le.mpr hbl
  obtain ⟨ρ, lc, bc, rc, fc, tl, n14, hKx, hKm, X, ⟨h1, b1, h3, b3, h13, b13, h14, b14, h43, b43, hN, hC⟩, V⟩ := I0
  have hM := nv_all V b3
  have hZ := nv_z V
  refine lv_aload_n hx hb dL_law_393 rfl (lv_at hl 1 rfl) ?_
  refine lv_aload_n hx hb dL_law_394 rfl (lv_at hl 0 rfl) ?_
  refine lv_iload_n hx hb dL_law_395 rfl (lv_at hl 3 rfl) ?_
  refine lv_iconst (v := 1) hx hb dL_law_396 (by decide) ?_
  refine lv_iadd hx hb dL_law_397 ?_
  refine tp_i (y := nI (i + 1)) (nI_add i 1) ?_
  refine va_sld hx hb hX hbl hbA hS (vp_in_nI (n := i + 1) (by omega) (by omega)) dL_law_398 ?_
  refine tp_i (y := xs (i + 1)) (by rw [nI_clamp (n := i + 1) (by omega)]) ?_
  refine lv_aload_n hx hb dL_law_399 rfl (lv_at hl 0 rfl) ?_
  refine lv_iload_n hx hb dL_law_400 rfl (lv_at hl 3 rfl) ?_
  refine lv_iconst (v := 2) hx hb dL_law_401 (by decide) ?_
  refine lv_iadd hx hb dL_law_402 ?_
  refine tp_i (y := nI (i + 2)) (nI_add i 2) ?_
  refine va_sld hx hb hX hbl hbA hS (vp_in_nI (n := i + 2) (by omega) (by omega)) dL_law_403 ?_
  refine tp_i (y := xs (i + 2)) (by rw [nI_clamp (n := i + 2) (by omega)]) ?_
  have hFc := free_all (vD_l hD) hS hA
  obtain ⟨k0, e0⟩ := xi_at X
  refine va_calli (va_runV (As := [.int (xs (i + 1)), .int (xs (i + 2))]) (rest := []) ⟨hx, hb, hml, hown, hts⟩ (h_test l D ρ ws tys fv ho lc bc rc fc (iv 2) tl (xs (i + 1)) (xs (i + 2)) H.size X) (cwV 2 hts gL_law_X8_test rfl rfl rfl (by decide +kernel) ⟨Nat.le_of_ble_eq_true rfl, Nat.le_of_ble_eq_true rfl⟩) ⟨fun a U g mk q => by obtain ⟨q0, q1, qP, qK, qD⟩ := q; exact ⟨q0, q1, qP, va_K.moved (u := U) (U := U.calling g mk a) (Vm.Alike.refl U.vm) qK, qD⟩, va_recv hKx (vP_l hP) (ci := 8) (q0 := k0) rfl e0.choose_spec, fun U hU hW => ⟨rfl, by rw [hU], by rw [hU]; exact vP_l hP, va_K.moved hW.alike hKx, (vD_l hD).weaken (fun _ _ _ _ => trivial)⟩⟩ rfl rfl hl.1 rfl (lv_room (Nat.le_of_ble_eq_true rfl)) dL_law_404 ⟨by show cells + 0 ≤ 600000; omega, by show slots + 0 ≤ 7302250; omega⟩) hS (fun q _ h => hFc q h) hFc (fun r1 u1 t1 H1 locs1 ht1 hvm1 k1 hB1 hz1 hk1 hS => ?_)
  obtain ⟨ws1, ty1, -, hP1, hK1, hD1, X1⟩ := hB1
  rw [ht1] at hP1
  have hKx1 := va_K.moved hvm1.symm hK1
  obtain ⟨hP, hD⟩ := lj_l hP hD hk1 hFc hP1 hD1
  refine lv_pop hx hb dL_law_407 rfl ?_
  refine lv_aload_n hx hb dL_law_408 rfl (lv_at hl 2 rfl) ?_
  refine lv_aload_n hx hb dL_law_409 rfl (lv_at hl 0 rfl) ?_
  refine lv_iload_n hx hb dL_law_410 rfl (lv_at hl 3 rfl) ?_
  refine lv_iconst (v := 1) hx hb dL_law_411 (by decide) ?_
  refine lv_iadd hx hb dL_law_412 ?_
  refine tp_i (y := nI (i + 1)) (nI_add i 1) ?_
  refine va_sld hx hb hX hbl hbA hS (vp_in_nI (n := i + 1) (by omega) (by omega)) dL_law_413 ?_
  refine tp_i (y := xs (i + 1)) (by rw [nI_clamp (n := i + 1) (by omega)]) ?_
  refine lv_aload_n hx hb dL_law_414 rfl (lv_at hl 0 rfl) ?_
  refine lv_iload_n hx hb dL_law_415 rfl (lv_at hl 3 rfl) ?_
  refine lv_iconst (v := 2) hx hb dL_law_416 (by decide) ?_
  refine lv_iadd hx hb dL_law_417 ?_
  refine tp_i (y := nI (i + 2)) (nI_add i 2) ?_
  refine va_sld hx hb hX hbl hbA hS (vp_in_nI (n := i + 2) (by omega) (by omega)) dL_law_418 ?_
  refine tp_i (y := xs (i + 2)) (by rw [nI_clamp (n := i + 2) (by omega)]) ?_
  have hFm := free_all (vD_r hD) hS hA
  refine va_calli (va_runV (As := [.int (xs (i + 1)), .int (xs (i + 2))]) (rest := []) ⟨hx, hb, hml, hown, hts⟩ (m_test l D hm ad cs iv fv gv lc (xs (i + 1)) (xs (i + 2)) H1.size h3 b3) (cwV 2 hts gL_law_X9_test rfl rfl rfl (by decide +kernel) ⟨Nat.le_of_ble_eq_true rfl, Nat.le_of_ble_eq_true rfl⟩) ⟨fun a U g mk q => by obtain ⟨q0, q1, qP, qK, qD⟩ := q; exact ⟨q0, q1, qP, va_K.moved (u := U) (U := U.calling g mk a) (Vm.Alike.refl U.vm) qK, qD⟩, va_recv hKm (vP_r hP) (ci := 9) (q0 := 0) rfl rfl, fun U hU hW => ⟨rfl, by rw [hU], by rw [hU]; exact vP_r hP, va_K.moved hW.alike hKm, (vD_r hD).weaken (fun _ _ _ _ => trivial)⟩⟩ rfl rfl hl.1 rfl (lv_room (Nat.le_of_ble_eq_true rfl)) dL_law_419 ⟨by show _ + 0 ≤ 600000; omega, by show _ + 0 ≤ 7302250; omega⟩) hS (fun q _ h => hFm q h) hFm (fun r2 u2 t2 H2 locs2 ht2 hvm2 k2 hB2 hz2 hk2 hS => ?_)
  subst k2
  obtain ⟨f4_, q0, hP2, hK2, hD2⟩ := hB2
  rw [ht2] at hP2
  obtain ⟨hP, hD⟩ := lj_r hP hD hk2 hFm hP2 hD2
  refine lv_pop hx hb dL_law_422 rfl ?_
  refine lv_goto (tgt := 1269) hx hb dL_law_423 (by decide) ?_
  have X2 : XI ρ (uF fv 4 f4_) ws1 ty1 ho lc bc rc fc (iv 2) tl := (by rcases X1 with ⟨n1, X1⟩ | ⟨n1, X1⟩ <;> rcases q0 with ⟨n2, -, e2⟩ | ⟨n2, -, e2⟩ <;> first | exact absurd n1 n2 | exact absurd n2 n1 | (rw [e2]; exact X1) | (rw [e2, uF_id]; exact X1))
  have V2 : NV (uF fv 4 f4_) lc := (by
    rcases q0 with ⟨n2, -, e2⟩ | ⟨n2, -, e2⟩
    · rw [e2, uF_id]; exact V
    · rw [e2]; exact nv_fv V rfl rfl (fun j => by show tesF _ _ _ _ _ = _; rw [tesF, upd_n (by omega), upd_n (by omega)]) (fun j => by show tesF _ _ _ _ _ = _; rw [tesF, upd_n (by omega), upd_n (by omega)]))
  have hb9 := xi_b X2
  have M2 : MI iv (uF fv 4 f4_) tl lc bc n14 fc := ⟨h1, hb9.2.2.2.2, h3, hb9.1, h13, b13, h14, b14, h43, b43, hN, hC⟩
  refine W.widen (k := cells + 10) (n := slots + 300) (by omega) (by omega) ?_
  exact KK ws1 ty1 iv (uF fv 4 f4_) gv _ _ ls ⟨ρ, lc, bc, rc, fc, tl, n14, hKx1, hKm, X2, M2, V2⟩ hP hD hS (lv_sub hl [0, 1, 2, 3] rfl)
set_option maxHeartbeats 8000000 in
set_option maxRecDepth 100000 in
/-- of, on both sides -/
theorem law_6 {p : Program} {l : Launch} {e : Env} {s : State} {m : MethodId} {below : List Frame} {meth : Method} {c : Code} {b L : Nat} {xs : Nat → Int32} (C0 : lw_At p s m meth c b L xs) (i : Nat) (hi : i + 6 ≤ L) (hL : L ≤ 3072) (D : va_G) (adK adV : Nat → Nat) (fo : Option Nat) (hnz : NZ s) (hcz : CZ s) (hsz : SZ adK adV fo (fun q : Nat => s.heap.size ≤ q) s s.heap) (ho hm : Nat) (ad : Nat → Nat) (cs : Nat → ClassId) (iv : Nat → Int32) (fv : Nat → Nat → Int32) (gv : Nat → Int64) (ws : va_W) (tys : List (ClassId × FieldType)) (I0 : LI D s ws tys ho cs iv fv) {H : Heap} {locs : List Loc} (cells slots : Nat) (hc : cells + 10 ≤ 600000) (hs : slots + 300 ≤ 7302250) (hP : va_P D vwCl (ws ++ mw hm ad cs iv fv gv) H) (hD : va_D (fun q : Nat => s.heap.size ≤ q) (ws ++ mw hm ad cs iv fv gv)) (hS : va_S (fun q : Nat => s.heap.size ≤ q) s.heap H locs) {ls : Array Slot} (hl : lv_has ls 4 [(0, .ref b), (1, .ref ho), (2, .ref hm), (3, .int (nI i))]) (KK : ∀ (ws : va_W) (tys : List (ClassId × FieldType)) (iv : Nat → Int32) (fv : Nat → Nat → Int32) (gv : Nat → Int64) (H : Heap) (locs : List Loc) (ls : Array Slot), LI D s ws tys ho cs iv fv → va_P D vwCl (ws ++ mw hm ad cs iv fv gv) H → va_D (fun q : Nat => s.heap.size ≤ q) (ws ++ mw hm ad cs iv fv gv) → va_S (fun q : Nat => s.heap.size ≤ q) s.heap H locs → lv_has ls 4 [(0, .ref b), (1, .ref ho), (2, .ref hm), (3, .int (nI i))] → W p l e room_1 s m #[Value.ref b] below meth c H locs (cells + 10) (slots + 300) (lw_Z below #[Value.ref b] s) (F0 m 1269 ls [])) : W p l e room_1 s m #[Value.ref b] below meth c H locs cells slots (lw_Z below #[Value.ref b] s) (F0 m 426 ls []) := by
  obtain ⟨hx, hb, hr, hml, hown, hts0, hX, hbl, hlocks, hgv⟩ := id C0
  have hts := fun w h => hts0 w (wsL_law_in w h)
  have hA : ∀ q : Nat, s.heap.size ≤ q → (fun q : Nat => s.heap.size ≤ q) q := fun _ h => h
  have hbA : ¬ (fun q : Nat => s.heap.size ≤ q) b := Nat.not_le.mpr hbl
  obtain ⟨ρ, lc, bc, rc, fc, tl, n14, hKx, hKm, X, ⟨h1, b1, h3, b3, h13, b13, h14, b14, h43, b43, hN, hC⟩, V⟩ := I0
  have hM := nv_all V b3
  have hZ := nv_z V
  refine lv_aload_n hx hb dL_law_426 rfl (lv_at hl 1 rfl) ?_
  refine lv_aload_n hx hb dL_law_427 rfl (lv_at hl 0 rfl) ?_
  refine lv_iload_n hx hb dL_law_428 rfl (lv_at hl 3 rfl) ?_
  refine lv_iconst (v := 1) hx hb dL_law_429 (by decide) ?_
  refine lv_iadd hx hb dL_law_430 ?_
  refine tp_i (y := nI (i + 1)) (nI_add i 1) ?_
  refine va_sld hx hb hX hbl hbA hS (vp_in_nI (n := i + 1) (by omega) (by omega)) dL_law_431 ?_
  refine tp_i (y := xs (i + 1)) (by rw [nI_clamp (n := i + 1) (by omega)]) ?_
  refine lv_aload_n hx hb dL_law_432 rfl (lv_at hl 0 rfl) ?_
  refine lv_iload_n hx hb dL_law_433 rfl (lv_at hl 3 rfl) ?_
  refine lv_iconst (v := 2) hx hb dL_law_434 (by decide) ?_
  refine lv_iadd hx hb dL_law_435 ?_
  refine tp_i (y := nI (i + 2)) (nI_add i 2) ?_
  refine va_sld hx hb hX hbl hbA hS (vp_in_nI (n := i + 2) (by omega) (by omega)) dL_law_436 ?_
  refine tp_i (y := xs (i + 2)) (by rw [nI_clamp (n := i + 2) (by omega)]) ?_
  have hFc := free_all (vD_l hD) hS hA
  obtain ⟨k0, e0⟩ := xi_at X
  refine va_calli (va_runV (As := [.int (xs (i + 1)), .int (xs (i + 2))]) (rest := []) ⟨hx, hb, hml, hown, hts⟩ (h_of l D ρ ws tys fv ho lc bc rc fc (iv 2) tl (xs (i + 1)) (xs (i + 2)) H.size X) (cwV 2 hts gL_law_X8_of rfl rfl rfl (by decide +kernel) ⟨Nat.le_of_ble_eq_true rfl, Nat.le_of_ble_eq_true rfl⟩) ⟨fun a U g mk q => by obtain ⟨q0, q1, qP, qK, qD⟩ := q; exact ⟨q0, q1, qP, va_K.moved (u := U) (U := U.calling g mk a) (Vm.Alike.refl U.vm) qK, qD⟩, va_recv hKx (vP_l hP) (ci := 8) (q0 := k0) rfl e0.choose_spec, fun U hU hW => ⟨rfl, by rw [hU], by rw [hU]; exact vP_l hP, va_K.moved hW.alike hKx, (vD_l hD).weaken (fun _ _ _ _ => trivial)⟩⟩ rfl rfl hl.1 rfl (lv_room (Nat.le_of_ble_eq_true rfl)) dL_law_437 ⟨by show cells + 0 ≤ 600000; omega, by show slots + 0 ≤ 7302250; omega⟩) hS (fun q _ h => hFc q h) hFc (fun r1 u1 t1 H1 locs1 ht1 hvm1 k1 hB1 hz1 hk1 hS => ?_)
  obtain ⟨ws1, ty1, -, hP1, hK1, hD1, X1⟩ := hB1
  rw [ht1] at hP1
  have hKx1 := va_K.moved hvm1.symm hK1
  obtain ⟨hP, hD⟩ := lj_l hP hD hk1 hFc hP1 hD1
  refine lv_pop hx hb dL_law_440 rfl ?_
  refine lv_aload_n hx hb dL_law_441 rfl (lv_at hl 2 rfl) ?_
  refine lv_aload_n hx hb dL_law_442 rfl (lv_at hl 0 rfl) ?_
  refine lv_iload_n hx hb dL_law_443 rfl (lv_at hl 3 rfl) ?_
  refine lv_iconst (v := 1) hx hb dL_law_444 (by decide) ?_
  refine lv_iadd hx hb dL_law_445 ?_
  refine tp_i (y := nI (i + 1)) (nI_add i 1) ?_
  refine va_sld hx hb hX hbl hbA hS (vp_in_nI (n := i + 1) (by omega) (by omega)) dL_law_446 ?_
  refine tp_i (y := xs (i + 1)) (by rw [nI_clamp (n := i + 1) (by omega)]) ?_
  refine lv_aload_n hx hb dL_law_447 rfl (lv_at hl 0 rfl) ?_
  refine lv_iload_n hx hb dL_law_448 rfl (lv_at hl 3 rfl) ?_
  refine lv_iconst (v := 2) hx hb dL_law_449 (by decide) ?_
  refine lv_iadd hx hb dL_law_450 ?_
  refine tp_i (y := nI (i + 2)) (nI_add i 2) ?_
  refine va_sld hx hb hX hbl hbA hS (vp_in_nI (n := i + 2) (by omega) (by omega)) dL_law_451 ?_
  refine tp_i (y := xs (i + 2)) (by rw [nI_clamp (n := i + 2) (by omega)]) ?_
  refine vp_callSi (W.runV (As := [.int (xs (i + 1)), .int (xs (i + 2))]) (rest := []) ⟨hx, hb, hml, hown, hts⟩ (m_of l D hm ad cs iv fv gv lc (xs (i + 1)) (xs (i + 2)) h3 b3) (cwV 2 hts gL_law_X9_of rfl rfl rfl (by decide +kernel) ⟨Nat.le_of_ble_eq_true rfl, Nat.le_of_ble_eq_true rfl⟩) ⟨fun a U g mk q => ⟨q.1, q.2.1, va_K.moved (u := U) (U := U.calling g mk a) (Vm.Alike.refl U.vm) q.2.2⟩, va_recv hKm (vP_r hP) (ci := 9) (q0 := 0) rfl rfl, fun U hU hW => ⟨rfl, by rw [hU]; exact vP_r hP, va_K.moved hW.alike hKm⟩⟩ rfl rfl hl.1 rfl (lv_room (Nat.le_of_ble_eq_true rfl)) dL_law_452 ⟨by show _ + 0 ≤ 600000; omega, by show _ + 0 ≤ 7302250; omega⟩) (fun r2 k2 => ?_)
  refine lv_pop hx hb dL_law_455 rfl ?_
  refine lv_goto (tgt := 1269) hx hb dL_law_456 (by decide) ?_
  have X2 : XI ρ fv ws1 ty1 ho lc bc rc fc (iv 2) tl := (X1.fvx rfl rfl rfl rfl rfl rfl rfl rfl rfl rfl)
  have V2 : NV fv lc := (nv_fv V rfl rfl (fun _ => rfl) (fun _ => rfl))
  have hb9 := xi_b X2
  have M2 : MI iv fv tl lc bc n14 fc := ⟨h1, hb9.2.2.2.2, h3, hb9.1, h13, b13, h14, b14, h43, b43, hN, hC⟩
  refine W.widen (k := cells + 10) (n := slots + 300) (by omega) (by omega) ?_
  exact KK ws1 ty1 iv fv gv _ _ ls ⟨ρ, lc, bc, rc, fc, tl, n14, hKx1, hKm, X2, M2, V2⟩ hP hD hS (lv_sub hl [0, 1, 2, 3] rfl)
set_option maxHeartbeats 8000000 in
set_option maxRecDepth 100000 in
/-- span, on both sides -/
theorem law_7 {p : Program} {l : Launch} {e : Env} {s : State} {m : MethodId} {below : List Frame} {meth : Method} {c : Code} {b L : Nat} {xs : Nat → Int32} (C0 : lw_At p s m meth c b L xs) (i : Nat) (hi : i + 6 ≤ L) (hL : L ≤ 3072) (D : va_G) (adK adV : Nat → Nat) (fo : Option Nat) (hnz : NZ s) (hcz : CZ s) (hsz : SZ adK adV fo (fun q : Nat => s.heap.size ≤ q) s s.heap) (ho hm : Nat) (ad : Nat → Nat) (cs : Nat → ClassId) (iv : Nat → Int32) (fv : Nat → Nat → Int32) (gv : Nat → Int64) (ws : va_W) (tys : List (ClassId × FieldType)) (I0 : LI D s ws tys ho cs iv fv) {H : Heap} {locs : List Loc} (cells slots : Nat) (hc : cells + 10 ≤ 600000) (hs : slots + 300 ≤ 7302250) (hP : va_P D vwCl (ws ++ mw hm ad cs iv fv gv) H) (hD : va_D (fun q : Nat => s.heap.size ≤ q) (ws ++ mw hm ad cs iv fv gv)) (hS : va_S (fun q : Nat => s.heap.size ≤ q) s.heap H locs) {ls : Array Slot} (hl : lv_has ls 4 [(0, .ref b), (1, .ref ho), (2, .ref hm), (3, .int (nI i))]) (KK : ∀ (ws : va_W) (tys : List (ClassId × FieldType)) (iv : Nat → Int32) (fv : Nat → Nat → Int32) (gv : Nat → Int64) (H : Heap) (locs : List Loc) (ls : Array Slot), LI D s ws tys ho cs iv fv → va_P D vwCl (ws ++ mw hm ad cs iv fv gv) H → va_D (fun q : Nat => s.heap.size ≤ q) (ws ++ mw hm ad cs iv fv gv) → va_S (fun q : Nat => s.heap.size ≤ q) s.heap H locs → lv_has ls 4 [(0, .ref b), (1, .ref ho), (2, .ref hm), (3, .int (nI i))] → W p l e room_1 s m #[Value.ref b] below meth c H locs (cells + 10) (slots + 300) (lw_Z below #[Value.ref b] s) (F0 m 1269 ls [])) : W p l e room_1 s m #[Value.ref b] below meth c H locs cells slots (lw_Z below #[Value.ref b] s) (F0 m 459 ls []) := by
  obtain ⟨hx, hb, hr, hml, hown, hts0, hX, hbl, hlocks, hgv⟩ := id C0
  have hts := fun w h => hts0 w (wsL_law_in w h)
  have hA : ∀ q : Nat, s.heap.size ≤ q → (fun q : Nat => s.heap.size ≤ q) q := fun _ h => h
  have hbA : ¬ (fun q : Nat => s.heap.size ≤ q) b := Nat.not_le.mpr hbl
  obtain ⟨ρ, lc, bc, rc, fc, tl, n14, hKx, hKm, X, ⟨h1, b1, h3, b3, h13, b13, h14, b14, h43, b43, hN, hC⟩, V⟩ := I0
  have hM := nv_all V b3
  have hZ := nv_z V
  refine lv_aload_n hx hb dL_law_459 rfl (lv_at hl 1 rfl) ?_
  refine lv_aload_n hx hb dL_law_460 rfl (lv_at hl 0 rfl) ?_
  refine lv_iload_n hx hb dL_law_461 rfl (lv_at hl 3 rfl) ?_
  refine lv_iconst (v := 1) hx hb dL_law_462 (by decide) ?_
  refine lv_iadd hx hb dL_law_463 ?_
  refine tp_i (y := nI (i + 1)) (nI_add i 1) ?_
  refine va_sld hx hb hX hbl hbA hS (vp_in_nI (n := i + 1) (by omega) (by omega)) dL_law_464 ?_
  refine tp_i (y := xs (i + 1)) (by rw [nI_clamp (n := i + 1) (by omega)]) ?_
  refine lv_aload_n hx hb dL_law_465 rfl (lv_at hl 0 rfl) ?_
  refine lv_iload_n hx hb dL_law_466 rfl (lv_at hl 3 rfl) ?_
  refine lv_iconst (v := 2) hx hb dL_law_467 (by decide) ?_
  refine lv_iadd hx hb dL_law_468 ?_
  refine tp_i (y := nI (i + 2)) (nI_add i 2) ?_
  refine va_sld hx hb hX hbl hbA hS (vp_in_nI (n := i + 2) (by omega) (by omega)) dL_law_469 ?_
  refine tp_i (y := xs (i + 2)) (by rw [nI_clamp (n := i + 2) (by omega)]) ?_
  refine lv_aload_n hx hb dL_law_470 rfl (lv_at hl 0 rfl) ?_
  refine lv_iload_n hx hb dL_law_471 rfl (lv_at hl 3 rfl) ?_
  refine lv_iconst (v := 3) hx hb dL_law_472 (by decide) ?_
  refine lv_iadd hx hb dL_law_473 ?_
  refine tp_i (y := nI (i + 3)) (nI_add i 3) ?_
  refine va_sld hx hb hX hbl hbA hS (vp_in_nI (n := i + 3) (by omega) (by omega)) dL_law_474 ?_
  refine tp_i (y := xs (i + 3)) (by rw [nI_clamp (n := i + 3) (by omega)]) ?_
  have hFc := free_all (vD_l hD) hS hA
  obtain ⟨k0, e0⟩ := xi_at X
  refine va_calli (va_runV (As := [.int (xs (i + 1)), .int (xs (i + 2)), .int (xs (i + 3))]) (rest := []) ⟨hx, hb, hml, hown, hts⟩ (h_span l D ρ ws tys fv ho lc bc rc fc (iv 2) tl (xs (i + 1)) (xs (i + 2)) (xs (i + 3)) H.size X) (cwV 3 hts gL_law_X8_span rfl rfl rfl (by decide +kernel) ⟨Nat.le_of_ble_eq_true rfl, Nat.le_of_ble_eq_true rfl⟩) ⟨fun a U g mk q => by obtain ⟨q0, q1, qP, qK, qD⟩ := q; exact ⟨q0, q1, qP, va_K.moved (u := U) (U := U.calling g mk a) (Vm.Alike.refl U.vm) qK, qD⟩, va_recv hKx (vP_l hP) (ci := 8) (q0 := k0) rfl e0.choose_spec, fun U hU hW => ⟨rfl, by rw [hU], by rw [hU]; exact vP_l hP, va_K.moved hW.alike hKx, (vD_l hD).weaken (fun _ _ _ _ => trivial)⟩⟩ rfl rfl hl.1 rfl (lv_room (Nat.le_of_ble_eq_true rfl)) dL_law_475 ⟨by show cells + 0 ≤ 600000; omega, by show slots + 0 ≤ 7302250; omega⟩) hS (fun q _ h => hFc q h) hFc (fun r1 u1 t1 H1 locs1 ht1 hvm1 k1 hB1 hz1 hk1 hS => ?_)
  obtain ⟨ws1, ty1, -, hP1, hK1, hD1, X1⟩ := hB1
  rw [ht1] at hP1
  have hKx1 := va_K.moved hvm1.symm hK1
  obtain ⟨hP, hD⟩ := lj_l hP hD hk1 hFc hP1 hD1
  refine lv_pop hx hb dL_law_478 rfl ?_
  refine lv_aload_n hx hb dL_law_479 rfl (lv_at hl 2 rfl) ?_
  refine lv_aload_n hx hb dL_law_480 rfl (lv_at hl 0 rfl) ?_
  refine lv_iload_n hx hb dL_law_481 rfl (lv_at hl 3 rfl) ?_
  refine lv_iconst (v := 1) hx hb dL_law_482 (by decide) ?_
  refine lv_iadd hx hb dL_law_483 ?_
  refine tp_i (y := nI (i + 1)) (nI_add i 1) ?_
  refine va_sld hx hb hX hbl hbA hS (vp_in_nI (n := i + 1) (by omega) (by omega)) dL_law_484 ?_
  refine tp_i (y := xs (i + 1)) (by rw [nI_clamp (n := i + 1) (by omega)]) ?_
  refine lv_aload_n hx hb dL_law_485 rfl (lv_at hl 0 rfl) ?_
  refine lv_iload_n hx hb dL_law_486 rfl (lv_at hl 3 rfl) ?_
  refine lv_iconst (v := 2) hx hb dL_law_487 (by decide) ?_
  refine lv_iadd hx hb dL_law_488 ?_
  refine tp_i (y := nI (i + 2)) (nI_add i 2) ?_
  refine va_sld hx hb hX hbl hbA hS (vp_in_nI (n := i + 2) (by omega) (by omega)) dL_law_489 ?_
  refine tp_i (y := xs (i + 2)) (by rw [nI_clamp (n := i + 2) (by omega)]) ?_
  refine lv_aload_n hx hb dL_law_490 rfl (lv_at hl 0 rfl) ?_
  refine lv_iload_n hx hb dL_law_491 rfl (lv_at hl 3 rfl) ?_
  refine lv_iconst (v := 3) hx hb dL_law_492 (by decide) ?_
  refine lv_iadd hx hb dL_law_493 ?_
  refine tp_i (y := nI (i + 3)) (nI_add i 3) ?_
  refine va_sld hx hb hX hbl hbA hS (vp_in_nI (n := i + 3) (by omega) (by omega)) dL_law_494 ?_
  refine tp_i (y := xs (i + 3)) (by rw [nI_clamp (n := i + 3) (by omega)]) ?_
  refine vp_callSi (W.runV (As := [.int (xs (i + 1)), .int (xs (i + 2)), .int (xs (i + 3))]) (rest := []) ⟨hx, hb, hml, hown, hts⟩ (m_span l D hm ad cs iv fv gv lc (xs (i + 1)) (xs (i + 2)) (xs (i + 3)) h3 b3) (cwV 3 hts gL_law_X9_span rfl rfl rfl (by decide +kernel) ⟨Nat.le_of_ble_eq_true rfl, Nat.le_of_ble_eq_true rfl⟩) ⟨fun a U g mk q => ⟨q.1, q.2.1, va_K.moved (u := U) (U := U.calling g mk a) (Vm.Alike.refl U.vm) q.2.2⟩, va_recv hKm (vP_r hP) (ci := 9) (q0 := 0) rfl rfl, fun U hU hW => ⟨rfl, by rw [hU]; exact vP_r hP, va_K.moved hW.alike hKm⟩⟩ rfl rfl hl.1 rfl (lv_room (Nat.le_of_ble_eq_true rfl)) dL_law_495 ⟨by show _ + 0 ≤ 600000; omega, by show _ + 0 ≤ 7302250; omega⟩) (fun r2 k2 => ?_)
  refine lv_pop hx hb dL_law_498 rfl ?_
  refine lv_goto (tgt := 1269) hx hb dL_law_499 (by decide) ?_
  have X2 : XI ρ fv ws1 ty1 ho lc bc rc fc (iv 2) tl := (X1.fvx rfl rfl rfl rfl rfl rfl rfl rfl rfl rfl)
  have V2 : NV fv lc := (nv_fv V rfl rfl (fun _ => rfl) (fun _ => rfl))
  have hb9 := xi_b X2
  have M2 : MI iv fv tl lc bc n14 fc := ⟨h1, hb9.2.2.2.2, h3, hb9.1, h13, b13, h14, b14, h43, b43, hN, hC⟩
  refine W.widen (k := cells + 10) (n := slots + 300) (by omega) (by omega) ?_
  exact KK ws1 ty1 iv fv gv _ _ ls ⟨ρ, lc, bc, rc, fc, tl, n14, hKx1, hKm, X2, M2, V2⟩ hP hD hS (lv_sub hl [0, 1, 2, 3] rfl)
set_option maxHeartbeats 8000000 in
set_option maxRecDepth 100000 in
/-- tank, on both sides -/
theorem law_8 {p : Program} {l : Launch} {e : Env} {s : State} {m : MethodId} {below : List Frame} {meth : Method} {c : Code} {b L : Nat} {xs : Nat → Int32} (C0 : lw_At p s m meth c b L xs) (i : Nat) (hi : i + 6 ≤ L) (hL : L ≤ 3072) (D : va_G) (adK adV : Nat → Nat) (fo : Option Nat) (hnz : NZ s) (hcz : CZ s) (hsz : SZ adK adV fo (fun q : Nat => s.heap.size ≤ q) s s.heap) (ho hm : Nat) (ad : Nat → Nat) (cs : Nat → ClassId) (iv : Nat → Int32) (fv : Nat → Nat → Int32) (gv : Nat → Int64) (ws : va_W) (tys : List (ClassId × FieldType)) (I0 : LI D s ws tys ho cs iv fv) {H : Heap} {locs : List Loc} (cells slots : Nat) (hc : cells + 10 ≤ 600000) (hs : slots + 300 ≤ 7302250) (hP : va_P D vwCl (ws ++ mw hm ad cs iv fv gv) H) (hD : va_D (fun q : Nat => s.heap.size ≤ q) (ws ++ mw hm ad cs iv fv gv)) (hS : va_S (fun q : Nat => s.heap.size ≤ q) s.heap H locs) {ls : Array Slot} (hl : lv_has ls 4 [(0, .ref b), (1, .ref ho), (2, .ref hm), (3, .int (nI i))]) (KK : ∀ (ws : va_W) (tys : List (ClassId × FieldType)) (iv : Nat → Int32) (fv : Nat → Nat → Int32) (gv : Nat → Int64) (H : Heap) (locs : List Loc) (ls : Array Slot), LI D s ws tys ho cs iv fv → va_P D vwCl (ws ++ mw hm ad cs iv fv gv) H → va_D (fun q : Nat => s.heap.size ≤ q) (ws ++ mw hm ad cs iv fv gv) → va_S (fun q : Nat => s.heap.size ≤ q) s.heap H locs → lv_has ls 4 [(0, .ref b), (1, .ref ho), (2, .ref hm), (3, .int (nI i))] → W p l e room_1 s m #[Value.ref b] below meth c H locs (cells + 10) (slots + 300) (lw_Z below #[Value.ref b] s) (F0 m 1269 ls [])) : W p l e room_1 s m #[Value.ref b] below meth c H locs cells slots (lw_Z below #[Value.ref b] s) (F0 m 502 ls []) := by
  obtain ⟨hx, hb, hr, hml, hown, hts0, hX, hbl, hlocks, hgv⟩ := id C0
  have hts := fun w h => hts0 w (wsL_law_in w h)
  have hA : ∀ q : Nat, s.heap.size ≤ q → (fun q : Nat => s.heap.size ≤ q) q := fun _ h => h
  have hbA : ¬ (fun q : Nat => s.heap.size ≤ q) b := Nat.not_le.mpr hbl
  obtain ⟨ρ, lc, bc, rc, fc, tl, n14, hKx, hKm, X, ⟨h1, b1, h3, b3, h13, b13, h14, b14, h43, b43, hN, hC⟩, V⟩ := I0
  have hM := nv_all V b3
  have hZ := nv_z V
  refine lv_aload_n hx hb dL_law_502 rfl (lv_at hl 1 rfl) ?_
  refine lv_aload_n hx hb dL_law_503 rfl (lv_at hl 0 rfl) ?_
  refine lv_iload_n hx hb dL_law_504 rfl (lv_at hl 3 rfl) ?_
  refine lv_iconst (v := 1) hx hb dL_law_505 (by decide) ?_
  refine lv_iadd hx hb dL_law_506 ?_
  refine tp_i (y := nI (i + 1)) (nI_add i 1) ?_
  refine va_sld hx hb hX hbl hbA hS (vp_in_nI (n := i + 1) (by omega) (by omega)) dL_law_507 ?_
  refine tp_i (y := xs (i + 1)) (by rw [nI_clamp (n := i + 1) (by omega)]) ?_
  refine lv_aload_n hx hb dL_law_508 rfl (lv_at hl 0 rfl) ?_
  refine lv_iload_n hx hb dL_law_509 rfl (lv_at hl 3 rfl) ?_
  refine lv_iconst (v := 2) hx hb dL_law_510 (by decide) ?_
  refine lv_iadd hx hb dL_law_511 ?_
  refine tp_i (y := nI (i + 2)) (nI_add i 2) ?_
  refine va_sld hx hb hX hbl hbA hS (vp_in_nI (n := i + 2) (by omega) (by omega)) dL_law_512 ?_
  refine tp_i (y := xs (i + 2)) (by rw [nI_clamp (n := i + 2) (by omega)]) ?_
  refine lv_aload_n hx hb dL_law_513 rfl (lv_at hl 0 rfl) ?_
  refine lv_iload_n hx hb dL_law_514 rfl (lv_at hl 3 rfl) ?_
  refine lv_iconst (v := 3) hx hb dL_law_515 (by decide) ?_
  refine lv_iadd hx hb dL_law_516 ?_
  refine tp_i (y := nI (i + 3)) (nI_add i 3) ?_
  refine va_sld hx hb hX hbl hbA hS (vp_in_nI (n := i + 3) (by omega) (by omega)) dL_law_517 ?_
  refine tp_i (y := xs (i + 3)) (by rw [nI_clamp (n := i + 3) (by omega)]) ?_
  have hFc := free_all (vD_l hD) hS hA
  obtain ⟨k0, e0⟩ := xi_at X
  refine va_calli (va_runV (As := [.int (xs (i + 1)), .int (xs (i + 2)), .int (xs (i + 3))]) (rest := []) ⟨hx, hb, hml, hown, hts⟩ (h_tank l D ρ ws tys fv ho lc bc rc fc (iv 2) tl (xs (i + 1)) (xs (i + 2)) (xs (i + 3)) H.size X) (cwV 3 hts gL_law_X8_tank rfl rfl rfl (by decide +kernel) ⟨Nat.le_of_ble_eq_true rfl, Nat.le_of_ble_eq_true rfl⟩) ⟨fun a U g mk q => by obtain ⟨q0, q1, qP, qK, qD⟩ := q; exact ⟨q0, q1, qP, va_K.moved (u := U) (U := U.calling g mk a) (Vm.Alike.refl U.vm) qK, qD⟩, va_recv hKx (vP_l hP) (ci := 8) (q0 := k0) rfl e0.choose_spec, fun U hU hW => ⟨rfl, by rw [hU], by rw [hU]; exact vP_l hP, va_K.moved hW.alike hKx, (vD_l hD).weaken (fun _ _ _ _ => trivial)⟩⟩ rfl rfl hl.1 rfl (lv_room (Nat.le_of_ble_eq_true rfl)) dL_law_518 ⟨by show cells + 0 ≤ 600000; omega, by show slots + 0 ≤ 7302250; omega⟩) hS (fun q _ h => hFc q h) hFc (fun r1 u1 t1 H1 locs1 ht1 hvm1 k1 hB1 hz1 hk1 hS => ?_)
  obtain ⟨ws1, ty1, -, hP1, hK1, hD1, X1⟩ := hB1
  rw [ht1] at hP1
  have hKx1 := va_K.moved hvm1.symm hK1
  obtain ⟨hP, hD⟩ := lj_l hP hD hk1 hFc hP1 hD1
  refine lv_pop hx hb dL_law_521 rfl ?_
  refine lv_aload_n hx hb dL_law_522 rfl (lv_at hl 2 rfl) ?_
  refine lv_aload_n hx hb dL_law_523 rfl (lv_at hl 0 rfl) ?_
  refine lv_iload_n hx hb dL_law_524 rfl (lv_at hl 3 rfl) ?_
  refine lv_iconst (v := 1) hx hb dL_law_525 (by decide) ?_
  refine lv_iadd hx hb dL_law_526 ?_
  refine tp_i (y := nI (i + 1)) (nI_add i 1) ?_
  refine va_sld hx hb hX hbl hbA hS (vp_in_nI (n := i + 1) (by omega) (by omega)) dL_law_527 ?_
  refine tp_i (y := xs (i + 1)) (by rw [nI_clamp (n := i + 1) (by omega)]) ?_
  refine lv_aload_n hx hb dL_law_528 rfl (lv_at hl 0 rfl) ?_
  refine lv_iload_n hx hb dL_law_529 rfl (lv_at hl 3 rfl) ?_
  refine lv_iconst (v := 2) hx hb dL_law_530 (by decide) ?_
  refine lv_iadd hx hb dL_law_531 ?_
  refine tp_i (y := nI (i + 2)) (nI_add i 2) ?_
  refine va_sld hx hb hX hbl hbA hS (vp_in_nI (n := i + 2) (by omega) (by omega)) dL_law_532 ?_
  refine tp_i (y := xs (i + 2)) (by rw [nI_clamp (n := i + 2) (by omega)]) ?_
  refine lv_aload_n hx hb dL_law_533 rfl (lv_at hl 0 rfl) ?_
  refine lv_iload_n hx hb dL_law_534 rfl (lv_at hl 3 rfl) ?_
  refine lv_iconst (v := 3) hx hb dL_law_535 (by decide) ?_
  refine lv_iadd hx hb dL_law_536 ?_
  refine tp_i (y := nI (i + 3)) (nI_add i 3) ?_
  refine va_sld hx hb hX hbl hbA hS (vp_in_nI (n := i + 3) (by omega) (by omega)) dL_law_537 ?_
  refine tp_i (y := xs (i + 3)) (by rw [nI_clamp (n := i + 3) (by omega)]) ?_
  have hFm := free_all (vD_r hD) hS hA
  refine va_calli (va_runV (As := [.int (xs (i + 1)), .int (xs (i + 2)), .int (xs (i + 3))]) (rest := []) ⟨hx, hb, hml, hown, hts⟩ (m_tank l D hm ad cs iv fv gv lc (xs (i + 1)) (xs (i + 2)) (xs (i + 3)) H1.size h3 b3 hM) (cwV 3 hts gL_law_X9_tank rfl rfl rfl (by decide +kernel) ⟨Nat.le_of_ble_eq_true rfl, Nat.le_of_ble_eq_true rfl⟩) ⟨fun a U g mk q => by obtain ⟨q0, q1, qP, qK, qD⟩ := q; exact ⟨q0, q1, qP, va_K.moved (u := U) (U := U.calling g mk a) (Vm.Alike.refl U.vm) qK, qD⟩, va_recv hKm (vP_r hP) (ci := 9) (q0 := 0) rfl rfl, fun U hU hW => ⟨rfl, by rw [hU], by rw [hU]; exact vP_r hP, va_K.moved hW.alike hKm, (vD_r hD).weaken (fun _ _ _ _ => trivial)⟩⟩ rfl rfl hl.1 rfl (lv_room (Nat.le_of_ble_eq_true rfl)) dL_law_538 ⟨by show _ + 0 ≤ 600000; omega, by show _ + 0 ≤ 7302250; omega⟩) hS (fun q _ h => hFm q h) hFm (fun r2 u2 t2 H2 locs2 ht2 hvm2 k2 hB2 hz2 hk2 hS => ?_)
  subst k2
  obtain ⟨f11_, f12_, q0, hP2, hK2, hD2⟩ := hB2
  rw [ht2] at hP2
  obtain ⟨hP, hD⟩ := lj_r hP hD hk2 hFm hP2 hD2
  refine lv_pop hx hb dL_law_541 rfl ?_
  refine lv_goto (tgt := 1269) hx hb dL_law_542 (by decide) ?_
  have X2 : XI ρ (uF (uF fv 11 f11_) 12 f12_) ws1 ty1 ho lc bc rc fc (iv 2) tl := (by rcases X1 with ⟨n1, X1⟩ | ⟨n1, X1⟩ <;> rcases q0 with ⟨n2, -, e2⟩ | ⟨n2, -, e2⟩ <;> first | exact absurd n1 n2 | exact absurd n2 n1 | (rw [e2.1, e2.2]; exact X1) | (rw [e2.1, e2.2, uF_id, uF_id]; exact X1))
  have V2 : NV (uF (uF fv 11 f11_) 12 f12_) lc := (by
    rcases q0 with ⟨n2, -, e2⟩ | ⟨n2, -, e2⟩
    · rw [e2.1, e2.2, uF_id, uF_id]; exact V
    · rw [e2.1, e2.2]; exact nv_tank V n2)
  have hb9 := xi_b X2
  have M2 : MI iv (uF (uF fv 11 f11_) 12 f12_) tl lc bc n14 fc := ⟨h1, hb9.2.2.2.2, h3, hb9.1, h13, b13, h14, b14, h43, b43, hN, hC⟩
  refine W.widen (k := cells + 10) (n := slots + 300) (by omega) (by omega) ?_
  exact KK ws1 ty1 iv (uF (uF fv 11 f11_) 12 f12_) gv _ _ ls ⟨ρ, lc, bc, rc, fc, tl, n14, hKx1, hKm, X2, M2, V2⟩ hP hD hS (lv_sub hl [0, 1, 2, 3] rfl)
set_option maxHeartbeats 8000000 in
set_option maxRecDepth 100000 in
/-- pour, on both sides -/
theorem law_9 {p : Program} {l : Launch} {e : Env} {s : State} {m : MethodId} {below : List Frame} {meth : Method} {c : Code} {b L : Nat} {xs : Nat → Int32} (C0 : lw_At p s m meth c b L xs) (i : Nat) (hi : i + 6 ≤ L) (hL : L ≤ 3072) (D : va_G) (adK adV : Nat → Nat) (fo : Option Nat) (hnz : NZ s) (hcz : CZ s) (hsz : SZ adK adV fo (fun q : Nat => s.heap.size ≤ q) s s.heap) (ho hm : Nat) (ad : Nat → Nat) (cs : Nat → ClassId) (iv : Nat → Int32) (fv : Nat → Nat → Int32) (gv : Nat → Int64) (ws : va_W) (tys : List (ClassId × FieldType)) (I0 : LI D s ws tys ho cs iv fv) {H : Heap} {locs : List Loc} (cells slots : Nat) (hc : cells + 10 ≤ 600000) (hs : slots + 300 ≤ 7302250) (hP : va_P D vwCl (ws ++ mw hm ad cs iv fv gv) H) (hD : va_D (fun q : Nat => s.heap.size ≤ q) (ws ++ mw hm ad cs iv fv gv)) (hS : va_S (fun q : Nat => s.heap.size ≤ q) s.heap H locs) {ls : Array Slot} (hl : lv_has ls 4 [(0, .ref b), (1, .ref ho), (2, .ref hm), (3, .int (nI i))]) (KK : ∀ (ws : va_W) (tys : List (ClassId × FieldType)) (iv : Nat → Int32) (fv : Nat → Nat → Int32) (gv : Nat → Int64) (H : Heap) (locs : List Loc) (ls : Array Slot), LI D s ws tys ho cs iv fv → va_P D vwCl (ws ++ mw hm ad cs iv fv gv) H → va_D (fun q : Nat => s.heap.size ≤ q) (ws ++ mw hm ad cs iv fv gv) → va_S (fun q : Nat => s.heap.size ≤ q) s.heap H locs → lv_has ls 4 [(0, .ref b), (1, .ref ho), (2, .ref hm), (3, .int (nI i))] → W p l e room_1 s m #[Value.ref b] below meth c H locs (cells + 10) (slots + 300) (lw_Z below #[Value.ref b] s) (F0 m 1269 ls [])) : W p l e room_1 s m #[Value.ref b] below meth c H locs cells slots (lw_Z below #[Value.ref b] s) (F0 m 545 ls []) := by
  obtain ⟨hx, hb, hr, hml, hown, hts0, hX, hbl, hlocks, hgv⟩ := id C0
  have hts := fun w h => hts0 w (wsL_law_in w h)
  have hA : ∀ q : Nat, s.heap.size ≤ q → (fun q : Nat => s.heap.size ≤ q) q := fun _ h => h
  have hbA : ¬ (fun q : Nat => s.heap.size ≤ q) b := Nat.not_le.mpr hbl
  obtain ⟨ρ, lc, bc, rc, fc, tl, n14, hKx, hKm, X, ⟨h1, b1, h3, b3, h13, b13, h14, b14, h43, b43, hN, hC⟩, V⟩ := I0
  have hM := nv_all V b3
  have hZ := nv_z V
  refine lv_aload_n hx hb dL_law_545 rfl (lv_at hl 1 rfl) ?_
  refine lv_aload_n hx hb dL_law_546 rfl (lv_at hl 0 rfl) ?_
  refine lv_iload_n hx hb dL_law_547 rfl (lv_at hl 3 rfl) ?_
  refine lv_iconst (v := 1) hx hb dL_law_548 (by decide) ?_
  refine lv_iadd hx hb dL_law_549 ?_
  refine tp_i (y := nI (i + 1)) (nI_add i 1) ?_
  refine va_sld hx hb hX hbl hbA hS (vp_in_nI (n := i + 1) (by omega) (by omega)) dL_law_550 ?_
  refine tp_i (y := xs (i + 1)) (by rw [nI_clamp (n := i + 1) (by omega)]) ?_
  refine lv_aload_n hx hb dL_law_551 rfl (lv_at hl 0 rfl) ?_
  refine lv_iload_n hx hb dL_law_552 rfl (lv_at hl 3 rfl) ?_
  refine lv_iconst (v := 2) hx hb dL_law_553 (by decide) ?_
  refine lv_iadd hx hb dL_law_554 ?_
  refine tp_i (y := nI (i + 2)) (nI_add i 2) ?_
  refine va_sld hx hb hX hbl hbA hS (vp_in_nI (n := i + 2) (by omega) (by omega)) dL_law_555 ?_
  refine tp_i (y := xs (i + 2)) (by rw [nI_clamp (n := i + 2) (by omega)]) ?_
  refine lv_aload_n hx hb dL_law_556 rfl (lv_at hl 0 rfl) ?_
  refine lv_iload_n hx hb dL_law_557 rfl (lv_at hl 3 rfl) ?_
  refine lv_iconst (v := 3) hx hb dL_law_558 (by decide) ?_
  refine lv_iadd hx hb dL_law_559 ?_
  refine tp_i (y := nI (i + 3)) (nI_add i 3) ?_
  refine va_sld hx hb hX hbl hbA hS (vp_in_nI (n := i + 3) (by omega) (by omega)) dL_law_560 ?_
  refine tp_i (y := xs (i + 3)) (by rw [nI_clamp (n := i + 3) (by omega)]) ?_
  have hFc := free_all (vD_l hD) hS hA
  obtain ⟨k0, e0⟩ := xi_at X
  refine va_calli (va_runV (As := [.int (xs (i + 1)), .int (xs (i + 2)), .int (xs (i + 3))]) (rest := []) ⟨hx, hb, hml, hown, hts⟩ (h_pour l D ρ ws tys fv ho lc bc rc fc (iv 2) tl (xs (i + 1)) (xs (i + 2)) (xs (i + 3)) H.size X) (cwV 3 hts gL_law_X8_pour rfl rfl rfl (by decide +kernel) ⟨Nat.le_of_ble_eq_true rfl, Nat.le_of_ble_eq_true rfl⟩) ⟨fun a U g mk q => by obtain ⟨q0, q1, qP, qK, qD⟩ := q; exact ⟨q0, q1, qP, va_K.moved (u := U) (U := U.calling g mk a) (Vm.Alike.refl U.vm) qK, qD⟩, va_recv hKx (vP_l hP) (ci := 8) (q0 := k0) rfl e0.choose_spec, fun U hU hW => ⟨rfl, by rw [hU], by rw [hU]; exact vP_l hP, va_K.moved hW.alike hKx, (vD_l hD).weaken (fun _ _ _ _ => trivial)⟩⟩ rfl rfl hl.1 rfl (lv_room (Nat.le_of_ble_eq_true rfl)) dL_law_561 ⟨by show cells + 0 ≤ 600000; omega, by show slots + 0 ≤ 7302250; omega⟩) hS (fun q _ h => hFc q h) hFc (fun r1 u1 t1 H1 locs1 ht1 hvm1 k1 hB1 hz1 hk1 hS => ?_)
  obtain ⟨ws1, ty1, -, hP1, hK1, hD1, X1⟩ := hB1
  rw [ht1] at hP1
  have hKx1 := va_K.moved hvm1.symm hK1
  obtain ⟨hP, hD⟩ := lj_l hP hD hk1 hFc hP1 hD1
  refine lv_pop hx hb dL_law_564 rfl ?_
  refine lv_aload_n hx hb dL_law_565 rfl (lv_at hl 2 rfl) ?_
  refine lv_aload_n hx hb dL_law_566 rfl (lv_at hl 0 rfl) ?_
  refine lv_iload_n hx hb dL_law_567 rfl (lv_at hl 3 rfl) ?_
  refine lv_iconst (v := 1) hx hb dL_law_568 (by decide) ?_
  refine lv_iadd hx hb dL_law_569 ?_
  refine tp_i (y := nI (i + 1)) (nI_add i 1) ?_
  refine va_sld hx hb hX hbl hbA hS (vp_in_nI (n := i + 1) (by omega) (by omega)) dL_law_570 ?_
  refine tp_i (y := xs (i + 1)) (by rw [nI_clamp (n := i + 1) (by omega)]) ?_
  refine lv_aload_n hx hb dL_law_571 rfl (lv_at hl 0 rfl) ?_
  refine lv_iload_n hx hb dL_law_572 rfl (lv_at hl 3 rfl) ?_
  refine lv_iconst (v := 2) hx hb dL_law_573 (by decide) ?_
  refine lv_iadd hx hb dL_law_574 ?_
  refine tp_i (y := nI (i + 2)) (nI_add i 2) ?_
  refine va_sld hx hb hX hbl hbA hS (vp_in_nI (n := i + 2) (by omega) (by omega)) dL_law_575 ?_
  refine tp_i (y := xs (i + 2)) (by rw [nI_clamp (n := i + 2) (by omega)]) ?_
  refine lv_aload_n hx hb dL_law_576 rfl (lv_at hl 0 rfl) ?_
  refine lv_iload_n hx hb dL_law_577 rfl (lv_at hl 3 rfl) ?_
  refine lv_iconst (v := 3) hx hb dL_law_578 (by decide) ?_
  refine lv_iadd hx hb dL_law_579 ?_
  refine tp_i (y := nI (i + 3)) (nI_add i 3) ?_
  refine va_sld hx hb hX hbl hbA hS (vp_in_nI (n := i + 3) (by omega) (by omega)) dL_law_580 ?_
  refine tp_i (y := xs (i + 3)) (by rw [nI_clamp (n := i + 3) (by omega)]) ?_
  have hFm := free_all (vD_r hD) hS hA
  refine va_calli (va_runV (As := [.int (xs (i + 1)), .int (xs (i + 2)), .int (xs (i + 3))]) (rest := []) ⟨hx, hb, hml, hown, hts⟩ (m_pour l D hm ad cs iv fv gv lc (xs (i + 1)) (xs (i + 2)) (xs (i + 3)) H1.size h3 b3 hM) (cwV 3 hts gL_law_X9_pour rfl rfl rfl (by decide +kernel) ⟨Nat.le_of_ble_eq_true rfl, Nat.le_of_ble_eq_true rfl⟩) ⟨fun a U g mk q => by obtain ⟨q0, q1, qP, qK, qD⟩ := q; exact ⟨q0, q1, qP, va_K.moved (u := U) (U := U.calling g mk a) (Vm.Alike.refl U.vm) qK, qD⟩, va_recv hKm (vP_r hP) (ci := 9) (q0 := 0) rfl rfl, fun U hU hW => ⟨rfl, by rw [hU], by rw [hU]; exact vP_r hP, va_K.moved hW.alike hKm, (vD_r hD).weaken (fun _ _ _ _ => trivial)⟩⟩ rfl rfl hl.1 rfl (lv_room (Nat.le_of_ble_eq_true rfl)) dL_law_581 ⟨by show _ + 0 ≤ 600000; omega, by show _ + 0 ≤ 7302250; omega⟩) hS (fun q _ h => hFm q h) hFm (fun r2 u2 t2 H2 locs2 ht2 hvm2 k2 hB2 hz2 hk2 hS => ?_)
  subst k2
  obtain ⟨f4_, f9_, q0, hP2, hK2, hD2⟩ := hB2
  rw [ht2] at hP2
  obtain ⟨hP, hD⟩ := lj_r hP hD hk2 hFm hP2 hD2
  refine lv_pop hx hb dL_law_584 rfl ?_
  refine lv_goto (tgt := 1269) hx hb dL_law_585 (by decide) ?_
  have X2 : XI ρ (uF (uF fv 4 f4_) 9 f9_) ws1 ty1 ho lc bc rc fc (iv 2) tl := (by rcases X1 with ⟨n1, X1⟩ | ⟨n1, X1⟩ <;> rcases q0 with ⟨n2, -, e2⟩ | ⟨n2, -, e2⟩ <;> first | exact absurd n1 n2 | exact absurd n2 n1 | (rw [e2.1, e2.2]; exact X1) | (rw [e2.1, e2.2, uF_id, uF_id]; exact X1))
  have V2 : NV (uF (uF fv 4 f4_) 9 f9_) lc := (by
    rcases q0 with ⟨n2, -, e2⟩ | ⟨n2, -, e2⟩
    · rw [e2.1, e2.2, uF_id, uF_id]; exact V
    · rw [e2.1, e2.2]; exact nv_pour V b3 n2)
  have hb9 := xi_b X2
  have M2 : MI iv (uF (uF fv 4 f4_) 9 f9_) tl lc bc n14 fc := ⟨h1, hb9.2.2.2.2, h3, hb9.1, h13, b13, h14, b14, h43, b43, hN, hC⟩
  refine W.widen (k := cells + 10) (n := slots + 300) (by omega) (by omega) ?_
  exact KK ws1 ty1 iv (uF (uF fv 4 f4_) 9 f9_) gv _ _ ls ⟨ρ, lc, bc, rc, fc, tl, n14, hKx1, hKm, X2, M2, V2⟩ hP hD hS (lv_sub hl [0, 1, 2, 3] rfl)
set_option maxHeartbeats 8000000 in
set_option maxRecDepth 100000 in
/-- move, on both sides -/
theorem law_10 {p : Program} {l : Launch} {e : Env} {s : State} {m : MethodId} {below : List Frame} {meth : Method} {c : Code} {b L : Nat} {xs : Nat → Int32} (C0 : lw_At p s m meth c b L xs) (i : Nat) (hi : i + 6 ≤ L) (hL : L ≤ 3072) (D : va_G) (adK adV : Nat → Nat) (fo : Option Nat) (hnz : NZ s) (hcz : CZ s) (hsz : SZ adK adV fo (fun q : Nat => s.heap.size ≤ q) s s.heap) (ho hm : Nat) (ad : Nat → Nat) (cs : Nat → ClassId) (iv : Nat → Int32) (fv : Nat → Nat → Int32) (gv : Nat → Int64) (ws : va_W) (tys : List (ClassId × FieldType)) (I0 : LI D s ws tys ho cs iv fv) {H : Heap} {locs : List Loc} (cells slots : Nat) (hc : cells + 10 ≤ 600000) (hs : slots + 300 ≤ 7302250) (hP : va_P D vwCl (ws ++ mw hm ad cs iv fv gv) H) (hD : va_D (fun q : Nat => s.heap.size ≤ q) (ws ++ mw hm ad cs iv fv gv)) (hS : va_S (fun q : Nat => s.heap.size ≤ q) s.heap H locs) {ls : Array Slot} (hl : lv_has ls 4 [(0, .ref b), (1, .ref ho), (2, .ref hm), (3, .int (nI i))]) (KK : ∀ (ws : va_W) (tys : List (ClassId × FieldType)) (iv : Nat → Int32) (fv : Nat → Nat → Int32) (gv : Nat → Int64) (H : Heap) (locs : List Loc) (ls : Array Slot), LI D s ws tys ho cs iv fv → va_P D vwCl (ws ++ mw hm ad cs iv fv gv) H → va_D (fun q : Nat => s.heap.size ≤ q) (ws ++ mw hm ad cs iv fv gv) → va_S (fun q : Nat => s.heap.size ≤ q) s.heap H locs → lv_has ls 4 [(0, .ref b), (1, .ref ho), (2, .ref hm), (3, .int (nI i))] → W p l e room_1 s m #[Value.ref b] below meth c H locs (cells + 10) (slots + 300) (lw_Z below #[Value.ref b] s) (F0 m 1269 ls [])) : W p l e room_1 s m #[Value.ref b] below meth c H locs cells slots (lw_Z below #[Value.ref b] s) (F0 m 588 ls []) := by
  obtain ⟨hx, hb, hr, hml, hown, hts0, hX, hbl, hlocks, hgv⟩ := id C0
  have hts := fun w h => hts0 w (wsL_law_in w h)
  have hA : ∀ q : Nat, s.heap.size ≤ q → (fun q : Nat => s.heap.size ≤ q) q := fun _ h => h
  have hbA : ¬ (fun q : Nat => s.heap.size ≤ q) b := Nat.not_le.mpr hbl
  obtain ⟨ρ, lc, bc, rc, fc, tl, n14, hKx, hKm, X, ⟨h1, b1, h3, b3, h13, b13, h14, b14, h43, b43, hN, hC⟩, V⟩ := I0
  have hM := nv_all V b3
  have hZ := nv_z V
  refine lv_aload_n hx hb dL_law_588 rfl (lv_at hl 1 rfl) ?_
  refine lv_aload_n hx hb dL_law_589 rfl (lv_at hl 0 rfl) ?_
  refine lv_iload_n hx hb dL_law_590 rfl (lv_at hl 3 rfl) ?_
  refine lv_iconst (v := 1) hx hb dL_law_591 (by decide) ?_
  refine lv_iadd hx hb dL_law_592 ?_
  refine tp_i (y := nI (i + 1)) (nI_add i 1) ?_
  refine va_sld hx hb hX hbl hbA hS (vp_in_nI (n := i + 1) (by omega) (by omega)) dL_law_593 ?_
  refine tp_i (y := xs (i + 1)) (by rw [nI_clamp (n := i + 1) (by omega)]) ?_
  refine lv_aload_n hx hb dL_law_594 rfl (lv_at hl 0 rfl) ?_
  refine lv_iload_n hx hb dL_law_595 rfl (lv_at hl 3 rfl) ?_
  refine lv_iconst (v := 2) hx hb dL_law_596 (by decide) ?_
  refine lv_iadd hx hb dL_law_597 ?_
  refine tp_i (y := nI (i + 2)) (nI_add i 2) ?_
  refine va_sld hx hb hX hbl hbA hS (vp_in_nI (n := i + 2) (by omega) (by omega)) dL_law_598 ?_
  refine tp_i (y := xs (i + 2)) (by rw [nI_clamp (n := i + 2) (by omega)]) ?_
  refine lv_aload_n hx hb dL_law_599 rfl (lv_at hl 0 rfl) ?_
  refine lv_iload_n hx hb dL_law_600 rfl (lv_at hl 3 rfl) ?_
  refine lv_iconst (v := 3) hx hb dL_law_601 (by decide) ?_
  refine lv_iadd hx hb dL_law_602 ?_
  refine tp_i (y := nI (i + 3)) (nI_add i 3) ?_
  refine va_sld hx hb hX hbl hbA hS (vp_in_nI (n := i + 3) (by omega) (by omega)) dL_law_603 ?_
  refine tp_i (y := xs (i + 3)) (by rw [nI_clamp (n := i + 3) (by omega)]) ?_
  have hFc := free_all (vD_l hD) hS hA
  obtain ⟨k0, e0⟩ := xi_at X
  refine va_calli (va_runV (As := [.int (xs (i + 1)), .int (xs (i + 2)), .int (xs (i + 3))]) (rest := []) ⟨hx, hb, hml, hown, hts⟩ (h_move l D ρ ws tys fv ho lc bc rc fc (iv 2) tl (xs (i + 1)) (xs (i + 2)) (xs (i + 3)) H.size X V) (cwV 3 hts gL_law_X8_move rfl rfl rfl (by decide +kernel) ⟨Nat.le_of_ble_eq_true rfl, Nat.le_of_ble_eq_true rfl⟩) ⟨fun a U g mk q => by obtain ⟨q0, q1, qP, qK, qD⟩ := q; exact ⟨q0, q1, qP, va_K.moved (u := U) (U := U.calling g mk a) (Vm.Alike.refl U.vm) qK, qD⟩, va_recv hKx (vP_l hP) (ci := 8) (q0 := k0) rfl e0.choose_spec, fun U hU hW => ⟨rfl, by rw [hU], by rw [hU]; exact vP_l hP, va_K.moved hW.alike hKx, (vD_l hD).weaken (fun _ _ _ _ => trivial)⟩⟩ rfl rfl hl.1 rfl (lv_room (Nat.le_of_ble_eq_true rfl)) dL_law_604 ⟨by show cells + 0 ≤ 600000; omega, by show slots + 0 ≤ 7302250; omega⟩) hS (fun q _ h => hFc q h) hFc (fun r1 u1 t1 H1 locs1 ht1 hvm1 k1 hB1 hz1 hk1 hS => ?_)
  obtain ⟨ws1, ty1, -, hP1, hK1, hD1, X1⟩ := hB1
  rw [ht1] at hP1
  have hKx1 := va_K.moved hvm1.symm hK1
  obtain ⟨hP, hD⟩ := lj_l hP hD hk1 hFc hP1 hD1
  refine lv_pop hx hb dL_law_607 rfl ?_
  refine lv_aload_n hx hb dL_law_608 rfl (lv_at hl 2 rfl) ?_
  refine lv_aload_n hx hb dL_law_609 rfl (lv_at hl 0 rfl) ?_
  refine lv_iload_n hx hb dL_law_610 rfl (lv_at hl 3 rfl) ?_
  refine lv_iconst (v := 1) hx hb dL_law_611 (by decide) ?_
  refine lv_iadd hx hb dL_law_612 ?_
  refine tp_i (y := nI (i + 1)) (nI_add i 1) ?_
  refine va_sld hx hb hX hbl hbA hS (vp_in_nI (n := i + 1) (by omega) (by omega)) dL_law_613 ?_
  refine tp_i (y := xs (i + 1)) (by rw [nI_clamp (n := i + 1) (by omega)]) ?_
  refine lv_aload_n hx hb dL_law_614 rfl (lv_at hl 0 rfl) ?_
  refine lv_iload_n hx hb dL_law_615 rfl (lv_at hl 3 rfl) ?_
  refine lv_iconst (v := 2) hx hb dL_law_616 (by decide) ?_
  refine lv_iadd hx hb dL_law_617 ?_
  refine tp_i (y := nI (i + 2)) (nI_add i 2) ?_
  refine va_sld hx hb hX hbl hbA hS (vp_in_nI (n := i + 2) (by omega) (by omega)) dL_law_618 ?_
  refine tp_i (y := xs (i + 2)) (by rw [nI_clamp (n := i + 2) (by omega)]) ?_
  refine lv_aload_n hx hb dL_law_619 rfl (lv_at hl 0 rfl) ?_
  refine lv_iload_n hx hb dL_law_620 rfl (lv_at hl 3 rfl) ?_
  refine lv_iconst (v := 3) hx hb dL_law_621 (by decide) ?_
  refine lv_iadd hx hb dL_law_622 ?_
  refine tp_i (y := nI (i + 3)) (nI_add i 3) ?_
  refine va_sld hx hb hX hbl hbA hS (vp_in_nI (n := i + 3) (by omega) (by omega)) dL_law_623 ?_
  refine tp_i (y := xs (i + 3)) (by rw [nI_clamp (n := i + 3) (by omega)]) ?_
  have hFm := free_all (vD_r hD) hS hA
  refine va_calli (va_runV (As := [.int (xs (i + 1)), .int (xs (i + 2)), .int (xs (i + 3))]) (rest := []) ⟨hx, hb, hml, hown, hts⟩ (m_move l D hm ad cs iv fv gv lc (xs (i + 1)) (xs (i + 2)) (xs (i + 3)) H1.size h3 b3 V) (cwV 3 hts gL_law_X9_move rfl rfl rfl (by decide +kernel) ⟨Nat.le_of_ble_eq_true rfl, Nat.le_of_ble_eq_true rfl⟩) ⟨fun a U g mk q => by obtain ⟨q0, q1, qP, qK, qD⟩ := q; exact ⟨q0, q1, qP, va_K.moved (u := U) (U := U.calling g mk a) (Vm.Alike.refl U.vm) qK, qD⟩, va_recv hKm (vP_r hP) (ci := 9) (q0 := 0) rfl rfl, fun U hU hW => ⟨rfl, by rw [hU], by rw [hU]; exact vP_r hP, va_K.moved hW.alike hKm, (vD_r hD).weaken (fun _ _ _ _ => trivial)⟩⟩ rfl rfl hl.1 rfl (lv_room (Nat.le_of_ble_eq_true rfl)) dL_law_624 ⟨by show _ + 0 ≤ 600000; omega, by show _ + 0 ≤ 7302250; omega⟩) hS (fun q _ h => hFm q h) hFm (fun r2 u2 t2 H2 locs2 ht2 hvm2 k2 hB2 hz2 hk2 hS => ?_)
  subst k2
  obtain ⟨f9_, f10_, f23_, g24_, q0, hP2, hK2, hD2⟩ := hB2
  rw [ht2] at hP2
  obtain ⟨hP, hD⟩ := lj_r hP hD hk2 hFm hP2 hD2
  refine lv_pop hx hb dL_law_627 rfl ?_
  refine lv_goto (tgt := 1269) hx hb dL_law_628 (by decide) ?_
  have X2 : XI ρ (uF (uF (uF fv 9 f9_) 10 f10_) 23 f23_) ws1 ty1 ho lc bc rc fc (iv 2) tl := (by rcases X1 with ⟨n1, X1⟩ | ⟨n1, X1⟩ <;> rcases q0 with ⟨n2, -, e2⟩ | ⟨n2, -, e2⟩ <;> first | exact absurd n1 n2 | exact absurd n2 n1 | (rw [e2.1, e2.2]; exact X1.fvx rfl rfl rfl rfl rfl rfl rfl rfl rfl rfl) | (rw [e2.1, e2.2, uF_id, uF_id]; exact X1.fvx rfl rfl rfl rfl rfl rfl rfl rfl rfl rfl))
  have V2 : NV (uF (uF (uF fv 9 f9_) 10 f10_) 23 f23_) lc := (by
    rcases q0 with ⟨n2, -, e2⟩ | ⟨n2, -, e2⟩
    · rw [e2.1, e2.2, uF_id, uF_id]; exact nv_fv V rfl rfl (fun _ => rfl) (fun _ => rfl)
    · rw [e2.1, e2.2]; exact nv_fv (nv_move V b3 n2) rfl rfl (fun _ => rfl) (fun _ => rfl))
  have hb9 := xi_b X2
  have M2 : MI iv (uF (uF (uF fv 9 f9_) 10 f10_) 23 f23_) tl lc bc n14 fc := ⟨h1, hb9.2.2.2.2, h3, hb9.1, h13, b13, h14, b14, h43, b43, hN, hC⟩
  refine W.widen (k := cells + 10) (n := slots + 300) (by omega) (by omega) ?_
  exact KK ws1 ty1 iv (uF (uF (uF fv 9 f9_) 10 f10_) 23 f23_) g24_ _ _ ls ⟨ρ, lc, bc, rc, fc, tl, n14, hKx1, hKm, X2, M2, V2⟩ hP hD hS (lv_sub hl [0, 1, 2, 3] rfl)
set_option maxHeartbeats 8000000 in
set_option maxRecDepth 100000 in
/-- warm, on both sides -/
theorem law_11 {p : Program} {l : Launch} {e : Env} {s : State} {m : MethodId} {below : List Frame} {meth : Method} {c : Code} {b L : Nat} {xs : Nat → Int32} (C0 : lw_At p s m meth c b L xs) (i : Nat) (hi : i + 6 ≤ L) (hL : L ≤ 3072) (D : va_G) (adK adV : Nat → Nat) (fo : Option Nat) (hnz : NZ s) (hcz : CZ s) (hsz : SZ adK adV fo (fun q : Nat => s.heap.size ≤ q) s s.heap) (ho hm : Nat) (ad : Nat → Nat) (cs : Nat → ClassId) (iv : Nat → Int32) (fv : Nat → Nat → Int32) (gv : Nat → Int64) (ws : va_W) (tys : List (ClassId × FieldType)) (I0 : LI D s ws tys ho cs iv fv) {H : Heap} {locs : List Loc} (cells slots : Nat) (hc : cells + 10 ≤ 600000) (hs : slots + 300 ≤ 7302250) (hP : va_P D vwCl (ws ++ mw hm ad cs iv fv gv) H) (hD : va_D (fun q : Nat => s.heap.size ≤ q) (ws ++ mw hm ad cs iv fv gv)) (hS : va_S (fun q : Nat => s.heap.size ≤ q) s.heap H locs) {ls : Array Slot} (hl : lv_has ls 4 [(0, .ref b), (1, .ref ho), (2, .ref hm), (3, .int (nI i))]) (KK : ∀ (ws : va_W) (tys : List (ClassId × FieldType)) (iv : Nat → Int32) (fv : Nat → Nat → Int32) (gv : Nat → Int64) (H : Heap) (locs : List Loc) (ls : Array Slot), LI D s ws tys ho cs iv fv → va_P D vwCl (ws ++ mw hm ad cs iv fv gv) H → va_D (fun q : Nat => s.heap.size ≤ q) (ws ++ mw hm ad cs iv fv gv) → va_S (fun q : Nat => s.heap.size ≤ q) s.heap H locs → lv_has ls 4 [(0, .ref b), (1, .ref ho), (2, .ref hm), (3, .int (nI i))] → W p l e room_1 s m #[Value.ref b] below meth c H locs (cells + 10) (slots + 300) (lw_Z below #[Value.ref b] s) (F0 m 1269 ls [])) : W p l e room_1 s m #[Value.ref b] below meth c H locs cells slots (lw_Z below #[Value.ref b] s) (F0 m 631 ls []) := by
  obtain ⟨hx, hb, hr, hml, hown, hts0, hX, hbl, hlocks, hgv⟩ := id C0
  have hts := fun w h => hts0 w (wsL_law_in w h)
  have hA : ∀ q : Nat, s.heap.size ≤ q → (fun q : Nat => s.heap.size ≤ q) q := fun _ h => h
  have hbA : ¬ (fun q : Nat => s.heap.size ≤ q) b := Nat.not_le.mpr hbl
  obtain ⟨ρ, lc, bc, rc, fc, tl, n14, hKx, hKm, X, ⟨h1, b1, h3, b3, h13, b13, h14, b14, h43, b43, hN, hC⟩, V⟩ := I0
  have hM := nv_all V b3
  have hZ := nv_z V
  refine lv_aload_n hx hb dL_law_631 rfl (lv_at hl 1 rfl) ?_
  refine lv_aload_n hx hb dL_law_632 rfl (lv_at hl 0 rfl) ?_
  refine lv_iload_n hx hb dL_law_633 rfl (lv_at hl 3 rfl) ?_
  refine lv_iconst (v := 1) hx hb dL_law_634 (by decide) ?_
  refine lv_iadd hx hb dL_law_635 ?_
  refine tp_i (y := nI (i + 1)) (nI_add i 1) ?_
  refine va_sld hx hb hX hbl hbA hS (vp_in_nI (n := i + 1) (by omega) (by omega)) dL_law_636 ?_
  refine tp_i (y := xs (i + 1)) (by rw [nI_clamp (n := i + 1) (by omega)]) ?_
  refine lv_aload_n hx hb dL_law_637 rfl (lv_at hl 0 rfl) ?_
  refine lv_iload_n hx hb dL_law_638 rfl (lv_at hl 3 rfl) ?_
  refine lv_iconst (v := 2) hx hb dL_law_639 (by decide) ?_
  refine lv_iadd hx hb dL_law_640 ?_
  refine tp_i (y := nI (i + 2)) (nI_add i 2) ?_
  refine va_sld hx hb hX hbl hbA hS (vp_in_nI (n := i + 2) (by omega) (by omega)) dL_law_641 ?_
  refine tp_i (y := xs (i + 2)) (by rw [nI_clamp (n := i + 2) (by omega)]) ?_
  have hFc := free_all (vD_l hD) hS hA
  obtain ⟨k0, e0⟩ := xi_at X
  refine va_calli (va_runV (As := [.int (xs (i + 1)), .int (xs (i + 2))]) (rest := []) ⟨hx, hb, hml, hown, hts⟩ (h_warm l D ρ ws tys fv ho lc bc rc fc (iv 2) tl (xs (i + 1)) (xs (i + 2)) H.size X) (cwV 2 hts gL_law_X8_warm rfl rfl rfl (by decide +kernel) ⟨Nat.le_of_ble_eq_true rfl, Nat.le_of_ble_eq_true rfl⟩) ⟨fun a U g mk q => by obtain ⟨q0, q1, qP, qK, qD⟩ := q; exact ⟨q0, q1, qP, va_K.moved (u := U) (U := U.calling g mk a) (Vm.Alike.refl U.vm) qK, qD⟩, va_recv hKx (vP_l hP) (ci := 8) (q0 := k0) rfl e0.choose_spec, fun U hU hW => ⟨rfl, by rw [hU], by rw [hU]; exact vP_l hP, va_K.moved hW.alike hKx, (vD_l hD).weaken (fun _ _ _ _ => trivial)⟩⟩ rfl rfl hl.1 rfl (lv_room (Nat.le_of_ble_eq_true rfl)) dL_law_642 ⟨by show cells + 0 ≤ 600000; omega, by show slots + 0 ≤ 7302250; omega⟩) hS (fun q _ h => hFc q h) hFc (fun r1 u1 t1 H1 locs1 ht1 hvm1 k1 hB1 hz1 hk1 hS => ?_)
  obtain ⟨ws1, ty1, -, hP1, hK1, hD1, X1⟩ := hB1
  rw [ht1] at hP1
  have hKx1 := va_K.moved hvm1.symm hK1
  obtain ⟨hP, hD⟩ := lj_l hP hD hk1 hFc hP1 hD1
  refine lv_pop hx hb dL_law_645 rfl ?_
  refine lv_aload_n hx hb dL_law_646 rfl (lv_at hl 2 rfl) ?_
  refine lv_aload_n hx hb dL_law_647 rfl (lv_at hl 0 rfl) ?_
  refine lv_iload_n hx hb dL_law_648 rfl (lv_at hl 3 rfl) ?_
  refine lv_iconst (v := 1) hx hb dL_law_649 (by decide) ?_
  refine lv_iadd hx hb dL_law_650 ?_
  refine tp_i (y := nI (i + 1)) (nI_add i 1) ?_
  refine va_sld hx hb hX hbl hbA hS (vp_in_nI (n := i + 1) (by omega) (by omega)) dL_law_651 ?_
  refine tp_i (y := xs (i + 1)) (by rw [nI_clamp (n := i + 1) (by omega)]) ?_
  refine lv_aload_n hx hb dL_law_652 rfl (lv_at hl 0 rfl) ?_
  refine lv_iload_n hx hb dL_law_653 rfl (lv_at hl 3 rfl) ?_
  refine lv_iconst (v := 2) hx hb dL_law_654 (by decide) ?_
  refine lv_iadd hx hb dL_law_655 ?_
  refine tp_i (y := nI (i + 2)) (nI_add i 2) ?_
  refine va_sld hx hb hX hbl hbA hS (vp_in_nI (n := i + 2) (by omega) (by omega)) dL_law_656 ?_
  refine tp_i (y := xs (i + 2)) (by rw [nI_clamp (n := i + 2) (by omega)]) ?_
  have hFm := free_all (vD_r hD) hS hA
  refine va_calli (va_runV (As := [.int (xs (i + 1)), .int (xs (i + 2))]) (rest := []) ⟨hx, hb, hml, hown, hts⟩ (m_warm l D hm ad cs iv fv gv lc (xs (i + 1)) (xs (i + 2)) H1.size h3 b3 hM) (cwV 2 hts gL_law_X9_warm rfl rfl rfl (by decide +kernel) ⟨Nat.le_of_ble_eq_true rfl, Nat.le_of_ble_eq_true rfl⟩) ⟨fun a U g mk q => by obtain ⟨q0, q1, qP, qK, qD⟩ := q; exact ⟨q0, q1, qP, va_K.moved (u := U) (U := U.calling g mk a) (Vm.Alike.refl U.vm) qK, qD⟩, va_recv hKm (vP_r hP) (ci := 9) (q0 := 0) rfl rfl, fun U hU hW => ⟨rfl, by rw [hU], by rw [hU]; exact vP_r hP, va_K.moved hW.alike hKm, (vD_r hD).weaken (fun _ _ _ _ => trivial)⟩⟩ rfl rfl hl.1 rfl (lv_room (Nat.le_of_ble_eq_true rfl)) dL_law_657 ⟨by show _ + 0 ≤ 600000; omega, by show _ + 0 ≤ 7302250; omega⟩) hS (fun q _ h => hFm q h) hFm (fun r2 u2 t2 H2 locs2 ht2 hvm2 k2 hB2 hz2 hk2 hS => ?_)
  subst k2
  obtain ⟨f10_, q0, hP2, hK2, hD2⟩ := hB2
  rw [ht2] at hP2
  obtain ⟨hP, hD⟩ := lj_r hP hD hk2 hFm hP2 hD2
  refine lv_pop hx hb dL_law_660 rfl ?_
  refine lv_goto (tgt := 1269) hx hb dL_law_661 (by decide) ?_
  have X2 : XI ρ (uF fv 10 f10_) ws1 ty1 ho lc bc rc fc (iv 2) tl := (by rcases X1 with ⟨n1, X1⟩ | ⟨n1, X1⟩ <;> rcases q0 with ⟨n2, -, e2⟩ | ⟨n2, -, e2⟩ <;> first | exact absurd n1 n2 | exact absurd n2 n1 | (rw [e2]; exact X1) | (rw [e2, uF_id]; exact X1))
  have V2 : NV (uF fv 10 f10_) lc := (nv_fv V rfl rfl (fun _ => rfl) (fun _ => rfl))
  have hb9 := xi_b X2
  have M2 : MI iv (uF fv 10 f10_) tl lc bc n14 fc := ⟨h1, hb9.2.2.2.2, h3, hb9.1, h13, b13, h14, b14, h43, b43, hN, hC⟩
  refine W.widen (k := cells + 10) (n := slots + 300) (by omega) (by omega) ?_
  exact KK ws1 ty1 iv (uF fv 10 f10_) gv _ _ ls ⟨ρ, lc, bc, rc, fc, tl, n14, hKx1, hKm, X2, M2, V2⟩ hP hD hS (lv_sub hl [0, 1, 2, 3] rfl)
set_option maxHeartbeats 8000000 in
set_option maxRecDepth 100000 in
/-- jar, on both sides -/
theorem law_12 {p : Program} {l : Launch} {e : Env} {s : State} {m : MethodId} {below : List Frame} {meth : Method} {c : Code} {b L : Nat} {xs : Nat → Int32} (C0 : lw_At p s m meth c b L xs) (i : Nat) (hi : i + 6 ≤ L) (hL : L ≤ 3072) (D : va_G) (adK adV : Nat → Nat) (fo : Option Nat) (hnz : NZ s) (hcz : CZ s) (hsz : SZ adK adV fo (fun q : Nat => s.heap.size ≤ q) s s.heap) (ho hm : Nat) (ad : Nat → Nat) (cs : Nat → ClassId) (iv : Nat → Int32) (fv : Nat → Nat → Int32) (gv : Nat → Int64) (ws : va_W) (tys : List (ClassId × FieldType)) (I0 : LI D s ws tys ho cs iv fv) {H : Heap} {locs : List Loc} (cells slots : Nat) (hc : cells + 10 ≤ 600000) (hs : slots + 300 ≤ 7302250) (hP : va_P D vwCl (ws ++ mw hm ad cs iv fv gv) H) (hD : va_D (fun q : Nat => s.heap.size ≤ q) (ws ++ mw hm ad cs iv fv gv)) (hS : va_S (fun q : Nat => s.heap.size ≤ q) s.heap H locs) {ls : Array Slot} (hl : lv_has ls 4 [(0, .ref b), (1, .ref ho), (2, .ref hm), (3, .int (nI i))]) (KK : ∀ (ws : va_W) (tys : List (ClassId × FieldType)) (iv : Nat → Int32) (fv : Nat → Nat → Int32) (gv : Nat → Int64) (H : Heap) (locs : List Loc) (ls : Array Slot), LI D s ws tys ho cs iv fv → va_P D vwCl (ws ++ mw hm ad cs iv fv gv) H → va_D (fun q : Nat => s.heap.size ≤ q) (ws ++ mw hm ad cs iv fv gv) → va_S (fun q : Nat => s.heap.size ≤ q) s.heap H locs → lv_has ls 4 [(0, .ref b), (1, .ref ho), (2, .ref hm), (3, .int (nI i))] → W p l e room_1 s m #[Value.ref b] below meth c H locs (cells + 10) (slots + 300) (lw_Z below #[Value.ref b] s) (F0 m 1269 ls [])) : W p l e room_1 s m #[Value.ref b] below meth c H locs cells slots (lw_Z below #[Value.ref b] s) (F0 m 664 ls []) := by
  obtain ⟨hx, hb, hr, hml, hown, hts0, hX, hbl, hlocks, hgv⟩ := id C0
  have hts := fun w h => hts0 w (wsL_law_in w h)
  have hA : ∀ q : Nat, s.heap.size ≤ q → (fun q : Nat => s.heap.size ≤ q) q := fun _ h => h
  have hbA : ¬ (fun q : Nat => s.heap.size ≤ q) b := Nat.not_le.mpr hbl
  obtain ⟨ρ, lc, bc, rc, fc, tl, n14, hKx, hKm, X, ⟨h1, b1, h3, b3, h13, b13, h14, b14, h43, b43, hN, hC⟩, V⟩ := I0
  have hM := nv_all V b3
  have hZ := nv_z V
  refine lv_aload_n hx hb dL_law_664 rfl (lv_at hl 1 rfl) ?_
  refine lv_aload_n hx hb dL_law_665 rfl (lv_at hl 0 rfl) ?_
  refine lv_iload_n hx hb dL_law_666 rfl (lv_at hl 3 rfl) ?_
  refine lv_iconst (v := 1) hx hb dL_law_667 (by decide) ?_
  refine lv_iadd hx hb dL_law_668 ?_
  refine tp_i (y := nI (i + 1)) (nI_add i 1) ?_
  refine va_sld hx hb hX hbl hbA hS (vp_in_nI (n := i + 1) (by omega) (by omega)) dL_law_669 ?_
  refine tp_i (y := xs (i + 1)) (by rw [nI_clamp (n := i + 1) (by omega)]) ?_
  refine lv_aload_n hx hb dL_law_670 rfl (lv_at hl 0 rfl) ?_
  refine lv_iload_n hx hb dL_law_671 rfl (lv_at hl 3 rfl) ?_
  refine lv_iconst (v := 2) hx hb dL_law_672 (by decide) ?_
  refine lv_iadd hx hb dL_law_673 ?_
  refine tp_i (y := nI (i + 2)) (nI_add i 2) ?_
  refine va_sld hx hb hX hbl hbA hS (vp_in_nI (n := i + 2) (by omega) (by omega)) dL_law_674 ?_
  refine tp_i (y := xs (i + 2)) (by rw [nI_clamp (n := i + 2) (by omega)]) ?_
  have hFc := free_all (vD_l hD) hS hA
  obtain ⟨k0, e0⟩ := xi_at X
  refine va_calli (va_runV (As := [.int (xs (i + 1)), .int (xs (i + 2))]) (rest := []) ⟨hx, hb, hml, hown, hts⟩ (h_jar l D ρ ws tys fv ho lc bc rc fc (iv 2) tl (xs (i + 1)) (xs (i + 2)) H.size X V) (cwV 2 hts gL_law_X8_jar rfl rfl rfl (by decide +kernel) ⟨Nat.le_of_ble_eq_true rfl, Nat.le_of_ble_eq_true rfl⟩) ⟨fun a U g mk q => by obtain ⟨q0, q1, qP, qK, qD⟩ := q; exact ⟨q0, q1, qP, va_K.moved (u := U) (U := U.calling g mk a) (Vm.Alike.refl U.vm) qK, qD⟩, va_recv hKx (vP_l hP) (ci := 8) (q0 := k0) rfl e0.choose_spec, fun U hU hW => ⟨rfl, by rw [hU], by rw [hU]; exact vP_l hP, va_K.moved hW.alike hKx, (vD_l hD).weaken (fun _ _ _ _ => trivial)⟩⟩ rfl rfl hl.1 rfl (lv_room (Nat.le_of_ble_eq_true rfl)) dL_law_675 ⟨by show cells + 2 ≤ 600000; omega, by show slots + 45 ≤ 7302250; omega⟩) hS (fun q _ h => hFc q h) hFc (fun r1 u1 t1 H1 locs1 ht1 hvm1 k1 hB1 hz1 hk1 hS => ?_)
  obtain ⟨ws1, ty1, hP1, hK1, hD1, X1⟩ := hB1
  rw [ht1] at hP1
  have hKx1 := va_K.moved hvm1.symm hK1
  obtain ⟨hP, hD⟩ := lj_l hP hD hk1 hFc hP1 hD1
  refine lv_pop hx hb dL_law_678 rfl ?_
  refine lv_aload_n hx hb dL_law_679 rfl (lv_at hl 2 rfl) ?_
  refine lv_aload_n hx hb dL_law_680 rfl (lv_at hl 0 rfl) ?_
  refine lv_iload_n hx hb dL_law_681 rfl (lv_at hl 3 rfl) ?_
  refine lv_iconst (v := 1) hx hb dL_law_682 (by decide) ?_
  refine lv_iadd hx hb dL_law_683 ?_
  refine tp_i (y := nI (i + 1)) (nI_add i 1) ?_
  refine va_sld hx hb hX hbl hbA hS (vp_in_nI (n := i + 1) (by omega) (by omega)) dL_law_684 ?_
  refine tp_i (y := xs (i + 1)) (by rw [nI_clamp (n := i + 1) (by omega)]) ?_
  refine lv_aload_n hx hb dL_law_685 rfl (lv_at hl 0 rfl) ?_
  refine lv_iload_n hx hb dL_law_686 rfl (lv_at hl 3 rfl) ?_
  refine lv_iconst (v := 2) hx hb dL_law_687 (by decide) ?_
  refine lv_iadd hx hb dL_law_688 ?_
  refine tp_i (y := nI (i + 2)) (nI_add i 2) ?_
  refine va_sld hx hb hX hbl hbA hS (vp_in_nI (n := i + 2) (by omega) (by omega)) dL_law_689 ?_
  refine tp_i (y := xs (i + 2)) (by rw [nI_clamp (n := i + 2) (by omega)]) ?_
  have hFm := free_all (vD_r hD) hS hA
  refine va_calli (va_runV (As := [.int (xs (i + 1)), .int (xs (i + 2))]) (rest := []) ⟨hx, hb, hml, hown, hts⟩ (m_jar l D hm ad cs iv fv gv lc bc (xs (i + 1)) (xs (i + 2)) H1.size h3 h13 b3 b13 V) (cwV 2 hts gL_law_X9_jar rfl rfl rfl (by decide +kernel) ⟨Nat.le_of_ble_eq_true rfl, Nat.le_of_ble_eq_true rfl⟩) ⟨fun a U g mk q => by obtain ⟨q0, q1, qP, qK, qD⟩ := q; exact ⟨q0, q1, qP, va_K.moved (u := U) (U := U.calling g mk a) (Vm.Alike.refl U.vm) qK, qD⟩, va_recv hKm (vP_r hP) (ci := 9) (q0 := 0) rfl rfl, fun U hU hW => ⟨rfl, by rw [hU], by rw [hU]; exact vP_r hP, va_K.moved hW.alike hKm, (vD_r hD).weaken (fun _ _ _ _ => trivial)⟩⟩ rfl rfl hl.1 rfl (lv_room (Nat.le_of_ble_eq_true rfl)) dL_law_690 ⟨by show _ + 0 ≤ 600000; omega, by show _ + 0 ≤ 7302250; omega⟩) hS (fun q _ h => hFm q h) hFm (fun r2 u2 t2 H2 locs2 ht2 hvm2 k2 hB2 hz2 hk2 hS => ?_)
  subst k2
  obtain ⟨k13_, f9_, f10_, f23_, g24_, f11_, f12_, q0, q1, hP2, hK2, hD2⟩ := hB2
  rw [ht2] at hP2
  obtain ⟨hP, hD⟩ := lj_r hP hD hk2 hFm hP2 hD2
  refine lv_pop hx hb dL_law_693 rfl ?_
  refine lv_goto (tgt := 1269) hx hb dL_law_694 (by decide) ?_
  obtain ⟨ρ2, X2⟩ : ∃ σ : Nat → Nat, XI σ (uF (uF (uF (uF (uF fv 9 f9_) 10 f10_) 11 f11_) 12 f12_) 23 f23_) ws1 ty1 ho lc k13_ rc fc ((upd iv 13 (nI k13_)) 2) tl := by
    rcases X1 with ⟨n1, X1⟩ | ⟨n1, σ, X1⟩
    · rcases q1 with ⟨n2, -, e3, e9, e10, e11, e12⟩ | ⟨n2, -⟩
      · refine ⟨ρ, ?_⟩
        rw [e3, e9, e10, e11, e12, uF_id, uF_id, uF_id, uF_id]; exact X1.fvx rfl rfl rfl rfl rfl rfl rfl rfl rfl rfl
      · exact absurd n1 n2
    · rcases q1 with ⟨n2, -⟩ | ⟨n2, -, e3, e9, e10, e11, e12⟩
      · exact absurd n2 n1
      · refine ⟨σ, ?_⟩
        rw [e3, e9, e10, e11, e12]; exact X1.fvx rfl rfl rfl rfl rfl rfl rfl rfl rfl rfl
  have V2 : NV (uF (uF (uF (uF (uF fv 9 f9_) 10 f10_) 11 f11_) 12 f12_) 23 f23_) lc := (by
    rcases q1 with ⟨n2, -, e3, e9, e10, e11, e12⟩ | ⟨n2, -, e3, e9, e10, e11, e12⟩
    · rw [e9, e10, e11, e12, uF_id, uF_id, uF_id, uF_id]; exact nv_fv V rfl rfl (fun _ => rfl) (fun _ => rfl)
    · rw [e9, e10, e11, e12]; exact nv_fv (nv_jar (dn := iv 2) V b3 b13 n2) rfl rfl (fun _ => rfl) (fun _ => rfl))
  have hb9 := xi_b X2
  have M2 : MI (upd iv 13 (nI k13_)) (uF (uF (uF (uF (uF fv 9 f9_) 10 f10_) 11 f11_) 12 f12_) 23 f23_) tl lc k13_ n14 fc := ⟨h1, hb9.2.2.2.2, h3, hb9.1, rfl, q0, h14, b14, h43, b43, hN, hC⟩
  refine W.widen (k := cells + 10) (n := slots + 300) (by omega) (by omega) ?_
  exact KK ws1 ty1 (upd iv 13 (nI k13_)) (uF (uF (uF (uF (uF fv 9 f9_) 10 f10_) 11 f11_) 12 f12_) 23 f23_) g24_ _ _ ls ⟨ρ2, lc, k13_, rc, fc, tl, n14, hKx1, hKm, X2, M2, V2⟩ hP hD hS (lv_sub hl [0, 1, 2, 3] rfl)
set_option maxHeartbeats 8000000 in
set_option maxRecDepth 100000 in
/-- spill, on both sides -/
theorem law_13 {p : Program} {l : Launch} {e : Env} {s : State} {m : MethodId} {below : List Frame} {meth : Method} {c : Code} {b L : Nat} {xs : Nat → Int32} (C0 : lw_At p s m meth c b L xs) (i : Nat) (hi : i + 6 ≤ L) (hL : L ≤ 3072) (D : va_G) (adK adV : Nat → Nat) (fo : Option Nat) (hnz : NZ s) (hcz : CZ s) (hsz : SZ adK adV fo (fun q : Nat => s.heap.size ≤ q) s s.heap) (ho hm : Nat) (ad : Nat → Nat) (cs : Nat → ClassId) (iv : Nat → Int32) (fv : Nat → Nat → Int32) (gv : Nat → Int64) (ws : va_W) (tys : List (ClassId × FieldType)) (I0 : LI D s ws tys ho cs iv fv) {H : Heap} {locs : List Loc} (cells slots : Nat) (hc : cells + 10 ≤ 600000) (hs : slots + 300 ≤ 7302250) (hP : va_P D vwCl (ws ++ mw hm ad cs iv fv gv) H) (hD : va_D (fun q : Nat => s.heap.size ≤ q) (ws ++ mw hm ad cs iv fv gv)) (hS : va_S (fun q : Nat => s.heap.size ≤ q) s.heap H locs) {ls : Array Slot} (hl : lv_has ls 4 [(0, .ref b), (1, .ref ho), (2, .ref hm), (3, .int (nI i))]) (KK : ∀ (ws : va_W) (tys : List (ClassId × FieldType)) (iv : Nat → Int32) (fv : Nat → Nat → Int32) (gv : Nat → Int64) (H : Heap) (locs : List Loc) (ls : Array Slot), LI D s ws tys ho cs iv fv → va_P D vwCl (ws ++ mw hm ad cs iv fv gv) H → va_D (fun q : Nat => s.heap.size ≤ q) (ws ++ mw hm ad cs iv fv gv) → va_S (fun q : Nat => s.heap.size ≤ q) s.heap H locs → lv_has ls 4 [(0, .ref b), (1, .ref ho), (2, .ref hm), (3, .int (nI i))] → W p l e room_1 s m #[Value.ref b] below meth c H locs (cells + 10) (slots + 300) (lw_Z below #[Value.ref b] s) (F0 m 1269 ls [])) : W p l e room_1 s m #[Value.ref b] below meth c H locs cells slots (lw_Z below #[Value.ref b] s) (F0 m 697 ls []) := by
  obtain ⟨hx, hb, hr, hml, hown, hts0, hX, hbl, hlocks, hgv⟩ := id C0
  have hts := fun w h => hts0 w (wsL_law_in w h)
  have hA : ∀ q : Nat, s.heap.size ≤ q → (fun q : Nat => s.heap.size ≤ q) q := fun _ h => h
  have hbA : ¬ (fun q : Nat => s.heap.size ≤ q) b := Nat.not_le.mpr hbl
  obtain ⟨ρ, lc, bc, rc, fc, tl, n14, hKx, hKm, X, ⟨h1, b1, h3, b3, h13, b13, h14, b14, h43, b43, hN, hC⟩, V⟩ := I0
  have hM := nv_all V b3
  have hZ := nv_z V
  refine lv_aload_n hx hb dL_law_697 rfl (lv_at hl 1 rfl) ?_
  refine lv_aload_n hx hb dL_law_698 rfl (lv_at hl 0 rfl) ?_
  refine lv_iload_n hx hb dL_law_699 rfl (lv_at hl 3 rfl) ?_
  refine lv_iconst (v := 1) hx hb dL_law_700 (by decide) ?_
  refine lv_iadd hx hb dL_law_701 ?_
  refine tp_i (y := nI (i + 1)) (nI_add i 1) ?_
  refine va_sld hx hb hX hbl hbA hS (vp_in_nI (n := i + 1) (by omega) (by omega)) dL_law_702 ?_
  refine tp_i (y := xs (i + 1)) (by rw [nI_clamp (n := i + 1) (by omega)]) ?_
  refine lv_aload_n hx hb dL_law_703 rfl (lv_at hl 0 rfl) ?_
  refine lv_iload_n hx hb dL_law_704 rfl (lv_at hl 3 rfl) ?_
  refine lv_iconst (v := 2) hx hb dL_law_705 (by decide) ?_
  refine lv_iadd hx hb dL_law_706 ?_
  refine tp_i (y := nI (i + 2)) (nI_add i 2) ?_
  refine va_sld hx hb hX hbl hbA hS (vp_in_nI (n := i + 2) (by omega) (by omega)) dL_law_707 ?_
  refine tp_i (y := xs (i + 2)) (by rw [nI_clamp (n := i + 2) (by omega)]) ?_
  have hFc := free_all (vD_l hD) hS hA
  obtain ⟨k0, e0⟩ := xi_at X
  refine va_calli (va_runV (As := [.int (xs (i + 1)), .int (xs (i + 2))]) (rest := []) ⟨hx, hb, hml, hown, hts⟩ (h_spill l D ρ ws tys fv ho lc bc rc fc (iv 2) tl (xs (i + 1)) (xs (i + 2)) H.size X V) (cwV 2 hts gL_law_X8_spill rfl rfl rfl (by decide +kernel) ⟨Nat.le_of_ble_eq_true rfl, Nat.le_of_ble_eq_true rfl⟩) ⟨fun a U g mk q => by obtain ⟨q0, q1, qP, qK, qD⟩ := q; exact ⟨q0, q1, qP, va_K.moved (u := U) (U := U.calling g mk a) (Vm.Alike.refl U.vm) qK, qD⟩, va_recv hKx (vP_l hP) (ci := 8) (q0 := k0) rfl e0.choose_spec, fun U hU hW => ⟨rfl, by rw [hU], by rw [hU]; exact vP_l hP, va_K.moved hW.alike hKx, (vD_l hD).weaken (fun _ _ _ _ => trivial)⟩⟩ rfl rfl hl.1 rfl (lv_room (Nat.le_of_ble_eq_true rfl)) dL_law_708 ⟨by show cells + 0 ≤ 600000; omega, by show slots + 0 ≤ 7302250; omega⟩) hS (fun q _ h => hFc q h) hFc (fun r1 u1 t1 H1 locs1 ht1 hvm1 k1 hB1 hz1 hk1 hS => ?_)
  obtain ⟨ws1, ty1, -, hP1, hK1, hD1, X1⟩ := hB1
  rw [ht1] at hP1
  have hKx1 := va_K.moved hvm1.symm hK1
  obtain ⟨hP, hD⟩ := lj_l hP hD hk1 hFc hP1 hD1
  refine lv_pop hx hb dL_law_711 rfl ?_
  refine lv_aload_n hx hb dL_law_712 rfl (lv_at hl 2 rfl) ?_
  refine lv_aload_n hx hb dL_law_713 rfl (lv_at hl 0 rfl) ?_
  refine lv_iload_n hx hb dL_law_714 rfl (lv_at hl 3 rfl) ?_
  refine lv_iconst (v := 1) hx hb dL_law_715 (by decide) ?_
  refine lv_iadd hx hb dL_law_716 ?_
  refine tp_i (y := nI (i + 1)) (nI_add i 1) ?_
  refine va_sld hx hb hX hbl hbA hS (vp_in_nI (n := i + 1) (by omega) (by omega)) dL_law_717 ?_
  refine tp_i (y := xs (i + 1)) (by rw [nI_clamp (n := i + 1) (by omega)]) ?_
  refine lv_aload_n hx hb dL_law_718 rfl (lv_at hl 0 rfl) ?_
  refine lv_iload_n hx hb dL_law_719 rfl (lv_at hl 3 rfl) ?_
  refine lv_iconst (v := 2) hx hb dL_law_720 (by decide) ?_
  refine lv_iadd hx hb dL_law_721 ?_
  refine tp_i (y := nI (i + 2)) (nI_add i 2) ?_
  refine va_sld hx hb hX hbl hbA hS (vp_in_nI (n := i + 2) (by omega) (by omega)) dL_law_722 ?_
  refine tp_i (y := xs (i + 2)) (by rw [nI_clamp (n := i + 2) (by omega)]) ?_
  have hFm := free_all (vD_r hD) hS hA
  refine va_calli (va_runV (As := [.int (xs (i + 1)), .int (xs (i + 2))]) (rest := []) ⟨hx, hb, hml, hown, hts⟩ (m_spill l D hm ad cs iv fv gv lc (xs (i + 1)) (xs (i + 2)) H1.size h3 b3 V) (cwV 2 hts gL_law_X9_spill rfl rfl rfl (by decide +kernel) ⟨Nat.le_of_ble_eq_true rfl, Nat.le_of_ble_eq_true rfl⟩) ⟨fun a U g mk q => by obtain ⟨q0, q1, qP, qK, qD⟩ := q; exact ⟨q0, q1, qP, va_K.moved (u := U) (U := U.calling g mk a) (Vm.Alike.refl U.vm) qK, qD⟩, va_recv hKm (vP_r hP) (ci := 9) (q0 := 0) rfl rfl, fun U hU hW => ⟨rfl, by rw [hU], by rw [hU]; exact vP_r hP, va_K.moved hW.alike hKm, (vD_r hD).weaken (fun _ _ _ _ => trivial)⟩⟩ rfl rfl hl.1 rfl (lv_room (Nat.le_of_ble_eq_true rfl)) dL_law_723 ⟨by show _ + 0 ≤ 600000; omega, by show _ + 0 ≤ 7302250; omega⟩) hS (fun q _ h => hFm q h) hFm (fun r2 u2 t2 H2 locs2 ht2 hvm2 k2 hB2 hz2 hk2 hS => ?_)
  subst k2
  obtain ⟨f9_, f10_, f23_, g24_, q0, hP2, hK2, hD2⟩ := hB2
  rw [ht2] at hP2
  obtain ⟨hP, hD⟩ := lj_r hP hD hk2 hFm hP2 hD2
  refine lv_pop hx hb dL_law_726 rfl ?_
  refine lv_goto (tgt := 1269) hx hb dL_law_727 (by decide) ?_
  have X2 : XI ρ (uF (uF (uF fv 9 f9_) 10 f10_) 23 f23_) ws1 ty1 ho lc bc rc fc (iv 2) tl := (by rcases X1 with ⟨n1, X1⟩ | ⟨n1, X1⟩ <;> rcases q0 with ⟨n2, -, e2⟩ | ⟨n2, -, e2⟩ <;> first | exact absurd n1 n2 | exact absurd n2 n1 | (rw [e2.1, e2.2]; exact X1.fvx rfl rfl rfl rfl rfl rfl rfl rfl rfl rfl) | (rw [e2.1, e2.2, uF_id, uF_id]; exact X1.fvx rfl rfl rfl rfl rfl rfl rfl rfl rfl rfl))
  have V2 : NV (uF (uF (uF fv 9 f9_) 10 f10_) 23 f23_) lc := (by
    rcases q0 with ⟨n2, -, e2⟩ | ⟨n2, -, e2⟩
    · rw [e2.1, e2.2, uF_id, uF_id]; exact nv_fv V rfl rfl (fun _ => rfl) (fun _ => rfl)
    · rw [e2.1, e2.2]; exact nv_fv (nv_spill V b3 n2) rfl rfl (fun _ => rfl) (fun _ => rfl))
  have hb9 := xi_b X2
  have M2 : MI iv (uF (uF (uF fv 9 f9_) 10 f10_) 23 f23_) tl lc bc n14 fc := ⟨h1, hb9.2.2.2.2, h3, hb9.1, h13, b13, h14, b14, h43, b43, hN, hC⟩
  refine W.widen (k := cells + 10) (n := slots + 300) (by omega) (by omega) ?_
  exact KK ws1 ty1 iv (uF (uF (uF fv 9 f9_) 10 f10_) 23 f23_) g24_ _ _ ls ⟨ρ, lc, bc, rc, fc, tl, n14, hKx1, hKm, X2, M2, V2⟩ hP hD hS (lv_sub hl [0, 1, 2, 3] rfl)
set_option maxHeartbeats 8000000 in
set_option maxRecDepth 100000 in
/-- holds, on both sides -/
theorem law_14 {p : Program} {l : Launch} {e : Env} {s : State} {m : MethodId} {below : List Frame} {meth : Method} {c : Code} {b L : Nat} {xs : Nat → Int32} (C0 : lw_At p s m meth c b L xs) (i : Nat) (hi : i + 6 ≤ L) (hL : L ≤ 3072) (D : va_G) (adK adV : Nat → Nat) (fo : Option Nat) (hnz : NZ s) (hcz : CZ s) (hsz : SZ adK adV fo (fun q : Nat => s.heap.size ≤ q) s s.heap) (ho hm : Nat) (ad : Nat → Nat) (cs : Nat → ClassId) (iv : Nat → Int32) (fv : Nat → Nat → Int32) (gv : Nat → Int64) (ws : va_W) (tys : List (ClassId × FieldType)) (I0 : LI D s ws tys ho cs iv fv) {H : Heap} {locs : List Loc} (cells slots : Nat) (hc : cells + 10 ≤ 600000) (hs : slots + 300 ≤ 7302250) (hP : va_P D vwCl (ws ++ mw hm ad cs iv fv gv) H) (hD : va_D (fun q : Nat => s.heap.size ≤ q) (ws ++ mw hm ad cs iv fv gv)) (hS : va_S (fun q : Nat => s.heap.size ≤ q) s.heap H locs) {ls : Array Slot} (hl : lv_has ls 4 [(0, .ref b), (1, .ref ho), (2, .ref hm), (3, .int (nI i))]) (KK : ∀ (ws : va_W) (tys : List (ClassId × FieldType)) (iv : Nat → Int32) (fv : Nat → Nat → Int32) (gv : Nat → Int64) (H : Heap) (locs : List Loc) (ls : Array Slot), LI D s ws tys ho cs iv fv → va_P D vwCl (ws ++ mw hm ad cs iv fv gv) H → va_D (fun q : Nat => s.heap.size ≤ q) (ws ++ mw hm ad cs iv fv gv) → va_S (fun q : Nat => s.heap.size ≤ q) s.heap H locs → lv_has ls 4 [(0, .ref b), (1, .ref ho), (2, .ref hm), (3, .int (nI i))] → W p l e room_1 s m #[Value.ref b] below meth c H locs (cells + 10) (slots + 300) (lw_Z below #[Value.ref b] s) (F0 m 1269 ls [])) : W p l e room_1 s m #[Value.ref b] below meth c H locs cells slots (lw_Z below #[Value.ref b] s) (F0 m 730 ls []) := by
  obtain ⟨hx, hb, hr, hml, hown, hts0, hX, hbl, hlocks, hgv⟩ := id C0
  have hts := fun w h => hts0 w (wsL_law_in w h)
  have hA : ∀ q : Nat, s.heap.size ≤ q → (fun q : Nat => s.heap.size ≤ q) q := fun _ h => h
  have hbA : ¬ (fun q : Nat => s.heap.size ≤ q) b := Nat.not_le.mpr hbl
  obtain ⟨ρ, lc, bc, rc, fc, tl, n14, hKx, hKm, X, ⟨h1, b1, h3, b3, h13, b13, h14, b14, h43, b43, hN, hC⟩, V⟩ := I0
  have hM := nv_all V b3
  have hZ := nv_z V
  refine lv_aload_n hx hb dL_law_730 rfl (lv_at hl 1 rfl) ?_
  refine lv_aload_n hx hb dL_law_731 rfl (lv_at hl 0 rfl) ?_
  refine lv_iload_n hx hb dL_law_732 rfl (lv_at hl 3 rfl) ?_
  refine lv_iconst (v := 1) hx hb dL_law_733 (by decide) ?_
  refine lv_iadd hx hb dL_law_734 ?_
  refine tp_i (y := nI (i + 1)) (nI_add i 1) ?_
  refine va_sld hx hb hX hbl hbA hS (vp_in_nI (n := i + 1) (by omega) (by omega)) dL_law_735 ?_
  refine tp_i (y := xs (i + 1)) (by rw [nI_clamp (n := i + 1) (by omega)]) ?_
  refine lv_aload_n hx hb dL_law_736 rfl (lv_at hl 0 rfl) ?_
  refine lv_iload_n hx hb dL_law_737 rfl (lv_at hl 3 rfl) ?_
  refine lv_iconst (v := 2) hx hb dL_law_738 (by decide) ?_
  refine lv_iadd hx hb dL_law_739 ?_
  refine tp_i (y := nI (i + 2)) (nI_add i 2) ?_
  refine va_sld hx hb hX hbl hbA hS (vp_in_nI (n := i + 2) (by omega) (by omega)) dL_law_740 ?_
  refine tp_i (y := xs (i + 2)) (by rw [nI_clamp (n := i + 2) (by omega)]) ?_
  refine lv_aload_n hx hb dL_law_741 rfl (lv_at hl 0 rfl) ?_
  refine lv_iload_n hx hb dL_law_742 rfl (lv_at hl 3 rfl) ?_
  refine lv_iconst (v := 3) hx hb dL_law_743 (by decide) ?_
  refine lv_iadd hx hb dL_law_744 ?_
  refine tp_i (y := nI (i + 3)) (nI_add i 3) ?_
  refine va_sld hx hb hX hbl hbA hS (vp_in_nI (n := i + 3) (by omega) (by omega)) dL_law_745 ?_
  refine tp_i (y := xs (i + 3)) (by rw [nI_clamp (n := i + 3) (by omega)]) ?_
  have hFc := free_all (vD_l hD) hS hA
  obtain ⟨k0, e0⟩ := xi_at X
  refine va_calli (va_runV (As := [.int (xs (i + 1)), .int (xs (i + 2)), .int (xs (i + 3))]) (rest := []) ⟨hx, hb, hml, hown, hts⟩ (h_holds l D ρ ws tys fv ho lc bc rc fc (iv 2) tl (xs (i + 1)) (xs (i + 2)) (xs (i + 3)) H.size X) (cwV 3 hts gL_law_X8_holds rfl rfl rfl (by decide +kernel) ⟨Nat.le_of_ble_eq_true rfl, Nat.le_of_ble_eq_true rfl⟩) ⟨fun a U g mk q => by obtain ⟨q0, q1, qP, qK, qD⟩ := q; exact ⟨q0, q1, qP, va_K.moved (u := U) (U := U.calling g mk a) (Vm.Alike.refl U.vm) qK, qD⟩, va_recv hKx (vP_l hP) (ci := 8) (q0 := k0) rfl e0.choose_spec, fun U hU hW => ⟨rfl, by rw [hU], by rw [hU]; exact vP_l hP, va_K.moved hW.alike hKx, (vD_l hD).weaken (fun _ _ _ _ => trivial)⟩⟩ rfl rfl hl.1 rfl (lv_room (Nat.le_of_ble_eq_true rfl)) dL_law_746 ⟨by show cells + 0 ≤ 600000; omega, by show slots + 0 ≤ 7302250; omega⟩) hS (fun q _ h => hFc q h) hFc (fun r1 u1 t1 H1 locs1 ht1 hvm1 k1 hB1 hz1 hk1 hS => ?_)
  obtain ⟨ws1, ty1, -, hP1, hK1, hD1, X1⟩ := hB1
  rw [ht1] at hP1
  have hKx1 := va_K.moved hvm1.symm hK1
  obtain ⟨hP, hD⟩ := lj_l hP hD hk1 hFc hP1 hD1
  refine lv_pop hx hb dL_law_749 rfl ?_
  refine lv_aload_n hx hb dL_law_750 rfl (lv_at hl 2 rfl) ?_
  refine lv_aload_n hx hb dL_law_751 rfl (lv_at hl 0 rfl) ?_
  refine lv_iload_n hx hb dL_law_752 rfl (lv_at hl 3 rfl) ?_
  refine lv_iconst (v := 1) hx hb dL_law_753 (by decide) ?_
  refine lv_iadd hx hb dL_law_754 ?_
  refine tp_i (y := nI (i + 1)) (nI_add i 1) ?_
  refine va_sld hx hb hX hbl hbA hS (vp_in_nI (n := i + 1) (by omega) (by omega)) dL_law_755 ?_
  refine tp_i (y := xs (i + 1)) (by rw [nI_clamp (n := i + 1) (by omega)]) ?_
  refine lv_aload_n hx hb dL_law_756 rfl (lv_at hl 0 rfl) ?_
  refine lv_iload_n hx hb dL_law_757 rfl (lv_at hl 3 rfl) ?_
  refine lv_iconst (v := 2) hx hb dL_law_758 (by decide) ?_
  refine lv_iadd hx hb dL_law_759 ?_
  refine tp_i (y := nI (i + 2)) (nI_add i 2) ?_
  refine va_sld hx hb hX hbl hbA hS (vp_in_nI (n := i + 2) (by omega) (by omega)) dL_law_760 ?_
  refine tp_i (y := xs (i + 2)) (by rw [nI_clamp (n := i + 2) (by omega)]) ?_
  refine lv_aload_n hx hb dL_law_761 rfl (lv_at hl 0 rfl) ?_
  refine lv_iload_n hx hb dL_law_762 rfl (lv_at hl 3 rfl) ?_
  refine lv_iconst (v := 3) hx hb dL_law_763 (by decide) ?_
  refine lv_iadd hx hb dL_law_764 ?_
  refine tp_i (y := nI (i + 3)) (nI_add i 3) ?_
  refine va_sld hx hb hX hbl hbA hS (vp_in_nI (n := i + 3) (by omega) (by omega)) dL_law_765 ?_
  refine tp_i (y := xs (i + 3)) (by rw [nI_clamp (n := i + 3) (by omega)]) ?_
  refine vp_callSi (W.runV (As := [.int (xs (i + 1)), .int (xs (i + 2)), .int (xs (i + 3))]) (rest := []) ⟨hx, hb, hml, hown, hts⟩ (m_holds l D hm ad cs iv fv gv lc bc (xs (i + 1)) (xs (i + 2)) (xs (i + 3)) h3 h13 b3 b13 hM hZ) (cwV 3 hts gL_law_X9_holds rfl rfl rfl (by decide +kernel) ⟨Nat.le_of_ble_eq_true rfl, Nat.le_of_ble_eq_true rfl⟩) ⟨fun a U g mk q => ⟨q.1, q.2.1, va_K.moved (u := U) (U := U.calling g mk a) (Vm.Alike.refl U.vm) q.2.2⟩, va_recv hKm (vP_r hP) (ci := 9) (q0 := 0) rfl rfl, fun U hU hW => ⟨rfl, by rw [hU]; exact vP_r hP, va_K.moved hW.alike hKm⟩⟩ rfl rfl hl.1 rfl (lv_room (Nat.le_of_ble_eq_true rfl)) dL_law_766 ⟨by show _ + 0 ≤ 600000; omega, by show _ + 0 ≤ 7302250; omega⟩) (fun r2 k2 => ?_)
  refine lv_pop hx hb dL_law_769 rfl ?_
  refine lv_goto (tgt := 1269) hx hb dL_law_770 (by decide) ?_
  have X2 : XI ρ fv ws1 ty1 ho lc bc rc fc (iv 2) tl := (X1.fvx rfl rfl rfl rfl rfl rfl rfl rfl rfl rfl)
  have V2 : NV fv lc := (nv_fv V rfl rfl (fun _ => rfl) (fun _ => rfl))
  have hb9 := xi_b X2
  have M2 : MI iv fv tl lc bc n14 fc := ⟨h1, hb9.2.2.2.2, h3, hb9.1, h13, b13, h14, b14, h43, b43, hN, hC⟩
  refine W.widen (k := cells + 10) (n := slots + 300) (by omega) (by omega) ?_
  exact KK ws1 ty1 iv fv gv _ _ ls ⟨ρ, lc, bc, rc, fc, tl, n14, hKx1, hKm, X2, M2, V2⟩ hP hD hS (lv_sub hl [0, 1, 2, 3] rfl)
