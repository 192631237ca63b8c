set_option maxHeartbeats 8000000 in
set_option maxRecDepth 100000 in
/-- part, on both sides -/
theorem law_15 {p : Program} {l : Launch} {e : Env} {s : State} {m : MethodId} {below : List Frame} {meth : Method} {c : Code} {b L : Nat} {xs : Nat → Int32} (C0 : lw_At p s m meth c b L xs) (i : Nat) (hi : i + 6 ≤ L) (hL : L ≤ 3072) (D : va_G) (adK adV : Nat → Nat) (fo : Option Nat) (hnz : NZ s) (hcz : CZ s) (hsz : SZ adK adV fo (fun q : Nat => s.heap.size ≤ q) s s.heap) (ho hm : Nat) (ad : Nat → Nat) (cs : Nat → ClassId) (iv : Nat → Int32) (fv : Nat → Nat → Int32) (gv : Nat → Int64) (ws : va_W) (tys : List (ClassId × FieldType)) (I0 : LI D s ws tys ho cs iv fv) {H : Heap} {locs : List Loc} (cells slots : Nat) (hc : cells + 10 ≤ 600000) (hs : slots + 300 ≤ 7302250) (hP : va_P D vwCl (ws ++ mw hm ad cs iv fv gv) H) (hD : va_D (fun q : Nat => s.heap.size ≤ q) (ws ++ mw hm ad cs iv fv gv)) (hS : va_S (fun q : Nat => s.heap.size ≤ q) s.heap H locs) {ls : Array Slot} (hl : lv_has ls 4 [(0, .ref b), (1, .ref ho), (2, .ref hm), (3, .int (nI i))]) (KK : ∀ (ws : va_W) (tys : List (ClassId × FieldType)) (iv : Nat → Int32) (fv : Nat → Nat → Int32) (gv : Nat → Int64) (H : Heap) (locs : List Loc) (ls : Array Slot), LI D s ws tys ho cs iv fv → va_P D vwCl (ws ++ mw hm ad cs iv fv gv) H → va_D (fun q : Nat => s.heap.size ≤ q) (ws ++ mw hm ad cs iv fv gv) → va_S (fun q : Nat => s.heap.size ≤ q) s.heap H locs → lv_has ls 4 [(0, .ref b), (1, .ref ho), (2, .ref hm), (3, .int (nI i))] → W p l e room_1 s m #[Value.ref b] below meth c H locs (cells + 10) (slots + 300) (lw_Z below #[Value.ref b] s) (F0 m 1269 ls [])) : W p l e room_1 s m #[Value.ref b] below meth c H locs cells slots (lw_Z below #[Value.ref b] s) (F0 m 773 ls []) := by
  obtain ⟨hx, hb, hr, hml, hown, hts0, hX, hbl, hlocks, hgv⟩ := id C0
  have hts := fun w h => hts0 w (wsL_law_in w h)
  have hA : ∀ q : Nat, s.heap.size ≤ q → (fun q : Nat => s.heap.size ≤ q) q := fun _ h => h
  have hbA : ¬ (fun q : Nat => s.heap.size ≤ q) b := Nat.not_le.mpr hbl
  obtain ⟨ρ, lc, bc, rc, fc, tl, n14, hKx, hKm, X, ⟨h1, b1, h3, b3, h13, b13, h14, b14, h43, b43, hN, hC⟩, V⟩ := I0
  have hM := nv_all V b3
  have hZ := nv_z V
  refine lv_aload_n hx hb dL_law_773 rfl (lv_at hl 1 rfl) ?_
  refine lv_aload_n hx hb dL_law_774 rfl (lv_at hl 0 rfl) ?_
  refine lv_iload_n hx hb dL_law_775 rfl (lv_at hl 3 rfl) ?_
  refine lv_iconst (v := 1) hx hb dL_law_776 (by decide) ?_
  refine lv_iadd hx hb dL_law_777 ?_
  refine tp_i (y := nI (i + 1)) (nI_add i 1) ?_
  refine va_sld hx hb hX hbl hbA hS (vp_in_nI (n := i + 1) (by omega) (by omega)) dL_law_778 ?_
  refine tp_i (y := xs (i + 1)) (by rw [nI_clamp (n := i + 1) (by omega)]) ?_
  refine lv_aload_n hx hb dL_law_779 rfl (lv_at hl 0 rfl) ?_
  refine lv_iload_n hx hb dL_law_780 rfl (lv_at hl 3 rfl) ?_
  refine lv_iconst (v := 2) hx hb dL_law_781 (by decide) ?_
  refine lv_iadd hx hb dL_law_782 ?_
  refine tp_i (y := nI (i + 2)) (nI_add i 2) ?_
  refine va_sld hx hb hX hbl hbA hS (vp_in_nI (n := i + 2) (by omega) (by omega)) dL_law_783 ?_
  refine tp_i (y := xs (i + 2)) (by rw [nI_clamp (n := i + 2) (by omega)]) ?_
  refine lv_aload_n hx hb dL_law_784 rfl (lv_at hl 0 rfl) ?_
  refine lv_iload_n hx hb dL_law_785 rfl (lv_at hl 3 rfl) ?_
  refine lv_iconst (v := 3) hx hb dL_law_786 (by decide) ?_
  refine lv_iadd hx hb dL_law_787 ?_
  refine tp_i (y := nI (i + 3)) (nI_add i 3) ?_
  refine va_sld hx hb hX hbl hbA hS (vp_in_nI (n := i + 3) (by omega) (by omega)) dL_law_788 ?_
  refine tp_i (y := xs (i + 3)) (by rw [nI_clamp (n := i + 3) (by omega)]) ?_
  have hFc := free_all (vD_l hD) hS hA
  obtain ⟨k0, e0⟩ := xi_at X
  refine va_calli (va_runV (As := [.int (xs (i + 1)), .int (xs (i + 2)), .int (xs (i + 3))]) (rest := []) ⟨hx, hb, hml, hown, hts⟩ (h_part l D ρ ws tys fv ho lc bc rc fc (iv 2) tl (xs (i + 1)) (xs (i + 2)) (xs (i + 3)) H.size X) (cwV 3 hts gL_law_X8_part rfl rfl rfl (by decide +kernel) ⟨Nat.le_of_ble_eq_true rfl, Nat.le_of_ble_eq_true rfl⟩) ⟨fun a U g mk q => by obtain ⟨q0, q1, qP, qK, qD⟩ := q; exact ⟨q0, q1, qP, va_K.moved (u := U) (U := U.calling g mk a) (Vm.Alike.refl U.vm) qK, qD⟩, va_recv hKx (vP_l hP) (ci := 8) (q0 := k0) rfl e0.choose_spec, fun U hU hW => ⟨rfl, by rw [hU], by rw [hU]; exact vP_l hP, va_K.moved hW.alike hKx, (vD_l hD).weaken (fun _ _ _ _ => trivial)⟩⟩ rfl rfl hl.1 rfl (lv_room (Nat.le_of_ble_eq_true rfl)) dL_law_789 ⟨by show cells + 0 ≤ 600000; omega, by show slots + 0 ≤ 7302250; omega⟩) hS (fun q _ h => hFc q h) hFc (fun r1 u1 t1 H1 locs1 ht1 hvm1 k1 hB1 hz1 hk1 hS => ?_)
  obtain ⟨ws1, ty1, -, hP1, hK1, hD1, X1⟩ := hB1
  rw [ht1] at hP1
  have hKx1 := va_K.moved hvm1.symm hK1
  obtain ⟨hP, hD⟩ := lj_l hP hD hk1 hFc hP1 hD1
  refine lv_pop hx hb dL_law_792 rfl ?_
  refine lv_aload_n hx hb dL_law_793 rfl (lv_at hl 2 rfl) ?_
  refine lv_aload_n hx hb dL_law_794 rfl (lv_at hl 0 rfl) ?_
  refine lv_iload_n hx hb dL_law_795 rfl (lv_at hl 3 rfl) ?_
  refine lv_iconst (v := 1) hx hb dL_law_796 (by decide) ?_
  refine lv_iadd hx hb dL_law_797 ?_
  refine tp_i (y := nI (i + 1)) (nI_add i 1) ?_
  refine va_sld hx hb hX hbl hbA hS (vp_in_nI (n := i + 1) (by omega) (by omega)) dL_law_798 ?_
  refine tp_i (y := xs (i + 1)) (by rw [nI_clamp (n := i + 1) (by omega)]) ?_
  refine lv_aload_n hx hb dL_law_799 rfl (lv_at hl 0 rfl) ?_
  refine lv_iload_n hx hb dL_law_800 rfl (lv_at hl 3 rfl) ?_
  refine lv_iconst (v := 2) hx hb dL_law_801 (by decide) ?_
  refine lv_iadd hx hb dL_law_802 ?_
  refine tp_i (y := nI (i + 2)) (nI_add i 2) ?_
  refine va_sld hx hb hX hbl hbA hS (vp_in_nI (n := i + 2) (by omega) (by omega)) dL_law_803 ?_
  refine tp_i (y := xs (i + 2)) (by rw [nI_clamp (n := i + 2) (by omega)]) ?_
  refine lv_aload_n hx hb dL_law_804 rfl (lv_at hl 0 rfl) ?_
  refine lv_iload_n hx hb dL_law_805 rfl (lv_at hl 3 rfl) ?_
  refine lv_iconst (v := 3) hx hb dL_law_806 (by decide) ?_
  refine lv_iadd hx hb dL_law_807 ?_
  refine tp_i (y := nI (i + 3)) (nI_add i 3) ?_
  refine va_sld hx hb hX hbl hbA hS (vp_in_nI (n := i + 3) (by omega) (by omega)) dL_law_808 ?_
  refine tp_i (y := xs (i + 3)) (by rw [nI_clamp (n := i + 3) (by omega)]) ?_
  refine vp_callSi (W.runV (As := [.int (xs (i + 1)), .int (xs (i + 2)), .int (xs (i + 3))]) (rest := []) ⟨hx, hb, hml, hown, hts⟩ (m_part l D hm ad cs iv fv gv lc bc (xs (i + 1)) (xs (i + 2)) (xs (i + 3)) h3 h13 b3 b13) (cwV 3 hts gL_law_X9_part rfl rfl rfl (by decide +kernel) ⟨Nat.le_of_ble_eq_true rfl, Nat.le_of_ble_eq_true rfl⟩) ⟨fun a U g mk q => ⟨q.1, q.2.1, va_K.moved (u := U) (U := U.calling g mk a) (Vm.Alike.refl U.vm) q.2.2⟩, va_recv hKm (vP_r hP) (ci := 9) (q0 := 0) rfl rfl, fun U hU hW => ⟨rfl, by rw [hU]; exact vP_r hP, va_K.moved hW.alike hKm⟩⟩ rfl rfl hl.1 rfl (lv_room (Nat.le_of_ble_eq_true rfl)) dL_law_809 ⟨by show _ + 0 ≤ 600000; omega, by show _ + 0 ≤ 7302250; omega⟩) (fun r2 k2 => ?_)
  refine lv_pop hx hb dL_law_812 rfl ?_
  refine lv_goto (tgt := 1269) hx hb dL_law_813 (by decide) ?_
  have X2 : XI ρ fv ws1 ty1 ho lc bc rc fc (iv 2) tl := (X1.fvx rfl rfl rfl rfl rfl rfl rfl rfl rfl rfl)
  have V2 : NV fv lc := (nv_fv V rfl rfl (fun _ => rfl) (fun _ => rfl))
  have hb9 := xi_b X2
  have M2 : MI iv fv tl lc bc n14 fc := ⟨h1, hb9.2.2.2.2, h3, hb9.1, h13, b13, h14, b14, h43, b43, hN, hC⟩
  refine W.widen (k := cells + 10) (n := slots + 300) (by omega) (by omega) ?_
  exact KK ws1 ty1 iv fv gv _ _ ls ⟨ρ, lc, bc, rc, fc, tl, n14, hKx1, hKm, X2, M2, V2⟩ hP hD hS (lv_sub hl [0, 1, 2, 3] rfl)
set_option maxHeartbeats 8000000 in
set_option maxRecDepth 100000 in
/-- measure, on both sides -/
theorem law_16 {p : Program} {l : Launch} {e : Env} {s : State} {m : MethodId} {below : List Frame} {meth : Method} {c : Code} {b L : Nat} {xs : Nat → Int32} (C0 : lw_At p s m meth c b L xs) (i : Nat) (hi : i + 6 ≤ L) (hL : L ≤ 3072) (D : va_G) (adK adV : Nat → Nat) (fo : Option Nat) (hnz : NZ s) (hcz : CZ s) (hsz : SZ adK adV fo (fun q : Nat => s.heap.size ≤ q) s s.heap) (ho hm : Nat) (ad : Nat → Nat) (cs : Nat → ClassId) (iv : Nat → Int32) (fv : Nat → Nat → Int32) (gv : Nat → Int64) (ws : va_W) (tys : List (ClassId × FieldType)) (I0 : LI D s ws tys ho cs iv fv) {H : Heap} {locs : List Loc} (cells slots : Nat) (hc : cells + 10 ≤ 600000) (hs : slots + 300 ≤ 7302250) (hP : va_P D vwCl (ws ++ mw hm ad cs iv fv gv) H) (hD : va_D (fun q : Nat => s.heap.size ≤ q) (ws ++ mw hm ad cs iv fv gv)) (hS : va_S (fun q : Nat => s.heap.size ≤ q) s.heap H locs) {ls : Array Slot} (hl : lv_has ls 4 [(0, .ref b), (1, .ref ho), (2, .ref hm), (3, .int (nI i))]) (KK : ∀ (ws : va_W) (tys : List (ClassId × FieldType)) (iv : Nat → Int32) (fv : Nat → Nat → Int32) (gv : Nat → Int64) (H : Heap) (locs : List Loc) (ls : Array Slot), LI D s ws tys ho cs iv fv → va_P D vwCl (ws ++ mw hm ad cs iv fv gv) H → va_D (fun q : Nat => s.heap.size ≤ q) (ws ++ mw hm ad cs iv fv gv) → va_S (fun q : Nat => s.heap.size ≤ q) s.heap H locs → lv_has ls 4 [(0, .ref b), (1, .ref ho), (2, .ref hm), (3, .int (nI i))] → W p l e room_1 s m #[Value.ref b] below meth c H locs (cells + 10) (slots + 300) (lw_Z below #[Value.ref b] s) (F0 m 1269 ls [])) : W p l e room_1 s m #[Value.ref b] below meth c H locs cells slots (lw_Z below #[Value.ref b] s) (F0 m 816 ls []) := by
  obtain ⟨hx, hb, hr, hml, hown, hts0, hX, hbl, hlocks, hgv⟩ := id C0
  have hts := fun w h => hts0 w (wsL_law_in w h)
  have hA : ∀ q : Nat, s.heap.size ≤ q → (fun q : Nat => s.heap.size ≤ q) q := fun _ h => h
  have hbA : ¬ (fun q : Nat => s.heap.size ≤ q) b := Nat.not_le.mpr hbl
  obtain ⟨ρ, lc, bc, rc, fc, tl, n14, hKx, hKm, X, ⟨h1, b1, h3, b3, h13, b13, h14, b14, h43, b43, hN, hC⟩, V⟩ := I0
  have hM := nv_all V b3
  have hZ := nv_z V
  refine lv_aload_n hx hb dL_law_816 rfl (lv_at hl 1 rfl) ?_
  refine lv_aload_n hx hb dL_law_817 rfl (lv_at hl 0 rfl) ?_
  refine lv_iload_n hx hb dL_law_818 rfl (lv_at hl 3 rfl) ?_
  refine lv_iconst (v := 1) hx hb dL_law_819 (by decide) ?_
  refine lv_iadd hx hb dL_law_820 ?_
  refine tp_i (y := nI (i + 1)) (nI_add i 1) ?_
  refine va_sld hx hb hX hbl hbA hS (vp_in_nI (n := i + 1) (by omega) (by omega)) dL_law_821 ?_
  refine tp_i (y := xs (i + 1)) (by rw [nI_clamp (n := i + 1) (by omega)]) ?_
  refine lv_aload_n hx hb dL_law_822 rfl (lv_at hl 0 rfl) ?_
  refine lv_iload_n hx hb dL_law_823 rfl (lv_at hl 3 rfl) ?_
  refine lv_iconst (v := 2) hx hb dL_law_824 (by decide) ?_
  refine lv_iadd hx hb dL_law_825 ?_
  refine tp_i (y := nI (i + 2)) (nI_add i 2) ?_
  refine va_sld hx hb hX hbl hbA hS (vp_in_nI (n := i + 2) (by omega) (by omega)) dL_law_826 ?_
  refine tp_i (y := xs (i + 2)) (by rw [nI_clamp (n := i + 2) (by omega)]) ?_
  refine lv_aload_n hx hb dL_law_827 rfl (lv_at hl 0 rfl) ?_
  refine lv_iload_n hx hb dL_law_828 rfl (lv_at hl 3 rfl) ?_
  refine lv_iconst (v := 3) hx hb dL_law_829 (by decide) ?_
  refine lv_iadd hx hb dL_law_830 ?_
  refine tp_i (y := nI (i + 3)) (nI_add i 3) ?_
  refine va_sld hx hb hX hbl hbA hS (vp_in_nI (n := i + 3) (by omega) (by omega)) dL_law_831 ?_
  refine tp_i (y := xs (i + 3)) (by rw [nI_clamp (n := i + 3) (by omega)]) ?_
  have hFc := free_all (vD_l hD) hS hA
  obtain ⟨k0, e0⟩ := xi_at X
  refine va_calli (va_runV (As := [.int (xs (i + 1)), .int (xs (i + 2)), .int (xs (i + 3))]) (rest := []) ⟨hx, hb, hml, hown, hts⟩ (h_measure l D ρ ws tys fv ho lc bc rc fc (iv 2) tl (xs (i + 1)) (xs (i + 2)) (xs (i + 3)) H.size X V) (cwV 3 hts gL_law_X8_measure rfl rfl rfl (by decide +kernel) ⟨Nat.le_of_ble_eq_true rfl, Nat.le_of_ble_eq_true rfl⟩) ⟨fun a U g mk q => by obtain ⟨q0, q1, qP, qK, qD, qZ⟩ := q; exact ⟨q0, q1, qP, va_K.moved (u := U) (U := U.calling g mk a) (Vm.Alike.refl U.vm) qK, qD, NZ.same rfl qZ⟩, va_recv hKx (vP_l hP) (ci := 8) (q0 := k0) rfl e0.choose_spec, fun U hU hW => ⟨rfl, by rw [hU], by rw [hU]; exact vP_l hP, va_K.moved hW.alike hKx, (vD_l hD).weaken (fun _ _ _ _ => trivial), NZ.warm hW hnz⟩⟩ rfl rfl hl.1 rfl (lv_room (Nat.le_of_ble_eq_true rfl)) dL_law_832 ⟨by show cells + 0 ≤ 600000; omega, by show slots + 0 ≤ 7302250; omega⟩) hS (fun q _ h => hFc q h) hFc (fun r1 u1 t1 H1 locs1 ht1 hvm1 k1 hB1 hz1 hk1 hS => ?_)
  obtain ⟨ws1, ty1, -, -, hP1, hK1, hD1, X1⟩ := hB1
  rw [ht1] at hP1
  have hKx1 := va_K.moved hvm1.symm hK1
  obtain ⟨hP, hD⟩ := lj_l hP hD hk1 hFc hP1 hD1
  refine lv_pop hx hb dL_law_835 rfl ?_
  refine lv_aload_n hx hb dL_law_836 rfl (lv_at hl 2 rfl) ?_
  refine lv_aload_n hx hb dL_law_837 rfl (lv_at hl 0 rfl) ?_
  refine lv_iload_n hx hb dL_law_838 rfl (lv_at hl 3 rfl) ?_
  refine lv_iconst (v := 1) hx hb dL_law_839 (by decide) ?_
  refine lv_iadd hx hb dL_law_840 ?_
  refine tp_i (y := nI (i + 1)) (nI_add i 1) ?_
  refine va_sld hx hb hX hbl hbA hS (vp_in_nI (n := i + 1) (by omega) (by omega)) dL_law_841 ?_
  refine tp_i (y := xs (i + 1)) (by rw [nI_clamp (n := i + 1) (by omega)]) ?_
  refine lv_aload_n hx hb dL_law_842 rfl (lv_at hl 0 rfl) ?_
  refine lv_iload_n hx hb dL_law_843 rfl (lv_at hl 3 rfl) ?_
  refine lv_iconst (v := 2) hx hb dL_law_844 (by decide) ?_
  refine lv_iadd hx hb dL_law_845 ?_
  refine tp_i (y := nI (i + 2)) (nI_add i 2) ?_
  refine va_sld hx hb hX hbl hbA hS (vp_in_nI (n := i + 2) (by omega) (by omega)) dL_law_846 ?_
  refine tp_i (y := xs (i + 2)) (by rw [nI_clamp (n := i + 2) (by omega)]) ?_
  refine lv_aload_n hx hb dL_law_847 rfl (lv_at hl 0 rfl) ?_
  refine lv_iload_n hx hb dL_law_848 rfl (lv_at hl 3 rfl) ?_
  refine lv_iconst (v := 3) hx hb dL_law_849 (by decide) ?_
  refine lv_iadd hx hb dL_law_850 ?_
  refine tp_i (y := nI (i + 3)) (nI_add i 3) ?_
  refine va_sld hx hb hX hbl hbA hS (vp_in_nI (n := i + 3) (by omega) (by omega)) dL_law_851 ?_
  refine tp_i (y := xs (i + 3)) (by rw [nI_clamp (n := i + 3) (by omega)]) ?_
  refine vp_callSi (W.runV (As := [.int (xs (i + 1)), .int (xs (i + 2)), .int (xs (i + 3))]) (rest := []) ⟨hx, hb, hml, hown, hts⟩ (m_measure l D hm ad cs iv fv gv lc bc (xs (i + 1)) (xs (i + 2)) (xs (i + 3)) h3 h13 b3 b13 hM) (cwV 3 hts gL_law_X9_measure rfl rfl rfl (by decide +kernel) ⟨Nat.le_of_ble_eq_true rfl, Nat.le_of_ble_eq_true rfl⟩) ⟨fun a U g mk q => ⟨q.1, q.2.1, va_K.moved (u := U) (U := U.calling g mk a) (Vm.Alike.refl U.vm) q.2.2⟩, va_recv hKm (vP_r hP) (ci := 9) (q0 := 0) rfl rfl, fun U hU hW => ⟨rfl, by rw [hU]; exact vP_r hP, va_K.moved hW.alike hKm⟩⟩ rfl rfl hl.1 rfl (lv_room (Nat.le_of_ble_eq_true rfl)) dL_law_852 ⟨by show _ + 0 ≤ 600000; omega, by show _ + 0 ≤ 7302250; omega⟩) (fun r2 k2 => ?_)
  refine lv_pop hx hb dL_law_855 rfl ?_
  refine lv_goto (tgt := 1269) hx hb dL_law_856 (by decide) ?_
  have X2 : XI ρ fv ws1 ty1 ho lc bc rc fc (iv 2) tl := (X1.fvx rfl rfl rfl rfl rfl rfl rfl rfl rfl rfl)
  have V2 : NV fv lc := (nv_fv V rfl rfl (fun _ => rfl) (fun _ => rfl))
  have hb9 := xi_b X2
  have M2 : MI iv fv tl lc bc n14 fc := ⟨h1, hb9.2.2.2.2, h3, hb9.1, h13, b13, h14, b14, h43, b43, hN, hC⟩
  refine W.widen (k := cells + 10) (n := slots + 300) (by omega) (by omega) ?_
  exact KK ws1 ty1 iv fv gv _ _ ls ⟨ρ, lc, bc, rc, fc, tl, n14, hKx1, hKm, X2, M2, V2⟩ hP hD hS (lv_sub hl [0, 1, 2, 3] rfl)
set_option maxHeartbeats 8000000 in
set_option maxRecDepth 100000 in
/-- rule, on both sides -/
theorem law_17 {p : Program} {l : Launch} {e : Env} {s : State} {m : MethodId} {below : List Frame} {meth : Method} {c : Code} {b L : Nat} {xs : Nat → Int32} (C0 : lw_At p s m meth c b L xs) (i : Nat) (hi : i + 6 ≤ L) (hL : L ≤ 3072) (D : va_G) (adK adV : Nat → Nat) (fo : Option Nat) (hnz : NZ s) (hcz : CZ s) (hsz : SZ adK adV fo (fun q : Nat => s.heap.size ≤ q) s s.heap) (ho hm : Nat) (ad : Nat → Nat) (cs : Nat → ClassId) (iv : Nat → Int32) (fv : Nat → Nat → Int32) (gv : Nat → Int64) (ws : va_W) (tys : List (ClassId × FieldType)) (I0 : LI D s ws tys ho cs iv fv) {H : Heap} {locs : List Loc} (cells slots : Nat) (hc : cells + 10 ≤ 600000) (hs : slots + 300 ≤ 7302250) (hP : va_P D vwCl (ws ++ mw hm ad cs iv fv gv) H) (hD : va_D (fun q : Nat => s.heap.size ≤ q) (ws ++ mw hm ad cs iv fv gv)) (hS : va_S (fun q : Nat => s.heap.size ≤ q) s.heap H locs) {ls : Array Slot} (hl : lv_has ls 4 [(0, .ref b), (1, .ref ho), (2, .ref hm), (3, .int (nI i))]) (KK : ∀ (ws : va_W) (tys : List (ClassId × FieldType)) (iv : Nat → Int32) (fv : Nat → Nat → Int32) (gv : Nat → Int64) (H : Heap) (locs : List Loc) (ls : Array Slot), LI D s ws tys ho cs iv fv → va_P D vwCl (ws ++ mw hm ad cs iv fv gv) H → va_D (fun q : Nat => s.heap.size ≤ q) (ws ++ mw hm ad cs iv fv gv) → va_S (fun q : Nat => s.heap.size ≤ q) s.heap H locs → lv_has ls 4 [(0, .ref b), (1, .ref ho), (2, .ref hm), (3, .int (nI i))] → W p l e room_1 s m #[Value.ref b] below meth c H locs (cells + 10) (slots + 300) (lw_Z below #[Value.ref b] s) (F0 m 1269 ls [])) : W p l e room_1 s m #[Value.ref b] below meth c H locs cells slots (lw_Z below #[Value.ref b] s) (F0 m 859 ls []) := by
  obtain ⟨hx, hb, hr, hml, hown, hts0, hX, hbl, hlocks, hgv⟩ := id C0
  have hts := fun w h => hts0 w (wsL_law_in w h)
  have hA : ∀ q : Nat, s.heap.size ≤ q → (fun q : Nat => s.heap.size ≤ q) q := fun _ h => h
  have hbA : ¬ (fun q : Nat => s.heap.size ≤ q) b := Nat.not_le.mpr hbl
  obtain ⟨ρ, lc, bc, rc, fc, tl, n14, hKx, hKm, X, ⟨h1, b1, h3, b3, h13, b13, h14, b14, h43, b43, hN, hC⟩, V⟩ := I0
  have hM := nv_all V b3
  have hZ := nv_z V
  refine lv_aload_n hx hb dL_law_859 rfl (lv_at hl 1 rfl) ?_
  have hFc := free_all (vD_l hD) hS hA
  obtain ⟨k0, e0⟩ := xi_at X
  refine va_calli (va_runV (As := []) (rest := []) ⟨hx, hb, hml, hown, hts⟩ (h_rule l D ρ ws tys adK adV fo fv ho lc bc rc fc (iv 2) tl  H.size X) (cwV 0 hts gL_law_X8_rule rfl rfl rfl (by decide +kernel) ⟨Nat.le_of_ble_eq_true rfl, Nat.le_of_ble_eq_true rfl⟩) ⟨fun a U g mk q => by obtain ⟨q0, q1, qP, qK, qD, qS, qC⟩ := q; exact ⟨q0, q1, qP, va_K.moved (u := U) (U := U.calling g mk a) (Vm.Alike.refl U.vm) qK, qD, SZ.same rfl rfl qS, va_Nw.same rfl rfl qC⟩, va_recv hKx (vP_l hP) (ci := 8) (q0 := k0) rfl e0.choose_spec, fun U hU hW => ⟨rfl, by rw [hU], by rw [hU]; exact vP_l hP, va_K.moved hW.alike hKx, (vD_l hD).weaken (fun _ _ _ _ => trivial), hsz.go hS hW hU hFc, va_Nw.warmC hW hcz⟩⟩ rfl rfl hl.1 rfl (lv_room (Nat.le_of_ble_eq_true rfl)) dL_law_860 ⟨by show cells + 3 ≤ 600000; omega, by show slots + 210 ≤ 7302250; omega⟩) hS (fun q _ h => hFc q h) hFc (fun r1 u1 t1 H1 locs1 ht1 hvm1 k1 hB1 hz1 hk1 hS => ?_)
  obtain ⟨ws1, ty1, hP1, hK1, hD1, rc9, hrc9, X1⟩ := hB1
  rw [ht1] at hP1
  have hKx1 := va_K.moved hvm1.symm hK1
  obtain ⟨hP, hD⟩ := lj_l hP hD hk1 hFc hP1 hD1
  refine lv_pop hx hb dL_law_863 rfl ?_
  refine lv_aload_n hx hb dL_law_864 rfl (lv_at hl 2 rfl) ?_
  have hFm := free_all (vD_r hD) hS hA
  refine va_calli (va_runV (As := []) (rest := []) ⟨hx, hb, hml, hown, hts⟩ (m_rule l D hm ad cs iv fv gv tl n14  H1.size h1 h14 b1 b14 hN hC) (cwV 0 hts gL_law_X9_rule rfl rfl rfl (by decide +kernel) ⟨Nat.le_of_ble_eq_true rfl, Nat.le_of_ble_eq_true rfl⟩) ⟨fun a U g mk q => by obtain ⟨q0, q1, qP, qK, qD⟩ := q; exact ⟨q0, q1, qP, va_K.moved (u := U) (U := U.calling g mk a) (Vm.Alike.refl U.vm) qK, qD⟩, va_recv hKm (vP_r hP) (ci := 9) (q0 := 0) rfl rfl, fun U hU hW => ⟨rfl, by rw [hU], by rw [hU]; exact vP_r hP, va_K.moved hW.alike hKm, (vD_r hD).weaken (fun _ _ _ _ => trivial)⟩⟩ rfl rfl hl.1 rfl (lv_room (Nat.le_of_ble_eq_true rfl)) dL_law_865 ⟨by show _ + 0 ≤ 600000; omega, by show _ + 0 ≤ 7302250; omega⟩) hS (fun q _ h => hFm q h) hFm (fun r2 u2 t2 H2 locs2 ht2 hvm2 k2 hB2 hz2 hk2 hS => ?_)
  subst k2
  obtain ⟨k14_, p21_, p22_, p25_, p26_, p29_, p30_, p31_, f15_, f16_, f17_, f18_, f19_, f20_, f28_, f32_, f33_, q0, q1, q2, hP2, hK2, hD2⟩ := hB2
  rw [ht2] at hP2
  obtain ⟨hP, hD⟩ := lj_r hP hD hk2 hFm hP2 hD2
  refine lv_pop hx hb dL_law_868 rfl ?_
  refine lv_goto (tgt := 1269) hx hb dL_law_869 (by decide) ?_
  have X2 : XI ρ (uF (uF (uF (uF (uF (uF (uF (uF (uF fv 15 f15_) 16 f16_) 17 f17_) 18 f18_) 19 f19_) 20 f20_) 28 f28_) 32 f32_) 33 f33_) ws1 ty1 ho lc bc rc9 fc ((upd (upd (upd (upd (upd (upd (upd (upd (upd iv 1 0) 14 (nI k14_)) 21 p21_) 22 p22_) 25 p25_) 26 p26_) 29 p29_) 30 p30_) 31 p31_) 2) 0 := (X1.fvx rfl rfl rfl rfl rfl rfl rfl rfl rfl rfl)
  have V2 : NV (uF (uF (uF (uF (uF (uF (uF (uF (uF fv 15 f15_) 16 f16_) 17 f17_) 18 f18_) 19 f19_) 20 f20_) 28 f28_) 32 f32_) 33 f33_) lc := (nv_fv V rfl rfl (fun _ => rfl) (fun _ => rfl))
  have hb9 := xi_b X2
  have M2 : MI (upd (upd (upd (upd (upd (upd (upd (upd (upd iv 1 0) 14 (nI k14_)) 21 p21_) 22 p22_) 25 p25_) 26 p26_) 29 p29_) 30 p30_) 31 p31_) (uF (uF (uF (uF (uF (uF (uF (uF (uF fv 15 f15_) 16 f16_) 17 f17_) 18 f18_) 19 f19_) 20 f20_) 28 f28_) 32 f32_) 33 f33_) 0 lc bc k14_ fc := ⟨rfl, hb9.2.2.2.2, h3, hb9.1, h13, b13, rfl, q0, h43, b43, q1, q2⟩
  refine W.widen (k := cells + 10) (n := slots + 300) (by omega) (by omega) ?_
  exact KK ws1 ty1 (upd (upd (upd (upd (upd (upd (upd (upd (upd iv 1 0) 14 (nI k14_)) 21 p21_) 22 p22_) 25 p25_) 26 p26_) 29 p29_) 30 p30_) 31 p31_) (uF (uF (uF (uF (uF (uF (uF (uF (uF fv 15 f15_) 16 f16_) 17 f17_) 18 f18_) 19 f19_) 20 f20_) 28 f28_) 32 f32_) 33 f33_) gv _ _ ls ⟨ρ, lc, bc, rc9, fc, 0, k14_, hKx1, hKm, X2, M2, V2⟩ hP hD hS (lv_sub hl [0, 1, 2, 3] rfl)
set_option maxHeartbeats 8000000 in
set_option maxRecDepth 100000 in
/-- fault, on both sides -/
theorem law_18 {p : Program} {l : Launch} {e : Env} {s : State} {m : MethodId} {below : List Frame} {meth : Method} {c : Code} {b L : Nat} {xs : Nat → Int32} (C0 : lw_At p s m meth c b L xs) (i : Nat) (hi : i + 6 ≤ L) (hL : L ≤ 3072) (D : va_G) (adK adV : Nat → Nat) (fo : Option Nat) (hnz : NZ s) (hcz : CZ s) (hsz : SZ adK adV fo (fun q : Nat => s.heap.size ≤ q) s s.heap) (ho hm : Nat) (ad : Nat → Nat) (cs : Nat → ClassId) (iv : Nat → Int32) (fv : Nat → Nat → Int32) (gv : Nat → Int64) (ws : va_W) (tys : List (ClassId × FieldType)) (I0 : LI D s ws tys ho cs iv fv) {H : Heap} {locs : List Loc} (cells slots : Nat) (hc : cells + 10 ≤ 600000) (hs : slots + 300 ≤ 7302250) (hP : va_P D vwCl (ws ++ mw hm ad cs iv fv gv) H) (hD : va_D (fun q : Nat => s.heap.size ≤ q) (ws ++ mw hm ad cs iv fv gv)) (hS : va_S (fun q : Nat => s.heap.size ≤ q) s.heap H locs) {ls : Array Slot} (hl : lv_has ls 4 [(0, .ref b), (1, .ref ho), (2, .ref hm), (3, .int (nI i))]) (KK : ∀ (ws : va_W) (tys : List (ClassId × FieldType)) (iv : Nat → Int32) (fv : Nat → Nat → Int32) (gv : Nat → Int64) (H : Heap) (locs : List Loc) (ls : Array Slot), LI D s ws tys ho cs iv fv → va_P D vwCl (ws ++ mw hm ad cs iv fv gv) H → va_D (fun q : Nat => s.heap.size ≤ q) (ws ++ mw hm ad cs iv fv gv) → va_S (fun q : Nat => s.heap.size ≤ q) s.heap H locs → lv_has ls 4 [(0, .ref b), (1, .ref ho), (2, .ref hm), (3, .int (nI i))] → W p l e room_1 s m #[Value.ref b] below meth c H locs (cells + 10) (slots + 300) (lw_Z below #[Value.ref b] s) (F0 m 1269 ls [])) : W p l e room_1 s m #[Value.ref b] below meth c H locs cells slots (lw_Z below #[Value.ref b] s) (F0 m 872 ls []) := by
  obtain ⟨hx, hb, hr, hml, hown, hts0, hX, hbl, hlocks, hgv⟩ := id C0
  have hts := fun w h => hts0 w (wsL_law_in w h)
  have hA : ∀ q : Nat, s.heap.size ≤ q → (fun q : Nat => s.heap.size ≤ q) q := fun _ h => h
  have hbA : ¬ (fun q : Nat => s.heap.size ≤ q) b := Nat.not_le.mpr hbl
  obtain ⟨ρ, lc, bc, rc, fc, tl, n14, hKx, hKm, X, ⟨h1, b1, h3, b3, h13, b13, h14, b14, h43, b43, hN, hC⟩, V⟩ := I0
  have hM := nv_all V b3
  have hZ := nv_z V
  refine lv_aload_n hx hb dL_law_872 rfl (lv_at hl 1 rfl) ?_
  refine lv_aload_n hx hb dL_law_873 rfl (lv_at hl 0 rfl) ?_
  refine lv_iload_n hx hb dL_law_874 rfl (lv_at hl 3 rfl) ?_
  refine lv_iconst (v := 1) hx hb dL_law_875 (by decide) ?_
  refine lv_iadd hx hb dL_law_876 ?_
  refine tp_i (y := nI (i + 1)) (nI_add i 1) ?_
  refine va_sld hx hb hX hbl hbA hS (vp_in_nI (n := i + 1) (by omega) (by omega)) dL_law_877 ?_
  refine tp_i (y := xs (i + 1)) (by rw [nI_clamp (n := i + 1) (by omega)]) ?_
  have hFc := free_all (vD_l hD) hS hA
  obtain ⟨k0, e0⟩ := xi_at X
  refine va_calli (va_runV (As := [.int (xs (i + 1))]) (rest := []) ⟨hx, hb, hml, hown, hts⟩ (h_fault l D ρ ws tys fv ho lc bc rc fc (iv 2) tl (xs (i + 1)) H.size X) (cwV 1 hts gL_law_X8_fault rfl rfl rfl (by decide +kernel) ⟨Nat.le_of_ble_eq_true rfl, Nat.le_of_ble_eq_true rfl⟩) ⟨fun a U g mk q => by obtain ⟨q0, q1, qP, qK, qD⟩ := q; exact ⟨q0, q1, qP, va_K.moved (u := U) (U := U.calling g mk a) (Vm.Alike.refl U.vm) qK, qD⟩, va_recv hKx (vP_l hP) (ci := 8) (q0 := k0) rfl e0.choose_spec, fun U hU hW => ⟨rfl, by rw [hU], by rw [hU]; exact vP_l hP, va_K.moved hW.alike hKx, (vD_l hD).weaken (fun _ _ _ _ => trivial)⟩⟩ rfl rfl hl.1 rfl (lv_room (Nat.le_of_ble_eq_true rfl)) dL_law_878 ⟨by show cells + 0 ≤ 600000; omega, by show slots + 0 ≤ 7302250; omega⟩) hS (fun q _ h => hFc q h) hFc (fun r1 u1 t1 H1 locs1 ht1 hvm1 k1 hB1 hz1 hk1 hS => ?_)
  obtain ⟨ws1, ty1, -, -, hP1, hK1, hD1, X1⟩ := hB1
  rw [ht1] at hP1
  have hKx1 := va_K.moved hvm1.symm hK1
  obtain ⟨hP, hD⟩ := lj_l hP hD hk1 hFc hP1 hD1
  refine lv_pop hx hb dL_law_881 rfl ?_
  refine lv_aload_n hx hb dL_law_882 rfl (lv_at hl 2 rfl) ?_
  refine lv_aload_n hx hb dL_law_883 rfl (lv_at hl 0 rfl) ?_
  refine lv_iload_n hx hb dL_law_884 rfl (lv_at hl 3 rfl) ?_
  refine lv_iconst (v := 1) hx hb dL_law_885 (by decide) ?_
  refine lv_iadd hx hb dL_law_886 ?_
  refine tp_i (y := nI (i + 1)) (nI_add i 1) ?_
  refine va_sld hx hb hX hbl hbA hS (vp_in_nI (n := i + 1) (by omega) (by omega)) dL_law_887 ?_
  refine tp_i (y := xs (i + 1)) (by rw [nI_clamp (n := i + 1) (by omega)]) ?_
  refine vp_callSi (W.runV (As := [.int (xs (i + 1))]) (rest := []) ⟨hx, hb, hml, hown, hts⟩ (m_fault l D hm ad cs iv fv gv  (xs (i + 1))  ) (cwV 1 hts gL_law_X9_fault rfl rfl rfl (by decide +kernel) ⟨Nat.le_of_ble_eq_true rfl, Nat.le_of_ble_eq_true rfl⟩) ⟨fun a U g mk q => ⟨q.1, q.2.1, va_K.moved (u := U) (U := U.calling g mk a) (Vm.Alike.refl U.vm) q.2.2⟩, va_recv hKm (vP_r hP) (ci := 9) (q0 := 0) rfl rfl, fun U hU hW => ⟨rfl, by rw [hU]; exact vP_r hP, va_K.moved hW.alike hKm⟩⟩ rfl rfl hl.1 rfl (lv_room (Nat.le_of_ble_eq_true rfl)) dL_law_888 ⟨by show _ + 0 ≤ 600000; omega, by show _ + 0 ≤ 7302250; omega⟩) (fun r2 k2 => ?_)
  refine lv_pop hx hb dL_law_891 rfl ?_
  refine lv_goto (tgt := 1269) hx hb dL_law_892 (by decide) ?_
  have X2 : XI ρ fv ws1 ty1 ho lc bc rc fc (iv 2) tl := (X1.fvx rfl rfl rfl rfl rfl rfl rfl rfl rfl rfl)
  have V2 : NV fv lc := (nv_fv V rfl rfl (fun _ => rfl) (fun _ => rfl))
  have hb9 := xi_b X2
  have M2 : MI iv fv tl lc bc n14 fc := ⟨h1, hb9.2.2.2.2, h3, hb9.1, h13, b13, h14, b14, h43, b43, hN, hC⟩
  refine W.widen (k := cells + 10) (n := slots + 300) (by omega) (by omega) ?_
  exact KK ws1 ty1 iv fv gv _ _ ls ⟨ρ, lc, bc, rc, fc, tl, n14, hKx1, hKm, X2, M2, V2⟩ hP hD hS (lv_sub hl [0, 1, 2, 3] rfl)
set_option maxHeartbeats 8000000 in
set_option maxRecDepth 100000 in
/-- shut, on both sides -/
theorem law_19 {p : Program} {l : Launch} {e : Env} {s : State} {m : MethodId} {below : List Frame} {meth : Method} {c : Code} {b L : Nat} {xs : Nat → Int32} (C0 : lw_At p s m meth c b L xs) (i : Nat) (hi : i + 6 ≤ L) (hL : L ≤ 3072) (D : va_G) (adK adV : Nat → Nat) (fo : Option Nat) (hnz : NZ s) (hcz : CZ s) (hsz : SZ adK adV fo (fun q : Nat => s.heap.size ≤ q) s s.heap) (ho hm : Nat) (ad : Nat → Nat) (cs : Nat → ClassId) (iv : Nat → Int32) (fv : Nat → Nat → Int32) (gv : Nat → Int64) (ws : va_W) (tys : List (ClassId × FieldType)) (I0 : LI D s ws tys ho cs iv fv) {H : Heap} {locs : List Loc} (cells slots : Nat) (hc : cells + 10 ≤ 600000) (hs : slots + 300 ≤ 7302250) (hP : va_P D vwCl (ws ++ mw hm ad cs iv fv gv) H) (hD : va_D (fun q : Nat => s.heap.size ≤ q) (ws ++ mw hm ad cs iv fv gv)) (hS : va_S (fun q : Nat => s.heap.size ≤ q) s.heap H locs) {ls : Array Slot} (hl : lv_has ls 4 [(0, .ref b), (1, .ref ho), (2, .ref hm), (3, .int (nI i))]) (KK : ∀ (ws : va_W) (tys : List (ClassId × FieldType)) (iv : Nat → Int32) (fv : Nat → Nat → Int32) (gv : Nat → Int64) (H : Heap) (locs : List Loc) (ls : Array Slot), LI D s ws tys ho cs iv fv → va_P D vwCl (ws ++ mw hm ad cs iv fv gv) H → va_D (fun q : Nat => s.heap.size ≤ q) (ws ++ mw hm ad cs iv fv gv) → va_S (fun q : Nat => s.heap.size ≤ q) s.heap H locs → lv_has ls 4 [(0, .ref b), (1, .ref ho), (2, .ref hm), (3, .int (nI i))] → W p l e room_1 s m #[Value.ref b] below meth c H locs (cells + 10) (slots + 300) (lw_Z below #[Value.ref b] s) (F0 m 1269 ls [])) : W p l e room_1 s m #[Value.ref b] below meth c H locs cells slots (lw_Z below #[Value.ref b] s) (F0 m 895 ls []) := by
  obtain ⟨hx, hb, hr, hml, hown, hts0, hX, hbl, hlocks, hgv⟩ := id C0
  have hts := fun w h => hts0 w (wsL_law_in w h)
  have hA : ∀ q : Nat, s.heap.size ≤ q → (fun q : Nat => s.heap.size ≤ q) q := fun _ h => h
  have hbA : ¬ (fun q : Nat => s.heap.size ≤ q) b := Nat.not_le.mpr hbl
  obtain ⟨ρ, lc, bc, rc, fc, tl, n14, hKx, hKm, X, ⟨h1, b1, h3, b3, h13, b13, h14, b14, h43, b43, hN, hC⟩, V⟩ := I0
  have hM := nv_all V b3
  have hZ := nv_z V
  refine lv_aload_n hx hb dL_law_895 rfl (lv_at hl 1 rfl) ?_
  refine lv_aload_n hx hb dL_law_896 rfl (lv_at hl 0 rfl) ?_
  refine lv_iload_n hx hb dL_law_897 rfl (lv_at hl 3 rfl) ?_
  refine lv_iconst (v := 1) hx hb dL_law_898 (by decide) ?_
  refine lv_iadd hx hb dL_law_899 ?_
  refine tp_i (y := nI (i + 1)) (nI_add i 1) ?_
  refine va_sld hx hb hX hbl hbA hS (vp_in_nI (n := i + 1) (by omega) (by omega)) dL_law_900 ?_
  refine tp_i (y := xs (i + 1)) (by rw [nI_clamp (n := i + 1) (by omega)]) ?_
  refine lv_aload_n hx hb dL_law_901 rfl (lv_at hl 0 rfl) ?_
  refine lv_iload_n hx hb dL_law_902 rfl (lv_at hl 3 rfl) ?_
  refine lv_iconst (v := 2) hx hb dL_law_903 (by decide) ?_
  refine lv_iadd hx hb dL_law_904 ?_
  refine tp_i (y := nI (i + 2)) (nI_add i 2) ?_
  refine va_sld hx hb hX hbl hbA hS (vp_in_nI (n := i + 2) (by omega) (by omega)) dL_law_905 ?_
  refine tp_i (y := xs (i + 2)) (by rw [nI_clamp (n := i + 2) (by omega)]) ?_
  have hFc := free_all (vD_l hD) hS hA
  obtain ⟨k0, e0⟩ := xi_at X
  refine va_calli (va_runV (As := [.int (xs (i + 1)), .int (xs (i + 2))]) (rest := []) ⟨hx, hb, hml, hown, hts⟩ (h_shut l D ρ ws tys fv ho lc bc rc fc (iv 2) tl (xs (i + 1)) (xs (i + 2)) H.size X) (cwV 2 hts gL_law_X8_shut rfl rfl rfl (by decide +kernel) ⟨Nat.le_of_ble_eq_true rfl, Nat.le_of_ble_eq_true rfl⟩) ⟨fun a U g mk q => by obtain ⟨q0, q1, qP, qK, qD⟩ := q; exact ⟨q0, q1, qP, va_K.moved (u := U) (U := U.calling g mk a) (Vm.Alike.refl U.vm) qK, qD⟩, va_recv hKx (vP_l hP) (ci := 8) (q0 := k0) rfl e0.choose_spec, fun U hU hW => ⟨rfl, by rw [hU], by rw [hU]; exact vP_l hP, va_K.moved hW.alike hKx, (vD_l hD).weaken (fun _ _ _ _ => trivial)⟩⟩ rfl rfl hl.1 rfl (lv_room (Nat.le_of_ble_eq_true rfl)) dL_law_906 ⟨by show cells + 0 ≤ 600000; omega, by show slots + 0 ≤ 7302250; omega⟩) hS (fun q _ h => hFc q h) hFc (fun r1 u1 t1 H1 locs1 ht1 hvm1 k1 hB1 hz1 hk1 hS => ?_)
  obtain ⟨ws1, ty1, -, -, hP1, hK1, hD1, X1⟩ := hB1
  rw [ht1] at hP1
  have hKx1 := va_K.moved hvm1.symm hK1
  obtain ⟨hP, hD⟩ := lj_l hP hD hk1 hFc hP1 hD1
  refine lv_pop hx hb dL_law_909 rfl ?_
  refine lv_aload_n hx hb dL_law_910 rfl (lv_at hl 2 rfl) ?_
  refine lv_aload_n hx hb dL_law_911 rfl (lv_at hl 0 rfl) ?_
  refine lv_iload_n hx hb dL_law_912 rfl (lv_at hl 3 rfl) ?_
  refine lv_iconst (v := 1) hx hb dL_law_913 (by decide) ?_
  refine lv_iadd hx hb dL_law_914 ?_
  refine tp_i (y := nI (i + 1)) (nI_add i 1) ?_
  refine va_sld hx hb hX hbl hbA hS (vp_in_nI (n := i + 1) (by omega) (by omega)) dL_law_915 ?_
  refine tp_i (y := xs (i + 1)) (by rw [nI_clamp (n := i + 1) (by omega)]) ?_
  refine lv_aload_n hx hb dL_law_916 rfl (lv_at hl 0 rfl) ?_
  refine lv_iload_n hx hb dL_law_917 rfl (lv_at hl 3 rfl) ?_
  refine lv_iconst (v := 2) hx hb dL_law_918 (by decide) ?_
  refine lv_iadd hx hb dL_law_919 ?_
  refine tp_i (y := nI (i + 2)) (nI_add i 2) ?_
  refine va_sld hx hb hX hbl hbA hS (vp_in_nI (n := i + 2) (by omega) (by omega)) dL_law_920 ?_
  refine tp_i (y := xs (i + 2)) (by rw [nI_clamp (n := i + 2) (by omega)]) ?_
  have hFm := free_all (vD_r hD) hS hA
  refine va_calli (va_runV (As := [.int (xs (i + 1)), .int (xs (i + 2))]) (rest := []) ⟨hx, hb, hml, hown, hts⟩ (m_shut l D hm ad cs iv fv gv n14 (xs (i + 1)) (xs (i + 2)) H1.size h14 b14) (cwV 2 hts gL_law_X9_shut rfl rfl rfl (by decide +kernel) ⟨Nat.le_of_ble_eq_true rfl, Nat.le_of_ble_eq_true rfl⟩) ⟨fun a U g mk q => by obtain ⟨q0, q1, qP, qK, qD⟩ := q; exact ⟨q0, q1, qP, va_K.moved (u := U) (U := U.calling g mk a) (Vm.Alike.refl U.vm) qK, qD⟩, va_recv hKm (vP_r hP) (ci := 9) (q0 := 0) rfl rfl, fun U hU hW => ⟨rfl, by rw [hU], by rw [hU]; exact vP_r hP, va_K.moved hW.alike hKm, (vD_r hD).weaken (fun _ _ _ _ => trivial)⟩⟩ rfl rfl hl.1 rfl (lv_room (Nat.le_of_ble_eq_true rfl)) dL_law_921 ⟨by show _ + 0 ≤ 600000; omega, by show _ + 0 ≤ 7302250; omega⟩) hS (fun q _ h => hFm q h) hFm (fun r2 u2 t2 H2 locs2 ht2 hvm2 k2 hB2 hz2 hk2 hS => ?_)
  subst k2
  obtain ⟨f18_, hP2, hK2, hD2⟩ := hB2
  rw [ht2] at hP2
  obtain ⟨hP, hD⟩ := lj_r hP hD hk2 hFm hP2 hD2
  refine lv_pop hx hb dL_law_924 rfl ?_
  refine lv_goto (tgt := 1269) hx hb dL_law_925 (by decide) ?_
  have X2 : XI ρ (uF fv 18 f18_) ws1 ty1 ho lc bc rc fc (iv 2) tl := (X1.fvx rfl rfl rfl rfl rfl rfl rfl rfl rfl rfl)
  have V2 : NV (uF fv 18 f18_) lc := (nv_fv V rfl rfl (fun _ => rfl) (fun _ => rfl))
  have hb9 := xi_b X2
  have M2 : MI iv (uF fv 18 f18_) tl lc bc n14 fc := ⟨h1, hb9.2.2.2.2, h3, hb9.1, h13, b13, h14, b14, h43, b43, hN, hC⟩
  refine W.widen (k := cells + 10) (n := slots + 300) (by omega) (by omega) ?_
  exact KK ws1 ty1 iv (uF fv 18 f18_) gv _ _ ls ⟨ρ, lc, bc, rc, fc, tl, n14, hKx1, hKm, X2, M2, V2⟩ hP hD hS (lv_sub hl [0, 1, 2, 3] rfl)
set_option maxHeartbeats 8000000 in
set_option maxRecDepth 100000 in
/-- says, on both sides -/
theorem law_20 {p : Program} {l : Launch} {e : Env} {s : State} {m : MethodId} {below : List Frame} {meth : Method} {c : Code} {b L : Nat} {xs : Nat → Int32} (C0 : lw_At p s m meth c b L xs) (i : Nat) (hi : i + 6 ≤ L) (hL : L ≤ 3072) (D : va_G) (adK adV : Nat → Nat) (fo : Option Nat) (hnz : NZ s) (hcz : CZ s) (hsz : SZ adK adV fo (fun q : Nat => s.heap.size ≤ q) s s.heap) (ho hm : Nat) (ad : Nat → Nat) (cs : Nat → ClassId) (iv : Nat → Int32) (fv : Nat → Nat → Int32) (gv : Nat → Int64) (ws : va_W) (tys : List (ClassId × FieldType)) (I0 : LI D s ws tys ho cs iv fv) {H : Heap} {locs : List Loc} (cells slots : Nat) (hc : cells + 10 ≤ 600000) (hs : slots + 300 ≤ 7302250) (hP : va_P D vwCl (ws ++ mw hm ad cs iv fv gv) H) (hD : va_D (fun q : Nat => s.heap.size ≤ q) (ws ++ mw hm ad cs iv fv gv)) (hS : va_S (fun q : Nat => s.heap.size ≤ q) s.heap H locs) {ls : Array Slot} (hl : lv_has ls 4 [(0, .ref b), (1, .ref ho), (2, .ref hm), (3, .int (nI i))]) (KK : ∀ (ws : va_W) (tys : List (ClassId × FieldType)) (iv : Nat → Int32) (fv : Nat → Nat → Int32) (gv : Nat → Int64) (H : Heap) (locs : List Loc) (ls : Array Slot), LI D s ws tys ho cs iv fv → va_P D vwCl (ws ++ mw hm ad cs iv fv gv) H → va_D (fun q : Nat => s.heap.size ≤ q) (ws ++ mw hm ad cs iv fv gv) → va_S (fun q : Nat => s.heap.size ≤ q) s.heap H locs → lv_has ls 4 [(0, .ref b), (1, .ref ho), (2, .ref hm), (3, .int (nI i))] → W p l e room_1 s m #[Value.ref b] below meth c H locs (cells + 10) (slots + 300) (lw_Z below #[Value.ref b] s) (F0 m 1269 ls [])) : W p l e room_1 s m #[Value.ref b] below meth c H locs cells slots (lw_Z below #[Value.ref b] s) (F0 m 928 ls []) := by
  obtain ⟨hx, hb, hr, hml, hown, hts0, hX, hbl, hlocks, hgv⟩ := id C0
  have hts := fun w h => hts0 w (wsL_law_in w h)
  have hA : ∀ q : Nat, s.heap.size ≤ q → (fun q : Nat => s.heap.size ≤ q) q := fun _ h => h
  have hbA : ¬ (fun q : Nat => s.heap.size ≤ q) b := Nat.not_le.mpr hbl
  obtain ⟨ρ, lc, bc, rc, fc, tl, n14, hKx, hKm, X, ⟨h1, b1, h3, b3, h13, b13, h14, b14, h43, b43, hN, hC⟩, V⟩ := I0
  have hM := nv_all V b3
  have hZ := nv_z V
  refine lv_aload_n hx hb dL_law_928 rfl (lv_at hl 1 rfl) ?_
  refine lv_aload_n hx hb dL_law_929 rfl (lv_at hl 0 rfl) ?_
  refine lv_iload_n hx hb dL_law_930 rfl (lv_at hl 3 rfl) ?_
  refine lv_iconst (v := 1) hx hb dL_law_931 (by decide) ?_
  refine lv_iadd hx hb dL_law_932 ?_
  refine tp_i (y := nI (i + 1)) (nI_add i 1) ?_
  refine va_sld hx hb hX hbl hbA hS (vp_in_nI (n := i + 1) (by omega) (by omega)) dL_law_933 ?_
  refine tp_i (y := xs (i + 1)) (by rw [nI_clamp (n := i + 1) (by omega)]) ?_
  refine lv_aload_n hx hb dL_law_934 rfl (lv_at hl 0 rfl) ?_
  refine lv_iload_n hx hb dL_law_935 rfl (lv_at hl 3 rfl) ?_
  refine lv_iconst (v := 2) hx hb dL_law_936 (by decide) ?_
  refine lv_iadd hx hb dL_law_937 ?_
  refine tp_i (y := nI (i + 2)) (nI_add i 2) ?_
  refine va_sld hx hb hX hbl hbA hS (vp_in_nI (n := i + 2) (by omega) (by omega)) dL_law_938 ?_
  refine tp_i (y := xs (i + 2)) (by rw [nI_clamp (n := i + 2) (by omega)]) ?_
  refine lv_aload_n hx hb dL_law_939 rfl (lv_at hl 0 rfl) ?_
  refine lv_iload_n hx hb dL_law_940 rfl (lv_at hl 3 rfl) ?_
  refine lv_iconst (v := 3) hx hb dL_law_941 (by decide) ?_
  refine lv_iadd hx hb dL_law_942 ?_
  refine tp_i (y := nI (i + 3)) (nI_add i 3) ?_
  refine va_sld hx hb hX hbl hbA hS (vp_in_nI (n := i + 3) (by omega) (by omega)) dL_law_943 ?_
  refine tp_i (y := xs (i + 3)) (by rw [nI_clamp (n := i + 3) (by omega)]) ?_
  have hFc := free_all (vD_l hD) hS hA
  obtain ⟨k0, e0⟩ := xi_at X
  refine va_calli (va_runV (As := [.int (xs (i + 1)), .int (xs (i + 2)), .int (xs (i + 3))]) (rest := []) ⟨hx, hb, hml, hown, hts⟩ (h_says l D ρ ws tys fv ho lc bc rc fc (iv 2) tl (xs (i + 1)) (xs (i + 2)) (xs (i + 3)) H.size X) (cwV 3 hts gL_law_X8_says rfl rfl rfl (by decide +kernel) ⟨Nat.le_of_ble_eq_true rfl, Nat.le_of_ble_eq_true rfl⟩) ⟨fun a U g mk q => by obtain ⟨q0, q1, qP, qK, qD, qZ⟩ := q; exact ⟨q0, q1, qP, va_K.moved (u := U) (U := U.calling g mk a) (Vm.Alike.refl U.vm) qK, qD, NZ.same rfl qZ⟩, va_recv hKx (vP_l hP) (ci := 8) (q0 := k0) rfl e0.choose_spec, fun U hU hW => ⟨rfl, by rw [hU], by rw [hU]; exact vP_l hP, va_K.moved hW.alike hKx, (vD_l hD).weaken (fun _ _ _ _ => trivial), NZ.warm hW hnz⟩⟩ rfl rfl hl.1 rfl (lv_room (Nat.le_of_ble_eq_true rfl)) dL_law_944 ⟨by show cells + 0 ≤ 600000; omega, by show slots + 0 ≤ 7302250; omega⟩) hS (fun q _ h => hFc q h) hFc (fun r1 u1 t1 H1 locs1 ht1 hvm1 k1 hB1 hz1 hk1 hS => ?_)
  obtain ⟨ws1, ty1, -, -, hP1, hK1, hD1, X1⟩ := hB1
  rw [ht1] at hP1
  have hKx1 := va_K.moved hvm1.symm hK1
  obtain ⟨hP, hD⟩ := lj_l hP hD hk1 hFc hP1 hD1
  refine lv_pop hx hb dL_law_947 rfl ?_
  refine lv_aload_n hx hb dL_law_948 rfl (lv_at hl 2 rfl) ?_
  refine lv_aload_n hx hb dL_law_949 rfl (lv_at hl 0 rfl) ?_
  refine lv_iload_n hx hb dL_law_950 rfl (lv_at hl 3 rfl) ?_
  refine lv_iconst (v := 1) hx hb dL_law_951 (by decide) ?_
  refine lv_iadd hx hb dL_law_952 ?_
  refine tp_i (y := nI (i + 1)) (nI_add i 1) ?_
  refine va_sld hx hb hX hbl hbA hS (vp_in_nI (n := i + 1) (by omega) (by omega)) dL_law_953 ?_
  refine tp_i (y := xs (i + 1)) (by rw [nI_clamp (n := i + 1) (by omega)]) ?_
  refine lv_aload_n hx hb dL_law_954 rfl (lv_at hl 0 rfl) ?_
  refine lv_iload_n hx hb dL_law_955 rfl (lv_at hl 3 rfl) ?_
  refine lv_iconst (v := 2) hx hb dL_law_956 (by decide) ?_
  refine lv_iadd hx hb dL_law_957 ?_
  refine tp_i (y := nI (i + 2)) (nI_add i 2) ?_
  refine va_sld hx hb hX hbl hbA hS (vp_in_nI (n := i + 2) (by omega) (by omega)) dL_law_958 ?_
  refine tp_i (y := xs (i + 2)) (by rw [nI_clamp (n := i + 2) (by omega)]) ?_
  refine lv_aload_n hx hb dL_law_959 rfl (lv_at hl 0 rfl) ?_
  refine lv_iload_n hx hb dL_law_960 rfl (lv_at hl 3 rfl) ?_
  refine lv_iconst (v := 3) hx hb dL_law_961 (by decide) ?_
  refine lv_iadd hx hb dL_law_962 ?_
  refine tp_i (y := nI (i + 3)) (nI_add i 3) ?_
  refine va_sld hx hb hX hbl hbA hS (vp_in_nI (n := i + 3) (by omega) (by omega)) dL_law_963 ?_
  refine tp_i (y := xs (i + 3)) (by rw [nI_clamp (n := i + 3) (by omega)]) ?_
  have hFm := free_all (vD_r hD) hS hA
  refine va_calli (va_runV (As := [.int (xs (i + 1)), .int (xs (i + 2)), .int (xs (i + 3))]) (rest := []) ⟨hx, hb, hml, hown, hts⟩ (m_says l D hm ad cs iv fv gv lc bc n14 (xs (i + 1)) (xs (i + 2)) (xs (i + 3)) H1.size h3 h13 h14 b3 b13 b14 hC) (cwV 3 hts gL_law_X9_says rfl rfl rfl (by decide +kernel) ⟨Nat.le_of_ble_eq_true rfl, Nat.le_of_ble_eq_true rfl⟩) ⟨fun a U g mk q => by obtain ⟨q0, q1, qP, qK, qD⟩ := q; exact ⟨q0, q1, qP, va_K.moved (u := U) (U := U.calling g mk a) (Vm.Alike.refl U.vm) qK, qD⟩, va_recv hKm (vP_r hP) (ci := 9) (q0 := 0) rfl rfl, fun U hU hW => ⟨rfl, by rw [hU], by rw [hU]; exact vP_r hP, va_K.moved hW.alike hKm, (vD_r hD).weaken (fun _ _ _ _ => trivial)⟩⟩ rfl rfl hl.1 rfl (lv_room (Nat.le_of_ble_eq_true rfl)) dL_law_964 ⟨by show _ + 0 ≤ 600000; omega, by show _ + 0 ≤ 7302250; omega⟩) hS (fun q _ h => hFm q h) hFm (fun r2 u2 t2 H2 locs2 ht2 hvm2 k2 hB2 hz2 hk2 hS => ?_)
  subst k2
  obtain ⟨f34_, hP2, hK2, hD2⟩ := hB2
  rw [ht2] at hP2
  obtain ⟨hP, hD⟩ := lj_r hP hD hk2 hFm hP2 hD2
  refine lv_pop hx hb dL_law_967 rfl ?_
  refine lv_goto (tgt := 1269) hx hb dL_law_968 (by decide) ?_
  have X2 : XI ρ (uF fv 34 f34_) ws1 ty1 ho lc bc rc fc (iv 2) tl := (X1.fvx rfl rfl rfl rfl rfl rfl rfl rfl rfl rfl)
  have V2 : NV (uF fv 34 f34_) lc := (nv_fv V rfl rfl (fun _ => rfl) (fun _ => rfl))
  have hb9 := xi_b X2
  have M2 : MI iv (uF fv 34 f34_) tl lc bc n14 fc := ⟨h1, hb9.2.2.2.2, h3, hb9.1, h13, b13, h14, b14, h43, b43, hN, hC⟩
  refine W.widen (k := cells + 10) (n := slots + 300) (by omega) (by omega) ?_
  exact KK ws1 ty1 iv (uF fv 34 f34_) gv _ _ ls ⟨ρ, lc, bc, rc, fc, tl, n14, hKx1, hKm, X2, M2, V2⟩ hP hD hS (lv_sub hl [0, 1, 2, 3] rfl)
set_option maxHeartbeats 8000000 in
set_option maxRecDepth 100000 in
/-- name, on both sides -/
theorem law_21 {p : Program} {l : Launch} {e : Env} {s : State} {m : MethodId} {below : List Frame} {meth : Method} {c : Code} {b L : Nat} {xs : Nat → Int32} (C0 : lw_At p s m meth c b L xs) (i : Nat) (hi : i + 6 ≤ L) (hL : L ≤ 3072) (D : va_G) (adK adV : Nat → Nat) (fo : Option Nat) (hnz : NZ s) (hcz : CZ s) (hsz : SZ adK adV fo (fun q : Nat => s.heap.size ≤ q) s s.heap) (ho hm : Nat) (ad : Nat → Nat) (cs : Nat → ClassId) (iv : Nat → Int32) (fv : Nat → Nat → Int32) (gv : Nat → Int64) (ws : va_W) (tys : List (ClassId × FieldType)) (I0 : LI D s ws tys ho cs iv fv) {H : Heap} {locs : List Loc} (cells slots : Nat) (hc : cells + 10 ≤ 600000) (hs : slots + 300 ≤ 7302250) (hP : va_P D vwCl (ws ++ mw hm ad cs iv fv gv) H) (hD : va_D (fun q : Nat => s.heap.size ≤ q) (ws ++ mw hm ad cs iv fv gv)) (hS : va_S (fun q : Nat => s.heap.size ≤ q) s.heap H locs) {ls : Array Slot} (hl : lv_has ls 4 [(0, .ref b), (1, .ref ho), (2, .ref hm), (3, .int (nI i))]) (KK : ∀ (ws : va_W) (tys : List (ClassId × FieldType)) (iv : Nat → Int32) (fv : Nat → Nat → Int32) (gv : Nat → Int64) (H : Heap) (locs : List Loc) (ls : Array Slot), LI D s ws tys ho cs iv fv → va_P D vwCl (ws ++ mw hm ad cs iv fv gv) H → va_D (fun q : Nat => s.heap.size ≤ q) (ws ++ mw hm ad cs iv fv gv) → va_S (fun q : Nat => s.heap.size ≤ q) s.heap H locs → lv_has ls 4 [(0, .ref b), (1, .ref ho), (2, .ref hm), (3, .int (nI i))] → W p l e room_1 s m #[Value.ref b] below meth c H locs (cells + 10) (slots + 300) (lw_Z below #[Value.ref b] s) (F0 m 1269 ls [])) : W p l e room_1 s m #[Value.ref b] below meth c H locs cells slots (lw_Z below #[Value.ref b] s) (F0 m 971 ls []) := by
  obtain ⟨hx, hb, hr, hml, hown, hts0, hX, hbl, hlocks, hgv⟩ := id C0
  have hts := fun w h => hts0 w (wsL_law_in w h)
  have hA : ∀ q : Nat, s.heap.size ≤ q → (fun q : Nat => s.heap.size ≤ q) q := fun _ h => h
  have hbA : ¬ (fun q : Nat => s.heap.size ≤ q) b := Nat.not_le.mpr hbl
  obtain ⟨ρ, lc, bc, rc, fc, tl, n14, hKx, hKm, X, ⟨h1, b1, h3, b3, h13, b13, h14, b14, h43, b43, hN, hC⟩, V⟩ := I0
  have hM := nv_all V b3
  have hZ := nv_z V
  refine lv_aload_n hx hb dL_law_971 rfl (lv_at hl 1 rfl) ?_
  refine lv_aload_n hx hb dL_law_972 rfl (lv_at hl 0 rfl) ?_
  refine lv_iload_n hx hb dL_law_973 rfl (lv_at hl 3 rfl) ?_
  refine lv_iconst (v := 1) hx hb dL_law_974 (by decide) ?_
  refine lv_iadd hx hb dL_law_975 ?_
  refine tp_i (y := nI (i + 1)) (nI_add i 1) ?_
  refine va_sld hx hb hX hbl hbA hS (vp_in_nI (n := i + 1) (by omega) (by omega)) dL_law_976 ?_
  refine tp_i (y := xs (i + 1)) (by rw [nI_clamp (n := i + 1) (by omega)]) ?_
  refine lv_aload_n hx hb dL_law_977 rfl (lv_at hl 0 rfl) ?_
  refine lv_iload_n hx hb dL_law_978 rfl (lv_at hl 3 rfl) ?_
  refine lv_iconst (v := 2) hx hb dL_law_979 (by decide) ?_
  refine lv_iadd hx hb dL_law_980 ?_
  refine tp_i (y := nI (i + 2)) (nI_add i 2) ?_
  refine va_sld hx hb hX hbl hbA hS (vp_in_nI (n := i + 2) (by omega) (by omega)) dL_law_981 ?_
  refine tp_i (y := xs (i + 2)) (by rw [nI_clamp (n := i + 2) (by omega)]) ?_
  refine lv_aload_n hx hb dL_law_982 rfl (lv_at hl 0 rfl) ?_
  refine lv_iload_n hx hb dL_law_983 rfl (lv_at hl 3 rfl) ?_
  refine lv_iconst (v := 3) hx hb dL_law_984 (by decide) ?_
  refine lv_iadd hx hb dL_law_985 ?_
  refine tp_i (y := nI (i + 3)) (nI_add i 3) ?_
  refine va_sld hx hb hX hbl hbA hS (vp_in_nI (n := i + 3) (by omega) (by omega)) dL_law_986 ?_
  refine tp_i (y := xs (i + 3)) (by rw [nI_clamp (n := i + 3) (by omega)]) ?_
  have hFc := free_all (vD_l hD) hS hA
  obtain ⟨k0, e0⟩ := xi_at X
  refine va_calli (va_runV (As := [.int (xs (i + 1)), .int (xs (i + 2)), .int (xs (i + 3))]) (rest := []) ⟨hx, hb, hml, hown, hts⟩ (h_name l D ρ ws tys fv ho lc bc rc fc (iv 2) tl (xs (i + 1)) (xs (i + 2)) (xs (i + 3)) H.size X) (cwV 3 hts gL_law_X8_name rfl rfl rfl (by decide +kernel) ⟨Nat.le_of_ble_eq_true rfl, Nat.le_of_ble_eq_true rfl⟩) ⟨fun a U g mk q => by obtain ⟨q0, q1, qP, qK, qD, qZ⟩ := q; exact ⟨q0, q1, qP, va_K.moved (u := U) (U := U.calling g mk a) (Vm.Alike.refl U.vm) qK, qD, NZ.same rfl qZ⟩, va_recv hKx (vP_l hP) (ci := 8) (q0 := k0) rfl e0.choose_spec, fun U hU hW => ⟨rfl, by rw [hU], by rw [hU]; exact vP_l hP, va_K.moved hW.alike hKx, (vD_l hD).weaken (fun _ _ _ _ => trivial), NZ.warm hW hnz⟩⟩ rfl rfl hl.1 rfl (lv_room (Nat.le_of_ble_eq_true rfl)) dL_law_987 ⟨by show cells + 0 ≤ 600000; omega, by show slots + 0 ≤ 7302250; omega⟩) hS (fun q _ h => hFc q h) hFc (fun r1 u1 t1 H1 locs1 ht1 hvm1 k1 hB1 hz1 hk1 hS => ?_)
  obtain ⟨ws1, ty1, -, -, hP1, hK1, hD1, X1⟩ := hB1
  rw [ht1] at hP1
  have hKx1 := va_K.moved hvm1.symm hK1
  obtain ⟨hP, hD⟩ := lj_l hP hD hk1 hFc hP1 hD1
  refine lv_pop hx hb dL_law_990 rfl ?_
  refine lv_aload_n hx hb dL_law_991 rfl (lv_at hl 2 rfl) ?_
  refine lv_aload_n hx hb dL_law_992 rfl (lv_at hl 0 rfl) ?_
  refine lv_iload_n hx hb dL_law_993 rfl (lv_at hl 3 rfl) ?_
  refine lv_iconst (v := 1) hx hb dL_law_994 (by decide) ?_
  refine lv_iadd hx hb dL_law_995 ?_
  refine tp_i (y := nI (i + 1)) (nI_add i 1) ?_
  refine va_sld hx hb hX hbl hbA hS (vp_in_nI (n := i + 1) (by omega) (by omega)) dL_law_996 ?_
  refine tp_i (y := xs (i + 1)) (by rw [nI_clamp (n := i + 1) (by omega)]) ?_
  refine lv_aload_n hx hb dL_law_997 rfl (lv_at hl 0 rfl) ?_
  refine lv_iload_n hx hb dL_law_998 rfl (lv_at hl 3 rfl) ?_
  refine lv_iconst (v := 2) hx hb dL_law_999 (by decide) ?_
  refine lv_iadd hx hb dL_law_1000 ?_
  refine tp_i (y := nI (i + 2)) (nI_add i 2) ?_
  refine va_sld hx hb hX hbl hbA hS (vp_in_nI (n := i + 2) (by omega) (by omega)) dL_law_1001 ?_
  refine tp_i (y := xs (i + 2)) (by rw [nI_clamp (n := i + 2) (by omega)]) ?_
  refine lv_aload_n hx hb dL_law_1002 rfl (lv_at hl 0 rfl) ?_
  refine lv_iload_n hx hb dL_law_1003 rfl (lv_at hl 3 rfl) ?_
  refine lv_iconst (v := 3) hx hb dL_law_1004 (by decide) ?_
  refine lv_iadd hx hb dL_law_1005 ?_
  refine tp_i (y := nI (i + 3)) (nI_add i 3) ?_
  refine va_sld hx hb hX hbl hbA hS (vp_in_nI (n := i + 3) (by omega) (by omega)) dL_law_1006 ?_
  refine tp_i (y := xs (i + 3)) (by rw [nI_clamp (n := i + 3) (by omega)]) ?_
  have hFm := free_all (vD_r hD) hS hA
  refine va_calli (va_runV (As := [.int (xs (i + 1)), .int (xs (i + 2)), .int (xs (i + 3))]) (rest := []) ⟨hx, hb, hml, hown, hts⟩ (m_name_ l D hm ad cs iv fv gv lc bc n14 (xs (i + 1)) (xs (i + 2)) (xs (i + 3)) H1.size h3 h13 h14 b3 b13 b14 hN hC) (cwV 3 hts gL_law_X9_name_ rfl rfl rfl (by decide +kernel) ⟨Nat.le_of_ble_eq_true rfl, Nat.le_of_ble_eq_true rfl⟩) ⟨fun a U g mk q => by obtain ⟨q0, q1, qP, qK, qD⟩ := q; exact ⟨q0, q1, qP, va_K.moved (u := U) (U := U.calling g mk a) (Vm.Alike.refl U.vm) qK, qD⟩, va_recv hKm (vP_r hP) (ci := 9) (q0 := 0) rfl rfl, fun U hU hW => ⟨rfl, by rw [hU], by rw [hU]; exact vP_r hP, va_K.moved hW.alike hKm, (vD_r hD).weaken (fun _ _ _ _ => trivial)⟩⟩ rfl rfl hl.1 rfl (lv_room (Nat.le_of_ble_eq_true rfl)) dL_law_1007 ⟨by show _ + 0 ≤ 600000; omega, by show _ + 0 ≤ 7302250; omega⟩) hS (fun q _ h => hFm q h) hFm (fun r2 u2 t2 H2 locs2 ht2 hvm2 k2 hB2 hz2 hk2 hS => ?_)
  subst k2
  obtain ⟨f34_, hP2, hK2, hD2⟩ := hB2
  rw [ht2] at hP2
  obtain ⟨hP, hD⟩ := lj_r hP hD hk2 hFm hP2 hD2
  refine lv_pop hx hb dL_law_1010 rfl ?_
  refine lv_goto (tgt := 1269) hx hb dL_law_1011 (by decide) ?_
  have X2 : XI ρ (uF fv 34 f34_) ws1 ty1 ho lc bc rc fc (iv 2) tl := (X1.fvx rfl rfl rfl rfl rfl rfl rfl rfl rfl rfl)
  have V2 : NV (uF fv 34 f34_) lc := (nv_fv V rfl rfl (fun _ => rfl) (fun _ => rfl))
  have hb9 := xi_b X2
  have M2 : MI iv (uF fv 34 f34_) tl lc bc n14 fc := ⟨h1, hb9.2.2.2.2, h3, hb9.1, h13, b13, h14, b14, h43, b43, hN, hC⟩
  refine W.widen (k := cells + 10) (n := slots + 300) (by omega) (by omega) ?_
  exact KK ws1 ty1 iv (uF fv 34 f34_) gv _ _ ls ⟨ρ, lc, bc, rc, fc, tl, n14, hKx1, hKm, X2, M2, V2⟩ hP hD hS (lv_sub hl [0, 1, 2, 3] rfl)
set_option maxHeartbeats 8000000 in
set_option maxRecDepth 100000 in
/-- step, on both sides -/
theorem law_22 {p : Program} {l : Launch} {e : Env} {s : State} {m : MethodId} {below : List Frame} {meth : Method} {c : Code} {b L : Nat} {xs : Nat → Int32} (C0 : lw_At p s m meth c b L xs) (i : Nat) (hi : i + 6 ≤ L) (hL : L ≤ 3072) (D : va_G) (adK adV : Nat → Nat) (fo : Option Nat) (hnz : NZ s) (hcz : CZ s) (hsz : SZ adK adV fo (fun q : Nat => s.heap.size ≤ q) s s.heap) (ho hm : Nat) (ad : Nat → Nat) (cs : Nat → ClassId) (iv : Nat → Int32) (fv : Nat → Nat → Int32) (gv : Nat → Int64) (ws : va_W) (tys : List (ClassId × FieldType)) (I0 : LI D s ws tys ho cs iv fv) {H : Heap} {locs : List Loc} (cells slots : Nat) (hc : cells + 10 ≤ 600000) (hs : slots + 300 ≤ 7302250) (hP : va_P D vwCl (ws ++ mw hm ad cs iv fv gv) H) (hD : va_D (fun q : Nat => s.heap.size ≤ q) (ws ++ mw hm ad cs iv fv gv)) (hS : va_S (fun q : Nat => s.heap.size ≤ q) s.heap H locs) {ls : Array Slot} (hl : lv_has ls 4 [(0, .ref b), (1, .ref ho), (2, .ref hm), (3, .int (nI i))]) (KK : ∀ (ws : va_W) (tys : List (ClassId × FieldType)) (iv : Nat → Int32) (fv : Nat → Nat → Int32) (gv : Nat → Int64) (H : Heap) (locs : List Loc) (ls : Array Slot), LI D s ws tys ho cs iv fv → va_P D vwCl (ws ++ mw hm ad cs iv fv gv) H → va_D (fun q : Nat => s.heap.size ≤ q) (ws ++ mw hm ad cs iv fv gv) → va_S (fun q : Nat => s.heap.size ≤ q) s.heap H locs → lv_has ls 4 [(0, .ref b), (1, .ref ho), (2, .ref hm), (3, .int (nI i))] → W p l e room_1 s m #[Value.ref b] below meth c H locs (cells + 10) (slots + 300) (lw_Z below #[Value.ref b] s) (F0 m 1269 ls [])) : W p l e room_1 s m #[Value.ref b] below meth c H locs cells slots (lw_Z below #[Value.ref b] s) (F0 m 1014 ls []) := by
  obtain ⟨hx, hb, hr, hml, hown, hts0, hX, hbl, hlocks, hgv⟩ := id C0
  have hts := fun w h => hts0 w (wsL_law_in w h)
  have hA : ∀ q : Nat, s.heap.size ≤ q → (fun q : Nat => s.heap.size ≤ q) q := fun _ h => h
  have hbA : ¬ (fun q : Nat => s.heap.size ≤ q) b := Nat.not_le.mpr hbl
  obtain ⟨ρ, lc, bc, rc, fc, tl, n14, hKx, hKm, X, ⟨h1, b1, h3, b3, h13, b13, h14, b14, h43, b43, hN, hC⟩, V⟩ := I0
  have hM := nv_all V b3
  have hZ := nv_z V
  refine lv_aload_n hx hb dL_law_1014 rfl (lv_at hl 1 rfl) ?_
  refine lv_aload_n hx hb dL_law_1015 rfl (lv_at hl 0 rfl) ?_
  refine lv_iload_n hx hb dL_law_1016 rfl (lv_at hl 3 rfl) ?_
  refine lv_iconst (v := 1) hx hb dL_law_1017 (by decide) ?_
  refine lv_iadd hx hb dL_law_1018 ?_
  refine tp_i (y := nI (i + 1)) (nI_add i 1) ?_
  refine va_sld hx hb hX hbl hbA hS (vp_in_nI (n := i + 1) (by omega) (by omega)) dL_law_1019 ?_
  refine tp_i (y := xs (i + 1)) (by rw [nI_clamp (n := i + 1) (by omega)]) ?_
  refine lv_aload_n hx hb dL_law_1020 rfl (lv_at hl 0 rfl) ?_
  refine lv_iload_n hx hb dL_law_1021 rfl (lv_at hl 3 rfl) ?_
  refine lv_iconst (v := 2) hx hb dL_law_1022 (by decide) ?_
  refine lv_iadd hx hb dL_law_1023 ?_
  refine tp_i (y := nI (i + 2)) (nI_add i 2) ?_
  refine va_sld hx hb hX hbl hbA hS (vp_in_nI (n := i + 2) (by omega) (by omega)) dL_law_1024 ?_
  refine tp_i (y := xs (i + 2)) (by rw [nI_clamp (n := i + 2) (by omega)]) ?_
  refine lv_aload_n hx hb dL_law_1025 rfl (lv_at hl 0 rfl) ?_
  refine lv_iload_n hx hb dL_law_1026 rfl (lv_at hl 3 rfl) ?_
  refine lv_iconst (v := 3) hx hb dL_law_1027 (by decide) ?_
  refine lv_iadd hx hb dL_law_1028 ?_
  refine tp_i (y := nI (i + 3)) (nI_add i 3) ?_
  refine va_sld hx hb hX hbl hbA hS (vp_in_nI (n := i + 3) (by omega) (by omega)) dL_law_1029 ?_
  refine tp_i (y := xs (i + 3)) (by rw [nI_clamp (n := i + 3) (by omega)]) ?_
  have hFc := free_all (vD_l hD) hS hA
  obtain ⟨k0, e0⟩ := xi_at X
  refine va_calli (va_runV (As := [.int (xs (i + 1)), .int (xs (i + 2)), .int (xs (i + 3))]) (rest := []) ⟨hx, hb, hml, hown, hts⟩ (h_step l D ρ ws tys fv ho lc bc rc fc (iv 2) tl (xs (i + 1)) (xs (i + 2)) (xs (i + 3)) H.size X) (cwV 3 hts gL_law_X8_step rfl rfl rfl (by decide +kernel) ⟨Nat.le_of_ble_eq_true rfl, Nat.le_of_ble_eq_true rfl⟩) ⟨fun a U g mk q => by obtain ⟨q0, q1, qP, qK, qD⟩ := q; exact ⟨q0, q1, qP, va_K.moved (u := U) (U := U.calling g mk a) (Vm.Alike.refl U.vm) qK, qD⟩, va_recv hKx (vP_l hP) (ci := 8) (q0 := k0) rfl e0.choose_spec, fun U hU hW => ⟨rfl, by rw [hU], by rw [hU]; exact vP_l hP, va_K.moved hW.alike hKx, (vD_l hD).weaken (fun _ _ _ _ => trivial)⟩⟩ rfl rfl hl.1 rfl (lv_room (Nat.le_of_ble_eq_true rfl)) dL_law_1030 ⟨by show cells + 0 ≤ 600000; omega, by show slots + 0 ≤ 7302250; omega⟩) hS (fun q _ h => hFc q h) hFc (fun r1 u1 t1 H1 locs1 ht1 hvm1 k1 hB1 hz1 hk1 hS => ?_)
  obtain ⟨ws1, ty1, -, hP1, hK1, hD1, X1⟩ := hB1
  rw [ht1] at hP1
  have hKx1 := va_K.moved hvm1.symm hK1
  obtain ⟨hP, hD⟩ := lj_l hP hD hk1 hFc hP1 hD1
  refine lv_pop hx hb dL_law_1033 rfl ?_
  refine lv_aload_n hx hb dL_law_1034 rfl (lv_at hl 2 rfl) ?_
  refine lv_aload_n hx hb dL_law_1035 rfl (lv_at hl 0 rfl) ?_
  refine lv_iload_n hx hb dL_law_1036 rfl (lv_at hl 3 rfl) ?_
  refine lv_iconst (v := 1) hx hb dL_law_1037 (by decide) ?_
  refine lv_iadd hx hb dL_law_1038 ?_
  refine tp_i (y := nI (i + 1)) (nI_add i 1) ?_
  refine va_sld hx hb hX hbl hbA hS (vp_in_nI (n := i + 1) (by omega) (by omega)) dL_law_1039 ?_
  refine tp_i (y := xs (i + 1)) (by rw [nI_clamp (n := i + 1) (by omega)]) ?_
  refine lv_aload_n hx hb dL_law_1040 rfl (lv_at hl 0 rfl) ?_
  refine lv_iload_n hx hb dL_law_1041 rfl (lv_at hl 3 rfl) ?_
  refine lv_iconst (v := 2) hx hb dL_law_1042 (by decide) ?_
  refine lv_iadd hx hb dL_law_1043 ?_
  refine tp_i (y := nI (i + 2)) (nI_add i 2) ?_
  refine va_sld hx hb hX hbl hbA hS (vp_in_nI (n := i + 2) (by omega) (by omega)) dL_law_1044 ?_
  refine tp_i (y := xs (i + 2)) (by rw [nI_clamp (n := i + 2) (by omega)]) ?_
  refine lv_aload_n hx hb dL_law_1045 rfl (lv_at hl 0 rfl) ?_
  refine lv_iload_n hx hb dL_law_1046 rfl (lv_at hl 3 rfl) ?_
  refine lv_iconst (v := 3) hx hb dL_law_1047 (by decide) ?_
  refine lv_iadd hx hb dL_law_1048 ?_
  refine tp_i (y := nI (i + 3)) (nI_add i 3) ?_
  refine va_sld hx hb hX hbl hbA hS (vp_in_nI (n := i + 3) (by omega) (by omega)) dL_law_1049 ?_
  refine tp_i (y := xs (i + 3)) (by rw [nI_clamp (n := i + 3) (by omega)]) ?_
  have hFm := free_all (vD_r hD) hS hA
  refine va_calli (va_runV (As := [.int (xs (i + 1)), .int (xs (i + 2)), .int (xs (i + 3))]) (rest := []) ⟨hx, hb, hml, hown, hts⟩ (m_step l D hm ad cs iv fv gv  (xs (i + 1)) (xs (i + 2)) (xs (i + 3)) H1.size  ) (cwV 3 hts gL_law_X9_step rfl rfl rfl (by decide +kernel) ⟨Nat.le_of_ble_eq_true rfl, Nat.le_of_ble_eq_true rfl⟩) ⟨fun a U g mk q => by obtain ⟨q0, q1, qP, qK, qD⟩ := q; exact ⟨q0, q1, qP, va_K.moved (u := U) (U := U.calling g mk a) (Vm.Alike.refl U.vm) qK, qD⟩, va_recv hKm (vP_r hP) (ci := 9) (q0 := 0) rfl rfl, fun U hU hW => ⟨rfl, by rw [hU], by rw [hU]; exact vP_r hP, va_K.moved hW.alike hKm, (vD_r hD).weaken (fun _ _ _ _ => trivial)⟩⟩ rfl rfl hl.1 rfl (lv_room (Nat.le_of_ble_eq_true rfl)) dL_law_1050 ⟨by show _ + 0 ≤ 600000; omega, by show _ + 0 ≤ 7302250; omega⟩) hS (fun q _ h => hFm q h) hFm (fun r2 u2 t2 H2 locs2 ht2 hvm2 k2 hB2 hz2 hk2 hS => ?_)
  subst k2
  obtain ⟨f8_, q0, hP2, hK2, hD2⟩ := hB2
  rw [ht2] at hP2
  obtain ⟨hP, hD⟩ := lj_r hP hD hk2 hFm hP2 hD2
  refine lv_pop hx hb dL_law_1053 rfl ?_
  refine lv_goto (tgt := 1269) hx hb dL_law_1054 (by decide) ?_
  have X2 : XI ρ (uF fv 8 f8_) ws1 ty1 ho lc bc rc fc (iv 2) tl := (by rcases X1 with ⟨n1, X1⟩ | ⟨n1, X1⟩ <;> rcases q0 with ⟨n2, -, e2⟩ | ⟨n2, -, e2⟩ <;> first | exact absurd n1 n2 | exact absurd n2 n1 | (rw [e2]; exact X1) | (rw [e2, uF_id]; exact X1))
  have V2 : NV (uF fv 8 f8_) lc := (nv_fv V rfl rfl (fun _ => rfl) (fun _ => rfl))
  have hb9 := xi_b X2
  have M2 : MI iv (uF fv 8 f8_) tl lc bc n14 fc := ⟨h1, hb9.2.2.2.2, h3, hb9.1, h13, b13, h14, b14, h43, b43, hN, hC⟩
  refine W.widen (k := cells + 10) (n := slots + 300) (by omega) (by omega) ?_
  exact KK ws1 ty1 iv (uF fv 8 f8_) gv _ _ ls ⟨ρ, lc, bc, rc, fc, tl, n14, hKx1, hKm, X2, M2, V2⟩ hP hD hS (lv_sub hl [0, 1, 2, 3] rfl)
set_option maxHeartbeats 8000000 in
set_option maxRecDepth 100000 in
/-- paid, on both sides -/
theorem law_23 {p : Program} {l : Launch} {e : Env} {s : State} {m : MethodId} {below : List Frame} {meth : Method} {c : Code} {b L : Nat} {xs : Nat → Int32} (C0 : lw_At p s m meth c b L xs) (i : Nat) (hi : i + 6 ≤ L) (hL : L ≤ 3072) (D : va_G) (adK adV : Nat → Nat) (fo : Option Nat) (hnz : NZ s) (hcz : CZ s) (hsz : SZ adK adV fo (fun q : Nat => s.heap.size ≤ q) s s.heap) (ho hm : Nat) (ad : Nat → Nat) (cs : Nat → ClassId) (iv : Nat → Int32) (fv : Nat → Nat → Int32) (gv : Nat → Int64) (ws : va_W) (tys : List (ClassId × FieldType)) (I0 : LI D s ws tys ho cs iv fv) {H : Heap} {locs : List Loc} (cells slots : Nat) (hc : cells + 10 ≤ 600000) (hs : slots + 300 ≤ 7302250) (hP : va_P D vwCl (ws ++ mw hm ad cs iv fv gv) H) (hD : va_D (fun q : Nat => s.heap.size ≤ q) (ws ++ mw hm ad cs iv fv gv)) (hS : va_S (fun q : Nat => s.heap.size ≤ q) s.heap H locs) {ls : Array Slot} (hl : lv_has ls 4 [(0, .ref b), (1, .ref ho), (2, .ref hm), (3, .int (nI i))]) (KK : ∀ (ws : va_W) (tys : List (ClassId × FieldType)) (iv : Nat → Int32) (fv : Nat → Nat → Int32) (gv : Nat → Int64) (H : Heap) (locs : List Loc) (ls : Array Slot), LI D s ws tys ho cs iv fv → va_P D vwCl (ws ++ mw hm ad cs iv fv gv) H → va_D (fun q : Nat => s.heap.size ≤ q) (ws ++ mw hm ad cs iv fv gv) → va_S (fun q : Nat => s.heap.size ≤ q) s.heap H locs → lv_has ls 4 [(0, .ref b), (1, .ref ho), (2, .ref hm), (3, .int (nI i))] → W p l e room_1 s m #[Value.ref b] below meth c H locs (cells + 10) (slots + 300) (lw_Z below #[Value.ref b] s) (F0 m 1269 ls [])) : W p l e room_1 s m #[Value.ref b] below meth c H locs cells slots (lw_Z below #[Value.ref b] s) (F0 m 1057 ls []) := by
  obtain ⟨hx, hb, hr, hml, hown, hts0, hX, hbl, hlocks, hgv⟩ := id C0
  have hts := fun w h => hts0 w (wsL_law_in w h)
  have hA : ∀ q : Nat, s.heap.size ≤ q → (fun q : Nat => s.heap.size ≤ q) q := fun _ h => h
  have hbA : ¬ (fun q : Nat => s.heap.size ≤ q) b := Nat.not_le.mpr hbl
  obtain ⟨ρ, lc, bc, rc, fc, tl, n14, hKx, hKm, X, ⟨h1, b1, h3, b3, h13, b13, h14, b14, h43, b43, hN, hC⟩, V⟩ := I0
  have hM := nv_all V b3
  have hZ := nv_z V
  refine lv_aload_n hx hb dL_law_1057 rfl (lv_at hl 1 rfl) ?_
  refine lv_aload_n hx hb dL_law_1058 rfl (lv_at hl 0 rfl) ?_
  refine lv_iload_n hx hb dL_law_1059 rfl (lv_at hl 3 rfl) ?_
  refine lv_iconst (v := 1) hx hb dL_law_1060 (by decide) ?_
  refine lv_iadd hx hb dL_law_1061 ?_
  refine tp_i (y := nI (i + 1)) (nI_add i 1) ?_
  refine va_sld hx hb hX hbl hbA hS (vp_in_nI (n := i + 1) (by omega) (by omega)) dL_law_1062 ?_
  refine tp_i (y := xs (i + 1)) (by rw [nI_clamp (n := i + 1) (by omega)]) ?_
  have hFc := free_all (vD_l hD) hS hA
  obtain ⟨k0, e0⟩ := xi_at X
  refine va_calll (va_runV (As := [.int (xs (i + 1))]) (rest := []) ⟨hx, hb, hml, hown, hts⟩ (h_paid l D ρ ws tys fv ho lc bc rc fc (iv 2) tl (xs (i + 1)) H.size X) (cwV 1 hts gL_law_X8_paid rfl rfl rfl (by decide +kernel) ⟨Nat.le_of_ble_eq_true rfl, Nat.le_of_ble_eq_true rfl⟩) ⟨fun a U g mk q => by obtain ⟨q0, q1, qP, qK, qD⟩ := q; exact ⟨q0, q1, qP, va_K.moved (u := U) (U := U.calling g mk a) (Vm.Alike.refl U.vm) qK, qD⟩, va_recv hKx (vP_l hP) (ci := 8) (q0 := k0) rfl e0.choose_spec, fun U hU hW => ⟨rfl, by rw [hU], by rw [hU]; exact vP_l hP, va_K.moved hW.alike hKx, (vD_l hD).weaken (fun _ _ _ _ => trivial)⟩⟩ rfl rfl hl.1 rfl (lv_room (Nat.le_of_ble_eq_true rfl)) dL_law_1063 ⟨by show cells + 0 ≤ 600000; omega, by show slots + 0 ≤ 7302250; omega⟩) hS (fun q _ h => hFc q h) hFc (fun r1 u1 t1 H1 locs1 ht1 hvm1 k1 hB1 hz1 hk1 hS => ?_)
  obtain ⟨ws1, ty1, -, hP1, hK1, hD1, X1⟩ := hB1
  rw [ht1] at hP1
  have hKx1 := va_K.moved hvm1.symm hK1
  obtain ⟨hP, hD⟩ := lj_l hP hD hk1 hFc hP1 hD1
  refine lv_pop2_2 hx hb dL_law_1066 rfl ?_
  refine lv_aload_n hx hb dL_law_1067 rfl (lv_at hl 2 rfl) ?_
  refine lv_aload_n hx hb dL_law_1068 rfl (lv_at hl 0 rfl) ?_
  refine lv_iload_n hx hb dL_law_1069 rfl (lv_at hl 3 rfl) ?_
  refine lv_iconst (v := 1) hx hb dL_law_1070 (by decide) ?_
  refine lv_iadd hx hb dL_law_1071 ?_
  refine tp_i (y := nI (i + 1)) (nI_add i 1) ?_
  refine va_sld hx hb hX hbl hbA hS (vp_in_nI (n := i + 1) (by omega) (by omega)) dL_law_1072 ?_
  refine tp_i (y := xs (i + 1)) (by rw [nI_clamp (n := i + 1) (by omega)]) ?_
  refine vp_callSl (W.runV (As := [.int (xs (i + 1))]) (rest := []) ⟨hx, hb, hml, hown, hts⟩ (m_paid l D hm ad cs iv fv gv lc (xs (i + 1)) h3 b3) (cwV 1 hts gL_law_X9_paid rfl rfl rfl (by decide +kernel) ⟨Nat.le_of_ble_eq_true rfl, Nat.le_of_ble_eq_true rfl⟩) ⟨fun a U g mk q => ⟨q.1, q.2.1, va_K.moved (u := U) (U := U.calling g mk a) (Vm.Alike.refl U.vm) q.2.2⟩, va_recv hKm (vP_r hP) (ci := 9) (q0 := 0) rfl rfl, fun U hU hW => ⟨rfl, by rw [hU]; exact vP_r hP, va_K.moved hW.alike hKm⟩⟩ rfl rfl hl.1 rfl (lv_room (Nat.le_of_ble_eq_true rfl)) dL_law_1073 ⟨by show _ + 0 ≤ 600000; omega, by show _ + 0 ≤ 7302250; omega⟩) (fun r2 k2 => ?_)
  refine lv_pop2_2 hx hb dL_law_1076 rfl ?_
  refine lv_goto (tgt := 1269) hx hb dL_law_1077 (by decide) ?_
  have X2 : XI ρ fv ws1 ty1 ho lc bc rc fc (iv 2) tl := (X1.fvx rfl rfl rfl rfl rfl rfl rfl rfl rfl rfl)
  have V2 : NV fv lc := (nv_fv V rfl rfl (fun _ => rfl) (fun _ => rfl))
  have hb9 := xi_b X2
  have M2 : MI iv fv tl lc bc n14 fc := ⟨h1, hb9.2.2.2.2, h3, hb9.1, h13, b13, h14, b14, h43, b43, hN, hC⟩
  refine W.widen (k := cells + 10) (n := slots + 300) (by omega) (by omega) ?_
  exact KK ws1 ty1 iv fv gv _ _ ls ⟨ρ, lc, bc, rc, fc, tl, n14, hKx1, hKm, X2, M2, V2⟩ hP hD hS (lv_sub hl [0, 1, 2, 3] rfl)
set_option maxHeartbeats 8000000 in
set_option maxRecDepth 100000 in
/-- blend, on both sides -/
theorem law_24 {p : Program} {l : Launch} {e : Env} {s : State} {m : MethodId} {below : List Frame} {meth : Method} {c : Code} {b L : Nat} {xs : Nat → Int32} (C0 : lw_At p s m meth c b L xs) (i : Nat) (hi : i + 6 ≤ L) (hL : L ≤ 3072) (D : va_G) (adK adV : Nat → Nat) (fo : Option Nat) (hnz : NZ s) (hcz : CZ s) (hsz : SZ adK adV fo (fun q : Nat => s.heap.size ≤ q) s s.heap) (ho hm : Nat) (ad : Nat → Nat) (cs : Nat → ClassId) (iv : Nat → Int32) (fv : Nat → Nat → Int32) (gv : Nat → Int64) (ws : va_W) (tys : List (ClassId × FieldType)) (I0 : LI D s ws tys ho cs iv fv) {H : Heap} {locs : List Loc} (cells slots : Nat) (hc : cells + 10 ≤ 600000) (hs : slots + 300 ≤ 7302250) (hP : va_P D vwCl (ws ++ mw hm ad cs iv fv gv) H) (hD : va_D (fun q : Nat => s.heap.size ≤ q) (ws ++ mw hm ad cs iv fv gv)) (hS : va_S (fun q : Nat => s.heap.size ≤ q) s.heap H locs) {ls : Array Slot} (hl : lv_has ls 4 [(0, .ref b), (1, .ref ho), (2, .ref hm), (3, .int (nI i))]) (KK : ∀ (ws : va_W) (tys : List (ClassId × FieldType)) (iv : Nat → Int32) (fv : Nat → Nat → Int32) (gv : Nat → Int64) (H : Heap) (locs : List Loc) (ls : Array Slot), LI D s ws tys ho cs iv fv → va_P D vwCl (ws ++ mw hm ad cs iv fv gv) H → va_D (fun q : Nat => s.heap.size ≤ q) (ws ++ mw hm ad cs iv fv gv) → va_S (fun q : Nat => s.heap.size ≤ q) s.heap H locs → lv_has ls 4 [(0, .ref b), (1, .ref ho), (2, .ref hm), (3, .int (nI i))] → W p l e room_1 s m #[Value.ref b] below meth c H locs (cells + 10) (slots + 300) (lw_Z below #[Value.ref b] s) (F0 m 1269 ls [])) : W p l e room_1 s m #[Value.ref b] below meth c H locs cells slots (lw_Z below #[Value.ref b] s) (F0 m 1080 ls []) := by
  obtain ⟨hx, hb, hr, hml, hown, hts0, hX, hbl, hlocks, hgv⟩ := id C0
  have hts := fun w h => hts0 w (wsL_law_in w h)
  have hA : ∀ q : Nat, s.heap.size ≤ q → (fun q : Nat => s.heap.size ≤ q) q := fun _ h => h
  have hbA : ¬ (fun q : Nat => s.heap.size ≤ q) b := Nat.not_le.mpr hbl
  obtain ⟨ρ, lc, bc, rc, fc, tl, n14, hKx, hKm, X, ⟨h1, b1, h3, b3, h13, b13, h14, b14, h43, b43, hN, hC⟩, V⟩ := I0
  have hM := nv_all V b3
  have hZ := nv_z V
  refine lv_aload_n hx hb dL_law_1080 rfl (lv_at hl 1 rfl) ?_
  refine lv_aload_n hx hb dL_law_1081 rfl (lv_at hl 0 rfl) ?_
  refine lv_iload_n hx hb dL_law_1082 rfl (lv_at hl 3 rfl) ?_
  refine lv_iconst (v := 1) hx hb dL_law_1083 (by decide) ?_
  refine lv_iadd hx hb dL_law_1084 ?_
  refine tp_i (y := nI (i + 1)) (nI_add i 1) ?_
  refine va_sld hx hb hX hbl hbA hS (vp_in_nI (n := i + 1) (by omega) (by omega)) dL_law_1085 ?_
  refine tp_i (y := xs (i + 1)) (by rw [nI_clamp (n := i + 1) (by omega)]) ?_
  refine lv_aload_n hx hb dL_law_1086 rfl (lv_at hl 0 rfl) ?_
  refine lv_iload_n hx hb dL_law_1087 rfl (lv_at hl 3 rfl) ?_
  refine lv_iconst (v := 2) hx hb dL_law_1088 (by decide) ?_
  refine lv_iadd hx hb dL_law_1089 ?_
  refine tp_i (y := nI (i + 2)) (nI_add i 2) ?_
  refine va_sld hx hb hX hbl hbA hS (vp_in_nI (n := i + 2) (by omega) (by omega)) dL_law_1090 ?_
  refine tp_i (y := xs (i + 2)) (by rw [nI_clamp (n := i + 2) (by omega)]) ?_
  refine lv_aload_n hx hb dL_law_1091 rfl (lv_at hl 0 rfl) ?_
  refine lv_iload_n hx hb dL_law_1092 rfl (lv_at hl 3 rfl) ?_
  refine lv_iconst (v := 3) hx hb dL_law_1093 (by decide) ?_
  refine lv_iadd hx hb dL_law_1094 ?_
  refine tp_i (y := nI (i + 3)) (nI_add i 3) ?_
  refine va_sld hx hb hX hbl hbA hS (vp_in_nI (n := i + 3) (by omega) (by omega)) dL_law_1095 ?_
  refine tp_i (y := xs (i + 3)) (by rw [nI_clamp (n := i + 3) (by omega)]) ?_
  refine lv_aload_n hx hb dL_law_1096 rfl (lv_at hl 0 rfl) ?_
  refine lv_iload_n hx hb dL_law_1097 rfl (lv_at hl 3 rfl) ?_
  refine lv_iconst (v := 4) hx hb dL_law_1098 (by decide) ?_
  refine lv_iadd hx hb dL_law_1099 ?_
  refine tp_i (y := nI (i + 4)) (nI_add i 4) ?_
  refine va_sld hx hb hX hbl hbA hS (vp_in_nI (n := i + 4) (by omega) (by omega)) dL_law_1100 ?_
  refine tp_i (y := xs (i + 4)) (by rw [nI_clamp (n := i + 4) (by omega)]) ?_
  refine lv_aload_n hx hb dL_law_1101 rfl (lv_at hl 0 rfl) ?_
  refine lv_iload_n hx hb dL_law_1102 rfl (lv_at hl 3 rfl) ?_
  refine lv_iconst (v := 5) hx hb dL_law_1103 (by decide) ?_
  refine lv_iadd hx hb dL_law_1104 ?_
  refine tp_i (y := nI (i + 5)) (nI_add i 5) ?_
  refine va_sld hx hb hX hbl hbA hS (vp_in_nI (n := i + 5) (by omega) (by omega)) dL_law_1105 ?_
  refine tp_i (y := xs (i + 5)) (by rw [nI_clamp (n := i + 5) (by omega)]) ?_
  have hFc := free_all (vD_l hD) hS hA
  obtain ⟨k0, e0⟩ := xi_at X
  refine va_calli (va_runV (As := [.int (xs (i + 1)), .int (xs (i + 2)), .int (xs (i + 3)), .int (xs (i + 4)), .int (xs (i + 5))]) (rest := []) ⟨hx, hb, hml, hown, hts⟩ (h_blend l D ρ ws tys fv ho lc bc rc fc (iv 2) tl (xs (i + 1)) (xs (i + 2)) (xs (i + 3)) (xs (i + 4)) (xs (i + 5)) H.size X) (cwV 5 hts gL_law_X8_blend rfl rfl rfl (by decide +kernel) ⟨Nat.le_of_ble_eq_true rfl, Nat.le_of_ble_eq_true rfl⟩) ⟨fun a U g mk q => by obtain ⟨q0, q1, qP, qK, qD, qZ⟩ := q; exact ⟨q0, q1, qP, va_K.moved (u := U) (U := U.calling g mk a) (Vm.Alike.refl U.vm) qK, qD, NZ.same rfl qZ⟩, va_recv hKx (vP_l hP) (ci := 8) (q0 := k0) rfl e0.choose_spec, fun U hU hW => ⟨rfl, by rw [hU], by rw [hU]; exact vP_l hP, va_K.moved hW.alike hKx, (vD_l hD).weaken (fun _ _ _ _ => trivial), NZ.warm hW hnz⟩⟩ rfl rfl hl.1 rfl (lv_room (Nat.le_of_ble_eq_true rfl)) dL_law_1106 ⟨by show cells + 0 ≤ 600000; omega, by show slots + 0 ≤ 7302250; omega⟩) hS (fun q _ h => hFc q h) hFc (fun r1 u1 t1 H1 locs1 ht1 hvm1 k1 hB1 hz1 hk1 hS => ?_)
  obtain ⟨ws1, ty1, -, -, hP1, hK1, hD1, X1⟩ := hB1
  rw [ht1] at hP1
  have hKx1 := va_K.moved hvm1.symm hK1
  obtain ⟨hP, hD⟩ := lj_l hP hD hk1 hFc hP1 hD1
  refine lv_pop hx hb dL_law_1109 rfl ?_
  refine lv_aload_n hx hb dL_law_1110 rfl (lv_at hl 2 rfl) ?_
  refine lv_aload_n hx hb dL_law_1111 rfl (lv_at hl 0 rfl) ?_
  refine lv_iload_n hx hb dL_law_1112 rfl (lv_at hl 3 rfl) ?_
  refine lv_iconst (v := 1) hx hb dL_law_1113 (by decide) ?_
  refine lv_iadd hx hb dL_law_1114 ?_
  refine tp_i (y := nI (i + 1)) (nI_add i 1) ?_
  refine va_sld hx hb hX hbl hbA hS (vp_in_nI (n := i + 1) (by omega) (by omega)) dL_law_1115 ?_
  refine tp_i (y := xs (i + 1)) (by rw [nI_clamp (n := i + 1) (by omega)]) ?_
  refine lv_aload_n hx hb dL_law_1116 rfl (lv_at hl 0 rfl) ?_
  refine lv_iload_n hx hb dL_law_1117 rfl (lv_at hl 3 rfl) ?_
  refine lv_iconst (v := 2) hx hb dL_law_1118 (by decide) ?_
  refine lv_iadd hx hb dL_law_1119 ?_
  refine tp_i (y := nI (i + 2)) (nI_add i 2) ?_
  refine va_sld hx hb hX hbl hbA hS (vp_in_nI (n := i + 2) (by omega) (by omega)) dL_law_1120 ?_
  refine tp_i (y := xs (i + 2)) (by rw [nI_clamp (n := i + 2) (by omega)]) ?_
  refine lv_aload_n hx hb dL_law_1121 rfl (lv_at hl 0 rfl) ?_
  refine lv_iload_n hx hb dL_law_1122 rfl (lv_at hl 3 rfl) ?_
  refine lv_iconst (v := 3) hx hb dL_law_1123 (by decide) ?_
  refine lv_iadd hx hb dL_law_1124 ?_
  refine tp_i (y := nI (i + 3)) (nI_add i 3) ?_
  refine va_sld hx hb hX hbl hbA hS (vp_in_nI (n := i + 3) (by omega) (by omega)) dL_law_1125 ?_
  refine tp_i (y := xs (i + 3)) (by rw [nI_clamp (n := i + 3) (by omega)]) ?_
  refine lv_aload_n hx hb dL_law_1126 rfl (lv_at hl 0 rfl) ?_
  refine lv_iload_n hx hb dL_law_1127 rfl (lv_at hl 3 rfl) ?_
  refine lv_iconst (v := 4) hx hb dL_law_1128 (by decide) ?_
  refine lv_iadd hx hb dL_law_1129 ?_
  refine tp_i (y := nI (i + 4)) (nI_add i 4) ?_
  refine va_sld hx hb hX hbl hbA hS (vp_in_nI (n := i + 4) (by omega) (by omega)) dL_law_1130 ?_
  refine tp_i (y := xs (i + 4)) (by rw [nI_clamp (n := i + 4) (by omega)]) ?_
  refine lv_aload_n hx hb dL_law_1131 rfl (lv_at hl 0 rfl) ?_
  refine lv_iload_n hx hb dL_law_1132 rfl (lv_at hl 3 rfl) ?_
  refine lv_iconst (v := 5) hx hb dL_law_1133 (by decide) ?_
  refine lv_iadd hx hb dL_law_1134 ?_
  refine tp_i (y := nI (i + 5)) (nI_add i 5) ?_
  refine va_sld hx hb hX hbl hbA hS (vp_in_nI (n := i + 5) (by omega) (by omega)) dL_law_1135 ?_
  refine tp_i (y := xs (i + 5)) (by rw [nI_clamp (n := i + 5) (by omega)]) ?_
  have hFm := free_all (vD_r hD) hS hA
  refine va_calli (va_runV (As := [.int (xs (i + 1)), .int (xs (i + 2)), .int (xs (i + 3)), .int (xs (i + 4)), .int (xs (i + 5))]) (rest := []) ⟨hx, hb, hml, hown, hts⟩ (m_blend l D hm ad cs iv fv gv lc (xs (i + 1)) (xs (i + 2)) (xs (i + 3)) (xs (i + 4)) (xs (i + 5)) H1.size h3 b3) (cwV 5 hts gL_law_X9_blend rfl rfl rfl (by decide +kernel) ⟨Nat.le_of_ble_eq_true rfl, Nat.le_of_ble_eq_true rfl⟩) ⟨fun a U g mk q => by obtain ⟨q0, q1, qP, qK, qD⟩ := q; exact ⟨q0, q1, qP, va_K.moved (u := U) (U := U.calling g mk a) (Vm.Alike.refl U.vm) qK, qD⟩, va_recv hKm (vP_r hP) (ci := 9) (q0 := 0) rfl rfl, fun U hU hW => ⟨rfl, by rw [hU], by rw [hU]; exact vP_r hP, va_K.moved hW.alike hKm, (vD_r hD).weaken (fun _ _ _ _ => trivial)⟩⟩ rfl rfl hl.1 rfl (lv_room (Nat.le_of_ble_eq_true rfl)) dL_law_1136 ⟨by show _ + 0 ≤ 600000; omega, by show _ + 0 ≤ 7302250; omega⟩) hS (fun q _ h => hFm q h) hFm (fun r2 u2 t2 H2 locs2 ht2 hvm2 k2 hB2 hz2 hk2 hS => ?_)
  subst k2
  obtain ⟨i35_, f36_, f37_, f38_, f39_, f40_, f41_, hP2, hK2, hD2⟩ := hB2
  rw [ht2] at hP2
  obtain ⟨hP, hD⟩ := lj_r hP hD hk2 hFm hP2 hD2
  refine lv_pop hx hb dL_law_1139 rfl ?_
  refine lv_goto (tgt := 1269) hx hb dL_law_1140 (by decide) ?_
  have X2 : XI ρ (uF (uF (uF (uF (uF (uF fv 36 f36_) 37 f37_) 38 f38_) 39 f39_) 40 f40_) 41 f41_) ws1 ty1 ho lc bc rc fc ((upd iv 35 i35_) 2) tl := (X1.fvx rfl rfl rfl rfl rfl rfl rfl rfl rfl rfl)
  have V2 : NV (uF (uF (uF (uF (uF (uF fv 36 f36_) 37 f37_) 38 f38_) 39 f39_) 40 f40_) 41 f41_) lc := (nv_fv V rfl rfl (fun _ => rfl) (fun _ => rfl))
  have hb9 := xi_b X2
  have M2 : MI (upd iv 35 i35_) (uF (uF (uF (uF (uF (uF fv 36 f36_) 37 f37_) 38 f38_) 39 f39_) 40 f40_) 41 f41_) tl lc bc n14 fc := ⟨h1, hb9.2.2.2.2, h3, hb9.1, h13, b13, h14, b14, h43, b43, hN, hC⟩
  refine W.widen (k := cells + 10) (n := slots + 300) (by omega) (by omega) ?_
  exact KK ws1 ty1 (upd iv 35 i35_) (uF (uF (uF (uF (uF (uF fv 36 f36_) 37 f37_) 38 f38_) 39 f39_) 40 f40_) 41 f41_) gv _ _ ls ⟨ρ, lc, bc, rc, fc, tl, n14, hKx1, hKm, X2, M2, V2⟩ hP hD hS (lv_sub hl [0, 1, 2, 3] rfl)
set_option maxHeartbeats 8000000 in
set_option maxRecDepth 100000 in
/-- parts, on both sides -/
theorem law_25 {p : Program} {l : Launch} {e : Env} {s : State} {m : MethodId} {below : List Frame} {meth : Method} {c : Code} {b L : Nat} {xs : Nat → Int32} (C0 : lw_At p s m meth c b L xs) (i : Nat) (hi : i + 6 ≤ L) (hL : L ≤ 3072) (D : va_G) (adK adV : Nat → Nat) (fo : Option Nat) (hnz : NZ s) (hcz : CZ s) (hsz : SZ adK adV fo (fun q : Nat => s.heap.size ≤ q) s s.heap) (ho hm : Nat) (ad : Nat → Nat) (cs : Nat → ClassId) (iv : Nat → Int32) (fv : Nat → Nat → Int32) (gv : Nat → Int64) (ws : va_W) (tys : List (ClassId × FieldType)) (I0 : LI D s ws tys ho cs iv fv) {H : Heap} {locs : List Loc} (cells slots : Nat) (hc : cells + 10 ≤ 600000) (hs : slots + 300 ≤ 7302250) (hP : va_P D vwCl (ws ++ mw hm ad cs iv fv gv) H) (hD : va_D (fun q : Nat => s.heap.size ≤ q) (ws ++ mw hm ad cs iv fv gv)) (hS : va_S (fun q : Nat => s.heap.size ≤ q) s.heap H locs) {ls : Array Slot} (hl : lv_has ls 4 [(0, .ref b), (1, .ref ho), (2, .ref hm), (3, .int (nI i))]) (KK : ∀ (ws : va_W) (tys : List (ClassId × FieldType)) (iv : Nat → Int32) (fv : Nat → Nat → Int32) (gv : Nat → Int64) (H : Heap) (locs : List Loc) (ls : Array Slot), LI D s ws tys ho cs iv fv → va_P D vwCl (ws ++ mw hm ad cs iv fv gv) H → va_D (fun q : Nat => s.heap.size ≤ q) (ws ++ mw hm ad cs iv fv gv) → va_S (fun q : Nat => s.heap.size ≤ q) s.heap H locs → lv_has ls 4 [(0, .ref b), (1, .ref ho), (2, .ref hm), (3, .int (nI i))] → W p l e room_1 s m #[Value.ref b] below meth c H locs (cells + 10) (slots + 300) (lw_Z below #[Value.ref b] s) (F0 m 1269 ls [])) : W p l e room_1 s m #[Value.ref b] below meth c H locs cells slots (lw_Z below #[Value.ref b] s) (F0 m 1143 ls []) := by
  obtain ⟨hx, hb, hr, hml, hown, hts0, hX, hbl, hlocks, hgv⟩ := id C0
  have hts := fun w h => hts0 w (wsL_law_in w h)
  have hA : ∀ q : Nat, s.heap.size ≤ q → (fun q : Nat => s.heap.size ≤ q) q := fun _ h => h
  have hbA : ¬ (fun q : Nat => s.heap.size ≤ q) b := Nat.not_le.mpr hbl
  obtain ⟨ρ, lc, bc, rc, fc, tl, n14, hKx, hKm, X, ⟨h1, b1, h3, b3, h13, b13, h14, b14, h43, b43, hN, hC⟩, V⟩ := I0
  have hM := nv_all V b3
  have hZ := nv_z V
  refine lv_aload_n hx hb dL_law_1143 rfl (lv_at hl 1 rfl) ?_
  refine lv_aload_n hx hb dL_law_1144 rfl (lv_at hl 0 rfl) ?_
  refine lv_iload_n hx hb dL_law_1145 rfl (lv_at hl 3 rfl) ?_
  refine lv_iconst (v := 1) hx hb dL_law_1146 (by decide) ?_
  refine lv_iadd hx hb dL_law_1147 ?_
  refine tp_i (y := nI (i + 1)) (nI_add i 1) ?_
  refine va_sld hx hb hX hbl hbA hS (vp_in_nI (n := i + 1) (by omega) (by omega)) dL_law_1148 ?_
  refine tp_i (y := xs (i + 1)) (by rw [nI_clamp (n := i + 1) (by omega)]) ?_
  have hFc := free_all (vD_l hD) hS hA
  obtain ⟨k0, e0⟩ := xi_at X
  refine va_calli (va_runV (As := [.int (xs (i + 1))]) (rest := []) ⟨hx, hb, hml, hown, hts⟩ (h_parts l D ρ ws tys fv ho lc bc rc fc (iv 2) tl (xs (i + 1)) H.size X) (cwV 1 hts gL_law_X8_parts rfl rfl rfl (by decide +kernel) ⟨Nat.le_of_ble_eq_true rfl, Nat.le_of_ble_eq_true rfl⟩) ⟨fun a U g mk q => by obtain ⟨q0, q1, qP, qK, qD⟩ := q; exact ⟨q0, q1, qP, va_K.moved (u := U) (U := U.calling g mk a) (Vm.Alike.refl U.vm) qK, qD⟩, va_recv hKx (vP_l hP) (ci := 8) (q0 := k0) rfl e0.choose_spec, fun U hU hW => ⟨rfl, by rw [hU], by rw [hU]; exact vP_l hP, va_K.moved hW.alike hKx, (vD_l hD).weaken (fun _ _ _ _ => trivial)⟩⟩ rfl rfl hl.1 rfl (lv_room (Nat.le_of_ble_eq_true rfl)) dL_law_1149 ⟨by show cells + 0 ≤ 600000; omega, by show slots + 0 ≤ 7302250; omega⟩) hS (fun q _ h => hFc q h) hFc (fun r1 u1 t1 H1 locs1 ht1 hvm1 k1 hB1 hz1 hk1 hS => ?_)
  obtain ⟨ws1, ty1, -, -, hP1, hK1, hD1, X1⟩ := hB1
  rw [ht1] at hP1
  have hKx1 := va_K.moved hvm1.symm hK1
  obtain ⟨hP, hD⟩ := lj_l hP hD hk1 hFc hP1 hD1
  refine lv_pop hx hb dL_law_1152 rfl ?_
  refine lv_aload_n hx hb dL_law_1153 rfl (lv_at hl 2 rfl) ?_
  refine lv_aload_n hx hb dL_law_1154 rfl (lv_at hl 0 rfl) ?_
  refine lv_iload_n hx hb dL_law_1155 rfl (lv_at hl 3 rfl) ?_
  refine lv_iconst (v := 1) hx hb dL_law_1156 (by decide) ?_
  refine lv_iadd hx hb dL_law_1157 ?_
  refine tp_i (y := nI (i + 1)) (nI_add i 1) ?_
  refine va_sld hx hb hX hbl hbA hS (vp_in_nI (n := i + 1) (by omega) (by omega)) dL_law_1158 ?_
  refine tp_i (y := xs (i + 1)) (by rw [nI_clamp (n := i + 1) (by omega)]) ?_
  refine vp_callSi (W.runV (As := [.int (xs (i + 1))]) (rest := []) ⟨hx, hb, hml, hown, hts⟩ (m_parts l D hm ad cs iv fv gv  (xs (i + 1))  ) (cwV 1 hts gL_law_X9_parts rfl rfl rfl (by decide +kernel) ⟨Nat.le_of_ble_eq_true rfl, Nat.le_of_ble_eq_true rfl⟩) ⟨fun a U g mk q => ⟨q.1, q.2.1, va_K.moved (u := U) (U := U.calling g mk a) (Vm.Alike.refl U.vm) q.2.2⟩, va_recv hKm (vP_r hP) (ci := 9) (q0 := 0) rfl rfl, fun U hU hW => ⟨rfl, by rw [hU]; exact vP_r hP, va_K.moved hW.alike hKm⟩⟩ rfl rfl hl.1 rfl (lv_room (Nat.le_of_ble_eq_true rfl)) dL_law_1159 ⟨by show _ + 0 ≤ 600000; omega, by show _ + 0 ≤ 7302250; omega⟩) (fun r2 k2 => ?_)
  refine lv_pop hx hb dL_law_1162 rfl ?_
  refine lv_goto (tgt := 1269) hx hb dL_law_1163 (by decide) ?_
  have X2 : XI ρ fv ws1 ty1 ho lc bc rc fc (iv 2) tl := (X1.fvx rfl rfl rfl rfl rfl rfl rfl rfl rfl rfl)
  have V2 : NV fv lc := (nv_fv V rfl rfl (fun _ => rfl) (fun _ => rfl))
  have hb9 := xi_b X2
  have M2 : MI iv fv tl lc bc n14 fc := ⟨h1, hb9.2.2.2.2, h3, hb9.1, h13, b13, h14, b14, h43, b43, hN, hC⟩
  refine W.widen (k := cells + 10) (n := slots + 300) (by omega) (by omega) ?_
  exact KK ws1 ty1 iv fv gv _ _ ls ⟨ρ, lc, bc, rc, fc, tl, n14, hKx1, hKm, X2, M2, V2⟩ hP hD hS (lv_sub hl [0, 1, 2, 3] rfl)
set_option maxHeartbeats 8000000 in
set_option maxRecDepth 100000 in
/-- trace, on both sides -/
theorem law_26 {p : Program} {l : Launch} {e : Env} {s : State} {m : MethodId} {below : List Frame} {meth : Method} {c : Code} {b L : Nat} {xs : Nat → Int32} (C0 : lw_At p s m meth c b L xs) (i : Nat) (hi : i + 6 ≤ L) (hL : L ≤ 3072) (D : va_G) (adK adV : Nat → Nat) (fo : Option Nat) (hnz : NZ s) (hcz : CZ s) (hsz : SZ adK adV fo (fun q : Nat => s.heap.size ≤ q) s s.heap) (ho hm : Nat) (ad : Nat → Nat) (cs : Nat → ClassId) (iv : Nat → Int32) (fv : Nat → Nat → Int32) (gv : Nat → Int64) (ws : va_W) (tys : List (ClassId × FieldType)) (I0 : LI D s ws tys ho cs iv fv) {H : Heap} {locs : List Loc} (cells slots : Nat) (hc : cells + 10 ≤ 600000) (hs : slots + 300 ≤ 7302250) (hP : va_P D vwCl (ws ++ mw hm ad cs iv fv gv) H) (hD : va_D (fun q : Nat => s.heap.size ≤ q) (ws ++ mw hm ad cs iv fv gv)) (hS : va_S (fun q : Nat => s.heap.size ≤ q) s.heap H locs) {ls : Array Slot} (hl : lv_has ls 4 [(0, .ref b), (1, .ref ho), (2, .ref hm), (3, .int (nI i))]) (KK : ∀ (ws : va_W) (tys : List (ClassId × FieldType)) (iv : Nat → Int32) (fv : Nat → Nat → Int32) (gv : Nat → Int64) (H : Heap) (locs : List Loc) (ls : Array Slot), LI D s ws tys ho cs iv fv → va_P D vwCl (ws ++ mw hm ad cs iv fv gv) H → va_D (fun q : Nat => s.heap.size ≤ q) (ws ++ mw hm ad cs iv fv gv) → va_S (fun q : Nat => s.heap.size ≤ q) s.heap H locs → lv_has ls 4 [(0, .ref b), (1, .ref ho), (2, .ref hm), (3, .int (nI i))] → W p l e room_1 s m #[Value.ref b] below meth c H locs (cells + 10) (slots + 300) (lw_Z below #[Value.ref b] s) (F0 m 1269 ls [])) : W p l e room_1 s m #[Value.ref b] below meth c H locs cells slots (lw_Z below #[Value.ref b] s) (F0 m 1166 ls []) := by
  obtain ⟨hx, hb, hr, hml, hown, hts0, hX, hbl, hlocks, hgv⟩ := id C0
  have hts := fun w h => hts0 w (wsL_law_in w h)
  have hA : ∀ q : Nat, s.heap.size ≤ q → (fun q : Nat => s.heap.size ≤ q) q := fun _ h => h
  have hbA : ¬ (fun q : Nat => s.heap.size ≤ q) b := Nat.not_le.mpr hbl
  obtain ⟨ρ, lc, bc, rc, fc, tl, n14, hKx, hKm, X, ⟨h1, b1, h3, b3, h13, b13, h14, b14, h43, b43, hN, hC⟩, V⟩ := I0
  have hM := nv_all V b3
  have hZ := nv_z V
  refine lv_aload_n hx hb dL_law_1166 rfl (lv_at hl 1 rfl) ?_
  refine lv_aload_n hx hb dL_law_1167 rfl (lv_at hl 0 rfl) ?_
  refine lv_iload_n hx hb dL_law_1168 rfl (lv_at hl 3 rfl) ?_
  refine lv_iconst (v := 1) hx hb dL_law_1169 (by decide) ?_
  refine lv_iadd hx hb dL_law_1170 ?_
  refine tp_i (y := nI (i + 1)) (nI_add i 1) ?_
  refine va_sld hx hb hX hbl hbA hS (vp_in_nI (n := i + 1) (by omega) (by omega)) dL_law_1171 ?_
  refine tp_i (y := xs (i + 1)) (by rw [nI_clamp (n := i + 1) (by omega)]) ?_
  have hFc := free_all (vD_l hD) hS hA
  obtain ⟨k0, e0⟩ := xi_at X
  refine va_calli (va_runV (As := [.int (xs (i + 1))]) (rest := []) ⟨hx, hb, hml, hown, hts⟩ (h_trace l D ρ ws tys fv ho lc bc rc fc (iv 2) tl (xs (i + 1)) H.size X V) (cwV 1 hts gL_law_X8_trace rfl rfl rfl (by decide +kernel) ⟨Nat.le_of_ble_eq_true rfl, Nat.le_of_ble_eq_true rfl⟩) ⟨fun a U g mk q => by obtain ⟨q0, q1, qP, qK, qD⟩ := q; exact ⟨q0, q1, qP, va_K.moved (u := U) (U := U.calling g mk a) (Vm.Alike.refl U.vm) qK, qD⟩, va_recv hKx (vP_l hP) (ci := 8) (q0 := k0) rfl e0.choose_spec, fun U hU hW => ⟨rfl, by rw [hU], by rw [hU]; exact vP_l hP, va_K.moved hW.alike hKx, (vD_l hD).weaken (fun _ _ _ _ => trivial)⟩⟩ rfl rfl hl.1 rfl (lv_room (Nat.le_of_ble_eq_true rfl)) dL_law_1172 ⟨by show cells + 0 ≤ 600000; omega, by show slots + 0 ≤ 7302250; omega⟩) hS (fun q _ h => hFc q h) hFc (fun r1 u1 t1 H1 locs1 ht1 hvm1 k1 hB1 hz1 hk1 hS => ?_)
  obtain ⟨ws1, ty1, -, hP1, hK1, hD1, X1⟩ := hB1
  rw [ht1] at hP1
  have hKx1 := va_K.moved hvm1.symm hK1
  obtain ⟨hP, hD⟩ := lj_l hP hD hk1 hFc hP1 hD1
  refine lv_pop hx hb dL_law_1175 rfl ?_
  refine lv_aload_n hx hb dL_law_1176 rfl (lv_at hl 2 rfl) ?_
  refine lv_aload_n hx hb dL_law_1177 rfl (lv_at hl 0 rfl) ?_
  refine lv_iload_n hx hb dL_law_1178 rfl (lv_at hl 3 rfl) ?_
  refine lv_iconst (v := 1) hx hb dL_law_1179 (by decide) ?_
  refine lv_iadd hx hb dL_law_1180 ?_
  refine tp_i (y := nI (i + 1)) (nI_add i 1) ?_
  refine va_sld hx hb hX hbl hbA hS (vp_in_nI (n := i + 1) (by omega) (by omega)) dL_law_1181 ?_
  refine tp_i (y := xs (i + 1)) (by rw [nI_clamp (n := i + 1) (by omega)]) ?_
  have hFm := free_all (vD_r hD) hS hA
  refine va_calli (va_runV (As := [.int (xs (i + 1))]) (rest := []) ⟨hx, hb, hml, hown, hts⟩ (m_trace l D hm ad cs iv fv gv lc bc fc (xs (i + 1)) H1.size h3 h13 h43 b3 b13 b43) (cwV 1 hts gL_law_X9_trace rfl rfl rfl (by decide +kernel) ⟨Nat.le_of_ble_eq_true rfl, Nat.le_of_ble_eq_true rfl⟩) ⟨fun a U g mk q => by obtain ⟨q0, q1, qP, qK, qD⟩ := q; exact ⟨q0, q1, qP, va_K.moved (u := U) (U := U.calling g mk a) (Vm.Alike.refl U.vm) qK, qD⟩, va_recv hKm (vP_r hP) (ci := 9) (q0 := 0) rfl rfl, fun U hU hW => ⟨rfl, by rw [hU], by rw [hU]; exact vP_r hP, va_K.moved hW.alike hKm, (vD_r hD).weaken (fun _ _ _ _ => trivial)⟩⟩ rfl rfl hl.1 rfl (lv_room (Nat.le_of_ble_eq_true rfl)) dL_law_1182 ⟨by show _ + 0 ≤ 600000; omega, by show _ + 0 ≤ 7302250; omega⟩) hS (fun q _ h => hFm q h) hFm (fun r2 u2 t2 H2 locs2 ht2 hvm2 k2 hB2 hz2 hk2 hS => ?_)
  subst k2
  obtain ⟨k43_, f42_, q0, q1, hP2, hK2, hD2⟩ := hB2
  rw [ht2] at hP2
  obtain ⟨hP, hD⟩ := lj_r hP hD hk2 hFm hP2 hD2
  refine lv_pop hx hb dL_law_1185 rfl ?_
  refine lv_goto (tgt := 1269) hx hb dL_law_1186 (by decide) ?_
  have X2 : XI ρ (uF fv 42 f42_) ws1 ty1 ho lc bc rc k43_ ((upd iv 43 (nI k43_)) 2) tl := (by rcases X1 with ⟨n1, X1⟩ | ⟨n1, X1⟩ <;> rcases q1 with ⟨n2, -, e2⟩ | ⟨n2, -, e2⟩ <;> first | exact absurd n1 n2 | exact absurd n2 n1 | (rw [e2.1, e2.2]; exact X1) | (rw [e2.1, e2.2, uF_id]; exact X1))
  have V2 : NV (uF fv 42 f42_) lc := (nv_fv V rfl rfl (fun _ => rfl) (fun _ => rfl))
  have hb9 := xi_b X2
  have M2 : MI (upd iv 43 (nI k43_)) (uF fv 42 f42_) tl lc bc n14 k43_ := ⟨h1, hb9.2.2.2.2, h3, hb9.1, h13, b13, h14, b14, rfl, q0, hN, hC⟩
  refine W.widen (k := cells + 10) (n := slots + 300) (by omega) (by omega) ?_
  exact KK ws1 ty1 (upd iv 43 (nI k43_)) (uF fv 42 f42_) gv _ _ ls ⟨ρ, lc, bc, rc, k43_, tl, n14, hKx1, hKm, X2, M2, V2⟩ hP hD hS (lv_sub hl [0, 1, 2, 3] rfl)
set_option maxHeartbeats 8000000 in
set_option maxRecDepth 100000 in
/-- found, on both sides -/
theorem law_27 {p : Program} {l : Launch} {e : Env} {s : State} {m : MethodId} {below : List Frame} {meth : Method} {c : Code} {b L : Nat} {xs : Nat → Int32} (C0 : lw_At p s m meth c b L xs) (i : Nat) (hi : i + 6 ≤ L) (hL : L ≤ 3072) (D : va_G) (adK adV : Nat → Nat) (fo : Option Nat) (hnz : NZ s) (hcz : CZ s) (hsz : SZ adK adV fo (fun q : Nat => s.heap.size ≤ q) s s.heap) (ho hm : Nat) (ad : Nat → Nat) (cs : Nat → ClassId) (iv : Nat → Int32) (fv : Nat → Nat → Int32) (gv : Nat → Int64) (ws : va_W) (tys : List (ClassId × FieldType)) (I0 : LI D s ws tys ho cs iv fv) {H : Heap} {locs : List Loc} (cells slots : Nat) (hc : cells + 10 ≤ 600000) (hs : slots + 300 ≤ 7302250) (hP : va_P D vwCl (ws ++ mw hm ad cs iv fv gv) H) (hD : va_D (fun q : Nat => s.heap.size ≤ q) (ws ++ mw hm ad cs iv fv gv)) (hS : va_S (fun q : Nat => s.heap.size ≤ q) s.heap H locs) {ls : Array Slot} (hl : lv_has ls 4 [(0, .ref b), (1, .ref ho), (2, .ref hm), (3, .int (nI i))]) (KK : ∀ (ws : va_W) (tys : List (ClassId × FieldType)) (iv : Nat → Int32) (fv : Nat → Nat → Int32) (gv : Nat → Int64) (H : Heap) (locs : List Loc) (ls : Array Slot), LI D s ws tys ho cs iv fv → va_P D vwCl (ws ++ mw hm ad cs iv fv gv) H → va_D (fun q : Nat => s.heap.size ≤ q) (ws ++ mw hm ad cs iv fv gv) → va_S (fun q : Nat => s.heap.size ≤ q) s.heap H locs → lv_has ls 4 [(0, .ref b), (1, .ref ho), (2, .ref hm), (3, .int (nI i))] → W p l e room_1 s m #[Value.ref b] below meth c H locs (cells + 10) (slots + 300) (lw_Z below #[Value.ref b] s) (F0 m 1269 ls [])) : W p l e room_1 s m #[Value.ref b] below meth c H locs cells slots (lw_Z below #[Value.ref b] s) (F0 m 1189 ls []) := by
  obtain ⟨hx, hb, hr, hml, hown, hts0, hX, hbl, hlocks, hgv⟩ := id C0
  have hts := fun w h => hts0 w (wsL_law_in w h)
  have hA : ∀ q : Nat, s.heap.size ≤ q → (fun q : Nat => s.heap.size ≤ q) q := fun _ h => h
  have hbA : ¬ (fun q : Nat => s.heap.size ≤ q) b := Nat.not_le.mpr hbl
  obtain ⟨ρ, lc, bc, rc, fc, tl, n14, hKx, hKm, X, ⟨h1, b1, h3, b3, h13, b13, h14, b14, h43, b43, hN, hC⟩, V⟩ := I0
  have hM := nv_all V b3
  have hZ := nv_z V
  refine lv_aload_n hx hb dL_law_1189 rfl (lv_at hl 1 rfl) ?_
  refine lv_aload_n hx hb dL_law_1190 rfl (lv_at hl 0 rfl) ?_
  refine lv_iload_n hx hb dL_law_1191 rfl (lv_at hl 3 rfl) ?_
  refine lv_iconst (v := 1) hx hb dL_law_1192 (by decide) ?_
  refine lv_iadd hx hb dL_law_1193 ?_
  refine tp_i (y := nI (i + 1)) (nI_add i 1) ?_
  refine va_sld hx hb hX hbl hbA hS (vp_in_nI (n := i + 1) (by omega) (by omega)) dL_law_1194 ?_
  refine tp_i (y := xs (i + 1)) (by rw [nI_clamp (n := i + 1) (by omega)]) ?_
  have hFc := free_all (vD_l hD) hS hA
  obtain ⟨k0, e0⟩ := xi_at X
  refine va_calli (va_runV (As := [.int (xs (i + 1))]) (rest := []) ⟨hx, hb, hml, hown, hts⟩ (h_found l D ρ ws tys fv ho lc bc rc fc (iv 2) tl (xs (i + 1)) H.size X) (cwV 1 hts gL_law_X8_found rfl rfl rfl (by decide +kernel) ⟨Nat.le_of_ble_eq_true rfl, Nat.le_of_ble_eq_true rfl⟩) ⟨fun a U g mk q => by obtain ⟨q0, q1, qP, qK, qD⟩ := q; exact ⟨q0, q1, qP, va_K.moved (u := U) (U := U.calling g mk a) (Vm.Alike.refl U.vm) qK, qD⟩, va_recv hKx (vP_l hP) (ci := 8) (q0 := k0) rfl e0.choose_spec, fun U hU hW => ⟨rfl, by rw [hU], by rw [hU]; exact vP_l hP, va_K.moved hW.alike hKx, (vD_l hD).weaken (fun _ _ _ _ => trivial)⟩⟩ rfl rfl hl.1 rfl (lv_room (Nat.le_of_ble_eq_true rfl)) dL_law_1195 ⟨by show cells + 0 ≤ 600000; omega, by show slots + 0 ≤ 7302250; omega⟩) hS (fun q _ h => hFc q h) hFc (fun r1 u1 t1 H1 locs1 ht1 hvm1 k1 hB1 hz1 hk1 hS => ?_)
  obtain ⟨ws1, ty1, -, hP1, hK1, hD1, X1⟩ := hB1
  rw [ht1] at hP1
  have hKx1 := va_K.moved hvm1.symm hK1
  obtain ⟨hP, hD⟩ := lj_l hP hD hk1 hFc hP1 hD1
  refine lv_pop hx hb dL_law_1198 rfl ?_
  refine lv_aload_n hx hb dL_law_1199 rfl (lv_at hl 2 rfl) ?_
  refine lv_aload_n hx hb dL_law_1200 rfl (lv_at hl 0 rfl) ?_
  refine lv_iload_n hx hb dL_law_1201 rfl (lv_at hl 3 rfl) ?_
  refine lv_iconst (v := 1) hx hb dL_law_1202 (by decide) ?_
  refine lv_iadd hx hb dL_law_1203 ?_
  refine tp_i (y := nI (i + 1)) (nI_add i 1) ?_
  refine va_sld hx hb hX hbl hbA hS (vp_in_nI (n := i + 1) (by omega) (by omega)) dL_law_1204 ?_
  refine tp_i (y := xs (i + 1)) (by rw [nI_clamp (n := i + 1) (by omega)]) ?_
  refine vp_callSi (W.runV (As := [.int (xs (i + 1))]) (rest := []) ⟨hx, hb, hml, hown, hts⟩ (m_found l D hm ad cs iv fv gv fc (xs (i + 1)) h43 b43) (cwV 1 hts gL_law_X9_found rfl rfl rfl (by decide +kernel) ⟨Nat.le_of_ble_eq_true rfl, Nat.le_of_ble_eq_true rfl⟩) ⟨fun a U g mk q => ⟨q.1, q.2.1, va_K.moved (u := U) (U := U.calling g mk a) (Vm.Alike.refl U.vm) q.2.2⟩, va_recv hKm (vP_r hP) (ci := 9) (q0 := 0) rfl rfl, fun U hU hW => ⟨rfl, by rw [hU]; exact vP_r hP, va_K.moved hW.alike hKm⟩⟩ rfl rfl hl.1 rfl (lv_room (Nat.le_of_ble_eq_true rfl)) dL_law_1205 ⟨by show _ + 0 ≤ 600000; omega, by show _ + 0 ≤ 7302250; omega⟩) (fun r2 k2 => ?_)
  refine lv_pop hx hb dL_law_1208 rfl ?_
  refine lv_goto (tgt := 1269) hx hb dL_law_1209 (by decide) ?_
  have X2 : XI ρ fv ws1 ty1 ho lc bc rc fc (iv 2) tl := (X1.fvx rfl rfl rfl rfl rfl rfl rfl rfl rfl rfl)
  have V2 : NV fv lc := (nv_fv V rfl rfl (fun _ => rfl) (fun _ => rfl))
  have hb9 := xi_b X2
  have M2 : MI iv fv tl lc bc n14 fc := ⟨h1, hb9.2.2.2.2, h3, hb9.1, h13, b13, h14, b14, h43, b43, hN, hC⟩
  refine W.widen (k := cells + 10) (n := slots + 300) (by omega) (by omega) ?_
  exact KK ws1 ty1 iv fv gv _ _ ls ⟨ρ, lc, bc, rc, fc, tl, n14, hKx1, hKm, X2, M2, V2⟩ hP hD hS (lv_sub hl [0, 1, 2, 3] rfl)
set_option maxHeartbeats 8000000 in
set_option maxRecDepth 100000 in
/-- whose, on both sides -/
theorem law_28 {p : Program} {l : Launch} {e : Env} {s : State} {m : MethodId} {below : List Frame} {meth : Method} {c : Code} {b L : Nat} {xs : Nat → Int32} (C0 : lw_At p s m meth c b L xs) (i : Nat) (hi : i + 6 ≤ L) (hL : L ≤ 3072) (D : va_G) (adK adV : Nat → Nat) (fo : Option Nat) (hnz : NZ s) (hcz : CZ s) (hsz : SZ adK adV fo (fun q : Nat => s.heap.size ≤ q) s s.heap) (ho hm : Nat) (ad : Nat → Nat) (cs : Nat → ClassId) (iv : Nat → Int32) (fv : Nat → Nat → Int32) (gv : Nat → Int64) (ws : va_W) (tys : List (ClassId × FieldType)) (I0 : LI D s ws tys ho cs iv fv) {H : Heap} {locs : List Loc} (cells slots : Nat) (hc : cells + 10 ≤ 600000) (hs : slots + 300 ≤ 7302250) (hP : va_P D vwCl (ws ++ mw hm ad cs iv fv gv) H) (hD : va_D (fun q : Nat => s.heap.size ≤ q) (ws ++ mw hm ad cs iv fv gv)) (hS : va_S (fun q : Nat => s.heap.size ≤ q) s.heap H locs) {ls : Array Slot} (hl : lv_has ls 4 [(0, .ref b), (1, .ref ho), (2, .ref hm), (3, .int (nI i))]) (KK : ∀ (ws : va_W) (tys : List (ClassId × FieldType)) (iv : Nat → Int32) (fv : Nat → Nat → Int32) (gv : Nat → Int64) (H : Heap) (locs : List Loc) (ls : Array Slot), LI D s ws tys ho cs iv fv → va_P D vwCl (ws ++ mw hm ad cs iv fv gv) H → va_D (fun q : Nat => s.heap.size ≤ q) (ws ++ mw hm ad cs iv fv gv) → va_S (fun q : Nat => s.heap.size ≤ q) s.heap H locs → lv_has ls 4 [(0, .ref b), (1, .ref ho), (2, .ref hm), (3, .int (nI i))] → W p l e room_1 s m #[Value.ref b] below meth c H locs (cells + 10) (slots + 300) (lw_Z below #[Value.ref b] s) (F0 m 1269 ls [])) : W p l e room_1 s m #[Value.ref b] below meth c H locs cells slots (lw_Z below #[Value.ref b] s) (F0 m 1212 ls []) := by
  obtain ⟨hx, hb, hr, hml, hown, hts0, hX, hbl, hlocks, hgv⟩ := id C0
  have hts := fun w h => hts0 w (wsL_law_in w h)
  have hA : ∀ q : Nat, s.heap.size ≤ q → (fun q : Nat => s.heap.size ≤ q) q := fun _ h => h
  have hbA : ¬ (fun q : Nat => s.heap.size ≤ q) b := Nat.not_le.mpr hbl
  obtain ⟨ρ, lc, bc, rc, fc, tl, n14, hKx, hKm, X, ⟨h1, b1, h3, b3, h13, b13, h14, b14, h43, b43, hN, hC⟩, V⟩ := I0
  have hM := nv_all V b3
  have hZ := nv_z V
  refine lv_aload_n hx hb dL_law_1212 rfl (lv_at hl 1 rfl) ?_
  refine lv_aload_n hx hb dL_law_1213 rfl (lv_at hl 0 rfl) ?_
  refine lv_iload_n hx hb dL_law_1214 rfl (lv_at hl 3 rfl) ?_
  refine lv_iconst (v := 1) hx hb dL_law_1215 (by decide) ?_
  refine lv_iadd hx hb dL_law_1216 ?_
  refine tp_i (y := nI (i + 1)) (nI_add i 1) ?_
  refine va_sld hx hb hX hbl hbA hS (vp_in_nI (n := i + 1) (by omega) (by omega)) dL_law_1217 ?_
  refine tp_i (y := xs (i + 1)) (by rw [nI_clamp (n := i + 1) (by omega)]) ?_
  refine lv_aload_n hx hb dL_law_1218 rfl (lv_at hl 0 rfl) ?_
  refine lv_iload_n hx hb dL_law_1219 rfl (lv_at hl 3 rfl) ?_
  refine lv_iconst (v := 2) hx hb dL_law_1220 (by decide) ?_
  refine lv_iadd hx hb dL_law_1221 ?_
  refine tp_i (y := nI (i + 2)) (nI_add i 2) ?_
  refine va_sld hx hb hX hbl hbA hS (vp_in_nI (n := i + 2) (by omega) (by omega)) dL_law_1222 ?_
  refine tp_i (y := xs (i + 2)) (by rw [nI_clamp (n := i + 2) (by omega)]) ?_
  have hFc := free_all (vD_l hD) hS hA
  obtain ⟨k0, e0⟩ := xi_at X
  refine va_calll (va_runV (As := [.int (xs (i + 1)), .int (xs (i + 2))]) (rest := []) ⟨hx, hb, hml, hown, hts⟩ (h_whose l D ρ ws tys fv ho lc bc rc fc (iv 2) tl (xs (i + 1)) (xs (i + 2)) H.size X) (cwV 2 hts gL_law_X8_whose rfl rfl rfl (by decide +kernel) ⟨Nat.le_of_ble_eq_true rfl, Nat.le_of_ble_eq_true rfl⟩) ⟨fun a U g mk q => by obtain ⟨q0, q1, qP, qK, qD⟩ := q; exact ⟨q0, q1, qP, va_K.moved (u := U) (U := U.calling g mk a) (Vm.Alike.refl U.vm) qK, qD⟩, va_recv hKx (vP_l hP) (ci := 8) (q0 := k0) rfl e0.choose_spec, fun U hU hW => ⟨rfl, by rw [hU], by rw [hU]; exact vP_l hP, va_K.moved hW.alike hKx, (vD_l hD).weaken (fun _ _ _ _ => trivial)⟩⟩ rfl rfl hl.1 rfl (lv_room (Nat.le_of_ble_eq_true rfl)) dL_law_1223 ⟨by show cells + 0 ≤ 600000; omega, by show slots + 0 ≤ 7302250; omega⟩) hS (fun q _ h => hFc q h) hFc (fun r1 u1 t1 H1 locs1 ht1 hvm1 k1 hB1 hz1 hk1 hS => ?_)
  obtain ⟨ws1, ty1, -, -, hP1, hK1, hD1, X1⟩ := hB1
  rw [ht1] at hP1
  have hKx1 := va_K.moved hvm1.symm hK1
  obtain ⟨hP, hD⟩ := lj_l hP hD hk1 hFc hP1 hD1
  refine lv_aload_n hx hb dL_law_1226 rfl (lv_at hl 2 rfl) ?_
  refine lv_aload_n hx hb dL_law_1227 rfl (lv_at hl 0 rfl) ?_
  refine lv_iload_n hx hb dL_law_1228 rfl (lv_at hl 3 rfl) ?_
  refine lv_iconst (v := 1) hx hb dL_law_1229 (by decide) ?_
  refine lv_iadd hx hb dL_law_1230 ?_
  refine tp_i (y := nI (i + 1)) (nI_add i 1) ?_
  refine va_sld hx hb hX hbl hbA hS (vp_in_nI (n := i + 1) (by omega) (by omega)) dL_law_1231 ?_
  refine tp_i (y := xs (i + 1)) (by rw [nI_clamp (n := i + 1) (by omega)]) ?_
  refine lv_aload_n hx hb dL_law_1232 rfl (lv_at hl 0 rfl) ?_
  refine lv_iload_n hx hb dL_law_1233 rfl (lv_at hl 3 rfl) ?_
  refine lv_iconst (v := 2) hx hb dL_law_1234 (by decide) ?_
  refine lv_iadd hx hb dL_law_1235 ?_
  refine tp_i (y := nI (i + 2)) (nI_add i 2) ?_
  refine va_sld hx hb hX hbl hbA hS (vp_in_nI (n := i + 2) (by omega) (by omega)) dL_law_1236 ?_
  refine tp_i (y := xs (i + 2)) (by rw [nI_clamp (n := i + 2) (by omega)]) ?_
  refine vp_callSl (W.runV (As := [.int (xs (i + 1)), .int (xs (i + 2))]) (rest := [.long r1]) ⟨hx, hb, hml, hown, hts⟩ (m_whose l D hm ad cs iv fv gv lc bc (xs (i + 1)) (xs (i + 2)) h3 h13 b3 b13) (cwV 2 hts gL_law_X9_whose rfl rfl rfl (by decide +kernel) ⟨Nat.le_of_ble_eq_true rfl, Nat.le_of_ble_eq_true rfl⟩) ⟨fun a U g mk q => ⟨q.1, q.2.1, va_K.moved (u := U) (U := U.calling g mk a) (Vm.Alike.refl U.vm) q.2.2⟩, va_recv hKm (vP_r hP) (ci := 9) (q0 := 0) rfl rfl, fun U hU hW => ⟨rfl, by rw [hU]; exact vP_r hP, va_K.moved hW.alike hKm⟩⟩ rfl rfl hl.1 rfl (lv_room (Nat.le_of_ble_eq_true rfl)) dL_law_1237 ⟨by show _ + 0 ≤ 600000; omega, by show _ + 0 ≤ 7302250; omega⟩) (fun r2 k2 => ?_)
  refine W.lcmp hx hb dL_law_1240 ?_
  refine lv_if_eq (tgt := 1269) hx hb dL_law_1241 (by decide) (fun c_1 => ?_) (fun c_1 => absurd (by rw [(show r1 = r2 by rcases k1 with ⟨n1, e1⟩ | ⟨n1, e1⟩ <;> rcases k2 with ⟨n2, e2⟩ | ⟨n2, e2⟩ <;> first | exact absurd n1 n2 | exact absurd n2 n1 | exact e1.trans e2.symm | exact (e1.trans (who_eq V b3 b13 _ _)).trans e2.symm)]; exact lg_cmp_self _) c_1)
  have X2 : XI ρ fv ws1 ty1 ho lc bc rc fc (iv 2) tl := (X1.fvx rfl rfl rfl rfl rfl rfl rfl rfl rfl rfl)
  have V2 : NV fv lc := (nv_fv V rfl rfl (fun _ => rfl) (fun _ => rfl))
  have hb9 := xi_b X2
  have M2 : MI iv fv tl lc bc n14 fc := ⟨h1, hb9.2.2.2.2, h3, hb9.1, h13, b13, h14, b14, h43, b43, hN, hC⟩
  refine W.widen (k := cells + 10) (n := slots + 300) (by omega) (by omega) ?_
  exact KK ws1 ty1 iv fv gv _ _ ls ⟨ρ, lc, bc, rc, fc, tl, n14, hKx1, hKm, X2, M2, V2⟩ hP hD hS (lv_sub hl [0, 1, 2, 3] rfl)
set_option maxHeartbeats 8000000 in
set_option maxRecDepth 100000 in
/-- count, on both sides -/
theorem law_29 {p : Program} {l : Launch} {e : Env} {s : State} {m : MethodId} {below : List Frame} {meth : Method} {c : Code} {b L : Nat} {xs : Nat → Int32} (C0 : lw_At p s m meth c b L xs) (i : Nat) (hi : i + 6 ≤ L) (hL : L ≤ 3072) (D : va_G) (adK adV : Nat → Nat) (fo : Option Nat) (hnz : NZ s) (hcz : CZ s) (hsz : SZ adK adV fo (fun q : Nat => s.heap.size ≤ q) s s.heap) (ho hm : Nat) (ad : Nat → Nat) (cs : Nat → ClassId) (iv : Nat → Int32) (fv : Nat → Nat → Int32) (gv : Nat → Int64) (ws : va_W) (tys : List (ClassId × FieldType)) (I0 : LI D s ws tys ho cs iv fv) {H : Heap} {locs : List Loc} (cells slots : Nat) (hc : cells + 10 ≤ 600000) (hs : slots + 300 ≤ 7302250) (hP : va_P D vwCl (ws ++ mw hm ad cs iv fv gv) H) (hD : va_D (fun q : Nat => s.heap.size ≤ q) (ws ++ mw hm ad cs iv fv gv)) (hS : va_S (fun q : Nat => s.heap.size ≤ q) s.heap H locs) {ls : Array Slot} (hl : lv_has ls 4 [(0, .ref b), (1, .ref ho), (2, .ref hm), (3, .int (nI i))]) (KK : ∀ (ws : va_W) (tys : List (ClassId × FieldType)) (iv : Nat → Int32) (fv : Nat → Nat → Int32) (gv : Nat → Int64) (H : Heap) (locs : List Loc) (ls : Array Slot), LI D s ws tys ho cs iv fv → va_P D vwCl (ws ++ mw hm ad cs iv fv gv) H → va_D (fun q : Nat => s.heap.size ≤ q) (ws ++ mw hm ad cs iv fv gv) → va_S (fun q : Nat => s.heap.size ≤ q) s.heap H locs → lv_has ls 4 [(0, .ref b), (1, .ref ho), (2, .ref hm), (3, .int (nI i))] → W p l e room_1 s m #[Value.ref b] below meth c H locs (cells + 10) (slots + 300) (lw_Z below #[Value.ref b] s) (F0 m 1269 ls [])) : W p l e room_1 s m #[Value.ref b] below meth c H locs cells slots (lw_Z below #[Value.ref b] s) (F0 m 1246 ls []) := by
  obtain ⟨hx, hb, hr, hml, hown, hts0, hX, hbl, hlocks, hgv⟩ := id C0
  have hts := fun w h => hts0 w (wsL_law_in w h)
  have hA : ∀ q : Nat, s.heap.size ≤ q → (fun q : Nat => s.heap.size ≤ q) q := fun _ h => h
  have hbA : ¬ (fun q : Nat => s.heap.size ≤ q) b := Nat.not_le.mpr hbl
  obtain ⟨ρ, lc, bc, rc, fc, tl, n14, hKx, hKm, X, ⟨h1, b1, h3, b3, h13, b13, h14, b14, h43, b43, hN, hC⟩, V⟩ := I0
  have hM := nv_all V b3
  have hZ := nv_z V
  refine lv_aload_n hx hb dL_law_1246 rfl (lv_at hl 1 rfl) ?_
  refine lv_aload_n hx hb dL_law_1247 rfl (lv_at hl 0 rfl) ?_
  refine lv_iload_n hx hb dL_law_1248 rfl (lv_at hl 3 rfl) ?_
  refine lv_iconst (v := 1) hx hb dL_law_1249 (by decide) ?_
  refine lv_iadd hx hb dL_law_1250 ?_
  refine tp_i (y := nI (i + 1)) (nI_add i 1) ?_
  refine va_sld hx hb hX hbl hbA hS (vp_in_nI (n := i + 1) (by omega) (by omega)) dL_law_1251 ?_
  refine tp_i (y := xs (i + 1)) (by rw [nI_clamp (n := i + 1) (by omega)]) ?_
  have hFc := free_all (vD_l hD) hS hA
  obtain ⟨k0, e0⟩ := xi_at X
  refine va_calli (va_runV (As := [.int (xs (i + 1))]) (rest := []) ⟨hx, hb, hml, hown, hts⟩ (h_count l D ρ ws tys fv ho lc bc rc fc (iv 2) tl (xs (i + 1)) H.size X) (cwV 1 hts gL_law_X8_count rfl rfl rfl (by decide +kernel) ⟨Nat.le_of_ble_eq_true rfl, Nat.le_of_ble_eq_true rfl⟩) ⟨fun a U g mk q => by obtain ⟨q0, q1, qP, qK, qD⟩ := q; exact ⟨q0, q1, qP, va_K.moved (u := U) (U := U.calling g mk a) (Vm.Alike.refl U.vm) qK, qD⟩, va_recv hKx (vP_l hP) (ci := 8) (q0 := k0) rfl e0.choose_spec, fun U hU hW => ⟨rfl, by rw [hU], by rw [hU]; exact vP_l hP, va_K.moved hW.alike hKx, (vD_l hD).weaken (fun _ _ _ _ => trivial)⟩⟩ rfl rfl hl.1 rfl (lv_room (Nat.le_of_ble_eq_true rfl)) dL_law_1252 ⟨by show cells + 0 ≤ 600000; omega, by show slots + 0 ≤ 7302250; omega⟩) hS (fun q _ h => hFc q h) hFc (fun r1 u1 t1 H1 locs1 ht1 hvm1 k1 hB1 hz1 hk1 hS => ?_)
  obtain ⟨ws1, ty1, -, -, hP1, hK1, hD1, X1⟩ := hB1
  rw [ht1] at hP1
  have hKx1 := va_K.moved hvm1.symm hK1
  obtain ⟨hP, hD⟩ := lj_l hP hD hk1 hFc hP1 hD1
  refine lv_pop hx hb dL_law_1255 rfl ?_
  refine lv_aload_n hx hb dL_law_1256 rfl (lv_at hl 2 rfl) ?_
  refine lv_aload_n hx hb dL_law_1257 rfl (lv_at hl 0 rfl) ?_
  refine lv_iload_n hx hb dL_law_1258 rfl (lv_at hl 3 rfl) ?_
  refine lv_iconst (v := 1) hx hb dL_law_1259 (by decide) ?_
  refine lv_iadd hx hb dL_law_1260 ?_
  refine tp_i (y := nI (i + 1)) (nI_add i 1) ?_
  refine va_sld hx hb hX hbl hbA hS (vp_in_nI (n := i + 1) (by omega) (by omega)) dL_law_1261 ?_
  refine tp_i (y := xs (i + 1)) (by rw [nI_clamp (n := i + 1) (by omega)]) ?_
  refine vp_callSi (W.runV (As := [.int (xs (i + 1))]) (rest := []) ⟨hx, hb, hml, hown, hts⟩ (m_count l D hm ad cs iv fv gv  (xs (i + 1))  ) (cwV 1 hts gL_law_X9_count rfl rfl rfl (by decide +kernel) ⟨Nat.le_of_ble_eq_true rfl, Nat.le_of_ble_eq_true rfl⟩) ⟨fun a U g mk q => ⟨q.1, q.2.1, va_K.moved (u := U) (U := U.calling g mk a) (Vm.Alike.refl U.vm) q.2.2⟩, va_recv hKm (vP_r hP) (ci := 9) (q0 := 0) rfl rfl, fun U hU hW => ⟨rfl, by rw [hU]; exact vP_r hP, va_K.moved hW.alike hKm⟩⟩ rfl rfl hl.1 rfl (lv_room (Nat.le_of_ble_eq_true rfl)) dL_law_1262 ⟨by show _ + 0 ≤ 600000; omega, by show _ + 0 ≤ 7302250; omega⟩) (fun r2 k2 => ?_)
  refine lv_pop hx hb dL_law_1265 rfl ?_
  refine lv_goto (tgt := 1269) hx hb dL_law_1266 (by decide) ?_
  have X2 : XI ρ fv ws1 ty1 ho lc bc rc fc (iv 2) tl := (X1.fvx rfl rfl rfl rfl rfl rfl rfl rfl rfl rfl)
  have V2 : NV fv lc := (nv_fv V rfl rfl (fun _ => rfl) (fun _ => rfl))
  have hb9 := xi_b X2
  have M2 : MI iv fv tl lc bc n14 fc := ⟨h1, hb9.2.2.2.2, h3, hb9.1, h13, b13, h14, b14, h43, b43, hN, hC⟩
  refine W.widen (k := cells + 10) (n := slots + 300) (by omega) (by omega) ?_
  exact KK ws1 ty1 iv fv gv _ _ ls ⟨ρ, lc, bc, rc, fc, tl, n14, hKx1, hKm, X2, M2, V2⟩ hP hD hS (lv_sub hl [0, 1, 2, 3] rfl)
