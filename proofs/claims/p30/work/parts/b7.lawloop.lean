theorem law_len {k L : Nat} (hL : L ≤ 3072) (hk : k ≤ 100000) (c : ¬ nI L - 6 < nI (6 * k)) : 6 * k + 6 ≤ L := by
  rw [i_lt] at c
  have e : (nI L - 6).toInt = (L : Int) - 6 := pk_sub_toInt (a := L) (b := 6) (by omega) (by omega)
  rw [e, nI_toInt (by omega)] at c
  omega
set_option maxHeartbeats 8000000 in
set_option maxRecDepth 100000 in
/-- the loop: k rounds behind -/
theorem law_loop {p : Program} {l : Launch} {e : Env} {s : State} {m : MethodId} {below : List Frame} {meth : Method} {c : Code} {b L : Nat} {xs : Nat → Int32} (C0 : lw_At p s m meth c b L xs) (hL : L ≤ 3072) (D : va_G) (adK adV : Nat → Nat) (fo : Option Nat) (hnz : NZ s) (hcz : CZ s) (hsz : SZ adK adV fo (fun q : Nat => s.heap.size ≤ q) s s.heap) (ho hm : Nat) (ad : Nat → Nat) (cs : Nat → ClassId) : ∀ (n k : Nat), k ≤ 512 → 513 ≤ n + k → ∀ (ws : va_W) (tys : List (ClassId × FieldType)) (iv : Nat → Int32) (fv : Nat → Nat → Int32) (gv : Nat → Int64) (H : Heap) (locs : List Loc) (ls : Array Slot), LI D s ws tys ho cs iv fv → va_P D vwCl (ws ++ mw hm ad cs iv fv gv) H → va_D (fun q : Nat => s.heap.size ≤ q) (ws ++ mw hm ad cs iv fv gv) → va_S (fun q : Nat => s.heap.size ≤ q) s.heap H locs → lv_has ls 4 [(0, .ref b), (1, .ref ho), (2, .ref hm), (3, .int (nI (6 * k)))] → W p l e room_1 s m #[Value.ref b] below meth c H locs (75 + 10 * k) (9816 + 300 * k) (lw_Z below #[Value.ref b] s) (F0 m 18 ls []) := by
  obtain ⟨hx, hb, hr, hml, hown, hts0, hX, hbl, hlocks, hgv⟩ := id C0
  have hbA : ¬ (fun q : Nat => s.heap.size ≤ q) b := Nat.not_le.mpr hbl
  intro n
  induction n with
  | zero => intro k h1 h2; omega
  | succ n ih =>
    intro k hk1 hk2 ws tys iv fv gv H locs ls I0 hP hD hS hl
    refine lv_iload_n hx hb dL_law_18 rfl (lv_at hl 3 rfl) ?_
    refine lv_aload_n hx hb dL_law_19 rfl (lv_at hl 0 rfl) ?_
    refine va_slen hx hb hX hbl hbA hS dL_law_20 ?_
    refine lv_bipush (v := 6) hx hb dL_law_21 (by decide) ?_
    refine lv_isub hx hb dL_law_23 ?_
    refine lv_icmp_gt (tgt := 1275) hx hb dL_law_24 (by decide) (fun c_1 => ?_) (fun c_1 => ?_)
    · refine lv_iconst (v := 1) hx hb dL_law_1275 (by decide) ?_
      refine va_forget (fun q hq => hS.2.2 q hq) ?_
      refine W.widen (k := 600000) (n := 7302250) (by omega) (by omega) ?_
      exact lw_ret hx hb hr hlocks dL_law_1276
    have hi : 6 * k + 6 ≤ L := law_len hL (by omega) c_1
    refine lv_aload_n hx hb dL_law_27 rfl (lv_at hl 0 rfl) ?_
    refine lv_iload_n hx hb dL_law_28 rfl (lv_at hl 3 rfl) ?_
    refine va_sld hx hb hX hbl hbA hS (vp_in_nI (n := 6 * k) (by omega) (by omega)) dL_law_29 ?_
    refine lv_bipush (v := 31) hx hb dL_law_30 (by decide) ?_
    refine lv_iand hx hb dL_law_32 ?_
    obtain ⟨j, hj, ej⟩ := pk_andE (xs (nI (6 * k)).toNatClampNeg) (m := 31) 5 (by decide)
    refine tp_i (y := nI j) ej ?_
    have KK : ∀ (ws : va_W) (tys : List (ClassId × FieldType)) (iv : Nat → Int32) (fv : Nat → Nat → Int32) (gv : Nat → Int64) (H : Heap) (locs : List Loc) (ls : Array Slot), LI D s ws tys ho cs iv fv → va_P D vwCl (ws ++ mw hm ad cs iv fv gv) H → va_D (fun q : Nat => s.heap.size ≤ q) (ws ++ mw hm ad cs iv fv gv) → va_S (fun q : Nat => s.heap.size ≤ q) s.heap H locs → lv_has ls 4 [(0, .ref b), (1, .ref ho), (2, .ref hm), (3, .int (nI (6 * k)))] → W p l e room_1 s m #[Value.ref b] below meth c H locs (75 + 10 * k + 10) (9816 + 300 * k + 300) (lw_Z below #[Value.ref b] s) (F0 m 1269 ls []) := by
      intro ws tys iv fv gv H locs ls I0 hP hD hS hl
      refine lv_iinc (v := nI (6 * (k + 1))) (lv' := [(3, .int (nI (6 * (k + 1)))), (0, .ref b), (1, .ref ho), (2, .ref hm)]) hx hb dL_law_1269 hl (k := 3) rfl (by rw [show 6 * (k + 1) = 6 * k + 6 by omega]; exact nI_add (6 * k) 6) (by decide) rfl (fun ls hl => ?_)
      refine lv_goto (tgt := 18) hx hb dL_law_1272 (by decide) ?_
      refine W.widen (k := 75 + 10 * (k + 1)) (n := 9816 + 300 * (k + 1)) (by omega) (by omega) ?_
      exact ih (k + 1) (by omega) (by omega) ws tys iv fv gv H locs ls I0 hP hD hS (lv_sub hl [1, 2, 3, 0] rfl)
    rcases (show j = 0 ∨ j = 1 ∨ j = 2 ∨ j = 3 ∨ j = 4 ∨ j = 5 ∨ j = 6 ∨ j = 7 ∨ j = 8 ∨ j = 9 ∨ j = 10 ∨ j = 11 ∨ j = 12 ∨ j = 13 ∨ j = 14 ∨ j = 15 ∨ j = 16 ∨ j = 17 ∨ j = 18 ∨ j = 19 ∨ j = 20 ∨ j = 21 ∨ j = 22 ∨ j = 23 ∨ j = 24 ∨ j = 25 ∨ j = 26 ∨ j = 27 ∨ j = 28 ∨ j = 29 ∨ j = 30 ∨ j = 31 by omega) with rfl | rfl | rfl | rfl | rfl | rfl | rfl | rfl | rfl | rfl | rfl | rfl | rfl | rfl | rfl | rfl | rfl | rfl | rfl | rfl | rfl | rfl | rfl | rfl | rfl | rfl | rfl | rfl | rfl | rfl | rfl | rfl
    · refine lv_tableIn (off := 135) (tgt := 168) hx hb dL_law_33 (by decide) (by decide) (by decide) (by decide) ?_
      exact law_0 C0 (6 * k) hi hL D adK adV fo hnz hcz hsz ho hm ad cs iv fv gv ws tys I0 _ _ (by omega) (by omega) hP hD hS hl KK
    · refine lv_tableIn (off := 198) (tgt := 231) hx hb dL_law_33 (by decide) (by decide) (by decide) (by decide) ?_
      exact law_1 C0 (6 * k) hi hL D adK adV fo hnz hcz hsz ho hm ad cs iv fv gv ws tys I0 _ _ (by omega) (by omega) hP hD hS hl KK
    · refine lv_tableIn (off := 221) (tgt := 254) hx hb dL_law_33 (by decide) (by decide) (by decide) (by decide) ?_
      exact law_2 C0 (6 * k) hi hL D adK adV fo hnz hcz hsz ho hm ad cs iv fv gv ws tys I0 _ _ (by omega) (by omega) hP hD hS hl KK
    · refine lv_tableIn (off := 244) (tgt := 277) hx hb dL_law_33 (by decide) (by decide) (by decide) (by decide) ?_
      exact law_3 C0 (6 * k) hi hL D adK adV fo hnz hcz hsz ho hm ad cs iv fv gv ws tys I0 _ _ (by omega) (by omega) hP hD hS hl KK
    · refine lv_tableIn (off := 307) (tgt := 340) hx hb dL_law_33 (by decide) (by decide) (by decide) (by decide) ?_
      exact law_4 C0 (6 * k) hi hL D adK adV fo hnz hcz hsz ho hm ad cs iv fv gv ws tys I0 _ _ (by omega) (by omega) hP hD hS hl KK
    · refine lv_tableIn (off := 360) (tgt := 393) hx hb dL_law_33 (by decide) (by decide) (by decide) (by decide) ?_
      exact law_5 C0 (6 * k) hi hL D adK adV fo hnz hcz hsz ho hm ad cs iv fv gv ws tys I0 _ _ (by omega) (by omega) hP hD hS hl KK
    · refine lv_tableIn (off := 393) (tgt := 426) hx hb dL_law_33 (by decide) (by decide) (by decide) (by decide) ?_
      exact law_6 C0 (6 * k) hi hL D adK adV fo hnz hcz hsz ho hm ad cs iv fv gv ws tys I0 _ _ (by omega) (by omega) hP hD hS hl KK
    · refine lv_tableIn (off := 426) (tgt := 459) hx hb dL_law_33 (by decide) (by decide) (by decide) (by decide) ?_
      exact law_7 C0 (6 * k) hi hL D adK adV fo hnz hcz hsz ho hm ad cs iv fv gv ws tys I0 _ _ (by omega) (by omega) hP hD hS hl KK
    · refine lv_tableIn (off := 469) (tgt := 502) hx hb dL_law_33 (by decide) (by decide) (by decide) (by decide) ?_
      exact law_8 C0 (6 * k) hi hL D adK adV fo hnz hcz hsz ho hm ad cs iv fv gv ws tys I0 _ _ (by omega) (by omega) hP hD hS hl KK
    · refine lv_tableIn (off := 512) (tgt := 545) hx hb dL_law_33 (by decide) (by decide) (by decide) (by decide) ?_
      exact law_9 C0 (6 * k) hi hL D adK adV fo hnz hcz hsz ho hm ad cs iv fv gv ws tys I0 _ _ (by omega) (by omega) hP hD hS hl KK
    · refine lv_tableIn (off := 555) (tgt := 588) hx hb dL_law_33 (by decide) (by decide) (by decide) (by decide) ?_
      exact law_10 C0 (6 * k) hi hL D adK adV fo hnz hcz hsz ho hm ad cs iv fv gv ws tys I0 _ _ (by omega) (by omega) hP hD hS hl KK
    · refine lv_tableIn (off := 598) (tgt := 631) hx hb dL_law_33 (by decide) (by decide) (by decide) (by decide) ?_
      exact law_11 C0 (6 * k) hi hL D adK adV fo hnz hcz hsz ho hm ad cs iv fv gv ws tys I0 _ _ (by omega) (by omega) hP hD hS hl KK
    · refine lv_tableIn (off := 631) (tgt := 664) hx hb dL_law_33 (by decide) (by decide) (by decide) (by decide) ?_
      exact law_12 C0 (6 * k) hi hL D adK adV fo hnz hcz hsz ho hm ad cs iv fv gv ws tys I0 _ _ (by omega) (by omega) hP hD hS hl KK
    · refine lv_tableIn (off := 664) (tgt := 697) hx hb dL_law_33 (by decide) (by decide) (by decide) (by decide) ?_
      exact law_13 C0 (6 * k) hi hL D adK adV fo hnz hcz hsz ho hm ad cs iv fv gv ws tys I0 _ _ (by omega) (by omega) hP hD hS hl KK
    · refine lv_tableIn (off := 697) (tgt := 730) hx hb dL_law_33 (by decide) (by decide) (by decide) (by decide) ?_
      exact law_14 C0 (6 * k) hi hL D adK adV fo hnz hcz hsz ho hm ad cs iv fv gv ws tys I0 _ _ (by omega) (by omega) hP hD hS hl KK
    · refine lv_tableIn (off := 740) (tgt := 773) hx hb dL_law_33 (by decide) (by decide) (by decide) (by decide) ?_
      exact law_15 C0 (6 * k) hi hL D adK adV fo hnz hcz hsz ho hm ad cs iv fv gv ws tys I0 _ _ (by omega) (by omega) hP hD hS hl KK
    · refine lv_tableIn (off := 783) (tgt := 816) hx hb dL_law_33 (by decide) (by decide) (by decide) (by decide) ?_
      exact law_16 C0 (6 * k) hi hL D adK adV fo hnz hcz hsz ho hm ad cs iv fv gv ws tys I0 _ _ (by omega) (by omega) hP hD hS hl KK
    · refine lv_tableIn (off := 826) (tgt := 859) hx hb dL_law_33 (by decide) (by decide) (by decide) (by decide) ?_
      exact law_17 C0 (6 * k) hi hL D adK adV fo hnz hcz hsz ho hm ad cs iv fv gv ws tys I0 _ _ (by omega) (by omega) hP hD hS hl KK
    · refine lv_tableIn (off := 839) (tgt := 872) hx hb dL_law_33 (by decide) (by decide) (by decide) (by decide) ?_
      exact law_18 C0 (6 * k) hi hL D adK adV fo hnz hcz hsz ho hm ad cs iv fv gv ws tys I0 _ _ (by omega) (by omega) hP hD hS hl KK
    · refine lv_tableIn (off := 862) (tgt := 895) hx hb dL_law_33 (by decide) (by decide) (by decide) (by decide) ?_
      exact law_19 C0 (6 * k) hi hL D adK adV fo hnz hcz hsz ho hm ad cs iv fv gv ws tys I0 _ _ (by omega) (by omega) hP hD hS hl KK
    · refine lv_tableIn (off := 895) (tgt := 928) hx hb dL_law_33 (by decide) (by decide) (by decide) (by decide) ?_
      exact law_20 C0 (6 * k) hi hL D adK adV fo hnz hcz hsz ho hm ad cs iv fv gv ws tys I0 _ _ (by omega) (by omega) hP hD hS hl KK
    · refine lv_tableIn (off := 938) (tgt := 971) hx hb dL_law_33 (by decide) (by decide) (by decide) (by decide) ?_
      exact law_21 C0 (6 * k) hi hL D adK adV fo hnz hcz hsz ho hm ad cs iv fv gv ws tys I0 _ _ (by omega) (by omega) hP hD hS hl KK
    · refine lv_tableIn (off := 981) (tgt := 1014) hx hb dL_law_33 (by decide) (by decide) (by decide) (by decide) ?_
      exact law_22 C0 (6 * k) hi hL D adK adV fo hnz hcz hsz ho hm ad cs iv fv gv ws tys I0 _ _ (by omega) (by omega) hP hD hS hl KK
    · refine lv_tableIn (off := 1024) (tgt := 1057) hx hb dL_law_33 (by decide) (by decide) (by decide) (by decide) ?_
      exact law_23 C0 (6 * k) hi hL D adK adV fo hnz hcz hsz ho hm ad cs iv fv gv ws tys I0 _ _ (by omega) (by omega) hP hD hS hl KK
    · refine lv_tableIn (off := 1047) (tgt := 1080) hx hb dL_law_33 (by decide) (by decide) (by decide) (by decide) ?_
      exact law_24 C0 (6 * k) hi hL D adK adV fo hnz hcz hsz ho hm ad cs iv fv gv ws tys I0 _ _ (by omega) (by omega) hP hD hS hl KK
    · refine lv_tableIn (off := 1110) (tgt := 1143) hx hb dL_law_33 (by decide) (by decide) (by decide) (by decide) ?_
      exact law_25 C0 (6 * k) hi hL D adK adV fo hnz hcz hsz ho hm ad cs iv fv gv ws tys I0 _ _ (by omega) (by omega) hP hD hS hl KK
    · refine lv_tableIn (off := 1133) (tgt := 1166) hx hb dL_law_33 (by decide) (by decide) (by decide) (by decide) ?_
      exact law_26 C0 (6 * k) hi hL D adK adV fo hnz hcz hsz ho hm ad cs iv fv gv ws tys I0 _ _ (by omega) (by omega) hP hD hS hl KK
    · refine lv_tableIn (off := 1156) (tgt := 1189) hx hb dL_law_33 (by decide) (by decide) (by decide) (by decide) ?_
      exact law_27 C0 (6 * k) hi hL D adK adV fo hnz hcz hsz ho hm ad cs iv fv gv ws tys I0 _ _ (by omega) (by omega) hP hD hS hl KK
    · refine lv_tableIn (off := 1179) (tgt := 1212) hx hb dL_law_33 (by decide) (by decide) (by decide) (by decide) ?_
      exact law_28 C0 (6 * k) hi hL D adK adV fo hnz hcz hsz ho hm ad cs iv fv gv ws tys I0 _ _ (by omega) (by omega) hP hD hS hl KK
    · refine lv_tableIn (off := 1213) (tgt := 1246) hx hb dL_law_33 (by decide) (by decide) (by decide) (by decide) ?_
      exact law_29 C0 (6 * k) hi hL D adK adV fo hnz hcz hsz ho hm ad cs iv fv gv ws tys I0 _ _ (by omega) (by omega) hP hD hS hl KK
    · refine lv_tableOut (tgt := 1269) hx hb dL_law_33 (Or.inr (by decide)) (by decide) ?_
      refine W.widen (k := 75 + 10 * k + 10) (n := 9816 + 300 * k + 300) (by omega) (by omega) ?_
      exact KK ws tys iv fv gv H locs ls I0 hP hD hS hl
    · refine lv_tableOut (tgt := 1269) hx hb dL_law_33 (Or.inr (by decide)) (by decide) ?_
      refine W.widen (k := 75 + 10 * k + 10) (n := 9816 + 300 * k + 300) (by omega) (by omega) ?_
      exact KK ws tys iv fv gv H locs ls I0 hP hD hS hl
