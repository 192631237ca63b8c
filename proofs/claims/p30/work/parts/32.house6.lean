theorem dX8_sumWith_0 : decode cX8_sumWith 0 = .ok (.iconst 0, 1) := by decide +kernel
theorem dX8_sumWith_1 : decode cX8_sumWith 1 = .ok (.istore_n 3, 1) := by decide +kernel
theorem dX8_sumWith_2 : decode cX8_sumWith 2 = .ok (.iconst 0, 1) := by decide +kernel
theorem dX8_sumWith_3 : decode cX8_sumWith 3 = .ok (.istore 4, 2) := by decide +kernel
theorem dX8_sumWith_5 : decode cX8_sumWith 5 = .ok (.iload 4, 2) := by decide +kernel
theorem dX8_sumWith_7 : decode cX8_sumWith 7 = .ok (.aload_n 0, 1) := by decide +kernel
theorem dX8_sumWith_8 : decode cX8_sumWith 8 = .ok (.arraylength, 1) := by decide +kernel
theorem dX8_sumWith_9 : decode cX8_sumWith 9 = .ok (.if_icmp .ge 26, 3) := by decide +kernel
theorem dX8_sumWith_12 : decode cX8_sumWith 12 = .ok (.iload_n 3, 1) := by decide +kernel
theorem dX8_sumWith_13 : decode cX8_sumWith 13 = .ok (.iload 4, 2) := by decide +kernel
theorem dX8_sumWith_15 : decode cX8_sumWith 15 = .ok (.iload_n 1, 1) := by decide +kernel
theorem dX8_sumWith_16 : decode cX8_sumWith 16 = .ok (.if_icmp .ne 7, 3) := by decide +kernel
theorem dX8_sumWith_19 : decode cX8_sumWith 19 = .ok (.iload_n 2, 1) := by decide +kernel
theorem dX8_sumWith_20 : decode cX8_sumWith 20 = .ok (.goto 7, 3) := by decide +kernel
theorem dX8_sumWith_23 : decode cX8_sumWith 23 = .ok (.aload_n 0, 1) := by decide +kernel
theorem dX8_sumWith_24 : decode cX8_sumWith 24 = .ok (.iload 4, 2) := by decide +kernel
theorem dX8_sumWith_26 : decode cX8_sumWith 26 = .ok (.iaload, 1) := by decide +kernel
theorem dX8_sumWith_27 : decode cX8_sumWith 27 = .ok (.iadd, 1) := by decide +kernel
theorem dX8_sumWith_28 : decode cX8_sumWith 28 = .ok (.istore_n 3, 1) := by decide +kernel
theorem dX8_sumWith_29 : decode cX8_sumWith 29 = .ok (.iinc 4 1, 3) := by decide +kernel
theorem dX8_sumWith_32 : decode cX8_sumWith 32 = .ok (.goto (-27), 3) := by decide +kernel
theorem dX8_sumWith_35 : decode cX8_sumWith 35 = .ok (.iload_n 3, 1) := by decide +kernel
theorem dX8_sumWith_36 : decode cX8_sumWith 36 = .ok (.ireturn, 1) := by decide +kernel
set_option maxHeartbeats 4000000 in
set_option maxRecDepth 100000 in
theorem s_sumWith (l : Launch) (D : va_G) (ws : va_W) (tys : List (ClassId × FieldType)) (a ka : Nat) (ca : ClassId) (ta : Nat) (f : Nat → Int32) (a1 a2 : Int32) (ea : ws[ka]? = some (a, .inl (ca, 5, .inl f))) (ua : tys[ta]? = some (ca, .int)) : Met l yX8_sumWith wsX8_sumWith ({ frames := 0, cells := 0, slots := 0, locals := 0 }) (va_Pc [.ref a, .int a1, .int a2] (fun U => va_P D vwCl ws U.heap ∧ va_K D vwCl tys U)) (vp_Si (fun r => r = sU f a1 a2 5)) 0 0 (fun _ => False) := by
  refine Met.ofW (cc := cX8_sumWith) (maxL := 5) (ret := (some .int)) (by decide) rfl ?_
  intro p e s m args below meth c s₁ B hml hv
  obtain ⟨rfl, hP, hK⟩ := hv
  have hx := B.exec
  have hb := B.bytes
  have hr := B.returns
  have hts := atoms_spec (ws := wsX8_sumWith) B.pre
  have hown : s.vm.findClass RX8 = some m.cls := findClass_of_methodNamed B.named
  have hlocks := B.notSynchronized
  have hl := lv_entry ([.ref a, .int a1, .int a2]) (n := 5) (Nat.le_of_ble_eq_true rfl)
  rw [lg_entry_eq]
  generalize (lg_sl ([.ref a, .int a1, .int a2]) ++ List.replicate (5 - (lg_sl ([.ref a, .int a1, .int a2])).length) Slot.unset).toArray = ls at hl ⊢
  have hl : lv_has ls 5 [(0, .ref a), (1, .int a1), (2, .int a2)] := hl
  refine lv_iconst (v := 0) hx hb dX8_sumWith_0 (by decide) ?_
  refine lv_istore_n (lv' := [(3, .int 0), (0, .ref a), (1, .int a1), (2, .int a2)]) hx hb dX8_sumWith_1 rfl hl (by decide) rfl (fun ls hl => ?_)
  refine lv_iconst (v := 0) hx hb dX8_sumWith_2 (by decide) ?_
  refine lv_istore (lv' := [(4, .int 0), (3, .int 0), (0, .ref a), (1, .int a1), (2, .int a2)]) hx hb dX8_sumWith_3 hl (by decide) rfl (fun ls hl => ?_)
  refine lp_S (nL := 5) (N := 5) (σ := Int32) (lv := fun i x_1 => [(4, .int (nI i)), (3, .int x_1), (0, .ref a), (1, .int a1), (2, .int a2)]) (J := fun i9 x_1 => x_1 = sU f a1 a2 i9) (fun i hi ih x_1 ls hj hl => ?_) 0 (by omega) 0 ls (rfl) (lv_sub hl [0, 1, 2, 3, 4] rfl)
  have hl : lv_has ls 5 [(4, .int (nI i)), (3, .int x_1), (0, .ref a), (1, .int a1), (2, .int a2)] := hl
  replace hj : x_1 = sU f a1 a2 i := hj
  refine lv_iload hx hb dX8_sumWith_5 (lv_at hl 0 rfl) ?_
  refine lv_aload_n hx hb dX8_sumWith_7 rfl (lv_at hl 2 rfl) ?_
  refine va_alen (v := 5) hx hb hK hP ka ta ea ua rfl dX8_sumWith_8 ?_
  refine lv_icmp_ge (tgt := 35) hx hb dX8_sumWith_9 (by decide) (fun c_2 => ?_) (fun c_2 => ?_)
  · refine lv_iload_n hx hb dX8_sumWith_35 rfl (lv_at hl 1 rfl) ?_
    exact W.iret (v := x_1) hx hb hr (fun t ht hW => ⟨x_1, rfl, (by rw [hj, show i = 5 from by have := (nI_leI (a := 5) (b := i) (by omega) (by omega)).mp (show nI 5 ≤ nI i from c_2); omega]), ht⟩) (fun _ h9 => by cases h9) dX8_sumWith_36
  have hlt : i < 5 := i_lt_of hi (by omega) rfl c_2
  refine lv_iload_n hx hb dX8_sumWith_12 rfl (lv_at hl 1 rfl) ?_
  refine lv_iload hx hb dX8_sumWith_13 (lv_at hl 0 rfl) ?_
  refine lv_iload_n hx hb dX8_sumWith_15 rfl (lv_at hl 3 rfl) ?_
  refine lv_icmp_ne (tgt := 23) hx hb dX8_sumWith_16 (by decide) (fun c_3 => ?_) (fun c_3 => ?_)
  · refine lv_aload_n hx hb dX8_sumWith_23 rfl (lv_at hl 2 rfl) ?_
    refine lv_iload hx hb dX8_sumWith_24 (lv_at hl 0 rfl) ?_
    refine va_iald (f := f) (n := 5) hx hb hK hP ka ta ea ua (vp_in_nI hlt (by omega)) dX8_sumWith_26 ?_
    refine lv_iadd hx hb dX8_sumWith_27 ?_
    refine lv_istore_n (lv' := [(3, .int (x_1 + (f (nI i).toNatClampNeg))), (4, .int (nI i)), (0, .ref a), (1, .int a1), (2, .int a2)]) hx hb dX8_sumWith_28 rfl hl (by decide) rfl (fun ls hl => ?_)
    refine lv_iinc (v := nI (i + 1)) (lv' := [(4, .int (nI (i + 1))), (3, .int (x_1 + (f (nI i).toNatClampNeg))), (0, .ref a), (1, .int a1), (2, .int a2)]) hx hb dX8_sumWith_29 hl (k := 1) rfl (nI_1 i) (by decide) rfl (fun ls hl => ?_)
    refine lv_goto (tgt := 5) hx hb dX8_sumWith_32 (by decide) ?_
    exact ih hlt (x_1 + (f (nI i).toNatClampNeg)) ls (by show _ = sU f a1 a2 i + (if nI i = a1 then a2 else f i); rw [if_neg c_3, nI_clamp (n := i) (by omega), hj]) (lv_sub hl [0, 1, 2, 3, 4] rfl)
  refine lv_iload_n hx hb dX8_sumWith_19 rfl (lv_at hl 4 rfl) ?_
  refine lv_goto (tgt := 27) hx hb dX8_sumWith_20 (by decide) ?_
  refine lv_iadd hx hb dX8_sumWith_27 ?_
  refine lv_istore_n (lv' := [(3, .int (x_1 + a2)), (4, .int (nI i)), (0, .ref a), (1, .int a1), (2, .int a2)]) hx hb dX8_sumWith_28 rfl hl (by decide) rfl (fun ls hl => ?_)
  refine lv_iinc (v := nI (i + 1)) (lv' := [(4, .int (nI (i + 1))), (3, .int (x_1 + a2)), (0, .ref a), (1, .int a1), (2, .int a2)]) hx hb dX8_sumWith_29 hl (k := 1) rfl (nI_1 i) (by decide) rfl (fun ls hl => ?_)
  refine lv_goto (tgt := 5) hx hb dX8_sumWith_32 (by decide) ?_
  exact ih hlt (x_1 + a2) ls (by show _ = sU f a1 a2 i + (if nI i = a1 then a2 else f i); rw [if_pos c_3, hj]) (lv_sub hl [0, 1, 2, 3, 4] rfl)
