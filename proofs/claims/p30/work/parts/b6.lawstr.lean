set_option maxHeartbeats 8000000 in
set_option maxRecDepth 100000 in
/-- the String constants, out of the premises -/
theorem strs {b : Nat} {s : State} (h : (Jvm.Cond.and given_1 narrow_1).before #[Value.ref b] s = true) (htt : ∀ w ∈ lw_tbl, w.before #[Value.ref b] s = true) : ∃ (adK adV : Nat → Nat) (fo : Option Nat), SZ adK adV fo (fun q : Nat => s.heap.size ≤ q) s s.heap := by
  have hs := flat_of_before _ h
  have x0 : (Cond.exactly (.string "HoneyHouse$RuleReader" 47) "java/lang/String").before #[Value.ref b] s = true := hs _ (by decide +kernel)
  have c0 : (Cond.eq (.field (.string "HoneyHouse$RuleReader" 47) "java/lang/String" "coder" "B") (.int 0)).before #[Value.ref b] s = true := hs _ (by decide +kernel)
  have a0 : (Cond.arrayOf (.field (.string "HoneyHouse$RuleReader" 47) "java/lang/String" "value" "[B") .byte).before #[Value.ref b] s = true := hs _ (by decide +kernel)
  have l0 : (Cond.eq (.length (.field (.string "HoneyHouse$RuleReader" 47) "java/lang/String" "value" "[B")) (.int 4)).before #[Value.ref b] s = true := hs _ (by decide +kernel)
  have e0_0 : (Cond.eq (.elem (.field (.string "HoneyHouse$RuleReader" 47) "java/lang/String" "value" "[B") (.int 0)) (.int 102)).before #[Value.ref b] s = true := hs _ (by decide +kernel)
  have e0_1 : (Cond.eq (.elem (.field (.string "HoneyHouse$RuleReader" 47) "java/lang/String" "value" "[B") (.int 1)) (.int 114)).before #[Value.ref b] s = true := hs _ (by decide +kernel)
  have e0_2 : (Cond.eq (.elem (.field (.string "HoneyHouse$RuleReader" 47) "java/lang/String" "value" "[B") (.int 2)) (.int 111)).before #[Value.ref b] s = true := hs _ (by decide +kernel)
  have e0_3 : (Cond.eq (.elem (.field (.string "HoneyHouse$RuleReader" 47) "java/lang/String" "value" "[B") (.int 3)) (.int 109)).before #[Value.ref b] s = true := hs _ (by decide +kernel)
  have x1 : (Cond.exactly (.string "HoneyHouse$RuleReader" 97) "java/lang/String").before #[Value.ref b] s = true := hs _ (by decide +kernel)
  have c1 : (Cond.eq (.field (.string "HoneyHouse$RuleReader" 97) "java/lang/String" "coder" "B") (.int 0)).before #[Value.ref b] s = true := hs _ (by decide +kernel)
  have a1 : (Cond.arrayOf (.field (.string "HoneyHouse$RuleReader" 97) "java/lang/String" "value" "[B") .byte).before #[Value.ref b] s = true := hs _ (by decide +kernel)
  have l1 : (Cond.eq (.length (.field (.string "HoneyHouse$RuleReader" 97) "java/lang/String" "value" "[B")) (.int 2)).before #[Value.ref b] s = true := hs _ (by decide +kernel)
  have e1_0 : (Cond.eq (.elem (.field (.string "HoneyHouse$RuleReader" 97) "java/lang/String" "value" "[B") (.int 0)) (.int 111)).before #[Value.ref b] s = true := hs _ (by decide +kernel)
  have e1_1 : (Cond.eq (.elem (.field (.string "HoneyHouse$RuleReader" 97) "java/lang/String" "value" "[B") (.int 1)) (.int 114)).before #[Value.ref b] s = true := hs _ (by decide +kernel)
  have x2 : (Cond.exactly (.string "HoneyHouse$RuleReader" 102) "java/lang/String").before #[Value.ref b] s = true := hs _ (by decide +kernel)
  have c2 : (Cond.eq (.field (.string "HoneyHouse$RuleReader" 102) "java/lang/String" "coder" "B") (.int 0)).before #[Value.ref b] s = true := hs _ (by decide +kernel)
  have a2 : (Cond.arrayOf (.field (.string "HoneyHouse$RuleReader" 102) "java/lang/String" "value" "[B") .byte).before #[Value.ref b] s = true := hs _ (by decide +kernel)
  have l2 : (Cond.eq (.length (.field (.string "HoneyHouse$RuleReader" 102) "java/lang/String" "value" "[B")) (.int 3)).before #[Value.ref b] s = true := hs _ (by decide +kernel)
  have e2_0 : (Cond.eq (.elem (.field (.string "HoneyHouse$RuleReader" 102) "java/lang/String" "value" "[B") (.int 0)) (.int 97)).before #[Value.ref b] s = true := hs _ (by decide +kernel)
  have e2_1 : (Cond.eq (.elem (.field (.string "HoneyHouse$RuleReader" 102) "java/lang/String" "value" "[B") (.int 1)) (.int 110)).before #[Value.ref b] s = true := hs _ (by decide +kernel)
  have e2_2 : (Cond.eq (.elem (.field (.string "HoneyHouse$RuleReader" 102) "java/lang/String" "value" "[B") (.int 2)) (.int 100)).before #[Value.ref b] s = true := hs _ (by decide +kernel)
  have x3 : (Cond.exactly (.string "HoneyHouse$RuleReader" 104) "java/lang/String").before #[Value.ref b] s = true := hs _ (by decide +kernel)
  have c3 : (Cond.eq (.field (.string "HoneyHouse$RuleReader" 104) "java/lang/String" "coder" "B") (.int 0)).before #[Value.ref b] s = true := hs _ (by decide +kernel)
  have a3 : (Cond.arrayOf (.field (.string "HoneyHouse$RuleReader" 104) "java/lang/String" "value" "[B") .byte).before #[Value.ref b] s = true := hs _ (by decide +kernel)
  have l3 : (Cond.eq (.length (.field (.string "HoneyHouse$RuleReader" 104) "java/lang/String" "value" "[B")) (.int 3)).before #[Value.ref b] s = true := hs _ (by decide +kernel)
  have e3_0 : (Cond.eq (.elem (.field (.string "HoneyHouse$RuleReader" 104) "java/lang/String" "value" "[B") (.int 0)) (.int 110)).before #[Value.ref b] s = true := hs _ (by decide +kernel)
  have e3_1 : (Cond.eq (.elem (.field (.string "HoneyHouse$RuleReader" 104) "java/lang/String" "value" "[B") (.int 1)) (.int 111)).before #[Value.ref b] s = true := hs _ (by decide +kernel)
  have e3_2 : (Cond.eq (.elem (.field (.string "HoneyHouse$RuleReader" 104) "java/lang/String" "value" "[B") (.int 2)) (.int 116)).before #[Value.ref b] s = true := hs _ (by decide +kernel)
  have x4 : (Cond.exactly (.string "HoneyHouse$RuleReader" 106) "java/lang/String").before #[Value.ref b] s = true := hs _ (by decide +kernel)
  have c4 : (Cond.eq (.field (.string "HoneyHouse$RuleReader" 106) "java/lang/String" "coder" "B") (.int 0)).before #[Value.ref b] s = true := hs _ (by decide +kernel)
  have a4 : (Cond.arrayOf (.field (.string "HoneyHouse$RuleReader" 106) "java/lang/String" "value" "[B") .byte).before #[Value.ref b] s = true := hs _ (by decide +kernel)
  have l4 : (Cond.eq (.length (.field (.string "HoneyHouse$RuleReader" 106) "java/lang/String" "value" "[B")) (.int 3)).before #[Value.ref b] s = true := hs _ (by decide +kernel)
  have e4_0 : (Cond.eq (.elem (.field (.string "HoneyHouse$RuleReader" 106) "java/lang/String" "value" "[B") (.int 0)) (.int 109)).before #[Value.ref b] s = true := hs _ (by decide +kernel)
  have e4_1 : (Cond.eq (.elem (.field (.string "HoneyHouse$RuleReader" 106) "java/lang/String" "value" "[B") (.int 1)) (.int 105)).before #[Value.ref b] s = true := hs _ (by decide +kernel)
  have e4_2 : (Cond.eq (.elem (.field (.string "HoneyHouse$RuleReader" 106) "java/lang/String" "value" "[B") (.int 2)) (.int 110)).before #[Value.ref b] s = true := hs _ (by decide +kernel)
  have x5 : (Cond.exactly (.string "HoneyHouse$RuleReader" 108) "java/lang/String").before #[Value.ref b] s = true := hs _ (by decide +kernel)
  have c5 : (Cond.eq (.field (.string "HoneyHouse$RuleReader" 108) "java/lang/String" "coder" "B") (.int 0)).before #[Value.ref b] s = true := hs _ (by decide +kernel)
  have a5 : (Cond.arrayOf (.field (.string "HoneyHouse$RuleReader" 108) "java/lang/String" "value" "[B") .byte).before #[Value.ref b] s = true := hs _ (by decide +kernel)
  have l5 : (Cond.eq (.length (.field (.string "HoneyHouse$RuleReader" 108) "java/lang/String" "value" "[B")) (.int 3)).before #[Value.ref b] s = true := hs _ (by decide +kernel)
  have e5_0 : (Cond.eq (.elem (.field (.string "HoneyHouse$RuleReader" 108) "java/lang/String" "value" "[B") (.int 0)) (.int 109)).before #[Value.ref b] s = true := hs _ (by decide +kernel)
  have e5_1 : (Cond.eq (.elem (.field (.string "HoneyHouse$RuleReader" 108) "java/lang/String" "value" "[B") (.int 1)) (.int 97)).before #[Value.ref b] s = true := hs _ (by decide +kernel)
  have e5_2 : (Cond.eq (.elem (.field (.string "HoneyHouse$RuleReader" 108) "java/lang/String" "value" "[B") (.int 2)) (.int 120)).before #[Value.ref b] s = true := hs _ (by decide +kernel)
  have x6 : (Cond.exactly (.string "HoneyHouse$RuleReader" 137) "java/lang/String").before #[Value.ref b] s = true := hs _ (by decide +kernel)
  have c6 : (Cond.eq (.field (.string "HoneyHouse$RuleReader" 137) "java/lang/String" "coder" "B") (.int 0)).before #[Value.ref b] s = true := hs _ (by decide +kernel)
  have a6 : (Cond.arrayOf (.field (.string "HoneyHouse$RuleReader" 137) "java/lang/String" "value" "[B") .byte).before #[Value.ref b] s = true := hs _ (by decide +kernel)
  have l6 : (Cond.eq (.length (.field (.string "HoneyHouse$RuleReader" 137) "java/lang/String" "value" "[B")) (.int 5)).before #[Value.ref b] s = true := hs _ (by decide +kernel)
  have e6_0 : (Cond.eq (.elem (.field (.string "HoneyHouse$RuleReader" 137) "java/lang/String" "value" "[B") (.int 0)) (.int 119)).before #[Value.ref b] s = true := hs _ (by decide +kernel)
  have e6_1 : (Cond.eq (.elem (.field (.string "HoneyHouse$RuleReader" 137) "java/lang/String" "value" "[B") (.int 1)) (.int 97)).before #[Value.ref b] s = true := hs _ (by decide +kernel)
  have e6_2 : (Cond.eq (.elem (.field (.string "HoneyHouse$RuleReader" 137) "java/lang/String" "value" "[B") (.int 2)) (.int 116)).before #[Value.ref b] s = true := hs _ (by decide +kernel)
  have e6_3 : (Cond.eq (.elem (.field (.string "HoneyHouse$RuleReader" 137) "java/lang/String" "value" "[B") (.int 3)) (.int 101)).before #[Value.ref b] s = true := hs _ (by decide +kernel)
  have e6_4 : (Cond.eq (.elem (.field (.string "HoneyHouse$RuleReader" 137) "java/lang/String" "value" "[B") (.int 4)) (.int 114)).before #[Value.ref b] s = true := hs _ (by decide +kernel)
  have x7 : (Cond.exactly (.string "HoneyHouse$RuleReader" 139) "java/lang/String").before #[Value.ref b] s = true := hs _ (by decide +kernel)
  have c7 : (Cond.eq (.field (.string "HoneyHouse$RuleReader" 139) "java/lang/String" "coder" "B") (.int 0)).before #[Value.ref b] s = true := hs _ (by decide +kernel)
  have a7 : (Cond.arrayOf (.field (.string "HoneyHouse$RuleReader" 139) "java/lang/String" "value" "[B") .byte).before #[Value.ref b] s = true := hs _ (by decide +kernel)
  have l7 : (Cond.eq (.length (.field (.string "HoneyHouse$RuleReader" 139) "java/lang/String" "value" "[B")) (.int 6)).before #[Value.ref b] s = true := hs _ (by decide +kernel)
  have e7_0 : (Cond.eq (.elem (.field (.string "HoneyHouse$RuleReader" 139) "java/lang/String" "value" "[B") (.int 0)) (.int 99)).before #[Value.ref b] s = true := hs _ (by decide +kernel)
  have e7_1 : (Cond.eq (.elem (.field (.string "HoneyHouse$RuleReader" 139) "java/lang/String" "value" "[B") (.int 1)) (.int 111)).before #[Value.ref b] s = true := hs _ (by decide +kernel)
  have e7_2 : (Cond.eq (.elem (.field (.string "HoneyHouse$RuleReader" 139) "java/lang/String" "value" "[B") (.int 2)) (.int 108)).before #[Value.ref b] s = true := hs _ (by decide +kernel)
  have e7_3 : (Cond.eq (.elem (.field (.string "HoneyHouse$RuleReader" 139) "java/lang/String" "value" "[B") (.int 3)) (.int 111)).before #[Value.ref b] s = true := hs _ (by decide +kernel)
  have e7_4 : (Cond.eq (.elem (.field (.string "HoneyHouse$RuleReader" 139) "java/lang/String" "value" "[B") (.int 4)) (.int 117)).before #[Value.ref b] s = true := hs _ (by decide +kernel)
  have e7_5 : (Cond.eq (.elem (.field (.string "HoneyHouse$RuleReader" 139) "java/lang/String" "value" "[B") (.int 5)) (.int 114)).before #[Value.ref b] s = true := hs _ (by decide +kernel)
  have x8 : (Cond.exactly (.string "HoneyHouse$RuleReader" 141) "java/lang/String").before #[Value.ref b] s = true := hs _ (by decide +kernel)
  have c8 : (Cond.eq (.field (.string "HoneyHouse$RuleReader" 141) "java/lang/String" "coder" "B") (.int 0)).before #[Value.ref b] s = true := hs _ (by decide +kernel)
  have a8 : (Cond.arrayOf (.field (.string "HoneyHouse$RuleReader" 141) "java/lang/String" "value" "[B") .byte).before #[Value.ref b] s = true := hs _ (by decide +kernel)
  have l8 : (Cond.eq (.length (.field (.string "HoneyHouse$RuleReader" 141) "java/lang/String" "value" "[B")) (.int 4)).before #[Value.ref b] s = true := hs _ (by decide +kernel)
  have e8_0 : (Cond.eq (.elem (.field (.string "HoneyHouse$RuleReader" 141) "java/lang/String" "value" "[B") (.int 0)) (.int 104)).before #[Value.ref b] s = true := hs _ (by decide +kernel)
  have e8_1 : (Cond.eq (.elem (.field (.string "HoneyHouse$RuleReader" 141) "java/lang/String" "value" "[B") (.int 1)) (.int 101)).before #[Value.ref b] s = true := hs _ (by decide +kernel)
  have e8_2 : (Cond.eq (.elem (.field (.string "HoneyHouse$RuleReader" 141) "java/lang/String" "value" "[B") (.int 2)) (.int 97)).before #[Value.ref b] s = true := hs _ (by decide +kernel)
  have e8_3 : (Cond.eq (.elem (.field (.string "HoneyHouse$RuleReader" 141) "java/lang/String" "value" "[B") (.int 3)) (.int 116)).before #[Value.ref b] s = true := hs _ (by decide +kernel)
  have x9 : (Cond.exactly (.string "HoneyHouse$RuleReader" 143) "java/lang/String").before #[Value.ref b] s = true := hs _ (by decide +kernel)
  have c9 : (Cond.eq (.field (.string "HoneyHouse$RuleReader" 143) "java/lang/String" "coder" "B") (.int 0)).before #[Value.ref b] s = true := hs _ (by decide +kernel)
  have a9 : (Cond.arrayOf (.field (.string "HoneyHouse$RuleReader" 143) "java/lang/String" "value" "[B") .byte).before #[Value.ref b] s = true := hs _ (by decide +kernel)
  have l9 : (Cond.eq (.length (.field (.string "HoneyHouse$RuleReader" 143) "java/lang/String" "value" "[B")) (.int 6)).before #[Value.ref b] s = true := hs _ (by decide +kernel)
  have e9_0 : (Cond.eq (.elem (.field (.string "HoneyHouse$RuleReader" 143) "java/lang/String" "value" "[B") (.int 0)) (.int 112)).before #[Value.ref b] s = true := hs _ (by decide +kernel)
  have e9_1 : (Cond.eq (.elem (.field (.string "HoneyHouse$RuleReader" 143) "java/lang/String" "value" "[B") (.int 1)) (.int 111)).before #[Value.ref b] s = true := hs _ (by decide +kernel)
  have e9_2 : (Cond.eq (.elem (.field (.string "HoneyHouse$RuleReader" 143) "java/lang/String" "value" "[B") (.int 2)) (.int 108)).before #[Value.ref b] s = true := hs _ (by decide +kernel)
  have e9_3 : (Cond.eq (.elem (.field (.string "HoneyHouse$RuleReader" 143) "java/lang/String" "value" "[B") (.int 3)) (.int 108)).before #[Value.ref b] s = true := hs _ (by decide +kernel)
  have e9_4 : (Cond.eq (.elem (.field (.string "HoneyHouse$RuleReader" 143) "java/lang/String" "value" "[B") (.int 4)) (.int 101)).before #[Value.ref b] s = true := hs _ (by decide +kernel)
  have e9_5 : (Cond.eq (.elem (.field (.string "HoneyHouse$RuleReader" 143) "java/lang/String" "value" "[B") (.int 5)) (.int 110)).before #[Value.ref b] s = true := hs _ (by decide +kernel)
  have x10 : (Cond.exactly (.string "HoneyHouse$RuleReader" 145) "java/lang/String").before #[Value.ref b] s = true := hs _ (by decide +kernel)
  have c10 : (Cond.eq (.field (.string "HoneyHouse$RuleReader" 145) "java/lang/String" "coder" "B") (.int 0)).before #[Value.ref b] s = true := hs _ (by decide +kernel)
  have a10 : (Cond.arrayOf (.field (.string "HoneyHouse$RuleReader" 145) "java/lang/String" "value" "[B") .byte).before #[Value.ref b] s = true := hs _ (by decide +kernel)
  have l10 : (Cond.eq (.length (.field (.string "HoneyHouse$RuleReader" 145) "java/lang/String" "value" "[B")) (.int 4)).before #[Value.ref b] s = true := hs _ (by decide +kernel)
  have e10_0 : (Cond.eq (.elem (.field (.string "HoneyHouse$RuleReader" 145) "java/lang/String" "value" "[B") (.int 0)) (.int 108)).before #[Value.ref b] s = true := hs _ (by decide +kernel)
  have e10_1 : (Cond.eq (.elem (.field (.string "HoneyHouse$RuleReader" 145) "java/lang/String" "value" "[B") (.int 1)) (.int 97)).before #[Value.ref b] s = true := hs _ (by decide +kernel)
  have e10_2 : (Cond.eq (.elem (.field (.string "HoneyHouse$RuleReader" 145) "java/lang/String" "value" "[B") (.int 2)) (.int 110)).before #[Value.ref b] s = true := hs _ (by decide +kernel)
  have e10_3 : (Cond.eq (.elem (.field (.string "HoneyHouse$RuleReader" 145) "java/lang/String" "value" "[B") (.int 3)) (.int 100)).before #[Value.ref b] s = true := hs _ (by decide +kernel)
  obtain ⟨adK, adV, hS, hE⟩ := vk_Sof (args := #[Value.ref b]) (s := s) (N := 11) (tm := fun i => .string "HoneyHouse$RuleReader" (([47, 97, 102, 104, 106, 108, 137, 139, 141, 143, 145] : List Nat).getD i 0)) (len := lenS) (byt := bytS) (A := (fun q : Nat => s.heap.size ≤ q))
    (fun i hi => by have := lenS_le i hi; omega)
    (fun i hi => by
      rcases (show i = 0 ∨ i = 1 ∨ i = 2 ∨ i = 3 ∨ i = 4 ∨ i = 5 ∨ i = 6 ∨ i = 7 ∨ i = 8 ∨ i = 9 ∨ i = 10 by omega) with rfl | rfl | rfl | rfl | rfl | rfl | rfl | rfl | rfl | rfl | rfl
      · exact x0
      · exact x1
      · exact x2
      · exact x3
      · exact x4
      · exact x5
      · exact x6
      · exact x7
      · exact x8
      · exact x9
      · exact x10)
    (fun i hi => by
      rcases (show i = 0 ∨ i = 1 ∨ i = 2 ∨ i = 3 ∨ i = 4 ∨ i = 5 ∨ i = 6 ∨ i = 7 ∨ i = 8 ∨ i = 9 ∨ i = 10 by omega) with rfl | rfl | rfl | rfl | rfl | rfl | rfl | rfl | rfl | rfl | rfl
      · exact c0
      · exact c1
      · exact c2
      · exact c3
      · exact c4
      · exact c5
      · exact c6
      · exact c7
      · exact c8
      · exact c9
      · exact c10)
    (fun i hi => by
      rcases (show i = 0 ∨ i = 1 ∨ i = 2 ∨ i = 3 ∨ i = 4 ∨ i = 5 ∨ i = 6 ∨ i = 7 ∨ i = 8 ∨ i = 9 ∨ i = 10 by omega) with rfl | rfl | rfl | rfl | rfl | rfl | rfl | rfl | rfl | rfl | rfl
      · exact a0
      · exact a1
      · exact a2
      · exact a3
      · exact a4
      · exact a5
      · exact a6
      · exact a7
      · exact a8
      · exact a9
      · exact a10)
    (fun i hi => by
      rcases (show i = 0 ∨ i = 1 ∨ i = 2 ∨ i = 3 ∨ i = 4 ∨ i = 5 ∨ i = 6 ∨ i = 7 ∨ i = 8 ∨ i = 9 ∨ i = 10 by omega) with rfl | rfl | rfl | rfl | rfl | rfl | rfl | rfl | rfl | rfl | rfl
      · exact l0
      · exact l1
      · exact l2
      · exact l3
      · exact l4
      · exact l5
      · exact l6
      · exact l7
      · exact l8
      · exact l9
      · exact l10)
    (fun i hi z hz => by
        rcases (show i = 0 ∨ i = 1 ∨ i = 2 ∨ i = 3 ∨ i = 4 ∨ i = 5 ∨ i = 6 ∨ i = 7 ∨ i = 8 ∨ i = 9 ∨ i = 10 by omega) with rfl | rfl | rfl | rfl | rfl | rfl | rfl | rfl | rfl | rfl | rfl
        · have hz : z < 4 := hz
          rcases (show z = 0 ∨ z = 1 ∨ z = 2 ∨ z = 3 by omega) with rfl | rfl | rfl | rfl
          · exact e0_0
          · exact e0_1
          · exact e0_2
          · exact e0_3
        · have hz : z < 2 := hz
          rcases (show z = 0 ∨ z = 1 by omega) with rfl | rfl
          · exact e1_0
          · exact e1_1
        · have hz : z < 3 := hz
          rcases (show z = 0 ∨ z = 1 ∨ z = 2 by omega) with rfl | rfl | rfl
          · exact e2_0
          · exact e2_1
          · exact e2_2
        · have hz : z < 3 := hz
          rcases (show z = 0 ∨ z = 1 ∨ z = 2 by omega) with rfl | rfl | rfl
          · exact e3_0
          · exact e3_1
          · exact e3_2
        · have hz : z < 3 := hz
          rcases (show z = 0 ∨ z = 1 ∨ z = 2 by omega) with rfl | rfl | rfl
          · exact e4_0
          · exact e4_1
          · exact e4_2
        · have hz : z < 3 := hz
          rcases (show z = 0 ∨ z = 1 ∨ z = 2 by omega) with rfl | rfl | rfl
          · exact e5_0
          · exact e5_1
          · exact e5_2
        · have hz : z < 5 := hz
          rcases (show z = 0 ∨ z = 1 ∨ z = 2 ∨ z = 3 ∨ z = 4 by omega) with rfl | rfl | rfl | rfl | rfl
          · exact e6_0
          · exact e6_1
          · exact e6_2
          · exact e6_3
          · exact e6_4
        · have hz : z < 6 := hz
          rcases (show z = 0 ∨ z = 1 ∨ z = 2 ∨ z = 3 ∨ z = 4 ∨ z = 5 by omega) with rfl | rfl | rfl | rfl | rfl | rfl
          · exact e7_0
          · exact e7_1
          · exact e7_2
          · exact e7_3
          · exact e7_4
          · exact e7_5
        · have hz : z < 4 := hz
          rcases (show z = 0 ∨ z = 1 ∨ z = 2 ∨ z = 3 by omega) with rfl | rfl | rfl | rfl
          · exact e8_0
          · exact e8_1
          · exact e8_2
          · exact e8_3
        · have hz : z < 6 := hz
          rcases (show z = 0 ∨ z = 1 ∨ z = 2 ∨ z = 3 ∨ z = 4 ∨ z = 5 by omega) with rfl | rfl | rfl | rfl | rfl | rfl
          · exact e9_0
          · exact e9_1
          · exact e9_2
          · exact e9_3
          · exact e9_4
          · exact e9_5
        · have hz : z < 4 := hz
          rcases (show z = 0 ∨ z = 1 ∨ z = 2 ∨ z = 3 by omega) with rfl | rfl | rfl | rfl
          · exact e10_0
          · exact e10_1
          · exact e10_2
          · exact e10_3)
    (fun i j hi hj hij => by
        rcases (show i = 0 ∨ i = 1 ∨ i = 2 ∨ i = 3 ∨ i = 4 ∨ i = 5 ∨ i = 6 ∨ i = 7 ∨ i = 8 ∨ i = 9 ∨ i = 10 by omega) with rfl | rfl | rfl | rfl | rfl | rfl | rfl | rfl | rfl | rfl | rfl
        · rcases (show j = 0 ∨ j = 1 ∨ j = 2 ∨ j = 3 ∨ j = 4 ∨ j = 5 ∨ j = 6 ∨ j = 7 ∨ j = 8 ∨ j = 9 ∨ j = 10 by omega) with rfl | rfl | rfl | rfl | rfl | rfl | rfl | rfl | rfl | rfl | rfl
          · exact absurd rfl hij
          · first | exact Or.inl (hs _ (by decide +kernel)) | exact Or.inr (hs _ (by decide +kernel))
          · first | exact Or.inl (hs _ (by decide +kernel)) | exact Or.inr (hs _ (by decide +kernel))
          · first | exact Or.inl (hs _ (by decide +kernel)) | exact Or.inr (hs _ (by decide +kernel))
          · first | exact Or.inl (hs _ (by decide +kernel)) | exact Or.inr (hs _ (by decide +kernel))
          · first | exact Or.inl (hs _ (by decide +kernel)) | exact Or.inr (hs _ (by decide +kernel))
          · first | exact Or.inl (hs _ (by decide +kernel)) | exact Or.inr (hs _ (by decide +kernel))
          · first | exact Or.inl (hs _ (by decide +kernel)) | exact Or.inr (hs _ (by decide +kernel))
          · first | exact Or.inl (hs _ (by decide +kernel)) | exact Or.inr (hs _ (by decide +kernel))
          · first | exact Or.inl (hs _ (by decide +kernel)) | exact Or.inr (hs _ (by decide +kernel))
          · first | exact Or.inl (hs _ (by decide +kernel)) | exact Or.inr (hs _ (by decide +kernel))
        · rcases (show j = 0 ∨ j = 1 ∨ j = 2 ∨ j = 3 ∨ j = 4 ∨ j = 5 ∨ j = 6 ∨ j = 7 ∨ j = 8 ∨ j = 9 ∨ j = 10 by omega) with rfl | rfl | rfl | rfl | rfl | rfl | rfl | rfl | rfl | rfl | rfl
          · first | exact Or.inl (hs _ (by decide +kernel)) | exact Or.inr (hs _ (by decide +kernel))
          · exact absurd rfl hij
          · first | exact Or.inl (hs _ (by decide +kernel)) | exact Or.inr (hs _ (by decide +kernel))
          · first | exact Or.inl (hs _ (by decide +kernel)) | exact Or.inr (hs _ (by decide +kernel))
          · first | exact Or.inl (hs _ (by decide +kernel)) | exact Or.inr (hs _ (by decide +kernel))
          · first | exact Or.inl (hs _ (by decide +kernel)) | exact Or.inr (hs _ (by decide +kernel))
          · first | exact Or.inl (hs _ (by decide +kernel)) | exact Or.inr (hs _ (by decide +kernel))
          · first | exact Or.inl (hs _ (by decide +kernel)) | exact Or.inr (hs _ (by decide +kernel))
          · first | exact Or.inl (hs _ (by decide +kernel)) | exact Or.inr (hs _ (by decide +kernel))
          · first | exact Or.inl (hs _ (by decide +kernel)) | exact Or.inr (hs _ (by decide +kernel))
          · first | exact Or.inl (hs _ (by decide +kernel)) | exact Or.inr (hs _ (by decide +kernel))
        · rcases (show j = 0 ∨ j = 1 ∨ j = 2 ∨ j = 3 ∨ j = 4 ∨ j = 5 ∨ j = 6 ∨ j = 7 ∨ j = 8 ∨ j = 9 ∨ j = 10 by omega) with rfl | rfl | rfl | rfl | rfl | rfl | rfl | rfl | rfl | rfl | rfl
          · first | exact Or.inl (hs _ (by decide +kernel)) | exact Or.inr (hs _ (by decide +kernel))
          · first | exact Or.inl (hs _ (by decide +kernel)) | exact Or.inr (hs _ (by decide +kernel))
          · exact absurd rfl hij
          · first | exact Or.inl (hs _ (by decide +kernel)) | exact Or.inr (hs _ (by decide +kernel))
          · first | exact Or.inl (hs _ (by decide +kernel)) | exact Or.inr (hs _ (by decide +kernel))
          · first | exact Or.inl (hs _ (by decide +kernel)) | exact Or.inr (hs _ (by decide +kernel))
          · first | exact Or.inl (hs _ (by decide +kernel)) | exact Or.inr (hs _ (by decide +kernel))
          · first | exact Or.inl (hs _ (by decide +kernel)) | exact Or.inr (hs _ (by decide +kernel))
          · first | exact Or.inl (hs _ (by decide +kernel)) | exact Or.inr (hs _ (by decide +kernel))
          · first | exact Or.inl (hs _ (by decide +kernel)) | exact Or.inr (hs _ (by decide +kernel))
          · first | exact Or.inl (hs _ (by decide +kernel)) | exact Or.inr (hs _ (by decide +kernel))
        · rcases (show j = 0 ∨ j = 1 ∨ j = 2 ∨ j = 3 ∨ j = 4 ∨ j = 5 ∨ j = 6 ∨ j = 7 ∨ j = 8 ∨ j = 9 ∨ j = 10 by omega) with rfl | rfl | rfl | rfl | rfl | rfl | rfl | rfl | rfl | rfl | rfl
          · first | exact Or.inl (hs _ (by decide +kernel)) | exact Or.inr (hs _ (by decide +kernel))
          · first | exact Or.inl (hs _ (by decide +kernel)) | exact Or.inr (hs _ (by decide +kernel))
          · first | exact Or.inl (hs _ (by decide +kernel)) | exact Or.inr (hs _ (by decide +kernel))
          · exact absurd rfl hij
          · first | exact Or.inl (hs _ (by decide +kernel)) | exact Or.inr (hs _ (by decide +kernel))
          · first | exact Or.inl (hs _ (by decide +kernel)) | exact Or.inr (hs _ (by decide +kernel))
          · first | exact Or.inl (hs _ (by decide +kernel)) | exact Or.inr (hs _ (by decide +kernel))
          · first | exact Or.inl (hs _ (by decide +kernel)) | exact Or.inr (hs _ (by decide +kernel))
          · first | exact Or.inl (hs _ (by decide +kernel)) | exact Or.inr (hs _ (by decide +kernel))
          · first | exact Or.inl (hs _ (by decide +kernel)) | exact Or.inr (hs _ (by decide +kernel))
          · first | exact Or.inl (hs _ (by decide +kernel)) | exact Or.inr (hs _ (by decide +kernel))
        · rcases (show j = 0 ∨ j = 1 ∨ j = 2 ∨ j = 3 ∨ j = 4 ∨ j = 5 ∨ j = 6 ∨ j = 7 ∨ j = 8 ∨ j = 9 ∨ j = 10 by omega) with rfl | rfl | rfl | rfl | rfl | rfl | rfl | rfl | rfl | rfl | rfl
          · first | exact Or.inl (hs _ (by decide +kernel)) | exact Or.inr (hs _ (by decide +kernel))
          · first | exact Or.inl (hs _ (by decide +kernel)) | exact Or.inr (hs _ (by decide +kernel))
          · first | exact Or.inl (hs _ (by decide +kernel)) | exact Or.inr (hs _ (by decide +kernel))
          · first | exact Or.inl (hs _ (by decide +kernel)) | exact Or.inr (hs _ (by decide +kernel))
          · exact absurd rfl hij
          · first | exact Or.inl (hs _ (by decide +kernel)) | exact Or.inr (hs _ (by decide +kernel))
          · first | exact Or.inl (hs _ (by decide +kernel)) | exact Or.inr (hs _ (by decide +kernel))
          · first | exact Or.inl (hs _ (by decide +kernel)) | exact Or.inr (hs _ (by decide +kernel))
          · first | exact Or.inl (hs _ (by decide +kernel)) | exact Or.inr (hs _ (by decide +kernel))
          · first | exact Or.inl (hs _ (by decide +kernel)) | exact Or.inr (hs _ (by decide +kernel))
          · first | exact Or.inl (hs _ (by decide +kernel)) | exact Or.inr (hs _ (by decide +kernel))
        · rcases (show j = 0 ∨ j = 1 ∨ j = 2 ∨ j = 3 ∨ j = 4 ∨ j = 5 ∨ j = 6 ∨ j = 7 ∨ j = 8 ∨ j = 9 ∨ j = 10 by omega) with rfl | rfl | rfl | rfl | rfl | rfl | rfl | rfl | rfl | rfl | rfl
          · first | exact Or.inl (hs _ (by decide +kernel)) | exact Or.inr (hs _ (by decide +kernel))
          · first | exact Or.inl (hs _ (by decide +kernel)) | exact Or.inr (hs _ (by decide +kernel))
          · first | exact Or.inl (hs _ (by decide +kernel)) | exact Or.inr (hs _ (by decide +kernel))
          · first | exact Or.inl (hs _ (by decide +kernel)) | exact Or.inr (hs _ (by decide +kernel))
          · first | exact Or.inl (hs _ (by decide +kernel)) | exact Or.inr (hs _ (by decide +kernel))
          · exact absurd rfl hij
          · first | exact Or.inl (hs _ (by decide +kernel)) | exact Or.inr (hs _ (by decide +kernel))
          · first | exact Or.inl (hs _ (by decide +kernel)) | exact Or.inr (hs _ (by decide +kernel))
          · first | exact Or.inl (hs _ (by decide +kernel)) | exact Or.inr (hs _ (by decide +kernel))
          · first | exact Or.inl (hs _ (by decide +kernel)) | exact Or.inr (hs _ (by decide +kernel))
          · first | exact Or.inl (hs _ (by decide +kernel)) | exact Or.inr (hs _ (by decide +kernel))
        · rcases (show j = 0 ∨ j = 1 ∨ j = 2 ∨ j = 3 ∨ j = 4 ∨ j = 5 ∨ j = 6 ∨ j = 7 ∨ j = 8 ∨ j = 9 ∨ j = 10 by omega) with rfl | rfl | rfl | rfl | rfl | rfl | rfl | rfl | rfl | rfl | rfl
          · first | exact Or.inl (hs _ (by decide +kernel)) | exact Or.inr (hs _ (by decide +kernel))
          · first | exact Or.inl (hs _ (by decide +kernel)) | exact Or.inr (hs _ (by decide +kernel))
          · first | exact Or.inl (hs _ (by decide +kernel)) | exact Or.inr (hs _ (by decide +kernel))
          · first | exact Or.inl (hs _ (by decide +kernel)) | exact Or.inr (hs _ (by decide +kernel))
          · first | exact Or.inl (hs _ (by decide +kernel)) | exact Or.inr (hs _ (by decide +kernel))
          · first | exact Or.inl (hs _ (by decide +kernel)) | exact Or.inr (hs _ (by decide +kernel))
          · exact absurd rfl hij
          · first | exact Or.inl (hs _ (by decide +kernel)) | exact Or.inr (hs _ (by decide +kernel))
          · first | exact Or.inl (hs _ (by decide +kernel)) | exact Or.inr (hs _ (by decide +kernel))
          · first | exact Or.inl (hs _ (by decide +kernel)) | exact Or.inr (hs _ (by decide +kernel))
          · first | exact Or.inl (hs _ (by decide +kernel)) | exact Or.inr (hs _ (by decide +kernel))
        · rcases (show j = 0 ∨ j = 1 ∨ j = 2 ∨ j = 3 ∨ j = 4 ∨ j = 5 ∨ j = 6 ∨ j = 7 ∨ j = 8 ∨ j = 9 ∨ j = 10 by omega) with rfl | rfl | rfl | rfl | rfl | rfl | rfl | rfl | rfl | rfl | rfl
          · first | exact Or.inl (hs _ (by decide +kernel)) | exact Or.inr (hs _ (by decide +kernel))
          · first | exact Or.inl (hs _ (by decide +kernel)) | exact Or.inr (hs _ (by decide +kernel))
          · first | exact Or.inl (hs _ (by decide +kernel)) | exact Or.inr (hs _ (by decide +kernel))
          · first | exact Or.inl (hs _ (by decide +kernel)) | exact Or.inr (hs _ (by decide +kernel))
          · first | exact Or.inl (hs _ (by decide +kernel)) | exact Or.inr (hs _ (by decide +kernel))
          · first | exact Or.inl (hs _ (by decide +kernel)) | exact Or.inr (hs _ (by decide +kernel))
          · first | exact Or.inl (hs _ (by decide +kernel)) | exact Or.inr (hs _ (by decide +kernel))
          · exact absurd rfl hij
          · first | exact Or.inl (hs _ (by decide +kernel)) | exact Or.inr (hs _ (by decide +kernel))
          · first | exact Or.inl (hs _ (by decide +kernel)) | exact Or.inr (hs _ (by decide +kernel))
          · first | exact Or.inl (hs _ (by decide +kernel)) | exact Or.inr (hs _ (by decide +kernel))
        · rcases (show j = 0 ∨ j = 1 ∨ j = 2 ∨ j = 3 ∨ j = 4 ∨ j = 5 ∨ j = 6 ∨ j = 7 ∨ j = 8 ∨ j = 9 ∨ j = 10 by omega) with rfl | rfl | rfl | rfl | rfl | rfl | rfl | rfl | rfl | rfl | rfl
          · first | exact Or.inl (hs _ (by decide +kernel)) | exact Or.inr (hs _ (by decide +kernel))
          · first | exact Or.inl (hs _ (by decide +kernel)) | exact Or.inr (hs _ (by decide +kernel))
          · first | exact Or.inl (hs _ (by decide +kernel)) | exact Or.inr (hs _ (by decide +kernel))
          · first | exact Or.inl (hs _ (by decide +kernel)) | exact Or.inr (hs _ (by decide +kernel))
          · first | exact Or.inl (hs _ (by decide +kernel)) | exact Or.inr (hs _ (by decide +kernel))
          · first | exact Or.inl (hs _ (by decide +kernel)) | exact Or.inr (hs _ (by decide +kernel))
          · first | exact Or.inl (hs _ (by decide +kernel)) | exact Or.inr (hs _ (by decide +kernel))
          · first | exact Or.inl (hs _ (by decide +kernel)) | exact Or.inr (hs _ (by decide +kernel))
          · exact absurd rfl hij
          · first | exact Or.inl (hs _ (by decide +kernel)) | exact Or.inr (hs _ (by decide +kernel))
          · first | exact Or.inl (hs _ (by decide +kernel)) | exact Or.inr (hs _ (by decide +kernel))
        · rcases (show j = 0 ∨ j = 1 ∨ j = 2 ∨ j = 3 ∨ j = 4 ∨ j = 5 ∨ j = 6 ∨ j = 7 ∨ j = 8 ∨ j = 9 ∨ j = 10 by omega) with rfl | rfl | rfl | rfl | rfl | rfl | rfl | rfl | rfl | rfl | rfl
          · first | exact Or.inl (hs _ (by decide +kernel)) | exact Or.inr (hs _ (by decide +kernel))
          · first | exact Or.inl (hs _ (by decide +kernel)) | exact Or.inr (hs _ (by decide +kernel))
          · first | exact Or.inl (hs _ (by decide +kernel)) | exact Or.inr (hs _ (by decide +kernel))
          · first | exact Or.inl (hs _ (by decide +kernel)) | exact Or.inr (hs _ (by decide +kernel))
          · first | exact Or.inl (hs _ (by decide +kernel)) | exact Or.inr (hs _ (by decide +kernel))
          · first | exact Or.inl (hs _ (by decide +kernel)) | exact Or.inr (hs _ (by decide +kernel))
          · first | exact Or.inl (hs _ (by decide +kernel)) | exact Or.inr (hs _ (by decide +kernel))
          · first | exact Or.inl (hs _ (by decide +kernel)) | exact Or.inr (hs _ (by decide +kernel))
          · first | exact Or.inl (hs _ (by decide +kernel)) | exact Or.inr (hs _ (by decide +kernel))
          · exact absurd rfl hij
          · first | exact Or.inl (hs _ (by decide +kernel)) | exact Or.inr (hs _ (by decide +kernel))
        · rcases (show j = 0 ∨ j = 1 ∨ j = 2 ∨ j = 3 ∨ j = 4 ∨ j = 5 ∨ j = 6 ∨ j = 7 ∨ j = 8 ∨ j = 9 ∨ j = 10 by omega) with rfl | rfl | rfl | rfl | rfl | rfl | rfl | rfl | rfl | rfl | rfl
          · first | exact Or.inl (hs _ (by decide +kernel)) | exact Or.inr (hs _ (by decide +kernel))
          · first | exact Or.inl (hs _ (by decide +kernel)) | exact Or.inr (hs _ (by decide +kernel))
          · first | exact Or.inl (hs _ (by decide +kernel)) | exact Or.inr (hs _ (by decide +kernel))
          · first | exact Or.inl (hs _ (by decide +kernel)) | exact Or.inr (hs _ (by decide +kernel))
          · first | exact Or.inl (hs _ (by decide +kernel)) | exact Or.inr (hs _ (by decide +kernel))
          · first | exact Or.inl (hs _ (by decide +kernel)) | exact Or.inr (hs _ (by decide +kernel))
          · first | exact Or.inl (hs _ (by decide +kernel)) | exact Or.inr (hs _ (by decide +kernel))
          · first | exact Or.inl (hs _ (by decide +kernel)) | exact Or.inr (hs _ (by decide +kernel))
          · first | exact Or.inl (hs _ (by decide +kernel)) | exact Or.inr (hs _ (by decide +kernel))
          · first | exact Or.inl (hs _ (by decide +kernel)) | exact Or.inr (hs _ (by decide +kernel))
          · exact absurd rfl hij)
    (fun a ha => Nat.not_le.mpr ha)
  have hst : (Cond.eq (.static "java/lang/String" "COMPACT_STRINGS" "Z") (.int 1)).before #[Value.ref b] s = true := hs _ (by decide +kernel)
  have hfm : (Cond.isRef (.static "jdk/internal/util/Preconditions" "SIOOBE_FORMATTER" "Ljava/util/function/BiFunction;")).before #[Value.ref b] s = true := hs _ (by decide +kernel)
  have z1 := va_Zof (A := (fun q : Nat => s.heap.size ≤ q)) (args := #[Value.ref b]) (v := .int 1) (htt (.laysStatic "java/lang/String" "COMPACT_STRINGS" "Z") (List.mem_of_getElem? (i := 572) rfl)) (htt (.initialized "java/lang/String") (List.mem_of_getElem? (i := 72) rfl)) (va_eqi hst) (fun a ha => Nat.not_le.mpr ha)
  obtain ⟨fo, z2⟩ : ∃ fo : Option Nat, va_Z "jdk/internal/util/Preconditions" "SIOOBE_FORMATTER" "Ljava/util/function/BiFunction;" (va_rf fo) (fun q : Nat => s.heap.size ≤ q) s s.heap := by
    rcases va_Zqof (A := (fun q : Nat => s.heap.size ≤ q)) (args := #[Value.ref b]) (htt (.laysStatic "jdk/internal/util/Preconditions" "SIOOBE_FORMATTER" "Ljava/util/function/BiFunction;") (List.mem_of_getElem? (i := 588) rfl)) (htt (.initialized "jdk/internal/util/Preconditions") (List.mem_of_getElem? (i := 74) rfl)) hfm (fun a ha => Nat.not_le.mpr ha) with h9 | ⟨t9, h9⟩
    · exact ⟨none, h9⟩
    · exact ⟨some t9, h9⟩
  refine ⟨adK, adV, fo, hS, z1, z2, vk_R.of (htt (.stringRef RX4 47 "from") (List.mem_of_getElem? (i := 615) rfl)) (hE 0 (by omega)), vk_R.of (htt (.stringRef RX4 97 "or") (List.mem_of_getElem? (i := 558) rfl)) (hE 1 (by omega)), vk_R.of (htt (.stringRef RX4 102 "and") (List.mem_of_getElem? (i := 611) rfl)) (hE 2 (by omega)), vk_R.of (htt (.stringRef RX4 104 "not") (List.mem_of_getElem? (i := 612) rfl)) (hE 3 (by omega)), vk_R.of (htt (.stringRef RX4 106 "min") (List.mem_of_getElem? (i := 613) rfl)) (hE 4 (by omega)), vk_R.of (htt (.stringRef RX4 108 "max") (List.mem_of_getElem? (i := 614) rfl)) (hE 5 (by omega)), vk_R.of (htt (.stringRef RX4 137 "water") (List.mem_of_getElem? (i := 620) rfl)) (hE 6 (by omega)), vk_R.of (htt (.stringRef RX4 139 "colour") (List.mem_of_getElem? (i := 621) rfl)) (hE 7 (by omega)), vk_R.of (htt (.stringRef RX4 141 "heat") (List.mem_of_getElem? (i := 622) rfl)) (hE 8 (by omega)), vk_R.of (htt (.stringRef RX4 143 "pollen") (List.mem_of_getElem? (i := 623) rfl)) (hE 9 (by omega)), vk_R.of (htt (.stringRef RX4 145 "land") (List.mem_of_getElem? (i := 624) rfl)) (hE 10 (by omega))⟩
