/-- a loop that changes no cell: at its head with i rounds behind, N at most -/
theorem lp_W {p : Program} {l : Launch} {e : Env} {R : Room} {s : State} {m : MethodId} {args : Array Value} {below : List Frame} {meth : Method} {c : Code} {H : Heap} {locs : List Loc} {cells slots : Nat} {Q : State → Prop} {pc : Nat} (nL N : Nat) (lv : Nat → List (Nat × Value))
    (hs : ∀ i : Nat, i ≤ N → (i < N → ∀ ls : Array Slot, lv_has ls nL (lv (i + 1)) → W p l e R s m args below meth c H locs cells slots Q (F0 m pc ls [])) → ∀ ls : Array Slot, lv_has ls nL (lv i) → W p l e R s m args below meth c H locs cells slots Q (F0 m pc ls [])) :
    ∀ i : Nat, i ≤ N → ∀ ls : Array Slot, lv_has ls nL (lv i) → W p l e R s m args below meth c H locs cells slots Q (F0 m pc ls []) := by
  have key : ∀ (n i : Nat), i ≤ N → N + 1 ≤ i + n → ∀ ls : Array Slot, lv_has ls nL (lv i) → W p l e R s m args below meth c H locs cells slots Q (F0 m pc ls []) := by
    intro n
    induction n with
    | zero => intro i h1 h2; exact absurd h2 (by omega)
    | succ n ih => intro i h1 h2; exact hs i h1 (fun h ls hl => ih (i + 1) (by omega) (by omega) ls hl)
  intro i hi
  exact key (N + 1) i hi (by omega)
theorem i_lt_of {i N : Nat} {M : Int32} (hi : i ≤ N) (hN : N < 2147483648) (hM : M = nI N) (h : ¬ M ≤ nI i) : i < N := by
  rcases Nat.lt_or_ge i N with q | q
  · exact q
  · exact absurd (by rw [hM]; exact nI_le q (by omega)) h
theorem i_inL {n M : Int32} {N : Nat} (a : ¬ n < 0) (b : ¬ M < n) (h : M.toInt < (N : Int)) : vp_in n N := by
  rw [i_lt] at a b
  have h0 : (0 : Int32).toInt = 0 := by decide
  rw [h0] at a
  exact vp_in_iff.mpr ⟨by omega, by omega⟩
set_option maxRecDepth 100000 in
theorem bits_n : ∀ n : Nat, n < 1024 → 1 ≤ n → ¬ ((nI n >>> ((0 : Int32) &&& 31) &&& 1) = 0 ∧ (nI n >>> ((1 : Int32) &&& 31) &&& 1) = 0 ∧ (nI n >>> ((2 : Int32) &&& 31) &&& 1) = 0 ∧ (nI n >>> ((3 : Int32) &&& 31) &&& 1) = 0 ∧ (nI n >>> ((4 : Int32) &&& 31) &&& 1) = 0 ∧ (nI n >>> ((5 : Int32) &&& 31) &&& 1) = 0 ∧ (nI n >>> ((6 : Int32) &&& 31) &&& 1) = 0 ∧ (nI n >>> ((7 : Int32) &&& 31) &&& 1) = 0 ∧ (nI n >>> ((8 : Int32) &&& 31) &&& 1) = 0 ∧ (nI n >>> ((9 : Int32) &&& 31) &&& 1) = 0) := by decide +kernel
theorem bits_lo {b : Int32} (h1 : ¬ b < 1) (h2 : ¬ 1023 < b) : ∃ n : Nat, n < 1024 ∧ 1 ≤ n ∧ b = nI n := by
  rw [i_lt] at h1 h2
  have e1 : (1 : Int32).toInt = 1 := by decide
  have e2 : (1023 : Int32).toInt = 1023 := by decide
  rw [e1] at h1; rw [e2] at h2
  refine ⟨b.toInt.toNat, by omega, by omega, ?_⟩
  apply Int32.toInt_inj.mp
  rw [nI_toInt (by omega)]
  omega
