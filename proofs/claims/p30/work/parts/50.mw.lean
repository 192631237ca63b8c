/-! THE REFERENCE'S WORLD: its object, its rows; iv: its ints, fv: what its rows hold, gv: its row of longs (by the number of the field) -/
def mfs (ad : Nat → Nat) (iv : Nat → Int32) : List Value := [.ref (ad 0), .int (iv 1), .int (iv 2), .int (iv 3), .ref (ad 4), .ref (ad 5), .ref (ad 6), .ref (ad 7), .ref (ad 8), .ref (ad 9), .ref (ad 10), .ref (ad 11), .ref (ad 12), .int (iv 13), .int (iv 14), .ref (ad 15), .ref (ad 16), .ref (ad 17), .ref (ad 18), .ref (ad 19), .ref (ad 20), .int (iv 21), .int (iv 22), .ref (ad 23), .ref (ad 24), .int (iv 25), .int (iv 26), .int (iv 27), .ref (ad 28), .int (iv 29), .int (iv 30), .int (iv 31), .ref (ad 32), .ref (ad 33), .ref (ad 34), .int (iv 35), .ref (ad 36), .ref (ad 37), .ref (ad 38), .ref (ad 39), .ref (ad 40), .ref (ad 41), .ref (ad 42), .int (iv 43)]
def mw (h0 : Nat) (ad : Nat → Nat) (cs : Nat → ClassId) (iv : Nat → Int32) (fv : Nat → Nat → Int32) (gv : Nat → Int64) : va_W := [(h0, .inr (9, mfs ad iv)), (ad 0, .inl (cs 0, 400, .inl (fv 0))), (ad 4, .inl (cs 4, 280, .inl (fv 4))), (ad 5, .inl (cs 5, 200, .inl (fv 5))), (ad 6, .inl (cs 6, 200, .inl (fv 6))), (ad 7, .inl (cs 7, 320, .inl (fv 7))), (ad 8, .inl (cs 8, 8, .inl (fv 8))), (ad 9, .inl (cs 9, 2800, .inl (fv 9))), (ad 10, .inl (cs 10, 70, .inl (fv 10))), (ad 11, .inl (cs 11, 70, .inl (fv 11))), (ad 12, .inl (cs 12, 70, .inl (fv 12))), (ad 15, .inl (cs 15, 192, .inl (fv 15))), (ad 16, .inl (cs 16, 16, .inl (fv 16))), (ad 17, .inl (cs 17, 16, .inl (fv 17))), (ad 18, .inl (cs 18, 16, .inl (fv 18))), (ad 19, .inl (cs 19, 3200, .inl (fv 19))), (ad 20, .inl (cs 20, 16, .inl (fv 20))), (ad 23, .inl (cs 23, 40, .inl (fv 23))), (ad 24, .inl (cs 24, 40, .inr (.inl gv))), (ad 28, .inl (cs 28, 32, .inl (fv 28))), (ad 32, .inl (cs 32, 12, .inl (fv 32))), (ad 33, .inl (cs 33, 200, .inl (fv 33))), (ad 34, .inl (cs 34, 64, .inl (fv 34))), (ad 36, .inl (cs 36, 10, .inl (fv 36))), (ad 37, .inl (cs 37, 4, .inl (fv 37))), (ad 38, .inl (cs 38, 4, .inl (fv 38))), (ad 39, .inl (cs 39, 4, .inl (fv 39))), (ad 40, .inl (cs 40, 4, .inl (fv 40))), (ad 41, .inl (cs 41, 4, .inl (fv 41))), (ad 42, .inl (cs 42, 60, .inl (fv 42)))]
def mT (cs : Nat → ClassId) : List (ClassId × FieldType) := [(cs 0, .int), (cs 4, .int), (cs 5, .int), (cs 6, .int), (cs 7, .int), (cs 8, .int), (cs 9, .int), (cs 10, .int), (cs 11, .int), (cs 12, .int), (cs 15, .int), (cs 16, .int), (cs 17, .int), (cs 18, .int), (cs 19, .int), (cs 20, .int), (cs 23, .int), (cs 24, .long), (cs 28, .int), (cs 32, .int), (cs 33, .int), (cs 34, .int), (cs 36, .int), (cs 37, .int), (cs 38, .int), (cs 39, .int), (cs 40, .int), (cs 41, .int), (cs 42, .int)]
section LPV
variable {p : Program} {l : Launch} {e : Env} {R : Room} {s : State} {m : MethodId} {args : Array Value} {below : List Frame} {meth : Method} {c : Code} {cells slots : Nat} {Q : State → Prop} {pc : Nat} {D : va_G} {cl : List vw_C} {A : Nat → Prop} {H0 : Heap} {σ : Type}
/-- a loop over a world that changes, with a measure -/
theorem lp_V (nL : Nat) (lv : σ → List (Nat × Value)) (μ : σ → Nat) (J : σ → va_W → Prop)
    (hs : ∀ (x : σ) (ws : va_W) (H : Heap) (locs : List Loc) (ls : Array Slot), J x ws → va_P D cl ws H → va_D A ws → va_S A H0 H locs → lv_has ls nL (lv x) → (∀ (x' : σ) (ws' : va_W) (H' : Heap) (locs' : List Loc) (ls' : Array Slot), μ x' < μ x → J x' ws' → va_P D cl ws' H' → va_D A ws' → va_S A H0 H' locs' → lv_has ls' nL (lv x') → W p l e R s m args below meth c H' locs' cells slots Q (F0 m pc ls' [])) → W p l e R s m args below meth c H locs cells slots Q (F0 m pc ls [])) :
    ∀ (x : σ) (ws : va_W) (H : Heap) (locs : List Loc) (ls : Array Slot), J x ws → va_P D cl ws H → va_D A ws → va_S A H0 H locs → lv_has ls nL (lv x) → W p l e R s m args below meth c H locs cells slots Q (F0 m pc ls []) := by
  have key : ∀ (n : Nat) (x : σ) (ws : va_W) (H : Heap) (locs : List Loc) (ls : Array Slot), μ x < n → J x ws → va_P D cl ws H → va_D A ws → va_S A H0 H locs → lv_has ls nL (lv x) → W p l e R s m args below meth c H locs cells slots Q (F0 m pc ls []) := by
    intro n
    induction n with
    | zero => intro x ws H locs ls h; exact absurd h (by omega)
    | succ n ih => intro x ws H locs ls h hj hP hD hS hl; exact hs x ws H locs ls hj hP hD hS hl (fun x' ws' H' locs' ls' hm hj' hP' hD' hS' hl' => ih x' ws' H' locs' ls' (by omega) hj' hP' hD' hS' hl')
  intro x ws H locs ls
  exact key (μ x + 1) x ws H locs ls (by omega)
/-- a loop that changes no cell, with a measure -/
theorem lp_R {H : Heap} {locs : List Loc} (nL : Nat) (lv : σ → List (Nat × Value)) (μ : σ → Nat) (J : σ → Prop)
    (hs : ∀ (x : σ) (ls : Array Slot), J x → lv_has ls nL (lv x) → (∀ (x' : σ) (ls' : Array Slot), μ x' < μ x → J x' → lv_has ls' nL (lv x') → W p l e R s m args below meth c H locs cells slots Q (F0 m pc ls' [])) → W p l e R s m args below meth c H locs cells slots Q (F0 m pc ls [])) :
    ∀ (x : σ) (ls : Array Slot), J x → lv_has ls nL (lv x) → W p l e R s m args below meth c H locs cells slots Q (F0 m pc ls []) := by
  have key : ∀ (n : Nat) (x : σ) (ls : Array Slot), μ x < n → J x → lv_has ls nL (lv x) → W p l e R s m args below meth c H locs cells slots Q (F0 m pc ls []) := by
    intro n
    induction n with
    | zero => intro x ls h; exact absurd h (by omega)
    | succ n ih => intro x ls h hj hl; exact hs x ls hj hl (fun x' ls' hm hj' hl' => ih x' ls' (by omega) hj' hl')
  intro x ls
  exact key (μ x + 1) x ls (by omega)
end LPV
theorem n_gt0 {n : Nat} (h0 : 0 < n) (h : n < 2 ^ 31) : 0 < nI n := nI_lt (a := 0) (b := n) h0 h
theorem n_lt {a b : Nat} (ha : a < 2 ^ 31) (hb : b < 2 ^ 31) (c : nI a < nI b) : a < b := (nI_ltI ha hb).mp c
theorem n_nlt {a b : Nat} (ha : a < 2 ^ 31) (hb : b < 2 ^ 31) (c : ¬ nI a < nI b) : b ≤ a := Nat.le_of_not_lt (fun h => c ((nI_ltI ha hb).mpr h))
theorem n_le {a b : Nat} (ha : a < 2 ^ 31) (hb : b < 2 ^ 31) (c : nI a ≤ nI b) : a ≤ b := (nI_leI ha hb).mp c
theorem n_nle {a b : Nat} (ha : a < 2 ^ 31) (hb : b < 2 ^ 31) (c : ¬ nI a ≤ nI b) : b < a := Nat.lt_of_not_le (fun h => c ((nI_leI ha hb).mpr h))
theorem n_eq {a b : Nat} (ha : a < 2 ^ 31) (hb : b < 2 ^ 31) (c : nI a = nI b) : a = b := (nI_eq ha hb).mp c
theorem n_ne {a b : Nat} (ha : a < 2 ^ 31) (hb : b < 2 ^ 31) (c : ¬ nI a = nI b) : ¬ a = b := fun h => c ((nI_eq ha hb).mpr h)
theorem is_nat {v : Int32} {a b : Nat} (h1 : ¬ v < nI a) (h2 : ¬ nI b < v) (hab : a ≤ b ∧ b < 2 ^ 31) : ∃ j : Nat, a ≤ j ∧ j ≤ b ∧ v = nI j := by
  obtain ⟨q, hb⟩ := hab
  rw [i_lt, nI_toInt (by omega)] at h1
  rw [i_lt, nI_toInt hb] at h2
  refine ⟨v.toInt.toNat, by omega, by omega, ?_⟩
  apply Int32.toInt_inj.mp
  rw [nI_toInt (by omega)]
  omega
theorem ls_nat {v : Int32} {n : Nat} (h1 : ¬ v < 0) (h2 : ¬ nI n ≤ v) (hn : n < 2 ^ 31) : ∃ j : Nat, j < n ∧ v = nI j := by
  rw [i_lt] at h1
  rw [i_le, nI_toInt hn] at h2
  have e0 : (0 : Int32).toInt = 0 := by decide
  rw [e0] at h1
  refine ⟨v.toInt.toNat, by omega, ?_⟩
  apply Int32.toInt_inj.mp
  rw [nI_toInt (by omega)]
  omega
