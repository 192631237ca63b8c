/-! small rows of this work: a name for what lies on top of the stack, indices in range, plain facts of ints -/
section BASE
variable {p : Program} {l : Launch} {e : Env} {R : Room} {s : State} {m : MethodId} {args : Array Value} {below : List Frame} {meth : Method} {c : Code} {H : Heap} {locs : List Loc} {cells slots : Nat} {Q : State → Prop} {pc : Nat} {ls : Array Slot} {rest : List Value}
theorem tp_i {x y : Int32} (h : x = y) (k : W p l e R s m args below meth c H locs cells slots Q (F0 m pc ls (.int y :: rest))) : W p l e R s m args below meth c H locs cells slots Q (F0 m pc ls (.int x :: rest)) := by rw [h]; exact k
theorem tp_l {x y : Int64} (h : x = y) (k : W p l e R s m args below meth c H locs cells slots Q (F0 m pc ls (.long y :: rest))) : W p l e R s m args below meth c H locs cells slots Q (F0 m pc ls (.long x :: rest)) := by rw [h]; exact k
theorem tp_v {x y : Value} (h : x = y) (k : W p l e R s m args below meth c H locs cells slots Q (F0 m pc ls (y :: rest))) : W p l e R s m args below meth c H locs cells slots Q (F0 m pc ls (x :: rest)) := by rw [h]; exact k
end BASE
theorem i_lt (a b : Int32) : a < b ↔ a.toInt < b.toInt := Int32.lt_iff_toInt_lt
theorem i_le (a b : Int32) : a ≤ b ↔ a.toInt ≤ b.toInt := Int32.le_iff_toInt_le
theorem i_nlt {a b : Int32} (h : ¬ a < b) : b ≤ a := by rw [i_lt] at h; rw [i_le]; omega
theorem i_in {n M : Int32} {N : Nat} (a : ¬ n < 0) (b : ¬ M < n) (h : M.toInt + 1 = (N : Int)) : vp_in n N := by
  rw [i_lt] at a b
  have h0 : (0 : Int32).toInt = 0 := by decide
  rw [h0] at a
  exact vp_in_iff.mpr ⟨by omega, by omega⟩
theorem i_10 {g : Int32} (a : ¬ g < 1) (b : ¬ 0 < g) : False := by
  rw [i_lt] at a b
  have h0 : (0 : Int32).toInt = 0 := by decide
  have h1 : (1 : Int32).toInt = 1 := by decide
  rw [h1] at a; rw [h0] at b
  omega
theorem i_le_of {a b k : Int32} (h : a ≤ b) (hk : k.toInt + 1 = a.toInt) : k < b := by rw [i_le] at h; rw [i_lt]; omega
theorem i_nle_of {a b k : Int32} (h : ¬ a ≤ b) (hk : k.toInt + 1 = a.toInt) : ¬ k < b := by rw [i_le] at h; rw [i_lt]; omega
