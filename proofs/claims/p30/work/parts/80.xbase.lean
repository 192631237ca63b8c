/-! the links of nest mates that the class' methods take -/
def NZ (U : State) : Prop := va_Nw (.methodLinkNest RX2 20 yX5_init RX8) U ∧ va_Nw (.methodLinkNest RX2 61 yX8_isPollenLow RX8) U ∧ va_Nw (.methodLinkNest RX2 65 yX8_isPollenHigh RX8) U
theorem NZ.same {u U : State} (h : u.vm = U.vm) (z : NZ u) : NZ U := ⟨va_Nw.same rfl h z.1, va_Nw.same rfl h z.2.1, va_Nw.same rfl h z.2.2⟩
theorem NZ.warm {s U : State} (hW : s.WarmedH U.vm) (z : NZ s) : NZ U := ⟨va_Nw.warmM hW z.1, va_Nw.warmM hW z.2.1, va_Nw.warmM hW z.2.2⟩
theorem run_cr {p : Program} {l : Launch} {e : Env} {R : Room} {s : State} {m : MethodId} {args : Array Value} {below : List Frame} {meth : Method} {c : Code} {H : Heap} {locs : List Loc} {cells slots mc ms : Nat} {g : JFrame} {rest : List Value} {Qa : State → Outcome → State → Prop} {free : Addr → Prop} (h : va_Run p l e R s m args below meth c H locs cells slots mc ms g rest Qa free) : CallRun p l e R s m args below meth c H locs cells slots mc ms g rest Qa free := by
  intro T hT X
  obtain ⟨v, st0, t, T', L, h1, h2, h3, h4, -, h6, h7⟩ := h T hT X
  exact ⟨v, st0, t, T', L, h1, h2, h3, h4, h6, h7⟩
