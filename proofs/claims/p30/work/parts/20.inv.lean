/-! THE CLASS' INVARIANT: by the shape of its cells; ρ says of each place whether it is kept (not 0: what stands there is told by fv, the reference's rows) or may be written (0) -/
def aI (ρ : Nat → Nat) (ws : va_W) (tys : List (ClassId × FieldType)) (a n : Nat) : Prop := ∃ (k : Nat) (c : ClassId) (t : Nat) (f : Nat → Int32), ws[k]? = some (a, .inl (c, n, .inl f)) ∧ tys[t]? = some (c, .int) ∧ ρ k = 0
def bI (ws : va_W) (tys : List (ClassId × FieldType)) (a n : Nat) : Prop := ∃ (k : Nat) (c : ClassId) (t : Nat) (f : Nat → Int32), ws[k]? = some (a, .inl (c, n, .inl f)) ∧ tys[t]? = some (c, .int)
def aJ (ρ : Nat → Nat) (ws : va_W) (tys : List (ClassId × FieldType)) (a n : Nat) : Prop := ∃ (k : Nat) (c : ClassId) (t : Nat) (f : Nat → Int64), ws[k]? = some (a, .inl (c, n, .inr (.inl f))) ∧ tys[t]? = some (c, .long) ∧ ρ k = 0
def oV (ws : va_W) (tys : List (ClassId × FieldType)) (v : Nat) : Prop := ∃ (k g : Nat) (x1 x2 x3 x4 : Int32), ws[k]? = some (v, .inr (7, [.ref g, .int x1, .int x2, .int x3, .int x4])) ∧ bI ws tys g 40
def oS (ws : va_W) (tys : List (ClassId × FieldType)) (v : Nat) : Prop := ∃ (k g1 g2 : Nat), ws[k]? = some (v, .inr (5, [.ref g1, .ref g2])) ∧ bI ws tys g1 4 ∧ bI ws tys g2 4
def oL (ws : va_W) (tys : List (ClassId × FieldType)) (v : Nat) : Prop := ∃ (k lo hi st : Nat) (x0 x1 x2 x3 x7 x8 x9 : Int32), ws[k]? = some (v, .inr (2, [.int x0, .int x1, .int x2, .int x3, .ref lo, .ref hi, .ref st, .int x7, .int x8, .int x9])) ∧ bI ws tys lo 5 ∧ bI ws tys hi 5 ∧ oS ws tys st
def oR (ρ : Nat → Nat) (ws : va_W) (tys : List (ClassId × FieldType)) (v : Nat) : Prop := ∃ (k cd n : Nat) (x0 : Int64) (x1 x3 x4 : Int32), ws[k]? = some (v, .inr (3, [.long x0, .int x1, .ref cd, .int x3, .int x4])) ∧ ρ k = 0 ∧ aI ρ ws tys cd n ∧ n ≤ 200
def oD (ρ : Nat → Nat) (ws : va_W) (tys : List (ClassId × FieldType)) (v : Nat) : Prop := ∃ (k g1 g2 : Nat), ws[k]? = some (v, .inr (1, [.ref g1, .ref g2])) ∧ aI ρ ws tys g1 40 ∧ aJ ρ ws tys g2 40
def oB (ρ : Nat → Nat) (ws : va_W) (tys : List (ClassId × FieldType)) (v : Nat) : Prop := ∃ (k q0 q2 q3 q4 q5 q6 q7 : Nat) (x1 x8 x9 x10 x11 x12 x13 : Int32), ws[k]? = some (v, .inr (0, [.ref q0, .int x1, .ref q2, .ref q3, .ref q4, .ref q5, .ref q6, .ref q7, .int x8, .int x9, .int x10, .int x11, .int x12, .int x13])) ∧ ρ k = 0 ∧ aI ρ ws tys q0 10 ∧ aI ρ ws tys q2 4 ∧ aI ρ ws tys q3 4 ∧ aI ρ ws tys q4 4 ∧ aI ρ ws tys q5 4 ∧ aI ρ ws tys q6 4 ∧ aI ρ ws tys q7 4
/-- the reader and its tape: the tape's length is told -/
def oW (ρ : Nat → Nat) (ws : va_W) (tys : List (ClassId × FieldType)) (v tl : Nat) : Prop := ∃ (k tp cd kt bb : Nat) (x1 : Int64) (x2 x3 x4 x6 x7 y1 y2 y3 : Int32), ws[k]? = some (v, .inr (4, [.ref tp, .long x1, .int x2, .int x3, .int x4, .ref cd, .int x6, .int x7])) ∧ ρ k = 0 ∧ aI ρ ws tys cd 200 ∧ ws[kt]? = some (tp, .inr (6, [.int (nI tl), .int y1, .int y2, .int y3, .ref bb])) ∧ ρ kt = 0 ∧ aI ρ ws tys bb 400
/-- a row of objects: each is null, or as P says -/
def aQ (ws : va_W) (tys : List (ClassId × FieldType)) (C : String) (P : Nat → Prop) (a n : Nat) : Prop := ∃ (k : Nat) (c : ClassId) (t : Nat) (g : Nat → Option Nat), ws[k]? = some (a, .inl (c, n, .inr (.inr (.inr (.inr g))))) ∧ tys[t]? = some (c, .object C) ∧ ∀ j v : Nat, g j = some v → P v
/-- a row that is kept, its numbers told -/
def rI (ρ : Nat → Nat) (ws : va_W) (tys : List (ClassId × FieldType)) (a n t0 : Nat) (φ : Nat → Int32) : Prop := ∃ (k : Nat) (c : ClassId) (t : Nat) (f : Nat → Int32), ws[k]? = some (a, .inl (c, n, .inl f)) ∧ tys[t]? = some (c, .int) ∧ ρ k = t0 ∧ ∀ i : Nat, i < n → f i = φ i
/-- steps of pay, told: those of lot j, or (j = 1000) those of now -/
def oST (ρ : Nat → Nat) (ws : va_W) (tys : List (ClassId × FieldType)) (v j : Nat) (φ ψ : Nat → Int32) : Prop := ∃ (k g1 g2 : Nat), ws[k]? = some (v, .inr (5, [.ref g1, .ref g2])) ∧ ρ k = 8 * j + 4 ∧ rI ρ ws tys g1 4 (8 * j + 5) φ ∧ rI ρ ws tys g2 4 (8 * j + 6) ψ
/-- lot j, told by the reference's rows -/
def LOT (ρ : Nat → Nat) (fv : Nat → Nat → Int32) (ws : va_W) (tys : List (ClassId × FieldType)) (v j : Nat) : Prop := ∃ (k lo hi st : Nat), ws[k]? = some (v, .inr (2, [.int (fv 4 (7 * j)), .int (fv 4 (7 * j + 1)), .int (fv 4 (7 * j + 3)), .int (fv 4 (7 * j + 4)), .ref lo, .ref hi, .ref st, .int (fv 4 (7 * j + 2)), .int (fv 4 (7 * j + 5)), .int (fv 4 (7 * j + 6))])) ∧ ρ k = 8 * j + 1 ∧ rI ρ ws tys lo 5 (8 * j + 2) (fun i => fv 5 (5 * j + i)) ∧ rI ρ ws tys hi 5 (8 * j + 3) (fun i => fv 6 (5 * j + i)) ∧ oST ρ ws tys st j (fun i => fv 7 (8 * j + 2 * i)) (fun i => fv 7 (8 * j + 2 * i + 1))
/-- the lots: those below lc stand, the others do not -/
def CL (ρ : Nat → Nat) (fv : Nat → Nat → Int32) (ws : va_W) (tys : List (ClassId × FieldType)) (a lc : Nat) : Prop := ∃ (k : Nat) (c : ClassId) (t : Nat) (g : Nat → Option Nat), ws[k]? = some (a, .inl (c, 40, .inr (.inr (.inr (.inr g))))) ∧ tys[t]? = some (c, .object RX2) ∧ (∀ j : Nat, lc ≤ j → g j = none) ∧ ∀ j : Nat, j < lc → ∃ v : Nat, g j = some v ∧ LOT ρ fv ws tys v j
/-- vessel r (tanks from 0, batches from 10), told by the reference's rows; its total is the sum of its row -/
def VES (ρ : Nat → Nat) (fv : Nat → Nat → Int32) (ws : va_W) (tys : List (ClassId × FieldType)) (v r : Nat) : Prop := ∃ (k g : Nat), ws[k]? = some (v, .inr (7, [.ref g, .int (mall (fv 9) r 40), .int (fv 10 r), .int (fv 11 r), .int (fv 12 r)])) ∧ ρ k = 10000 + 2 * r ∧ rI ρ ws tys g 40 (10001 + 2 * r) (fun i => fv 9 (40 * r + i))
/-- a row of vessels: those below c stand, as the vessels from o on -/
def CW (ρ : Nat → Nat) (fv : Nat → Nat → Int32) (ws : va_W) (tys : List (ClassId × FieldType)) (a N o c : Nat) : Prop := ∃ (k : Nat) (cl : ClassId) (t : Nat) (g : Nat → Option Nat), ws[k]? = some (a, .inl (cl, N, .inr (.inr (.inr (.inr g))))) ∧ tys[t]? = some (cl, .object RX7) ∧ (∀ j : Nat, c ≤ j → g j = none) ∧ ∀ j : Nat, j < c → ∃ v : Nat, g j = some v ∧ VES ρ fv ws tys v (o + j)
/-- the batches that were found: fc of them, told -/
def oF (ρ : Nat → Nat) (fv : Nat → Nat → Int32) (ws : va_W) (tys : List (ClassId × FieldType)) (a fc : Nat) : Prop := ∃ (k : Nat) (c : ClassId) (t : Nat) (f : Nat → Int32), ws[k]? = some (a, .inl (c, 60, .inl f)) ∧ tys[t]? = some (c, .int) ∧ ρ k = 8007 ∧ ∀ i : Nat, i < fc → f i = fv 42 i
def oN (ρ : Nat → Nat) (fv : Nat → Nat → Int32) (ws : va_W) (tys : List (ClassId × FieldType)) (v : Nat) : Prop := oST ρ ws tys v 1000 (fun i => fv 8 (2 * i)) (fun i => fv 8 (2 * i + 1))
def XI (ρ : Nat → Nat) (fv : Nat → Nat → Int32) (ws : va_W) (tys : List (ClassId × FieldType)) (h0 lc bc rc fc : Nat) (dn : Int32) (tl : Nat) : Prop := ∃ (k0 la ta ba ra sn rd dr bl vd fb : Nat), ws[k0]? = some (h0, .inr (8, [.ref la, .ref ta, .ref ba, .ref ra, .ref sn, .ref rd, .ref dr, .ref bl, .ref vd, .ref fb, .int (nI lc), .int (nI bc), .int (nI rc), .int (nI fc), .int dn])) ∧ ρ k0 = 0 ∧ (∀ k : Nat, ws.length ≤ k → ρ k = 0) ∧
  (lc ≤ 40 ∧ bc ≤ 60 ∧ rc ≤ 16 ∧ fc ≤ 60 ∧ tl ≤ 400) ∧ CL ρ fv ws tys la lc ∧ CW ρ fv ws tys ta 10 0 10 ∧ CW ρ fv ws tys ba 60 10 bc ∧ aQ ws tys RX3 (oR ρ ws tys) ra 16 ∧ oN ρ fv ws tys sn ∧ oW ρ ws tys rd tl ∧ oD ρ ws tys dr ∧ oB ρ ws tys bl ∧ aI ρ ws tys vd 16 ∧ oF ρ fv ws tys fb fc
section INV
variable {ρ σ : Nat → Nat} {T : List Nat} {ws ws' : va_W} {tys tys' : List (ClassId × FieldType)} {fv : Nat → Nat → Int32}
theorem rI.b {a n t0 : Nat} {φ : Nat → Int32} (h : rI ρ ws tys a n t0 φ) : bI ws tys a n := by
  obtain ⟨k, c, t, f, e, u, -⟩ := h
  exact ⟨k, c, t, f, e, u⟩
theorem oST.s {v j : Nat} {φ ψ : Nat → Int32} (h : oST ρ ws tys v j φ ψ) : oS ws tys v := by
  obtain ⟨k, g1, g2, e, -, a1, a2⟩ := h
  exact ⟨k, g1, g2, e, a1.b, a2.b⟩
theorem LOT.l {v j : Nat} (h : LOT ρ fv ws tys v j) : oL ws tys v := by
  obtain ⟨k, lo, hi, st, e, -, a1, a2, a3⟩ := h
  exact ⟨k, lo, hi, st, _, _, _, _, _, _, _, e, a1.b, a2.b, a3.s⟩
theorem CL.q {a lc : Nat} (h : CL ρ fv ws tys a lc) : aQ ws tys RX2 (oL ws tys) a 40 := by
  obtain ⟨k, c, t, g, e, u, h0, h1⟩ := h
  refine ⟨k, c, t, g, e, u, fun j v hj => ?_⟩
  rcases Nat.lt_or_ge j lc with q | q
  · obtain ⟨v1, e1, l1⟩ := h1 j q
    rw [hj] at e1; cases e1; exact l1.l
  · rw [h0 j q] at hj; cases hj
theorem VES.v {v r : Nat} (h : VES ρ fv ws tys v r) : oV ws tys v := by
  obtain ⟨k, g, e, -, a⟩ := h
  exact ⟨k, g, _, _, _, _, e, a.b⟩
theorem CW.q {a N o c : Nat} (h : CW ρ fv ws tys a N o c) : aQ ws tys RX7 (oV ws tys) a N := by
  obtain ⟨k, cl, t, g, e, u, h0, h1⟩ := h
  refine ⟨k, cl, t, g, e, u, fun j v hj => ?_⟩
  rcases Nat.lt_or_ge j c with q | q
  · obtain ⟨v1, e1, l1⟩ := h1 j q
    rw [hj] at e1; cases e1; exact l1.v
  · rw [h0 j q] at hj; cases hj
theorem aI.sm {a n : Nat} (h : aI ρ ws tys a n) (hm : sm σ T ws ws') (ht : tyx tys tys') : aI ρ ws' tys' a n := by
  obtain ⟨k, c, t, f, e, u, w⟩ := h
  obtain ⟨f', e'⟩ := hm.arrI e
  exact ⟨k, c, t, f', e', ht _ _ u, w⟩
theorem bI.sm {a n : Nat} (h : bI ws tys a n) (hm : sm σ T ws ws') (ht : tyx tys tys') : bI ws' tys' a n := by
  obtain ⟨k, c, t, f, e, u⟩ := h
  obtain ⟨f', e'⟩ := hm.arrI e
  exact ⟨k, c, t, f', e', ht _ _ u⟩
theorem aJ.sm {a n : Nat} (h : aJ ρ ws tys a n) (hm : sm σ T ws ws') (ht : tyx tys tys') : aJ ρ ws' tys' a n := by
  obtain ⟨k, c, t, f, e, u, w⟩ := h
  obtain ⟨f', e'⟩ := hm.arrJ e
  exact ⟨k, c, t, f', e', ht _ _ u, w⟩
theorem oV.sm {v : Nat} (h : oV ws tys v) (hm : sm σ T ws ws') (ht : tyx tys tys') : oV ws' tys' v := by
  obtain ⟨k, g, x1, x2, x3, x4, e, a⟩ := h
  obtain ⟨fs, e', hf⟩ := hm.obj e
  obtain ⟨z1, z2, z3, z4, rfl⟩ := smX7 hf
  exact ⟨k, g, z1, z2, z3, z4, e', a.sm hm ht⟩
theorem oS.sm {v : Nat} (h : oS ws tys v) (hm : sm σ T ws ws') (ht : tyx tys tys') : oS ws' tys' v := by
  obtain ⟨k, g1, g2, e, a1, a2⟩ := h
  obtain ⟨fs, e', hf⟩ := hm.obj e
  obtain rfl := smX5 hf
  exact ⟨k, g1, g2, e', a1.sm hm ht, a2.sm hm ht⟩
theorem oL.sm {v : Nat} (h : oL ws tys v) (hm : sm σ T ws ws') (ht : tyx tys tys') : oL ws' tys' v := by
  obtain ⟨k, lo, hi, st, x0, x1, x2, x3, x7, x8, x9, e, a1, a2, a3⟩ := h
  obtain ⟨fs, e', hf⟩ := hm.obj e
  obtain ⟨z0, z1, z2, z3, z7, z8, z9, rfl⟩ := smX2 hf
  exact ⟨k, lo, hi, st, z0, z1, z2, z3, z7, z8, z9, e', a1.sm hm ht, a2.sm hm ht, a3.sm hm ht⟩
theorem oR.sm {v : Nat} (h : oR ρ ws tys v) (hm : sm σ T ws ws') (ht : tyx tys tys') : oR ρ ws' tys' v := by
  obtain ⟨k, cd, n, x0, x1, x3, x4, e, w, a1, hn⟩ := h
  obtain ⟨fs, e', hf⟩ := hm.obj e
  obtain ⟨z0, z1, z3, z4, rfl⟩ := smX3 hf
  exact ⟨k, cd, n, z0, z1, z3, z4, e', w, a1.sm hm ht, hn⟩
theorem oD.sm {v : Nat} (h : oD ρ ws tys v) (hm : sm σ T ws ws') (ht : tyx tys tys') : oD ρ ws' tys' v := by
  obtain ⟨k, g1, g2, e, a1, a2⟩ := h
  obtain ⟨fs, e', hf⟩ := hm.obj e
  obtain rfl := smX1 hf
  exact ⟨k, g1, g2, e', a1.sm hm ht, a2.sm hm ht⟩
theorem oB.sm {v : Nat} (h : oB ρ ws tys v) (hm : sm σ T ws ws') (ht : tyx tys tys') : oB ρ ws' tys' v := by
  obtain ⟨k, q0, q2, q3, q4, q5, q6, q7, x1, x8, x9, x10, x11, x12, x13, e, w, a0, a2, a3, a4, a5, a6, a7⟩ := h
  obtain ⟨fs, e', hf⟩ := hm.obj e
  obtain ⟨z1, z8, z9, z10, z11, z12, z13, rfl⟩ := smX0 hf
  exact ⟨k, q0, q2, q3, q4, q5, q6, q7, z1, z8, z9, z10, z11, z12, z13, e', w, a0.sm hm ht, a2.sm hm ht, a3.sm hm ht, a4.sm hm ht, a5.sm hm ht, a6.sm hm ht, a7.sm hm ht⟩
theorem oW.sm {v tl : Nat} (h : oW ρ ws tys v tl) (hm : sm σ T ws ws') (ht : tyx tys tys') (h6 : 6 ∉ T) : oW ρ ws' tys' v tl := by
  obtain ⟨k, tp, cd, kt, bb, x1, x2, x3, x4, x6, x7, y1, y2, y3, e, w, a1, et, wt, a2⟩ := h
  obtain ⟨fs, e', hf⟩ := hm.obj e
  obtain ⟨z1, z2, z3, z4, z6, z7, rfl⟩ := smX4 hf
  exact ⟨k, tp, cd, kt, bb, z1, z2, z3, z4, z6, z7, y1, y2, y3, e', w, a1.sm hm ht, hm.objK et h6, wt, a2.sm hm ht⟩
theorem aQ.sm {C : String} {P P' : Nat → Prop} {a n : Nat} (h : aQ ws tys C P a n) (hm : sm σ T ws ws') (ht : tyx tys tys') (hp : ∀ v, P v → P' v) : aQ ws' tys' C P' a n := by
  obtain ⟨k, c, t, g, e, u, hg⟩ := h
  exact ⟨k, c, t, g, hm.arrQ e, ht _ _ u, fun j v hj => hp v (hg j v hj)⟩
/-- what is kept stays as it was; hk: the keeper of the step keeps it -/
theorem rI.sm {a n t0 : Nat} {φ : Nat → Int32} (h : rI ρ ws tys a n t0 φ) (hm : sm σ T ws ws') (ht : tyx tys tys') (hk : ∀ k : Nat, k < ws.length → ρ k = t0 → σ k ≠ 0) : rI ρ ws' tys' a n t0 φ := by
  obtain ⟨k, c, t, f, e, u, w, hf⟩ := h
  exact ⟨k, c, t, f, hm.keep (hk k (List.getElem?_eq_some_iff.mp e).1 w) e, ht _ _ u, w, hf⟩
theorem oF.sm {a fc : Nat} (h : oF ρ fv ws tys a fc) (hm : sm σ T ws ws') (ht : tyx tys tys') (hk : ∀ k : Nat, k < ws.length → ρ k = 8007 → σ k ≠ 0) : oF ρ fv ws' tys' a fc := by
  obtain ⟨k, c, t, f, e, u, w, hf⟩ := h
  exact ⟨k, c, t, f, hm.keep (hk k (List.getElem?_eq_some_iff.mp e).1 w) e, ht _ _ u, w, hf⟩
theorem oST.sm {v j : Nat} {φ ψ : Nat → Int32} (h : oST ρ ws tys v j φ ψ) (hm : sm σ T ws ws') (ht : tyx tys tys') (hk : ∀ k : Nat, k < ws.length → 8 * j + 4 ≤ ρ k → ρ k ≤ 8 * j + 6 → σ k ≠ 0) : oST ρ ws' tys' v j φ ψ := by
  obtain ⟨k, g1, g2, e, w, a1, a2⟩ := h
  exact ⟨k, g1, g2, hm.keep (hk k (List.getElem?_eq_some_iff.mp e).1 (by omega) (by omega)) e, w, a1.sm hm ht (fun k hb h => hk k hb (by omega) (by omega)), a2.sm hm ht (fun k hb h => hk k hb (by omega) (by omega))⟩
theorem LOT.sm {v j : Nat} (h : LOT ρ fv ws tys v j) (hm : sm σ T ws ws') (ht : tyx tys tys') (hk : ∀ k : Nat, k < ws.length → 8 * j + 1 ≤ ρ k → ρ k ≤ 8 * j + 6 → σ k ≠ 0) : LOT ρ fv ws' tys' v j := by
  obtain ⟨k, lo, hi, st, e, w, a1, a2, a3⟩ := h
  exact ⟨k, lo, hi, st, hm.keep (hk k (List.getElem?_eq_some_iff.mp e).1 (by omega) (by omega)) e, w, a1.sm hm ht (fun k hb h => hk k hb (by omega) (by omega)), a2.sm hm ht (fun k hb h => hk k hb (by omega) (by omega)), a3.sm hm ht (fun k hb h1 h2 => hk k hb (by omega) (by omega))⟩
theorem CL.sm {a lc : Nat} (h : CL ρ fv ws tys a lc) (hm : sm σ T ws ws') (ht : tyx tys tys') (hk : ∀ k : Nat, k < ws.length → 0 < ρ k → ρ k < 8 * lc → σ k ≠ 0) : CL ρ fv ws' tys' a lc := by
  obtain ⟨k, c, t, g, e, u, h0, h1⟩ := h
  refine ⟨k, c, t, g, hm.arrQ e, ht _ _ u, h0, fun j hj => ?_⟩
  obtain ⟨v, e1, l1⟩ := h1 j hj
  exact ⟨v, e1, l1.sm hm ht (fun k hb h1 h2 => hk k hb (by omega) (by omega))⟩
theorem VES.sm {v r : Nat} (h : VES ρ fv ws tys v r) (hm : sm σ T ws ws') (ht : tyx tys tys') (hk : ∀ k : Nat, k < ws.length → 10000 + 2 * r ≤ ρ k → ρ k ≤ 10001 + 2 * r → σ k ≠ 0) : VES ρ fv ws' tys' v r := by
  obtain ⟨k, g, e, w, a⟩ := h
  exact ⟨k, g, hm.keep (hk k (List.getElem?_eq_some_iff.mp e).1 (by omega) (by omega)) e, w, a.sm hm ht (fun k hb h => hk k hb (by omega) (by omega))⟩
theorem CW.sm {a N o c : Nat} (h : CW ρ fv ws tys a N o c) (hm : sm σ T ws ws') (ht : tyx tys tys') (hk : ∀ k : Nat, k < ws.length → 10000 + 2 * o ≤ ρ k → ρ k < 10000 + 2 * (o + c) → σ k ≠ 0) : CW ρ fv ws' tys' a N o c := by
  obtain ⟨k, cl, t, g, e, u, h0, h1⟩ := h
  refine ⟨k, cl, t, g, hm.arrQ e, ht _ _ u, h0, fun j hj => ?_⟩
  obtain ⟨v, e1, l1⟩ := h1 j hj
  exact ⟨v, e1, l1.sm hm ht (fun k hb h1 h2 => hk k hb (by omega) (by omega))⟩
theorem oN.sm {v : Nat} (h : oN ρ fv ws tys v) (hm : sm σ T ws ws') (ht : tyx tys tys') (hk : ∀ k : Nat, k < ws.length → 8004 ≤ ρ k → ρ k ≤ 8006 → σ k ≠ 0) : oN ρ fv ws' tys' v := oST.sm h hm ht (fun k hb h1 h2 => hk k hb (by omega) (by omega))
theorem XI.sm {h0 lc bc rc fc tl : Nat} {dn : Int32} (h : XI ρ fv ws tys h0 lc bc rc fc dn tl) (hm : sm ρ T ws ws') (ht : tyx tys tys') (h8 : 8 ∉ T) (h6 : 6 ∉ T) : XI ρ fv ws' tys' h0 lc bc rc fc dn tl := by
  obtain ⟨k0, la, ta, ba, ra, sn, rd, dr, bl, vd, fb, e, w, hle, hn, q1, q2, q3, q4, s1, w1, d1, b1, i1, i2⟩ := h
  exact ⟨k0, la, ta, ba, ra, sn, rd, dr, bl, vd, fb, hm.objK e h8, w, fun k hk => hle k (Nat.le_trans hm.len hk), hn, q1.sm hm ht (fun _ _ h _ => by omega), q2.sm hm ht (fun _ _ h _ => by omega), q3.sm hm ht (fun _ _ h _ => by omega), q4.sm hm ht (fun v hv => hv.sm hm ht), s1.sm hm ht (fun _ _ h _ => by omega), w1.sm hm ht h6, d1.sm hm ht, b1.sm hm ht, i1.sm hm ht, i2.sm hm ht (fun _ _ h => by omega)⟩
/-- the reference's rows that tell the lots are the same in another picture of them -/
theorem LOT.fvx {fv' : Nat → Nat → Int32} {v j : Nat} (h : LOT ρ fv ws tys v j) (h4 : ∀ i : Nat, i < 7 → fv' 4 (7 * j + i) = fv 4 (7 * j + i)) (h5 : ∀ i : Nat, i < 5 → fv' 5 (5 * j + i) = fv 5 (5 * j + i)) (h6 : ∀ i : Nat, i < 5 → fv' 6 (5 * j + i) = fv 6 (5 * j + i)) (h7 : ∀ i : Nat, i < 8 → fv' 7 (8 * j + i) = fv 7 (8 * j + i)) : LOT ρ fv' ws tys v j := by
  obtain ⟨k, lo, hi, st, e, w, ⟨k1, c1, t1, f1, e1, u1, w1, g1⟩, ⟨k2, c2, t2, f2, e2, u2, w2, g2⟩, ks, p1, p2, es, ws1, ⟨k3, c3, t3, f3, e3, u3, w3, g3⟩, ⟨k4, c4, t4, f4, e4, u4, w4, g4⟩⟩ := h
  have z0 := h4 0 (by omega)
  rw [Nat.add_zero] at z0
  refine ⟨k, lo, hi, st, ?_, w, ⟨k1, c1, t1, f1, e1, u1, w1, fun i hi => (g1 i hi).trans (h5 i hi).symm⟩, ⟨k2, c2, t2, f2, e2, u2, w2, fun i hi => (g2 i hi).trans (h6 i hi).symm⟩, ks, p1, p2, es, ws1, ⟨k3, c3, t3, f3, e3, u3, w3, fun i hi => (g3 i hi).trans ?_⟩, ⟨k4, c4, t4, f4, e4, u4, w4, fun i hi => (g4 i hi).trans ?_⟩⟩
  · rw [z0, h4 1 (by omega), h4 2 (by omega), h4 3 (by omega), h4 4 (by omega), h4 5 (by omega), h4 6 (by omega)]; exact e
  · exact (h7 (2 * i) (by omega)).symm
  · exact (h7 (2 * i + 1) (by omega)).symm
theorem CL.fvx {fv' : Nat → Nat → Int32} {a lc : Nat} (h : CL ρ fv ws tys a lc) (h4 : ∀ j i : Nat, j < lc → i < 7 → fv' 4 (7 * j + i) = fv 4 (7 * j + i)) (h5 : fv' 5 = fv 5) (h6 : fv' 6 = fv 6) (h7 : fv' 7 = fv 7) : CL ρ fv' ws tys a lc := by
  obtain ⟨k, c, t, g, e, u, h0, h1⟩ := h
  refine ⟨k, c, t, g, e, u, h0, fun j hj => ?_⟩
  obtain ⟨v, e1, l1⟩ := h1 j hj
  exact ⟨v, e1, l1.fvx (fun i => h4 j i hj) (fun i _ => by rw [h5]) (fun i _ => by rw [h6]) (fun i _ => by rw [h7])⟩
theorem mall_congr {f f' : Nat → Int32} {r : Nat} : ∀ n : Nat, (∀ i : Nat, i < n → f' (40 * r + i) = f (40 * r + i)) → mall f' r n = mall f r n
  | 0, _ => rfl
  | n + 1, h => by
    show mall f' r n + f' (40 * r + n) = mall f r n + f (40 * r + n)
    rw [mall_congr n (fun i hi => h i (by omega)), h n (by omega)]
theorem VES.fvx {fv' : Nat → Nat → Int32} {v r : Nat} (h : VES ρ fv ws tys v r) (h9 : ∀ i : Nat, i < 40 → fv' 9 (40 * r + i) = fv 9 (40 * r + i)) (h10 : fv' 10 r = fv 10 r) (h11 : fv' 11 r = fv 11 r) (h12 : fv' 12 r = fv 12 r) : VES ρ fv' ws tys v r := by
  obtain ⟨k, g, e, w, ⟨k1, c1, t1, f1, e1, u1, w1, g1⟩⟩ := h
  refine ⟨k, g, ?_, w, ⟨k1, c1, t1, f1, e1, u1, w1, fun i hi => (g1 i hi).trans (h9 i hi).symm⟩⟩
  rw [mall_congr 40 h9, h10, h11, h12]; exact e
theorem CW.fvx {fv' : Nat → Nat → Int32} {a N o c : Nat} (h : CW ρ fv ws tys a N o c) (h9 : ∀ j i : Nat, j < c → i < 40 → fv' 9 (40 * (o + j) + i) = fv 9 (40 * (o + j) + i)) (h10 : ∀ j : Nat, j < c → fv' 10 (o + j) = fv 10 (o + j)) (h11 : ∀ j : Nat, j < c → fv' 11 (o + j) = fv 11 (o + j)) (h12 : ∀ j : Nat, j < c → fv' 12 (o + j) = fv 12 (o + j)) : CW ρ fv' ws tys a N o c := by
  obtain ⟨k, cl, t, g, e, u, h0, h1⟩ := h
  refine ⟨k, cl, t, g, e, u, h0, fun j hj => ?_⟩
  obtain ⟨v, e1, l1⟩ := h1 j hj
  exact ⟨v, e1, l1.fvx (fun i => h9 j i hj) (h10 j hj) (h11 j hj) (h12 j hj)⟩
theorem oF.fvx {fv' : Nat → Nat → Int32} {a fc : Nat} (h : oF ρ fv ws tys a fc) (e : fv' 42 = fv 42) : oF ρ fv' ws tys a fc := by
  obtain ⟨k, c, t, f, e1, u, w, hf⟩ := h
  exact ⟨k, c, t, f, e1, u, w, fun i hi => by rw [e]; exact hf i hi⟩
/-- the rows that tell lots, steps and vessels are the same in another picture of them -/
theorem XI.fvx {fv' : Nat → Nat → Int32} {h0 lc bc rc fc tl : Nat} {dn : Int32} (h : XI ρ fv ws tys h0 lc bc rc fc dn tl) (e4 : fv' 4 = fv 4) (e5 : fv' 5 = fv 5) (e6 : fv' 6 = fv 6) (e7 : fv' 7 = fv 7) (e8 : fv' 8 = fv 8) (e9 : fv' 9 = fv 9) (e10 : fv' 10 = fv 10) (e11 : fv' 11 = fv 11) (e12 : fv' 12 = fv 12) (e42 : fv' 42 = fv 42) : XI ρ fv' ws tys h0 lc bc rc fc dn tl := by
  obtain ⟨k0, la, ta, ba, ra, sn, rd, dr, bl, vd, fb, e, w, hle, hn, q1, q2, q3, q4, s1, w1, d1, b1, i1, i2⟩ := h
  refine ⟨k0, la, ta, ba, ra, sn, rd, dr, bl, vd, fb, e, w, hle, hn, q1.fvx (fun _ _ _ _ => by rw [e4]) e5 e6 e7, q2.fvx (fun _ _ _ _ => by rw [e9]) (fun _ _ => by rw [e10]) (fun _ _ => by rw [e11]) (fun _ _ => by rw [e12]), q3.fvx (fun _ _ _ _ => by rw [e9]) (fun _ _ => by rw [e10]) (fun _ _ => by rw [e11]) (fun _ _ => by rw [e12]), q4, ?_, w1, d1, b1, i1, i2.fvx e42⟩
  show oST ρ ws tys sn 1000 _ _
  rw [e8]; exact s1
/-- another keeper that says the same of the world's places -/
theorem aI.re {a n : Nat} (h : aI ρ ws tys a n) (hr : ∀ k : Nat, k < ws.length → σ k = ρ k) : aI σ ws tys a n := by
  obtain ⟨k, c, t, f, e, u, w⟩ := h
  exact ⟨k, c, t, f, e, u, (hr k (List.getElem?_eq_some_iff.mp e).1).trans w⟩
theorem aJ.re {a n : Nat} (h : aJ ρ ws tys a n) (hr : ∀ k : Nat, k < ws.length → σ k = ρ k) : aJ σ ws tys a n := by
  obtain ⟨k, c, t, f, e, u, w⟩ := h
  exact ⟨k, c, t, f, e, u, (hr k (List.getElem?_eq_some_iff.mp e).1).trans w⟩
theorem oR.re {v : Nat} (h : oR ρ ws tys v) (hr : ∀ k : Nat, k < ws.length → σ k = ρ k) : oR σ ws tys v := by
  obtain ⟨k, cd, n, x0, x1, x3, x4, e, w, a1, hn⟩ := h
  exact ⟨k, cd, n, x0, x1, x3, x4, e, (hr k (List.getElem?_eq_some_iff.mp e).1).trans w, a1.re hr, hn⟩
theorem oD.re {v : Nat} (h : oD ρ ws tys v) (hr : ∀ k : Nat, k < ws.length → σ k = ρ k) : oD σ ws tys v := by
  obtain ⟨k, g1, g2, e, a1, a2⟩ := h
  exact ⟨k, g1, g2, e, a1.re hr, a2.re hr⟩
theorem oB.re {v : Nat} (h : oB ρ ws tys v) (hr : ∀ k : Nat, k < ws.length → σ k = ρ k) : oB σ ws tys v := by
  obtain ⟨k, q0, q2, q3, q4, q5, q6, q7, x1, x8, x9, x10, x11, x12, x13, e, w, a0, a2, a3, a4, a5, a6, a7⟩ := h
  exact ⟨k, q0, q2, q3, q4, q5, q6, q7, x1, x8, x9, x10, x11, x12, x13, e, (hr k (List.getElem?_eq_some_iff.mp e).1).trans w, a0.re hr, a2.re hr, a3.re hr, a4.re hr, a5.re hr, a6.re hr, a7.re hr⟩
theorem oW.re {v tl : Nat} (h : oW ρ ws tys v tl) (hr : ∀ k : Nat, k < ws.length → σ k = ρ k) : oW σ ws tys v tl := by
  obtain ⟨k, tp, cd, kt, bb, x1, x2, x3, x4, x6, x7, y1, y2, y3, e, w, a1, et, wt, a2⟩ := h
  exact ⟨k, tp, cd, kt, bb, x1, x2, x3, x4, x6, x7, y1, y2, y3, e, (hr k (List.getElem?_eq_some_iff.mp e).1).trans w, a1.re hr, et, (hr kt (List.getElem?_eq_some_iff.mp et).1).trans wt, a2.re hr⟩
theorem aQ.re {C : String} {P P' : Nat → Prop} {a n : Nat} (h : aQ ws tys C P a n) (hp : ∀ v, P v → P' v) : aQ ws tys C P' a n := by
  obtain ⟨k, c, t, g, e, u, hg⟩ := h
  exact ⟨k, c, t, g, e, u, fun j v hj => hp v (hg j v hj)⟩
theorem rI.re {a n t0 : Nat} {φ : Nat → Int32} (h : rI ρ ws tys a n t0 φ) (hr : ∀ k : Nat, k < ws.length → σ k = ρ k) : rI σ ws tys a n t0 φ := by
  obtain ⟨k, c, t, f, e, u, w, hf⟩ := h
  exact ⟨k, c, t, f, e, u, (hr k (List.getElem?_eq_some_iff.mp e).1).trans w, hf⟩
theorem oF.re {a fc : Nat} (h : oF ρ fv ws tys a fc) (hr : ∀ k : Nat, k < ws.length → σ k = ρ k) : oF σ fv ws tys a fc := by
  obtain ⟨k, c, t, f, e, u, w, hf⟩ := h
  exact ⟨k, c, t, f, e, u, (hr k (List.getElem?_eq_some_iff.mp e).1).trans w, hf⟩
theorem oST.re {v j : Nat} {φ ψ : Nat → Int32} (h : oST ρ ws tys v j φ ψ) (hr : ∀ k : Nat, k < ws.length → σ k = ρ k) : oST σ ws tys v j φ ψ := by
  obtain ⟨k, g1, g2, e, w, a1, a2⟩ := h
  exact ⟨k, g1, g2, e, (hr k (List.getElem?_eq_some_iff.mp e).1).trans w, a1.re hr, a2.re hr⟩
theorem LOT.re {v j : Nat} (h : LOT ρ fv ws tys v j) (hr : ∀ k : Nat, k < ws.length → σ k = ρ k) : LOT σ fv ws tys v j := by
  obtain ⟨k, lo, hi, st, e, w, a1, a2, a3⟩ := h
  exact ⟨k, lo, hi, st, e, (hr k (List.getElem?_eq_some_iff.mp e).1).trans w, a1.re hr, a2.re hr, a3.re hr⟩
theorem VES.re {v r : Nat} (h : VES ρ fv ws tys v r) (hr : ∀ k : Nat, k < ws.length → σ k = ρ k) : VES σ fv ws tys v r := by
  obtain ⟨k, g, e, w, a⟩ := h
  exact ⟨k, g, e, (hr k (List.getElem?_eq_some_iff.mp e).1).trans w, a.re hr⟩
theorem CW.re {a N o c : Nat} (h : CW ρ fv ws tys a N o c) (hr : ∀ k : Nat, k < ws.length → σ k = ρ k) : CW σ fv ws tys a N o c := by
  obtain ⟨k, cl, t, g, e, u, h0, h1⟩ := h
  refine ⟨k, cl, t, g, e, u, h0, fun j hj => ?_⟩
  obtain ⟨v, e1, l1⟩ := h1 j hj
  exact ⟨v, e1, l1.re hr⟩
theorem CL.re {a lc : Nat} (h : CL ρ fv ws tys a lc) (hr : ∀ k : Nat, k < ws.length → σ k = ρ k) : CL σ fv ws tys a lc := by
  obtain ⟨k, c, t, g, e, u, h0, h1⟩ := h
  refine ⟨k, c, t, g, e, u, h0, fun j hj => ?_⟩
  obtain ⟨v, e1, l1⟩ := h1 j hj
  exact ⟨v, e1, l1.re hr⟩
theorem oN.re {v : Nat} (h : oN ρ fv ws tys v) (hr : ∀ k : Nat, k < ws.length → σ k = ρ k) : oN σ fv ws tys v := oST.re h hr
/-- all lots but J stay as they are; J is as told anew -/
theorem lots_one {fv' : Nat → Nat → Int32} {g : Nat → Option Nat} {lc J v : Nat} (h1 : ∀ j : Nat, j < lc → ∃ v : Nat, g j = some v ∧ LOT ρ fv ws tys v j) (hm : sm σ T ws ws') (ht : tyx tys tys') (hk : ∀ k : Nat, ρ k ≠ 0 → ρ k < 8 * lc → ρ k < 8 * J + 1 ∨ 8 * J + 6 < ρ k → σ k ≠ 0) (hg : g J = some v) (hL : LOT ρ fv' ws' tys' v J) (hf : ∀ j : Nat, j ≠ J → (∀ i : Nat, i < 7 → fv' 4 (7 * j + i) = fv 4 (7 * j + i)) ∧ (∀ i : Nat, i < 5 → fv' 5 (5 * j + i) = fv 5 (5 * j + i)) ∧ (∀ i : Nat, i < 5 → fv' 6 (5 * j + i) = fv 6 (5 * j + i)) ∧ (∀ i : Nat, i < 8 → fv' 7 (8 * j + i) = fv 7 (8 * j + i))) : ∀ j : Nat, j < lc → ∃ v : Nat, g j = some v ∧ LOT ρ fv' ws' tys' v j := by
  intro j hj
  rcases Nat.decEq j J with q | q
  · obtain ⟨v1, e1, l1⟩ := h1 j hj
    obtain ⟨f1, f2, f3, f4⟩ := hf j q
    exact ⟨v1, e1, (l1.sm hm ht (fun k _ h1 h2 => hk k (by omega) (by omega) (by omega))).fvx f1 f2 f3 f4⟩
  · subst q; exact ⟨v, hg, hL⟩
/-- all vessels but R stay as they are; R is as told anew -/
theorem ves_one {fv' : Nat → Nat → Int32} {g : Nat → Option Nat} {o c J v : Nat} (h1 : ∀ j : Nat, j < c → ∃ v : Nat, g j = some v ∧ VES ρ fv ws tys v (o + j)) (hm : sm σ T ws ws') (ht : tyx tys tys') (hk : ∀ j k : Nat, j < c → j ≠ J → 10000 + 2 * (o + j) ≤ ρ k → ρ k ≤ 10001 + 2 * (o + j) → σ k ≠ 0) (hg : g J = some v) (hL : VES ρ fv' ws' tys' v (o + J)) (hf : ∀ j : Nat, j < c → j ≠ J → (∀ i : Nat, i < 40 → fv' 9 (40 * (o + j) + i) = fv 9 (40 * (o + j) + i)) ∧ fv' 10 (o + j) = fv 10 (o + j) ∧ fv' 11 (o + j) = fv 11 (o + j) ∧ fv' 12 (o + j) = fv 12 (o + j)) : ∀ j : Nat, j < c → ∃ v : Nat, g j = some v ∧ VES ρ fv' ws' tys' v (o + j) := by
  intro j hj
  rcases Nat.decEq j J with q | q
  · obtain ⟨v1, e1, l1⟩ := h1 j hj
    obtain ⟨f1, f2, f3, f4⟩ := hf j hj q
    exact ⟨v1, e1, (l1.sm hm ht (fun k _ h1 h2 => hk j k hj q h1 h2)).fvx f1 f2 f3 f4⟩
  · subst q; exact ⟨v, hg, hL⟩
/-- all vessels but J and K stay as they are; those two are as told anew -/
theorem ves_two {fv' : Nat → Nat → Int32} {g : Nat → Option Nat} {o c J K v v2 : Nat} (h1 : ∀ j : Nat, j < c → ∃ v : Nat, g j = some v ∧ VES ρ fv ws tys v (o + j)) (hm : sm σ T ws ws') (ht : tyx tys tys') (hk : ∀ j k : Nat, j < c → j ≠ J → j ≠ K → 10000 + 2 * (o + j) ≤ ρ k → ρ k ≤ 10001 + 2 * (o + j) → σ k ≠ 0) (hg : g J = some v) (hL : VES ρ fv' ws' tys' v (o + J)) (hg2 : g K = some v2) (hL2 : VES ρ fv' ws' tys' v2 (o + K)) (hf : ∀ j : Nat, j < c → j ≠ J → j ≠ K → (∀ i : Nat, i < 40 → fv' 9 (40 * (o + j) + i) = fv 9 (40 * (o + j) + i)) ∧ fv' 10 (o + j) = fv 10 (o + j) ∧ fv' 11 (o + j) = fv 11 (o + j) ∧ fv' 12 (o + j) = fv 12 (o + j)) : ∀ j : Nat, j < c → ∃ v : Nat, g j = some v ∧ VES ρ fv' ws' tys' v (o + j) := by
  intro j hj
  rcases Nat.decEq j J with q | q
  · rcases Nat.decEq j K with q2 | q2
    · obtain ⟨v1, e1, l1⟩ := h1 j hj
      obtain ⟨f1, f2, f3, f4⟩ := hf j hj q q2
      exact ⟨v1, e1, (l1.sm hm ht (fun k _ h1 h2 => hk j k hj q q2 h1 h2)).fvx f1 f2 f3 f4⟩
    · subst q2; exact ⟨v2, hg2, hL2⟩
  · subst q; exact ⟨v, hg, hL⟩
end INV
/-- the keeper, without what it keeps from lo to hi -/
def ux (ρ : Nat → Nat) (lo hi : Nat) : Nat → Nat := fun k => if lo ≤ ρ k ∧ ρ k ≤ hi then 0 else ρ k
theorem ux_in {ρ : Nat → Nat} {lo hi k t : Nat} (h : ρ k = t) (h1 : lo ≤ t) (h2 : t ≤ hi) : ux ρ lo hi k = 0 := if_pos ⟨by omega, by omega⟩
theorem ux_out {ρ : Nat → Nat} {lo hi k t : Nat} (h : ρ k = t) (h0 : t ≠ 0) (h1 : t < lo ∨ hi < t) : ux ρ lo hi k ≠ 0 := by
  show (if lo ≤ ρ k ∧ ρ k ≤ hi then 0 else ρ k) ≠ 0
  rw [if_neg (by omega)]; omega
theorem ux_0 {ρ : Nat → Nat} {lo hi k : Nat} (h : ρ k = 0) : ux ρ lo hi k = 0 := by
  show (if lo ≤ ρ k ∧ ρ k ≤ hi then 0 else ρ k) = 0
  split
  · rfl
  · exact h
theorem ux_keep {ρ : Nat → Nat} {lo hi k : Nat} (h0 : ρ k ≠ 0) (h1 : ρ k < lo ∨ hi < ρ k) : ux ρ lo hi k ≠ 0 := ux_out rfl h0 h1
/-- the keeper, without what it keeps by the tags of S -/
def uy (ρ : Nat → Nat) (S : List Nat) : Nat → Nat := fun k => if ρ k ∈ S then 0 else ρ k
theorem uy_in {ρ : Nat → Nat} {S : List Nat} {k t : Nat} (h : ρ k = t) (h1 : t ∈ S) : uy ρ S k = 0 := if_pos (by rw [h]; exact h1)
theorem uy_out {ρ : Nat → Nat} {S : List Nat} {k : Nat} (h0 : ρ k ≠ 0) (h1 : ρ k ∉ S) : uy ρ S k ≠ 0 := by
  show (if ρ k ∈ S then 0 else ρ k) ≠ 0
  rw [if_neg h1]; exact h0
theorem uy_0 {ρ : Nat → Nat} {S : List Nat} {k : Nat} (h : ρ k = 0) : uy ρ S k = 0 := by
  show (if ρ k ∈ S then 0 else ρ k) = 0
  split
  · rfl
  · exact h
theorem uy1 {ρ : Nat → Nat} {a k : Nat} (h0 : ρ k ≠ 0) (h1 : ρ k ≠ a) : uy ρ [a] k ≠ 0 := uy_out h0 (by simp only [List.mem_cons, List.not_mem_nil, or_false]; omega)
theorem uy2 {ρ : Nat → Nat} {a b k : Nat} (h0 : ρ k ≠ 0) (h1 : ρ k ≠ a) (h2 : ρ k ≠ b) : uy ρ [a, b] k ≠ 0 := uy_out h0 (by simp only [List.mem_cons, List.not_mem_nil, or_false]; omega)
theorem uy3 {ρ : Nat → Nat} {a b c k : Nat} (h0 : ρ k ≠ 0) (h1 : ρ k ≠ a) (h2 : ρ k ≠ b) (h3 : ρ k ≠ c) : uy ρ [a, b, c] k ≠ 0 := uy_out h0 (by simp only [List.mem_cons, List.not_mem_nil, or_false]; omega)
theorem uy4 {ρ : Nat → Nat} {a b c d k : Nat} (h0 : ρ k ≠ 0) (h1 : ρ k ≠ a) (h2 : ρ k ≠ b) (h3 : ρ k ≠ c) (h4 : ρ k ≠ d) : uy ρ [a, b, c, d] k ≠ 0 := uy_out h0 (by simp only [List.mem_cons, List.not_mem_nil, or_false]; omega)
