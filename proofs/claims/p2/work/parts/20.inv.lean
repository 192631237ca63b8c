/-! THE CLASS' INVARIANT, by the shape of its cells -/
def aI (ws : va_W) (tys : List (ClassId × FieldType)) (a n : Nat) : Prop := ∃ (k : Nat) (c : ClassId) (t : Nat) (f : Nat → Int32), ws[k]? = some (a, .inl (c, n, .inl f)) ∧ tys[t]? = some (c, .int)
def aJ (ws : va_W) (tys : List (ClassId × FieldType)) (a n : Nat) : Prop := ∃ (k : Nat) (c : ClassId) (t : Nat) (f : Nat → Int64), ws[k]? = some (a, .inl (c, n, .inr (.inl f))) ∧ tys[t]? = some (c, .long)
def oV (ws : va_W) (tys : List (ClassId × FieldType)) (v : Nat) : Prop := ∃ (k g : Nat) (x1 x2 x3 x4 : Int32), ws[k]? = some (v, .inr (7, [.ref g, .int x1, .int x2, .int x3, .int x4])) ∧ aI ws tys g 40
def oS (ws : va_W) (tys : List (ClassId × FieldType)) (v : Nat) : Prop := ∃ (k g1 g2 : Nat), ws[k]? = some (v, .inr (5, [.ref g1, .ref g2])) ∧ aI ws tys g1 4 ∧ aI ws tys g2 4
def oL (ws : va_W) (tys : List (ClassId × FieldType)) (v : Nat) : Prop := ∃ (k lo hi st : Nat) (x0 x1 x2 x3 x7 x8 x9 : Int32), ws[k]? = some (v, .inr (2, [.int x0, .int x1, .int x2, .int x3, .ref lo, .ref hi, .ref st, .int x7, .int x8, .int x9])) ∧ aI ws tys lo 5 ∧ aI ws tys hi 5 ∧ oS ws tys st
def oR (ws : va_W) (tys : List (ClassId × FieldType)) (v : Nat) : Prop := ∃ (k cd n : Nat) (x0 : Int64) (x1 x3 x4 : Int32), ws[k]? = some (v, .inr (3, [.long x0, .int x1, .ref cd, .int x3, .int x4])) ∧ aI ws tys cd n ∧ n ≤ 200
def oD (ws : va_W) (tys : List (ClassId × FieldType)) (v : Nat) : Prop := ∃ (k g1 g2 : Nat), ws[k]? = some (v, .inr (1, [.ref g1, .ref g2])) ∧ aI ws tys g1 40 ∧ aJ ws tys g2 40
def oB (ws : va_W) (tys : List (ClassId × FieldType)) (v : Nat) : Prop := ∃ (k q0 q2 q3 q4 q5 q6 q7 : Nat) (x1 x8 x9 x10 x11 x12 x13 : Int32), ws[k]? = some (v, .inr (0, [.ref q0, .int x1, .ref q2, .ref q3, .ref q4, .ref q5, .ref q6, .ref q7, .int x8, .int x9, .int x10, .int x11, .int x12, .int x13])) ∧ aI ws tys q0 10 ∧ aI ws tys q2 4 ∧ aI ws tys q3 4 ∧ aI ws tys q4 4 ∧ aI ws tys q5 4 ∧ aI ws tys q6 4 ∧ aI ws tys q7 4
/-- the reader and its tape: the tape's length is told -/
def oW (ws : va_W) (tys : List (ClassId × FieldType)) (v tl : Nat) : Prop := ∃ (k tp cd kt bb : Nat) (x1 : Int64) (x2 x3 x4 x6 x7 y1 y2 y3 : Int32), ws[k]? = some (v, .inr (4, [.ref tp, .long x1, .int x2, .int x3, .int x4, .ref cd, .int x6, .int x7])) ∧ aI ws tys cd 200 ∧ ws[kt]? = some (tp, .inr (6, [.int (nI tl), .int y1, .int y2, .int y3, .ref bb])) ∧ aI ws tys bb 400
/-- a row of objects: each is null, or as P says -/
def aQ (ws : va_W) (tys : List (ClassId × FieldType)) (C : String) (P : Nat → Prop) (a n : Nat) : Prop := ∃ (k : Nat) (c : ClassId) (t : Nat) (g : Nat → Option Nat), ws[k]? = some (a, .inl (c, n, .inr (.inr (.inr (.inr g))))) ∧ tys[t]? = some (c, .object C) ∧ ∀ j v : Nat, g j = some v → P v
def XI (ws : va_W) (tys : List (ClassId × FieldType)) (h0 lc bc rc fc : Nat) (dn : Int32) (tl : Nat) : Prop := ∃ (k0 la ta ba ra sn rd dr bl vd fb : Nat), ws[k0]? = some (h0, .inr (8, [.ref la, .ref ta, .ref ba, .ref ra, .ref sn, .ref rd, .ref dr, .ref bl, .ref vd, .ref fb, .int (nI lc), .int (nI bc), .int (nI rc), .int (nI fc), .int dn])) ∧
  (lc ≤ 40 ∧ bc ≤ 60 ∧ rc ≤ 16 ∧ fc ≤ 60 ∧ tl ≤ 400) ∧ aQ ws tys RX2 (oL ws tys) la 40 ∧ aQ ws tys RX7 (oV ws tys) ta 10 ∧ aQ ws tys RX7 (oV ws tys) ba 60 ∧ aQ ws tys RX3 (oR ws tys) ra 16 ∧ oS ws tys sn ∧ oW ws tys rd tl ∧ oD ws tys dr ∧ oB ws tys bl ∧ aI ws tys vd 16 ∧ aI ws tys fb 60
section INV
variable {T : List Nat} {ws ws' : va_W} {tys tys' : List (ClassId × FieldType)}
theorem aI.sm {a n : Nat} (h : aI ws tys a n) (hm : sm T ws ws') (ht : tyx tys tys') : aI ws' tys' a n := by
  obtain ⟨k, c, t, f, e, u⟩ := h
  obtain ⟨f', e'⟩ := hm.arrI e
  exact ⟨k, c, t, f', e', ht _ _ u⟩
theorem aJ.sm {a n : Nat} (h : aJ ws tys a n) (hm : sm T ws ws') (ht : tyx tys tys') : aJ ws' tys' a n := by
  obtain ⟨k, c, t, f, e, u⟩ := h
  obtain ⟨f', e'⟩ := hm.arrJ e
  exact ⟨k, c, t, f', e', ht _ _ u⟩
theorem oV.sm {v : Nat} (h : oV ws tys v) (hm : sm T ws ws') (ht : tyx tys tys') : oV ws' tys' v := by
  obtain ⟨k, g, x1, x2, x3, x4, e, a⟩ := h
  obtain ⟨fs, e', hf⟩ := hm.obj e
  obtain ⟨z1, z2, z3, z4, rfl⟩ := smX7 hf
  exact ⟨k, g, z1, z2, z3, z4, e', a.sm hm ht⟩
theorem oS.sm {v : Nat} (h : oS ws tys v) (hm : sm T ws ws') (ht : tyx tys tys') : oS ws' tys' v := by
  obtain ⟨k, g1, g2, e, a1, a2⟩ := h
  obtain ⟨fs, e', hf⟩ := hm.obj e
  obtain rfl := smX5 hf
  exact ⟨k, g1, g2, e', a1.sm hm ht, a2.sm hm ht⟩
theorem oL.sm {v : Nat} (h : oL ws tys v) (hm : sm T ws ws') (ht : tyx tys tys') : oL ws' tys' v := by
  obtain ⟨k, lo, hi, st, x0, x1, x2, x3, x7, x8, x9, e, a1, a2, a3⟩ := h
  obtain ⟨fs, e', hf⟩ := hm.obj e
  obtain ⟨z0, z1, z2, z3, z7, z8, z9, rfl⟩ := smX2 hf
  exact ⟨k, lo, hi, st, z0, z1, z2, z3, z7, z8, z9, e', a1.sm hm ht, a2.sm hm ht, a3.sm hm ht⟩
theorem oR.sm {v : Nat} (h : oR ws tys v) (hm : sm T ws ws') (ht : tyx tys tys') : oR ws' tys' v := by
  obtain ⟨k, cd, n, x0, x1, x3, x4, e, a1, hn⟩ := h
  obtain ⟨fs, e', hf⟩ := hm.obj e
  obtain ⟨z0, z1, z3, z4, rfl⟩ := smX3 hf
  exact ⟨k, cd, n, z0, z1, z3, z4, e', a1.sm hm ht, hn⟩
theorem oD.sm {v : Nat} (h : oD ws tys v) (hm : sm T ws ws') (ht : tyx tys tys') : oD ws' tys' v := by
  obtain ⟨k, g1, g2, e, a1, a2⟩ := h
  obtain ⟨fs, e', hf⟩ := hm.obj e
  obtain rfl := smX1 hf
  exact ⟨k, g1, g2, e', a1.sm hm ht, a2.sm hm ht⟩
theorem oB.sm {v : Nat} (h : oB ws tys v) (hm : sm T ws ws') (ht : tyx tys tys') : oB ws' tys' v := by
  obtain ⟨k, q0, q2, q3, q4, q5, q6, q7, x1, x8, x9, x10, x11, x12, x13, e, a0, a2, a3, a4, a5, a6, a7⟩ := h
  obtain ⟨fs, e', hf⟩ := hm.obj e
  obtain ⟨z1, z8, z9, z10, z11, z12, z13, rfl⟩ := smX0 hf
  exact ⟨k, q0, q2, q3, q4, q5, q6, q7, z1, z8, z9, z10, z11, z12, z13, e', a0.sm hm ht, a2.sm hm ht, a3.sm hm ht, a4.sm hm ht, a5.sm hm ht, a6.sm hm ht, a7.sm hm ht⟩
theorem oW.sm {v tl : Nat} (h : oW ws tys v tl) (hm : sm T ws ws') (ht : tyx tys tys') (h6 : 6 ∉ T) : oW ws' tys' v tl := by
  obtain ⟨k, tp, cd, kt, bb, x1, x2, x3, x4, x6, x7, y1, y2, y3, e, a1, et, a2⟩ := h
  obtain ⟨fs, e', hf⟩ := hm.obj e
  obtain ⟨z1, z2, z3, z4, z6, z7, rfl⟩ := smX4 hf
  exact ⟨k, tp, cd, kt, bb, z1, z2, z3, z4, z6, z7, y1, y2, y3, e', a1.sm hm ht, hm.objK et h6, a2.sm hm ht⟩
theorem aQ.sm {C : String} {P P' : Nat → Prop} {a n : Nat} (h : aQ ws tys C P a n) (hm : sm T ws ws') (ht : tyx tys tys') (hp : ∀ v, P v → P' v) : aQ ws' tys' C P' a n := by
  obtain ⟨k, c, t, g, e, u, hg⟩ := h
  exact ⟨k, c, t, g, hm.arrQ e, ht _ _ u, fun j v hj => hp v (hg j v hj)⟩
theorem XI.sm {h0 lc bc rc fc tl : Nat} {dn : Int32} (h : XI ws tys h0 lc bc rc fc dn tl) (hm : sm T ws ws') (ht : tyx tys tys') (h8 : 8 ∉ T) (h6 : 6 ∉ T) : XI ws' tys' h0 lc bc rc fc dn tl := by
  obtain ⟨k0, la, ta, ba, ra, sn, rd, dr, bl, vd, fb, e, hn, q1, q2, q3, q4, s1, w1, d1, b1, i1, i2⟩ := h
  exact ⟨k0, la, ta, ba, ra, sn, rd, dr, bl, vd, fb, hm.objK e h8, hn, q1.sm hm ht (fun v hv => hv.sm hm ht), q2.sm hm ht (fun v hv => hv.sm hm ht), q3.sm hm ht (fun v hv => hv.sm hm ht), q4.sm hm ht (fun v hv => hv.sm hm ht), s1.sm hm ht, w1.sm hm ht h6, d1.sm hm ht, b1.sm hm ht, i1.sm hm ht, i2.sm hm ht⟩
end INV
