/-- the invariant put together again, where the house's own ints or the tape were written -/
theorem xi_mk {ρ : Nat → Nat} {fv : Nat → Nat → Int32} {T : List Nat} {ws ws' : va_W} {tys tys' : List (ClassId × FieldType)} {h0 lc bc rc fc tl k0 la ta ba ra sn rd dr bl vd fb : Nat} {dn : Int32} (e : ws'[k0]? = some (h0, .inr (8, [.ref la, .ref ta, .ref ba, .ref ra, .ref sn, .ref rd, .ref dr, .ref bl, .ref vd, .ref fb, .int (nI lc), .int (nI bc), .int (nI rc), .int (nI fc), .int dn]))) (w : ρ k0 = 0) (hle : ∀ k : Nat, ws.length ≤ k → ρ k = 0) (hn : lc ≤ 40 ∧ bc ≤ 60 ∧ rc ≤ 16 ∧ fc ≤ 60 ∧ tl ≤ 400) (q1 : CL ρ fv ws tys la lc) (q2 : CW ρ fv ws tys ta 10 0 10) (q3 : CW ρ fv ws tys ba 60 10 bc) (q4 : aQ ws tys RX3 (oR ρ ws tys) ra 16) (s1 : oN ρ fv ws tys sn) (w1 : oW ρ ws' tys' rd tl) (d1 : oD ρ ws tys dr) (b1 : oB ρ ws tys bl) (i1 : aI ρ ws tys vd 16) (i2 : oF ρ fv ws tys fb fc) (hm : sm ρ T ws ws') (ht : tyx tys tys') : XI ρ fv ws' tys' h0 lc bc rc fc dn tl :=
  ⟨k0, la, ta, ba, ra, sn, rd, dr, bl, vd, fb, e, w, fun k hk => hle k (Nat.le_trans hm.len hk), hn, q1.sm hm ht (fun _ _ h _ => by omega), q2.sm hm ht (fun _ _ h _ => by omega), q3.sm hm ht (fun _ _ h _ => by omega), q4.sm hm ht (fun v hv => hv.sm hm ht), s1.sm hm ht (fun _ _ h _ => by omega), w1, d1.sm hm ht, b1.sm hm ht, i1.sm hm ht, i2.sm hm ht (fun _ _ h => by omega)⟩
theorem xi_dn {ρ : Nat → Nat} {fv : Nat → Nat → Int32} {ws : va_W} {tys : List (ClassId × FieldType)} {h0 lc bc rc fc tl : Nat} {d d' : Int32} (h : XI ρ fv ws tys h0 lc bc rc fc d tl) (e : d = d') : XI ρ fv ws tys h0 lc bc rc fc d' tl := e ▸ h
/-- the same, where kept cells were written: lots, vessels and the steps of now are told anew -/
theorem xi_mk2 {ρ σ : Nat → Nat} {fv : Nat → Nat → Int32} {T : List Nat} {ws ws' : va_W} {tys tys' : List (ClassId × FieldType)} {h0 lc bc rc fc tl k0 la ta ba ra sn rd dr bl vd fb : Nat} {dn : Int32} (e : ws'[k0]? = some (h0, .inr (8, [.ref la, .ref ta, .ref ba, .ref ra, .ref sn, .ref rd, .ref dr, .ref bl, .ref vd, .ref fb, .int (nI lc), .int (nI bc), .int (nI rc), .int (nI fc), .int dn]))) (w : ρ k0 = 0) (hle : ∀ k : Nat, ws.length ≤ k → ρ k = 0) (hn : lc ≤ 40 ∧ bc ≤ 60 ∧ rc ≤ 16 ∧ fc ≤ 60 ∧ tl ≤ 400) (q1 : CL ρ fv ws' tys' la lc) (q2 : CW ρ fv ws' tys' ta 10 0 10) (q3 : CW ρ fv ws' tys' ba 60 10 bc) (q4 : aQ ws tys RX3 (oR ρ ws tys) ra 16) (s1 : oN ρ fv ws' tys' sn) (w1 : oW ρ ws tys rd tl) (d1 : oD ρ ws tys dr) (b1 : oB ρ ws tys bl) (i1 : aI ρ ws tys vd 16) (i2 : oF ρ fv ws' tys' fb fc) (hm : sm σ T ws ws') (ht : tyx tys tys') (h6 : 6 ∉ T) : XI ρ fv ws' tys' h0 lc bc rc fc dn tl :=
  ⟨k0, la, ta, ba, ra, sn, rd, dr, bl, vd, fb, e, w, fun k hk => hle k (Nat.le_trans hm.len hk), hn, q1, q2, q3, q4.sm hm ht (fun v hv => hv.sm hm ht), s1, w1.sm hm ht h6, d1.sm hm ht, b1.sm hm ht, i1.sm hm ht, i2⟩
theorem tag_ne {ρ : Nat → Nat} {a b t1 t2 : Nat} (h1 : ρ a = t1) (h2 : ρ b = t2) (h : t1 ≠ t2) : a ≠ b := fun q => by subst q; exact h (h1.symm.trans h2)
theorem cl_lt {n M : Int32} {N : Nat} (a : ¬ n < 0) (b : ¬ M < n) (h : M.toInt + 1 = (N : Int)) : n.toNatClampNeg < N := by
  rw [i_lt] at a b
  have h0 : (0 : Int32).toInt = 0 := by decide
  rw [h0] at a
  show n.toInt.toNat < N
  omega
/-- the lot that lotAt answers -/
theorem lotx {ρ : Nat → Nat} {fv : Nat → Nat → Int32} {ws : va_W} {tys : List (ClassId × FieldType)} {lc : Nat} {g : Nat → Option Nat} {r : Option Nat} {a : Int32} (hlc : lc ≤ 40) (h0 : ∀ j : Nat, lc ≤ j → g j = none) (h1 : ∀ j : Nat, j < lc → ∃ v : Nat, g j = some v ∧ LOT ρ fv ws tys v j) (h : (r = none ∧ (a < 0 ∨ 39 < a)) ∨ (¬ a < 0 ∧ ¬ 39 < a ∧ r = g a.toNatClampNeg)) : (r = none ∧ (a < 0 ∨ nI lc ≤ a)) ∨ (¬ a < 0 ∧ ¬ nI lc ≤ a ∧ a.toNatClampNeg < lc ∧ ∃ v : Nat, r = some v ∧ g a.toNatClampNeg = some v ∧ LOT ρ fv ws tys v a.toNatClampNeg) := by
  have e0 : (0 : Int32).toInt = 0 := by decide
  have e39 : (39 : Int32).toInt = 39 := by decide
  have el : (nI lc).toInt = lc := nI_toInt (by omega)
  rcases h with ⟨q, h⟩ | ⟨ha, hb, hr⟩
  · refine Or.inl ⟨q, h.imp id (fun h => ?_)⟩
    rw [i_lt, e39] at h
    rw [i_le, el]; omega
  · rw [i_lt, e0] at ha
    have ec : a.toNatClampNeg = a.toInt.toNat := rfl
    rcases Nat.lt_or_ge a.toNatClampNeg lc with q | q
    · obtain ⟨v, hv, hL⟩ := h1 _ q
      exact Or.inr ⟨by rw [i_lt, e0]; exact ha, by rw [i_le, el]; omega, q, v, hr.trans hv, hv, hL⟩
    · exact Or.inl ⟨hr.trans (h0 _ q), Or.inr (by rw [i_le, el]; omega)⟩
theorem lot_tes {k v lo hi st J : Nat} {x : Int32} {f4 f7 : Nat → Int32} {W : va_W} (e : W[k]? = some (v, .inr (2, [.int (f4 (7 * J)), .int (f4 (7 * J + 1)), .int (f4 (7 * J + 3)), .int (f4 (7 * J + 4)), .ref lo, .ref hi, .ref st, .int x, .int (f4 (7 * J + 5)), .int (payL f4 f7 J x)]))) : W[k]? = some (v, .inr (2, [.int (tesF f4 f7 J x (7 * J)), .int (tesF f4 f7 J x (7 * J + 1)), .int (tesF f4 f7 J x (7 * J + 3)), .int (tesF f4 f7 J x (7 * J + 4)), .ref lo, .ref hi, .ref st, .int (tesF f4 f7 J x (7 * J + 2)), .int (tesF f4 f7 J x (7 * J + 5)), .int (tesF f4 f7 J x (7 * J + 6))])) := by
  have z0 : tesF f4 f7 J x (7 * J) = f4 (7 * J) := by rw [tesF, upd_n (by omega), upd_n (by omega)]
  have z1 : tesF f4 f7 J x (7 * J + 1) = f4 (7 * J + 1) := by rw [tesF, upd_n (by omega), upd_n (by omega)]
  have z3 : tesF f4 f7 J x (7 * J + 3) = f4 (7 * J + 3) := by rw [tesF, upd_n (by omega), upd_n (by omega)]
  have z4 : tesF f4 f7 J x (7 * J + 4) = f4 (7 * J + 4) := by rw [tesF, upd_n (by omega), upd_n (by omega)]
  have z5 : tesF f4 f7 J x (7 * J + 5) = f4 (7 * J + 5) := by rw [tesF, upd_n (by omega), upd_n (by omega)]
  have z2 : tesF f4 f7 J x (7 * J + 2) = x := by rw [tesF, upd_n (by omega), upd_s]
  have z6 : tesF f4 f7 J x (7 * J + 6) = payL f4 f7 J x := by rw [tesF, upd_s]
  rw [z0, z1, z2, z3, z4, z5, z6]; exact e
theorem tes_n {f4 f7 : Nat → Int32} {J j i : Nat} {x : Int32} (h : j ≠ J) (hi : i < 7) : tesF f4 f7 J x (7 * j + i) = f4 (7 * j + i) := by rw [tesF, upd_n (by omega), upd_n (by omega)]
theorem upd5_n {f : Nat → Int32} {J j i K : Nat} {x : Int32} (h : j ≠ J) (hi : i < 5) (hK : K < 5) : upd f (5 * J + K) x (5 * j + i) = f (5 * j + i) := upd_n (by omega)
theorem upd5_r {f g : Nat → Int32} {J K : Nat} {x : Int32} (hg : ∀ i : Nat, i < 5 → g i = f (5 * J + i)) : ∀ i : Nat, i < 5 → upd g K x i = upd f (5 * J + K) x (5 * J + i) := by
  intro i hi
  rcases Nat.decEq i K with q | q
  · rw [upd_n q, upd_n (by omega)]; exact hg i hi
  · subst q; rw [upd_s, upd_s]
theorem stp_w {f f8 : Nat → Int32} {j : Nat} {a2 a3 : Int32} (h : ∀ i : Nat, i < 4 → f i = f8 (2 * i)) : ∀ i : Nat, i < 4 → upd f j a2 i = stpF f8 j a2 a3 (2 * i) := by
  intro i hi
  rcases Nat.decEq i j with q | q
  · rw [upd_n q, stpF, upd_n (by omega), upd_n (by omega)]; exact h i hi
  · subst q; rw [upd_s, stpF, upd_n (by omega), upd_s]
theorem stp_p {f f8 : Nat → Int32} {j : Nat} {a2 a3 : Int32} (h : ∀ i : Nat, i < 4 → f i = f8 (2 * i + 1)) : ∀ i : Nat, i < 4 → upd f j a3 i = stpF f8 j a2 a3 (2 * i + 1) := by
  intro i hi
  rcases Nat.decEq i j with q | q
  · rw [upd_n q, stpF, upd_n (by omega), upd_n (by omega)]; exact h i hi
  · subst q; rw [upd_s, stpF, upd_s]
theorem pd_no {f4 : Nat → Int32} {a : Int32} {i : Nat} (h : ¬ f4 (7 * i) = a) : pdS f4 a (i + 1) = pdS f4 a i := by
  show pdS f4 a i + (if f4 (7 * i) = a then f4 (7 * i + 6) else 0).toInt64 = _
  rw [if_neg h]
  exact Int64.add_zero _
theorem pd_yes {f4 : Nat → Int32} {a : Int32} {i : Nat} (h : f4 (7 * i) = a) : pdS f4 a (i + 1) = pdS f4 a i + (f4 (7 * i + 6)).toInt64 := by
  show pdS f4 a i + (if f4 (7 * i) = a then f4 (7 * i + 6) else 0).toInt64 = _
  rw [if_pos h]
