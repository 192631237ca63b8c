/-- the vessel that tankAt answers -/
theorem tankx {ρ : Nat → Nat} {fv : Nat → Nat → Int32} {ws : va_W} {tys : List (ClassId × FieldType)} {g : Nat → Option Nat} {r : Option Nat} {a : Int32} (h1 : ∀ j : Nat, j < 10 → ∃ v : Nat, g j = some v ∧ VES ρ fv ws tys v (0 + j)) (h : (r = none ∧ (a < 0 ∨ 9 < a)) ∨ (¬ a < 0 ∧ ¬ 9 < a ∧ r = g a.toNatClampNeg)) : (r = none ∧ (a < 0 ∨ 9 < a)) ∨ (¬ a < 0 ∧ ¬ 9 < a ∧ a.toNatClampNeg < 10 ∧ ∃ v : Nat, r = some v ∧ g a.toNatClampNeg = some v ∧ VES ρ fv ws tys v a.toNatClampNeg) := by
  rcases h with h | ⟨ha, hb, hr⟩
  · exact Or.inl h
  · have hl := cl_lt (N := 10) ha hb (by decide)
    obtain ⟨v, hv, hL⟩ := h1 _ hl
    rw [Nat.zero_add] at hL
    exact Or.inr ⟨ha, hb, hl, v, hr.trans hv, hv, hL⟩
/-- the vessel that vesselAt answers, and its number -/
theorem vesx {ρ : Nat → Nat} {fv : Nat → Nat → Int32} {ws : va_W} {tys : List (ClassId × FieldType)} {g g3 : Nat → Option Nat} {r : Option Nat} {bc : Nat} {a1 a2 : Int32} (hbc : bc ≤ 60) (h1 : ∀ j : Nat, j < 10 → ∃ v : Nat, g j = some v ∧ VES ρ fv ws tys v (0 + j)) (h0 : ∀ j : Nat, bc ≤ j → g3 j = none) (h3 : ∀ j : Nat, j < bc → ∃ v : Nat, g3 j = some v ∧ VES ρ fv ws tys v (10 + j)) (h : (r = none ∧ ((a1 = 0 ∧ (a2 < 0 ∨ 9 < a2)) ∨ (¬ a1 = 0 ∧ (¬ a1 = 1 ∨ a2 < 0 ∨ 59 < a2)))) ∨ (a1 = 0 ∧ ¬ a2 < 0 ∧ ¬ 9 < a2 ∧ r = g a2.toNatClampNeg) ∨ (¬ a1 = 0 ∧ a1 = 1 ∧ ¬ a2 < 0 ∧ ¬ 59 < a2 ∧ r = g3 a2.toNatClampNeg)) :
    (r = none ∧ rowN bc a1 a2) ∨ (¬ rowN bc a1 a2 ∧ rowI a1 a2 < 70 ∧ ∃ v : Nat, r = some v ∧ VES ρ fv ws tys v (rowI a1 a2)) := by
  have e0 : (0 : Int32).toInt = 0 := by decide
  have e59 : (59 : Int32).toInt = 59 := by decide
  have el : (nI bc).toInt = bc := nI_toInt (by omega)
  rcases h with ⟨q, h⟩ | ⟨ha, hb, hc, hr⟩ | ⟨ha, ha1, hb, hc, hr⟩
  · refine Or.inl ⟨q, ?_⟩
    rcases h with ⟨ha, h⟩ | ⟨ha, h⟩
    · exact Or.inl ⟨ha, h⟩
    · refine Or.inr ⟨ha, ?_⟩
      rcases h with h | h | h
      · exact Or.inl h
      · exact Or.inr (Or.inl h)
      · refine Or.inr (Or.inr ?_)
        rw [i_lt, e59] at h
        rw [i_le, el]; omega
  · have hl := cl_lt (N := 10) hb hc (by decide)
    obtain ⟨v, hv, hL⟩ := h1 _ hl
    rw [Nat.zero_add] at hL
    have er : rowI a1 a2 = a2.toNatClampNeg := if_pos ha
    refine Or.inr ⟨fun hn => ?_, by omega, v, hr.trans hv, by rw [er]; exact hL⟩
    rcases hn with ⟨-, h | h⟩ | ⟨h, -⟩
    · exact hb h
    · exact hc h
    · exact h ha
  · have hl := cl_lt (N := 60) hb hc (by decide)
    have er : rowI a1 a2 = 10 + a2.toNatClampNeg := if_neg ha
    rcases Nat.lt_or_ge a2.toNatClampNeg bc with q | q
    · obtain ⟨v, hv, hL⟩ := h3 _ q
      refine Or.inr ⟨fun hn => ?_, by omega, v, hr.trans hv, by rw [er]; exact hL⟩
      rcases hn with ⟨h, -⟩ | ⟨-, h | h | h⟩
      · exact ha h
      · exact h ha1
      · exact hb h
      · rw [i_lt, e0] at hb
        rw [i_le, el] at h
        have ec : a2.toNatClampNeg = a2.toInt.toNat := rfl
        omega
    · refine Or.inl ⟨hr.trans (h0 _ q), Or.inr ⟨ha, Or.inr (Or.inr ?_)⟩⟩
      rw [i_lt, e0] at hb
      have ec : a2.toNatClampNeg = a2.toInt.toNat := rfl
      rw [i_le, el]; omega
section VT
variable {fv : Nat → Nat → Int32} {W : va_W} {k v g : Nat} {a1 a2 a3 : Int32}
theorem ves_tnk (e : W[k]? = some (v, .inr (7, [.ref g, .int (mall (fv 9) a1.toNatClampNeg 40), .int (fv 10 a1.toNatClampNeg), .int a2, .int a3]))) : W[k]? = some (v, .inr (7, [.ref g, .int (mall (tnkF fv a1 a2 a3 9) a1.toNatClampNeg 40), .int (tnkF fv a1 a2 a3 10 a1.toNatClampNeg), .int (tnkF fv a1 a2 a3 11 a1.toNatClampNeg), .int (tnkF fv a1 a2 a3 12 a1.toNatClampNeg)])) := by
  have z1 : tnkF fv a1 a2 a3 11 a1.toNatClampNeg = a2 := upd_s _ _ _
  have z2 : tnkF fv a1 a2 a3 12 a1.toNatClampNeg = a3 := upd_s _ _ _
  rw [z1, z2]; exact e
theorem ves_wrm (e : W[k]? = some (v, .inr (7, [.ref g, .int (mall (fv 9) a1.toNatClampNeg 40), .int (fv 10 a1.toNatClampNeg + a2), .int (fv 11 a1.toNatClampNeg), .int (fv 12 a1.toNatClampNeg)]))) : W[k]? = some (v, .inr (7, [.ref g, .int (mall (wrmF fv a1 a2 9) a1.toNatClampNeg 40), .int (wrmF fv a1 a2 10 a1.toNatClampNeg), .int (wrmF fv a1 a2 11 a1.toNatClampNeg), .int (wrmF fv a1 a2 12 a1.toNatClampNeg)])) := by
  have z1 : wrmF fv a1 a2 10 a1.toNatClampNeg = fv 10 a1.toNatClampNeg + a2 := upd_s _ _ _
  rw [z1]; exact e
theorem mall_upd {f : Nat → Int32} {t i : Nat} {x : Int32} (hi : i < 40) : mall (upd f (40 * t + i) (f (40 * t + i) + x)) t 40 = mall f t 40 + x := by
  rw [mall_sm1, mall_sm1]
  have e : sm1 (fun j => upd f (40 * t + i) (f (40 * t + i) + x) (40 * t + j)) 40 = sm1 (upd (fun j => f (40 * t + j)) i (f (40 * t + i) + x)) 40 := sm1_cg 40 (fun j hj => by
    rcases Nat.decEq j i with q | q
    · rw [upd_n q]; exact upd_n (by omega)
    · rw [q, upd_s, upd_s])
  rw [e]
  exact sm1_u (d := fun j => f (40 * t + j)) 40 hi
theorem ves_pou (h1 : a1.toNatClampNeg < 40) (e : W[k]? = some (v, .inr (7, [.ref g, .int (mall (fv 9) a2.toNatClampNeg 40 + a3), .int (fv 10 a2.toNatClampNeg), .int (fv 11 a2.toNatClampNeg), .int (fv 12 a2.toNatClampNeg)]))) : W[k]? = some (v, .inr (7, [.ref g, .int (mall (pouF fv a1 a2 a3 9) a2.toNatClampNeg 40), .int (pouF fv a1 a2 a3 10 a2.toNatClampNeg), .int (pouF fv a1 a2 a3 11 a2.toNatClampNeg), .int (pouF fv a1 a2 a3 12 a2.toNatClampNeg)])) := by
  have z1 : mall (pouF fv a1 a2 a3 9) a2.toNatClampNeg 40 = mall (fv 9) a2.toNatClampNeg 40 + a3 := mall_upd h1
  rw [z1]; exact e
theorem row_pou {f : Nat → Int32} (hf : ∀ i : Nat, i < 40 → f i = fv 9 (40 * a2.toNatClampNeg + i)) (h1 : a1.toNatClampNeg < 40) : ∀ i : Nat, i < 40 → upd f a1.toNatClampNeg (f a1.toNatClampNeg + a3) i = pouF fv a1 a2 a3 9 (40 * a2.toNatClampNeg + i) := fun i hi => by
  show _ = upd (fv 9) (40 * a2.toNatClampNeg + a1.toNatClampNeg) _ (40 * a2.toNatClampNeg + i)
  rcases Nat.decEq i a1.toNatClampNeg with q | q
  · rw [upd_n q, upd_n (by omega)]; exact hf i hi
  · rw [q, upd_s, upd_s, hf _ h1]
theorem lot_pou {lo hi st : Nat} (e : W[k]? = some (v, .inr (2, [.int (fv 4 (7 * a1.toNatClampNeg)), .int (fv 4 (7 * a1.toNatClampNeg + 1)), .int (fv 4 (7 * a1.toNatClampNeg + 3)), .int (fv 4 (7 * a1.toNatClampNeg + 4)), .ref lo, .ref hi, .ref st, .int (fv 4 (7 * a1.toNatClampNeg + 2)), .int (fv 4 (7 * a1.toNatClampNeg + 5) - a3), .int (fv 4 (7 * a1.toNatClampNeg + 6))]))) : W[k]? = some (v, .inr (2, [.int (pouF fv a1 a2 a3 4 (7 * a1.toNatClampNeg)), .int (pouF fv a1 a2 a3 4 (7 * a1.toNatClampNeg + 1)), .int (pouF fv a1 a2 a3 4 (7 * a1.toNatClampNeg + 3)), .int (pouF fv a1 a2 a3 4 (7 * a1.toNatClampNeg + 4)), .ref lo, .ref hi, .ref st, .int (pouF fv a1 a2 a3 4 (7 * a1.toNatClampNeg + 2)), .int (pouF fv a1 a2 a3 4 (7 * a1.toNatClampNeg + 5)), .int (pouF fv a1 a2 a3 4 (7 * a1.toNatClampNeg + 6))])) := by
  have z : ∀ i : Nat, i ≠ 5 → pouF fv a1 a2 a3 4 (7 * a1.toNatClampNeg + i) = fv 4 (7 * a1.toNatClampNeg + i) := fun i hi => upd_n (by omega)
  have z0 : pouF fv a1 a2 a3 4 (7 * a1.toNatClampNeg) = fv 4 (7 * a1.toNatClampNeg) := upd_n (by omega)
  have z5 : pouF fv a1 a2 a3 4 (7 * a1.toNatClampNeg + 5) = fv 4 (7 * a1.toNatClampNeg + 5) - a3 := upd_s _ _ _
  rw [z0, z 1 (by omega), z 2 (by omega), z 3 (by omega), z 4 (by omega), z 6 (by omega), z5]; exact e
theorem ves_spi {y : Int32} (hy : y = drA (fv 9) a1.toNatClampNeg a2) (e : W[k]? = some (v, .inr (7, [.ref g, .int y, .int (if y = 0 then 0 else fv 10 a1.toNatClampNeg), .int (fv 11 a1.toNatClampNeg), .int (fv 12 a1.toNatClampNeg)]))) : W[k]? = some (v, .inr (7, [.ref g, .int (mall (spiF fv a1 a2 9) a1.toNatClampNeg 40), .int (spiF fv a1 a2 10 a1.toNatClampNeg), .int (spiF fv a1 a2 11 a1.toNatClampNeg), .int (spiF fv a1 a2 12 a1.toNatClampNeg)])) := by
  subst hy
  have z1 : spiF fv a1 a2 10 a1.toNatClampNeg = if drA (fv 9) a1.toNatClampNeg a2 = 0 then 0 else fv 10 a1.toNatClampNeg := upd_s _ _ _
  rw [z1]; exact e
theorem ves_movA {y : Int32} (hn : a1.toNatClampNeg ≠ a2.toNatClampNeg) (hy : y = drA (fv 9) a1.toNatClampNeg a3) (e : W[k]? = some (v, .inr (7, [.ref g, .int y, .int (if y = 0 then 0 else fv 10 a1.toNatClampNeg), .int (fv 11 a1.toNatClampNeg), .int (fv 12 a1.toNatClampNeg)]))) : W[k]? = some (v, .inr (7, [.ref g, .int (mall (movF fv a1 a2 a3 9) a1.toNatClampNeg 40), .int (movF fv a1 a2 a3 10 a1.toNatClampNeg), .int (movF fv a1 a2 a3 11 a1.toNatClampNeg), .int (movF fv a1 a2 a3 12 a1.toNatClampNeg)])) := by
  subst hy
  have z1 : movF fv a1 a2 a3 10 a1.toNatClampNeg = if drA (fv 9) a1.toNatClampNeg a3 = 0 then 0 else fv 10 a1.toNatClampNeg := upd_s _ _ _
  have z2 : mall (movF fv a1 a2 a3 9) a1.toNatClampNeg 40 = drA (fv 9) a1.toNatClampNeg a3 := mall_cg 40 (fun i hi => rwA_out hi hn)
  rw [z1, z2]; exact e
theorem row_movA {f : Nat → Int32} (hn : a1.toNatClampNeg ≠ a2.toNatClampNeg) (hf : ∀ i : Nat, i < 40 → f i = drF (fv 9) a1.toNatClampNeg a3 (40 * a1.toNatClampNeg + i)) : ∀ i : Nat, i < 40 → f i = movF fv a1 a2 a3 9 (40 * a1.toNatClampNeg + i) := fun i hi => (hf i hi).trans (rwA_out hi hn).symm
theorem row_movB {f d f9 : Nat → Int32} (hn : a1.toNatClampNeg ≠ a2.toNatClampNeg) (hf : ∀ i : Nat, i < 40 → f i = fv 9 (40 * a2.toNatClampNeg + i)) (hd : ∀ i : Nat, i < 40 → d i = drW (fv 9) a1.toNatClampNeg a3 i) (h9 : ∀ i : Nat, i < 40 → f9 i = f i + d i) : ∀ i : Nat, i < 40 → f9 i = movF fv a1 a2 a3 9 (40 * a2.toNatClampNeg + i) := fun i hi => by
  rw [h9 i hi, hf i hi, hd i hi]
  show _ = rwA _ _ _ _
  rw [rwA_in hi, drF, rwS_out hi (fun z => hn z.symm)]
theorem ves_movB {f9 : Nat → Int32} (hn : a1.toNatClampNeg ≠ a2.toNatClampNeg) (h9 : ∀ i : Nat, i < 40 → f9 i = movF fv a1 a2 a3 9 (40 * a2.toNatClampNeg + i)) (e : W[k]? = some (v, .inr (7, [.ref g, .int (sm1 f9 40), .int (if mall (fv 9) a2.toNatClampNeg 40 = 0 then fv 10 a1.toNatClampNeg else if fv 10 a2.toNatClampNeg < fv 10 a1.toNatClampNeg then fv 10 a1.toNatClampNeg else fv 10 a2.toNatClampNeg), .int (fv 11 a2.toNatClampNeg), .int (fv 12 a2.toNatClampNeg)]))) : W[k]? = some (v, .inr (7, [.ref g, .int (mall (movF fv a1 a2 a3 9) a2.toNatClampNeg 40), .int (movF fv a1 a2 a3 10 a2.toNatClampNeg), .int (movF fv a1 a2 a3 11 a2.toNatClampNeg), .int (movF fv a1 a2 a3 12 a2.toNatClampNeg)])) := by
  have z1 : movF fv a1 a2 a3 10 a2.toNatClampNeg = if mall (fv 9) a2.toNatClampNeg 40 = 0 then fv 10 a1.toNatClampNeg else if fv 10 a2.toNatClampNeg < fv 10 a1.toNatClampNeg then fv 10 a1.toNatClampNeg else fv 10 a2.toNatClampNeg := by
    show upd (upd _ _ _) _ _ _ = _
    rw [upd_n (fun z => hn z.symm), upd_s]
  have z2 : mall (movF fv a1 a2 a3 9) a2.toNatClampNeg 40 = sm1 f9 40 := by
    rw [mall_sm1]; exact sm1_cg 40 (fun i hi => (h9 i hi).symm)
  rw [z1, z2]; exact e
end VT
/-- what drawFrom leaves, in the words of the draw -/
theorem dr_told {F f d9 f9 : Nat → Int32} {T L : Nat} {x : Int32} (hf : ∀ i : Nat, i < 40 → f i = F (40 * T + i)) (hL : lak x (drT F T) (fun i => F (40 * T + i)) 40 = nI L) (hL40 : L ≤ 40) (hd : ∀ j9 : Nat, j9 < 40 → d9 j9 = (rnd 40 (fun i9 => shD x (mall F T 40).toInt64 (f i9)) (fun i9 => shR x (mall F T 40).toInt64 (f i9)) L).1 j9) (h9 : ∀ j9 : Nat, j9 < 40 → f9 j9 = f j9 - d9 j9) : (∀ j : Nat, j < 40 → d9 j = drW F T x j) ∧ (∀ j : Nat, j < 40 → f9 j = drF F T x (40 * T + j)) ∧ sm1 f9 40 = drA F T x := by
  have el : drL F T x = L := by rw [drL, hL]; exact nI_clamp (by omega)
  have h1 : ∀ j : Nat, j < 40 → d9 j = drW F T x j := fun j hj => by
    rw [hd j hj, drW, el]
    exact (rnd_cg (by omega) (fun i hi => by show shD _ _ (f i) = _; rw [hf i hi]; rfl) (fun i hi => by show shR _ _ (f i) = _; rw [hf i hi]; rfl) L).1 j hj
  have h2 : ∀ j : Nat, j < 40 → f9 j = drF F T x (40 * T + j) := fun j hj => by rw [h9 j hj, h1 j hj, hf j hj, drF, rwS_in hj]
  exact ⟨h1, h2, by rw [drA, mall_sm1]; exact sm1_cg 40 h2⟩
/-- one tank told anew -/
theorem xi_v1 {ρ σ : Nat → Nat} {fv fv' : Nat → Nat → Int32} {T : List Nat} {ws ws' : va_W} {tys tys' : List (ClassId × FieldType)} {h0 lc bc rc fc tl k0 la ta ba ra sn rd dr bl vd fb : Nat} {dn : Int32} {kta tta : Nat} {cta : ClassId} {g : Nat → Option Nat} {J v : Nat} (e : ws'[k0]? = some (h0, .inr (8, [.ref la, .ref ta, .ref ba, .ref ra, .ref sn, .ref rd, .ref dr, .ref bl, .ref vd, .ref fb, .int (nI lc), .int (nI bc), .int (nI rc), .int (nI fc), .int dn]))) (w : ρ k0 = 0) (hle : ∀ k : Nat, ws.length ≤ k → ρ k = 0) (hn : lc ≤ 40 ∧ bc ≤ 60 ∧ rc ≤ 16 ∧ fc ≤ 60 ∧ tl ≤ 400) (q1 : CL ρ fv' ws' tys' la lc) (eta : ws'[kta]? = some (ta, .inl (cta, 10, .inr (.inr (.inr (.inr g)))))) (uta : tys'[tta]? = some (cta, .object RX7)) (hta0 : ∀ j : Nat, 10 ≤ j → g j = none) (hta1 : ∀ j : Nat, j < 10 → ∃ v : Nat, g j = some v ∧ VES ρ fv ws tys v (0 + j)) (q3 : CW ρ fv ws tys ba 60 10 bc) (q4 : aQ ws tys RX3 (oR ρ ws tys) ra 16) (s1 : oN ρ fv ws tys sn) (w1 : oW ρ ws tys rd tl) (d1 : oD ρ ws tys dr) (b1 : oB ρ ws tys bl) (i1 : aI ρ ws tys vd 16) (i2 : oF ρ fv ws tys fb fc) (hm : sm σ T ws ws') (ht : tyx tys tys') (h6 : 6 ∉ T) (hJ : J < 10) (hk : ∀ k : Nat, 8004 ≤ ρ k → ρ k ≠ 10000 + 2 * J → ρ k ≠ 10001 + 2 * J → σ k ≠ 0) (hg : g J = some v) (hV : VES ρ fv' ws' tys' v J) (f8 : fv' 8 = fv 8) (f42 : fv' 42 = fv 42) (f9 : ∀ r i : Nat, r ≠ J → i < 40 → fv' 9 (40 * r + i) = fv 9 (40 * r + i)) (f10 : ∀ r : Nat, r ≠ J → fv' 10 r = fv 10 r) (f11 : ∀ r : Nat, r ≠ J → fv' 11 r = fv 11 r) (f12 : ∀ r : Nat, r ≠ J → fv' 12 r = fv 12 r) : XI ρ fv' ws' tys' h0 lc bc rc fc dn tl := by
  have s2 : oN ρ fv' ws' tys' sn := by
    show oST ρ ws' tys' sn 1000 _ _
    rw [f8]
    exact oST.sm s1 hm ht (fun k _ h1 h2 => hk k (by omega) (by omega) (by omega))
  exact xi_mk2 e w hle hn q1 ⟨kta, cta, tta, g, eta, uta, hta0, ves_one hta1 hm ht (fun j k _ hj h1 h2 => hk k (by omega) (by omega) (by omega)) hg (by rw [Nat.zero_add]; exact hV) (fun j _ hj => ⟨fun i hi => f9 (0 + j) i (by omega) hi, f10 (0 + j) (by omega), f11 (0 + j) (by omega), f12 (0 + j) (by omega)⟩)⟩ ((q3.sm hm ht (fun k _ h1 h2 => hk k (by omega) (by omega) (by omega))).fvx (fun j i _ hi => f9 (10 + j) i (by omega) hi) (fun j _ => f10 (10 + j) (by omega)) (fun j _ => f11 (10 + j) (by omega)) (fun j _ => f12 (10 + j) (by omega))) q4 s2 w1 d1 b1 i1 ((i2.sm hm ht (fun k _ h => hk k (by omega) (by omega) (by omega))).fvx f42) hm ht h6
/-- two tanks told anew -/
theorem xi_v2 {ρ σ : Nat → Nat} {fv fv' : Nat → Nat → Int32} {T : List Nat} {ws ws' : va_W} {tys tys' : List (ClassId × FieldType)} {h0 lc bc rc fc tl k0 la ta ba ra sn rd dr bl vd fb : Nat} {dn : Int32} {kta tta : Nat} {cta : ClassId} {g : Nat → Option Nat} {J K v v2 : Nat} (e : ws'[k0]? = some (h0, .inr (8, [.ref la, .ref ta, .ref ba, .ref ra, .ref sn, .ref rd, .ref dr, .ref bl, .ref vd, .ref fb, .int (nI lc), .int (nI bc), .int (nI rc), .int (nI fc), .int dn]))) (w : ρ k0 = 0) (hle : ∀ k : Nat, ws.length ≤ k → ρ k = 0) (hn : lc ≤ 40 ∧ bc ≤ 60 ∧ rc ≤ 16 ∧ fc ≤ 60 ∧ tl ≤ 400) (q1 : CL ρ fv' ws' tys' la lc) (eta : ws'[kta]? = some (ta, .inl (cta, 10, .inr (.inr (.inr (.inr g)))))) (uta : tys'[tta]? = some (cta, .object RX7)) (hta0 : ∀ j : Nat, 10 ≤ j → g j = none) (hta1 : ∀ j : Nat, j < 10 → ∃ v : Nat, g j = some v ∧ VES ρ fv ws tys v (0 + j)) (q3 : CW ρ fv ws tys ba 60 10 bc) (q4 : aQ ws tys RX3 (oR ρ ws tys) ra 16) (s1 : oN ρ fv ws tys sn) (w1 : oW ρ ws tys rd tl) (d1 : oD ρ ws tys dr) (b1 : oB ρ ws tys bl) (i1 : aI ρ ws tys vd 16) (i2 : oF ρ fv ws tys fb fc) (hm : sm σ T ws ws') (ht : tyx tys tys') (h6 : 6 ∉ T) (hJ : J < 10) (hK : K < 10) (hk : ∀ k : Nat, 8004 ≤ ρ k → ρ k ≠ 10000 + 2 * J → ρ k ≠ 10001 + 2 * J → ρ k ≠ 10000 + 2 * K → ρ k ≠ 10001 + 2 * K → σ k ≠ 0) (hg : g J = some v) (hV : VES ρ fv' ws' tys' v J) (hg2 : g K = some v2) (hV2 : VES ρ fv' ws' tys' v2 K) (f8 : fv' 8 = fv 8) (f42 : fv' 42 = fv 42) (f9 : ∀ r i : Nat, r ≠ J → r ≠ K → i < 40 → fv' 9 (40 * r + i) = fv 9 (40 * r + i)) (f10 : ∀ r : Nat, r ≠ J → r ≠ K → fv' 10 r = fv 10 r) (f11 : fv' 11 = fv 11) (f12 : fv' 12 = fv 12) : XI ρ fv' ws' tys' h0 lc bc rc fc dn tl := by
  have s2 : oN ρ fv' ws' tys' sn := by
    show oST ρ ws' tys' sn 1000 _ _
    rw [f8]
    exact oST.sm s1 hm ht (fun k _ h1 h2 => hk k (by omega) (by omega) (by omega) (by omega) (by omega))
  exact xi_mk2 e w hle hn q1 ⟨kta, cta, tta, g, eta, uta, hta0, ves_two hta1 hm ht (fun j k _ hj hj2 h1 h2 => hk k (by omega) (by omega) (by omega) (by omega) (by omega)) hg (by rw [Nat.zero_add]; exact hV) hg2 (by rw [Nat.zero_add]; exact hV2) (fun j _ hj hj2 => ⟨fun i hi => f9 (0 + j) i (by omega) (by omega) hi, f10 (0 + j) (by omega) (by omega), by rw [f11], by rw [f12]⟩)⟩ ((q3.sm hm ht (fun k _ h1 h2 => hk k (by omega) (by omega) (by omega) (by omega) (by omega))).fvx (fun j i _ hi => f9 (10 + j) i (by omega) (by omega) hi) (fun j _ => f10 (10 + j) (by omega) (by omega)) (fun j _ => by rw [f11]) (fun j _ => by rw [f12])) q4 s2 w1 d1 b1 i1 ((i2.sm hm ht (fun k _ h => hk k (by omega) (by omega) (by omega) (by omega) (by omega))).fvx f42) hm ht h6
