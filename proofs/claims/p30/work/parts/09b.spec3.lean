/-! measures: what each gram of a lot adds, and the sums -/
/-- by the class: w, c, l its water, colour and land, lo and hi its rows of pollen -/
def pgC (w c l : Int32) (lo hi : Nat → Int32) (a : Int32) : Int32 := if a = 0 then w else if a = 1 then c else if a < 10 ∨ 14 < a then (if a < 20 ∨ 24 < a then (if a = 30 + l then 1000 else 0) else hi (a.toNatClampNeg - 20)) else lo (a.toNatClampNeg - 10)
def pgL (fv : Nat → Nat → Int32) (a : Int32) (i : Nat) : Int32 := pgC (fv 4 (7 * i + 2)) (fv 4 (7 * i + 3)) (fv 4 (7 * i + 4)) (fun k => fv 5 (5 * i + k)) (fun k => fv 6 (5 * i + k)) a
/-- by the reference -/
def pgN (fv : Nat → Nat → Int32) (q i : Nat) : Int32 := if q = 0 then fv 4 (7 * i + 2) else if q = 1 then fv 4 (7 * i + 3) else if q < 20 then fv 5 (5 * i + (q - 10)) else if q < 30 then fv 6 (5 * i + (q - 20)) else if fv 4 (7 * i + 4) = nI (q - 30) then 1000 else 0
def wG (g p : Nat → Int32) : Nat → Int64
  | 0 => 0
  | i + 1 => wG g p i + (g i).toInt64 * (p i).toInt64
theorem wG_cg {g g' p p' : Nat → Int32} : ∀ n : Nat, (∀ i : Nat, i < n → g i = g' i) → (∀ i : Nat, i < n → p i = p' i) → wG g p n = wG g' p' n
  | 0, _, _ => rfl
  | n + 1, h, h2 => by
    show wG g p n + (g n).toInt64 * (p n).toInt64 = wG g' p' n + (g' n).toInt64 * (p' n).toInt64
    rw [wG_cg n (fun i hi => h i (by omega)) (fun i hi => h2 i (by omega)), h n (by omega), h2 n (by omega)]
/-- the measures of the rules' texts and of measure: heat (2) is none of a lot's own -/
def isQ (q : Nat) : Prop := q = 0 ∨ q = 1 ∨ (10 ≤ q ∧ q < 15) ∨ (20 ≤ q ∧ q < 25) ∨ (30 ≤ q ∧ q < 34)
theorem pg_eq {fv : Nat → Nat → Int32} {q i : Nat} (h : isQ q) : pgL fv (nI q) i = pgN fv q i := by
  have z0 : (0 : Int32) = nI 0 := nI_0.symm
  have hlt : ∀ a b : Nat, a < 100 → b < 100 → (nI a < nI b ↔ a < b) := fun a b ha hb => nI_ltI (by omega) (by omega)
  have heq : ∀ a b : Nat, a < 100 → b < 100 → (nI a = nI b ↔ a = b) := fun a b ha hb => nI_eq (by omega) (by omega)
  have hq : q < 100 := by rcases h with h | h | h | h | h <;> omega
  unfold pgL pgC pgN
  rw [nI_clamp (n := q) (by omega)]
  have c0 : nI q = 0 ↔ q = 0 := heq q 0 hq (by omega)
  have c1 : nI q = 1 ↔ q = 1 := heq q 1 hq (by omega)
  have c10 : nI q < 10 ↔ q < 10 := hlt q 10 hq (by omega)
  have c14 : (14 : Int32) < nI q ↔ 14 < q := hlt 14 q (by omega) hq
  have c20 : nI q < 20 ↔ q < 20 := hlt q 20 hq (by omega)
  have c24 : (24 : Int32) < nI q ↔ 24 < q := hlt 24 q (by omega) hq
  rcases h with h | h | h | h | h
  · rw [if_pos (c0.mpr h), if_pos h]
  · rw [if_neg (fun z => absurd (c0.mp z) (by omega)), if_pos (c1.mpr h), if_neg (by omega), if_pos h]
  · rw [if_neg (fun z => absurd (c0.mp z) (by omega)), if_neg (fun z => absurd (c1.mp z) (by omega)), if_neg (fun z => z.elim (fun z => absurd (c10.mp z) (by omega)) (fun z => absurd (c14.mp z) (by omega))), if_neg (by omega), if_neg (by omega), if_pos (by omega)]
  · rw [if_neg (fun z => absurd (c0.mp z) (by omega)), if_neg (fun z => absurd (c1.mp z) (by omega)), if_pos (Or.inr (c14.mpr (by omega))), if_neg (fun z => z.elim (fun z => absurd (c20.mp z) (by omega)) (fun z => absurd (c24.mp z) (by omega))), if_neg (by omega), if_neg (by omega), if_neg (by omega), if_pos (by omega)]
  · refine Eq.trans (b := if nI q = 30 + fv 4 (7 * i + 4) then 1000 else 0) ?_ ?_
    · rw [if_neg (fun z => absurd (c0.mp z) (by omega)), if_neg (fun z => absurd (c1.mp z) (by omega)), if_pos (Or.inr (c14.mpr (by omega))), if_pos (Or.inr (c24.mpr (by omega)))]
    rw [if_neg (show ¬ q = 0 by omega), if_neg (show ¬ q = 1 by omega), if_neg (show ¬ q < 20 by omega), if_neg (show ¬ q < 30 by omega)]
    have e : nI q = nI 30 + nI (q - 30) := by rw [nI_add]; congr 1; omega
    by_cases z : fv 4 (7 * i + 4) = nI (q - 30)
    · rw [if_pos z, if_pos (by rw [z, e]; rfl)]
    · rw [if_neg z, if_neg]
      intro y
      apply z
      rw [e] at y
      have y2 : nI 30 + nI (q - 30) = nI 30 + fv 4 (7 * i + 4) := y
      have y3 := congrArg (fun x => x - nI 30) y2
      simp only [Int32.add_comm (nI 30), Int32.add_sub_cancel] at y3
      exact y3.symm
def isM (a : Int32) : Prop := ¬ (a < 0 ∨ 2 < a) ∨ ¬ (a < 10 ∨ 14 < a) ∨ ¬ (a < 20 ∨ 24 < a) ∨ ¬ (a < 30 ∨ 33 < a)
/-- what is told of a measure: f the row, t the total, h the heat -/
def tld (fv : Nat → Nat → Int32) (f : Nat → Int32) (n : Nat) (t h a : Int32) : Int32 := if a = 2 then h else (10 * wG f (pgL fv a) n / t.toInt64).toInt32
def meaN (fv : Nat → Nat → Int32) (bc : Nat) (a1 a2 a3 : Int32) : Prop := rowN bc a1 a2 ∨ mall (fv 9) (rowI a1 a2) 40 = 0 ∨ ¬ isM a3
def meaV (fv : Nat → Nat → Int32) (n : Nat) (a1 a2 a3 : Int32) : Int32 := tld fv (fun i => fv 9 (40 * rowI a1 a2 + i)) n (mall (fv 9) (rowI a1 a2) 40) (fv 10 (rowI a1 a2)) a3
theorem pgC_cg {w c l a : Int32} {lo lo' hi hi' : Nat → Int32} (h1 : ∀ k : Nat, k < 5 → lo k = lo' k) (h2 : ∀ k : Nat, k < 5 → hi k = hi' k) : pgC w c l lo hi a = pgC w c l lo' hi' a := by
  unfold pgC
  by_cases c0 : a = 0
  · rw [if_pos c0, if_pos c0]
  · rw [if_neg c0, if_neg c0]
    by_cases c1 : a = 1
    · rw [if_pos c1, if_pos c1]
    · rw [if_neg c1, if_neg c1]
      by_cases c2 : a < 10 ∨ 14 < a
      · rw [if_pos c2, if_pos c2]
        by_cases c3 : a < 20 ∨ 24 < a
        · rw [if_pos c3, if_pos c3]
        · rw [if_neg c3, if_neg c3]
          apply h2
          have h3 : ¬ a < 20 := fun z => c3 (Or.inl z)
          have h4 : ¬ 24 < a := fun z => c3 (Or.inr z)
          rw [i_lt] at h3 h4
          have e1 : (20 : Int32).toInt = 20 := by decide
          have e2 : (24 : Int32).toInt = 24 := by decide
          have e3 : a.toNatClampNeg = a.toInt.toNat := rfl
          omega
      · rw [if_neg c2, if_neg c2]
        apply h1
        have h3 : ¬ a < 10 := fun z => c2 (Or.inl z)
        have h4 : ¬ 14 < a := fun z => c2 (Or.inr z)
        rw [i_lt] at h3 h4
        have e1 : (10 : Int32).toInt = 10 := by decide
        have e2 : (14 : Int32).toInt = 14 := by decide
        have e3 : a.toNatClampNeg = a.toInt.toNat := rfl
        omega
theorem tld_cg {fv : Nat → Nat → Int32} {f f' : Nat → Int32} {n : Nat} {t h a : Int32} (hf : ∀ i : Nat, i < n → f i = f' i) : tld fv f n t h a = tld fv f' n t h a := by
  unfold tld
  rw [wG_cg n hf (fun _ _ => rfl)]
/-- the total of a vessel is above 0, or 0 -/
theorem nv_tot {fv : Nat → Nat → Int32} {n r : Nat} (V : NV fv n) (hr : r < 70) : (0 < mall (fv 9) r 40 → ¬ mall (fv 9) r 40 = 0) ∧ (¬ 0 < mall (fv 9) r 40 → mall (fv 9) r 40 = 0) := by
  obtain ⟨G, hG, hS, -⟩ := V.1 r hr
  rw [mall_n hG 40 (Nat.le_refl _)]
  have e : (0 < nI (sN G 40)) ↔ 0 < sN G 40 := nI_ltI (a := 0) (b := sN G 40) (by omega) (by omega)
  refine ⟨fun h z => ?_, fun h => ?_⟩
  · have := e.mp h
    rw [z] at h
    exact absurd h (by decide)
  · rcases Nat.eq_zero_or_pos (sN G 40) with q | q
    · rw [q, nI_0]
    · exact absurd (e.mpr q) h
