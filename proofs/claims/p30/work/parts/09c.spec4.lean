/-! whose: the grams of one keeper's lots -/
/-- a lot's grams in the rows b .. of which the first m stand -/
def gIn (fv : Nat → Nat → Int32) (b m l : Nat) : Nat → Int32
  | 0 => 0
  | k + 1 => if k < m then gIn fv b m l k + fv 9 (40 * (b + k) + l) else gIn fv b m l k
def wbI (fv : Nat → Nat → Int32) (bc l : Nat) (a : Int32) : Int32 := if a = 0 then fv 4 (7 * l + 5) else if a = 1 then gIn fv 0 10 l 10 else if a = 2 then gIn fv 10 bc l 60 else fv 4 (7 * l + 1) - fv 4 (7 * l + 5) - gIn fv 0 10 l 10 - gIn fv 10 bc l 60
/-- the sum of g over the lots of the keeper kp -/
def whS (fv : Nat → Nat → Int32) (kp : Int32) (g : Nat → Int64) : Nat → Int64
  | 0 => 0
  | l + 1 => if fv 4 (7 * l) = kp then whS fv kp g l + g l else whS fv kp g l
/-- a lot's grams in the tanks, in the batches, as longs: the first k rows -/
def tkI (fv : Nat → Nat → Int32) (l : Nat) : Nat → Int64
  | 0 => 0
  | k + 1 => tkI fv l k + (if k < 10 then (fv 9 (40 * k + l)).toInt64 else 0)
def btI (fv : Nat → Nat → Int32) (l : Nat) : Nat → Int64
  | 0 => 0
  | k + 1 => btI fv l k + (if k < 10 then 0 else (fv 9 (40 * k + l)).toInt64)
def whoN (a1 a2 : Int32) : Prop := (a1 < 0 ∨ 9 < a1) ∨ (a2 < 0 ∨ 3 < a2)
def whoV (fv : Nat → Nat → Int32) (n bc : Nat) (a1 a2 : Int32) : Int64 := whS fv a1 (fun l => (wbI fv bc l a2).toInt64) n
def whoM (fv : Nat → Nat → Int32) (n bc : Nat) (a1 a2 : Int32) : Int64 := if a2 = 0 then whS fv a1 (fun l => (fv 4 (7 * l + 5)).toInt64) n else if a2 = 1 then whS fv a1 (fun l => tkI fv l (10 + bc)) n else if a2 = 2 then whS fv a1 (fun l => btI fv l (10 + bc)) n else whS fv a1 (fun l => (fv 4 (7 * l + 1)).toInt64) n - whS fv a1 (fun l => (fv 4 (7 * l + 5)).toInt64) n - whS fv a1 (fun l => tkI fv l (10 + bc)) n - whS fv a1 (fun l => btI fv l (10 + bc)) n
theorem l64_of {n : Nat} (h : n < 2 ^ 31) : (nI n).toInt64.toInt = n := by rw [Int32.toInt_toInt64, nI_toInt h]
theorem bm64 {z : Int} (h1 : -(2 ^ 63) ≤ z) (h2 : z < 2 ^ 63) : z.bmod (2 ^ 64) = z := by rw [Int.bmod_eq_of_le] <;> omega
theorem bm32 {z : Int} (h1 : -(2 ^ 31) ≤ z) (h2 : z < 2 ^ 31) : z.bmod (2 ^ 32) = z := by rw [Int.bmod_eq_of_le] <;> omega
theorem l64_add {a b : Nat} (h : a + b < 2 ^ 31) : (nI a).toInt64 + (nI b).toInt64 = (nI (a + b)).toInt64 := by
  apply Int64.toInt_inj.mp
  rw [Int64.toInt_add, l64_of (by omega), l64_of (by omega), l64_of h, bm64 (by omega) (by omega)]
  omega
theorem whS_cg {fv : Nat → Nat → Int32} {kp : Int32} {g g' : Nat → Int64} : ∀ n : Nat, (∀ l : Nat, l < n → g l = g' l) → whS fv kp g n = whS fv kp g' n
  | 0, _ => rfl
  | n + 1, h => by rw [whS, whS, whS_cg n (fun l hl => h l (by omega)), h n (by omega)]
theorem sub4 (a b c d x y z w : Int64) : (a - b - c - d) + (x - y - z - w) = (a + x) - (b + y) - (c + z) - (d + w) := by grind
theorem whS_sub {fv : Nat → Nat → Int32} {kp : Int32} {a b c d : Nat → Int64} : ∀ n : Nat, whS fv kp (fun l => a l - b l - c l - d l) n = whS fv kp a n - whS fv kp b n - whS fv kp c n - whS fv kp d n
  | 0 => (by decide : (0 : Int64) = 0 - 0 - 0 - 0)
  | n + 1 => by
    rw [whS, whS, whS, whS, whS, whS_sub n]
    split
    · exact sub4 ..
    · rfl
section WHO
variable {fv : Nat → Nat → Int32} {n : Nat}
theorem nv_gr (V : NV fv n) {r l : Nat} (hr : r < 70) (hl : l < 40) : ∃ g : Nat, g ≤ 1000000 ∧ fv 9 (40 * r + l) = nI g := by
  obtain ⟨G, h1, h2, -⟩ := V.1 r hr
  exact ⟨G l, Nat.le_trans (sN_le hl) h2, h1 l hl⟩
theorem gIn_t (V : NV fv n) {l : Nat} (hl : l < 40) : ∀ k : Nat, k ≤ 10 → ∃ s : Nat, s ≤ 1000000 * k ∧ gIn fv 0 10 l k = nI s ∧ tkI fv l k = (nI s).toInt64
  | 0, _ => ⟨0, by omega, nI_0.symm, by rw [nI_0]; rfl⟩
  | k + 1, hk => by
    obtain ⟨s, h1, h2, h3⟩ := gIn_t V hl k (by omega)
    obtain ⟨g, hg, e⟩ := nv_gr V (r := k) (by omega) hl
    refine ⟨s + g, by omega, ?_, ?_⟩
    · rw [gIn, if_pos (by omega), h2, Nat.zero_add, e, nI_add]
    · rw [tkI, if_pos (by omega), h3, e, l64_add (by omega)]
theorem tkI_up {l : Nat} : ∀ j : Nat, tkI fv l (10 + j) = tkI fv l 10
  | 0 => rfl
  | j + 1 => by
    rw [show 10 + (j + 1) = (10 + j) + 1 by omega, tkI, if_neg (by omega), tkI_up j]
    exact Int64.add_zero _
theorem btI_lo {l : Nat} : ∀ j : Nat, j ≤ 10 → btI fv l j = 0
  | 0, _ => rfl
  | j + 1, h => by
    rw [btI, if_pos (by omega), btI_lo j (by omega)]
    rfl
theorem gIn_up {b m l : Nat} : ∀ j : Nat, gIn fv b m l (m + j) = gIn fv b m l m
  | 0 => rfl
  | j + 1 => by rw [show m + (j + 1) = (m + j) + 1 by omega, gIn, if_neg (by omega), gIn_up j]
theorem gIn_b (V : NV fv n) {l bc : Nat} (hl : l < 40) (hb : bc ≤ 60) : ∀ k : Nat, k ≤ bc → ∃ s : Nat, s ≤ 1000000 * k ∧ gIn fv 10 bc l k = nI s ∧ btI fv l (10 + k) = (nI s).toInt64
  | 0, _ => ⟨0, by omega, nI_0.symm, by rw [btI_lo _ (by omega), nI_0]; rfl⟩
  | k + 1, hk => by
    obtain ⟨s, h1, h2, h3⟩ := gIn_b V hl hb k (by omega)
    obtain ⟨g, hg, e⟩ := nv_gr V (r := 10 + k) (by omega) hl
    refine ⟨s + g, by omega, ?_, ?_⟩
    · rw [gIn, if_pos (by omega), h2, e, nI_add]
    · rw [show 10 + (k + 1) = (10 + k) + 1 by omega, btI, if_neg (by omega), h3, e, l64_add (by omega)]
theorem who_eq (V : NV fv n) (hn : n ≤ 40) {bc : Nat} (hb : bc ≤ 60) (a1 a2 : Int32) : whoV fv n bc a1 a2 = whoM fv n bc a1 a2 := by
  have hT : ∀ l : Nat, l < n → ∃ s : Nat, s ≤ 10000000 ∧ gIn fv 0 10 l 10 = nI s ∧ tkI fv l (10 + bc) = (nI s).toInt64 := fun l hl => by
    obtain ⟨s, h1, h2, h3⟩ := gIn_t V (l := l) (by omega) 10 (by omega)
    exact ⟨s, by omega, h2, (tkI_up bc).trans h3⟩
  have hB : ∀ l : Nat, l < n → ∃ s : Nat, s ≤ 60000000 ∧ gIn fv 10 bc l 60 = nI s ∧ btI fv l (10 + bc) = (nI s).toInt64 := fun l hl => by
    obtain ⟨s, h1, h2, h3⟩ := gIn_b V (l := l) (by omega) hb bc (by omega)
    refine ⟨s, by omega, ?_, h3⟩
    rw [← h2, ← gIn_up (60 - bc), show bc + (60 - bc) = 60 by omega]
  rw [whoV, whoM]
  by_cases c0 : a2 = 0
  · rw [if_pos c0]
    exact whS_cg n (fun l _ => by rw [wbI, if_pos c0])
  rw [if_neg c0]
  by_cases c1 : a2 = 1
  · rw [if_pos c1]
    refine whS_cg n (fun l hl => ?_)
    obtain ⟨s, -, h2, h3⟩ := hT l hl
    rw [wbI, if_neg c0, if_pos c1, h2, h3]
  rw [if_neg c1]
  by_cases c2 : a2 = 2
  · rw [if_pos c2]
    refine whS_cg n (fun l hl => ?_)
    obtain ⟨s, -, h2, h3⟩ := hB l hl
    rw [wbI, if_neg c0, if_neg c1, if_pos c2, h2, h3]
  rw [if_neg c2, ← whS_sub]
  refine whS_cg n (fun l hl => ?_)
  obtain ⟨s, h1, h2, h3⟩ := hT l hl
  obtain ⟨t, k1, k2, k3⟩ := hB l hl
  obtain ⟨x, y, hx, hy, ex, ey⟩ := V.2.2 l hl
  rw [wbI, if_neg c0, if_neg c1, if_neg c2, h2, h3, k2, k3, ex, ey]
  apply Int64.toInt_inj.mp
  rw [Int64.toInt_sub, Int64.toInt_sub, Int64.toInt_sub, Int32.toInt_toInt64, Int32.toInt_sub, Int32.toInt_sub, Int32.toInt_sub, l64_of (by omega), l64_of (by omega), l64_of (by omega), l64_of (by omega), nI_toInt (by omega), nI_toInt (by omega), nI_toInt (by omega), nI_toInt (by omega), bm32 (z := (x : Int) - y) (by omega) (by omega), bm32 (z := (x : Int) - y - s) (by omega) (by omega), bm32 (by omega) (by omega), bm64 (z := (x : Int) - y) (by omega) (by omega), bm64 (z := (x : Int) - y - s) (by omega) (by omega), bm64 (by omega) (by omega)]
end WHO
theorem wG_s {g p : Nat → Int32} {i : Nat} {x y : Int32} (hx : x = g i) (h : y = p i) : wG g p i + x.toInt64 * y.toInt64 = wG g p (i + 1) := by rw [h, hx]; rfl
theorem dv_cg {a b : Int64} {c d : Int32} (h : a = b) (h2 : c = d) : (10 * a / c.toInt64).toInt32 = (10 * b / d.toInt64).toInt32 := by rw [h, h2]
theorem wG_c {g p : Nat → Int32} {i : Nat} {x : Int32} (y : Int32) {z : Int64} (hz : z = y.toInt64) (hx : x = g i) (h : y = p i) : wG g p i + x.toInt64 * z = wG g p (i + 1) := by rw [hz, h, hx]; rfl
