/-! THE CLAIM OUT OF ONE WALK OF THE LAW'S BODY. Your part is whole_start (and what it stands on); all else here is the same for every law, but numbers. -/
def R_law : String := "HoneyHouseLaw"
def lw_P (b : Addr) (xs : List Int32) (args : Array Value) (s : State) : Prop := args = #[.ref b] ∧ s.IntsAt b xs ∧ xs.length ≤ 3072 ∧ (Jvm.Cond.and given_1 narrow_1).before args s = true
def lw_Q (_ : Array Value) (s : State) (o : Outcome) (t : State) : Prop := o = .returned (some (.int 1)) ∧ Framed s o t [] 600000 7302250
def lw_Z (below : List Frame) (a : Array Value) (s : State) : State → Prop := fun t => ∃ o, t.status = .running ∧ Ended t below o ∧ lw_Q a s o t
/-- the law's own end, with 1 on the stack, nothing written that was there before, its room as the claim has it -/
theorem lw_ret {p : Program} {l : Launch} {e : Env} {s : State} {m : MethodId} {below : List Frame} {meth : Method} {c : Code} {b : Nat} (hx : p.tables.exec = Jvm.exec) (hb : c.code = code) (hr : meth.sig.returnType = ret) (hlocks : meth.locks = false) {pc : Nat} {H : Heap} {ls : Array Slot} (hdg : decode code pc = .ok (.ireturn, 1)) : W p l e room_1 s m #[Value.ref b] below meth c H [] 600000 7302250 (lw_Z below #[Value.ref b] s) (F0 m pc ls [.int 1]) := by
  intro T hT X
  obtain ⟨fs, hret, hrun, hended, hW, hframe⟩ := X.leave (v := some (.int 1)) (hlocks := hlocks) (fun h => by rw [hr] at h; cases h)
  have hmeth' : T.vm.method? m = some meth := X.method'
  refine ⟨T.setFrames fs, ?_, .returned (some (.int 1)), hrun, hended, rfl, ⟨_, rfl⟩, hW, hframe⟩
  jvm_step X.here [X.here.top, hx, hb, hdg, hmeth', hr, ret, narrow_b1]
  (try refine ⟨rfl, ?_⟩); (try refine ⟨rfl, ?_⟩)
  first | (intro acts; rw [hret _ acts rfl rfl rfl]) | rw [hret _ _ rfl rfl rfl]
  exact Steps.refl _
/-- what holds at the law's entry: the machine, the code, the tables' words (any of lw_tbl by 'hts w (by decide +kernel)'), the script of L ints xs at the cell b, what the Statement gives of the start (any of its parts by flat_of_before) -/
def lw_At (p : Program) (s : State) (m : MethodId) (meth : Method) (c : Code) (b L : Nat) (xs : Nat → Int32) : Prop :=
  p.tables.exec = Jvm.exec ∧ c.code = code ∧ meth.sig.returnType = ret ∧ c.maxLocals = 4 ∧ s.vm.findClass R_law = some m.cls ∧ (∀ w ∈ lw_tbl, w.before #[Value.ref b] s = true) ∧ va_X b L xs s s.heap ∧ b < s.heap.size ∧ meth.locks = false ∧ (Jvm.Cond.and given_1 narrow_1).before #[Value.ref b] s = true
/-! THE LAW'S LOOP: what holds at its head -/
theorem vK_l {D : va_G} {cl : List vw_C} {t1 t2 : List (ClassId × FieldType)} {U : State} (h : va_K D cl (t1 ++ t2) U) : va_K D cl t1 U := ⟨h.1, fun k q hk => h.2 k q (by rw [List.getElem?_append_left (List.getElem?_eq_some_iff.mp hk).1]; exact hk)⟩
theorem vK_r {D : va_G} {cl : List vw_C} {t1 t2 : List (ClassId × FieldType)} {U : State} (h : va_K D cl (t1 ++ t2) U) : va_K D cl t2 U := ⟨h.1, fun k q hk => h.2 (t1.length + k) q (by rw [List.getElem?_append_right (by omega), show t1.length + k - t1.length = k by omega]; exact hk)⟩
section LWJ
variable {A : Nat → Prop} {D : va_G} {cl : List vw_C} {a b a' b' : va_W} {H H1 : Heap}
theorem ap_l {k : Nat} {q : Nat × va_E} (h : a[k]? = some q) : (a ++ b)[k]? = some q := by rw [List.getElem?_append_left (List.getElem?_eq_some_iff.mp h).1]; exact h
theorem ap_r {k : Nat} {q : Nat × va_E} (h : b[k]? = some q) : (a ++ b)[a.length + k]? = some q := by rw [List.getElem?_append_right (by omega), show a.length + k - a.length = k by omega]; exact h
theorem vP_l (h : va_P D cl (a ++ b) H) : va_P D cl a H := fun k q hk => h k q (ap_l hk)
theorem vP_r (h : va_P D cl (a ++ b) H) : va_P D cl b H := fun k q hk => h (a.length + k) q (ap_r hk)
theorem vD_l (h : va_D A (a ++ b)) : va_D A a := ⟨fun i j p q hi hj e => h.1 i j p q (ap_l hi) (ap_l hj) e, fun k q hk => h.2 k q (ap_l hk)⟩
theorem vD_r (h : va_D A (a ++ b)) : va_D A b := ⟨fun i j p q hi hj e => by have := h.1 (a.length + i) (a.length + j) p q (ap_r hi) (ap_r hj) e; omega, fun k q hk => h.2 (a.length + k) q (ap_r hk)⟩
theorem vD_x (h : va_D A (a ++ b)) {i j : Nat} {p q : Nat × va_E} (hi : a[i]? = some p) (hj : b[j]? = some q) : p.1 ≠ q.1 := fun e => by
  have h1 := h.1 i (a.length + j) p q (ap_l hi) (ap_r hj) e
  have h2 := (List.getElem?_eq_some_iff.mp hi).1
  omega
/-- behind a call over the first world -/
theorem lj_l (hP : va_P D cl (a ++ b) H) (hD : va_D A (a ++ b)) (hk : ∀ q : Nat, q < H.size → ¬ va_A a H.size q → H1[q]? = H[q]?) (hF : ∀ q, va_A a H.size q → A q) (hP1 : va_P D cl a' H1) (hD1 : va_D (va_A a H.size) a') : va_P D cl (a' ++ b) H1 ∧ va_D A (a' ++ b) := by
  have apart : ∀ (k : Nat) (q : Nat × va_E), b[k]? = some q → q.1 < H.size ∧ ¬ va_A a H.size q.1 := fun k q hq => by
    have hl := ((vP_r hP) k q hq).lt
    refine ⟨hl, fun h => ?_⟩
    rcases h with ⟨j, e, h⟩ | h
    · exact vD_x hD h hq rfl
    · omega
  refine ⟨va_P.app hP1 (fun k q hq => ((vP_r hP) k q hq).kept (hk q.1 (apart k q hq).1 (apart k q hq).2)), va_D.app (hD1.weaken (fun k q _ h => hF q.1 h)) (vD_r hD) (fun i j x y hx hy hxy => (apart j y hy).2 (by rw [← hxy]; exact hD1.2 i x hx))⟩
/-- behind a call over the second world -/
theorem lj_r (hP : va_P D cl (a ++ b) H) (hD : va_D A (a ++ b)) (hk : ∀ q : Nat, q < H.size → ¬ va_A b H.size q → H1[q]? = H[q]?) (hF : ∀ q, va_A b H.size q → A q) (hP1 : va_P D cl b' H1) (hD1 : va_D (va_A b H.size) b') : va_P D cl (a ++ b') H1 ∧ va_D A (a ++ b') := by
  have apart : ∀ (k : Nat) (q : Nat × va_E), a[k]? = some q → q.1 < H.size ∧ ¬ va_A b H.size q.1 := fun k q hq => by
    have hl := ((vP_l hP) k q hq).lt
    refine ⟨hl, fun h => ?_⟩
    rcases h with ⟨j, e, h⟩ | h
    · exact vD_x hD hq h rfl
    · omega
  refine ⟨va_P.app (fun k q hq => ((vP_l hP) k q hq).kept (hk q.1 (apart k q hq).1 (apart k q hq).2)) hP1, va_D.app (vD_l hD) (hD1.weaken (fun k q _ h => hF q.1 h)) (fun i j x y hx hy hxy => (apart i x hx).2 (by rw [hxy]; exact hD1.2 j y hy))⟩
end LWJ
theorem xi_b {ρ : Nat → Nat} {fv : Nat → Nat → Int32} {ws : va_W} {tys : List (ClassId × FieldType)} {h0 lc bc rc fc tl : Nat} {d : Int32} (h : XI ρ fv ws tys h0 lc bc rc fc d tl) : lc ≤ 40 ∧ bc ≤ 60 ∧ rc ≤ 16 ∧ fc ≤ 60 ∧ tl ≤ 400 := by
  obtain ⟨k0, la, ta, ba, ra, sn, rd, dr, bl, vd, fb, e, -, -, hn, -⟩ := h
  exact hn
/-- the reference's numbers and rules -/
def MI (iv : Nat → Int32) (fv : Nat → Nat → Int32) (n1 n3 n13 n14 n43 : Nat) : Prop := iv 1 = nI n1 ∧ n1 ≤ 400 ∧ iv 3 = nI n3 ∧ n3 ≤ 40 ∧ iv 13 = nI n13 ∧ n13 ≤ 60 ∧ iv 14 = nI n14 ∧ n14 ≤ 16 ∧ iv 43 = nI n43 ∧ n43 ≤ 60 ∧ (∀ i : Nat, i < n14 → ∃ k : Nat, k ≤ 12 ∧ fv 16 i = nI k) ∧ (∀ i : Nat, i < n14 → ∃ k n : Nat, k ≤ 200 ∧ fv 20 i = nI k ∧ wfs (fv 19) (200 * i) k n)
/-- both sides at the head of the loop: the tapes are as long, the lots as many, the day the same -/
def LI (D : va_G) (s : State) (ws : va_W) (tys : List (ClassId × FieldType)) (ho : Nat) (cs : Nat → ClassId) (iv : Nat → Int32) (fv : Nat → Nat → Int32) : Prop := ∃ (ρ : Nat → Nat) (lc bc rc fc tl n14 : Nat), va_K D vwCl tys s ∧ va_K D vwCl (mT cs) s ∧ XI ρ fv ws tys ho lc bc rc fc (iv 2) tl ∧ MI iv fv tl lc bc n14 fc ∧ NV fv lc
theorem xi_at {ρ : Nat → Nat} {fv : Nat → Nat → Int32} {ws : va_W} {tys : List (ClassId × FieldType)} {h0 lc bc rc fc tl : Nat} {d : Int32} (h : XI ρ fv ws tys h0 lc bc rc fc d tl) : ∃ k0 : Nat, ∃ fs : List Value, ws[k0]? = some (h0, .inr (8, fs)) := by
  obtain ⟨k0, la, ta, ba, ra, sn, rd, dr, bl, vd, fb, e, -⟩ := h
  exact ⟨k0, _, e⟩
