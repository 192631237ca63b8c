theorem dX9_reads_0 : decode cX9_reads 0 = .ok (.aload_n 0, 1) := by decide +kernel
theorem dX9_reads_1 : decode cX9_reads 1 = .ok (.iconst 0, 1) := by decide +kernel
theorem dX9_reads_2 : decode cX9_reads 2 = .ok (.putfield 87, 3) := by decide +kernel
theorem dX9_reads_5 : decode cX9_reads 5 = .ok (.aload_n 0, 1) := by decide +kernel
theorem dX9_reads_6 : decode cX9_reads 6 = .ok (.invokevirtual 268, 3) := by decide +kernel
theorem dX9_reads_9 : decode cX9_reads 9 = .ok (.aload_n 0, 1) := by decide +kernel
theorem dX9_reads_10 : decode cX9_reads 10 = .ok (.getfield 74, 3) := by decide +kernel
theorem dX9_reads_13 : decode cX9_reads 13 = .ok (.ifCond .ne 9, 3) := by decide +kernel
theorem dX9_reads_16 : decode cX9_reads 16 = .ok (.aload_n 0, 1) := by decide +kernel
theorem dX9_reads_17 : decode cX9_reads 17 = .ok (.bipush 58, 2) := by decide +kernel
theorem dX9_reads_19 : decode cX9_reads 19 = .ok (.invokevirtual 271, 3) := by decide +kernel
theorem dX9_reads_22 : decode cX9_reads 22 = .ok (.aload_n 0, 1) := by decide +kernel
theorem dX9_reads_23 : decode cX9_reads 23 = .ok (.getfield 74, 3) := by decide +kernel
theorem dX9_reads_26 : decode cX9_reads 26 = .ok (.ifCond .ne 7, 3) := by decide +kernel
theorem dX9_reads_29 : decode cX9_reads 29 = .ok (.aload_n 0, 1) := by decide +kernel
theorem dX9_reads_30 : decode cX9_reads 30 = .ok (.invokevirtual 274, 3) := by decide +kernel
theorem dX9_reads_33 : decode cX9_reads 33 = .ok (.aload_n 0, 1) := by decide +kernel
theorem dX9_reads_34 : decode cX9_reads 34 = .ok (.getfield 74, 3) := by decide +kernel
theorem dX9_reads_37 : decode cX9_reads 37 = .ok (.ifCond .le 4, 3) := by decide +kernel
theorem dX9_reads_40 : decode cX9_reads 40 = .ok (.return_, 1) := by decide +kernel
theorem dX9_reads_41 : decode cX9_reads 41 = .ok (.aload_n 0, 1) := by decide +kernel
theorem dX9_reads_42 : decode cX9_reads 42 = .ok (.invokevirtual 238, 3) := by decide +kernel
theorem dX9_reads_45 : decode cX9_reads 45 = .ok (.ifCond .eq 13, 3) := by decide +kernel
theorem dX9_reads_48 : decode cX9_reads 48 = .ok (.aload_n 0, 1) := by decide +kernel
theorem dX9_reads_49 : decode cX9_reads 49 = .ok (.iconst 1, 1) := by decide +kernel
theorem dX9_reads_50 : decode cX9_reads 50 = .ok (.aload_n 0, 1) := by decide +kernel
theorem dX9_reads_51 : decode cX9_reads 51 = .ok (.getfield 87, 3) := by decide +kernel
theorem dX9_reads_54 : decode cX9_reads 54 = .ok (.invokevirtual 195, 3) := by decide +kernel
theorem dX9_reads_57 : decode cX9_reads 57 = .ok (.return_, 1) := by decide +kernel
theorem dX9_reads_58 : decode cX9_reads 58 = .ok (.aload_n 0, 1) := by decide +kernel
theorem dX9_reads_59 : decode cX9_reads 59 = .ok (.aload_n 0, 1) := by decide +kernel
theorem dX9_reads_60 : decode cX9_reads 60 = .ok (.invokevirtual 229, 3) := by decide +kernel
theorem dX9_reads_63 : decode cX9_reads 63 = .ok (.putfield 87, 3) := by decide +kernel
theorem dX9_reads_66 : decode cX9_reads 66 = .ok (.aload_n 0, 1) := by decide +kernel
theorem dX9_reads_67 : decode cX9_reads 67 = .ok (.getfield 62, 3) := by decide +kernel
theorem dX9_reads_70 : decode cX9_reads 70 = .ok (.aload_n 0, 1) := by decide +kernel
theorem dX9_reads_71 : decode cX9_reads 71 = .ok (.getfield 53, 3) := by decide +kernel
theorem dX9_reads_74 : decode cX9_reads 74 = .ok (.aload_n 0, 1) := by decide +kernel
theorem dX9_reads_75 : decode cX9_reads 75 = .ok (.sipush 30000, 3) := by decide +kernel
theorem dX9_reads_78 : decode cX9_reads 78 = .ok (.invokevirtual 241, 3) := by decide +kernel
theorem dX9_reads_81 : decode cX9_reads 81 = .ok (.iastore, 1) := by decide +kernel
theorem dX9_reads_82 : decode cX9_reads 82 = .ok (.aload_n 0, 1) := by decide +kernel
theorem dX9_reads_83 : decode cX9_reads 83 = .ok (.getfield 74, 3) := by decide +kernel
theorem dX9_reads_86 : decode cX9_reads 86 = .ok (.ifCond .ne 9, 3) := by decide +kernel
theorem dX9_reads_89 : decode cX9_reads 89 = .ok (.aload_n 0, 1) := by decide +kernel
theorem dX9_reads_90 : decode cX9_reads 90 = .ok (.bipush 59, 2) := by decide +kernel
theorem dX9_reads_92 : decode cX9_reads 92 = .ok (.invokevirtual 271, 3) := by decide +kernel
theorem dX9_reads_95 : decode cX9_reads 95 = .ok (.aload_n 0, 1) := by decide +kernel
theorem dX9_reads_96 : decode cX9_reads 96 = .ok (.getfield 74, 3) := by decide +kernel
theorem dX9_reads_99 : decode cX9_reads 99 = .ok (.ifCond .ne 20, 3) := by decide +kernel
theorem dX9_reads_102 : decode cX9_reads 102 = .ok (.aload_n 0, 1) := by decide +kernel
theorem dX9_reads_103 : decode cX9_reads 103 = .ok (.invokevirtual 191, 3) := by decide +kernel
theorem dX9_reads_106 : decode cX9_reads 106 = .ok (.iconst (-1), 1) := by decide +kernel
theorem dX9_reads_107 : decode cX9_reads 107 = .ok (.if_icmp .eq 12, 3) := by decide +kernel
theorem dX9_reads_110 : decode cX9_reads 110 = .ok (.aload_n 0, 1) := by decide +kernel
theorem dX9_reads_111 : decode cX9_reads 111 = .ok (.iconst 1, 1) := by decide +kernel
theorem dX9_reads_112 : decode cX9_reads 112 = .ok (.aload_n 0, 1) := by decide +kernel
theorem dX9_reads_113 : decode cX9_reads 113 = .ok (.getfield 87, 3) := by decide +kernel
theorem dX9_reads_116 : decode cX9_reads 116 = .ok (.invokevirtual 195, 3) := by decide +kernel
theorem dX9_reads_119 : decode cX9_reads 119 = .ok (.return_, 1) := by decide +kernel
set_option maxRecDepth 20000 in
theorem ggX9_reads_X9_name : GoodIn wsX9_reads wsX9_name := goodIn_r _ [9, 1, 2, 10, 4, 11, 12, 13, 14, 15, 8, 16, 17, 18, 19, 20, 21, 22, 23, 24, 25, 26, 27, 28, 29, 30, 31, 32, 33, 34, 35, 36, 37, 38, 39, 40, 41, 42, 43, 44, 45, 46, 47, 48, 49, 98, 99, 100, 101, 102, 103, 104, 105, 106, 107, 108, 109, 110, 111, 112, 113, 114, 115, 116, 117, 118, 119, 120, 121, 122, 123, 124, 125, 126, 127, 128, 129, 130, 131, 132, 133, 134, 135, 136, 137, 138, 139, 140, 141] rfl (by decide +kernel)
set_option maxRecDepth 20000 in
theorem gX9_reads_X9_name : GoodIn wsX9_reads (wsV RX9 268 RX9 yX9_name wsX9_name) := goodIn_app (goodIn_of _ (by decide +kernel)) ggX9_reads_X9_name
set_option maxRecDepth 20000 in
theorem ggX9_reads_X9_peek : GoodIn wsX9_reads wsX9_peek := goodIn_r _ [65, 13, 14, 15, 8, 16, 1, 17, 12, 18, 19, 20, 26, 27, 28, 29, 30, 31, 32, 33, 34, 35, 36, 37, 38, 39, 40, 41, 42, 43, 44, 45, 46, 47, 48, 49, 98, 99, 100, 101, 102, 103, 104, 105, 106, 107, 108, 109, 110, 111, 112, 113, 114, 115, 116, 117, 118, 119, 120, 121, 122, 123, 124, 125, 126, 127, 128, 129, 130, 131, 132, 133, 134, 135, 136, 137, 138, 139, 140, 141] rfl (by decide +kernel)
set_option maxRecDepth 20000 in
theorem gX9_reads_X9_peek : GoodIn wsX9_reads (wsV RX9 238 RX9 yX9_peek wsX9_peek) := goodIn_app (goodIn_of _ (by decide +kernel)) ggX9_reads_X9_peek
set_option maxRecDepth 20000 in
theorem ggX9_reads_X9_blame : GoodIn wsX9_reads wsX9_blame := goodIn_r _ [24, 2, 25, 98, 99, 100, 101, 102, 103, 104, 105, 106, 107, 108, 109, 110, 111, 112, 113, 114, 115, 116, 117, 118, 119, 120, 121, 122, 123, 124, 125, 126, 127, 128, 129, 130, 131, 132, 133, 134, 135, 136, 137, 138, 139, 140, 141] rfl (by decide +kernel)
set_option maxRecDepth 20000 in
theorem gX9_reads_X9_blame : GoodIn wsX9_reads (wsV RX9 195 RX9 yX9_blame wsX9_blame) := goodIn_app (goodIn_of _ (by decide +kernel)) ggX9_reads_X9_blame
set_option maxRecDepth 20000 in
theorem ggX9_reads_X9_wordEnd : GoodIn wsX9_reads wsX9_wordEnd := goodIn_r _ [29, 1, 17, 12, 18, 19, 8, 20, 98, 99, 100, 101, 102, 103, 104, 105, 106, 107, 108, 109, 110, 111, 112, 113, 114, 115, 116, 117, 118, 119, 120, 121, 122, 123, 124, 125, 126, 127, 128, 129, 130, 131, 132, 133, 134, 135, 136, 137, 138, 139, 140, 141] rfl (by decide +kernel)
set_option maxRecDepth 20000 in
theorem gX9_reads_X9_wordEnd : GoodIn wsX9_reads (wsV RX9 229 RX9 yX9_wordEnd wsX9_wordEnd) := goodIn_app (goodIn_of _ (by decide +kernel)) ggX9_reads_X9_wordEnd
set_option maxRecDepth 20000 in
theorem ggX9_reads_X9_number : GoodIn wsX9_reads wsX9_number := goodIn_r _ [77, 1, 17, 12, 2, 13, 14, 15, 8, 16, 78, 79, 80, 21, 22, 23, 24, 25, 98, 99, 100, 101, 102, 103, 104, 105, 106, 107, 108, 109, 110, 111, 112, 113, 114, 115, 116, 117, 118, 119, 120, 121, 122, 123, 124, 125, 126, 127, 128, 129, 130, 131, 132, 133, 134, 135, 136, 137, 138, 139, 140, 141] rfl (by decide +kernel)
set_option maxRecDepth 20000 in
theorem gX9_reads_X9_number : GoodIn wsX9_reads (wsV RX9 241 RX9 yX9_number wsX9_number) := goodIn_app (goodIn_of _ (by decide +kernel)) ggX9_reads_X9_number
set_option maxRecDepth 20000 in
theorem ggX9_reads_X9_must : GoodIn wsX9_reads wsX9_must := goodIn_r _ [53, 1, 13, 14, 15, 8, 16, 17, 12, 21, 22, 23, 24, 2, 25, 98, 99, 100, 101, 102, 103, 104, 105, 106, 107, 108, 109, 110, 111, 112, 113, 114, 115, 116, 117, 118, 119, 120, 121, 122, 123, 124, 125, 126, 127, 128, 129, 130, 131, 132, 133, 134, 135, 136, 137, 138, 139, 140, 141] rfl (by decide +kernel)
set_option maxRecDepth 20000 in
theorem gX9_reads_X9_must : GoodIn wsX9_reads (wsV RX9 271 RX9 yX9_must wsX9_must) := goodIn_app (goodIn_of _ (by decide +kernel)) ggX9_reads_X9_must
set_option maxRecDepth 20000 in
theorem ggX9_reads_X9_here : GoodIn wsX9_reads wsX9_here := goodIn_r _ [16, 1, 17, 12, 98, 99, 100, 101, 102, 103, 104, 105, 106, 107, 108, 109, 110, 111, 112, 113, 114, 115, 116, 117, 118, 119, 120, 121, 122, 123, 124, 125, 126, 127, 128, 129, 130, 131, 132, 133, 134, 135, 136, 137, 138, 139, 140, 141] rfl (by decide +kernel)
set_option maxRecDepth 20000 in
theorem gX9_reads_X9_here : GoodIn wsX9_reads (wsV RX9 191 RX9 yX9_here wsX9_here) := goodIn_app (goodIn_of _ (by decide +kernel)) ggX9_reads_X9_here
set_option maxRecDepth 20000 in
theorem ggX9_reads_X9_either : GoodIn wsX9_reads wsX9_either := goodIn_r _ [57, 58, 59, 60, 2, 61, 1, 13, 14, 15, 8, 16, 17, 12, 62, 63, 64, 65, 18, 19, 20, 26, 27, 28, 29, 30, 31, 32, 33, 34, 35, 36, 37, 38, 39, 40, 41, 42, 43, 44, 45, 46, 47, 48, 49, 66, 67, 68, 69, 21, 22, 23, 24, 25, 70, 71, 72, 73, 74, 75, 76, 77, 78, 79, 80, 81, 82, 83, 84, 85, 4, 86, 87, 88, 89, 90, 91, 92, 93, 94, 95, 96, 97, 98, 99, 100, 101, 102, 103, 104, 105, 106, 107, 108, 109, 110, 111, 112, 113, 114, 115, 116, 117, 118, 119, 120, 121, 122, 123, 124, 125, 126, 127, 128, 129, 130, 131, 132, 133, 134, 135, 136, 137, 138, 139, 140, 141] rfl (by decide +kernel)
set_option maxRecDepth 20000 in
theorem gX9_reads_X9_either : GoodIn wsX9_reads (wsV RX9 274 RX9 yX9_either wsX9_either) := goodIn_app (goodIn_of _ (by decide +kernel)) ggX9_reads_X9_either
/-- what reading the text leaves behind: q is the day -/
def RDS (f : Nat → Int32) (n k : Nat) (p q : Int32) : Prop := ∃ (P fr : Nat) (T : List Tk), rdR f n k P fr T ∧ (¬ k = 0 → p = nI P) ∧ (k = 0 → q = nI fr)
def MUS (f : Nat → Int32) (n b k : Nat) (p p0 : Int32) (a : Nat) (x : Int32) : Prop := ((b < n ∧ f b = x) ∧ k = 0 ∧ p = p0 ∧ a = b + 1) ∨ (¬ (b < n ∧ f b = x) ∧ k = 1 ∧ p = nI b)
section RDL
variable {f : Nat → Int32} {n k k0 k1 k2 a a0 a1 a2 : Nat} {p q p0 p1 p2 x1 : Int32}
theorem rd_1 (h : NMF f n (skB f n 0) k p a) (hk : ¬ k = 0) : RDS f n k p q := by
  rcases h with ⟨h1, h2, h3⟩ | ⟨h1, h2, h3, h4⟩ | ⟨h1, h2, h3, h4⟩
  · exact ⟨_, 0, [], Or.inl ⟨h1, h2, rfl⟩, fun _ => h3, fun z => absurd z hk⟩
  · exact ⟨_, 0, [], Or.inr (Or.inl ⟨h1, h2, h3, rfl⟩), fun _ => h4, fun z => absurd z hk⟩
  · exact absurd h3 hk
theorem nm_ok (h : NMF f n (skB f n 0) k0 p0 a0) (h0 : k0 = 0) : wdE f n (skB f n 0) = 11 ∧ ¬ skB f n 0 + 12 < teF f n (skB f n 0) ∧ skB f n a0 = nxF f n (skB f n 0) := by
  rcases h with ⟨h1, h2, h3⟩ | ⟨h1, h2, h3, h4⟩ | ⟨h1, h2, h3, h4⟩
  · omega
  · omega
  · exact ⟨h1, h2, h4⟩
theorem rd_2 (h : NMF f n (skB f n 0) k0 p0 a0) (h0 : k0 = 0) (hm : MUS f n (skB f n a0) k p p1 a 58) (hk : ¬ k = 0) : RDS f n k p q := by
  obtain ⟨e1, e2, e3⟩ := nm_ok h h0
  rw [e3] at hm
  rcases hm with ⟨m1, m2, -⟩ | ⟨m1, m2, m3⟩
  · exact absurd m2 hk
  · exact ⟨_, 0, [], Or.inr (Or.inr ⟨e1, e2, Or.inl ⟨m1, m2, rfl⟩⟩), fun _ => m3, fun z => absurd z hk⟩
theorem mu_ok (hm : MUS f n (skB f n a0) k1 p1 x1 a1 58) (h1 : k1 = 0) : (skB f n a0 < n ∧ f (skB f n a0) = 58) ∧ skB f n a1 = nxF f n (skB f n a0) := by
  rcases hm with ⟨m1, m2, -, m3⟩ | ⟨m1, m2, m3⟩
  · exact ⟨m1, nx_4 (oth_t m1 (by unfold ltr; decide) (by unfold dgt; decide)) m3⟩
  · omega
theorem rd_3 (h : NMF f n (skB f n 0) k0 p0 a0) (h0 : k0 = 0) (hm : MUS f n (skB f n a0) k1 p1 x1 a1 58) (h1 : k1 = 0) (he : EIF f n (0, skB f n a1, [], []) k p a) (hk : ¬ k = 0) : RDS f n k p q := by
  obtain ⟨e1, e2, e3⟩ := nm_ok h h0
  obtain ⟨m1, m2⟩ := mu_ok hm h1
  rw [m2] at he
  rw [e3] at m1 he
  rcases he with ⟨he, -⟩ | ⟨-, P, hP, he⟩
  · exact absurd he hk
  · exact ⟨P, 0, [], Or.inr (Or.inr ⟨e1, e2, Or.inr ⟨m1, _, he, Or.inl ⟨k, by omega, rfl, rfl, rfl⟩⟩⟩), fun _ => hP, fun z => absurd z hk⟩
theorem rd_4 {P fr : Nat} (h : NMF f n (skB f n 0) k0 p0 a0) (h0 : k0 = 0) (hm : MUS f n (skB f n a0) k1 p1 x1 a1 58) (h1 : k1 = 0) (he : EIF f n (0, skB f n a1, [], []) k2 p2 a2) (h2 : k2 = 0) (ht : tailR f n (skB f n a2) k P fr) (hp : ¬ k = 0 → p = nI P) (hq : k = 0 → q = nI fr) : RDS f n k p q := by
  obtain ⟨e1, e2, e3⟩ := nm_ok h h0
  obtain ⟨m1, m2⟩ := mu_ok hm h1
  rw [m2] at he
  rw [e3] at m1 he
  rcases he with ⟨-, T, he⟩ | ⟨he, -⟩
  · exact ⟨P, fr, T, Or.inr (Or.inr ⟨e1, e2, Or.inr ⟨m1, _, he, Or.inr ⟨rfl, rfl, ht⟩⟩⟩), hp, hq⟩
  · exact absurd h2 he
theorem mu_59 (hm : MUS f n (skB f n a0) k1 p1 x1 a1 59) (h1 : k1 = 0) : (skB f n a0 < n ∧ f (skB f n a0) = 59) ∧ skB f n a1 = nxF f n (skB f n a0) := by
  rcases hm with ⟨m1, m2, -, m3⟩ | ⟨m1, m2, m3⟩
  · exact ⟨m1, nx_4 (oth_t m1 (by unfold ltr; decide) (by unfold dgt; decide)) m3⟩
  · omega
end RDL
theorem kd_ne {f : Nat → Int32} {n k : Nat} {r : Int32} (h : (r = (-1) ∧ k = n) ∨ (k < n ∧ r = f k)) (hr : ¬ r = (-1)) : ¬ kdF f n k = 0 := by
  rcases h with h | h
  · exact absurd h.1 hr
  · intro q
    rcases kdF_c (f := f) (n := n) (b := k) with z | z | z | z <;> omega
theorem kd_eq {f : Nat → Int32} {n k : Nat} {r : Int32} (h : (r = (-1) ∧ k = n) ∨ (k < n ∧ r = f k)) (hr : r = (-1)) (hng : ∀ i : Nat, i < n → ¬ f i = -1) : kdF f n k = 0 := by
  rcases h with h | h
  · exact kdF_0 (by omega)
  · exact absurd (h.2.symm.trans hr) (hng k h.1)
set_option maxHeartbeats 4000000 in
set_option maxRecDepth 100000 in
theorem m_reads (l : Launch) (D : va_G) (h0 : Nat) (ad : Nat → Nat) (cs : Nat → ClassId) (iv : Nat → Int32) (fv : Nat → Nat → Int32) (gv : Nat → Int64) (n14 n21 n26 : Nat)  (sz : Nat) (h14 : iv 14 = nI n14) (h21 : iv 21 = nI n21) (h26 : iv 26 = nI n26) (b15 : n14 ≤ 15) (z21 : n21 = 0) (b26 : n26 ≤ 400) (hng : ∀ i : Nat, i < n26 → ¬ fv 0 i = -1) : Met l yX9_reads wsX9_reads ({ frames := 5, cells := 0, slots := 0, locals := 115 }) (va_Pc [.ref h0] (fun U => U.heap.size = sz ∧ va_P D vwCl (mw h0 ad cs iv fv gv) U.heap ∧ va_K D vwCl (mT cs) U ∧ va_D (fun _ => True) (mw h0 ad cs iv fv gv))) (va_Qv (fun _ : Unit => True) (fun (_ : Unit) (t : State) => ∃ (k21 : Nat) (p22 : Int32) (p25 : Int32) (p29 : Int32) (p30 : Int32) (p31 : Int32) (f15 : Nat → Int32) (f16 : Nat → Int32) (f17 : Nat → Int32) (f19 : Nat → Int32) (f28 : Nat → Int32), (k21 ≤ 3) ∧ (∀ i : Nat, i < 200 * n14 → f19 i = fv 19 i) ∧ (∀ i : Nat, ¬ i = n14 → f16 i = fv 16 i) ∧ (1 ≤ k21 ∨ ((∃ k : Nat, k ≤ 12 ∧ f16 n14 = nI k) ∧ ∃ m n : Nat, p30 = nI m ∧ m ≤ 200 ∧ wfs f19 (200 * n14) m n)) ∧ (RDS (fv 0) n26 k21 p22 (f17 n14)) ∧ (∀ i : Nat, ¬ i = n14 → f17 i = fv 17 i) ∧ (k21 = 0 → p22 = iv 22) ∧ va_P D vwCl (mw h0 ad cs (upd (upd (upd (upd (upd (upd iv 21 (nI k21)) 22 p22) 25 p25) 29 p29) 30 p30) 31 p31) (uF (uF (uF (uF (uF fv 15 f15) 16 f16) 17 f17) 19 f19) 28 f28) gv) t.heap ∧ va_K D vwCl (mT cs) t ∧ va_D (va_A (mw h0 ad cs iv fv gv) sz) (mw h0 ad cs (upd (upd (upd (upd (upd (upd iv 21 (nI k21)) 22 p22) 25 p25) 29 p29) 30 p30) 31 p31) (uF (uF (uF (uF (uF fv 15 f15) 16 f16) 17 f17) 19 f19) 28 f28) gv)) (va_A (mw h0 ad cs iv fv gv) sz)) 0 0 (va_A (mw h0 ad cs iv fv gv) sz) := by
  refine Met.ofW (cc := cX9_reads) (maxL := 1) (ret := none) (by decide) rfl ?_
  intro p e s m args below meth c s₁ B hml hv
  obtain ⟨rfl, hsz, hP, hK, hD0⟩ := hv
  have hx := B.exec
  have hb := B.bytes
  have hr := B.returns
  have hts := atoms_spec (ws := wsX9_reads) B.pre
  have hown : s.vm.findClass RX9 = some m.cls := findClass_of_methodNamed B.named
  have hlocks := B.notSynchronized
  subst hsz
  have hD := hD0.self (sz := s.heap.size)
  generalize hAe : va_A (mw h0 ad cs iv fv gv) s.heap.size = A at hD ⊢
  have hA : ∀ q : Nat, s.heap.size ≤ q → A q := fun q h => by rw [← hAe]; exact Or.inr h
  have hS : va_S A s.heap s.heap [] := va_S.rf
  have hin9 : ∀ w ∈ u_ws RX9 TX9 44, w ∈ wsX9_reads := (fun _ h9 => List.mem_cons_of_mem _ ((List.mem_append_right _ h9)))
  have hl := lv_entry ([.ref h0]) (n := 1) (Nat.le_of_ble_eq_true rfl)
  rw [lg_entry_eq]
  generalize (lg_sl ([.ref h0]) ++ List.replicate (1 - (lg_sl ([.ref h0])).length) Slot.unset).toArray = ls at hl ⊢
  have hl : lv_has ls 1 [(0, .ref h0)] := hl
  refine lv_aload_n hx hb dX9_reads_0 rfl (lv_at hl 0 rfl) ?_
  refine lv_iconst (v := 0) hx hb dX9_reads_1 (by decide) ?_
  refine va_put (D := D) (ci := 9) (v := .int 0) (ty := .int) (C := RX9) (T := TX9) (N := 44) hx hb hts hin9 tyX9 tyX9_ok nmX9 hown hK hP hD hS 0 rfl rfl 25 (by decide) (hts (.fieldLink RX9 87 "HoneyHouseModel" "at" "I") (List.mem_of_getElem? (i := 1) rfl)) (fun _ h9 => h9) rfl (tyX9_ok 25 (by decide)) rfl rfl (Nat.le_of_ble_eq_true rfl) dX9_reads_2 (fun H locs hP hD hS => ?_)
  have hP : va_P D vwCl (mw h0 ad cs (upd iv 25 0) fv gv) H := hP
  have hD : va_D A (mw h0 ad cs (upd iv 25 0) fv gv) := hD
  refine lv_aload_n hx hb dX9_reads_5 rfl (lv_at hl 0 rfl) ?_
  have hFc := free_all hD hS hA
  refine va_callv (va_runV (As := []) (rest := []) ⟨hx, hb, hml, hown, hts⟩ (m_name l D h0 ad cs (upd iv 25 0) fv gv n14 n21 0 n26  H.size h14 h21 rfl h26 (by omega) (by omega) (by omega) (by omega)) (cwV 0 hts gX9_reads_X9_name rfl rfl rfl (by decide +kernel) ⟨Nat.le_of_ble_eq_true rfl, Nat.le_of_ble_eq_true rfl⟩) ⟨fun a U g mk q => by obtain ⟨q0, q1, qP, qK, qD⟩ := q; exact ⟨q0, q1, qP, va_K.moved (u := U) (U := U.calling g mk a) (Vm.Alike.refl U.vm) qK, qD⟩, va_recv hK hP (ci := 9) (q0 := 0) rfl rfl, fun U hU hW => ⟨rfl, by rw [hU], by rw [hU]; exact hP, va_K.moved hW.alike hK, hD.weaken (fun _ _ _ _ => trivial)⟩⟩ rfl rfl hl.1 rfl (lv_room (Nat.le_of_ble_eq_true rfl)) dX9_reads_6 ⟨Nat.le_of_ble_eq_true rfl, Nat.le_of_ble_eq_true rfl⟩) hS (fun q _ h => hFc q h) hFc (fun u t H1 locs ht hvm w_2 hB hz1 hk1 hS => ?_)
  obtain ⟨k21_3, p22_4, k25_5, f15_6, f16_7, q_8, q_9, q_10, q_11, q_12, q_13, q_14, hP1, hK1, hD1⟩ := hB
  replace q_11 : ∀ i : Nat, ¬ i = n14 → f16_7 i = (fv 16) i := q_11
  replace q_13 : NMF ((fv 0)) n26 (skB ((fv 0)) n26 0) k21_3 p22_4 k25_5 := q_13
  replace q_14 : k21_3 = 0 → p22_4 = (iv 22) := q_14
  rw [ht] at hP1
  have hK := va_K.moved hvm.symm hK1
  generalize H1 = H at hP1 hS ⊢
  have hP : va_P D vwCl (mw h0 ad cs (upd (upd (upd iv 21 (nI k21_3)) 22 p22_4) 25 (nI k25_5)) (uF (uF fv 15 f15_6) 16 f16_7) gv) H := hP1
  have hD : va_D A (mw h0 ad cs (upd (upd (upd iv 21 (nI k21_3)) 22 p22_4) 25 (nI k25_5)) (uF (uF fv 15 f15_6) 16 f16_7) gv) := hD1.weaken (fun _ _ _ h => hFc _ h)
  refine lv_aload_n hx hb dX9_reads_9 rfl (lv_at hl 0 rfl) ?_
  refine va_get (D := D) (ci := 9) (v := .int (nI k21_3)) (C := RX9) (T := TX9) (N := 44) hx hb hts hin9 hown hK hP 0 rfl rfl 21 (by decide) (hts (.fieldLink RX9 74 "HoneyHouseModel" "faultKind" "I") (List.mem_of_getElem? (i := 2) rfl)) (fun _ h9 => h9) rfl dX9_reads_10 ?_
  refine lv_if_ne (tgt := 22) hx hb dX9_reads_13 (by decide) (fun c_15 => ?_) (fun c_15 => ?_)
  · have d_16 := n_ne (a := k21_3) (b := 0) (by omega) (by omega) c_15
    refine lv_aload_n hx hb dX9_reads_22 rfl (lv_at hl 0 rfl) ?_
    refine va_get (D := D) (ci := 9) (v := .int (nI k21_3)) (C := RX9) (T := TX9) (N := 44) hx hb hts hin9 hown hK hP 0 rfl rfl 21 (by decide) (hts (.fieldLink RX9 74 "HoneyHouseModel" "faultKind" "I") (List.mem_of_getElem? (i := 2) rfl)) (fun _ h9 => h9) rfl dX9_reads_23 ?_
    refine lv_if_ne (tgt := 33) hx hb dX9_reads_26 (by decide) (fun c_17 => ?_) (fun c_17 => ?_)
    · have d_18 := n_ne (a := k21_3) (b := 0) (by omega) (by omega) c_17
      refine lv_aload_n hx hb dX9_reads_33 rfl (lv_at hl 0 rfl) ?_
      refine va_get (D := D) (ci := 9) (v := .int (nI k21_3)) (C := RX9) (T := TX9) (N := 44) hx hb hts hin9 hown hK hP 0 rfl rfl 21 (by decide) (hts (.fieldLink RX9 74 "HoneyHouseModel" "faultKind" "I") (List.mem_of_getElem? (i := 2) rfl)) (fun _ h9 => h9) rfl dX9_reads_34 ?_
      refine lv_if_le (tgt := 41) hx hb dX9_reads_37 (by decide) (fun c_19 => ?_) (fun c_19 => ?_)
      · have d_20 := n_le (a := k21_3) (b := 0) (by omega) (by omega) c_19
        refine lv_aload_n hx hb dX9_reads_41 rfl (lv_at hl 0 rfl) ?_
        have hFc := free_all hD hS hA
        refine va_calli (va_runV (As := []) (rest := []) ⟨hx, hb, hml, hown, hts⟩ (m_peek l D h0 ad cs (upd (upd (upd iv 21 (nI k21_3)) 22 p22_4) 25 (nI k25_5)) (uF (uF fv 15 f15_6) 16 f16_7) gv k25_5 n26  H.size rfl h26 (by omega) (by omega)) (cwV 0 hts gX9_reads_X9_peek rfl rfl rfl (by decide +kernel) ⟨Nat.le_of_ble_eq_true rfl, Nat.le_of_ble_eq_true rfl⟩) ⟨fun a U g mk q => by obtain ⟨q0, q1, qP, qK, qD⟩ := q; exact ⟨q0, q1, qP, va_K.moved (u := U) (U := U.calling g mk a) (Vm.Alike.refl U.vm) qK, qD⟩, va_recv hK hP (ci := 9) (q0 := 0) rfl rfl, fun U hU hW => ⟨rfl, by rw [hU], by rw [hU]; exact hP, va_K.moved hW.alike hK, hD.weaken (fun _ _ _ _ => trivial)⟩⟩ rfl rfl hl.1 rfl (lv_room (Nat.le_of_ble_eq_true rfl)) dX9_reads_42 ⟨Nat.le_of_ble_eq_true rfl, Nat.le_of_ble_eq_true rfl⟩) hS (fun q _ h => hFc q h) hFc (fun r_21 u t H1 locs ht hvm w_22 hB hz1 hk1 hS => ?_)
        subst w_22
        obtain ⟨k25_23, q_24, q_25, q_26, q_27, q_28, hP1, hK1, hD1⟩ := hB
        replace q_26 : (k25_5 = n26 ∨ ¬ blk ((fv 0) k25_5)) → k25_23 = k25_5 := q_26
        replace q_27 : PKD ((fv 0)) n26 k25_23 r_21 := q_27
        replace q_28 : isRn blk ((fv 0)) n26 k25_5 k25_23 := q_28
        rw [ht] at hP1
        have hK := va_K.moved hvm.symm hK1
        generalize H1 = H at hP1 hS ⊢
        have hP : va_P D vwCl (mw h0 ad cs (upd (upd (upd iv 21 (nI k21_3)) 22 p22_4) 25 (nI k25_23)) (uF (uF fv 15 f15_6) 16 f16_7) gv) H := hP1
        have hD : va_D A (mw h0 ad cs (upd (upd (upd iv 21 (nI k21_3)) 22 p22_4) 25 (nI k25_23)) (uF (uF fv 15 f15_6) 16 f16_7) gv) := hD1.weaken (fun _ _ _ h => hFc _ h)
        rcases q_27 with ⟨rfl, hw_33⟩ | ⟨c_29, e_30, rfl, he_31, hc_32, hw_33⟩
        · refine lv_if_eq (tgt := 58) hx hb dX9_reads_45 (by decide) (fun c_34 => absurd c_34 (by decide)) (fun c_34 => ?_)
          refine lv_aload_n hx hb dX9_reads_48 rfl (lv_at hl 0 rfl) ?_
          refine lv_iconst (v := 1) hx hb dX9_reads_49 (by decide) ?_
          refine lv_aload_n hx hb dX9_reads_50 rfl (lv_at hl 0 rfl) ?_
          refine va_get (D := D) (ci := 9) (v := .int (nI k25_23)) (C := RX9) (T := TX9) (N := 44) hx hb hts hin9 hown hK hP 0 rfl rfl 25 (by decide) (hts (.fieldLink RX9 87 "HoneyHouseModel" "at" "I") (List.mem_of_getElem? (i := 1) rfl)) (fun _ h9 => h9) rfl dX9_reads_51 ?_
          have hFc := free_all hD hS hA
          refine va_callv (va_runV (As := [.int 1, .int (nI k25_23)]) (rest := []) ⟨hx, hb, hml, hown, hts⟩ (m_blame l D h0 ad cs (upd (upd (upd iv 21 (nI k21_3)) 22 p22_4) 25 (nI k25_23)) (uF (uF fv 15 f15_6) 16 f16_7) gv k21_3 1 (nI k25_23) H.size rfl (by omega) (by omega)) (cwV 2 hts gX9_reads_X9_blame rfl rfl rfl (by decide +kernel) ⟨Nat.le_of_ble_eq_true rfl, Nat.le_of_ble_eq_true rfl⟩) ⟨fun a U g mk q => by obtain ⟨q0, q1, qP, qK, qD⟩ := q; exact ⟨q0, q1, qP, va_K.moved (u := U) (U := U.calling g mk a) (Vm.Alike.refl U.vm) qK, qD⟩, va_recv hK hP (ci := 9) (q0 := 0) rfl rfl, fun U hU hW => ⟨rfl, by rw [hU], by rw [hU]; exact hP, va_K.moved hW.alike hK, hD.weaken (fun _ _ _ _ => trivial)⟩⟩ rfl rfl hl.1 rfl (lv_room (Nat.le_of_ble_eq_true rfl)) dX9_reads_54 ⟨Nat.le_of_ble_eq_true rfl, Nat.le_of_ble_eq_true rfl⟩) hS (fun q _ h => hFc q h) hFc (fun u t H1 locs ht hvm w_36 hB hz1 hk1 hS => ?_)
          obtain ⟨k21_37, p22_38, q_39, q_40, q_41, hP1, hK1, hD1⟩ := hB
          replace q_41 : (k21_3 = 0 → k21_37 = 1 ∧ p22_38 = (nI k25_23)) ∧ (¬ k21_3 = 0 → k21_37 = k21_3 ∧ p22_38 = (p22_4)) := q_41
          rw [ht] at hP1
          have hK := va_K.moved hvm.symm hK1
          generalize H1 = H at hP1 hS ⊢
          have hP : va_P D vwCl (mw h0 ad cs (upd (upd (upd iv 21 (nI k21_37)) 22 p22_38) 25 (nI k25_23)) (uF (uF fv 15 f15_6) 16 f16_7) gv) H := hP1
          have hD : va_D A (mw h0 ad cs (upd (upd (upd iv 21 (nI k21_37)) 22 p22_38) 25 (nI k25_23)) (uF (uF fv 15 f15_6) 16 f16_7) gv) := hD1.weaken (fun _ _ _ h => hFc _ h)
          have hP : va_P D vwCl (mw h0 ad cs (upd (upd (upd (upd (upd (upd iv 21 (nI k21_37)) 22 p22_38) 25 (nI k25_23)) 29 (iv 29)) 30 (iv 30)) 31 (iv 31)) (uF (uF (uF (uF (uF fv 15 f15_6) 16 f16_7) 17 (fv 17)) 19 (fv 19)) 28 (fv 28)) gv) H := hP
          have hD : va_D A (mw h0 ad cs (upd (upd (upd (upd (upd (upd iv 21 (nI k21_37)) 22 p22_38) 25 (nI k25_23)) 29 (iv 29)) 30 (iv 30)) 31 (iv 31)) (uF (uF (uF (uF (uF fv 15 f15_6) 16 f16_7) 17 (fv 17)) 19 (fv 19)) 28 (fv 28)) gv) := hD
          exact W.vret hx hb hr (fun t ht hW => ⟨⟨(), rfl, trivial, k21_37, p22_38, nI k25_23, iv 29, iv 30, iv 31, f15_6, f16_7, fv 17, fv 19, fv 28, by omega, fun i h9 => rfl, q_11, Or.inl (by omega), (by exfalso; omega), fun _ _ => rfl, fun h9 => absurd h9 (by omega), by rw [ht]; exact hP, va_K.moved hW.alike hK, hD⟩, hS.F ht⟩) hS.2.2 dX9_reads_57
        have he_31b : k25_23 ≤ e_30 ∧ e_30 ≤ n26 := ⟨he_31.1, he_31.2.1⟩
        refine lv_if_eq (tgt := 58) hx hb dX9_reads_45 (by decide) (fun c_42 => ?_) (fun c_42 => ?_)
        · have d_43 := n_eq (a := c_29) (b := 0) (by omega) (by omega) c_42
          refine lv_aload_n hx hb dX9_reads_58 rfl (lv_at hl 0 rfl) ?_
          refine lv_aload_n hx hb dX9_reads_59 rfl (lv_at hl 0 rfl) ?_
          refine vp_callSi (W.runV (As := []) (rest := [.ref h0]) ⟨hx, hb, hml, hown, hts⟩ (m_wordEnd l D h0 ad cs (upd (upd (upd iv 21 (nI k21_3)) 22 p22_4) 25 (nI k25_23)) (uF (uF fv 15 f15_6) 16 f16_7) gv k25_23 n26  rfl h26 (by omega) (by omega)) (cwV 0 hts gX9_reads_X9_wordEnd rfl rfl rfl (by decide +kernel) ⟨Nat.le_of_ble_eq_true rfl, Nat.le_of_ble_eq_true rfl⟩) ⟨fun a U g mk q => ⟨q.1, q.2.1, va_K.moved (u := U) (U := U.calling g mk a) (Vm.Alike.refl U.vm) q.2.2⟩, va_recv hK hP (ci := 9) (q0 := 0) rfl rfl, fun U hU hW => ⟨rfl, by rw [hU]; exact hP, va_K.moved hW.alike hK⟩⟩ rfl rfl hl.1 rfl (lv_room (Nat.le_of_ble_eq_true rfl)) dX9_reads_60 ⟨Nat.le_of_ble_eq_true rfl, Nat.le_of_ble_eq_true rfl⟩) (fun r_44 k_45 => ?_)
          obtain ⟨e_46, rfl, he_47⟩ := k_45
          have hq_e_46 : e_46 = e_30 := he_47.uq he_31
          refine va_put (D := D) (ci := 9) (v := .int (nI e_46)) (ty := .int) (C := RX9) (T := TX9) (N := 44) hx hb hts hin9 tyX9 tyX9_ok nmX9 hown hK hP hD hS 0 rfl rfl 25 (by decide) (hts (.fieldLink RX9 87 "HoneyHouseModel" "at" "I") (List.mem_of_getElem? (i := 1) rfl)) (fun _ h9 => h9) rfl (tyX9_ok 25 (by decide)) rfl rfl (Nat.le_of_ble_eq_true rfl) dX9_reads_63 (fun H locs hP hD hS => ?_)
          have hP : va_P D vwCl (mw h0 ad cs (upd (upd (upd iv 21 (nI k21_3)) 22 p22_4) 25 (nI e_46)) (uF (uF fv 15 f15_6) 16 f16_7) gv) H := hP
          have hD : va_D A (mw h0 ad cs (upd (upd (upd iv 21 (nI k21_3)) 22 p22_4) 25 (nI e_46)) (uF (uF fv 15 f15_6) 16 f16_7) gv) := hD
          refine lv_aload_n hx hb dX9_reads_66 rfl (lv_at hl 0 rfl) ?_
          refine va_get (D := D) (ci := 9) (v := .ref (ad 17)) (C := RX9) (T := TX9) (N := 44) hx hb hts hin9 hown hK hP 0 rfl rfl 17 (by decide) (hts (.fieldLink RX9 62 "HoneyHouseModel" "from" "[I") (List.mem_of_getElem? (i := 3) rfl)) (fun _ h9 => h9) rfl dX9_reads_67 ?_
          refine lv_aload_n hx hb dX9_reads_70 rfl (lv_at hl 0 rfl) ?_
          refine va_get (D := D) (ci := 9) (v := .int (iv 14)) (C := RX9) (T := TX9) (N := 44) hx hb hts hin9 hown hK hP 0 rfl rfl 14 (by decide) (hts (.fieldLink RX9 53 "HoneyHouseModel" "rules" "I") (List.mem_of_getElem? (i := 4) rfl)) (fun _ h9 => h9) rfl dX9_reads_71 ?_
          refine tp_i (y := nI n14) (h14) ?_
          refine lv_aload_n hx hb dX9_reads_74 rfl (lv_at hl 0 rfl) ?_
          refine lv_sipush (v := 30000) hx hb dX9_reads_75 (by decide) ?_
          have hFc := free_all hD hS hA
          refine va_calli (va_runV (As := [.int 30000]) (rest := [.int (nI n14), .ref (ad 17)]) ⟨hx, hb, hml, hown, hts⟩ (m_number l D h0 ad cs (upd (upd (upd iv 21 (nI k21_3)) 22 p22_4) 25 (nI e_46)) (uF (uF fv 15 f15_6) 16 f16_7) gv k21_3 e_46 n26 30000 H.size rfl rfl h26 (by omega) (by omega) (by omega) (by omega)) (cwV 1 hts gX9_reads_X9_number rfl rfl rfl (by decide +kernel) ⟨Nat.le_of_ble_eq_true rfl, Nat.le_of_ble_eq_true rfl⟩) ⟨fun a U g mk q => by obtain ⟨q0, q1, qP, qK, qD⟩ := q; exact ⟨q0, q1, qP, va_K.moved (u := U) (U := U.calling g mk a) (Vm.Alike.refl U.vm) qK, qD⟩, va_recv hK hP (ci := 9) (q0 := 0) rfl rfl, fun U hU hW => ⟨rfl, by rw [hU], by rw [hU]; exact hP, va_K.moved hW.alike hK, hD.weaken (fun _ _ _ _ => trivial)⟩⟩ rfl rfl hl.1 rfl (lv_room (Nat.le_of_ble_eq_true rfl)) dX9_reads_78 ⟨Nat.le_of_ble_eq_true rfl, Nat.le_of_ble_eq_true rfl⟩) hS (fun q _ h => hFc q h) hFc (fun r_48 u t H1 locs ht hvm w_49 hB hz1 hk1 hS => ?_)
          subst w_49
          obtain ⟨k21_50, p22_51, k25_52, q_53, q_54, q_55, q_56, q_57, q_58, hP1, hK1, hD1⟩ := hB
          replace q_57 : NUX ((fv 0)) n26 30000 (skB ((fv 0)) n26 e_46) k21_50 p22_51 k25_52 r_48 := q_57
          replace q_58 : k21_50 = 0 → p22_51 = (p22_4) := q_58
          rw [ht] at hP1
          have hK := va_K.moved hvm.symm hK1
          generalize H1 = H at hP1 hS ⊢
          have hP : va_P D vwCl (mw h0 ad cs (upd (upd (upd iv 21 (nI k21_50)) 22 p22_51) 25 (nI k25_52)) (uF (uF fv 15 f15_6) 16 f16_7) gv) H := hP1
          have hD : va_D A (mw h0 ad cs (upd (upd (upd iv 21 (nI k21_50)) 22 p22_51) 25 (nI k25_52)) (uF (uF fv 15 f15_6) 16 f16_7) gv) := hD1.weaken (fun _ _ _ h => hFc _ h)
          rcases q_56 with hp_59 | ⟨rfl, hg_61⟩
          · obtain ⟨P_64, hP_65, hnr_66⟩ := q_57.no (by omega)
            refine va_iast (f := fv 17) (n := 16) hx hb hK hP hD hS 13 12 rfl rfl (vp_in_nI (n := n14) (by omega) (by omega)) dX9_reads_81 (fun H locs hP hD hS => ?_)
            have hP : va_P D vwCl (mw h0 ad cs (upd (upd (upd iv 21 (nI k21_50)) 22 p22_51) 25 (nI k25_52)) (uF (uF (uF fv 15 f15_6) 16 f16_7) 17 (upd (fv 17) (nI n14).toNatClampNeg r_48)) gv) H := hP
            have hD : va_D A (mw h0 ad cs (upd (upd (upd iv 21 (nI k21_50)) 22 p22_51) 25 (nI k25_52)) (uF (uF (uF fv 15 f15_6) 16 f16_7) 17 (upd (fv 17) (nI n14).toNatClampNeg r_48)) gv) := hD
            obtain ⟨f_67, hf_68⟩ : ∃ g9, g9 = upd (fv 17) (nI n14).toNatClampNeg r_48 := ⟨_, rfl⟩
            rw [← hf_68] at hP hD
            rw [nI_clamp (n := n14) (by omega)] at hf_68
            refine lv_aload_n hx hb dX9_reads_82 rfl (lv_at hl 0 rfl) ?_
            refine va_get (D := D) (ci := 9) (v := .int (nI k21_50)) (C := RX9) (T := TX9) (N := 44) hx hb hts hin9 hown hK hP 0 rfl rfl 21 (by decide) (hts (.fieldLink RX9 74 "HoneyHouseModel" "faultKind" "I") (List.mem_of_getElem? (i := 2) rfl)) (fun _ h9 => h9) rfl dX9_reads_83 ?_
            refine lv_if_ne (tgt := 95) hx hb dX9_reads_86 (by decide) (fun c_69 => ?_) (fun c_69 => absurd c_69 (nI_ne0 (n := k21_50) (by omega) (by omega)))
            refine lv_aload_n hx hb dX9_reads_95 rfl (lv_at hl 0 rfl) ?_
            refine va_get (D := D) (ci := 9) (v := .int (nI k21_50)) (C := RX9) (T := TX9) (N := 44) hx hb hts hin9 hown hK hP 0 rfl rfl 21 (by decide) (hts (.fieldLink RX9 74 "HoneyHouseModel" "faultKind" "I") (List.mem_of_getElem? (i := 2) rfl)) (fun _ h9 => h9) rfl dX9_reads_96 ?_
            refine lv_if_ne (tgt := 119) hx hb dX9_reads_99 (by decide) (fun c_70 => ?_) (fun c_70 => absurd c_70 (nI_ne0 (n := k21_50) (by omega) (by omega)))
            have hP : va_P D vwCl (mw h0 ad cs (upd (upd (upd (upd (upd (upd iv 21 (nI k21_50)) 22 p22_51) 25 (nI k25_52)) 29 (iv 29)) 30 (iv 30)) 31 (iv 31)) (uF (uF (uF (uF (uF fv 15 f15_6) 16 f16_7) 17 f_67) 19 (fv 19)) 28 (fv 28)) gv) H := hP
            have hD : va_D A (mw h0 ad cs (upd (upd (upd (upd (upd (upd iv 21 (nI k21_50)) 22 p22_51) 25 (nI k25_52)) 29 (iv 29)) 30 (iv 30)) 31 (iv 31)) (uF (uF (uF (uF (uF fv 15 f15_6) 16 f16_7) 17 f_67) 19 (fv 19)) 28 (fv 28)) gv) := hD
            exact W.vret hx hb hr (fun t ht hW => ⟨⟨(), rfl, trivial, k21_50, p22_51, nI k25_52, iv 29, iv 30, iv 31, f15_6, f16_7, f_67, fv 19, fv 28, by omega, fun i h9 => rfl, q_11, Or.inl (by omega), (by exfalso; omega), fun i h9 => by rw [hf_68]; exact up_ne h9, fun h9 => absurd h9 (by omega), by rw [ht]; exact hP, va_K.moved hW.alike hK, hD⟩, hS.F ht⟩) hS.2.2 dX9_reads_119
          obtain ⟨v_62, hv_63, rfl, hnr_66⟩ := q_57.ok
          have pe_71 : p22_51 = p22_4 := q_58 rfl
          refine va_iast (f := fv 17) (n := 16) hx hb hK hP hD hS 13 12 rfl rfl (vp_in_nI (n := n14) (by omega) (by omega)) dX9_reads_81 (fun H locs hP hD hS => ?_)
          have hP : va_P D vwCl (mw h0 ad cs (upd (upd (upd iv 21 (nI 0)) 22 p22_51) 25 (nI k25_52)) (uF (uF (uF fv 15 f15_6) 16 f16_7) 17 (upd (fv 17) (nI n14).toNatClampNeg (nI v_62))) gv) H := hP
          have hD : va_D A (mw h0 ad cs (upd (upd (upd iv 21 (nI 0)) 22 p22_51) 25 (nI k25_52)) (uF (uF (uF fv 15 f15_6) 16 f16_7) 17 (upd (fv 17) (nI n14).toNatClampNeg (nI v_62))) gv) := hD
          obtain ⟨f_72, hf_73⟩ : ∃ g9, g9 = upd (fv 17) (nI n14).toNatClampNeg (nI v_62) := ⟨_, rfl⟩
          rw [← hf_73] at hP hD
          rw [nI_clamp (n := n14) (by omega)] at hf_73
          refine lv_aload_n hx hb dX9_reads_82 rfl (lv_at hl 0 rfl) ?_
          refine va_get (D := D) (ci := 9) (v := .int (nI 0)) (C := RX9) (T := TX9) (N := 44) hx hb hts hin9 hown hK hP 0 rfl rfl 21 (by decide) (hts (.fieldLink RX9 74 "HoneyHouseModel" "faultKind" "I") (List.mem_of_getElem? (i := 2) rfl)) (fun _ h9 => h9) rfl dX9_reads_83 ?_
          refine lv_if_ne (tgt := 95) hx hb dX9_reads_86 (by decide) (fun c_74 => absurd (by decide) c_74) (fun c_74 => ?_)
          refine lv_aload_n hx hb dX9_reads_89 rfl (lv_at hl 0 rfl) ?_
          refine lv_bipush (v := 59) hx hb dX9_reads_90 (by decide) ?_
          have hFc := free_all hD hS hA
          refine va_callv (va_runV (As := [.int 59]) (rest := []) ⟨hx, hb, hml, hown, hts⟩ (m_must l D h0 ad cs (upd (upd (upd iv 21 (nI 0)) 22 p22_51) 25 (nI k25_52)) (uF (uF (uF fv 15 f15_6) 16 f16_7) 17 f_72) gv 0 k25_52 n26 59 H.size rfl rfl h26 (by omega) (by omega) (by omega) (by decide)) (cwV 1 hts gX9_reads_X9_must rfl rfl rfl (by decide +kernel) ⟨Nat.le_of_ble_eq_true rfl, Nat.le_of_ble_eq_true rfl⟩) ⟨fun a U g mk q => by obtain ⟨q0, q1, qP, qK, qD⟩ := q; exact ⟨q0, q1, qP, va_K.moved (u := U) (U := U.calling g mk a) (Vm.Alike.refl U.vm) qK, qD⟩, va_recv hK hP (ci := 9) (q0 := 0) rfl rfl, fun U hU hW => ⟨rfl, by rw [hU], by rw [hU]; exact hP, va_K.moved hW.alike hK, hD.weaken (fun _ _ _ _ => trivial)⟩⟩ rfl rfl hl.1 rfl (lv_room (Nat.le_of_ble_eq_true rfl)) dX9_reads_92 ⟨Nat.le_of_ble_eq_true rfl, Nat.le_of_ble_eq_true rfl⟩) hS (fun q _ h => hFc q h) hFc (fun u t H1 locs ht hvm w_76 hB hz1 hk1 hS => ?_)
          obtain ⟨k21_77, p22_78, k25_79, q_80, q_81, q_82, q_83, hP1, hK1, hD1⟩ := hB
          replace q_83 : (0 = 0 → ((skB ((fv 0)) n26 k25_52 < n26 ∧ (fv 0) (skB ((fv 0)) n26 k25_52) = 59) ∧ k21_77 = 0 ∧ p22_78 = (p22_51) ∧ k25_79 = skB ((fv 0)) n26 k25_52 + 1) ∨ (¬ (skB ((fv 0)) n26 k25_52 < n26 ∧ (fv 0) (skB ((fv 0)) n26 k25_52) = 59) ∧ k21_77 = 1 ∧ p22_78 = nI (skB ((fv 0)) n26 k25_52))) := q_83
          rw [ht] at hP1
          have hK := va_K.moved hvm.symm hK1
          generalize H1 = H at hP1 hS ⊢
          have hP : va_P D vwCl (mw h0 ad cs (upd (upd (upd iv 21 (nI k21_77)) 22 p22_78) 25 (nI k25_79)) (uF (uF (uF fv 15 f15_6) 16 f16_7) 17 f_72) gv) H := hP1
          have hD : va_D A (mw h0 ad cs (upd (upd (upd iv 21 (nI k21_77)) 22 p22_78) 25 (nI k25_79)) (uF (uF (uF fv 15 f15_6) 16 f16_7) 17 f_72) gv) := hD1.weaken (fun _ _ _ h => hFc _ h)
          refine lv_aload_n hx hb dX9_reads_95 rfl (lv_at hl 0 rfl) ?_
          refine va_get (D := D) (ci := 9) (v := .int (nI k21_77)) (C := RX9) (T := TX9) (N := 44) hx hb hts hin9 hown hK hP 0 rfl rfl 21 (by decide) (hts (.fieldLink RX9 74 "HoneyHouseModel" "faultKind" "I") (List.mem_of_getElem? (i := 2) rfl)) (fun _ h9 => h9) rfl dX9_reads_96 ?_
          refine lv_if_ne (tgt := 119) hx hb dX9_reads_99 (by decide) (fun c_84 => ?_) (fun c_84 => ?_)
          · have d_85 := n_ne (a := k21_77) (b := 0) (by omega) (by omega) c_84
            have hP : va_P D vwCl (mw h0 ad cs (upd (upd (upd (upd (upd (upd iv 21 (nI k21_77)) 22 p22_78) 25 (nI k25_79)) 29 (iv 29)) 30 (iv 30)) 31 (iv 31)) (uF (uF (uF (uF (uF fv 15 f15_6) 16 f16_7) 17 f_72) 19 (fv 19)) 28 (fv 28)) gv) H := hP
            have hD : va_D A (mw h0 ad cs (upd (upd (upd (upd (upd (upd iv 21 (nI k21_77)) 22 p22_78) 25 (nI k25_79)) 29 (iv 29)) 30 (iv 30)) 31 (iv 31)) (uF (uF (uF (uF (uF fv 15 f15_6) 16 f16_7) 17 f_72) 19 (fv 19)) 28 (fv 28)) gv) := hD
            exact W.vret hx hb hr (fun t ht hW => ⟨⟨(), rfl, trivial, k21_77, p22_78, nI k25_79, iv 29, iv 30, iv 31, f15_6, f16_7, f_72, fv 19, fv 28, by omega, fun i h9 => rfl, q_11, Or.inl (by omega), (by exfalso; omega), fun i h9 => by rw [hf_73]; exact up_ne h9, (by exfalso; omega), by rw [ht]; exact hP, va_K.moved hW.alike hK, hD⟩, hS.F ht⟩) hS.2.2 dX9_reads_119
          have d_86 := n_eq (a := k21_77) (b := 0) (by omega) (by omega) c_84
          refine lv_aload_n hx hb dX9_reads_102 rfl (lv_at hl 0 rfl) ?_
          have hFc := free_all hD hS hA
          refine va_calli (va_runV (As := []) (rest := []) ⟨hx, hb, hml, hown, hts⟩ (m_here l D h0 ad cs (upd (upd (upd iv 21 (nI k21_77)) 22 p22_78) 25 (nI k25_79)) (uF (uF (uF fv 15 f15_6) 16 f16_7) 17 f_72) gv k25_79 n26  H.size rfl h26 (by omega) (by omega)) (cwV 0 hts gX9_reads_X9_here rfl rfl rfl (by decide +kernel) ⟨Nat.le_of_ble_eq_true rfl, Nat.le_of_ble_eq_true rfl⟩) ⟨fun a U g mk q => by obtain ⟨q0, q1, qP, qK, qD⟩ := q; exact ⟨q0, q1, qP, va_K.moved (u := U) (U := U.calling g mk a) (Vm.Alike.refl U.vm) qK, qD⟩, va_recv hK hP (ci := 9) (q0 := 0) rfl rfl, fun U hU hW => ⟨rfl, by rw [hU], by rw [hU]; exact hP, va_K.moved hW.alike hK, hD.weaken (fun _ _ _ _ => trivial)⟩⟩ rfl rfl hl.1 rfl (lv_room (Nat.le_of_ble_eq_true rfl)) dX9_reads_103 ⟨Nat.le_of_ble_eq_true rfl, Nat.le_of_ble_eq_true rfl⟩) hS (fun q _ h => hFc q h) hFc (fun r_87 u t H1 locs ht hvm w_88 hB hz1 hk1 hS => ?_)
          subst w_88
          obtain ⟨k25_89, q_90, q_91, q_92, q_93, q_94, q_95, hP1, hK1, hD1⟩ := hB
          replace q_92 : k25_89 = n26 ∨ ¬ blk ((fv 0) k25_89) := q_92
          replace q_93 : (k25_79 = n26 ∨ ¬ blk ((fv 0) k25_79)) → k25_89 = k25_79 := q_93
          replace q_94 : (r_87 = (-1) ∧ k25_89 = n26) ∨ (k25_89 < n26 ∧ r_87 = (fv 0) k25_89) := q_94
          replace q_95 : isRn blk ((fv 0)) n26 k25_79 k25_89 := q_95
          rw [ht] at hP1
          have hK := va_K.moved hvm.symm hK1
          generalize H1 = H at hP1 hS ⊢
          have hP : va_P D vwCl (mw h0 ad cs (upd (upd (upd iv 21 (nI k21_77)) 22 p22_78) 25 (nI k25_89)) (uF (uF (uF fv 15 f15_6) 16 f16_7) 17 f_72) gv) H := hP1
          have hD : va_D A (mw h0 ad cs (upd (upd (upd iv 21 (nI k21_77)) 22 p22_78) 25 (nI k25_89)) (uF (uF (uF fv 15 f15_6) 16 f16_7) 17 f_72) gv) := hD1.weaken (fun _ _ _ h => hFc _ h)
          refine lv_iconst (v := (-1)) hx hb dX9_reads_106 (by decide) ?_
          refine lv_icmp_eq (tgt := 119) hx hb dX9_reads_107 (by decide) (fun c_96 => ?_) (fun c_96 => ?_)
          · have hP : va_P D vwCl (mw h0 ad cs (upd (upd (upd (upd (upd (upd iv 21 (nI k21_77)) 22 p22_78) 25 (nI k25_89)) 29 (iv 29)) 30 (iv 30)) 31 (iv 31)) (uF (uF (uF (uF (uF fv 15 f15_6) 16 f16_7) 17 f_72) 19 (fv 19)) 28 (fv 28)) gv) H := hP
            have hD : va_D A (mw h0 ad cs (upd (upd (upd (upd (upd (upd iv 21 (nI k21_77)) 22 p22_78) 25 (nI k25_89)) 29 (iv 29)) 30 (iv 30)) 31 (iv 31)) (uF (uF (uF (uF (uF fv 15 f15_6) 16 f16_7) 17 f_72) 19 (fv 19)) 28 (fv 28)) gv) := hD
            exact W.vret hx hb hr (fun t ht hW => ⟨⟨(), rfl, trivial, k21_77, p22_78, nI k25_89, iv 29, iv 30, iv 31, f15_6, f16_7, f_72, fv 19, fv 28, by omega, fun i h9 => rfl, q_11, Or.inl (by omega), (by exfalso; omega), fun i h9 => by rw [hf_73]; exact up_ne h9, (by exfalso; omega), by rw [ht]; exact hP, va_K.moved hW.alike hK, hD⟩, hS.F ht⟩) hS.2.2 dX9_reads_119
          refine lv_aload_n hx hb dX9_reads_110 rfl (lv_at hl 0 rfl) ?_
          refine lv_iconst (v := 1) hx hb dX9_reads_111 (by decide) ?_
          refine lv_aload_n hx hb dX9_reads_112 rfl (lv_at hl 0 rfl) ?_
          refine va_get (D := D) (ci := 9) (v := .int (nI k25_89)) (C := RX9) (T := TX9) (N := 44) hx hb hts hin9 hown hK hP 0 rfl rfl 25 (by decide) (hts (.fieldLink RX9 87 "HoneyHouseModel" "at" "I") (List.mem_of_getElem? (i := 1) rfl)) (fun _ h9 => h9) rfl dX9_reads_113 ?_
          have hFc := free_all hD hS hA
          refine va_callv (va_runV (As := [.int 1, .int (nI k25_89)]) (rest := []) ⟨hx, hb, hml, hown, hts⟩ (m_blame l D h0 ad cs (upd (upd (upd iv 21 (nI k21_77)) 22 p22_78) 25 (nI k25_89)) (uF (uF (uF fv 15 f15_6) 16 f16_7) 17 f_72) gv k21_77 1 (nI k25_89) H.size rfl (by omega) (by omega)) (cwV 2 hts gX9_reads_X9_blame rfl rfl rfl (by decide +kernel) ⟨Nat.le_of_ble_eq_true rfl, Nat.le_of_ble_eq_true rfl⟩) ⟨fun a U g mk q => by obtain ⟨q0, q1, qP, qK, qD⟩ := q; exact ⟨q0, q1, qP, va_K.moved (u := U) (U := U.calling g mk a) (Vm.Alike.refl U.vm) qK, qD⟩, va_recv hK hP (ci := 9) (q0 := 0) rfl rfl, fun U hU hW => ⟨rfl, by rw [hU], by rw [hU]; exact hP, va_K.moved hW.alike hK, hD.weaken (fun _ _ _ _ => trivial)⟩⟩ rfl rfl hl.1 rfl (lv_room (Nat.le_of_ble_eq_true rfl)) dX9_reads_116 ⟨Nat.le_of_ble_eq_true rfl, Nat.le_of_ble_eq_true rfl⟩) hS (fun q _ h => hFc q h) hFc (fun u t H1 locs ht hvm w_98 hB hz1 hk1 hS => ?_)
          obtain ⟨k21_99, p22_100, q_101, q_102, q_103, hP1, hK1, hD1⟩ := hB
          replace q_103 : (k21_77 = 0 → k21_99 = 1 ∧ p22_100 = (nI k25_89)) ∧ (¬ k21_77 = 0 → k21_99 = k21_77 ∧ p22_100 = (p22_78)) := q_103
          rw [ht] at hP1
          have hK := va_K.moved hvm.symm hK1
          generalize H1 = H at hP1 hS ⊢
          have hP : va_P D vwCl (mw h0 ad cs (upd (upd (upd iv 21 (nI k21_99)) 22 p22_100) 25 (nI k25_89)) (uF (uF (uF fv 15 f15_6) 16 f16_7) 17 f_72) gv) H := hP1
          have hD : va_D A (mw h0 ad cs (upd (upd (upd iv 21 (nI k21_99)) 22 p22_100) 25 (nI k25_89)) (uF (uF (uF fv 15 f15_6) 16 f16_7) 17 f_72) gv) := hD1.weaken (fun _ _ _ h => hFc _ h)
          have hP : va_P D vwCl (mw h0 ad cs (upd (upd (upd (upd (upd (upd iv 21 (nI k21_99)) 22 p22_100) 25 (nI k25_89)) 29 (iv 29)) 30 (iv 30)) 31 (iv 31)) (uF (uF (uF (uF (uF fv 15 f15_6) 16 f16_7) 17 f_72) 19 (fv 19)) 28 (fv 28)) gv) H := hP
          have hD : va_D A (mw h0 ad cs (upd (upd (upd (upd (upd (upd iv 21 (nI k21_99)) 22 p22_100) 25 (nI k25_89)) 29 (iv 29)) 30 (iv 30)) 31 (iv 31)) (uF (uF (uF (uF (uF fv 15 f15_6) 16 f16_7) 17 f_72) 19 (fv 19)) 28 (fv 28)) gv) := hD
          exact W.vret hx hb hr (fun t ht hW => ⟨⟨(), rfl, trivial, k21_99, p22_100, nI k25_89, iv 29, iv 30, iv 31, f15_6, f16_7, f_72, fv 19, fv 28, by omega, fun i h9 => rfl, q_11, Or.inl (by omega), (by exfalso; omega), fun i h9 => by rw [hf_73]; exact up_ne h9, fun h9 => absurd h9 (by omega), by rw [ht]; exact hP, va_K.moved hW.alike hK, hD⟩, hS.F ht⟩) hS.2.2 dX9_reads_119
        have d_104 := n_ne (a := c_29) (b := 0) (by omega) (by omega) c_42
        refine lv_aload_n hx hb dX9_reads_48 rfl (lv_at hl 0 rfl) ?_
        refine lv_iconst (v := 1) hx hb dX9_reads_49 (by decide) ?_
        refine lv_aload_n hx hb dX9_reads_50 rfl (lv_at hl 0 rfl) ?_
        refine va_get (D := D) (ci := 9) (v := .int (nI k25_23)) (C := RX9) (T := TX9) (N := 44) hx hb hts hin9 hown hK hP 0 rfl rfl 25 (by decide) (hts (.fieldLink RX9 87 "HoneyHouseModel" "at" "I") (List.mem_of_getElem? (i := 1) rfl)) (fun _ h9 => h9) rfl dX9_reads_51 ?_
        have hFc := free_all hD hS hA
        refine va_callv (va_runV (As := [.int 1, .int (nI k25_23)]) (rest := []) ⟨hx, hb, hml, hown, hts⟩ (m_blame l D h0 ad cs (upd (upd (upd iv 21 (nI k21_3)) 22 p22_4) 25 (nI k25_23)) (uF (uF fv 15 f15_6) 16 f16_7) gv k21_3 1 (nI k25_23) H.size rfl (by omega) (by omega)) (cwV 2 hts gX9_reads_X9_blame rfl rfl rfl (by decide +kernel) ⟨Nat.le_of_ble_eq_true rfl, Nat.le_of_ble_eq_true rfl⟩) ⟨fun a U g mk q => by obtain ⟨q0, q1, qP, qK, qD⟩ := q; exact ⟨q0, q1, qP, va_K.moved (u := U) (U := U.calling g mk a) (Vm.Alike.refl U.vm) qK, qD⟩, va_recv hK hP (ci := 9) (q0 := 0) rfl rfl, fun U hU hW => ⟨rfl, by rw [hU], by rw [hU]; exact hP, va_K.moved hW.alike hK, hD.weaken (fun _ _ _ _ => trivial)⟩⟩ rfl rfl hl.1 rfl (lv_room (Nat.le_of_ble_eq_true rfl)) dX9_reads_54 ⟨Nat.le_of_ble_eq_true rfl, Nat.le_of_ble_eq_true rfl⟩) hS (fun q _ h => hFc q h) hFc (fun u t H1 locs ht hvm w_106 hB hz1 hk1 hS => ?_)
        obtain ⟨k21_107, p22_108, q_109, q_110, q_111, hP1, hK1, hD1⟩ := hB
        replace q_111 : (k21_3 = 0 → k21_107 = 1 ∧ p22_108 = (nI k25_23)) ∧ (¬ k21_3 = 0 → k21_107 = k21_3 ∧ p22_108 = (p22_4)) := q_111
        rw [ht] at hP1
        have hK := va_K.moved hvm.symm hK1
        generalize H1 = H at hP1 hS ⊢
        have hP : va_P D vwCl (mw h0 ad cs (upd (upd (upd iv 21 (nI k21_107)) 22 p22_108) 25 (nI k25_23)) (uF (uF fv 15 f15_6) 16 f16_7) gv) H := hP1
        have hD : va_D A (mw h0 ad cs (upd (upd (upd iv 21 (nI k21_107)) 22 p22_108) 25 (nI k25_23)) (uF (uF fv 15 f15_6) 16 f16_7) gv) := hD1.weaken (fun _ _ _ h => hFc _ h)
        have hP : va_P D vwCl (mw h0 ad cs (upd (upd (upd (upd (upd (upd iv 21 (nI k21_107)) 22 p22_108) 25 (nI k25_23)) 29 (iv 29)) 30 (iv 30)) 31 (iv 31)) (uF (uF (uF (uF (uF fv 15 f15_6) 16 f16_7) 17 (fv 17)) 19 (fv 19)) 28 (fv 28)) gv) H := hP
        have hD : va_D A (mw h0 ad cs (upd (upd (upd (upd (upd (upd iv 21 (nI k21_107)) 22 p22_108) 25 (nI k25_23)) 29 (iv 29)) 30 (iv 30)) 31 (iv 31)) (uF (uF (uF (uF (uF fv 15 f15_6) 16 f16_7) 17 (fv 17)) 19 (fv 19)) 28 (fv 28)) gv) := hD
        exact W.vret hx hb hr (fun t ht hW => ⟨⟨(), rfl, trivial, k21_107, p22_108, nI k25_23, iv 29, iv 30, iv 31, f15_6, f16_7, fv 17, fv 19, fv 28, by omega, fun i h9 => rfl, q_11, Or.inl (by omega), (by exfalso; omega), fun _ _ => rfl, fun h9 => absurd h9 (by omega), by rw [ht]; exact hP, va_K.moved hW.alike hK, hD⟩, hS.F ht⟩) hS.2.2 dX9_reads_57
      have d_112 := n_nle (a := k21_3) (b := 0) (by omega) (by omega) c_19
      have hP : va_P D vwCl (mw h0 ad cs (upd (upd (upd (upd (upd (upd iv 21 (nI k21_3)) 22 p22_4) 25 (nI k25_5)) 29 (iv 29)) 30 (iv 30)) 31 (iv 31)) (uF (uF (uF (uF (uF fv 15 f15_6) 16 f16_7) 17 (fv 17)) 19 (fv 19)) 28 (fv 28)) gv) H := hP
      have hD : va_D A (mw h0 ad cs (upd (upd (upd (upd (upd (upd iv 21 (nI k21_3)) 22 p22_4) 25 (nI k25_5)) 29 (iv 29)) 30 (iv 30)) 31 (iv 31)) (uF (uF (uF (uF (uF fv 15 f15_6) 16 f16_7) 17 (fv 17)) 19 (fv 19)) 28 (fv 28)) gv) := hD
      exact W.vret hx hb hr (fun t ht hW => ⟨⟨(), rfl, trivial, k21_3, p22_4, nI k25_5, iv 29, iv 30, iv 31, f15_6, f16_7, fv 17, fv 19, fv 28, by omega, fun i h9 => rfl, q_11, Or.inl (by omega), (rd_1 q_13 (by omega)), fun _ _ => rfl, fun h9 => (q_14 (by omega)), by rw [ht]; exact hP, va_K.moved hW.alike hK, hD⟩, hS.F ht⟩) hS.2.2 dX9_reads_40
    have d_113 := n_eq (a := k21_3) (b := 0) (by omega) (by omega) c_17
    refine lv_aload_n hx hb dX9_reads_29 rfl (lv_at hl 0 rfl) ?_
    have hFc := free_all hD hS hA
    refine va_callv (va_runV (As := []) (rest := []) ⟨hx, hb, hml, hown, hts⟩ (m_either l D h0 ad cs (upd (upd (upd iv 21 (nI k21_3)) 22 p22_4) 25 (nI k25_5)) (uF (uF fv 15 f15_6) 16 f16_7) gv n14 k21_3 k25_5 n26  H.size h14 rfl rfl h26 (by omega) (by omega) (by omega) (by omega)) (cwV 0 hts gX9_reads_X9_either rfl rfl rfl (by decide +kernel) ⟨Nat.le_of_ble_eq_true rfl, Nat.le_of_ble_eq_true rfl⟩) ⟨fun a U g mk q => by obtain ⟨q0, q1, qP, qK, qD⟩ := q; exact ⟨q0, q1, qP, va_K.moved (u := U) (U := U.calling g mk a) (Vm.Alike.refl U.vm) qK, qD⟩, va_recv hK hP (ci := 9) (q0 := 0) rfl rfl, fun U hU hW => ⟨rfl, by rw [hU], by rw [hU]; exact hP, va_K.moved hW.alike hK, hD.weaken (fun _ _ _ _ => trivial)⟩⟩ rfl rfl hl.1 rfl (lv_room (Nat.le_of_ble_eq_true rfl)) dX9_reads_30 ⟨Nat.le_of_ble_eq_true rfl, Nat.le_of_ble_eq_true rfl⟩) hS (fun q _ h => hFc q h) hFc (fun u t H1 locs ht hvm w_115 hB hz1 hk1 hS => ?_)
    obtain ⟨k21_116, p22_117, k25_118, k29_119, k30_120, k31_121, f19_122, f28_123, q_124, q_125, q_126, q_127, q_128, q_129, q_130, hP1, hK1, hD1⟩ := hB
    replace q_127 : ∀ i : Nat, i < 200 * n14 → f19_122 i = (fv 19) i := q_127
    replace q_129 : EIF ((fv 0)) n26 (0, skB ((fv 0)) n26 k25_5, [], []) k21_116 p22_117 k25_118 := q_129
    replace q_130 : k21_116 = 0 → p22_117 = (p22_4) := q_130
    rw [ht] at hP1
    have hK := va_K.moved hvm.symm hK1
    generalize H1 = H at hP1 hS ⊢
    have hP : va_P D vwCl (mw h0 ad cs (upd (upd (upd (upd (upd (upd iv 21 (nI k21_116)) 22 p22_117) 25 (nI k25_118)) 29 (nI k29_119)) 30 (nI k30_120)) 31 (nI k31_121)) (uF (uF (uF (uF fv 15 f15_6) 16 f16_7) 19 f19_122) 28 f28_123) gv) H := hP1
    have hD : va_D A (mw h0 ad cs (upd (upd (upd (upd (upd (upd iv 21 (nI k21_116)) 22 p22_117) 25 (nI k25_118)) 29 (nI k29_119)) 30 (nI k30_120)) 31 (nI k31_121)) (uF (uF (uF (uF fv 15 f15_6) 16 f16_7) 19 f19_122) 28 f28_123) gv) := hD1.weaken (fun _ _ _ h => hFc _ h)
    refine lv_aload_n hx hb dX9_reads_33 rfl (lv_at hl 0 rfl) ?_
    refine va_get (D := D) (ci := 9) (v := .int (nI k21_116)) (C := RX9) (T := TX9) (N := 44) hx hb hts hin9 hown hK hP 0 rfl rfl 21 (by decide) (hts (.fieldLink RX9 74 "HoneyHouseModel" "faultKind" "I") (List.mem_of_getElem? (i := 2) rfl)) (fun _ h9 => h9) rfl dX9_reads_34 ?_
    refine lv_if_le (tgt := 41) hx hb dX9_reads_37 (by decide) (fun c_131 => ?_) (fun c_131 => ?_)
    · have d_132 := n_le (a := k21_116) (b := 0) (by omega) (by omega) c_131
      refine lv_aload_n hx hb dX9_reads_41 rfl (lv_at hl 0 rfl) ?_
      have hFc := free_all hD hS hA
      refine va_calli (va_runV (As := []) (rest := []) ⟨hx, hb, hml, hown, hts⟩ (m_peek l D h0 ad cs (upd (upd (upd (upd (upd (upd iv 21 (nI k21_116)) 22 p22_117) 25 (nI k25_118)) 29 (nI k29_119)) 30 (nI k30_120)) 31 (nI k31_121)) (uF (uF (uF (uF fv 15 f15_6) 16 f16_7) 19 f19_122) 28 f28_123) gv k25_118 n26  H.size rfl h26 (by omega) (by omega)) (cwV 0 hts gX9_reads_X9_peek rfl rfl rfl (by decide +kernel) ⟨Nat.le_of_ble_eq_true rfl, Nat.le_of_ble_eq_true rfl⟩) ⟨fun a U g mk q => by obtain ⟨q0, q1, qP, qK, qD⟩ := q; exact ⟨q0, q1, qP, va_K.moved (u := U) (U := U.calling g mk a) (Vm.Alike.refl U.vm) qK, qD⟩, va_recv hK hP (ci := 9) (q0 := 0) rfl rfl, fun U hU hW => ⟨rfl, by rw [hU], by rw [hU]; exact hP, va_K.moved hW.alike hK, hD.weaken (fun _ _ _ _ => trivial)⟩⟩ rfl rfl hl.1 rfl (lv_room (Nat.le_of_ble_eq_true rfl)) dX9_reads_42 ⟨Nat.le_of_ble_eq_true rfl, Nat.le_of_ble_eq_true rfl⟩) hS (fun q _ h => hFc q h) hFc (fun r_133 u t H1 locs ht hvm w_134 hB hz1 hk1 hS => ?_)
      subst w_134
      obtain ⟨k25_135, q_136, q_137, q_138, q_139, q_140, hP1, hK1, hD1⟩ := hB
      replace q_138 : (k25_118 = n26 ∨ ¬ blk ((fv 0) k25_118)) → k25_135 = k25_118 := q_138
      replace q_139 : PKD ((fv 0)) n26 k25_135 r_133 := q_139
      replace q_140 : isRn blk ((fv 0)) n26 k25_118 k25_135 := q_140
      rw [ht] at hP1
      have hK := va_K.moved hvm.symm hK1
      generalize H1 = H at hP1 hS ⊢
      have hP : va_P D vwCl (mw h0 ad cs (upd (upd (upd (upd (upd (upd iv 21 (nI k21_116)) 22 p22_117) 25 (nI k25_135)) 29 (nI k29_119)) 30 (nI k30_120)) 31 (nI k31_121)) (uF (uF (uF (uF fv 15 f15_6) 16 f16_7) 19 f19_122) 28 f28_123) gv) H := hP1
      have hD : va_D A (mw h0 ad cs (upd (upd (upd (upd (upd (upd iv 21 (nI k21_116)) 22 p22_117) 25 (nI k25_135)) 29 (nI k29_119)) 30 (nI k30_120)) 31 (nI k31_121)) (uF (uF (uF (uF fv 15 f15_6) 16 f16_7) 19 f19_122) 28 f28_123) gv) := hD1.weaken (fun _ _ _ h => hFc _ h)
      rcases q_139 with ⟨rfl, hw_145⟩ | ⟨c_141, e_142, rfl, he_143, hc_144, hw_145⟩
      · refine lv_if_eq (tgt := 58) hx hb dX9_reads_45 (by decide) (fun c_146 => absurd c_146 (by decide)) (fun c_146 => ?_)
        refine lv_aload_n hx hb dX9_reads_48 rfl (lv_at hl 0 rfl) ?_
        refine lv_iconst (v := 1) hx hb dX9_reads_49 (by decide) ?_
        refine lv_aload_n hx hb dX9_reads_50 rfl (lv_at hl 0 rfl) ?_
        refine va_get (D := D) (ci := 9) (v := .int (nI k25_135)) (C := RX9) (T := TX9) (N := 44) hx hb hts hin9 hown hK hP 0 rfl rfl 25 (by decide) (hts (.fieldLink RX9 87 "HoneyHouseModel" "at" "I") (List.mem_of_getElem? (i := 1) rfl)) (fun _ h9 => h9) rfl dX9_reads_51 ?_
        have hFc := free_all hD hS hA
        refine va_callv (va_runV (As := [.int 1, .int (nI k25_135)]) (rest := []) ⟨hx, hb, hml, hown, hts⟩ (m_blame l D h0 ad cs (upd (upd (upd (upd (upd (upd iv 21 (nI k21_116)) 22 p22_117) 25 (nI k25_135)) 29 (nI k29_119)) 30 (nI k30_120)) 31 (nI k31_121)) (uF (uF (uF (uF fv 15 f15_6) 16 f16_7) 19 f19_122) 28 f28_123) gv k21_116 1 (nI k25_135) H.size rfl (by omega) (by omega)) (cwV 2 hts gX9_reads_X9_blame rfl rfl rfl (by decide +kernel) ⟨Nat.le_of_ble_eq_true rfl, Nat.le_of_ble_eq_true rfl⟩) ⟨fun a U g mk q => by obtain ⟨q0, q1, qP, qK, qD⟩ := q; exact ⟨q0, q1, qP, va_K.moved (u := U) (U := U.calling g mk a) (Vm.Alike.refl U.vm) qK, qD⟩, va_recv hK hP (ci := 9) (q0 := 0) rfl rfl, fun U hU hW => ⟨rfl, by rw [hU], by rw [hU]; exact hP, va_K.moved hW.alike hK, hD.weaken (fun _ _ _ _ => trivial)⟩⟩ rfl rfl hl.1 rfl (lv_room (Nat.le_of_ble_eq_true rfl)) dX9_reads_54 ⟨Nat.le_of_ble_eq_true rfl, Nat.le_of_ble_eq_true rfl⟩) hS (fun q _ h => hFc q h) hFc (fun u t H1 locs ht hvm w_148 hB hz1 hk1 hS => ?_)
        obtain ⟨k21_149, p22_150, q_151, q_152, q_153, hP1, hK1, hD1⟩ := hB
        replace q_153 : (k21_116 = 0 → k21_149 = 1 ∧ p22_150 = (nI k25_135)) ∧ (¬ k21_116 = 0 → k21_149 = k21_116 ∧ p22_150 = (p22_117)) := q_153
        rw [ht] at hP1
        have hK := va_K.moved hvm.symm hK1
        generalize H1 = H at hP1 hS ⊢
        have hP : va_P D vwCl (mw h0 ad cs (upd (upd (upd (upd (upd (upd iv 21 (nI k21_149)) 22 p22_150) 25 (nI k25_135)) 29 (nI k29_119)) 30 (nI k30_120)) 31 (nI k31_121)) (uF (uF (uF (uF fv 15 f15_6) 16 f16_7) 19 f19_122) 28 f28_123) gv) H := hP1
        have hD : va_D A (mw h0 ad cs (upd (upd (upd (upd (upd (upd iv 21 (nI k21_149)) 22 p22_150) 25 (nI k25_135)) 29 (nI k29_119)) 30 (nI k30_120)) 31 (nI k31_121)) (uF (uF (uF (uF fv 15 f15_6) 16 f16_7) 19 f19_122) 28 f28_123) gv) := hD1.weaken (fun _ _ _ h => hFc _ h)
        have hP : va_P D vwCl (mw h0 ad cs (upd (upd (upd (upd (upd (upd iv 21 (nI k21_149)) 22 p22_150) 25 (nI k25_135)) 29 (nI k29_119)) 30 (nI k30_120)) 31 (nI k31_121)) (uF (uF (uF (uF (uF fv 15 f15_6) 16 f16_7) 17 (fv 17)) 19 f19_122) 28 f28_123) gv) H := hP
        have hD : va_D A (mw h0 ad cs (upd (upd (upd (upd (upd (upd iv 21 (nI k21_149)) 22 p22_150) 25 (nI k25_135)) 29 (nI k29_119)) 30 (nI k30_120)) 31 (nI k31_121)) (uF (uF (uF (uF (uF fv 15 f15_6) 16 f16_7) 17 (fv 17)) 19 f19_122) 28 f28_123) gv) := hD
        exact W.vret hx hb hr (fun t ht hW => ⟨⟨(), rfl, trivial, k21_149, p22_150, nI k25_135, nI k29_119, nI k30_120, nI k31_121, f15_6, f16_7, fv 17, f19_122, f28_123, by omega, q_127, q_11, Or.inl (by omega), (by exfalso; omega), fun _ _ => rfl, fun h9 => absurd h9 (by omega), by rw [ht]; exact hP, va_K.moved hW.alike hK, hD⟩, hS.F ht⟩) hS.2.2 dX9_reads_57
      have he_143b : k25_135 ≤ e_142 ∧ e_142 ≤ n26 := ⟨he_143.1, he_143.2.1⟩
      refine lv_if_eq (tgt := 58) hx hb dX9_reads_45 (by decide) (fun c_154 => ?_) (fun c_154 => ?_)
      · have d_155 := n_eq (a := c_141) (b := 0) (by omega) (by omega) c_154
        refine lv_aload_n hx hb dX9_reads_58 rfl (lv_at hl 0 rfl) ?_
        refine lv_aload_n hx hb dX9_reads_59 rfl (lv_at hl 0 rfl) ?_
        refine vp_callSi (W.runV (As := []) (rest := [.ref h0]) ⟨hx, hb, hml, hown, hts⟩ (m_wordEnd l D h0 ad cs (upd (upd (upd (upd (upd (upd iv 21 (nI k21_116)) 22 p22_117) 25 (nI k25_135)) 29 (nI k29_119)) 30 (nI k30_120)) 31 (nI k31_121)) (uF (uF (uF (uF fv 15 f15_6) 16 f16_7) 19 f19_122) 28 f28_123) gv k25_135 n26  rfl h26 (by omega) (by omega)) (cwV 0 hts gX9_reads_X9_wordEnd rfl rfl rfl (by decide +kernel) ⟨Nat.le_of_ble_eq_true rfl, Nat.le_of_ble_eq_true rfl⟩) ⟨fun a U g mk q => ⟨q.1, q.2.1, va_K.moved (u := U) (U := U.calling g mk a) (Vm.Alike.refl U.vm) q.2.2⟩, va_recv hK hP (ci := 9) (q0 := 0) rfl rfl, fun U hU hW => ⟨rfl, by rw [hU]; exact hP, va_K.moved hW.alike hK⟩⟩ rfl rfl hl.1 rfl (lv_room (Nat.le_of_ble_eq_true rfl)) dX9_reads_60 ⟨Nat.le_of_ble_eq_true rfl, Nat.le_of_ble_eq_true rfl⟩) (fun r_156 k_157 => ?_)
        obtain ⟨e_158, rfl, he_159⟩ := k_157
        have hq_e_158 : e_158 = e_142 := he_159.uq he_143
        refine va_put (D := D) (ci := 9) (v := .int (nI e_158)) (ty := .int) (C := RX9) (T := TX9) (N := 44) hx hb hts hin9 tyX9 tyX9_ok nmX9 hown hK hP hD hS 0 rfl rfl 25 (by decide) (hts (.fieldLink RX9 87 "HoneyHouseModel" "at" "I") (List.mem_of_getElem? (i := 1) rfl)) (fun _ h9 => h9) rfl (tyX9_ok 25 (by decide)) rfl rfl (Nat.le_of_ble_eq_true rfl) dX9_reads_63 (fun H locs hP hD hS => ?_)
        have hP : va_P D vwCl (mw h0 ad cs (upd (upd (upd (upd (upd (upd iv 21 (nI k21_116)) 22 p22_117) 25 (nI e_158)) 29 (nI k29_119)) 30 (nI k30_120)) 31 (nI k31_121)) (uF (uF (uF (uF fv 15 f15_6) 16 f16_7) 19 f19_122) 28 f28_123) gv) H := hP
        have hD : va_D A (mw h0 ad cs (upd (upd (upd (upd (upd (upd iv 21 (nI k21_116)) 22 p22_117) 25 (nI e_158)) 29 (nI k29_119)) 30 (nI k30_120)) 31 (nI k31_121)) (uF (uF (uF (uF fv 15 f15_6) 16 f16_7) 19 f19_122) 28 f28_123) gv) := hD
        refine lv_aload_n hx hb dX9_reads_66 rfl (lv_at hl 0 rfl) ?_
        refine va_get (D := D) (ci := 9) (v := .ref (ad 17)) (C := RX9) (T := TX9) (N := 44) hx hb hts hin9 hown hK hP 0 rfl rfl 17 (by decide) (hts (.fieldLink RX9 62 "HoneyHouseModel" "from" "[I") (List.mem_of_getElem? (i := 3) rfl)) (fun _ h9 => h9) rfl dX9_reads_67 ?_
        refine lv_aload_n hx hb dX9_reads_70 rfl (lv_at hl 0 rfl) ?_
        refine va_get (D := D) (ci := 9) (v := .int (iv 14)) (C := RX9) (T := TX9) (N := 44) hx hb hts hin9 hown hK hP 0 rfl rfl 14 (by decide) (hts (.fieldLink RX9 53 "HoneyHouseModel" "rules" "I") (List.mem_of_getElem? (i := 4) rfl)) (fun _ h9 => h9) rfl dX9_reads_71 ?_
        refine tp_i (y := nI n14) (h14) ?_
        refine lv_aload_n hx hb dX9_reads_74 rfl (lv_at hl 0 rfl) ?_
        refine lv_sipush (v := 30000) hx hb dX9_reads_75 (by decide) ?_
        have hFc := free_all hD hS hA
        refine va_calli (va_runV (As := [.int 30000]) (rest := [.int (nI n14), .ref (ad 17)]) ⟨hx, hb, hml, hown, hts⟩ (m_number l D h0 ad cs (upd (upd (upd (upd (upd (upd iv 21 (nI k21_116)) 22 p22_117) 25 (nI e_158)) 29 (nI k29_119)) 30 (nI k30_120)) 31 (nI k31_121)) (uF (uF (uF (uF fv 15 f15_6) 16 f16_7) 19 f19_122) 28 f28_123) gv k21_116 e_158 n26 30000 H.size rfl rfl h26 (by omega) (by omega) (by omega) (by omega)) (cwV 1 hts gX9_reads_X9_number rfl rfl rfl (by decide +kernel) ⟨Nat.le_of_ble_eq_true rfl, Nat.le_of_ble_eq_true rfl⟩) ⟨fun a U g mk q => by obtain ⟨q0, q1, qP, qK, qD⟩ := q; exact ⟨q0, q1, qP, va_K.moved (u := U) (U := U.calling g mk a) (Vm.Alike.refl U.vm) qK, qD⟩, va_recv hK hP (ci := 9) (q0 := 0) rfl rfl, fun U hU hW => ⟨rfl, by rw [hU], by rw [hU]; exact hP, va_K.moved hW.alike hK, hD.weaken (fun _ _ _ _ => trivial)⟩⟩ rfl rfl hl.1 rfl (lv_room (Nat.le_of_ble_eq_true rfl)) dX9_reads_78 ⟨Nat.le_of_ble_eq_true rfl, Nat.le_of_ble_eq_true rfl⟩) hS (fun q _ h => hFc q h) hFc (fun r_160 u t H1 locs ht hvm w_161 hB hz1 hk1 hS => ?_)
        subst w_161
        obtain ⟨k21_162, p22_163, k25_164, q_165, q_166, q_167, q_168, q_169, q_170, hP1, hK1, hD1⟩ := hB
        replace q_169 : NUX ((fv 0)) n26 30000 (skB ((fv 0)) n26 e_158) k21_162 p22_163 k25_164 r_160 := q_169
        replace q_170 : k21_162 = 0 → p22_163 = (p22_117) := q_170
        rw [ht] at hP1
        have hK := va_K.moved hvm.symm hK1
        generalize H1 = H at hP1 hS ⊢
        have hP : va_P D vwCl (mw h0 ad cs (upd (upd (upd (upd (upd (upd iv 21 (nI k21_162)) 22 p22_163) 25 (nI k25_164)) 29 (nI k29_119)) 30 (nI k30_120)) 31 (nI k31_121)) (uF (uF (uF (uF fv 15 f15_6) 16 f16_7) 19 f19_122) 28 f28_123) gv) H := hP1
        have hD : va_D A (mw h0 ad cs (upd (upd (upd (upd (upd (upd iv 21 (nI k21_162)) 22 p22_163) 25 (nI k25_164)) 29 (nI k29_119)) 30 (nI k30_120)) 31 (nI k31_121)) (uF (uF (uF (uF fv 15 f15_6) 16 f16_7) 19 f19_122) 28 f28_123) gv) := hD1.weaken (fun _ _ _ h => hFc _ h)
        rcases q_168 with hp_171 | ⟨rfl, hg_173⟩
        · obtain ⟨P_176, hP_177, hnr_178⟩ := q_169.no (by omega)
          refine va_iast (f := fv 17) (n := 16) hx hb hK hP hD hS 13 12 rfl rfl (vp_in_nI (n := n14) (by omega) (by omega)) dX9_reads_81 (fun H locs hP hD hS => ?_)
          have hP : va_P D vwCl (mw h0 ad cs (upd (upd (upd (upd (upd (upd iv 21 (nI k21_162)) 22 p22_163) 25 (nI k25_164)) 29 (nI k29_119)) 30 (nI k30_120)) 31 (nI k31_121)) (uF (uF (uF (uF (uF fv 15 f15_6) 16 f16_7) 17 (upd (fv 17) (nI n14).toNatClampNeg r_160)) 19 f19_122) 28 f28_123) gv) H := hP
          have hD : va_D A (mw h0 ad cs (upd (upd (upd (upd (upd (upd iv 21 (nI k21_162)) 22 p22_163) 25 (nI k25_164)) 29 (nI k29_119)) 30 (nI k30_120)) 31 (nI k31_121)) (uF (uF (uF (uF (uF fv 15 f15_6) 16 f16_7) 17 (upd (fv 17) (nI n14).toNatClampNeg r_160)) 19 f19_122) 28 f28_123) gv) := hD
          obtain ⟨f_179, hf_180⟩ : ∃ g9, g9 = upd (fv 17) (nI n14).toNatClampNeg r_160 := ⟨_, rfl⟩
          rw [← hf_180] at hP hD
          rw [nI_clamp (n := n14) (by omega)] at hf_180
          refine lv_aload_n hx hb dX9_reads_82 rfl (lv_at hl 0 rfl) ?_
          refine va_get (D := D) (ci := 9) (v := .int (nI k21_162)) (C := RX9) (T := TX9) (N := 44) hx hb hts hin9 hown hK hP 0 rfl rfl 21 (by decide) (hts (.fieldLink RX9 74 "HoneyHouseModel" "faultKind" "I") (List.mem_of_getElem? (i := 2) rfl)) (fun _ h9 => h9) rfl dX9_reads_83 ?_
          refine lv_if_ne (tgt := 95) hx hb dX9_reads_86 (by decide) (fun c_181 => ?_) (fun c_181 => absurd c_181 (nI_ne0 (n := k21_162) (by omega) (by omega)))
          refine lv_aload_n hx hb dX9_reads_95 rfl (lv_at hl 0 rfl) ?_
          refine va_get (D := D) (ci := 9) (v := .int (nI k21_162)) (C := RX9) (T := TX9) (N := 44) hx hb hts hin9 hown hK hP 0 rfl rfl 21 (by decide) (hts (.fieldLink RX9 74 "HoneyHouseModel" "faultKind" "I") (List.mem_of_getElem? (i := 2) rfl)) (fun _ h9 => h9) rfl dX9_reads_96 ?_
          refine lv_if_ne (tgt := 119) hx hb dX9_reads_99 (by decide) (fun c_182 => ?_) (fun c_182 => absurd c_182 (nI_ne0 (n := k21_162) (by omega) (by omega)))
          have hP : va_P D vwCl (mw h0 ad cs (upd (upd (upd (upd (upd (upd iv 21 (nI k21_162)) 22 p22_163) 25 (nI k25_164)) 29 (nI k29_119)) 30 (nI k30_120)) 31 (nI k31_121)) (uF (uF (uF (uF (uF fv 15 f15_6) 16 f16_7) 17 f_179) 19 f19_122) 28 f28_123) gv) H := hP
          have hD : va_D A (mw h0 ad cs (upd (upd (upd (upd (upd (upd iv 21 (nI k21_162)) 22 p22_163) 25 (nI k25_164)) 29 (nI k29_119)) 30 (nI k30_120)) 31 (nI k31_121)) (uF (uF (uF (uF (uF fv 15 f15_6) 16 f16_7) 17 f_179) 19 f19_122) 28 f28_123) gv) := hD
          exact W.vret hx hb hr (fun t ht hW => ⟨⟨(), rfl, trivial, k21_162, p22_163, nI k25_164, nI k29_119, nI k30_120, nI k31_121, f15_6, f16_7, f_179, f19_122, f28_123, by omega, q_127, q_11, Or.inl (by omega), (by exfalso; omega), fun i h9 => by rw [hf_180]; exact up_ne h9, fun h9 => absurd h9 (by omega), by rw [ht]; exact hP, va_K.moved hW.alike hK, hD⟩, hS.F ht⟩) hS.2.2 dX9_reads_119
        obtain ⟨v_174, hv_175, rfl, hnr_178⟩ := q_169.ok
        have pe_183 : p22_163 = p22_117 := q_170 rfl
        refine va_iast (f := fv 17) (n := 16) hx hb hK hP hD hS 13 12 rfl rfl (vp_in_nI (n := n14) (by omega) (by omega)) dX9_reads_81 (fun H locs hP hD hS => ?_)
        have hP : va_P D vwCl (mw h0 ad cs (upd (upd (upd (upd (upd (upd iv 21 (nI 0)) 22 p22_163) 25 (nI k25_164)) 29 (nI k29_119)) 30 (nI k30_120)) 31 (nI k31_121)) (uF (uF (uF (uF (uF fv 15 f15_6) 16 f16_7) 17 (upd (fv 17) (nI n14).toNatClampNeg (nI v_174))) 19 f19_122) 28 f28_123) gv) H := hP
        have hD : va_D A (mw h0 ad cs (upd (upd (upd (upd (upd (upd iv 21 (nI 0)) 22 p22_163) 25 (nI k25_164)) 29 (nI k29_119)) 30 (nI k30_120)) 31 (nI k31_121)) (uF (uF (uF (uF (uF fv 15 f15_6) 16 f16_7) 17 (upd (fv 17) (nI n14).toNatClampNeg (nI v_174))) 19 f19_122) 28 f28_123) gv) := hD
        obtain ⟨f_184, hf_185⟩ : ∃ g9, g9 = upd (fv 17) (nI n14).toNatClampNeg (nI v_174) := ⟨_, rfl⟩
        rw [← hf_185] at hP hD
        rw [nI_clamp (n := n14) (by omega)] at hf_185
        refine lv_aload_n hx hb dX9_reads_82 rfl (lv_at hl 0 rfl) ?_
        refine va_get (D := D) (ci := 9) (v := .int (nI 0)) (C := RX9) (T := TX9) (N := 44) hx hb hts hin9 hown hK hP 0 rfl rfl 21 (by decide) (hts (.fieldLink RX9 74 "HoneyHouseModel" "faultKind" "I") (List.mem_of_getElem? (i := 2) rfl)) (fun _ h9 => h9) rfl dX9_reads_83 ?_
        refine lv_if_ne (tgt := 95) hx hb dX9_reads_86 (by decide) (fun c_186 => absurd (by decide) c_186) (fun c_186 => ?_)
        refine lv_aload_n hx hb dX9_reads_89 rfl (lv_at hl 0 rfl) ?_
        refine lv_bipush (v := 59) hx hb dX9_reads_90 (by decide) ?_
        have hFc := free_all hD hS hA
        refine va_callv (va_runV (As := [.int 59]) (rest := []) ⟨hx, hb, hml, hown, hts⟩ (m_must l D h0 ad cs (upd (upd (upd (upd (upd (upd iv 21 (nI 0)) 22 p22_163) 25 (nI k25_164)) 29 (nI k29_119)) 30 (nI k30_120)) 31 (nI k31_121)) (uF (uF (uF (uF (uF fv 15 f15_6) 16 f16_7) 17 f_184) 19 f19_122) 28 f28_123) gv 0 k25_164 n26 59 H.size rfl rfl h26 (by omega) (by omega) (by omega) (by decide)) (cwV 1 hts gX9_reads_X9_must rfl rfl rfl (by decide +kernel) ⟨Nat.le_of_ble_eq_true rfl, Nat.le_of_ble_eq_true rfl⟩) ⟨fun a U g mk q => by obtain ⟨q0, q1, qP, qK, qD⟩ := q; exact ⟨q0, q1, qP, va_K.moved (u := U) (U := U.calling g mk a) (Vm.Alike.refl U.vm) qK, qD⟩, va_recv hK hP (ci := 9) (q0 := 0) rfl rfl, fun U hU hW => ⟨rfl, by rw [hU], by rw [hU]; exact hP, va_K.moved hW.alike hK, hD.weaken (fun _ _ _ _ => trivial)⟩⟩ rfl rfl hl.1 rfl (lv_room (Nat.le_of_ble_eq_true rfl)) dX9_reads_92 ⟨Nat.le_of_ble_eq_true rfl, Nat.le_of_ble_eq_true rfl⟩) hS (fun q _ h => hFc q h) hFc (fun u t H1 locs ht hvm w_188 hB hz1 hk1 hS => ?_)
        obtain ⟨k21_189, p22_190, k25_191, q_192, q_193, q_194, q_195, hP1, hK1, hD1⟩ := hB
        replace q_195 : (0 = 0 → ((skB ((fv 0)) n26 k25_164 < n26 ∧ (fv 0) (skB ((fv 0)) n26 k25_164) = 59) ∧ k21_189 = 0 ∧ p22_190 = (p22_163) ∧ k25_191 = skB ((fv 0)) n26 k25_164 + 1) ∨ (¬ (skB ((fv 0)) n26 k25_164 < n26 ∧ (fv 0) (skB ((fv 0)) n26 k25_164) = 59) ∧ k21_189 = 1 ∧ p22_190 = nI (skB ((fv 0)) n26 k25_164))) := q_195
        rw [ht] at hP1
        have hK := va_K.moved hvm.symm hK1
        generalize H1 = H at hP1 hS ⊢
        have hP : va_P D vwCl (mw h0 ad cs (upd (upd (upd (upd (upd (upd iv 21 (nI k21_189)) 22 p22_190) 25 (nI k25_191)) 29 (nI k29_119)) 30 (nI k30_120)) 31 (nI k31_121)) (uF (uF (uF (uF (uF fv 15 f15_6) 16 f16_7) 17 f_184) 19 f19_122) 28 f28_123) gv) H := hP1
        have hD : va_D A (mw h0 ad cs (upd (upd (upd (upd (upd (upd iv 21 (nI k21_189)) 22 p22_190) 25 (nI k25_191)) 29 (nI k29_119)) 30 (nI k30_120)) 31 (nI k31_121)) (uF (uF (uF (uF (uF fv 15 f15_6) 16 f16_7) 17 f_184) 19 f19_122) 28 f28_123) gv) := hD1.weaken (fun _ _ _ h => hFc _ h)
        refine lv_aload_n hx hb dX9_reads_95 rfl (lv_at hl 0 rfl) ?_
        refine va_get (D := D) (ci := 9) (v := .int (nI k21_189)) (C := RX9) (T := TX9) (N := 44) hx hb hts hin9 hown hK hP 0 rfl rfl 21 (by decide) (hts (.fieldLink RX9 74 "HoneyHouseModel" "faultKind" "I") (List.mem_of_getElem? (i := 2) rfl)) (fun _ h9 => h9) rfl dX9_reads_96 ?_
        refine lv_if_ne (tgt := 119) hx hb dX9_reads_99 (by decide) (fun c_196 => ?_) (fun c_196 => ?_)
        · have d_197 := n_ne (a := k21_189) (b := 0) (by omega) (by omega) c_196
          have hP : va_P D vwCl (mw h0 ad cs (upd (upd (upd (upd (upd (upd iv 21 (nI k21_189)) 22 p22_190) 25 (nI k25_191)) 29 (nI k29_119)) 30 (nI k30_120)) 31 (nI k31_121)) (uF (uF (uF (uF (uF fv 15 f15_6) 16 f16_7) 17 f_184) 19 f19_122) 28 f28_123) gv) H := hP
          have hD : va_D A (mw h0 ad cs (upd (upd (upd (upd (upd (upd iv 21 (nI k21_189)) 22 p22_190) 25 (nI k25_191)) 29 (nI k29_119)) 30 (nI k30_120)) 31 (nI k31_121)) (uF (uF (uF (uF (uF fv 15 f15_6) 16 f16_7) 17 f_184) 19 f19_122) 28 f28_123) gv) := hD
          exact W.vret hx hb hr (fun t ht hW => ⟨⟨(), rfl, trivial, k21_189, p22_190, nI k25_191, nI k29_119, nI k30_120, nI k31_121, f15_6, f16_7, f_184, f19_122, f28_123, by omega, q_127, q_11, ((Nat.eq_zero_or_pos k21_189).elim (fun h9 => by obtain ⟨n9, hn9⟩ := q_128.resolve_left (by omega); exact Or.inr ⟨q_12.resolve_left (by omega), k30_120, n9, rfl, by omega, hn9⟩) (fun h9 => Or.inl h9)), (by exfalso; omega), fun i h9 => by rw [hf_185]; exact up_ne h9, (by exfalso; omega), by rw [ht]; exact hP, va_K.moved hW.alike hK, hD⟩, hS.F ht⟩) hS.2.2 dX9_reads_119
        have d_198 := n_eq (a := k21_189) (b := 0) (by omega) (by omega) c_196
        refine lv_aload_n hx hb dX9_reads_102 rfl (lv_at hl 0 rfl) ?_
        have hFc := free_all hD hS hA
        refine va_calli (va_runV (As := []) (rest := []) ⟨hx, hb, hml, hown, hts⟩ (m_here l D h0 ad cs (upd (upd (upd (upd (upd (upd iv 21 (nI k21_189)) 22 p22_190) 25 (nI k25_191)) 29 (nI k29_119)) 30 (nI k30_120)) 31 (nI k31_121)) (uF (uF (uF (uF (uF fv 15 f15_6) 16 f16_7) 17 f_184) 19 f19_122) 28 f28_123) gv k25_191 n26  H.size rfl h26 (by omega) (by omega)) (cwV 0 hts gX9_reads_X9_here rfl rfl rfl (by decide +kernel) ⟨Nat.le_of_ble_eq_true rfl, Nat.le_of_ble_eq_true rfl⟩) ⟨fun a U g mk q => by obtain ⟨q0, q1, qP, qK, qD⟩ := q; exact ⟨q0, q1, qP, va_K.moved (u := U) (U := U.calling g mk a) (Vm.Alike.refl U.vm) qK, qD⟩, va_recv hK hP (ci := 9) (q0 := 0) rfl rfl, fun U hU hW => ⟨rfl, by rw [hU], by rw [hU]; exact hP, va_K.moved hW.alike hK, hD.weaken (fun _ _ _ _ => trivial)⟩⟩ rfl rfl hl.1 rfl (lv_room (Nat.le_of_ble_eq_true rfl)) dX9_reads_103 ⟨Nat.le_of_ble_eq_true rfl, Nat.le_of_ble_eq_true rfl⟩) hS (fun q _ h => hFc q h) hFc (fun r_199 u t H1 locs ht hvm w_200 hB hz1 hk1 hS => ?_)
        subst w_200
        obtain ⟨k25_201, q_202, q_203, q_204, q_205, q_206, q_207, hP1, hK1, hD1⟩ := hB
        replace q_204 : k25_201 = n26 ∨ ¬ blk ((fv 0) k25_201) := q_204
        replace q_205 : (k25_191 = n26 ∨ ¬ blk ((fv 0) k25_191)) → k25_201 = k25_191 := q_205
        replace q_206 : (r_199 = (-1) ∧ k25_201 = n26) ∨ (k25_201 < n26 ∧ r_199 = (fv 0) k25_201) := q_206
        replace q_207 : isRn blk ((fv 0)) n26 k25_191 k25_201 := q_207
        rw [ht] at hP1
        have hK := va_K.moved hvm.symm hK1
        generalize H1 = H at hP1 hS ⊢
        have hP : va_P D vwCl (mw h0 ad cs (upd (upd (upd (upd (upd (upd iv 21 (nI k21_189)) 22 p22_190) 25 (nI k25_201)) 29 (nI k29_119)) 30 (nI k30_120)) 31 (nI k31_121)) (uF (uF (uF (uF (uF fv 15 f15_6) 16 f16_7) 17 f_184) 19 f19_122) 28 f28_123) gv) H := hP1
        have hD : va_D A (mw h0 ad cs (upd (upd (upd (upd (upd (upd iv 21 (nI k21_189)) 22 p22_190) 25 (nI k25_201)) 29 (nI k29_119)) 30 (nI k30_120)) 31 (nI k31_121)) (uF (uF (uF (uF (uF fv 15 f15_6) 16 f16_7) 17 f_184) 19 f19_122) 28 f28_123) gv) := hD1.weaken (fun _ _ _ h => hFc _ h)
        refine lv_iconst (v := (-1)) hx hb dX9_reads_106 (by decide) ?_
        refine lv_icmp_eq (tgt := 119) hx hb dX9_reads_107 (by decide) (fun c_208 => ?_) (fun c_208 => ?_)
        · have hP : va_P D vwCl (mw h0 ad cs (upd (upd (upd (upd (upd (upd iv 21 (nI k21_189)) 22 p22_190) 25 (nI k25_201)) 29 (nI k29_119)) 30 (nI k30_120)) 31 (nI k31_121)) (uF (uF (uF (uF (uF fv 15 f15_6) 16 f16_7) 17 f_184) 19 f19_122) 28 f28_123) gv) H := hP
          have hD : va_D A (mw h0 ad cs (upd (upd (upd (upd (upd (upd iv 21 (nI k21_189)) 22 p22_190) 25 (nI k25_201)) 29 (nI k29_119)) 30 (nI k30_120)) 31 (nI k31_121)) (uF (uF (uF (uF (uF fv 15 f15_6) 16 f16_7) 17 f_184) 19 f19_122) 28 f28_123) gv) := hD
          exact W.vret hx hb hr (fun t ht hW => ⟨⟨(), rfl, trivial, k21_189, p22_190, nI k25_201, nI k29_119, nI k30_120, nI k31_121, f15_6, f16_7, f_184, f19_122, f28_123, by omega, q_127, q_11, ((Nat.eq_zero_or_pos k21_189).elim (fun h9 => by obtain ⟨n9, hn9⟩ := q_128.resolve_left (by omega); exact Or.inr ⟨q_12.resolve_left (by omega), k30_120, n9, rfl, by omega, hn9⟩) (fun h9 => Or.inl h9)), (by exfalso; omega), fun i h9 => by rw [hf_185]; exact up_ne h9, (by exfalso; omega), by rw [ht]; exact hP, va_K.moved hW.alike hK, hD⟩, hS.F ht⟩) hS.2.2 dX9_reads_119
        refine lv_aload_n hx hb dX9_reads_110 rfl (lv_at hl 0 rfl) ?_
        refine lv_iconst (v := 1) hx hb dX9_reads_111 (by decide) ?_
        refine lv_aload_n hx hb dX9_reads_112 rfl (lv_at hl 0 rfl) ?_
        refine va_get (D := D) (ci := 9) (v := .int (nI k25_201)) (C := RX9) (T := TX9) (N := 44) hx hb hts hin9 hown hK hP 0 rfl rfl 25 (by decide) (hts (.fieldLink RX9 87 "HoneyHouseModel" "at" "I") (List.mem_of_getElem? (i := 1) rfl)) (fun _ h9 => h9) rfl dX9_reads_113 ?_
        have hFc := free_all hD hS hA
        refine va_callv (va_runV (As := [.int 1, .int (nI k25_201)]) (rest := []) ⟨hx, hb, hml, hown, hts⟩ (m_blame l D h0 ad cs (upd (upd (upd (upd (upd (upd iv 21 (nI k21_189)) 22 p22_190) 25 (nI k25_201)) 29 (nI k29_119)) 30 (nI k30_120)) 31 (nI k31_121)) (uF (uF (uF (uF (uF fv 15 f15_6) 16 f16_7) 17 f_184) 19 f19_122) 28 f28_123) gv k21_189 1 (nI k25_201) H.size rfl (by omega) (by omega)) (cwV 2 hts gX9_reads_X9_blame rfl rfl rfl (by decide +kernel) ⟨Nat.le_of_ble_eq_true rfl, Nat.le_of_ble_eq_true rfl⟩) ⟨fun a U g mk q => by obtain ⟨q0, q1, qP, qK, qD⟩ := q; exact ⟨q0, q1, qP, va_K.moved (u := U) (U := U.calling g mk a) (Vm.Alike.refl U.vm) qK, qD⟩, va_recv hK hP (ci := 9) (q0 := 0) rfl rfl, fun U hU hW => ⟨rfl, by rw [hU], by rw [hU]; exact hP, va_K.moved hW.alike hK, hD.weaken (fun _ _ _ _ => trivial)⟩⟩ rfl rfl hl.1 rfl (lv_room (Nat.le_of_ble_eq_true rfl)) dX9_reads_116 ⟨Nat.le_of_ble_eq_true rfl, Nat.le_of_ble_eq_true rfl⟩) hS (fun q _ h => hFc q h) hFc (fun u t H1 locs ht hvm w_210 hB hz1 hk1 hS => ?_)
        obtain ⟨k21_211, p22_212, q_213, q_214, q_215, hP1, hK1, hD1⟩ := hB
        replace q_215 : (k21_189 = 0 → k21_211 = 1 ∧ p22_212 = (nI k25_201)) ∧ (¬ k21_189 = 0 → k21_211 = k21_189 ∧ p22_212 = (p22_190)) := q_215
        rw [ht] at hP1
        have hK := va_K.moved hvm.symm hK1
        generalize H1 = H at hP1 hS ⊢
        have hP : va_P D vwCl (mw h0 ad cs (upd (upd (upd (upd (upd (upd iv 21 (nI k21_211)) 22 p22_212) 25 (nI k25_201)) 29 (nI k29_119)) 30 (nI k30_120)) 31 (nI k31_121)) (uF (uF (uF (uF (uF fv 15 f15_6) 16 f16_7) 17 f_184) 19 f19_122) 28 f28_123) gv) H := hP1
        have hD : va_D A (mw h0 ad cs (upd (upd (upd (upd (upd (upd iv 21 (nI k21_211)) 22 p22_212) 25 (nI k25_201)) 29 (nI k29_119)) 30 (nI k30_120)) 31 (nI k31_121)) (uF (uF (uF (uF (uF fv 15 f15_6) 16 f16_7) 17 f_184) 19 f19_122) 28 f28_123) gv) := hD1.weaken (fun _ _ _ h => hFc _ h)
        have hP : va_P D vwCl (mw h0 ad cs (upd (upd (upd (upd (upd (upd iv 21 (nI k21_211)) 22 p22_212) 25 (nI k25_201)) 29 (nI k29_119)) 30 (nI k30_120)) 31 (nI k31_121)) (uF (uF (uF (uF (uF fv 15 f15_6) 16 f16_7) 17 f_184) 19 f19_122) 28 f28_123) gv) H := hP
        have hD : va_D A (mw h0 ad cs (upd (upd (upd (upd (upd (upd iv 21 (nI k21_211)) 22 p22_212) 25 (nI k25_201)) 29 (nI k29_119)) 30 (nI k30_120)) 31 (nI k31_121)) (uF (uF (uF (uF (uF fv 15 f15_6) 16 f16_7) 17 f_184) 19 f19_122) 28 f28_123) gv) := hD
        exact W.vret hx hb hr (fun t ht hW => ⟨⟨(), rfl, trivial, k21_211, p22_212, nI k25_201, nI k29_119, nI k30_120, nI k31_121, f15_6, f16_7, f_184, f19_122, f28_123, by omega, q_127, q_11, Or.inl (by omega), (by exfalso; omega), fun i h9 => by rw [hf_185]; exact up_ne h9, fun h9 => absurd h9 (by omega), by rw [ht]; exact hP, va_K.moved hW.alike hK, hD⟩, hS.F ht⟩) hS.2.2 dX9_reads_119
      have d_216 := n_ne (a := c_141) (b := 0) (by omega) (by omega) c_154
      refine lv_aload_n hx hb dX9_reads_48 rfl (lv_at hl 0 rfl) ?_
      refine lv_iconst (v := 1) hx hb dX9_reads_49 (by decide) ?_
      refine lv_aload_n hx hb dX9_reads_50 rfl (lv_at hl 0 rfl) ?_
      refine va_get (D := D) (ci := 9) (v := .int (nI k25_135)) (C := RX9) (T := TX9) (N := 44) hx hb hts hin9 hown hK hP 0 rfl rfl 25 (by decide) (hts (.fieldLink RX9 87 "HoneyHouseModel" "at" "I") (List.mem_of_getElem? (i := 1) rfl)) (fun _ h9 => h9) rfl dX9_reads_51 ?_
      have hFc := free_all hD hS hA
      refine va_callv (va_runV (As := [.int 1, .int (nI k25_135)]) (rest := []) ⟨hx, hb, hml, hown, hts⟩ (m_blame l D h0 ad cs (upd (upd (upd (upd (upd (upd iv 21 (nI k21_116)) 22 p22_117) 25 (nI k25_135)) 29 (nI k29_119)) 30 (nI k30_120)) 31 (nI k31_121)) (uF (uF (uF (uF fv 15 f15_6) 16 f16_7) 19 f19_122) 28 f28_123) gv k21_116 1 (nI k25_135) H.size rfl (by omega) (by omega)) (cwV 2 hts gX9_reads_X9_blame rfl rfl rfl (by decide +kernel) ⟨Nat.le_of_ble_eq_true rfl, Nat.le_of_ble_eq_true rfl⟩) ⟨fun a U g mk q => by obtain ⟨q0, q1, qP, qK, qD⟩ := q; exact ⟨q0, q1, qP, va_K.moved (u := U) (U := U.calling g mk a) (Vm.Alike.refl U.vm) qK, qD⟩, va_recv hK hP (ci := 9) (q0 := 0) rfl rfl, fun U hU hW => ⟨rfl, by rw [hU], by rw [hU]; exact hP, va_K.moved hW.alike hK, hD.weaken (fun _ _ _ _ => trivial)⟩⟩ rfl rfl hl.1 rfl (lv_room (Nat.le_of_ble_eq_true rfl)) dX9_reads_54 ⟨Nat.le_of_ble_eq_true rfl, Nat.le_of_ble_eq_true rfl⟩) hS (fun q _ h => hFc q h) hFc (fun u t H1 locs ht hvm w_218 hB hz1 hk1 hS => ?_)
      obtain ⟨k21_219, p22_220, q_221, q_222, q_223, hP1, hK1, hD1⟩ := hB
      replace q_223 : (k21_116 = 0 → k21_219 = 1 ∧ p22_220 = (nI k25_135)) ∧ (¬ k21_116 = 0 → k21_219 = k21_116 ∧ p22_220 = (p22_117)) := q_223
      rw [ht] at hP1
      have hK := va_K.moved hvm.symm hK1
      generalize H1 = H at hP1 hS ⊢
      have hP : va_P D vwCl (mw h0 ad cs (upd (upd (upd (upd (upd (upd iv 21 (nI k21_219)) 22 p22_220) 25 (nI k25_135)) 29 (nI k29_119)) 30 (nI k30_120)) 31 (nI k31_121)) (uF (uF (uF (uF fv 15 f15_6) 16 f16_7) 19 f19_122) 28 f28_123) gv) H := hP1
      have hD : va_D A (mw h0 ad cs (upd (upd (upd (upd (upd (upd iv 21 (nI k21_219)) 22 p22_220) 25 (nI k25_135)) 29 (nI k29_119)) 30 (nI k30_120)) 31 (nI k31_121)) (uF (uF (uF (uF fv 15 f15_6) 16 f16_7) 19 f19_122) 28 f28_123) gv) := hD1.weaken (fun _ _ _ h => hFc _ h)
      have hP : va_P D vwCl (mw h0 ad cs (upd (upd (upd (upd (upd (upd iv 21 (nI k21_219)) 22 p22_220) 25 (nI k25_135)) 29 (nI k29_119)) 30 (nI k30_120)) 31 (nI k31_121)) (uF (uF (uF (uF (uF fv 15 f15_6) 16 f16_7) 17 (fv 17)) 19 f19_122) 28 f28_123) gv) H := hP
      have hD : va_D A (mw h0 ad cs (upd (upd (upd (upd (upd (upd iv 21 (nI k21_219)) 22 p22_220) 25 (nI k25_135)) 29 (nI k29_119)) 30 (nI k30_120)) 31 (nI k31_121)) (uF (uF (uF (uF (uF fv 15 f15_6) 16 f16_7) 17 (fv 17)) 19 f19_122) 28 f28_123) gv) := hD
      exact W.vret hx hb hr (fun t ht hW => ⟨⟨(), rfl, trivial, k21_219, p22_220, nI k25_135, nI k29_119, nI k30_120, nI k31_121, f15_6, f16_7, fv 17, f19_122, f28_123, by omega, q_127, q_11, Or.inl (by omega), (by exfalso; omega), fun _ _ => rfl, fun h9 => absurd h9 (by omega), by rw [ht]; exact hP, va_K.moved hW.alike hK, hD⟩, hS.F ht⟩) hS.2.2 dX9_reads_57
    have d_224 := n_nle (a := k21_116) (b := 0) (by omega) (by omega) c_131
    have hP : va_P D vwCl (mw h0 ad cs (upd (upd (upd (upd (upd (upd iv 21 (nI k21_116)) 22 p22_117) 25 (nI k25_118)) 29 (nI k29_119)) 30 (nI k30_120)) 31 (nI k31_121)) (uF (uF (uF (uF (uF fv 15 f15_6) 16 f16_7) 17 (fv 17)) 19 f19_122) 28 f28_123) gv) H := hP
    have hD : va_D A (mw h0 ad cs (upd (upd (upd (upd (upd (upd iv 21 (nI k21_116)) 22 p22_117) 25 (nI k25_118)) 29 (nI k29_119)) 30 (nI k30_120)) 31 (nI k31_121)) (uF (uF (uF (uF (uF fv 15 f15_6) 16 f16_7) 17 (fv 17)) 19 f19_122) 28 f28_123) gv) := hD
    exact W.vret hx hb hr (fun t ht hW => ⟨⟨(), rfl, trivial, k21_116, p22_117, nI k25_118, nI k29_119, nI k30_120, nI k31_121, f15_6, f16_7, fv 17, f19_122, f28_123, by omega, q_127, q_11, Or.inl (by omega), (by exfalso; omega), fun _ _ => rfl, (by exfalso; omega), by rw [ht]; exact hP, va_K.moved hW.alike hK, hD⟩, hS.F ht⟩) hS.2.2 dX9_reads_40
  have d_225 := n_eq (a := k21_3) (b := 0) (by omega) (by omega) c_15
  refine lv_aload_n hx hb dX9_reads_16 rfl (lv_at hl 0 rfl) ?_
  refine lv_bipush (v := 58) hx hb dX9_reads_17 (by decide) ?_
  have hFc := free_all hD hS hA
  refine va_callv (va_runV (As := [.int 58]) (rest := []) ⟨hx, hb, hml, hown, hts⟩ (m_must l D h0 ad cs (upd (upd (upd iv 21 (nI k21_3)) 22 p22_4) 25 (nI k25_5)) (uF (uF fv 15 f15_6) 16 f16_7) gv k21_3 k25_5 n26 58 H.size rfl rfl h26 (by omega) (by omega) (by omega) (by decide)) (cwV 1 hts gX9_reads_X9_must rfl rfl rfl (by decide +kernel) ⟨Nat.le_of_ble_eq_true rfl, Nat.le_of_ble_eq_true rfl⟩) ⟨fun a U g mk q => by obtain ⟨q0, q1, qP, qK, qD⟩ := q; exact ⟨q0, q1, qP, va_K.moved (u := U) (U := U.calling g mk a) (Vm.Alike.refl U.vm) qK, qD⟩, va_recv hK hP (ci := 9) (q0 := 0) rfl rfl, fun U hU hW => ⟨rfl, by rw [hU], by rw [hU]; exact hP, va_K.moved hW.alike hK, hD.weaken (fun _ _ _ _ => trivial)⟩⟩ rfl rfl hl.1 rfl (lv_room (Nat.le_of_ble_eq_true rfl)) dX9_reads_19 ⟨Nat.le_of_ble_eq_true rfl, Nat.le_of_ble_eq_true rfl⟩) hS (fun q _ h => hFc q h) hFc (fun u t H1 locs ht hvm w_227 hB hz1 hk1 hS => ?_)
  obtain ⟨k21_228, p22_229, k25_230, q_231, q_232, q_233, q_234, hP1, hK1, hD1⟩ := hB
  replace q_234 : (k21_3 = 0 → ((skB ((fv 0)) n26 k25_5 < n26 ∧ (fv 0) (skB ((fv 0)) n26 k25_5) = 58) ∧ k21_228 = 0 ∧ p22_229 = (p22_4) ∧ k25_230 = skB ((fv 0)) n26 k25_5 + 1) ∨ (¬ (skB ((fv 0)) n26 k25_5 < n26 ∧ (fv 0) (skB ((fv 0)) n26 k25_5) = 58) ∧ k21_228 = 1 ∧ p22_229 = nI (skB ((fv 0)) n26 k25_5))) := q_234
  rw [ht] at hP1
  have hK := va_K.moved hvm.symm hK1
  generalize H1 = H at hP1 hS ⊢
  have hP : va_P D vwCl (mw h0 ad cs (upd (upd (upd iv 21 (nI k21_228)) 22 p22_229) 25 (nI k25_230)) (uF (uF fv 15 f15_6) 16 f16_7) gv) H := hP1
  have hD : va_D A (mw h0 ad cs (upd (upd (upd iv 21 (nI k21_228)) 22 p22_229) 25 (nI k25_230)) (uF (uF fv 15 f15_6) 16 f16_7) gv) := hD1.weaken (fun _ _ _ h => hFc _ h)
  refine lv_aload_n hx hb dX9_reads_22 rfl (lv_at hl 0 rfl) ?_
  refine va_get (D := D) (ci := 9) (v := .int (nI k21_228)) (C := RX9) (T := TX9) (N := 44) hx hb hts hin9 hown hK hP 0 rfl rfl 21 (by decide) (hts (.fieldLink RX9 74 "HoneyHouseModel" "faultKind" "I") (List.mem_of_getElem? (i := 2) rfl)) (fun _ h9 => h9) rfl dX9_reads_23 ?_
  refine lv_if_ne (tgt := 33) hx hb dX9_reads_26 (by decide) (fun c_235 => ?_) (fun c_235 => ?_)
  · have d_236 := n_ne (a := k21_228) (b := 0) (by omega) (by omega) c_235
    refine lv_aload_n hx hb dX9_reads_33 rfl (lv_at hl 0 rfl) ?_
    refine va_get (D := D) (ci := 9) (v := .int (nI k21_228)) (C := RX9) (T := TX9) (N := 44) hx hb hts hin9 hown hK hP 0 rfl rfl 21 (by decide) (hts (.fieldLink RX9 74 "HoneyHouseModel" "faultKind" "I") (List.mem_of_getElem? (i := 2) rfl)) (fun _ h9 => h9) rfl dX9_reads_34 ?_
    refine lv_if_le (tgt := 41) hx hb dX9_reads_37 (by decide) (fun c_237 => ?_) (fun c_237 => ?_)
    · have d_238 := n_le (a := k21_228) (b := 0) (by omega) (by omega) c_237
      refine lv_aload_n hx hb dX9_reads_41 rfl (lv_at hl 0 rfl) ?_
      have hFc := free_all hD hS hA
      refine va_calli (va_runV (As := []) (rest := []) ⟨hx, hb, hml, hown, hts⟩ (m_peek l D h0 ad cs (upd (upd (upd iv 21 (nI k21_228)) 22 p22_229) 25 (nI k25_230)) (uF (uF fv 15 f15_6) 16 f16_7) gv k25_230 n26  H.size rfl h26 (by omega) (by omega)) (cwV 0 hts gX9_reads_X9_peek rfl rfl rfl (by decide +kernel) ⟨Nat.le_of_ble_eq_true rfl, Nat.le_of_ble_eq_true rfl⟩) ⟨fun a U g mk q => by obtain ⟨q0, q1, qP, qK, qD⟩ := q; exact ⟨q0, q1, qP, va_K.moved (u := U) (U := U.calling g mk a) (Vm.Alike.refl U.vm) qK, qD⟩, va_recv hK hP (ci := 9) (q0 := 0) rfl rfl, fun U hU hW => ⟨rfl, by rw [hU], by rw [hU]; exact hP, va_K.moved hW.alike hK, hD.weaken (fun _ _ _ _ => trivial)⟩⟩ rfl rfl hl.1 rfl (lv_room (Nat.le_of_ble_eq_true rfl)) dX9_reads_42 ⟨Nat.le_of_ble_eq_true rfl, Nat.le_of_ble_eq_true rfl⟩) hS (fun q _ h => hFc q h) hFc (fun r_239 u t H1 locs ht hvm w_240 hB hz1 hk1 hS => ?_)
      subst w_240
      obtain ⟨k25_241, q_242, q_243, q_244, q_245, q_246, hP1, hK1, hD1⟩ := hB
      replace q_244 : (k25_230 = n26 ∨ ¬ blk ((fv 0) k25_230)) → k25_241 = k25_230 := q_244
      replace q_245 : PKD ((fv 0)) n26 k25_241 r_239 := q_245
      replace q_246 : isRn blk ((fv 0)) n26 k25_230 k25_241 := q_246
      rw [ht] at hP1
      have hK := va_K.moved hvm.symm hK1
      generalize H1 = H at hP1 hS ⊢
      have hP : va_P D vwCl (mw h0 ad cs (upd (upd (upd iv 21 (nI k21_228)) 22 p22_229) 25 (nI k25_241)) (uF (uF fv 15 f15_6) 16 f16_7) gv) H := hP1
      have hD : va_D A (mw h0 ad cs (upd (upd (upd iv 21 (nI k21_228)) 22 p22_229) 25 (nI k25_241)) (uF (uF fv 15 f15_6) 16 f16_7) gv) := hD1.weaken (fun _ _ _ h => hFc _ h)
      rcases q_245 with ⟨rfl, hw_251⟩ | ⟨c_247, e_248, rfl, he_249, hc_250, hw_251⟩
      · refine lv_if_eq (tgt := 58) hx hb dX9_reads_45 (by decide) (fun c_252 => absurd c_252 (by decide)) (fun c_252 => ?_)
        refine lv_aload_n hx hb dX9_reads_48 rfl (lv_at hl 0 rfl) ?_
        refine lv_iconst (v := 1) hx hb dX9_reads_49 (by decide) ?_
        refine lv_aload_n hx hb dX9_reads_50 rfl (lv_at hl 0 rfl) ?_
        refine va_get (D := D) (ci := 9) (v := .int (nI k25_241)) (C := RX9) (T := TX9) (N := 44) hx hb hts hin9 hown hK hP 0 rfl rfl 25 (by decide) (hts (.fieldLink RX9 87 "HoneyHouseModel" "at" "I") (List.mem_of_getElem? (i := 1) rfl)) (fun _ h9 => h9) rfl dX9_reads_51 ?_
        have hFc := free_all hD hS hA
        refine va_callv (va_runV (As := [.int 1, .int (nI k25_241)]) (rest := []) ⟨hx, hb, hml, hown, hts⟩ (m_blame l D h0 ad cs (upd (upd (upd iv 21 (nI k21_228)) 22 p22_229) 25 (nI k25_241)) (uF (uF fv 15 f15_6) 16 f16_7) gv k21_228 1 (nI k25_241) H.size rfl (by omega) (by omega)) (cwV 2 hts gX9_reads_X9_blame rfl rfl rfl (by decide +kernel) ⟨Nat.le_of_ble_eq_true rfl, Nat.le_of_ble_eq_true rfl⟩) ⟨fun a U g mk q => by obtain ⟨q0, q1, qP, qK, qD⟩ := q; exact ⟨q0, q1, qP, va_K.moved (u := U) (U := U.calling g mk a) (Vm.Alike.refl U.vm) qK, qD⟩, va_recv hK hP (ci := 9) (q0 := 0) rfl rfl, fun U hU hW => ⟨rfl, by rw [hU], by rw [hU]; exact hP, va_K.moved hW.alike hK, hD.weaken (fun _ _ _ _ => trivial)⟩⟩ rfl rfl hl.1 rfl (lv_room (Nat.le_of_ble_eq_true rfl)) dX9_reads_54 ⟨Nat.le_of_ble_eq_true rfl, Nat.le_of_ble_eq_true rfl⟩) hS (fun q _ h => hFc q h) hFc (fun u t H1 locs ht hvm w_254 hB hz1 hk1 hS => ?_)
        obtain ⟨k21_255, p22_256, q_257, q_258, q_259, hP1, hK1, hD1⟩ := hB
        replace q_259 : (k21_228 = 0 → k21_255 = 1 ∧ p22_256 = (nI k25_241)) ∧ (¬ k21_228 = 0 → k21_255 = k21_228 ∧ p22_256 = (p22_229)) := q_259
        rw [ht] at hP1
        have hK := va_K.moved hvm.symm hK1
        generalize H1 = H at hP1 hS ⊢
        have hP : va_P D vwCl (mw h0 ad cs (upd (upd (upd iv 21 (nI k21_255)) 22 p22_256) 25 (nI k25_241)) (uF (uF fv 15 f15_6) 16 f16_7) gv) H := hP1
        have hD : va_D A (mw h0 ad cs (upd (upd (upd iv 21 (nI k21_255)) 22 p22_256) 25 (nI k25_241)) (uF (uF fv 15 f15_6) 16 f16_7) gv) := hD1.weaken (fun _ _ _ h => hFc _ h)
        have hP : va_P D vwCl (mw h0 ad cs (upd (upd (upd (upd (upd (upd iv 21 (nI k21_255)) 22 p22_256) 25 (nI k25_241)) 29 (iv 29)) 30 (iv 30)) 31 (iv 31)) (uF (uF (uF (uF (uF fv 15 f15_6) 16 f16_7) 17 (fv 17)) 19 (fv 19)) 28 (fv 28)) gv) H := hP
        have hD : va_D A (mw h0 ad cs (upd (upd (upd (upd (upd (upd iv 21 (nI k21_255)) 22 p22_256) 25 (nI k25_241)) 29 (iv 29)) 30 (iv 30)) 31 (iv 31)) (uF (uF (uF (uF (uF fv 15 f15_6) 16 f16_7) 17 (fv 17)) 19 (fv 19)) 28 (fv 28)) gv) := hD
        exact W.vret hx hb hr (fun t ht hW => ⟨⟨(), rfl, trivial, k21_255, p22_256, nI k25_241, iv 29, iv 30, iv 31, f15_6, f16_7, fv 17, fv 19, fv 28, by omega, fun i h9 => rfl, q_11, Or.inl (by omega), (by exfalso; omega), fun _ _ => rfl, fun h9 => absurd h9 (by omega), by rw [ht]; exact hP, va_K.moved hW.alike hK, hD⟩, hS.F ht⟩) hS.2.2 dX9_reads_57
      have he_249b : k25_241 ≤ e_248 ∧ e_248 ≤ n26 := ⟨he_249.1, he_249.2.1⟩
      refine lv_if_eq (tgt := 58) hx hb dX9_reads_45 (by decide) (fun c_260 => ?_) (fun c_260 => ?_)
      · have d_261 := n_eq (a := c_247) (b := 0) (by omega) (by omega) c_260
        refine lv_aload_n hx hb dX9_reads_58 rfl (lv_at hl 0 rfl) ?_
        refine lv_aload_n hx hb dX9_reads_59 rfl (lv_at hl 0 rfl) ?_
        refine vp_callSi (W.runV (As := []) (rest := [.ref h0]) ⟨hx, hb, hml, hown, hts⟩ (m_wordEnd l D h0 ad cs (upd (upd (upd iv 21 (nI k21_228)) 22 p22_229) 25 (nI k25_241)) (uF (uF fv 15 f15_6) 16 f16_7) gv k25_241 n26  rfl h26 (by omega) (by omega)) (cwV 0 hts gX9_reads_X9_wordEnd rfl rfl rfl (by decide +kernel) ⟨Nat.le_of_ble_eq_true rfl, Nat.le_of_ble_eq_true rfl⟩) ⟨fun a U g mk q => ⟨q.1, q.2.1, va_K.moved (u := U) (U := U.calling g mk a) (Vm.Alike.refl U.vm) q.2.2⟩, va_recv hK hP (ci := 9) (q0 := 0) rfl rfl, fun U hU hW => ⟨rfl, by rw [hU]; exact hP, va_K.moved hW.alike hK⟩⟩ rfl rfl hl.1 rfl (lv_room (Nat.le_of_ble_eq_true rfl)) dX9_reads_60 ⟨Nat.le_of_ble_eq_true rfl, Nat.le_of_ble_eq_true rfl⟩) (fun r_262 k_263 => ?_)
        obtain ⟨e_264, rfl, he_265⟩ := k_263
        have hq_e_264 : e_264 = e_248 := he_265.uq he_249
        refine va_put (D := D) (ci := 9) (v := .int (nI e_264)) (ty := .int) (C := RX9) (T := TX9) (N := 44) hx hb hts hin9 tyX9 tyX9_ok nmX9 hown hK hP hD hS 0 rfl rfl 25 (by decide) (hts (.fieldLink RX9 87 "HoneyHouseModel" "at" "I") (List.mem_of_getElem? (i := 1) rfl)) (fun _ h9 => h9) rfl (tyX9_ok 25 (by decide)) rfl rfl (Nat.le_of_ble_eq_true rfl) dX9_reads_63 (fun H locs hP hD hS => ?_)
        have hP : va_P D vwCl (mw h0 ad cs (upd (upd (upd iv 21 (nI k21_228)) 22 p22_229) 25 (nI e_264)) (uF (uF fv 15 f15_6) 16 f16_7) gv) H := hP
        have hD : va_D A (mw h0 ad cs (upd (upd (upd iv 21 (nI k21_228)) 22 p22_229) 25 (nI e_264)) (uF (uF fv 15 f15_6) 16 f16_7) gv) := hD
        refine lv_aload_n hx hb dX9_reads_66 rfl (lv_at hl 0 rfl) ?_
        refine va_get (D := D) (ci := 9) (v := .ref (ad 17)) (C := RX9) (T := TX9) (N := 44) hx hb hts hin9 hown hK hP 0 rfl rfl 17 (by decide) (hts (.fieldLink RX9 62 "HoneyHouseModel" "from" "[I") (List.mem_of_getElem? (i := 3) rfl)) (fun _ h9 => h9) rfl dX9_reads_67 ?_
        refine lv_aload_n hx hb dX9_reads_70 rfl (lv_at hl 0 rfl) ?_
        refine va_get (D := D) (ci := 9) (v := .int (iv 14)) (C := RX9) (T := TX9) (N := 44) hx hb hts hin9 hown hK hP 0 rfl rfl 14 (by decide) (hts (.fieldLink RX9 53 "HoneyHouseModel" "rules" "I") (List.mem_of_getElem? (i := 4) rfl)) (fun _ h9 => h9) rfl dX9_reads_71 ?_
        refine tp_i (y := nI n14) (h14) ?_
        refine lv_aload_n hx hb dX9_reads_74 rfl (lv_at hl 0 rfl) ?_
        refine lv_sipush (v := 30000) hx hb dX9_reads_75 (by decide) ?_
        have hFc := free_all hD hS hA
        refine va_calli (va_runV (As := [.int 30000]) (rest := [.int (nI n14), .ref (ad 17)]) ⟨hx, hb, hml, hown, hts⟩ (m_number l D h0 ad cs (upd (upd (upd iv 21 (nI k21_228)) 22 p22_229) 25 (nI e_264)) (uF (uF fv 15 f15_6) 16 f16_7) gv k21_228 e_264 n26 30000 H.size rfl rfl h26 (by omega) (by omega) (by omega) (by omega)) (cwV 1 hts gX9_reads_X9_number rfl rfl rfl (by decide +kernel) ⟨Nat.le_of_ble_eq_true rfl, Nat.le_of_ble_eq_true rfl⟩) ⟨fun a U g mk q => by obtain ⟨q0, q1, qP, qK, qD⟩ := q; exact ⟨q0, q1, qP, va_K.moved (u := U) (U := U.calling g mk a) (Vm.Alike.refl U.vm) qK, qD⟩, va_recv hK hP (ci := 9) (q0 := 0) rfl rfl, fun U hU hW => ⟨rfl, by rw [hU], by rw [hU]; exact hP, va_K.moved hW.alike hK, hD.weaken (fun _ _ _ _ => trivial)⟩⟩ rfl rfl hl.1 rfl (lv_room (Nat.le_of_ble_eq_true rfl)) dX9_reads_78 ⟨Nat.le_of_ble_eq_true rfl, Nat.le_of_ble_eq_true rfl⟩) hS (fun q _ h => hFc q h) hFc (fun r_266 u t H1 locs ht hvm w_267 hB hz1 hk1 hS => ?_)
        subst w_267
        obtain ⟨k21_268, p22_269, k25_270, q_271, q_272, q_273, q_274, q_275, q_276, hP1, hK1, hD1⟩ := hB
        replace q_275 : NUX ((fv 0)) n26 30000 (skB ((fv 0)) n26 e_264) k21_268 p22_269 k25_270 r_266 := q_275
        replace q_276 : k21_268 = 0 → p22_269 = (p22_229) := q_276
        rw [ht] at hP1
        have hK := va_K.moved hvm.symm hK1
        generalize H1 = H at hP1 hS ⊢
        have hP : va_P D vwCl (mw h0 ad cs (upd (upd (upd iv 21 (nI k21_268)) 22 p22_269) 25 (nI k25_270)) (uF (uF fv 15 f15_6) 16 f16_7) gv) H := hP1
        have hD : va_D A (mw h0 ad cs (upd (upd (upd iv 21 (nI k21_268)) 22 p22_269) 25 (nI k25_270)) (uF (uF fv 15 f15_6) 16 f16_7) gv) := hD1.weaken (fun _ _ _ h => hFc _ h)
        rcases q_274 with hp_277 | ⟨rfl, hg_279⟩
        · obtain ⟨P_282, hP_283, hnr_284⟩ := q_275.no (by omega)
          refine va_iast (f := fv 17) (n := 16) hx hb hK hP hD hS 13 12 rfl rfl (vp_in_nI (n := n14) (by omega) (by omega)) dX9_reads_81 (fun H locs hP hD hS => ?_)
          have hP : va_P D vwCl (mw h0 ad cs (upd (upd (upd iv 21 (nI k21_268)) 22 p22_269) 25 (nI k25_270)) (uF (uF (uF fv 15 f15_6) 16 f16_7) 17 (upd (fv 17) (nI n14).toNatClampNeg r_266)) gv) H := hP
          have hD : va_D A (mw h0 ad cs (upd (upd (upd iv 21 (nI k21_268)) 22 p22_269) 25 (nI k25_270)) (uF (uF (uF fv 15 f15_6) 16 f16_7) 17 (upd (fv 17) (nI n14).toNatClampNeg r_266)) gv) := hD
          obtain ⟨f_285, hf_286⟩ : ∃ g9, g9 = upd (fv 17) (nI n14).toNatClampNeg r_266 := ⟨_, rfl⟩
          rw [← hf_286] at hP hD
          rw [nI_clamp (n := n14) (by omega)] at hf_286
          refine lv_aload_n hx hb dX9_reads_82 rfl (lv_at hl 0 rfl) ?_
          refine va_get (D := D) (ci := 9) (v := .int (nI k21_268)) (C := RX9) (T := TX9) (N := 44) hx hb hts hin9 hown hK hP 0 rfl rfl 21 (by decide) (hts (.fieldLink RX9 74 "HoneyHouseModel" "faultKind" "I") (List.mem_of_getElem? (i := 2) rfl)) (fun _ h9 => h9) rfl dX9_reads_83 ?_
          refine lv_if_ne (tgt := 95) hx hb dX9_reads_86 (by decide) (fun c_287 => ?_) (fun c_287 => absurd c_287 (nI_ne0 (n := k21_268) (by omega) (by omega)))
          refine lv_aload_n hx hb dX9_reads_95 rfl (lv_at hl 0 rfl) ?_
          refine va_get (D := D) (ci := 9) (v := .int (nI k21_268)) (C := RX9) (T := TX9) (N := 44) hx hb hts hin9 hown hK hP 0 rfl rfl 21 (by decide) (hts (.fieldLink RX9 74 "HoneyHouseModel" "faultKind" "I") (List.mem_of_getElem? (i := 2) rfl)) (fun _ h9 => h9) rfl dX9_reads_96 ?_
          refine lv_if_ne (tgt := 119) hx hb dX9_reads_99 (by decide) (fun c_288 => ?_) (fun c_288 => absurd c_288 (nI_ne0 (n := k21_268) (by omega) (by omega)))
          have hP : va_P D vwCl (mw h0 ad cs (upd (upd (upd (upd (upd (upd iv 21 (nI k21_268)) 22 p22_269) 25 (nI k25_270)) 29 (iv 29)) 30 (iv 30)) 31 (iv 31)) (uF (uF (uF (uF (uF fv 15 f15_6) 16 f16_7) 17 f_285) 19 (fv 19)) 28 (fv 28)) gv) H := hP
          have hD : va_D A (mw h0 ad cs (upd (upd (upd (upd (upd (upd iv 21 (nI k21_268)) 22 p22_269) 25 (nI k25_270)) 29 (iv 29)) 30 (iv 30)) 31 (iv 31)) (uF (uF (uF (uF (uF fv 15 f15_6) 16 f16_7) 17 f_285) 19 (fv 19)) 28 (fv 28)) gv) := hD
          exact W.vret hx hb hr (fun t ht hW => ⟨⟨(), rfl, trivial, k21_268, p22_269, nI k25_270, iv 29, iv 30, iv 31, f15_6, f16_7, f_285, fv 19, fv 28, by omega, fun i h9 => rfl, q_11, Or.inl (by omega), (by exfalso; omega), fun i h9 => by rw [hf_286]; exact up_ne h9, fun h9 => absurd h9 (by omega), by rw [ht]; exact hP, va_K.moved hW.alike hK, hD⟩, hS.F ht⟩) hS.2.2 dX9_reads_119
        obtain ⟨v_280, hv_281, rfl, hnr_284⟩ := q_275.ok
        have pe_289 : p22_269 = p22_229 := q_276 rfl
        refine va_iast (f := fv 17) (n := 16) hx hb hK hP hD hS 13 12 rfl rfl (vp_in_nI (n := n14) (by omega) (by omega)) dX9_reads_81 (fun H locs hP hD hS => ?_)
        have hP : va_P D vwCl (mw h0 ad cs (upd (upd (upd iv 21 (nI 0)) 22 p22_269) 25 (nI k25_270)) (uF (uF (uF fv 15 f15_6) 16 f16_7) 17 (upd (fv 17) (nI n14).toNatClampNeg (nI v_280))) gv) H := hP
        have hD : va_D A (mw h0 ad cs (upd (upd (upd iv 21 (nI 0)) 22 p22_269) 25 (nI k25_270)) (uF (uF (uF fv 15 f15_6) 16 f16_7) 17 (upd (fv 17) (nI n14).toNatClampNeg (nI v_280))) gv) := hD
        obtain ⟨f_290, hf_291⟩ : ∃ g9, g9 = upd (fv 17) (nI n14).toNatClampNeg (nI v_280) := ⟨_, rfl⟩
        rw [← hf_291] at hP hD
        rw [nI_clamp (n := n14) (by omega)] at hf_291
        refine lv_aload_n hx hb dX9_reads_82 rfl (lv_at hl 0 rfl) ?_
        refine va_get (D := D) (ci := 9) (v := .int (nI 0)) (C := RX9) (T := TX9) (N := 44) hx hb hts hin9 hown hK hP 0 rfl rfl 21 (by decide) (hts (.fieldLink RX9 74 "HoneyHouseModel" "faultKind" "I") (List.mem_of_getElem? (i := 2) rfl)) (fun _ h9 => h9) rfl dX9_reads_83 ?_
        refine lv_if_ne (tgt := 95) hx hb dX9_reads_86 (by decide) (fun c_292 => absurd (by decide) c_292) (fun c_292 => ?_)
        refine lv_aload_n hx hb dX9_reads_89 rfl (lv_at hl 0 rfl) ?_
        refine lv_bipush (v := 59) hx hb dX9_reads_90 (by decide) ?_
        have hFc := free_all hD hS hA
        refine va_callv (va_runV (As := [.int 59]) (rest := []) ⟨hx, hb, hml, hown, hts⟩ (m_must l D h0 ad cs (upd (upd (upd iv 21 (nI 0)) 22 p22_269) 25 (nI k25_270)) (uF (uF (uF fv 15 f15_6) 16 f16_7) 17 f_290) gv 0 k25_270 n26 59 H.size rfl rfl h26 (by omega) (by omega) (by omega) (by decide)) (cwV 1 hts gX9_reads_X9_must rfl rfl rfl (by decide +kernel) ⟨Nat.le_of_ble_eq_true rfl, Nat.le_of_ble_eq_true rfl⟩) ⟨fun a U g mk q => by obtain ⟨q0, q1, qP, qK, qD⟩ := q; exact ⟨q0, q1, qP, va_K.moved (u := U) (U := U.calling g mk a) (Vm.Alike.refl U.vm) qK, qD⟩, va_recv hK hP (ci := 9) (q0 := 0) rfl rfl, fun U hU hW => ⟨rfl, by rw [hU], by rw [hU]; exact hP, va_K.moved hW.alike hK, hD.weaken (fun _ _ _ _ => trivial)⟩⟩ rfl rfl hl.1 rfl (lv_room (Nat.le_of_ble_eq_true rfl)) dX9_reads_92 ⟨Nat.le_of_ble_eq_true rfl, Nat.le_of_ble_eq_true rfl⟩) hS (fun q _ h => hFc q h) hFc (fun u t H1 locs ht hvm w_294 hB hz1 hk1 hS => ?_)
        obtain ⟨k21_295, p22_296, k25_297, q_298, q_299, q_300, q_301, hP1, hK1, hD1⟩ := hB
        replace q_301 : (0 = 0 → ((skB ((fv 0)) n26 k25_270 < n26 ∧ (fv 0) (skB ((fv 0)) n26 k25_270) = 59) ∧ k21_295 = 0 ∧ p22_296 = (p22_269) ∧ k25_297 = skB ((fv 0)) n26 k25_270 + 1) ∨ (¬ (skB ((fv 0)) n26 k25_270 < n26 ∧ (fv 0) (skB ((fv 0)) n26 k25_270) = 59) ∧ k21_295 = 1 ∧ p22_296 = nI (skB ((fv 0)) n26 k25_270))) := q_301
        rw [ht] at hP1
        have hK := va_K.moved hvm.symm hK1
        generalize H1 = H at hP1 hS ⊢
        have hP : va_P D vwCl (mw h0 ad cs (upd (upd (upd iv 21 (nI k21_295)) 22 p22_296) 25 (nI k25_297)) (uF (uF (uF fv 15 f15_6) 16 f16_7) 17 f_290) gv) H := hP1
        have hD : va_D A (mw h0 ad cs (upd (upd (upd iv 21 (nI k21_295)) 22 p22_296) 25 (nI k25_297)) (uF (uF (uF fv 15 f15_6) 16 f16_7) 17 f_290) gv) := hD1.weaken (fun _ _ _ h => hFc _ h)
        refine lv_aload_n hx hb dX9_reads_95 rfl (lv_at hl 0 rfl) ?_
        refine va_get (D := D) (ci := 9) (v := .int (nI k21_295)) (C := RX9) (T := TX9) (N := 44) hx hb hts hin9 hown hK hP 0 rfl rfl 21 (by decide) (hts (.fieldLink RX9 74 "HoneyHouseModel" "faultKind" "I") (List.mem_of_getElem? (i := 2) rfl)) (fun _ h9 => h9) rfl dX9_reads_96 ?_
        refine lv_if_ne (tgt := 119) hx hb dX9_reads_99 (by decide) (fun c_302 => ?_) (fun c_302 => ?_)
        · have d_303 := n_ne (a := k21_295) (b := 0) (by omega) (by omega) c_302
          have hP : va_P D vwCl (mw h0 ad cs (upd (upd (upd (upd (upd (upd iv 21 (nI k21_295)) 22 p22_296) 25 (nI k25_297)) 29 (iv 29)) 30 (iv 30)) 31 (iv 31)) (uF (uF (uF (uF (uF fv 15 f15_6) 16 f16_7) 17 f_290) 19 (fv 19)) 28 (fv 28)) gv) H := hP
          have hD : va_D A (mw h0 ad cs (upd (upd (upd (upd (upd (upd iv 21 (nI k21_295)) 22 p22_296) 25 (nI k25_297)) 29 (iv 29)) 30 (iv 30)) 31 (iv 31)) (uF (uF (uF (uF (uF fv 15 f15_6) 16 f16_7) 17 f_290) 19 (fv 19)) 28 (fv 28)) gv) := hD
          exact W.vret hx hb hr (fun t ht hW => ⟨⟨(), rfl, trivial, k21_295, p22_296, nI k25_297, iv 29, iv 30, iv 31, f15_6, f16_7, f_290, fv 19, fv 28, by omega, fun i h9 => rfl, q_11, Or.inl (by omega), (by exfalso; omega), fun i h9 => by rw [hf_291]; exact up_ne h9, (by exfalso; omega), by rw [ht]; exact hP, va_K.moved hW.alike hK, hD⟩, hS.F ht⟩) hS.2.2 dX9_reads_119
        have d_304 := n_eq (a := k21_295) (b := 0) (by omega) (by omega) c_302
        refine lv_aload_n hx hb dX9_reads_102 rfl (lv_at hl 0 rfl) ?_
        have hFc := free_all hD hS hA
        refine va_calli (va_runV (As := []) (rest := []) ⟨hx, hb, hml, hown, hts⟩ (m_here l D h0 ad cs (upd (upd (upd iv 21 (nI k21_295)) 22 p22_296) 25 (nI k25_297)) (uF (uF (uF fv 15 f15_6) 16 f16_7) 17 f_290) gv k25_297 n26  H.size rfl h26 (by omega) (by omega)) (cwV 0 hts gX9_reads_X9_here rfl rfl rfl (by decide +kernel) ⟨Nat.le_of_ble_eq_true rfl, Nat.le_of_ble_eq_true rfl⟩) ⟨fun a U g mk q => by obtain ⟨q0, q1, qP, qK, qD⟩ := q; exact ⟨q0, q1, qP, va_K.moved (u := U) (U := U.calling g mk a) (Vm.Alike.refl U.vm) qK, qD⟩, va_recv hK hP (ci := 9) (q0 := 0) rfl rfl, fun U hU hW => ⟨rfl, by rw [hU], by rw [hU]; exact hP, va_K.moved hW.alike hK, hD.weaken (fun _ _ _ _ => trivial)⟩⟩ rfl rfl hl.1 rfl (lv_room (Nat.le_of_ble_eq_true rfl)) dX9_reads_103 ⟨Nat.le_of_ble_eq_true rfl, Nat.le_of_ble_eq_true rfl⟩) hS (fun q _ h => hFc q h) hFc (fun r_305 u t H1 locs ht hvm w_306 hB hz1 hk1 hS => ?_)
        subst w_306
        obtain ⟨k25_307, q_308, q_309, q_310, q_311, q_312, q_313, hP1, hK1, hD1⟩ := hB
        replace q_310 : k25_307 = n26 ∨ ¬ blk ((fv 0) k25_307) := q_310
        replace q_311 : (k25_297 = n26 ∨ ¬ blk ((fv 0) k25_297)) → k25_307 = k25_297 := q_311
        replace q_312 : (r_305 = (-1) ∧ k25_307 = n26) ∨ (k25_307 < n26 ∧ r_305 = (fv 0) k25_307) := q_312
        replace q_313 : isRn blk ((fv 0)) n26 k25_297 k25_307 := q_313
        rw [ht] at hP1
        have hK := va_K.moved hvm.symm hK1
        generalize H1 = H at hP1 hS ⊢
        have hP : va_P D vwCl (mw h0 ad cs (upd (upd (upd iv 21 (nI k21_295)) 22 p22_296) 25 (nI k25_307)) (uF (uF (uF fv 15 f15_6) 16 f16_7) 17 f_290) gv) H := hP1
        have hD : va_D A (mw h0 ad cs (upd (upd (upd iv 21 (nI k21_295)) 22 p22_296) 25 (nI k25_307)) (uF (uF (uF fv 15 f15_6) 16 f16_7) 17 f_290) gv) := hD1.weaken (fun _ _ _ h => hFc _ h)
        refine lv_iconst (v := (-1)) hx hb dX9_reads_106 (by decide) ?_
        refine lv_icmp_eq (tgt := 119) hx hb dX9_reads_107 (by decide) (fun c_314 => ?_) (fun c_314 => ?_)
        · have hP : va_P D vwCl (mw h0 ad cs (upd (upd (upd (upd (upd (upd iv 21 (nI k21_295)) 22 p22_296) 25 (nI k25_307)) 29 (iv 29)) 30 (iv 30)) 31 (iv 31)) (uF (uF (uF (uF (uF fv 15 f15_6) 16 f16_7) 17 f_290) 19 (fv 19)) 28 (fv 28)) gv) H := hP
          have hD : va_D A (mw h0 ad cs (upd (upd (upd (upd (upd (upd iv 21 (nI k21_295)) 22 p22_296) 25 (nI k25_307)) 29 (iv 29)) 30 (iv 30)) 31 (iv 31)) (uF (uF (uF (uF (uF fv 15 f15_6) 16 f16_7) 17 f_290) 19 (fv 19)) 28 (fv 28)) gv) := hD
          exact W.vret hx hb hr (fun t ht hW => ⟨⟨(), rfl, trivial, k21_295, p22_296, nI k25_307, iv 29, iv 30, iv 31, f15_6, f16_7, f_290, fv 19, fv 28, by omega, fun i h9 => rfl, q_11, Or.inl (by omega), (by exfalso; omega), fun i h9 => by rw [hf_291]; exact up_ne h9, (by exfalso; omega), by rw [ht]; exact hP, va_K.moved hW.alike hK, hD⟩, hS.F ht⟩) hS.2.2 dX9_reads_119
        refine lv_aload_n hx hb dX9_reads_110 rfl (lv_at hl 0 rfl) ?_
        refine lv_iconst (v := 1) hx hb dX9_reads_111 (by decide) ?_
        refine lv_aload_n hx hb dX9_reads_112 rfl (lv_at hl 0 rfl) ?_
        refine va_get (D := D) (ci := 9) (v := .int (nI k25_307)) (C := RX9) (T := TX9) (N := 44) hx hb hts hin9 hown hK hP 0 rfl rfl 25 (by decide) (hts (.fieldLink RX9 87 "HoneyHouseModel" "at" "I") (List.mem_of_getElem? (i := 1) rfl)) (fun _ h9 => h9) rfl dX9_reads_113 ?_
        have hFc := free_all hD hS hA
        refine va_callv (va_runV (As := [.int 1, .int (nI k25_307)]) (rest := []) ⟨hx, hb, hml, hown, hts⟩ (m_blame l D h0 ad cs (upd (upd (upd iv 21 (nI k21_295)) 22 p22_296) 25 (nI k25_307)) (uF (uF (uF fv 15 f15_6) 16 f16_7) 17 f_290) gv k21_295 1 (nI k25_307) H.size rfl (by omega) (by omega)) (cwV 2 hts gX9_reads_X9_blame rfl rfl rfl (by decide +kernel) ⟨Nat.le_of_ble_eq_true rfl, Nat.le_of_ble_eq_true rfl⟩) ⟨fun a U g mk q => by obtain ⟨q0, q1, qP, qK, qD⟩ := q; exact ⟨q0, q1, qP, va_K.moved (u := U) (U := U.calling g mk a) (Vm.Alike.refl U.vm) qK, qD⟩, va_recv hK hP (ci := 9) (q0 := 0) rfl rfl, fun U hU hW => ⟨rfl, by rw [hU], by rw [hU]; exact hP, va_K.moved hW.alike hK, hD.weaken (fun _ _ _ _ => trivial)⟩⟩ rfl rfl hl.1 rfl (lv_room (Nat.le_of_ble_eq_true rfl)) dX9_reads_116 ⟨Nat.le_of_ble_eq_true rfl, Nat.le_of_ble_eq_true rfl⟩) hS (fun q _ h => hFc q h) hFc (fun u t H1 locs ht hvm w_316 hB hz1 hk1 hS => ?_)
        obtain ⟨k21_317, p22_318, q_319, q_320, q_321, hP1, hK1, hD1⟩ := hB
        replace q_321 : (k21_295 = 0 → k21_317 = 1 ∧ p22_318 = (nI k25_307)) ∧ (¬ k21_295 = 0 → k21_317 = k21_295 ∧ p22_318 = (p22_296)) := q_321
        rw [ht] at hP1
        have hK := va_K.moved hvm.symm hK1
        generalize H1 = H at hP1 hS ⊢
        have hP : va_P D vwCl (mw h0 ad cs (upd (upd (upd iv 21 (nI k21_317)) 22 p22_318) 25 (nI k25_307)) (uF (uF (uF fv 15 f15_6) 16 f16_7) 17 f_290) gv) H := hP1
        have hD : va_D A (mw h0 ad cs (upd (upd (upd iv 21 (nI k21_317)) 22 p22_318) 25 (nI k25_307)) (uF (uF (uF fv 15 f15_6) 16 f16_7) 17 f_290) gv) := hD1.weaken (fun _ _ _ h => hFc _ h)
        have hP : va_P D vwCl (mw h0 ad cs (upd (upd (upd (upd (upd (upd iv 21 (nI k21_317)) 22 p22_318) 25 (nI k25_307)) 29 (iv 29)) 30 (iv 30)) 31 (iv 31)) (uF (uF (uF (uF (uF fv 15 f15_6) 16 f16_7) 17 f_290) 19 (fv 19)) 28 (fv 28)) gv) H := hP
        have hD : va_D A (mw h0 ad cs (upd (upd (upd (upd (upd (upd iv 21 (nI k21_317)) 22 p22_318) 25 (nI k25_307)) 29 (iv 29)) 30 (iv 30)) 31 (iv 31)) (uF (uF (uF (uF (uF fv 15 f15_6) 16 f16_7) 17 f_290) 19 (fv 19)) 28 (fv 28)) gv) := hD
        exact W.vret hx hb hr (fun t ht hW => ⟨⟨(), rfl, trivial, k21_317, p22_318, nI k25_307, iv 29, iv 30, iv 31, f15_6, f16_7, f_290, fv 19, fv 28, by omega, fun i h9 => rfl, q_11, Or.inl (by omega), (by exfalso; omega), fun i h9 => by rw [hf_291]; exact up_ne h9, fun h9 => absurd h9 (by omega), by rw [ht]; exact hP, va_K.moved hW.alike hK, hD⟩, hS.F ht⟩) hS.2.2 dX9_reads_119
      have d_322 := n_ne (a := c_247) (b := 0) (by omega) (by omega) c_260
      refine lv_aload_n hx hb dX9_reads_48 rfl (lv_at hl 0 rfl) ?_
      refine lv_iconst (v := 1) hx hb dX9_reads_49 (by decide) ?_
      refine lv_aload_n hx hb dX9_reads_50 rfl (lv_at hl 0 rfl) ?_
      refine va_get (D := D) (ci := 9) (v := .int (nI k25_241)) (C := RX9) (T := TX9) (N := 44) hx hb hts hin9 hown hK hP 0 rfl rfl 25 (by decide) (hts (.fieldLink RX9 87 "HoneyHouseModel" "at" "I") (List.mem_of_getElem? (i := 1) rfl)) (fun _ h9 => h9) rfl dX9_reads_51 ?_
      have hFc := free_all hD hS hA
      refine va_callv (va_runV (As := [.int 1, .int (nI k25_241)]) (rest := []) ⟨hx, hb, hml, hown, hts⟩ (m_blame l D h0 ad cs (upd (upd (upd iv 21 (nI k21_228)) 22 p22_229) 25 (nI k25_241)) (uF (uF fv 15 f15_6) 16 f16_7) gv k21_228 1 (nI k25_241) H.size rfl (by omega) (by omega)) (cwV 2 hts gX9_reads_X9_blame rfl rfl rfl (by decide +kernel) ⟨Nat.le_of_ble_eq_true rfl, Nat.le_of_ble_eq_true rfl⟩) ⟨fun a U g mk q => by obtain ⟨q0, q1, qP, qK, qD⟩ := q; exact ⟨q0, q1, qP, va_K.moved (u := U) (U := U.calling g mk a) (Vm.Alike.refl U.vm) qK, qD⟩, va_recv hK hP (ci := 9) (q0 := 0) rfl rfl, fun U hU hW => ⟨rfl, by rw [hU], by rw [hU]; exact hP, va_K.moved hW.alike hK, hD.weaken (fun _ _ _ _ => trivial)⟩⟩ rfl rfl hl.1 rfl (lv_room (Nat.le_of_ble_eq_true rfl)) dX9_reads_54 ⟨Nat.le_of_ble_eq_true rfl, Nat.le_of_ble_eq_true rfl⟩) hS (fun q _ h => hFc q h) hFc (fun u t H1 locs ht hvm w_324 hB hz1 hk1 hS => ?_)
      obtain ⟨k21_325, p22_326, q_327, q_328, q_329, hP1, hK1, hD1⟩ := hB
      replace q_329 : (k21_228 = 0 → k21_325 = 1 ∧ p22_326 = (nI k25_241)) ∧ (¬ k21_228 = 0 → k21_325 = k21_228 ∧ p22_326 = (p22_229)) := q_329
      rw [ht] at hP1
      have hK := va_K.moved hvm.symm hK1
      generalize H1 = H at hP1 hS ⊢
      have hP : va_P D vwCl (mw h0 ad cs (upd (upd (upd iv 21 (nI k21_325)) 22 p22_326) 25 (nI k25_241)) (uF (uF fv 15 f15_6) 16 f16_7) gv) H := hP1
      have hD : va_D A (mw h0 ad cs (upd (upd (upd iv 21 (nI k21_325)) 22 p22_326) 25 (nI k25_241)) (uF (uF fv 15 f15_6) 16 f16_7) gv) := hD1.weaken (fun _ _ _ h => hFc _ h)
      have hP : va_P D vwCl (mw h0 ad cs (upd (upd (upd (upd (upd (upd iv 21 (nI k21_325)) 22 p22_326) 25 (nI k25_241)) 29 (iv 29)) 30 (iv 30)) 31 (iv 31)) (uF (uF (uF (uF (uF fv 15 f15_6) 16 f16_7) 17 (fv 17)) 19 (fv 19)) 28 (fv 28)) gv) H := hP
      have hD : va_D A (mw h0 ad cs (upd (upd (upd (upd (upd (upd iv 21 (nI k21_325)) 22 p22_326) 25 (nI k25_241)) 29 (iv 29)) 30 (iv 30)) 31 (iv 31)) (uF (uF (uF (uF (uF fv 15 f15_6) 16 f16_7) 17 (fv 17)) 19 (fv 19)) 28 (fv 28)) gv) := hD
      exact W.vret hx hb hr (fun t ht hW => ⟨⟨(), rfl, trivial, k21_325, p22_326, nI k25_241, iv 29, iv 30, iv 31, f15_6, f16_7, fv 17, fv 19, fv 28, by omega, fun i h9 => rfl, q_11, Or.inl (by omega), (by exfalso; omega), fun _ _ => rfl, fun h9 => absurd h9 (by omega), by rw [ht]; exact hP, va_K.moved hW.alike hK, hD⟩, hS.F ht⟩) hS.2.2 dX9_reads_57
    have d_330 := n_nle (a := k21_228) (b := 0) (by omega) (by omega) c_237
    have hP : va_P D vwCl (mw h0 ad cs (upd (upd (upd (upd (upd (upd iv 21 (nI k21_228)) 22 p22_229) 25 (nI k25_230)) 29 (iv 29)) 30 (iv 30)) 31 (iv 31)) (uF (uF (uF (uF (uF fv 15 f15_6) 16 f16_7) 17 (fv 17)) 19 (fv 19)) 28 (fv 28)) gv) H := hP
    have hD : va_D A (mw h0 ad cs (upd (upd (upd (upd (upd (upd iv 21 (nI k21_228)) 22 p22_229) 25 (nI k25_230)) 29 (iv 29)) 30 (iv 30)) 31 (iv 31)) (uF (uF (uF (uF (uF fv 15 f15_6) 16 f16_7) 17 (fv 17)) 19 (fv 19)) 28 (fv 28)) gv) := hD
    exact W.vret hx hb hr (fun t ht hW => ⟨⟨(), rfl, trivial, k21_228, p22_229, nI k25_230, iv 29, iv 30, iv 31, f15_6, f16_7, fv 17, fv 19, fv 28, by omega, fun i h9 => rfl, q_11, Or.inl (by omega), (rd_2 q_13 (by omega) (q_234 (by omega)) (by omega)), fun _ _ => rfl, fun h9 => (((q_234 (by omega)).elim (fun q9 => q9.2.2.1) (fun q9 => by omega)).trans (q_14 (by omega))), by rw [ht]; exact hP, va_K.moved hW.alike hK, hD⟩, hS.F ht⟩) hS.2.2 dX9_reads_40
  have d_331 := n_eq (a := k21_228) (b := 0) (by omega) (by omega) c_235
  refine lv_aload_n hx hb dX9_reads_29 rfl (lv_at hl 0 rfl) ?_
  have hFc := free_all hD hS hA
  refine va_callv (va_runV (As := []) (rest := []) ⟨hx, hb, hml, hown, hts⟩ (m_either l D h0 ad cs (upd (upd (upd iv 21 (nI k21_228)) 22 p22_229) 25 (nI k25_230)) (uF (uF fv 15 f15_6) 16 f16_7) gv n14 k21_228 k25_230 n26  H.size h14 rfl rfl h26 (by omega) (by omega) (by omega) (by omega)) (cwV 0 hts gX9_reads_X9_either rfl rfl rfl (by decide +kernel) ⟨Nat.le_of_ble_eq_true rfl, Nat.le_of_ble_eq_true rfl⟩) ⟨fun a U g mk q => by obtain ⟨q0, q1, qP, qK, qD⟩ := q; exact ⟨q0, q1, qP, va_K.moved (u := U) (U := U.calling g mk a) (Vm.Alike.refl U.vm) qK, qD⟩, va_recv hK hP (ci := 9) (q0 := 0) rfl rfl, fun U hU hW => ⟨rfl, by rw [hU], by rw [hU]; exact hP, va_K.moved hW.alike hK, hD.weaken (fun _ _ _ _ => trivial)⟩⟩ rfl rfl hl.1 rfl (lv_room (Nat.le_of_ble_eq_true rfl)) dX9_reads_30 ⟨Nat.le_of_ble_eq_true rfl, Nat.le_of_ble_eq_true rfl⟩) hS (fun q _ h => hFc q h) hFc (fun u t H1 locs ht hvm w_333 hB hz1 hk1 hS => ?_)
  obtain ⟨k21_334, p22_335, k25_336, k29_337, k30_338, k31_339, f19_340, f28_341, q_342, q_343, q_344, q_345, q_346, q_347, q_348, hP1, hK1, hD1⟩ := hB
  replace q_345 : ∀ i : Nat, i < 200 * n14 → f19_340 i = (fv 19) i := q_345
  replace q_347 : EIF ((fv 0)) n26 (0, skB ((fv 0)) n26 k25_230, [], []) k21_334 p22_335 k25_336 := q_347
  replace q_348 : k21_334 = 0 → p22_335 = (p22_229) := q_348
  rw [ht] at hP1
  have hK := va_K.moved hvm.symm hK1
  generalize H1 = H at hP1 hS ⊢
  have hP : va_P D vwCl (mw h0 ad cs (upd (upd (upd (upd (upd (upd iv 21 (nI k21_334)) 22 p22_335) 25 (nI k25_336)) 29 (nI k29_337)) 30 (nI k30_338)) 31 (nI k31_339)) (uF (uF (uF (uF fv 15 f15_6) 16 f16_7) 19 f19_340) 28 f28_341) gv) H := hP1
  have hD : va_D A (mw h0 ad cs (upd (upd (upd (upd (upd (upd iv 21 (nI k21_334)) 22 p22_335) 25 (nI k25_336)) 29 (nI k29_337)) 30 (nI k30_338)) 31 (nI k31_339)) (uF (uF (uF (uF fv 15 f15_6) 16 f16_7) 19 f19_340) 28 f28_341) gv) := hD1.weaken (fun _ _ _ h => hFc _ h)
  refine lv_aload_n hx hb dX9_reads_33 rfl (lv_at hl 0 rfl) ?_
  refine va_get (D := D) (ci := 9) (v := .int (nI k21_334)) (C := RX9) (T := TX9) (N := 44) hx hb hts hin9 hown hK hP 0 rfl rfl 21 (by decide) (hts (.fieldLink RX9 74 "HoneyHouseModel" "faultKind" "I") (List.mem_of_getElem? (i := 2) rfl)) (fun _ h9 => h9) rfl dX9_reads_34 ?_
  refine lv_if_le (tgt := 41) hx hb dX9_reads_37 (by decide) (fun c_349 => ?_) (fun c_349 => ?_)
  · have d_350 := n_le (a := k21_334) (b := 0) (by omega) (by omega) c_349
    refine lv_aload_n hx hb dX9_reads_41 rfl (lv_at hl 0 rfl) ?_
    have hFc := free_all hD hS hA
    refine va_calli (va_runV (As := []) (rest := []) ⟨hx, hb, hml, hown, hts⟩ (m_peek l D h0 ad cs (upd (upd (upd (upd (upd (upd iv 21 (nI k21_334)) 22 p22_335) 25 (nI k25_336)) 29 (nI k29_337)) 30 (nI k30_338)) 31 (nI k31_339)) (uF (uF (uF (uF fv 15 f15_6) 16 f16_7) 19 f19_340) 28 f28_341) gv k25_336 n26  H.size rfl h26 (by omega) (by omega)) (cwV 0 hts gX9_reads_X9_peek rfl rfl rfl (by decide +kernel) ⟨Nat.le_of_ble_eq_true rfl, Nat.le_of_ble_eq_true rfl⟩) ⟨fun a U g mk q => by obtain ⟨q0, q1, qP, qK, qD⟩ := q; exact ⟨q0, q1, qP, va_K.moved (u := U) (U := U.calling g mk a) (Vm.Alike.refl U.vm) qK, qD⟩, va_recv hK hP (ci := 9) (q0 := 0) rfl rfl, fun U hU hW => ⟨rfl, by rw [hU], by rw [hU]; exact hP, va_K.moved hW.alike hK, hD.weaken (fun _ _ _ _ => trivial)⟩⟩ rfl rfl hl.1 rfl (lv_room (Nat.le_of_ble_eq_true rfl)) dX9_reads_42 ⟨Nat.le_of_ble_eq_true rfl, Nat.le_of_ble_eq_true rfl⟩) hS (fun q _ h => hFc q h) hFc (fun r_351 u t H1 locs ht hvm w_352 hB hz1 hk1 hS => ?_)
    subst w_352
    obtain ⟨k25_353, q_354, q_355, q_356, q_357, q_358, hP1, hK1, hD1⟩ := hB
    replace q_356 : (k25_336 = n26 ∨ ¬ blk ((fv 0) k25_336)) → k25_353 = k25_336 := q_356
    replace q_357 : PKD ((fv 0)) n26 k25_353 r_351 := q_357
    replace q_358 : isRn blk ((fv 0)) n26 k25_336 k25_353 := q_358
    rw [ht] at hP1
    have hK := va_K.moved hvm.symm hK1
    generalize H1 = H at hP1 hS ⊢
    have hP : va_P D vwCl (mw h0 ad cs (upd (upd (upd (upd (upd (upd iv 21 (nI k21_334)) 22 p22_335) 25 (nI k25_353)) 29 (nI k29_337)) 30 (nI k30_338)) 31 (nI k31_339)) (uF (uF (uF (uF fv 15 f15_6) 16 f16_7) 19 f19_340) 28 f28_341) gv) H := hP1
    have hD : va_D A (mw h0 ad cs (upd (upd (upd (upd (upd (upd iv 21 (nI k21_334)) 22 p22_335) 25 (nI k25_353)) 29 (nI k29_337)) 30 (nI k30_338)) 31 (nI k31_339)) (uF (uF (uF (uF fv 15 f15_6) 16 f16_7) 19 f19_340) 28 f28_341) gv) := hD1.weaken (fun _ _ _ h => hFc _ h)
    rcases q_357 with ⟨rfl, hw_363⟩ | ⟨c_359, e_360, rfl, he_361, hc_362, hw_363⟩
    · refine lv_if_eq (tgt := 58) hx hb dX9_reads_45 (by decide) (fun c_364 => absurd c_364 (by decide)) (fun c_364 => ?_)
      refine lv_aload_n hx hb dX9_reads_48 rfl (lv_at hl 0 rfl) ?_
      refine lv_iconst (v := 1) hx hb dX9_reads_49 (by decide) ?_
      refine lv_aload_n hx hb dX9_reads_50 rfl (lv_at hl 0 rfl) ?_
      refine va_get (D := D) (ci := 9) (v := .int (nI k25_353)) (C := RX9) (T := TX9) (N := 44) hx hb hts hin9 hown hK hP 0 rfl rfl 25 (by decide) (hts (.fieldLink RX9 87 "HoneyHouseModel" "at" "I") (List.mem_of_getElem? (i := 1) rfl)) (fun _ h9 => h9) rfl dX9_reads_51 ?_
      have hFc := free_all hD hS hA
      refine va_callv (va_runV (As := [.int 1, .int (nI k25_353)]) (rest := []) ⟨hx, hb, hml, hown, hts⟩ (m_blame l D h0 ad cs (upd (upd (upd (upd (upd (upd iv 21 (nI k21_334)) 22 p22_335) 25 (nI k25_353)) 29 (nI k29_337)) 30 (nI k30_338)) 31 (nI k31_339)) (uF (uF (uF (uF fv 15 f15_6) 16 f16_7) 19 f19_340) 28 f28_341) gv k21_334 1 (nI k25_353) H.size rfl (by omega) (by omega)) (cwV 2 hts gX9_reads_X9_blame rfl rfl rfl (by decide +kernel) ⟨Nat.le_of_ble_eq_true rfl, Nat.le_of_ble_eq_true rfl⟩) ⟨fun a U g mk q => by obtain ⟨q0, q1, qP, qK, qD⟩ := q; exact ⟨q0, q1, qP, va_K.moved (u := U) (U := U.calling g mk a) (Vm.Alike.refl U.vm) qK, qD⟩, va_recv hK hP (ci := 9) (q0 := 0) rfl rfl, fun U hU hW => ⟨rfl, by rw [hU], by rw [hU]; exact hP, va_K.moved hW.alike hK, hD.weaken (fun _ _ _ _ => trivial)⟩⟩ rfl rfl hl.1 rfl (lv_room (Nat.le_of_ble_eq_true rfl)) dX9_reads_54 ⟨Nat.le_of_ble_eq_true rfl, Nat.le_of_ble_eq_true rfl⟩) hS (fun q _ h => hFc q h) hFc (fun u t H1 locs ht hvm w_366 hB hz1 hk1 hS => ?_)
      obtain ⟨k21_367, p22_368, q_369, q_370, q_371, hP1, hK1, hD1⟩ := hB
      replace q_371 : (k21_334 = 0 → k21_367 = 1 ∧ p22_368 = (nI k25_353)) ∧ (¬ k21_334 = 0 → k21_367 = k21_334 ∧ p22_368 = (p22_335)) := q_371
      rw [ht] at hP1
      have hK := va_K.moved hvm.symm hK1
      generalize H1 = H at hP1 hS ⊢
      have hP : va_P D vwCl (mw h0 ad cs (upd (upd (upd (upd (upd (upd iv 21 (nI k21_367)) 22 p22_368) 25 (nI k25_353)) 29 (nI k29_337)) 30 (nI k30_338)) 31 (nI k31_339)) (uF (uF (uF (uF fv 15 f15_6) 16 f16_7) 19 f19_340) 28 f28_341) gv) H := hP1
      have hD : va_D A (mw h0 ad cs (upd (upd (upd (upd (upd (upd iv 21 (nI k21_367)) 22 p22_368) 25 (nI k25_353)) 29 (nI k29_337)) 30 (nI k30_338)) 31 (nI k31_339)) (uF (uF (uF (uF fv 15 f15_6) 16 f16_7) 19 f19_340) 28 f28_341) gv) := hD1.weaken (fun _ _ _ h => hFc _ h)
      have hP : va_P D vwCl (mw h0 ad cs (upd (upd (upd (upd (upd (upd iv 21 (nI k21_367)) 22 p22_368) 25 (nI k25_353)) 29 (nI k29_337)) 30 (nI k30_338)) 31 (nI k31_339)) (uF (uF (uF (uF (uF fv 15 f15_6) 16 f16_7) 17 (fv 17)) 19 f19_340) 28 f28_341) gv) H := hP
      have hD : va_D A (mw h0 ad cs (upd (upd (upd (upd (upd (upd iv 21 (nI k21_367)) 22 p22_368) 25 (nI k25_353)) 29 (nI k29_337)) 30 (nI k30_338)) 31 (nI k31_339)) (uF (uF (uF (uF (uF fv 15 f15_6) 16 f16_7) 17 (fv 17)) 19 f19_340) 28 f28_341) gv) := hD
      exact W.vret hx hb hr (fun t ht hW => ⟨⟨(), rfl, trivial, k21_367, p22_368, nI k25_353, nI k29_337, nI k30_338, nI k31_339, f15_6, f16_7, fv 17, f19_340, f28_341, by omega, q_345, q_11, Or.inl (by omega), (rd_4 (P := k25_353) (fr := 0) q_13 (by omega) (q_234 (by omega)) (by omega) q_347 (by omega) (by rw [show skB (fv 0) n26 k25_336 = k25_353 from q_358.eq]; exact Or.inl ⟨by omega, (q_371.1 (by omega)).1, rfl⟩) (fun _ => (q_371.1 (by omega)).2) (fun h9 => absurd h9 (by omega))), fun _ _ => rfl, fun h9 => absurd h9 (by omega), by rw [ht]; exact hP, va_K.moved hW.alike hK, hD⟩, hS.F ht⟩) hS.2.2 dX9_reads_57
    have he_361b : k25_353 ≤ e_360 ∧ e_360 ≤ n26 := ⟨he_361.1, he_361.2.1⟩
    refine lv_if_eq (tgt := 58) hx hb dX9_reads_45 (by decide) (fun c_372 => ?_) (fun c_372 => ?_)
    · have d_373 := n_eq (a := c_359) (b := 0) (by omega) (by omega) c_372
      refine lv_aload_n hx hb dX9_reads_58 rfl (lv_at hl 0 rfl) ?_
      refine lv_aload_n hx hb dX9_reads_59 rfl (lv_at hl 0 rfl) ?_
      refine vp_callSi (W.runV (As := []) (rest := [.ref h0]) ⟨hx, hb, hml, hown, hts⟩ (m_wordEnd l D h0 ad cs (upd (upd (upd (upd (upd (upd iv 21 (nI k21_334)) 22 p22_335) 25 (nI k25_353)) 29 (nI k29_337)) 30 (nI k30_338)) 31 (nI k31_339)) (uF (uF (uF (uF fv 15 f15_6) 16 f16_7) 19 f19_340) 28 f28_341) gv k25_353 n26  rfl h26 (by omega) (by omega)) (cwV 0 hts gX9_reads_X9_wordEnd rfl rfl rfl (by decide +kernel) ⟨Nat.le_of_ble_eq_true rfl, Nat.le_of_ble_eq_true rfl⟩) ⟨fun a U g mk q => ⟨q.1, q.2.1, va_K.moved (u := U) (U := U.calling g mk a) (Vm.Alike.refl U.vm) q.2.2⟩, va_recv hK hP (ci := 9) (q0 := 0) rfl rfl, fun U hU hW => ⟨rfl, by rw [hU]; exact hP, va_K.moved hW.alike hK⟩⟩ rfl rfl hl.1 rfl (lv_room (Nat.le_of_ble_eq_true rfl)) dX9_reads_60 ⟨Nat.le_of_ble_eq_true rfl, Nat.le_of_ble_eq_true rfl⟩) (fun r_374 k_375 => ?_)
      obtain ⟨e_376, rfl, he_377⟩ := k_375
      have hq_e_376 : e_376 = e_360 := he_377.uq he_361
      refine va_put (D := D) (ci := 9) (v := .int (nI e_376)) (ty := .int) (C := RX9) (T := TX9) (N := 44) hx hb hts hin9 tyX9 tyX9_ok nmX9 hown hK hP hD hS 0 rfl rfl 25 (by decide) (hts (.fieldLink RX9 87 "HoneyHouseModel" "at" "I") (List.mem_of_getElem? (i := 1) rfl)) (fun _ h9 => h9) rfl (tyX9_ok 25 (by decide)) rfl rfl (Nat.le_of_ble_eq_true rfl) dX9_reads_63 (fun H locs hP hD hS => ?_)
      have hP : va_P D vwCl (mw h0 ad cs (upd (upd (upd (upd (upd (upd iv 21 (nI k21_334)) 22 p22_335) 25 (nI e_376)) 29 (nI k29_337)) 30 (nI k30_338)) 31 (nI k31_339)) (uF (uF (uF (uF fv 15 f15_6) 16 f16_7) 19 f19_340) 28 f28_341) gv) H := hP
      have hD : va_D A (mw h0 ad cs (upd (upd (upd (upd (upd (upd iv 21 (nI k21_334)) 22 p22_335) 25 (nI e_376)) 29 (nI k29_337)) 30 (nI k30_338)) 31 (nI k31_339)) (uF (uF (uF (uF fv 15 f15_6) 16 f16_7) 19 f19_340) 28 f28_341) gv) := hD
      refine lv_aload_n hx hb dX9_reads_66 rfl (lv_at hl 0 rfl) ?_
      refine va_get (D := D) (ci := 9) (v := .ref (ad 17)) (C := RX9) (T := TX9) (N := 44) hx hb hts hin9 hown hK hP 0 rfl rfl 17 (by decide) (hts (.fieldLink RX9 62 "HoneyHouseModel" "from" "[I") (List.mem_of_getElem? (i := 3) rfl)) (fun _ h9 => h9) rfl dX9_reads_67 ?_
      refine lv_aload_n hx hb dX9_reads_70 rfl (lv_at hl 0 rfl) ?_
      refine va_get (D := D) (ci := 9) (v := .int (iv 14)) (C := RX9) (T := TX9) (N := 44) hx hb hts hin9 hown hK hP 0 rfl rfl 14 (by decide) (hts (.fieldLink RX9 53 "HoneyHouseModel" "rules" "I") (List.mem_of_getElem? (i := 4) rfl)) (fun _ h9 => h9) rfl dX9_reads_71 ?_
      refine tp_i (y := nI n14) (h14) ?_
      refine lv_aload_n hx hb dX9_reads_74 rfl (lv_at hl 0 rfl) ?_
      refine lv_sipush (v := 30000) hx hb dX9_reads_75 (by decide) ?_
      have hFc := free_all hD hS hA
      refine va_calli (va_runV (As := [.int 30000]) (rest := [.int (nI n14), .ref (ad 17)]) ⟨hx, hb, hml, hown, hts⟩ (m_number l D h0 ad cs (upd (upd (upd (upd (upd (upd iv 21 (nI k21_334)) 22 p22_335) 25 (nI e_376)) 29 (nI k29_337)) 30 (nI k30_338)) 31 (nI k31_339)) (uF (uF (uF (uF fv 15 f15_6) 16 f16_7) 19 f19_340) 28 f28_341) gv k21_334 e_376 n26 30000 H.size rfl rfl h26 (by omega) (by omega) (by omega) (by omega)) (cwV 1 hts gX9_reads_X9_number rfl rfl rfl (by decide +kernel) ⟨Nat.le_of_ble_eq_true rfl, Nat.le_of_ble_eq_true rfl⟩) ⟨fun a U g mk q => by obtain ⟨q0, q1, qP, qK, qD⟩ := q; exact ⟨q0, q1, qP, va_K.moved (u := U) (U := U.calling g mk a) (Vm.Alike.refl U.vm) qK, qD⟩, va_recv hK hP (ci := 9) (q0 := 0) rfl rfl, fun U hU hW => ⟨rfl, by rw [hU], by rw [hU]; exact hP, va_K.moved hW.alike hK, hD.weaken (fun _ _ _ _ => trivial)⟩⟩ rfl rfl hl.1 rfl (lv_room (Nat.le_of_ble_eq_true rfl)) dX9_reads_78 ⟨Nat.le_of_ble_eq_true rfl, Nat.le_of_ble_eq_true rfl⟩) hS (fun q _ h => hFc q h) hFc (fun r_378 u t H1 locs ht hvm w_379 hB hz1 hk1 hS => ?_)
      subst w_379
      obtain ⟨k21_380, p22_381, k25_382, q_383, q_384, q_385, q_386, q_387, q_388, hP1, hK1, hD1⟩ := hB
      replace q_387 : NUX ((fv 0)) n26 30000 (skB ((fv 0)) n26 e_376) k21_380 p22_381 k25_382 r_378 := q_387
      replace q_388 : k21_380 = 0 → p22_381 = (p22_335) := q_388
      rw [ht] at hP1
      have hK := va_K.moved hvm.symm hK1
      generalize H1 = H at hP1 hS ⊢
      have hP : va_P D vwCl (mw h0 ad cs (upd (upd (upd (upd (upd (upd iv 21 (nI k21_380)) 22 p22_381) 25 (nI k25_382)) 29 (nI k29_337)) 30 (nI k30_338)) 31 (nI k31_339)) (uF (uF (uF (uF fv 15 f15_6) 16 f16_7) 19 f19_340) 28 f28_341) gv) H := hP1
      have hD : va_D A (mw h0 ad cs (upd (upd (upd (upd (upd (upd iv 21 (nI k21_380)) 22 p22_381) 25 (nI k25_382)) 29 (nI k29_337)) 30 (nI k30_338)) 31 (nI k31_339)) (uF (uF (uF (uF fv 15 f15_6) 16 f16_7) 19 f19_340) 28 f28_341) gv) := hD1.weaken (fun _ _ _ h => hFc _ h)
      rcases q_386 with hp_389 | ⟨rfl, hg_391⟩
      · obtain ⟨P_394, hP_395, hnr_396⟩ := q_387.no (by omega)
        refine va_iast (f := fv 17) (n := 16) hx hb hK hP hD hS 13 12 rfl rfl (vp_in_nI (n := n14) (by omega) (by omega)) dX9_reads_81 (fun H locs hP hD hS => ?_)
        have hP : va_P D vwCl (mw h0 ad cs (upd (upd (upd (upd (upd (upd iv 21 (nI k21_380)) 22 p22_381) 25 (nI k25_382)) 29 (nI k29_337)) 30 (nI k30_338)) 31 (nI k31_339)) (uF (uF (uF (uF (uF fv 15 f15_6) 16 f16_7) 17 (upd (fv 17) (nI n14).toNatClampNeg r_378)) 19 f19_340) 28 f28_341) gv) H := hP
        have hD : va_D A (mw h0 ad cs (upd (upd (upd (upd (upd (upd iv 21 (nI k21_380)) 22 p22_381) 25 (nI k25_382)) 29 (nI k29_337)) 30 (nI k30_338)) 31 (nI k31_339)) (uF (uF (uF (uF (uF fv 15 f15_6) 16 f16_7) 17 (upd (fv 17) (nI n14).toNatClampNeg r_378)) 19 f19_340) 28 f28_341) gv) := hD
        obtain ⟨f_397, hf_398⟩ : ∃ g9, g9 = upd (fv 17) (nI n14).toNatClampNeg r_378 := ⟨_, rfl⟩
        rw [← hf_398] at hP hD
        rw [nI_clamp (n := n14) (by omega)] at hf_398
        refine lv_aload_n hx hb dX9_reads_82 rfl (lv_at hl 0 rfl) ?_
        refine va_get (D := D) (ci := 9) (v := .int (nI k21_380)) (C := RX9) (T := TX9) (N := 44) hx hb hts hin9 hown hK hP 0 rfl rfl 21 (by decide) (hts (.fieldLink RX9 74 "HoneyHouseModel" "faultKind" "I") (List.mem_of_getElem? (i := 2) rfl)) (fun _ h9 => h9) rfl dX9_reads_83 ?_
        refine lv_if_ne (tgt := 95) hx hb dX9_reads_86 (by decide) (fun c_399 => ?_) (fun c_399 => absurd c_399 (nI_ne0 (n := k21_380) (by omega) (by omega)))
        refine lv_aload_n hx hb dX9_reads_95 rfl (lv_at hl 0 rfl) ?_
        refine va_get (D := D) (ci := 9) (v := .int (nI k21_380)) (C := RX9) (T := TX9) (N := 44) hx hb hts hin9 hown hK hP 0 rfl rfl 21 (by decide) (hts (.fieldLink RX9 74 "HoneyHouseModel" "faultKind" "I") (List.mem_of_getElem? (i := 2) rfl)) (fun _ h9 => h9) rfl dX9_reads_96 ?_
        refine lv_if_ne (tgt := 119) hx hb dX9_reads_99 (by decide) (fun c_400 => ?_) (fun c_400 => absurd c_400 (nI_ne0 (n := k21_380) (by omega) (by omega)))
        have hP : va_P D vwCl (mw h0 ad cs (upd (upd (upd (upd (upd (upd iv 21 (nI k21_380)) 22 p22_381) 25 (nI k25_382)) 29 (nI k29_337)) 30 (nI k30_338)) 31 (nI k31_339)) (uF (uF (uF (uF (uF fv 15 f15_6) 16 f16_7) 17 f_397) 19 f19_340) 28 f28_341) gv) H := hP
        have hD : va_D A (mw h0 ad cs (upd (upd (upd (upd (upd (upd iv 21 (nI k21_380)) 22 p22_381) 25 (nI k25_382)) 29 (nI k29_337)) 30 (nI k30_338)) 31 (nI k31_339)) (uF (uF (uF (uF (uF fv 15 f15_6) 16 f16_7) 17 f_397) 19 f19_340) 28 f28_341) gv) := hD
        exact W.vret hx hb hr (fun t ht hW => ⟨⟨(), rfl, trivial, k21_380, p22_381, nI k25_382, nI k29_337, nI k30_338, nI k31_339, f15_6, f16_7, f_397, f19_340, f28_341, by omega, q_345, q_11, Or.inl (by omega), (rd_4 (P := P_394) (fr := 0) q_13 (by omega) (q_234 (by omega)) (by omega) q_347 (by omega) (by rw [show skB (fv 0) n26 k25_336 = k25_353 from q_358.eq]; exact Or.inr ⟨(show wdE (fv 0) n26 k25_353 = 0 by omega), k21_380, P_394, 0, (by rw [← show skB (fv 0) n26 e_376 = nxF (fv 0) n26 k25_353 from nx_e (by omega) (show wdE (fv 0) n26 k25_353 = 0 by omega) (he_361.r.trans hq_e_376.symm)]; exact hnr_396), Or.inl ⟨by omega, rfl, rfl⟩⟩) (fun _ => hP_395) (fun h9 => absurd h9 (by omega))), fun i h9 => by rw [hf_398]; exact up_ne h9, fun h9 => absurd h9 (by omega), by rw [ht]; exact hP, va_K.moved hW.alike hK, hD⟩, hS.F ht⟩) hS.2.2 dX9_reads_119
      obtain ⟨v_392, hv_393, rfl, hnr_396⟩ := q_387.ok
      have pe_401 : p22_381 = p22_335 := q_388 rfl
      refine va_iast (f := fv 17) (n := 16) hx hb hK hP hD hS 13 12 rfl rfl (vp_in_nI (n := n14) (by omega) (by omega)) dX9_reads_81 (fun H locs hP hD hS => ?_)
      have hP : va_P D vwCl (mw h0 ad cs (upd (upd (upd (upd (upd (upd iv 21 (nI 0)) 22 p22_381) 25 (nI k25_382)) 29 (nI k29_337)) 30 (nI k30_338)) 31 (nI k31_339)) (uF (uF (uF (uF (uF fv 15 f15_6) 16 f16_7) 17 (upd (fv 17) (nI n14).toNatClampNeg (nI v_392))) 19 f19_340) 28 f28_341) gv) H := hP
      have hD : va_D A (mw h0 ad cs (upd (upd (upd (upd (upd (upd iv 21 (nI 0)) 22 p22_381) 25 (nI k25_382)) 29 (nI k29_337)) 30 (nI k30_338)) 31 (nI k31_339)) (uF (uF (uF (uF (uF fv 15 f15_6) 16 f16_7) 17 (upd (fv 17) (nI n14).toNatClampNeg (nI v_392))) 19 f19_340) 28 f28_341) gv) := hD
      obtain ⟨f_402, hf_403⟩ : ∃ g9, g9 = upd (fv 17) (nI n14).toNatClampNeg (nI v_392) := ⟨_, rfl⟩
      rw [← hf_403] at hP hD
      rw [nI_clamp (n := n14) (by omega)] at hf_403
      refine lv_aload_n hx hb dX9_reads_82 rfl (lv_at hl 0 rfl) ?_
      refine va_get (D := D) (ci := 9) (v := .int (nI 0)) (C := RX9) (T := TX9) (N := 44) hx hb hts hin9 hown hK hP 0 rfl rfl 21 (by decide) (hts (.fieldLink RX9 74 "HoneyHouseModel" "faultKind" "I") (List.mem_of_getElem? (i := 2) rfl)) (fun _ h9 => h9) rfl dX9_reads_83 ?_
      refine lv_if_ne (tgt := 95) hx hb dX9_reads_86 (by decide) (fun c_404 => absurd (by decide) c_404) (fun c_404 => ?_)
      refine lv_aload_n hx hb dX9_reads_89 rfl (lv_at hl 0 rfl) ?_
      refine lv_bipush (v := 59) hx hb dX9_reads_90 (by decide) ?_
      have hFc := free_all hD hS hA
      refine va_callv (va_runV (As := [.int 59]) (rest := []) ⟨hx, hb, hml, hown, hts⟩ (m_must l D h0 ad cs (upd (upd (upd (upd (upd (upd iv 21 (nI 0)) 22 p22_381) 25 (nI k25_382)) 29 (nI k29_337)) 30 (nI k30_338)) 31 (nI k31_339)) (uF (uF (uF (uF (uF fv 15 f15_6) 16 f16_7) 17 f_402) 19 f19_340) 28 f28_341) gv 0 k25_382 n26 59 H.size rfl rfl h26 (by omega) (by omega) (by omega) (by decide)) (cwV 1 hts gX9_reads_X9_must rfl rfl rfl (by decide +kernel) ⟨Nat.le_of_ble_eq_true rfl, Nat.le_of_ble_eq_true rfl⟩) ⟨fun a U g mk q => by obtain ⟨q0, q1, qP, qK, qD⟩ := q; exact ⟨q0, q1, qP, va_K.moved (u := U) (U := U.calling g mk a) (Vm.Alike.refl U.vm) qK, qD⟩, va_recv hK hP (ci := 9) (q0 := 0) rfl rfl, fun U hU hW => ⟨rfl, by rw [hU], by rw [hU]; exact hP, va_K.moved hW.alike hK, hD.weaken (fun _ _ _ _ => trivial)⟩⟩ rfl rfl hl.1 rfl (lv_room (Nat.le_of_ble_eq_true rfl)) dX9_reads_92 ⟨Nat.le_of_ble_eq_true rfl, Nat.le_of_ble_eq_true rfl⟩) hS (fun q _ h => hFc q h) hFc (fun u t H1 locs ht hvm w_406 hB hz1 hk1 hS => ?_)
      obtain ⟨k21_407, p22_408, k25_409, q_410, q_411, q_412, q_413, hP1, hK1, hD1⟩ := hB
      replace q_413 : (0 = 0 → ((skB ((fv 0)) n26 k25_382 < n26 ∧ (fv 0) (skB ((fv 0)) n26 k25_382) = 59) ∧ k21_407 = 0 ∧ p22_408 = (p22_381) ∧ k25_409 = skB ((fv 0)) n26 k25_382 + 1) ∨ (¬ (skB ((fv 0)) n26 k25_382 < n26 ∧ (fv 0) (skB ((fv 0)) n26 k25_382) = 59) ∧ k21_407 = 1 ∧ p22_408 = nI (skB ((fv 0)) n26 k25_382))) := q_413
      rw [ht] at hP1
      have hK := va_K.moved hvm.symm hK1
      generalize H1 = H at hP1 hS ⊢
      have hP : va_P D vwCl (mw h0 ad cs (upd (upd (upd (upd (upd (upd iv 21 (nI k21_407)) 22 p22_408) 25 (nI k25_409)) 29 (nI k29_337)) 30 (nI k30_338)) 31 (nI k31_339)) (uF (uF (uF (uF (uF fv 15 f15_6) 16 f16_7) 17 f_402) 19 f19_340) 28 f28_341) gv) H := hP1
      have hD : va_D A (mw h0 ad cs (upd (upd (upd (upd (upd (upd iv 21 (nI k21_407)) 22 p22_408) 25 (nI k25_409)) 29 (nI k29_337)) 30 (nI k30_338)) 31 (nI k31_339)) (uF (uF (uF (uF (uF fv 15 f15_6) 16 f16_7) 17 f_402) 19 f19_340) 28 f28_341) gv) := hD1.weaken (fun _ _ _ h => hFc _ h)
      refine lv_aload_n hx hb dX9_reads_95 rfl (lv_at hl 0 rfl) ?_
      refine va_get (D := D) (ci := 9) (v := .int (nI k21_407)) (C := RX9) (T := TX9) (N := 44) hx hb hts hin9 hown hK hP 0 rfl rfl 21 (by decide) (hts (.fieldLink RX9 74 "HoneyHouseModel" "faultKind" "I") (List.mem_of_getElem? (i := 2) rfl)) (fun _ h9 => h9) rfl dX9_reads_96 ?_
      refine lv_if_ne (tgt := 119) hx hb dX9_reads_99 (by decide) (fun c_414 => ?_) (fun c_414 => ?_)
      · have d_415 := n_ne (a := k21_407) (b := 0) (by omega) (by omega) c_414
        have hP : va_P D vwCl (mw h0 ad cs (upd (upd (upd (upd (upd (upd iv 21 (nI k21_407)) 22 p22_408) 25 (nI k25_409)) 29 (nI k29_337)) 30 (nI k30_338)) 31 (nI k31_339)) (uF (uF (uF (uF (uF fv 15 f15_6) 16 f16_7) 17 f_402) 19 f19_340) 28 f28_341) gv) H := hP
        have hD : va_D A (mw h0 ad cs (upd (upd (upd (upd (upd (upd iv 21 (nI k21_407)) 22 p22_408) 25 (nI k25_409)) 29 (nI k29_337)) 30 (nI k30_338)) 31 (nI k31_339)) (uF (uF (uF (uF (uF fv 15 f15_6) 16 f16_7) 17 f_402) 19 f19_340) 28 f28_341) gv) := hD
        exact W.vret hx hb hr (fun t ht hW => ⟨⟨(), rfl, trivial, k21_407, p22_408, nI k25_409, nI k29_337, nI k30_338, nI k31_339, f15_6, f16_7, f_402, f19_340, f28_341, by omega, q_345, q_11, ((Nat.eq_zero_or_pos k21_407).elim (fun h9 => by obtain ⟨n9, hn9⟩ := q_346.resolve_left (by omega); exact Or.inr ⟨q_12.resolve_left (by omega), k30_338, n9, rfl, by omega, hn9⟩) (fun h9 => Or.inl h9)), (rd_4 (P := skB (fv 0) n26 k25_382) (fr := v_392) q_13 (by omega) (q_234 (by omega)) (by omega) q_347 (by omega) (by rw [show skB (fv 0) n26 k25_336 = k25_353 from q_358.eq]; exact Or.inr ⟨(show wdE (fv 0) n26 k25_353 = 0 by omega), 0, skB (fv 0) n26 k25_382, v_392, (by rw [← show skB (fv 0) n26 e_376 = nxF (fv 0) n26 k25_353 from nx_e (by omega) (show wdE (fv 0) n26 k25_353 = 0 by omega) (he_361.r.trans hq_e_376.symm)]; exact hnr_396), Or.inr ⟨rfl, rfl, Or.inl ⟨((q_413 (by omega)).resolve_left (fun h9 => by omega)).1, ((q_413 (by omega)).resolve_left (fun h9 => by omega)).2.1, rfl⟩⟩⟩) (fun _ => ((q_413 (by omega)).resolve_left (fun h9 => by omega)).2.2) (fun _ => by rw [hf_403]; exact up_eq)), fun i h9 => by rw [hf_403]; exact up_ne h9, fun h9 => (((q_413 (by omega)).elim (fun q9 => q9.2.2.1) (fun q9 => by omega)).trans (pe_401.trans ((q_348 (by omega)).trans (((q_234 (by omega)).elim (fun q9 => q9.2.2.1) (fun q9 => by omega)).trans (q_14 (by omega)))))), by rw [ht]; exact hP, va_K.moved hW.alike hK, hD⟩, hS.F ht⟩) hS.2.2 dX9_reads_119
      have d_416 := n_eq (a := k21_407) (b := 0) (by omega) (by omega) c_414
      refine lv_aload_n hx hb dX9_reads_102 rfl (lv_at hl 0 rfl) ?_
      have hFc := free_all hD hS hA
      refine va_calli (va_runV (As := []) (rest := []) ⟨hx, hb, hml, hown, hts⟩ (m_here l D h0 ad cs (upd (upd (upd (upd (upd (upd iv 21 (nI k21_407)) 22 p22_408) 25 (nI k25_409)) 29 (nI k29_337)) 30 (nI k30_338)) 31 (nI k31_339)) (uF (uF (uF (uF (uF fv 15 f15_6) 16 f16_7) 17 f_402) 19 f19_340) 28 f28_341) gv k25_409 n26  H.size rfl h26 (by omega) (by omega)) (cwV 0 hts gX9_reads_X9_here rfl rfl rfl (by decide +kernel) ⟨Nat.le_of_ble_eq_true rfl, Nat.le_of_ble_eq_true rfl⟩) ⟨fun a U g mk q => by obtain ⟨q0, q1, qP, qK, qD⟩ := q; exact ⟨q0, q1, qP, va_K.moved (u := U) (U := U.calling g mk a) (Vm.Alike.refl U.vm) qK, qD⟩, va_recv hK hP (ci := 9) (q0 := 0) rfl rfl, fun U hU hW => ⟨rfl, by rw [hU], by rw [hU]; exact hP, va_K.moved hW.alike hK, hD.weaken (fun _ _ _ _ => trivial)⟩⟩ rfl rfl hl.1 rfl (lv_room (Nat.le_of_ble_eq_true rfl)) dX9_reads_103 ⟨Nat.le_of_ble_eq_true rfl, Nat.le_of_ble_eq_true rfl⟩) hS (fun q _ h => hFc q h) hFc (fun r_417 u t H1 locs ht hvm w_418 hB hz1 hk1 hS => ?_)
      subst w_418
      obtain ⟨k25_419, q_420, q_421, q_422, q_423, q_424, q_425, hP1, hK1, hD1⟩ := hB
      replace q_422 : k25_419 = n26 ∨ ¬ blk ((fv 0) k25_419) := q_422
      replace q_423 : (k25_409 = n26 ∨ ¬ blk ((fv 0) k25_409)) → k25_419 = k25_409 := q_423
      replace q_424 : (r_417 = (-1) ∧ k25_419 = n26) ∨ (k25_419 < n26 ∧ r_417 = (fv 0) k25_419) := q_424
      replace q_425 : isRn blk ((fv 0)) n26 k25_409 k25_419 := q_425
      rw [ht] at hP1
      have hK := va_K.moved hvm.symm hK1
      generalize H1 = H at hP1 hS ⊢
      have hP : va_P D vwCl (mw h0 ad cs (upd (upd (upd (upd (upd (upd iv 21 (nI k21_407)) 22 p22_408) 25 (nI k25_419)) 29 (nI k29_337)) 30 (nI k30_338)) 31 (nI k31_339)) (uF (uF (uF (uF (uF fv 15 f15_6) 16 f16_7) 17 f_402) 19 f19_340) 28 f28_341) gv) H := hP1
      have hD : va_D A (mw h0 ad cs (upd (upd (upd (upd (upd (upd iv 21 (nI k21_407)) 22 p22_408) 25 (nI k25_419)) 29 (nI k29_337)) 30 (nI k30_338)) 31 (nI k31_339)) (uF (uF (uF (uF (uF fv 15 f15_6) 16 f16_7) 17 f_402) 19 f19_340) 28 f28_341) gv) := hD1.weaken (fun _ _ _ h => hFc _ h)
      refine lv_iconst (v := (-1)) hx hb dX9_reads_106 (by decide) ?_
      refine lv_icmp_eq (tgt := 119) hx hb dX9_reads_107 (by decide) (fun c_426 => ?_) (fun c_426 => ?_)
      · have hP : va_P D vwCl (mw h0 ad cs (upd (upd (upd (upd (upd (upd iv 21 (nI k21_407)) 22 p22_408) 25 (nI k25_419)) 29 (nI k29_337)) 30 (nI k30_338)) 31 (nI k31_339)) (uF (uF (uF (uF (uF fv 15 f15_6) 16 f16_7) 17 f_402) 19 f19_340) 28 f28_341) gv) H := hP
        have hD : va_D A (mw h0 ad cs (upd (upd (upd (upd (upd (upd iv 21 (nI k21_407)) 22 p22_408) 25 (nI k25_419)) 29 (nI k29_337)) 30 (nI k30_338)) 31 (nI k31_339)) (uF (uF (uF (uF (uF fv 15 f15_6) 16 f16_7) 17 f_402) 19 f19_340) 28 f28_341) gv) := hD
        exact W.vret hx hb hr (fun t ht hW => ⟨⟨(), rfl, trivial, k21_407, p22_408, nI k25_419, nI k29_337, nI k30_338, nI k31_339, f15_6, f16_7, f_402, f19_340, f28_341, by omega, q_345, q_11, ((Nat.eq_zero_or_pos k21_407).elim (fun h9 => by obtain ⟨n9, hn9⟩ := q_346.resolve_left (by omega); exact Or.inr ⟨q_12.resolve_left (by omega), k30_338, n9, rfl, by omega, hn9⟩) (fun h9 => Or.inl h9)), (rd_4 (P := 0) (fr := v_392) q_13 (by omega) (q_234 (by omega)) (by omega) q_347 (by omega) (by rw [show skB (fv 0) n26 k25_336 = k25_353 from q_358.eq]; exact Or.inr ⟨(show wdE (fv 0) n26 k25_353 = 0 by omega), 0, skB (fv 0) n26 k25_382, v_392, (by rw [← show skB (fv 0) n26 e_376 = nxF (fv 0) n26 k25_353 from nx_e (by omega) (show wdE (fv 0) n26 k25_353 = 0 by omega) (he_361.r.trans hq_e_376.symm)]; exact hnr_396), Or.inr ⟨rfl, rfl, Or.inr ⟨(mu_59 (q_413 (by omega)) (by omega)).1, Or.inl ⟨by rw [show nxF (fv 0) n26 (skB (fv 0) n26 k25_382) = k25_419 from (mu_59 (q_413 (by omega)) (by omega)).2.symm.trans q_425.eq]; exact kd_eq q_424 c_426 hng, by omega⟩⟩⟩⟩) (fun h9 => absurd (by omega) h9) (fun _ => by rw [hf_403]; exact up_eq)), fun i h9 => by rw [hf_403]; exact up_ne h9, fun h9 => (((q_413 (by omega)).elim (fun q9 => q9.2.2.1) (fun q9 => by omega)).trans (pe_401.trans ((q_348 (by omega)).trans (((q_234 (by omega)).elim (fun q9 => q9.2.2.1) (fun q9 => by omega)).trans (q_14 (by omega)))))), by rw [ht]; exact hP, va_K.moved hW.alike hK, hD⟩, hS.F ht⟩) hS.2.2 dX9_reads_119
      refine lv_aload_n hx hb dX9_reads_110 rfl (lv_at hl 0 rfl) ?_
      refine lv_iconst (v := 1) hx hb dX9_reads_111 (by decide) ?_
      refine lv_aload_n hx hb dX9_reads_112 rfl (lv_at hl 0 rfl) ?_
      refine va_get (D := D) (ci := 9) (v := .int (nI k25_419)) (C := RX9) (T := TX9) (N := 44) hx hb hts hin9 hown hK hP 0 rfl rfl 25 (by decide) (hts (.fieldLink RX9 87 "HoneyHouseModel" "at" "I") (List.mem_of_getElem? (i := 1) rfl)) (fun _ h9 => h9) rfl dX9_reads_113 ?_
      have hFc := free_all hD hS hA
      refine va_callv (va_runV (As := [.int 1, .int (nI k25_419)]) (rest := []) ⟨hx, hb, hml, hown, hts⟩ (m_blame l D h0 ad cs (upd (upd (upd (upd (upd (upd iv 21 (nI k21_407)) 22 p22_408) 25 (nI k25_419)) 29 (nI k29_337)) 30 (nI k30_338)) 31 (nI k31_339)) (uF (uF (uF (uF (uF fv 15 f15_6) 16 f16_7) 17 f_402) 19 f19_340) 28 f28_341) gv k21_407 1 (nI k25_419) H.size rfl (by omega) (by omega)) (cwV 2 hts gX9_reads_X9_blame rfl rfl rfl (by decide +kernel) ⟨Nat.le_of_ble_eq_true rfl, Nat.le_of_ble_eq_true rfl⟩) ⟨fun a U g mk q => by obtain ⟨q0, q1, qP, qK, qD⟩ := q; exact ⟨q0, q1, qP, va_K.moved (u := U) (U := U.calling g mk a) (Vm.Alike.refl U.vm) qK, qD⟩, va_recv hK hP (ci := 9) (q0 := 0) rfl rfl, fun U hU hW => ⟨rfl, by rw [hU], by rw [hU]; exact hP, va_K.moved hW.alike hK, hD.weaken (fun _ _ _ _ => trivial)⟩⟩ rfl rfl hl.1 rfl (lv_room (Nat.le_of_ble_eq_true rfl)) dX9_reads_116 ⟨Nat.le_of_ble_eq_true rfl, Nat.le_of_ble_eq_true rfl⟩) hS (fun q _ h => hFc q h) hFc (fun u t H1 locs ht hvm w_428 hB hz1 hk1 hS => ?_)
      obtain ⟨k21_429, p22_430, q_431, q_432, q_433, hP1, hK1, hD1⟩ := hB
      replace q_433 : (k21_407 = 0 → k21_429 = 1 ∧ p22_430 = (nI k25_419)) ∧ (¬ k21_407 = 0 → k21_429 = k21_407 ∧ p22_430 = (p22_408)) := q_433
      rw [ht] at hP1
      have hK := va_K.moved hvm.symm hK1
      generalize H1 = H at hP1 hS ⊢
      have hP : va_P D vwCl (mw h0 ad cs (upd (upd (upd (upd (upd (upd iv 21 (nI k21_429)) 22 p22_430) 25 (nI k25_419)) 29 (nI k29_337)) 30 (nI k30_338)) 31 (nI k31_339)) (uF (uF (uF (uF (uF fv 15 f15_6) 16 f16_7) 17 f_402) 19 f19_340) 28 f28_341) gv) H := hP1
      have hD : va_D A (mw h0 ad cs (upd (upd (upd (upd (upd (upd iv 21 (nI k21_429)) 22 p22_430) 25 (nI k25_419)) 29 (nI k29_337)) 30 (nI k30_338)) 31 (nI k31_339)) (uF (uF (uF (uF (uF fv 15 f15_6) 16 f16_7) 17 f_402) 19 f19_340) 28 f28_341) gv) := hD1.weaken (fun _ _ _ h => hFc _ h)
      have hP : va_P D vwCl (mw h0 ad cs (upd (upd (upd (upd (upd (upd iv 21 (nI k21_429)) 22 p22_430) 25 (nI k25_419)) 29 (nI k29_337)) 30 (nI k30_338)) 31 (nI k31_339)) (uF (uF (uF (uF (uF fv 15 f15_6) 16 f16_7) 17 f_402) 19 f19_340) 28 f28_341) gv) H := hP
      have hD : va_D A (mw h0 ad cs (upd (upd (upd (upd (upd (upd iv 21 (nI k21_429)) 22 p22_430) 25 (nI k25_419)) 29 (nI k29_337)) 30 (nI k30_338)) 31 (nI k31_339)) (uF (uF (uF (uF (uF fv 15 f15_6) 16 f16_7) 17 f_402) 19 f19_340) 28 f28_341) gv) := hD
      exact W.vret hx hb hr (fun t ht hW => ⟨⟨(), rfl, trivial, k21_429, p22_430, nI k25_419, nI k29_337, nI k30_338, nI k31_339, f15_6, f16_7, f_402, f19_340, f28_341, by omega, q_345, q_11, Or.inl (by omega), (rd_4 (P := k25_419) (fr := v_392) q_13 (by omega) (q_234 (by omega)) (by omega) q_347 (by omega) (by rw [show skB (fv 0) n26 k25_336 = k25_353 from q_358.eq]; exact Or.inr ⟨(show wdE (fv 0) n26 k25_353 = 0 by omega), 0, skB (fv 0) n26 k25_382, v_392, (by rw [← show skB (fv 0) n26 e_376 = nxF (fv 0) n26 k25_353 from nx_e (by omega) (show wdE (fv 0) n26 k25_353 = 0 by omega) (he_361.r.trans hq_e_376.symm)]; exact hnr_396), Or.inr ⟨rfl, rfl, Or.inr ⟨(mu_59 (q_413 (by omega)) (by omega)).1, Or.inr ⟨by rw [show nxF (fv 0) n26 (skB (fv 0) n26 k25_382) = k25_419 from (mu_59 (q_413 (by omega)) (by omega)).2.symm.trans q_425.eq]; exact kd_ne q_424 c_426, (q_433.1 (by omega)).1, by rw [show nxF (fv 0) n26 (skB (fv 0) n26 k25_382) = k25_419 from (mu_59 (q_413 (by omega)) (by omega)).2.symm.trans q_425.eq]⟩⟩⟩⟩) (fun _ => (q_433.1 (by omega)).2) (fun _ => by rw [hf_403]; exact up_eq)), fun i h9 => by rw [hf_403]; exact up_ne h9, fun h9 => absurd h9 (by omega), by rw [ht]; exact hP, va_K.moved hW.alike hK, hD⟩, hS.F ht⟩) hS.2.2 dX9_reads_119
    have d_434 := n_ne (a := c_359) (b := 0) (by omega) (by omega) c_372
    refine lv_aload_n hx hb dX9_reads_48 rfl (lv_at hl 0 rfl) ?_
    refine lv_iconst (v := 1) hx hb dX9_reads_49 (by decide) ?_
    refine lv_aload_n hx hb dX9_reads_50 rfl (lv_at hl 0 rfl) ?_
    refine va_get (D := D) (ci := 9) (v := .int (nI k25_353)) (C := RX9) (T := TX9) (N := 44) hx hb hts hin9 hown hK hP 0 rfl rfl 25 (by decide) (hts (.fieldLink RX9 87 "HoneyHouseModel" "at" "I") (List.mem_of_getElem? (i := 1) rfl)) (fun _ h9 => h9) rfl dX9_reads_51 ?_
    have hFc := free_all hD hS hA
    refine va_callv (va_runV (As := [.int 1, .int (nI k25_353)]) (rest := []) ⟨hx, hb, hml, hown, hts⟩ (m_blame l D h0 ad cs (upd (upd (upd (upd (upd (upd iv 21 (nI k21_334)) 22 p22_335) 25 (nI k25_353)) 29 (nI k29_337)) 30 (nI k30_338)) 31 (nI k31_339)) (uF (uF (uF (uF fv 15 f15_6) 16 f16_7) 19 f19_340) 28 f28_341) gv k21_334 1 (nI k25_353) H.size rfl (by omega) (by omega)) (cwV 2 hts gX9_reads_X9_blame rfl rfl rfl (by decide +kernel) ⟨Nat.le_of_ble_eq_true rfl, Nat.le_of_ble_eq_true rfl⟩) ⟨fun a U g mk q => by obtain ⟨q0, q1, qP, qK, qD⟩ := q; exact ⟨q0, q1, qP, va_K.moved (u := U) (U := U.calling g mk a) (Vm.Alike.refl U.vm) qK, qD⟩, va_recv hK hP (ci := 9) (q0 := 0) rfl rfl, fun U hU hW => ⟨rfl, by rw [hU], by rw [hU]; exact hP, va_K.moved hW.alike hK, hD.weaken (fun _ _ _ _ => trivial)⟩⟩ rfl rfl hl.1 rfl (lv_room (Nat.le_of_ble_eq_true rfl)) dX9_reads_54 ⟨Nat.le_of_ble_eq_true rfl, Nat.le_of_ble_eq_true rfl⟩) hS (fun q _ h => hFc q h) hFc (fun u t H1 locs ht hvm w_436 hB hz1 hk1 hS => ?_)
    obtain ⟨k21_437, p22_438, q_439, q_440, q_441, hP1, hK1, hD1⟩ := hB
    replace q_441 : (k21_334 = 0 → k21_437 = 1 ∧ p22_438 = (nI k25_353)) ∧ (¬ k21_334 = 0 → k21_437 = k21_334 ∧ p22_438 = (p22_335)) := q_441
    rw [ht] at hP1
    have hK := va_K.moved hvm.symm hK1
    generalize H1 = H at hP1 hS ⊢
    have hP : va_P D vwCl (mw h0 ad cs (upd (upd (upd (upd (upd (upd iv 21 (nI k21_437)) 22 p22_438) 25 (nI k25_353)) 29 (nI k29_337)) 30 (nI k30_338)) 31 (nI k31_339)) (uF (uF (uF (uF fv 15 f15_6) 16 f16_7) 19 f19_340) 28 f28_341) gv) H := hP1
    have hD : va_D A (mw h0 ad cs (upd (upd (upd (upd (upd (upd iv 21 (nI k21_437)) 22 p22_438) 25 (nI k25_353)) 29 (nI k29_337)) 30 (nI k30_338)) 31 (nI k31_339)) (uF (uF (uF (uF fv 15 f15_6) 16 f16_7) 19 f19_340) 28 f28_341) gv) := hD1.weaken (fun _ _ _ h => hFc _ h)
    have hP : va_P D vwCl (mw h0 ad cs (upd (upd (upd (upd (upd (upd iv 21 (nI k21_437)) 22 p22_438) 25 (nI k25_353)) 29 (nI k29_337)) 30 (nI k30_338)) 31 (nI k31_339)) (uF (uF (uF (uF (uF fv 15 f15_6) 16 f16_7) 17 (fv 17)) 19 f19_340) 28 f28_341) gv) H := hP
    have hD : va_D A (mw h0 ad cs (upd (upd (upd (upd (upd (upd iv 21 (nI k21_437)) 22 p22_438) 25 (nI k25_353)) 29 (nI k29_337)) 30 (nI k30_338)) 31 (nI k31_339)) (uF (uF (uF (uF (uF fv 15 f15_6) 16 f16_7) 17 (fv 17)) 19 f19_340) 28 f28_341) gv) := hD
    exact W.vret hx hb hr (fun t ht hW => ⟨⟨(), rfl, trivial, k21_437, p22_438, nI k25_353, nI k29_337, nI k30_338, nI k31_339, f15_6, f16_7, fv 17, f19_340, f28_341, by omega, q_345, q_11, Or.inl (by omega), (rd_4 (P := k25_353) (fr := 0) q_13 (by omega) (q_234 (by omega)) (by omega) q_347 (by omega) (by rw [show skB (fv 0) n26 k25_336 = k25_353 from q_358.eq]; exact Or.inl ⟨by omega, (q_441.1 (by omega)).1, rfl⟩) (fun _ => (q_441.1 (by omega)).2) (fun h9 => absurd h9 (by omega))), fun _ _ => rfl, fun h9 => absurd h9 (by omega), by rw [ht]; exact hP, va_K.moved hW.alike hK, hD⟩, hS.F ht⟩) hS.2.2 dX9_reads_57
  have d_442 := n_nle (a := k21_334) (b := 0) (by omega) (by omega) c_349
  have hP : va_P D vwCl (mw h0 ad cs (upd (upd (upd (upd (upd (upd iv 21 (nI k21_334)) 22 p22_335) 25 (nI k25_336)) 29 (nI k29_337)) 30 (nI k30_338)) 31 (nI k31_339)) (uF (uF (uF (uF (uF fv 15 f15_6) 16 f16_7) 17 (fv 17)) 19 f19_340) 28 f28_341) gv) H := hP
  have hD : va_D A (mw h0 ad cs (upd (upd (upd (upd (upd (upd iv 21 (nI k21_334)) 22 p22_335) 25 (nI k25_336)) 29 (nI k29_337)) 30 (nI k30_338)) 31 (nI k31_339)) (uF (uF (uF (uF (uF fv 15 f15_6) 16 f16_7) 17 (fv 17)) 19 f19_340) 28 f28_341) gv) := hD
  exact W.vret hx hb hr (fun t ht hW => ⟨⟨(), rfl, trivial, k21_334, p22_335, nI k25_336, nI k29_337, nI k30_338, nI k31_339, f15_6, f16_7, fv 17, f19_340, f28_341, by omega, q_345, q_11, Or.inl (by omega), (rd_3 q_13 (by omega) (q_234 (by omega)) (by omega) q_347 (by omega)), fun _ _ => rfl, fun h9 => ((q_348 (by omega)).trans (((q_234 (by omega)).elim (fun q9 => q9.2.2.1) (fun q9 => by omega)).trans (q_14 (by omega)))), by rw [ht]; exact hP, va_K.moved hW.alike hK, hD⟩, hS.F ht⟩) hS.2.2 dX9_reads_40
