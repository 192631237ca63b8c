theorem dX9_reads_0 : decode cX9_reads 0 = .ok (.aload_n 0, 1) := by decide +kernel
theorem dX9_reads_1 : decode cX9_reads 1 = .ok (.iconst 0, 1) := by decide +kernel
theorem dX9_reads_2 : decode cX9_reads 2 = .ok (.putfield 87, 3) := by decide +kernel
theorem dX9_reads_5 : decode cX9_reads 5 = .ok (.aload_n 0, 1) := by decide +kernel
theorem dX9_reads_6 : decode cX9_reads 6 = .ok (.invokevirtual 268, 3) := by decide +kernel
theorem dX9_reads_9 : decode cX9_reads 9 = .ok (.aload_n 0, 1) := by decide +kernel
theorem dX9_reads_10 : decode cX9_reads 10 = .ok (.getfield 74, 3) := by decide +kernel
theorem dX9_reads_13 : decode cX9_reads 13 = .ok (.ifCond .ne 9, 3) := by decide +kernel
theorem dX9_reads_16 : decode cX9_reads 16 = .ok (.aload_n 0, 1) := by decide +kernel
theorem dX9_reads_17 : decode cX9_reads 17 = .ok (.bipush 58, 2) := by decide +kernel
theorem dX9_reads_19 : decode cX9_reads 19 = .ok (.invokevirtual 271, 3) := by decide +kernel
theorem dX9_reads_22 : decode cX9_reads 22 = .ok (.aload_n 0, 1) := by decide +kernel
theorem dX9_reads_23 : decode cX9_reads 23 = .ok (.getfield 74, 3) := by decide +kernel
theorem dX9_reads_26 : decode cX9_reads 26 = .ok (.ifCond .ne 7, 3) := by decide +kernel
theorem dX9_reads_29 : decode cX9_reads 29 = .ok (.aload_n 0, 1) := by decide +kernel
theorem dX9_reads_30 : decode cX9_reads 30 = .ok (.invokevirtual 274, 3) := by decide +kernel
theorem dX9_reads_33 : decode cX9_reads 33 = .ok (.aload_n 0, 1) := by decide +kernel
theorem dX9_reads_34 : decode cX9_reads 34 = .ok (.getfield 74, 3) := by decide +kernel
theorem dX9_reads_37 : decode cX9_reads 37 = .ok (.ifCond .le 4, 3) := by decide +kernel
theorem dX9_reads_40 : decode cX9_reads 40 = .ok (.return_, 1) := by decide +kernel
theorem dX9_reads_41 : decode cX9_reads 41 = .ok (.aload_n 0, 1) := by decide +kernel
theorem dX9_reads_42 : decode cX9_reads 42 = .ok (.invokevirtual 238, 3) := by decide +kernel
theorem dX9_reads_45 : decode cX9_reads 45 = .ok (.ifCond .eq 13, 3) := by decide +kernel
theorem dX9_reads_48 : decode cX9_reads 48 = .ok (.aload_n 0, 1) := by decide +kernel
theorem dX9_reads_49 : decode cX9_reads 49 = .ok (.iconst 1, 1) := by decide +kernel
theorem dX9_reads_50 : decode cX9_reads 50 = .ok (.aload_n 0, 1) := by decide +kernel
theorem dX9_reads_51 : decode cX9_reads 51 = .ok (.getfield 87, 3) := by decide +kernel
theorem dX9_reads_54 : decode cX9_reads 54 = .ok (.invokevirtual 195, 3) := by decide +kernel
theorem dX9_reads_57 : decode cX9_reads 57 = .ok (.return_, 1) := by decide +kernel
theorem dX9_reads_58 : decode cX9_reads 58 = .ok (.aload_n 0, 1) := by decide +kernel
theorem dX9_reads_59 : decode cX9_reads 59 = .ok (.aload_n 0, 1) := by decide +kernel
theorem dX9_reads_60 : decode cX9_reads 60 = .ok (.invokevirtual 229, 3) := by decide +kernel
theorem dX9_reads_63 : decode cX9_reads 63 = .ok (.putfield 87, 3) := by decide +kernel
theorem dX9_reads_66 : decode cX9_reads 66 = .ok (.aload_n 0, 1) := by decide +kernel
theorem dX9_reads_67 : decode cX9_reads 67 = .ok (.getfield 62, 3) := by decide +kernel
theorem dX9_reads_70 : decode cX9_reads 70 = .ok (.aload_n 0, 1) := by decide +kernel
theorem dX9_reads_71 : decode cX9_reads 71 = .ok (.getfield 53, 3) := by decide +kernel
theorem dX9_reads_74 : decode cX9_reads 74 = .ok (.aload_n 0, 1) := by decide +kernel
theorem dX9_reads_75 : decode cX9_reads 75 = .ok (.sipush 30000, 3) := by decide +kernel
theorem dX9_reads_78 : decode cX9_reads 78 = .ok (.invokevirtual 241, 3) := by decide +kernel
theorem dX9_reads_81 : decode cX9_reads 81 = .ok (.iastore, 1) := by decide +kernel
theorem dX9_reads_82 : decode cX9_reads 82 = .ok (.aload_n 0, 1) := by decide +kernel
theorem dX9_reads_83 : decode cX9_reads 83 = .ok (.getfield 74, 3) := by decide +kernel
theorem dX9_reads_86 : decode cX9_reads 86 = .ok (.ifCond .ne 9, 3) := by decide +kernel
theorem dX9_reads_89 : decode cX9_reads 89 = .ok (.aload_n 0, 1) := by decide +kernel
theorem dX9_reads_90 : decode cX9_reads 90 = .ok (.bipush 59, 2) := by decide +kernel
theorem dX9_reads_92 : decode cX9_reads 92 = .ok (.invokevirtual 271, 3) := by decide +kernel
theorem dX9_reads_95 : decode cX9_reads 95 = .ok (.aload_n 0, 1) := by decide +kernel
theorem dX9_reads_96 : decode cX9_reads 96 = .ok (.getfield 74, 3) := by decide +kernel
theorem dX9_reads_99 : decode cX9_reads 99 = .ok (.ifCond .ne 20, 3) := by decide +kernel
theorem dX9_reads_102 : decode cX9_reads 102 = .ok (.aload_n 0, 1) := by decide +kernel
theorem dX9_reads_103 : decode cX9_reads 103 = .ok (.invokevirtual 191, 3) := by decide +kernel
theorem dX9_reads_106 : decode cX9_reads 106 = .ok (.iconst (-1), 1) := by decide +kernel
theorem dX9_reads_107 : decode cX9_reads 107 = .ok (.if_icmp .eq 12, 3) := by decide +kernel
theorem dX9_reads_110 : decode cX9_reads 110 = .ok (.aload_n 0, 1) := by decide +kernel
theorem dX9_reads_111 : decode cX9_reads 111 = .ok (.iconst 1, 1) := by decide +kernel
theorem dX9_reads_112 : decode cX9_reads 112 = .ok (.aload_n 0, 1) := by decide +kernel
theorem dX9_reads_113 : decode cX9_reads 113 = .ok (.getfield 87, 3) := by decide +kernel
theorem dX9_reads_116 : decode cX9_reads 116 = .ok (.invokevirtual 195, 3) := by decide +kernel
theorem dX9_reads_119 : decode cX9_reads 119 = .ok (.return_, 1) := by decide +kernel
set_option maxRecDepth 20000 in
theorem ggX9_reads_X9_name : GoodIn wsX9_reads wsX9_name := goodIn_r _ [9, 1, 2, 10, 4, 11, 12, 13, 14, 15, 8, 16, 17, 18, 19, 20, 21, 22, 23, 24, 25, 26, 27, 28, 29, 30, 31, 32, 33, 34, 35, 36, 37, 38, 39, 40, 41, 42, 43, 44, 45, 46, 47, 48, 49, 98, 99, 100, 101, 102, 103, 104, 105, 106, 107, 108, 109, 110, 111, 112, 113, 114, 115, 116, 117, 118, 119, 120, 121, 122, 123, 124, 125, 126, 127, 128, 129, 130, 131, 132, 133, 134, 135, 136, 137, 138, 139, 140, 141] rfl (by decide +kernel)
set_option maxRecDepth 20000 in
theorem gX9_reads_X9_name : GoodIn wsX9_reads (wsV RX9 268 RX9 yX9_name wsX9_name) := goodIn_app (goodIn_of _ (by decide +kernel)) ggX9_reads_X9_name
set_option maxRecDepth 20000 in
theorem ggX9_reads_X9_peek : GoodIn wsX9_reads wsX9_peek := goodIn_r _ [65, 13, 14, 15, 8, 16, 1, 17, 12, 18, 19, 20, 26, 27, 28, 29, 30, 31, 32, 33, 34, 35, 36, 37, 38, 39, 40, 41, 42, 43, 44, 45, 46, 47, 48, 49, 98, 99, 100, 101, 102, 103, 104, 105, 106, 107, 108, 109, 110, 111, 112, 113, 114, 115, 116, 117, 118, 119, 120, 121, 122, 123, 124, 125, 126, 127, 128, 129, 130, 131, 132, 133, 134, 135, 136, 137, 138, 139, 140, 141] rfl (by decide +kernel)
set_option maxRecDepth 20000 in
theorem gX9_reads_X9_peek : GoodIn wsX9_reads (wsV RX9 238 RX9 yX9_peek wsX9_peek) := goodIn_app (goodIn_of _ (by decide +kernel)) ggX9_reads_X9_peek
set_option maxRecDepth 20000 in
theorem ggX9_reads_X9_blame : GoodIn wsX9_reads wsX9_blame := goodIn_r _ [24, 2, 25, 98, 99, 100, 101, 102, 103, 104, 105, 106, 107, 108, 109, 110, 111, 112, 113, 114, 115, 116, 117, 118, 119, 120, 121, 122, 123, 124, 125, 126, 127, 128, 129, 130, 131, 132, 133, 134, 135, 136, 137, 138, 139, 140, 141] rfl (by decide +kernel)
set_option maxRecDepth 20000 in
theorem gX9_reads_X9_blame : GoodIn wsX9_reads (wsV RX9 195 RX9 yX9_blame wsX9_blame) := goodIn_app (goodIn_of _ (by decide +kernel)) ggX9_reads_X9_blame
set_option maxRecDepth 20000 in
theorem ggX9_reads_X9_wordEnd : GoodIn wsX9_reads wsX9_wordEnd := goodIn_r _ [29, 1, 17, 12, 18, 19, 8, 20, 98, 99, 100, 101, 102, 103, 104, 105, 106, 107, 108, 109, 110, 111, 112, 113, 114, 115, 116, 117, 118, 119, 120, 121, 122, 123, 124, 125, 126, 127, 128, 129, 130, 131, 132, 133, 134, 135, 136, 137, 138, 139, 140, 141] rfl (by decide +kernel)
set_option maxRecDepth 20000 in
theorem gX9_reads_X9_wordEnd : GoodIn wsX9_reads (wsV RX9 229 RX9 yX9_wordEnd wsX9_wordEnd) := goodIn_app (goodIn_of _ (by decide +kernel)) ggX9_reads_X9_wordEnd
set_option maxRecDepth 20000 in
theorem ggX9_reads_X9_number : GoodIn wsX9_reads wsX9_number := goodIn_r _ [77, 1, 17, 12, 2, 13, 14, 15, 8, 16, 78, 79, 80, 21, 22, 23, 24, 25, 98, 99, 100, 101, 102, 103, 104, 105, 106, 107, 108, 109, 110, 111, 112, 113, 114, 115, 116, 117, 118, 119, 120, 121, 122, 123, 124, 125, 126, 127, 128, 129, 130, 131, 132, 133, 134, 135, 136, 137, 138, 139, 140, 141] rfl (by decide +kernel)
set_option maxRecDepth 20000 in
theorem gX9_reads_X9_number : GoodIn wsX9_reads (wsV RX9 241 RX9 yX9_number wsX9_number) := goodIn_app (goodIn_of _ (by decide +kernel)) ggX9_reads_X9_number
set_option maxRecDepth 20000 in
theorem ggX9_reads_X9_must : GoodIn wsX9_reads wsX9_must := goodIn_r _ [53, 1, 13, 14, 15, 8, 16, 17, 12, 21, 22, 23, 24, 2, 25, 98, 99, 100, 101, 102, 103, 104, 105, 106, 107, 108, 109, 110, 111, 112, 113, 114, 115, 116, 117, 118, 119, 120, 121, 122, 123, 124, 125, 126, 127, 128, 129, 130, 131, 132, 133, 134, 135, 136, 137, 138, 139, 140, 141] rfl (by decide +kernel)
set_option maxRecDepth 20000 in
theorem gX9_reads_X9_must : GoodIn wsX9_reads (wsV RX9 271 RX9 yX9_must wsX9_must) := goodIn_app (goodIn_of _ (by decide +kernel)) ggX9_reads_X9_must
set_option maxRecDepth 20000 in
theorem ggX9_reads_X9_here : GoodIn wsX9_reads wsX9_here := goodIn_r _ [16, 1, 17, 12, 98, 99, 100, 101, 102, 103, 104, 105, 106, 107, 108, 109, 110, 111, 112, 113, 114, 115, 116, 117, 118, 119, 120, 121, 122, 123, 124, 125, 126, 127, 128, 129, 130, 131, 132, 133, 134, 135, 136, 137, 138, 139, 140, 141] rfl (by decide +kernel)
set_option maxRecDepth 20000 in
theorem gX9_reads_X9_here : GoodIn wsX9_reads (wsV RX9 191 RX9 yX9_here wsX9_here) := goodIn_app (goodIn_of _ (by decide +kernel)) ggX9_reads_X9_here
set_option maxRecDepth 20000 in
theorem ggX9_reads_X9_either : GoodIn wsX9_reads wsX9_either := goodIn_r _ [57, 58, 59, 60, 2, 61, 1, 13, 14, 15, 8, 16, 17, 12, 62, 63, 64, 65, 18, 19, 20, 26, 27, 28, 29, 30, 31, 32, 33, 34, 35, 36, 37, 38, 39, 40, 41, 42, 43, 44, 45, 46, 47, 48, 49, 66, 67, 68, 69, 21, 22, 23, 24, 25, 70, 71, 72, 73, 74, 75, 76, 77, 78, 79, 80, 81, 82, 83, 84, 85, 4, 86, 87, 88, 89, 90, 91, 92, 93, 94, 95, 96, 97, 98, 99, 100, 101, 102, 103, 104, 105, 106, 107, 108, 109, 110, 111, 112, 113, 114, 115, 116, 117, 118, 119, 120, 121, 122, 123, 124, 125, 126, 127, 128, 129, 130, 131, 132, 133, 134, 135, 136, 137, 138, 139, 140, 141] rfl (by decide +kernel)
set_option maxRecDepth 20000 in
theorem gX9_reads_X9_either : GoodIn wsX9_reads (wsV RX9 274 RX9 yX9_either wsX9_either) := goodIn_app (goodIn_of _ (by decide +kernel)) ggX9_reads_X9_either
/-- what reading the text leaves behind: q is the day, the name and the code are kept as rule z -/
def RD0 (f : Nat → Int32) (n k : Nat) (p : Int32) : Prop := ∃ (P fr : Nat) (T : List Tk), rdR f n k P fr T ∧ (¬ k = 0 → p = nI P)
def RDS (f : Nat → Int32) (n k : Nat) (p q : Int32) (g15 g16 g19 : Nat → Int32) (p30 : Int32) (z : Nat) : Prop := ∃ (P fr : Nat) (T : List Tk), rdR f n k P fr T ∧ (¬ k = 0 → p = nI P) ∧ (k = 0 → q = nI fr ∧ NMR f n (skB f n 0) g15 g16 z ∧ ∃ c : Nat, c ≤ 200 ∧ p30 = nI c ∧ cfr g19 (200 * z) T (200 * z + c))
def MUS (f : Nat → Int32) (n b k : Nat) (p p0 : Int32) (a : Nat) (x : Int32) : Prop := ((b < n ∧ f b = x) ∧ k = 0 ∧ p = p0 ∧ a = b + 1) ∨ (¬ (b < n ∧ f b = x) ∧ k = 1 ∧ p = nI b)
section RDL
variable {f g15 g16 g19 : Nat → Int32} {n k k0 k1 k2 a a0 a1 a2 z c : Nat} {p q p0 p1 p2 x1 p30 : Int32}
theorem RDS.w (h : RDS f n k p q g15 g16 g19 p30 z) : RD0 f n k p := by
  obtain ⟨P, fr, T, h1, h2, -⟩ := h
  exact ⟨P, fr, T, h1, h2⟩
theorem rd_1 (h : NMF f n (skB f n 0) k p a) (hk : ¬ k = 0) : RDS f n k p q g15 g16 g19 p30 z := by
  rcases h with ⟨h1, h2, h3⟩ | ⟨h1, h2, h3, h4⟩ | ⟨h1, h2, h3, h4⟩
  · exact ⟨_, 0, [], Or.inl ⟨h1, h2, rfl⟩, fun _ => h3, fun z => absurd z hk⟩
  · exact ⟨_, 0, [], Or.inr (Or.inl ⟨h1, h2, h3, rfl⟩), fun _ => h4, fun z => absurd z hk⟩
  · exact absurd h3 hk
theorem nm_ok (h : NMF f n (skB f n 0) k0 p0 a0) (h0 : k0 = 0) : wdE f n (skB f n 0) = 11 ∧ ¬ skB f n 0 + 12 < teF f n (skB f n 0) ∧ skB f n a0 = nxF f n (skB f n 0) := by
  rcases h with ⟨h1, h2, h3⟩ | ⟨h1, h2, h3, h4⟩ | ⟨h1, h2, h3, h4⟩
  · omega
  · omega
  · exact ⟨h1, h2, h4⟩
theorem rd_2 (h : NMF f n (skB f n 0) k0 p0 a0) (h0 : k0 = 0) (hm : MUS f n (skB f n a0) k p p1 a 58) (hk : ¬ k = 0) : RDS f n k p q g15 g16 g19 p30 z := by
  obtain ⟨e1, e2, e3⟩ := nm_ok h h0
  rw [e3] at hm
  rcases hm with ⟨m1, m2, -⟩ | ⟨m1, m2, m3⟩
  · exact absurd m2 hk
  · exact ⟨_, 0, [], Or.inr (Or.inr ⟨e1, e2, Or.inl ⟨m1, m2, rfl⟩⟩), fun _ => m3, fun z => absurd z hk⟩
theorem mu_ok (hm : MUS f n (skB f n a0) k1 p1 x1 a1 58) (h1 : k1 = 0) : (skB f n a0 < n ∧ f (skB f n a0) = 58) ∧ skB f n a1 = nxF f n (skB f n a0) := by
  rcases hm with ⟨m1, m2, -, m3⟩ | ⟨m1, m2, m3⟩
  · exact ⟨m1, nx_4 (oth_t m1 (by unfold ltr; decide) (by unfold dgt; decide)) m3⟩
  · omega
theorem rd_3 (h : NMF f n (skB f n 0) k0 p0 a0) (h0 : k0 = 0) (hm : MUS f n (skB f n a0) k1 p1 x1 a1 58) (h1 : k1 = 0) (he : EIF f n (0, skB f n a1, [], []) k p a g19 z c) (hk : ¬ k = 0) : RDS f n k p q g15 g16 g19 p30 z := by
  obtain ⟨e1, e2, e3⟩ := nm_ok h h0
  obtain ⟨m1, m2⟩ := mu_ok hm h1
  rw [m2] at he
  rw [e3] at m1 he
  rcases he with ⟨he, -⟩ | ⟨-, P, hP, he⟩
  · exact absurd he hk
  · exact ⟨P, 0, [], Or.inr (Or.inr ⟨e1, e2, Or.inr ⟨m1, _, he, Or.inl ⟨k, by omega, rfl, rfl, rfl⟩⟩⟩), fun _ => hP, fun z => absurd z hk⟩
theorem rd_4 {P fr : Nat} (h : NMF f n (skB f n 0) k0 p0 a0) (h0 : k0 = 0) (hm : MUS f n (skB f n a0) k1 p1 x1 a1 58) (h1 : k1 = 0) (he : EIF f n (0, skB f n a1, [], []) k2 p2 a2 g19 z c) (h2 : k2 = 0) (hN : NMR f n (skB f n 0) g15 g16 z) (hc : c ≤ 200) (h30 : p30 = nI c) (ht : tailR f n (skB f n a2) k P fr) (hp : ¬ k = 0 → p = nI P) (hq : k = 0 → q = nI fr) : RDS f n k p q g15 g16 g19 p30 z := by
  obtain ⟨e1, e2, e3⟩ := nm_ok h h0
  obtain ⟨m1, m2⟩ := mu_ok hm h1
  rw [m2] at he
  rw [e3] at m1 he
  rcases he with ⟨-, T, he, hT⟩ | ⟨he, -⟩
  · exact ⟨P, fr, T, Or.inr (Or.inr ⟨e1, e2, Or.inr ⟨m1, _, he, Or.inr ⟨rfl, rfl, ht⟩⟩⟩), hp, fun z9 => ⟨hq z9, hN, c, hc, h30, hT⟩⟩
  · exact absurd h2 he
theorem mu_59 (hm : MUS f n (skB f n a0) k1 p1 x1 a1 59) (h1 : k1 = 0) : (skB f n a0 < n ∧ f (skB f n a0) = 59) ∧ skB f n a1 = nxF f n (skB f n a0) := by
  rcases hm with ⟨m1, m2, -, m3⟩ | ⟨m1, m2, m3⟩
  · exact ⟨m1, nx_4 (oth_t m1 (by unfold ltr; decide) (by unfold dgt; decide)) m3⟩
  · omega
end RDL
theorem kd_ne {f : Nat → Int32} {n k : Nat} {r : Int32} (h : (r = (-1) ∧ k = n) ∨ (k < n ∧ r = f k)) (hr : ¬ r = (-1)) : ¬ kdF f n k = 0 := by
  rcases h with h | h
  · exact absurd h.1 hr
  · intro q
    rcases kdF_c (f := f) (n := n) (b := k) with z | z | z | z <;> omega
theorem kd_eq {f : Nat → Int32} {n k : Nat} {r : Int32} (h : (r = (-1) ∧ k = n) ∨ (k < n ∧ r = f k)) (hr : r = (-1)) (hng : ∀ i : Nat, i < n → ¬ f i = -1) : kdF f n k = 0 := by
  rcases h with h | h
  · exact kdF_0 (by omega)
  · exact absurd (h.2.symm.trans hr) (hng k h.1)
set_option maxHeartbeats 4000000 in
set_option maxRecDepth 100000 in
theorem m_reads (l : Launch) (D : va_G) (h0 : Nat) (ad : Nat → Nat) (cs : Nat → ClassId) (iv : Nat → Int32) (fv : Nat → Nat → Int32) (gv : Nat → Int64) (n14 n21 n26 : Nat)  (sz : Nat) (h14 : iv 14 = nI n14) (h21 : iv 21 = nI n21) (h26 : iv 26 = nI n26) (b15 : n14 ≤ 15) (z21 : n21 = 0) (b26 : n26 ≤ 400) (hng : ∀ i : Nat, i < n26 → ¬ fv 0 i = -1) : Met l yX9_reads wsX9_reads ({ frames := 5, cells := 0, slots := 0, locals := 115 }) (va_Pc [.ref h0] (fun U => U.heap.size = sz ∧ va_P D vwCl (mw h0 ad cs iv fv gv) U.heap ∧ va_K D vwCl (mT cs) U ∧ va_D (fun _ => True) (mw h0 ad cs iv fv gv))) (va_Qv (fun _ : Unit => True) (fun (_ : Unit) (t : State) => ∃ (k21 : Nat) (p22 : Int32) (p25 : Int32) (p29 : Int32) (p30 : Int32) (p31 : Int32) (f15 : Nat → Int32) (f16 : Nat → Int32) (f17 : Nat → Int32) (f19 : Nat → Int32) (f28 : Nat → Int32), (k21 ≤ 3) ∧ (∀ i : Nat, i < 200 * n14 → f19 i = fv 19 i) ∧ (∀ i : Nat, ¬ i = n14 → f16 i = fv 16 i) ∧ True ∧ (RDS (fv 0) n26 k21 p22 (f17 n14) f15 f16 f19 p30 n14) ∧ (∀ i : Nat, ¬ i = n14 → f17 i = fv 17 i) ∧ (k21 = 0 → p22 = iv 22) ∧ (∀ i : Nat, i < 12 * n14 → f15 i = fv 15 i) ∧ va_P D vwCl (mw h0 ad cs (upd (upd (upd (upd (upd (upd iv 21 (nI k21)) 22 p22) 25 p25) 29 p29) 30 p30) 31 p31) (uF (uF (uF (uF (uF fv 15 f15) 16 f16) 17 f17) 19 f19) 28 f28) gv) t.heap ∧ va_K D vwCl (mT cs) t ∧ va_D (va_A (mw h0 ad cs iv fv gv) sz) (mw h0 ad cs (upd (upd (upd (upd (upd (upd iv 21 (nI k21)) 22 p22) 25 p25) 29 p29) 30 p30) 31 p31) (uF (uF (uF (uF (uF fv 15 f15) 16 f16) 17 f17) 19 f19) 28 f28) gv)) (va_A (mw h0 ad cs iv fv gv) sz)) 0 0 (va_A (mw h0 ad cs iv fv gv) sz) := by
  refine Met.ofW (cc := cX9_reads) (maxL := 1) (ret := none) (by decide) rfl ?_
  intro p e s m args below meth c s₁ B hml hv
  obtain ⟨rfl, hsz, hP, hK, hD0⟩ := hv
  have hx := B.exec
  have hb := B.bytes
  have hr := B.returns
  have hts := atoms_spec (ws := wsX9_reads) B.pre
  have hown : s.vm.findClass RX9 = some m.cls := findClass_of_methodNamed B.named
  have hlocks := B.notSynchronized
  subst hsz
  have hD := hD0.self (sz := s.heap.size)
  generalize hAe : va_A (mw h0 ad cs iv fv gv) s.heap.size = A at hD ⊢
  have hA : ∀ q : Nat, s.heap.size ≤ q → A q := fun q h => by rw [← hAe]; exact Or.inr h
  have hS : va_S A s.heap s.heap [] := va_S.rf
  have hin9 : ∀ w ∈ u_ws RX9 TX9 44, w ∈ wsX9_reads := (fun _ h9 => List.mem_cons_of_mem _ ((List.mem_append_right _ h9)))
  have hl := lv_entry ([.ref h0]) (n := 1) (Nat.le_of_ble_eq_true rfl)
  rw [lg_entry_eq]
  generalize (lg_sl ([.ref h0]) ++ List.replicate (1 - (lg_sl ([.ref h0])).length) Slot.unset).toArray = ls at hl ⊢
  have hl : lv_has ls 1 [(0, .ref h0)] := hl
  refine lv_aload_n hx hb dX9_reads_0 rfl (lv_at hl 0 rfl) ?_
  refine lv_iconst (v := 0) hx hb dX9_reads_1 (by decide) ?_
  refine va_put (D := D) (ci := 9) (v := .int 0) (ty := .int) (C := RX9) (T := TX9) (N := 44) hx hb hts hin9 tyX9 tyX9_ok nmX9 hown hK hP hD hS 0 rfl rfl 25 (by decide) (hts (.fieldLink RX9 87 "HoneyHouseModel" "at" "I") (List.mem_of_getElem? (i := 1) rfl)) (fun _ h9 => h9) rfl (tyX9_ok 25 (by decide)) rfl rfl (Nat.le_of_ble_eq_true rfl) dX9_reads_2 (fun H locs hP hD hS => ?_)
  have hP : va_P D vwCl (mw h0 ad cs (upd iv 25 0) fv gv) H := hP
  have hD : va_D A (mw h0 ad cs (upd iv 25 0) fv gv) := hD
  refine lv_aload_n hx hb dX9_reads_5 rfl (lv_at hl 0 rfl) ?_
  have hFc := free_all hD hS hA
  refine va_callv (va_runV (As := []) (rest := []) ⟨hx, hb, hml, hown, hts⟩ (m_name l D h0 ad cs (upd iv 25 0) fv gv n14 n21 0 n26  H.size h14 h21 rfl h26 (by omega) (by omega) (by omega) (by omega)) (cwV 0 hts gX9_reads_X9_name rfl rfl rfl (by decide +kernel) ⟨Nat.le_of_ble_eq_true rfl, Nat.le_of_ble_eq_true rfl⟩) ⟨fun a U g mk q => by obtain ⟨q0, q1, qP, qK, qD⟩ := q; exact ⟨q0, q1, qP, va_K.moved (u := U) (U := U.calling g mk a) (Vm.Alike.refl U.vm) qK, qD⟩, va_recv hK hP (ci := 9) (q0 := 0) rfl rfl, fun U hU hW => ⟨rfl, by rw [hU], by rw [hU]; exact hP, va_K.moved hW.alike hK, hD.weaken (fun _ _ _ _ => trivial)⟩⟩ rfl rfl hl.1 rfl (lv_room (Nat.le_of_ble_eq_true rfl)) dX9_reads_6 ⟨Nat.le_of_ble_eq_true rfl, Nat.le_of_ble_eq_true rfl⟩) hS (fun q _ h => hFc q h) hFc (fun u t H1 locs ht hvm w_2 hB hz1 hk1 hS => ?_)
  obtain ⟨k21_3, p22_4, k25_5, f15_6, f16_7, q_8, q_9, q_10, q_11, q_12, q_13, q_14, q_15, q_16, hP1, hK1, hD1⟩ := hB
  replace q_11 : ∀ i : Nat, ¬ i = n14 → f16_7 i = (fv 16) i := q_11
  replace q_13 : NMF ((fv 0)) n26 (skB ((fv 0)) n26 0) k21_3 p22_4 k25_5 := q_13
  replace q_14 : k21_3 = 0 → p22_4 = (iv 22) := q_14
  replace q_15 : ∀ i : Nat, i < 12 * n14 → f15_6 i = (fv 15) i := q_15
  replace q_16 : k21_3 = 0 → NMR ((fv 0)) n26 (skB ((fv 0)) n26 0) f15_6 f16_7 n14 := q_16
  rw [ht] at hP1
  have hK := va_K.moved hvm.symm hK1
  generalize H1 = H at hP1 hS ⊢
  have hP : va_P D vwCl (mw h0 ad cs (upd (upd (upd iv 21 (nI k21_3)) 22 p22_4) 25 (nI k25_5)) (uF (uF fv 15 f15_6) 16 f16_7) gv) H := hP1
  have hD : va_D A (mw h0 ad cs (upd (upd (upd iv 21 (nI k21_3)) 22 p22_4) 25 (nI k25_5)) (uF (uF fv 15 f15_6) 16 f16_7) gv) := hD1.weaken (fun _ _ _ h => hFc _ h)
  refine lv_aload_n hx hb dX9_reads_9 rfl (lv_at hl 0 rfl) ?_
  refine va_get (D := D) (ci := 9) (v := .int (nI k21_3)) (C := RX9) (T := TX9) (N := 44) hx hb hts hin9 hown hK hP 0 rfl rfl 21 (by decide) (hts (.fieldLink RX9 74 "HoneyHouseModel" "faultKind" "I") (List.mem_of_getElem? (i := 2) rfl)) (fun _ h9 => h9) rfl dX9_reads_10 ?_
  refine lv_if_ne (tgt := 22) hx hb dX9_reads_13 (by decide) (fun c_17 => ?_) (fun c_17 => ?_)
  · have d_18 := n_ne (a := k21_3) (b := 0) (by omega) (by omega) c_17
    refine lv_aload_n hx hb dX9_reads_22 rfl (lv_at hl 0 rfl) ?_
    refine va_get (D := D) (ci := 9) (v := .int (nI k21_3)) (C := RX9) (T := TX9) (N := 44) hx hb hts hin9 hown hK hP 0 rfl rfl 21 (by decide) (hts (.fieldLink RX9 74 "HoneyHouseModel" "faultKind" "I") (List.mem_of_getElem? (i := 2) rfl)) (fun _ h9 => h9) rfl dX9_reads_23 ?_
    refine lv_if_ne (tgt := 33) hx hb dX9_reads_26 (by decide) (fun c_19 => ?_) (fun c_19 => ?_)
    · have d_20 := n_ne (a := k21_3) (b := 0) (by omega) (by omega) c_19
      refine lv_aload_n hx hb dX9_reads_33 rfl (lv_at hl 0 rfl) ?_
      refine va_get (D := D) (ci := 9) (v := .int (nI k21_3)) (C := RX9) (T := TX9) (N := 44) hx hb hts hin9 hown hK hP 0 rfl rfl 21 (by decide) (hts (.fieldLink RX9 74 "HoneyHouseModel" "faultKind" "I") (List.mem_of_getElem? (i := 2) rfl)) (fun _ h9 => h9) rfl dX9_reads_34 ?_
      refine lv_if_le (tgt := 41) hx hb dX9_reads_37 (by decide) (fun c_21 => ?_) (fun c_21 => ?_)
      · have d_22 := n_le (a := k21_3) (b := 0) (by omega) (by omega) c_21
        refine lv_aload_n hx hb dX9_reads_41 rfl (lv_at hl 0 rfl) ?_
        have hFc := free_all hD hS hA
        refine va_calli (va_runV (As := []) (rest := []) ⟨hx, hb, hml, hown, hts⟩ (m_peek l D h0 ad cs (upd (upd (upd iv 21 (nI k21_3)) 22 p22_4) 25 (nI k25_5)) (uF (uF fv 15 f15_6) 16 f16_7) gv k25_5 n26  H.size rfl h26 (by omega) (by omega)) (cwV 0 hts gX9_reads_X9_peek rfl rfl rfl (by decide +kernel) ⟨Nat.le_of_ble_eq_true rfl, Nat.le_of_ble_eq_true rfl⟩) ⟨fun a U g mk q => by obtain ⟨q0, q1, qP, qK, qD⟩ := q; exact ⟨q0, q1, qP, va_K.moved (u := U) (U := U.calling g mk a) (Vm.Alike.refl U.vm) qK, qD⟩, va_recv hK hP (ci := 9) (q0 := 0) rfl rfl, fun U hU hW => ⟨rfl, by rw [hU], by rw [hU]; exact hP, va_K.moved hW.alike hK, hD.weaken (fun _ _ _ _ => trivial)⟩⟩ rfl rfl hl.1 rfl (lv_room (Nat.le_of_ble_eq_true rfl)) dX9_reads_42 ⟨Nat.le_of_ble_eq_true rfl, Nat.le_of_ble_eq_true rfl⟩) hS (fun q _ h => hFc q h) hFc (fun r_23 u t H1 locs ht hvm w_24 hB hz1 hk1 hS => ?_)
        subst w_24
        obtain ⟨k25_25, q_26, q_27, q_28, q_29, q_30, hP1, hK1, hD1⟩ := hB
        replace q_28 : (k25_5 = n26 ∨ ¬ blk ((fv 0) k25_5)) → k25_25 = k25_5 := q_28
        replace q_29 : PKD ((fv 0)) n26 k25_25 r_23 := q_29
        replace q_30 : isRn blk ((fv 0)) n26 k25_5 k25_25 := q_30
        rw [ht] at hP1
        have hK := va_K.moved hvm.symm hK1
        generalize H1 = H at hP1 hS ⊢
        have hP : va_P D vwCl (mw h0 ad cs (upd (upd (upd iv 21 (nI k21_3)) 22 p22_4) 25 (nI k25_25)) (uF (uF fv 15 f15_6) 16 f16_7) gv) H := hP1
        have hD : va_D A (mw h0 ad cs (upd (upd (upd iv 21 (nI k21_3)) 22 p22_4) 25 (nI k25_25)) (uF (uF fv 15 f15_6) 16 f16_7) gv) := hD1.weaken (fun _ _ _ h => hFc _ h)
        rcases q_29 with ⟨rfl, hw_35⟩ | ⟨c_31, e_32, rfl, he_33, hc_34, hw_35⟩
        · refine lv_if_eq (tgt := 58) hx hb dX9_reads_45 (by decide) (fun c_36 => absurd c_36 (by decide)) (fun c_36 => ?_)
          refine lv_aload_n hx hb dX9_reads_48 rfl (lv_at hl 0 rfl) ?_
          refine lv_iconst (v := 1) hx hb dX9_reads_49 (by decide) ?_
          refine lv_aload_n hx hb dX9_reads_50 rfl (lv_at hl 0 rfl) ?_
          refine va_get (D := D) (ci := 9) (v := .int (nI k25_25)) (C := RX9) (T := TX9) (N := 44) hx hb hts hin9 hown hK hP 0 rfl rfl 25 (by decide) (hts (.fieldLink RX9 87 "HoneyHouseModel" "at" "I") (List.mem_of_getElem? (i := 1) rfl)) (fun _ h9 => h9) rfl dX9_reads_51 ?_
          have hFc := free_all hD hS hA
          refine va_callv (va_runV (As := [.int 1, .int (nI k25_25)]) (rest := []) ⟨hx, hb, hml, hown, hts⟩ (m_blame l D h0 ad cs (upd (upd (upd iv 21 (nI k21_3)) 22 p22_4) 25 (nI k25_25)) (uF (uF fv 15 f15_6) 16 f16_7) gv k21_3 1 (nI k25_25) H.size rfl (by omega) (by omega)) (cwV 2 hts gX9_reads_X9_blame rfl rfl rfl (by decide +kernel) ⟨Nat.le_of_ble_eq_true rfl, Nat.le_of_ble_eq_true rfl⟩) ⟨fun a U g mk q => by obtain ⟨q0, q1, qP, qK, qD⟩ := q; exact ⟨q0, q1, qP, va_K.moved (u := U) (U := U.calling g mk a) (Vm.Alike.refl U.vm) qK, qD⟩, va_recv hK hP (ci := 9) (q0 := 0) rfl rfl, fun U hU hW => ⟨rfl, by rw [hU], by rw [hU]; exact hP, va_K.moved hW.alike hK, hD.weaken (fun _ _ _ _ => trivial)⟩⟩ rfl rfl hl.1 rfl (lv_room (Nat.le_of_ble_eq_true rfl)) dX9_reads_54 ⟨Nat.le_of_ble_eq_true rfl, Nat.le_of_ble_eq_true rfl⟩) hS (fun q _ h => hFc q h) hFc (fun u t H1 locs ht hvm w_38 hB hz1 hk1 hS => ?_)
          obtain ⟨k21_39, p22_40, q_41, q_42, q_43, hP1, hK1, hD1⟩ := hB
          replace q_43 : (k21_3 = 0 → k21_39 = 1 ∧ p22_40 = (nI k25_25)) ∧ (¬ k21_3 = 0 → k21_39 = k21_3 ∧ p22_40 = (p22_4)) := q_43
          rw [ht] at hP1
          have hK := va_K.moved hvm.symm hK1
          generalize H1 = H at hP1 hS ⊢
          have hP : va_P D vwCl (mw h0 ad cs (upd (upd (upd iv 21 (nI k21_39)) 22 p22_40) 25 (nI k25_25)) (uF (uF fv 15 f15_6) 16 f16_7) gv) H := hP1
          have hD : va_D A (mw h0 ad cs (upd (upd (upd iv 21 (nI k21_39)) 22 p22_40) 25 (nI k25_25)) (uF (uF fv 15 f15_6) 16 f16_7) gv) := hD1.weaken (fun _ _ _ h => hFc _ h)
          have hP : va_P D vwCl (mw h0 ad cs (upd (upd (upd (upd (upd (upd iv 21 (nI k21_39)) 22 p22_40) 25 (nI k25_25)) 29 (iv 29)) 30 (iv 30)) 31 (iv 31)) (uF (uF (uF (uF (uF fv 15 f15_6) 16 f16_7) 17 (fv 17)) 19 (fv 19)) 28 (fv 28)) gv) H := hP
          have hD : va_D A (mw h0 ad cs (upd (upd (upd (upd (upd (upd iv 21 (nI k21_39)) 22 p22_40) 25 (nI k25_25)) 29 (iv 29)) 30 (iv 30)) 31 (iv 31)) (uF (uF (uF (uF (uF fv 15 f15_6) 16 f16_7) 17 (fv 17)) 19 (fv 19)) 28 (fv 28)) gv) := hD
          exact W.vret hx hb hr (fun t ht hW => ⟨⟨(), rfl, trivial, k21_39, p22_40, nI k25_25, iv 29, iv 30, iv 31, f15_6, f16_7, fv 17, fv 19, fv 28, by omega, fun i h9 => rfl, q_11, trivial, (by exfalso; omega), fun _ _ => rfl, fun h9 => absurd h9 (by omega), q_15, by rw [ht]; exact hP, va_K.moved hW.alike hK, hD⟩, hS.F ht⟩) hS.2.2 dX9_reads_57
        have he_33b : k25_25 ≤ e_32 ∧ e_32 ≤ n26 := ⟨he_33.1, he_33.2.1⟩
        refine lv_if_eq (tgt := 58) hx hb dX9_reads_45 (by decide) (fun c_44 => ?_) (fun c_44 => ?_)
        · have d_45 := n_eq (a := c_31) (b := 0) (by omega) (by omega) c_44
          refine lv_aload_n hx hb dX9_reads_58 rfl (lv_at hl 0 rfl) ?_
          refine lv_aload_n hx hb dX9_reads_59 rfl (lv_at hl 0 rfl) ?_
          refine vp_callSi (W.runV (As := []) (rest := [.ref h0]) ⟨hx, hb, hml, hown, hts⟩ (m_wordEnd l D h0 ad cs (upd (upd (upd iv 21 (nI k21_3)) 22 p22_4) 25 (nI k25_25)) (uF (uF fv 15 f15_6) 16 f16_7) gv k25_25 n26  rfl h26 (by omega) (by omega)) (cwV 0 hts gX9_reads_X9_wordEnd rfl rfl rfl (by decide +kernel) ⟨Nat.le_of_ble_eq_true rfl, Nat.le_of_ble_eq_true rfl⟩) ⟨fun a U g mk q => ⟨q.1, q.2.1, va_K.moved (u := U) (U := U.calling g mk a) (Vm.Alike.refl U.vm) q.2.2⟩, va_recv hK hP (ci := 9) (q0 := 0) rfl rfl, fun U hU hW => ⟨rfl, by rw [hU]; exact hP, va_K.moved hW.alike hK⟩⟩ rfl rfl hl.1 rfl (lv_room (Nat.le_of_ble_eq_true rfl)) dX9_reads_60 ⟨Nat.le_of_ble_eq_true rfl, Nat.le_of_ble_eq_true rfl⟩) (fun r_46 k_47 => ?_)
          obtain ⟨e_48, rfl, he_49⟩ := k_47
          have hq_e_48 : e_48 = e_32 := he_49.uq he_33
          refine va_put (D := D) (ci := 9) (v := .int (nI e_48)) (ty := .int) (C := RX9) (T := TX9) (N := 44) hx hb hts hin9 tyX9 tyX9_ok nmX9 hown hK hP hD hS 0 rfl rfl 25 (by decide) (hts (.fieldLink RX9 87 "HoneyHouseModel" "at" "I") (List.mem_of_getElem? (i := 1) rfl)) (fun _ h9 => h9) rfl (tyX9_ok 25 (by decide)) rfl rfl (Nat.le_of_ble_eq_true rfl) dX9_reads_63 (fun H locs hP hD hS => ?_)
          have hP : va_P D vwCl (mw h0 ad cs (upd (upd (upd iv 21 (nI k21_3)) 22 p22_4) 25 (nI e_48)) (uF (uF fv 15 f15_6) 16 f16_7) gv) H := hP
          have hD : va_D A (mw h0 ad cs (upd (upd (upd iv 21 (nI k21_3)) 22 p22_4) 25 (nI e_48)) (uF (uF fv 15 f15_6) 16 f16_7) gv) := hD
          refine lv_aload_n hx hb dX9_reads_66 rfl (lv_at hl 0 rfl) ?_
          refine va_get (D := D) (ci := 9) (v := .ref (ad 17)) (C := RX9) (T := TX9) (N := 44) hx hb hts hin9 hown hK hP 0 rfl rfl 17 (by decide) (hts (.fieldLink RX9 62 "HoneyHouseModel" "from" "[I") (List.mem_of_getElem? (i := 3) rfl)) (fun _ h9 => h9) rfl dX9_reads_67 ?_
          refine lv_aload_n hx hb dX9_reads_70 rfl (lv_at hl 0 rfl) ?_
          refine va_get (D := D) (ci := 9) (v := .int (iv 14)) (C := RX9) (T := TX9) (N := 44) hx hb hts hin9 hown hK hP 0 rfl rfl 14 (by decide) (hts (.fieldLink RX9 53 "HoneyHouseModel" "rules" "I") (List.mem_of_getElem? (i := 4) rfl)) (fun _ h9 => h9) rfl dX9_reads_71 ?_
          refine tp_i (y := nI n14) (h14) ?_
          refine lv_aload_n hx hb dX9_reads_74 rfl (lv_at hl 0 rfl) ?_
          refine lv_sipush (v := 30000) hx hb dX9_reads_75 (by decide) ?_
          have hFc := free_all hD hS hA
          refine va_calli (va_runV (As := [.int 30000]) (rest := [.int (nI n14), .ref (ad 17)]) ⟨hx, hb, hml, hown, hts⟩ (m_number l D h0 ad cs (upd (upd (upd iv 21 (nI k21_3)) 22 p22_4) 25 (nI e_48)) (uF (uF fv 15 f15_6) 16 f16_7) gv k21_3 e_48 n26 30000 H.size rfl rfl h26 (by omega) (by omega) (by omega) (by omega)) (cwV 1 hts gX9_reads_X9_number rfl rfl rfl (by decide +kernel) ⟨Nat.le_of_ble_eq_true rfl, Nat.le_of_ble_eq_true rfl⟩) ⟨fun a U g mk q => by obtain ⟨q0, q1, qP, qK, qD⟩ := q; exact ⟨q0, q1, qP, va_K.moved (u := U) (U := U.calling g mk a) (Vm.Alike.refl U.vm) qK, qD⟩, va_recv hK hP (ci := 9) (q0 := 0) rfl rfl, fun U hU hW => ⟨rfl, by rw [hU], by rw [hU]; exact hP, va_K.moved hW.alike hK, hD.weaken (fun _ _ _ _ => trivial)⟩⟩ rfl rfl hl.1 rfl (lv_room (Nat.le_of_ble_eq_true rfl)) dX9_reads_78 ⟨Nat.le_of_ble_eq_true rfl, Nat.le_of_ble_eq_true rfl⟩) hS (fun q _ h => hFc q h) hFc (fun r_50 u t H1 locs ht hvm w_51 hB hz1 hk1 hS => ?_)
          subst w_51
          obtain ⟨k21_52, p22_53, k25_54, q_55, q_56, q_57, q_58, q_59, q_60, hP1, hK1, hD1⟩ := hB
          replace q_59 : NUX ((fv 0)) n26 30000 (skB ((fv 0)) n26 e_48) k21_52 p22_53 k25_54 r_50 := q_59
          replace q_60 : k21_52 = 0 → p22_53 = (p22_4) := q_60
          rw [ht] at hP1
          have hK := va_K.moved hvm.symm hK1
          generalize H1 = H at hP1 hS ⊢
          have hP : va_P D vwCl (mw h0 ad cs (upd (upd (upd iv 21 (nI k21_52)) 22 p22_53) 25 (nI k25_54)) (uF (uF fv 15 f15_6) 16 f16_7) gv) H := hP1
          have hD : va_D A (mw h0 ad cs (upd (upd (upd iv 21 (nI k21_52)) 22 p22_53) 25 (nI k25_54)) (uF (uF fv 15 f15_6) 16 f16_7) gv) := hD1.weaken (fun _ _ _ h => hFc _ h)
          rcases q_58 with hp_61 | ⟨rfl, hg_63⟩
          · obtain ⟨P_66, hP_67, hnr_68⟩ := q_59.no (by omega)
            refine va_iast (f := fv 17) (n := 16) hx hb hK hP hD hS 13 12 rfl rfl (vp_in_nI (n := n14) (by omega) (by omega)) dX9_reads_81 (fun H locs hP hD hS => ?_)
            have hP : va_P D vwCl (mw h0 ad cs (upd (upd (upd iv 21 (nI k21_52)) 22 p22_53) 25 (nI k25_54)) (uF (uF (uF fv 15 f15_6) 16 f16_7) 17 (upd (fv 17) (nI n14).toNatClampNeg r_50)) gv) H := hP
            have hD : va_D A (mw h0 ad cs (upd (upd (upd iv 21 (nI k21_52)) 22 p22_53) 25 (nI k25_54)) (uF (uF (uF fv 15 f15_6) 16 f16_7) 17 (upd (fv 17) (nI n14).toNatClampNeg r_50)) gv) := hD
            obtain ⟨f_69, hf_70⟩ : ∃ g9, g9 = upd (fv 17) (nI n14).toNatClampNeg r_50 := ⟨_, rfl⟩
            rw [← hf_70] at hP hD
            rw [nI_clamp (n := n14) (by omega)] at hf_70
            refine lv_aload_n hx hb dX9_reads_82 rfl (lv_at hl 0 rfl) ?_
            refine va_get (D := D) (ci := 9) (v := .int (nI k21_52)) (C := RX9) (T := TX9) (N := 44) hx hb hts hin9 hown hK hP 0 rfl rfl 21 (by decide) (hts (.fieldLink RX9 74 "HoneyHouseModel" "faultKind" "I") (List.mem_of_getElem? (i := 2) rfl)) (fun _ h9 => h9) rfl dX9_reads_83 ?_
            refine lv_if_ne (tgt := 95) hx hb dX9_reads_86 (by decide) (fun c_71 => ?_) (fun c_71 => absurd c_71 (nI_ne0 (n := k21_52) (by omega) (by omega)))
            refine lv_aload_n hx hb dX9_reads_95 rfl (lv_at hl 0 rfl) ?_
            refine va_get (D := D) (ci := 9) (v := .int (nI k21_52)) (C := RX9) (T := TX9) (N := 44) hx hb hts hin9 hown hK hP 0 rfl rfl 21 (by decide) (hts (.fieldLink RX9 74 "HoneyHouseModel" "faultKind" "I") (List.mem_of_getElem? (i := 2) rfl)) (fun _ h9 => h9) rfl dX9_reads_96 ?_
            refine lv_if_ne (tgt := 119) hx hb dX9_reads_99 (by decide) (fun c_72 => ?_) (fun c_72 => absurd c_72 (nI_ne0 (n := k21_52) (by omega) (by omega)))
            have hP : va_P D vwCl (mw h0 ad cs (upd (upd (upd (upd (upd (upd iv 21 (nI k21_52)) 22 p22_53) 25 (nI k25_54)) 29 (iv 29)) 30 (iv 30)) 31 (iv 31)) (uF (uF (uF (uF (uF fv 15 f15_6) 16 f16_7) 17 f_69) 19 (fv 19)) 28 (fv 28)) gv) H := hP
            have hD : va_D A (mw h0 ad cs (upd (upd (upd (upd (upd (upd iv 21 (nI k21_52)) 22 p22_53) 25 (nI k25_54)) 29 (iv 29)) 30 (iv 30)) 31 (iv 31)) (uF (uF (uF (uF (uF fv 15 f15_6) 16 f16_7) 17 f_69) 19 (fv 19)) 28 (fv 28)) gv) := hD
            exact W.vret hx hb hr (fun t ht hW => ⟨⟨(), rfl, trivial, k21_52, p22_53, nI k25_54, iv 29, iv 30, iv 31, f15_6, f16_7, f_69, fv 19, fv 28, by omega, fun i h9 => rfl, q_11, trivial, (by exfalso; omega), fun i h9 => by rw [hf_70]; exact up_ne h9, fun h9 => absurd h9 (by omega), q_15, by rw [ht]; exact hP, va_K.moved hW.alike hK, hD⟩, hS.F ht⟩) hS.2.2 dX9_reads_119
          obtain ⟨v_64, hv_65, rfl, hnr_68⟩ := q_59.ok
          have pe_73 : p22_53 = p22_4 := q_60 rfl
          refine va_iast (f := fv 17) (n := 16) hx hb hK hP hD hS 13 12 rfl rfl (vp_in_nI (n := n14) (by omega) (by omega)) dX9_reads_81 (fun H locs hP hD hS => ?_)
          have hP : va_P D vwCl (mw h0 ad cs (upd (upd (upd iv 21 (nI 0)) 22 p22_53) 25 (nI k25_54)) (uF (uF (uF fv 15 f15_6) 16 f16_7) 17 (upd (fv 17) (nI n14).toNatClampNeg (nI v_64))) gv) H := hP
          have hD : va_D A (mw h0 ad cs (upd (upd (upd iv 21 (nI 0)) 22 p22_53) 25 (nI k25_54)) (uF (uF (uF fv 15 f15_6) 16 f16_7) 17 (upd (fv 17) (nI n14).toNatClampNeg (nI v_64))) gv) := hD
          obtain ⟨f_74, hf_75⟩ : ∃ g9, g9 = upd (fv 17) (nI n14).toNatClampNeg (nI v_64) := ⟨_, rfl⟩
          rw [← hf_75] at hP hD
          rw [nI_clamp (n := n14) (by omega)] at hf_75
          refine lv_aload_n hx hb dX9_reads_82 rfl (lv_at hl 0 rfl) ?_
          refine va_get (D := D) (ci := 9) (v := .int (nI 0)) (C := RX9) (T := TX9) (N := 44) hx hb hts hin9 hown hK hP 0 rfl rfl 21 (by decide) (hts (.fieldLink RX9 74 "HoneyHouseModel" "faultKind" "I") (List.mem_of_getElem? (i := 2) rfl)) (fun _ h9 => h9) rfl dX9_reads_83 ?_
          refine lv_if_ne (tgt := 95) hx hb dX9_reads_86 (by decide) (fun c_76 => absurd (by decide) c_76) (fun c_76 => ?_)
          refine lv_aload_n hx hb dX9_reads_89 rfl (lv_at hl 0 rfl) ?_
          refine lv_bipush (v := 59) hx hb dX9_reads_90 (by decide) ?_
          have hFc := free_all hD hS hA
          refine va_callv (va_runV (As := [.int 59]) (rest := []) ⟨hx, hb, hml, hown, hts⟩ (m_must l D h0 ad cs (upd (upd (upd iv 21 (nI 0)) 22 p22_53) 25 (nI k25_54)) (uF (uF (uF fv 15 f15_6) 16 f16_7) 17 f_74) gv 0 k25_54 n26 59 H.size rfl rfl h26 (by omega) (by omega) (by omega) (by decide)) (cwV 1 hts gX9_reads_X9_must rfl rfl rfl (by decide +kernel) ⟨Nat.le_of_ble_eq_true rfl, Nat.le_of_ble_eq_true rfl⟩) ⟨fun a U g mk q => by obtain ⟨q0, q1, qP, qK, qD⟩ := q; exact ⟨q0, q1, qP, va_K.moved (u := U) (U := U.calling g mk a) (Vm.Alike.refl U.vm) qK, qD⟩, va_recv hK hP (ci := 9) (q0 := 0) rfl rfl, fun U hU hW => ⟨rfl, by rw [hU], by rw [hU]; exact hP, va_K.moved hW.alike hK, hD.weaken (fun _ _ _ _ => trivial)⟩⟩ rfl rfl hl.1 rfl (lv_room (Nat.le_of_ble_eq_true rfl)) dX9_reads_92 ⟨Nat.le_of_ble_eq_true rfl, Nat.le_of_ble_eq_true rfl⟩) hS (fun q _ h => hFc q h) hFc (fun u t H1 locs ht hvm w_78 hB hz1 hk1 hS => ?_)
          obtain ⟨k21_79, p22_80, k25_81, q_82, q_83, q_84, q_85, hP1, hK1, hD1⟩ := hB
          replace q_85 : (0 = 0 → ((skB ((fv 0)) n26 k25_54 < n26 ∧ (fv 0) (skB ((fv 0)) n26 k25_54) = 59) ∧ k21_79 = 0 ∧ p22_80 = (p22_53) ∧ k25_81 = skB ((fv 0)) n26 k25_54 + 1) ∨ (¬ (skB ((fv 0)) n26 k25_54 < n26 ∧ (fv 0) (skB ((fv 0)) n26 k25_54) = 59) ∧ k21_79 = 1 ∧ p22_80 = nI (skB ((fv 0)) n26 k25_54))) := q_85
          rw [ht] at hP1
          have hK := va_K.moved hvm.symm hK1
          generalize H1 = H at hP1 hS ⊢
          have hP : va_P D vwCl (mw h0 ad cs (upd (upd (upd iv 21 (nI k21_79)) 22 p22_80) 25 (nI k25_81)) (uF (uF (uF fv 15 f15_6) 16 f16_7) 17 f_74) gv) H := hP1
          have hD : va_D A (mw h0 ad cs (upd (upd (upd iv 21 (nI k21_79)) 22 p22_80) 25 (nI k25_81)) (uF (uF (uF fv 15 f15_6) 16 f16_7) 17 f_74) gv) := hD1.weaken (fun _ _ _ h => hFc _ h)
          refine lv_aload_n hx hb dX9_reads_95 rfl (lv_at hl 0 rfl) ?_
          refine va_get (D := D) (ci := 9) (v := .int (nI k21_79)) (C := RX9) (T := TX9) (N := 44) hx hb hts hin9 hown hK hP 0 rfl rfl 21 (by decide) (hts (.fieldLink RX9 74 "HoneyHouseModel" "faultKind" "I") (List.mem_of_getElem? (i := 2) rfl)) (fun _ h9 => h9) rfl dX9_reads_96 ?_
          refine lv_if_ne (tgt := 119) hx hb dX9_reads_99 (by decide) (fun c_86 => ?_) (fun c_86 => ?_)
          · have d_87 := n_ne (a := k21_79) (b := 0) (by omega) (by omega) c_86
            have hP : va_P D vwCl (mw h0 ad cs (upd (upd (upd (upd (upd (upd iv 21 (nI k21_79)) 22 p22_80) 25 (nI k25_81)) 29 (iv 29)) 30 (iv 30)) 31 (iv 31)) (uF (uF (uF (uF (uF fv 15 f15_6) 16 f16_7) 17 f_74) 19 (fv 19)) 28 (fv 28)) gv) H := hP
            have hD : va_D A (mw h0 ad cs (upd (upd (upd (upd (upd (upd iv 21 (nI k21_79)) 22 p22_80) 25 (nI k25_81)) 29 (iv 29)) 30 (iv 30)) 31 (iv 31)) (uF (uF (uF (uF (uF fv 15 f15_6) 16 f16_7) 17 f_74) 19 (fv 19)) 28 (fv 28)) gv) := hD
            exact W.vret hx hb hr (fun t ht hW => ⟨⟨(), rfl, trivial, k21_79, p22_80, nI k25_81, iv 29, iv 30, iv 31, f15_6, f16_7, f_74, fv 19, fv 28, by omega, fun i h9 => rfl, q_11, trivial, (by exfalso; omega), fun i h9 => by rw [hf_75]; exact up_ne h9, (by exfalso; omega), q_15, by rw [ht]; exact hP, va_K.moved hW.alike hK, hD⟩, hS.F ht⟩) hS.2.2 dX9_reads_119
          have d_88 := n_eq (a := k21_79) (b := 0) (by omega) (by omega) c_86
          refine lv_aload_n hx hb dX9_reads_102 rfl (lv_at hl 0 rfl) ?_
          have hFc := free_all hD hS hA
          refine va_calli (va_runV (As := []) (rest := []) ⟨hx, hb, hml, hown, hts⟩ (m_here l D h0 ad cs (upd (upd (upd iv 21 (nI k21_79)) 22 p22_80) 25 (nI k25_81)) (uF (uF (uF fv 15 f15_6) 16 f16_7) 17 f_74) gv k25_81 n26  H.size rfl h26 (by omega) (by omega)) (cwV 0 hts gX9_reads_X9_here rfl rfl rfl (by decide +kernel) ⟨Nat.le_of_ble_eq_true rfl, Nat.le_of_ble_eq_true rfl⟩) ⟨fun a U g mk q => by obtain ⟨q0, q1, qP, qK, qD⟩ := q; exact ⟨q0, q1, qP, va_K.moved (u := U) (U := U.calling g mk a) (Vm.Alike.refl U.vm) qK, qD⟩, va_recv hK hP (ci := 9) (q0 := 0) rfl rfl, fun U hU hW => ⟨rfl, by rw [hU], by rw [hU]; exact hP, va_K.moved hW.alike hK, hD.weaken (fun _ _ _ _ => trivial)⟩⟩ rfl rfl hl.1 rfl (lv_room (Nat.le_of_ble_eq_true rfl)) dX9_reads_103 ⟨Nat.le_of_ble_eq_true rfl, Nat.le_of_ble_eq_true rfl⟩) hS (fun q _ h => hFc q h) hFc (fun r_89 u t H1 locs ht hvm w_90 hB hz1 hk1 hS => ?_)
          subst w_90
          obtain ⟨k25_91, q_92, q_93, q_94, q_95, q_96, q_97, hP1, hK1, hD1⟩ := hB
          replace q_94 : k25_91 = n26 ∨ ¬ blk ((fv 0) k25_91) := q_94
          replace q_95 : (k25_81 = n26 ∨ ¬ blk ((fv 0) k25_81)) → k25_91 = k25_81 := q_95
          replace q_96 : (r_89 = (-1) ∧ k25_91 = n26) ∨ (k25_91 < n26 ∧ r_89 = (fv 0) k25_91) := q_96
          replace q_97 : isRn blk ((fv 0)) n26 k25_81 k25_91 := q_97
          rw [ht] at hP1
          have hK := va_K.moved hvm.symm hK1
          generalize H1 = H at hP1 hS ⊢
          have hP : va_P D vwCl (mw h0 ad cs (upd (upd (upd iv 21 (nI k21_79)) 22 p22_80) 25 (nI k25_91)) (uF (uF (uF fv 15 f15_6) 16 f16_7) 17 f_74) gv) H := hP1
          have hD : va_D A (mw h0 ad cs (upd (upd (upd iv 21 (nI k21_79)) 22 p22_80) 25 (nI k25_91)) (uF (uF (uF fv 15 f15_6) 16 f16_7) 17 f_74) gv) := hD1.weaken (fun _ _ _ h => hFc _ h)
          refine lv_iconst (v := (-1)) hx hb dX9_reads_106 (by decide) ?_
          refine lv_icmp_eq (tgt := 119) hx hb dX9_reads_107 (by decide) (fun c_98 => ?_) (fun c_98 => ?_)
          · have hP : va_P D vwCl (mw h0 ad cs (upd (upd (upd (upd (upd (upd iv 21 (nI k21_79)) 22 p22_80) 25 (nI k25_91)) 29 (iv 29)) 30 (iv 30)) 31 (iv 31)) (uF (uF (uF (uF (uF fv 15 f15_6) 16 f16_7) 17 f_74) 19 (fv 19)) 28 (fv 28)) gv) H := hP
            have hD : va_D A (mw h0 ad cs (upd (upd (upd (upd (upd (upd iv 21 (nI k21_79)) 22 p22_80) 25 (nI k25_91)) 29 (iv 29)) 30 (iv 30)) 31 (iv 31)) (uF (uF (uF (uF (uF fv 15 f15_6) 16 f16_7) 17 f_74) 19 (fv 19)) 28 (fv 28)) gv) := hD
            exact W.vret hx hb hr (fun t ht hW => ⟨⟨(), rfl, trivial, k21_79, p22_80, nI k25_91, iv 29, iv 30, iv 31, f15_6, f16_7, f_74, fv 19, fv 28, by omega, fun i h9 => rfl, q_11, trivial, (by exfalso; omega), fun i h9 => by rw [hf_75]; exact up_ne h9, (by exfalso; omega), q_15, by rw [ht]; exact hP, va_K.moved hW.alike hK, hD⟩, hS.F ht⟩) hS.2.2 dX9_reads_119
          refine lv_aload_n hx hb dX9_reads_110 rfl (lv_at hl 0 rfl) ?_
          refine lv_iconst (v := 1) hx hb dX9_reads_111 (by decide) ?_
          refine lv_aload_n hx hb dX9_reads_112 rfl (lv_at hl 0 rfl) ?_
          refine va_get (D := D) (ci := 9) (v := .int (nI k25_91)) (C := RX9) (T := TX9) (N := 44) hx hb hts hin9 hown hK hP 0 rfl rfl 25 (by decide) (hts (.fieldLink RX9 87 "HoneyHouseModel" "at" "I") (List.mem_of_getElem? (i := 1) rfl)) (fun _ h9 => h9) rfl dX9_reads_113 ?_
          have hFc := free_all hD hS hA
          refine va_callv (va_runV (As := [.int 1, .int (nI k25_91)]) (rest := []) ⟨hx, hb, hml, hown, hts⟩ (m_blame l D h0 ad cs (upd (upd (upd iv 21 (nI k21_79)) 22 p22_80) 25 (nI k25_91)) (uF (uF (uF fv 15 f15_6) 16 f16_7) 17 f_74) gv k21_79 1 (nI k25_91) H.size rfl (by omega) (by omega)) (cwV 2 hts gX9_reads_X9_blame rfl rfl rfl (by decide +kernel) ⟨Nat.le_of_ble_eq_true rfl, Nat.le_of_ble_eq_true rfl⟩) ⟨fun a U g mk q => by obtain ⟨q0, q1, qP, qK, qD⟩ := q; exact ⟨q0, q1, qP, va_K.moved (u := U) (U := U.calling g mk a) (Vm.Alike.refl U.vm) qK, qD⟩, va_recv hK hP (ci := 9) (q0 := 0) rfl rfl, fun U hU hW => ⟨rfl, by rw [hU], by rw [hU]; exact hP, va_K.moved hW.alike hK, hD.weaken (fun _ _ _ _ => trivial)⟩⟩ rfl rfl hl.1 rfl (lv_room (Nat.le_of_ble_eq_true rfl)) dX9_reads_116 ⟨Nat.le_of_ble_eq_true rfl, Nat.le_of_ble_eq_true rfl⟩) hS (fun q _ h => hFc q h) hFc (fun u t H1 locs ht hvm w_100 hB hz1 hk1 hS => ?_)
          obtain ⟨k21_101, p22_102, q_103, q_104, q_105, hP1, hK1, hD1⟩ := hB
          replace q_105 : (k21_79 = 0 → k21_101 = 1 ∧ p22_102 = (nI k25_91)) ∧ (¬ k21_79 = 0 → k21_101 = k21_79 ∧ p22_102 = (p22_80)) := q_105
          rw [ht] at hP1
          have hK := va_K.moved hvm.symm hK1
          generalize H1 = H at hP1 hS ⊢
          have hP : va_P D vwCl (mw h0 ad cs (upd (upd (upd iv 21 (nI k21_101)) 22 p22_102) 25 (nI k25_91)) (uF (uF (uF fv 15 f15_6) 16 f16_7) 17 f_74) gv) H := hP1
          have hD : va_D A (mw h0 ad cs (upd (upd (upd iv 21 (nI k21_101)) 22 p22_102) 25 (nI k25_91)) (uF (uF (uF fv 15 f15_6) 16 f16_7) 17 f_74) gv) := hD1.weaken (fun _ _ _ h => hFc _ h)
          have hP : va_P D vwCl (mw h0 ad cs (upd (upd (upd (upd (upd (upd iv 21 (nI k21_101)) 22 p22_102) 25 (nI k25_91)) 29 (iv 29)) 30 (iv 30)) 31 (iv 31)) (uF (uF (uF (uF (uF fv 15 f15_6) 16 f16_7) 17 f_74) 19 (fv 19)) 28 (fv 28)) gv) H := hP
          have hD : va_D A (mw h0 ad cs (upd (upd (upd (upd (upd (upd iv 21 (nI k21_101)) 22 p22_102) 25 (nI k25_91)) 29 (iv 29)) 30 (iv 30)) 31 (iv 31)) (uF (uF (uF (uF (uF fv 15 f15_6) 16 f16_7) 17 f_74) 19 (fv 19)) 28 (fv 28)) gv) := hD
          exact W.vret hx hb hr (fun t ht hW => ⟨⟨(), rfl, trivial, k21_101, p22_102, nI k25_91, iv 29, iv 30, iv 31, f15_6, f16_7, f_74, fv 19, fv 28, by omega, fun i h9 => rfl, q_11, trivial, (by exfalso; omega), fun i h9 => by rw [hf_75]; exact up_ne h9, fun h9 => absurd h9 (by omega), q_15, by rw [ht]; exact hP, va_K.moved hW.alike hK, hD⟩, hS.F ht⟩) hS.2.2 dX9_reads_119
        have d_106 := n_ne (a := c_31) (b := 0) (by omega) (by omega) c_44
        refine lv_aload_n hx hb dX9_reads_48 rfl (lv_at hl 0 rfl) ?_
        refine lv_iconst (v := 1) hx hb dX9_reads_49 (by decide) ?_
        refine lv_aload_n hx hb dX9_reads_50 rfl (lv_at hl 0 rfl) ?_
        refine va_get (D := D) (ci := 9) (v := .int (nI k25_25)) (C := RX9) (T := TX9) (N := 44) hx hb hts hin9 hown hK hP 0 rfl rfl 25 (by decide) (hts (.fieldLink RX9 87 "HoneyHouseModel" "at" "I") (List.mem_of_getElem? (i := 1) rfl)) (fun _ h9 => h9) rfl dX9_reads_51 ?_
        have hFc := free_all hD hS hA
        refine va_callv (va_runV (As := [.int 1, .int (nI k25_25)]) (rest := []) ⟨hx, hb, hml, hown, hts⟩ (m_blame l D h0 ad cs (upd (upd (upd iv 21 (nI k21_3)) 22 p22_4) 25 (nI k25_25)) (uF (uF fv 15 f15_6) 16 f16_7) gv k21_3 1 (nI k25_25) H.size rfl (by omega) (by omega)) (cwV 2 hts gX9_reads_X9_blame rfl rfl rfl (by decide +kernel) ⟨Nat.le_of_ble_eq_true rfl, Nat.le_of_ble_eq_true rfl⟩) ⟨fun a U g mk q => by obtain ⟨q0, q1, qP, qK, qD⟩ := q; exact ⟨q0, q1, qP, va_K.moved (u := U) (U := U.calling g mk a) (Vm.Alike.refl U.vm) qK, qD⟩, va_recv hK hP (ci := 9) (q0 := 0) rfl rfl, fun U hU hW => ⟨rfl, by rw [hU], by rw [hU]; exact hP, va_K.moved hW.alike hK, hD.weaken (fun _ _ _ _ => trivial)⟩⟩ rfl rfl hl.1 rfl (lv_room (Nat.le_of_ble_eq_true rfl)) dX9_reads_54 ⟨Nat.le_of_ble_eq_true rfl, Nat.le_of_ble_eq_true rfl⟩) hS (fun q _ h => hFc q h) hFc (fun u t H1 locs ht hvm w_108 hB hz1 hk1 hS => ?_)
        obtain ⟨k21_109, p22_110, q_111, q_112, q_113, hP1, hK1, hD1⟩ := hB
        replace q_113 : (k21_3 = 0 → k21_109 = 1 ∧ p22_110 = (nI k25_25)) ∧ (¬ k21_3 = 0 → k21_109 = k21_3 ∧ p22_110 = (p22_4)) := q_113
        rw [ht] at hP1
        have hK := va_K.moved hvm.symm hK1
        generalize H1 = H at hP1 hS ⊢
        have hP : va_P D vwCl (mw h0 ad cs (upd (upd (upd iv 21 (nI k21_109)) 22 p22_110) 25 (nI k25_25)) (uF (uF fv 15 f15_6) 16 f16_7) gv) H := hP1
        have hD : va_D A (mw h0 ad cs (upd (upd (upd iv 21 (nI k21_109)) 22 p22_110) 25 (nI k25_25)) (uF (uF fv 15 f15_6) 16 f16_7) gv) := hD1.weaken (fun _ _ _ h => hFc _ h)
        have hP : va_P D vwCl (mw h0 ad cs (upd (upd (upd (upd (upd (upd iv 21 (nI k21_109)) 22 p22_110) 25 (nI k25_25)) 29 (iv 29)) 30 (iv 30)) 31 (iv 31)) (uF (uF (uF (uF (uF fv 15 f15_6) 16 f16_7) 17 (fv 17)) 19 (fv 19)) 28 (fv 28)) gv) H := hP
        have hD : va_D A (mw h0 ad cs (upd (upd (upd (upd (upd (upd iv 21 (nI k21_109)) 22 p22_110) 25 (nI k25_25)) 29 (iv 29)) 30 (iv 30)) 31 (iv 31)) (uF (uF (uF (uF (uF fv 15 f15_6) 16 f16_7) 17 (fv 17)) 19 (fv 19)) 28 (fv 28)) gv) := hD
        exact W.vret hx hb hr (fun t ht hW => ⟨⟨(), rfl, trivial, k21_109, p22_110, nI k25_25, iv 29, iv 30, iv 31, f15_6, f16_7, fv 17, fv 19, fv 28, by omega, fun i h9 => rfl, q_11, trivial, (by exfalso; omega), fun _ _ => rfl, fun h9 => absurd h9 (by omega), q_15, by rw [ht]; exact hP, va_K.moved hW.alike hK, hD⟩, hS.F ht⟩) hS.2.2 dX9_reads_57
      have d_114 := n_nle (a := k21_3) (b := 0) (by omega) (by omega) c_21
      have hP : va_P D vwCl (mw h0 ad cs (upd (upd (upd (upd (upd (upd iv 21 (nI k21_3)) 22 p22_4) 25 (nI k25_5)) 29 (iv 29)) 30 (iv 30)) 31 (iv 31)) (uF (uF (uF (uF (uF fv 15 f15_6) 16 f16_7) 17 (fv 17)) 19 (fv 19)) 28 (fv 28)) gv) H := hP
      have hD : va_D A (mw h0 ad cs (upd (upd (upd (upd (upd (upd iv 21 (nI k21_3)) 22 p22_4) 25 (nI k25_5)) 29 (iv 29)) 30 (iv 30)) 31 (iv 31)) (uF (uF (uF (uF (uF fv 15 f15_6) 16 f16_7) 17 (fv 17)) 19 (fv 19)) 28 (fv 28)) gv) := hD
      exact W.vret hx hb hr (fun t ht hW => ⟨⟨(), rfl, trivial, k21_3, p22_4, nI k25_5, iv 29, iv 30, iv 31, f15_6, f16_7, fv 17, fv 19, fv 28, by omega, fun i h9 => rfl, q_11, trivial, (rd_1 q_13 (by omega)), fun _ _ => rfl, fun h9 => (q_14 (by omega)), q_15, by rw [ht]; exact hP, va_K.moved hW.alike hK, hD⟩, hS.F ht⟩) hS.2.2 dX9_reads_40
    have d_115 := n_eq (a := k21_3) (b := 0) (by omega) (by omega) c_19
    refine lv_aload_n hx hb dX9_reads_29 rfl (lv_at hl 0 rfl) ?_
    have hFc := free_all hD hS hA
    refine va_callv (va_runV (As := []) (rest := []) ⟨hx, hb, hml, hown, hts⟩ (m_either l D h0 ad cs (upd (upd (upd iv 21 (nI k21_3)) 22 p22_4) 25 (nI k25_5)) (uF (uF fv 15 f15_6) 16 f16_7) gv n14 k21_3 k25_5 n26  H.size h14 rfl rfl h26 (by omega) (by omega) (by omega) (by omega)) (cwV 0 hts gX9_reads_X9_either rfl rfl rfl (by decide +kernel) ⟨Nat.le_of_ble_eq_true rfl, Nat.le_of_ble_eq_true rfl⟩) ⟨fun a U g mk q => by obtain ⟨q0, q1, qP, qK, qD⟩ := q; exact ⟨q0, q1, qP, va_K.moved (u := U) (U := U.calling g mk a) (Vm.Alike.refl U.vm) qK, qD⟩, va_recv hK hP (ci := 9) (q0 := 0) rfl rfl, fun U hU hW => ⟨rfl, by rw [hU], by rw [hU]; exact hP, va_K.moved hW.alike hK, hD.weaken (fun _ _ _ _ => trivial)⟩⟩ rfl rfl hl.1 rfl (lv_room (Nat.le_of_ble_eq_true rfl)) dX9_reads_30 ⟨Nat.le_of_ble_eq_true rfl, Nat.le_of_ble_eq_true rfl⟩) hS (fun q _ h => hFc q h) hFc (fun u t H1 locs ht hvm w_117 hB hz1 hk1 hS => ?_)
    obtain ⟨k21_118, p22_119, k25_120, k29_121, k30_122, k31_123, f19_124, f28_125, q_126, q_127, q_128, q_129, q_130, q_131, q_132, hP1, hK1, hD1⟩ := hB
    replace q_129 : ∀ i : Nat, i < 200 * n14 → f19_124 i = (fv 19) i := q_129
    replace q_131 : EIF ((fv 0)) n26 (0, skB ((fv 0)) n26 k25_5, [], []) k21_118 p22_119 k25_120 f19_124 n14 k30_122 := q_131
    replace q_132 : k21_118 = 0 → p22_119 = (p22_4) := q_132
    rw [ht] at hP1
    have hK := va_K.moved hvm.symm hK1
    generalize H1 = H at hP1 hS ⊢
    have hP : va_P D vwCl (mw h0 ad cs (upd (upd (upd (upd (upd (upd iv 21 (nI k21_118)) 22 p22_119) 25 (nI k25_120)) 29 (nI k29_121)) 30 (nI k30_122)) 31 (nI k31_123)) (uF (uF (uF (uF fv 15 f15_6) 16 f16_7) 19 f19_124) 28 f28_125) gv) H := hP1
    have hD : va_D A (mw h0 ad cs (upd (upd (upd (upd (upd (upd iv 21 (nI k21_118)) 22 p22_119) 25 (nI k25_120)) 29 (nI k29_121)) 30 (nI k30_122)) 31 (nI k31_123)) (uF (uF (uF (uF fv 15 f15_6) 16 f16_7) 19 f19_124) 28 f28_125) gv) := hD1.weaken (fun _ _ _ h => hFc _ h)
    refine lv_aload_n hx hb dX9_reads_33 rfl (lv_at hl 0 rfl) ?_
    refine va_get (D := D) (ci := 9) (v := .int (nI k21_118)) (C := RX9) (T := TX9) (N := 44) hx hb hts hin9 hown hK hP 0 rfl rfl 21 (by decide) (hts (.fieldLink RX9 74 "HoneyHouseModel" "faultKind" "I") (List.mem_of_getElem? (i := 2) rfl)) (fun _ h9 => h9) rfl dX9_reads_34 ?_
    refine lv_if_le (tgt := 41) hx hb dX9_reads_37 (by decide) (fun c_133 => ?_) (fun c_133 => ?_)
    · have d_134 := n_le (a := k21_118) (b := 0) (by omega) (by omega) c_133
      refine lv_aload_n hx hb dX9_reads_41 rfl (lv_at hl 0 rfl) ?_
      have hFc := free_all hD hS hA
      refine va_calli (va_runV (As := []) (rest := []) ⟨hx, hb, hml, hown, hts⟩ (m_peek l D h0 ad cs (upd (upd (upd (upd (upd (upd iv 21 (nI k21_118)) 22 p22_119) 25 (nI k25_120)) 29 (nI k29_121)) 30 (nI k30_122)) 31 (nI k31_123)) (uF (uF (uF (uF fv 15 f15_6) 16 f16_7) 19 f19_124) 28 f28_125) gv k25_120 n26  H.size rfl h26 (by omega) (by omega)) (cwV 0 hts gX9_reads_X9_peek rfl rfl rfl (by decide +kernel) ⟨Nat.le_of_ble_eq_true rfl, Nat.le_of_ble_eq_true rfl⟩) ⟨fun a U g mk q => by obtain ⟨q0, q1, qP, qK, qD⟩ := q; exact ⟨q0, q1, qP, va_K.moved (u := U) (U := U.calling g mk a) (Vm.Alike.refl U.vm) qK, qD⟩, va_recv hK hP (ci := 9) (q0 := 0) rfl rfl, fun U hU hW => ⟨rfl, by rw [hU], by rw [hU]; exact hP, va_K.moved hW.alike hK, hD.weaken (fun _ _ _ _ => trivial)⟩⟩ rfl rfl hl.1 rfl (lv_room (Nat.le_of_ble_eq_true rfl)) dX9_reads_42 ⟨Nat.le_of_ble_eq_true rfl, Nat.le_of_ble_eq_true rfl⟩) hS (fun q _ h => hFc q h) hFc (fun r_135 u t H1 locs ht hvm w_136 hB hz1 hk1 hS => ?_)
      subst w_136
      obtain ⟨k25_137, q_138, q_139, q_140, q_141, q_142, hP1, hK1, hD1⟩ := hB
      replace q_140 : (k25_120 = n26 ∨ ¬ blk ((fv 0) k25_120)) → k25_137 = k25_120 := q_140
      replace q_141 : PKD ((fv 0)) n26 k25_137 r_135 := q_141
      replace q_142 : isRn blk ((fv 0)) n26 k25_120 k25_137 := q_142
      rw [ht] at hP1
      have hK := va_K.moved hvm.symm hK1
      generalize H1 = H at hP1 hS ⊢
      have hP : va_P D vwCl (mw h0 ad cs (upd (upd (upd (upd (upd (upd iv 21 (nI k21_118)) 22 p22_119) 25 (nI k25_137)) 29 (nI k29_121)) 30 (nI k30_122)) 31 (nI k31_123)) (uF (uF (uF (uF fv 15 f15_6) 16 f16_7) 19 f19_124) 28 f28_125) gv) H := hP1
      have hD : va_D A (mw h0 ad cs (upd (upd (upd (upd (upd (upd iv 21 (nI k21_118)) 22 p22_119) 25 (nI k25_137)) 29 (nI k29_121)) 30 (nI k30_122)) 31 (nI k31_123)) (uF (uF (uF (uF fv 15 f15_6) 16 f16_7) 19 f19_124) 28 f28_125) gv) := hD1.weaken (fun _ _ _ h => hFc _ h)
      rcases q_141 with ⟨rfl, hw_147⟩ | ⟨c_143, e_144, rfl, he_145, hc_146, hw_147⟩
      · refine lv_if_eq (tgt := 58) hx hb dX9_reads_45 (by decide) (fun c_148 => absurd c_148 (by decide)) (fun c_148 => ?_)
        refine lv_aload_n hx hb dX9_reads_48 rfl (lv_at hl 0 rfl) ?_
        refine lv_iconst (v := 1) hx hb dX9_reads_49 (by decide) ?_
        refine lv_aload_n hx hb dX9_reads_50 rfl (lv_at hl 0 rfl) ?_
        refine va_get (D := D) (ci := 9) (v := .int (nI k25_137)) (C := RX9) (T := TX9) (N := 44) hx hb hts hin9 hown hK hP 0 rfl rfl 25 (by decide) (hts (.fieldLink RX9 87 "HoneyHouseModel" "at" "I") (List.mem_of_getElem? (i := 1) rfl)) (fun _ h9 => h9) rfl dX9_reads_51 ?_
        have hFc := free_all hD hS hA
        refine va_callv (va_runV (As := [.int 1, .int (nI k25_137)]) (rest := []) ⟨hx, hb, hml, hown, hts⟩ (m_blame l D h0 ad cs (upd (upd (upd (upd (upd (upd iv 21 (nI k21_118)) 22 p22_119) 25 (nI k25_137)) 29 (nI k29_121)) 30 (nI k30_122)) 31 (nI k31_123)) (uF (uF (uF (uF fv 15 f15_6) 16 f16_7) 19 f19_124) 28 f28_125) gv k21_118 1 (nI k25_137) H.size rfl (by omega) (by omega)) (cwV 2 hts gX9_reads_X9_blame rfl rfl rfl (by decide +kernel) ⟨Nat.le_of_ble_eq_true rfl, Nat.le_of_ble_eq_true rfl⟩) ⟨fun a U g mk q => by obtain ⟨q0, q1, qP, qK, qD⟩ := q; exact ⟨q0, q1, qP, va_K.moved (u := U) (U := U.calling g mk a) (Vm.Alike.refl U.vm) qK, qD⟩, va_recv hK hP (ci := 9) (q0 := 0) rfl rfl, fun U hU hW => ⟨rfl, by rw [hU], by rw [hU]; exact hP, va_K.moved hW.alike hK, hD.weaken (fun _ _ _ _ => trivial)⟩⟩ rfl rfl hl.1 rfl (lv_room (Nat.le_of_ble_eq_true rfl)) dX9_reads_54 ⟨Nat.le_of_ble_eq_true rfl, Nat.le_of_ble_eq_true rfl⟩) hS (fun q _ h => hFc q h) hFc (fun u t H1 locs ht hvm w_150 hB hz1 hk1 hS => ?_)
        obtain ⟨k21_151, p22_152, q_153, q_154, q_155, hP1, hK1, hD1⟩ := hB
        replace q_155 : (k21_118 = 0 → k21_151 = 1 ∧ p22_152 = (nI k25_137)) ∧ (¬ k21_118 = 0 → k21_151 = k21_118 ∧ p22_152 = (p22_119)) := q_155
        rw [ht] at hP1
        have hK := va_K.moved hvm.symm hK1
        generalize H1 = H at hP1 hS ⊢
        have hP : va_P D vwCl (mw h0 ad cs (upd (upd (upd (upd (upd (upd iv 21 (nI k21_151)) 22 p22_152) 25 (nI k25_137)) 29 (nI k29_121)) 30 (nI k30_122)) 31 (nI k31_123)) (uF (uF (uF (uF fv 15 f15_6) 16 f16_7) 19 f19_124) 28 f28_125) gv) H := hP1
        have hD : va_D A (mw h0 ad cs (upd (upd (upd (upd (upd (upd iv 21 (nI k21_151)) 22 p22_152) 25 (nI k25_137)) 29 (nI k29_121)) 30 (nI k30_122)) 31 (nI k31_123)) (uF (uF (uF (uF fv 15 f15_6) 16 f16_7) 19 f19_124) 28 f28_125) gv) := hD1.weaken (fun _ _ _ h => hFc _ h)
        have hP : va_P D vwCl (mw h0 ad cs (upd (upd (upd (upd (upd (upd iv 21 (nI k21_151)) 22 p22_152) 25 (nI k25_137)) 29 (nI k29_121)) 30 (nI k30_122)) 31 (nI k31_123)) (uF (uF (uF (uF (uF fv 15 f15_6) 16 f16_7) 17 (fv 17)) 19 f19_124) 28 f28_125) gv) H := hP
        have hD : va_D A (mw h0 ad cs (upd (upd (upd (upd (upd (upd iv 21 (nI k21_151)) 22 p22_152) 25 (nI k25_137)) 29 (nI k29_121)) 30 (nI k30_122)) 31 (nI k31_123)) (uF (uF (uF (uF (uF fv 15 f15_6) 16 f16_7) 17 (fv 17)) 19 f19_124) 28 f28_125) gv) := hD
        exact W.vret hx hb hr (fun t ht hW => ⟨⟨(), rfl, trivial, k21_151, p22_152, nI k25_137, nI k29_121, nI k30_122, nI k31_123, f15_6, f16_7, fv 17, f19_124, f28_125, by omega, q_129, q_11, trivial, (by exfalso; omega), fun _ _ => rfl, fun h9 => absurd h9 (by omega), q_15, by rw [ht]; exact hP, va_K.moved hW.alike hK, hD⟩, hS.F ht⟩) hS.2.2 dX9_reads_57
      have he_145b : k25_137 ≤ e_144 ∧ e_144 ≤ n26 := ⟨he_145.1, he_145.2.1⟩
      refine lv_if_eq (tgt := 58) hx hb dX9_reads_45 (by decide) (fun c_156 => ?_) (fun c_156 => ?_)
      · have d_157 := n_eq (a := c_143) (b := 0) (by omega) (by omega) c_156
        refine lv_aload_n hx hb dX9_reads_58 rfl (lv_at hl 0 rfl) ?_
        refine lv_aload_n hx hb dX9_reads_59 rfl (lv_at hl 0 rfl) ?_
        refine vp_callSi (W.runV (As := []) (rest := [.ref h0]) ⟨hx, hb, hml, hown, hts⟩ (m_wordEnd l D h0 ad cs (upd (upd (upd (upd (upd (upd iv 21 (nI k21_118)) 22 p22_119) 25 (nI k25_137)) 29 (nI k29_121)) 30 (nI k30_122)) 31 (nI k31_123)) (uF (uF (uF (uF fv 15 f15_6) 16 f16_7) 19 f19_124) 28 f28_125) gv k25_137 n26  rfl h26 (by omega) (by omega)) (cwV 0 hts gX9_reads_X9_wordEnd rfl rfl rfl (by decide +kernel) ⟨Nat.le_of_ble_eq_true rfl, Nat.le_of_ble_eq_true rfl⟩) ⟨fun a U g mk q => ⟨q.1, q.2.1, va_K.moved (u := U) (U := U.calling g mk a) (Vm.Alike.refl U.vm) q.2.2⟩, va_recv hK hP (ci := 9) (q0 := 0) rfl rfl, fun U hU hW => ⟨rfl, by rw [hU]; exact hP, va_K.moved hW.alike hK⟩⟩ rfl rfl hl.1 rfl (lv_room (Nat.le_of_ble_eq_true rfl)) dX9_reads_60 ⟨Nat.le_of_ble_eq_true rfl, Nat.le_of_ble_eq_true rfl⟩) (fun r_158 k_159 => ?_)
        obtain ⟨e_160, rfl, he_161⟩ := k_159
        have hq_e_160 : e_160 = e_144 := he_161.uq he_145
        refine va_put (D := D) (ci := 9) (v := .int (nI e_160)) (ty := .int) (C := RX9) (T := TX9) (N := 44) hx hb hts hin9 tyX9 tyX9_ok nmX9 hown hK hP hD hS 0 rfl rfl 25 (by decide) (hts (.fieldLink RX9 87 "HoneyHouseModel" "at" "I") (List.mem_of_getElem? (i := 1) rfl)) (fun _ h9 => h9) rfl (tyX9_ok 25 (by decide)) rfl rfl (Nat.le_of_ble_eq_true rfl) dX9_reads_63 (fun H locs hP hD hS => ?_)
        have hP : va_P D vwCl (mw h0 ad cs (upd (upd (upd (upd (upd (upd iv 21 (nI k21_118)) 22 p22_119) 25 (nI e_160)) 29 (nI k29_121)) 30 (nI k30_122)) 31 (nI k31_123)) (uF (uF (uF (uF fv 15 f15_6) 16 f16_7) 19 f19_124) 28 f28_125) gv) H := hP
        have hD : va_D A (mw h0 ad cs (upd (upd (upd (upd (upd (upd iv 21 (nI k21_118)) 22 p22_119) 25 (nI e_160)) 29 (nI k29_121)) 30 (nI k30_122)) 31 (nI k31_123)) (uF (uF (uF (uF fv 15 f15_6) 16 f16_7) 19 f19_124) 28 f28_125) gv) := hD
        refine lv_aload_n hx hb dX9_reads_66 rfl (lv_at hl 0 rfl) ?_
        refine va_get (D := D) (ci := 9) (v := .ref (ad 17)) (C := RX9) (T := TX9) (N := 44) hx hb hts hin9 hown hK hP 0 rfl rfl 17 (by decide) (hts (.fieldLink RX9 62 "HoneyHouseModel" "from" "[I") (List.mem_of_getElem? (i := 3) rfl)) (fun _ h9 => h9) rfl dX9_reads_67 ?_
        refine lv_aload_n hx hb dX9_reads_70 rfl (lv_at hl 0 rfl) ?_
        refine va_get (D := D) (ci := 9) (v := .int (iv 14)) (C := RX9) (T := TX9) (N := 44) hx hb hts hin9 hown hK hP 0 rfl rfl 14 (by decide) (hts (.fieldLink RX9 53 "HoneyHouseModel" "rules" "I") (List.mem_of_getElem? (i := 4) rfl)) (fun _ h9 => h9) rfl dX9_reads_71 ?_
        refine tp_i (y := nI n14) (h14) ?_
        refine lv_aload_n hx hb dX9_reads_74 rfl (lv_at hl 0 rfl) ?_
        refine lv_sipush (v := 30000) hx hb dX9_reads_75 (by decide) ?_
        have hFc := free_all hD hS hA
        refine va_calli (va_runV (As := [.int 30000]) (rest := [.int (nI n14), .ref (ad 17)]) ⟨hx, hb, hml, hown, hts⟩ (m_number l D h0 ad cs (upd (upd (upd (upd (upd (upd iv 21 (nI k21_118)) 22 p22_119) 25 (nI e_160)) 29 (nI k29_121)) 30 (nI k30_122)) 31 (nI k31_123)) (uF (uF (uF (uF fv 15 f15_6) 16 f16_7) 19 f19_124) 28 f28_125) gv k21_118 e_160 n26 30000 H.size rfl rfl h26 (by omega) (by omega) (by omega) (by omega)) (cwV 1 hts gX9_reads_X9_number rfl rfl rfl (by decide +kernel) ⟨Nat.le_of_ble_eq_true rfl, Nat.le_of_ble_eq_true rfl⟩) ⟨fun a U g mk q => by obtain ⟨q0, q1, qP, qK, qD⟩ := q; exact ⟨q0, q1, qP, va_K.moved (u := U) (U := U.calling g mk a) (Vm.Alike.refl U.vm) qK, qD⟩, va_recv hK hP (ci := 9) (q0 := 0) rfl rfl, fun U hU hW => ⟨rfl, by rw [hU], by rw [hU]; exact hP, va_K.moved hW.alike hK, hD.weaken (fun _ _ _ _ => trivial)⟩⟩ rfl rfl hl.1 rfl (lv_room (Nat.le_of_ble_eq_true rfl)) dX9_reads_78 ⟨Nat.le_of_ble_eq_true rfl, Nat.le_of_ble_eq_true rfl⟩) hS (fun q _ h => hFc q h) hFc (fun r_162 u t H1 locs ht hvm w_163 hB hz1 hk1 hS => ?_)
        subst w_163
        obtain ⟨k21_164, p22_165, k25_166, q_167, q_168, q_169, q_170, q_171, q_172, hP1, hK1, hD1⟩ := hB
        replace q_171 : NUX ((fv 0)) n26 30000 (skB ((fv 0)) n26 e_160) k21_164 p22_165 k25_166 r_162 := q_171
        replace q_172 : k21_164 = 0 → p22_165 = (p22_119) := q_172
        rw [ht] at hP1
        have hK := va_K.moved hvm.symm hK1
        generalize H1 = H at hP1 hS ⊢
        have hP : va_P D vwCl (mw h0 ad cs (upd (upd (upd (upd (upd (upd iv 21 (nI k21_164)) 22 p22_165) 25 (nI k25_166)) 29 (nI k29_121)) 30 (nI k30_122)) 31 (nI k31_123)) (uF (uF (uF (uF fv 15 f15_6) 16 f16_7) 19 f19_124) 28 f28_125) gv) H := hP1
        have hD : va_D A (mw h0 ad cs (upd (upd (upd (upd (upd (upd iv 21 (nI k21_164)) 22 p22_165) 25 (nI k25_166)) 29 (nI k29_121)) 30 (nI k30_122)) 31 (nI k31_123)) (uF (uF (uF (uF fv 15 f15_6) 16 f16_7) 19 f19_124) 28 f28_125) gv) := hD1.weaken (fun _ _ _ h => hFc _ h)
        rcases q_170 with hp_173 | ⟨rfl, hg_175⟩
        · obtain ⟨P_178, hP_179, hnr_180⟩ := q_171.no (by omega)
          refine va_iast (f := fv 17) (n := 16) hx hb hK hP hD hS 13 12 rfl rfl (vp_in_nI (n := n14) (by omega) (by omega)) dX9_reads_81 (fun H locs hP hD hS => ?_)
          have hP : va_P D vwCl (mw h0 ad cs (upd (upd (upd (upd (upd (upd iv 21 (nI k21_164)) 22 p22_165) 25 (nI k25_166)) 29 (nI k29_121)) 30 (nI k30_122)) 31 (nI k31_123)) (uF (uF (uF (uF (uF fv 15 f15_6) 16 f16_7) 17 (upd (fv 17) (nI n14).toNatClampNeg r_162)) 19 f19_124) 28 f28_125) gv) H := hP
          have hD : va_D A (mw h0 ad cs (upd (upd (upd (upd (upd (upd iv 21 (nI k21_164)) 22 p22_165) 25 (nI k25_166)) 29 (nI k29_121)) 30 (nI k30_122)) 31 (nI k31_123)) (uF (uF (uF (uF (uF fv 15 f15_6) 16 f16_7) 17 (upd (fv 17) (nI n14).toNatClampNeg r_162)) 19 f19_124) 28 f28_125) gv) := hD
          obtain ⟨f_181, hf_182⟩ : ∃ g9, g9 = upd (fv 17) (nI n14).toNatClampNeg r_162 := ⟨_, rfl⟩
          rw [← hf_182] at hP hD
          rw [nI_clamp (n := n14) (by omega)] at hf_182
          refine lv_aload_n hx hb dX9_reads_82 rfl (lv_at hl 0 rfl) ?_
          refine va_get (D := D) (ci := 9) (v := .int (nI k21_164)) (C := RX9) (T := TX9) (N := 44) hx hb hts hin9 hown hK hP 0 rfl rfl 21 (by decide) (hts (.fieldLink RX9 74 "HoneyHouseModel" "faultKind" "I") (List.mem_of_getElem? (i := 2) rfl)) (fun _ h9 => h9) rfl dX9_reads_83 ?_
          refine lv_if_ne (tgt := 95) hx hb dX9_reads_86 (by decide) (fun c_183 => ?_) (fun c_183 => absurd c_183 (nI_ne0 (n := k21_164) (by omega) (by omega)))
          refine lv_aload_n hx hb dX9_reads_95 rfl (lv_at hl 0 rfl) ?_
          refine va_get (D := D) (ci := 9) (v := .int (nI k21_164)) (C := RX9) (T := TX9) (N := 44) hx hb hts hin9 hown hK hP 0 rfl rfl 21 (by decide) (hts (.fieldLink RX9 74 "HoneyHouseModel" "faultKind" "I") (List.mem_of_getElem? (i := 2) rfl)) (fun _ h9 => h9) rfl dX9_reads_96 ?_
          refine lv_if_ne (tgt := 119) hx hb dX9_reads_99 (by decide) (fun c_184 => ?_) (fun c_184 => absurd c_184 (nI_ne0 (n := k21_164) (by omega) (by omega)))
          have hP : va_P D vwCl (mw h0 ad cs (upd (upd (upd (upd (upd (upd iv 21 (nI k21_164)) 22 p22_165) 25 (nI k25_166)) 29 (nI k29_121)) 30 (nI k30_122)) 31 (nI k31_123)) (uF (uF (uF (uF (uF fv 15 f15_6) 16 f16_7) 17 f_181) 19 f19_124) 28 f28_125) gv) H := hP
          have hD : va_D A (mw h0 ad cs (upd (upd (upd (upd (upd (upd iv 21 (nI k21_164)) 22 p22_165) 25 (nI k25_166)) 29 (nI k29_121)) 30 (nI k30_122)) 31 (nI k31_123)) (uF (uF (uF (uF (uF fv 15 f15_6) 16 f16_7) 17 f_181) 19 f19_124) 28 f28_125) gv) := hD
          exact W.vret hx hb hr (fun t ht hW => ⟨⟨(), rfl, trivial, k21_164, p22_165, nI k25_166, nI k29_121, nI k30_122, nI k31_123, f15_6, f16_7, f_181, f19_124, f28_125, by omega, q_129, q_11, trivial, (by exfalso; omega), fun i h9 => by rw [hf_182]; exact up_ne h9, fun h9 => absurd h9 (by omega), q_15, by rw [ht]; exact hP, va_K.moved hW.alike hK, hD⟩, hS.F ht⟩) hS.2.2 dX9_reads_119
        obtain ⟨v_176, hv_177, rfl, hnr_180⟩ := q_171.ok
        have pe_185 : p22_165 = p22_119 := q_172 rfl
        refine va_iast (f := fv 17) (n := 16) hx hb hK hP hD hS 13 12 rfl rfl (vp_in_nI (n := n14) (by omega) (by omega)) dX9_reads_81 (fun H locs hP hD hS => ?_)
        have hP : va_P D vwCl (mw h0 ad cs (upd (upd (upd (upd (upd (upd iv 21 (nI 0)) 22 p22_165) 25 (nI k25_166)) 29 (nI k29_121)) 30 (nI k30_122)) 31 (nI k31_123)) (uF (uF (uF (uF (uF fv 15 f15_6) 16 f16_7) 17 (upd (fv 17) (nI n14).toNatClampNeg (nI v_176))) 19 f19_124) 28 f28_125) gv) H := hP
        have hD : va_D A (mw h0 ad cs (upd (upd (upd (upd (upd (upd iv 21 (nI 0)) 22 p22_165) 25 (nI k25_166)) 29 (nI k29_121)) 30 (nI k30_122)) 31 (nI k31_123)) (uF (uF (uF (uF (uF fv 15 f15_6) 16 f16_7) 17 (upd (fv 17) (nI n14).toNatClampNeg (nI v_176))) 19 f19_124) 28 f28_125) gv) := hD
        obtain ⟨f_186, hf_187⟩ : ∃ g9, g9 = upd (fv 17) (nI n14).toNatClampNeg (nI v_176) := ⟨_, rfl⟩
        rw [← hf_187] at hP hD
        rw [nI_clamp (n := n14) (by omega)] at hf_187
        refine lv_aload_n hx hb dX9_reads_82 rfl (lv_at hl 0 rfl) ?_
        refine va_get (D := D) (ci := 9) (v := .int (nI 0)) (C := RX9) (T := TX9) (N := 44) hx hb hts hin9 hown hK hP 0 rfl rfl 21 (by decide) (hts (.fieldLink RX9 74 "HoneyHouseModel" "faultKind" "I") (List.mem_of_getElem? (i := 2) rfl)) (fun _ h9 => h9) rfl dX9_reads_83 ?_
        refine lv_if_ne (tgt := 95) hx hb dX9_reads_86 (by decide) (fun c_188 => absurd (by decide) c_188) (fun c_188 => ?_)
        refine lv_aload_n hx hb dX9_reads_89 rfl (lv_at hl 0 rfl) ?_
        refine lv_bipush (v := 59) hx hb dX9_reads_90 (by decide) ?_
        have hFc := free_all hD hS hA
        refine va_callv (va_runV (As := [.int 59]) (rest := []) ⟨hx, hb, hml, hown, hts⟩ (m_must l D h0 ad cs (upd (upd (upd (upd (upd (upd iv 21 (nI 0)) 22 p22_165) 25 (nI k25_166)) 29 (nI k29_121)) 30 (nI k30_122)) 31 (nI k31_123)) (uF (uF (uF (uF (uF fv 15 f15_6) 16 f16_7) 17 f_186) 19 f19_124) 28 f28_125) gv 0 k25_166 n26 59 H.size rfl rfl h26 (by omega) (by omega) (by omega) (by decide)) (cwV 1 hts gX9_reads_X9_must rfl rfl rfl (by decide +kernel) ⟨Nat.le_of_ble_eq_true rfl, Nat.le_of_ble_eq_true rfl⟩) ⟨fun a U g mk q => by obtain ⟨q0, q1, qP, qK, qD⟩ := q; exact ⟨q0, q1, qP, va_K.moved (u := U) (U := U.calling g mk a) (Vm.Alike.refl U.vm) qK, qD⟩, va_recv hK hP (ci := 9) (q0 := 0) rfl rfl, fun U hU hW => ⟨rfl, by rw [hU], by rw [hU]; exact hP, va_K.moved hW.alike hK, hD.weaken (fun _ _ _ _ => trivial)⟩⟩ rfl rfl hl.1 rfl (lv_room (Nat.le_of_ble_eq_true rfl)) dX9_reads_92 ⟨Nat.le_of_ble_eq_true rfl, Nat.le_of_ble_eq_true rfl⟩) hS (fun q _ h => hFc q h) hFc (fun u t H1 locs ht hvm w_190 hB hz1 hk1 hS => ?_)
        obtain ⟨k21_191, p22_192, k25_193, q_194, q_195, q_196, q_197, hP1, hK1, hD1⟩ := hB
        replace q_197 : (0 = 0 → ((skB ((fv 0)) n26 k25_166 < n26 ∧ (fv 0) (skB ((fv 0)) n26 k25_166) = 59) ∧ k21_191 = 0 ∧ p22_192 = (p22_165) ∧ k25_193 = skB ((fv 0)) n26 k25_166 + 1) ∨ (¬ (skB ((fv 0)) n26 k25_166 < n26 ∧ (fv 0) (skB ((fv 0)) n26 k25_166) = 59) ∧ k21_191 = 1 ∧ p22_192 = nI (skB ((fv 0)) n26 k25_166))) := q_197
        rw [ht] at hP1
        have hK := va_K.moved hvm.symm hK1
        generalize H1 = H at hP1 hS ⊢
        have hP : va_P D vwCl (mw h0 ad cs (upd (upd (upd (upd (upd (upd iv 21 (nI k21_191)) 22 p22_192) 25 (nI k25_193)) 29 (nI k29_121)) 30 (nI k30_122)) 31 (nI k31_123)) (uF (uF (uF (uF (uF fv 15 f15_6) 16 f16_7) 17 f_186) 19 f19_124) 28 f28_125) gv) H := hP1
        have hD : va_D A (mw h0 ad cs (upd (upd (upd (upd (upd (upd iv 21 (nI k21_191)) 22 p22_192) 25 (nI k25_193)) 29 (nI k29_121)) 30 (nI k30_122)) 31 (nI k31_123)) (uF (uF (uF (uF (uF fv 15 f15_6) 16 f16_7) 17 f_186) 19 f19_124) 28 f28_125) gv) := hD1.weaken (fun _ _ _ h => hFc _ h)
        refine lv_aload_n hx hb dX9_reads_95 rfl (lv_at hl 0 rfl) ?_
        refine va_get (D := D) (ci := 9) (v := .int (nI k21_191)) (C := RX9) (T := TX9) (N := 44) hx hb hts hin9 hown hK hP 0 rfl rfl 21 (by decide) (hts (.fieldLink RX9 74 "HoneyHouseModel" "faultKind" "I") (List.mem_of_getElem? (i := 2) rfl)) (fun _ h9 => h9) rfl dX9_reads_96 ?_
        refine lv_if_ne (tgt := 119) hx hb dX9_reads_99 (by decide) (fun c_198 => ?_) (fun c_198 => ?_)
        · have d_199 := n_ne (a := k21_191) (b := 0) (by omega) (by omega) c_198
          have hP : va_P D vwCl (mw h0 ad cs (upd (upd (upd (upd (upd (upd iv 21 (nI k21_191)) 22 p22_192) 25 (nI k25_193)) 29 (nI k29_121)) 30 (nI k30_122)) 31 (nI k31_123)) (uF (uF (uF (uF (uF fv 15 f15_6) 16 f16_7) 17 f_186) 19 f19_124) 28 f28_125) gv) H := hP
          have hD : va_D A (mw h0 ad cs (upd (upd (upd (upd (upd (upd iv 21 (nI k21_191)) 22 p22_192) 25 (nI k25_193)) 29 (nI k29_121)) 30 (nI k30_122)) 31 (nI k31_123)) (uF (uF (uF (uF (uF fv 15 f15_6) 16 f16_7) 17 f_186) 19 f19_124) 28 f28_125) gv) := hD
          exact W.vret hx hb hr (fun t ht hW => ⟨⟨(), rfl, trivial, k21_191, p22_192, nI k25_193, nI k29_121, nI k30_122, nI k31_123, f15_6, f16_7, f_186, f19_124, f28_125, by omega, q_129, q_11, trivial, (by exfalso; omega), fun i h9 => by rw [hf_187]; exact up_ne h9, (by exfalso; omega), q_15, by rw [ht]; exact hP, va_K.moved hW.alike hK, hD⟩, hS.F ht⟩) hS.2.2 dX9_reads_119
        have d_200 := n_eq (a := k21_191) (b := 0) (by omega) (by omega) c_198
        refine lv_aload_n hx hb dX9_reads_102 rfl (lv_at hl 0 rfl) ?_
        have hFc := free_all hD hS hA
        refine va_calli (va_runV (As := []) (rest := []) ⟨hx, hb, hml, hown, hts⟩ (m_here l D h0 ad cs (upd (upd (upd (upd (upd (upd iv 21 (nI k21_191)) 22 p22_192) 25 (nI k25_193)) 29 (nI k29_121)) 30 (nI k30_122)) 31 (nI k31_123)) (uF (uF (uF (uF (uF fv 15 f15_6) 16 f16_7) 17 f_186) 19 f19_124) 28 f28_125) gv k25_193 n26  H.size rfl h26 (by omega) (by omega)) (cwV 0 hts gX9_reads_X9_here rfl rfl rfl (by decide +kernel) ⟨Nat.le_of_ble_eq_true rfl, Nat.le_of_ble_eq_true rfl⟩) ⟨fun a U g mk q => by obtain ⟨q0, q1, qP, qK, qD⟩ := q; exact ⟨q0, q1, qP, va_K.moved (u := U) (U := U.calling g mk a) (Vm.Alike.refl U.vm) qK, qD⟩, va_recv hK hP (ci := 9) (q0 := 0) rfl rfl, fun U hU hW => ⟨rfl, by rw [hU], by rw [hU]; exact hP, va_K.moved hW.alike hK, hD.weaken (fun _ _ _ _ => trivial)⟩⟩ rfl rfl hl.1 rfl (lv_room (Nat.le_of_ble_eq_true rfl)) dX9_reads_103 ⟨Nat.le_of_ble_eq_true rfl, Nat.le_of_ble_eq_true rfl⟩) hS (fun q _ h => hFc q h) hFc (fun r_201 u t H1 locs ht hvm w_202 hB hz1 hk1 hS => ?_)
        subst w_202
        obtain ⟨k25_203, q_204, q_205, q_206, q_207, q_208, q_209, hP1, hK1, hD1⟩ := hB
        replace q_206 : k25_203 = n26 ∨ ¬ blk ((fv 0) k25_203) := q_206
        replace q_207 : (k25_193 = n26 ∨ ¬ blk ((fv 0) k25_193)) → k25_203 = k25_193 := q_207
        replace q_208 : (r_201 = (-1) ∧ k25_203 = n26) ∨ (k25_203 < n26 ∧ r_201 = (fv 0) k25_203) := q_208
        replace q_209 : isRn blk ((fv 0)) n26 k25_193 k25_203 := q_209
        rw [ht] at hP1
        have hK := va_K.moved hvm.symm hK1
        generalize H1 = H at hP1 hS ⊢
        have hP : va_P D vwCl (mw h0 ad cs (upd (upd (upd (upd (upd (upd iv 21 (nI k21_191)) 22 p22_192) 25 (nI k25_203)) 29 (nI k29_121)) 30 (nI k30_122)) 31 (nI k31_123)) (uF (uF (uF (uF (uF fv 15 f15_6) 16 f16_7) 17 f_186) 19 f19_124) 28 f28_125) gv) H := hP1
        have hD : va_D A (mw h0 ad cs (upd (upd (upd (upd (upd (upd iv 21 (nI k21_191)) 22 p22_192) 25 (nI k25_203)) 29 (nI k29_121)) 30 (nI k30_122)) 31 (nI k31_123)) (uF (uF (uF (uF (uF fv 15 f15_6) 16 f16_7) 17 f_186) 19 f19_124) 28 f28_125) gv) := hD1.weaken (fun _ _ _ h => hFc _ h)
        refine lv_iconst (v := (-1)) hx hb dX9_reads_106 (by decide) ?_
        refine lv_icmp_eq (tgt := 119) hx hb dX9_reads_107 (by decide) (fun c_210 => ?_) (fun c_210 => ?_)
        · have hP : va_P D vwCl (mw h0 ad cs (upd (upd (upd (upd (upd (upd iv 21 (nI k21_191)) 22 p22_192) 25 (nI k25_203)) 29 (nI k29_121)) 30 (nI k30_122)) 31 (nI k31_123)) (uF (uF (uF (uF (uF fv 15 f15_6) 16 f16_7) 17 f_186) 19 f19_124) 28 f28_125) gv) H := hP
          have hD : va_D A (mw h0 ad cs (upd (upd (upd (upd (upd (upd iv 21 (nI k21_191)) 22 p22_192) 25 (nI k25_203)) 29 (nI k29_121)) 30 (nI k30_122)) 31 (nI k31_123)) (uF (uF (uF (uF (uF fv 15 f15_6) 16 f16_7) 17 f_186) 19 f19_124) 28 f28_125) gv) := hD
          exact W.vret hx hb hr (fun t ht hW => ⟨⟨(), rfl, trivial, k21_191, p22_192, nI k25_203, nI k29_121, nI k30_122, nI k31_123, f15_6, f16_7, f_186, f19_124, f28_125, by omega, q_129, q_11, trivial, (by exfalso; omega), fun i h9 => by rw [hf_187]; exact up_ne h9, (by exfalso; omega), q_15, by rw [ht]; exact hP, va_K.moved hW.alike hK, hD⟩, hS.F ht⟩) hS.2.2 dX9_reads_119
        refine lv_aload_n hx hb dX9_reads_110 rfl (lv_at hl 0 rfl) ?_
        refine lv_iconst (v := 1) hx hb dX9_reads_111 (by decide) ?_
        refine lv_aload_n hx hb dX9_reads_112 rfl (lv_at hl 0 rfl) ?_
        refine va_get (D := D) (ci := 9) (v := .int (nI k25_203)) (C := RX9) (T := TX9) (N := 44) hx hb hts hin9 hown hK hP 0 rfl rfl 25 (by decide) (hts (.fieldLink RX9 87 "HoneyHouseModel" "at" "I") (List.mem_of_getElem? (i := 1) rfl)) (fun _ h9 => h9) rfl dX9_reads_113 ?_
        have hFc := free_all hD hS hA
        refine va_callv (va_runV (As := [.int 1, .int (nI k25_203)]) (rest := []) ⟨hx, hb, hml, hown, hts⟩ (m_blame l D h0 ad cs (upd (upd (upd (upd (upd (upd iv 21 (nI k21_191)) 22 p22_192) 25 (nI k25_203)) 29 (nI k29_121)) 30 (nI k30_122)) 31 (nI k31_123)) (uF (uF (uF (uF (uF fv 15 f15_6) 16 f16_7) 17 f_186) 19 f19_124) 28 f28_125) gv k21_191 1 (nI k25_203) H.size rfl (by omega) (by omega)) (cwV 2 hts gX9_reads_X9_blame rfl rfl rfl (by decide +kernel) ⟨Nat.le_of_ble_eq_true rfl, Nat.le_of_ble_eq_true rfl⟩) ⟨fun a U g mk q => by obtain ⟨q0, q1, qP, qK, qD⟩ := q; exact ⟨q0, q1, qP, va_K.moved (u := U) (U := U.calling g mk a) (Vm.Alike.refl U.vm) qK, qD⟩, va_recv hK hP (ci := 9) (q0 := 0) rfl rfl, fun U hU hW => ⟨rfl, by rw [hU], by rw [hU]; exact hP, va_K.moved hW.alike hK, hD.weaken (fun _ _ _ _ => trivial)⟩⟩ rfl rfl hl.1 rfl (lv_room (Nat.le_of_ble_eq_true rfl)) dX9_reads_116 ⟨Nat.le_of_ble_eq_true rfl, Nat.le_of_ble_eq_true rfl⟩) hS (fun q _ h => hFc q h) hFc (fun u t H1 locs ht hvm w_212 hB hz1 hk1 hS => ?_)
        obtain ⟨k21_213, p22_214, q_215, q_216, q_217, hP1, hK1, hD1⟩ := hB
        replace q_217 : (k21_191 = 0 → k21_213 = 1 ∧ p22_214 = (nI k25_203)) ∧ (¬ k21_191 = 0 → k21_213 = k21_191 ∧ p22_214 = (p22_192)) := q_217
        rw [ht] at hP1
        have hK := va_K.moved hvm.symm hK1
        generalize H1 = H at hP1 hS ⊢
        have hP : va_P D vwCl (mw h0 ad cs (upd (upd (upd (upd (upd (upd iv 21 (nI k21_213)) 22 p22_214) 25 (nI k25_203)) 29 (nI k29_121)) 30 (nI k30_122)) 31 (nI k31_123)) (uF (uF (uF (uF (uF fv 15 f15_6) 16 f16_7) 17 f_186) 19 f19_124) 28 f28_125) gv) H := hP1
        have hD : va_D A (mw h0 ad cs (upd (upd (upd (upd (upd (upd iv 21 (nI k21_213)) 22 p22_214) 25 (nI k25_203)) 29 (nI k29_121)) 30 (nI k30_122)) 31 (nI k31_123)) (uF (uF (uF (uF (uF fv 15 f15_6) 16 f16_7) 17 f_186) 19 f19_124) 28 f28_125) gv) := hD1.weaken (fun _ _ _ h => hFc _ h)
        have hP : va_P D vwCl (mw h0 ad cs (upd (upd (upd (upd (upd (upd iv 21 (nI k21_213)) 22 p22_214) 25 (nI k25_203)) 29 (nI k29_121)) 30 (nI k30_122)) 31 (nI k31_123)) (uF (uF (uF (uF (uF fv 15 f15_6) 16 f16_7) 17 f_186) 19 f19_124) 28 f28_125) gv) H := hP
        have hD : va_D A (mw h0 ad cs (upd (upd (upd (upd (upd (upd iv 21 (nI k21_213)) 22 p22_214) 25 (nI k25_203)) 29 (nI k29_121)) 30 (nI k30_122)) 31 (nI k31_123)) (uF (uF (uF (uF (uF fv 15 f15_6) 16 f16_7) 17 f_186) 19 f19_124) 28 f28_125) gv) := hD
        exact W.vret hx hb hr (fun t ht hW => ⟨⟨(), rfl, trivial, k21_213, p22_214, nI k25_203, nI k29_121, nI k30_122, nI k31_123, f15_6, f16_7, f_186, f19_124, f28_125, by omega, q_129, q_11, trivial, (by exfalso; omega), fun i h9 => by rw [hf_187]; exact up_ne h9, fun h9 => absurd h9 (by omega), q_15, by rw [ht]; exact hP, va_K.moved hW.alike hK, hD⟩, hS.F ht⟩) hS.2.2 dX9_reads_119
      have d_218 := n_ne (a := c_143) (b := 0) (by omega) (by omega) c_156
      refine lv_aload_n hx hb dX9_reads_48 rfl (lv_at hl 0 rfl) ?_
      refine lv_iconst (v := 1) hx hb dX9_reads_49 (by decide) ?_
      refine lv_aload_n hx hb dX9_reads_50 rfl (lv_at hl 0 rfl) ?_
      refine va_get (D := D) (ci := 9) (v := .int (nI k25_137)) (C := RX9) (T := TX9) (N := 44) hx hb hts hin9 hown hK hP 0 rfl rfl 25 (by decide) (hts (.fieldLink RX9 87 "HoneyHouseModel" "at" "I") (List.mem_of_getElem? (i := 1) rfl)) (fun _ h9 => h9) rfl dX9_reads_51 ?_
      have hFc := free_all hD hS hA
      refine va_callv (va_runV (As := [.int 1, .int (nI k25_137)]) (rest := []) ⟨hx, hb, hml, hown, hts⟩ (m_blame l D h0 ad cs (upd (upd (upd (upd (upd (upd iv 21 (nI k21_118)) 22 p22_119) 25 (nI k25_137)) 29 (nI k29_121)) 30 (nI k30_122)) 31 (nI k31_123)) (uF (uF (uF (uF fv 15 f15_6) 16 f16_7) 19 f19_124) 28 f28_125) gv k21_118 1 (nI k25_137) H.size rfl (by omega) (by omega)) (cwV 2 hts gX9_reads_X9_blame rfl rfl rfl (by decide +kernel) ⟨Nat.le_of_ble_eq_true rfl, Nat.le_of_ble_eq_true rfl⟩) ⟨fun a U g mk q => by obtain ⟨q0, q1, qP, qK, qD⟩ := q; exact ⟨q0, q1, qP, va_K.moved (u := U) (U := U.calling g mk a) (Vm.Alike.refl U.vm) qK, qD⟩, va_recv hK hP (ci := 9) (q0 := 0) rfl rfl, fun U hU hW => ⟨rfl, by rw [hU], by rw [hU]; exact hP, va_K.moved hW.alike hK, hD.weaken (fun _ _ _ _ => trivial)⟩⟩ rfl rfl hl.1 rfl (lv_room (Nat.le_of_ble_eq_true rfl)) dX9_reads_54 ⟨Nat.le_of_ble_eq_true rfl, Nat.le_of_ble_eq_true rfl⟩) hS (fun q _ h => hFc q h) hFc (fun u t H1 locs ht hvm w_220 hB hz1 hk1 hS => ?_)
      obtain ⟨k21_221, p22_222, q_223, q_224, q_225, hP1, hK1, hD1⟩ := hB
      replace q_225 : (k21_118 = 0 → k21_221 = 1 ∧ p22_222 = (nI k25_137)) ∧ (¬ k21_118 = 0 → k21_221 = k21_118 ∧ p22_222 = (p22_119)) := q_225
      rw [ht] at hP1
      have hK := va_K.moved hvm.symm hK1
      generalize H1 = H at hP1 hS ⊢
      have hP : va_P D vwCl (mw h0 ad cs (upd (upd (upd (upd (upd (upd iv 21 (nI k21_221)) 22 p22_222) 25 (nI k25_137)) 29 (nI k29_121)) 30 (nI k30_122)) 31 (nI k31_123)) (uF (uF (uF (uF fv 15 f15_6) 16 f16_7) 19 f19_124) 28 f28_125) gv) H := hP1
      have hD : va_D A (mw h0 ad cs (upd (upd (upd (upd (upd (upd iv 21 (nI k21_221)) 22 p22_222) 25 (nI k25_137)) 29 (nI k29_121)) 30 (nI k30_122)) 31 (nI k31_123)) (uF (uF (uF (uF fv 15 f15_6) 16 f16_7) 19 f19_124) 28 f28_125) gv) := hD1.weaken (fun _ _ _ h => hFc _ h)
      have hP : va_P D vwCl (mw h0 ad cs (upd (upd (upd (upd (upd (upd iv 21 (nI k21_221)) 22 p22_222) 25 (nI k25_137)) 29 (nI k29_121)) 30 (nI k30_122)) 31 (nI k31_123)) (uF (uF (uF (uF (uF fv 15 f15_6) 16 f16_7) 17 (fv 17)) 19 f19_124) 28 f28_125) gv) H := hP
      have hD : va_D A (mw h0 ad cs (upd (upd (upd (upd (upd (upd iv 21 (nI k21_221)) 22 p22_222) 25 (nI k25_137)) 29 (nI k29_121)) 30 (nI k30_122)) 31 (nI k31_123)) (uF (uF (uF (uF (uF fv 15 f15_6) 16 f16_7) 17 (fv 17)) 19 f19_124) 28 f28_125) gv) := hD
      exact W.vret hx hb hr (fun t ht hW => ⟨⟨(), rfl, trivial, k21_221, p22_222, nI k25_137, nI k29_121, nI k30_122, nI k31_123, f15_6, f16_7, fv 17, f19_124, f28_125, by omega, q_129, q_11, trivial, (by exfalso; omega), fun _ _ => rfl, fun h9 => absurd h9 (by omega), q_15, by rw [ht]; exact hP, va_K.moved hW.alike hK, hD⟩, hS.F ht⟩) hS.2.2 dX9_reads_57
    have d_226 := n_nle (a := k21_118) (b := 0) (by omega) (by omega) c_133
    have hP : va_P D vwCl (mw h0 ad cs (upd (upd (upd (upd (upd (upd iv 21 (nI k21_118)) 22 p22_119) 25 (nI k25_120)) 29 (nI k29_121)) 30 (nI k30_122)) 31 (nI k31_123)) (uF (uF (uF (uF (uF fv 15 f15_6) 16 f16_7) 17 (fv 17)) 19 f19_124) 28 f28_125) gv) H := hP
    have hD : va_D A (mw h0 ad cs (upd (upd (upd (upd (upd (upd iv 21 (nI k21_118)) 22 p22_119) 25 (nI k25_120)) 29 (nI k29_121)) 30 (nI k30_122)) 31 (nI k31_123)) (uF (uF (uF (uF (uF fv 15 f15_6) 16 f16_7) 17 (fv 17)) 19 f19_124) 28 f28_125) gv) := hD
    exact W.vret hx hb hr (fun t ht hW => ⟨⟨(), rfl, trivial, k21_118, p22_119, nI k25_120, nI k29_121, nI k30_122, nI k31_123, f15_6, f16_7, fv 17, f19_124, f28_125, by omega, q_129, q_11, trivial, (by exfalso; omega), fun _ _ => rfl, (by exfalso; omega), q_15, by rw [ht]; exact hP, va_K.moved hW.alike hK, hD⟩, hS.F ht⟩) hS.2.2 dX9_reads_40
  have d_227 := n_eq (a := k21_3) (b := 0) (by omega) (by omega) c_17
  refine lv_aload_n hx hb dX9_reads_16 rfl (lv_at hl 0 rfl) ?_
  refine lv_bipush (v := 58) hx hb dX9_reads_17 (by decide) ?_
  have hFc := free_all hD hS hA
  refine va_callv (va_runV (As := [.int 58]) (rest := []) ⟨hx, hb, hml, hown, hts⟩ (m_must l D h0 ad cs (upd (upd (upd iv 21 (nI k21_3)) 22 p22_4) 25 (nI k25_5)) (uF (uF fv 15 f15_6) 16 f16_7) gv k21_3 k25_5 n26 58 H.size rfl rfl h26 (by omega) (by omega) (by omega) (by decide)) (cwV 1 hts gX9_reads_X9_must rfl rfl rfl (by decide +kernel) ⟨Nat.le_of_ble_eq_true rfl, Nat.le_of_ble_eq_true rfl⟩) ⟨fun a U g mk q => by obtain ⟨q0, q1, qP, qK, qD⟩ := q; exact ⟨q0, q1, qP, va_K.moved (u := U) (U := U.calling g mk a) (Vm.Alike.refl U.vm) qK, qD⟩, va_recv hK hP (ci := 9) (q0 := 0) rfl rfl, fun U hU hW => ⟨rfl, by rw [hU], by rw [hU]; exact hP, va_K.moved hW.alike hK, hD.weaken (fun _ _ _ _ => trivial)⟩⟩ rfl rfl hl.1 rfl (lv_room (Nat.le_of_ble_eq_true rfl)) dX9_reads_19 ⟨Nat.le_of_ble_eq_true rfl, Nat.le_of_ble_eq_true rfl⟩) hS (fun q _ h => hFc q h) hFc (fun u t H1 locs ht hvm w_229 hB hz1 hk1 hS => ?_)
  obtain ⟨k21_230, p22_231, k25_232, q_233, q_234, q_235, q_236, hP1, hK1, hD1⟩ := hB
  replace q_236 : (k21_3 = 0 → ((skB ((fv 0)) n26 k25_5 < n26 ∧ (fv 0) (skB ((fv 0)) n26 k25_5) = 58) ∧ k21_230 = 0 ∧ p22_231 = (p22_4) ∧ k25_232 = skB ((fv 0)) n26 k25_5 + 1) ∨ (¬ (skB ((fv 0)) n26 k25_5 < n26 ∧ (fv 0) (skB ((fv 0)) n26 k25_5) = 58) ∧ k21_230 = 1 ∧ p22_231 = nI (skB ((fv 0)) n26 k25_5))) := q_236
  rw [ht] at hP1
  have hK := va_K.moved hvm.symm hK1
  generalize H1 = H at hP1 hS ⊢
  have hP : va_P D vwCl (mw h0 ad cs (upd (upd (upd iv 21 (nI k21_230)) 22 p22_231) 25 (nI k25_232)) (uF (uF fv 15 f15_6) 16 f16_7) gv) H := hP1
  have hD : va_D A (mw h0 ad cs (upd (upd (upd iv 21 (nI k21_230)) 22 p22_231) 25 (nI k25_232)) (uF (uF fv 15 f15_6) 16 f16_7) gv) := hD1.weaken (fun _ _ _ h => hFc _ h)
  refine lv_aload_n hx hb dX9_reads_22 rfl (lv_at hl 0 rfl) ?_
  refine va_get (D := D) (ci := 9) (v := .int (nI k21_230)) (C := RX9) (T := TX9) (N := 44) hx hb hts hin9 hown hK hP 0 rfl rfl 21 (by decide) (hts (.fieldLink RX9 74 "HoneyHouseModel" "faultKind" "I") (List.mem_of_getElem? (i := 2) rfl)) (fun _ h9 => h9) rfl dX9_reads_23 ?_
  refine lv_if_ne (tgt := 33) hx hb dX9_reads_26 (by decide) (fun c_237 => ?_) (fun c_237 => ?_)
  · have d_238 := n_ne (a := k21_230) (b := 0) (by omega) (by omega) c_237
    refine lv_aload_n hx hb dX9_reads_33 rfl (lv_at hl 0 rfl) ?_
    refine va_get (D := D) (ci := 9) (v := .int (nI k21_230)) (C := RX9) (T := TX9) (N := 44) hx hb hts hin9 hown hK hP 0 rfl rfl 21 (by decide) (hts (.fieldLink RX9 74 "HoneyHouseModel" "faultKind" "I") (List.mem_of_getElem? (i := 2) rfl)) (fun _ h9 => h9) rfl dX9_reads_34 ?_
    refine lv_if_le (tgt := 41) hx hb dX9_reads_37 (by decide) (fun c_239 => ?_) (fun c_239 => ?_)
    · have d_240 := n_le (a := k21_230) (b := 0) (by omega) (by omega) c_239
      refine lv_aload_n hx hb dX9_reads_41 rfl (lv_at hl 0 rfl) ?_
      have hFc := free_all hD hS hA
      refine va_calli (va_runV (As := []) (rest := []) ⟨hx, hb, hml, hown, hts⟩ (m_peek l D h0 ad cs (upd (upd (upd iv 21 (nI k21_230)) 22 p22_231) 25 (nI k25_232)) (uF (uF fv 15 f15_6) 16 f16_7) gv k25_232 n26  H.size rfl h26 (by omega) (by omega)) (cwV 0 hts gX9_reads_X9_peek rfl rfl rfl (by decide +kernel) ⟨Nat.le_of_ble_eq_true rfl, Nat.le_of_ble_eq_true rfl⟩) ⟨fun a U g mk q => by obtain ⟨q0, q1, qP, qK, qD⟩ := q; exact ⟨q0, q1, qP, va_K.moved (u := U) (U := U.calling g mk a) (Vm.Alike.refl U.vm) qK, qD⟩, va_recv hK hP (ci := 9) (q0 := 0) rfl rfl, fun U hU hW => ⟨rfl, by rw [hU], by rw [hU]; exact hP, va_K.moved hW.alike hK, hD.weaken (fun _ _ _ _ => trivial)⟩⟩ rfl rfl hl.1 rfl (lv_room (Nat.le_of_ble_eq_true rfl)) dX9_reads_42 ⟨Nat.le_of_ble_eq_true rfl, Nat.le_of_ble_eq_true rfl⟩) hS (fun q _ h => hFc q h) hFc (fun r_241 u t H1 locs ht hvm w_242 hB hz1 hk1 hS => ?_)
      subst w_242
      obtain ⟨k25_243, q_244, q_245, q_246, q_247, q_248, hP1, hK1, hD1⟩ := hB
      replace q_246 : (k25_232 = n26 ∨ ¬ blk ((fv 0) k25_232)) → k25_243 = k25_232 := q_246
      replace q_247 : PKD ((fv 0)) n26 k25_243 r_241 := q_247
      replace q_248 : isRn blk ((fv 0)) n26 k25_232 k25_243 := q_248
      rw [ht] at hP1
      have hK := va_K.moved hvm.symm hK1
      generalize H1 = H at hP1 hS ⊢
      have hP : va_P D vwCl (mw h0 ad cs (upd (upd (upd iv 21 (nI k21_230)) 22 p22_231) 25 (nI k25_243)) (uF (uF fv 15 f15_6) 16 f16_7) gv) H := hP1
      have hD : va_D A (mw h0 ad cs (upd (upd (upd iv 21 (nI k21_230)) 22 p22_231) 25 (nI k25_243)) (uF (uF fv 15 f15_6) 16 f16_7) gv) := hD1.weaken (fun _ _ _ h => hFc _ h)
      rcases q_247 with ⟨rfl, hw_253⟩ | ⟨c_249, e_250, rfl, he_251, hc_252, hw_253⟩
      · refine lv_if_eq (tgt := 58) hx hb dX9_reads_45 (by decide) (fun c_254 => absurd c_254 (by decide)) (fun c_254 => ?_)
        refine lv_aload_n hx hb dX9_reads_48 rfl (lv_at hl 0 rfl) ?_
        refine lv_iconst (v := 1) hx hb dX9_reads_49 (by decide) ?_
        refine lv_aload_n hx hb dX9_reads_50 rfl (lv_at hl 0 rfl) ?_
        refine va_get (D := D) (ci := 9) (v := .int (nI k25_243)) (C := RX9) (T := TX9) (N := 44) hx hb hts hin9 hown hK hP 0 rfl rfl 25 (by decide) (hts (.fieldLink RX9 87 "HoneyHouseModel" "at" "I") (List.mem_of_getElem? (i := 1) rfl)) (fun _ h9 => h9) rfl dX9_reads_51 ?_
        have hFc := free_all hD hS hA
        refine va_callv (va_runV (As := [.int 1, .int (nI k25_243)]) (rest := []) ⟨hx, hb, hml, hown, hts⟩ (m_blame l D h0 ad cs (upd (upd (upd iv 21 (nI k21_230)) 22 p22_231) 25 (nI k25_243)) (uF (uF fv 15 f15_6) 16 f16_7) gv k21_230 1 (nI k25_243) H.size rfl (by omega) (by omega)) (cwV 2 hts gX9_reads_X9_blame rfl rfl rfl (by decide +kernel) ⟨Nat.le_of_ble_eq_true rfl, Nat.le_of_ble_eq_true rfl⟩) ⟨fun a U g mk q => by obtain ⟨q0, q1, qP, qK, qD⟩ := q; exact ⟨q0, q1, qP, va_K.moved (u := U) (U := U.calling g mk a) (Vm.Alike.refl U.vm) qK, qD⟩, va_recv hK hP (ci := 9) (q0 := 0) rfl rfl, fun U hU hW => ⟨rfl, by rw [hU], by rw [hU]; exact hP, va_K.moved hW.alike hK, hD.weaken (fun _ _ _ _ => trivial)⟩⟩ rfl rfl hl.1 rfl (lv_room (Nat.le_of_ble_eq_true rfl)) dX9_reads_54 ⟨Nat.le_of_ble_eq_true rfl, Nat.le_of_ble_eq_true rfl⟩) hS (fun q _ h => hFc q h) hFc (fun u t H1 locs ht hvm w_256 hB hz1 hk1 hS => ?_)
        obtain ⟨k21_257, p22_258, q_259, q_260, q_261, hP1, hK1, hD1⟩ := hB
        replace q_261 : (k21_230 = 0 → k21_257 = 1 ∧ p22_258 = (nI k25_243)) ∧ (¬ k21_230 = 0 → k21_257 = k21_230 ∧ p22_258 = (p22_231)) := q_261
        rw [ht] at hP1
        have hK := va_K.moved hvm.symm hK1
        generalize H1 = H at hP1 hS ⊢
        have hP : va_P D vwCl (mw h0 ad cs (upd (upd (upd iv 21 (nI k21_257)) 22 p22_258) 25 (nI k25_243)) (uF (uF fv 15 f15_6) 16 f16_7) gv) H := hP1
        have hD : va_D A (mw h0 ad cs (upd (upd (upd iv 21 (nI k21_257)) 22 p22_258) 25 (nI k25_243)) (uF (uF fv 15 f15_6) 16 f16_7) gv) := hD1.weaken (fun _ _ _ h => hFc _ h)
        have hP : va_P D vwCl (mw h0 ad cs (upd (upd (upd (upd (upd (upd iv 21 (nI k21_257)) 22 p22_258) 25 (nI k25_243)) 29 (iv 29)) 30 (iv 30)) 31 (iv 31)) (uF (uF (uF (uF (uF fv 15 f15_6) 16 f16_7) 17 (fv 17)) 19 (fv 19)) 28 (fv 28)) gv) H := hP
        have hD : va_D A (mw h0 ad cs (upd (upd (upd (upd (upd (upd iv 21 (nI k21_257)) 22 p22_258) 25 (nI k25_243)) 29 (iv 29)) 30 (iv 30)) 31 (iv 31)) (uF (uF (uF (uF (uF fv 15 f15_6) 16 f16_7) 17 (fv 17)) 19 (fv 19)) 28 (fv 28)) gv) := hD
        exact W.vret hx hb hr (fun t ht hW => ⟨⟨(), rfl, trivial, k21_257, p22_258, nI k25_243, iv 29, iv 30, iv 31, f15_6, f16_7, fv 17, fv 19, fv 28, by omega, fun i h9 => rfl, q_11, trivial, (by exfalso; omega), fun _ _ => rfl, fun h9 => absurd h9 (by omega), q_15, by rw [ht]; exact hP, va_K.moved hW.alike hK, hD⟩, hS.F ht⟩) hS.2.2 dX9_reads_57
      have he_251b : k25_243 ≤ e_250 ∧ e_250 ≤ n26 := ⟨he_251.1, he_251.2.1⟩
      refine lv_if_eq (tgt := 58) hx hb dX9_reads_45 (by decide) (fun c_262 => ?_) (fun c_262 => ?_)
      · have d_263 := n_eq (a := c_249) (b := 0) (by omega) (by omega) c_262
        refine lv_aload_n hx hb dX9_reads_58 rfl (lv_at hl 0 rfl) ?_
        refine lv_aload_n hx hb dX9_reads_59 rfl (lv_at hl 0 rfl) ?_
        refine vp_callSi (W.runV (As := []) (rest := [.ref h0]) ⟨hx, hb, hml, hown, hts⟩ (m_wordEnd l D h0 ad cs (upd (upd (upd iv 21 (nI k21_230)) 22 p22_231) 25 (nI k25_243)) (uF (uF fv 15 f15_6) 16 f16_7) gv k25_243 n26  rfl h26 (by omega) (by omega)) (cwV 0 hts gX9_reads_X9_wordEnd rfl rfl rfl (by decide +kernel) ⟨Nat.le_of_ble_eq_true rfl, Nat.le_of_ble_eq_true rfl⟩) ⟨fun a U g mk q => ⟨q.1, q.2.1, va_K.moved (u := U) (U := U.calling g mk a) (Vm.Alike.refl U.vm) q.2.2⟩, va_recv hK hP (ci := 9) (q0 := 0) rfl rfl, fun U hU hW => ⟨rfl, by rw [hU]; exact hP, va_K.moved hW.alike hK⟩⟩ rfl rfl hl.1 rfl (lv_room (Nat.le_of_ble_eq_true rfl)) dX9_reads_60 ⟨Nat.le_of_ble_eq_true rfl, Nat.le_of_ble_eq_true rfl⟩) (fun r_264 k_265 => ?_)
        obtain ⟨e_266, rfl, he_267⟩ := k_265
        have hq_e_266 : e_266 = e_250 := he_267.uq he_251
        refine va_put (D := D) (ci := 9) (v := .int (nI e_266)) (ty := .int) (C := RX9) (T := TX9) (N := 44) hx hb hts hin9 tyX9 tyX9_ok nmX9 hown hK hP hD hS 0 rfl rfl 25 (by decide) (hts (.fieldLink RX9 87 "HoneyHouseModel" "at" "I") (List.mem_of_getElem? (i := 1) rfl)) (fun _ h9 => h9) rfl (tyX9_ok 25 (by decide)) rfl rfl (Nat.le_of_ble_eq_true rfl) dX9_reads_63 (fun H locs hP hD hS => ?_)
        have hP : va_P D vwCl (mw h0 ad cs (upd (upd (upd iv 21 (nI k21_230)) 22 p22_231) 25 (nI e_266)) (uF (uF fv 15 f15_6) 16 f16_7) gv) H := hP
        have hD : va_D A (mw h0 ad cs (upd (upd (upd iv 21 (nI k21_230)) 22 p22_231) 25 (nI e_266)) (uF (uF fv 15 f15_6) 16 f16_7) gv) := hD
        refine lv_aload_n hx hb dX9_reads_66 rfl (lv_at hl 0 rfl) ?_
        refine va_get (D := D) (ci := 9) (v := .ref (ad 17)) (C := RX9) (T := TX9) (N := 44) hx hb hts hin9 hown hK hP 0 rfl rfl 17 (by decide) (hts (.fieldLink RX9 62 "HoneyHouseModel" "from" "[I") (List.mem_of_getElem? (i := 3) rfl)) (fun _ h9 => h9) rfl dX9_reads_67 ?_
        refine lv_aload_n hx hb dX9_reads_70 rfl (lv_at hl 0 rfl) ?_
        refine va_get (D := D) (ci := 9) (v := .int (iv 14)) (C := RX9) (T := TX9) (N := 44) hx hb hts hin9 hown hK hP 0 rfl rfl 14 (by decide) (hts (.fieldLink RX9 53 "HoneyHouseModel" "rules" "I") (List.mem_of_getElem? (i := 4) rfl)) (fun _ h9 => h9) rfl dX9_reads_71 ?_
        refine tp_i (y := nI n14) (h14) ?_
        refine lv_aload_n hx hb dX9_reads_74 rfl (lv_at hl 0 rfl) ?_
        refine lv_sipush (v := 30000) hx hb dX9_reads_75 (by decide) ?_
        have hFc := free_all hD hS hA
        refine va_calli (va_runV (As := [.int 30000]) (rest := [.int (nI n14), .ref (ad 17)]) ⟨hx, hb, hml, hown, hts⟩ (m_number l D h0 ad cs (upd (upd (upd iv 21 (nI k21_230)) 22 p22_231) 25 (nI e_266)) (uF (uF fv 15 f15_6) 16 f16_7) gv k21_230 e_266 n26 30000 H.size rfl rfl h26 (by omega) (by omega) (by omega) (by omega)) (cwV 1 hts gX9_reads_X9_number rfl rfl rfl (by decide +kernel) ⟨Nat.le_of_ble_eq_true rfl, Nat.le_of_ble_eq_true rfl⟩) ⟨fun a U g mk q => by obtain ⟨q0, q1, qP, qK, qD⟩ := q; exact ⟨q0, q1, qP, va_K.moved (u := U) (U := U.calling g mk a) (Vm.Alike.refl U.vm) qK, qD⟩, va_recv hK hP (ci := 9) (q0 := 0) rfl rfl, fun U hU hW => ⟨rfl, by rw [hU], by rw [hU]; exact hP, va_K.moved hW.alike hK, hD.weaken (fun _ _ _ _ => trivial)⟩⟩ rfl rfl hl.1 rfl (lv_room (Nat.le_of_ble_eq_true rfl)) dX9_reads_78 ⟨Nat.le_of_ble_eq_true rfl, Nat.le_of_ble_eq_true rfl⟩) hS (fun q _ h => hFc q h) hFc (fun r_268 u t H1 locs ht hvm w_269 hB hz1 hk1 hS => ?_)
        subst w_269
        obtain ⟨k21_270, p22_271, k25_272, q_273, q_274, q_275, q_276, q_277, q_278, hP1, hK1, hD1⟩ := hB
        replace q_277 : NUX ((fv 0)) n26 30000 (skB ((fv 0)) n26 e_266) k21_270 p22_271 k25_272 r_268 := q_277
        replace q_278 : k21_270 = 0 → p22_271 = (p22_231) := q_278
        rw [ht] at hP1
        have hK := va_K.moved hvm.symm hK1
        generalize H1 = H at hP1 hS ⊢
        have hP : va_P D vwCl (mw h0 ad cs (upd (upd (upd iv 21 (nI k21_270)) 22 p22_271) 25 (nI k25_272)) (uF (uF fv 15 f15_6) 16 f16_7) gv) H := hP1
        have hD : va_D A (mw h0 ad cs (upd (upd (upd iv 21 (nI k21_270)) 22 p22_271) 25 (nI k25_272)) (uF (uF fv 15 f15_6) 16 f16_7) gv) := hD1.weaken (fun _ _ _ h => hFc _ h)
        rcases q_276 with hp_279 | ⟨rfl, hg_281⟩
        · obtain ⟨P_284, hP_285, hnr_286⟩ := q_277.no (by omega)
          refine va_iast (f := fv 17) (n := 16) hx hb hK hP hD hS 13 12 rfl rfl (vp_in_nI (n := n14) (by omega) (by omega)) dX9_reads_81 (fun H locs hP hD hS => ?_)
          have hP : va_P D vwCl (mw h0 ad cs (upd (upd (upd iv 21 (nI k21_270)) 22 p22_271) 25 (nI k25_272)) (uF (uF (uF fv 15 f15_6) 16 f16_7) 17 (upd (fv 17) (nI n14).toNatClampNeg r_268)) gv) H := hP
          have hD : va_D A (mw h0 ad cs (upd (upd (upd iv 21 (nI k21_270)) 22 p22_271) 25 (nI k25_272)) (uF (uF (uF fv 15 f15_6) 16 f16_7) 17 (upd (fv 17) (nI n14).toNatClampNeg r_268)) gv) := hD
          obtain ⟨f_287, hf_288⟩ : ∃ g9, g9 = upd (fv 17) (nI n14).toNatClampNeg r_268 := ⟨_, rfl⟩
          rw [← hf_288] at hP hD
          rw [nI_clamp (n := n14) (by omega)] at hf_288
          refine lv_aload_n hx hb dX9_reads_82 rfl (lv_at hl 0 rfl) ?_
          refine va_get (D := D) (ci := 9) (v := .int (nI k21_270)) (C := RX9) (T := TX9) (N := 44) hx hb hts hin9 hown hK hP 0 rfl rfl 21 (by decide) (hts (.fieldLink RX9 74 "HoneyHouseModel" "faultKind" "I") (List.mem_of_getElem? (i := 2) rfl)) (fun _ h9 => h9) rfl dX9_reads_83 ?_
          refine lv_if_ne (tgt := 95) hx hb dX9_reads_86 (by decide) (fun c_289 => ?_) (fun c_289 => absurd c_289 (nI_ne0 (n := k21_270) (by omega) (by omega)))
          refine lv_aload_n hx hb dX9_reads_95 rfl (lv_at hl 0 rfl) ?_
          refine va_get (D := D) (ci := 9) (v := .int (nI k21_270)) (C := RX9) (T := TX9) (N := 44) hx hb hts hin9 hown hK hP 0 rfl rfl 21 (by decide) (hts (.fieldLink RX9 74 "HoneyHouseModel" "faultKind" "I") (List.mem_of_getElem? (i := 2) rfl)) (fun _ h9 => h9) rfl dX9_reads_96 ?_
          refine lv_if_ne (tgt := 119) hx hb dX9_reads_99 (by decide) (fun c_290 => ?_) (fun c_290 => absurd c_290 (nI_ne0 (n := k21_270) (by omega) (by omega)))
          have hP : va_P D vwCl (mw h0 ad cs (upd (upd (upd (upd (upd (upd iv 21 (nI k21_270)) 22 p22_271) 25 (nI k25_272)) 29 (iv 29)) 30 (iv 30)) 31 (iv 31)) (uF (uF (uF (uF (uF fv 15 f15_6) 16 f16_7) 17 f_287) 19 (fv 19)) 28 (fv 28)) gv) H := hP
          have hD : va_D A (mw h0 ad cs (upd (upd (upd (upd (upd (upd iv 21 (nI k21_270)) 22 p22_271) 25 (nI k25_272)) 29 (iv 29)) 30 (iv 30)) 31 (iv 31)) (uF (uF (uF (uF (uF fv 15 f15_6) 16 f16_7) 17 f_287) 19 (fv 19)) 28 (fv 28)) gv) := hD
          exact W.vret hx hb hr (fun t ht hW => ⟨⟨(), rfl, trivial, k21_270, p22_271, nI k25_272, iv 29, iv 30, iv 31, f15_6, f16_7, f_287, fv 19, fv 28, by omega, fun i h9 => rfl, q_11, trivial, (by exfalso; omega), fun i h9 => by rw [hf_288]; exact up_ne h9, fun h9 => absurd h9 (by omega), q_15, by rw [ht]; exact hP, va_K.moved hW.alike hK, hD⟩, hS.F ht⟩) hS.2.2 dX9_reads_119
        obtain ⟨v_282, hv_283, rfl, hnr_286⟩ := q_277.ok
        have pe_291 : p22_271 = p22_231 := q_278 rfl
        refine va_iast (f := fv 17) (n := 16) hx hb hK hP hD hS 13 12 rfl rfl (vp_in_nI (n := n14) (by omega) (by omega)) dX9_reads_81 (fun H locs hP hD hS => ?_)
        have hP : va_P D vwCl (mw h0 ad cs (upd (upd (upd iv 21 (nI 0)) 22 p22_271) 25 (nI k25_272)) (uF (uF (uF fv 15 f15_6) 16 f16_7) 17 (upd (fv 17) (nI n14).toNatClampNeg (nI v_282))) gv) H := hP
        have hD : va_D A (mw h0 ad cs (upd (upd (upd iv 21 (nI 0)) 22 p22_271) 25 (nI k25_272)) (uF (uF (uF fv 15 f15_6) 16 f16_7) 17 (upd (fv 17) (nI n14).toNatClampNeg (nI v_282))) gv) := hD
        obtain ⟨f_292, hf_293⟩ : ∃ g9, g9 = upd (fv 17) (nI n14).toNatClampNeg (nI v_282) := ⟨_, rfl⟩
        rw [← hf_293] at hP hD
        rw [nI_clamp (n := n14) (by omega)] at hf_293
        refine lv_aload_n hx hb dX9_reads_82 rfl (lv_at hl 0 rfl) ?_
        refine va_get (D := D) (ci := 9) (v := .int (nI 0)) (C := RX9) (T := TX9) (N := 44) hx hb hts hin9 hown hK hP 0 rfl rfl 21 (by decide) (hts (.fieldLink RX9 74 "HoneyHouseModel" "faultKind" "I") (List.mem_of_getElem? (i := 2) rfl)) (fun _ h9 => h9) rfl dX9_reads_83 ?_
        refine lv_if_ne (tgt := 95) hx hb dX9_reads_86 (by decide) (fun c_294 => absurd (by decide) c_294) (fun c_294 => ?_)
        refine lv_aload_n hx hb dX9_reads_89 rfl (lv_at hl 0 rfl) ?_
        refine lv_bipush (v := 59) hx hb dX9_reads_90 (by decide) ?_
        have hFc := free_all hD hS hA
        refine va_callv (va_runV (As := [.int 59]) (rest := []) ⟨hx, hb, hml, hown, hts⟩ (m_must l D h0 ad cs (upd (upd (upd iv 21 (nI 0)) 22 p22_271) 25 (nI k25_272)) (uF (uF (uF fv 15 f15_6) 16 f16_7) 17 f_292) gv 0 k25_272 n26 59 H.size rfl rfl h26 (by omega) (by omega) (by omega) (by decide)) (cwV 1 hts gX9_reads_X9_must rfl rfl rfl (by decide +kernel) ⟨Nat.le_of_ble_eq_true rfl, Nat.le_of_ble_eq_true rfl⟩) ⟨fun a U g mk q => by obtain ⟨q0, q1, qP, qK, qD⟩ := q; exact ⟨q0, q1, qP, va_K.moved (u := U) (U := U.calling g mk a) (Vm.Alike.refl U.vm) qK, qD⟩, va_recv hK hP (ci := 9) (q0 := 0) rfl rfl, fun U hU hW => ⟨rfl, by rw [hU], by rw [hU]; exact hP, va_K.moved hW.alike hK, hD.weaken (fun _ _ _ _ => trivial)⟩⟩ rfl rfl hl.1 rfl (lv_room (Nat.le_of_ble_eq_true rfl)) dX9_reads_92 ⟨Nat.le_of_ble_eq_true rfl, Nat.le_of_ble_eq_true rfl⟩) hS (fun q _ h => hFc q h) hFc (fun u t H1 locs ht hvm w_296 hB hz1 hk1 hS => ?_)
        obtain ⟨k21_297, p22_298, k25_299, q_300, q_301, q_302, q_303, hP1, hK1, hD1⟩ := hB
        replace q_303 : (0 = 0 → ((skB ((fv 0)) n26 k25_272 < n26 ∧ (fv 0) (skB ((fv 0)) n26 k25_272) = 59) ∧ k21_297 = 0 ∧ p22_298 = (p22_271) ∧ k25_299 = skB ((fv 0)) n26 k25_272 + 1) ∨ (¬ (skB ((fv 0)) n26 k25_272 < n26 ∧ (fv 0) (skB ((fv 0)) n26 k25_272) = 59) ∧ k21_297 = 1 ∧ p22_298 = nI (skB ((fv 0)) n26 k25_272))) := q_303
        rw [ht] at hP1
        have hK := va_K.moved hvm.symm hK1
        generalize H1 = H at hP1 hS ⊢
        have hP : va_P D vwCl (mw h0 ad cs (upd (upd (upd iv 21 (nI k21_297)) 22 p22_298) 25 (nI k25_299)) (uF (uF (uF fv 15 f15_6) 16 f16_7) 17 f_292) gv) H := hP1
        have hD : va_D A (mw h0 ad cs (upd (upd (upd iv 21 (nI k21_297)) 22 p22_298) 25 (nI k25_299)) (uF (uF (uF fv 15 f15_6) 16 f16_7) 17 f_292) gv) := hD1.weaken (fun _ _ _ h => hFc _ h)
        refine lv_aload_n hx hb dX9_reads_95 rfl (lv_at hl 0 rfl) ?_
        refine va_get (D := D) (ci := 9) (v := .int (nI k21_297)) (C := RX9) (T := TX9) (N := 44) hx hb hts hin9 hown hK hP 0 rfl rfl 21 (by decide) (hts (.fieldLink RX9 74 "HoneyHouseModel" "faultKind" "I") (List.mem_of_getElem? (i := 2) rfl)) (fun _ h9 => h9) rfl dX9_reads_96 ?_
        refine lv_if_ne (tgt := 119) hx hb dX9_reads_99 (by decide) (fun c_304 => ?_) (fun c_304 => ?_)
        · have d_305 := n_ne (a := k21_297) (b := 0) (by omega) (by omega) c_304
          have hP : va_P D vwCl (mw h0 ad cs (upd (upd (upd (upd (upd (upd iv 21 (nI k21_297)) 22 p22_298) 25 (nI k25_299)) 29 (iv 29)) 30 (iv 30)) 31 (iv 31)) (uF (uF (uF (uF (uF fv 15 f15_6) 16 f16_7) 17 f_292) 19 (fv 19)) 28 (fv 28)) gv) H := hP
          have hD : va_D A (mw h0 ad cs (upd (upd (upd (upd (upd (upd iv 21 (nI k21_297)) 22 p22_298) 25 (nI k25_299)) 29 (iv 29)) 30 (iv 30)) 31 (iv 31)) (uF (uF (uF (uF (uF fv 15 f15_6) 16 f16_7) 17 f_292) 19 (fv 19)) 28 (fv 28)) gv) := hD
          exact W.vret hx hb hr (fun t ht hW => ⟨⟨(), rfl, trivial, k21_297, p22_298, nI k25_299, iv 29, iv 30, iv 31, f15_6, f16_7, f_292, fv 19, fv 28, by omega, fun i h9 => rfl, q_11, trivial, (by exfalso; omega), fun i h9 => by rw [hf_293]; exact up_ne h9, (by exfalso; omega), q_15, by rw [ht]; exact hP, va_K.moved hW.alike hK, hD⟩, hS.F ht⟩) hS.2.2 dX9_reads_119
        have d_306 := n_eq (a := k21_297) (b := 0) (by omega) (by omega) c_304
        refine lv_aload_n hx hb dX9_reads_102 rfl (lv_at hl 0 rfl) ?_
        have hFc := free_all hD hS hA
        refine va_calli (va_runV (As := []) (rest := []) ⟨hx, hb, hml, hown, hts⟩ (m_here l D h0 ad cs (upd (upd (upd iv 21 (nI k21_297)) 22 p22_298) 25 (nI k25_299)) (uF (uF (uF fv 15 f15_6) 16 f16_7) 17 f_292) gv k25_299 n26  H.size rfl h26 (by omega) (by omega)) (cwV 0 hts gX9_reads_X9_here rfl rfl rfl (by decide +kernel) ⟨Nat.le_of_ble_eq_true rfl, Nat.le_of_ble_eq_true rfl⟩) ⟨fun a U g mk q => by obtain ⟨q0, q1, qP, qK, qD⟩ := q; exact ⟨q0, q1, qP, va_K.moved (u := U) (U := U.calling g mk a) (Vm.Alike.refl U.vm) qK, qD⟩, va_recv hK hP (ci := 9) (q0 := 0) rfl rfl, fun U hU hW => ⟨rfl, by rw [hU], by rw [hU]; exact hP, va_K.moved hW.alike hK, hD.weaken (fun _ _ _ _ => trivial)⟩⟩ rfl rfl hl.1 rfl (lv_room (Nat.le_of_ble_eq_true rfl)) dX9_reads_103 ⟨Nat.le_of_ble_eq_true rfl, Nat.le_of_ble_eq_true rfl⟩) hS (fun q _ h => hFc q h) hFc (fun r_307 u t H1 locs ht hvm w_308 hB hz1 hk1 hS => ?_)
        subst w_308
        obtain ⟨k25_309, q_310, q_311, q_312, q_313, q_314, q_315, hP1, hK1, hD1⟩ := hB
        replace q_312 : k25_309 = n26 ∨ ¬ blk ((fv 0) k25_309) := q_312
        replace q_313 : (k25_299 = n26 ∨ ¬ blk ((fv 0) k25_299)) → k25_309 = k25_299 := q_313
        replace q_314 : (r_307 = (-1) ∧ k25_309 = n26) ∨ (k25_309 < n26 ∧ r_307 = (fv 0) k25_309) := q_314
        replace q_315 : isRn blk ((fv 0)) n26 k25_299 k25_309 := q_315
        rw [ht] at hP1
        have hK := va_K.moved hvm.symm hK1
        generalize H1 = H at hP1 hS ⊢
        have hP : va_P D vwCl (mw h0 ad cs (upd (upd (upd iv 21 (nI k21_297)) 22 p22_298) 25 (nI k25_309)) (uF (uF (uF fv 15 f15_6) 16 f16_7) 17 f_292) gv) H := hP1
        have hD : va_D A (mw h0 ad cs (upd (upd (upd iv 21 (nI k21_297)) 22 p22_298) 25 (nI k25_309)) (uF (uF (uF fv 15 f15_6) 16 f16_7) 17 f_292) gv) := hD1.weaken (fun _ _ _ h => hFc _ h)
        refine lv_iconst (v := (-1)) hx hb dX9_reads_106 (by decide) ?_
        refine lv_icmp_eq (tgt := 119) hx hb dX9_reads_107 (by decide) (fun c_316 => ?_) (fun c_316 => ?_)
        · have hP : va_P D vwCl (mw h0 ad cs (upd (upd (upd (upd (upd (upd iv 21 (nI k21_297)) 22 p22_298) 25 (nI k25_309)) 29 (iv 29)) 30 (iv 30)) 31 (iv 31)) (uF (uF (uF (uF (uF fv 15 f15_6) 16 f16_7) 17 f_292) 19 (fv 19)) 28 (fv 28)) gv) H := hP
          have hD : va_D A (mw h0 ad cs (upd (upd (upd (upd (upd (upd iv 21 (nI k21_297)) 22 p22_298) 25 (nI k25_309)) 29 (iv 29)) 30 (iv 30)) 31 (iv 31)) (uF (uF (uF (uF (uF fv 15 f15_6) 16 f16_7) 17 f_292) 19 (fv 19)) 28 (fv 28)) gv) := hD
          exact W.vret hx hb hr (fun t ht hW => ⟨⟨(), rfl, trivial, k21_297, p22_298, nI k25_309, iv 29, iv 30, iv 31, f15_6, f16_7, f_292, fv 19, fv 28, by omega, fun i h9 => rfl, q_11, trivial, (by exfalso; omega), fun i h9 => by rw [hf_293]; exact up_ne h9, (by exfalso; omega), q_15, by rw [ht]; exact hP, va_K.moved hW.alike hK, hD⟩, hS.F ht⟩) hS.2.2 dX9_reads_119
        refine lv_aload_n hx hb dX9_reads_110 rfl (lv_at hl 0 rfl) ?_
        refine lv_iconst (v := 1) hx hb dX9_reads_111 (by decide) ?_
        refine lv_aload_n hx hb dX9_reads_112 rfl (lv_at hl 0 rfl) ?_
        refine va_get (D := D) (ci := 9) (v := .int (nI k25_309)) (C := RX9) (T := TX9) (N := 44) hx hb hts hin9 hown hK hP 0 rfl rfl 25 (by decide) (hts (.fieldLink RX9 87 "HoneyHouseModel" "at" "I") (List.mem_of_getElem? (i := 1) rfl)) (fun _ h9 => h9) rfl dX9_reads_113 ?_
        have hFc := free_all hD hS hA
        refine va_callv (va_runV (As := [.int 1, .int (nI k25_309)]) (rest := []) ⟨hx, hb, hml, hown, hts⟩ (m_blame l D h0 ad cs (upd (upd (upd iv 21 (nI k21_297)) 22 p22_298) 25 (nI k25_309)) (uF (uF (uF fv 15 f15_6) 16 f16_7) 17 f_292) gv k21_297 1 (nI k25_309) H.size rfl (by omega) (by omega)) (cwV 2 hts gX9_reads_X9_blame rfl rfl rfl (by decide +kernel) ⟨Nat.le_of_ble_eq_true rfl, Nat.le_of_ble_eq_true rfl⟩) ⟨fun a U g mk q => by obtain ⟨q0, q1, qP, qK, qD⟩ := q; exact ⟨q0, q1, qP, va_K.moved (u := U) (U := U.calling g mk a) (Vm.Alike.refl U.vm) qK, qD⟩, va_recv hK hP (ci := 9) (q0 := 0) rfl rfl, fun U hU hW => ⟨rfl, by rw [hU], by rw [hU]; exact hP, va_K.moved hW.alike hK, hD.weaken (fun _ _ _ _ => trivial)⟩⟩ rfl rfl hl.1 rfl (lv_room (Nat.le_of_ble_eq_true rfl)) dX9_reads_116 ⟨Nat.le_of_ble_eq_true rfl, Nat.le_of_ble_eq_true rfl⟩) hS (fun q _ h => hFc q h) hFc (fun u t H1 locs ht hvm w_318 hB hz1 hk1 hS => ?_)
        obtain ⟨k21_319, p22_320, q_321, q_322, q_323, hP1, hK1, hD1⟩ := hB
        replace q_323 : (k21_297 = 0 → k21_319 = 1 ∧ p22_320 = (nI k25_309)) ∧ (¬ k21_297 = 0 → k21_319 = k21_297 ∧ p22_320 = (p22_298)) := q_323
        rw [ht] at hP1
        have hK := va_K.moved hvm.symm hK1
        generalize H1 = H at hP1 hS ⊢
        have hP : va_P D vwCl (mw h0 ad cs (upd (upd (upd iv 21 (nI k21_319)) 22 p22_320) 25 (nI k25_309)) (uF (uF (uF fv 15 f15_6) 16 f16_7) 17 f_292) gv) H := hP1
        have hD : va_D A (mw h0 ad cs (upd (upd (upd iv 21 (nI k21_319)) 22 p22_320) 25 (nI k25_309)) (uF (uF (uF fv 15 f15_6) 16 f16_7) 17 f_292) gv) := hD1.weaken (fun _ _ _ h => hFc _ h)
        have hP : va_P D vwCl (mw h0 ad cs (upd (upd (upd (upd (upd (upd iv 21 (nI k21_319)) 22 p22_320) 25 (nI k25_309)) 29 (iv 29)) 30 (iv 30)) 31 (iv 31)) (uF (uF (uF (uF (uF fv 15 f15_6) 16 f16_7) 17 f_292) 19 (fv 19)) 28 (fv 28)) gv) H := hP
        have hD : va_D A (mw h0 ad cs (upd (upd (upd (upd (upd (upd iv 21 (nI k21_319)) 22 p22_320) 25 (nI k25_309)) 29 (iv 29)) 30 (iv 30)) 31 (iv 31)) (uF (uF (uF (uF (uF fv 15 f15_6) 16 f16_7) 17 f_292) 19 (fv 19)) 28 (fv 28)) gv) := hD
        exact W.vret hx hb hr (fun t ht hW => ⟨⟨(), rfl, trivial, k21_319, p22_320, nI k25_309, iv 29, iv 30, iv 31, f15_6, f16_7, f_292, fv 19, fv 28, by omega, fun i h9 => rfl, q_11, trivial, (by exfalso; omega), fun i h9 => by rw [hf_293]; exact up_ne h9, fun h9 => absurd h9 (by omega), q_15, by rw [ht]; exact hP, va_K.moved hW.alike hK, hD⟩, hS.F ht⟩) hS.2.2 dX9_reads_119
      have d_324 := n_ne (a := c_249) (b := 0) (by omega) (by omega) c_262
      refine lv_aload_n hx hb dX9_reads_48 rfl (lv_at hl 0 rfl) ?_
      refine lv_iconst (v := 1) hx hb dX9_reads_49 (by decide) ?_
      refine lv_aload_n hx hb dX9_reads_50 rfl (lv_at hl 0 rfl) ?_
      refine va_get (D := D) (ci := 9) (v := .int (nI k25_243)) (C := RX9) (T := TX9) (N := 44) hx hb hts hin9 hown hK hP 0 rfl rfl 25 (by decide) (hts (.fieldLink RX9 87 "HoneyHouseModel" "at" "I") (List.mem_of_getElem? (i := 1) rfl)) (fun _ h9 => h9) rfl dX9_reads_51 ?_
      have hFc := free_all hD hS hA
      refine va_callv (va_runV (As := [.int 1, .int (nI k25_243)]) (rest := []) ⟨hx, hb, hml, hown, hts⟩ (m_blame l D h0 ad cs (upd (upd (upd iv 21 (nI k21_230)) 22 p22_231) 25 (nI k25_243)) (uF (uF fv 15 f15_6) 16 f16_7) gv k21_230 1 (nI k25_243) H.size rfl (by omega) (by omega)) (cwV 2 hts gX9_reads_X9_blame rfl rfl rfl (by decide +kernel) ⟨Nat.le_of_ble_eq_true rfl, Nat.le_of_ble_eq_true rfl⟩) ⟨fun a U g mk q => by obtain ⟨q0, q1, qP, qK, qD⟩ := q; exact ⟨q0, q1, qP, va_K.moved (u := U) (U := U.calling g mk a) (Vm.Alike.refl U.vm) qK, qD⟩, va_recv hK hP (ci := 9) (q0 := 0) rfl rfl, fun U hU hW => ⟨rfl, by rw [hU], by rw [hU]; exact hP, va_K.moved hW.alike hK, hD.weaken (fun _ _ _ _ => trivial)⟩⟩ rfl rfl hl.1 rfl (lv_room (Nat.le_of_ble_eq_true rfl)) dX9_reads_54 ⟨Nat.le_of_ble_eq_true rfl, Nat.le_of_ble_eq_true rfl⟩) hS (fun q _ h => hFc q h) hFc (fun u t H1 locs ht hvm w_326 hB hz1 hk1 hS => ?_)
      obtain ⟨k21_327, p22_328, q_329, q_330, q_331, hP1, hK1, hD1⟩ := hB
      replace q_331 : (k21_230 = 0 → k21_327 = 1 ∧ p22_328 = (nI k25_243)) ∧ (¬ k21_230 = 0 → k21_327 = k21_230 ∧ p22_328 = (p22_231)) := q_331
      rw [ht] at hP1
      have hK := va_K.moved hvm.symm hK1
      generalize H1 = H at hP1 hS ⊢
      have hP : va_P D vwCl (mw h0 ad cs (upd (upd (upd iv 21 (nI k21_327)) 22 p22_328) 25 (nI k25_243)) (uF (uF fv 15 f15_6) 16 f16_7) gv) H := hP1
      have hD : va_D A (mw h0 ad cs (upd (upd (upd iv 21 (nI k21_327)) 22 p22_328) 25 (nI k25_243)) (uF (uF fv 15 f15_6) 16 f16_7) gv) := hD1.weaken (fun _ _ _ h => hFc _ h)
      have hP : va_P D vwCl (mw h0 ad cs (upd (upd (upd (upd (upd (upd iv 21 (nI k21_327)) 22 p22_328) 25 (nI k25_243)) 29 (iv 29)) 30 (iv 30)) 31 (iv 31)) (uF (uF (uF (uF (uF fv 15 f15_6) 16 f16_7) 17 (fv 17)) 19 (fv 19)) 28 (fv 28)) gv) H := hP
      have hD : va_D A (mw h0 ad cs (upd (upd (upd (upd (upd (upd iv 21 (nI k21_327)) 22 p22_328) 25 (nI k25_243)) 29 (iv 29)) 30 (iv 30)) 31 (iv 31)) (uF (uF (uF (uF (uF fv 15 f15_6) 16 f16_7) 17 (fv 17)) 19 (fv 19)) 28 (fv 28)) gv) := hD
      exact W.vret hx hb hr (fun t ht hW => ⟨⟨(), rfl, trivial, k21_327, p22_328, nI k25_243, iv 29, iv 30, iv 31, f15_6, f16_7, fv 17, fv 19, fv 28, by omega, fun i h9 => rfl, q_11, trivial, (by exfalso; omega), fun _ _ => rfl, fun h9 => absurd h9 (by omega), q_15, by rw [ht]; exact hP, va_K.moved hW.alike hK, hD⟩, hS.F ht⟩) hS.2.2 dX9_reads_57
    have d_332 := n_nle (a := k21_230) (b := 0) (by omega) (by omega) c_239
    have hP : va_P D vwCl (mw h0 ad cs (upd (upd (upd (upd (upd (upd iv 21 (nI k21_230)) 22 p22_231) 25 (nI k25_232)) 29 (iv 29)) 30 (iv 30)) 31 (iv 31)) (uF (uF (uF (uF (uF fv 15 f15_6) 16 f16_7) 17 (fv 17)) 19 (fv 19)) 28 (fv 28)) gv) H := hP
    have hD : va_D A (mw h0 ad cs (upd (upd (upd (upd (upd (upd iv 21 (nI k21_230)) 22 p22_231) 25 (nI k25_232)) 29 (iv 29)) 30 (iv 30)) 31 (iv 31)) (uF (uF (uF (uF (uF fv 15 f15_6) 16 f16_7) 17 (fv 17)) 19 (fv 19)) 28 (fv 28)) gv) := hD
    exact W.vret hx hb hr (fun t ht hW => ⟨⟨(), rfl, trivial, k21_230, p22_231, nI k25_232, iv 29, iv 30, iv 31, f15_6, f16_7, fv 17, fv 19, fv 28, by omega, fun i h9 => rfl, q_11, trivial, (rd_2 q_13 (by omega) (q_236 (by omega)) (by omega)), fun _ _ => rfl, fun h9 => (((q_236 (by omega)).elim (fun q9 => q9.2.2.1) (fun q9 => by omega)).trans (q_14 (by omega))), q_15, by rw [ht]; exact hP, va_K.moved hW.alike hK, hD⟩, hS.F ht⟩) hS.2.2 dX9_reads_40
  have d_333 := n_eq (a := k21_230) (b := 0) (by omega) (by omega) c_237
  refine lv_aload_n hx hb dX9_reads_29 rfl (lv_at hl 0 rfl) ?_
  have hFc := free_all hD hS hA
  refine va_callv (va_runV (As := []) (rest := []) ⟨hx, hb, hml, hown, hts⟩ (m_either l D h0 ad cs (upd (upd (upd iv 21 (nI k21_230)) 22 p22_231) 25 (nI k25_232)) (uF (uF fv 15 f15_6) 16 f16_7) gv n14 k21_230 k25_232 n26  H.size h14 rfl rfl h26 (by omega) (by omega) (by omega) (by omega)) (cwV 0 hts gX9_reads_X9_either rfl rfl rfl (by decide +kernel) ⟨Nat.le_of_ble_eq_true rfl, Nat.le_of_ble_eq_true rfl⟩) ⟨fun a U g mk q => by obtain ⟨q0, q1, qP, qK, qD⟩ := q; exact ⟨q0, q1, qP, va_K.moved (u := U) (U := U.calling g mk a) (Vm.Alike.refl U.vm) qK, qD⟩, va_recv hK hP (ci := 9) (q0 := 0) rfl rfl, fun U hU hW => ⟨rfl, by rw [hU], by rw [hU]; exact hP, va_K.moved hW.alike hK, hD.weaken (fun _ _ _ _ => trivial)⟩⟩ rfl rfl hl.1 rfl (lv_room (Nat.le_of_ble_eq_true rfl)) dX9_reads_30 ⟨Nat.le_of_ble_eq_true rfl, Nat.le_of_ble_eq_true rfl⟩) hS (fun q _ h => hFc q h) hFc (fun u t H1 locs ht hvm w_335 hB hz1 hk1 hS => ?_)
  obtain ⟨k21_336, p22_337, k25_338, k29_339, k30_340, k31_341, f19_342, f28_343, q_344, q_345, q_346, q_347, q_348, q_349, q_350, hP1, hK1, hD1⟩ := hB
  replace q_347 : ∀ i : Nat, i < 200 * n14 → f19_342 i = (fv 19) i := q_347
  replace q_349 : EIF ((fv 0)) n26 (0, skB ((fv 0)) n26 k25_232, [], []) k21_336 p22_337 k25_338 f19_342 n14 k30_340 := q_349
  replace q_350 : k21_336 = 0 → p22_337 = (p22_231) := q_350
  rw [ht] at hP1
  have hK := va_K.moved hvm.symm hK1
  generalize H1 = H at hP1 hS ⊢
  have hP : va_P D vwCl (mw h0 ad cs (upd (upd (upd (upd (upd (upd iv 21 (nI k21_336)) 22 p22_337) 25 (nI k25_338)) 29 (nI k29_339)) 30 (nI k30_340)) 31 (nI k31_341)) (uF (uF (uF (uF fv 15 f15_6) 16 f16_7) 19 f19_342) 28 f28_343) gv) H := hP1
  have hD : va_D A (mw h0 ad cs (upd (upd (upd (upd (upd (upd iv 21 (nI k21_336)) 22 p22_337) 25 (nI k25_338)) 29 (nI k29_339)) 30 (nI k30_340)) 31 (nI k31_341)) (uF (uF (uF (uF fv 15 f15_6) 16 f16_7) 19 f19_342) 28 f28_343) gv) := hD1.weaken (fun _ _ _ h => hFc _ h)
  refine lv_aload_n hx hb dX9_reads_33 rfl (lv_at hl 0 rfl) ?_
  refine va_get (D := D) (ci := 9) (v := .int (nI k21_336)) (C := RX9) (T := TX9) (N := 44) hx hb hts hin9 hown hK hP 0 rfl rfl 21 (by decide) (hts (.fieldLink RX9 74 "HoneyHouseModel" "faultKind" "I") (List.mem_of_getElem? (i := 2) rfl)) (fun _ h9 => h9) rfl dX9_reads_34 ?_
  refine lv_if_le (tgt := 41) hx hb dX9_reads_37 (by decide) (fun c_351 => ?_) (fun c_351 => ?_)
  · have d_352 := n_le (a := k21_336) (b := 0) (by omega) (by omega) c_351
    refine lv_aload_n hx hb dX9_reads_41 rfl (lv_at hl 0 rfl) ?_
    have hFc := free_all hD hS hA
    refine va_calli (va_runV (As := []) (rest := []) ⟨hx, hb, hml, hown, hts⟩ (m_peek l D h0 ad cs (upd (upd (upd (upd (upd (upd iv 21 (nI k21_336)) 22 p22_337) 25 (nI k25_338)) 29 (nI k29_339)) 30 (nI k30_340)) 31 (nI k31_341)) (uF (uF (uF (uF fv 15 f15_6) 16 f16_7) 19 f19_342) 28 f28_343) gv k25_338 n26  H.size rfl h26 (by omega) (by omega)) (cwV 0 hts gX9_reads_X9_peek rfl rfl rfl (by decide +kernel) ⟨Nat.le_of_ble_eq_true rfl, Nat.le_of_ble_eq_true rfl⟩) ⟨fun a U g mk q => by obtain ⟨q0, q1, qP, qK, qD⟩ := q; exact ⟨q0, q1, qP, va_K.moved (u := U) (U := U.calling g mk a) (Vm.Alike.refl U.vm) qK, qD⟩, va_recv hK hP (ci := 9) (q0 := 0) rfl rfl, fun U hU hW => ⟨rfl, by rw [hU], by rw [hU]; exact hP, va_K.moved hW.alike hK, hD.weaken (fun _ _ _ _ => trivial)⟩⟩ rfl rfl hl.1 rfl (lv_room (Nat.le_of_ble_eq_true rfl)) dX9_reads_42 ⟨Nat.le_of_ble_eq_true rfl, Nat.le_of_ble_eq_true rfl⟩) hS (fun q _ h => hFc q h) hFc (fun r_353 u t H1 locs ht hvm w_354 hB hz1 hk1 hS => ?_)
    subst w_354
    obtain ⟨k25_355, q_356, q_357, q_358, q_359, q_360, hP1, hK1, hD1⟩ := hB
    replace q_358 : (k25_338 = n26 ∨ ¬ blk ((fv 0) k25_338)) → k25_355 = k25_338 := q_358
    replace q_359 : PKD ((fv 0)) n26 k25_355 r_353 := q_359
    replace q_360 : isRn blk ((fv 0)) n26 k25_338 k25_355 := q_360
    rw [ht] at hP1
    have hK := va_K.moved hvm.symm hK1
    generalize H1 = H at hP1 hS ⊢
    have hP : va_P D vwCl (mw h0 ad cs (upd (upd (upd (upd (upd (upd iv 21 (nI k21_336)) 22 p22_337) 25 (nI k25_355)) 29 (nI k29_339)) 30 (nI k30_340)) 31 (nI k31_341)) (uF (uF (uF (uF fv 15 f15_6) 16 f16_7) 19 f19_342) 28 f28_343) gv) H := hP1
    have hD : va_D A (mw h0 ad cs (upd (upd (upd (upd (upd (upd iv 21 (nI k21_336)) 22 p22_337) 25 (nI k25_355)) 29 (nI k29_339)) 30 (nI k30_340)) 31 (nI k31_341)) (uF (uF (uF (uF fv 15 f15_6) 16 f16_7) 19 f19_342) 28 f28_343) gv) := hD1.weaken (fun _ _ _ h => hFc _ h)
    rcases q_359 with ⟨rfl, hw_365⟩ | ⟨c_361, e_362, rfl, he_363, hc_364, hw_365⟩
    · refine lv_if_eq (tgt := 58) hx hb dX9_reads_45 (by decide) (fun c_366 => absurd c_366 (by decide)) (fun c_366 => ?_)
      refine lv_aload_n hx hb dX9_reads_48 rfl (lv_at hl 0 rfl) ?_
      refine lv_iconst (v := 1) hx hb dX9_reads_49 (by decide) ?_
      refine lv_aload_n hx hb dX9_reads_50 rfl (lv_at hl 0 rfl) ?_
      refine va_get (D := D) (ci := 9) (v := .int (nI k25_355)) (C := RX9) (T := TX9) (N := 44) hx hb hts hin9 hown hK hP 0 rfl rfl 25 (by decide) (hts (.fieldLink RX9 87 "HoneyHouseModel" "at" "I") (List.mem_of_getElem? (i := 1) rfl)) (fun _ h9 => h9) rfl dX9_reads_51 ?_
      have hFc := free_all hD hS hA
      refine va_callv (va_runV (As := [.int 1, .int (nI k25_355)]) (rest := []) ⟨hx, hb, hml, hown, hts⟩ (m_blame l D h0 ad cs (upd (upd (upd (upd (upd (upd iv 21 (nI k21_336)) 22 p22_337) 25 (nI k25_355)) 29 (nI k29_339)) 30 (nI k30_340)) 31 (nI k31_341)) (uF (uF (uF (uF fv 15 f15_6) 16 f16_7) 19 f19_342) 28 f28_343) gv k21_336 1 (nI k25_355) H.size rfl (by omega) (by omega)) (cwV 2 hts gX9_reads_X9_blame rfl rfl rfl (by decide +kernel) ⟨Nat.le_of_ble_eq_true rfl, Nat.le_of_ble_eq_true rfl⟩) ⟨fun a U g mk q => by obtain ⟨q0, q1, qP, qK, qD⟩ := q; exact ⟨q0, q1, qP, va_K.moved (u := U) (U := U.calling g mk a) (Vm.Alike.refl U.vm) qK, qD⟩, va_recv hK hP (ci := 9) (q0 := 0) rfl rfl, fun U hU hW => ⟨rfl, by rw [hU], by rw [hU]; exact hP, va_K.moved hW.alike hK, hD.weaken (fun _ _ _ _ => trivial)⟩⟩ rfl rfl hl.1 rfl (lv_room (Nat.le_of_ble_eq_true rfl)) dX9_reads_54 ⟨Nat.le_of_ble_eq_true rfl, Nat.le_of_ble_eq_true rfl⟩) hS (fun q _ h => hFc q h) hFc (fun u t H1 locs ht hvm w_368 hB hz1 hk1 hS => ?_)
      obtain ⟨k21_369, p22_370, q_371, q_372, q_373, hP1, hK1, hD1⟩ := hB
      replace q_373 : (k21_336 = 0 → k21_369 = 1 ∧ p22_370 = (nI k25_355)) ∧ (¬ k21_336 = 0 → k21_369 = k21_336 ∧ p22_370 = (p22_337)) := q_373
      rw [ht] at hP1
      have hK := va_K.moved hvm.symm hK1
      generalize H1 = H at hP1 hS ⊢
      have hP : va_P D vwCl (mw h0 ad cs (upd (upd (upd (upd (upd (upd iv 21 (nI k21_369)) 22 p22_370) 25 (nI k25_355)) 29 (nI k29_339)) 30 (nI k30_340)) 31 (nI k31_341)) (uF (uF (uF (uF fv 15 f15_6) 16 f16_7) 19 f19_342) 28 f28_343) gv) H := hP1
      have hD : va_D A (mw h0 ad cs (upd (upd (upd (upd (upd (upd iv 21 (nI k21_369)) 22 p22_370) 25 (nI k25_355)) 29 (nI k29_339)) 30 (nI k30_340)) 31 (nI k31_341)) (uF (uF (uF (uF fv 15 f15_6) 16 f16_7) 19 f19_342) 28 f28_343) gv) := hD1.weaken (fun _ _ _ h => hFc _ h)
      have hP : va_P D vwCl (mw h0 ad cs (upd (upd (upd (upd (upd (upd iv 21 (nI k21_369)) 22 p22_370) 25 (nI k25_355)) 29 (nI k29_339)) 30 (nI k30_340)) 31 (nI k31_341)) (uF (uF (uF (uF (uF fv 15 f15_6) 16 f16_7) 17 (fv 17)) 19 f19_342) 28 f28_343) gv) H := hP
      have hD : va_D A (mw h0 ad cs (upd (upd (upd (upd (upd (upd iv 21 (nI k21_369)) 22 p22_370) 25 (nI k25_355)) 29 (nI k29_339)) 30 (nI k30_340)) 31 (nI k31_341)) (uF (uF (uF (uF (uF fv 15 f15_6) 16 f16_7) 17 (fv 17)) 19 f19_342) 28 f28_343) gv) := hD
      exact W.vret hx hb hr (fun t ht hW => ⟨⟨(), rfl, trivial, k21_369, p22_370, nI k25_355, nI k29_339, nI k30_340, nI k31_341, f15_6, f16_7, fv 17, f19_342, f28_343, by omega, q_347, q_11, trivial, (rd_4 (P := k25_355) (fr := 0) q_13 (by omega) (q_236 (by omega)) (by omega) q_349 (by omega) (q_16 (by omega)) q_346 rfl (by rw [show skB (fv 0) n26 k25_338 = k25_355 from q_360.eq]; exact Or.inl ⟨by omega, (q_373.1 (by omega)).1, rfl⟩) (fun _ => (q_373.1 (by omega)).2) (fun h9 => absurd h9 (by omega))), fun _ _ => rfl, fun h9 => absurd h9 (by omega), q_15, by rw [ht]; exact hP, va_K.moved hW.alike hK, hD⟩, hS.F ht⟩) hS.2.2 dX9_reads_57
    have he_363b : k25_355 ≤ e_362 ∧ e_362 ≤ n26 := ⟨he_363.1, he_363.2.1⟩
    refine lv_if_eq (tgt := 58) hx hb dX9_reads_45 (by decide) (fun c_374 => ?_) (fun c_374 => ?_)
    · have d_375 := n_eq (a := c_361) (b := 0) (by omega) (by omega) c_374
      refine lv_aload_n hx hb dX9_reads_58 rfl (lv_at hl 0 rfl) ?_
      refine lv_aload_n hx hb dX9_reads_59 rfl (lv_at hl 0 rfl) ?_
      refine vp_callSi (W.runV (As := []) (rest := [.ref h0]) ⟨hx, hb, hml, hown, hts⟩ (m_wordEnd l D h0 ad cs (upd (upd (upd (upd (upd (upd iv 21 (nI k21_336)) 22 p22_337) 25 (nI k25_355)) 29 (nI k29_339)) 30 (nI k30_340)) 31 (nI k31_341)) (uF (uF (uF (uF fv 15 f15_6) 16 f16_7) 19 f19_342) 28 f28_343) gv k25_355 n26  rfl h26 (by omega) (by omega)) (cwV 0 hts gX9_reads_X9_wordEnd rfl rfl rfl (by decide +kernel) ⟨Nat.le_of_ble_eq_true rfl, Nat.le_of_ble_eq_true rfl⟩) ⟨fun a U g mk q => ⟨q.1, q.2.1, va_K.moved (u := U) (U := U.calling g mk a) (Vm.Alike.refl U.vm) q.2.2⟩, va_recv hK hP (ci := 9) (q0 := 0) rfl rfl, fun U hU hW => ⟨rfl, by rw [hU]; exact hP, va_K.moved hW.alike hK⟩⟩ rfl rfl hl.1 rfl (lv_room (Nat.le_of_ble_eq_true rfl)) dX9_reads_60 ⟨Nat.le_of_ble_eq_true rfl, Nat.le_of_ble_eq_true rfl⟩) (fun r_376 k_377 => ?_)
      obtain ⟨e_378, rfl, he_379⟩ := k_377
      have hq_e_378 : e_378 = e_362 := he_379.uq he_363
      refine va_put (D := D) (ci := 9) (v := .int (nI e_378)) (ty := .int) (C := RX9) (T := TX9) (N := 44) hx hb hts hin9 tyX9 tyX9_ok nmX9 hown hK hP hD hS 0 rfl rfl 25 (by decide) (hts (.fieldLink RX9 87 "HoneyHouseModel" "at" "I") (List.mem_of_getElem? (i := 1) rfl)) (fun _ h9 => h9) rfl (tyX9_ok 25 (by decide)) rfl rfl (Nat.le_of_ble_eq_true rfl) dX9_reads_63 (fun H locs hP hD hS => ?_)
      have hP : va_P D vwCl (mw h0 ad cs (upd (upd (upd (upd (upd (upd iv 21 (nI k21_336)) 22 p22_337) 25 (nI e_378)) 29 (nI k29_339)) 30 (nI k30_340)) 31 (nI k31_341)) (uF (uF (uF (uF fv 15 f15_6) 16 f16_7) 19 f19_342) 28 f28_343) gv) H := hP
      have hD : va_D A (mw h0 ad cs (upd (upd (upd (upd (upd (upd iv 21 (nI k21_336)) 22 p22_337) 25 (nI e_378)) 29 (nI k29_339)) 30 (nI k30_340)) 31 (nI k31_341)) (uF (uF (uF (uF fv 15 f15_6) 16 f16_7) 19 f19_342) 28 f28_343) gv) := hD
      refine lv_aload_n hx hb dX9_reads_66 rfl (lv_at hl 0 rfl) ?_
      refine va_get (D := D) (ci := 9) (v := .ref (ad 17)) (C := RX9) (T := TX9) (N := 44) hx hb hts hin9 hown hK hP 0 rfl rfl 17 (by decide) (hts (.fieldLink RX9 62 "HoneyHouseModel" "from" "[I") (List.mem_of_getElem? (i := 3) rfl)) (fun _ h9 => h9) rfl dX9_reads_67 ?_
      refine lv_aload_n hx hb dX9_reads_70 rfl (lv_at hl 0 rfl) ?_
      refine va_get (D := D) (ci := 9) (v := .int (iv 14)) (C := RX9) (T := TX9) (N := 44) hx hb hts hin9 hown hK hP 0 rfl rfl 14 (by decide) (hts (.fieldLink RX9 53 "HoneyHouseModel" "rules" "I") (List.mem_of_getElem? (i := 4) rfl)) (fun _ h9 => h9) rfl dX9_reads_71 ?_
      refine tp_i (y := nI n14) (h14) ?_
      refine lv_aload_n hx hb dX9_reads_74 rfl (lv_at hl 0 rfl) ?_
      refine lv_sipush (v := 30000) hx hb dX9_reads_75 (by decide) ?_
      have hFc := free_all hD hS hA
      refine va_calli (va_runV (As := [.int 30000]) (rest := [.int (nI n14), .ref (ad 17)]) ⟨hx, hb, hml, hown, hts⟩ (m_number l D h0 ad cs (upd (upd (upd (upd (upd (upd iv 21 (nI k21_336)) 22 p22_337) 25 (nI e_378)) 29 (nI k29_339)) 30 (nI k30_340)) 31 (nI k31_341)) (uF (uF (uF (uF fv 15 f15_6) 16 f16_7) 19 f19_342) 28 f28_343) gv k21_336 e_378 n26 30000 H.size rfl rfl h26 (by omega) (by omega) (by omega) (by omega)) (cwV 1 hts gX9_reads_X9_number rfl rfl rfl (by decide +kernel) ⟨Nat.le_of_ble_eq_true rfl, Nat.le_of_ble_eq_true rfl⟩) ⟨fun a U g mk q => by obtain ⟨q0, q1, qP, qK, qD⟩ := q; exact ⟨q0, q1, qP, va_K.moved (u := U) (U := U.calling g mk a) (Vm.Alike.refl U.vm) qK, qD⟩, va_recv hK hP (ci := 9) (q0 := 0) rfl rfl, fun U hU hW => ⟨rfl, by rw [hU], by rw [hU]; exact hP, va_K.moved hW.alike hK, hD.weaken (fun _ _ _ _ => trivial)⟩⟩ rfl rfl hl.1 rfl (lv_room (Nat.le_of_ble_eq_true rfl)) dX9_reads_78 ⟨Nat.le_of_ble_eq_true rfl, Nat.le_of_ble_eq_true rfl⟩) hS (fun q _ h => hFc q h) hFc (fun r_380 u t H1 locs ht hvm w_381 hB hz1 hk1 hS => ?_)
      subst w_381
      obtain ⟨k21_382, p22_383, k25_384, q_385, q_386, q_387, q_388, q_389, q_390, hP1, hK1, hD1⟩ := hB
      replace q_389 : NUX ((fv 0)) n26 30000 (skB ((fv 0)) n26 e_378) k21_382 p22_383 k25_384 r_380 := q_389
      replace q_390 : k21_382 = 0 → p22_383 = (p22_337) := q_390
      rw [ht] at hP1
      have hK := va_K.moved hvm.symm hK1
      generalize H1 = H at hP1 hS ⊢
      have hP : va_P D vwCl (mw h0 ad cs (upd (upd (upd (upd (upd (upd iv 21 (nI k21_382)) 22 p22_383) 25 (nI k25_384)) 29 (nI k29_339)) 30 (nI k30_340)) 31 (nI k31_341)) (uF (uF (uF (uF fv 15 f15_6) 16 f16_7) 19 f19_342) 28 f28_343) gv) H := hP1
      have hD : va_D A (mw h0 ad cs (upd (upd (upd (upd (upd (upd iv 21 (nI k21_382)) 22 p22_383) 25 (nI k25_384)) 29 (nI k29_339)) 30 (nI k30_340)) 31 (nI k31_341)) (uF (uF (uF (uF fv 15 f15_6) 16 f16_7) 19 f19_342) 28 f28_343) gv) := hD1.weaken (fun _ _ _ h => hFc _ h)
      rcases q_388 with hp_391 | ⟨rfl, hg_393⟩
      · obtain ⟨P_396, hP_397, hnr_398⟩ := q_389.no (by omega)
        refine va_iast (f := fv 17) (n := 16) hx hb hK hP hD hS 13 12 rfl rfl (vp_in_nI (n := n14) (by omega) (by omega)) dX9_reads_81 (fun H locs hP hD hS => ?_)
        have hP : va_P D vwCl (mw h0 ad cs (upd (upd (upd (upd (upd (upd iv 21 (nI k21_382)) 22 p22_383) 25 (nI k25_384)) 29 (nI k29_339)) 30 (nI k30_340)) 31 (nI k31_341)) (uF (uF (uF (uF (uF fv 15 f15_6) 16 f16_7) 17 (upd (fv 17) (nI n14).toNatClampNeg r_380)) 19 f19_342) 28 f28_343) gv) H := hP
        have hD : va_D A (mw h0 ad cs (upd (upd (upd (upd (upd (upd iv 21 (nI k21_382)) 22 p22_383) 25 (nI k25_384)) 29 (nI k29_339)) 30 (nI k30_340)) 31 (nI k31_341)) (uF (uF (uF (uF (uF fv 15 f15_6) 16 f16_7) 17 (upd (fv 17) (nI n14).toNatClampNeg r_380)) 19 f19_342) 28 f28_343) gv) := hD
        obtain ⟨f_399, hf_400⟩ : ∃ g9, g9 = upd (fv 17) (nI n14).toNatClampNeg r_380 := ⟨_, rfl⟩
        rw [← hf_400] at hP hD
        rw [nI_clamp (n := n14) (by omega)] at hf_400
        refine lv_aload_n hx hb dX9_reads_82 rfl (lv_at hl 0 rfl) ?_
        refine va_get (D := D) (ci := 9) (v := .int (nI k21_382)) (C := RX9) (T := TX9) (N := 44) hx hb hts hin9 hown hK hP 0 rfl rfl 21 (by decide) (hts (.fieldLink RX9 74 "HoneyHouseModel" "faultKind" "I") (List.mem_of_getElem? (i := 2) rfl)) (fun _ h9 => h9) rfl dX9_reads_83 ?_
        refine lv_if_ne (tgt := 95) hx hb dX9_reads_86 (by decide) (fun c_401 => ?_) (fun c_401 => absurd c_401 (nI_ne0 (n := k21_382) (by omega) (by omega)))
        refine lv_aload_n hx hb dX9_reads_95 rfl (lv_at hl 0 rfl) ?_
        refine va_get (D := D) (ci := 9) (v := .int (nI k21_382)) (C := RX9) (T := TX9) (N := 44) hx hb hts hin9 hown hK hP 0 rfl rfl 21 (by decide) (hts (.fieldLink RX9 74 "HoneyHouseModel" "faultKind" "I") (List.mem_of_getElem? (i := 2) rfl)) (fun _ h9 => h9) rfl dX9_reads_96 ?_
        refine lv_if_ne (tgt := 119) hx hb dX9_reads_99 (by decide) (fun c_402 => ?_) (fun c_402 => absurd c_402 (nI_ne0 (n := k21_382) (by omega) (by omega)))
        have hP : va_P D vwCl (mw h0 ad cs (upd (upd (upd (upd (upd (upd iv 21 (nI k21_382)) 22 p22_383) 25 (nI k25_384)) 29 (nI k29_339)) 30 (nI k30_340)) 31 (nI k31_341)) (uF (uF (uF (uF (uF fv 15 f15_6) 16 f16_7) 17 f_399) 19 f19_342) 28 f28_343) gv) H := hP
        have hD : va_D A (mw h0 ad cs (upd (upd (upd (upd (upd (upd iv 21 (nI k21_382)) 22 p22_383) 25 (nI k25_384)) 29 (nI k29_339)) 30 (nI k30_340)) 31 (nI k31_341)) (uF (uF (uF (uF (uF fv 15 f15_6) 16 f16_7) 17 f_399) 19 f19_342) 28 f28_343) gv) := hD
        exact W.vret hx hb hr (fun t ht hW => ⟨⟨(), rfl, trivial, k21_382, p22_383, nI k25_384, nI k29_339, nI k30_340, nI k31_341, f15_6, f16_7, f_399, f19_342, f28_343, by omega, q_347, q_11, trivial, (rd_4 (P := P_396) (fr := 0) q_13 (by omega) (q_236 (by omega)) (by omega) q_349 (by omega) (q_16 (by omega)) q_346 rfl (by rw [show skB (fv 0) n26 k25_338 = k25_355 from q_360.eq]; exact Or.inr ⟨(show wdE (fv 0) n26 k25_355 = 0 by omega), k21_382, P_396, 0, (by rw [← show skB (fv 0) n26 e_378 = nxF (fv 0) n26 k25_355 from nx_e (by omega) (show wdE (fv 0) n26 k25_355 = 0 by omega) (he_363.r.trans hq_e_378.symm)]; exact hnr_398), Or.inl ⟨by omega, rfl, rfl⟩⟩) (fun _ => hP_397) (fun h9 => absurd h9 (by omega))), fun i h9 => by rw [hf_400]; exact up_ne h9, fun h9 => absurd h9 (by omega), q_15, by rw [ht]; exact hP, va_K.moved hW.alike hK, hD⟩, hS.F ht⟩) hS.2.2 dX9_reads_119
      obtain ⟨v_394, hv_395, rfl, hnr_398⟩ := q_389.ok
      have pe_403 : p22_383 = p22_337 := q_390 rfl
      refine va_iast (f := fv 17) (n := 16) hx hb hK hP hD hS 13 12 rfl rfl (vp_in_nI (n := n14) (by omega) (by omega)) dX9_reads_81 (fun H locs hP hD hS => ?_)
      have hP : va_P D vwCl (mw h0 ad cs (upd (upd (upd (upd (upd (upd iv 21 (nI 0)) 22 p22_383) 25 (nI k25_384)) 29 (nI k29_339)) 30 (nI k30_340)) 31 (nI k31_341)) (uF (uF (uF (uF (uF fv 15 f15_6) 16 f16_7) 17 (upd (fv 17) (nI n14).toNatClampNeg (nI v_394))) 19 f19_342) 28 f28_343) gv) H := hP
      have hD : va_D A (mw h0 ad cs (upd (upd (upd (upd (upd (upd iv 21 (nI 0)) 22 p22_383) 25 (nI k25_384)) 29 (nI k29_339)) 30 (nI k30_340)) 31 (nI k31_341)) (uF (uF (uF (uF (uF fv 15 f15_6) 16 f16_7) 17 (upd (fv 17) (nI n14).toNatClampNeg (nI v_394))) 19 f19_342) 28 f28_343) gv) := hD
      obtain ⟨f_404, hf_405⟩ : ∃ g9, g9 = upd (fv 17) (nI n14).toNatClampNeg (nI v_394) := ⟨_, rfl⟩
      rw [← hf_405] at hP hD
      rw [nI_clamp (n := n14) (by omega)] at hf_405
      refine lv_aload_n hx hb dX9_reads_82 rfl (lv_at hl 0 rfl) ?_
      refine va_get (D := D) (ci := 9) (v := .int (nI 0)) (C := RX9) (T := TX9) (N := 44) hx hb hts hin9 hown hK hP 0 rfl rfl 21 (by decide) (hts (.fieldLink RX9 74 "HoneyHouseModel" "faultKind" "I") (List.mem_of_getElem? (i := 2) rfl)) (fun _ h9 => h9) rfl dX9_reads_83 ?_
      refine lv_if_ne (tgt := 95) hx hb dX9_reads_86 (by decide) (fun c_406 => absurd (by decide) c_406) (fun c_406 => ?_)
      refine lv_aload_n hx hb dX9_reads_89 rfl (lv_at hl 0 rfl) ?_
      refine lv_bipush (v := 59) hx hb dX9_reads_90 (by decide) ?_
      have hFc := free_all hD hS hA
      refine va_callv (va_runV (As := [.int 59]) (rest := []) ⟨hx, hb, hml, hown, hts⟩ (m_must l D h0 ad cs (upd (upd (upd (upd (upd (upd iv 21 (nI 0)) 22 p22_383) 25 (nI k25_384)) 29 (nI k29_339)) 30 (nI k30_340)) 31 (nI k31_341)) (uF (uF (uF (uF (uF fv 15 f15_6) 16 f16_7) 17 f_404) 19 f19_342) 28 f28_343) gv 0 k25_384 n26 59 H.size rfl rfl h26 (by omega) (by omega) (by omega) (by decide)) (cwV 1 hts gX9_reads_X9_must rfl rfl rfl (by decide +kernel) ⟨Nat.le_of_ble_eq_true rfl, Nat.le_of_ble_eq_true rfl⟩) ⟨fun a U g mk q => by obtain ⟨q0, q1, qP, qK, qD⟩ := q; exact ⟨q0, q1, qP, va_K.moved (u := U) (U := U.calling g mk a) (Vm.Alike.refl U.vm) qK, qD⟩, va_recv hK hP (ci := 9) (q0 := 0) rfl rfl, fun U hU hW => ⟨rfl, by rw [hU], by rw [hU]; exact hP, va_K.moved hW.alike hK, hD.weaken (fun _ _ _ _ => trivial)⟩⟩ rfl rfl hl.1 rfl (lv_room (Nat.le_of_ble_eq_true rfl)) dX9_reads_92 ⟨Nat.le_of_ble_eq_true rfl, Nat.le_of_ble_eq_true rfl⟩) hS (fun q _ h => hFc q h) hFc (fun u t H1 locs ht hvm w_408 hB hz1 hk1 hS => ?_)
      obtain ⟨k21_409, p22_410, k25_411, q_412, q_413, q_414, q_415, hP1, hK1, hD1⟩ := hB
      replace q_415 : (0 = 0 → ((skB ((fv 0)) n26 k25_384 < n26 ∧ (fv 0) (skB ((fv 0)) n26 k25_384) = 59) ∧ k21_409 = 0 ∧ p22_410 = (p22_383) ∧ k25_411 = skB ((fv 0)) n26 k25_384 + 1) ∨ (¬ (skB ((fv 0)) n26 k25_384 < n26 ∧ (fv 0) (skB ((fv 0)) n26 k25_384) = 59) ∧ k21_409 = 1 ∧ p22_410 = nI (skB ((fv 0)) n26 k25_384))) := q_415
      rw [ht] at hP1
      have hK := va_K.moved hvm.symm hK1
      generalize H1 = H at hP1 hS ⊢
      have hP : va_P D vwCl (mw h0 ad cs (upd (upd (upd (upd (upd (upd iv 21 (nI k21_409)) 22 p22_410) 25 (nI k25_411)) 29 (nI k29_339)) 30 (nI k30_340)) 31 (nI k31_341)) (uF (uF (uF (uF (uF fv 15 f15_6) 16 f16_7) 17 f_404) 19 f19_342) 28 f28_343) gv) H := hP1
      have hD : va_D A (mw h0 ad cs (upd (upd (upd (upd (upd (upd iv 21 (nI k21_409)) 22 p22_410) 25 (nI k25_411)) 29 (nI k29_339)) 30 (nI k30_340)) 31 (nI k31_341)) (uF (uF (uF (uF (uF fv 15 f15_6) 16 f16_7) 17 f_404) 19 f19_342) 28 f28_343) gv) := hD1.weaken (fun _ _ _ h => hFc _ h)
      refine lv_aload_n hx hb dX9_reads_95 rfl (lv_at hl 0 rfl) ?_
      refine va_get (D := D) (ci := 9) (v := .int (nI k21_409)) (C := RX9) (T := TX9) (N := 44) hx hb hts hin9 hown hK hP 0 rfl rfl 21 (by decide) (hts (.fieldLink RX9 74 "HoneyHouseModel" "faultKind" "I") (List.mem_of_getElem? (i := 2) rfl)) (fun _ h9 => h9) rfl dX9_reads_96 ?_
      refine lv_if_ne (tgt := 119) hx hb dX9_reads_99 (by decide) (fun c_416 => ?_) (fun c_416 => ?_)
      · have d_417 := n_ne (a := k21_409) (b := 0) (by omega) (by omega) c_416
        have hP : va_P D vwCl (mw h0 ad cs (upd (upd (upd (upd (upd (upd iv 21 (nI k21_409)) 22 p22_410) 25 (nI k25_411)) 29 (nI k29_339)) 30 (nI k30_340)) 31 (nI k31_341)) (uF (uF (uF (uF (uF fv 15 f15_6) 16 f16_7) 17 f_404) 19 f19_342) 28 f28_343) gv) H := hP
        have hD : va_D A (mw h0 ad cs (upd (upd (upd (upd (upd (upd iv 21 (nI k21_409)) 22 p22_410) 25 (nI k25_411)) 29 (nI k29_339)) 30 (nI k30_340)) 31 (nI k31_341)) (uF (uF (uF (uF (uF fv 15 f15_6) 16 f16_7) 17 f_404) 19 f19_342) 28 f28_343) gv) := hD
        exact W.vret hx hb hr (fun t ht hW => ⟨⟨(), rfl, trivial, k21_409, p22_410, nI k25_411, nI k29_339, nI k30_340, nI k31_341, f15_6, f16_7, f_404, f19_342, f28_343, by omega, q_347, q_11, trivial, (rd_4 (P := skB (fv 0) n26 k25_384) (fr := v_394) q_13 (by omega) (q_236 (by omega)) (by omega) q_349 (by omega) (q_16 (by omega)) q_346 rfl (by rw [show skB (fv 0) n26 k25_338 = k25_355 from q_360.eq]; exact Or.inr ⟨(show wdE (fv 0) n26 k25_355 = 0 by omega), 0, skB (fv 0) n26 k25_384, v_394, (by rw [← show skB (fv 0) n26 e_378 = nxF (fv 0) n26 k25_355 from nx_e (by omega) (show wdE (fv 0) n26 k25_355 = 0 by omega) (he_363.r.trans hq_e_378.symm)]; exact hnr_398), Or.inr ⟨rfl, rfl, Or.inl ⟨((q_415 (by omega)).resolve_left (fun h9 => by omega)).1, ((q_415 (by omega)).resolve_left (fun h9 => by omega)).2.1, rfl⟩⟩⟩) (fun _ => ((q_415 (by omega)).resolve_left (fun h9 => by omega)).2.2) (fun _ => by rw [hf_405]; exact up_eq)), fun i h9 => by rw [hf_405]; exact up_ne h9, fun h9 => (((q_415 (by omega)).elim (fun q9 => q9.2.2.1) (fun q9 => by omega)).trans (pe_403.trans ((q_350 (by omega)).trans (((q_236 (by omega)).elim (fun q9 => q9.2.2.1) (fun q9 => by omega)).trans (q_14 (by omega)))))), q_15, by rw [ht]; exact hP, va_K.moved hW.alike hK, hD⟩, hS.F ht⟩) hS.2.2 dX9_reads_119
      have d_418 := n_eq (a := k21_409) (b := 0) (by omega) (by omega) c_416
      refine lv_aload_n hx hb dX9_reads_102 rfl (lv_at hl 0 rfl) ?_
      have hFc := free_all hD hS hA
      refine va_calli (va_runV (As := []) (rest := []) ⟨hx, hb, hml, hown, hts⟩ (m_here l D h0 ad cs (upd (upd (upd (upd (upd (upd iv 21 (nI k21_409)) 22 p22_410) 25 (nI k25_411)) 29 (nI k29_339)) 30 (nI k30_340)) 31 (nI k31_341)) (uF (uF (uF (uF (uF fv 15 f15_6) 16 f16_7) 17 f_404) 19 f19_342) 28 f28_343) gv k25_411 n26  H.size rfl h26 (by omega) (by omega)) (cwV 0 hts gX9_reads_X9_here rfl rfl rfl (by decide +kernel) ⟨Nat.le_of_ble_eq_true rfl, Nat.le_of_ble_eq_true rfl⟩) ⟨fun a U g mk q => by obtain ⟨q0, q1, qP, qK, qD⟩ := q; exact ⟨q0, q1, qP, va_K.moved (u := U) (U := U.calling g mk a) (Vm.Alike.refl U.vm) qK, qD⟩, va_recv hK hP (ci := 9) (q0 := 0) rfl rfl, fun U hU hW => ⟨rfl, by rw [hU], by rw [hU]; exact hP, va_K.moved hW.alike hK, hD.weaken (fun _ _ _ _ => trivial)⟩⟩ rfl rfl hl.1 rfl (lv_room (Nat.le_of_ble_eq_true rfl)) dX9_reads_103 ⟨Nat.le_of_ble_eq_true rfl, Nat.le_of_ble_eq_true rfl⟩) hS (fun q _ h => hFc q h) hFc (fun r_419 u t H1 locs ht hvm w_420 hB hz1 hk1 hS => ?_)
      subst w_420
      obtain ⟨k25_421, q_422, q_423, q_424, q_425, q_426, q_427, hP1, hK1, hD1⟩ := hB
      replace q_424 : k25_421 = n26 ∨ ¬ blk ((fv 0) k25_421) := q_424
      replace q_425 : (k25_411 = n26 ∨ ¬ blk ((fv 0) k25_411)) → k25_421 = k25_411 := q_425
      replace q_426 : (r_419 = (-1) ∧ k25_421 = n26) ∨ (k25_421 < n26 ∧ r_419 = (fv 0) k25_421) := q_426
      replace q_427 : isRn blk ((fv 0)) n26 k25_411 k25_421 := q_427
      rw [ht] at hP1
      have hK := va_K.moved hvm.symm hK1
      generalize H1 = H at hP1 hS ⊢
      have hP : va_P D vwCl (mw h0 ad cs (upd (upd (upd (upd (upd (upd iv 21 (nI k21_409)) 22 p22_410) 25 (nI k25_421)) 29 (nI k29_339)) 30 (nI k30_340)) 31 (nI k31_341)) (uF (uF (uF (uF (uF fv 15 f15_6) 16 f16_7) 17 f_404) 19 f19_342) 28 f28_343) gv) H := hP1
      have hD : va_D A (mw h0 ad cs (upd (upd (upd (upd (upd (upd iv 21 (nI k21_409)) 22 p22_410) 25 (nI k25_421)) 29 (nI k29_339)) 30 (nI k30_340)) 31 (nI k31_341)) (uF (uF (uF (uF (uF fv 15 f15_6) 16 f16_7) 17 f_404) 19 f19_342) 28 f28_343) gv) := hD1.weaken (fun _ _ _ h => hFc _ h)
      refine lv_iconst (v := (-1)) hx hb dX9_reads_106 (by decide) ?_
      refine lv_icmp_eq (tgt := 119) hx hb dX9_reads_107 (by decide) (fun c_428 => ?_) (fun c_428 => ?_)
      · have hP : va_P D vwCl (mw h0 ad cs (upd (upd (upd (upd (upd (upd iv 21 (nI k21_409)) 22 p22_410) 25 (nI k25_421)) 29 (nI k29_339)) 30 (nI k30_340)) 31 (nI k31_341)) (uF (uF (uF (uF (uF fv 15 f15_6) 16 f16_7) 17 f_404) 19 f19_342) 28 f28_343) gv) H := hP
        have hD : va_D A (mw h0 ad cs (upd (upd (upd (upd (upd (upd iv 21 (nI k21_409)) 22 p22_410) 25 (nI k25_421)) 29 (nI k29_339)) 30 (nI k30_340)) 31 (nI k31_341)) (uF (uF (uF (uF (uF fv 15 f15_6) 16 f16_7) 17 f_404) 19 f19_342) 28 f28_343) gv) := hD
        exact W.vret hx hb hr (fun t ht hW => ⟨⟨(), rfl, trivial, k21_409, p22_410, nI k25_421, nI k29_339, nI k30_340, nI k31_341, f15_6, f16_7, f_404, f19_342, f28_343, by omega, q_347, q_11, trivial, (rd_4 (P := 0) (fr := v_394) q_13 (by omega) (q_236 (by omega)) (by omega) q_349 (by omega) (q_16 (by omega)) q_346 rfl (by rw [show skB (fv 0) n26 k25_338 = k25_355 from q_360.eq]; exact Or.inr ⟨(show wdE (fv 0) n26 k25_355 = 0 by omega), 0, skB (fv 0) n26 k25_384, v_394, (by rw [← show skB (fv 0) n26 e_378 = nxF (fv 0) n26 k25_355 from nx_e (by omega) (show wdE (fv 0) n26 k25_355 = 0 by omega) (he_363.r.trans hq_e_378.symm)]; exact hnr_398), Or.inr ⟨rfl, rfl, Or.inr ⟨(mu_59 (q_415 (by omega)) (by omega)).1, Or.inl ⟨by rw [show nxF (fv 0) n26 (skB (fv 0) n26 k25_384) = k25_421 from (mu_59 (q_415 (by omega)) (by omega)).2.symm.trans q_427.eq]; exact kd_eq q_426 c_428 hng, by omega⟩⟩⟩⟩) (fun h9 => absurd (by omega) h9) (fun _ => by rw [hf_405]; exact up_eq)), fun i h9 => by rw [hf_405]; exact up_ne h9, fun h9 => (((q_415 (by omega)).elim (fun q9 => q9.2.2.1) (fun q9 => by omega)).trans (pe_403.trans ((q_350 (by omega)).trans (((q_236 (by omega)).elim (fun q9 => q9.2.2.1) (fun q9 => by omega)).trans (q_14 (by omega)))))), q_15, by rw [ht]; exact hP, va_K.moved hW.alike hK, hD⟩, hS.F ht⟩) hS.2.2 dX9_reads_119
      refine lv_aload_n hx hb dX9_reads_110 rfl (lv_at hl 0 rfl) ?_
      refine lv_iconst (v := 1) hx hb dX9_reads_111 (by decide) ?_
      refine lv_aload_n hx hb dX9_reads_112 rfl (lv_at hl 0 rfl) ?_
      refine va_get (D := D) (ci := 9) (v := .int (nI k25_421)) (C := RX9) (T := TX9) (N := 44) hx hb hts hin9 hown hK hP 0 rfl rfl 25 (by decide) (hts (.fieldLink RX9 87 "HoneyHouseModel" "at" "I") (List.mem_of_getElem? (i := 1) rfl)) (fun _ h9 => h9) rfl dX9_reads_113 ?_
      have hFc := free_all hD hS hA
      refine va_callv (va_runV (As := [.int 1, .int (nI k25_421)]) (rest := []) ⟨hx, hb, hml, hown, hts⟩ (m_blame l D h0 ad cs (upd (upd (upd (upd (upd (upd iv 21 (nI k21_409)) 22 p22_410) 25 (nI k25_421)) 29 (nI k29_339)) 30 (nI k30_340)) 31 (nI k31_341)) (uF (uF (uF (uF (uF fv 15 f15_6) 16 f16_7) 17 f_404) 19 f19_342) 28 f28_343) gv k21_409 1 (nI k25_421) H.size rfl (by omega) (by omega)) (cwV 2 hts gX9_reads_X9_blame rfl rfl rfl (by decide +kernel) ⟨Nat.le_of_ble_eq_true rfl, Nat.le_of_ble_eq_true rfl⟩) ⟨fun a U g mk q => by obtain ⟨q0, q1, qP, qK, qD⟩ := q; exact ⟨q0, q1, qP, va_K.moved (u := U) (U := U.calling g mk a) (Vm.Alike.refl U.vm) qK, qD⟩, va_recv hK hP (ci := 9) (q0 := 0) rfl rfl, fun U hU hW => ⟨rfl, by rw [hU], by rw [hU]; exact hP, va_K.moved hW.alike hK, hD.weaken (fun _ _ _ _ => trivial)⟩⟩ rfl rfl hl.1 rfl (lv_room (Nat.le_of_ble_eq_true rfl)) dX9_reads_116 ⟨Nat.le_of_ble_eq_true rfl, Nat.le_of_ble_eq_true rfl⟩) hS (fun q _ h => hFc q h) hFc (fun u t H1 locs ht hvm w_430 hB hz1 hk1 hS => ?_)
      obtain ⟨k21_431, p22_432, q_433, q_434, q_435, hP1, hK1, hD1⟩ := hB
      replace q_435 : (k21_409 = 0 → k21_431 = 1 ∧ p22_432 = (nI k25_421)) ∧ (¬ k21_409 = 0 → k21_431 = k21_409 ∧ p22_432 = (p22_410)) := q_435
      rw [ht] at hP1
      have hK := va_K.moved hvm.symm hK1
      generalize H1 = H at hP1 hS ⊢
      have hP : va_P D vwCl (mw h0 ad cs (upd (upd (upd (upd (upd (upd iv 21 (nI k21_431)) 22 p22_432) 25 (nI k25_421)) 29 (nI k29_339)) 30 (nI k30_340)) 31 (nI k31_341)) (uF (uF (uF (uF (uF fv 15 f15_6) 16 f16_7) 17 f_404) 19 f19_342) 28 f28_343) gv) H := hP1
      have hD : va_D A (mw h0 ad cs (upd (upd (upd (upd (upd (upd iv 21 (nI k21_431)) 22 p22_432) 25 (nI k25_421)) 29 (nI k29_339)) 30 (nI k30_340)) 31 (nI k31_341)) (uF (uF (uF (uF (uF fv 15 f15_6) 16 f16_7) 17 f_404) 19 f19_342) 28 f28_343) gv) := hD1.weaken (fun _ _ _ h => hFc _ h)
      have hP : va_P D vwCl (mw h0 ad cs (upd (upd (upd (upd (upd (upd iv 21 (nI k21_431)) 22 p22_432) 25 (nI k25_421)) 29 (nI k29_339)) 30 (nI k30_340)) 31 (nI k31_341)) (uF (uF (uF (uF (uF fv 15 f15_6) 16 f16_7) 17 f_404) 19 f19_342) 28 f28_343) gv) H := hP
      have hD : va_D A (mw h0 ad cs (upd (upd (upd (upd (upd (upd iv 21 (nI k21_431)) 22 p22_432) 25 (nI k25_421)) 29 (nI k29_339)) 30 (nI k30_340)) 31 (nI k31_341)) (uF (uF (uF (uF (uF fv 15 f15_6) 16 f16_7) 17 f_404) 19 f19_342) 28 f28_343) gv) := hD
      exact W.vret hx hb hr (fun t ht hW => ⟨⟨(), rfl, trivial, k21_431, p22_432, nI k25_421, nI k29_339, nI k30_340, nI k31_341, f15_6, f16_7, f_404, f19_342, f28_343, by omega, q_347, q_11, trivial, (rd_4 (P := k25_421) (fr := v_394) q_13 (by omega) (q_236 (by omega)) (by omega) q_349 (by omega) (q_16 (by omega)) q_346 rfl (by rw [show skB (fv 0) n26 k25_338 = k25_355 from q_360.eq]; exact Or.inr ⟨(show wdE (fv 0) n26 k25_355 = 0 by omega), 0, skB (fv 0) n26 k25_384, v_394, (by rw [← show skB (fv 0) n26 e_378 = nxF (fv 0) n26 k25_355 from nx_e (by omega) (show wdE (fv 0) n26 k25_355 = 0 by omega) (he_363.r.trans hq_e_378.symm)]; exact hnr_398), Or.inr ⟨rfl, rfl, Or.inr ⟨(mu_59 (q_415 (by omega)) (by omega)).1, Or.inr ⟨by rw [show nxF (fv 0) n26 (skB (fv 0) n26 k25_384) = k25_421 from (mu_59 (q_415 (by omega)) (by omega)).2.symm.trans q_427.eq]; exact kd_ne q_426 c_428, (q_435.1 (by omega)).1, by rw [show nxF (fv 0) n26 (skB (fv 0) n26 k25_384) = k25_421 from (mu_59 (q_415 (by omega)) (by omega)).2.symm.trans q_427.eq]⟩⟩⟩⟩) (fun _ => (q_435.1 (by omega)).2) (fun _ => by rw [hf_405]; exact up_eq)), fun i h9 => by rw [hf_405]; exact up_ne h9, fun h9 => absurd h9 (by omega), q_15, by rw [ht]; exact hP, va_K.moved hW.alike hK, hD⟩, hS.F ht⟩) hS.2.2 dX9_reads_119
    have d_436 := n_ne (a := c_361) (b := 0) (by omega) (by omega) c_374
    refine lv_aload_n hx hb dX9_reads_48 rfl (lv_at hl 0 rfl) ?_
    refine lv_iconst (v := 1) hx hb dX9_reads_49 (by decide) ?_
    refine lv_aload_n hx hb dX9_reads_50 rfl (lv_at hl 0 rfl) ?_
    refine va_get (D := D) (ci := 9) (v := .int (nI k25_355)) (C := RX9) (T := TX9) (N := 44) hx hb hts hin9 hown hK hP 0 rfl rfl 25 (by decide) (hts (.fieldLink RX9 87 "HoneyHouseModel" "at" "I") (List.mem_of_getElem? (i := 1) rfl)) (fun _ h9 => h9) rfl dX9_reads_51 ?_
    have hFc := free_all hD hS hA
    refine va_callv (va_runV (As := [.int 1, .int (nI k25_355)]) (rest := []) ⟨hx, hb, hml, hown, hts⟩ (m_blame l D h0 ad cs (upd (upd (upd (upd (upd (upd iv 21 (nI k21_336)) 22 p22_337) 25 (nI k25_355)) 29 (nI k29_339)) 30 (nI k30_340)) 31 (nI k31_341)) (uF (uF (uF (uF fv 15 f15_6) 16 f16_7) 19 f19_342) 28 f28_343) gv k21_336 1 (nI k25_355) H.size rfl (by omega) (by omega)) (cwV 2 hts gX9_reads_X9_blame rfl rfl rfl (by decide +kernel) ⟨Nat.le_of_ble_eq_true rfl, Nat.le_of_ble_eq_true rfl⟩) ⟨fun a U g mk q => by obtain ⟨q0, q1, qP, qK, qD⟩ := q; exact ⟨q0, q1, qP, va_K.moved (u := U) (U := U.calling g mk a) (Vm.Alike.refl U.vm) qK, qD⟩, va_recv hK hP (ci := 9) (q0 := 0) rfl rfl, fun U hU hW => ⟨rfl, by rw [hU], by rw [hU]; exact hP, va_K.moved hW.alike hK, hD.weaken (fun _ _ _ _ => trivial)⟩⟩ rfl rfl hl.1 rfl (lv_room (Nat.le_of_ble_eq_true rfl)) dX9_reads_54 ⟨Nat.le_of_ble_eq_true rfl, Nat.le_of_ble_eq_true rfl⟩) hS (fun q _ h => hFc q h) hFc (fun u t H1 locs ht hvm w_438 hB hz1 hk1 hS => ?_)
    obtain ⟨k21_439, p22_440, q_441, q_442, q_443, hP1, hK1, hD1⟩ := hB
    replace q_443 : (k21_336 = 0 → k21_439 = 1 ∧ p22_440 = (nI k25_355)) ∧ (¬ k21_336 = 0 → k21_439 = k21_336 ∧ p22_440 = (p22_337)) := q_443
    rw [ht] at hP1
    have hK := va_K.moved hvm.symm hK1
    generalize H1 = H at hP1 hS ⊢
    have hP : va_P D vwCl (mw h0 ad cs (upd (upd (upd (upd (upd (upd iv 21 (nI k21_439)) 22 p22_440) 25 (nI k25_355)) 29 (nI k29_339)) 30 (nI k30_340)) 31 (nI k31_341)) (uF (uF (uF (uF fv 15 f15_6) 16 f16_7) 19 f19_342) 28 f28_343) gv) H := hP1
    have hD : va_D A (mw h0 ad cs (upd (upd (upd (upd (upd (upd iv 21 (nI k21_439)) 22 p22_440) 25 (nI k25_355)) 29 (nI k29_339)) 30 (nI k30_340)) 31 (nI k31_341)) (uF (uF (uF (uF fv 15 f15_6) 16 f16_7) 19 f19_342) 28 f28_343) gv) := hD1.weaken (fun _ _ _ h => hFc _ h)
    have hP : va_P D vwCl (mw h0 ad cs (upd (upd (upd (upd (upd (upd iv 21 (nI k21_439)) 22 p22_440) 25 (nI k25_355)) 29 (nI k29_339)) 30 (nI k30_340)) 31 (nI k31_341)) (uF (uF (uF (uF (uF fv 15 f15_6) 16 f16_7) 17 (fv 17)) 19 f19_342) 28 f28_343) gv) H := hP
    have hD : va_D A (mw h0 ad cs (upd (upd (upd (upd (upd (upd iv 21 (nI k21_439)) 22 p22_440) 25 (nI k25_355)) 29 (nI k29_339)) 30 (nI k30_340)) 31 (nI k31_341)) (uF (uF (uF (uF (uF fv 15 f15_6) 16 f16_7) 17 (fv 17)) 19 f19_342) 28 f28_343) gv) := hD
    exact W.vret hx hb hr (fun t ht hW => ⟨⟨(), rfl, trivial, k21_439, p22_440, nI k25_355, nI k29_339, nI k30_340, nI k31_341, f15_6, f16_7, fv 17, f19_342, f28_343, by omega, q_347, q_11, trivial, (rd_4 (P := k25_355) (fr := 0) q_13 (by omega) (q_236 (by omega)) (by omega) q_349 (by omega) (q_16 (by omega)) q_346 rfl (by rw [show skB (fv 0) n26 k25_338 = k25_355 from q_360.eq]; exact Or.inl ⟨by omega, (q_443.1 (by omega)).1, rfl⟩) (fun _ => (q_443.1 (by omega)).2) (fun h9 => absurd h9 (by omega))), fun _ _ => rfl, fun h9 => absurd h9 (by omega), q_15, by rw [ht]; exact hP, va_K.moved hW.alike hK, hD⟩, hS.F ht⟩) hS.2.2 dX9_reads_57
  have d_444 := n_nle (a := k21_336) (b := 0) (by omega) (by omega) c_351
  have hP : va_P D vwCl (mw h0 ad cs (upd (upd (upd (upd (upd (upd iv 21 (nI k21_336)) 22 p22_337) 25 (nI k25_338)) 29 (nI k29_339)) 30 (nI k30_340)) 31 (nI k31_341)) (uF (uF (uF (uF (uF fv 15 f15_6) 16 f16_7) 17 (fv 17)) 19 f19_342) 28 f28_343) gv) H := hP
  have hD : va_D A (mw h0 ad cs (upd (upd (upd (upd (upd (upd iv 21 (nI k21_336)) 22 p22_337) 25 (nI k25_338)) 29 (nI k29_339)) 30 (nI k30_340)) 31 (nI k31_341)) (uF (uF (uF (uF (uF fv 15 f15_6) 16 f16_7) 17 (fv 17)) 19 f19_342) 28 f28_343) gv) := hD
  exact W.vret hx hb hr (fun t ht hW => ⟨⟨(), rfl, trivial, k21_336, p22_337, nI k25_338, nI k29_339, nI k30_340, nI k31_341, f15_6, f16_7, fv 17, f19_342, f28_343, by omega, q_347, q_11, trivial, (rd_3 q_13 (by omega) (q_236 (by omega)) (by omega) q_349 (by omega)), fun _ _ => rfl, fun h9 => ((q_350 (by omega)).trans (((q_236 (by omega)).elim (fun q9 => q9.2.2.1) (fun q9 => by omega)).trans (q_14 (by omega)))), q_15, by rw [ht]; exact hP, va_K.moved hW.alike hK, hD⟩, hS.F ht⟩) hS.2.2 dX9_reads_40
