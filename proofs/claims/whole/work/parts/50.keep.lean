/-! WHAT STAYS when other numbers change -/
section KP
variable {s s' : zK} {N N' : zN} {fa sa : Int → Int}
/-- the rows of L are the same -/
def sC (N N' : zN) (L : List Nat) : Prop := ∀ a ∈ L, N' a = N a
/-- the counts of L are the same -/
def s9 (N N' : zN) (L : List Int) : Prop := ∀ j ∈ L, N' 39 j = N 39 j
/-- later cells of the kind k are the same -/
def s8 (s : zK) (N N' : zN) (k : Nat) : Prop := ∀ a, 88 ≤ a → a < s.1.1 → (s.2 a).1 = k → N' a = N a
theorem s8.at {k l a : Nat} (h : s8 s N N' k) (h88 : 88 ≤ a) (hA : zA s a (k, l)) : N' a = N a := h a h88 hA.2.1 (by rw [hA.2.2])
theorem s8.rf {k : Nat} : s8 s N N k := fun _ _ _ _ => rfl
theorem s8.lo {k a : Nat} {i x : Int} (ha : a < 88) (h : s8 s N N' k) : s8 s N (mup N' a i x) k := fun b h1 h2 h3 => by
  rw [show mup N' a i x b = N' b from funext fun j => mup_cell (by omega)]
  exact h b h1 h2 h3
theorem s8.nw {k a : Nat} {i x : Int} (ha : s.1.1 ≤ a) (h : s8 s N N' k) : s8 s N (mup N' a i x) k := fun b h1 h2 h3 => by
  rw [show mup N' a i x b = N' b from funext fun j => mup_cell (by omega)]
  exact h b h1 h2 h3
theorem s8.sh {k k2 l a : Nat} {i x : Int} (ha : zA s a (k2, l)) (hk : k2 ≠ k) (h : s8 s N N' k) : s8 s N (mup N' a i x) k := fun b h1 h2 h3 => by
  rw [show mup N' a i x b = N' b from funext fun j => mup_cell (fun q => hk (by rw [q, ha.2.2] at h3; exact h3))]
  exact h b h1 h2 h3
theorem sC.rf {L : List Nat} : sC N N L := fun _ _ => rfl
theorem sC.m {L : List Nat} {a : Nat} {i x : Int} (ha : a ∉ L) (h : sC N N' L) : sC N (mup N' a i x) L := fun b hb => by
  rw [show mup N' a i x b = N' b from funext fun j => mup_cell (fun q => ha (q ▸ hb))]
  exact h b hb
theorem sC.hi {L : List Nat} {a : Nat} {i x : Int} (ha : 88 ≤ a) (hL : ∀ b ∈ L, b < 88) (h : sC N N' L) : sC N (mup N' a i x) L := fun b hb => by
  have := hL b hb
  rw [show mup N' a i x b = N' b from funext fun j => mup_cell (by omega)]
  exact h b hb
theorem sC.sub {L L' : List Nat} (h : sC N N' L) (hs : ∀ b ∈ L', b ∈ L) : sC N N' L' := fun b hb => h b (hs b hb)
theorem s9.rf {L : List Int} : s9 N N L := fun _ _ => rfl
theorem s9.m {L : List Int} {a : Nat} {i x : Int} (ha : a ≠ 39) (h : s9 N N' L) : s9 N (mup N' a i x) L := fun b hb => by
  rw [mup_cell (fun q => ha q.symm)]
  exact h b hb
theorem s9.o {L : List Int} {i x : Int} (hi : i ∉ L) (h : s9 N N' L) : s9 N (mup N' 39 i x) L := fun b hb => by
  rw [mup_slot (show b ≠ i from fun q => hi (q ▸ hb))]
  exact h b hb
theorem mOrd_k (hc : sC N N' [48, 49, 50, 59, 61, 62]) (h9 : s9 N N' [10, 31]) (h : mOrd N) : mOrd N' := by
  have e48 := hc 48 (by decide)
  have e49 := hc 49 (by decide)
  have e50 := hc 50 (by decide)
  have e59 := hc 59 (by decide)
  have e61 := hc 61 (by decide)
  have e62 := hc 62 (by decide)
  have f10 := h9 10 (by decide)
  have f31 := h9 31 (by decide)
  unfold mOrd
  rw [e48, e49, e50, e59, e61, e62, f10, f31]
  exact h
theorem mPpl_k (hc : sC N N' [41, 42, 43, 44, 45, 46, 47]) (h2 : N' 39 2 = N 39 2) (h0 : N 39 0 ≤ N' 39 0) (h : mPpl N) : mPpl N' := by
  intro i hi0 hi1
  rw [h2] at hi1
  have := h i hi0 hi1
  rw [hc 41 (by decide), hc 42 (by decide), hc 43 (by decide), hc 44 (by decide), hc 45 (by decide), hc 46 (by decide), hc 47 (by decide), h2]
  refine ⟨this.1, this.2.1, this.2.2.1, ⟨this.2.2.2.1.1, by omega⟩, this.2.2.2.2⟩
theorem mFlt_k (hc : sC N N' [48, 49, 50]) (h10 : N' 39 10 = N 39 10) (h2 : N 39 2 ≤ N' 39 2) (h : mFlt N) : mFlt N' := by
  intro k h0 h1
  rw [h10] at h1
  have := h k h0 h1
  rw [hc 48 (by decide), hc 49 (by decide), hc 50 (by decide)]
  exact ⟨⟨this.1.1, by omega⟩, this.2⟩
theorem mSpl_k (hc : sC N N' [59, 60, 61, 62]) (h31 : N' 39 31 = N 39 31) (h2 : N 39 2 ≤ N' 39 2) (h29 : N 39 29 ≤ N' 39 29) (h : mSpl N) : mSpl N' := by
  intro k h0 h1
  rw [h31] at h1
  have := h k h0 h1
  rw [hc 59 (by decide), hc 60 (by decide), hc 61 (by decide), hc 62 (by decide)]
  exact ⟨⟨this.1.1, by omega⟩, ⟨this.2.1.1, by omega⟩, this.2.2⟩
theorem mSty_k (hc : sC N N' [63, 64, 65, 66]) (h36 : N' 39 36 = N 39 36) (h2 : N 39 2 ≤ N' 39 2) (h0 : N 39 0 ≤ N' 39 0) (h : mSty N) : mSty N' := by
  intro k hk0 hk1
  rw [h36] at hk1
  have := h k hk0 hk1
  rw [hc 63 (by decide), hc 64 (by decide), hc 65 (by decide), hc 66 (by decide)]
  exact ⟨⟨this.1.1, by omega⟩, ⟨this.2.1.1, by omega⟩, this.2.2⟩
theorem mPle_k (hc : sC N N' [74, 75, 76, 77, 78]) (h50 : N' 39 50 = N 39 50) (h10 : N 39 10 ≤ N' 39 10) (h29 : N 39 29 ≤ N' 39 29) (h : mPle N) : mPle N' := by
  intro k hk0 hk1
  rw [h50] at hk1
  have := h k hk0 hk1
  rw [hc 74 (by decide), hc 75 (by decide), hc 76 (by decide), hc 77 (by decide), hc 78 (by decide)]
  exact ⟨⟨this.1.1, by omega⟩, ⟨this.2.1.1, by omega⟩, this.2.2⟩
theorem lastF_k (hc : N' 48 = N 48) (h10 : N' 39 10 = N 39 10) (w : Int) : lastF N' w = lastF N w := by unfold lastF; rw [hc, h10]
theorem lastS_k (hc : N' 59 = N 59) (h31 : N' 39 31 = N 39 31) (w : Int) : lastS N' w = lastS N w := by unfold lastS; rw [hc, h31]
theorem zA.k {a : Nat} {sp : Nat × Nat} (hs : s.1.1 ≤ s'.1.1) (hsh : ∀ a, a < s.1.1 → s'.2 a = s.2 a) (h : zA s a sp) : zA s' a sp := ⟨h.1, Nat.lt_of_lt_of_le h.2.1 hs, (hsh a h.2.1).trans h.2.2⟩
/-- cells may be added -/
def sK (s s' : zK) : Prop := s.1.1 ≤ s'.1.1 ∧ ∀ a, a < s.1.1 → s'.2 a = s.2 a
theorem sK.rf : sK s s := ⟨Nat.le_refl _, fun _ _ => rfl⟩
theorem sK.ns {sp : Nat × Nat} {sl : Nat} : sK s (z_ns s sp sl) := ⟨Nat.le_succ _, fun a ha => by show (if a = s.1.1 then sp else s.2 a) = s.2 a; rw [if_neg (Nat.ne_of_lt ha)]⟩
theorem sK.trans {s2 : zK} (h : sK s s') (h2 : sK s' s2) : sK s s2 := ⟨Nat.le_trans h.1 h2.1, fun a ha => (h2.2 a (Nat.lt_of_lt_of_le ha h.1)).trans (h.2 a ha)⟩
theorem sK.A {a : Nat} {sp : Nat × Nat} (hs : sK s s') (h : zA s a sp) : zA s' a sp := zA.k hs.1 hs.2 h
theorem zB0.k (hs : sK s s') (h : zB0 s) : zB0 s' := ⟨Nat.le_trans h.1 hs.1, fun a h1 h2 => (hs.2 a (Nat.lt_of_lt_of_le h2 h.1)).trans (h.2 a h1 h2)⟩
/-- one, where the address stays and its cell -/
theorem xPer_k {i : Int} {a : Nat} (hs : sK s s') (ha : N' a = N a) (h5 : N' 5 i = N 5 i) (hc : sC N N' [41, 42, 43, 44, 45, 46, 47, 73]) (h49 : N' 39 49 = N 39 49) (hlF : orZ fa (lastF N' i) = orZ fa (lastF N i)) (hlS : orZ sa (lastS N' i) = orZ sa (lastS N i)) (h : xPer s N fa sa i a) : xPer s' N' fa sa i a := by
  obtain ⟨p88, pA, p5, p0, p1, p2, p3, p4, p5f, p6, p7, p8, p9⟩ := h
  unfold xPer
  rw [ha, h5, hc 41 (by decide), hc 42 (by decide), hc 43 (by decide), hc 44 (by decide), hc 45 (by decide), hc 46 (by decide), hc 47 (by decide), hc 73 (by decide), h49, hlF, hlS]
  exact ⟨p88, hs.A pA, p5, p0, p1, p2, p3, p4, p5f, p6, p7, p8, p9⟩
theorem xPs_k (hs : sK s s') (h8 : s8 s N N' 4) (h5 : N' 5 = N 5) (hc : sC N N' [41, 42, 43, 44, 45, 46, 47, 48, 59, 73]) (h9 : s9 N N' [2, 10, 31, 49]) (h : xPs s N fa sa) : xPs s' N' fa sa := by
  have f2 := h9 2 (by decide)
  refine ⟨fun i h0 h1 => ?_, ?_⟩
  · rw [f2] at h1
    obtain ⟨a, ha⟩ := h.1 i h0 h1
    exact ⟨a, xPer_k hs (h8.at ha.1 ha.2.1) (by rw [h5]) (fun b hb => hc b (by simp only [List.mem_cons, List.not_mem_nil, or_false] at hb ⊢; omega)) (h9 49 (by decide)) (by rw [lastF_k (hc 48 (by decide)) (h9 10 (by decide))]) (by rw [lastS_k (hc 59 (by decide)) (h9 31 (by decide))]) ha⟩
  · rw [h5, f2]
    exact h.2
theorem xFlt_k {k : Int} {a : Nat} (hs : sK s s') (ha : N' a = N a) (hc : sC N N' [48, 49, 50]) (h : xFlt s N fa k a) : xFlt s' N' fa k a := by
  obtain ⟨b88, bA, bf, b0, b1, b2⟩ := h
  have e : fpv N' k = fpv N k := by unfold fpv; rw [hc 48 (by decide)]
  unfold xFlt
  rw [ha, hc 49 (by decide), hc 50 (by decide), e]
  exact ⟨b88, hs.A bA, bf, b0, b1, b2⟩
theorem xFs_k (hs : sK s s') (h8 : s8 s N N' 2) (hc : sC N N' [48, 49, 50]) (h10 : N' 39 10 = N 39 10) (h : xFs s N fa) : xFs s' N' fa := by
  refine ⟨fun k h0 h1 => ?_, by rw [h10]; exact h.2⟩
  rw [h10] at h1
  obtain ⟨a, ha⟩ := h.1 k h0 h1
  exact ⟨a, xFlt_k hs (h8.at ha.1 ha.2.1) hc ha⟩
theorem xSpl_k {k : Int} {a : Nat} (hs : sK s s') (ha : N' a = N a) (hc : sC N N' [59, 60, 61, 62]) (h : xSpl s N sa k a) : xSpl s' N' sa k a := by
  obtain ⟨b88, bA, bf, b0, b1, b2, b3⟩ := h
  have e : spv N' k = spv N k := by unfold spv; rw [hc 59 (by decide)]
  unfold xSpl
  rw [ha, hc 60 (by decide), hc 61 (by decide), hc 62 (by decide), e]
  exact ⟨b88, hs.A bA, bf, b0, b1, b2, b3⟩
theorem xSs_k (hs : sK s s') (h8 : s8 s N N' 8) (hc : sC N N' [59, 60, 61, 62]) (h31 : N' 39 31 = N 39 31) (h : xSs s N sa) : xSs s' N' sa := by
  refine ⟨fun k h0 h1 => ?_, by rw [h31]; exact h.2⟩
  rw [h31] at h1
  obtain ⟨a, ha⟩ := h.1 k h0 h1
  exact ⟨a, xSpl_k hs (h8.at ha.1 ha.2.1) hc ha⟩
theorem xYs_k (hs : sK s s') (h8 : s8 s N N' 9) (hc : sC N N' [10, 63, 64, 65, 66]) (h36 : N' 39 36 = N 39 36) (h : xYs s N) : xYs s' N' := by
  intro k h0 h1
  rw [h36] at h1
  obtain ⟨a, y88, yA, y10, y0, y1, y2, y3⟩ := h k h0 h1
  refine ⟨a, y88, hs.A yA, ?_⟩
  rw [h8.at y88 yA, hc 10 (by decide), hc 63 (by decide), hc 64 (by decide), hc 65 (by decide), hc 66 (by decide)]
  exact ⟨y10, y0, y1, y2, y3⟩
theorem xPle_k {p : Int} {a b c : Nat} (hs : sK s s') (ha : N' a = N a) (hb : N' b = N b) (hcc : N' c = N c) (hc : sC N N' [11, 48, 74, 75, 76, 77, 78, 79, 80]) (h : xPle s N fa p a b c) : xPle s' N' fa p a b c := by
  obtain ⟨l88, lA, l11, l0, l1, l2, l3, l4, l5, l6, l7, l8, lb88, lbA, lc88, lcA, lrow⟩ := h
  unfold xPle
  rw [ha, hb, hcc, hc 11 (by decide), hc 48 (by decide), hc 74 (by decide), hc 75 (by decide), hc 76 (by decide), hc 77 (by decide), hc 78 (by decide), hc 79 (by decide), hc 80 (by decide)]
  exact ⟨l88, hs.A lA, l11, l0, l1, l2, l3, l4, l5, l6, l7, l8, lb88, hs.A lbA, lc88, hs.A lcA, lrow⟩
theorem xLs_k (hs : sK s s') (h8 : s8 s N N' 5) (h80 : s8 s N N' 20) (h81 : s8 s N N' 21) (hc : sC N N' [11, 48, 74, 75, 76, 77, 78, 79, 80]) (h50 : N' 39 50 = N 39 50) (h : xLs s N fa) : xLs s' N' fa := by
  have adr : ∀ i : Int, 0 ≤ i → i < N 39 50 → N' (N 11 i).toNat = N (N 11 i).toNat := by
    intro i h0 h1
    obtain ⟨a, b, c, hp⟩ := h.1 i h0 h1
    have e : (N 11 i).toNat = a := by rw [hp.2.2.1]; rfl
    rw [e]
    exact h8.at hp.1 hp.2.1
  refine ⟨fun p h0 h1 => ?_, fun i j hi0 hi1 hj0 hj1 => ?_⟩
  · rw [h50] at h1
    obtain ⟨a, b, c, hp⟩ := h.1 p h0 h1
    exact ⟨a, b, c, xPle_k hs (h8.at hp.1 hp.2.1) (h81.at hp.2.2.2.2.2.2.2.2.2.2.2.2.1 hp.2.2.2.2.2.2.2.2.2.2.2.2.2.1) (h80.at hp.2.2.2.2.2.2.2.2.2.2.2.2.2.2.1 hp.2.2.2.2.2.2.2.2.2.2.2.2.2.2.2.1) hc hp⟩
  · rw [h50] at hi1 hj1
    rw [hc 11 (by decide), adr i hi0 hi1, adr j hj0 hj1]
    exact h.2 i j hi0 hi1 hj0 hj1
theorem xLaw_k (hc : sC N N' [14, 15, 16, 17, 18, 19, 52, 53]) (h13 : N' 3 13 = N 3 13) (h14 : N' 3 14 = N 3 14) (h18 : N' 39 18 = N 39 18) (h : xLaw N) : xLaw N' := by
  obtain ⟨h1, h2, h3⟩ := h
  unfold xLaw
  rw [h13, h14, h18]
  rcases h1 with ⟨q1, q2⟩ | ⟨q1, q2⟩
  · rw [q1] at h2 h3 ⊢
    have h2 : ∀ k : Int, 0 ≤ k → k < 3 → (N 15 k = N 52 k ∧ N 16 k = N 53 k) ∨ (N 16 k = -1 ∧ N 53 k = -1) := h2
    have h3 : (N 14 2 = N 39 18 ∧ 1 ≤ N 39 18 ∧ N 39 18 ≤ 9) ∨ (N 14 2 = 0 ∧ N 39 18 = 100000) := h3
    refine ⟨Or.inl ⟨rfl, q2⟩, ?_, ?_⟩
    · show ∀ k : Int, 0 ≤ k → k < 3 → (N' 15 k = N' 52 k ∧ N' 16 k = N' 53 k) ∨ (N' 16 k = -1 ∧ N' 53 k = -1)
      rw [hc 15 (by decide), hc 16 (by decide), hc 52 (by decide), hc 53 (by decide)]
      exact h2
    · show (N' 14 2 = N 39 18 ∧ 1 ≤ N 39 18 ∧ N 39 18 ≤ 9) ∨ (N' 14 2 = 0 ∧ N 39 18 = 100000)
      rw [hc 14 (by decide)]
      exact h3
  · rw [q1] at h2 h3 ⊢
    have h2 : ∀ k : Int, 0 ≤ k → k < 3 → (N 18 k = N 52 k ∧ N 19 k = N 53 k) ∨ (N 19 k = -1 ∧ N 53 k = -1) := h2
    have h3 : (N 17 2 = N 39 18 ∧ 1 ≤ N 39 18 ∧ N 39 18 ≤ 9) ∨ (N 17 2 = 0 ∧ N 39 18 = 100000) := h3
    refine ⟨Or.inr ⟨rfl, q2⟩, ?_, ?_⟩
    · show ∀ k : Int, 0 ≤ k → k < 3 → (N' 18 k = N' 52 k ∧ N' 19 k = N' 53 k) ∨ (N' 19 k = -1 ∧ N' 53 k = -1)
      rw [hc 18 (by decide), hc 19 (by decide), hc 52 (by decide), hc 53 (by decide)]
      exact h2
    · show (N' 17 2 = N 39 18 ∧ 1 ≤ N 39 18 ∧ N 39 18 ≤ 9) ∨ (N' 17 2 = 0 ∧ N 39 18 = 100000)
      rw [hc 17 (by decide)]
      exact h3
theorem xSh_k (hc : sC N N' [20, 31, 32, 33, 34, 35, 36, 37, 38, 82, 83, 84]) (h : xSh N) : xSh N' := by
  intro j h0 h1
  have := h j h0 h1
  have e1 : N' (31 + 2 * j).toNat = N (31 + 2 * j).toNat := by
    have hj : j = 0 ∨ j = 1 ∨ j = 2 ∨ j = 3 := by omega
    rcases hj with rfl | rfl | rfl | rfl <;> exact hc _ (by decide)
  have e2 : N' (32 + 2 * j).toNat = N (32 + 2 * j).toNat := by
    have hj : j = 0 ∨ j = 1 ∨ j = 2 ∨ j = 3 := by omega
    rcases hj with rfl | rfl | rfl | rfl <;> exact hc _ (by decide)
  rw [e1, e2, hc 20 (by decide), hc 82 (by decide), hc 83 (by decide), hc 84 (by decide)]
  exact this
theorem xRo_k (hc : sC N N' [21, 22, 23, 24, 85, 86, 87]) (h63 : N' 39 63 = N 39 63) (h : xRo N) : xRo N' := by
  unfold xRo
  rw [hc 21 (by decide), hc 22 (by decide), hc 23 (by decide), hc 24 (by decide), hc 85 (by decide), hc 86 (by decide), hc 87 (by decide), h63]
  exact h
theorem zG_mup {a : Nat} {i x : Int} (h : zG s N) (ha : a < s.1.1) (hx : zr x) : zG s (mup N a i x) := by
  refine ⟨fun b j => ?_, fun b hb j => ?_⟩
  · by_cases q : b = a ∧ j = i
    · rw [q.1, q.2, mup_self]; exact hx
    · rw [mup_ne q]; exact h.1 b j
  · rw [mup_cell (by omega)]; exact h.2 b hb j
theorem zG_ns {sp : Nat × Nat} {sl : Nat} (h : zG s N) : zG (z_ns s sp sl) N := ⟨h.1, fun a ha j => h.2 a (Nat.le_of_succ_le ha) j⟩
end KP
