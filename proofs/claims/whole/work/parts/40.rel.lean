def zG (s : zK) (N : zN) : Prop := (∀ a j, zr (N a j)) ∧ ∀ a, s.1.1 ≤ a → ∀ j, N a j = 0
/-! HOW THE SYSTEM'S CELLS STAND TO THE REFERENCE'S NUMBERS. fa k, sa k: where flight k, spell k of the reference's rows lie among the system's objects -/
noncomputable def fpv (N : zN) (k : Int) : Int := lastK (fun j => N 48 j = N 48 k) k.toNat
noncomputable def spv (N : zN) (k : Int) : Int := lastK (fun j => N 59 j = N 59 k) k.toNat
noncomputable def lastS (N : zN) (w : Int) : Int := lastK (fun k => N 59 k = w) (N 39 31).toNat
def orZ (f : Int → Int) (k : Int) : Int := if k < 0 then 0 else f k
/-- one, at the address a -/
def xPer (s : zK) (N : zN) (fa sa : Int → Int) (i : Int) (a : Nat) : Prop :=
  88 ≤ a ∧ zA s a (4, 0) ∧ N 5 i = a ∧ N a 0 = N 41 i ∧ N a 1 = N 42 i ∧ N a 2 = N 43 i ∧ N a 3 = N 44 i ∧ N a 4 = N 45 i ∧ N a 5 = N 46 i ∧
  ((N 47 i = 100000 ∧ N a 6 = -1) ∨ (N 47 i ≠ 100000 ∧ N a 6 = N 47 i)) ∧ ((N 39 49 = 0 ∧ N a 7 = -4) ∨ (N 39 49 ≠ 0 ∧ N a 7 = N 73 i)) ∧ N a 8 = orZ fa (lastF N i) ∧ N a 9 = orZ sa (lastS N i)
def xFlt (s : zK) (N : zN) (fa : Int → Int) (k : Int) (a : Nat) : Prop :=
  88 ≤ a ∧ zA s a (2, 0) ∧ fa k = a ∧ N a 0 = N 49 k ∧ N a 1 = orZ fa (fpv N k) ∧ ((N 50 k = 100000 ∧ N a 2 = -1) ∨ (N 50 k ≠ 100000 ∧ N a 2 = N 50 k))
def xSpl (s : zK) (N : zN) (sa : Int → Int) (k : Int) (a : Nat) : Prop :=
  88 ≤ a ∧ zA s a (8, 0) ∧ sa k = a ∧ N a 0 = N 60 k ∧ N a 1 = N 61 k ∧ N a 2 = orZ sa (spv N k) ∧ ((N 62 k = 100000 ∧ N a 3 = -1) ∨ (N 62 k ≠ 100000 ∧ N a 3 = N 62 k))
def xSty (s : zK) (N : zN) (k : Int) (a : Nat) : Prop := 88 ≤ a ∧ zA s a (9, 0) ∧ N 10 k = a ∧ N a 0 = N 63 k ∧ N a 1 = N 64 k ∧ N a 2 = N 65 k ∧ N a 3 = N 66 k
def xPle (s : zK) (N : zN) (fa : Int → Int) (p : Int) (a b c : Nat) : Prop :=
  88 ≤ a ∧ zA s a (5, 0) ∧ N 11 p = a ∧ N a 0 = N 48 (N 74 p) ∧ N a 1 = fa (N 74 p) ∧ N a 2 = N 75 p ∧ N a 3 = N 76 p ∧ N a 4 = b ∧ N a 5 = c ∧ N a 6 = cnt (fun w => N 79 (48 * p + w) ≠ 0) 48 ∧ N a 7 = N 77 p ∧ N a 8 = N 78 p ∧
  88 ≤ b ∧ zA s b (21, 48) ∧ 88 ≤ c ∧ zA s c (20, 48) ∧ ∀ w : Int, 0 ≤ w → w < 48 → N b w = N 79 (48 * p + w) ∧ N c w = N 80 (48 * p + w)
def xHs (N : zN) : Prop := N 3 1 = N 39 0 ∧ N 3 5 = N 39 29 ∧ N 7 2 = N 39 26 ∧ N 3 8 = N 39 36 ∧ N 3 10 = N 39 50 ∧ N 3 11 = N 39 58 ∧ N 3 3 = N 39 2 ∧ N 12 1 = N 39 15 ∧
  (∀ i : Int, 0 ≤ i → i < 20 → N 4 i = N 40 i) ∧ (∀ i : Int, 0 ≤ i → i < 8 → N 6 i = N 58 i) ∧ (∀ i : Int, 0 ≤ i → i < 9 → N 8 i = N 56 i ∧ N 9 i = N 57 i ∧ (i < N 39 26 → 0 ≤ N 56 i ∧ N 56 i ≤ N 57 i ∧ N 57 i ≤ 9999)) ∧ (∀ i : Int, 0 ≤ i → i < N 39 15 → N 13 i = N 51 i)
def xPs (s : zK) (N : zN) (fa sa : Int → Int) : Prop := (∀ i : Int, 0 ≤ i → i < N 39 2 → ∃ a, xPer s N fa sa i a) ∧ ∀ i j : Int, 0 ≤ i → i < N 39 2 → 0 ≤ j → j < N 39 2 → N 5 i = N 5 j → i = j
def xFs (s : zK) (N : zN) (fa : Int → Int) : Prop := (∀ k : Int, 0 ≤ k → k < N 39 10 → ∃ a, xFlt s N fa k a) ∧ ∀ i j : Int, 0 ≤ i → i < N 39 10 → 0 ≤ j → j < N 39 10 → fa i = fa j → i = j
def xSs (s : zK) (N : zN) (sa : Int → Int) : Prop := (∀ k : Int, 0 ≤ k → k < N 39 31 → ∃ a, xSpl s N sa k a) ∧ ∀ i j : Int, 0 ≤ i → i < N 39 31 → 0 ≤ j → j < N 39 31 → sa i = sa j → i = j
def xYs (s : zK) (N : zN) : Prop := ∀ k : Int, 0 ≤ k → k < N 39 36 → ∃ a, xSty s N k a
def xLs (s : zK) (N : zN) (fa : Int → Int) : Prop := (∀ p : Int, 0 ≤ p → p < N 39 50 → ∃ a b c, xPle s N fa p a b c) ∧ ∀ i j : Int, 0 ≤ i → i < N 39 50 → 0 ≤ j → j < N 39 50 → (N 11 i = N 11 j ∨ N (N 11 i).toNat 4 = N (N 11 j).toNat 4 ∨ N (N 11 i).toNat 5 = N (N 11 j).toNat 5) → i = j
/-- the laws that hold, at the address l (14 or 17) -/
def xLaw (N : zN) : Prop := ((N 3 13 = 14 ∧ N 3 14 = 17) ∨ (N 3 13 = 17 ∧ N 3 14 = 14)) ∧ (∀ k : Int, 0 ≤ k → k < 3 → (N ((N 3 13).toNat + 1) k = N 52 k ∧ N ((N 3 13).toNat + 2) k = N 53 k) ∨ (N ((N 3 13).toNat + 2) k = -1 ∧ N 53 k = -1)) ∧ ((N (N 3 13).toNat 2 = N 39 18 ∧ 1 ≤ N 39 18 ∧ N 39 18 ≤ 9) ∨ (N (N 3 13).toNat 2 = 0 ∧ N 39 18 = 100000))
def xSh (N : zN) : Prop := ∀ j : Int, 0 ≤ j → j < 4 → N 20 j = 31 + 2 * j ∧ N (31 + 2 * j).toNat 1 = N 82 j ∧ N (31 + 2 * j).toNat 2 = N 83 j ∧ (0 ≤ N 83 j ∧ N 83 j ≤ 20) ∧ ∀ i : Int, 0 ≤ i → i < N 83 j → N (32 + 2 * j).toNat i = N 84 (20 * j + i)
def xRo (N : zN) : Prop := N 21 3 = N 39 63 ∧ (∀ n : Int, 0 ≤ n → n < 40 → N 22 n = N 86 n ∧ N 23 n = N 85 n) ∧ ∀ w : Int, 0 ≤ w → w < 48 → N 24 w = N 87 w
/-- in the order of their days -/
def mOrd (N : zN) : Prop := (∀ j k : Int, 0 ≤ j → j < k → k < N 39 10 → N 48 j = N 48 k → N 50 j < N 49 k) ∧ (∀ j k : Int, 0 ≤ j → j < k → k < N 39 31 → N 59 j = N 59 k → N 62 j ≤ N 61 k)
def xI (s : zK) (N : zN) (fa sa : Int → Int) : Prop := zB0 s ∧ zG s N ∧ mI N ∧ mOrd N ∧ xHs N ∧ xPs s N fa sa ∧ xFs s N fa ∧ xSs s N sa ∧ xYs s N ∧ xLs s N fa ∧ xLaw N ∧ xSh N ∧ xRo N
section XI
variable {s : zK} {N : zN} {fa sa : Int → Int}
theorem xI.B (h : xI s N fa sa) : zB0 s := h.1
theorem xI.R (h : xI s N fa sa) : ∀ a j, zr (N a j) := h.2.1.1
theorem xI.m (h : xI s N fa sa) : mI N := h.2.2.1
theorem xI.C (h : xI s N fa sa) : mCnt N := h.2.2.1.2.1
theorem xI.ord (h : xI s N fa sa) : mOrd N := h.2.2.2.1
theorem xI.hs (h : xI s N fa sa) : xHs N := h.2.2.2.2.1
theorem xI.ps (h : xI s N fa sa) : xPs s N fa sa := h.2.2.2.2.2.1
theorem xI.fs (h : xI s N fa sa) : xFs s N fa := h.2.2.2.2.2.2.1
theorem xI.ss (h : xI s N fa sa) : xSs s N sa := h.2.2.2.2.2.2.2.1
theorem xI.ys (h : xI s N fa sa) : xYs s N := h.2.2.2.2.2.2.2.2.1
theorem xI.ls (h : xI s N fa sa) : xLs s N fa := h.2.2.2.2.2.2.2.2.2.1
theorem xI.law (h : xI s N fa sa) : xLaw N := h.2.2.2.2.2.2.2.2.2.2.1
theorem xI.sh (h : xI s N fa sa) : xSh N := h.2.2.2.2.2.2.2.2.2.2.2.1
theorem xI.ro (h : xI s N fa sa) : xRo N := h.2.2.2.2.2.2.2.2.2.2.2.2
theorem orZ_n {f : Int → Int} {k : Int} (h : k < 0) : orZ f k = 0 := if_pos h
theorem orZ_p {f : Int → Int} {k : Int} (h : 0 ≤ k) : orZ f k = f k := if_neg (by omega)
theorem lastS_b (N : zN) (w : Int) : -1 ≤ lastS N w ∧ lastS N w < max 0 (N 39 31) := by
  have := lastK_b (fun k => N 59 k = w) (N 39 31).toNat
  unfold lastS
  omega
/-- a place that lastK names, as an Int -/
theorem lastK_i {p : Nat → Prop} {n : Nat} (h : 0 ≤ lastK p n) : p (lastK p n).toNat ∧ ∀ j : Nat, lastK p n < j → j < n → ¬ p j := by
  obtain ⟨h1, h2⟩ := lastK_p (p := p) (n := n) (k := (lastK p n).toNat) (by omega)
  exact ⟨h1, fun j h3 h4 => h2 j (by omega) h4⟩
theorem lastF_p {i : Int} (h : 0 ≤ lastF N i) : N 48 (lastF N i) = i ∧ ∀ j : Int, lastF N i < j → j < N 39 10 → N 48 j ≠ i := by
  obtain ⟨h1, h2⟩ := lastK_i h
  refine ⟨?_, fun j h3 h4 => ?_⟩
  · have h1 : N 48 ((lastF N i).toNat : Int) = i := h1
    rwa [Int.toNat_of_nonneg h] at h1
  · have hj : 0 ≤ j := by omega
    have := h2 j.toNat (by show lastF N i < _; omega) (by omega)
    have this : ¬ N 48 (j.toNat : Int) = i := this
    rwa [Int.toNat_of_nonneg hj] at this
theorem lastF_none {i : Int} (h : lastF N i < 0) (j : Int) (h0 : 0 ≤ j) (h1 : j < N 39 10) : N 48 j ≠ i := by
  have hb := lastF_b N i
  have := lastK_n (p := fun k => N 48 k = i) (n := (N 39 10).toNat) (show lastF N i = -1 by omega) j.toNat (by omega)
  have this : ¬ N 48 (j.toNat : Int) = i := this
  rwa [Int.toNat_of_nonneg h0] at this
theorem lastS_p {i : Int} (h : 0 ≤ lastS N i) : N 59 (lastS N i) = i ∧ ∀ j : Int, lastS N i < j → j < N 39 31 → N 59 j ≠ i := by
  obtain ⟨h1, h2⟩ := lastK_i h
  refine ⟨?_, fun j h3 h4 => ?_⟩
  · have h1 : N 59 ((lastS N i).toNat : Int) = i := h1
    rwa [Int.toNat_of_nonneg h] at h1
  · have hj : 0 ≤ j := by omega
    have := h2 j.toNat (by show lastS N i < _; omega) (by omega)
    have this : ¬ N 59 (j.toNat : Int) = i := this
    rwa [Int.toNat_of_nonneg hj] at this
theorem lastS_none {i : Int} (h : lastS N i < 0) (j : Int) (h0 : 0 ≤ j) (h1 : j < N 39 31) : N 59 j ≠ i := by
  have hb := lastS_b N i
  have := lastK_n (p := fun k => N 59 k = i) (n := (N 39 31).toNat) (show lastS N i = -1 by omega) j.toNat (by omega)
  have this : ¬ N 59 (j.toNat : Int) = i := this
  rwa [Int.toNat_of_nonneg h0] at this
theorem fpv_p {k : Int} (h0 : 0 ≤ k) : fpv N k < k ∧ -1 ≤ fpv N k ∧ (0 ≤ fpv N k → N 48 (fpv N k) = N 48 k) ∧ ∀ j : Int, 0 ≤ j → fpv N k < j → j < k → N 48 j ≠ N 48 k := by
  have hb := lastK_b (fun j => N 48 j = N 48 k) k.toNat
  refine ⟨by unfold fpv; omega, by unfold fpv; omega, fun h => ?_, fun j h1 h2 h3 => ?_⟩
  · have := (lastK_i h).1
    have this : N 48 ((fpv N k).toNat : Int) = N 48 k := this
    rwa [Int.toNat_of_nonneg h] at this
  · by_cases h : 0 ≤ fpv N k
    · have := (lastK_i h).2 j.toNat (by show fpv N k < _; omega) (by omega)
      have this : ¬ N 48 (j.toNat : Int) = N 48 k := this
      rwa [Int.toNat_of_nonneg h1] at this
    · have := lastK_n (p := fun j => N 48 j = N 48 k) (n := k.toNat) (show fpv N k = -1 by unfold fpv; unfold fpv at h; omega) j.toNat (by omega)
      have this : ¬ N 48 (j.toNat : Int) = N 48 k := this
      rwa [Int.toNat_of_nonneg h1] at this
theorem spv_p {k : Int} (h0 : 0 ≤ k) : spv N k < k ∧ -1 ≤ spv N k ∧ (0 ≤ spv N k → N 59 (spv N k) = N 59 k) ∧ ∀ j : Int, 0 ≤ j → spv N k < j → j < k → N 59 j ≠ N 59 k := by
  have hb := lastK_b (fun j => N 59 j = N 59 k) k.toNat
  refine ⟨by unfold spv; omega, by unfold spv; omega, fun h => ?_, fun j h1 h2 h3 => ?_⟩
  · have := (lastK_i h).1
    have this : N 59 ((spv N k).toNat : Int) = N 59 k := this
    rwa [Int.toNat_of_nonneg h] at this
  · by_cases h : 0 ≤ spv N k
    · have := (lastK_i h).2 j.toNat (by show spv N k < _; omega) (by omega)
      have this : ¬ N 59 (j.toNat : Int) = N 59 k := this
      rwa [Int.toNat_of_nonneg h1] at this
    · have := lastK_n (p := fun j => N 59 j = N 59 k) (n := k.toNat) (show spv N k = -1 by unfold spv; unfold spv at h; omega) j.toNat (by omega)
      have this : ¬ N 59 (j.toNat : Int) = N 59 k := this
      rwa [Int.toNat_of_nonneg h1] at this
end XI
