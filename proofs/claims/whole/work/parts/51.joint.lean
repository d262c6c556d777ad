/-! BOTH TOGETHER: what holds between two calls, and what a pair of calls is -/
section JT
variable {s s' : zK} {N N' : zN} {fa sa : Int → Int}
theorem mup_2 {M : zN} {a b : Nat} {i k x : Int} (h : N a i = M b i) : mup N a k x a i = mup M b k x b i := by
  by_cases hi : i = k
  · rw [hi, mup_self, mup_self]
  · rw [mup_slot hi, mup_slot hi, h]
def s3 (N N' : zN) (L : List Int) : Prop := ∀ j ∈ L, N' 3 j = N 3 j
theorem s3.rf {L : List Int} : s3 N N L := fun _ _ => rfl
theorem s3.m {L : List Int} {a : Nat} {i x : Int} (ha : a ≠ 3) (h : s3 N N' L) : s3 N (mup N' a i x) L := fun b hb => by
  rw [mup_cell (fun q => ha q.symm)]
  exact h b hb
theorem s3.o {L : List Int} {i x : Int} (hi : i ∉ L) (h : s3 N N' L) : s3 N (mup N' 3 i x) L := fun b hb => by
  rw [mup_slot (show b ≠ i from fun q => hi (q ▸ hb))]
  exact h b hb
theorem xHs_k (h3 : s3 N N' [1, 3, 5, 8, 10, 11]) (h9 : s9 N N' [0, 2, 15, 26, 29, 36, 50, 58]) (hc : sC N N' [4, 6, 7, 8, 9, 12, 13, 40, 51, 56, 57, 58]) (h : xHs N) : xHs N' := by
  unfold xHs
  rw [h3 1 (by decide), h3 3 (by decide), h3 5 (by decide), h3 8 (by decide), h3 10 (by decide), h3 11 (by decide), h9 0 (by decide), h9 2 (by decide), h9 15 (by decide), h9 26 (by decide), h9 29 (by decide), h9 36 (by decide), h9 50 (by decide), h9 58 (by decide), hc 4 (by decide), hc 6 (by decide), hc 7 (by decide), hc 8 (by decide), hc 9 (by decide), hc 12 (by decide), hc 13 (by decide), hc 40 (by decide), hc 51 (by decide), hc 56 (by decide), hc 57 (by decide), hc 58 (by decide)]
  exact h
/-- flights and spells kept -/
def yKp (N : zN) : Prop := N 3 19 = N 39 10 + N 39 31
/-- what is owed -/
def yOw (N : zN) : Prop := ∀ p : Int, 0 ≤ p → p < N 39 50 → (∀ w : Int, 0 ≤ w → w < 48 → 0 ≤ N 80 (48 * p + w)) ∧ sumK (fun w => N 80 (48 * p + w)) 48 ≤ (if N 77 p = 0 then 0 else N 76 p)
def yTp (N : zN) : Prop := ∀ i : Int, 0 ≤ i → i < N 39 15 → 32 ≤ N 51 i ∧ N 51 i ≤ 126
def yRo (N : zN) : Prop := ∀ n : Int, 0 ≤ n → n < 40 → (0 ≤ N 85 n ∧ N 85 n ≤ 48) ∧ (0 ≤ N 86 n ∧ N 86 n ≤ 20)
def yLn (N : zN) : Prop := (∀ i : Int, 0 ≤ i → i < N 39 0 → 0 ≤ N 40 i ∧ N 40 i ≤ 99) ∧ (∀ i : Int, 0 ≤ i → i < N 39 29 → 0 ≤ N 58 i ∧ N 58 i ≤ 99)
def yCm (N : zN) : Prop := N 39 49 ≠ 0 → ∀ i : Int, N 39 2 ≤ i → i < 48 → N 73 i = -4
/-- none flees ahead of being born -/
def yBf (N : zN) : Prop := ∀ k : Int, 0 ≤ k → k < N 39 10 → N 42 (N 48 k) ≤ N 49 k
def yI (N : zN) : Prop := yKp N ∧ yOw N ∧ yTp N ∧ yRo N ∧ yLn N ∧ yCm N ∧ yBf N
theorem yBf_k (hc : sC N N' [42, 48, 49]) (h9 : s9 N N' [10]) (h : yBf N) : yBf N' := by
  unfold yBf
  rw [hc 42 (by decide), hc 48 (by decide), hc 49 (by decide), h9 10 (by decide)]
  exact h
/-- calls that must have been made -/
noncomputable def bud (N : zN) : Int := N 39 10 + N 39 31 + cnt (fun i => ¬ boundS N i 9999) (N 39 2).toNat
theorem yKp_k (h3 : s3 N N' [19]) (h9 : s9 N N' [10, 31]) (h : yKp N) : yKp N' := by
  unfold yKp
  rw [h3 19 (by decide), h9 10 (by decide), h9 31 (by decide)]
  exact h
theorem yOw_k (hc : sC N N' [76, 77, 80]) (h9 : s9 N N' [50]) (h : yOw N) : yOw N' := by
  unfold yOw
  rw [hc 76 (by decide), hc 77 (by decide), hc 80 (by decide), h9 50 (by decide)]
  exact h
theorem yTp_k (hc : sC N N' [51]) (h9 : s9 N N' [15]) (h : yTp N) : yTp N' := by
  unfold yTp
  rw [hc 51 (by decide), h9 15 (by decide)]
  exact h
theorem yRo_k (hc : sC N N' [85, 86]) (h : yRo N) : yRo N' := by
  unfold yRo
  rw [hc 85 (by decide), hc 86 (by decide)]
  exact h
theorem yLn_k (hc : sC N N' [40, 58]) (h9 : s9 N N' [0, 29]) (h : yLn N) : yLn N' := by
  unfold yLn
  rw [hc 40 (by decide), hc 58 (by decide), h9 0 (by decide), h9 29 (by decide)]
  exact h
theorem yCm_k (hc : sC N N' [73]) (h9 : s9 N N' [2, 49]) (h : yCm N) : yCm N' := by
  unfold yCm
  rw [hc 73 (by decide), h9 2 (by decide), h9 49 (by decide)]
  exact h
theorem boundS_k (hc : sC N N' [59, 62]) (h9 : s9 N N' [31]) (w d : Int) : boundS N' w d = boundS N w d := by
  unfold boundS
  rw [hc 59 (by decide), hc 62 (by decide), h9 31 (by decide)]
theorem bud_k (hc : sC N N' [59, 62]) (h9 : s9 N N' [2, 10, 31]) : bud N' ≤ bud N := by
  have e : (fun i : Nat => ¬ boundS N' i 9999) = (fun i : Nat => ¬ boundS N i 9999) := by
    funext i
    rw [boundS_k hc (fun j hj => h9 j (by simp only [List.mem_cons, List.not_mem_nil, or_false] at hj ⊢; omega))]
  unfold bud
  rw [e, h9 2 (by decide), h9 10 (by decide), h9 31 (by decide)]
  omega
/-- how many cells and slots there are, after c calls -/
def sz (s : zK) (c : Int) : Prop := (s.1.1 : Int) ≤ 88 + 6 * c ∧ (s.1.2 : Int) ≤ 30000 + 200 * c
theorem sz.n0 {c : Int} (h : sz s c) : sz s (c + 1) := ⟨by have := h.1; omega, by have := h.2; omega⟩
theorem sz.n1 {c : Int} {sp : Nat × Nat} {sl : Nat} (hl : sl ≤ 60) (h : sz s c) : sz (z_ns s sp sl) (c + 1) := by
  obtain ⟨h1, h2⟩ := h
  refine ⟨?_, ?_⟩
  · show ((s.1.1 + 1 : Nat) : Int) ≤ _
    omega
  · show ((s.1.2 + sl : Nat) : Int) ≤ _
    omega
theorem sz.adr {c : Int} (h : sz s c) (hc : c < 512) : zr ((s.1.1 : Nat) : Int) := by
  have := h.1
  constructor <;> omega
/-- what holds after c calls -/
def xJ (s : zK) (N : zN) (c : Int) : Prop := ∃ fa sa, xI s N fa sa ∧ yI N ∧ bud N ≤ c ∧ sz s c
theorem xJ.up {c : Int} (h : xJ s N c) : xJ s N (c + 1) := by
  obtain ⟨fa, sa, h1, h2, h3, h4⟩ := h
  exact ⟨fa, sa, h1, h2, by omega, h4.n0⟩
/-- the system's call is done with the answer r; the reference's, from there, answers r too, and all holds again -/
def jK (X : zX) (c : Int) (mm : zM) (margs : List Value) (K : Option Value → zS → Prop) : Prop :=
  ∀ (r : Int) (s1 : zK) (N1 : zN), zB0 s1 → (∀ Q : Option Value → zS → Prop, (∀ s2 N2, xJ s2 N2 (c + 1) → Q (some (vi r)) (zI s2 N2)) → zC X mm margs (zI s1 N1) Q) → K (some (vi r)) (zI s1 N1)
theorem bud_r {c : Int} (h : xI s N fa sa) (hb : bud N ≤ c) (hc : c < 512) : N 39 10 + N 39 31 < 512 := by
  have := cnt_b (fun i => ¬ boundS N i 9999) (N 39 2).toNat
  unfold bud at hb
  omega
end JT
