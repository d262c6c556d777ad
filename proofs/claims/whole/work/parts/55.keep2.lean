/-! more of what stays -/
section JT2
variable {s s' : zK} {N N' : zN} {fa sa : Int → Int}
theorem sC.mg {L : List Nat} {a : Nat} {i x : Int} (ha : ∀ b ∈ L, b ≠ a) (h : sC N N' L) : sC N (mup N' a i x) L := fun b hb => by
  rw [show mup N' a i x b = N' b from funext fun j => mup_cell (ha b hb)]
  exact h b hb
theorem sC.fg {L : List Nat} {a : Nat} {i : Int} {n : Nat} (ha : ∀ b ∈ L, b ≠ a) (h : sC N N' L) : sC N (mfil N' a i n) L := fun b hb => by
  rw [mfil_fn (ha b hb)]
  exact h b hb
theorem sC.f {L : List Nat} {a : Nat} {i : Int} {n : Nat} (ha : a ∉ L) (h : sC N N' L) : sC N (mfil N' a i n) L := sC.fg (fun b hb q => ha (q ▸ hb)) h
theorem s9.f {L : List Int} {a : Nat} {i : Int} {n : Nat} (ha : a ≠ 39) (h : s9 N N' L) : s9 N (mfil N' a i n) L := fun b hb => by
  rw [mfil_ne (fun q => ha q.symm)]
  exact h b hb
theorem s3.f {L : List Int} {a : Nat} {i : Int} {n : Nat} (ha : a ≠ 3) (h : s3 N N' L) : s3 N (mfil N' a i n) L := fun b hb => by
  rw [mfil_ne (fun q => ha q.symm)]
  exact h b hb
theorem s8.lof {k a : Nat} {i : Int} {n : Nat} (ha : a < 88) (h : s8 s N N' k) : s8 s N (mfil N' a i n) k := fun b h1 h2 h3 => by
  rw [mfil_fn (by omega)]
  exact h b h1 h2 h3
theorem zG_mfil {a : Nat} {i : Int} {n : Nat} (h : zG s N) (ha : a < s.1.1) : zG s (mfil N a i n) := by
  refine ⟨fun b j => ?_, fun b hb j => ?_⟩
  · unfold mfil
    split
    · constructor <;> omega
    · exact h.1 b j
  · rw [mfil_ne (by omega)]; exact h.2 b hb j
/-- the reference's rows are the same -/
def eM (N N' : zN) : Prop := ∀ a, 39 ≤ a → a < 88 → N' a = N a
theorem eM.rf : eM N N := fun _ _ _ => rfl
theorem eM.m {a : Nat} {i x : Int} (ha : a < 39 ∨ 88 ≤ a) (h : eM N N') : eM N (mup N' a i x) := fun b h1 h2 => by
  rw [show mup N' a i x b = N' b from funext fun j => mup_cell (by omega)]
  exact h b h1 h2
theorem eM.f {a : Nat} {i : Int} {n : Nat} (ha : a < 39 ∨ 88 ≤ a) (h : eM N N') : eM N (mfil N' a i n) := fun b h1 h2 => by
  rw [mfil_fn (by omega)]
  exact h b h1 h2
theorem eM.at (h : eM N N') (a : Nat) (h1 : 39 ≤ a) (h2 : a < 88) (j : Int) : N' a j = N a j := by rw [h a h1 h2]
theorem eM.s9 (h : eM N N') {L : List Int} : s9 N N' L := fun j _ => h.at 39 (by decide) (by decide) j
theorem eM.sC (h : eM N N') {L : List Nat} (hL : ∀ b ∈ L, 39 ≤ b ∧ b < 88) : sC N N' L := fun b hb => h b (hL b hb).1 (hL b hb).2
theorem eM.mI_ (h : eM N N') (hR : ∀ a j, zr (N' a j)) (hm : mI N) : mI N' := by
  have c := fun j => h.at 39 (by decide) (by decide) j
  refine ⟨hR, ?_, mPpl_k (h.sC (by decide)) (c 2) (by rw [c 0]; omega) hm.2.2.1, mFlt_k (h.sC (by decide)) (c 10) (by rw [c 2]; omega) hm.2.2.2.1, mSpl_k (h.sC (by decide)) (c 31) (by rw [c 2]; omega) (by rw [c 29]; omega) hm.2.2.2.2.1, mSty_k (h.sC (by decide)) (c 36) (by rw [c 2]; omega) (by rw [c 0]; omega) hm.2.2.2.2.2.1, mPle_k (h.sC (by decide)) (c 50) (by rw [c 10]; omega) (by rw [c 29]; omega) hm.2.2.2.2.2.2⟩
  have hC := hm.2.1
  unfold mCnt at hC ⊢
  rw [c 0, c 2, c 10, c 15, c 26, c 29, c 31, c 36, c 50]
  exact hC
theorem eM.lastF_ (h : eM N N') (w : Int) : lastF N' w = lastF N w := lastF_k (h 48 (by decide) (by decide)) (h.at 39 (by decide) (by decide) 10) w
theorem eM.tHere_ (h : eM N N') (w d : Int) : tHere N' w d = tHere N w d := by
  unfold tHere
  rw [h 42 (by decide) (by decide), h 47 (by decide) (by decide), h 48 (by decide) (by decide), h 49 (by decide) (by decide), h 50 (by decide) (by decide), h 39 (by decide) (by decide)]
theorem eM.boundS_ (h : eM N N') (w d : Int) : boundS N' w d = boundS N w d := boundS_k (h.sC (by decide)) h.s9 w d
theorem eM.away_ (h : eM N N') (w : Int) : away N' w = away N w := by
  unfold away
  rw [h.lastF_, h 50 (by decide) (by decide)]
theorem eM.behind_ (h : eM N N') (w d : Int) : behind N' w d = behind N w d := by
  unfold behind
  rw [h.lastF_, h 50 (by decide) (by decide), h 49 (by decide) (by decide), h 42 (by decide) (by decide)]
theorem eM.spA_ (h : eM N N') (w d : Int) : spA N' w d = spA N w d := by
  unfold spA
  rw [h.tHere_, h 59 (by decide) (by decide), h 61 (by decide) (by decide), h 62 (by decide) (by decide), h 39 (by decide) (by decide)]
theorem eM.memb_ (h : eM N N') (w g d : Int) : memb N' w g d = memb N w g d := by
  unfold memb
  rw [h.spA_, h 60 (by decide) (by decide)]
theorem eM.mems_ (h : eM N N') (g d : Int) : mems N' g d = mems N g d := by
  unfold mems
  rw [h 39 (by decide) (by decide), show (fun i : Nat => memb N' i g d) = (fun i : Nat => memb N i g d) from funext fun i => h.memb_ i g d]
end JT2
