/-! BOTH TOGETHER: stay, sheets (printed by wip/whole/gen/j3.py) -/
section JN3
variable {X : zX} {s : zK} {N : zN} {fa sa : Int → Int} {Q K : Option Value → zS → Prop} {c : Int}
set_option maxRecDepth 20000 in
set_option maxHeartbeats 2000000 in
theorem jx_stay (hI : xI s N fa sa) (hy : yI N) {w g x y : Int} (hg : ((0 ≤ w ∧ w < N 39 2) ∧ (0 ≤ g ∧ g < N 39 0) ∧ (0 ≤ x ∧ x ≤ 9999) ∧ (0 ≤ y ∧ y ≤ 9999) ∧ x ≤ y)) (hn : N 39 36 < 20) (ha0 : zr ((s.1.1 : Nat) : Int)) {N2 : zN} (e : N2 = (mup (mup (mup (mup (mup (mup (mup (mup (mup (mup (mup N s.1.1 0 w) s.1.1 1 g) s.1.1 2 x) s.1.1 3 y) 10 (N 39 36) (s.1.1 : Int)) 3 8 ((N 39 36) + 1)) 63 (N 39 36) w) 64 (N 39 36) g) 65 (N 39 36) x) 66 (N 39 36) y) 39 36 ((N 39 36) + 1))) : xI (z_ns s (9, 0) 4) N2 fa sa ∧ yI N2 ∧ bud N2 ≤ bud N + 1 := by
  have hB := hI.B
  have hR := hI.R
  have hC := hI.C
  unfold mCnt at hC
  have hm := hI.m
  have n88 := hB.1
  obtain ⟨e1, e5, e7, e8, e10, e11, e3, e12, eh, eg, ef, et⟩ := hI.hs
  have hs : sK s (z_ns s (9, 0) 4) := sK.ns
  have hG : zG (z_ns s (9, 0) 4) N2 := by rw [e]; exact (zG_mup (zG_mup (zG_mup (zG_mup (zG_mup (zG_mup (zG_mup (zG_mup (zG_mup (zG_mup (zG_mup (zG_ns hI.2.1) (by show _ < s.1.1 + 1; omega) (by constructor <;> omega)) (by show _ < s.1.1 + 1; omega) (by constructor <;> omega)) (by show _ < s.1.1 + 1; omega) (by constructor <;> omega)) (by show _ < s.1.1 + 1; omega) (by constructor <;> omega)) (by show _ < s.1.1 + 1; omega) ha0) (by show _ < s.1.1 + 1; omega) (by constructor <;> omega)) (by show _ < s.1.1 + 1; omega) (by constructor <;> omega)) (by show _ < s.1.1 + 1; omega) (by constructor <;> omega)) (by show _ < s.1.1 + 1; omega) (by constructor <;> omega)) (by show _ < s.1.1 + 1; omega) (by constructor <;> omega)) (by show _ < s.1.1 + 1; omega) (by constructor <;> omega))
  have g0 : N2 39 0 = N 39 0 := by rw [e]; exact ((mup_slot (by omega)).trans ((mup_cell (by omega)).trans ((mup_cell (by omega)).trans ((mup_cell (by omega)).trans ((mup_cell (by omega)).trans ((mup_cell (by omega)).trans ((mup_cell (by omega)).trans ((mup_cell (by omega)).trans ((mup_cell (by omega)).trans ((mup_cell (by omega)).trans (mup_cell (by omega))))))))))))
  have g2 : N2 39 2 = N 39 2 := by rw [e]; exact ((mup_slot (by omega)).trans ((mup_cell (by omega)).trans ((mup_cell (by omega)).trans ((mup_cell (by omega)).trans ((mup_cell (by omega)).trans ((mup_cell (by omega)).trans ((mup_cell (by omega)).trans ((mup_cell (by omega)).trans ((mup_cell (by omega)).trans ((mup_cell (by omega)).trans (mup_cell (by omega))))))))))))
  have g10 : N2 39 10 = N 39 10 := by rw [e]; exact ((mup_slot (by omega)).trans ((mup_cell (by omega)).trans ((mup_cell (by omega)).trans ((mup_cell (by omega)).trans ((mup_cell (by omega)).trans ((mup_cell (by omega)).trans ((mup_cell (by omega)).trans ((mup_cell (by omega)).trans ((mup_cell (by omega)).trans ((mup_cell (by omega)).trans (mup_cell (by omega))))))))))))
  have g15 : N2 39 15 = N 39 15 := by rw [e]; exact ((mup_slot (by omega)).trans ((mup_cell (by omega)).trans ((mup_cell (by omega)).trans ((mup_cell (by omega)).trans ((mup_cell (by omega)).trans ((mup_cell (by omega)).trans ((mup_cell (by omega)).trans ((mup_cell (by omega)).trans ((mup_cell (by omega)).trans ((mup_cell (by omega)).trans (mup_cell (by omega))))))))))))
  have g18 : N2 39 18 = N 39 18 := by rw [e]; exact ((mup_slot (by omega)).trans ((mup_cell (by omega)).trans ((mup_cell (by omega)).trans ((mup_cell (by omega)).trans ((mup_cell (by omega)).trans ((mup_cell (by omega)).trans ((mup_cell (by omega)).trans ((mup_cell (by omega)).trans ((mup_cell (by omega)).trans ((mup_cell (by omega)).trans (mup_cell (by omega))))))))))))
  have g26 : N2 39 26 = N 39 26 := by rw [e]; exact ((mup_slot (by omega)).trans ((mup_cell (by omega)).trans ((mup_cell (by omega)).trans ((mup_cell (by omega)).trans ((mup_cell (by omega)).trans ((mup_cell (by omega)).trans ((mup_cell (by omega)).trans ((mup_cell (by omega)).trans ((mup_cell (by omega)).trans ((mup_cell (by omega)).trans (mup_cell (by omega))))))))))))
  have g29 : N2 39 29 = N 39 29 := by rw [e]; exact ((mup_slot (by omega)).trans ((mup_cell (by omega)).trans ((mup_cell (by omega)).trans ((mup_cell (by omega)).trans ((mup_cell (by omega)).trans ((mup_cell (by omega)).trans ((mup_cell (by omega)).trans ((mup_cell (by omega)).trans ((mup_cell (by omega)).trans ((mup_cell (by omega)).trans (mup_cell (by omega))))))))))))
  have g31 : N2 39 31 = N 39 31 := by rw [e]; exact ((mup_slot (by omega)).trans ((mup_cell (by omega)).trans ((mup_cell (by omega)).trans ((mup_cell (by omega)).trans ((mup_cell (by omega)).trans ((mup_cell (by omega)).trans ((mup_cell (by omega)).trans ((mup_cell (by omega)).trans ((mup_cell (by omega)).trans ((mup_cell (by omega)).trans (mup_cell (by omega))))))))))))
  have g36 : N2 39 36 = ((N 39 36) + 1) := by rw [e]; exact (mup_self _ _ _ _)
  have g49 : N2 39 49 = N 39 49 := by rw [e]; exact ((mup_slot (by omega)).trans ((mup_cell (by omega)).trans ((mup_cell (by omega)).trans ((mup_cell (by omega)).trans ((mup_cell (by omega)).trans ((mup_cell (by omega)).trans ((mup_cell (by omega)).trans ((mup_cell (by omega)).trans ((mup_cell (by omega)).trans ((mup_cell (by omega)).trans (mup_cell (by omega))))))))))))
  have g50 : N2 39 50 = N 39 50 := by rw [e]; exact ((mup_slot (by omega)).trans ((mup_cell (by omega)).trans ((mup_cell (by omega)).trans ((mup_cell (by omega)).trans ((mup_cell (by omega)).trans ((mup_cell (by omega)).trans ((mup_cell (by omega)).trans ((mup_cell (by omega)).trans ((mup_cell (by omega)).trans ((mup_cell (by omega)).trans (mup_cell (by omega))))))))))))
  have g58 : N2 39 58 = N 39 58 := by rw [e]; exact ((mup_slot (by omega)).trans ((mup_cell (by omega)).trans ((mup_cell (by omega)).trans ((mup_cell (by omega)).trans ((mup_cell (by omega)).trans ((mup_cell (by omega)).trans ((mup_cell (by omega)).trans ((mup_cell (by omega)).trans ((mup_cell (by omega)).trans ((mup_cell (by omega)).trans (mup_cell (by omega))))))))))))
  have g63 : N2 39 63 = N 39 63 := by rw [e]; exact ((mup_slot (by omega)).trans ((mup_cell (by omega)).trans ((mup_cell (by omega)).trans ((mup_cell (by omega)).trans ((mup_cell (by omega)).trans ((mup_cell (by omega)).trans ((mup_cell (by omega)).trans ((mup_cell (by omega)).trans ((mup_cell (by omega)).trans ((mup_cell (by omega)).trans (mup_cell (by omega))))))))))))
  have u10 : ∀ i : Int, i ≠ (N 39 36) → N2 10 i = N 10 i := fun i hi => by rw [e]; exact ((mup_cell (by omega)).trans ((mup_cell (by omega)).trans ((mup_cell (by omega)).trans ((mup_cell (by omega)).trans ((mup_cell (by omega)).trans ((mup_cell (by omega)).trans ((mup_slot (by omega)).trans ((mup_cell (by omega)).trans ((mup_cell (by omega)).trans ((mup_cell (by omega)).trans (mup_cell (by omega))))))))))))
  have w10 : N2 10 (N 39 36) = (s.1.1 : Int) := by rw [e]; exact ((mup_cell (by omega)).trans ((mup_cell (by omega)).trans ((mup_cell (by omega)).trans ((mup_cell (by omega)).trans ((mup_cell (by omega)).trans ((mup_cell (by omega)).trans (mup_self _ _ _ _)))))))
  have u63 : ∀ i : Int, i ≠ (N 39 36) → N2 63 i = N 63 i := fun i hi => by rw [e]; exact ((mup_cell (by omega)).trans ((mup_cell (by omega)).trans ((mup_cell (by omega)).trans ((mup_cell (by omega)).trans ((mup_slot (by omega)).trans ((mup_cell (by omega)).trans ((mup_cell (by omega)).trans ((mup_cell (by omega)).trans ((mup_cell (by omega)).trans ((mup_cell (by omega)).trans (mup_cell (by omega))))))))))))
  have w63 : N2 63 (N 39 36) = w := by rw [e]; exact ((mup_cell (by omega)).trans ((mup_cell (by omega)).trans ((mup_cell (by omega)).trans ((mup_cell (by omega)).trans (mup_self _ _ _ _)))))
  have u64 : ∀ i : Int, i ≠ (N 39 36) → N2 64 i = N 64 i := fun i hi => by rw [e]; exact ((mup_cell (by omega)).trans ((mup_cell (by omega)).trans ((mup_cell (by omega)).trans ((mup_slot (by omega)).trans ((mup_cell (by omega)).trans ((mup_cell (by omega)).trans ((mup_cell (by omega)).trans ((mup_cell (by omega)).trans ((mup_cell (by omega)).trans ((mup_cell (by omega)).trans (mup_cell (by omega))))))))))))
  have w64 : N2 64 (N 39 36) = g := by rw [e]; exact ((mup_cell (by omega)).trans ((mup_cell (by omega)).trans ((mup_cell (by omega)).trans (mup_self _ _ _ _))))
  have u65 : ∀ i : Int, i ≠ (N 39 36) → N2 65 i = N 65 i := fun i hi => by rw [e]; exact ((mup_cell (by omega)).trans ((mup_cell (by omega)).trans ((mup_slot (by omega)).trans ((mup_cell (by omega)).trans ((mup_cell (by omega)).trans ((mup_cell (by omega)).trans ((mup_cell (by omega)).trans ((mup_cell (by omega)).trans ((mup_cell (by omega)).trans ((mup_cell (by omega)).trans (mup_cell (by omega))))))))))))
  have w65 : N2 65 (N 39 36) = x := by rw [e]; exact ((mup_cell (by omega)).trans ((mup_cell (by omega)).trans (mup_self _ _ _ _)))
  have u66 : ∀ i : Int, i ≠ (N 39 36) → N2 66 i = N 66 i := fun i hi => by rw [e]; exact ((mup_cell (by omega)).trans ((mup_slot (by omega)).trans ((mup_cell (by omega)).trans ((mup_cell (by omega)).trans ((mup_cell (by omega)).trans ((mup_cell (by omega)).trans ((mup_cell (by omega)).trans ((mup_cell (by omega)).trans ((mup_cell (by omega)).trans ((mup_cell (by omega)).trans (mup_cell (by omega))))))))))))
  have w66 : N2 66 (N 39 36) = y := by rw [e]; exact ((mup_cell (by omega)).trans (mup_self _ _ _ _))
  have q0 : N2 s.1.1 0 = w := by rw [e]; exact ((mup_cell (by omega)).trans ((mup_cell (by omega)).trans ((mup_cell (by omega)).trans ((mup_cell (by omega)).trans ((mup_cell (by omega)).trans ((mup_cell (by omega)).trans ((mup_cell (by omega)).trans ((mup_slot (by omega)).trans ((mup_slot (by omega)).trans ((mup_slot (by omega)).trans (mup_self _ _ _ _)))))))))))
  have q1 : N2 s.1.1 1 = g := by rw [e]; exact ((mup_cell (by omega)).trans ((mup_cell (by omega)).trans ((mup_cell (by omega)).trans ((mup_cell (by omega)).trans ((mup_cell (by omega)).trans ((mup_cell (by omega)).trans ((mup_cell (by omega)).trans ((mup_slot (by omega)).trans ((mup_slot (by omega)).trans (mup_self _ _ _ _))))))))))
  have q2 : N2 s.1.1 2 = x := by rw [e]; exact ((mup_cell (by omega)).trans ((mup_cell (by omega)).trans ((mup_cell (by omega)).trans ((mup_cell (by omega)).trans ((mup_cell (by omega)).trans ((mup_cell (by omega)).trans ((mup_cell (by omega)).trans ((mup_slot (by omega)).trans (mup_self _ _ _ _)))))))))
  have q3 : N2 s.1.1 3 = y := by rw [e]; exact ((mup_cell (by omega)).trans ((mup_cell (by omega)).trans ((mup_cell (by omega)).trans ((mup_cell (by omega)).trans ((mup_cell (by omega)).trans ((mup_cell (by omega)).trans ((mup_cell (by omega)).trans (mup_self _ _ _ _))))))))
  have kCnt : mCnt N2 := by unfold mCnt; omega
  have k_ord : mOrd N2 := mOrd_k (show sC N N2 [48, 49, 50, 59, 61, 62] by rw [e]; exact (sC.m (by decide) (sC.m (by decide) (sC.m (by decide) (sC.m (by decide) (sC.m (by decide) (sC.m (by decide) (sC.m (by decide) (sC.hi (by omega) (by decide) (sC.hi (by omega) (by decide) (sC.hi (by omega) (by decide) (sC.hi (by omega) (by decide) sC.rf)))))))))))) (show s9 N N2 [10, 31] by rw [e]; exact (s9.o (by decide) (s9.m (by omega) (s9.m (by omega) (s9.m (by omega) (s9.m (by omega) (s9.m (by omega) (s9.m (by omega) (s9.m (by omega) (s9.m (by omega) (s9.m (by omega) (s9.m (by omega) s9.rf)))))))))))) hI.ord
  have k_ppl : mPpl N2 := mPpl_k (show sC N N2 [41, 42, 43, 44, 45, 46, 47] by rw [e]; exact (sC.m (by decide) (sC.m (by decide) (sC.m (by decide) (sC.m (by decide) (sC.m (by decide) (sC.m (by decide) (sC.m (by decide) (sC.hi (by omega) (by decide) (sC.hi (by omega) (by decide) (sC.hi (by omega) (by decide) (sC.hi (by omega) (by decide) sC.rf)))))))))))) g2 (by omega) hm.2.2.1
  have k_flt : mFlt N2 := mFlt_k (show sC N N2 [48, 49, 50] by rw [e]; exact (sC.m (by decide) (sC.m (by decide) (sC.m (by decide) (sC.m (by decide) (sC.m (by decide) (sC.m (by decide) (sC.m (by decide) (sC.hi (by omega) (by decide) (sC.hi (by omega) (by decide) (sC.hi (by omega) (by decide) (sC.hi (by omega) (by decide) sC.rf)))))))))))) g10 (by omega) hm.2.2.2.1
  have k_spl : mSpl N2 := mSpl_k (show sC N N2 [59, 60, 61, 62] by rw [e]; exact (sC.m (by decide) (sC.m (by decide) (sC.m (by decide) (sC.m (by decide) (sC.m (by decide) (sC.m (by decide) (sC.m (by decide) (sC.hi (by omega) (by decide) (sC.hi (by omega) (by decide) (sC.hi (by omega) (by decide) (sC.hi (by omega) (by decide) sC.rf)))))))))))) g31 (by omega) (by omega) hm.2.2.2.2.1
  have k_sty : mSty N2 := by
    intro k h0 h1
    rw [g36] at h1
    by_cases hi : k = (N 39 36)
    · rw [hi, w63, w64, w65, w66, g0, g2]
      omega
    · have := hm.2.2.2.2.2.1 k h0 (by omega)
      rw [u63 k hi, u64 k hi, u65 k hi, u66 k hi, g0, g2]
      exact this
  have k_ple : mPle N2 := mPle_k (show sC N N2 [74, 75, 76, 77, 78] by rw [e]; exact (sC.m (by decide) (sC.m (by decide) (sC.m (by decide) (sC.m (by decide) (sC.m (by decide) (sC.m (by decide) (sC.m (by decide) (sC.hi (by omega) (by decide) (sC.hi (by omega) (by decide) (sC.hi (by omega) (by decide) (sC.hi (by omega) (by decide) sC.rf)))))))))))) g50 (by omega) (by omega) hm.2.2.2.2.2.2
  have k_hs : xHs N2 := by
    have t1 : N2 3 1 = N 3 1 := by rw [e]; exact ((mup_cell (by omega)).trans ((mup_cell (by omega)).trans ((mup_cell (by omega)).trans ((mup_cell (by omega)).trans ((mup_cell (by omega)).trans ((mup_slot (by omega)).trans ((mup_cell (by omega)).trans ((mup_cell (by omega)).trans ((mup_cell (by omega)).trans ((mup_cell (by omega)).trans (mup_cell (by omega))))))))))))
    have t3 : N2 3 3 = N 3 3 := by rw [e]; exact ((mup_cell (by omega)).trans ((mup_cell (by omega)).trans ((mup_cell (by omega)).trans ((mup_cell (by omega)).trans ((mup_cell (by omega)).trans ((mup_slot (by omega)).trans ((mup_cell (by omega)).trans ((mup_cell (by omega)).trans ((mup_cell (by omega)).trans ((mup_cell (by omega)).trans (mup_cell (by omega))))))))))))
    have t5 : N2 3 5 = N 3 5 := by rw [e]; exact ((mup_cell (by omega)).trans ((mup_cell (by omega)).trans ((mup_cell (by omega)).trans ((mup_cell (by omega)).trans ((mup_cell (by omega)).trans ((mup_slot (by omega)).trans ((mup_cell (by omega)).trans ((mup_cell (by omega)).trans ((mup_cell (by omega)).trans ((mup_cell (by omega)).trans (mup_cell (by omega))))))))))))
    have t8 : N2 3 8 = ((N 39 36) + 1) := by rw [e]; exact ((mup_cell (by omega)).trans ((mup_cell (by omega)).trans ((mup_cell (by omega)).trans ((mup_cell (by omega)).trans ((mup_cell (by omega)).trans (mup_self _ _ _ _))))))
    have t10 : N2 3 10 = N 3 10 := by rw [e]; exact ((mup_cell (by omega)).trans ((mup_cell (by omega)).trans ((mup_cell (by omega)).trans ((mup_cell (by omega)).trans ((mup_cell (by omega)).trans ((mup_slot (by omega)).trans ((mup_cell (by omega)).trans ((mup_cell (by omega)).trans ((mup_cell (by omega)).trans ((mup_cell (by omega)).trans (mup_cell (by omega))))))))))))
    have t11 : N2 3 11 = N 3 11 := by rw [e]; exact ((mup_cell (by omega)).trans ((mup_cell (by omega)).trans ((mup_cell (by omega)).trans ((mup_cell (by omega)).trans ((mup_cell (by omega)).trans ((mup_slot (by omega)).trans ((mup_cell (by omega)).trans ((mup_cell (by omega)).trans ((mup_cell (by omega)).trans ((mup_cell (by omega)).trans (mup_cell (by omega))))))))))))
    have t7 : N2 7 2 = N 7 2 := by rw [e]; exact ((mup_cell (by omega)).trans ((mup_cell (by omega)).trans ((mup_cell (by omega)).trans ((mup_cell (by omega)).trans ((mup_cell (by omega)).trans ((mup_cell (by omega)).trans ((mup_cell (by omega)).trans ((mup_cell (by omega)).trans ((mup_cell (by omega)).trans ((mup_cell (by omega)).trans (mup_cell (by omega))))))))))))
    have t12 : N2 12 1 = N 12 1 := by rw [e]; exact ((mup_cell (by omega)).trans ((mup_cell (by omega)).trans ((mup_cell (by omega)).trans ((mup_cell (by omega)).trans ((mup_cell (by omega)).trans ((mup_cell (by omega)).trans ((mup_cell (by omega)).trans ((mup_cell (by omega)).trans ((mup_cell (by omega)).trans ((mup_cell (by omega)).trans (mup_cell (by omega))))))))))))
    have r4 : N2 4 = N 4 := (show sC N N2 [4] by rw [e]; exact (sC.m (by decide) (sC.m (by decide) (sC.m (by decide) (sC.m (by decide) (sC.m (by decide) (sC.m (by decide) (sC.m (by decide) (sC.hi (by omega) (by decide) (sC.hi (by omega) (by decide) (sC.hi (by omega) (by decide) (sC.hi (by omega) (by decide) sC.rf)))))))))))) 4 (by simp)
    have r40 : N2 40 = N 40 := (show sC N N2 [40] by rw [e]; exact (sC.m (by decide) (sC.m (by decide) (sC.m (by decide) (sC.m (by decide) (sC.m (by decide) (sC.m (by decide) (sC.m (by decide) (sC.hi (by omega) (by decide) (sC.hi (by omega) (by decide) (sC.hi (by omega) (by decide) (sC.hi (by omega) (by decide) sC.rf)))))))))))) 40 (by simp)
    have r6 : N2 6 = N 6 := (show sC N N2 [6] by rw [e]; exact (sC.m (by decide) (sC.m (by decide) (sC.m (by decide) (sC.m (by decide) (sC.m (by decide) (sC.m (by decide) (sC.m (by decide) (sC.hi (by omega) (by decide) (sC.hi (by omega) (by decide) (sC.hi (by omega) (by decide) (sC.hi (by omega) (by decide) sC.rf)))))))))))) 6 (by simp)
    have r58 : N2 58 = N 58 := (show sC N N2 [58] by rw [e]; exact (sC.m (by decide) (sC.m (by decide) (sC.m (by decide) (sC.m (by decide) (sC.m (by decide) (sC.m (by decide) (sC.m (by decide) (sC.hi (by omega) (by decide) (sC.hi (by omega) (by decide) (sC.hi (by omega) (by decide) (sC.hi (by omega) (by decide) sC.rf)))))))))))) 58 (by simp)
    have r8 : N2 8 = N 8 := (show sC N N2 [8] by rw [e]; exact (sC.m (by decide) (sC.m (by decide) (sC.m (by decide) (sC.m (by decide) (sC.m (by decide) (sC.m (by decide) (sC.m (by decide) (sC.hi (by omega) (by decide) (sC.hi (by omega) (by decide) (sC.hi (by omega) (by decide) (sC.hi (by omega) (by decide) sC.rf)))))))))))) 8 (by simp)
    have r9 : N2 9 = N 9 := (show sC N N2 [9] by rw [e]; exact (sC.m (by decide) (sC.m (by decide) (sC.m (by decide) (sC.m (by decide) (sC.m (by decide) (sC.m (by decide) (sC.m (by decide) (sC.hi (by omega) (by decide) (sC.hi (by omega) (by decide) (sC.hi (by omega) (by decide) (sC.hi (by omega) (by decide) sC.rf)))))))))))) 9 (by simp)
    have r56 : N2 56 = N 56 := (show sC N N2 [56] by rw [e]; exact (sC.m (by decide) (sC.m (by decide) (sC.m (by decide) (sC.m (by decide) (sC.m (by decide) (sC.m (by decide) (sC.m (by decide) (sC.hi (by omega) (by decide) (sC.hi (by omega) (by decide) (sC.hi (by omega) (by decide) (sC.hi (by omega) (by decide) sC.rf)))))))))))) 56 (by simp)
    have r57 : N2 57 = N 57 := (show sC N N2 [57] by rw [e]; exact (sC.m (by decide) (sC.m (by decide) (sC.m (by decide) (sC.m (by decide) (sC.m (by decide) (sC.m (by decide) (sC.m (by decide) (sC.hi (by omega) (by decide) (sC.hi (by omega) (by decide) (sC.hi (by omega) (by decide) (sC.hi (by omega) (by decide) sC.rf)))))))))))) 57 (by simp)
    have r13 : N2 13 = N 13 := (show sC N N2 [13] by rw [e]; exact (sC.m (by decide) (sC.m (by decide) (sC.m (by decide) (sC.m (by decide) (sC.m (by decide) (sC.m (by decide) (sC.m (by decide) (sC.hi (by omega) (by decide) (sC.hi (by omega) (by decide) (sC.hi (by omega) (by decide) (sC.hi (by omega) (by decide) sC.rf)))))))))))) 13 (by simp)
    have r51 : N2 51 = N 51 := (show sC N N2 [51] by rw [e]; exact (sC.m (by decide) (sC.m (by decide) (sC.m (by decide) (sC.m (by decide) (sC.m (by decide) (sC.m (by decide) (sC.m (by decide) (sC.hi (by omega) (by decide) (sC.hi (by omega) (by decide) (sC.hi (by omega) (by decide) (sC.hi (by omega) (by decide) sC.rf)))))))))))) 51 (by simp)
    refine ⟨by omega, by omega, by omega, by omega, by omega, by omega, by omega, by omega, fun i h0 h1 => by rw [r4, r40]; exact eh i h0 h1, fun i h0 h1 => by rw [r6, r58]; exact eg i h0 h1, fun i h0 h1 => by rw [r8, r9, r56, r57, g26]; exact ef i h0 h1, fun i h0 h1 => by rw [r13, r51]; rw [g15] at h1; exact et i h0 h1⟩
  have k_ps : xPs (z_ns s (9, 0) 4) N2 fa sa := xPs_k hs (show s8 s N N2 4 by rw [e]; exact (s8.lo (by decide) (s8.lo (by decide) (s8.lo (by decide) (s8.lo (by decide) (s8.lo (by decide) (s8.lo (by decide) (s8.lo (by decide) (s8.nw (by omega) (s8.nw (by omega) (s8.nw (by omega) (s8.nw (by omega) s8.rf)))))))))))) ((show sC N N2 [5] by rw [e]; exact (sC.m (by decide) (sC.m (by decide) (sC.m (by decide) (sC.m (by decide) (sC.m (by decide) (sC.m (by decide) (sC.m (by decide) (sC.hi (by omega) (by decide) (sC.hi (by omega) (by decide) (sC.hi (by omega) (by decide) (sC.hi (by omega) (by decide) sC.rf)))))))))))) 5 (by simp)) (show sC N N2 [41, 42, 43, 44, 45, 46, 47, 48, 59, 73] by rw [e]; exact (sC.m (by decide) (sC.m (by decide) (sC.m (by decide) (sC.m (by decide) (sC.m (by decide) (sC.m (by decide) (sC.m (by decide) (sC.hi (by omega) (by decide) (sC.hi (by omega) (by decide) (sC.hi (by omega) (by decide) (sC.hi (by omega) (by decide) sC.rf)))))))))))) (show s9 N N2 [2, 10, 31, 49] by rw [e]; exact (s9.o (by decide) (s9.m (by omega) (s9.m (by omega) (s9.m (by omega) (s9.m (by omega) (s9.m (by omega) (s9.m (by omega) (s9.m (by omega) (s9.m (by omega) (s9.m (by omega) (s9.m (by omega) s9.rf)))))))))))) hI.ps
  have k_fs : xFs (z_ns s (9, 0) 4) N2 fa := xFs_k hs (show s8 s N N2 2 by rw [e]; exact (s8.lo (by decide) (s8.lo (by decide) (s8.lo (by decide) (s8.lo (by decide) (s8.lo (by decide) (s8.lo (by decide) (s8.lo (by decide) (s8.nw (by omega) (s8.nw (by omega) (s8.nw (by omega) (s8.nw (by omega) s8.rf)))))))))))) (show sC N N2 [48, 49, 50] by rw [e]; exact (sC.m (by decide) (sC.m (by decide) (sC.m (by decide) (sC.m (by decide) (sC.m (by decide) (sC.m (by decide) (sC.m (by decide) (sC.hi (by omega) (by decide) (sC.hi (by omega) (by decide) (sC.hi (by omega) (by decide) (sC.hi (by omega) (by decide) sC.rf)))))))))))) g10 hI.fs
  have k_ss : xSs (z_ns s (9, 0) 4) N2 sa := xSs_k hs (show s8 s N N2 8 by rw [e]; exact (s8.lo (by decide) (s8.lo (by decide) (s8.lo (by decide) (s8.lo (by decide) (s8.lo (by decide) (s8.lo (by decide) (s8.lo (by decide) (s8.nw (by omega) (s8.nw (by omega) (s8.nw (by omega) (s8.nw (by omega) s8.rf)))))))))))) (show sC N N2 [59, 60, 61, 62] by rw [e]; exact (sC.m (by decide) (sC.m (by decide) (sC.m (by decide) (sC.m (by decide) (sC.m (by decide) (sC.m (by decide) (sC.m (by decide) (sC.hi (by omega) (by decide) (sC.hi (by omega) (by decide) (sC.hi (by omega) (by decide) (sC.hi (by omega) (by decide) sC.rf)))))))))))) g31 hI.ss
  have k_ys : xYs (z_ns s (9, 0) 4) N2 := by
    intro k h0 h1
    rw [g36] at h1
    by_cases hi : k = (N 39 36)
    · refine ⟨s.1.1, by omega, zA_new (by omega), ?_⟩
      rw [hi, w10, q0, q1, q2, q3, w63, w64, w65, w66]
      exact ⟨rfl, rfl, rfl, rfl, rfl⟩
    · obtain ⟨a, y88, yA, y10, y0, y1, y2, y3⟩ := hI.ys k h0 (by omega)
      have hlt := yA.2.1
      have hrow : ∀ x0, N2 a x0 = N a x0 := fun x0 => by
        rw [e]
        exact ((mup_cell (by omega)).trans ((mup_cell (by omega)).trans ((mup_cell (by omega)).trans ((mup_cell (by omega)).trans ((mup_cell (by omega)).trans ((mup_cell (by omega)).trans ((mup_cell (by omega)).trans ((mup_cell (by omega)).trans ((mup_cell (by omega)).trans ((mup_cell (by omega)).trans (mup_cell (by omega))))))))))))
      refine ⟨a, y88, hs.A yA, ?_⟩
      rw [hrow, hrow, hrow, hrow, u10 k hi, u63 k hi, u64 k hi, u65 k hi, u66 k hi]
      exact ⟨y10, y0, y1, y2, y3⟩
  have k_ls : xLs (z_ns s (9, 0) 4) N2 fa := xLs_k hs (show s8 s N N2 5 by rw [e]; exact (s8.lo (by decide) (s8.lo (by decide) (s8.lo (by decide) (s8.lo (by decide) (s8.lo (by decide) (s8.lo (by decide) (s8.lo (by decide) (s8.nw (by omega) (s8.nw (by omega) (s8.nw (by omega) (s8.nw (by omega) s8.rf)))))))))))) (show s8 s N N2 20 by rw [e]; exact (s8.lo (by decide) (s8.lo (by decide) (s8.lo (by decide) (s8.lo (by decide) (s8.lo (by decide) (s8.lo (by decide) (s8.lo (by decide) (s8.nw (by omega) (s8.nw (by omega) (s8.nw (by omega) (s8.nw (by omega) s8.rf)))))))))))) (show s8 s N N2 21 by rw [e]; exact (s8.lo (by decide) (s8.lo (by decide) (s8.lo (by decide) (s8.lo (by decide) (s8.lo (by decide) (s8.lo (by decide) (s8.lo (by decide) (s8.nw (by omega) (s8.nw (by omega) (s8.nw (by omega) (s8.nw (by omega) s8.rf)))))))))))) (show sC N N2 [11, 48, 74, 75, 76, 77, 78, 79, 80] by rw [e]; exact (sC.m (by decide) (sC.m (by decide) (sC.m (by decide) (sC.m (by decide) (sC.m (by decide) (sC.m (by decide) (sC.m (by decide) (sC.hi (by omega) (by decide) (sC.hi (by omega) (by decide) (sC.hi (by omega) (by decide) (sC.hi (by omega) (by decide) sC.rf)))))))))))) g50 hI.ls
  have k_law : xLaw N2 := xLaw_k (show sC N N2 [14, 15, 16, 17, 18, 19, 52, 53] by rw [e]; exact (sC.m (by decide) (sC.m (by decide) (sC.m (by decide) (sC.m (by decide) (sC.m (by decide) (sC.m (by decide) (sC.m (by decide) (sC.hi (by omega) (by decide) (sC.hi (by omega) (by decide) (sC.hi (by omega) (by decide) (sC.hi (by omega) (by decide) sC.rf)))))))))))) ((show s3 N N2 [13] by rw [e]; exact (s3.m (by omega) (s3.m (by omega) (s3.m (by omega) (s3.m (by omega) (s3.m (by omega) (s3.o (by decide) (s3.m (by omega) (s3.m (by omega) (s3.m (by omega) (s3.m (by omega) (s3.m (by omega) s3.rf)))))))))))) 13 (by simp)) ((show s3 N N2 [14] by rw [e]; exact (s3.m (by omega) (s3.m (by omega) (s3.m (by omega) (s3.m (by omega) (s3.m (by omega) (s3.o (by decide) (s3.m (by omega) (s3.m (by omega) (s3.m (by omega) (s3.m (by omega) (s3.m (by omega) s3.rf)))))))))))) 14 (by simp)) g18 hI.law
  have k_sh : xSh N2 := xSh_k (show sC N N2 [20, 31, 32, 33, 34, 35, 36, 37, 38, 82, 83, 84] by rw [e]; exact (sC.m (by decide) (sC.m (by decide) (sC.m (by decide) (sC.m (by decide) (sC.m (by decide) (sC.m (by decide) (sC.m (by decide) (sC.hi (by omega) (by decide) (sC.hi (by omega) (by decide) (sC.hi (by omega) (by decide) (sC.hi (by omega) (by decide) sC.rf)))))))))))) hI.sh
  have k_ro : xRo N2 := xRo_k (show sC N N2 [21, 22, 23, 24, 85, 86, 87] by rw [e]; exact (sC.m (by decide) (sC.m (by decide) (sC.m (by decide) (sC.m (by decide) (sC.m (by decide) (sC.m (by decide) (sC.m (by decide) (sC.hi (by omega) (by decide) (sC.hi (by omega) (by decide) (sC.hi (by omega) (by decide) (sC.hi (by omega) (by decide) sC.rf)))))))))))) g63 hI.ro
  have k_kp : yKp N2 := yKp_k (show s3 N N2 [19] by rw [e]; exact (s3.m (by omega) (s3.m (by omega) (s3.m (by omega) (s3.m (by omega) (s3.m (by omega) (s3.o (by decide) (s3.m (by omega) (s3.m (by omega) (s3.m (by omega) (s3.m (by omega) (s3.m (by omega) s3.rf)))))))))))) (show s9 N N2 [10, 31] by rw [e]; exact (s9.o (by decide) (s9.m (by omega) (s9.m (by omega) (s9.m (by omega) (s9.m (by omega) (s9.m (by omega) (s9.m (by omega) (s9.m (by omega) (s9.m (by omega) (s9.m (by omega) (s9.m (by omega) s9.rf)))))))))))) hy.1
  have k_ow : yOw N2 := yOw_k (show sC N N2 [76, 77, 80] by rw [e]; exact (sC.m (by decide) (sC.m (by decide) (sC.m (by decide) (sC.m (by decide) (sC.m (by decide) (sC.m (by decide) (sC.m (by decide) (sC.hi (by omega) (by decide) (sC.hi (by omega) (by decide) (sC.hi (by omega) (by decide) (sC.hi (by omega) (by decide) sC.rf)))))))))))) (show s9 N N2 [50] by rw [e]; exact (s9.o (by decide) (s9.m (by omega) (s9.m (by omega) (s9.m (by omega) (s9.m (by omega) (s9.m (by omega) (s9.m (by omega) (s9.m (by omega) (s9.m (by omega) (s9.m (by omega) (s9.m (by omega) s9.rf)))))))))))) hy.2.1
  have k_tp : yTp N2 := yTp_k (show sC N N2 [51] by rw [e]; exact (sC.m (by decide) (sC.m (by decide) (sC.m (by decide) (sC.m (by decide) (sC.m (by decide) (sC.m (by decide) (sC.m (by decide) (sC.hi (by omega) (by decide) (sC.hi (by omega) (by decide) (sC.hi (by omega) (by decide) (sC.hi (by omega) (by decide) sC.rf)))))))))))) (show s9 N N2 [15] by rw [e]; exact (s9.o (by decide) (s9.m (by omega) (s9.m (by omega) (s9.m (by omega) (s9.m (by omega) (s9.m (by omega) (s9.m (by omega) (s9.m (by omega) (s9.m (by omega) (s9.m (by omega) (s9.m (by omega) s9.rf)))))))))))) hy.2.2.1
  have k_yro : yRo N2 := yRo_k (show sC N N2 [85, 86] by rw [e]; exact (sC.m (by decide) (sC.m (by decide) (sC.m (by decide) (sC.m (by decide) (sC.m (by decide) (sC.m (by decide) (sC.m (by decide) (sC.hi (by omega) (by decide) (sC.hi (by omega) (by decide) (sC.hi (by omega) (by decide) (sC.hi (by omega) (by decide) sC.rf)))))))))))) hy.2.2.2.1
  have k_ln : yLn N2 := yLn_k (show sC N N2 [40, 58] by rw [e]; exact (sC.m (by decide) (sC.m (by decide) (sC.m (by decide) (sC.m (by decide) (sC.m (by decide) (sC.m (by decide) (sC.m (by decide) (sC.hi (by omega) (by decide) (sC.hi (by omega) (by decide) (sC.hi (by omega) (by decide) (sC.hi (by omega) (by decide) sC.rf)))))))))))) (show s9 N N2 [0, 29] by rw [e]; exact (s9.o (by decide) (s9.m (by omega) (s9.m (by omega) (s9.m (by omega) (s9.m (by omega) (s9.m (by omega) (s9.m (by omega) (s9.m (by omega) (s9.m (by omega) (s9.m (by omega) (s9.m (by omega) s9.rf)))))))))))) hy.2.2.2.2.1
  have k_cm : yCm N2 := yCm_k (show sC N N2 [73] by rw [e]; exact (sC.m (by decide) (sC.m (by decide) (sC.m (by decide) (sC.m (by decide) (sC.m (by decide) (sC.m (by decide) (sC.m (by decide) (sC.hi (by omega) (by decide) (sC.hi (by omega) (by decide) (sC.hi (by omega) (by decide) (sC.hi (by omega) (by decide) sC.rf)))))))))))) (show s9 N N2 [2, 49] by rw [e]; exact (s9.o (by decide) (s9.m (by omega) (s9.m (by omega) (s9.m (by omega) (s9.m (by omega) (s9.m (by omega) (s9.m (by omega) (s9.m (by omega) (s9.m (by omega) (s9.m (by omega) (s9.m (by omega) s9.rf)))))))))))) hy.2.2.2.2.2.1
  have k_bf : yBf N2 := yBf_k (show sC N N2 [42, 48, 49] by rw [e]; exact (sC.m (by decide) (sC.m (by decide) (sC.m (by decide) (sC.m (by decide) (sC.m (by decide) (sC.m (by decide) (sC.m (by decide) (sC.hi (by omega) (by decide) (sC.hi (by omega) (by decide) (sC.hi (by omega) (by decide) (sC.hi (by omega) (by decide) sC.rf)))))))))))) (show s9 N N2 [10] by rw [e]; exact (s9.o (by decide) (s9.m (by omega) (s9.m (by omega) (s9.m (by omega) (s9.m (by omega) (s9.m (by omega) (s9.m (by omega) (s9.m (by omega) (s9.m (by omega) (s9.m (by omega) (s9.m (by omega) s9.rf)))))))))))) hy.2.2.2.2.2.2
  have k_bud : bud N2 ≤ bud N + 1 := by have := bud_k (show sC N N2 [59, 62] by rw [e]; exact (sC.m (by decide) (sC.m (by decide) (sC.m (by decide) (sC.m (by decide) (sC.m (by decide) (sC.m (by decide) (sC.m (by decide) (sC.hi (by omega) (by decide) (sC.hi (by omega) (by decide) (sC.hi (by omega) (by decide) (sC.hi (by omega) (by decide) sC.rf)))))))))))) (show s9 N N2 [2, 10, 31] by rw [e]; exact (s9.o (by decide) (s9.m (by omega) (s9.m (by omega) (s9.m (by omega) (s9.m (by omega) (s9.m (by omega) (s9.m (by omega) (s9.m (by omega) (s9.m (by omega) (s9.m (by omega) (s9.m (by omega) s9.rf)))))))))))); omega
  exact ⟨⟨hB.k hs, hG, ⟨hG.1, kCnt, k_ppl, k_flt, k_spl, k_sty, k_ple⟩, k_ord, k_hs, k_ps, k_fs, k_ss, k_ys, k_ls, k_law, k_sh, k_ro⟩, ⟨k_kp, k_ow, k_tp, k_yro, k_ln, k_cm, k_bf⟩, k_bud⟩
set_option maxRecDepth 20000 in
set_option maxHeartbeats 2000000 in
theorem j_stay (hJ : xJ s N c) (hc : c < 512) {w g x y : Int} (hw0 : zr w) (hg0 : zr g) (hx0 : zr x) (hy0 : zr y) (h : jK X c m_X12_stay [.ref 39, vi w, vi g, vi x, vi y] K) : zC X m_X11_stay [.ref 3, vi w, vi g, vi x, vi y] (zI s N) K := by
  obtain ⟨fa, sa, hI, hy, hbud, hsz⟩ := id hJ
  have hk := bud_r hI hbud hc
  have hC := hI.C
  unfold mCnt at hC
  have n88 := hI.B.1
  have hR := hI.R
  have hkp : N 3 19 = N 39 10 + N 39 31 := hy.1
  have hadr := hsz.adr hc
  refine x_stay hI hw0 hg0 hx0 hy0 (fun g1 => ?_) (fun g1 g2 => ?_) (fun g1 g2 g3 => ?_) (fun g1 g2 g3 g4 => ?_) (fun g1 g2 g3 g4 => ?_)
  · exact h _ _ _ (by first | exact hI.B | exact hI.B.k sK.ns | exact hI.B.k (sK.ns.trans (sK.ns.trans sK.ns))) (fun Q hq => k_stay hI.B hI.m hw0 hg0 hx0 hy0 (fun _ => hq _ _ hJ.up) (fun q => absurd q g1) (fun q => absurd q g1) (fun q => absurd q g1) (fun q => absurd q g1))
  · exact h _ _ _ (by first | exact hI.B | exact hI.B.k sK.ns | exact hI.B.k (sK.ns.trans (sK.ns.trans sK.ns))) (fun Q hq => k_stay hI.B hI.m hw0 hg0 hx0 hy0 (fun q => absurd g1 q) (fun _ _ => hq _ _ hJ.up) (fun _ q => absurd q g2) (fun _ q => absurd q g2) (fun _ q => absurd q g2))
  · exact h _ _ _ (by first | exact hI.B | exact hI.B.k sK.ns | exact hI.B.k (sK.ns.trans (sK.ns.trans sK.ns))) (fun Q hq => k_stay hI.B hI.m hw0 hg0 hx0 hy0 (fun q => absurd g1 q) (fun _ q => absurd g2 q) (fun _ _ _ => hq _ _ hJ.up) (fun _ _ q => absurd g3 q) (fun _ _ q => absurd g3 q))
  · exact h _ _ _ (by first | exact hI.B | exact hI.B.k sK.ns | exact hI.B.k (sK.ns.trans (sK.ns.trans sK.ns))) (fun Q hq => k_stay hI.B hI.m hw0 hg0 hx0 hy0 (fun q => absurd g1 q) (fun _ q => absurd g2 q) (fun _ _ q => absurd q g3) (fun _ _ _ _ => hq _ _ hJ.up) (fun _ _ _ q => absurd q (by omega)))
  · refine h _ _ _ (by first | exact hI.B | exact hI.B.k sK.ns | exact hI.B.k (sK.ns.trans (sK.ns.trans sK.ns))) (fun Q hq => ?_)
    have hE : eM N (xn_stay N s.1.1 w g x y) := (eM.m (by omega) (eM.m (by omega) (eM.m (by omega) (eM.m (by omega) (eM.m (by omega) (eM.m (by omega) eM.rf))))))
    have hm1 : mI (xn_stay N s.1.1 w g x y) := hE.mI_ (zG_mup (zG_mup (zG_mup (zG_mup (zG_mup (zG_mup (zG_ns (sp := (9, 0)) (sl := 4) hI.2.1) (Nat.lt_succ_self _) (by constructor <;> omega)) (Nat.lt_succ_self _) (by constructor <;> omega)) (Nat.lt_succ_self _) (by constructor <;> omega)) (Nat.lt_succ_self _) (by constructor <;> omega)) (by show _ < s.1.1 + 1; omega) hadr) (by show _ < s.1.1 + 1; omega) (by constructor <;> omega)).1 hI.m
    have c0 := hE.at 39 (by decide) (by decide) 36
    refine k_stay (hI.B.k (sK.ns (sp := (9, 0)) (sl := 4))) hm1 hw0 hg0 hx0 hy0 ?_ ?_ ?_ ?_ ?_
    all_goals
      rw [hE 39 (by decide) (by decide)]
      try rw [hE 41 (by decide) (by decide)]
      try rw [hE 63 (by decide) (by decide), hE 66 (by decide) (by decide)]
    · exact fun q => absurd g1 q
    · exact fun _ q => absurd g2 q
    · exact fun _ _ q => absurd q g3
    · exact fun _ _ _ q => absurd q (by omega)
    · intro _ _ _ _
      obtain ⟨x1, x2, x3⟩ := jx_stay hI hy g1 g4 hadr (N2 := n_stay (xn_stay N s.1.1 w g x y) w g x y) (by unfold n_stay; rw [c0]; rfl)
      exact hq _ _ ⟨fa, sa, x1, x2, by omega, hsz.n1 (by decide)⟩
set_option maxRecDepth 20000 in
set_option maxHeartbeats 2000000 in
theorem jx_drop (hI : xI s N fa sa) (hy : yI N) {w : Int} (hw0 : 0 ≤ w ∧ w ≤ 3) {N2 : zN} (e : N2 = (mup (mup N (31 + 2 * w).toNat 1 (-4)) 82 w (-4))) : xI s N2 fa sa ∧ yI N2 ∧ bud N2 ≤ bud N + 1 := by
  have hB := hI.B
  have hR := hI.R
  have hC := hI.C
  unfold mCnt at hC
  have hm := hI.m
  have n88 := hB.1
  obtain ⟨e1, e5, e7, e8, e10, e11, e3, e12, eh, eg, ef, et⟩ := hI.hs
  have hs : sK s s := sK.rf
  have hG : zG s N2 := by rw [e]; exact (zG_mup (zG_mup hI.2.1 (by omega) (by constructor <;> omega)) (by omega) (by constructor <;> omega))
  have g0 : N2 39 0 = N 39 0 := by rw [e]; exact ((mup_cell (by omega)).trans (mup_cell (by omega)))
  have g2 : N2 39 2 = N 39 2 := by rw [e]; exact ((mup_cell (by omega)).trans (mup_cell (by omega)))
  have g10 : N2 39 10 = N 39 10 := by rw [e]; exact ((mup_cell (by omega)).trans (mup_cell (by omega)))
  have g15 : N2 39 15 = N 39 15 := by rw [e]; exact ((mup_cell (by omega)).trans (mup_cell (by omega)))
  have g18 : N2 39 18 = N 39 18 := by rw [e]; exact ((mup_cell (by omega)).trans (mup_cell (by omega)))
  have g26 : N2 39 26 = N 39 26 := by rw [e]; exact ((mup_cell (by omega)).trans (mup_cell (by omega)))
  have g29 : N2 39 29 = N 39 29 := by rw [e]; exact ((mup_cell (by omega)).trans (mup_cell (by omega)))
  have g31 : N2 39 31 = N 39 31 := by rw [e]; exact ((mup_cell (by omega)).trans (mup_cell (by omega)))
  have g36 : N2 39 36 = N 39 36 := by rw [e]; exact ((mup_cell (by omega)).trans (mup_cell (by omega)))
  have g49 : N2 39 49 = N 39 49 := by rw [e]; exact ((mup_cell (by omega)).trans (mup_cell (by omega)))
  have g50 : N2 39 50 = N 39 50 := by rw [e]; exact ((mup_cell (by omega)).trans (mup_cell (by omega)))
  have g58 : N2 39 58 = N 39 58 := by rw [e]; exact ((mup_cell (by omega)).trans (mup_cell (by omega)))
  have g63 : N2 39 63 = N 39 63 := by rw [e]; exact ((mup_cell (by omega)).trans (mup_cell (by omega)))
  have r20 : N2 20 = N 20 := by rw [e]; funext x0; exact ((mup_cell (by omega)).trans (mup_cell (by omega)))
  have r83 : N2 83 = N 83 := by rw [e]; funext x0; exact ((mup_cell (by omega)).trans (mup_cell (by omega)))
  have r84 : N2 84 = N 84 := by rw [e]; funext x0; exact ((mup_cell (by omega)).trans (mup_cell (by omega)))
  have ot : ∀ (b : Nat) (x0 : Int), b ≠ (31 + 2 * w).toNat ∧ b ≠ 82 → N2 b x0 = N b x0 := fun b x0 hb => by rw [e]; exact ((mup_cell (by omega)).trans (mup_cell (by omega)))
  have u82 : ∀ i : Int, i ≠ w → N2 82 i = N 82 i := fun i hi => by rw [e]; exact ((mup_slot (by omega)).trans (mup_cell (by omega)))
  have w82 : N2 82 w = (-4) := by rw [e]; exact (mup_self _ _ _ _)
  have q1 : N2 (31 + 2 * w).toNat 1 = (-4) := by rw [e]; exact ((mup_cell (by omega)).trans (mup_self _ _ _ _))
  have q2 : N2 (31 + 2 * w).toNat 2 = N (31 + 2 * w).toNat 2 := by rw [e]; exact ((mup_cell (by omega)).trans (mup_slot (by omega)))
  have kCnt : mCnt N2 := by unfold mCnt; omega
  have k_ord : mOrd N2 := mOrd_k (show sC N N2 [48, 49, 50, 59, 61, 62] by rw [e]; exact (sC.m (by decide) (sC.mg (by simp only [List.mem_cons, List.not_mem_nil, or_false]; intro b hb; omega) sC.rf))) (show s9 N N2 [10, 31] by rw [e]; exact (s9.m (by omega) (s9.m (by omega) s9.rf))) hI.ord
  have k_ppl : mPpl N2 := mPpl_k (show sC N N2 [41, 42, 43, 44, 45, 46, 47] by rw [e]; exact (sC.m (by decide) (sC.mg (by simp only [List.mem_cons, List.not_mem_nil, or_false]; intro b hb; omega) sC.rf))) g2 (by omega) hm.2.2.1
  have k_flt : mFlt N2 := mFlt_k (show sC N N2 [48, 49, 50] by rw [e]; exact (sC.m (by decide) (sC.mg (by simp only [List.mem_cons, List.not_mem_nil, or_false]; intro b hb; omega) sC.rf))) g10 (by omega) hm.2.2.2.1
  have k_spl : mSpl N2 := mSpl_k (show sC N N2 [59, 60, 61, 62] by rw [e]; exact (sC.m (by decide) (sC.mg (by simp only [List.mem_cons, List.not_mem_nil, or_false]; intro b hb; omega) sC.rf))) g31 (by omega) (by omega) hm.2.2.2.2.1
  have k_sty : mSty N2 := mSty_k (show sC N N2 [63, 64, 65, 66] by rw [e]; exact (sC.m (by decide) (sC.mg (by simp only [List.mem_cons, List.not_mem_nil, or_false]; intro b hb; omega) sC.rf))) g36 (by omega) (by omega) hm.2.2.2.2.2.1
  have k_ple : mPle N2 := mPle_k (show sC N N2 [74, 75, 76, 77, 78] by rw [e]; exact (sC.m (by decide) (sC.mg (by simp only [List.mem_cons, List.not_mem_nil, or_false]; intro b hb; omega) sC.rf))) g50 (by omega) (by omega) hm.2.2.2.2.2.2
  have k_hs : xHs N2 := xHs_k (show s3 N N2 [1, 3, 5, 8, 10, 11] by rw [e]; exact (s3.m (by omega) (s3.m (by omega) s3.rf))) (show s9 N N2 [0, 2, 15, 26, 29, 36, 50, 58] by rw [e]; exact (s9.m (by omega) (s9.m (by omega) s9.rf))) (show sC N N2 [4, 6, 7, 8, 9, 12, 13, 40, 51, 56, 57, 58] by rw [e]; exact (sC.m (by decide) (sC.mg (by simp only [List.mem_cons, List.not_mem_nil, or_false]; intro b hb; omega) sC.rf))) hI.hs
  have k_ps : xPs s N2 fa sa := xPs_k hs (show s8 s N N2 4 by rw [e]; exact (s8.lo (by decide) (s8.lo (by omega) s8.rf))) ((show sC N N2 [5] by rw [e]; exact (sC.m (by decide) (sC.mg (by simp only [List.mem_cons, List.not_mem_nil, or_false]; intro b hb; omega) sC.rf))) 5 (by simp)) (show sC N N2 [41, 42, 43, 44, 45, 46, 47, 48, 59, 73] by rw [e]; exact (sC.m (by decide) (sC.mg (by simp only [List.mem_cons, List.not_mem_nil, or_false]; intro b hb; omega) sC.rf))) (show s9 N N2 [2, 10, 31, 49] by rw [e]; exact (s9.m (by omega) (s9.m (by omega) s9.rf))) hI.ps
  have k_fs : xFs s N2 fa := xFs_k hs (show s8 s N N2 2 by rw [e]; exact (s8.lo (by decide) (s8.lo (by omega) s8.rf))) (show sC N N2 [48, 49, 50] by rw [e]; exact (sC.m (by decide) (sC.mg (by simp only [List.mem_cons, List.not_mem_nil, or_false]; intro b hb; omega) sC.rf))) g10 hI.fs
  have k_ss : xSs s N2 sa := xSs_k hs (show s8 s N N2 8 by rw [e]; exact (s8.lo (by decide) (s8.lo (by omega) s8.rf))) (show sC N N2 [59, 60, 61, 62] by rw [e]; exact (sC.m (by decide) (sC.mg (by simp only [List.mem_cons, List.not_mem_nil, or_false]; intro b hb; omega) sC.rf))) g31 hI.ss
  have k_ys : xYs s N2 := xYs_k hs (show s8 s N N2 9 by rw [e]; exact (s8.lo (by decide) (s8.lo (by omega) s8.rf))) (show sC N N2 [10, 63, 64, 65, 66] by rw [e]; exact (sC.m (by decide) (sC.mg (by simp only [List.mem_cons, List.not_mem_nil, or_false]; intro b hb; omega) sC.rf))) g36 hI.ys
  have k_ls : xLs s N2 fa := xLs_k hs (show s8 s N N2 5 by rw [e]; exact (s8.lo (by decide) (s8.lo (by omega) s8.rf))) (show s8 s N N2 20 by rw [e]; exact (s8.lo (by decide) (s8.lo (by omega) s8.rf))) (show s8 s N N2 21 by rw [e]; exact (s8.lo (by decide) (s8.lo (by omega) s8.rf))) (show sC N N2 [11, 48, 74, 75, 76, 77, 78, 79, 80] by rw [e]; exact (sC.m (by decide) (sC.mg (by simp only [List.mem_cons, List.not_mem_nil, or_false]; intro b hb; omega) sC.rf))) g50 hI.ls
  have k_law : xLaw N2 := xLaw_k (show sC N N2 [14, 15, 16, 17, 18, 19, 52, 53] by rw [e]; exact (sC.m (by decide) (sC.mg (by simp only [List.mem_cons, List.not_mem_nil, or_false]; intro b hb; omega) sC.rf))) ((show s3 N N2 [13] by rw [e]; exact (s3.m (by omega) (s3.m (by omega) s3.rf))) 13 (by simp)) ((show s3 N N2 [14] by rw [e]; exact (s3.m (by omega) (s3.m (by omega) s3.rf))) 14 (by simp)) g18 hI.law
  have k_sh : xSh N2 := by
    intro j0 h0 h1
    have hj := hI.sh j0 h0 h1
    rw [r20, r83, r84]
    by_cases hw : j0 = w
    · subst hw
      rw [w82, q1, q2]
      refine ⟨hj.1, rfl, hj.2.2.1, hj.2.2.2.1, fun i h2 h3 => ?_⟩
      rw [ot _ _ (by omega)]
      exact hj.2.2.2.2 i h2 h3
    · rw [u82 j0 hw, ot _ _ (by omega), ot _ _ (by omega)]
      refine ⟨hj.1, hj.2.1, hj.2.2.1, hj.2.2.2.1, fun i h2 h3 => ?_⟩
      rw [ot _ _ (by omega)]
      exact hj.2.2.2.2 i h2 h3
  have k_ro : xRo N2 := xRo_k (show sC N N2 [21, 22, 23, 24, 85, 86, 87] by rw [e]; exact (sC.m (by decide) (sC.mg (by simp only [List.mem_cons, List.not_mem_nil, or_false]; intro b hb; omega) sC.rf))) g63 hI.ro
  have k_kp : yKp N2 := yKp_k (show s3 N N2 [19] by rw [e]; exact (s3.m (by omega) (s3.m (by omega) s3.rf))) (show s9 N N2 [10, 31] by rw [e]; exact (s9.m (by omega) (s9.m (by omega) s9.rf))) hy.1
  have k_ow : yOw N2 := yOw_k (show sC N N2 [76, 77, 80] by rw [e]; exact (sC.m (by decide) (sC.mg (by simp only [List.mem_cons, List.not_mem_nil, or_false]; intro b hb; omega) sC.rf))) (show s9 N N2 [50] by rw [e]; exact (s9.m (by omega) (s9.m (by omega) s9.rf))) hy.2.1
  have k_tp : yTp N2 := yTp_k (show sC N N2 [51] by rw [e]; exact (sC.m (by decide) (sC.mg (by simp only [List.mem_cons, List.not_mem_nil, or_false]; intro b hb; omega) sC.rf))) (show s9 N N2 [15] by rw [e]; exact (s9.m (by omega) (s9.m (by omega) s9.rf))) hy.2.2.1
  have k_yro : yRo N2 := yRo_k (show sC N N2 [85, 86] by rw [e]; exact (sC.m (by decide) (sC.mg (by simp only [List.mem_cons, List.not_mem_nil, or_false]; intro b hb; omega) sC.rf))) hy.2.2.2.1
  have k_ln : yLn N2 := yLn_k (show sC N N2 [40, 58] by rw [e]; exact (sC.m (by decide) (sC.mg (by simp only [List.mem_cons, List.not_mem_nil, or_false]; intro b hb; omega) sC.rf))) (show s9 N N2 [0, 29] by rw [e]; exact (s9.m (by omega) (s9.m (by omega) s9.rf))) hy.2.2.2.2.1
  have k_cm : yCm N2 := yCm_k (show sC N N2 [73] by rw [e]; exact (sC.m (by decide) (sC.mg (by simp only [List.mem_cons, List.not_mem_nil, or_false]; intro b hb; omega) sC.rf))) (show s9 N N2 [2, 49] by rw [e]; exact (s9.m (by omega) (s9.m (by omega) s9.rf))) hy.2.2.2.2.2.1
  have k_bf : yBf N2 := yBf_k (show sC N N2 [42, 48, 49] by rw [e]; exact (sC.m (by decide) (sC.mg (by simp only [List.mem_cons, List.not_mem_nil, or_false]; intro b hb; omega) sC.rf))) (show s9 N N2 [10] by rw [e]; exact (s9.m (by omega) (s9.m (by omega) s9.rf))) hy.2.2.2.2.2.2
  have k_bud : bud N2 ≤ bud N + 1 := by have := bud_k (show sC N N2 [59, 62] by rw [e]; exact (sC.m (by decide) (sC.mg (by simp only [List.mem_cons, List.not_mem_nil, or_false]; intro b hb; omega) sC.rf))) (show s9 N N2 [2, 10, 31] by rw [e]; exact (s9.m (by omega) (s9.m (by omega) s9.rf))); omega
  exact ⟨⟨hB.k hs, hG, ⟨hG.1, kCnt, k_ppl, k_flt, k_spl, k_sty, k_ple⟩, k_ord, k_hs, k_ps, k_fs, k_ss, k_ys, k_ls, k_law, k_sh, k_ro⟩, ⟨k_kp, k_ow, k_tp, k_yro, k_ln, k_cm, k_bf⟩, k_bud⟩
theorem j_drop (hJ : xJ s N c) (hc : c < 512) {w : Int} (hw : zr w) (h : jK X c m_X12_drop [.ref 39, vi w] K) : zC X m_X11_drop [.ref 3, vi w] (zI s N) K := by
  obtain ⟨fa, sa, hI, hy, hbud, hsz⟩ := id hJ
  have hk := bud_r hI hbud hc
  have hC := hI.C
  unfold mCnt at hC
  have n88 := hI.B.1
  have hR := hI.R
  have hkp : N 3 19 = N 39 10 + N 39 31 := hy.1
  refine x_drop hI hw (fun g1 => ?_) (fun g1 g2 => ?_) (fun g1 g2 => ?_)
  · exact h _ _ _ (by first | exact hI.B | exact hI.B.k sK.ns | exact hI.B.k (sK.ns.trans (sK.ns.trans sK.ns))) (fun Q hq => k_drop hI.B hI.m hw (fun _ => hq _ _ hJ.up) (fun q => absurd q g1) (fun q => absurd q g1))
  · exact h _ _ _ (by first | exact hI.B | exact hI.B.k sK.ns | exact hI.B.k (sK.ns.trans (sK.ns.trans sK.ns))) (fun Q hq => k_drop hI.B hI.m hw (fun q => absurd g1 q) (fun _ _ => hq _ _ hJ.up) (fun _ q => absurd g2 q))
  · refine h _ _ _ (by first | exact hI.B | exact hI.B.k sK.ns | exact hI.B.k (sK.ns.trans (sK.ns.trans sK.ns))) (fun Q hq => ?_)
    have hE : eM N (xn_drop N w) := (eM.m (by omega) eM.rf)
    have hm1 := hE.mI_ (zG_mup (s := s) hI.2.1 (by omega) (by constructor <;> omega)).1 hI.m
    refine k_drop hI.B hm1 hw (fun q => absurd g1 q) (fun _ q => absurd (by rw [← hE 82 (by decide) (by decide)]; exact q) g2) (fun _ _ => ?_)
    obtain ⟨x1, x2, x3⟩ := jx_drop hI hy g1 (N2 := mup (xn_drop N w) 82 w (-4)) rfl
    rw [hE 83 (by decide) (by decide)]
    exact hq _ _ ⟨fa, sa, x1, x2, by omega, hsz.n0⟩
set_option maxRecDepth 20000 in
set_option maxHeartbeats 2000000 in
theorem jx_sheet (hI : xI s N fa sa) (hy : yI N) {w l n : Int} (hg : ((0 ≤ w ∧ w ≤ 3) ∧ (0 ≤ l ∧ l ≤ 2) ∧ n ≤ 20)) (hn : 0 ≤ n) {N2 : zN} (e : N2 = (mfil (mup (mup (mfil (mup (mup N (31 + 2 * w).toNat 1 l) (31 + 2 * w).toNat 2 n) (32 + 2 * w).toNat 0 n.toNat) 82 w l) 83 w n) 84 (20 * w) 20)) : xI s N2 fa sa ∧ yI N2 ∧ bud N2 ≤ bud N + 1 := by
  have hB := hI.B
  have hR := hI.R
  have hC := hI.C
  unfold mCnt at hC
  have hm := hI.m
  have n88 := hB.1
  obtain ⟨e1, e5, e7, e8, e10, e11, e3, e12, eh, eg, ef, et⟩ := hI.hs
  have hs : sK s s := sK.rf
  have hG : zG s N2 := by rw [e]; exact (zG_mfil (zG_mup (zG_mup (zG_mfil (zG_mup (zG_mup hI.2.1 (by omega) (by constructor <;> omega)) (by omega) (by constructor <;> omega)) (by omega)) (by omega) (by constructor <;> omega)) (by omega) (by constructor <;> omega)) (by omega))
  have g0 : N2 39 0 = N 39 0 := by rw [e]; exact ((mfil_ne (by omega)).trans ((mup_cell (by omega)).trans ((mup_cell (by omega)).trans ((mfil_ne (by omega)).trans ((mup_cell (by omega)).trans (mup_cell (by omega)))))))
  have g2 : N2 39 2 = N 39 2 := by rw [e]; exact ((mfil_ne (by omega)).trans ((mup_cell (by omega)).trans ((mup_cell (by omega)).trans ((mfil_ne (by omega)).trans ((mup_cell (by omega)).trans (mup_cell (by omega)))))))
  have g10 : N2 39 10 = N 39 10 := by rw [e]; exact ((mfil_ne (by omega)).trans ((mup_cell (by omega)).trans ((mup_cell (by omega)).trans ((mfil_ne (by omega)).trans ((mup_cell (by omega)).trans (mup_cell (by omega)))))))
  have g15 : N2 39 15 = N 39 15 := by rw [e]; exact ((mfil_ne (by omega)).trans ((mup_cell (by omega)).trans ((mup_cell (by omega)).trans ((mfil_ne (by omega)).trans ((mup_cell (by omega)).trans (mup_cell (by omega)))))))
  have g18 : N2 39 18 = N 39 18 := by rw [e]; exact ((mfil_ne (by omega)).trans ((mup_cell (by omega)).trans ((mup_cell (by omega)).trans ((mfil_ne (by omega)).trans ((mup_cell (by omega)).trans (mup_cell (by omega)))))))
  have g26 : N2 39 26 = N 39 26 := by rw [e]; exact ((mfil_ne (by omega)).trans ((mup_cell (by omega)).trans ((mup_cell (by omega)).trans ((mfil_ne (by omega)).trans ((mup_cell (by omega)).trans (mup_cell (by omega)))))))
  have g29 : N2 39 29 = N 39 29 := by rw [e]; exact ((mfil_ne (by omega)).trans ((mup_cell (by omega)).trans ((mup_cell (by omega)).trans ((mfil_ne (by omega)).trans ((mup_cell (by omega)).trans (mup_cell (by omega)))))))
  have g31 : N2 39 31 = N 39 31 := by rw [e]; exact ((mfil_ne (by omega)).trans ((mup_cell (by omega)).trans ((mup_cell (by omega)).trans ((mfil_ne (by omega)).trans ((mup_cell (by omega)).trans (mup_cell (by omega)))))))
  have g36 : N2 39 36 = N 39 36 := by rw [e]; exact ((mfil_ne (by omega)).trans ((mup_cell (by omega)).trans ((mup_cell (by omega)).trans ((mfil_ne (by omega)).trans ((mup_cell (by omega)).trans (mup_cell (by omega)))))))
  have g49 : N2 39 49 = N 39 49 := by rw [e]; exact ((mfil_ne (by omega)).trans ((mup_cell (by omega)).trans ((mup_cell (by omega)).trans ((mfil_ne (by omega)).trans ((mup_cell (by omega)).trans (mup_cell (by omega)))))))
  have g50 : N2 39 50 = N 39 50 := by rw [e]; exact ((mfil_ne (by omega)).trans ((mup_cell (by omega)).trans ((mup_cell (by omega)).trans ((mfil_ne (by omega)).trans ((mup_cell (by omega)).trans (mup_cell (by omega)))))))
  have g58 : N2 39 58 = N 39 58 := by rw [e]; exact ((mfil_ne (by omega)).trans ((mup_cell (by omega)).trans ((mup_cell (by omega)).trans ((mfil_ne (by omega)).trans ((mup_cell (by omega)).trans (mup_cell (by omega)))))))
  have g63 : N2 39 63 = N 39 63 := by rw [e]; exact ((mfil_ne (by omega)).trans ((mup_cell (by omega)).trans ((mup_cell (by omega)).trans ((mfil_ne (by omega)).trans ((mup_cell (by omega)).trans (mup_cell (by omega)))))))
  have r20 : N2 20 = N 20 := by rw [e]; funext x0; exact ((mfil_ne (by omega)).trans ((mup_cell (by omega)).trans ((mup_cell (by omega)).trans ((mfil_ne (by omega)).trans ((mup_cell (by omega)).trans (mup_cell (by omega)))))))
  have ot : ∀ (b : Nat) (x0 : Int), b ≠ (31 + 2 * w).toNat ∧ b ≠ (32 + 2 * w).toNat ∧ b ≠ 82 ∧ b ≠ 83 ∧ b ≠ 84 → N2 b x0 = N b x0 := fun b x0 hb => by rw [e]; exact (mfil_ne (by omega)).trans ((mup_cell (by omega)).trans ((mup_cell (by omega)).trans ((mfil_ne (by omega)).trans ((mup_cell (by omega)).trans (mup_cell (by omega))))))
  have u82 : ∀ i : Int, i ≠ w → N2 82 i = N 82 i := fun i hi => by rw [e]; exact ((mfil_ne (by omega)).trans ((mup_cell (by omega)).trans ((mup_slot (by omega)).trans ((mfil_ne (by omega)).trans ((mup_cell (by omega)).trans (mup_cell (by omega)))))))
  have w82 : N2 82 w = l := by rw [e]; exact ((mfil_ne (by omega)).trans ((mup_cell (by omega)).trans (mup_self _ _ _ _)))
  have u83 : ∀ i : Int, i ≠ w → N2 83 i = N 83 i := fun i hi => by rw [e]; exact ((mfil_ne (by omega)).trans ((mup_slot (by omega)).trans ((mup_cell (by omega)).trans ((mfil_ne (by omega)).trans ((mup_cell (by omega)).trans (mup_cell (by omega)))))))
  have w83 : N2 83 w = n := by rw [e]; exact ((mfil_ne (by omega)).trans (mup_self _ _ _ _))
  have q1 : N2 (31 + 2 * w).toNat 1 = l := by rw [e]; exact ((mfil_ne (by omega)).trans ((mup_cell (by omega)).trans ((mup_cell (by omega)).trans ((mfil_ne (by omega)).trans ((mup_slot (by omega)).trans (mup_self _ _ _ _))))))
  have q2 : N2 (31 + 2 * w).toNat 2 = n := by rw [e]; exact ((mfil_ne (by omega)).trans ((mup_cell (by omega)).trans ((mup_cell (by omega)).trans ((mfil_ne (by omega)).trans (mup_self _ _ _ _)))))
  have z84 : ∀ i : Int, 0 ≤ i → i < 20 → N2 84 (20 * w + i) = 0 := fun i h0 h1 => by
    rw [e]
    exact if_pos ⟨rfl, by omega, by omega⟩
  have o84 : ∀ i : Int, ¬ (20 * w ≤ i ∧ i < 20 * w + 20) → N2 84 i = N 84 i := fun i hi => by
    rw [e]
    refine (if_neg (fun q => hi ⟨q.2.1, by omega⟩)).trans ?_
    exact (mup_cell (by omega)).trans ((mup_cell (by omega)).trans ((mfil_ne (by omega)).trans ((mup_cell (by omega)).trans (mup_cell (by omega)))))
  have zA2 : ∀ i : Int, 0 ≤ i → i < n → N2 (32 + 2 * w).toNat i = 0 := fun i h0 h1 => by
    rw [e]
    refine (mfil_ne (by omega)).trans ((mup_cell (by omega)).trans ((mup_cell (by omega)).trans ?_))
    exact if_pos ⟨rfl, by omega, by omega⟩
  have kCnt : mCnt N2 := by unfold mCnt; omega
  have k_ord : mOrd N2 := mOrd_k (show sC N N2 [48, 49, 50, 59, 61, 62] by rw [e]; exact (sC.f (by decide) (sC.m (by decide) (sC.m (by decide) (sC.fg (by simp only [List.mem_cons, List.not_mem_nil, or_false]; intro b hb; omega) (sC.mg (by simp only [List.mem_cons, List.not_mem_nil, or_false]; intro b hb; omega) (sC.mg (by simp only [List.mem_cons, List.not_mem_nil, or_false]; intro b hb; omega) sC.rf))))))) (show s9 N N2 [10, 31] by rw [e]; exact (s9.f (by omega) (s9.m (by omega) (s9.m (by omega) (s9.f (by omega) (s9.m (by omega) (s9.m (by omega) s9.rf))))))) hI.ord
  have k_ppl : mPpl N2 := mPpl_k (show sC N N2 [41, 42, 43, 44, 45, 46, 47] by rw [e]; exact (sC.f (by decide) (sC.m (by decide) (sC.m (by decide) (sC.fg (by simp only [List.mem_cons, List.not_mem_nil, or_false]; intro b hb; omega) (sC.mg (by simp only [List.mem_cons, List.not_mem_nil, or_false]; intro b hb; omega) (sC.mg (by simp only [List.mem_cons, List.not_mem_nil, or_false]; intro b hb; omega) sC.rf))))))) g2 (by omega) hm.2.2.1
  have k_flt : mFlt N2 := mFlt_k (show sC N N2 [48, 49, 50] by rw [e]; exact (sC.f (by decide) (sC.m (by decide) (sC.m (by decide) (sC.fg (by simp only [List.mem_cons, List.not_mem_nil, or_false]; intro b hb; omega) (sC.mg (by simp only [List.mem_cons, List.not_mem_nil, or_false]; intro b hb; omega) (sC.mg (by simp only [List.mem_cons, List.not_mem_nil, or_false]; intro b hb; omega) sC.rf))))))) g10 (by omega) hm.2.2.2.1
  have k_spl : mSpl N2 := mSpl_k (show sC N N2 [59, 60, 61, 62] by rw [e]; exact (sC.f (by decide) (sC.m (by decide) (sC.m (by decide) (sC.fg (by simp only [List.mem_cons, List.not_mem_nil, or_false]; intro b hb; omega) (sC.mg (by simp only [List.mem_cons, List.not_mem_nil, or_false]; intro b hb; omega) (sC.mg (by simp only [List.mem_cons, List.not_mem_nil, or_false]; intro b hb; omega) sC.rf))))))) g31 (by omega) (by omega) hm.2.2.2.2.1
  have k_sty : mSty N2 := mSty_k (show sC N N2 [63, 64, 65, 66] by rw [e]; exact (sC.f (by decide) (sC.m (by decide) (sC.m (by decide) (sC.fg (by simp only [List.mem_cons, List.not_mem_nil, or_false]; intro b hb; omega) (sC.mg (by simp only [List.mem_cons, List.not_mem_nil, or_false]; intro b hb; omega) (sC.mg (by simp only [List.mem_cons, List.not_mem_nil, or_false]; intro b hb; omega) sC.rf))))))) g36 (by omega) (by omega) hm.2.2.2.2.2.1
  have k_ple : mPle N2 := mPle_k (show sC N N2 [74, 75, 76, 77, 78] by rw [e]; exact (sC.f (by decide) (sC.m (by decide) (sC.m (by decide) (sC.fg (by simp only [List.mem_cons, List.not_mem_nil, or_false]; intro b hb; omega) (sC.mg (by simp only [List.mem_cons, List.not_mem_nil, or_false]; intro b hb; omega) (sC.mg (by simp only [List.mem_cons, List.not_mem_nil, or_false]; intro b hb; omega) sC.rf))))))) g50 (by omega) (by omega) hm.2.2.2.2.2.2
  have k_hs : xHs N2 := xHs_k (show s3 N N2 [1, 3, 5, 8, 10, 11] by rw [e]; exact (s3.f (by omega) (s3.m (by omega) (s3.m (by omega) (s3.f (by omega) (s3.m (by omega) (s3.m (by omega) s3.rf))))))) (show s9 N N2 [0, 2, 15, 26, 29, 36, 50, 58] by rw [e]; exact (s9.f (by omega) (s9.m (by omega) (s9.m (by omega) (s9.f (by omega) (s9.m (by omega) (s9.m (by omega) s9.rf))))))) (show sC N N2 [4, 6, 7, 8, 9, 12, 13, 40, 51, 56, 57, 58] by rw [e]; exact (sC.f (by decide) (sC.m (by decide) (sC.m (by decide) (sC.fg (by simp only [List.mem_cons, List.not_mem_nil, or_false]; intro b hb; omega) (sC.mg (by simp only [List.mem_cons, List.not_mem_nil, or_false]; intro b hb; omega) (sC.mg (by simp only [List.mem_cons, List.not_mem_nil, or_false]; intro b hb; omega) sC.rf))))))) hI.hs
  have k_ps : xPs s N2 fa sa := xPs_k hs (show s8 s N N2 4 by rw [e]; exact (s8.lof (by decide) (s8.lo (by decide) (s8.lo (by decide) (s8.lof (by omega) (s8.lo (by omega) (s8.lo (by omega) s8.rf))))))) ((show sC N N2 [5] by rw [e]; exact (sC.f (by decide) (sC.m (by decide) (sC.m (by decide) (sC.fg (by simp only [List.mem_cons, List.not_mem_nil, or_false]; intro b hb; omega) (sC.mg (by simp only [List.mem_cons, List.not_mem_nil, or_false]; intro b hb; omega) (sC.mg (by simp only [List.mem_cons, List.not_mem_nil, or_false]; intro b hb; omega) sC.rf))))))) 5 (by simp)) (show sC N N2 [41, 42, 43, 44, 45, 46, 47, 48, 59, 73] by rw [e]; exact (sC.f (by decide) (sC.m (by decide) (sC.m (by decide) (sC.fg (by simp only [List.mem_cons, List.not_mem_nil, or_false]; intro b hb; omega) (sC.mg (by simp only [List.mem_cons, List.not_mem_nil, or_false]; intro b hb; omega) (sC.mg (by simp only [List.mem_cons, List.not_mem_nil, or_false]; intro b hb; omega) sC.rf))))))) (show s9 N N2 [2, 10, 31, 49] by rw [e]; exact (s9.f (by omega) (s9.m (by omega) (s9.m (by omega) (s9.f (by omega) (s9.m (by omega) (s9.m (by omega) s9.rf))))))) hI.ps
  have k_fs : xFs s N2 fa := xFs_k hs (show s8 s N N2 2 by rw [e]; exact (s8.lof (by decide) (s8.lo (by decide) (s8.lo (by decide) (s8.lof (by omega) (s8.lo (by omega) (s8.lo (by omega) s8.rf))))))) (show sC N N2 [48, 49, 50] by rw [e]; exact (sC.f (by decide) (sC.m (by decide) (sC.m (by decide) (sC.fg (by simp only [List.mem_cons, List.not_mem_nil, or_false]; intro b hb; omega) (sC.mg (by simp only [List.mem_cons, List.not_mem_nil, or_false]; intro b hb; omega) (sC.mg (by simp only [List.mem_cons, List.not_mem_nil, or_false]; intro b hb; omega) sC.rf))))))) g10 hI.fs
  have k_ss : xSs s N2 sa := xSs_k hs (show s8 s N N2 8 by rw [e]; exact (s8.lof (by decide) (s8.lo (by decide) (s8.lo (by decide) (s8.lof (by omega) (s8.lo (by omega) (s8.lo (by omega) s8.rf))))))) (show sC N N2 [59, 60, 61, 62] by rw [e]; exact (sC.f (by decide) (sC.m (by decide) (sC.m (by decide) (sC.fg (by simp only [List.mem_cons, List.not_mem_nil, or_false]; intro b hb; omega) (sC.mg (by simp only [List.mem_cons, List.not_mem_nil, or_false]; intro b hb; omega) (sC.mg (by simp only [List.mem_cons, List.not_mem_nil, or_false]; intro b hb; omega) sC.rf))))))) g31 hI.ss
  have k_ys : xYs s N2 := xYs_k hs (show s8 s N N2 9 by rw [e]; exact (s8.lof (by decide) (s8.lo (by decide) (s8.lo (by decide) (s8.lof (by omega) (s8.lo (by omega) (s8.lo (by omega) s8.rf))))))) (show sC N N2 [10, 63, 64, 65, 66] by rw [e]; exact (sC.f (by decide) (sC.m (by decide) (sC.m (by decide) (sC.fg (by simp only [List.mem_cons, List.not_mem_nil, or_false]; intro b hb; omega) (sC.mg (by simp only [List.mem_cons, List.not_mem_nil, or_false]; intro b hb; omega) (sC.mg (by simp only [List.mem_cons, List.not_mem_nil, or_false]; intro b hb; omega) sC.rf))))))) g36 hI.ys
  have k_ls : xLs s N2 fa := xLs_k hs (show s8 s N N2 5 by rw [e]; exact (s8.lof (by decide) (s8.lo (by decide) (s8.lo (by decide) (s8.lof (by omega) (s8.lo (by omega) (s8.lo (by omega) s8.rf))))))) (show s8 s N N2 20 by rw [e]; exact (s8.lof (by decide) (s8.lo (by decide) (s8.lo (by decide) (s8.lof (by omega) (s8.lo (by omega) (s8.lo (by omega) s8.rf))))))) (show s8 s N N2 21 by rw [e]; exact (s8.lof (by decide) (s8.lo (by decide) (s8.lo (by decide) (s8.lof (by omega) (s8.lo (by omega) (s8.lo (by omega) s8.rf))))))) (show sC N N2 [11, 48, 74, 75, 76, 77, 78, 79, 80] by rw [e]; exact (sC.f (by decide) (sC.m (by decide) (sC.m (by decide) (sC.fg (by simp only [List.mem_cons, List.not_mem_nil, or_false]; intro b hb; omega) (sC.mg (by simp only [List.mem_cons, List.not_mem_nil, or_false]; intro b hb; omega) (sC.mg (by simp only [List.mem_cons, List.not_mem_nil, or_false]; intro b hb; omega) sC.rf))))))) g50 hI.ls
  have k_law : xLaw N2 := xLaw_k (show sC N N2 [14, 15, 16, 17, 18, 19, 52, 53] by rw [e]; exact (sC.f (by decide) (sC.m (by decide) (sC.m (by decide) (sC.fg (by simp only [List.mem_cons, List.not_mem_nil, or_false]; intro b hb; omega) (sC.mg (by simp only [List.mem_cons, List.not_mem_nil, or_false]; intro b hb; omega) (sC.mg (by simp only [List.mem_cons, List.not_mem_nil, or_false]; intro b hb; omega) sC.rf))))))) ((show s3 N N2 [13] by rw [e]; exact (s3.f (by omega) (s3.m (by omega) (s3.m (by omega) (s3.f (by omega) (s3.m (by omega) (s3.m (by omega) s3.rf))))))) 13 (by simp)) ((show s3 N N2 [14] by rw [e]; exact (s3.f (by omega) (s3.m (by omega) (s3.m (by omega) (s3.f (by omega) (s3.m (by omega) (s3.m (by omega) s3.rf))))))) 14 (by simp)) g18 hI.law
  have k_sh : xSh N2 := by
    intro j0 h0 h1
    have hj := hI.sh j0 h0 h1
    rw [r20]
    by_cases hw : j0 = w
    · subst hw
      rw [w82, w83, q1, q2]
      refine ⟨hj.1, rfl, rfl, by omega, fun i h2 h3 => ?_⟩
      rw [zA2 i h2 h3, z84 i h2 (by omega)]
    · rw [u82 j0 hw, u83 j0 hw, ot _ _ (by omega), ot _ _ (by omega)]
      refine ⟨hj.1, hj.2.1, hj.2.2.1, hj.2.2.2.1, fun i h2 h3 => ?_⟩
      have hj4 := hj.2.2.2.1
      rw [ot _ _ (by omega), o84 _ (by omega)]
      exact hj.2.2.2.2 i h2 h3
  have k_ro : xRo N2 := xRo_k (show sC N N2 [21, 22, 23, 24, 85, 86, 87] by rw [e]; exact (sC.f (by decide) (sC.m (by decide) (sC.m (by decide) (sC.fg (by simp only [List.mem_cons, List.not_mem_nil, or_false]; intro b hb; omega) (sC.mg (by simp only [List.mem_cons, List.not_mem_nil, or_false]; intro b hb; omega) (sC.mg (by simp only [List.mem_cons, List.not_mem_nil, or_false]; intro b hb; omega) sC.rf))))))) g63 hI.ro
  have k_kp : yKp N2 := yKp_k (show s3 N N2 [19] by rw [e]; exact (s3.f (by omega) (s3.m (by omega) (s3.m (by omega) (s3.f (by omega) (s3.m (by omega) (s3.m (by omega) s3.rf))))))) (show s9 N N2 [10, 31] by rw [e]; exact (s9.f (by omega) (s9.m (by omega) (s9.m (by omega) (s9.f (by omega) (s9.m (by omega) (s9.m (by omega) s9.rf))))))) hy.1
  have k_ow : yOw N2 := yOw_k (show sC N N2 [76, 77, 80] by rw [e]; exact (sC.f (by decide) (sC.m (by decide) (sC.m (by decide) (sC.fg (by simp only [List.mem_cons, List.not_mem_nil, or_false]; intro b hb; omega) (sC.mg (by simp only [List.mem_cons, List.not_mem_nil, or_false]; intro b hb; omega) (sC.mg (by simp only [List.mem_cons, List.not_mem_nil, or_false]; intro b hb; omega) sC.rf))))))) (show s9 N N2 [50] by rw [e]; exact (s9.f (by omega) (s9.m (by omega) (s9.m (by omega) (s9.f (by omega) (s9.m (by omega) (s9.m (by omega) s9.rf))))))) hy.2.1
  have k_tp : yTp N2 := yTp_k (show sC N N2 [51] by rw [e]; exact (sC.f (by decide) (sC.m (by decide) (sC.m (by decide) (sC.fg (by simp only [List.mem_cons, List.not_mem_nil, or_false]; intro b hb; omega) (sC.mg (by simp only [List.mem_cons, List.not_mem_nil, or_false]; intro b hb; omega) (sC.mg (by simp only [List.mem_cons, List.not_mem_nil, or_false]; intro b hb; omega) sC.rf))))))) (show s9 N N2 [15] by rw [e]; exact (s9.f (by omega) (s9.m (by omega) (s9.m (by omega) (s9.f (by omega) (s9.m (by omega) (s9.m (by omega) s9.rf))))))) hy.2.2.1
  have k_yro : yRo N2 := yRo_k (show sC N N2 [85, 86] by rw [e]; exact (sC.f (by decide) (sC.m (by decide) (sC.m (by decide) (sC.fg (by simp only [List.mem_cons, List.not_mem_nil, or_false]; intro b hb; omega) (sC.mg (by simp only [List.mem_cons, List.not_mem_nil, or_false]; intro b hb; omega) (sC.mg (by simp only [List.mem_cons, List.not_mem_nil, or_false]; intro b hb; omega) sC.rf))))))) hy.2.2.2.1
  have k_ln : yLn N2 := yLn_k (show sC N N2 [40, 58] by rw [e]; exact (sC.f (by decide) (sC.m (by decide) (sC.m (by decide) (sC.fg (by simp only [List.mem_cons, List.not_mem_nil, or_false]; intro b hb; omega) (sC.mg (by simp only [List.mem_cons, List.not_mem_nil, or_false]; intro b hb; omega) (sC.mg (by simp only [List.mem_cons, List.not_mem_nil, or_false]; intro b hb; omega) sC.rf))))))) (show s9 N N2 [0, 29] by rw [e]; exact (s9.f (by omega) (s9.m (by omega) (s9.m (by omega) (s9.f (by omega) (s9.m (by omega) (s9.m (by omega) s9.rf))))))) hy.2.2.2.2.1
  have k_cm : yCm N2 := yCm_k (show sC N N2 [73] by rw [e]; exact (sC.f (by decide) (sC.m (by decide) (sC.m (by decide) (sC.fg (by simp only [List.mem_cons, List.not_mem_nil, or_false]; intro b hb; omega) (sC.mg (by simp only [List.mem_cons, List.not_mem_nil, or_false]; intro b hb; omega) (sC.mg (by simp only [List.mem_cons, List.not_mem_nil, or_false]; intro b hb; omega) sC.rf))))))) (show s9 N N2 [2, 49] by rw [e]; exact (s9.f (by omega) (s9.m (by omega) (s9.m (by omega) (s9.f (by omega) (s9.m (by omega) (s9.m (by omega) s9.rf))))))) hy.2.2.2.2.2.1
  have k_bf : yBf N2 := yBf_k (show sC N N2 [42, 48, 49] by rw [e]; exact (sC.f (by decide) (sC.m (by decide) (sC.m (by decide) (sC.fg (by simp only [List.mem_cons, List.not_mem_nil, or_false]; intro b hb; omega) (sC.mg (by simp only [List.mem_cons, List.not_mem_nil, or_false]; intro b hb; omega) (sC.mg (by simp only [List.mem_cons, List.not_mem_nil, or_false]; intro b hb; omega) sC.rf))))))) (show s9 N N2 [10] by rw [e]; exact (s9.f (by omega) (s9.m (by omega) (s9.m (by omega) (s9.f (by omega) (s9.m (by omega) (s9.m (by omega) s9.rf))))))) hy.2.2.2.2.2.2
  have k_bud : bud N2 ≤ bud N + 1 := by have := bud_k (show sC N N2 [59, 62] by rw [e]; exact (sC.f (by decide) (sC.m (by decide) (sC.m (by decide) (sC.fg (by simp only [List.mem_cons, List.not_mem_nil, or_false]; intro b hb; omega) (sC.mg (by simp only [List.mem_cons, List.not_mem_nil, or_false]; intro b hb; omega) (sC.mg (by simp only [List.mem_cons, List.not_mem_nil, or_false]; intro b hb; omega) sC.rf))))))) (show s9 N N2 [2, 10, 31] by rw [e]; exact (s9.f (by omega) (s9.m (by omega) (s9.m (by omega) (s9.f (by omega) (s9.m (by omega) (s9.m (by omega) s9.rf))))))); omega
  exact ⟨⟨hB.k hs, hG, ⟨hG.1, kCnt, k_ppl, k_flt, k_spl, k_sty, k_ple⟩, k_ord, k_hs, k_ps, k_fs, k_ss, k_ys, k_ls, k_law, k_sh, k_ro⟩, ⟨k_kp, k_ow, k_tp, k_yro, k_ln, k_cm, k_bf⟩, k_bud⟩
theorem j_sheet (hJ : xJ s N c) (hc : c < 512) {w l n : Int} (hw : zr w) (hl : zr l) (hn : zr n) (h : jK X c m_X12_sheet [.ref 39, vi w, vi l, vi n] K) : zC X m_X11_sheet [.ref 3, vi w, vi l, vi n] (zI s N) K := by
  obtain ⟨fa, sa, hI, hy, hbud, hsz⟩ := id hJ
  have hk := bud_r hI hbud hc
  have hC := hI.C
  unfold mCnt at hC
  have n88 := hI.B.1
  have hR := hI.R
  have hkp : N 3 19 = N 39 10 + N 39 31 := hy.1
  refine x_sheet hI hw hl hn (fun g1 => ?_) (fun g1 g2 => ?_) (fun g1 g2 => ?_)
  · exact h _ _ _ (by first | exact hI.B | exact hI.B.k sK.ns | exact hI.B.k (sK.ns.trans (sK.ns.trans sK.ns))) (fun Q hq => k_sheet hI.B hI.m hw hl hn (fun _ => hq _ _ hJ.up) (fun q => absurd q g1) (fun q => absurd q g1))
  · exact h _ _ _ (by first | exact hI.B | exact hI.B.k sK.ns | exact hI.B.k (sK.ns.trans (sK.ns.trans sK.ns))) (fun Q hq => k_sheet hI.B hI.m hw hl hn (fun q => absurd g1 q) (fun _ _ => hq _ _ hJ.up) (fun _ q => absurd q (by omega)))
  · refine h _ _ _ (by first | exact hI.B | exact hI.B.k sK.ns | exact hI.B.k (sK.ns.trans (sK.ns.trans sK.ns))) (fun Q hq => ?_)
    have hE : eM N (xn_sheet N w l n) := (eM.f (by omega) (eM.m (by omega) (eM.m (by omega) eM.rf)))
    have hm1 : mI (xn_sheet N w l n) := hE.mI_ (zG_mfil (s := s) (zG_mup (zG_mup hI.2.1 (by omega) (by constructor <;> omega)) (by omega) (by constructor <;> omega)) (by omega)).1 hI.m
    refine k_sheet hI.B hm1 hw hl hn (fun q => absurd g1 q) (fun _ q => absurd q (by omega)) (fun _ _ => ?_)
    obtain ⟨x1, x2, x3⟩ := jx_sheet hI hy g1 g2 (N2 := n_sheet (xn_sheet N w l n) w l n) rfl
    exact hq _ _ ⟨fa, sa, x1, x2, by omega, hsz.n0⟩
theorem i32_r (x : Int32) : zr x.toInt := ⟨Int32.le_toInt x, Int32.toInt_le x⟩
theorem nar_r {l v : Int} (hv : zr v) : zr (nar l v) := by
  unfold nar
  split
  · exact i32_r _
  · split
    · exact i32_r _
    · exact hv
set_option maxRecDepth 20000 in
set_option maxHeartbeats 2000000 in
theorem jx_item (hI : xI s N fa sa) (hy : yI N) {w l i v : Int} (hv : zr v) (hw0 : 0 ≤ w ∧ w ≤ 3) (hi0 : 0 ≤ i ∧ i < N 83 w) (hs20 : N 83 w ≤ 20) {N2 : zN} (e : N2 = (mup (mup N (32 + 2 * w).toNat i (nar l v)) 84 (20 * w + i) (nar l v))) : xI s N2 fa sa ∧ yI N2 ∧ bud N2 ≤ bud N + 1 := by
  have hB := hI.B
  have hR := hI.R
  have hC := hI.C
  unfold mCnt at hC
  have hm := hI.m
  have n88 := hB.1
  obtain ⟨e1, e5, e7, e8, e10, e11, e3, e12, eh, eg, ef, et⟩ := hI.hs
  have hs : sK s s := sK.rf
  have hG : zG s N2 := by rw [e]; exact (zG_mup (zG_mup hI.2.1 (by omega) (nar_r hv)) (by omega) (nar_r hv))
  have g0 : N2 39 0 = N 39 0 := by rw [e]; exact ((mup_cell (by omega)).trans (mup_cell (by omega)))
  have g2 : N2 39 2 = N 39 2 := by rw [e]; exact ((mup_cell (by omega)).trans (mup_cell (by omega)))
  have g10 : N2 39 10 = N 39 10 := by rw [e]; exact ((mup_cell (by omega)).trans (mup_cell (by omega)))
  have g15 : N2 39 15 = N 39 15 := by rw [e]; exact ((mup_cell (by omega)).trans (mup_cell (by omega)))
  have g18 : N2 39 18 = N 39 18 := by rw [e]; exact ((mup_cell (by omega)).trans (mup_cell (by omega)))
  have g26 : N2 39 26 = N 39 26 := by rw [e]; exact ((mup_cell (by omega)).trans (mup_cell (by omega)))
  have g29 : N2 39 29 = N 39 29 := by rw [e]; exact ((mup_cell (by omega)).trans (mup_cell (by omega)))
  have g31 : N2 39 31 = N 39 31 := by rw [e]; exact ((mup_cell (by omega)).trans (mup_cell (by omega)))
  have g36 : N2 39 36 = N 39 36 := by rw [e]; exact ((mup_cell (by omega)).trans (mup_cell (by omega)))
  have g49 : N2 39 49 = N 39 49 := by rw [e]; exact ((mup_cell (by omega)).trans (mup_cell (by omega)))
  have g50 : N2 39 50 = N 39 50 := by rw [e]; exact ((mup_cell (by omega)).trans (mup_cell (by omega)))
  have g58 : N2 39 58 = N 39 58 := by rw [e]; exact ((mup_cell (by omega)).trans (mup_cell (by omega)))
  have g63 : N2 39 63 = N 39 63 := by rw [e]; exact ((mup_cell (by omega)).trans (mup_cell (by omega)))
  have r20 : N2 20 = N 20 := by rw [e]; funext x0; exact ((mup_cell (by omega)).trans (mup_cell (by omega)))
  have r82 : N2 82 = N 82 := by rw [e]; funext x0; exact ((mup_cell (by omega)).trans (mup_cell (by omega)))
  have r83 : N2 83 = N 83 := by rw [e]; funext x0; exact ((mup_cell (by omega)).trans (mup_cell (by omega)))
  have ot : ∀ (b : Nat) (x0 : Int), b ≠ (32 + 2 * w).toNat ∧ b ≠ 84 → N2 b x0 = N b x0 := fun b x0 hb => by rw [e]; exact ((mup_cell (by omega)).trans (mup_cell (by omega)))
  have w84 : N2 84 (20 * w + i) = nar l v := by rw [e]; exact mup_self _ _ _ _
  have u84 : ∀ x0 : Int, x0 ≠ 20 * w + i → N2 84 x0 = N 84 x0 := fun x0 hx => by rw [e]; exact (mup_slot hx).trans (mup_cell (by omega))
  have wA : N2 (32 + 2 * w).toNat i = nar l v := by rw [e]; exact (mup_cell (by omega)).trans (mup_self _ _ _ _)
  have uA : ∀ x0 : Int, x0 ≠ i → N2 (32 + 2 * w).toNat x0 = N (32 + 2 * w).toNat x0 := fun x0 hx => by rw [e]; exact (mup_cell (by omega)).trans (mup_slot hx)
  have kCnt : mCnt N2 := by unfold mCnt; omega
  have k_ord : mOrd N2 := mOrd_k (show sC N N2 [48, 49, 50, 59, 61, 62] by rw [e]; exact (sC.m (by decide) (sC.mg (by simp only [List.mem_cons, List.not_mem_nil, or_false]; intro b hb; omega) sC.rf))) (show s9 N N2 [10, 31] by rw [e]; exact (s9.m (by omega) (s9.m (by omega) s9.rf))) hI.ord
  have k_ppl : mPpl N2 := mPpl_k (show sC N N2 [41, 42, 43, 44, 45, 46, 47] by rw [e]; exact (sC.m (by decide) (sC.mg (by simp only [List.mem_cons, List.not_mem_nil, or_false]; intro b hb; omega) sC.rf))) g2 (by omega) hm.2.2.1
  have k_flt : mFlt N2 := mFlt_k (show sC N N2 [48, 49, 50] by rw [e]; exact (sC.m (by decide) (sC.mg (by simp only [List.mem_cons, List.not_mem_nil, or_false]; intro b hb; omega) sC.rf))) g10 (by omega) hm.2.2.2.1
  have k_spl : mSpl N2 := mSpl_k (show sC N N2 [59, 60, 61, 62] by rw [e]; exact (sC.m (by decide) (sC.mg (by simp only [List.mem_cons, List.not_mem_nil, or_false]; intro b hb; omega) sC.rf))) g31 (by omega) (by omega) hm.2.2.2.2.1
  have k_sty : mSty N2 := mSty_k (show sC N N2 [63, 64, 65, 66] by rw [e]; exact (sC.m (by decide) (sC.mg (by simp only [List.mem_cons, List.not_mem_nil, or_false]; intro b hb; omega) sC.rf))) g36 (by omega) (by omega) hm.2.2.2.2.2.1
  have k_ple : mPle N2 := mPle_k (show sC N N2 [74, 75, 76, 77, 78] by rw [e]; exact (sC.m (by decide) (sC.mg (by simp only [List.mem_cons, List.not_mem_nil, or_false]; intro b hb; omega) sC.rf))) g50 (by omega) (by omega) hm.2.2.2.2.2.2
  have k_hs : xHs N2 := xHs_k (show s3 N N2 [1, 3, 5, 8, 10, 11] by rw [e]; exact (s3.m (by omega) (s3.m (by omega) s3.rf))) (show s9 N N2 [0, 2, 15, 26, 29, 36, 50, 58] by rw [e]; exact (s9.m (by omega) (s9.m (by omega) s9.rf))) (show sC N N2 [4, 6, 7, 8, 9, 12, 13, 40, 51, 56, 57, 58] by rw [e]; exact (sC.m (by decide) (sC.mg (by simp only [List.mem_cons, List.not_mem_nil, or_false]; intro b hb; omega) sC.rf))) hI.hs
  have k_ps : xPs s N2 fa sa := xPs_k hs (show s8 s N N2 4 by rw [e]; exact (s8.lo (by decide) (s8.lo (by omega) s8.rf))) ((show sC N N2 [5] by rw [e]; exact (sC.m (by decide) (sC.mg (by simp only [List.mem_cons, List.not_mem_nil, or_false]; intro b hb; omega) sC.rf))) 5 (by simp)) (show sC N N2 [41, 42, 43, 44, 45, 46, 47, 48, 59, 73] by rw [e]; exact (sC.m (by decide) (sC.mg (by simp only [List.mem_cons, List.not_mem_nil, or_false]; intro b hb; omega) sC.rf))) (show s9 N N2 [2, 10, 31, 49] by rw [e]; exact (s9.m (by omega) (s9.m (by omega) s9.rf))) hI.ps
  have k_fs : xFs s N2 fa := xFs_k hs (show s8 s N N2 2 by rw [e]; exact (s8.lo (by decide) (s8.lo (by omega) s8.rf))) (show sC N N2 [48, 49, 50] by rw [e]; exact (sC.m (by decide) (sC.mg (by simp only [List.mem_cons, List.not_mem_nil, or_false]; intro b hb; omega) sC.rf))) g10 hI.fs
  have k_ss : xSs s N2 sa := xSs_k hs (show s8 s N N2 8 by rw [e]; exact (s8.lo (by decide) (s8.lo (by omega) s8.rf))) (show sC N N2 [59, 60, 61, 62] by rw [e]; exact (sC.m (by decide) (sC.mg (by simp only [List.mem_cons, List.not_mem_nil, or_false]; intro b hb; omega) sC.rf))) g31 hI.ss
  have k_ys : xYs s N2 := xYs_k hs (show s8 s N N2 9 by rw [e]; exact (s8.lo (by decide) (s8.lo (by omega) s8.rf))) (show sC N N2 [10, 63, 64, 65, 66] by rw [e]; exact (sC.m (by decide) (sC.mg (by simp only [List.mem_cons, List.not_mem_nil, or_false]; intro b hb; omega) sC.rf))) g36 hI.ys
  have k_ls : xLs s N2 fa := xLs_k hs (show s8 s N N2 5 by rw [e]; exact (s8.lo (by decide) (s8.lo (by omega) s8.rf))) (show s8 s N N2 20 by rw [e]; exact (s8.lo (by decide) (s8.lo (by omega) s8.rf))) (show s8 s N N2 21 by rw [e]; exact (s8.lo (by decide) (s8.lo (by omega) s8.rf))) (show sC N N2 [11, 48, 74, 75, 76, 77, 78, 79, 80] by rw [e]; exact (sC.m (by decide) (sC.mg (by simp only [List.mem_cons, List.not_mem_nil, or_false]; intro b hb; omega) sC.rf))) g50 hI.ls
  have k_law : xLaw N2 := xLaw_k (show sC N N2 [14, 15, 16, 17, 18, 19, 52, 53] by rw [e]; exact (sC.m (by decide) (sC.mg (by simp only [List.mem_cons, List.not_mem_nil, or_false]; intro b hb; omega) sC.rf))) ((show s3 N N2 [13] by rw [e]; exact (s3.m (by omega) (s3.m (by omega) s3.rf))) 13 (by simp)) ((show s3 N N2 [14] by rw [e]; exact (s3.m (by omega) (s3.m (by omega) s3.rf))) 14 (by simp)) g18 hI.law
  have k_sh : xSh N2 := by
    intro j0 h0 h1
    have hj := hI.sh j0 h0 h1
    rw [r20, r82, r83, ot _ _ (by omega), ot _ _ (by omega)]
    refine ⟨hj.1, hj.2.1, hj.2.2.1, hj.2.2.2.1, fun i0 h2 h3 => ?_⟩
    have hj4 := hj.2.2.2.1
    by_cases hw : j0 = w
    · subst hw
      by_cases hi : i0 = i
      · rw [hi, wA, w84]
      · rw [uA i0 hi, u84 _ (by omega)]
        exact hj.2.2.2.2 i0 h2 h3
    · rw [ot _ _ (by omega), u84 _ (by omega)]
      exact hj.2.2.2.2 i0 h2 h3
  have k_ro : xRo N2 := xRo_k (show sC N N2 [21, 22, 23, 24, 85, 86, 87] by rw [e]; exact (sC.m (by decide) (sC.mg (by simp only [List.mem_cons, List.not_mem_nil, or_false]; intro b hb; omega) sC.rf))) g63 hI.ro
  have k_kp : yKp N2 := yKp_k (show s3 N N2 [19] by rw [e]; exact (s3.m (by omega) (s3.m (by omega) s3.rf))) (show s9 N N2 [10, 31] by rw [e]; exact (s9.m (by omega) (s9.m (by omega) s9.rf))) hy.1
  have k_ow : yOw N2 := yOw_k (show sC N N2 [76, 77, 80] by rw [e]; exact (sC.m (by decide) (sC.mg (by simp only [List.mem_cons, List.not_mem_nil, or_false]; intro b hb; omega) sC.rf))) (show s9 N N2 [50] by rw [e]; exact (s9.m (by omega) (s9.m (by omega) s9.rf))) hy.2.1
  have k_tp : yTp N2 := yTp_k (show sC N N2 [51] by rw [e]; exact (sC.m (by decide) (sC.mg (by simp only [List.mem_cons, List.not_mem_nil, or_false]; intro b hb; omega) sC.rf))) (show s9 N N2 [15] by rw [e]; exact (s9.m (by omega) (s9.m (by omega) s9.rf))) hy.2.2.1
  have k_yro : yRo N2 := yRo_k (show sC N N2 [85, 86] by rw [e]; exact (sC.m (by decide) (sC.mg (by simp only [List.mem_cons, List.not_mem_nil, or_false]; intro b hb; omega) sC.rf))) hy.2.2.2.1
  have k_ln : yLn N2 := yLn_k (show sC N N2 [40, 58] by rw [e]; exact (sC.m (by decide) (sC.mg (by simp only [List.mem_cons, List.not_mem_nil, or_false]; intro b hb; omega) sC.rf))) (show s9 N N2 [0, 29] by rw [e]; exact (s9.m (by omega) (s9.m (by omega) s9.rf))) hy.2.2.2.2.1
  have k_cm : yCm N2 := yCm_k (show sC N N2 [73] by rw [e]; exact (sC.m (by decide) (sC.mg (by simp only [List.mem_cons, List.not_mem_nil, or_false]; intro b hb; omega) sC.rf))) (show s9 N N2 [2, 49] by rw [e]; exact (s9.m (by omega) (s9.m (by omega) s9.rf))) hy.2.2.2.2.2.1
  have k_bf : yBf N2 := yBf_k (show sC N N2 [42, 48, 49] by rw [e]; exact (sC.m (by decide) (sC.mg (by simp only [List.mem_cons, List.not_mem_nil, or_false]; intro b hb; omega) sC.rf))) (show s9 N N2 [10] by rw [e]; exact (s9.m (by omega) (s9.m (by omega) s9.rf))) hy.2.2.2.2.2.2
  have k_bud : bud N2 ≤ bud N + 1 := by have := bud_k (show sC N N2 [59, 62] by rw [e]; exact (sC.m (by decide) (sC.mg (by simp only [List.mem_cons, List.not_mem_nil, or_false]; intro b hb; omega) sC.rf))) (show s9 N N2 [2, 10, 31] by rw [e]; exact (s9.m (by omega) (s9.m (by omega) s9.rf))); omega
  exact ⟨⟨hB.k hs, hG, ⟨hG.1, kCnt, k_ppl, k_flt, k_spl, k_sty, k_ple⟩, k_ord, k_hs, k_ps, k_fs, k_ss, k_ys, k_ls, k_law, k_sh, k_ro⟩, ⟨k_kp, k_ow, k_tp, k_yro, k_ln, k_cm, k_bf⟩, k_bud⟩
theorem refus_v {w l : Int} : (¬ ((0 ≤ w ∧ w ≤ 3) ∧ (0 ≤ l ∧ l ≤ 2)) → refus N w l = -1) ∧ (((0 ≤ w ∧ w ≤ 3) ∧ (0 ≤ l ∧ l ≤ 2)) → N 82 w = -4 → refus N w l = -11) ∧ (((0 ≤ w ∧ w ≤ 3) ∧ (0 ≤ l ∧ l ≤ 2)) → N 82 w ≠ -4 → N 82 w ≠ l → refus N w l = -12) ∧ (((0 ≤ w ∧ w ≤ 3) ∧ (0 ≤ l ∧ l ≤ 2)) → N 82 w ≠ -4 → N 82 w = l → refus N w l = 0) := by
  refine ⟨fun h => zif_f h, fun h h1 => ?_, fun h h1 h2 => ?_, fun h h1 h2 => ?_⟩
  · unfold refus; rw [zif_t h, if_pos h1]
  · unfold refus; rw [zif_t h, if_neg h1, if_neg h2]
  · unfold refus; rw [zif_t h, if_neg h1, if_pos h2]
theorem j_item (hJ : xJ s N c) (hc : c < 512) {w l i v : Int} (hw : zr w) (hl : zr l) (hi : zr i) (hv : zr v) (h : jK X c m_X12_item [.ref 39, vi w, vi l, vi i, vi v] K) : zC X m_X11_item [.ref 3, vi w, vi l, vi i, vi v] (zI s N) K := by
  obtain ⟨fa, sa, hI, hy, hbud, hsz⟩ := id hJ
  have hk := bud_r hI hbud hc
  have hC := hI.C
  unfold mCnt at hC
  have n88 := hI.B.1
  have hR := hI.R
  have hkp : N 3 19 = N 39 10 + N 39 31 := hy.1
  have hsl : ∀ w : Int, 0 ≤ w → w ≤ 3 → 0 ≤ N 83 w ∧ N 83 w ≤ 20 := fun w h0 h1 => (hI.sh w h0 (by omega)).2.2.2.1
  have rv := refus_v (N := N) (w := w) (l := l)
  refine x_item hI hw hl hi (fun g1 => ?_) (fun g1 g2 g3 g4 => ?_) (fun g1 g2 g3 g4 => ?_)
  · refine h _ _ _ (by first | exact hI.B | exact hI.B.k sK.ns | exact hI.B.k (sK.ns.trans (sK.ns.trans sK.ns))) (fun Q hq => k_item hI.B hI.m hw hl hi hsl (fun q => ?_) (fun q1 q2 => ?_) (fun q1 q2 q3 => ?_) (fun q1 q2 q3 => absurd (rv.2.2.2 q1 q2 q3) g1) (fun q1 q2 q3 => absurd (rv.2.2.2 q1 q2 q3) g1))
    · exact zqI (hq _ _ hJ.up) (rv.1 q)
    · exact zqI (hq _ _ hJ.up) (rv.2.1 q1 q2)
    · exact zqI (hq _ _ hJ.up) (rv.2.2.1 q1 q2 q3)
  · exact h _ _ _ (by first | exact hI.B | exact hI.B.k sK.ns | exact hI.B.k (sK.ns.trans (sK.ns.trans sK.ns))) (fun Q hq => k_item hI.B hI.m hw hl hi hsl (fun q => absurd g1 q) (fun _ q => absurd q g2) (fun _ _ q => absurd g3 q) (fun _ _ _ _ => hq _ _ hJ.up) (fun _ _ _ q => absurd q g4))
  · refine h _ _ _ (by first | exact hI.B | exact hI.B.k sK.ns | exact hI.B.k (sK.ns.trans (sK.ns.trans sK.ns))) (fun Q hq => ?_)
    have hE : eM N (mup N (32 + 2 * w).toNat i (nar l v)) := (eM.m (by omega) eM.rf)
    have hm1 := hE.mI_ (zG_mup (s := s) hI.2.1 (by omega) (nar_r hv)).1 hI.m
    refine k_item hI.B hm1 hw hl hi ?_ ?_ ?_ ?_ ?_ ?_
    all_goals
      try rw [hE 82 (by decide) (by decide)]
      try rw [hE 83 (by decide) (by decide)]
    · exact hsl
    · exact fun q => absurd g1 q
    · exact fun _ q => absurd q g2
    · exact fun _ _ q => absurd g3 q
    · exact fun _ _ _ q => absurd g4 q
    · intro _ _ _ _
      obtain ⟨x1, x2, x3⟩ := jx_item hI hy hv g1.1 g4 (hsl w g1.1.1 g1.1.2).2 (l := l) (N2 := mup (mup N (32 + 2 * w).toNat i (nar l v)) 84 (20 * w + i) (nar l v)) rfl
      exact hq _ _ ⟨fa, sa, x1, x2, by omega, hsz.n0⟩
end JN3
