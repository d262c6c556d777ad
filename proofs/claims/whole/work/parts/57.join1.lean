/-! BOTH TOGETHER: house, group, fair (printed by wip/whole/gen/j1.py) -/
section JN1
variable {X : zX} {s : zK} {N : zN} {fa sa : Int → Int} {Q K : Option Value → zS → Prop} {c : Int}
set_option maxRecDepth 20000 in
set_option maxHeartbeats 2000000 in
theorem jx_house (hI : xI s N fa sa) (hy : yI N) {l : Int} (hl : 0 ≤ l ∧ l ≤ 99) (hn : N 39 0 < 20) {N2 : zN} (e : N2 = (mup (mup (mup (mup N 4 (N 39 0) l) 3 1 (N 39 0 + 1)) 40 (N 39 0) l) 39 0 (N 39 0 + 1))) : xI s N2 fa sa ∧ yI N2 ∧ bud N2 ≤ bud N + 1 := by
  have hB := hI.B
  have hR := hI.R
  have hC := hI.C
  unfold mCnt at hC
  have hm := hI.m
  have n88 := hB.1
  obtain ⟨e1, e5, e7, e8, e10, e11, e3, e12, eh, eg, ef, et⟩ := hI.hs
  have hs : sK s s := sK.rf
  have hG : zG s N2 := by rw [e]; exact (zG_mup (zG_mup (zG_mup (zG_mup hI.2.1 (by omega) (by constructor <;> omega)) (by omega) (by constructor <;> omega)) (by omega) (by constructor <;> omega)) (by omega) (by constructor <;> omega))
  have g0 : N2 39 0 = (N 39 0 + 1) := by rw [e]; exact (mup_self _ _ _ _)
  have g2 : N2 39 2 = N 39 2 := by rw [e]; exact ((mup_slot (by omega)).trans ((mup_cell (by omega)).trans ((mup_cell (by omega)).trans (mup_cell (by omega)))))
  have g10 : N2 39 10 = N 39 10 := by rw [e]; exact ((mup_slot (by omega)).trans ((mup_cell (by omega)).trans ((mup_cell (by omega)).trans (mup_cell (by omega)))))
  have g15 : N2 39 15 = N 39 15 := by rw [e]; exact ((mup_slot (by omega)).trans ((mup_cell (by omega)).trans ((mup_cell (by omega)).trans (mup_cell (by omega)))))
  have g18 : N2 39 18 = N 39 18 := by rw [e]; exact ((mup_slot (by omega)).trans ((mup_cell (by omega)).trans ((mup_cell (by omega)).trans (mup_cell (by omega)))))
  have g26 : N2 39 26 = N 39 26 := by rw [e]; exact ((mup_slot (by omega)).trans ((mup_cell (by omega)).trans ((mup_cell (by omega)).trans (mup_cell (by omega)))))
  have g29 : N2 39 29 = N 39 29 := by rw [e]; exact ((mup_slot (by omega)).trans ((mup_cell (by omega)).trans ((mup_cell (by omega)).trans (mup_cell (by omega)))))
  have g31 : N2 39 31 = N 39 31 := by rw [e]; exact ((mup_slot (by omega)).trans ((mup_cell (by omega)).trans ((mup_cell (by omega)).trans (mup_cell (by omega)))))
  have g36 : N2 39 36 = N 39 36 := by rw [e]; exact ((mup_slot (by omega)).trans ((mup_cell (by omega)).trans ((mup_cell (by omega)).trans (mup_cell (by omega)))))
  have g49 : N2 39 49 = N 39 49 := by rw [e]; exact ((mup_slot (by omega)).trans ((mup_cell (by omega)).trans ((mup_cell (by omega)).trans (mup_cell (by omega)))))
  have g50 : N2 39 50 = N 39 50 := by rw [e]; exact ((mup_slot (by omega)).trans ((mup_cell (by omega)).trans ((mup_cell (by omega)).trans (mup_cell (by omega)))))
  have g58 : N2 39 58 = N 39 58 := by rw [e]; exact ((mup_slot (by omega)).trans ((mup_cell (by omega)).trans ((mup_cell (by omega)).trans (mup_cell (by omega)))))
  have g63 : N2 39 63 = N 39 63 := by rw [e]; exact ((mup_slot (by omega)).trans ((mup_cell (by omega)).trans ((mup_cell (by omega)).trans (mup_cell (by omega)))))
  have u4 : ∀ i : Int, i ≠ (N 39 0) → N2 4 i = N 4 i := fun i hi => by rw [e]; exact ((mup_cell (by omega)).trans ((mup_cell (by omega)).trans ((mup_cell (by omega)).trans (mup_slot (by omega)))))
  have w4 : N2 4 (N 39 0) = l := by rw [e]; exact ((mup_cell (by omega)).trans ((mup_cell (by omega)).trans ((mup_cell (by omega)).trans (mup_self _ _ _ _))))
  have u40 : ∀ i : Int, i ≠ (N 39 0) → N2 40 i = N 40 i := fun i hi => by rw [e]; exact ((mup_cell (by omega)).trans ((mup_slot (by omega)).trans ((mup_cell (by omega)).trans (mup_cell (by omega)))))
  have w40 : N2 40 (N 39 0) = l := by rw [e]; exact ((mup_cell (by omega)).trans (mup_self _ _ _ _))
  have kCnt : mCnt N2 := by unfold mCnt; omega
  have k_ord : mOrd N2 := mOrd_k (show sC N N2 [48, 49, 50, 59, 61, 62] by rw [e]; exact (sC.m (by decide) (sC.m (by decide) (sC.m (by decide) (sC.m (by decide) sC.rf))))) (show s9 N N2 [10, 31] by rw [e]; exact (s9.o (by decide) (s9.m (by omega) (s9.m (by omega) (s9.m (by omega) s9.rf))))) hI.ord
  have k_ppl : mPpl N2 := mPpl_k (show sC N N2 [41, 42, 43, 44, 45, 46, 47] by rw [e]; exact (sC.m (by decide) (sC.m (by decide) (sC.m (by decide) (sC.m (by decide) sC.rf))))) g2 (by omega) hm.2.2.1
  have k_flt : mFlt N2 := mFlt_k (show sC N N2 [48, 49, 50] by rw [e]; exact (sC.m (by decide) (sC.m (by decide) (sC.m (by decide) (sC.m (by decide) sC.rf))))) g10 (by omega) hm.2.2.2.1
  have k_spl : mSpl N2 := mSpl_k (show sC N N2 [59, 60, 61, 62] by rw [e]; exact (sC.m (by decide) (sC.m (by decide) (sC.m (by decide) (sC.m (by decide) sC.rf))))) g31 (by omega) (by omega) hm.2.2.2.2.1
  have k_sty : mSty N2 := mSty_k (show sC N N2 [63, 64, 65, 66] by rw [e]; exact (sC.m (by decide) (sC.m (by decide) (sC.m (by decide) (sC.m (by decide) sC.rf))))) g36 (by omega) (by omega) hm.2.2.2.2.2.1
  have k_ple : mPle N2 := mPle_k (show sC N N2 [74, 75, 76, 77, 78] by rw [e]; exact (sC.m (by decide) (sC.m (by decide) (sC.m (by decide) (sC.m (by decide) sC.rf))))) g50 (by omega) (by omega) hm.2.2.2.2.2.2
  have k_hs : xHs N2 := by
    have t1 : N2 3 1 = (N 39 0 + 1) := by rw [e]; exact ((mup_cell (by omega)).trans ((mup_cell (by omega)).trans (mup_self _ _ _ _)))
    have t3 : N2 3 3 = N 3 3 := by rw [e]; exact ((mup_cell (by omega)).trans ((mup_cell (by omega)).trans ((mup_slot (by omega)).trans (mup_cell (by omega)))))
    have t5 : N2 3 5 = N 3 5 := by rw [e]; exact ((mup_cell (by omega)).trans ((mup_cell (by omega)).trans ((mup_slot (by omega)).trans (mup_cell (by omega)))))
    have t8 : N2 3 8 = N 3 8 := by rw [e]; exact ((mup_cell (by omega)).trans ((mup_cell (by omega)).trans ((mup_slot (by omega)).trans (mup_cell (by omega)))))
    have t10 : N2 3 10 = N 3 10 := by rw [e]; exact ((mup_cell (by omega)).trans ((mup_cell (by omega)).trans ((mup_slot (by omega)).trans (mup_cell (by omega)))))
    have t11 : N2 3 11 = N 3 11 := by rw [e]; exact ((mup_cell (by omega)).trans ((mup_cell (by omega)).trans ((mup_slot (by omega)).trans (mup_cell (by omega)))))
    have t7 : N2 7 2 = N 7 2 := by rw [e]; exact ((mup_cell (by omega)).trans ((mup_cell (by omega)).trans ((mup_cell (by omega)).trans (mup_cell (by omega)))))
    have t12 : N2 12 1 = N 12 1 := by rw [e]; exact ((mup_cell (by omega)).trans ((mup_cell (by omega)).trans ((mup_cell (by omega)).trans (mup_cell (by omega)))))
    have r6 : N2 6 = N 6 := (show sC N N2 [6] by rw [e]; exact (sC.m (by decide) (sC.m (by decide) (sC.m (by decide) (sC.m (by decide) sC.rf))))) 6 (by simp)
    have r58 : N2 58 = N 58 := (show sC N N2 [58] by rw [e]; exact (sC.m (by decide) (sC.m (by decide) (sC.m (by decide) (sC.m (by decide) sC.rf))))) 58 (by simp)
    have r8 : N2 8 = N 8 := (show sC N N2 [8] by rw [e]; exact (sC.m (by decide) (sC.m (by decide) (sC.m (by decide) (sC.m (by decide) sC.rf))))) 8 (by simp)
    have r9 : N2 9 = N 9 := (show sC N N2 [9] by rw [e]; exact (sC.m (by decide) (sC.m (by decide) (sC.m (by decide) (sC.m (by decide) sC.rf))))) 9 (by simp)
    have r56 : N2 56 = N 56 := (show sC N N2 [56] by rw [e]; exact (sC.m (by decide) (sC.m (by decide) (sC.m (by decide) (sC.m (by decide) sC.rf))))) 56 (by simp)
    have r57 : N2 57 = N 57 := (show sC N N2 [57] by rw [e]; exact (sC.m (by decide) (sC.m (by decide) (sC.m (by decide) (sC.m (by decide) sC.rf))))) 57 (by simp)
    have r13 : N2 13 = N 13 := (show sC N N2 [13] by rw [e]; exact (sC.m (by decide) (sC.m (by decide) (sC.m (by decide) (sC.m (by decide) sC.rf))))) 13 (by simp)
    have r51 : N2 51 = N 51 := (show sC N N2 [51] by rw [e]; exact (sC.m (by decide) (sC.m (by decide) (sC.m (by decide) (sC.m (by decide) sC.rf))))) 51 (by simp)
    refine ⟨by omega, by omega, by omega, by omega, by omega, by omega, by omega, by omega, fun i h0 h1 => by
      by_cases hi : i = N 39 0
      · rw [hi, w4, w40]
      · rw [u4 i hi, u40 i hi]; exact eh i h0 h1, fun i h0 h1 => by rw [r6, r58]; exact eg i h0 h1, fun i h0 h1 => by rw [r8, r9, r56, r57, g26]; exact ef i h0 h1, fun i h0 h1 => by rw [r13, r51]; rw [g15] at h1; exact et i h0 h1⟩
  have k_ps : xPs s N2 fa sa := xPs_k hs (show s8 s N N2 4 by rw [e]; exact (s8.lo (by decide) (s8.lo (by decide) (s8.lo (by decide) (s8.lo (by decide) s8.rf))))) ((show sC N N2 [5] by rw [e]; exact (sC.m (by decide) (sC.m (by decide) (sC.m (by decide) (sC.m (by decide) sC.rf))))) 5 (by simp)) (show sC N N2 [41, 42, 43, 44, 45, 46, 47, 48, 59, 73] by rw [e]; exact (sC.m (by decide) (sC.m (by decide) (sC.m (by decide) (sC.m (by decide) sC.rf))))) (show s9 N N2 [2, 10, 31, 49] by rw [e]; exact (s9.o (by decide) (s9.m (by omega) (s9.m (by omega) (s9.m (by omega) s9.rf))))) hI.ps
  have k_fs : xFs s N2 fa := xFs_k hs (show s8 s N N2 2 by rw [e]; exact (s8.lo (by decide) (s8.lo (by decide) (s8.lo (by decide) (s8.lo (by decide) s8.rf))))) (show sC N N2 [48, 49, 50] by rw [e]; exact (sC.m (by decide) (sC.m (by decide) (sC.m (by decide) (sC.m (by decide) sC.rf))))) g10 hI.fs
  have k_ss : xSs s N2 sa := xSs_k hs (show s8 s N N2 8 by rw [e]; exact (s8.lo (by decide) (s8.lo (by decide) (s8.lo (by decide) (s8.lo (by decide) s8.rf))))) (show sC N N2 [59, 60, 61, 62] by rw [e]; exact (sC.m (by decide) (sC.m (by decide) (sC.m (by decide) (sC.m (by decide) sC.rf))))) g31 hI.ss
  have k_ys : xYs s N2 := xYs_k hs (show s8 s N N2 9 by rw [e]; exact (s8.lo (by decide) (s8.lo (by decide) (s8.lo (by decide) (s8.lo (by decide) s8.rf))))) (show sC N N2 [10, 63, 64, 65, 66] by rw [e]; exact (sC.m (by decide) (sC.m (by decide) (sC.m (by decide) (sC.m (by decide) sC.rf))))) g36 hI.ys
  have k_ls : xLs s N2 fa := xLs_k hs (show s8 s N N2 5 by rw [e]; exact (s8.lo (by decide) (s8.lo (by decide) (s8.lo (by decide) (s8.lo (by decide) s8.rf))))) (show s8 s N N2 20 by rw [e]; exact (s8.lo (by decide) (s8.lo (by decide) (s8.lo (by decide) (s8.lo (by decide) s8.rf))))) (show s8 s N N2 21 by rw [e]; exact (s8.lo (by decide) (s8.lo (by decide) (s8.lo (by decide) (s8.lo (by decide) s8.rf))))) (show sC N N2 [11, 48, 74, 75, 76, 77, 78, 79, 80] by rw [e]; exact (sC.m (by decide) (sC.m (by decide) (sC.m (by decide) (sC.m (by decide) sC.rf))))) g50 hI.ls
  have k_law : xLaw N2 := xLaw_k (show sC N N2 [14, 15, 16, 17, 18, 19, 52, 53] by rw [e]; exact (sC.m (by decide) (sC.m (by decide) (sC.m (by decide) (sC.m (by decide) sC.rf))))) ((show s3 N N2 [13] by rw [e]; exact (s3.m (by omega) (s3.m (by omega) (s3.o (by decide) (s3.m (by omega) s3.rf))))) 13 (by simp)) ((show s3 N N2 [14] by rw [e]; exact (s3.m (by omega) (s3.m (by omega) (s3.o (by decide) (s3.m (by omega) s3.rf))))) 14 (by simp)) g18 hI.law
  have k_sh : xSh N2 := xSh_k (show sC N N2 [20, 31, 32, 33, 34, 35, 36, 37, 38, 82, 83, 84] by rw [e]; exact (sC.m (by decide) (sC.m (by decide) (sC.m (by decide) (sC.m (by decide) sC.rf))))) hI.sh
  have k_ro : xRo N2 := xRo_k (show sC N N2 [21, 22, 23, 24, 85, 86, 87] by rw [e]; exact (sC.m (by decide) (sC.m (by decide) (sC.m (by decide) (sC.m (by decide) sC.rf))))) g63 hI.ro
  have k_kp : yKp N2 := yKp_k (show s3 N N2 [19] by rw [e]; exact (s3.m (by omega) (s3.m (by omega) (s3.o (by decide) (s3.m (by omega) s3.rf))))) (show s9 N N2 [10, 31] by rw [e]; exact (s9.o (by decide) (s9.m (by omega) (s9.m (by omega) (s9.m (by omega) s9.rf))))) hy.1
  have k_ow : yOw N2 := yOw_k (show sC N N2 [76, 77, 80] by rw [e]; exact (sC.m (by decide) (sC.m (by decide) (sC.m (by decide) (sC.m (by decide) sC.rf))))) (show s9 N N2 [50] by rw [e]; exact (s9.o (by decide) (s9.m (by omega) (s9.m (by omega) (s9.m (by omega) s9.rf))))) hy.2.1
  have k_tp : yTp N2 := yTp_k (show sC N N2 [51] by rw [e]; exact (sC.m (by decide) (sC.m (by decide) (sC.m (by decide) (sC.m (by decide) sC.rf))))) (show s9 N N2 [15] by rw [e]; exact (s9.o (by decide) (s9.m (by omega) (s9.m (by omega) (s9.m (by omega) s9.rf))))) hy.2.2.1
  have k_yro : yRo N2 := yRo_k (show sC N N2 [85, 86] by rw [e]; exact (sC.m (by decide) (sC.m (by decide) (sC.m (by decide) (sC.m (by decide) sC.rf))))) hy.2.2.2.1
  have k_ln : yLn N2 := by
    have r58 : N2 58 = N 58 := (show sC N N2 [58] by rw [e]; exact (sC.m (by decide) (sC.m (by decide) (sC.m (by decide) (sC.m (by decide) sC.rf))))) 58 (by simp)
    refine ⟨?_, ?_⟩
    · exact fun i h0 h1 => by
        rw [g0] at h1
        by_cases hi : i = N 39 0
        · rw [hi, w40]; omega
        · rw [u40 i hi]; exact hy.2.2.2.2.1.1 i h0 (by omega)
    · exact fun i h0 h1 => by
        rw [g29] at h1
        rw [r58]; exact hy.2.2.2.2.1.2 i h0 h1
  have k_cm : yCm N2 := yCm_k (show sC N N2 [73] by rw [e]; exact (sC.m (by decide) (sC.m (by decide) (sC.m (by decide) (sC.m (by decide) sC.rf))))) (show s9 N N2 [2, 49] by rw [e]; exact (s9.o (by decide) (s9.m (by omega) (s9.m (by omega) (s9.m (by omega) s9.rf))))) hy.2.2.2.2.2.1
  have k_bf : yBf N2 := yBf_k (show sC N N2 [42, 48, 49] by rw [e]; exact (sC.m (by decide) (sC.m (by decide) (sC.m (by decide) (sC.m (by decide) sC.rf))))) (show s9 N N2 [10] by rw [e]; exact (s9.o (by decide) (s9.m (by omega) (s9.m (by omega) (s9.m (by omega) s9.rf))))) hy.2.2.2.2.2.2
  have k_bud : bud N2 ≤ bud N + 1 := by have := bud_k (show sC N N2 [59, 62] by rw [e]; exact (sC.m (by decide) (sC.m (by decide) (sC.m (by decide) (sC.m (by decide) sC.rf))))) (show s9 N N2 [2, 10, 31] by rw [e]; exact (s9.o (by decide) (s9.m (by omega) (s9.m (by omega) (s9.m (by omega) s9.rf))))); omega
  exact ⟨⟨hB.k hs, hG, ⟨hG.1, kCnt, k_ppl, k_flt, k_spl, k_sty, k_ple⟩, k_ord, k_hs, k_ps, k_fs, k_ss, k_ys, k_ls, k_law, k_sh, k_ro⟩, ⟨k_kp, k_ow, k_tp, k_yro, k_ln, k_cm, k_bf⟩, k_bud⟩
theorem j_house (hJ : xJ s N c) (hc : c < 512) {l : Int} (hl : zr l) (h : jK X c m_X12_house [.ref 39, vi l] K) : zC X m_X11_house [.ref 3, vi l] (zI s N) K := by
  obtain ⟨fa, sa, hI, hy, hbud, hsz⟩ := id hJ
  have hk := bud_r hI hbud hc
  have hC := hI.C
  unfold mCnt at hC
  have n88 := hI.B.1
  have hR := hI.R
  have hkp : N 3 19 = N 39 10 + N 39 31 := hy.1
  refine x_house hI hl (fun g1 => ?_) (fun g1 g2 => ?_) (fun g1 g2 => ?_)
  · exact h _ _ _ (by first | exact hI.B | exact hI.B.k sK.ns | exact hI.B.k (sK.ns.trans (sK.ns.trans sK.ns))) (fun Q hq => k_house hI.B hI.m hl (fun _ => hq _ _ hJ.up) (fun q => absurd q g1) (fun q => absurd q g1))
  · exact h _ _ _ (by first | exact hI.B | exact hI.B.k sK.ns | exact hI.B.k (sK.ns.trans (sK.ns.trans sK.ns))) (fun Q hq => k_house hI.B hI.m hl (fun q => absurd g1 q) (fun _ _ => hq _ _ hJ.up) (fun _ q => absurd q (by omega)))
  · refine h _ _ _ (by first | exact hI.B | exact hI.B.k sK.ns | exact hI.B.k (sK.ns.trans (sK.ns.trans sK.ns))) (fun Q hq => ?_)
    have hE : eM N (xn_house N l) := (eM.m (by omega) (eM.m (by omega) eM.rf))
    have hm1 := hE.mI_ (zG_mup (s := s) (zG_mup hI.2.1 (by omega) (by constructor <;> omega)) (by omega) (by constructor <;> omega)).1 hI.m
    have c0 : xn_house N l 39 0 = N 39 0 := hE.at 39 (by decide) (by decide) 0
    refine k_house hI.B hm1 hl (fun q => absurd g1 q) (fun _ q => absurd q (by omega)) (fun _ _ => ?_)
    obtain ⟨x1, x2, x3⟩ := jx_house hI hy g1 g2 (N2 := n_house (xn_house N l) l) (by unfold n_house; rw [c0]; rfl)
    rw [c0]
    exact hq _ _ ⟨fa, sa, x1, x2, by omega, hsz.n0⟩
set_option maxRecDepth 20000 in
set_option maxHeartbeats 2000000 in
theorem jx_group (hI : xI s N fa sa) (hy : yI N) {l : Int} (hl : 0 ≤ l ∧ l ≤ 99) (hn : N 39 29 < 8) {N2 : zN} (e : N2 = (mup (mup (mup (mup N 6 (N 39 29) l) 3 5 (N 39 29 + 1)) 58 (N 39 29) l) 39 29 (N 39 29 + 1))) : xI s N2 fa sa ∧ yI N2 ∧ bud N2 ≤ bud N + 1 := by
  have hB := hI.B
  have hR := hI.R
  have hC := hI.C
  unfold mCnt at hC
  have hm := hI.m
  have n88 := hB.1
  obtain ⟨e1, e5, e7, e8, e10, e11, e3, e12, eh, eg, ef, et⟩ := hI.hs
  have hs : sK s s := sK.rf
  have hG : zG s N2 := by rw [e]; exact (zG_mup (zG_mup (zG_mup (zG_mup hI.2.1 (by omega) (by constructor <;> omega)) (by omega) (by constructor <;> omega)) (by omega) (by constructor <;> omega)) (by omega) (by constructor <;> omega))
  have g0 : N2 39 0 = N 39 0 := by rw [e]; exact ((mup_slot (by omega)).trans ((mup_cell (by omega)).trans ((mup_cell (by omega)).trans (mup_cell (by omega)))))
  have g2 : N2 39 2 = N 39 2 := by rw [e]; exact ((mup_slot (by omega)).trans ((mup_cell (by omega)).trans ((mup_cell (by omega)).trans (mup_cell (by omega)))))
  have g10 : N2 39 10 = N 39 10 := by rw [e]; exact ((mup_slot (by omega)).trans ((mup_cell (by omega)).trans ((mup_cell (by omega)).trans (mup_cell (by omega)))))
  have g15 : N2 39 15 = N 39 15 := by rw [e]; exact ((mup_slot (by omega)).trans ((mup_cell (by omega)).trans ((mup_cell (by omega)).trans (mup_cell (by omega)))))
  have g18 : N2 39 18 = N 39 18 := by rw [e]; exact ((mup_slot (by omega)).trans ((mup_cell (by omega)).trans ((mup_cell (by omega)).trans (mup_cell (by omega)))))
  have g26 : N2 39 26 = N 39 26 := by rw [e]; exact ((mup_slot (by omega)).trans ((mup_cell (by omega)).trans ((mup_cell (by omega)).trans (mup_cell (by omega)))))
  have g29 : N2 39 29 = (N 39 29 + 1) := by rw [e]; exact (mup_self _ _ _ _)
  have g31 : N2 39 31 = N 39 31 := by rw [e]; exact ((mup_slot (by omega)).trans ((mup_cell (by omega)).trans ((mup_cell (by omega)).trans (mup_cell (by omega)))))
  have g36 : N2 39 36 = N 39 36 := by rw [e]; exact ((mup_slot (by omega)).trans ((mup_cell (by omega)).trans ((mup_cell (by omega)).trans (mup_cell (by omega)))))
  have g49 : N2 39 49 = N 39 49 := by rw [e]; exact ((mup_slot (by omega)).trans ((mup_cell (by omega)).trans ((mup_cell (by omega)).trans (mup_cell (by omega)))))
  have g50 : N2 39 50 = N 39 50 := by rw [e]; exact ((mup_slot (by omega)).trans ((mup_cell (by omega)).trans ((mup_cell (by omega)).trans (mup_cell (by omega)))))
  have g58 : N2 39 58 = N 39 58 := by rw [e]; exact ((mup_slot (by omega)).trans ((mup_cell (by omega)).trans ((mup_cell (by omega)).trans (mup_cell (by omega)))))
  have g63 : N2 39 63 = N 39 63 := by rw [e]; exact ((mup_slot (by omega)).trans ((mup_cell (by omega)).trans ((mup_cell (by omega)).trans (mup_cell (by omega)))))
  have u6 : ∀ i : Int, i ≠ (N 39 29) → N2 6 i = N 6 i := fun i hi => by rw [e]; exact ((mup_cell (by omega)).trans ((mup_cell (by omega)).trans ((mup_cell (by omega)).trans (mup_slot (by omega)))))
  have w6 : N2 6 (N 39 29) = l := by rw [e]; exact ((mup_cell (by omega)).trans ((mup_cell (by omega)).trans ((mup_cell (by omega)).trans (mup_self _ _ _ _))))
  have u58 : ∀ i : Int, i ≠ (N 39 29) → N2 58 i = N 58 i := fun i hi => by rw [e]; exact ((mup_cell (by omega)).trans ((mup_slot (by omega)).trans ((mup_cell (by omega)).trans (mup_cell (by omega)))))
  have w58 : N2 58 (N 39 29) = l := by rw [e]; exact ((mup_cell (by omega)).trans (mup_self _ _ _ _))
  have kCnt : mCnt N2 := by unfold mCnt; omega
  have k_ord : mOrd N2 := mOrd_k (show sC N N2 [48, 49, 50, 59, 61, 62] by rw [e]; exact (sC.m (by decide) (sC.m (by decide) (sC.m (by decide) (sC.m (by decide) sC.rf))))) (show s9 N N2 [10, 31] by rw [e]; exact (s9.o (by decide) (s9.m (by omega) (s9.m (by omega) (s9.m (by omega) s9.rf))))) hI.ord
  have k_ppl : mPpl N2 := mPpl_k (show sC N N2 [41, 42, 43, 44, 45, 46, 47] by rw [e]; exact (sC.m (by decide) (sC.m (by decide) (sC.m (by decide) (sC.m (by decide) sC.rf))))) g2 (by omega) hm.2.2.1
  have k_flt : mFlt N2 := mFlt_k (show sC N N2 [48, 49, 50] by rw [e]; exact (sC.m (by decide) (sC.m (by decide) (sC.m (by decide) (sC.m (by decide) sC.rf))))) g10 (by omega) hm.2.2.2.1
  have k_spl : mSpl N2 := mSpl_k (show sC N N2 [59, 60, 61, 62] by rw [e]; exact (sC.m (by decide) (sC.m (by decide) (sC.m (by decide) (sC.m (by decide) sC.rf))))) g31 (by omega) (by omega) hm.2.2.2.2.1
  have k_sty : mSty N2 := mSty_k (show sC N N2 [63, 64, 65, 66] by rw [e]; exact (sC.m (by decide) (sC.m (by decide) (sC.m (by decide) (sC.m (by decide) sC.rf))))) g36 (by omega) (by omega) hm.2.2.2.2.2.1
  have k_ple : mPle N2 := mPle_k (show sC N N2 [74, 75, 76, 77, 78] by rw [e]; exact (sC.m (by decide) (sC.m (by decide) (sC.m (by decide) (sC.m (by decide) sC.rf))))) g50 (by omega) (by omega) hm.2.2.2.2.2.2
  have k_hs : xHs N2 := by
    have t1 : N2 3 1 = N 3 1 := by rw [e]; exact ((mup_cell (by omega)).trans ((mup_cell (by omega)).trans ((mup_slot (by omega)).trans (mup_cell (by omega)))))
    have t3 : N2 3 3 = N 3 3 := by rw [e]; exact ((mup_cell (by omega)).trans ((mup_cell (by omega)).trans ((mup_slot (by omega)).trans (mup_cell (by omega)))))
    have t5 : N2 3 5 = (N 39 29 + 1) := by rw [e]; exact ((mup_cell (by omega)).trans ((mup_cell (by omega)).trans (mup_self _ _ _ _)))
    have t8 : N2 3 8 = N 3 8 := by rw [e]; exact ((mup_cell (by omega)).trans ((mup_cell (by omega)).trans ((mup_slot (by omega)).trans (mup_cell (by omega)))))
    have t10 : N2 3 10 = N 3 10 := by rw [e]; exact ((mup_cell (by omega)).trans ((mup_cell (by omega)).trans ((mup_slot (by omega)).trans (mup_cell (by omega)))))
    have t11 : N2 3 11 = N 3 11 := by rw [e]; exact ((mup_cell (by omega)).trans ((mup_cell (by omega)).trans ((mup_slot (by omega)).trans (mup_cell (by omega)))))
    have t7 : N2 7 2 = N 7 2 := by rw [e]; exact ((mup_cell (by omega)).trans ((mup_cell (by omega)).trans ((mup_cell (by omega)).trans (mup_cell (by omega)))))
    have t12 : N2 12 1 = N 12 1 := by rw [e]; exact ((mup_cell (by omega)).trans ((mup_cell (by omega)).trans ((mup_cell (by omega)).trans (mup_cell (by omega)))))
    have r4 : N2 4 = N 4 := (show sC N N2 [4] by rw [e]; exact (sC.m (by decide) (sC.m (by decide) (sC.m (by decide) (sC.m (by decide) sC.rf))))) 4 (by simp)
    have r40 : N2 40 = N 40 := (show sC N N2 [40] by rw [e]; exact (sC.m (by decide) (sC.m (by decide) (sC.m (by decide) (sC.m (by decide) sC.rf))))) 40 (by simp)
    have r8 : N2 8 = N 8 := (show sC N N2 [8] by rw [e]; exact (sC.m (by decide) (sC.m (by decide) (sC.m (by decide) (sC.m (by decide) sC.rf))))) 8 (by simp)
    have r9 : N2 9 = N 9 := (show sC N N2 [9] by rw [e]; exact (sC.m (by decide) (sC.m (by decide) (sC.m (by decide) (sC.m (by decide) sC.rf))))) 9 (by simp)
    have r56 : N2 56 = N 56 := (show sC N N2 [56] by rw [e]; exact (sC.m (by decide) (sC.m (by decide) (sC.m (by decide) (sC.m (by decide) sC.rf))))) 56 (by simp)
    have r57 : N2 57 = N 57 := (show sC N N2 [57] by rw [e]; exact (sC.m (by decide) (sC.m (by decide) (sC.m (by decide) (sC.m (by decide) sC.rf))))) 57 (by simp)
    have r13 : N2 13 = N 13 := (show sC N N2 [13] by rw [e]; exact (sC.m (by decide) (sC.m (by decide) (sC.m (by decide) (sC.m (by decide) sC.rf))))) 13 (by simp)
    have r51 : N2 51 = N 51 := (show sC N N2 [51] by rw [e]; exact (sC.m (by decide) (sC.m (by decide) (sC.m (by decide) (sC.m (by decide) sC.rf))))) 51 (by simp)
    refine ⟨by omega, by omega, by omega, by omega, by omega, by omega, by omega, by omega, fun i h0 h1 => by rw [r4, r40]; exact eh i h0 h1, fun i h0 h1 => by
      by_cases hi : i = N 39 29
      · rw [hi, w6, w58]
      · rw [u6 i hi, u58 i hi]; exact eg i h0 h1, fun i h0 h1 => by rw [r8, r9, r56, r57, g26]; exact ef i h0 h1, fun i h0 h1 => by rw [r13, r51]; rw [g15] at h1; exact et i h0 h1⟩
  have k_ps : xPs s N2 fa sa := xPs_k hs (show s8 s N N2 4 by rw [e]; exact (s8.lo (by decide) (s8.lo (by decide) (s8.lo (by decide) (s8.lo (by decide) s8.rf))))) ((show sC N N2 [5] by rw [e]; exact (sC.m (by decide) (sC.m (by decide) (sC.m (by decide) (sC.m (by decide) sC.rf))))) 5 (by simp)) (show sC N N2 [41, 42, 43, 44, 45, 46, 47, 48, 59, 73] by rw [e]; exact (sC.m (by decide) (sC.m (by decide) (sC.m (by decide) (sC.m (by decide) sC.rf))))) (show s9 N N2 [2, 10, 31, 49] by rw [e]; exact (s9.o (by decide) (s9.m (by omega) (s9.m (by omega) (s9.m (by omega) s9.rf))))) hI.ps
  have k_fs : xFs s N2 fa := xFs_k hs (show s8 s N N2 2 by rw [e]; exact (s8.lo (by decide) (s8.lo (by decide) (s8.lo (by decide) (s8.lo (by decide) s8.rf))))) (show sC N N2 [48, 49, 50] by rw [e]; exact (sC.m (by decide) (sC.m (by decide) (sC.m (by decide) (sC.m (by decide) sC.rf))))) g10 hI.fs
  have k_ss : xSs s N2 sa := xSs_k hs (show s8 s N N2 8 by rw [e]; exact (s8.lo (by decide) (s8.lo (by decide) (s8.lo (by decide) (s8.lo (by decide) s8.rf))))) (show sC N N2 [59, 60, 61, 62] by rw [e]; exact (sC.m (by decide) (sC.m (by decide) (sC.m (by decide) (sC.m (by decide) sC.rf))))) g31 hI.ss
  have k_ys : xYs s N2 := xYs_k hs (show s8 s N N2 9 by rw [e]; exact (s8.lo (by decide) (s8.lo (by decide) (s8.lo (by decide) (s8.lo (by decide) s8.rf))))) (show sC N N2 [10, 63, 64, 65, 66] by rw [e]; exact (sC.m (by decide) (sC.m (by decide) (sC.m (by decide) (sC.m (by decide) sC.rf))))) g36 hI.ys
  have k_ls : xLs s N2 fa := xLs_k hs (show s8 s N N2 5 by rw [e]; exact (s8.lo (by decide) (s8.lo (by decide) (s8.lo (by decide) (s8.lo (by decide) s8.rf))))) (show s8 s N N2 20 by rw [e]; exact (s8.lo (by decide) (s8.lo (by decide) (s8.lo (by decide) (s8.lo (by decide) s8.rf))))) (show s8 s N N2 21 by rw [e]; exact (s8.lo (by decide) (s8.lo (by decide) (s8.lo (by decide) (s8.lo (by decide) s8.rf))))) (show sC N N2 [11, 48, 74, 75, 76, 77, 78, 79, 80] by rw [e]; exact (sC.m (by decide) (sC.m (by decide) (sC.m (by decide) (sC.m (by decide) sC.rf))))) g50 hI.ls
  have k_law : xLaw N2 := xLaw_k (show sC N N2 [14, 15, 16, 17, 18, 19, 52, 53] by rw [e]; exact (sC.m (by decide) (sC.m (by decide) (sC.m (by decide) (sC.m (by decide) sC.rf))))) ((show s3 N N2 [13] by rw [e]; exact (s3.m (by omega) (s3.m (by omega) (s3.o (by decide) (s3.m (by omega) s3.rf))))) 13 (by simp)) ((show s3 N N2 [14] by rw [e]; exact (s3.m (by omega) (s3.m (by omega) (s3.o (by decide) (s3.m (by omega) s3.rf))))) 14 (by simp)) g18 hI.law
  have k_sh : xSh N2 := xSh_k (show sC N N2 [20, 31, 32, 33, 34, 35, 36, 37, 38, 82, 83, 84] by rw [e]; exact (sC.m (by decide) (sC.m (by decide) (sC.m (by decide) (sC.m (by decide) sC.rf))))) hI.sh
  have k_ro : xRo N2 := xRo_k (show sC N N2 [21, 22, 23, 24, 85, 86, 87] by rw [e]; exact (sC.m (by decide) (sC.m (by decide) (sC.m (by decide) (sC.m (by decide) sC.rf))))) g63 hI.ro
  have k_kp : yKp N2 := yKp_k (show s3 N N2 [19] by rw [e]; exact (s3.m (by omega) (s3.m (by omega) (s3.o (by decide) (s3.m (by omega) s3.rf))))) (show s9 N N2 [10, 31] by rw [e]; exact (s9.o (by decide) (s9.m (by omega) (s9.m (by omega) (s9.m (by omega) s9.rf))))) hy.1
  have k_ow : yOw N2 := yOw_k (show sC N N2 [76, 77, 80] by rw [e]; exact (sC.m (by decide) (sC.m (by decide) (sC.m (by decide) (sC.m (by decide) sC.rf))))) (show s9 N N2 [50] by rw [e]; exact (s9.o (by decide) (s9.m (by omega) (s9.m (by omega) (s9.m (by omega) s9.rf))))) hy.2.1
  have k_tp : yTp N2 := yTp_k (show sC N N2 [51] by rw [e]; exact (sC.m (by decide) (sC.m (by decide) (sC.m (by decide) (sC.m (by decide) sC.rf))))) (show s9 N N2 [15] by rw [e]; exact (s9.o (by decide) (s9.m (by omega) (s9.m (by omega) (s9.m (by omega) s9.rf))))) hy.2.2.1
  have k_yro : yRo N2 := yRo_k (show sC N N2 [85, 86] by rw [e]; exact (sC.m (by decide) (sC.m (by decide) (sC.m (by decide) (sC.m (by decide) sC.rf))))) hy.2.2.2.1
  have k_ln : yLn N2 := by
    have r40 : N2 40 = N 40 := (show sC N N2 [40] by rw [e]; exact (sC.m (by decide) (sC.m (by decide) (sC.m (by decide) (sC.m (by decide) sC.rf))))) 40 (by simp)
    refine ⟨?_, ?_⟩
    · exact fun i h0 h1 => by
        rw [g0] at h1
        rw [r40]; exact hy.2.2.2.2.1.1 i h0 h1
    · exact fun i h0 h1 => by
        rw [g29] at h1
        by_cases hi : i = N 39 29
        · rw [hi, w58]; omega
        · rw [u58 i hi]; exact hy.2.2.2.2.1.2 i h0 (by omega)
  have k_cm : yCm N2 := yCm_k (show sC N N2 [73] by rw [e]; exact (sC.m (by decide) (sC.m (by decide) (sC.m (by decide) (sC.m (by decide) sC.rf))))) (show s9 N N2 [2, 49] by rw [e]; exact (s9.o (by decide) (s9.m (by omega) (s9.m (by omega) (s9.m (by omega) s9.rf))))) hy.2.2.2.2.2.1
  have k_bf : yBf N2 := yBf_k (show sC N N2 [42, 48, 49] by rw [e]; exact (sC.m (by decide) (sC.m (by decide) (sC.m (by decide) (sC.m (by decide) sC.rf))))) (show s9 N N2 [10] by rw [e]; exact (s9.o (by decide) (s9.m (by omega) (s9.m (by omega) (s9.m (by omega) s9.rf))))) hy.2.2.2.2.2.2
  have k_bud : bud N2 ≤ bud N + 1 := by have := bud_k (show sC N N2 [59, 62] by rw [e]; exact (sC.m (by decide) (sC.m (by decide) (sC.m (by decide) (sC.m (by decide) sC.rf))))) (show s9 N N2 [2, 10, 31] by rw [e]; exact (s9.o (by decide) (s9.m (by omega) (s9.m (by omega) (s9.m (by omega) s9.rf))))); omega
  exact ⟨⟨hB.k hs, hG, ⟨hG.1, kCnt, k_ppl, k_flt, k_spl, k_sty, k_ple⟩, k_ord, k_hs, k_ps, k_fs, k_ss, k_ys, k_ls, k_law, k_sh, k_ro⟩, ⟨k_kp, k_ow, k_tp, k_yro, k_ln, k_cm, k_bf⟩, k_bud⟩
theorem j_group (hJ : xJ s N c) (hc : c < 512) {l : Int} (hl : zr l) (h : jK X c m_X12_group [.ref 39, vi l] K) : zC X m_X11_group [.ref 3, vi l] (zI s N) K := by
  obtain ⟨fa, sa, hI, hy, hbud, hsz⟩ := id hJ
  have hk := bud_r hI hbud hc
  have hC := hI.C
  unfold mCnt at hC
  have n88 := hI.B.1
  have hR := hI.R
  have hkp : N 3 19 = N 39 10 + N 39 31 := hy.1
  refine x_group hI hl (fun g1 => ?_) (fun g1 g2 => ?_) (fun g1 g2 => ?_)
  · exact h _ _ _ (by first | exact hI.B | exact hI.B.k sK.ns | exact hI.B.k (sK.ns.trans (sK.ns.trans sK.ns))) (fun Q hq => k_group hI.B hI.m hl (fun _ => hq _ _ hJ.up) (fun q => absurd q g1) (fun q => absurd q g1))
  · exact h _ _ _ (by first | exact hI.B | exact hI.B.k sK.ns | exact hI.B.k (sK.ns.trans (sK.ns.trans sK.ns))) (fun Q hq => k_group hI.B hI.m hl (fun q => absurd g1 q) (fun _ _ => hq _ _ hJ.up) (fun _ q => absurd q (by omega)))
  · refine h _ _ _ (by first | exact hI.B | exact hI.B.k sK.ns | exact hI.B.k (sK.ns.trans (sK.ns.trans sK.ns))) (fun Q hq => ?_)
    have hE : eM N (xn_group N l) := (eM.m (by omega) (eM.m (by omega) eM.rf))
    have hm1 := hE.mI_ (zG_mup (s := s) (zG_mup hI.2.1 (by omega) (by constructor <;> omega)) (by omega) (by constructor <;> omega)).1 hI.m
    have c0 : xn_group N l 39 29 = N 39 29 := hE.at 39 (by decide) (by decide) 29
    refine k_group hI.B hm1 hl (fun q => absurd g1 q) (fun _ q => absurd q (by omega)) (fun _ _ => ?_)
    obtain ⟨x1, x2, x3⟩ := jx_group hI hy g1 g2 (N2 := n_group (xn_group N l) l) (by unfold n_group; rw [c0]; rfl)
    rw [c0]
    exact hq _ _ ⟨fa, sa, x1, x2, by omega, hsz.n0⟩
set_option maxRecDepth 20000 in
set_option maxHeartbeats 2000000 in
theorem jx_fair (hI : xI s N fa sa) (hy : yI N) {a b : Int} (hl : ((0 ≤ a ∧ a ≤ 9999) ∧ (0 ≤ b ∧ b ≤ 9999) ∧ a ≤ b)) (hn : N 39 26 < 9) {N2 : zN} (e : N2 = (mup (mup (mup (mup (mup (mup N 8 (N 39 26) a) 9 (N 39 26) b) 7 2 ((N 39 26) + 1)) 56 (N 39 26) a) 57 (N 39 26) b) 39 26 ((N 39 26) + 1))) : xI s N2 fa sa ∧ yI N2 ∧ bud N2 ≤ bud N + 1 := by
  have hB := hI.B
  have hR := hI.R
  have hC := hI.C
  unfold mCnt at hC
  have hm := hI.m
  have n88 := hB.1
  obtain ⟨e1, e5, e7, e8, e10, e11, e3, e12, eh, eg, ef, et⟩ := hI.hs
  have hs : sK s s := sK.rf
  have hG : zG s N2 := by rw [e]; exact (zG_mup (zG_mup (zG_mup (zG_mup (zG_mup (zG_mup hI.2.1 (by omega) (by constructor <;> omega)) (by omega) (by constructor <;> omega)) (by omega) (by constructor <;> omega)) (by omega) (by constructor <;> omega)) (by omega) (by constructor <;> omega)) (by omega) (by constructor <;> omega))
  have g0 : N2 39 0 = N 39 0 := by rw [e]; exact ((mup_slot (by omega)).trans ((mup_cell (by omega)).trans ((mup_cell (by omega)).trans ((mup_cell (by omega)).trans ((mup_cell (by omega)).trans (mup_cell (by omega)))))))
  have g2 : N2 39 2 = N 39 2 := by rw [e]; exact ((mup_slot (by omega)).trans ((mup_cell (by omega)).trans ((mup_cell (by omega)).trans ((mup_cell (by omega)).trans ((mup_cell (by omega)).trans (mup_cell (by omega)))))))
  have g10 : N2 39 10 = N 39 10 := by rw [e]; exact ((mup_slot (by omega)).trans ((mup_cell (by omega)).trans ((mup_cell (by omega)).trans ((mup_cell (by omega)).trans ((mup_cell (by omega)).trans (mup_cell (by omega)))))))
  have g15 : N2 39 15 = N 39 15 := by rw [e]; exact ((mup_slot (by omega)).trans ((mup_cell (by omega)).trans ((mup_cell (by omega)).trans ((mup_cell (by omega)).trans ((mup_cell (by omega)).trans (mup_cell (by omega)))))))
  have g18 : N2 39 18 = N 39 18 := by rw [e]; exact ((mup_slot (by omega)).trans ((mup_cell (by omega)).trans ((mup_cell (by omega)).trans ((mup_cell (by omega)).trans ((mup_cell (by omega)).trans (mup_cell (by omega)))))))
  have g26 : N2 39 26 = ((N 39 26) + 1) := by rw [e]; exact (mup_self _ _ _ _)
  have g29 : N2 39 29 = N 39 29 := by rw [e]; exact ((mup_slot (by omega)).trans ((mup_cell (by omega)).trans ((mup_cell (by omega)).trans ((mup_cell (by omega)).trans ((mup_cell (by omega)).trans (mup_cell (by omega)))))))
  have g31 : N2 39 31 = N 39 31 := by rw [e]; exact ((mup_slot (by omega)).trans ((mup_cell (by omega)).trans ((mup_cell (by omega)).trans ((mup_cell (by omega)).trans ((mup_cell (by omega)).trans (mup_cell (by omega)))))))
  have g36 : N2 39 36 = N 39 36 := by rw [e]; exact ((mup_slot (by omega)).trans ((mup_cell (by omega)).trans ((mup_cell (by omega)).trans ((mup_cell (by omega)).trans ((mup_cell (by omega)).trans (mup_cell (by omega)))))))
  have g49 : N2 39 49 = N 39 49 := by rw [e]; exact ((mup_slot (by omega)).trans ((mup_cell (by omega)).trans ((mup_cell (by omega)).trans ((mup_cell (by omega)).trans ((mup_cell (by omega)).trans (mup_cell (by omega)))))))
  have g50 : N2 39 50 = N 39 50 := by rw [e]; exact ((mup_slot (by omega)).trans ((mup_cell (by omega)).trans ((mup_cell (by omega)).trans ((mup_cell (by omega)).trans ((mup_cell (by omega)).trans (mup_cell (by omega)))))))
  have g58 : N2 39 58 = N 39 58 := by rw [e]; exact ((mup_slot (by omega)).trans ((mup_cell (by omega)).trans ((mup_cell (by omega)).trans ((mup_cell (by omega)).trans ((mup_cell (by omega)).trans (mup_cell (by omega)))))))
  have g63 : N2 39 63 = N 39 63 := by rw [e]; exact ((mup_slot (by omega)).trans ((mup_cell (by omega)).trans ((mup_cell (by omega)).trans ((mup_cell (by omega)).trans ((mup_cell (by omega)).trans (mup_cell (by omega)))))))
  have u8 : ∀ i : Int, i ≠ (N 39 26) → N2 8 i = N 8 i := fun i hi => by rw [e]; exact ((mup_cell (by omega)).trans ((mup_cell (by omega)).trans ((mup_cell (by omega)).trans ((mup_cell (by omega)).trans ((mup_cell (by omega)).trans (mup_slot (by omega)))))))
  have w8 : N2 8 (N 39 26) = a := by rw [e]; exact ((mup_cell (by omega)).trans ((mup_cell (by omega)).trans ((mup_cell (by omega)).trans ((mup_cell (by omega)).trans ((mup_cell (by omega)).trans (mup_self _ _ _ _))))))
  have u9 : ∀ i : Int, i ≠ (N 39 26) → N2 9 i = N 9 i := fun i hi => by rw [e]; exact ((mup_cell (by omega)).trans ((mup_cell (by omega)).trans ((mup_cell (by omega)).trans ((mup_cell (by omega)).trans ((mup_slot (by omega)).trans (mup_cell (by omega)))))))
  have w9 : N2 9 (N 39 26) = b := by rw [e]; exact ((mup_cell (by omega)).trans ((mup_cell (by omega)).trans ((mup_cell (by omega)).trans ((mup_cell (by omega)).trans (mup_self _ _ _ _)))))
  have u56 : ∀ i : Int, i ≠ (N 39 26) → N2 56 i = N 56 i := fun i hi => by rw [e]; exact ((mup_cell (by omega)).trans ((mup_cell (by omega)).trans ((mup_slot (by omega)).trans ((mup_cell (by omega)).trans ((mup_cell (by omega)).trans (mup_cell (by omega)))))))
  have w56 : N2 56 (N 39 26) = a := by rw [e]; exact ((mup_cell (by omega)).trans ((mup_cell (by omega)).trans (mup_self _ _ _ _)))
  have u57 : ∀ i : Int, i ≠ (N 39 26) → N2 57 i = N 57 i := fun i hi => by rw [e]; exact ((mup_cell (by omega)).trans ((mup_slot (by omega)).trans ((mup_cell (by omega)).trans ((mup_cell (by omega)).trans ((mup_cell (by omega)).trans (mup_cell (by omega)))))))
  have w57 : N2 57 (N 39 26) = b := by rw [e]; exact ((mup_cell (by omega)).trans (mup_self _ _ _ _))
  have kCnt : mCnt N2 := by unfold mCnt; omega
  have k_ord : mOrd N2 := mOrd_k (show sC N N2 [48, 49, 50, 59, 61, 62] by rw [e]; exact (sC.m (by decide) (sC.m (by decide) (sC.m (by decide) (sC.m (by decide) (sC.m (by decide) (sC.m (by decide) sC.rf))))))) (show s9 N N2 [10, 31] by rw [e]; exact (s9.o (by decide) (s9.m (by omega) (s9.m (by omega) (s9.m (by omega) (s9.m (by omega) (s9.m (by omega) s9.rf))))))) hI.ord
  have k_ppl : mPpl N2 := mPpl_k (show sC N N2 [41, 42, 43, 44, 45, 46, 47] by rw [e]; exact (sC.m (by decide) (sC.m (by decide) (sC.m (by decide) (sC.m (by decide) (sC.m (by decide) (sC.m (by decide) sC.rf))))))) g2 (by omega) hm.2.2.1
  have k_flt : mFlt N2 := mFlt_k (show sC N N2 [48, 49, 50] by rw [e]; exact (sC.m (by decide) (sC.m (by decide) (sC.m (by decide) (sC.m (by decide) (sC.m (by decide) (sC.m (by decide) sC.rf))))))) g10 (by omega) hm.2.2.2.1
  have k_spl : mSpl N2 := mSpl_k (show sC N N2 [59, 60, 61, 62] by rw [e]; exact (sC.m (by decide) (sC.m (by decide) (sC.m (by decide) (sC.m (by decide) (sC.m (by decide) (sC.m (by decide) sC.rf))))))) g31 (by omega) (by omega) hm.2.2.2.2.1
  have k_sty : mSty N2 := mSty_k (show sC N N2 [63, 64, 65, 66] by rw [e]; exact (sC.m (by decide) (sC.m (by decide) (sC.m (by decide) (sC.m (by decide) (sC.m (by decide) (sC.m (by decide) sC.rf))))))) g36 (by omega) (by omega) hm.2.2.2.2.2.1
  have k_ple : mPle N2 := mPle_k (show sC N N2 [74, 75, 76, 77, 78] by rw [e]; exact (sC.m (by decide) (sC.m (by decide) (sC.m (by decide) (sC.m (by decide) (sC.m (by decide) (sC.m (by decide) sC.rf))))))) g50 (by omega) (by omega) hm.2.2.2.2.2.2
  have k_hs : xHs N2 := by
    have t1 : N2 3 1 = N 3 1 := by rw [e]; exact ((mup_cell (by omega)).trans ((mup_cell (by omega)).trans ((mup_cell (by omega)).trans ((mup_cell (by omega)).trans ((mup_cell (by omega)).trans (mup_cell (by omega)))))))
    have t3 : N2 3 3 = N 3 3 := by rw [e]; exact ((mup_cell (by omega)).trans ((mup_cell (by omega)).trans ((mup_cell (by omega)).trans ((mup_cell (by omega)).trans ((mup_cell (by omega)).trans (mup_cell (by omega)))))))
    have t5 : N2 3 5 = N 3 5 := by rw [e]; exact ((mup_cell (by omega)).trans ((mup_cell (by omega)).trans ((mup_cell (by omega)).trans ((mup_cell (by omega)).trans ((mup_cell (by omega)).trans (mup_cell (by omega)))))))
    have t8 : N2 3 8 = N 3 8 := by rw [e]; exact ((mup_cell (by omega)).trans ((mup_cell (by omega)).trans ((mup_cell (by omega)).trans ((mup_cell (by omega)).trans ((mup_cell (by omega)).trans (mup_cell (by omega)))))))
    have t10 : N2 3 10 = N 3 10 := by rw [e]; exact ((mup_cell (by omega)).trans ((mup_cell (by omega)).trans ((mup_cell (by omega)).trans ((mup_cell (by omega)).trans ((mup_cell (by omega)).trans (mup_cell (by omega)))))))
    have t11 : N2 3 11 = N 3 11 := by rw [e]; exact ((mup_cell (by omega)).trans ((mup_cell (by omega)).trans ((mup_cell (by omega)).trans ((mup_cell (by omega)).trans ((mup_cell (by omega)).trans (mup_cell (by omega)))))))
    have t7 : N2 7 2 = ((N 39 26) + 1) := by rw [e]; exact ((mup_cell (by omega)).trans ((mup_cell (by omega)).trans ((mup_cell (by omega)).trans (mup_self _ _ _ _))))
    have t12 : N2 12 1 = N 12 1 := by rw [e]; exact ((mup_cell (by omega)).trans ((mup_cell (by omega)).trans ((mup_cell (by omega)).trans ((mup_cell (by omega)).trans ((mup_cell (by omega)).trans (mup_cell (by omega)))))))
    have r4 : N2 4 = N 4 := (show sC N N2 [4] by rw [e]; exact (sC.m (by decide) (sC.m (by decide) (sC.m (by decide) (sC.m (by decide) (sC.m (by decide) (sC.m (by decide) sC.rf))))))) 4 (by simp)
    have r40 : N2 40 = N 40 := (show sC N N2 [40] by rw [e]; exact (sC.m (by decide) (sC.m (by decide) (sC.m (by decide) (sC.m (by decide) (sC.m (by decide) (sC.m (by decide) sC.rf))))))) 40 (by simp)
    have r6 : N2 6 = N 6 := (show sC N N2 [6] by rw [e]; exact (sC.m (by decide) (sC.m (by decide) (sC.m (by decide) (sC.m (by decide) (sC.m (by decide) (sC.m (by decide) sC.rf))))))) 6 (by simp)
    have r58 : N2 58 = N 58 := (show sC N N2 [58] by rw [e]; exact (sC.m (by decide) (sC.m (by decide) (sC.m (by decide) (sC.m (by decide) (sC.m (by decide) (sC.m (by decide) sC.rf))))))) 58 (by simp)
    have r13 : N2 13 = N 13 := (show sC N N2 [13] by rw [e]; exact (sC.m (by decide) (sC.m (by decide) (sC.m (by decide) (sC.m (by decide) (sC.m (by decide) (sC.m (by decide) sC.rf))))))) 13 (by simp)
    have r51 : N2 51 = N 51 := (show sC N N2 [51] by rw [e]; exact (sC.m (by decide) (sC.m (by decide) (sC.m (by decide) (sC.m (by decide) (sC.m (by decide) (sC.m (by decide) sC.rf))))))) 51 (by simp)
    refine ⟨by omega, by omega, by omega, by omega, by omega, by omega, by omega, by omega, fun i h0 h1 => by rw [r4, r40]; exact eh i h0 h1, fun i h0 h1 => by rw [r6, r58]; exact eg i h0 h1, fun i h0 h1 => by
      by_cases hi : i = (N 39 26)
      · rw [hi, w8, w9, w56, w57]; omega
      · rw [u8 i hi, u9 i hi, u56 i hi, u57 i hi, g26]; have := ef i h0 h1; omega, fun i h0 h1 => by rw [r13, r51]; rw [g15] at h1; exact et i h0 h1⟩
  have k_ps : xPs s N2 fa sa := xPs_k hs (show s8 s N N2 4 by rw [e]; exact (s8.lo (by decide) (s8.lo (by decide) (s8.lo (by decide) (s8.lo (by decide) (s8.lo (by decide) (s8.lo (by decide) s8.rf))))))) ((show sC N N2 [5] by rw [e]; exact (sC.m (by decide) (sC.m (by decide) (sC.m (by decide) (sC.m (by decide) (sC.m (by decide) (sC.m (by decide) sC.rf))))))) 5 (by simp)) (show sC N N2 [41, 42, 43, 44, 45, 46, 47, 48, 59, 73] by rw [e]; exact (sC.m (by decide) (sC.m (by decide) (sC.m (by decide) (sC.m (by decide) (sC.m (by decide) (sC.m (by decide) sC.rf))))))) (show s9 N N2 [2, 10, 31, 49] by rw [e]; exact (s9.o (by decide) (s9.m (by omega) (s9.m (by omega) (s9.m (by omega) (s9.m (by omega) (s9.m (by omega) s9.rf))))))) hI.ps
  have k_fs : xFs s N2 fa := xFs_k hs (show s8 s N N2 2 by rw [e]; exact (s8.lo (by decide) (s8.lo (by decide) (s8.lo (by decide) (s8.lo (by decide) (s8.lo (by decide) (s8.lo (by decide) s8.rf))))))) (show sC N N2 [48, 49, 50] by rw [e]; exact (sC.m (by decide) (sC.m (by decide) (sC.m (by decide) (sC.m (by decide) (sC.m (by decide) (sC.m (by decide) sC.rf))))))) g10 hI.fs
  have k_ss : xSs s N2 sa := xSs_k hs (show s8 s N N2 8 by rw [e]; exact (s8.lo (by decide) (s8.lo (by decide) (s8.lo (by decide) (s8.lo (by decide) (s8.lo (by decide) (s8.lo (by decide) s8.rf))))))) (show sC N N2 [59, 60, 61, 62] by rw [e]; exact (sC.m (by decide) (sC.m (by decide) (sC.m (by decide) (sC.m (by decide) (sC.m (by decide) (sC.m (by decide) sC.rf))))))) g31 hI.ss
  have k_ys : xYs s N2 := xYs_k hs (show s8 s N N2 9 by rw [e]; exact (s8.lo (by decide) (s8.lo (by decide) (s8.lo (by decide) (s8.lo (by decide) (s8.lo (by decide) (s8.lo (by decide) s8.rf))))))) (show sC N N2 [10, 63, 64, 65, 66] by rw [e]; exact (sC.m (by decide) (sC.m (by decide) (sC.m (by decide) (sC.m (by decide) (sC.m (by decide) (sC.m (by decide) sC.rf))))))) g36 hI.ys
  have k_ls : xLs s N2 fa := xLs_k hs (show s8 s N N2 5 by rw [e]; exact (s8.lo (by decide) (s8.lo (by decide) (s8.lo (by decide) (s8.lo (by decide) (s8.lo (by decide) (s8.lo (by decide) s8.rf))))))) (show s8 s N N2 20 by rw [e]; exact (s8.lo (by decide) (s8.lo (by decide) (s8.lo (by decide) (s8.lo (by decide) (s8.lo (by decide) (s8.lo (by decide) s8.rf))))))) (show s8 s N N2 21 by rw [e]; exact (s8.lo (by decide) (s8.lo (by decide) (s8.lo (by decide) (s8.lo (by decide) (s8.lo (by decide) (s8.lo (by decide) s8.rf))))))) (show sC N N2 [11, 48, 74, 75, 76, 77, 78, 79, 80] by rw [e]; exact (sC.m (by decide) (sC.m (by decide) (sC.m (by decide) (sC.m (by decide) (sC.m (by decide) (sC.m (by decide) sC.rf))))))) g50 hI.ls
  have k_law : xLaw N2 := xLaw_k (show sC N N2 [14, 15, 16, 17, 18, 19, 52, 53] by rw [e]; exact (sC.m (by decide) (sC.m (by decide) (sC.m (by decide) (sC.m (by decide) (sC.m (by decide) (sC.m (by decide) sC.rf))))))) ((show s3 N N2 [13] by rw [e]; exact (s3.m (by omega) (s3.m (by omega) (s3.m (by omega) (s3.m (by omega) (s3.m (by omega) (s3.m (by omega) s3.rf))))))) 13 (by simp)) ((show s3 N N2 [14] by rw [e]; exact (s3.m (by omega) (s3.m (by omega) (s3.m (by omega) (s3.m (by omega) (s3.m (by omega) (s3.m (by omega) s3.rf))))))) 14 (by simp)) g18 hI.law
  have k_sh : xSh N2 := xSh_k (show sC N N2 [20, 31, 32, 33, 34, 35, 36, 37, 38, 82, 83, 84] by rw [e]; exact (sC.m (by decide) (sC.m (by decide) (sC.m (by decide) (sC.m (by decide) (sC.m (by decide) (sC.m (by decide) sC.rf))))))) hI.sh
  have k_ro : xRo N2 := xRo_k (show sC N N2 [21, 22, 23, 24, 85, 86, 87] by rw [e]; exact (sC.m (by decide) (sC.m (by decide) (sC.m (by decide) (sC.m (by decide) (sC.m (by decide) (sC.m (by decide) sC.rf))))))) g63 hI.ro
  have k_kp : yKp N2 := yKp_k (show s3 N N2 [19] by rw [e]; exact (s3.m (by omega) (s3.m (by omega) (s3.m (by omega) (s3.m (by omega) (s3.m (by omega) (s3.m (by omega) s3.rf))))))) (show s9 N N2 [10, 31] by rw [e]; exact (s9.o (by decide) (s9.m (by omega) (s9.m (by omega) (s9.m (by omega) (s9.m (by omega) (s9.m (by omega) s9.rf))))))) hy.1
  have k_ow : yOw N2 := yOw_k (show sC N N2 [76, 77, 80] by rw [e]; exact (sC.m (by decide) (sC.m (by decide) (sC.m (by decide) (sC.m (by decide) (sC.m (by decide) (sC.m (by decide) sC.rf))))))) (show s9 N N2 [50] by rw [e]; exact (s9.o (by decide) (s9.m (by omega) (s9.m (by omega) (s9.m (by omega) (s9.m (by omega) (s9.m (by omega) s9.rf))))))) hy.2.1
  have k_tp : yTp N2 := yTp_k (show sC N N2 [51] by rw [e]; exact (sC.m (by decide) (sC.m (by decide) (sC.m (by decide) (sC.m (by decide) (sC.m (by decide) (sC.m (by decide) sC.rf))))))) (show s9 N N2 [15] by rw [e]; exact (s9.o (by decide) (s9.m (by omega) (s9.m (by omega) (s9.m (by omega) (s9.m (by omega) (s9.m (by omega) s9.rf))))))) hy.2.2.1
  have k_yro : yRo N2 := yRo_k (show sC N N2 [85, 86] by rw [e]; exact (sC.m (by decide) (sC.m (by decide) (sC.m (by decide) (sC.m (by decide) (sC.m (by decide) (sC.m (by decide) sC.rf))))))) hy.2.2.2.1
  have k_ln : yLn N2 := yLn_k (show sC N N2 [40, 58] by rw [e]; exact (sC.m (by decide) (sC.m (by decide) (sC.m (by decide) (sC.m (by decide) (sC.m (by decide) (sC.m (by decide) sC.rf))))))) (show s9 N N2 [0, 29] by rw [e]; exact (s9.o (by decide) (s9.m (by omega) (s9.m (by omega) (s9.m (by omega) (s9.m (by omega) (s9.m (by omega) s9.rf))))))) hy.2.2.2.2.1
  have k_cm : yCm N2 := yCm_k (show sC N N2 [73] by rw [e]; exact (sC.m (by decide) (sC.m (by decide) (sC.m (by decide) (sC.m (by decide) (sC.m (by decide) (sC.m (by decide) sC.rf))))))) (show s9 N N2 [2, 49] by rw [e]; exact (s9.o (by decide) (s9.m (by omega) (s9.m (by omega) (s9.m (by omega) (s9.m (by omega) (s9.m (by omega) s9.rf))))))) hy.2.2.2.2.2.1
  have k_bf : yBf N2 := yBf_k (show sC N N2 [42, 48, 49] by rw [e]; exact (sC.m (by decide) (sC.m (by decide) (sC.m (by decide) (sC.m (by decide) (sC.m (by decide) (sC.m (by decide) sC.rf))))))) (show s9 N N2 [10] by rw [e]; exact (s9.o (by decide) (s9.m (by omega) (s9.m (by omega) (s9.m (by omega) (s9.m (by omega) (s9.m (by omega) s9.rf))))))) hy.2.2.2.2.2.2
  have k_bud : bud N2 ≤ bud N + 1 := by have := bud_k (show sC N N2 [59, 62] by rw [e]; exact (sC.m (by decide) (sC.m (by decide) (sC.m (by decide) (sC.m (by decide) (sC.m (by decide) (sC.m (by decide) sC.rf))))))) (show s9 N N2 [2, 10, 31] by rw [e]; exact (s9.o (by decide) (s9.m (by omega) (s9.m (by omega) (s9.m (by omega) (s9.m (by omega) (s9.m (by omega) s9.rf))))))); omega
  exact ⟨⟨hB.k hs, hG, ⟨hG.1, kCnt, k_ppl, k_flt, k_spl, k_sty, k_ple⟩, k_ord, k_hs, k_ps, k_fs, k_ss, k_ys, k_ls, k_law, k_sh, k_ro⟩, ⟨k_kp, k_ow, k_tp, k_yro, k_ln, k_cm, k_bf⟩, k_bud⟩
theorem j_fair (hJ : xJ s N c) (hc : c < 512) {a b : Int} (ha : zr a) (hb : zr b) (h : jK X c m_X12_fair [.ref 39, vi a, vi b] K) : zC X m_X11_fair [.ref 3, vi a, vi b] (zI s N) K := by
  obtain ⟨fa, sa, hI, hy, hbud, hsz⟩ := id hJ
  have hk := bud_r hI hbud hc
  have hC := hI.C
  unfold mCnt at hC
  have n88 := hI.B.1
  have hR := hI.R
  have hkp : N 3 19 = N 39 10 + N 39 31 := hy.1
  refine x_fair hI ha hb (fun g1 => ?_) (fun g1 g2 => ?_) (fun g1 g2 => ?_)
  · exact h _ _ _ (by first | exact hI.B | exact hI.B.k sK.ns | exact hI.B.k (sK.ns.trans (sK.ns.trans sK.ns))) (fun Q hq => k_fair hI.B hI.m ha hb (fun _ => hq _ _ hJ.up) (fun q => absurd q g1) (fun q => absurd q g1))
  · exact h _ _ _ (by first | exact hI.B | exact hI.B.k sK.ns | exact hI.B.k (sK.ns.trans (sK.ns.trans sK.ns))) (fun Q hq => k_fair hI.B hI.m ha hb (fun q => absurd g1 q) (fun _ _ => hq _ _ hJ.up) (fun _ q => absurd q (by omega)))
  · refine h _ _ _ (by first | exact hI.B | exact hI.B.k sK.ns | exact hI.B.k (sK.ns.trans (sK.ns.trans sK.ns))) (fun Q hq => ?_)
    have hE : eM N (xn_fair N a b) := (eM.m (by omega) (eM.m (by omega) (eM.m (by omega) eM.rf)))
    have hm1 := hE.mI_ (zG_mup (s := s) (zG_mup (zG_mup hI.2.1 (by omega) (by constructor <;> omega)) (by omega) (by constructor <;> omega)) (by omega) (by constructor <;> omega)).1 hI.m
    have c0 : xn_fair N a b 39 26 = N 39 26 := hE.at 39 (by decide) (by decide) 26
    refine k_fair hI.B hm1 ha hb (fun q => absurd g1 q) (fun _ q => absurd q (by omega)) (fun _ _ => ?_)
    obtain ⟨x1, x2, x3⟩ := jx_fair hI hy g1 g2 (N2 := n_fair (xn_fair N a b) a b) (by unfold n_fair; rw [c0]; rfl)
    rw [c0]
    exact hq _ _ ⟨fa, sa, x1, x2, by omega, hsz.n0⟩
end JN1
