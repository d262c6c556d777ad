/-! making whole, 14 (printed by wip/whole/gen/f14.py) -/
section FI14
variable {X : zX} {s : zK} {N : zN} {σ : zS} {fa sa : Int → Int} {Q K : Option Value → zS → Prop} {c : Int}
set_option maxRecDepth 20000 in
set_option maxHeartbeats 2000000 in
theorem jx_came (hI : xI s N fa sa) (hy : yI N) {N2 : zN} (hs : sK s s) (hG : zG s N2) (hsm : ∀ a : Nat, (a < 88 ∧ a ≠ 25 ∧ a ≠ 26 ∧ a ≠ 27 ∧ a ≠ 28 ∧ a ≠ 29 ∧ a ≠ 67 ∧ a ≠ 68 ∧ a ≠ 69 ∧ a ≠ 70 ∧ a ≠ 71 ∧ a ≠ 72 ∧ a ≠ 73 ∧ a ≠ 39 ∧ a ≠ 3) → N2 a = N a) (h39 : ∀ j : Int, (j ≠ 41 ∧ j ≠ 49) → N2 39 j = N 39 j) (h3 : ∀ j : Int, (j ≠ 1000) → N2 3 j = N 3 j) (hdy : ∀ a : Nat, 88 ≤ a → a < s.1.1 → ((s.2 a).1 ≠ 4) → N2 a = N a) (v39_41 : N2 39 41 = N2 39 41) (v39_49 : N2 39 49 = 1) (hper : ∀ (i : Int) (a : Nat), 0 ≤ i → i < N 39 2 → xPer s N fa sa i a → (∀ x : Int, x ≠ 7 → N2 a x = N a x) ∧ N2 a 7 = N2 73 i) (h73 : ∀ i : Int, N 39 2 ≤ i → i < 48 → N2 73 i = -4) : xI s N2 fa sa ∧ yI N2 ∧ bud N2 ≤ bud N + 1 := by
  have hB := hI.B
  have hR := hI.R
  have hC := hI.C
  unfold mCnt at hC
  have hm := hI.m
  have n88 := hB.1
  obtain ⟨e1, e5, e7, e8, e10, e11, e3, e12, eh, eg, ef, et⟩ := hI.hs
  have g0 : N2 39 0 = N 39 0 := h39 _ (by omega)
  have g2 : N2 39 2 = N 39 2 := h39 _ (by omega)
  have g10 : N2 39 10 = N 39 10 := h39 _ (by omega)
  have g15 : N2 39 15 = N 39 15 := h39 _ (by omega)
  have g18 : N2 39 18 = N 39 18 := h39 _ (by omega)
  have g26 : N2 39 26 = N 39 26 := h39 _ (by omega)
  have g29 : N2 39 29 = N 39 29 := h39 _ (by omega)
  have g31 : N2 39 31 = N 39 31 := h39 _ (by omega)
  have g36 : N2 39 36 = N 39 36 := h39 _ (by omega)
  have g49 := v39_49
  have g50 : N2 39 50 = N 39 50 := h39 _ (by omega)
  have g58 : N2 39 58 = N 39 58 := h39 _ (by omega)
  have g63 : N2 39 63 = N 39 63 := h39 _ (by omega)
  have r5 : N2 5 = N 5 := hsm 5 (by omega)
  have r41 : N2 41 = N 41 := hsm 41 (by omega)
  have r42 : N2 42 = N 42 := hsm 42 (by omega)
  have r43 : N2 43 = N 43 := hsm 43 (by omega)
  have r44 : N2 44 = N 44 := hsm 44 (by omega)
  have r45 : N2 45 = N 45 := hsm 45 (by omega)
  have r46 : N2 46 = N 46 := hsm 46 (by omega)
  have r47 : N2 47 = N 47 := hsm 47 (by omega)
  have r48 : N2 48 = N 48 := hsm 48 (by omega)
  have r59 : N2 59 = N 59 := hsm 59 (by omega)
  have lF : ∀ i, lastF N2 i = lastF N i := lastF_k r48 g10
  have lS : ∀ i, lastS N2 i = lastS N i := lastS_k r59 g31
  have kCnt : mCnt N2 := by unfold mCnt; omega
  have k_ord : mOrd N2 := mOrd_k (show sC N N2 [48, 49, 50, 59, 61, 62] from fun b hb => hsm b (by simp only [List.mem_cons, List.not_mem_nil, or_false] at hb; omega)) (show s9 N N2 [10, 31] from fun b hb => h39 b (by simp only [List.mem_cons, List.not_mem_nil, or_false] at hb; omega)) hI.ord
  have k_ppl : mPpl N2 := mPpl_k (show sC N N2 [41, 42, 43, 44, 45, 46, 47] from fun b hb => hsm b (by simp only [List.mem_cons, List.not_mem_nil, or_false] at hb; omega)) g2 (by omega) hm.2.2.1
  have k_flt : mFlt N2 := mFlt_k (show sC N N2 [48, 49, 50] from fun b hb => hsm b (by simp only [List.mem_cons, List.not_mem_nil, or_false] at hb; omega)) g10 (by omega) hm.2.2.2.1
  have k_spl : mSpl N2 := mSpl_k (show sC N N2 [59, 60, 61, 62] from fun b hb => hsm b (by simp only [List.mem_cons, List.not_mem_nil, or_false] at hb; omega)) g31 (by omega) (by omega) hm.2.2.2.2.1
  have k_sty : mSty N2 := mSty_k (show sC N N2 [63, 64, 65, 66] from fun b hb => hsm b (by simp only [List.mem_cons, List.not_mem_nil, or_false] at hb; omega)) g36 (by omega) (by omega) hm.2.2.2.2.2.1
  have k_ple : mPle N2 := mPle_k (show sC N N2 [74, 75, 76, 77, 78] from fun b hb => hsm b (by simp only [List.mem_cons, List.not_mem_nil, or_false] at hb; omega)) g50 (by omega) (by omega) hm.2.2.2.2.2.2
  have k_hs : xHs N2 := by
    have t1 : N2 3 1 = N 3 1 := h3 _ (by omega)
    have t3 : N2 3 3 = N 3 3 := h3 _ (by omega)
    have t5 : N2 3 5 = N 3 5 := h3 _ (by omega)
    have t8 : N2 3 8 = N 3 8 := h3 _ (by omega)
    have t10 : N2 3 10 = N 3 10 := h3 _ (by omega)
    have t11 : N2 3 11 = N 3 11 := h3 _ (by omega)
    have t7 : N2 7 2 = N 7 2 := by rw [hsm 7 (by omega)]
    have t12 : N2 12 1 = N 12 1 := by rw [hsm 12 (by omega)]
    have r4 : N2 4 = N 4 := hsm 4 (by omega)
    have r40 : N2 40 = N 40 := hsm 40 (by omega)
    have r6 : N2 6 = N 6 := hsm 6 (by omega)
    have r58 : N2 58 = N 58 := hsm 58 (by omega)
    have r8 : N2 8 = N 8 := hsm 8 (by omega)
    have r9 : N2 9 = N 9 := hsm 9 (by omega)
    have r56 : N2 56 = N 56 := hsm 56 (by omega)
    have r57 : N2 57 = N 57 := hsm 57 (by omega)
    have r13 : N2 13 = N 13 := hsm 13 (by omega)
    have r51 : N2 51 = N 51 := hsm 51 (by omega)
    refine ⟨by omega, by omega, by omega, by omega, by omega, by omega, by omega, by omega, fun i h0 h1 => by rw [r4, r40]; exact eh i h0 h1, fun i h0 h1 => by rw [r6, r58]; exact eg i h0 h1, fun i h0 h1 => by rw [r8, r9, r56, r57, g26]; exact ef i h0 h1, fun i h0 h1 => by rw [r13, r51]; rw [g15] at h1; exact et i h0 h1⟩
  have k_ps : xPs s N2 fa sa := by
    refine ⟨fun i h0 h1 => ?_, by rw [r5, g2]; exact hI.ps.2⟩
    rw [g2] at h1
    obtain ⟨a, ha⟩ := hI.ps.1 i h0 h1
    obtain ⟨q1, q2⟩ := hper i a h0 h1 ha
    obtain ⟨p88, pA, p5, p0, p1, p2, p3, p4, p5f, p6, p7, p8, p9⟩ := ha
    refine ⟨a, p88, pA, ?_⟩
    rw [r5, r41, r42, r43, r44, r45, r46, r47, lF, lS, q1 0 (by decide), q1 1 (by decide), q1 2 (by decide), q1 3 (by decide), q1 4 (by decide), q1 5 (by decide), q1 6 (by decide), q1 8 (by decide), q1 9 (by decide)]
    exact ⟨p5, p0, p1, p2, p3, p4, p5f, p6, Or.inr ⟨by omega, q2⟩, p8, p9⟩
  have k_fs : xFs s N2 fa := xFs_k hs (show s8 s N N2 2 from fun b h1 h2 h3 => hdy b h1 h2 (by omega)) (show sC N N2 [48, 49, 50] from fun b hb => hsm b (by simp only [List.mem_cons, List.not_mem_nil, or_false] at hb; omega)) g10 hI.fs
  have k_ss : xSs s N2 sa := xSs_k hs (show s8 s N N2 8 from fun b h1 h2 h3 => hdy b h1 h2 (by omega)) (show sC N N2 [59, 60, 61, 62] from fun b hb => hsm b (by simp only [List.mem_cons, List.not_mem_nil, or_false] at hb; omega)) g31 hI.ss
  have k_ys : xYs s N2 := xYs_k hs (show s8 s N N2 9 from fun b h1 h2 h3 => hdy b h1 h2 (by omega)) (show sC N N2 [10, 63, 64, 65, 66] from fun b hb => hsm b (by simp only [List.mem_cons, List.not_mem_nil, or_false] at hb; omega)) g36 hI.ys
  have k_ls : xLs s N2 fa := xLs_k hs (show s8 s N N2 5 from fun b h1 h2 h3 => hdy b h1 h2 (by omega)) (show s8 s N N2 20 from fun b h1 h2 h3 => hdy b h1 h2 (by omega)) (show s8 s N N2 21 from fun b h1 h2 h3 => hdy b h1 h2 (by omega)) (show sC N N2 [11, 48, 74, 75, 76, 77, 78, 79, 80] from fun b hb => hsm b (by simp only [List.mem_cons, List.not_mem_nil, or_false] at hb; omega)) g50 hI.ls
  have k_law : xLaw N2 := xLaw_k (show sC N N2 [14, 15, 16, 17, 18, 19, 52, 53] from fun b hb => hsm b (by simp only [List.mem_cons, List.not_mem_nil, or_false] at hb; omega)) ((show s3 N N2 [13] from fun b hb => h3 b (by simp only [List.mem_cons, List.not_mem_nil, or_false] at hb; omega)) 13 (by simp)) ((show s3 N N2 [14] from fun b hb => h3 b (by simp only [List.mem_cons, List.not_mem_nil, or_false] at hb; omega)) 14 (by simp)) g18 hI.law
  have k_sh : xSh N2 := xSh_k (show sC N N2 [20, 31, 32, 33, 34, 35, 36, 37, 38, 82, 83, 84] from fun b hb => hsm b (by simp only [List.mem_cons, List.not_mem_nil, or_false] at hb; omega)) hI.sh
  have k_ro : xRo N2 := xRo_k (show sC N N2 [21, 22, 23, 24, 85, 86, 87] from fun b hb => hsm b (by simp only [List.mem_cons, List.not_mem_nil, or_false] at hb; omega)) g63 hI.ro
  have k_kp : yKp N2 := yKp_k (show s3 N N2 [19] from fun b hb => h3 b (by simp only [List.mem_cons, List.not_mem_nil, or_false] at hb; omega)) (show s9 N N2 [10, 31] from fun b hb => h39 b (by simp only [List.mem_cons, List.not_mem_nil, or_false] at hb; omega)) hy.1
  have k_ow : yOw N2 := yOw_k (show sC N N2 [76, 77, 80] from fun b hb => hsm b (by simp only [List.mem_cons, List.not_mem_nil, or_false] at hb; omega)) (show s9 N N2 [50] from fun b hb => h39 b (by simp only [List.mem_cons, List.not_mem_nil, or_false] at hb; omega)) hy.2.1
  have k_tp : yTp N2 := yTp_k (show sC N N2 [51] from fun b hb => hsm b (by simp only [List.mem_cons, List.not_mem_nil, or_false] at hb; omega)) (show s9 N N2 [15] from fun b hb => h39 b (by simp only [List.mem_cons, List.not_mem_nil, or_false] at hb; omega)) hy.2.2.1
  have k_yro : yRo N2 := yRo_k (show sC N N2 [85, 86] from fun b hb => hsm b (by simp only [List.mem_cons, List.not_mem_nil, or_false] at hb; omega)) hy.2.2.2.1
  have k_ln : yLn N2 := yLn_k (show sC N N2 [40, 58] from fun b hb => hsm b (by simp only [List.mem_cons, List.not_mem_nil, or_false] at hb; omega)) (show s9 N N2 [0, 29] from fun b hb => h39 b (by simp only [List.mem_cons, List.not_mem_nil, or_false] at hb; omega)) hy.2.2.2.2.1
  have k_cm : yCm N2 := by
    exact fun _ i h0 h1 => h73 i (by omega) h1
  have k_bf : yBf N2 := yBf_k (show sC N N2 [42, 48, 49] from fun b hb => hsm b (by simp only [List.mem_cons, List.not_mem_nil, or_false] at hb; omega)) (show s9 N N2 [10] from fun b hb => h39 b (by simp only [List.mem_cons, List.not_mem_nil, or_false] at hb; omega)) hy.2.2.2.2.2.2
  have k_bud : bud N2 ≤ bud N + 1 := by have := bud_k (show sC N N2 [59, 62] from fun b hb => hsm b (by simp only [List.mem_cons, List.not_mem_nil, or_false] at hb; omega)) (show s9 N N2 [2, 10, 31] from fun b hb => h39 b (by simp only [List.mem_cons, List.not_mem_nil, or_false] at hb; omega)); omega
  exact ⟨⟨hB.k hs, hG, ⟨hG.1, kCnt, k_ppl, k_flt, k_spl, k_sty, k_ple⟩, k_ord, k_hs, k_ps, k_fs, k_ss, k_ys, k_ls, k_law, k_sh, k_ro⟩, ⟨k_kp, k_ow, k_tp, k_yro, k_ln, k_cm, k_bf⟩, k_bud⟩
set_option maxRecDepth 20000 in
set_option maxHeartbeats 2000000 in
theorem jx_srch (hI : xI s N fa sa) (hy : yI N) {N2 : zN} (hs : sK s s) (hG : zG s N2) (hsm : ∀ a : Nat, (a < 88 ∧ a ≠ 25 ∧ a ≠ 26 ∧ a ≠ 27 ∧ a ≠ 28 ∧ a ≠ 29 ∧ a ≠ 67 ∧ a ≠ 68 ∧ a ≠ 69 ∧ a ≠ 70 ∧ a ≠ 71 ∧ a ≠ 72 ∧ a ≠ 39 ∧ a ≠ 3) → N2 a = N a) (h39 : ∀ j : Int, (j ≠ 41) → N2 39 j = N 39 j) (h3 : ∀ j : Int, (j ≠ 1000) → N2 3 j = N 3 j) (hdy : ∀ a : Nat, 88 ≤ a → a < s.1.1 → ((s.2 a).1 ≠ 1000) → N2 a = N a) (v39_41 : N2 39 41 = N2 39 41) : xI s N2 fa sa ∧ yI N2 ∧ bud N2 ≤ bud N + 1 := by
  have hB := hI.B
  have hR := hI.R
  have hC := hI.C
  unfold mCnt at hC
  have hm := hI.m
  have n88 := hB.1
  obtain ⟨e1, e5, e7, e8, e10, e11, e3, e12, eh, eg, ef, et⟩ := hI.hs
  have g0 : N2 39 0 = N 39 0 := h39 _ (by omega)
  have g2 : N2 39 2 = N 39 2 := h39 _ (by omega)
  have g10 : N2 39 10 = N 39 10 := h39 _ (by omega)
  have g15 : N2 39 15 = N 39 15 := h39 _ (by omega)
  have g18 : N2 39 18 = N 39 18 := h39 _ (by omega)
  have g26 : N2 39 26 = N 39 26 := h39 _ (by omega)
  have g29 : N2 39 29 = N 39 29 := h39 _ (by omega)
  have g31 : N2 39 31 = N 39 31 := h39 _ (by omega)
  have g36 : N2 39 36 = N 39 36 := h39 _ (by omega)
  have g49 : N2 39 49 = N 39 49 := h39 _ (by omega)
  have g50 : N2 39 50 = N 39 50 := h39 _ (by omega)
  have g58 : N2 39 58 = N 39 58 := h39 _ (by omega)
  have g63 : N2 39 63 = N 39 63 := h39 _ (by omega)
  have kCnt : mCnt N2 := by unfold mCnt; omega
  have k_ord : mOrd N2 := mOrd_k (show sC N N2 [48, 49, 50, 59, 61, 62] from fun b hb => hsm b (by simp only [List.mem_cons, List.not_mem_nil, or_false] at hb; omega)) (show s9 N N2 [10, 31] from fun b hb => h39 b (by simp only [List.mem_cons, List.not_mem_nil, or_false] at hb; omega)) hI.ord
  have k_ppl : mPpl N2 := mPpl_k (show sC N N2 [41, 42, 43, 44, 45, 46, 47] from fun b hb => hsm b (by simp only [List.mem_cons, List.not_mem_nil, or_false] at hb; omega)) g2 (by omega) hm.2.2.1
  have k_flt : mFlt N2 := mFlt_k (show sC N N2 [48, 49, 50] from fun b hb => hsm b (by simp only [List.mem_cons, List.not_mem_nil, or_false] at hb; omega)) g10 (by omega) hm.2.2.2.1
  have k_spl : mSpl N2 := mSpl_k (show sC N N2 [59, 60, 61, 62] from fun b hb => hsm b (by simp only [List.mem_cons, List.not_mem_nil, or_false] at hb; omega)) g31 (by omega) (by omega) hm.2.2.2.2.1
  have k_sty : mSty N2 := mSty_k (show sC N N2 [63, 64, 65, 66] from fun b hb => hsm b (by simp only [List.mem_cons, List.not_mem_nil, or_false] at hb; omega)) g36 (by omega) (by omega) hm.2.2.2.2.2.1
  have k_ple : mPle N2 := mPle_k (show sC N N2 [74, 75, 76, 77, 78] from fun b hb => hsm b (by simp only [List.mem_cons, List.not_mem_nil, or_false] at hb; omega)) g50 (by omega) (by omega) hm.2.2.2.2.2.2
  have k_hs : xHs N2 := xHs_k (show s3 N N2 [1, 3, 5, 8, 10, 11] from fun b hb => h3 b (by simp only [List.mem_cons, List.not_mem_nil, or_false] at hb; omega)) (show s9 N N2 [0, 2, 15, 26, 29, 36, 50, 58] from fun b hb => h39 b (by simp only [List.mem_cons, List.not_mem_nil, or_false] at hb; omega)) (show sC N N2 [4, 6, 7, 8, 9, 12, 13, 40, 51, 56, 57, 58] from fun b hb => hsm b (by simp only [List.mem_cons, List.not_mem_nil, or_false] at hb; omega)) hI.hs
  have k_ps : xPs s N2 fa sa := xPs_k hs (show s8 s N N2 4 from fun b h1 h2 h3 => hdy b h1 h2 (by omega)) ((show sC N N2 [5] from fun b hb => hsm b (by simp only [List.mem_cons, List.not_mem_nil, or_false] at hb; omega)) 5 (by simp)) (show sC N N2 [41, 42, 43, 44, 45, 46, 47, 48, 59, 73] from fun b hb => hsm b (by simp only [List.mem_cons, List.not_mem_nil, or_false] at hb; omega)) (show s9 N N2 [2, 10, 31, 49] from fun b hb => h39 b (by simp only [List.mem_cons, List.not_mem_nil, or_false] at hb; omega)) hI.ps
  have k_fs : xFs s N2 fa := xFs_k hs (show s8 s N N2 2 from fun b h1 h2 h3 => hdy b h1 h2 (by omega)) (show sC N N2 [48, 49, 50] from fun b hb => hsm b (by simp only [List.mem_cons, List.not_mem_nil, or_false] at hb; omega)) g10 hI.fs
  have k_ss : xSs s N2 sa := xSs_k hs (show s8 s N N2 8 from fun b h1 h2 h3 => hdy b h1 h2 (by omega)) (show sC N N2 [59, 60, 61, 62] from fun b hb => hsm b (by simp only [List.mem_cons, List.not_mem_nil, or_false] at hb; omega)) g31 hI.ss
  have k_ys : xYs s N2 := xYs_k hs (show s8 s N N2 9 from fun b h1 h2 h3 => hdy b h1 h2 (by omega)) (show sC N N2 [10, 63, 64, 65, 66] from fun b hb => hsm b (by simp only [List.mem_cons, List.not_mem_nil, or_false] at hb; omega)) g36 hI.ys
  have k_ls : xLs s N2 fa := xLs_k hs (show s8 s N N2 5 from fun b h1 h2 h3 => hdy b h1 h2 (by omega)) (show s8 s N N2 20 from fun b h1 h2 h3 => hdy b h1 h2 (by omega)) (show s8 s N N2 21 from fun b h1 h2 h3 => hdy b h1 h2 (by omega)) (show sC N N2 [11, 48, 74, 75, 76, 77, 78, 79, 80] from fun b hb => hsm b (by simp only [List.mem_cons, List.not_mem_nil, or_false] at hb; omega)) g50 hI.ls
  have k_law : xLaw N2 := xLaw_k (show sC N N2 [14, 15, 16, 17, 18, 19, 52, 53] from fun b hb => hsm b (by simp only [List.mem_cons, List.not_mem_nil, or_false] at hb; omega)) ((show s3 N N2 [13] from fun b hb => h3 b (by simp only [List.mem_cons, List.not_mem_nil, or_false] at hb; omega)) 13 (by simp)) ((show s3 N N2 [14] from fun b hb => h3 b (by simp only [List.mem_cons, List.not_mem_nil, or_false] at hb; omega)) 14 (by simp)) g18 hI.law
  have k_sh : xSh N2 := xSh_k (show sC N N2 [20, 31, 32, 33, 34, 35, 36, 37, 38, 82, 83, 84] from fun b hb => hsm b (by simp only [List.mem_cons, List.not_mem_nil, or_false] at hb; omega)) hI.sh
  have k_ro : xRo N2 := xRo_k (show sC N N2 [21, 22, 23, 24, 85, 86, 87] from fun b hb => hsm b (by simp only [List.mem_cons, List.not_mem_nil, or_false] at hb; omega)) g63 hI.ro
  have k_kp : yKp N2 := yKp_k (show s3 N N2 [19] from fun b hb => h3 b (by simp only [List.mem_cons, List.not_mem_nil, or_false] at hb; omega)) (show s9 N N2 [10, 31] from fun b hb => h39 b (by simp only [List.mem_cons, List.not_mem_nil, or_false] at hb; omega)) hy.1
  have k_ow : yOw N2 := yOw_k (show sC N N2 [76, 77, 80] from fun b hb => hsm b (by simp only [List.mem_cons, List.not_mem_nil, or_false] at hb; omega)) (show s9 N N2 [50] from fun b hb => h39 b (by simp only [List.mem_cons, List.not_mem_nil, or_false] at hb; omega)) hy.2.1
  have k_tp : yTp N2 := yTp_k (show sC N N2 [51] from fun b hb => hsm b (by simp only [List.mem_cons, List.not_mem_nil, or_false] at hb; omega)) (show s9 N N2 [15] from fun b hb => h39 b (by simp only [List.mem_cons, List.not_mem_nil, or_false] at hb; omega)) hy.2.2.1
  have k_yro : yRo N2 := yRo_k (show sC N N2 [85, 86] from fun b hb => hsm b (by simp only [List.mem_cons, List.not_mem_nil, or_false] at hb; omega)) hy.2.2.2.1
  have k_ln : yLn N2 := yLn_k (show sC N N2 [40, 58] from fun b hb => hsm b (by simp only [List.mem_cons, List.not_mem_nil, or_false] at hb; omega)) (show s9 N N2 [0, 29] from fun b hb => h39 b (by simp only [List.mem_cons, List.not_mem_nil, or_false] at hb; omega)) hy.2.2.2.2.1
  have k_cm : yCm N2 := yCm_k (show sC N N2 [73] from fun b hb => hsm b (by simp only [List.mem_cons, List.not_mem_nil, or_false] at hb; omega)) (show s9 N N2 [2, 49] from fun b hb => h39 b (by simp only [List.mem_cons, List.not_mem_nil, or_false] at hb; omega)) hy.2.2.2.2.2.1
  have k_bf : yBf N2 := yBf_k (show sC N N2 [42, 48, 49] from fun b hb => hsm b (by simp only [List.mem_cons, List.not_mem_nil, or_false] at hb; omega)) (show s9 N N2 [10] from fun b hb => h39 b (by simp only [List.mem_cons, List.not_mem_nil, or_false] at hb; omega)) hy.2.2.2.2.2.2
  have k_bud : bud N2 ≤ bud N + 1 := by have := bud_k (show sC N N2 [59, 62] from fun b hb => hsm b (by simp only [List.mem_cons, List.not_mem_nil, or_false] at hb; omega)) (show s9 N N2 [2, 10, 31] from fun b hb => h39 b (by simp only [List.mem_cons, List.not_mem_nil, or_false] at hb; omega)); omega
  exact ⟨⟨hB.k hs, hG, ⟨hG.1, kCnt, k_ppl, k_flt, k_spl, k_sty, k_ple⟩, k_ord, k_hs, k_ps, k_fs, k_ss, k_ys, k_ls, k_law, k_sh, k_ro⟩, ⟨k_kp, k_ow, k_tp, k_yro, k_ln, k_cm, k_bf⟩, k_bud⟩
def mix (P M : zN) : zN := fun a => if 39 ≤ a ∧ a < 88 then M a else P a
theorem mix_i {P M : zN} {a : Nat} (h1 : 39 ≤ a) (h2 : a < 88) : mix P M a = M a := if_pos ⟨h1, h2⟩
theorem mix_o {P M : zN} {a : Nat} (h : a < 39 ∨ 88 ≤ a) : mix P M a = P a := if_neg (by omega)
theorem mix_um {P M : zN} {a : Nat} {x v : Int} (h : 39 ≤ a ∧ a < 88) : mix P (mup M a x v) = mup (mix P M) a x v := by
  funext b y
  by_cases hb : b = a
  · subst hb
    rw [mix_i h.1 h.2]
    by_cases hy : y = x
    · rw [hy, mup_self, mup_self]
    · rw [mup_slot hy, mup_slot hy, mix_i h.1 h.2]
  · rw [mup_fn hb]
    by_cases hm : 39 ≤ b ∧ b < 88
    · rw [mix_i hm.1 hm.2, mix_i hm.1 hm.2, mup_fn hb]
    · rw [mix_o (by omega), mix_o (by omega)]
theorem mix_up {P M : zN} {a : Nat} {x v : Int} (h : a < 39 ∨ 88 ≤ a) : mix (mup P a x v) M = mup (mix P M) a x v := by
  funext b y
  by_cases hb : b = a
  · subst hb
    rw [mix_o h]
    by_cases hy : y = x
    · rw [hy, mup_self, mup_self]
    · rw [mup_slot hy, mup_slot hy, mix_o h]
  · rw [mup_fn hb]
    by_cases hm : 39 ≤ b ∧ b < 88
    · rw [mix_i hm.1 hm.2, mix_i hm.1 hm.2]
    · rw [mix_o (by omega), mix_o (by omega), mup_fn hb]
theorem mup_com {M : zN} {a b : Nat} {x y v u : Int} (h : a ≠ b) : mup (mup M a x v) b y u = mup (mup M b y u) a x v := by
  funext c z
  by_cases hb : c = b
  · subst hb
    rw [mup_fn (a := a) (Ne.symm h)]
    by_cases hz : z = y
    · rw [hz, mup_self, mup_self]
    · rw [mup_slot hz, mup_slot hz, mup_fn (Ne.symm h)]
  · rw [mup_fn hb]
    by_cases ha : c = a
    · subst ha
      by_cases hz : z = x
      · rw [hz, mup_self, mup_self]
      · rw [mup_slot hz, mup_slot hz, mup_fn hb]
    · rw [mup_fn ha, mup_fn ha, mup_fn hb]
theorem n_begin_73 {M : zN} {w g d x v : Int} : mup (n_begin M w g d) 73 x v = n_begin (mup M 73 x v) w g d := by
  unfold n_begin
  rw [mup_com (a := 39) (b := 73) (by decide), mup_com (a := 62) (b := 73) (by decide), mup_com (a := 61) (b := 73) (by decide), mup_com (a := 60) (b := 73) (by decide), mup_com (a := 59) (b := 73) (by decide), mup_cell (a := 73) (b := 39) (by decide)]
theorem boundS_b {M : zN} {w g d v : Int} (h0 : 0 ≤ M 39 31) (h : boundS (n_begin M w g d) v d) : v = w ∨ boundS M v d := by
  obtain ⟨k, h1, h2, h3⟩ := h
  have e31 : n_begin M w g d 39 31 = M 39 31 + 1 := by unfold n_begin; exact mup_self _ _ _ _
  rw [e31] at h1
  by_cases hk : (k : Int) = M 39 31
  · rw [hk] at h2
    unfold n_begin at h2
    rw [mup_cell (by decide), mup_cell (by decide), mup_cell (by decide), mup_cell (by decide), mup_self] at h2
    exact Or.inl h2.symm
  · right
    unfold n_begin at h2 h3
    rw [mup_cell (by decide), mup_cell (by decide), mup_cell (by decide), mup_cell (by decide), mup_slot hk] at h2
    rw [mup_cell (by decide), mup_slot hk, mup_cell (by decide), mup_cell (by decide), mup_cell (by decide)] at h3
    exact ⟨k, by omega, h2, h3⟩
end FI14
