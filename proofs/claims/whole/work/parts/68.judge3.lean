/-! judging, both (printed by wip/whole/gen/r6.py) -/
section RT6
variable {X : zX} {s : zK} {N : zN} {σ : zS} {fa sa : Int → Int} {Q K : Option Value → zS → Prop} {c : Int}
set_option maxRecDepth 20000 in
set_option maxHeartbeats 2000000 in
theorem jx_owe (hI : xI s N fa sa) (hy : yI N) {N2 : zN} (hs : sK s s) (hG : zG s N2) (hsm : ∀ a : Nat, (a < 88 ∧ a ≠ 47 ∧ a ≠ 77 ∧ a ≠ 78 ∧ a ≠ 80 ∧ a ≠ 81 ∧ a ≠ 30 ∧ a ≠ 39 ∧ a ≠ 3) → N2 a = N a) (h39 : ∀ j : Int, (j ≠ 58) → N2 39 j = N 39 j) (h3 : ∀ j : Int, (j ≠ 11) → N2 3 j = N 3 j) (hdy : ∀ a : Nat, 88 ≤ a → a < s.1.1 → ((s.2 a).1 ≠ 4 ∧ (s.2 a).1 ≠ 5 ∧ (s.2 a).1 ≠ 20) → N2 a = N a) (v3_11 : N2 3 11 = N2 39 58) (v39_58 : N2 39 58 = N2 39 58) (h47 : ∀ i : Int, 0 ≤ i → i < N 39 2 → (0 ≤ N2 47 i ∧ N2 47 i ≤ 9999) ∨ N2 47 i = 100000) (hper : ∀ (i : Int) (a : Nat), 0 ≤ i → i < N 39 2 → xPer s N fa sa i a → (∀ x : Int, x ≠ 6 → N2 a x = N a x) ∧ ((N2 47 i = 100000 ∧ N2 a 6 = -1) ∨ (N2 47 i ≠ 100000 ∧ N2 a 6 = N2 47 i))) (h77 : ∀ p : Int, 0 ≤ p → p < N 39 50 → (N2 77 p = 0 ∨ N2 77 p = 1) ∧ (N2 78 p = 0 ∨ N2 78 p = 1)) (hple : ∀ (p : Int) (a b e : Nat), 0 ≤ p → p < N 39 50 → xPle s N fa p a b e → (∀ x : Int, x ≠ 7 → x ≠ 8 → N2 a x = N a x) ∧ N2 a 7 = N2 77 p ∧ N2 a 8 = N2 78 p ∧ ∀ x : Int, 0 ≤ x → x < 48 → N2 e x = N2 80 (48 * p + x)) (how : yOw N2) : xI s N2 fa sa ∧ yI N2 ∧ bud N2 ≤ bud N + 1 := by
  have hB := hI.B
  have hR := hI.R
  have hC := hI.C
  unfold mCnt at hC
  have hm := hI.m
  have n88 := hB.1
  obtain ⟨e1, e5, e7, e8, e10, e11, e3, e12, eh, eg, ef, et⟩ := hI.hs
  have g0 : N2 39 0 = N 39 0 := h39 _ (by omega)
  have g2 : N2 39 2 = N 39 2 := h39 _ (by omega)
  have g10 : N2 39 10 = N 39 10 := h39 _ (by omega)
  have g15 : N2 39 15 = N 39 15 := h39 _ (by omega)
  have g18 : N2 39 18 = N 39 18 := h39 _ (by omega)
  have g26 : N2 39 26 = N 39 26 := h39 _ (by omega)
  have g29 : N2 39 29 = N 39 29 := h39 _ (by omega)
  have g31 : N2 39 31 = N 39 31 := h39 _ (by omega)
  have g36 : N2 39 36 = N 39 36 := h39 _ (by omega)
  have g49 : N2 39 49 = N 39 49 := h39 _ (by omega)
  have g50 : N2 39 50 = N 39 50 := h39 _ (by omega)
  have g58 := v39_58
  have g63 : N2 39 63 = N 39 63 := h39 _ (by omega)
  have r5 : N2 5 = N 5 := hsm 5 (by omega)
  have r11 : N2 11 = N 11 := hsm 11 (by omega)
  have r41 : N2 41 = N 41 := hsm 41 (by omega)
  have r42 : N2 42 = N 42 := hsm 42 (by omega)
  have r43 : N2 43 = N 43 := hsm 43 (by omega)
  have r44 : N2 44 = N 44 := hsm 44 (by omega)
  have r45 : N2 45 = N 45 := hsm 45 (by omega)
  have r46 : N2 46 = N 46 := hsm 46 (by omega)
  have r48 : N2 48 = N 48 := hsm 48 (by omega)
  have r49 : N2 49 = N 49 := hsm 49 (by omega)
  have r50 : N2 50 = N 50 := hsm 50 (by omega)
  have r59 : N2 59 = N 59 := hsm 59 (by omega)
  have r73 : N2 73 = N 73 := hsm 73 (by omega)
  have r74 : N2 74 = N 74 := hsm 74 (by omega)
  have r75 : N2 75 = N 75 := hsm 75 (by omega)
  have r76 : N2 76 = N 76 := hsm 76 (by omega)
  have r79 : N2 79 = N 79 := hsm 79 (by omega)
  have lF : ∀ i, lastF N2 i = lastF N i := lastF_k r48 g10
  have lS : ∀ i, lastS N2 i = lastS N i := lastS_k r59 g31
  have kCnt : mCnt N2 := by unfold mCnt; omega
  have k_ord : mOrd N2 := mOrd_k (show sC N N2 [48, 49, 50, 59, 61, 62] from fun b hb => hsm b (by simp only [List.mem_cons, List.not_mem_nil, or_false] at hb; omega)) (show s9 N N2 [10, 31] from fun b hb => h39 b (by simp only [List.mem_cons, List.not_mem_nil, or_false] at hb; omega)) hI.ord
  have k_ppl : mPpl N2 := by
    intro i h0 h1
    rw [g2] at h1
    have := hm.2.2.1 i h0 h1
    rw [r41, r42, r43, r44, r45, r46, g0, g2]
    exact ⟨this.1, this.2.1, this.2.2.1, this.2.2.2.1, this.2.2.2.2.1, this.2.2.2.2.2.1, h47 i h0 h1⟩
  have k_flt : mFlt N2 := mFlt_k (show sC N N2 [48, 49, 50] from fun b hb => hsm b (by simp only [List.mem_cons, List.not_mem_nil, or_false] at hb; omega)) g10 (by omega) hm.2.2.2.1
  have k_spl : mSpl N2 := mSpl_k (show sC N N2 [59, 60, 61, 62] from fun b hb => hsm b (by simp only [List.mem_cons, List.not_mem_nil, or_false] at hb; omega)) g31 (by omega) (by omega) hm.2.2.2.2.1
  have k_sty : mSty N2 := by
    exact mSty_k (show sC N N2 [63, 64, 65, 66] from fun b hb => hsm b (by simp only [List.mem_cons, List.not_mem_nil, or_false] at hb; omega)) g36 (by omega) (by omega) hm.2.2.2.2.2.1
  have k_ple : mPle N2 := by
    intro p h0 h1
    rw [g50] at h1
    have := hm.2.2.2.2.2.2 p h0 h1
    rw [r74, r75, r76, g10, g29]
    exact ⟨this.1, this.2.1, this.2.2.1, h77 p h0 h1⟩
  have k_hs : xHs N2 := by
    have t1 : N2 3 1 = N 3 1 := h3 _ (by omega)
    have t3 : N2 3 3 = N 3 3 := h3 _ (by omega)
    have t5 : N2 3 5 = N 3 5 := h3 _ (by omega)
    have t8 : N2 3 8 = N 3 8 := h3 _ (by omega)
    have t10 : N2 3 10 = N 3 10 := h3 _ (by omega)
    have t11 := v3_11
    have t7 : N2 7 2 = N 7 2 := by rw [hsm 7 (by omega)]
    have t12 : N2 12 1 = N 12 1 := by rw [hsm 12 (by omega)]
    have r4 : N2 4 = N 4 := hsm 4 (by omega)
    have r40 : N2 40 = N 40 := hsm 40 (by omega)
    have r6 : N2 6 = N 6 := hsm 6 (by omega)
    have r58 : N2 58 = N 58 := hsm 58 (by omega)
    have r8 : N2 8 = N 8 := hsm 8 (by omega)
    have r9 : N2 9 = N 9 := hsm 9 (by omega)
    have r56 : N2 56 = N 56 := hsm 56 (by omega)
    have r57 : N2 57 = N 57 := hsm 57 (by omega)
    have r13 : N2 13 = N 13 := hsm 13 (by omega)
    have r51 : N2 51 = N 51 := hsm 51 (by omega)
    refine ⟨by omega, by omega, by omega, by omega, by omega, by omega, by omega, by omega, fun i h0 h1 => by rw [r4, r40]; exact eh i h0 h1, fun i h0 h1 => by rw [r6, r58]; exact eg i h0 h1, fun i h0 h1 => by rw [r8, r9, r56, r57, g26]; exact ef i h0 h1, fun i h0 h1 => by rw [r13, r51]; rw [g15] at h1; exact et i h0 h1⟩
  have k_ps : xPs s N2 fa sa := by
    refine ⟨fun i h0 h1 => ?_, by rw [r5, g2]; exact hI.ps.2⟩
    rw [g2] at h1
    obtain ⟨a, ha⟩ := hI.ps.1 i h0 h1
    obtain ⟨q1, q2⟩ := hper i a h0 h1 ha
    obtain ⟨p88, pA, p5, p0, p1, p2, p3, p4, p5f, p6, p7, p8, p9⟩ := ha
    refine ⟨a, p88, pA, ?_⟩
    rw [r5, r41, r42, r43, r44, r45, r46, r73, g49, lF, lS, q1 0 (by decide), q1 1 (by decide), q1 2 (by decide), q1 3 (by decide), q1 4 (by decide), q1 5 (by decide), q1 7 (by decide), q1 8 (by decide), q1 9 (by decide)]
    exact ⟨p5, p0, p1, p2, p3, p4, p5f, q2, p7, p8, p9⟩
  have k_fs : xFs s N2 fa := xFs_k hs (show s8 s N N2 2 from fun b h1 h2 h3 => hdy b h1 h2 (by omega)) (show sC N N2 [48, 49, 50] from fun b hb => hsm b (by simp only [List.mem_cons, List.not_mem_nil, or_false] at hb; omega)) g10 hI.fs
  have k_ss : xSs s N2 sa := xSs_k hs (show s8 s N N2 8 from fun b h1 h2 h3 => hdy b h1 h2 (by omega)) (show sC N N2 [59, 60, 61, 62] from fun b hb => hsm b (by simp only [List.mem_cons, List.not_mem_nil, or_false] at hb; omega)) g31 hI.ss
  have k_ys : xYs s N2 := xYs_k hs (show s8 s N N2 9 from fun b h1 h2 h3 => hdy b h1 h2 (by omega)) (show sC N N2 [10, 63, 64, 65, 66] from fun b hb => hsm b (by simp only [List.mem_cons, List.not_mem_nil, or_false] at hb; omega)) g36 hI.ys
  have k_ls : xLs s N2 fa := by
    have adr : ∀ i : Int, 0 ≤ i → i < N 39 50 → N2 (N 11 i).toNat 4 = N (N 11 i).toNat 4 ∧ N2 (N 11 i).toNat 5 = N (N 11 i).toNat 5 := by
      intro i h0 h1
      obtain ⟨a, b, e, hl⟩ := hI.ls.1 i h0 h1
      have e1 : (N 11 i).toNat = a := by rw [hl.2.2.1]; rfl
      have q := (hple i a b e h0 h1 hl).1
      rw [e1]
      exact ⟨q 4 (by decide) (by decide), q 5 (by decide) (by decide)⟩
    refine ⟨fun p h0 h1 => ?_, fun i i2 hi0 hi1 hj0 hj1 => ?_⟩
    · rw [g50] at h1
      obtain ⟨a, b, e, hl⟩ := hI.ls.1 p h0 h1
      obtain ⟨q1, q2, q3, q4⟩ := hple p a b e h0 h1 hl
      obtain ⟨l88, lA, l11, l0, l1, l2, l3, l4, l5, l6, l7, l8, lb88, lbA, lc88, lcA, lrow⟩ := hl
      refine ⟨a, b, e, l88, lA, ?_⟩
      have eb : N2 b = N b := hdy b lb88 lbA.2.1 (by rw [lbA.2.2]; decide)
      rw [r11, r48, r74, r75, r76, r79, q1 0 (by decide) (by decide), q1 1 (by decide) (by decide), q1 2 (by decide) (by decide), q1 3 (by decide) (by decide), q1 4 (by decide) (by decide), q1 5 (by decide) (by decide), q1 6 (by decide) (by decide), q2, q3, eb]
      exact ⟨l11, l0, l1, l2, l3, l4, l5, l6, rfl, rfl, lb88, lbA, lc88, lcA, fun w h2 h3 => ⟨(lrow w h2 h3).1, q4 w h2 h3⟩⟩
    · rw [g50] at hi1 hj1
      rw [r11, (adr i hi0 hi1).1, (adr i hi0 hi1).2, (adr i2 hj0 hj1).1, (adr i2 hj0 hj1).2]
      exact hI.ls.2 i i2 hi0 hi1 hj0 hj1
  have k_law : xLaw N2 := xLaw_k (show sC N N2 [14, 15, 16, 17, 18, 19, 52, 53] from fun b hb => hsm b (by simp only [List.mem_cons, List.not_mem_nil, or_false] at hb; omega)) ((show s3 N N2 [13] from fun b hb => h3 b (by simp only [List.mem_cons, List.not_mem_nil, or_false] at hb; omega)) 13 (by simp)) ((show s3 N N2 [14] from fun b hb => h3 b (by simp only [List.mem_cons, List.not_mem_nil, or_false] at hb; omega)) 14 (by simp)) g18 hI.law
  have k_sh : xSh N2 := xSh_k (show sC N N2 [20, 31, 32, 33, 34, 35, 36, 37, 38, 82, 83, 84] from fun b hb => hsm b (by simp only [List.mem_cons, List.not_mem_nil, or_false] at hb; omega)) hI.sh
  have k_ro : xRo N2 := xRo_k (show sC N N2 [21, 22, 23, 24, 85, 86, 87] from fun b hb => hsm b (by simp only [List.mem_cons, List.not_mem_nil, or_false] at hb; omega)) g63 hI.ro
  have k_kp : yKp N2 := yKp_k (show s3 N N2 [19] from fun b hb => h3 b (by simp only [List.mem_cons, List.not_mem_nil, or_false] at hb; omega)) (show s9 N N2 [10, 31] from fun b hb => h39 b (by simp only [List.mem_cons, List.not_mem_nil, or_false] at hb; omega)) hy.1
  have k_ow : yOw N2 := by
    exact how
  have k_tp : yTp N2 := yTp_k (show sC N N2 [51] from fun b hb => hsm b (by simp only [List.mem_cons, List.not_mem_nil, or_false] at hb; omega)) (show s9 N N2 [15] from fun b hb => h39 b (by simp only [List.mem_cons, List.not_mem_nil, or_false] at hb; omega)) hy.2.2.1
  have k_yro : yRo N2 := yRo_k (show sC N N2 [85, 86] from fun b hb => hsm b (by simp only [List.mem_cons, List.not_mem_nil, or_false] at hb; omega)) hy.2.2.2.1
  have k_ln : yLn N2 := yLn_k (show sC N N2 [40, 58] from fun b hb => hsm b (by simp only [List.mem_cons, List.not_mem_nil, or_false] at hb; omega)) (show s9 N N2 [0, 29] from fun b hb => h39 b (by simp only [List.mem_cons, List.not_mem_nil, or_false] at hb; omega)) hy.2.2.2.2.1
  have k_cm : yCm N2 := yCm_k (show sC N N2 [73] from fun b hb => hsm b (by simp only [List.mem_cons, List.not_mem_nil, or_false] at hb; omega)) (show s9 N N2 [2, 49] from fun b hb => h39 b (by simp only [List.mem_cons, List.not_mem_nil, or_false] at hb; omega)) hy.2.2.2.2.2.1
  have k_bf : yBf N2 := yBf_k (show sC N N2 [42, 48, 49] from fun b hb => hsm b (by simp only [List.mem_cons, List.not_mem_nil, or_false] at hb; omega)) (show s9 N N2 [10] from fun b hb => h39 b (by simp only [List.mem_cons, List.not_mem_nil, or_false] at hb; omega)) hy.2.2.2.2.2.2
  have k_bud : bud N2 ≤ bud N + 1 := by have := bud_k (show sC N N2 [59, 62] from fun b hb => hsm b (by simp only [List.mem_cons, List.not_mem_nil, or_false] at hb; omega)) (show s9 N N2 [2, 10, 31] from fun b hb => h39 b (by simp only [List.mem_cons, List.not_mem_nil, or_false] at hb; omega)); omega
  exact ⟨⟨hB.k hs, hG, ⟨hG.1, kCnt, k_ppl, k_flt, k_spl, k_sty, k_ple⟩, k_ord, k_hs, k_ps, k_fs, k_ss, k_ys, k_ls, k_law, k_sh, k_ro⟩, ⟨k_kp, k_ow, k_tp, k_yro, k_ln, k_cm, k_bf⟩, k_bud⟩
theorem lsJ_r (hR : zr (N 39 58)) (d : Int) : ∀ n : Nat, zr (lsJ N d n)
  | 0 => hR
  | n + 1 => by
    rw [lsJ]
    by_cases h : duE N n d ∧ aln N n = 0
    · rw [zif_t h]; exact w32_r _
    · rw [zif_f h]; exact lsJ_r hR d n
theorem adn_s {p am : Int} (h0 : 0 ≤ am) (h48 : N 39 2 ≤ 48) (ha : 0 < aln N p) : (∀ x, 0 ≤ adn N p am x ∧ adn N p am x ≤ am) ∧ sumK (fun x => adn N p am x) 48 = am ∧ ∀ x : Int, x < 0 ∨ 48 ≤ x → adn N p am x = 0 :=
  ⟨fun x => padd_r (wgt_w N) h0 ha x, padd_s (wgt_w N) h0 ha (by omega), fun x hx => padd_z ha (by omega)⟩
/-- a plea not yet parted: nothing is owed -/
theorem yOw_0 (hy : yOw N) {p : Int} (h0 : 0 ≤ p) (h1 : p < N 39 50) (h77 : N 77 p = 0) {w : Int} (hw0 : 0 ≤ w) (hw1 : w < 48) : N 80 (48 * p + w) = 0 := by
  obtain ⟨a1, a2⟩ := hy p h0 h1
  rw [if_pos h77] at a2
  have h := sumK_1 (f := fun x : Nat => N 80 (48 * p + x)) (k := w.toNat) 48 (fun i hi => a1 i (by omega) (by omega)) (by omega)
  have h2 := a1 w hw0 hw1
  have e : N 80 (48 * p + (w.toNat : Int)) = N 80 (48 * p + w) := by rw [z_cast hw0]
  have h : N 80 (48 * p + (w.toNat : Int)) ≤ sumK (fun x : Nat => N 80 (48 * p + x)) 48 := h
  omega
theorem j_judge_R (hI : xI s N fa sa) (hy : yI N) {d : Int} {N1 : zN} (h : jS N d (N 39 50).toNat N1) : zG s N1 ∧ eM N N1 := by
  have hC := hI.C
  unfold mCnt at hC
  have hR := hI.R
  have n88 := hI.B.1
  have had : ∀ p : Nat, p < (N 39 50).toNat → 88 ≤ lA N p ∧ 88 ≤ lC N p ∧ lA N p < s.1.1 ∧ lC N p < s.1.1 := by
    intro p hp
    obtain ⟨a, b, e, hl⟩ := hI.ls.1 (p : Int) (by omega) (by omega)
    obtain ⟨q1, q2⟩ := lA_p hl
    rw [q1, q2]
    exact ⟨hl.1, hl.2.2.2.2.2.2.2.2.2.2.2.2.2.2.1, hl.2.1.2.1, hl.2.2.2.2.2.2.2.2.2.2.2.2.2.2.2.1.2.1⟩
  refine ⟨⟨fun a x => ?_, fun a ha x => ?_⟩, fun a h1 h2 => funext fun x => ?_⟩
  · by_cases g1 : a = 30
    · rw [g1]; exact h.2.2.2 x
    · by_cases g2 : a = 3 ∧ x = 11
      · rw [g2.1, g2.2, h.2.2.1]; exact lsJ_r (hR _ _) d _
      · by_cases g3 : ∃ p : Nat, p < (N 39 50).toNat ∧ duE N p d ∧ ((a = lA N p ∧ (x = 7 ∨ x = 8)) ∨ a = lC N p)
        · obtain ⟨p, q1, q2, q3⟩ := g3
          obtain ⟨k1, k2, k3⟩ := h.2.1 p q1 q2
          rcases q3 with ⟨q3, q4 | q4⟩ | q3
          · rw [q3, q4, k1]; constructor <;> omega
          · rw [q3, q4, k2]
            have := bi_r (0 < aln N p)
            constructor <;> omega
          · rw [q3, k3 x]
            have hpl := hI.m.2.2.2.2.2.2 (p : Int) (by omega) (by omega)
            by_cases ha : 0 < aln N p
            · rw [zif_t ha]
              have hs := adn_s (p := p) (am := N 76 p) (by omega) hC.2.1.2 ha
              by_cases hx : x < 0 ∨ 48 ≤ x
              · rw [hs.2.2 x hx, Int.add_zero]; exact hR _ _
              · obtain ⟨a2, b2, e2, hl⟩ := hI.ls.1 (p : Int) (by omega) (by omega)
                rw [(lA_p hl).2, (hl.2.2.2.2.2.2.2.2.2.2.2.2.2.2.2.2 x (by omega) (by omega)).2, yOw_0 hy.2.1 (by omega) (by omega) q2.1 (by omega) (by omega)]
                have := hs.1 x
                constructor <;> omega
            · rw [zif_f ha, Int.add_zero]; exact hR _ _
        · rw [h.1 a x g1 g2 (fun p hp hq => ⟨fun q => g3 ⟨p, hp, hq, Or.inl q⟩, fun q => g3 ⟨p, hp, hq, Or.inr q⟩⟩)]
          exact hR a x
  · rw [h.1 a x (by omega) (by omega) (fun p hp _ => by have := had p hp; omega)]
    exact hI.2.1.2 a ha x
  · exact h.1 a x (by omega) (by omega) (fun p hp _ => by have := had p hp; omega)
set_option maxRecDepth 20000 in
set_option maxHeartbeats 2000000 in
theorem j_judge (hJ : xJ s N c) (hc : c < 512) {d : Int} (hd : zr d) (h : jK X c m_X12_judge [.ref 39, vi d] K) : zC X m_X11_judge [.ref 3, vi d] (zI s N) K := by
  obtain ⟨fa, sa, hI, hy, hbud, hsz⟩ := id hJ
  have hk := bud_r hI hbud hc
  have hC := hI.C
  unfold mCnt at hC
  have n88 := hI.B.1
  have hR := hI.R
  have hkp : N 3 19 = N 39 10 + N 39 31 := hy.1
  refine x_judge hI hd (fun g1 => ?_) (fun g1 N1 hv => ?_)
  · exact h _ _ _ (by first | exact hI.B | exact hI.B.k sK.ns | exact hI.B.k (sK.ns.trans (sK.ns.trans sK.ns))) (fun Q hq => k_judge hI.B hI.m eM.rf hI.R hd (fun _ => hq _ _ hJ.up) (fun q => absurd q g1))
  · refine h _ _ _ (by first | exact hI.B | exact hI.B.k sK.ns | exact hI.B.k (sK.ns.trans (sK.ns.trans sK.ns))) (fun Q hq => ?_)
    obtain ⟨hG1, hE⟩ := j_judge_R hI hy hv
    refine k_judge hI.B hI.m hE hG1.1 hd (fun q => absurd g1 q) (fun _ N2 hv2 => ?_)
    have had : ∀ p : Nat, p < (N 39 50).toNat → 88 ≤ lA N p ∧ 88 ≤ lC N p ∧ (s.2 (lA N p)).1 = 5 ∧ (s.2 (lC N p)).1 = 20 := by
      intro p hp
      obtain ⟨a, b, e, hl⟩ := hI.ls.1 (p : Int) (by omega) (by omega)
      obtain ⟨q1, q2⟩ := lA_p hl
      rw [q1, q2]
      exact ⟨hl.1, hl.2.2.2.2.2.2.2.2.2.2.2.2.2.2.1, by rw [hl.2.1.2.2], by rw [hl.2.2.2.2.2.2.2.2.2.2.2.2.2.2.2.1.2.2]⟩
    -- cells that neither touches
    have key : ∀ (a : Nat) (x : Int), a ≠ 30 → a ≠ 81 → a ≠ 77 → a ≠ 78 → a ≠ 80 → ¬ (a = 3 ∧ x = 11) → ¬ (a = 39 ∧ x = 58) → (∀ p : Nat, p < (N 39 50).toNat → a ≠ lA N p ∧ a ≠ lC N p) → N2 a x = N a x := fun a x h1 h2 h3 h4 h5 h6 h7 h8 => (hv2.1 a x h2 h7 (fun p hp _ => by omega)).trans (hv.1 a x h1 h6 (fun p hp _ => by have := h8 p hp; omega))
    have low : ∀ (a : Nat) (x : Int), a < 88 → a ≠ 30 → a ≠ 81 → a ≠ 77 → a ≠ 78 → a ≠ 80 → ¬ (a = 3 ∧ x = 11) → ¬ (a = 39 ∧ x = 58) → N2 a x = N a x := fun a x h0 h1 h2 h3 h4 h5 h6 h7 => key a x h1 h2 h3 h4 h5 h6 h7 (fun p hp => by have := had p hp; omega)
    have up : ∀ (a : Nat) (x : Int), 88 ≤ a → N2 a x = N1 a x := fun a x h0 => hv2.1 a x (by omega) (by omega) (fun p hp _ => by omega)
    have r77 : ∀ p : Nat, p < (N 39 50).toNat → ¬ duE N p d → N2 77 p = N 77 p ∧ N2 78 p = N 78 p ∧ ∀ x : Int, 0 ≤ x → x < 48 → N2 80 (48 * (p : Int) + x) = N 80 (48 * (p : Int) + x) := by
      intro p hp hn
      have k : ∀ (a : Nat) (x : Int), (a = 77 ∨ a = 78) → x = p → N2 a x = N a x := fun a x h1 h2 => (hv2.1 a x (by omega) (by omega) (fun p2 hp2 hq2 => ⟨fun q => hn (by rw [show (p : Int) = (p2 : Int) by omega]; exact hq2), by omega⟩)).trans (hE.at a (by omega) (by omega) x)
      refine ⟨k 77 p (by omega) rfl, k 78 p (by omega) rfl, fun x h0 h1 => ?_⟩
      exact (hv2.1 80 _ (by omega) (by omega) (fun p2 hp2 hq2 => ⟨by omega, fun q => hn (by rw [show (p : Int) = (p2 : Int) by omega]; exact hq2)⟩)).trans (hE.at 80 (by omega) (by omega) _)
    have rows80 : ∀ p : Nat, p < (N 39 50).toNat → ∀ x : Int, 0 ≤ x → x < 48 → 0 ≤ N2 80 (48 * (p : Int) + x) ∧ N2 80 (48 * (p : Int) + x) ≤ 9999 := by
      intro p hp x h0 h1
      have hpl := hI.m.2.2.2.2.2.2 (p : Int) (by omega) (by omega)
      by_cases hq : duE N p d
      · rw [(hv2.2.1 p hp hq).2.2 x h0 h1, yOw_0 hy.2.1 (by omega) (by omega) hq.1 h0 h1]
        by_cases ha : 0 < aln N p
        · have hs := (adn_s (p := p) (am := N 76 p) (by omega) hC.2.1.2 ha).1 x
          rw [zif_t ha]
          omega
        · rw [zif_f ha]
          omega
      · rw [(r77 p hp hq).2.2 x h0 h1]
        obtain ⟨o1, o2⟩ := hy.2.1 p (by omega) (by omega)
        have o3 := sumK_1 (f := fun w : Nat => N 80 (48 * (p : Int) + w)) (k := x.toNat) 48 (fun i hi => o1 i (by omega) (by omega)) (by omega)
        have e : N 80 (48 * (p : Int) + (x.toNat : Int)) = N 80 (48 * (p : Int) + x) := by rw [z_cast h0]
        have o3 : N 80 (48 * (p : Int) + (x.toNat : Int)) ≤ sumK (fun w : Nat => N 80 (48 * (p : Int) + w)) 48 := o3
        have := o1 x h0 h1
        split at o2 <;> omega
    have hG : zG s N2 := by
      refine ⟨fun a x => ?_, fun a ha x => (up a x (by have := hI.B.1; omega)).trans (hG1.2 a ha x)⟩
      by_cases g1 : a = 81
      · rw [g1]; exact hv2.2.2.2 x
      · by_cases g2 : a = 39 ∧ x = 58
        · rw [g2.1, g2.2, hv2.2.2.1]; exact lsJ_r (hR _ _) d _
        · by_cases g3 : a = 80
          · by_cases g4 : ∃ p : Nat, p < (N 39 50).toNat ∧ 48 * (p : Int) ≤ x ∧ x < 48 * (p : Int) + 48
            · obtain ⟨p, q1, q2, q3⟩ := g4
              have := rows80 p q1 (x - 48 * p) (by omega) (by omega)
              rw [show 48 * (p : Int) + (x - 48 * p) = x by omega] at this
              rw [g3]
              constructor <;> omega
            · rw [hv2.1 a x g1 g2 (fun p hp _ => ⟨by omega, fun q => g4 ⟨p, hp, q.2⟩⟩)]; exact hG1.1 _ _
          · by_cases g5 : a = 39
            · rw [hv2.1 a x g1 g2 (fun p hp _ => ⟨by omega, by omega⟩)]; exact hG1.1 _ _
            · exact jM_R hG1.1 hv2 a x g3 g1 g5
    have how : yOw N2 := by
      intro p h0 h1
      rw [low 39 50 (by omega) (by omega) (by omega) (by omega) (by omega) (by omega) (by omega) (by omega)] at h1
      have hpl := hI.m.2.2.2.2.2.2 p h0 h1
      have ep : ((p.toNat : Nat) : Int) = p := z_cast h0
      have h76 : N2 76 p = N 76 p := low 76 p (by omega) (by omega) (by omega) (by omega) (by omega) (by omega) (by omega) (by omega)
      rw [h76]
      refine ⟨fun w w0 w1 => ?_, ?_⟩
      · have := (rows80 p.toNat (by omega) w w0 w1).1
        rwa [ep] at this
      · by_cases hq : duE N p d
        · obtain ⟨m1, m2, m3⟩ := hv2.2.1 p.toNat (by omega) (by rw [ep]; exact hq)
          rw [ep] at m1 m2 m3
          rw [m1, if_neg (by omega)]
          by_cases ha : 0 < aln N p
          · have hs := (adn_s (p := p) (am := N 76 p) (by omega) hC.2.1.2 ha).2.1
            rw [sumK_c (g := fun x => adn N p (N 76 p) x) (fun i hi => by rw [m3 i (by omega) (by omega), zif_t ha, yOw_0 hy.2.1 h0 h1 hq.1 (by omega) (by omega), Int.zero_add]), hs]
            exact Int.le_refl _
          · rw [sumK_c (g := fun x => 0) (fun i hi => by rw [m3 i (by omega) (by omega), zif_f ha, yOw_0 hy.2.1 h0 h1 hq.1 (by omega) (by omega), Int.zero_add]), sumK_z (m := 0) 48 (by omega) (fun i _ _ => rfl)]
            show (0 : Int) ≤ _
            omega
        · have r := r77 p.toNat (by omega) (by rw [ep]; exact hq)
          rw [ep] at r
          rw [r.1, sumK_c (g := fun w => N 80 (48 * p + w)) (fun i hi => r.2.2 i (by omega) (by omega))]
          exact (hy.2.1 p h0 h1).2
    obtain ⟨x1, x2, x3⟩ := jx_owe (N2 := N2) hI hy sK.rf hG (fun a ha => funext fun x => low a x (by omega) (by omega) (by omega) (by omega) (by omega) (by omega) (by omega) (by omega)) (fun j0 hj => low 39 j0 (by omega) (by omega) (by omega) (by omega) (by omega) (by omega) (by omega) (by omega)) (fun j0 hj => low 3 j0 (by omega) (by omega) (by omega) (by omega) (by omega) (by omega) (by omega) (by omega)) (fun a h1 h2 h3 => funext fun x => key a x (by omega) (by omega) (by omega) (by omega) (by omega) (by omega) (by omega) (fun p hp => by
        have := had p hp
        refine ⟨fun q => ?_, fun q => ?_⟩
        · rw [q] at h3; omega
        · rw [q] at h3; omega)) (by rw [hv2.2.2.1, hv2.1 3 11 (by omega) (by omega) (fun p hp _ => ⟨by omega, by omega⟩), hv.2.2.1]) rfl
      (fun i h0 h1 => by
        rw [low 47 i (by omega) (by omega) (by omega) (by omega) (by omega) (by omega) (by omega) (by omega)]
        exact (hI.m.2.2.1 i h0 h1).2.2.2.2.2.2)
      (fun i a h0 h1 ha => by
        have ea : ∀ x, N2 a x = N a x := fun x => key a x (by have := ha.1; omega) (by have := ha.1; omega) (by have := ha.1; omega) (by have := ha.1; omega) (by have := ha.1; omega) (by have := ha.1; omega) (by have := ha.1; omega) (fun p hp => by
          have := had p hp
          have hk := ha.2.1.2.2
          refine ⟨fun q => ?_, fun q => ?_⟩
          · rw [← q, hk] at this; exact absurd this.2.2.1 (by decide)
          · rw [← q, hk] at this; exact absurd this.2.2.2 (by decide))
        rw [low 47 i (by omega) (by omega) (by omega) (by omega) (by omega) (by omega) (by omega) (by omega), ea 6]
        exact ⟨fun x _ => ea x, ha.2.2.2.2.2.2.2.2.2.1⟩)
      (fun p h0 h1 => by
        have ep : ((p.toNat : Nat) : Int) = p := z_cast h0
        by_cases hq : duE N p d
        · obtain ⟨m1, m2, m3⟩ := hv2.2.1 p.toNat (by omega) (by rw [ep]; exact hq)
          rw [ep] at m1 m2
          rw [m1, m2]
          have := bi_r (0 < aln N p)
          omega
        · have r := r77 p.toNat (by omega) (by rw [ep]; exact hq)
          rw [ep] at r
          rw [r.1, r.2.1]
          exact (hI.m.2.2.2.2.2.2 p h0 h1).2.2.2)
      (fun p a b e h0 h1 hl => by
        have ep : ((p.toNat : Nat) : Int) = p := z_cast h0
        obtain ⟨q1, q2⟩ := lA_p hl
        have hne : ∀ p2 : Nat, p2 < (N 39 50).toNat → (a = lA N p2 ∨ e = lC N p2) → (p2 : Int) = p := by
          intro p2 hp2 hor
          obtain ⟨a2, b2, e2, hl2⟩ := hI.ls.1 (p2 : Int) (by omega) (by omega)
          obtain ⟨k1, k2⟩ := lA_p hl2
          refine hI.ls.2 p2 p (by omega) (by omega) h0 h1 ?_
          rcases hor with q | q
          · exact Or.inl (by rw [hl2.2.2.1, hl.2.2.1, q, k1])
          · refine Or.inr (Or.inr ?_)
            show N (lA N p2) 5 = N (lA N p) 5
            rw [k1, q1, hl2.2.2.2.2.2.2.2.2.1, hl.2.2.2.2.2.2.2.2.1, q, k2]
        have hae : a ≠ e := hl.2.1.ne hl.2.2.2.2.2.2.2.2.2.2.2.2.2.2.2.1 (by decide)
        have h88 := hl.1
        have h88e := hl.2.2.2.2.2.2.2.2.2.2.2.2.2.2.1
        have kA : ∀ p2 : Nat, p2 < (N 39 50).toNat → a ≠ lC N p2 ∧ e ≠ lA N p2 := by
          intro p2 hp2
          have := had p2 hp2
          refine ⟨fun q => ?_, fun q => ?_⟩
          · rw [← q, hl.2.1.2.2] at this; exact absurd this.2.2.2 (by decide)
          · rw [← q, hl.2.2.2.2.2.2.2.2.2.2.2.2.2.2.2.1.2.2] at this; exact absurd this.2.2.1 (by decide)
        have ea : ∀ x : Int, x ≠ 7 → x ≠ 8 → N2 a x = N a x := fun x x7 x8 => (up a x h88).trans (hv.1 a x (by omega) (by omega) (fun p2 hp2 _ => ⟨by omega, (kA p2 hp2).1⟩))
        refine ⟨ea, ?_⟩
        by_cases hq : duE N p d
        · obtain ⟨m1, m2, m3⟩ := hv2.2.1 p.toNat (by omega) (by rw [ep]; exact hq)
          obtain ⟨n1, n2, n3⟩ := hv.2.1 p.toNat (by omega) (by rw [ep]; exact hq)
          rw [ep] at m1 m2 m3 n1 n2 n3
          rw [q1] at n1 n2
          rw [q2] at n3
          rw [m1, m2, up a 7 h88, up a 8 h88, n1, n2]
          refine ⟨rfl, rfl, fun x h2 h3 => ?_⟩
          rw [up e x h88e, n3 x, m3 x h2 h3, (hl.2.2.2.2.2.2.2.2.2.2.2.2.2.2.2.2 x h2 h3).2]
        · have r := r77 p.toNat (by omega) (by rw [ep]; exact hq)
          rw [ep] at r
          have e7 : ∀ x : Int, N2 a x = N a x := fun x => (up a x h88).trans (hv.1 a x (by omega) (by omega) (fun p2 hp2 hq2 => ⟨fun q => hq (by rw [← hne p2 hp2 (Or.inl q.1)]; exact hq2), (kA p2 hp2).1⟩))
          rw [r.1, r.2.1, e7 7, e7 8, hl.2.2.2.2.2.2.2.2.2.2.1, hl.2.2.2.2.2.2.2.2.2.2.2.1]
          refine ⟨rfl, rfl, fun x h2 h3 => ?_⟩
          rw [r.2.2 x h2 h3, up e x h88e, hv.1 e x (by omega) (by omega) (fun p2 hp2 hq2 => ⟨fun q => (kA p2 hp2).2 q.1, fun q => hq (by rw [← hne p2 hp2 (Or.inr q)]; exact hq2)⟩), (hl.2.2.2.2.2.2.2.2.2.2.2.2.2.2.2.2 x h2 h3).2]) how
    exact hq _ _ ⟨fa, sa, x1, x2, by omega, hsz.n0⟩
end RT6
