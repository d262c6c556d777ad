/-! pleas, both (printed by wip/whole/gen/r12.py) -/
section RT12
variable {X : zX} {s : zK} {N : zN} {σ : zS} {fa sa : Int → Int} {Q K : Option Value → zS → Prop} {c : Int}
set_option maxRecDepth 20000 in
set_option maxHeartbeats 2000000 in
theorem jx_plea (hI : xI s N fa sa) (hy : yI N) {N2 : zN} (hs : sK s (z_ns (z_ns (z_ns s (5, 0) 9) (21, 48) 48) (20, 48) 48)) (hG : zG (z_ns (z_ns (z_ns s (5, 0) 9) (21, 48) 48) (20, 48) 48) N2) (hsm : ∀ a : Nat, (a < 88 ∧ a ≠ 11 ∧ a ≠ 74 ∧ a ≠ 75 ∧ a ≠ 76 ∧ a ≠ 77 ∧ a ≠ 78 ∧ a ≠ 79 ∧ a ≠ 80 ∧ a ≠ 39 ∧ a ≠ 3) → N2 a = N a) (h39 : ∀ j : Int, (j ≠ 50) → N2 39 j = N 39 j) (h3 : ∀ j : Int, (j ≠ 10) → N2 3 j = N 3 j) (hdy : ∀ a : Nat, 88 ≤ a → a < s.1.1 → ((s.2 a).1 ≠ 1000) → N2 a = N a) {w g d fi : Int} {f : Nat} (v39_50 : N2 39 50 = (N 39 50) + 1) (v3_10 : N2 3 10 = (N 39 50) + 1) (hpl : 0 ≤ (N 39 50) ∧ (N 39 50) < 20) (hfi : 1 ≤ fi ∧ fi ≤ 9999) (hl : 0 ≤ lastF N w) (hg : 0 ≤ g ∧ g < N 39 29) (hf : xFlt s N fa (lastF N w) f) (w11 : N2 11 (N 39 50) = (s.1.1 : Int)) (u11 : ∀ x : Int, x ≠ (N 39 50) → N2 11 x = N 11 x) (u7 : ∀ (a : Nat) (x : Int), 74 ≤ a → a ≤ 78 → x ≠ (N 39 50) → N2 a x = N a x) (w74 : N2 74 (N 39 50) = lastF N w) (w75 : N2 75 (N 39 50) = g) (w76 : N2 76 (N 39 50) = fi) (w77 : N2 77 (N 39 50) = 0) (w78 : N2 78 (N 39 50) = 0) (u8 : ∀ (a : Nat) (x : Int), (a = 79 ∨ a = 80) → ¬ (48 * (N 39 50) ≤ x ∧ x < 48 * (N 39 50) + 48) → N2 a x = N a x) (w79 : ∀ x : Int, 0 ≤ x → x < 48 → N2 79 (48 * (N 39 50) + x) = bi (x < N 39 2 ∧ ansP N w g d x) ∧ N2 80 (48 * (N 39 50) + x) = 0) (bA3 : zA (z_ns (z_ns (z_ns s (5, 0) 9) (21, 48) 48) (20, 48) 48) s.1.1 (5, 0)) (e1A : zA (z_ns (z_ns (z_ns s (5, 0) 9) (21, 48) 48) (20, 48) 48) (s.1.1 + 1) (21, 48)) (e2A : zA (z_ns (z_ns (z_ns s (5, 0) 9) (21, 48) 48) (20, 48) 48) (s.1.1 + 2) (20, 48)) (qb : N2 s.1.1 0 = w ∧ N2 s.1.1 1 = (f : Int) ∧ N2 s.1.1 2 = g ∧ N2 s.1.1 3 = fi ∧ N2 s.1.1 4 = ((s.1.1 + 1 : Nat) : Int) ∧ N2 s.1.1 5 = ((s.1.1 + 2 : Nat) : Int) ∧ N2 s.1.1 6 = cnt (fun x : Nat => ansP N w g d x) (N 39 2).toNat ∧ N2 s.1.1 7 = 0 ∧ N2 s.1.1 8 = 0) (q1 : ∀ x : Int, N2 (s.1.1 + 1) x = if 0 ≤ x ∧ x < (N 39 2).toNat then bi (ansP N w g d x) else 0) (q2 : ∀ x : Int, N2 (s.1.1 + 2) x = 0) : xI (z_ns (z_ns (z_ns s (5, 0) 9) (21, 48) 48) (20, 48) 48) N2 fa sa ∧ yI N2 ∧ bud N2 ≤ bud N + 1 := by
  have hB := hI.B
  have hR := hI.R
  have hC := hI.C
  unfold mCnt at hC
  have hm := hI.m
  have n88 := hB.1
  obtain ⟨e1, e5, e7, e8, e10, e11, e3, e12, eh, eg, ef, et⟩ := hI.hs
  have g0 : N2 39 0 = N 39 0 := h39 _ (by omega)
  have g2 : N2 39 2 = N 39 2 := h39 _ (by omega)
  have g10 : N2 39 10 = N 39 10 := h39 _ (by omega)
  have g15 : N2 39 15 = N 39 15 := h39 _ (by omega)
  have g18 : N2 39 18 = N 39 18 := h39 _ (by omega)
  have g26 : N2 39 26 = N 39 26 := h39 _ (by omega)
  have g29 : N2 39 29 = N 39 29 := h39 _ (by omega)
  have g31 : N2 39 31 = N 39 31 := h39 _ (by omega)
  have g36 : N2 39 36 = N 39 36 := h39 _ (by omega)
  have g49 : N2 39 49 = N 39 49 := h39 _ (by omega)
  have g50 := v39_50
  have g58 : N2 39 58 = N 39 58 := h39 _ (by omega)
  have g63 : N2 39 63 = N 39 63 := h39 _ (by omega)
  have r48 : N2 48 = N 48 := hsm 48 (by omega)
  have r49 : N2 49 = N 49 := hsm 49 (by omega)
  have r50 : N2 50 = N 50 := hsm 50 (by omega)
  have n88' := hI.B.1
  have hlt3 : (z_ns (z_ns (z_ns s (5, 0) 9) (21, 48) 48) (20, 48) 48).1.1 = s.1.1 + 3 := rfl
  have kCnt : mCnt N2 := by unfold mCnt; omega
  have k_ord : mOrd N2 := mOrd_k (show sC N N2 [48, 49, 50, 59, 61, 62] from fun b hb => hsm b (by simp only [List.mem_cons, List.not_mem_nil, or_false] at hb; omega)) (show s9 N N2 [10, 31] from fun b hb => h39 b (by simp only [List.mem_cons, List.not_mem_nil, or_false] at hb; omega)) hI.ord
  have k_ppl : mPpl N2 := mPpl_k (show sC N N2 [41, 42, 43, 44, 45, 46, 47] from fun b hb => hsm b (by simp only [List.mem_cons, List.not_mem_nil, or_false] at hb; omega)) g2 (by omega) hm.2.2.1
  have k_flt : mFlt N2 := mFlt_k (show sC N N2 [48, 49, 50] from fun b hb => hsm b (by simp only [List.mem_cons, List.not_mem_nil, or_false] at hb; omega)) g10 (by omega) hm.2.2.2.1
  have k_spl : mSpl N2 := mSpl_k (show sC N N2 [59, 60, 61, 62] from fun b hb => hsm b (by simp only [List.mem_cons, List.not_mem_nil, or_false] at hb; omega)) g31 (by omega) (by omega) hm.2.2.2.2.1
  have k_sty : mSty N2 := mSty_k (show sC N N2 [63, 64, 65, 66] from fun b hb => hsm b (by simp only [List.mem_cons, List.not_mem_nil, or_false] at hb; omega)) g36 (by omega) (by omega) hm.2.2.2.2.2.1
  have k_ple : mPle N2 := by
    intro p h0 h1
    rw [g50] at h1
    by_cases hp : p = (N 39 50)
    · rw [hp, w74, w75, w76, w77, w78, g10, g29]
      have hlb := lastF_b N w
      omega
    · rw [u7 74 p (by omega) (by omega) hp, u7 75 p (by omega) (by omega) hp, u7 76 p (by omega) (by omega) hp, u7 77 p (by omega) (by omega) hp, u7 78 p (by omega) (by omega) hp, g10, g29]
      exact hm.2.2.2.2.2.2 p h0 (by omega)
  have k_hs : xHs N2 := by
    have t1 : N2 3 1 = N 3 1 := h3 _ (by omega)
    have t3 : N2 3 3 = N 3 3 := h3 _ (by omega)
    have t5 : N2 3 5 = N 3 5 := h3 _ (by omega)
    have t8 : N2 3 8 = N 3 8 := h3 _ (by omega)
    have t10 := v3_10
    have t11 : N2 3 11 = N 3 11 := h3 _ (by omega)
    have t7 : N2 7 2 = N 7 2 := by rw [hsm 7 (by omega)]
    have t12 : N2 12 1 = N 12 1 := by rw [hsm 12 (by omega)]
    have r4 : N2 4 = N 4 := hsm 4 (by omega)
    have r40 : N2 40 = N 40 := hsm 40 (by omega)
    have r6 : N2 6 = N 6 := hsm 6 (by omega)
    have r58 : N2 58 = N 58 := hsm 58 (by omega)
    have r8 : N2 8 = N 8 := hsm 8 (by omega)
    have r9 : N2 9 = N 9 := hsm 9 (by omega)
    have r56 : N2 56 = N 56 := hsm 56 (by omega)
    have r57 : N2 57 = N 57 := hsm 57 (by omega)
    have r13 : N2 13 = N 13 := hsm 13 (by omega)
    have r51 : N2 51 = N 51 := hsm 51 (by omega)
    refine ⟨by omega, by omega, by omega, by omega, by omega, by omega, by omega, by omega, fun i h0 h1 => by rw [r4, r40]; exact eh i h0 h1, fun i h0 h1 => by rw [r6, r58]; exact eg i h0 h1, fun i h0 h1 => by rw [r8, r9, r56, r57, g26]; exact ef i h0 h1, fun i h0 h1 => by rw [r13, r51]; rw [g15] at h1; exact et i h0 h1⟩
  have k_ps : xPs (z_ns (z_ns (z_ns s (5, 0) 9) (21, 48) 48) (20, 48) 48) N2 fa sa := xPs_k hs (show s8 s N N2 4 from fun b h1 h2 h3 => hdy b h1 h2 (by omega)) ((show sC N N2 [5] from fun b hb => hsm b (by simp only [List.mem_cons, List.not_mem_nil, or_false] at hb; omega)) 5 (by simp)) (show sC N N2 [41, 42, 43, 44, 45, 46, 47, 48, 59, 73] from fun b hb => hsm b (by simp only [List.mem_cons, List.not_mem_nil, or_false] at hb; omega)) (show s9 N N2 [2, 10, 31, 49] from fun b hb => h39 b (by simp only [List.mem_cons, List.not_mem_nil, or_false] at hb; omega)) hI.ps
  have k_fs : xFs (z_ns (z_ns (z_ns s (5, 0) 9) (21, 48) 48) (20, 48) 48) N2 fa := xFs_k hs (show s8 s N N2 2 from fun b h1 h2 h3 => hdy b h1 h2 (by omega)) (show sC N N2 [48, 49, 50] from fun b hb => hsm b (by simp only [List.mem_cons, List.not_mem_nil, or_false] at hb; omega)) g10 hI.fs
  have k_ss : xSs (z_ns (z_ns (z_ns s (5, 0) 9) (21, 48) 48) (20, 48) 48) N2 sa := xSs_k hs (show s8 s N N2 8 from fun b h1 h2 h3 => hdy b h1 h2 (by omega)) (show sC N N2 [59, 60, 61, 62] from fun b hb => hsm b (by simp only [List.mem_cons, List.not_mem_nil, or_false] at hb; omega)) g31 hI.ss
  have k_ys : xYs (z_ns (z_ns (z_ns s (5, 0) 9) (21, 48) 48) (20, 48) 48) N2 := xYs_k hs (show s8 s N N2 9 from fun b h1 h2 h3 => hdy b h1 h2 (by omega)) (show sC N N2 [10, 63, 64, 65, 66] from fun b hb => hsm b (by simp only [List.mem_cons, List.not_mem_nil, or_false] at hb; omega)) g36 hI.ys
  have k_ls : xLs (z_ns (z_ns (z_ns s (5, 0) 9) (21, 48) 48) (20, 48) 48) N2 fa := by
    have old : ∀ p : Int, 0 ≤ p → p < (N 39 50) → ∃ a b e, xPle s N fa p a b e ∧ xPle (z_ns (z_ns (z_ns s (5, 0) 9) (21, 48) 48) (20, 48) 48) N2 fa p a b e := by
      intro p h0 h1
      obtain ⟨a, b, e, hl⟩ := hI.ls.1 p h0 h1
      obtain ⟨l88, lA, l11, l0, l1, l2, l3, l4, l5, l6, l7, l8, lb88, lbA, lc88, lcA, lrow⟩ := id hl
      have ea : N2 a = N a := hdy a l88 lA.2.1 (by rw [lA.2.2]; decide)
      have eb : N2 b = N b := hdy b lb88 lbA.2.1 (by rw [lbA.2.2]; decide)
      have ee : N2 e = N e := hdy e lc88 lcA.2.1 (by rw [lcA.2.2]; decide)
      have hq : ∀ x : Int, 0 ≤ x → x < 48 → N2 79 (48 * p + x) = N 79 (48 * p + x) ∧ N2 80 (48 * p + x) = N 80 (48 * p + x) := fun x h2 h3 => ⟨u8 79 _ (by omega) (by omega), u8 80 _ (by omega) (by omega)⟩
      have ec : cnt (fun x : Nat => N2 79 (48 * p + x) ≠ 0) 48 = cnt (fun x : Nat => N 79 (48 * p + x) ≠ 0) 48 := cnt_c (fun x hx => by rw [(hq x (by omega) (by omega)).1])
      refine ⟨a, b, e, hl, l88, hs.A lA, ?_⟩
      rw [ea, eb, ee, u11 p (by omega), u7 74 p (by omega) (by omega) (by omega), u7 75 p (by omega) (by omega) (by omega), u7 76 p (by omega) (by omega) (by omega), u7 77 p (by omega) (by omega) (by omega), u7 78 p (by omega) (by omega) (by omega), r48, ec]
      refine ⟨l11, l0, l1, l2, l3, l4, l5, l6, l7, l8, lb88, hs.A lbA, lc88, hs.A lcA, fun x h2 h3 => ?_⟩
      rw [(hq x h2 h3).1, (hq x h2 h3).2]
      exact lrow x h2 h3
    have new : ∀ p : Int, 0 ≤ p → p < (N 39 50) → N2 11 p ≠ N2 11 (N 39 50) ∧ N2 (N2 11 p).toNat 4 ≠ N2 (N2 11 (N 39 50)).toNat 4 ∧ N2 (N2 11 p).toNat 5 ≠ N2 (N2 11 (N 39 50)).toNat 5 := by
      intro p h0 h1
      obtain ⟨a, b, e, hl, hl2⟩ := old p h0 h1
      have e1 : (N2 11 p).toNat = a := by rw [hl2.2.2.1]; rfl
      have e2 : (N2 11 (N 39 50)).toNat = s.1.1 := by rw [w11]; rfl
      rw [e1, e2, hl2.2.2.1, w11, hl2.2.2.2.2.2.2.2.1, hl2.2.2.2.2.2.2.2.2.1, qb.2.2.2.2.1, qb.2.2.2.2.2.1]
      have k1 := hl.2.1.2.1
      have k2 := hl.2.2.2.2.2.2.2.2.2.2.2.2.2.1.2.1
      have k3 := hl.2.2.2.2.2.2.2.2.2.2.2.2.2.2.2.1.2.1
      omega
    refine ⟨fun p h0 h1 => ?_, fun i i2 h0 h1 h2 h3 h4 => ?_⟩
    · rw [g50] at h1
      by_cases hp : p = (N 39 50)
      · have hfp : fa (lastF N w) = (f : Int) := hf.2.2.1
        have hlp := lastF_p hl
        have ec : cnt (fun x : Nat => N2 79 (48 * (N 39 50) + x) ≠ 0) 48 = cnt (fun x : Nat => ansP N w g d x) (N 39 2).toNat := by
          rw [cnt_c (q := fun x : Nat => (x : Int) < N 39 2 ∧ ansP N w g d x) (fun x hx => by
            rw [(w79 x (by omega) (by omega)).1]
            by_cases hq : (x : Int) < N 39 2 ∧ ansP N w g d x
            · rw [bi_t hq]; exact ⟨fun _ => hq, fun _ => by omega⟩
            · rw [bi_f hq]; exact ⟨fun q => absurd rfl q, fun q => absurd q hq⟩)]
          rw [cnt_flat (m := (N 39 2).toNat) (n := 48) (by omega) (fun x h2 h3 q => by have := q.1; omega)]
          exact cnt_c (fun x hx => ⟨fun q => q.2, fun q => ⟨by omega, q⟩⟩)
        refine ⟨s.1.1, s.1.1 + 1, s.1.1 + 2, by omega, bA3, ?_⟩
        rw [hp, w11, w74, w75, w76, w77, w78, r48, ec, qb.1, qb.2.1, qb.2.2.1, qb.2.2.2.1, qb.2.2.2.2.1, qb.2.2.2.2.2.1, qb.2.2.2.2.2.2.1, qb.2.2.2.2.2.2.2.1, qb.2.2.2.2.2.2.2.2, hlp.1, hfp]
        refine ⟨rfl, rfl, rfl, rfl, rfl, rfl, rfl, rfl, rfl, rfl, by omega, e1A, by omega, e2A, fun x h2 h3 => ?_⟩
        rw [(w79 x h2 h3).1, (w79 x h2 h3).2, q1, q2]
        refine ⟨?_, rfl⟩
        by_cases hx : x < N 39 2
        · rw [if_pos (by omega)]
          exact bi_c ⟨fun q => ⟨hx, q⟩, fun q => q.2⟩
        · rw [if_neg (by omega), bi_f (fun q => hx q.1)]
      · obtain ⟨a, b, e, -, hl2⟩ := old p h0 (by omega)
        exact ⟨a, b, e, hl2⟩
    · rw [g50] at h1 h3
      by_cases hi : i = (N 39 50)
      · by_cases hj : i2 = (N 39 50)
        · omega
        · have := new i2 h2 (by omega)
          rw [hi] at h4
          omega
      · by_cases hj : i2 = (N 39 50)
        · have := new i h0 (by omega)
          rw [hj] at h4
          omega
        · have adr : ∀ p : Int, 0 ≤ p → p < (N 39 50) → N2 (N 11 p).toNat = N (N 11 p).toNat := by
            intro p k0 k1
            obtain ⟨a, b, e, hl, -⟩ := old p k0 k1
            have e1 : (N 11 p).toNat = a := by rw [hl.2.2.1]; rfl
            rw [e1]
            exact hdy a hl.1 hl.2.1.2.1 (by rw [hl.2.1.2.2]; decide)
          rw [u11 i hi, u11 i2 hj, adr i h0 (by omega), adr i2 h2 (by omega)] at h4
          exact hI.ls.2 i i2 h0 (by omega) h2 (by omega) h4
  have k_law : xLaw N2 := xLaw_k (show sC N N2 [14, 15, 16, 17, 18, 19, 52, 53] from fun b hb => hsm b (by simp only [List.mem_cons, List.not_mem_nil, or_false] at hb; omega)) ((show s3 N N2 [13] from fun b hb => h3 b (by simp only [List.mem_cons, List.not_mem_nil, or_false] at hb; omega)) 13 (by simp)) ((show s3 N N2 [14] from fun b hb => h3 b (by simp only [List.mem_cons, List.not_mem_nil, or_false] at hb; omega)) 14 (by simp)) g18 hI.law
  have k_sh : xSh N2 := xSh_k (show sC N N2 [20, 31, 32, 33, 34, 35, 36, 37, 38, 82, 83, 84] from fun b hb => hsm b (by simp only [List.mem_cons, List.not_mem_nil, or_false] at hb; omega)) hI.sh
  have k_ro : xRo N2 := xRo_k (show sC N N2 [21, 22, 23, 24, 85, 86, 87] from fun b hb => hsm b (by simp only [List.mem_cons, List.not_mem_nil, or_false] at hb; omega)) g63 hI.ro
  have k_kp : yKp N2 := yKp_k (show s3 N N2 [19] from fun b hb => h3 b (by simp only [List.mem_cons, List.not_mem_nil, or_false] at hb; omega)) (show s9 N N2 [10, 31] from fun b hb => h39 b (by simp only [List.mem_cons, List.not_mem_nil, or_false] at hb; omega)) hy.1
  have k_ow : yOw N2 := by
    intro p h0 h1
    rw [g50] at h1
    by_cases hp : p = (N 39 50)
    · rw [hp, w77, if_pos rfl]
      refine ⟨fun x h2 h3 => by rw [(w79 x h2 h3).2]; exact Int.le_refl 0, ?_⟩
      rw [sumK_c (g := fun _ => 0) (fun x hx => (w79 x (by omega) (by omega)).2), sumK_z (m := 0) 48 (by omega) (fun i _ _ => rfl)]
      exact Int.le_refl 0
    · have hq : ∀ x : Int, 0 ≤ x → x < 48 → N2 80 (48 * p + x) = N 80 (48 * p + x) := fun x h2 h3 => u8 80 _ (by omega) (by omega)
      have ho := hy.2.1 p h0 (by omega)
      rw [u7 76 p (by omega) (by omega) hp, u7 77 p (by omega) (by omega) hp, sumK_c (g := fun x : Nat => N 80 (48 * p + x)) (fun x hx => hq x (by omega) (by omega))]
      exact ⟨fun x h2 h3 => by rw [hq x h2 h3]; exact ho.1 x h2 h3, ho.2⟩
  have k_tp : yTp N2 := yTp_k (show sC N N2 [51] from fun b hb => hsm b (by simp only [List.mem_cons, List.not_mem_nil, or_false] at hb; omega)) (show s9 N N2 [15] from fun b hb => h39 b (by simp only [List.mem_cons, List.not_mem_nil, or_false] at hb; omega)) hy.2.2.1
  have k_yro : yRo N2 := yRo_k (show sC N N2 [85, 86] from fun b hb => hsm b (by simp only [List.mem_cons, List.not_mem_nil, or_false] at hb; omega)) hy.2.2.2.1
  have k_ln : yLn N2 := yLn_k (show sC N N2 [40, 58] from fun b hb => hsm b (by simp only [List.mem_cons, List.not_mem_nil, or_false] at hb; omega)) (show s9 N N2 [0, 29] from fun b hb => h39 b (by simp only [List.mem_cons, List.not_mem_nil, or_false] at hb; omega)) hy.2.2.2.2.1
  have k_cm : yCm N2 := yCm_k (show sC N N2 [73] from fun b hb => hsm b (by simp only [List.mem_cons, List.not_mem_nil, or_false] at hb; omega)) (show s9 N N2 [2, 49] from fun b hb => h39 b (by simp only [List.mem_cons, List.not_mem_nil, or_false] at hb; omega)) hy.2.2.2.2.2.1
  have k_bf : yBf N2 := yBf_k (show sC N N2 [42, 48, 49] from fun b hb => hsm b (by simp only [List.mem_cons, List.not_mem_nil, or_false] at hb; omega)) (show s9 N N2 [10] from fun b hb => h39 b (by simp only [List.mem_cons, List.not_mem_nil, or_false] at hb; omega)) hy.2.2.2.2.2.2
  have k_bud : bud N2 ≤ bud N + 1 := by have := bud_k (show sC N N2 [59, 62] from fun b hb => hsm b (by simp only [List.mem_cons, List.not_mem_nil, or_false] at hb; omega)) (show s9 N N2 [2, 10, 31] from fun b hb => h39 b (by simp only [List.mem_cons, List.not_mem_nil, or_false] at hb; omega)); omega
  exact ⟨⟨hB.k hs, hG, ⟨hG.1, kCnt, k_ppl, k_flt, k_spl, k_sty, k_ple⟩, k_ord, k_hs, k_ps, k_fs, k_ss, k_ys, k_ls, k_law, k_sh, k_ro⟩, ⟨k_kp, k_ow, k_tp, k_yro, k_ln, k_cm, k_bf⟩, k_bud⟩
theorem eM.charg_ {N' : zN} (h : eM N N') (w d : Int) : charg N' w d = charg N w d := by
  have hs : ∀ i, spA N' i d = spA N i d := fun i => h.spA_ i d
  unfold charg stayK nightsC fairD gHouse
  simp only [h.tHere_, hs, h 39 (by decide) (by decide), h 63 (by decide) (by decide), h 64 (by decide) (by decide), h 65 (by decide) (by decide), h 66 (by decide) (by decide), h 56 (by decide) (by decide), h 57 (by decide) (by decide), h 44 (by decide) (by decide), h 60 (by decide) (by decide)]
theorem eM.gAhead_ {N' : zN} (h : eM N N') (f : Int) : gAhead N' f = gAhead N f := by
  unfold gAhead
  simp only [h.charg_, h.spA_, h 49 (by decide) (by decide), h 41 (by decide) (by decide), h 48 (by decide) (by decide), h 60 (by decide) (by decide)]
theorem eM.ansP_ {N' : zN} (h : eM N N') (w g d x : Int) : ansP N' w g d x = ansP N w g d x := by
  unfold ansP
  rw [h.memb_]
set_option maxRecDepth 20000 in
set_option maxHeartbeats 2000000 in
theorem j_plea (hJ : xJ s N c) (hc : c < 512) {w fi : Int} (hw : zr w) (hfi : zr fi) (h : jK X c m_X12_plea [.ref 39, vi w, vi fi] K) : zC X m_X11_plea [.ref 3, vi w, vi fi] (zI s N) K := by
  obtain ⟨fa, sa, hI, hy, hbud, hsz⟩ := id hJ
  have hk := bud_r hI hbud hc
  have hC := hI.C
  unfold mCnt at hC
  have n88 := hI.B.1
  have hR := hI.R
  have hkp : N 3 19 = N 39 10 + N 39 31 := hy.1
  have hadr := hsz.adr hc
  have hs1 := hsz.1
  refine x_plea hI hy hadr hw hfi (by omega) (fun g1 => ?_) (fun g1 g2 => ?_) (fun g1 g2 g3 => ?_) (fun f g1 g2 g3 hf N4 hv => ?_)
  · exact h _ _ _ (by first | exact hI.B | exact hI.B.k sK.ns | exact hI.B.k (sK.ns.trans (sK.ns.trans sK.ns))) (fun Q hq => k_plea hI.B hI.m hw hfi (fun _ => hq _ _ hJ.up) (fun q => absurd q g1) (fun q => absurd q g1) (fun q => absurd q g1))
  · exact h _ _ _ (by first | exact hI.B | exact hI.B.k sK.ns | exact hI.B.k (sK.ns.trans (sK.ns.trans sK.ns))) (fun Q hq => k_plea hI.B hI.m hw hfi (fun q => absurd g1 q) (fun _ _ => hq _ _ hJ.up) (fun _ q => absurd q g2) (fun _ q => absurd q g2))
  · exact h _ _ _ (by first | exact hI.B | exact hI.B.k sK.ns | exact hI.B.k (sK.ns.trans (sK.ns.trans sK.ns))) (fun Q hq => k_plea hI.B hI.m hw hfi (fun q => absurd g1 q) (fun _ q => absurd g2 q) (fun _ _ _ => hq _ _ hJ.up) (fun _ _ q => absurd q (by omega)))
  · refine h _ _ _ (by first | exact hI.B | exact hI.B.k sK.ns | exact hI.B.k (sK.ns.trans (sK.ns.trans sK.ns))) (fun Q hq => ?_)
    obtain ⟨s1, s2, s3, s4, s5, s6, s7, s8, s9⟩ := hv
    have hE : eM N N4 := fun a h1 h2 => s1 a (by omega) (by omega) (by omega)
    have hm4 : mI N4 := hE.mI_ s9.1 hI.m
    have hsK : sK s (z_ns (z_ns (z_ns s (5, 0) 9) (21, 48) 48) (20, 48) 48) := (sK.ns.trans sK.ns).trans sK.ns
    have nA := zA_new (s := s) (sp := (5, 0)) (sl := 9) (by omega)
    have e50 : N4 39 50 = N 39 50 := hE.at 39 (by decide) (by decide) 50
    refine k_plea (hI.B.k hsK) hm4 hw hfi ?_ ?_ ?_ ?_
    all_goals
      rw [hE.at 39 (by decide) (by decide) 2]
      try rw [hE.lastF_, hE.gAhead_, e50, hE 74 (by decide) (by decide)]
    · exact fun q => absurd g1 q
    · exact fun _ q => absurd g2 q
    · exact fun _ _ q => absurd q (by omega)
    · intro _ _ _ N5 hm5
      obtain ⟨m1, m2, m3, m4, m5, m6, m7, m8, m9⟩ := id hm5
      rw [hE.lastF_] at m3 m4
      rw [hE.gAhead_] at m4
      rw [e50] at m2 m3 m4 m5 m6 m7 m8 m9
      have hlt3 : (z_ns (z_ns (z_ns s (5, 0) 9) (21, 48) 48) (20, 48) 48).1.1 = s.1.1 + 3 := rfl
      have hp5 : plM N4 w fi 48 N5 := hm5
      have hR5 := plM_R hm4 hfi hp5
      have ne : ∀ (a : Nat) (x : Int), ¬ (a = 39 ∧ x = 50) → mup N5 39 50 (N 39 50 + 1) a x = N5 a x := fun a x hh => mup_ne hh
      have up : ∀ (a : Nat) (x : Int), 88 ≤ a → mup N5 39 50 (N 39 50 + 1) a x = N4 a x := fun a x hh => by rw [ne a x (by omega), m1 a (by omega)]
      have hG : zG (z_ns (z_ns (z_ns s (5, 0) 9) (21, 48) 48) (20, 48) 48) (mup N5 39 50 (N 39 50 + 1)) := by
        refine ⟨fun a x => ?_, fun a ha x => (up a x (by omega)).trans (s9.2 a ha x)⟩
        by_cases q : a = 39 ∧ x = 50
        · rw [q.1, q.2, mup_self]; constructor <;> omega
        · rw [ne a x q]; exact hR5 a x
      have hge : N4 49 (lastF N w) = N 49 (lastF N w) := hE.at 49 (by decide) (by decide) _
      have low : ∀ (a : Nat) (x : Int), a < 88 → a ≠ 11 → ¬ (a = 3 ∧ x = 10) → ¬ (a = 39 ∧ x = 50) → a < 74 ∨ 80 < a → mup N5 39 50 (N 39 50 + 1) a x = N a x := fun a x h1 h2 h3 h4 h5 => by
        rw [ne a x h4, m1 a h5]
        by_cases q : a = 3
        · rw [q]; exact s4 x (by omega)
        · rw [s1 a (by omega) h2 q]
      obtain ⟨x1, x2, x3⟩ := jx_plea (N2 := mup N5 39 50 (N 39 50 + 1)) (g := gAhead N (lastF N w)) (d := N 49 (lastF N w)) (fi := fi) (w := w) hI hy hsK hG
        (fun a ha => funext fun x => low a x (by omega) (by omega) (by omega) (by omega) (by omega))
        (fun x hx => low 39 x (by omega) (by omega) (by omega) (by omega) (by omega))
        (fun x hx => low 3 x (by omega) (by omega) (by omega) (by omega) (by omega))
        (fun a h1 h2 _ => funext fun x => (up a x h1).trans (by rw [s1 a h2 (by omega) (by omega)]))
        (mup_self _ _ _ _) (by rw [ne 3 10 (by omega), m1 3 (by omega)]; exact s5) (by omega) g1.2 g2.1 (by have := gAh_g hI.m g2.1; have := g2.2.2; omega) hf
        (by rw [ne 11 _ (by omega), m1 11 (by omega)]; exact s3)
        (fun x hx => by rw [ne 11 _ (by omega), m1 11 (by omega)]; exact s2 x hx)
        (fun a x h1 h2 hx => by rw [ne a x (by omega), m2 a x h1 h2 hx]; exact hE.at a (by omega) (by omega) x)
        (by rw [ne 74 _ (by omega)]; exact m3) (by rw [ne 75 _ (by omega)]; exact m4) (by rw [ne 76 _ (by omega)]; exact m5) (by rw [ne 77 _ (by omega)]; exact m6) (by rw [ne 78 _ (by omega)]; exact m7)
        (fun a x h1 hx => by rw [ne a x (by omega), m8 a x h1 hx]; exact hE.at a (by omega) (by omega) x)
        (fun x h1 h2 => by
          have q := m9 x h1 h2
          rw [hE.lastF_, hE.gAhead_, hge, hE.ansP_, hE.at 39 (by decide) (by decide) 2] at q
          rw [ne 79 _ (by omega), ne 80 _ (by omega)]
          exact q)
        ((sK.ns.trans sK.ns).A nA) (sK.ns.A (zA_new (s := z_ns s (5, 0) 9) (sp := (21, 48)) (sl := 48) (by show 40 ≤ s.1.1 + 1; omega))) (zA_new (s := z_ns (z_ns s (5, 0) 9) (21, 48) 48) (sp := (20, 48)) (sl := 48) (by show 40 ≤ s.1.1 + 1 + 1; omega))
        (by
          rw [up _ _ (by omega), up _ _ (by omega), up _ _ (by omega), up _ _ (by omega), up _ _ (by omega), up _ _ (by omega), up _ _ (by omega), up _ _ (by omega), up _ _ (by omega)]
          exact s6)
        (fun x => by rw [up _ _ (by omega)]; exact s7 x) (fun x => by rw [up _ _ (by omega)]; exact s8 x)
      refine hq _ _ ⟨fa, sa, x1, x2, by omega, ?_⟩
      have hs2 := hsz.2
      refine ⟨?_, ?_⟩
      · show ((s.1.1 + 1 + 1 + 1 : Nat) : Int) ≤ _
        omega
      · show ((s.1.2 + 9 + 48 + 48 : Nat) : Int) ≤ _
        omega
end RT12
