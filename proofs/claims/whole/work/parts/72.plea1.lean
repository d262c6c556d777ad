/-! pleas, 1 (printed by wip/whole/gen/r10.py) -/
section RT10
variable {X : zX} {s : zK} {N : zN} {σ : zS} {fa sa : Int → Int} {Q K : Option Value → zS → Prop} {c : Int}
set_option maxRecDepth 20000 in
set_option maxHeartbeats 2000000 in
theorem jx_ext {s2 : zK} (hI : xI s N fa sa) (hy : yI N) {N2 : zN} (hs : sK s s2) (hG : zG s2 N2) (hsm : ∀ a : Nat, (a < 88 ∧ a ≠ 39 ∧ a ≠ 3) → N2 a = N a) (h39 : ∀ j : Int, (j ≠ 1000) → N2 39 j = N 39 j) (h3 : ∀ j : Int, (j ≠ 1000) → N2 3 j = N 3 j) (hdy : ∀ a : Nat, 88 ≤ a → a < s.1.1 → ((s.2 a).1 ≠ 1000) → N2 a = N a) (hlo : True) : xI s2 N2 fa sa ∧ yI N2 ∧ bud N2 ≤ bud N + 1 := by
  have hB := hI.B
  have hR := hI.R
  have hC := hI.C
  unfold mCnt at hC
  have hm := hI.m
  have n88 := hB.1
  obtain ⟨e1, e5, e7, e8, e10, e11, e3, e12, eh, eg, ef, et⟩ := hI.hs
  have g0 : N2 39 0 = N 39 0 := h39 _ (by omega)
  have g2 : N2 39 2 = N 39 2 := h39 _ (by omega)
  have g10 : N2 39 10 = N 39 10 := h39 _ (by omega)
  have g15 : N2 39 15 = N 39 15 := h39 _ (by omega)
  have g18 : N2 39 18 = N 39 18 := h39 _ (by omega)
  have g26 : N2 39 26 = N 39 26 := h39 _ (by omega)
  have g29 : N2 39 29 = N 39 29 := h39 _ (by omega)
  have g31 : N2 39 31 = N 39 31 := h39 _ (by omega)
  have g36 : N2 39 36 = N 39 36 := h39 _ (by omega)
  have g49 : N2 39 49 = N 39 49 := h39 _ (by omega)
  have g50 : N2 39 50 = N 39 50 := h39 _ (by omega)
  have g58 : N2 39 58 = N 39 58 := h39 _ (by omega)
  have g63 : N2 39 63 = N 39 63 := h39 _ (by omega)
  have kCnt : mCnt N2 := by unfold mCnt; omega
  have k_ord : mOrd N2 := mOrd_k (show sC N N2 [48, 49, 50, 59, 61, 62] from fun b hb => hsm b (by simp only [List.mem_cons, List.not_mem_nil, or_false] at hb; omega)) (show s9 N N2 [10, 31] from fun b hb => h39 b (by simp only [List.mem_cons, List.not_mem_nil, or_false] at hb; omega)) hI.ord
  have k_ppl : mPpl N2 := mPpl_k (show sC N N2 [41, 42, 43, 44, 45, 46, 47] from fun b hb => hsm b (by simp only [List.mem_cons, List.not_mem_nil, or_false] at hb; omega)) g2 (by omega) hm.2.2.1
  have k_flt : mFlt N2 := mFlt_k (show sC N N2 [48, 49, 50] from fun b hb => hsm b (by simp only [List.mem_cons, List.not_mem_nil, or_false] at hb; omega)) g10 (by omega) hm.2.2.2.1
  have k_spl : mSpl N2 := mSpl_k (show sC N N2 [59, 60, 61, 62] from fun b hb => hsm b (by simp only [List.mem_cons, List.not_mem_nil, or_false] at hb; omega)) g31 (by omega) (by omega) hm.2.2.2.2.1
  have k_sty : mSty N2 := mSty_k (show sC N N2 [63, 64, 65, 66] from fun b hb => hsm b (by simp only [List.mem_cons, List.not_mem_nil, or_false] at hb; omega)) g36 (by omega) (by omega) hm.2.2.2.2.2.1
  have k_ple : mPle N2 := mPle_k (show sC N N2 [74, 75, 76, 77, 78] from fun b hb => hsm b (by simp only [List.mem_cons, List.not_mem_nil, or_false] at hb; omega)) g50 (by omega) (by omega) hm.2.2.2.2.2.2
  have k_hs : xHs N2 := xHs_k (show s3 N N2 [1, 3, 5, 8, 10, 11] from fun b hb => h3 b (by simp only [List.mem_cons, List.not_mem_nil, or_false] at hb; omega)) (show s9 N N2 [0, 2, 15, 26, 29, 36, 50, 58] from fun b hb => h39 b (by simp only [List.mem_cons, List.not_mem_nil, or_false] at hb; omega)) (show sC N N2 [4, 6, 7, 8, 9, 12, 13, 40, 51, 56, 57, 58] from fun b hb => hsm b (by simp only [List.mem_cons, List.not_mem_nil, or_false] at hb; omega)) hI.hs
  have k_ps : xPs s2 N2 fa sa := xPs_k hs (show s8 s N N2 4 from fun b h1 h2 h3 => hdy b h1 h2 (by omega)) ((show sC N N2 [5] from fun b hb => hsm b (by simp only [List.mem_cons, List.not_mem_nil, or_false] at hb; omega)) 5 (by simp)) (show sC N N2 [41, 42, 43, 44, 45, 46, 47, 48, 59, 73] from fun b hb => hsm b (by simp only [List.mem_cons, List.not_mem_nil, or_false] at hb; omega)) (show s9 N N2 [2, 10, 31, 49] from fun b hb => h39 b (by simp only [List.mem_cons, List.not_mem_nil, or_false] at hb; omega)) hI.ps
  have k_fs : xFs s2 N2 fa := xFs_k hs (show s8 s N N2 2 from fun b h1 h2 h3 => hdy b h1 h2 (by omega)) (show sC N N2 [48, 49, 50] from fun b hb => hsm b (by simp only [List.mem_cons, List.not_mem_nil, or_false] at hb; omega)) g10 hI.fs
  have k_ss : xSs s2 N2 sa := xSs_k hs (show s8 s N N2 8 from fun b h1 h2 h3 => hdy b h1 h2 (by omega)) (show sC N N2 [59, 60, 61, 62] from fun b hb => hsm b (by simp only [List.mem_cons, List.not_mem_nil, or_false] at hb; omega)) g31 hI.ss
  have k_ys : xYs s2 N2 := xYs_k hs (show s8 s N N2 9 from fun b h1 h2 h3 => hdy b h1 h2 (by omega)) (show sC N N2 [10, 63, 64, 65, 66] from fun b hb => hsm b (by simp only [List.mem_cons, List.not_mem_nil, or_false] at hb; omega)) g36 hI.ys
  have k_ls : xLs s2 N2 fa := xLs_k hs (show s8 s N N2 5 from fun b h1 h2 h3 => hdy b h1 h2 (by omega)) (show s8 s N N2 20 from fun b h1 h2 h3 => hdy b h1 h2 (by omega)) (show s8 s N N2 21 from fun b h1 h2 h3 => hdy b h1 h2 (by omega)) (show sC N N2 [11, 48, 74, 75, 76, 77, 78, 79, 80] from fun b hb => hsm b (by simp only [List.mem_cons, List.not_mem_nil, or_false] at hb; omega)) g50 hI.ls
  have k_law : xLaw N2 := xLaw_k (show sC N N2 [14, 15, 16, 17, 18, 19, 52, 53] from fun b hb => hsm b (by simp only [List.mem_cons, List.not_mem_nil, or_false] at hb; omega)) ((show s3 N N2 [13] from fun b hb => h3 b (by simp only [List.mem_cons, List.not_mem_nil, or_false] at hb; omega)) 13 (by simp)) ((show s3 N N2 [14] from fun b hb => h3 b (by simp only [List.mem_cons, List.not_mem_nil, or_false] at hb; omega)) 14 (by simp)) g18 hI.law
  have k_sh : xSh N2 := xSh_k (show sC N N2 [20, 31, 32, 33, 34, 35, 36, 37, 38, 82, 83, 84] from fun b hb => hsm b (by simp only [List.mem_cons, List.not_mem_nil, or_false] at hb; omega)) hI.sh
  have k_ro : xRo N2 := xRo_k (show sC N N2 [21, 22, 23, 24, 85, 86, 87] from fun b hb => hsm b (by simp only [List.mem_cons, List.not_mem_nil, or_false] at hb; omega)) g63 hI.ro
  have k_kp : yKp N2 := yKp_k (show s3 N N2 [19] from fun b hb => h3 b (by simp only [List.mem_cons, List.not_mem_nil, or_false] at hb; omega)) (show s9 N N2 [10, 31] from fun b hb => h39 b (by simp only [List.mem_cons, List.not_mem_nil, or_false] at hb; omega)) hy.1
  have k_ow : yOw N2 := yOw_k (show sC N N2 [76, 77, 80] from fun b hb => hsm b (by simp only [List.mem_cons, List.not_mem_nil, or_false] at hb; omega)) (show s9 N N2 [50] from fun b hb => h39 b (by simp only [List.mem_cons, List.not_mem_nil, or_false] at hb; omega)) hy.2.1
  have k_tp : yTp N2 := yTp_k (show sC N N2 [51] from fun b hb => hsm b (by simp only [List.mem_cons, List.not_mem_nil, or_false] at hb; omega)) (show s9 N N2 [15] from fun b hb => h39 b (by simp only [List.mem_cons, List.not_mem_nil, or_false] at hb; omega)) hy.2.2.1
  have k_yro : yRo N2 := yRo_k (show sC N N2 [85, 86] from fun b hb => hsm b (by simp only [List.mem_cons, List.not_mem_nil, or_false] at hb; omega)) hy.2.2.2.1
  have k_ln : yLn N2 := yLn_k (show sC N N2 [40, 58] from fun b hb => hsm b (by simp only [List.mem_cons, List.not_mem_nil, or_false] at hb; omega)) (show s9 N N2 [0, 29] from fun b hb => h39 b (by simp only [List.mem_cons, List.not_mem_nil, or_false] at hb; omega)) hy.2.2.2.2.1
  have k_cm : yCm N2 := yCm_k (show sC N N2 [73] from fun b hb => hsm b (by simp only [List.mem_cons, List.not_mem_nil, or_false] at hb; omega)) (show s9 N N2 [2, 49] from fun b hb => h39 b (by simp only [List.mem_cons, List.not_mem_nil, or_false] at hb; omega)) hy.2.2.2.2.2.1
  have k_bf : yBf N2 := yBf_k (show sC N N2 [42, 48, 49] from fun b hb => hsm b (by simp only [List.mem_cons, List.not_mem_nil, or_false] at hb; omega)) (show s9 N N2 [10] from fun b hb => h39 b (by simp only [List.mem_cons, List.not_mem_nil, or_false] at hb; omega)) hy.2.2.2.2.2.2
  have k_bud : bud N2 ≤ bud N + 1 := by have := bud_k (show sC N N2 [59, 62] from fun b hb => hsm b (by simp only [List.mem_cons, List.not_mem_nil, or_false] at hb; omega)) (show s9 N N2 [2, 10, 31] from fun b hb => h39 b (by simp only [List.mem_cons, List.not_mem_nil, or_false] at hb; omega)); omega
  exact ⟨⟨hB.k hs, hG, ⟨hG.1, kCnt, k_ppl, k_flt, k_spl, k_sty, k_ple⟩, k_ord, k_hs, k_ps, k_fs, k_ss, k_ys, k_ls, k_law, k_sh, k_ro⟩, ⟨k_kp, k_ow, k_tp, k_yro, k_ln, k_cm, k_bf⟩, k_bud⟩
theorem xI.ext {s2 : zK} {N2 : zN} (hI : xI s N fa sa) (hy : yI N) (hs : sK s s2) (hG : zG s2 N2) (h : ∀ a : Nat, a < s.1.1 → N2 a = N a) : xI s2 N2 fa sa ∧ yI N2 ∧ bud N2 ≤ bud N + 1 := by
  have n88 := hI.B.1
  exact jx_ext hI hy hs hG (fun a ha => h a (by omega)) (fun j _ => by rw [h 39 (by omega)]) (fun j _ => by rw [h 3 (by omega)]) (fun a _ h2 _ => h a h2) trivial
/-- who answers -/
def ansP (N : zN) (w g d x : Int) : Prop := x ≠ w ∧ memb N x g d
theorem gAh_e (hm : mI N) {w : Int} (hl : 0 ≤ lastF N w) : gAhead N (lastF N w) = if N 41 w = 3 then charg N w (N 49 (lastF N w) - 1) else gOn N w (N 49 (lastF N w) - 1) := by
  have hlb := lastF_b N w
  have hlp := lastF_p hl
  have hf := hm.2.2.2.1 (lastF N w) hl (by omega)
  unfold gAhead
  rw [hlp.1]
  by_cases h0 : N 49 (lastF N w) - 1 < 0
  · rw [if_pos h0]
    have h1 : ¬ 0 ≤ stayK N w (N 49 (lastF N w) - 1) := fun q => by
      have := stayK_p q
      have hb := stayK_b N w (N 49 (lastF N w) - 1)
      have := hm.2.2.2.2.2.1 _ q (by omega)
      omega
    have h2 : spA N w (N 49 (lastF N w) - 1) < 0 := spA_no (fun _ k hk q => by
      have := hm.2.2.2.2.1 k (by omega) hk
      omega)
    by_cases h3 : N 41 w = 3
    · rw [if_pos h3]
      unfold charg
      rw [zif_f (fun q => h1 q.2.1)]
    · rw [if_neg h3]
      unfold gOn
      rw [if_pos h2]
  · rw [if_neg h0]
    rfl
theorem gOn_g (hm : mI N) (i d : Int) : gOn N i d = -4 ∨ (0 ≤ gOn N i d ∧ gOn N i d < N 39 29) := by
  unfold gOn
  by_cases h : spA N i d < 0
  · rw [if_pos h]; exact Or.inl rfl
  · rw [if_neg h]
    have hb := spA_b N i d
    exact Or.inr (hm.2.2.2.2.1 _ (by omega) (by omega)).2.1
theorem charg_g (hm : mI N) (w d : Int) : charg N w d = -4 ∨ (0 ≤ charg N w d ∧ charg N w d < N 39 29) := by
  unfold charg
  by_cases h : tHere N w d ∧ 0 ≤ stayK N w d ∧ N 39 18 ≤ nightsC N (stayK N w d) d
  · rw [zif_t h]
    unfold gHouse
    by_cases h2 : fstK (fun i => 0 ≤ spA N i d ∧ N 44 i = N 64 (stayK N w d)) (N 39 2).toNat < 0
    · rw [zif_t h2]; exact Or.inl rfl
    · rw [zif_f h2]
      have h3 := fstK_p (p := fun i => 0 ≤ spA N i d ∧ N 44 i = N 64 (stayK N w d)) (n := (N 39 2).toNat) (by omega)
      have h4 : 0 ≤ spA N ((fstK (fun i => 0 ≤ spA N i d ∧ N 44 i = N 64 (stayK N w d)) (N 39 2).toNat).toNat : Int) d := h3.1.1
      rw [z_cast (by omega)] at h4
      have hb := spA_b N (fstK (fun i => 0 ≤ spA N i d ∧ N 44 i = N 64 (stayK N w d)) (N 39 2).toNat) d
      exact Or.inr (hm.2.2.2.2.1 _ h4 (by omega)).2.1
  · rw [zif_f h]; exact Or.inl rfl
theorem gAh_g (hm : mI N) {w : Int} (hl : 0 ≤ lastF N w) : gAhead N (lastF N w) = -4 ∨ (0 ≤ gAhead N (lastF N w) ∧ gAhead N (lastF N w) < N 39 29) := by
  rw [gAh_e hm hl]
  split
  · exact charg_g hm _ _
  · exact gOn_g hm _ _
/-- a plea about the latest flight -/
theorem plea_e (hm : mI N) (hO : mOrd N) {w : Int} (hl : 0 ≤ lastF N w) : (∃ p : Nat, (p : Int) < N 39 50 ∧ N 48 (N 74 p) = w ∧ N 49 (N 74 p) = N 49 (lastF N w)) ↔ ∃ p : Nat, (p : Int) < N 39 50 ∧ N 74 p = lastF N w := by
  have hlb := lastF_b N w
  have hlp := lastF_p hl
  constructor
  · rintro ⟨p, h1, h2, h3⟩
    refine ⟨p, h1, ?_⟩
    have hp := (hm.2.2.2.2.2.2 p (by omega) h1).1
    have hf := hm.2.2.2.1 (N 74 p) hp.1 hp.2
    by_cases h4 : N 74 p < lastF N w
    · have := hO.1 (N 74 p) (lastF N w) hp.1 h4 (by omega) (by omega)
      omega
    · by_cases h5 : lastF N w < N 74 p
      · exact absurd h2 (hlp.2 _ h5 hp.2)
      · omega
  · rintro ⟨p, h1, h2⟩
    exact ⟨p, h1, by rw [h2]; exact hlp.1, by rw [h2]⟩
set_option maxRecDepth 20000 in
set_option maxHeartbeats 2000000 in
theorem x_hasPlea (hI : xI s N fa sa) {w d : Int} (hw : zr w) (hd : zr d) (h : Q (some (vi (bi (∃ p : Nat, (p : Int) < N 39 50 ∧ N 48 (N 74 p) = w ∧ N 49 (N 74 p) = d)))) (zI s N)) : zC X m_X11_hasPlea [.ref 3, vi w, vi d] (zI s N) Q := by
  have hB := hI.B
  have hR := hI.R
  have hC := hI.C
  unfold mCnt at hC
  have hm := hI.m
  obtain ⟨e1, e5, e7, e8, e10, e11, e3, e12, eh, eg, ef, et⟩ := hI.hs
  show zE X m_X11_hasPlea 0 [.ref 3, vi w, vi d, zU] [] _ Q
  refine e_iconst q_X11_hasPlea_0 ?_
  refine e_istore_n (ls' := [_, _, _, _]) q_X11_hasPlea_1 (by decide) rfl rfl ?_
  refine zEe (ls := [.ref 3, vi w, vi d, vi ((0 : Nat) : Int)]) (σ := zI s N) ?_ rfl rfl
  refine z_for (P := fun i => ∀ (hh : True), (∀ j, j < i → ¬ (fun p : Nat => N 48 (N 74 p) = w ∧ N 49 (N 74 p) = d) j) → zE X m_X11_hasPlea 2 [.ref 3, vi w, vi d, vi (i : Int)] [] (zI s N) Q) (N 39 50).toNat (fun i hi ih hh hv => ?_) (fun hh hv => ?_) trivial (fun j hj => by omega)
  · skip
    refine e_iload_n q_X11_hasPlea_2 (by decide) rfl ?_
    refine e_aload_n q_X11_hasPlea_3 (by decide) rfl ?_
    refine i_getI (k' := 10) q_X11_hasPlea_4 fl_X11_294 (a3 hB) rfl rfl rfl e10 ?_
    refine e_icmp_ge q_X11_hasPlea_7 (by first | exact hR _ _ | (constructor <;> omega) | assumption) (by first | exact hR _ _ | (constructor <;> omega) | assumption) (fun c7 => ?_) (fun c7 => ?_)
    · skip
      exact absurd c7 (by omega)
    · skip
      refine e_aload_n q_X11_hasPlea_10 (by decide) rfl ?_
      refine i_getC (r := 11) q_X11_hasPlea_11 fl_X11_37 (a3 hB) rfl (by decide) ?_
      refine e_iload_n q_X11_hasPlea_14 (by decide) rfl ?_
      obtain ⟨a, b, c, hl⟩ := hI.ls.1 (i) (by omega) (by omega)
      obtain ⟨l88, lA, l11, l0, l1, l2, l3, l4, l5, l6, l7, l8, lb88, lbA, lc88, lcA, lrow⟩ := id hl
      refine i_aald q_X11_hasPlea_15 (a11 hB) (by decide) (fun _ => rfl) (by omega) (by omega) (by decide) l11 (by omega) ?_
      refine i_getI (k' := 0) q_X11_hasPlea_16 fl_X11_304 lA (cref0 (by omega) _) rfl rfl l0 ?_
      refine e_iload_n q_X11_hasPlea_19 (by decide) rfl ?_
      refine e_icmp_ne q_X11_hasPlea_20 (by first | exact hR _ _ | exact hw) (by first | exact hR _ _ | exact hw) (fun c20 => ?_) (fun c20 => ?_)
      · skip
        refine e_iinc (ls' := [_, _, _, _]) q_X11_hasPlea_41 (by decide) rfl rfl rfl ?_
        refine e_goto q_X11_hasPlea_44 ?_
        exact ih trivial (z_lt1 hv (fun q => by first | exact c20 q.1 | exact c36 q.2))
      · skip
        refine e_aload_n q_X11_hasPlea_23 (by decide) rfl ?_
        refine i_getC (r := 11) q_X11_hasPlea_24 fl_X11_37 (a3 hB) rfl (by decide) ?_
        refine e_iload_n q_X11_hasPlea_27 (by decide) rfl ?_
        refine i_aald q_X11_hasPlea_28 (a11 hB) (by decide) (fun _ => rfl) (by omega) (by omega) (by decide) l11 (by omega) ?_
        obtain ⟨f, hfv, hf0, hf2, hf3, hf4⟩ := fvw_of hI (by omega) (by omega) hl
        obtain ⟨-, -, lf1, f88, fA, -, -⟩ := hfv
        refine i_getR (k' := 1) q_X11_hasPlea_29 fl_X11_307 lA (cref0 (by omega) _) rfl rfl lf1 (by omega) ?_
        refine i_getI (k' := 0) q_X11_hasPlea_32 fl_X11_176 fA (cref0 (by omega) _) rfl rfl hf0 ?_
        refine e_iload_n q_X11_hasPlea_35 (by decide) rfl ?_
        refine e_icmp_ne q_X11_hasPlea_36 (by first | exact hR _ _ | exact hd) (by first | exact hR _ _ | exact hd) (fun c36 => ?_) (fun c36 => ?_)
        · skip
          refine e_iinc (ls' := [_, _, _, _]) q_X11_hasPlea_41 (by decide) rfl rfl rfl ?_
          refine e_goto q_X11_hasPlea_44 ?_
          exact ih trivial (z_lt1 hv (fun q => by first | exact c20 q.1 | exact c36 q.2))
        · skip
          refine e_iconst q_X11_hasPlea_39 ?_
          refine e_ireturn q_X11_hasPlea_40 rfl rfl ?_
          exact zqT h ⟨i, by omega, c20, c36⟩
  · skip
    refine e_iload_n q_X11_hasPlea_2 (by decide) rfl ?_
    refine e_aload_n q_X11_hasPlea_3 (by decide) rfl ?_
    refine i_getI (k' := 10) q_X11_hasPlea_4 fl_X11_294 (a3 hB) rfl rfl rfl e10 ?_
    refine e_icmp_ge q_X11_hasPlea_7 (by first | exact hR _ _ | (constructor <;> omega) | assumption) (by first | exact hR _ _ | (constructor <;> omega) | assumption) (fun c7 => ?_) (fun c7 => ?_)
    · skip
      refine e_iconst q_X11_hasPlea_47 ?_
      refine e_ireturn q_X11_hasPlea_48 rfl rfl ?_
      exact zqF h (fun q => by obtain ⟨k, q1, q2⟩ := q; exact hv k (by omega) q2)
    · skip
      exact absurd (by omega) c7
def xn_pl (N : zN) (b e1 e2 : Nat) (w : Int) (f : Nat) (g fi : Int) : zN := mup (mup (mup (mup (mup (mup N b 4 e1) b 5 e2) b 0 w) b 1 f) b 2 g) b 3 fi
set_option maxRecDepth 20000 in
set_option maxHeartbeats 2000000 in
theorem x_init5 {b f : Nat} (b88 : 88 ≤ b) (bA : zA s b (5, 0)) (hz : ∀ a, s.1.1 ≤ a → ∀ j, N a j = 0) (hf : f ≠ 0) {w g fi : Int} (h : Q none (zI (z_ns (z_ns s (21, 48) 48) (20, 48) 48) (xn_pl N b s.1.1 (s.1.1 + 1) w f g fi))) : zC X m_X5_init [.ref b, vi w, .ref f, vi g, vi fi] (zI s N) Q := by
  have hlt := bA.2.1
  show zE X m_X5_init 0 [.ref b, vi w, .ref f, vi g, vi fi] [] _ Q
  refine e_aload_n q_X5_init_0 (by decide) rfl ?_
  refine e_objInit q_X5_init_1 lk_X5_3 ob_inst ob_code (by decide) (by decide) ?_
  refine e_aload_n q_X5_init_4 (by decide) rfl ?_
  refine e_bipush q_X5_init_5 (by decide) ?_
  refine i_newa (k := 21) q_X5_init_7 rfl (by decide) ac_boolean (by omega) (by omega) (by omega) (fun j => hz _ (Nat.le_refl _) j) ?_
  have hA1 := zA_new (s := s) (sp := (21, 48)) (sl := 48) (by omega)
  have bA := (sK.ns (sp := (21, 48)) (sl := 48)).A bA
  refine i_putR (k' := 4) q_X5_init_9 fl_X5_9 (Or.inr ⟨rfl, _, _, rfl⟩) bA (cref0 (by omega) _) rfl rfl (by omega) rfl rfl ?_
  refine e_aload_n q_X5_init_12 (by decide) rfl ?_
  refine e_bipush q_X5_init_13 (by decide) ?_
  refine i_newa (k := 20) q_X5_init_15 rfl (by decide) ac_int (by omega) (by omega) (by show 40 ≤ s.1.1 + 1; omega) (fun j => (mup_cell (by show s.1.1 + 1 ≠ b; have := hlt; omega)).trans (hz _ (Nat.le_succ _) j)) ?_
  have bA := (sK.ns (sp := (20, 48)) (sl := 48)).A bA
  refine i_putR (k' := 5) q_X5_init_17 fl_X5_15 (Or.inr ⟨rfl, _, _, rfl⟩) bA (cref0 (by omega) _) rfl rfl (by show s.1.1 + 1 ≠ 0; omega) rfl rfl ?_
  refine e_aload_n q_X5_init_20 (by decide) rfl ?_
  refine e_iload_n q_X5_init_21 (by decide) rfl ?_
  refine i_putI (k' := 0) q_X5_init_22 fl_X5_19 (Or.inr ⟨rfl, _, _, rfl⟩) bA (cref0 (by omega) _) rfl rfl rfl rfl ?_
  refine e_aload_n q_X5_init_25 (by decide) rfl ?_
  refine e_aload_n q_X5_init_26 (by decide) rfl ?_
  refine i_putR (k' := 1) q_X5_init_27 fl_X5_23 (Or.inr ⟨rfl, _, _, rfl⟩) bA (cref0 (by omega) _) rfl rfl hf rfl rfl ?_
  refine e_aload_n q_X5_init_30 (by decide) rfl ?_
  refine e_iload_n q_X5_init_31 (by decide) rfl ?_
  refine i_putI (k' := 2) q_X5_init_32 fl_X5_27 (Or.inr ⟨rfl, _, _, rfl⟩) bA (cref0 (by omega) _) rfl rfl rfl rfl ?_
  refine e_aload_n q_X5_init_35 (by decide) rfl ?_
  refine e_iload q_X5_init_36 (by decide) rfl ?_
  refine i_putI (k' := 3) q_X5_init_38 fl_X5_30 (Or.inr ⟨rfl, _, _, rfl⟩) bA (cref0 (by omega) _) rfl rfl rfl rfl ?_
  refine e_return q_X5_init_41 rfl ?_
  exact h
set_option maxRecDepth 20000 in
set_option maxHeartbeats 2000000 in
theorem x_callToAnswer {s0 : zK} {N2 : zN} (hI0 : xI s0 N fa sa) (hy : yI N) (hsK : sK s0 s) (h0 : ∀ a : Nat, a < s0.1.1 → N2 a = N a) (hG2 : zG s N2) {b e1 f : Nat} {w g d : Int} (hw : zr w) (hg : 0 ≤ g ∧ g < 8) (hd : 0 ≤ d ∧ d ≤ 9999) (hb0 : s0.1.1 ≤ b) (he0 : s0.1.1 ≤ e1) (hbe : b ≠ e1) (bA : zA s b (5, 0)) (e1A : zA s e1 (21, 48)) (f88 : 88 ≤ f) (hf0 : f < s0.1.1) (fA : zA s f (2, 0)) (b0 : N2 b 0 = w) (b1 : N2 b 1 = f) (b2 : N2 b 2 = g) (b4 : N2 b 4 = e1) (b6 : N2 b 6 = 0) (e1z : ∀ x, N2 e1 x = 0) (f0 : N2 f 0 = d) (h : ∀ N3, (zG s N3 ∧ (∀ a0 : Nat, a0 ≠ b → a0 ≠ e1 → N3 a0 = N2 a0) ∧ (∀ x : Int, x ≠ 6 → N3 b x = N2 b x) ∧ N3 b 6 = cnt (fun x : Nat => ansP N w g d x) (N 39 2).toNat ∧ ∀ x : Int, N3 e1 x = if 0 ≤ x ∧ x < (N 39 2).toNat then bi (ansP N w g d x) else 0) → Q none (zI s N3)) : zC X m_X11_callToAnswer [.ref 3, .ref b] (zI s N2) Q := by
  have hC := hI0.C
  unfold mCnt at hC
  have n88 := hI0.B.1
  have hB := hI0.B.k hsK
  show zE X m_X11_callToAnswer 0 [.ref 3, .ref b, zU] [] _ Q
  refine e_iconst q_X11_callToAnswer_0 ?_
  refine e_istore_n (ls' := [_, _, _]) q_X11_callToAnswer_1 (by decide) rfl rfl ?_
  refine zEe (ls := [.ref 3, .ref b, vi ((0 : Nat) : Int)]) (σ := zI s N2) ?_ rfl rfl
  refine z_for (P := fun i => ∀ (N3 : zN), (zG s N3 ∧ (∀ a0 : Nat, a0 ≠ b → a0 ≠ e1 → N3 a0 = N2 a0) ∧ (∀ x : Int, x ≠ 6 → N3 b x = N2 b x) ∧ N3 b 6 = cnt (fun x : Nat => ansP N w g d x) i ∧ ∀ x : Int, N3 e1 x = if 0 ≤ x ∧ x < i then bi (ansP N w g d x) else 0) → zE X m_X11_callToAnswer 2 [.ref 3, .ref b, vi (i : Int)] [] (zI s N3) Q) (N 39 2).toNat (fun i hi ih N3 hv => ?_) (fun N3 hv => ?_) N2 ⟨hG2, fun _ _ _ => rfl, fun _ _ => rfl, b6, fun x => by rw [e1z, if_neg (by omega)]⟩
  · skip
    have hlow : ∀ a0 : Nat, a0 < s0.1.1 → N3 a0 = N a0 := fun a0 h1 => (hv.2.1 a0 (by omega) (by omega)).trans (h0 a0 h1)
    have hI := (hI0.ext hy hsK hv.1 hlow).1
    have hE : eM N N3 := fun a0 h1 h2 => hlow a0 (by omega)
    have e392 : N3 39 2 = N 39 2 := hE.at 39 (by decide) (by decide) 2
    have e33 : N3 3 3 = N 39 2 := hI.hs.2.2.2.2.2.2.1.trans e392
    have hm := hI.m
    have hR := hI.R
    refine e_iload_n q_X11_callToAnswer_2 (by decide) rfl ?_
    refine e_aload_n q_X11_callToAnswer_3 (by decide) rfl ?_
    refine i_getI (k' := 3) q_X11_callToAnswer_4 fl_X11_107 (a3 hB) rfl rfl rfl e33 ?_
    refine e_icmp_ge q_X11_callToAnswer_7 (by first | exact hR _ _ | (constructor <;> omega) | assumption) (by first | exact hR _ _ | (constructor <;> omega) | assumption) (fun c7 => ?_) (fun c7 => ?_)
    · skip
      exact absurd c7 (by omega)
    · skip
      refine e_iload_n q_X11_callToAnswer_10 (by decide) rfl ?_
      refine e_aload_n q_X11_callToAnswer_11 (by decide) rfl ?_
      refine i_getI (k' := 0) q_X11_callToAnswer_12 fl_X11_304 bA (cref0 (by omega) _) rfl rfl ((hv.2.2.1 0 (by decide)).trans b0) ?_
      refine e_icmp_eq q_X11_callToAnswer_15 (by constructor <;> omega) hw (fun c15 => ?_) (fun c15 => ?_)
      · skip
        refine e_iinc (ls' := [_, _, _]) q_X11_callToAnswer_58 (by decide) rfl rfl rfl ?_
        refine e_goto q_X11_callToAnswer_61 ?_
        first
        | (have hans : ansP N w g d i := ⟨c15, by rw [← hE.memb_]; exact (gOn_m hm hg.1).mp c38⟩
           refine ih _ ⟨zG_mup (zG_mup hv.1 e1A.2.1 (by constructor <;> omega)) bA.2.1 (by have := cnt_b (fun x : Nat => ansP N w g d x) i; constructor <;> omega), fun a0 h1 h2 => ?_, fun x hx => ?_, ?_, fun x => ?_⟩
           · funext x
             rw [mup_cell h1, mup_cell h2, hv.2.1 a0 h1 h2]
           · rw [mup_slot hx, mup_cell hbe, hv.2.2.1 x hx]
           · rw [mup_self, cnt_t (p := fun x : Nat => ansP N w g d x) hans]
           · rw [mup_cell hbe.symm]
             by_cases hx : x = i
             · rw [hx, mup_self, if_pos (by omega), bi_t hans]
             · rw [mup_slot hx, hv.2.2.2.2 x]
               by_cases h1 : 0 ≤ x ∧ x < i
               · rw [if_pos h1, if_pos (by omega)]
               · rw [if_neg h1, if_neg (by omega)])
        | (have hans : ¬ ansP N w g d i := fun q => by first | exact absurd c15 q.1 | exact c38 ((gOn_m hm hg.1).mpr (by rw [hE.memb_]; exact q.2))
           refine ih _ ⟨hv.1, hv.2.1, hv.2.2.1, ?_, fun x => ?_⟩
           · rw [cnt_f' (p := fun x : Nat => ansP N w g d x) hans]
             exact hv.2.2.2.1
           · rw [hv.2.2.2.2 x]
             by_cases hx : x = i
             · rw [hx, if_neg (by omega), if_pos (by omega), bi_f hans]
             · by_cases h1 : 0 ≤ x ∧ x < i
               · rw [if_pos h1, if_pos (by omega)]
               · rw [if_neg h1, if_neg (by omega)])
      · skip
        refine e_aload_n q_X11_callToAnswer_18 (by decide) rfl ?_
        refine i_getC (r := 5) q_X11_callToAnswer_19 fl_X11_15 (a3 hB) rfl (by decide) ?_
        refine e_iload_n q_X11_callToAnswer_22 (by decide) rfl ?_
        obtain ⟨a, hp⟩ := hI.ps.1 (i) (by omega) (by omega)
        obtain ⟨p88, pA, p5, p0, p1, p2, p3, p4, p5f, p6, p7, p8, p9⟩ := id hp
        refine i_aald q_X11_callToAnswer_23 (a5 hB) (by decide) (fun _ => rfl) (by omega) (by omega) (by decide) p5 (by omega) ?_
        refine e_aload_n q_X11_callToAnswer_24 (by decide) rfl ?_
        refine i_getR (k' := 1) q_X11_callToAnswer_25 fl_X11_307 bA (cref0 (by omega) _) rfl rfl ((hv.2.2.1 1 (by decide)).trans b1) (by omega) ?_
        refine i_getI (k' := 0) q_X11_callToAnswer_28 fl_X11_176 fA (cref0 (by omega) _) rfl rfl ((congrFun (hv.2.1 f (by omega) (by omega)) 0).trans f0) ?_
        refine iv_X4_groupOn q_X11_callToAnswer_31 lk_X11_245 (by decide) pA (Nat.le_of_ble_eq_true rfl) ?_
        refine x_groupOn hI (by omega) (by omega) hp (by omega) ?_
        have hgr := gOn_r hm i d
        refine e_aload_n q_X11_callToAnswer_34 (by decide) rfl ?_
        refine i_getI (k' := 2) q_X11_callToAnswer_35 fl_X11_310 bA (cref0 (by omega) _) rfl rfl ((hv.2.2.1 2 (by decide)).trans b2) ?_
        refine e_icmp_ne q_X11_callToAnswer_38 (by constructor <;> omega) (by constructor <;> omega) (fun c38 => ?_) (fun c38 => ?_)
        · skip
          refine e_iinc (ls' := [_, _, _]) q_X11_callToAnswer_58 (by decide) rfl rfl rfl ?_
          refine e_goto q_X11_callToAnswer_61 ?_
          first
          | (have hans : ansP N w g d i := ⟨c15, by rw [← hE.memb_]; exact (gOn_m hm hg.1).mp c38⟩
             refine ih _ ⟨zG_mup (zG_mup hv.1 e1A.2.1 (by constructor <;> omega)) bA.2.1 (by have := cnt_b (fun x : Nat => ansP N w g d x) i; constructor <;> omega), fun a0 h1 h2 => ?_, fun x hx => ?_, ?_, fun x => ?_⟩
             · funext x
               rw [mup_cell h1, mup_cell h2, hv.2.1 a0 h1 h2]
             · rw [mup_slot hx, mup_cell hbe, hv.2.2.1 x hx]
             · rw [mup_self, cnt_t (p := fun x : Nat => ansP N w g d x) hans]
             · rw [mup_cell hbe.symm]
               by_cases hx : x = i
               · rw [hx, mup_self, if_pos (by omega), bi_t hans]
               · rw [mup_slot hx, hv.2.2.2.2 x]
                 by_cases h1 : 0 ≤ x ∧ x < i
                 · rw [if_pos h1, if_pos (by omega)]
                 · rw [if_neg h1, if_neg (by omega)])
          | (have hans : ¬ ansP N w g d i := fun q => by first | exact absurd c15 q.1 | exact c38 ((gOn_m hm hg.1).mpr (by rw [hE.memb_]; exact q.2))
             refine ih _ ⟨hv.1, hv.2.1, hv.2.2.1, ?_, fun x => ?_⟩
             · rw [cnt_f' (p := fun x : Nat => ansP N w g d x) hans]
               exact hv.2.2.2.1
             · rw [hv.2.2.2.2 x]
               by_cases hx : x = i
               · rw [hx, if_neg (by omega), if_pos (by omega), bi_f hans]
               · by_cases h1 : 0 ≤ x ∧ x < i
                 · rw [if_pos h1, if_pos (by omega)]
                 · rw [if_neg h1, if_neg (by omega)])
        · skip
          refine e_aload_n q_X11_callToAnswer_41 (by decide) rfl ?_
          refine i_getR (k' := 4) q_X11_callToAnswer_42 fl_X11_461 bA (cref0 (by omega) _) rfl rfl ((hv.2.2.1 4 (by decide)).trans b4) (by omega) ?_
          refine e_iload_n q_X11_callToAnswer_45 (by decide) rfl ?_
          refine e_iconst q_X11_callToAnswer_46 ?_
          refine i_zast q_X11_callToAnswer_47 e1A (cref0 (by omega)) (by first | omega | assumption) (by first | omega | assumption) (by decide) rfl ?_
          refine e_aload_n q_X11_callToAnswer_48 (by decide) rfl ?_
          refine e_dup q_X11_callToAnswer_49 rfl ?_
          refine i_getI (k' := 6) q_X11_callToAnswer_50 fl_X11_314 bA (cref0 (by omega) _) rfl rfl ((mup_cell hbe).trans hv.2.2.2.1) ?_
          refine e_iconst q_X11_callToAnswer_53 ?_
          refine e_iadd q_X11_callToAnswer_54 ?_
          refine i_putI (k' := 6) q_X11_callToAnswer_55 fl_X11_314 (Or.inl rfl) bA (cref0 (by omega) _) rfl rfl rfl rfl ?_
          refine e_iinc (ls' := [_, _, _]) q_X11_callToAnswer_58 (by decide) rfl rfl rfl ?_
          refine e_goto q_X11_callToAnswer_61 ?_
          first
          | (have hans : ansP N w g d i := ⟨c15, by rw [← hE.memb_]; exact (gOn_m hm hg.1).mp c38⟩
             refine ih _ ⟨zG_mup (zG_mup hv.1 e1A.2.1 (by constructor <;> omega)) bA.2.1 (by have := cnt_b (fun x : Nat => ansP N w g d x) i; constructor <;> omega), fun a0 h1 h2 => ?_, fun x hx => ?_, ?_, fun x => ?_⟩
             · funext x
               rw [mup_cell h1, mup_cell h2, hv.2.1 a0 h1 h2]
             · rw [mup_slot hx, mup_cell hbe, hv.2.2.1 x hx]
             · rw [mup_self, cnt_t (p := fun x : Nat => ansP N w g d x) hans]
             · rw [mup_cell hbe.symm]
               by_cases hx : x = i
               · rw [hx, mup_self, if_pos (by omega), bi_t hans]
               · rw [mup_slot hx, hv.2.2.2.2 x]
                 by_cases h1 : 0 ≤ x ∧ x < i
                 · rw [if_pos h1, if_pos (by omega)]
                 · rw [if_neg h1, if_neg (by omega)])
          | (have hans : ¬ ansP N w g d i := fun q => by first | exact absurd c15 q.1 | exact c38 ((gOn_m hm hg.1).mpr (by rw [hE.memb_]; exact q.2))
             refine ih _ ⟨hv.1, hv.2.1, hv.2.2.1, ?_, fun x => ?_⟩
             · rw [cnt_f' (p := fun x : Nat => ansP N w g d x) hans]
               exact hv.2.2.2.1
             · rw [hv.2.2.2.2 x]
               by_cases hx : x = i
               · rw [hx, if_neg (by omega), if_pos (by omega), bi_f hans]
               · by_cases h1 : 0 ≤ x ∧ x < i
                 · rw [if_pos h1, if_pos (by omega)]
                 · rw [if_neg h1, if_neg (by omega)])
  · skip
    have hlow : ∀ a0 : Nat, a0 < s0.1.1 → N3 a0 = N a0 := fun a0 h1 => (hv.2.1 a0 (by omega) (by omega)).trans (h0 a0 h1)
    have hI := (hI0.ext hy hsK hv.1 hlow).1
    have hE : eM N N3 := fun a0 h1 h2 => hlow a0 (by omega)
    have e392 : N3 39 2 = N 39 2 := hE.at 39 (by decide) (by decide) 2
    have e33 : N3 3 3 = N 39 2 := hI.hs.2.2.2.2.2.2.1.trans e392
    have hm := hI.m
    have hR := hI.R
    refine e_iload_n q_X11_callToAnswer_2 (by decide) rfl ?_
    refine e_aload_n q_X11_callToAnswer_3 (by decide) rfl ?_
    refine i_getI (k' := 3) q_X11_callToAnswer_4 fl_X11_107 (a3 hB) rfl rfl rfl e33 ?_
    refine e_icmp_ge q_X11_callToAnswer_7 (by first | exact hR _ _ | (constructor <;> omega) | assumption) (by first | exact hR _ _ | (constructor <;> omega) | assumption) (fun c7 => ?_) (fun c7 => ?_)
    · skip
      refine e_return q_X11_callToAnswer_64 rfl ?_
      exact h N3 hv
    · skip
      exact absurd (by omega) c7
end RT10
