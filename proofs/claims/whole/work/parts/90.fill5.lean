/-! making whole, 5 (printed by wip/whole/gen/f5.py) -/
section FI5
variable {X : zX} {s : zK} {N : zN} {σ : zS} {fa sa : Int → Int} {Q K : Option Value → zS → Prop} {c : Int}
set_option maxRecDepth 20000 in
set_option maxHeartbeats 2000000 in
theorem jx_fl (hI : xI s N fa sa) (hy : yI N) {N2 : zN} (hs : sK s s) (hG : zG s N2) (hsm : ∀ a : Nat, (a < 88 ∧ a ≠ 25 ∧ a ≠ 26 ∧ a ≠ 27 ∧ a ≠ 28 ∧ a ≠ 29 ∧ a ≠ 39 ∧ a ≠ 3) → N2 a = N a) (h39 : ∀ j : Int, (j ≠ 1000) → N2 39 j = N 39 j) (h3 : ∀ j : Int, (j ≠ 1000) → N2 3 j = N 3 j) (hdy : ∀ a : Nat, 88 ≤ a → a < s.1.1 → ((s.2 a).1 ≠ 1000) → N2 a = N a) (hlo : True) : xI s N2 fa sa ∧ yI N2 ∧ bud N2 ≤ bud N + 1 := by
  have hB := hI.B
  have hR := hI.R
  have hC := hI.C
  unfold mCnt at hC
  have hm := hI.m
  have n88 := hB.1
  obtain ⟨e1, e5, e7, e8, e10, e11, e3, e12, eh, eg, ef, et⟩ := hI.hs
  have g0 : N2 39 0 = N 39 0 := h39 _ (by omega)
  have g2 : N2 39 2 = N 39 2 := h39 _ (by omega)
  have g10 : N2 39 10 = N 39 10 := h39 _ (by omega)
  have g15 : N2 39 15 = N 39 15 := h39 _ (by omega)
  have g18 : N2 39 18 = N 39 18 := h39 _ (by omega)
  have g26 : N2 39 26 = N 39 26 := h39 _ (by omega)
  have g29 : N2 39 29 = N 39 29 := h39 _ (by omega)
  have g31 : N2 39 31 = N 39 31 := h39 _ (by omega)
  have g36 : N2 39 36 = N 39 36 := h39 _ (by omega)
  have g49 : N2 39 49 = N 39 49 := h39 _ (by omega)
  have g50 : N2 39 50 = N 39 50 := h39 _ (by omega)
  have g58 : N2 39 58 = N 39 58 := h39 _ (by omega)
  have g63 : N2 39 63 = N 39 63 := h39 _ (by omega)
  have kCnt : mCnt N2 := by unfold mCnt; omega
  have k_ord : mOrd N2 := mOrd_k (show sC N N2 [48, 49, 50, 59, 61, 62] from fun b hb => hsm b (by simp only [List.mem_cons, List.not_mem_nil, or_false] at hb; omega)) (show s9 N N2 [10, 31] from fun b hb => h39 b (by simp only [List.mem_cons, List.not_mem_nil, or_false] at hb; omega)) hI.ord
  have k_ppl : mPpl N2 := mPpl_k (show sC N N2 [41, 42, 43, 44, 45, 46, 47] from fun b hb => hsm b (by simp only [List.mem_cons, List.not_mem_nil, or_false] at hb; omega)) g2 (by omega) hm.2.2.1
  have k_flt : mFlt N2 := mFlt_k (show sC N N2 [48, 49, 50] from fun b hb => hsm b (by simp only [List.mem_cons, List.not_mem_nil, or_false] at hb; omega)) g10 (by omega) hm.2.2.2.1
  have k_spl : mSpl N2 := mSpl_k (show sC N N2 [59, 60, 61, 62] from fun b hb => hsm b (by simp only [List.mem_cons, List.not_mem_nil, or_false] at hb; omega)) g31 (by omega) (by omega) hm.2.2.2.2.1
  have k_sty : mSty N2 := mSty_k (show sC N N2 [63, 64, 65, 66] from fun b hb => hsm b (by simp only [List.mem_cons, List.not_mem_nil, or_false] at hb; omega)) g36 (by omega) (by omega) hm.2.2.2.2.2.1
  have k_ple : mPle N2 := mPle_k (show sC N N2 [74, 75, 76, 77, 78] from fun b hb => hsm b (by simp only [List.mem_cons, List.not_mem_nil, or_false] at hb; omega)) g50 (by omega) (by omega) hm.2.2.2.2.2.2
  have k_hs : xHs N2 := xHs_k (show s3 N N2 [1, 3, 5, 8, 10, 11] from fun b hb => h3 b (by simp only [List.mem_cons, List.not_mem_nil, or_false] at hb; omega)) (show s9 N N2 [0, 2, 15, 26, 29, 36, 50, 58] from fun b hb => h39 b (by simp only [List.mem_cons, List.not_mem_nil, or_false] at hb; omega)) (show sC N N2 [4, 6, 7, 8, 9, 12, 13, 40, 51, 56, 57, 58] from fun b hb => hsm b (by simp only [List.mem_cons, List.not_mem_nil, or_false] at hb; omega)) hI.hs
  have k_ps : xPs s N2 fa sa := xPs_k hs (show s8 s N N2 4 from fun b h1 h2 h3 => hdy b h1 h2 (by omega)) ((show sC N N2 [5] from fun b hb => hsm b (by simp only [List.mem_cons, List.not_mem_nil, or_false] at hb; omega)) 5 (by simp)) (show sC N N2 [41, 42, 43, 44, 45, 46, 47, 48, 59, 73] from fun b hb => hsm b (by simp only [List.mem_cons, List.not_mem_nil, or_false] at hb; omega)) (show s9 N N2 [2, 10, 31, 49] from fun b hb => h39 b (by simp only [List.mem_cons, List.not_mem_nil, or_false] at hb; omega)) hI.ps
  have k_fs : xFs s N2 fa := xFs_k hs (show s8 s N N2 2 from fun b h1 h2 h3 => hdy b h1 h2 (by omega)) (show sC N N2 [48, 49, 50] from fun b hb => hsm b (by simp only [List.mem_cons, List.not_mem_nil, or_false] at hb; omega)) g10 hI.fs
  have k_ss : xSs s N2 sa := xSs_k hs (show s8 s N N2 8 from fun b h1 h2 h3 => hdy b h1 h2 (by omega)) (show sC N N2 [59, 60, 61, 62] from fun b hb => hsm b (by simp only [List.mem_cons, List.not_mem_nil, or_false] at hb; omega)) g31 hI.ss
  have k_ys : xYs s N2 := xYs_k hs (show s8 s N N2 9 from fun b h1 h2 h3 => hdy b h1 h2 (by omega)) (show sC N N2 [10, 63, 64, 65, 66] from fun b hb => hsm b (by simp only [List.mem_cons, List.not_mem_nil, or_false] at hb; omega)) g36 hI.ys
  have k_ls : xLs s N2 fa := xLs_k hs (show s8 s N N2 5 from fun b h1 h2 h3 => hdy b h1 h2 (by omega)) (show s8 s N N2 20 from fun b h1 h2 h3 => hdy b h1 h2 (by omega)) (show s8 s N N2 21 from fun b h1 h2 h3 => hdy b h1 h2 (by omega)) (show sC N N2 [11, 48, 74, 75, 76, 77, 78, 79, 80] from fun b hb => hsm b (by simp only [List.mem_cons, List.not_mem_nil, or_false] at hb; omega)) g50 hI.ls
  have k_law : xLaw N2 := xLaw_k (show sC N N2 [14, 15, 16, 17, 18, 19, 52, 53] from fun b hb => hsm b (by simp only [List.mem_cons, List.not_mem_nil, or_false] at hb; omega)) ((show s3 N N2 [13] from fun b hb => h3 b (by simp only [List.mem_cons, List.not_mem_nil, or_false] at hb; omega)) 13 (by simp)) ((show s3 N N2 [14] from fun b hb => h3 b (by simp only [List.mem_cons, List.not_mem_nil, or_false] at hb; omega)) 14 (by simp)) g18 hI.law
  have k_sh : xSh N2 := xSh_k (show sC N N2 [20, 31, 32, 33, 34, 35, 36, 37, 38, 82, 83, 84] from fun b hb => hsm b (by simp only [List.mem_cons, List.not_mem_nil, or_false] at hb; omega)) hI.sh
  have k_ro : xRo N2 := xRo_k (show sC N N2 [21, 22, 23, 24, 85, 86, 87] from fun b hb => hsm b (by simp only [List.mem_cons, List.not_mem_nil, or_false] at hb; omega)) g63 hI.ro
  have k_kp : yKp N2 := yKp_k (show s3 N N2 [19] from fun b hb => h3 b (by simp only [List.mem_cons, List.not_mem_nil, or_false] at hb; omega)) (show s9 N N2 [10, 31] from fun b hb => h39 b (by simp only [List.mem_cons, List.not_mem_nil, or_false] at hb; omega)) hy.1
  have k_ow : yOw N2 := yOw_k (show sC N N2 [76, 77, 80] from fun b hb => hsm b (by simp only [List.mem_cons, List.not_mem_nil, or_false] at hb; omega)) (show s9 N N2 [50] from fun b hb => h39 b (by simp only [List.mem_cons, List.not_mem_nil, or_false] at hb; omega)) hy.2.1
  have k_tp : yTp N2 := yTp_k (show sC N N2 [51] from fun b hb => hsm b (by simp only [List.mem_cons, List.not_mem_nil, or_false] at hb; omega)) (show s9 N N2 [15] from fun b hb => h39 b (by simp only [List.mem_cons, List.not_mem_nil, or_false] at hb; omega)) hy.2.2.1
  have k_yro : yRo N2 := yRo_k (show sC N N2 [85, 86] from fun b hb => hsm b (by simp only [List.mem_cons, List.not_mem_nil, or_false] at hb; omega)) hy.2.2.2.1
  have k_ln : yLn N2 := yLn_k (show sC N N2 [40, 58] from fun b hb => hsm b (by simp only [List.mem_cons, List.not_mem_nil, or_false] at hb; omega)) (show s9 N N2 [0, 29] from fun b hb => h39 b (by simp only [List.mem_cons, List.not_mem_nil, or_false] at hb; omega)) hy.2.2.2.2.1
  have k_cm : yCm N2 := yCm_k (show sC N N2 [73] from fun b hb => hsm b (by simp only [List.mem_cons, List.not_mem_nil, or_false] at hb; omega)) (show s9 N N2 [2, 49] from fun b hb => h39 b (by simp only [List.mem_cons, List.not_mem_nil, or_false] at hb; omega)) hy.2.2.2.2.2.1
  have k_bf : yBf N2 := yBf_k (show sC N N2 [42, 48, 49] from fun b hb => hsm b (by simp only [List.mem_cons, List.not_mem_nil, or_false] at hb; omega)) (show s9 N N2 [10] from fun b hb => h39 b (by simp only [List.mem_cons, List.not_mem_nil, or_false] at hb; omega)) hy.2.2.2.2.2.2
  have k_bud : bud N2 ≤ bud N + 1 := by have := bud_k (show sC N N2 [59, 62] from fun b hb => hsm b (by simp only [List.mem_cons, List.not_mem_nil, or_false] at hb; omega)) (show s9 N N2 [2, 10, 31] from fun b hb => h39 b (by simp only [List.mem_cons, List.not_mem_nil, or_false] at hb; omega)); omega
  exact ⟨⟨hB.k hs, hG, ⟨hG.1, kCnt, k_ppl, k_flt, k_spl, k_sty, k_ple⟩, k_ord, k_hs, k_ps, k_fs, k_ss, k_ys, k_ls, k_law, k_sh, k_ro⟩, ⟨k_kp, k_ow, k_tp, k_yro, k_ln, k_cm, k_bf⟩, k_bud⟩
/-- only the filling's cells changed -/
def flF (N N1 : zN) : Prop := (∀ a : Nat, a < 25 ∨ 29 < a → N1 a = N a) ∧ ∀ a x, zr (N1 a x)
theorem xI.fl {N1 : zN} (hI : xI s N fa sa) (hy : yI N) (h : flF N N1) : xI s N1 fa sa ∧ yI N1 ∧ bud N1 ≤ bud N + 1 := by
  have n88 := hI.B.1
  exact jx_fl hI hy sK.rf ⟨h.2, fun a ha x => by rw [h.1 a (by omega)]; exact hI.2.1.2 a ha x⟩ (fun a ha => h.1 a (by omega)) (fun x _ => by rw [h.1 39 (by omega)]) (fun x _ => by rw [h.1 3 (by omega)]) (fun a h1 _ _ => h.1 a (by omega)) trivial
theorem flF.e {N1 : zN} (h : flF N N1) : eM N N1 := fun a h1 h2 => h.1 a (by omega)
theorem flF.rf (hR : ∀ a x, zr (N a x)) : flF N N := ⟨fun _ _ => rfl, hR⟩
theorem flF.tr {N1 N2 : zN} (h : flF N N1) (h2 : flF N1 N2) : flF N N2 := ⟨fun a ha => (h2.1 a ha).trans (h.1 a ha), h2.2⟩
noncomputable def cK6 (N : zN) (d : Int) (n : Nat) : Int := cnt (fun w : Nat => comer N w d) n
noncomputable def whK (N : zN) (d : Int) (k : Nat) : Int := fstK (fun w : Nat => comer N w d ∧ cK6 N d w = k) (N 39 2).toNat
theorem cnt_lt {p : Nat → Prop} {k : Nat} : ∀ n : Nat, (k : Int) < cnt p n → ∃ w, w < n ∧ p w ∧ cnt p w = k
  | 0, h => by simp [cnt, sumK] at h; omega
  | n + 1, h => by
    by_cases hp : p n
    · rw [cnt_t hp] at h
      by_cases hk : (k : Int) < cnt p n
      · obtain ⟨w, h1, h2, h3⟩ := cnt_lt n hk
        exact ⟨w, by omega, h2, h3⟩
      · exact ⟨n, by omega, hp, by omega⟩
    · rw [cnt_f' hp] at h
      obtain ⟨w, h1, h2, h3⟩ := cnt_lt n h
      exact ⟨w, by omega, h2, h3⟩
theorem cnt_in {p : Nat → Prop} {v w : Nat} (h : v < w) (hp : p v) : cnt p v < cnt p w := by
  have h1 := cnt_mono (p := p) (show v + 1 ≤ w by omega)
  rw [cnt_t hp] at h1
  omega
theorem whK_at {d : Int} {w k : Nat} (hw : (w : Int) < N 39 2) (hc : comer N w d) (hk : cK6 N d w = k) : whK N d k = w := by
  unfold whK
  refine fstK_at (by omega) (fun v hv q => ?_) ⟨hc, hk⟩
  have h1 := cnt_in (p := fun v : Nat => comer N v d) hv q.1
  have h2 := q.2
  unfold cK6 at h2 hk
  omega
theorem whK_p {d : Int} {k : Nat} (h : (k : Int) < cK6 N d (N 39 2).toNat) : (0 ≤ whK N d k ∧ whK N d k < N 39 2) ∧ comer N (whK N d k) d ∧ cK6 N d (whK N d k).toNat = k := by
  obtain ⟨w, h1, h2, h3⟩ := cnt_lt _ h
  have e := whK_at (N := N) (d := d) (w := w) (k := k) (by omega) h2 h3
  rw [e]
  refine ⟨by omega, h2, ?_⟩
  rw [Int.toNat_natCast]
  exact h3
theorem whK_i {d : Int} {k l : Nat} (hk : (k : Int) < cK6 N d (N 39 2).toNat) (hl : (l : Int) < cK6 N d (N 39 2).toNat) (h : whK N d k = whK N d l) : k = l := by
  have h1 := (whK_p hk).2.2
  have h2 := (whK_p hl).2.2
  rw [h] at h1
  omega
noncomputable def askV (N : zN) (w g d : Int) : Int := (if 0 ≤ N 40 (N 44 w) - N 58 g then N 40 (N 44 w) - N 58 g else -(N 40 (N 44 w) - N 58 g)) + zif (kinIn N w g d) 0 5
def riP (N : zN) (d g : Int) : Prop := ∃ i : Nat, (i : Int) < N 39 2 ∧ N 45 i = 0 ∧ memb N i g d
noncomputable def aP (N : zN) (d : Int) (k : Nat) (g : Int) : Int := askV N (whK N d k) g d
noncomputable def rmP (N : zN) (d g : Int) : Int := 10 - mems N g d
def poP (N : zN) (d : Int) (k : Nat) : Prop := N 45 (whK N d k) ≠ 0
theorem askV_r (hm : mI N) (hln : yLn N) {w g d : Int} (hw : 0 ≤ w ∧ w < N 39 2) (hg : 0 ≤ g ∧ g < N 39 29) : 0 ≤ askV N w g d ∧ askV N w g d ≤ 104 := by
  have h1 := (hm.2.2.1 w hw.1 hw.2).2.2.2.1
  have h2 := hln.1 _ h1.1 h1.2
  have h3 := hln.2 g hg.1 hg.2
  unfold askV
  by_cases hk : kinIn N w g d
  · rw [zif_t hk]; split <;> omega
  · rw [zif_f hk]; split <;> omega
set_option maxRecDepth 20000 in
set_option maxHeartbeats 2000000 in
theorem x_askedOf (hI : xI s N fa sa) (hln : yLn N) {w g d : Int} (hw : 0 ≤ w ∧ w < N 39 2) (hg : 0 ≤ g ∧ g < N 39 29) (hd : 0 ≤ d ∧ d ≤ 9999) (h : Q (some (vi (askV N w g d))) (zI s N)) : zC X m_X11_askedOf [.ref 3, vi w, vi g, vi d] (zI s N) Q := by
  have hB := hI.B
  have hR := hI.R
  have hC := hI.C
  unfold mCnt at hC
  have hm := hI.m
  obtain ⟨e1, e5, e7, e8, e10, e11, e3, e12, eh, eg, ef, et⟩ := hI.hs
  show zE X m_X11_askedOf 0 [.ref 3, vi w, vi g, vi d, zU] [] _ Q
  refine e_aload_n q_X11_askedOf_0 (by decide) rfl ?_
  refine i_getC (r := 4) q_X11_askedOf_1 fl_X11_9 (a3 hB) rfl (by decide) ?_
  refine e_aload_n q_X11_askedOf_4 (by decide) rfl ?_
  refine i_getC (r := 5) q_X11_askedOf_5 fl_X11_15 (a3 hB) rfl (by decide) ?_
  refine e_iload_n q_X11_askedOf_8 (by decide) rfl ?_
  obtain ⟨a, hp⟩ := hI.ps.1 (w) (by omega) (by omega)
  obtain ⟨p88, pA, p5, p0, p1, p2, p3, p4, p5f, p6, p7, p8, p9⟩ := id hp
  refine i_aald q_X11_askedOf_9 (a5 hB) (by decide) (fun _ => rfl) (by omega) (by omega) (by decide) p5 (by omega) ?_
  have hpp := hm.2.2.1 w (by omega) (by omega)
  have h40 := hln.1 (N 44 w) (by omega) (by omega)
  have h58 := hln.2 g (by omega) (by omega)
  refine i_getI (k' := 3) q_X11_askedOf_10 fl_X11_123 pA (cref0 (by omega) _) rfl rfl p3 ?_
  refine i_iald q_X11_askedOf_13 (a4 hB) (fun _ => rfl) (by first | omega | assumption) (by first | omega | assumption) (by decide) (eh _ (by omega) (by omega)) ?_
  refine e_aload_n q_X11_askedOf_14 (by decide) rfl ?_
  refine i_getC (r := 6) q_X11_askedOf_15 fl_X11_19 (a3 hB) rfl (by decide) ?_
  refine e_iload_n q_X11_askedOf_18 (by decide) rfl ?_
  refine i_iald q_X11_askedOf_19 (a6 hB) (fun _ => rfl) (by first | omega | assumption) (by first | omega | assumption) (by decide) (eg _ (by omega) (by omega)) ?_
  refine e_isub q_X11_askedOf_20 ?_
  refine e_abs q_X11_askedOf_21 lk_X11_451 mm_abs_s ini_J9 mm_abs_c (by decide) (by decide) (Nat.le_of_ble_eq_true rfl) (by constructor <;> omega) ?_
  refine e_istore (ls' := [_, _, _, _, _]) q_X11_askedOf_24 (by decide) rfl rfl ?_
  refine e_aload_n q_X11_askedOf_26 (by decide) rfl ?_
  refine e_iload_n q_X11_askedOf_27 (by decide) rfl ?_
  refine e_iload_n q_X11_askedOf_28 (by decide) rfl ?_
  refine e_iload_n q_X11_askedOf_29 (by decide) rfl ?_
  refine iv_X11_hasKinIn q_X11_askedOf_30 lk_X11_454 (by decide) (a3 hB) (Nat.le_of_ble_eq_true rfl) ?_
  refine x_hasKinIn hI hw.1 hw.2 (by omega) hd ?_
  refine e_ifb_eq q_X11_askedOf_33 (fun c33 => ?_) (fun c33 => ?_)
  · skip
    refine e_iload q_X11_askedOf_41 (by decide) rfl ?_
    refine e_iconst q_X11_askedOf_43 ?_
    refine e_iadd q_X11_askedOf_44 ?_
    refine e_ireturn q_X11_askedOf_45 rfl rfl ?_
    first
    | (have hk : kinIn N w g d := c33
       have e : askV N w g d = (if 0 ≤ N 40 (N 44 w) - N 58 g then N 40 (N 44 w) - N 58 g else -(N 40 (N 44 w) - N 58 g)) := by unfold askV; rw [zif_t hk, Int.add_zero]
       exact zqI h e)
    | (have hk : ¬ kinIn N w g d := c33
       have e : askV N w g d = (if 0 ≤ N 40 (N 44 w) - N 58 g then N 40 (N 44 w) - N 58 g else -(N 40 (N 44 w) - N 58 g)) + 5 := by unfold askV; rw [zif_f hk]
       exact zqI h e)
  · skip
    refine e_iload q_X11_askedOf_36 (by decide) rfl ?_
    refine e_goto q_X11_askedOf_38 ?_
    refine e_ireturn q_X11_askedOf_45 rfl rfl ?_
    first
    | (have hk : kinIn N w g d := c33
       have e : askV N w g d = (if 0 ≤ N 40 (N 44 w) - N 58 g then N 40 (N 44 w) - N 58 g else -(N 40 (N 44 w) - N 58 g)) := by unfold askV; rw [zif_t hk, Int.add_zero]
       exact zqI h e)
    | (have hk : ¬ kinIn N w g d := c33
       have e : askV N w g d = (if 0 ≤ N 40 (N 44 w) - N 58 g then N 40 (N 44 w) - N 58 g else -(N 40 (N 44 w) - N 58 g)) + 5 := by unfold askV; rw [zif_f hk]
       exact zqI h e)
set_option maxRecDepth 20000 in
set_option maxHeartbeats 2000000 in
theorem x_hasWealth (hI : xI s N fa sa) {g d : Int} (hg : 0 ≤ g ∧ g < 8) (hd : 0 ≤ d ∧ d ≤ 9999) (h : Q (some (vi (bi (riP N d g)))) (zI s N)) : zC X m_X11_hasWealth [.ref 3, vi g, vi d] (zI s N) Q := by
  have hB := hI.B
  have hR := hI.R
  have hC := hI.C
  unfold mCnt at hC
  have hm := hI.m
  obtain ⟨e1, e5, e7, e8, e10, e11, e3, e12, eh, eg, ef, et⟩ := hI.hs
  show zE X m_X11_hasWealth 0 [.ref 3, vi g, vi d, zU] [] _ Q
  refine e_iconst q_X11_hasWealth_0 ?_
  refine e_istore_n (ls' := [_, _, _, _]) q_X11_hasWealth_1 (by decide) rfl rfl ?_
  refine zEe (ls := [.ref 3, vi g, vi d, vi ((0 : Nat) : Int)]) (σ := zI s N) ?_ rfl rfl
  refine z_for (P := fun i => ∀ (hh : True), (∀ j, j < i → ¬ (fun k : Nat => N 45 k = 0 ∧ memb N k g d) j) → zE X m_X11_hasWealth 2 [.ref 3, vi g, vi d, vi (i : Int)] [] (zI s N) Q) (N 39 2).toNat (fun i hi ih hh hv => ?_) (fun hh hv => ?_) trivial (fun j hj => by omega)
  · skip
    refine e_iload_n q_X11_hasWealth_2 (by decide) rfl ?_
    refine e_aload_n q_X11_hasWealth_3 (by decide) rfl ?_
    refine i_getI (k' := 3) q_X11_hasWealth_4 fl_X11_107 (a3 hB) rfl rfl rfl e3 ?_
    refine e_icmp_ge q_X11_hasWealth_7 (by first | exact hR _ _ | (constructor <;> omega) | assumption) (by first | exact hR _ _ | (constructor <;> omega) | assumption) (fun c7 => ?_) (fun c7 => ?_)
    · skip
      exact absurd c7 (by omega)
    · skip
      refine e_aload_n q_X11_hasWealth_10 (by decide) rfl ?_
      refine i_getC (r := 5) q_X11_hasWealth_11 fl_X11_15 (a3 hB) rfl (by decide) ?_
      refine e_iload_n q_X11_hasWealth_14 (by decide) rfl ?_
      obtain ⟨a, hp⟩ := hI.ps.1 (i) (by omega) (by omega)
      obtain ⟨p88, pA, p5, p0, p1, p2, p3, p4, p5f, p6, p7, p8, p9⟩ := id hp
      refine i_aald q_X11_hasWealth_15 (a5 hB) (by decide) (fun _ => rfl) (by omega) (by omega) (by decide) p5 (by omega) ?_
      refine i_getI (k' := 4) q_X11_hasWealth_16 fl_X11_126 pA (cref0 (by omega) _) rfl rfl p4 ?_
      refine e_if_ne q_X11_hasWealth_19 (hR _ _) (fun c19 => ?_) (fun c19 => ?_)
      · skip
        refine e_iinc (ls' := [_, _, _, _]) q_X11_hasWealth_38 (by decide) rfl rfl rfl ?_
        refine e_goto q_X11_hasWealth_41 ?_
        first | exact ih trivial (z_lt1 hv (fun q => c19 q.1)) | exact ih trivial (z_lt1 hv (fun q => c33 ((gOn_m hm hg.1).mpr q.2)))
      · skip
        refine e_aload_n q_X11_hasWealth_22 (by decide) rfl ?_
        refine i_getC (r := 5) q_X11_hasWealth_23 fl_X11_15 (a3 hB) rfl (by decide) ?_
        refine e_iload_n q_X11_hasWealth_26 (by decide) rfl ?_
        refine i_aald q_X11_hasWealth_27 (a5 hB) (by decide) (fun _ => rfl) (by omega) (by omega) (by decide) p5 (by omega) ?_
        refine e_iload_n q_X11_hasWealth_28 (by decide) rfl ?_
        refine iv_X4_groupOn q_X11_hasWealth_29 lk_X11_245 (by decide) pA (Nat.le_of_ble_eq_true rfl) ?_
        refine x_groupOn hI (by omega) (by omega) hp (by omega) ?_
        have hgr := gOn_r hm i d
        refine e_iload_n q_X11_hasWealth_32 (by decide) rfl ?_
        refine e_icmp_ne q_X11_hasWealth_33 (by constructor <;> omega) (by constructor <;> omega) (fun c33 => ?_) (fun c33 => ?_)
        · skip
          refine e_iinc (ls' := [_, _, _, _]) q_X11_hasWealth_38 (by decide) rfl rfl rfl ?_
          refine e_goto q_X11_hasWealth_41 ?_
          first | exact ih trivial (z_lt1 hv (fun q => c19 q.1)) | exact ih trivial (z_lt1 hv (fun q => c33 ((gOn_m hm hg.1).mpr q.2)))
        · skip
          refine e_iconst q_X11_hasWealth_36 ?_
          refine e_ireturn q_X11_hasWealth_37 rfl rfl ?_
          exact zqT h ⟨i, by omega, c19, (gOn_m hm hg.1).mp c33⟩
  · skip
    refine e_iload_n q_X11_hasWealth_2 (by decide) rfl ?_
    refine e_aload_n q_X11_hasWealth_3 (by decide) rfl ?_
    refine i_getI (k' := 3) q_X11_hasWealth_4 fl_X11_107 (a3 hB) rfl rfl rfl e3 ?_
    refine e_icmp_ge q_X11_hasWealth_7 (by first | exact hR _ _ | (constructor <;> omega) | assumption) (by first | exact hR _ _ | (constructor <;> omega) | assumption) (fun c7 => ?_) (fun c7 => ?_)
    · skip
      refine e_iconst q_X11_hasWealth_44 ?_
      refine e_ireturn q_X11_hasWealth_45 rfl rfl ?_
      exact zqF h (fun q => by obtain ⟨k, q1, q2⟩ := q; exact hv k (by omega) q2)
    · skip
      exact absurd (by omega) c7
theorem eM.must_ {N' : zN} (h : eM N N') (w d : Int) : must N' w d = must N w d := by
  unfold must
  rw [h.tHere_, h 41 (by decide) (by decide), h 42 (by decide) (by decide), h 52 (by decide) (by decide), h 53 (by decide) (by decide)]
theorem eM.want_ {N' : zN} (h : eM N N') (w d k : Int) : want N' w d k = want N w d k := by
  unfold want
  rw [h.must_, h.spA_]
theorem eM.comer_ {N' : zN} (h : eM N N') (w d : Int) : comer N' w d = comer N w d := by
  unfold comer
  rw [h.want_, h.boundS_, h 41 (by decide) (by decide)]
set_option maxRecDepth 20000 in
set_option maxHeartbeats 2000000 in
theorem x_gather (hI : xI s N fa sa) (hy : yI N) {d : Int} (hd : 0 ≤ d ∧ d ≤ 9999) (h1 : 6 < cK6 N d (N 39 2).toNat → ∀ N1, flF N N1 → Q (some (vi 0)) (zI s N1)) (h2 : cK6 N d (N 39 2).toNat ≤ 6 → ∀ N1, flF N N1 → N1 25 2 = cK6 N d (N 39 2).toNat → ∀ ps : Nat, N1 25 3 = ps → ps < 2 ^ (cK6 N d (N 39 2).toNat).toNat → (∀ k : Nat, (k : Int) < cK6 N d (N 39 2).toNat → (tb ps k ↔ poP N d k)) → (∀ k : Nat, (k : Int) < cK6 N d (N 39 2).toNat → N1 26 k = whK N d k) → Q (some (vi 1)) (zI s N1)) : zC X m_X11_gatherUnsworn [.ref 3, vi d] (zI s N) Q := by
  have hB := hI.B
  have hR := hI.R
  have hC := hI.C
  unfold mCnt at hC
  have hm := hI.m
  obtain ⟨e1, e5, e7, e8, e10, e11, e3, e12, eh, eg, ef, et⟩ := hI.hs
  show zE X m_X11_gatherUnsworn 0 [.ref 3, vi d, zU, zU] [] _ Q
  refine e_aload_n q_X11_gatherUnsworn_0 (by decide) rfl ?_
  refine i_getC (r := 25) q_X11_gatherUnsworn_1 fl_X11_74 (a3 hB) rfl (by decide) ?_
  refine iv_X1_clear q_X11_gatherUnsworn_4 lk_X11_431 (by decide) (a25 hB) (Nat.le_of_ble_eq_true rfl) ?_
  refine x_fclear hB ?_
  refine e_iconst q_X11_gatherUnsworn_7 ?_
  refine e_istore_n (ls' := [_, _, _, _]) q_X11_gatherUnsworn_8 (by decide) rfl rfl ?_
  refine zEe (ls := [.ref 3, vi d, vi ((0 : Nat) : Int), zU]) (σ := zI s (mup (mup N 25 2 0) 25 3 0)) ?_ rfl rfl
  refine z_for (P := fun i => ∀ (N1 : zN) (u3 : Value), (flF N N1 ∧ (cK6 N d i ≤ 6 ∧ N1 25 2 = cK6 N d i) ∧ (∃ ps : Nat, N1 25 3 = ps ∧ ps < 2 ^ (cK6 N d i).toNat ∧ ∀ k : Nat, (k : Int) < cK6 N d i → (tb ps k ↔ poP N d k)) ∧ ∀ k : Nat, (k : Int) < cK6 N d i → N1 26 k = whK N d k) → zE X m_X11_gatherUnsworn 9 [.ref 3, vi d, vi (i : Int), u3] [] (zI s N1) Q) (N 39 2).toNat (fun i hi ih N1 u3 hv => ?_) (fun N1 u3 hv => ?_) _ zU ⟨⟨fun a0 h1 => by rw [mup_fn (by omega), mup_fn (by omega)], zr_mup (zr_mup hR (by constructor <;> omega)) (by constructor <;> omega)⟩, ⟨by show (0 : Int) ≤ 6; omega, (mup_slot (by decide)).trans (mup_self _ _ _ _)⟩, ⟨0, mup_self _ _ _ _, Nat.one_le_two_pow, fun k hk => by have : (k : Int) < 0 := hk; omega⟩, fun k hk => by have : (k : Int) < 0 := hk; omega⟩
  · skip
    obtain ⟨hf, hc6, ⟨ps, hp3, hps, hpo⟩, hwh⟩ := hv
    have hI1 := (hI.fl hy hf).1
    have hE := hf.e
    have e392 : N1 39 2 = N 39 2 := hE.at 39 (by decide) (by decide) 2
    have e33 : N1 3 3 = N 39 2 := (congrFun (hf.1 3 (by omega)) 3).trans e3
    have hcb := cnt_b (fun w : Nat => comer N w d) i
    have hcb : 0 ≤ cK6 N d i ∧ cK6 N d i ≤ i := hcb
    have hm1 := hI1.m
    have hR1 := hI1.R
    refine e_iload_n q_X11_gatherUnsworn_9 (by decide) rfl ?_
    refine e_aload_n q_X11_gatherUnsworn_10 (by decide) rfl ?_
    refine i_getI (k' := 3) q_X11_gatherUnsworn_11 fl_X11_107 (a3 hB) rfl rfl rfl e33 ?_
    refine e_icmp_ge q_X11_gatherUnsworn_14 (by constructor <;> omega) (by constructor <;> omega) (fun c14 => ?_) (fun c14 => ?_)
    · skip
      exact absurd c14 (by omega)
    · skip
      refine e_aload_n q_X11_gatherUnsworn_17 (by decide) rfl ?_
      refine i_getC (r := 5) q_X11_gatherUnsworn_18 fl_X11_15 (a3 hB) rfl (by decide) ?_
      refine e_iload_n q_X11_gatherUnsworn_21 (by decide) rfl ?_
      obtain ⟨a, hp⟩ := hI1.ps.1 (i : Int) (by omega) (by omega)
      obtain ⟨p88, pA, p5, p0, p1, p2, p3, p4, p5f, p6, p7, p8, p9⟩ := id hp
      have e41 : N1 41 i = N 41 i := hE.at 41 (by decide) (by decide) i
      have e45 : N1 45 i = N 45 i := hE.at 45 (by decide) (by decide) i
      have hpp := hI.m.2.2.1 i (by omega) (by omega)
      refine i_aald q_X11_gatherUnsworn_22 (a5 hB) (by decide) (fun _ => rfl) (by omega) (by omega) (by decide) p5 (by omega) ?_
      refine e_astore_n (ls' := [_, _, _, _]) q_X11_gatherUnsworn_23 (by decide) rfl rfl ?_
      refine e_aload_n q_X11_gatherUnsworn_24 (by decide) rfl ?_
      refine i_getI (k' := 0) q_X11_gatherUnsworn_25 fl_X11_117 pA (cref0 (by omega) _) rfl rfl (p0.trans e41) ?_
      refine e_iconst q_X11_gatherUnsworn_28 ?_
      refine e_icmp_gt q_X11_gatherUnsworn_29 (by constructor <;> omega) (by constructor <;> omega) (fun c29 => ?_) (fun c29 => ?_)
      · skip
        refine e_iinc (ls' := [_, _, _, _]) q_X11_gatherUnsworn_75 (by decide) rfl rfl rfl ?_
        refine e_goto q_X11_gatherUnsworn_78 ?_
        first
        | (have hcm : comer N i d := ⟨by omega, by rw [← hE.want_]; exact c38, by rw [← hE.boundS_]; exact c46⟩
           have hk1 : cK6 N d (i + 1) = cK6 N d i + 1 := cnt_t (p := fun w : Nat => comer N w d) hcm
           have hwi : whK N d (cK6 N d i).toNat = i := whK_at (w := i) (by omega) hcm (by omega)
           have hpi : poP N d (cK6 N d i).toNat ↔ N 45 i ≠ 0 := by unfold poP; rw [hwi]
           refine zEe (ls := [.ref 3, vi d, vi ((i + 1 : Nat) : Int), _]) (ih _ _ ⟨⟨fun a0 h1 => ?_, ?_⟩, ⟨by omega, ?_⟩, ⟨if N1 a 4 = 0 then ps else 2 ^ (cK6 N d i).toNat + ps, ?_, ?_, fun k hk => ?_⟩, fun k hk => ?_⟩) rfl rfl
           · rw [mup_fn (by omega), mup_fn (by omega), mup_fn (by omega)]; exact hf.1 a0 h1
           · refine zr_mup (zr_mup (zr_mup hf.2 (by constructor <;> omega)) ?_) (by constructor <;> omega)
             have := pow6 (K := (cK6 N d i).toNat) (by omega)
             split <;> constructor <;> omega
           · rw [mup_self, hk1, z_cast hcb.1]
           · rw [mup_slot (by decide), mup_self]
           · rw [hk1, show (cK6 N d i + 1).toNat = (cK6 N d i).toNat + 1 by omega, Nat.pow_succ]
             split <;> omega
           · rw [hk1] at hk
             by_cases hkk : k = (cK6 N d i).toNat
             · rw [hkk, hpi, ← e45, ← p4]
               by_cases h4 : N1 a 4 = 0
               · rw [if_pos h4]
                 exact ⟨fun r => by have := tb_lt hps r; omega, fun r => absurd h4 r⟩
               · rw [if_neg h4]
                 exact ⟨fun _ => h4, fun _ => (tb_add hps).mpr (Or.inl rfl)⟩
             · rw [← hpo k (by omega)]
               by_cases h4 : N1 a 4 = 0
               · rw [if_pos h4]
               · rw [if_neg h4, tb_add hps]
                 exact ⟨fun r => r.elim (fun q => absurd q hkk) id, Or.inr⟩
           · rw [hk1] at hk
             rw [mup_cell (by decide), mup_cell (by decide)]
             by_cases hkk : k = (cK6 N d i).toNat
             · rw [hkk, mup_self, hwi]
             · rw [mup_slot (by omega)]
               exact hwh k (by omega))
        | (have hcm : ¬ comer N i d := fun q => c38 ((hE.want_ _ _ _).symm ▸ q.2.1)
           have hk1 : cK6 N d (i + 1) = cK6 N d i := cnt_f' (p := fun w : Nat => comer N w d) hcm
           exact zEe (ih N1 _ ⟨hf, by rw [hk1]; exact hc6, ⟨ps, hp3, by rw [hk1]; exact hps, by rw [hk1]; exact hpo⟩, by rw [hk1]; exact hwh⟩) rfl rfl)
        | (have hcm : ¬ comer N i d := fun q => c46 ((hE.boundS_ _ _).symm ▸ q.2.2)
           have hk1 : cK6 N d (i + 1) = cK6 N d i := cnt_f' (p := fun w : Nat => comer N w d) hcm
           exact zEe (ih N1 _ ⟨hf, by rw [hk1]; exact hc6, ⟨ps, hp3, by rw [hk1]; exact hps, by rw [hk1]; exact hpo⟩, by rw [hk1]; exact hwh⟩) rfl rfl)
        | (have hcm : ¬ comer N i d := fun q => absurd q.1 (by omega)
           have hk1 : cK6 N d (i + 1) = cK6 N d i := cnt_f' (p := fun w : Nat => comer N w d) hcm
           exact zEe (ih N1 _ ⟨hf, by rw [hk1]; exact hc6, ⟨ps, hp3, by rw [hk1]; exact hps, by rw [hk1]; exact hpo⟩, by rw [hk1]; exact hwh⟩) rfl rfl)
      · skip
        refine e_aload_n q_X11_gatherUnsworn_32 (by decide) rfl ?_
        refine e_aload_n q_X11_gatherUnsworn_33 (by decide) rfl ?_
        refine e_iload_n q_X11_gatherUnsworn_34 (by decide) rfl ?_
        refine iv_X11_isUnsworn rfl q_X11_gatherUnsworn_35 lk_X11_402 (by decide) (a3 hB) (Nat.le_of_ble_eq_true rfl) ?_
        refine x_isUnsworn hI1 (by omega) (by omega) hp hd ?_
        refine e_ifb_eq q_X11_gatherUnsworn_38 (fun c38 => ?_) (fun c38 => ?_)
        · skip
          refine e_iinc (ls' := [_, _, _, _]) q_X11_gatherUnsworn_75 (by decide) rfl rfl rfl ?_
          refine e_goto q_X11_gatherUnsworn_78 ?_
          first
          | (have hcm : comer N i d := ⟨by omega, by rw [← hE.want_]; exact c38, by rw [← hE.boundS_]; exact c46⟩
             have hk1 : cK6 N d (i + 1) = cK6 N d i + 1 := cnt_t (p := fun w : Nat => comer N w d) hcm
             have hwi : whK N d (cK6 N d i).toNat = i := whK_at (w := i) (by omega) hcm (by omega)
             have hpi : poP N d (cK6 N d i).toNat ↔ N 45 i ≠ 0 := by unfold poP; rw [hwi]
             refine zEe (ls := [.ref 3, vi d, vi ((i + 1 : Nat) : Int), _]) (ih _ _ ⟨⟨fun a0 h1 => ?_, ?_⟩, ⟨by omega, ?_⟩, ⟨if N1 a 4 = 0 then ps else 2 ^ (cK6 N d i).toNat + ps, ?_, ?_, fun k hk => ?_⟩, fun k hk => ?_⟩) rfl rfl
             · rw [mup_fn (by omega), mup_fn (by omega), mup_fn (by omega)]; exact hf.1 a0 h1
             · refine zr_mup (zr_mup (zr_mup hf.2 (by constructor <;> omega)) ?_) (by constructor <;> omega)
               have := pow6 (K := (cK6 N d i).toNat) (by omega)
               split <;> constructor <;> omega
             · rw [mup_self, hk1, z_cast hcb.1]
             · rw [mup_slot (by decide), mup_self]
             · rw [hk1, show (cK6 N d i + 1).toNat = (cK6 N d i).toNat + 1 by omega, Nat.pow_succ]
               split <;> omega
             · rw [hk1] at hk
               by_cases hkk : k = (cK6 N d i).toNat
               · rw [hkk, hpi, ← e45, ← p4]
                 by_cases h4 : N1 a 4 = 0
                 · rw [if_pos h4]
                   exact ⟨fun r => by have := tb_lt hps r; omega, fun r => absurd h4 r⟩
                 · rw [if_neg h4]
                   exact ⟨fun _ => h4, fun _ => (tb_add hps).mpr (Or.inl rfl)⟩
               · rw [← hpo k (by omega)]
                 by_cases h4 : N1 a 4 = 0
                 · rw [if_pos h4]
                 · rw [if_neg h4, tb_add hps]
                   exact ⟨fun r => r.elim (fun q => absurd q hkk) id, Or.inr⟩
             · rw [hk1] at hk
               rw [mup_cell (by decide), mup_cell (by decide)]
               by_cases hkk : k = (cK6 N d i).toNat
               · rw [hkk, mup_self, hwi]
               · rw [mup_slot (by omega)]
                 exact hwh k (by omega))
          | (have hcm : ¬ comer N i d := fun q => c38 ((hE.want_ _ _ _).symm ▸ q.2.1)
             have hk1 : cK6 N d (i + 1) = cK6 N d i := cnt_f' (p := fun w : Nat => comer N w d) hcm
             exact zEe (ih N1 _ ⟨hf, by rw [hk1]; exact hc6, ⟨ps, hp3, by rw [hk1]; exact hps, by rw [hk1]; exact hpo⟩, by rw [hk1]; exact hwh⟩) rfl rfl)
          | (have hcm : ¬ comer N i d := fun q => c46 ((hE.boundS_ _ _).symm ▸ q.2.2)
             have hk1 : cK6 N d (i + 1) = cK6 N d i := cnt_f' (p := fun w : Nat => comer N w d) hcm
             exact zEe (ih N1 _ ⟨hf, by rw [hk1]; exact hc6, ⟨ps, hp3, by rw [hk1]; exact hps, by rw [hk1]; exact hpo⟩, by rw [hk1]; exact hwh⟩) rfl rfl)
          | (have hcm : ¬ comer N i d := fun q => absurd q.1 (by omega)
             have hk1 : cK6 N d (i + 1) = cK6 N d i := cnt_f' (p := fun w : Nat => comer N w d) hcm
             exact zEe (ih N1 _ ⟨hf, by rw [hk1]; exact hc6, ⟨ps, hp3, by rw [hk1]; exact hps, by rw [hk1]; exact hpo⟩, by rw [hk1]; exact hwh⟩) rfl rfl)
        · skip
          refine e_aload_n q_X11_gatherUnsworn_41 (by decide) rfl ?_
          refine e_iload_n q_X11_gatherUnsworn_42 (by decide) rfl ?_
          refine iv_X4_mayJoin q_X11_gatherUnsworn_43 lk_X11_221 (by decide) pA (Nat.le_of_ble_eq_true rfl) ?_
          refine x_mayJoin hI1 (by omega) (by omega) hp (by omega) ?_
          refine e_ifb_eq q_X11_gatherUnsworn_46 (fun c46 => ?_) (fun c46 => ?_)
          · skip
            refine e_iinc (ls' := [_, _, _, _]) q_X11_gatherUnsworn_75 (by decide) rfl rfl rfl ?_
            refine e_goto q_X11_gatherUnsworn_78 ?_
            first
            | (have hcm : comer N i d := ⟨by omega, by rw [← hE.want_]; exact c38, by rw [← hE.boundS_]; exact c46⟩
               have hk1 : cK6 N d (i + 1) = cK6 N d i + 1 := cnt_t (p := fun w : Nat => comer N w d) hcm
               have hwi : whK N d (cK6 N d i).toNat = i := whK_at (w := i) (by omega) hcm (by omega)
               have hpi : poP N d (cK6 N d i).toNat ↔ N 45 i ≠ 0 := by unfold poP; rw [hwi]
               refine zEe (ls := [.ref 3, vi d, vi ((i + 1 : Nat) : Int), _]) (ih _ _ ⟨⟨fun a0 h1 => ?_, ?_⟩, ⟨by omega, ?_⟩, ⟨if N1 a 4 = 0 then ps else 2 ^ (cK6 N d i).toNat + ps, ?_, ?_, fun k hk => ?_⟩, fun k hk => ?_⟩) rfl rfl
               · rw [mup_fn (by omega), mup_fn (by omega), mup_fn (by omega)]; exact hf.1 a0 h1
               · refine zr_mup (zr_mup (zr_mup hf.2 (by constructor <;> omega)) ?_) (by constructor <;> omega)
                 have := pow6 (K := (cK6 N d i).toNat) (by omega)
                 split <;> constructor <;> omega
               · rw [mup_self, hk1, z_cast hcb.1]
               · rw [mup_slot (by decide), mup_self]
               · rw [hk1, show (cK6 N d i + 1).toNat = (cK6 N d i).toNat + 1 by omega, Nat.pow_succ]
                 split <;> omega
               · rw [hk1] at hk
                 by_cases hkk : k = (cK6 N d i).toNat
                 · rw [hkk, hpi, ← e45, ← p4]
                   by_cases h4 : N1 a 4 = 0
                   · rw [if_pos h4]
                     exact ⟨fun r => by have := tb_lt hps r; omega, fun r => absurd h4 r⟩
                   · rw [if_neg h4]
                     exact ⟨fun _ => h4, fun _ => (tb_add hps).mpr (Or.inl rfl)⟩
                 · rw [← hpo k (by omega)]
                   by_cases h4 : N1 a 4 = 0
                   · rw [if_pos h4]
                   · rw [if_neg h4, tb_add hps]
                     exact ⟨fun r => r.elim (fun q => absurd q hkk) id, Or.inr⟩
               · rw [hk1] at hk
                 rw [mup_cell (by decide), mup_cell (by decide)]
                 by_cases hkk : k = (cK6 N d i).toNat
                 · rw [hkk, mup_self, hwi]
                 · rw [mup_slot (by omega)]
                   exact hwh k (by omega))
            | (have hcm : ¬ comer N i d := fun q => c38 ((hE.want_ _ _ _).symm ▸ q.2.1)
               have hk1 : cK6 N d (i + 1) = cK6 N d i := cnt_f' (p := fun w : Nat => comer N w d) hcm
               exact zEe (ih N1 _ ⟨hf, by rw [hk1]; exact hc6, ⟨ps, hp3, by rw [hk1]; exact hps, by rw [hk1]; exact hpo⟩, by rw [hk1]; exact hwh⟩) rfl rfl)
            | (have hcm : ¬ comer N i d := fun q => c46 ((hE.boundS_ _ _).symm ▸ q.2.2)
               have hk1 : cK6 N d (i + 1) = cK6 N d i := cnt_f' (p := fun w : Nat => comer N w d) hcm
               exact zEe (ih N1 _ ⟨hf, by rw [hk1]; exact hc6, ⟨ps, hp3, by rw [hk1]; exact hps, by rw [hk1]; exact hpo⟩, by rw [hk1]; exact hwh⟩) rfl rfl)
            | (have hcm : ¬ comer N i d := fun q => absurd q.1 (by omega)
               have hk1 : cK6 N d (i + 1) = cK6 N d i := cnt_f' (p := fun w : Nat => comer N w d) hcm
               exact zEe (ih N1 _ ⟨hf, by rw [hk1]; exact hc6, ⟨ps, hp3, by rw [hk1]; exact hps, by rw [hk1]; exact hpo⟩, by rw [hk1]; exact hwh⟩) rfl rfl)
          · skip
            refine e_aload_n q_X11_gatherUnsworn_49 (by decide) rfl ?_
            refine i_getC (r := 25) q_X11_gatherUnsworn_50 fl_X11_74 (a3 hB) rfl (by decide) ?_
            refine i_getI (k' := 2) q_X11_gatherUnsworn_53 fl_X11_272 (a25 hB) rfl rfl rfl hc6.2 ?_
            refine e_bipush q_X11_gatherUnsworn_56 (by decide) ?_
            refine e_icmp_lt q_X11_gatherUnsworn_58 (by constructor <;> omega) (by constructor <;> omega) (fun c58 => ?_) (fun c58 => ?_)
            · skip
              refine e_aload_n q_X11_gatherUnsworn_63 (by decide) rfl ?_
              refine i_getC (r := 25) q_X11_gatherUnsworn_64 fl_X11_74 (a3 hB) rfl (by decide) ?_
              refine e_iload_n q_X11_gatherUnsworn_67 (by decide) rfl ?_
              refine e_aload_n q_X11_gatherUnsworn_68 (by decide) rfl ?_
              refine i_getI (k' := 4) q_X11_gatherUnsworn_69 fl_X11_126 pA (cref0 (by omega) _) rfl rfl rfl ?_
              refine iv_X1_put q_X11_gatherUnsworn_72 lk_X11_432 (by decide) (a25 hB) (Nat.le_of_ble_eq_true rfl) ?_
              refine xf_put hB (K := (cK6 N d i).toNat) (ps := ps) (by rw [z_cast hcb.1]; exact hc6.2) (by omega) hp3 hps (by rw [p4, e45]; exact hpp.2.2.2.2.1) ?_
              refine e_iinc (ls' := [_, _, _, _]) q_X11_gatherUnsworn_75 (by decide) rfl rfl rfl ?_
              refine e_goto q_X11_gatherUnsworn_78 ?_
              first
              | (have hcm : comer N i d := ⟨by omega, by rw [← hE.want_]; exact c38, by rw [← hE.boundS_]; exact c46⟩
                 have hk1 : cK6 N d (i + 1) = cK6 N d i + 1 := cnt_t (p := fun w : Nat => comer N w d) hcm
                 have hwi : whK N d (cK6 N d i).toNat = i := whK_at (w := i) (by omega) hcm (by omega)
                 have hpi : poP N d (cK6 N d i).toNat ↔ N 45 i ≠ 0 := by unfold poP; rw [hwi]
                 refine zEe (ls := [.ref 3, vi d, vi ((i + 1 : Nat) : Int), _]) (ih _ _ ⟨⟨fun a0 h1 => ?_, ?_⟩, ⟨by omega, ?_⟩, ⟨if N1 a 4 = 0 then ps else 2 ^ (cK6 N d i).toNat + ps, ?_, ?_, fun k hk => ?_⟩, fun k hk => ?_⟩) rfl rfl
                 · rw [mup_fn (by omega), mup_fn (by omega), mup_fn (by omega)]; exact hf.1 a0 h1
                 · refine zr_mup (zr_mup (zr_mup hf.2 (by constructor <;> omega)) ?_) (by constructor <;> omega)
                   have := pow6 (K := (cK6 N d i).toNat) (by omega)
                   split <;> constructor <;> omega
                 · rw [mup_self, hk1, z_cast hcb.1]
                 · rw [mup_slot (by decide), mup_self]
                 · rw [hk1, show (cK6 N d i + 1).toNat = (cK6 N d i).toNat + 1 by omega, Nat.pow_succ]
                   split <;> omega
                 · rw [hk1] at hk
                   by_cases hkk : k = (cK6 N d i).toNat
                   · rw [hkk, hpi, ← e45, ← p4]
                     by_cases h4 : N1 a 4 = 0
                     · rw [if_pos h4]
                       exact ⟨fun r => by have := tb_lt hps r; omega, fun r => absurd h4 r⟩
                     · rw [if_neg h4]
                       exact ⟨fun _ => h4, fun _ => (tb_add hps).mpr (Or.inl rfl)⟩
                   · rw [← hpo k (by omega)]
                     by_cases h4 : N1 a 4 = 0
                     · rw [if_pos h4]
                     · rw [if_neg h4, tb_add hps]
                       exact ⟨fun r => r.elim (fun q => absurd q hkk) id, Or.inr⟩
                 · rw [hk1] at hk
                   rw [mup_cell (by decide), mup_cell (by decide)]
                   by_cases hkk : k = (cK6 N d i).toNat
                   · rw [hkk, mup_self, hwi]
                   · rw [mup_slot (by omega)]
                     exact hwh k (by omega))
              | (have hcm : ¬ comer N i d := fun q => c38 ((hE.want_ _ _ _).symm ▸ q.2.1)
                 have hk1 : cK6 N d (i + 1) = cK6 N d i := cnt_f' (p := fun w : Nat => comer N w d) hcm
                 exact zEe (ih N1 _ ⟨hf, by rw [hk1]; exact hc6, ⟨ps, hp3, by rw [hk1]; exact hps, by rw [hk1]; exact hpo⟩, by rw [hk1]; exact hwh⟩) rfl rfl)
              | (have hcm : ¬ comer N i d := fun q => c46 ((hE.boundS_ _ _).symm ▸ q.2.2)
                 have hk1 : cK6 N d (i + 1) = cK6 N d i := cnt_f' (p := fun w : Nat => comer N w d) hcm
                 exact zEe (ih N1 _ ⟨hf, by rw [hk1]; exact hc6, ⟨ps, hp3, by rw [hk1]; exact hps, by rw [hk1]; exact hpo⟩, by rw [hk1]; exact hwh⟩) rfl rfl)
              | (have hcm : ¬ comer N i d := fun q => absurd q.1 (by omega)
                 have hk1 : cK6 N d (i + 1) = cK6 N d i := cnt_f' (p := fun w : Nat => comer N w d) hcm
                 exact zEe (ih N1 _ ⟨hf, by rw [hk1]; exact hc6, ⟨ps, hp3, by rw [hk1]; exact hps, by rw [hk1]; exact hpo⟩, by rw [hk1]; exact hwh⟩) rfl rfl)
            · skip
              refine e_iconst q_X11_gatherUnsworn_61 ?_
              refine e_ireturn q_X11_gatherUnsworn_62 rfl rfl ?_
              have hcm : comer N i d := ⟨by omega, by rw [← hE.want_]; exact c38, by rw [← hE.boundS_]; exact c46⟩
              have hk1 : cK6 N d (i + 1) = cK6 N d i + 1 := cnt_t (p := fun w : Nat => comer N w d) hcm
              have hk2 := cnt_mono (p := fun w : Nat => comer N w d) (show i + 1 ≤ (N 39 2).toNat by omega)
              have hk2 : cK6 N d (i + 1) ≤ cK6 N d (N 39 2).toNat := hk2
              exact h1 (by omega) N1 hf
  · skip
    obtain ⟨hf, hc6, ⟨ps, hp3, hps, hpo⟩, hwh⟩ := hv
    have hI1 := (hI.fl hy hf).1
    have hE := hf.e
    have e392 : N1 39 2 = N 39 2 := hE.at 39 (by decide) (by decide) 2
    have e33 : N1 3 3 = N 39 2 := (congrFun (hf.1 3 (by omega)) 3).trans e3
    have hcb := cnt_b (fun w : Nat => comer N w d) (N 39 2).toNat
    have hcb : 0 ≤ cK6 N d (N 39 2).toNat ∧ cK6 N d (N 39 2).toNat ≤ (N 39 2).toNat := hcb
    have hm1 := hI1.m
    have hR1 := hI1.R
    refine e_iload_n q_X11_gatherUnsworn_9 (by decide) rfl ?_
    refine e_aload_n q_X11_gatherUnsworn_10 (by decide) rfl ?_
    refine i_getI (k' := 3) q_X11_gatherUnsworn_11 fl_X11_107 (a3 hB) rfl rfl rfl e33 ?_
    refine e_icmp_ge q_X11_gatherUnsworn_14 (by constructor <;> omega) (by constructor <;> omega) (fun c14 => ?_) (fun c14 => ?_)
    · skip
      refine e_iconst q_X11_gatherUnsworn_81 ?_
      refine e_ireturn q_X11_gatherUnsworn_82 rfl rfl ?_
      exact h2 hc6.1 N1 hf hc6.2 ps hp3 hps hpo hwh
    · skip
      exact absurd (by omega) c14
end FI5
