/-! BOTH TOGETHER: flees, back (printed by wip/whole/gen/j4.py) -/
section JN4
variable {X : zX} {s : zK} {N : zN} {fa sa : Int → Int} {Q K : Option Value → zS → Prop} {c : Int}
theorem orZ_if {fa : Int → Int} {F x m : Int} (h : m < F) : orZ (fun k => if k = F then x else fa k) m = orZ fa m := by
  unfold orZ
  by_cases h0 : m < 0
  · rw [if_pos h0, if_pos h0]
  · rw [if_neg h0, if_neg h0]
    exact if_neg (by omega)
theorem away_d {w : Int} (h : ¬ away N w) (h0 : 0 ≤ lastF N w) : N 50 (lastF N w) ≠ 100000 := fun q => h ⟨h0, q⟩
theorem behind_d {w d : Int} (h : behind N w d) (h0 : 0 ≤ lastF N w) (h1 : N 50 (lastF N w) ≠ 100000) : N 50 (lastF N w) < d := by
  rcases h.2 with q | q
  · omega
  · rwa [if_neg h1] at q
theorem behind_a {w d : Int} (h : behind N w d) (h0 : 0 ≤ lastF N w) (h1 : N 50 (lastF N w) = 100000) : N 49 (lastF N w) < d := by
  rcases h.2 with q | q
  · omega
  · rwa [if_pos h1] at q
set_option maxRecDepth 20000 in
set_option maxHeartbeats 2000000 in
theorem jx_flees (hI : xI s N fa sa) (hy : yI N) {w d : Int} {a : Nat} (hg : ((0 ≤ w ∧ w < N 39 2) ∧ (0 ≤ d ∧ d ≤ 9999))) (hc1 : N 47 w = 100000 ∧ ¬ away N w ∧ behind N w d) (p88 : 88 ≤ a) (pA : zA s a (4, 0)) (hp : xPer s N fa sa w a) (hn : N 39 10 < 600) (hkr : 0 ≤ N 3 19 ∧ N 3 19 < 600) (ha0 : zr ((s.1.1 : Nat) : Int)) {N2 : zN} (e : N2 = (mup (mup (mup (mup (mup (mup (mup (mup (mup N 3 19 (N 3 19 + 1)) s.1.1 2 (-1)) s.1.1 0 d) s.1.1 1 (N a 8)) a 8 (s.1.1 : Int)) 48 (N 39 10) w) 49 (N 39 10) d) 50 (N 39 10) 100000) 39 10 ((N 39 10) + 1))) : xI (z_ns s (2, 0) 3) N2 (fun k => if k = (N 39 10) then (s.1.1 : Int) else fa k) sa ∧ yI N2 ∧ bud N2 ≤ bud N + 1 := by
  have hB := hI.B
  have hR := hI.R
  have hC := hI.C
  unfold mCnt at hC
  have hm := hI.m
  have n88 := hB.1
  obtain ⟨e1, e5, e7, e8, e10, e11, e3, e12, eh, eg, ef, et⟩ := hI.hs
  have hlt_pA := pA.2.1
  have hs : sK s (z_ns s (2, 0) 3) := sK.ns
  have hG : zG (z_ns s (2, 0) 3) N2 := by rw [e]; exact (zG_mup (zG_mup (zG_mup (zG_mup (zG_mup (zG_mup (zG_mup (zG_mup (zG_mup (zG_ns hI.2.1) (by show _ < s.1.1 + 1; omega) (by constructor <;> omega)) (by show _ < s.1.1 + 1; omega) (by constructor <;> omega)) (by show _ < s.1.1 + 1; omega) (by constructor <;> omega)) (by show _ < s.1.1 + 1; omega) (hR _ _)) (by show _ < s.1.1 + 1; omega) ha0) (by show _ < s.1.1 + 1; omega) (by constructor <;> omega)) (by show _ < s.1.1 + 1; omega) (by constructor <;> omega)) (by show _ < s.1.1 + 1; omega) (by constructor <;> omega)) (by show _ < s.1.1 + 1; omega) (by constructor <;> omega))
  have g0 : N2 39 0 = N 39 0 := by rw [e]; exact ((mup_slot (by omega)).trans ((mup_cell (by omega)).trans ((mup_cell (by omega)).trans ((mup_cell (by omega)).trans ((mup_cell (by omega)).trans ((mup_cell (by omega)).trans ((mup_cell (by omega)).trans ((mup_cell (by omega)).trans (mup_cell (by omega))))))))))
  have g2 : N2 39 2 = N 39 2 := by rw [e]; exact ((mup_slot (by omega)).trans ((mup_cell (by omega)).trans ((mup_cell (by omega)).trans ((mup_cell (by omega)).trans ((mup_cell (by omega)).trans ((mup_cell (by omega)).trans ((mup_cell (by omega)).trans ((mup_cell (by omega)).trans (mup_cell (by omega))))))))))
  have g10 : N2 39 10 = ((N 39 10) + 1) := by rw [e]; exact (mup_self _ _ _ _)
  have g15 : N2 39 15 = N 39 15 := by rw [e]; exact ((mup_slot (by omega)).trans ((mup_cell (by omega)).trans ((mup_cell (by omega)).trans ((mup_cell (by omega)).trans ((mup_cell (by omega)).trans ((mup_cell (by omega)).trans ((mup_cell (by omega)).trans ((mup_cell (by omega)).trans (mup_cell (by omega))))))))))
  have g18 : N2 39 18 = N 39 18 := by rw [e]; exact ((mup_slot (by omega)).trans ((mup_cell (by omega)).trans ((mup_cell (by omega)).trans ((mup_cell (by omega)).trans ((mup_cell (by omega)).trans ((mup_cell (by omega)).trans ((mup_cell (by omega)).trans ((mup_cell (by omega)).trans (mup_cell (by omega))))))))))
  have g26 : N2 39 26 = N 39 26 := by rw [e]; exact ((mup_slot (by omega)).trans ((mup_cell (by omega)).trans ((mup_cell (by omega)).trans ((mup_cell (by omega)).trans ((mup_cell (by omega)).trans ((mup_cell (by omega)).trans ((mup_cell (by omega)).trans ((mup_cell (by omega)).trans (mup_cell (by omega))))))))))
  have g29 : N2 39 29 = N 39 29 := by rw [e]; exact ((mup_slot (by omega)).trans ((mup_cell (by omega)).trans ((mup_cell (by omega)).trans ((mup_cell (by omega)).trans ((mup_cell (by omega)).trans ((mup_cell (by omega)).trans ((mup_cell (by omega)).trans ((mup_cell (by omega)).trans (mup_cell (by omega))))))))))
  have g31 : N2 39 31 = N 39 31 := by rw [e]; exact ((mup_slot (by omega)).trans ((mup_cell (by omega)).trans ((mup_cell (by omega)).trans ((mup_cell (by omega)).trans ((mup_cell (by omega)).trans ((mup_cell (by omega)).trans ((mup_cell (by omega)).trans ((mup_cell (by omega)).trans (mup_cell (by omega))))))))))
  have g36 : N2 39 36 = N 39 36 := by rw [e]; exact ((mup_slot (by omega)).trans ((mup_cell (by omega)).trans ((mup_cell (by omega)).trans ((mup_cell (by omega)).trans ((mup_cell (by omega)).trans ((mup_cell (by omega)).trans ((mup_cell (by omega)).trans ((mup_cell (by omega)).trans (mup_cell (by omega))))))))))
  have g49 : N2 39 49 = N 39 49 := by rw [e]; exact ((mup_slot (by omega)).trans ((mup_cell (by omega)).trans ((mup_cell (by omega)).trans ((mup_cell (by omega)).trans ((mup_cell (by omega)).trans ((mup_cell (by omega)).trans ((mup_cell (by omega)).trans ((mup_cell (by omega)).trans (mup_cell (by omega))))))))))
  have g50 : N2 39 50 = N 39 50 := by rw [e]; exact ((mup_slot (by omega)).trans ((mup_cell (by omega)).trans ((mup_cell (by omega)).trans ((mup_cell (by omega)).trans ((mup_cell (by omega)).trans ((mup_cell (by omega)).trans ((mup_cell (by omega)).trans ((mup_cell (by omega)).trans (mup_cell (by omega))))))))))
  have g58 : N2 39 58 = N 39 58 := by rw [e]; exact ((mup_slot (by omega)).trans ((mup_cell (by omega)).trans ((mup_cell (by omega)).trans ((mup_cell (by omega)).trans ((mup_cell (by omega)).trans ((mup_cell (by omega)).trans ((mup_cell (by omega)).trans ((mup_cell (by omega)).trans (mup_cell (by omega))))))))))
  have g63 : N2 39 63 = N 39 63 := by rw [e]; exact ((mup_slot (by omega)).trans ((mup_cell (by omega)).trans ((mup_cell (by omega)).trans ((mup_cell (by omega)).trans ((mup_cell (by omega)).trans ((mup_cell (by omega)).trans ((mup_cell (by omega)).trans ((mup_cell (by omega)).trans (mup_cell (by omega))))))))))
  have hkp : N 3 19 = N 39 10 + N 39 31 := hy.1
  have u48 : ∀ i : Int, i ≠ (N 39 10) → N2 48 i = N 48 i := fun i hi => by rw [e]; exact ((mup_cell (by omega)).trans ((mup_cell (by omega)).trans ((mup_cell (by omega)).trans ((mup_slot (by omega)).trans ((mup_cell (by omega)).trans ((mup_cell (by omega)).trans ((mup_cell (by omega)).trans ((mup_cell (by omega)).trans (mup_cell (by omega))))))))))
  have w48 : N2 48 (N 39 10) = w := by rw [e]; exact ((mup_cell (by omega)).trans ((mup_cell (by omega)).trans ((mup_cell (by omega)).trans (mup_self _ _ _ _))))
  have u49 : ∀ i : Int, i ≠ (N 39 10) → N2 49 i = N 49 i := fun i hi => by rw [e]; exact ((mup_cell (by omega)).trans ((mup_cell (by omega)).trans ((mup_slot (by omega)).trans ((mup_cell (by omega)).trans ((mup_cell (by omega)).trans ((mup_cell (by omega)).trans ((mup_cell (by omega)).trans ((mup_cell (by omega)).trans (mup_cell (by omega))))))))))
  have w49 : N2 49 (N 39 10) = d := by rw [e]; exact ((mup_cell (by omega)).trans ((mup_cell (by omega)).trans (mup_self _ _ _ _)))
  have u50 : ∀ i : Int, i ≠ (N 39 10) → N2 50 i = N 50 i := fun i hi => by rw [e]; exact ((mup_cell (by omega)).trans ((mup_slot (by omega)).trans ((mup_cell (by omega)).trans ((mup_cell (by omega)).trans ((mup_cell (by omega)).trans ((mup_cell (by omega)).trans ((mup_cell (by omega)).trans ((mup_cell (by omega)).trans (mup_cell (by omega))))))))))
  have w50 : N2 50 (N 39 10) = 100000 := by rw [e]; exact ((mup_cell (by omega)).trans (mup_self _ _ _ _))
  have q0 : N2 s.1.1 0 = d := by rw [e]; exact ((mup_cell (by omega)).trans ((mup_cell (by omega)).trans ((mup_cell (by omega)).trans ((mup_cell (by omega)).trans ((mup_cell (by omega)).trans ((mup_slot (by omega)).trans (mup_self _ _ _ _)))))))
  have q1 : N2 s.1.1 1 = (N a 8) := by rw [e]; exact ((mup_cell (by omega)).trans ((mup_cell (by omega)).trans ((mup_cell (by omega)).trans ((mup_cell (by omega)).trans ((mup_cell (by omega)).trans (mup_self _ _ _ _))))))
  have q2 : N2 s.1.1 2 = (-1) := by rw [e]; exact ((mup_cell (by omega)).trans ((mup_cell (by omega)).trans ((mup_cell (by omega)).trans ((mup_cell (by omega)).trans ((mup_cell (by omega)).trans ((mup_slot (by omega)).trans ((mup_slot (by omega)).trans (mup_self _ _ _ _))))))))
  have r5 : N2 5 = N 5 := (show sC N N2 [5] by rw [e]; exact (sC.m (by decide) (sC.m (by decide) (sC.m (by decide) (sC.m (by decide) (sC.hi (by omega) (by decide) (sC.hi (by omega) (by decide) (sC.hi (by omega) (by decide) (sC.hi (by omega) (by decide) (sC.m (by decide) sC.rf)))))))))) 5 (by simp)
  have r41 : N2 41 = N 41 := (show sC N N2 [41] by rw [e]; exact (sC.m (by decide) (sC.m (by decide) (sC.m (by decide) (sC.m (by decide) (sC.hi (by omega) (by decide) (sC.hi (by omega) (by decide) (sC.hi (by omega) (by decide) (sC.hi (by omega) (by decide) (sC.m (by decide) sC.rf)))))))))) 41 (by simp)
  have r42 : N2 42 = N 42 := (show sC N N2 [42] by rw [e]; exact (sC.m (by decide) (sC.m (by decide) (sC.m (by decide) (sC.m (by decide) (sC.hi (by omega) (by decide) (sC.hi (by omega) (by decide) (sC.hi (by omega) (by decide) (sC.hi (by omega) (by decide) (sC.m (by decide) sC.rf)))))))))) 42 (by simp)
  have r43 : N2 43 = N 43 := (show sC N N2 [43] by rw [e]; exact (sC.m (by decide) (sC.m (by decide) (sC.m (by decide) (sC.m (by decide) (sC.hi (by omega) (by decide) (sC.hi (by omega) (by decide) (sC.hi (by omega) (by decide) (sC.hi (by omega) (by decide) (sC.m (by decide) sC.rf)))))))))) 43 (by simp)
  have r44 : N2 44 = N 44 := (show sC N N2 [44] by rw [e]; exact (sC.m (by decide) (sC.m (by decide) (sC.m (by decide) (sC.m (by decide) (sC.hi (by omega) (by decide) (sC.hi (by omega) (by decide) (sC.hi (by omega) (by decide) (sC.hi (by omega) (by decide) (sC.m (by decide) sC.rf)))))))))) 44 (by simp)
  have r45 : N2 45 = N 45 := (show sC N N2 [45] by rw [e]; exact (sC.m (by decide) (sC.m (by decide) (sC.m (by decide) (sC.m (by decide) (sC.hi (by omega) (by decide) (sC.hi (by omega) (by decide) (sC.hi (by omega) (by decide) (sC.hi (by omega) (by decide) (sC.m (by decide) sC.rf)))))))))) 45 (by simp)
  have r46 : N2 46 = N 46 := (show sC N N2 [46] by rw [e]; exact (sC.m (by decide) (sC.m (by decide) (sC.m (by decide) (sC.m (by decide) (sC.hi (by omega) (by decide) (sC.hi (by omega) (by decide) (sC.hi (by omega) (by decide) (sC.hi (by omega) (by decide) (sC.m (by decide) sC.rf)))))))))) 46 (by simp)
  have r47 : N2 47 = N 47 := (show sC N N2 [47] by rw [e]; exact (sC.m (by decide) (sC.m (by decide) (sC.m (by decide) (sC.m (by decide) (sC.hi (by omega) (by decide) (sC.hi (by omega) (by decide) (sC.hi (by omega) (by decide) (sC.hi (by omega) (by decide) (sC.m (by decide) sC.rf)))))))))) 47 (by simp)
  have r59 : N2 59 = N 59 := (show sC N N2 [59] by rw [e]; exact (sC.m (by decide) (sC.m (by decide) (sC.m (by decide) (sC.m (by decide) (sC.hi (by omega) (by decide) (sC.hi (by omega) (by decide) (sC.hi (by omega) (by decide) (sC.hi (by omega) (by decide) (sC.m (by decide) sC.rf)))))))))) 59 (by simp)
  have r73 : N2 73 = N 73 := (show sC N N2 [73] by rw [e]; exact (sC.m (by decide) (sC.m (by decide) (sC.m (by decide) (sC.m (by decide) (sC.hi (by omega) (by decide) (sC.hi (by omega) (by decide) (sC.hi (by omega) (by decide) (sC.hi (by omega) (by decide) (sC.m (by decide) sC.rf)))))))))) 73 (by simp)
  have lS : ∀ i, lastS N2 i = lastS N i := lastS_k r59 g31
  have lF : ∀ i, lastF N2 i = if i = w then (N 39 10) else lastF N i := lastF_add u48 w48 g10 (by omega)
  have hlb := lastF_b N w
  have hfb : ∀ j : Int, 0 ≤ j → j < (N 39 10) → N 48 j = w → N 50 j < d := by
    intro j h0 h1 h2
    have hl : 0 ≤ lastF N w := by
      by_cases q : 0 ≤ lastF N w
      · exact q
      · exact absurd h2 (lastF_none (by omega) j h0 h1)
    have hlp := lastF_p hl
    have h5 := behind_d hc1.2.2 hl (away_d hc1.2.1 hl)
    by_cases hj : j = lastF N w
    · rw [hj]; exact h5
    · by_cases hj2 : j < lastF N w
      · have := hI.ord.1 j (lastF N w) h0 hj2 (by omega) (by omega)
        have := hm.2.2.2.1 (lastF N w) hl (by omega)
        omega
      · exact absurd h2 (hlp.2 j (by omega) h1)
  have kCnt : mCnt N2 := by unfold mCnt; omega
  have k_ord : mOrd N2 := by
    refine ⟨fun j k h0 h1 h2 h3 => ?_, ?_⟩
    · rw [g10] at h2
      by_cases hk : k = (N 39 10)
      · rw [hk, w48, u48 j (by omega)] at h3
        rw [hk, w49, u50 j (by omega)]
        exact hfb j h0 (by omega) h3
      · rw [u48 j (by omega), u48 k hk] at h3
        rw [u50 j (by omega), u49 k hk]
        exact hI.ord.1 j k h0 h1 (by omega) h3
    · rw [g31, r59, show N2 61 = N 61 from (show sC N N2 [61] by rw [e]; exact (sC.m (by decide) (sC.m (by decide) (sC.m (by decide) (sC.m (by decide) (sC.hi (by omega) (by decide) (sC.hi (by omega) (by decide) (sC.hi (by omega) (by decide) (sC.hi (by omega) (by decide) (sC.m (by decide) sC.rf)))))))))) 61 (by simp), show N2 62 = N 62 from (show sC N N2 [62] by rw [e]; exact (sC.m (by decide) (sC.m (by decide) (sC.m (by decide) (sC.m (by decide) (sC.hi (by omega) (by decide) (sC.hi (by omega) (by decide) (sC.hi (by omega) (by decide) (sC.hi (by omega) (by decide) (sC.m (by decide) sC.rf)))))))))) 62 (by simp)]
      exact hI.ord.2
  have k_ppl : mPpl N2 := mPpl_k (show sC N N2 [41, 42, 43, 44, 45, 46, 47] by rw [e]; exact (sC.m (by decide) (sC.m (by decide) (sC.m (by decide) (sC.m (by decide) (sC.hi (by omega) (by decide) (sC.hi (by omega) (by decide) (sC.hi (by omega) (by decide) (sC.hi (by omega) (by decide) (sC.m (by decide) sC.rf)))))))))) g2 (by omega) hm.2.2.1
  have k_flt : mFlt N2 := by
    intro k h0 h1
    rw [g10] at h1
    by_cases hk : k = (N 39 10)
    · rw [hk, w48, w49, w50, g2]
      omega
    · rw [u48 k hk, u49 k hk, u50 k hk, g2]
      exact hm.2.2.2.1 k h0 (by omega)
  have k_spl : mSpl N2 := mSpl_k (show sC N N2 [59, 60, 61, 62] by rw [e]; exact (sC.m (by decide) (sC.m (by decide) (sC.m (by decide) (sC.m (by decide) (sC.hi (by omega) (by decide) (sC.hi (by omega) (by decide) (sC.hi (by omega) (by decide) (sC.hi (by omega) (by decide) (sC.m (by decide) sC.rf)))))))))) g31 (by omega) (by omega) hm.2.2.2.2.1
  have k_sty : mSty N2 := mSty_k (show sC N N2 [63, 64, 65, 66] by rw [e]; exact (sC.m (by decide) (sC.m (by decide) (sC.m (by decide) (sC.m (by decide) (sC.hi (by omega) (by decide) (sC.hi (by omega) (by decide) (sC.hi (by omega) (by decide) (sC.hi (by omega) (by decide) (sC.m (by decide) sC.rf)))))))))) g36 (by omega) (by omega) hm.2.2.2.2.2.1
  have k_ple : mPle N2 := mPle_k (show sC N N2 [74, 75, 76, 77, 78] by rw [e]; exact (sC.m (by decide) (sC.m (by decide) (sC.m (by decide) (sC.m (by decide) (sC.hi (by omega) (by decide) (sC.hi (by omega) (by decide) (sC.hi (by omega) (by decide) (sC.hi (by omega) (by decide) (sC.m (by decide) sC.rf)))))))))) g50 (by omega) (by omega) hm.2.2.2.2.2.2
  have k_hs : xHs N2 := xHs_k (show s3 N N2 [1, 3, 5, 8, 10, 11] by rw [e]; exact (s3.m (by omega) (s3.m (by omega) (s3.m (by omega) (s3.m (by omega) (s3.m (by omega) (s3.m (by omega) (s3.m (by omega) (s3.m (by omega) (s3.o (by decide) s3.rf)))))))))) (show s9 N N2 [0, 2, 15, 26, 29, 36, 50, 58] by rw [e]; exact (s9.o (by decide) (s9.m (by omega) (s9.m (by omega) (s9.m (by omega) (s9.m (by omega) (s9.m (by omega) (s9.m (by omega) (s9.m (by omega) (s9.m (by omega) s9.rf)))))))))) (show sC N N2 [4, 6, 7, 8, 9, 12, 13, 40, 51, 56, 57, 58] by rw [e]; exact (sC.m (by decide) (sC.m (by decide) (sC.m (by decide) (sC.m (by decide) (sC.hi (by omega) (by decide) (sC.hi (by omega) (by decide) (sC.hi (by omega) (by decide) (sC.hi (by omega) (by decide) (sC.m (by decide) sC.rf)))))))))) hI.hs
  have k_ps : xPs (z_ns s (2, 0) 3) N2 (fun k => if k = (N 39 10) then (s.1.1 : Int) else fa k) sa := by
    refine ⟨fun i h0 h1 => ?_, by rw [r5, g2]; exact hI.ps.2⟩
    rw [g2] at h1
    by_cases hi : i = w
    · obtain ⟨-, -, p5, p0, p1, p2, p3, p4, p5f, p6, p7, p8, p9⟩ := hp
      refine ⟨a, p88, hs.A pA, ?_⟩
      have ra : ∀ x0 : Int, x0 ≠ 8 → N2 a x0 = N a x0 := fun x0 hx => by rw [e]; exact ((mup_cell (by omega)).trans ((mup_cell (by omega)).trans ((mup_cell (by omega)).trans ((mup_cell (by omega)).trans ((mup_slot (by omega)).trans ((mup_cell (by omega)).trans ((mup_cell (by omega)).trans ((mup_cell (by omega)).trans (mup_cell (by omega))))))))))
      have ra8 : N2 a 8 = (s.1.1 : Int) := by rw [e]; exact ((mup_cell (by omega)).trans ((mup_cell (by omega)).trans ((mup_cell (by omega)).trans ((mup_cell (by omega)).trans (mup_self _ _ _ _)))))
      rw [hi, ra 0 (by decide), ra 1 (by decide), ra 2 (by decide), ra 3 (by decide), ra 4 (by decide), ra 5 (by decide), ra 6 (by decide), ra 7 (by decide), ra8, ra 9 (by decide), r5, r41, r42, r43, r44, r45, r46, r47, r73, g49, lF, lS, if_pos rfl, orZ_p (by omega)]
      exact ⟨p5, p0, p1, p2, p3, p4, p5f, p6, p7, (if_pos rfl).symm, p9⟩
    · obtain ⟨a2, ha2⟩ := hI.ps.1 i h0 h1
      have hne : a2 ≠ a := fun q => hi (hI.ps.2 i w h0 h1 (by omega) (by omega) (by rw [ha2.2.2.1, hp.2.2.1, q]))
      have hlt := ha2.2.1.2.1
      have h88 := ha2.1
      have hrow : N2 a2 = N a2 := by
        funext x0
        rw [e]
        exact ((mup_cell (by omega)).trans ((mup_cell (by omega)).trans ((mup_cell (by omega)).trans ((mup_cell (by omega)).trans ((mup_cell (by omega)).trans ((mup_cell (by omega)).trans ((mup_cell (by omega)).trans ((mup_cell (by omega)).trans (mup_cell (by omega))))))))))
      have hlb2 := lastF_b N i
      exact ⟨a2, xPer_p hs hrow (by rw [r5]) (by rw [r41]) (by rw [r42]) (by rw [r43]) (by rw [r44]) (by rw [r45]) (by rw [r46]) (by rw [r47]) (by rw [r73]) g49 (by rw [lF, if_neg hi, orZ_if (by omega)]) (by rw [lS]) ha2⟩
  have k_fs : xFs (z_ns s (2, 0) 3) N2 (fun k => if k = (N 39 10) then (s.1.1 : Int) else fa k) := by
    have old : ∀ k : Int, 0 ≤ k → k < (N 39 10) → ∃ b, xFlt s N fa k b ∧ xFlt (z_ns s (2, 0) 3) N2 (fun k => if k = (N 39 10) then (s.1.1 : Int) else fa k) k b := by
      intro k h0 h1
      obtain ⟨b, hb⟩ := hI.fs.1 k h0 h1
      have hlt := hb.2.1.2.1
      have h88 := hb.1
      have hne : b ≠ a := fun q => by
        have h1 := hb.2.1.2.2
        rw [q, pA.2.2] at h1
        cases h1
      have hrow : N2 b = N b := by
        funext x0
        rw [e]
        exact ((mup_cell (by omega)).trans ((mup_cell (by omega)).trans ((mup_cell (by omega)).trans ((mup_cell (by omega)).trans ((mup_cell (by omega)).trans ((mup_cell (by omega)).trans ((mup_cell (by omega)).trans ((mup_cell (by omega)).trans (mup_cell (by omega))))))))))
      have hfp := fpv_p (N := N) h0
      exact ⟨b, hb, xFlt_p hs hrow (if_neg (by omega)) (u49 k (by omega)) (u50 k (by omega)) (by rw [fpv_add u48 h0 h1, orZ_if (by omega)]) hb⟩
    refine ⟨fun k h0 h1 => ?_, fun i i2 h0 h1 h2 h3 h4 => ?_⟩
    · rw [g10] at h1
      by_cases hk : k = (N 39 10)
      · refine ⟨s.1.1, by omega, zA_new (by omega), ?_⟩
        rw [hk, q0, q1, q2, w49, w50, fpv_new u48 w48, orZ_if (by omega)]
        exact ⟨if_pos rfl, rfl, hp.2.2.2.2.2.2.2.2.2.2.2.1, Or.inl ⟨rfl, rfl⟩⟩
      · obtain ⟨b, -, hb⟩ := old k h0 (by omega)
        exact ⟨b, hb⟩
    · rw [g10] at h1 h3
      have h4 : (if i = (N 39 10) then (s.1.1 : Int) else fa i) = (if i2 = (N 39 10) then (s.1.1 : Int) else fa i2) := h4
      by_cases hi : i = (N 39 10)
      · by_cases hj : i2 = (N 39 10)
        · omega
        · obtain ⟨b, hb, -⟩ := old i2 h2 (by omega)
          rw [if_pos hi, if_neg hj, hb.2.2.1] at h4
          have := hb.2.1.2.1
          omega
      · by_cases hj : i2 = (N 39 10)
        · obtain ⟨b, hb, -⟩ := old i h0 (by omega)
          rw [if_neg hi, if_pos hj, hb.2.2.1] at h4
          have := hb.2.1.2.1
          omega
        · rw [if_neg hi, if_neg hj] at h4
          exact hI.fs.2 i i2 h0 (by omega) h2 (by omega) h4
  have k_ss : xSs (z_ns s (2, 0) 3) N2 sa := xSs_k hs (show s8 s N N2 8 by rw [e]; exact (s8.lo (by decide) (s8.lo (by decide) (s8.lo (by decide) (s8.lo (by decide) (s8.sh pA (by decide) (s8.nw (by omega) (s8.nw (by omega) (s8.nw (by omega) (s8.lo (by decide) s8.rf)))))))))) (show sC N N2 [59, 60, 61, 62] by rw [e]; exact (sC.m (by decide) (sC.m (by decide) (sC.m (by decide) (sC.m (by decide) (sC.hi (by omega) (by decide) (sC.hi (by omega) (by decide) (sC.hi (by omega) (by decide) (sC.hi (by omega) (by decide) (sC.m (by decide) sC.rf)))))))))) g31 hI.ss
  have k_ys : xYs (z_ns s (2, 0) 3) N2 := xYs_k hs (show s8 s N N2 9 by rw [e]; exact (s8.lo (by decide) (s8.lo (by decide) (s8.lo (by decide) (s8.lo (by decide) (s8.sh pA (by decide) (s8.nw (by omega) (s8.nw (by omega) (s8.nw (by omega) (s8.lo (by decide) s8.rf)))))))))) (show sC N N2 [10, 63, 64, 65, 66] by rw [e]; exact (sC.m (by decide) (sC.m (by decide) (sC.m (by decide) (sC.m (by decide) (sC.hi (by omega) (by decide) (sC.hi (by omega) (by decide) (sC.hi (by omega) (by decide) (sC.hi (by omega) (by decide) (sC.m (by decide) sC.rf)))))))))) g36 hI.ys
  have k_ls : xLs (z_ns s (2, 0) 3) N2 (fun k => if k = (N 39 10) then (s.1.1 : Int) else fa k) := by
    exact xLs_f hs (show s8 s N N2 5 by rw [e]; exact (s8.lo (by decide) (s8.lo (by decide) (s8.lo (by decide) (s8.lo (by decide) (s8.sh pA (by decide) (s8.nw (by omega) (s8.nw (by omega) (s8.nw (by omega) (s8.lo (by decide) s8.rf)))))))))) (show s8 s N N2 20 by rw [e]; exact (s8.lo (by decide) (s8.lo (by decide) (s8.lo (by decide) (s8.lo (by decide) (s8.sh pA (by decide) (s8.nw (by omega) (s8.nw (by omega) (s8.nw (by omega) (s8.lo (by decide) s8.rf)))))))))) (show s8 s N N2 21 by rw [e]; exact (s8.lo (by decide) (s8.lo (by decide) (s8.lo (by decide) (s8.lo (by decide) (s8.sh pA (by decide) (s8.nw (by omega) (s8.nw (by omega) (s8.nw (by omega) (s8.lo (by decide) s8.rf)))))))))) (show sC N N2 [11, 74, 75, 76, 77, 78, 79, 80] by rw [e]; exact (sC.m (by decide) (sC.m (by decide) (sC.m (by decide) (sC.m (by decide) (sC.hi (by omega) (by decide) (sC.hi (by omega) (by decide) (sC.hi (by omega) (by decide) (sC.hi (by omega) (by decide) (sC.m (by decide) sC.rf)))))))))) g50 hm.2.2.2.2.2.2 (fun k h0 h1 => u48 k (by omega)) (fun k h0 h1 => if_neg (by omega)) hI.ls
  have k_law : xLaw N2 := xLaw_k (show sC N N2 [14, 15, 16, 17, 18, 19, 52, 53] by rw [e]; exact (sC.m (by decide) (sC.m (by decide) (sC.m (by decide) (sC.m (by decide) (sC.hi (by omega) (by decide) (sC.hi (by omega) (by decide) (sC.hi (by omega) (by decide) (sC.hi (by omega) (by decide) (sC.m (by decide) sC.rf)))))))))) ((show s3 N N2 [13] by rw [e]; exact (s3.m (by omega) (s3.m (by omega) (s3.m (by omega) (s3.m (by omega) (s3.m (by omega) (s3.m (by omega) (s3.m (by omega) (s3.m (by omega) (s3.o (by decide) s3.rf)))))))))) 13 (by simp)) ((show s3 N N2 [14] by rw [e]; exact (s3.m (by omega) (s3.m (by omega) (s3.m (by omega) (s3.m (by omega) (s3.m (by omega) (s3.m (by omega) (s3.m (by omega) (s3.m (by omega) (s3.o (by decide) s3.rf)))))))))) 14 (by simp)) g18 hI.law
  have k_sh : xSh N2 := xSh_k (show sC N N2 [20, 31, 32, 33, 34, 35, 36, 37, 38, 82, 83, 84] by rw [e]; exact (sC.m (by decide) (sC.m (by decide) (sC.m (by decide) (sC.m (by decide) (sC.hi (by omega) (by decide) (sC.hi (by omega) (by decide) (sC.hi (by omega) (by decide) (sC.hi (by omega) (by decide) (sC.m (by decide) sC.rf)))))))))) hI.sh
  have k_ro : xRo N2 := xRo_k (show sC N N2 [21, 22, 23, 24, 85, 86, 87] by rw [e]; exact (sC.m (by decide) (sC.m (by decide) (sC.m (by decide) (sC.m (by decide) (sC.hi (by omega) (by decide) (sC.hi (by omega) (by decide) (sC.hi (by omega) (by decide) (sC.hi (by omega) (by decide) (sC.m (by decide) sC.rf)))))))))) g63 hI.ro
  have k_kp : yKp N2 := by
    have t19 : N2 3 19 = N 3 19 + 1 := by rw [e]; exact ((mup_cell (by omega)).trans ((mup_cell (by omega)).trans ((mup_cell (by omega)).trans ((mup_cell (by omega)).trans ((mup_cell (by omega)).trans ((mup_cell (by omega)).trans ((mup_cell (by omega)).trans ((mup_cell (by omega)).trans (mup_self _ _ _ _)))))))))
    show N2 3 19 = N2 39 10 + N2 39 31
    omega
  have k_ow : yOw N2 := yOw_k (show sC N N2 [76, 77, 80] by rw [e]; exact (sC.m (by decide) (sC.m (by decide) (sC.m (by decide) (sC.m (by decide) (sC.hi (by omega) (by decide) (sC.hi (by omega) (by decide) (sC.hi (by omega) (by decide) (sC.hi (by omega) (by decide) (sC.m (by decide) sC.rf)))))))))) (show s9 N N2 [50] by rw [e]; exact (s9.o (by decide) (s9.m (by omega) (s9.m (by omega) (s9.m (by omega) (s9.m (by omega) (s9.m (by omega) (s9.m (by omega) (s9.m (by omega) (s9.m (by omega) s9.rf)))))))))) hy.2.1
  have k_tp : yTp N2 := yTp_k (show sC N N2 [51] by rw [e]; exact (sC.m (by decide) (sC.m (by decide) (sC.m (by decide) (sC.m (by decide) (sC.hi (by omega) (by decide) (sC.hi (by omega) (by decide) (sC.hi (by omega) (by decide) (sC.hi (by omega) (by decide) (sC.m (by decide) sC.rf)))))))))) (show s9 N N2 [15] by rw [e]; exact (s9.o (by decide) (s9.m (by omega) (s9.m (by omega) (s9.m (by omega) (s9.m (by omega) (s9.m (by omega) (s9.m (by omega) (s9.m (by omega) (s9.m (by omega) s9.rf)))))))))) hy.2.2.1
  have k_yro : yRo N2 := yRo_k (show sC N N2 [85, 86] by rw [e]; exact (sC.m (by decide) (sC.m (by decide) (sC.m (by decide) (sC.m (by decide) (sC.hi (by omega) (by decide) (sC.hi (by omega) (by decide) (sC.hi (by omega) (by decide) (sC.hi (by omega) (by decide) (sC.m (by decide) sC.rf)))))))))) hy.2.2.2.1
  have k_ln : yLn N2 := yLn_k (show sC N N2 [40, 58] by rw [e]; exact (sC.m (by decide) (sC.m (by decide) (sC.m (by decide) (sC.m (by decide) (sC.hi (by omega) (by decide) (sC.hi (by omega) (by decide) (sC.hi (by omega) (by decide) (sC.hi (by omega) (by decide) (sC.m (by decide) sC.rf)))))))))) (show s9 N N2 [0, 29] by rw [e]; exact (s9.o (by decide) (s9.m (by omega) (s9.m (by omega) (s9.m (by omega) (s9.m (by omega) (s9.m (by omega) (s9.m (by omega) (s9.m (by omega) (s9.m (by omega) s9.rf)))))))))) hy.2.2.2.2.1
  have k_cm : yCm N2 := yCm_k (show sC N N2 [73] by rw [e]; exact (sC.m (by decide) (sC.m (by decide) (sC.m (by decide) (sC.m (by decide) (sC.hi (by omega) (by decide) (sC.hi (by omega) (by decide) (sC.hi (by omega) (by decide) (sC.hi (by omega) (by decide) (sC.m (by decide) sC.rf)))))))))) (show s9 N N2 [2, 49] by rw [e]; exact (s9.o (by decide) (s9.m (by omega) (s9.m (by omega) (s9.m (by omega) (s9.m (by omega) (s9.m (by omega) (s9.m (by omega) (s9.m (by omega) (s9.m (by omega) s9.rf)))))))))) hy.2.2.2.2.2.1
  have k_bf : yBf N2 := by
    intro k h0 h1
    rw [g10] at h1
    by_cases hk : k = (N 39 10)
    · rw [hk, w48, w49, r42]
      exact hc1.2.2.1
    · rw [u48 k hk, u49 k hk, r42]
      exact hy.2.2.2.2.2.2 k h0 (by omega)
  have k_bud : bud N2 ≤ bud N + 1 := by
    have eb : (fun i : Nat => ¬ boundS N2 i 9999) = (fun i : Nat => ¬ boundS N i 9999) := by
      funext i
      rw [boundS_k (show sC N N2 [59, 62] by rw [e]; exact (sC.m (by decide) (sC.m (by decide) (sC.m (by decide) (sC.m (by decide) (sC.hi (by omega) (by decide) (sC.hi (by omega) (by decide) (sC.hi (by omega) (by decide) (sC.hi (by omega) (by decide) (sC.m (by decide) sC.rf)))))))))) (show s9 N N2 [31] by rw [e]; exact (s9.o (by decide) (s9.m (by omega) (s9.m (by omega) (s9.m (by omega) (s9.m (by omega) (s9.m (by omega) (s9.m (by omega) (s9.m (by omega) (s9.m (by omega) s9.rf))))))))))]
    unfold bud
    rw [eb, g2, g10, g31]
    omega
  exact ⟨⟨hB.k hs, hG, ⟨hG.1, kCnt, k_ppl, k_flt, k_spl, k_sty, k_ple⟩, k_ord, k_hs, k_ps, k_fs, k_ss, k_ys, k_ls, k_law, k_sh, k_ro⟩, ⟨k_kp, k_ow, k_tp, k_yro, k_ln, k_cm, k_bf⟩, k_bud⟩
set_option maxRecDepth 20000 in
set_option maxHeartbeats 2000000 in
theorem j_flees (hJ : xJ s N c) (hc : c < 512) {w d : Int} (hw : zr w) (hd : zr d) (h : jK X c m_X12_flees [.ref 39, vi w, vi d] K) : zC X m_X11_flees [.ref 3, vi w, vi d] (zI s N) K := by
  obtain ⟨fa, sa, hI, hy, hbud, hsz⟩ := id hJ
  have hk := bud_r hI hbud hc
  have hC := hI.C
  unfold mCnt at hC
  have n88 := hI.B.1
  have hR := hI.R
  have hkp : N 3 19 = N 39 10 + N 39 31 := hy.1
  have hadr := hsz.adr hc
  refine x_flees hI hw hd (by omega) (fun g1 => ?_) (fun g1 g2 => ?_) (fun a g1 g2 hp => ?_)
  · exact h _ _ _ (by first | exact hI.B | exact hI.B.k sK.ns | exact hI.B.k (sK.ns.trans (sK.ns.trans sK.ns))) (fun Q hq => k_flees hI.B hI.m hw hd (by omega) (fun _ => hq _ _ hJ.up) (fun q => absurd q g1) (fun q => absurd q g1))
  · exact h _ _ _ (by first | exact hI.B | exact hI.B.k sK.ns | exact hI.B.k (sK.ns.trans (sK.ns.trans sK.ns))) (fun Q hq => k_flees hI.B hI.m hw hd (by omega) (fun q => absurd g1 q) (fun _ _ => hq _ _ hJ.up) (fun _ q => absurd q g2))
  · refine h _ _ _ (by first | exact hI.B | exact hI.B.k sK.ns | exact hI.B.k (sK.ns.trans (sK.ns.trans sK.ns))) (fun Q hq => ?_)
    have p88 := hp.1
    have pA := hp.2.1
    have hlt := pA.2.1
    have hE : eM N (xn_flees N a s.1.1 d) := (eM.m (by omega) (eM.m (by omega) (eM.m (by omega) (eM.m (by omega) (eM.m (by omega) eM.rf)))))
    have hm1 : mI (xn_flees N a s.1.1 d) := hE.mI_ (zG_mup (zG_mup (zG_mup (zG_mup (zG_mup (zG_ns (sp := (2, 0)) (sl := 3) hI.2.1) (by show _ < s.1.1 + 1; omega) (by constructor <;> omega)) (by show _ < s.1.1 + 1; omega) (by constructor <;> omega)) (by show _ < s.1.1 + 1; omega) (by constructor <;> omega)) (by show _ < s.1.1 + 1; omega) (hR _ _)) (by show _ < s.1.1 + 1; omega) hadr).1 hI.m
    have c0 := hE.at 39 (by decide) (by decide) 10
    refine k_flees (hI.B.k (sK.ns (sp := (2, 0)) (sl := 3))) hm1 hw hd (by omega) ?_ ?_ ?_
    all_goals
      rw [hE.at 39 (by decide) (by decide) 2]
      try rw [hE.at 47 (by decide) (by decide), hE.away_, hE.behind_]
    · exact fun q => absurd g1 q
    · exact fun _ q => absurd g2 q
    · intro _ _
      obtain ⟨x1, x2, x3⟩ := jx_flees hI hy g1 g2 p88 pA hp (by omega) (by omega) hadr (N2 := n_flees (xn_flees N a s.1.1 d) w d) (by unfold n_flees; rw [c0]; rfl)
      exact hq _ _ ⟨_, sa, x1, x2, by omega, hsz.n1 (by decide)⟩
set_option maxRecDepth 20000 in
set_option maxHeartbeats 2000000 in
theorem jx_back (hI : xI s N fa sa) (hy : yI N) {w d : Int} {b : Nat} (hg : ((0 ≤ w ∧ w < N 39 2) ∧ (0 ≤ d ∧ d ≤ 9999))) (hc1 : N 47 w = 100000 ∧ away N w ∧ behind N w d) (b88 : 88 ≤ b) (bA : zA s b (2, 0)) (hb : xFlt s N fa (lastF N w) b) {N2 : zN} (e : N2 = (mup (mup N b 2 d) 50 (lastF N w) d)) : xI s N2 fa sa ∧ yI N2 ∧ bud N2 ≤ bud N + 1 := by
  have hB := hI.B
  have hR := hI.R
  have hC := hI.C
  unfold mCnt at hC
  have hm := hI.m
  have n88 := hB.1
  obtain ⟨e1, e5, e7, e8, e10, e11, e3, e12, eh, eg, ef, et⟩ := hI.hs
  have hlt_bA := bA.2.1
  have hs : sK s s := sK.rf
  have hG : zG s N2 := by rw [e]; exact (zG_mup (zG_mup hI.2.1 (by omega) (by constructor <;> omega)) (by omega) (by constructor <;> omega))
  have g0 : N2 39 0 = N 39 0 := by rw [e]; exact ((mup_cell (by omega)).trans (mup_cell (by omega)))
  have g2 : N2 39 2 = N 39 2 := by rw [e]; exact ((mup_cell (by omega)).trans (mup_cell (by omega)))
  have g10 : N2 39 10 = N 39 10 := by rw [e]; exact ((mup_cell (by omega)).trans (mup_cell (by omega)))
  have g15 : N2 39 15 = N 39 15 := by rw [e]; exact ((mup_cell (by omega)).trans (mup_cell (by omega)))
  have g18 : N2 39 18 = N 39 18 := by rw [e]; exact ((mup_cell (by omega)).trans (mup_cell (by omega)))
  have g26 : N2 39 26 = N 39 26 := by rw [e]; exact ((mup_cell (by omega)).trans (mup_cell (by omega)))
  have g29 : N2 39 29 = N 39 29 := by rw [e]; exact ((mup_cell (by omega)).trans (mup_cell (by omega)))
  have g31 : N2 39 31 = N 39 31 := by rw [e]; exact ((mup_cell (by omega)).trans (mup_cell (by omega)))
  have g36 : N2 39 36 = N 39 36 := by rw [e]; exact ((mup_cell (by omega)).trans (mup_cell (by omega)))
  have g49 : N2 39 49 = N 39 49 := by rw [e]; exact ((mup_cell (by omega)).trans (mup_cell (by omega)))
  have g50 : N2 39 50 = N 39 50 := by rw [e]; exact ((mup_cell (by omega)).trans (mup_cell (by omega)))
  have g58 : N2 39 58 = N 39 58 := by rw [e]; exact ((mup_cell (by omega)).trans (mup_cell (by omega)))
  have g63 : N2 39 63 = N 39 63 := by rw [e]; exact ((mup_cell (by omega)).trans (mup_cell (by omega)))
  have u50 : ∀ i : Int, i ≠ (lastF N w) → N2 50 i = N 50 i := fun i hi => by rw [e]; exact ((mup_slot (by omega)).trans (mup_cell (by omega)))
  have w50 : N2 50 (lastF N w) = d := by rw [e]; exact (mup_self _ _ _ _)
  have r48 : N2 48 = N 48 := (show sC N N2 [48] by rw [e]; exact (sC.m (by decide) (sC.hi (by omega) (by decide) sC.rf))) 48 (by simp)
  have r49 : N2 49 = N 49 := (show sC N N2 [49] by rw [e]; exact (sC.m (by decide) (sC.hi (by omega) (by decide) sC.rf))) 49 (by simp)
  have hlb := lastF_b N w
  have hl := hc1.2.1.1
  have hlp := lastF_p hl
  have h49 := behind_a hc1.2.2 hl hc1.2.1.2
  have kCnt : mCnt N2 := by unfold mCnt; omega
  have k_ord : mOrd N2 := by
    refine ⟨fun j k h0 h1 h2 h3 => ?_, ?_⟩
    · rw [g10] at h2
      rw [r48] at h3
      rw [r49]
      by_cases hj : j = (lastF N w)
      · exact absurd (h3.symm.trans (by rw [hj]; exact hlp.1)) (hlp.2 k (by omega) h2)
      · rw [u50 j hj]
        exact hI.ord.1 j k h0 h1 h2 h3
    · rw [g31, show N2 59 = N 59 from (show sC N N2 [59] by rw [e]; exact (sC.m (by decide) (sC.hi (by omega) (by decide) sC.rf))) 59 (by simp), show N2 61 = N 61 from (show sC N N2 [61] by rw [e]; exact (sC.m (by decide) (sC.hi (by omega) (by decide) sC.rf))) 61 (by simp), show N2 62 = N 62 from (show sC N N2 [62] by rw [e]; exact (sC.m (by decide) (sC.hi (by omega) (by decide) sC.rf))) 62 (by simp)]
      exact hI.ord.2
  have k_ppl : mPpl N2 := mPpl_k (show sC N N2 [41, 42, 43, 44, 45, 46, 47] by rw [e]; exact (sC.m (by decide) (sC.hi (by omega) (by decide) sC.rf))) g2 (by omega) hm.2.2.1
  have k_flt : mFlt N2 := by
    intro k h0 h1
    rw [g10] at h1
    have hk2 := hm.2.2.2.1 k h0 h1
    by_cases hk : k = (lastF N w)
    · rw [hk] at hk2
      rw [hk, r48, r49, w50, g2]
      omega
    · rw [r48, r49, u50 k hk, g2]
      exact hk2
  have k_spl : mSpl N2 := mSpl_k (show sC N N2 [59, 60, 61, 62] by rw [e]; exact (sC.m (by decide) (sC.hi (by omega) (by decide) sC.rf))) g31 (by omega) (by omega) hm.2.2.2.2.1
  have k_sty : mSty N2 := mSty_k (show sC N N2 [63, 64, 65, 66] by rw [e]; exact (sC.m (by decide) (sC.hi (by omega) (by decide) sC.rf))) g36 (by omega) (by omega) hm.2.2.2.2.2.1
  have k_ple : mPle N2 := mPle_k (show sC N N2 [74, 75, 76, 77, 78] by rw [e]; exact (sC.m (by decide) (sC.hi (by omega) (by decide) sC.rf))) g50 (by omega) (by omega) hm.2.2.2.2.2.2
  have k_hs : xHs N2 := xHs_k (show s3 N N2 [1, 3, 5, 8, 10, 11] by rw [e]; exact (s3.m (by omega) (s3.m (by omega) s3.rf))) (show s9 N N2 [0, 2, 15, 26, 29, 36, 50, 58] by rw [e]; exact (s9.m (by omega) (s9.m (by omega) s9.rf))) (show sC N N2 [4, 6, 7, 8, 9, 12, 13, 40, 51, 56, 57, 58] by rw [e]; exact (sC.m (by decide) (sC.hi (by omega) (by decide) sC.rf))) hI.hs
  have k_ps : xPs s N2 fa sa := xPs_k hs (show s8 s N N2 4 by rw [e]; exact (s8.lo (by decide) (s8.sh bA (by decide) s8.rf))) ((show sC N N2 [5] by rw [e]; exact (sC.m (by decide) (sC.hi (by omega) (by decide) sC.rf))) 5 (by simp)) (show sC N N2 [41, 42, 43, 44, 45, 46, 47, 48, 59, 73] by rw [e]; exact (sC.m (by decide) (sC.hi (by omega) (by decide) sC.rf))) (show s9 N N2 [2, 10, 31, 49] by rw [e]; exact (s9.m (by omega) (s9.m (by omega) s9.rf))) hI.ps
  have k_fs : xFs s N2 fa := by
    refine ⟨fun k h0 h1 => ?_, by rw [g10]; exact hI.fs.2⟩
    rw [g10] at h1
    obtain ⟨b2, hb2⟩ := hI.fs.1 k h0 h1
    have efp : fpv N2 k = fpv N k := by unfold fpv; rw [r48]
    by_cases hk : k = (lastF N w)
    · obtain ⟨-, -, bf, b0, b1, -⟩ := hb
      refine ⟨b, b88, bA, ?_⟩
      have rb : ∀ x0 : Int, x0 ≠ 2 → N2 b x0 = N b x0 := fun x0 hx => by rw [e]; exact ((mup_cell (by omega)).trans (mup_slot (by omega)))
      have rb2 : N2 b 2 = d := by rw [e]; exact ((mup_cell (by omega)).trans (mup_self _ _ _ _))
      rw [efp, hk, rb 0 (by decide), rb 1 (by decide), rb2, w50, r49]
      exact ⟨bf, b0, b1, Or.inr ⟨by omega, rfl⟩⟩
    · have hne : b2 ≠ b := fun q => hk (hI.fs.2 k (lastF N w) h0 h1 hl (by omega) (by rw [hb2.2.2.1, hb.2.2.1, q]))
      have h88 := hb2.1
      have hrow : N2 b2 = N b2 := by
        funext x0
        rw [e]
        exact ((mup_cell (by omega)).trans (mup_cell (by omega)))
      exact ⟨b2, xFlt_p hs hrow rfl (by rw [r49]) (u50 k hk) (by rw [efp]) hb2⟩
  have k_ss : xSs s N2 sa := xSs_k hs (show s8 s N N2 8 by rw [e]; exact (s8.lo (by decide) (s8.sh bA (by decide) s8.rf))) (show sC N N2 [59, 60, 61, 62] by rw [e]; exact (sC.m (by decide) (sC.hi (by omega) (by decide) sC.rf))) g31 hI.ss
  have k_ys : xYs s N2 := xYs_k hs (show s8 s N N2 9 by rw [e]; exact (s8.lo (by decide) (s8.sh bA (by decide) s8.rf))) (show sC N N2 [10, 63, 64, 65, 66] by rw [e]; exact (sC.m (by decide) (sC.hi (by omega) (by decide) sC.rf))) g36 hI.ys
  have k_ls : xLs s N2 fa := xLs_k hs (show s8 s N N2 5 by rw [e]; exact (s8.lo (by decide) (s8.sh bA (by decide) s8.rf))) (show s8 s N N2 20 by rw [e]; exact (s8.lo (by decide) (s8.sh bA (by decide) s8.rf))) (show s8 s N N2 21 by rw [e]; exact (s8.lo (by decide) (s8.sh bA (by decide) s8.rf))) (show sC N N2 [11, 48, 74, 75, 76, 77, 78, 79, 80] by rw [e]; exact (sC.m (by decide) (sC.hi (by omega) (by decide) sC.rf))) g50 hI.ls
  have k_law : xLaw N2 := xLaw_k (show sC N N2 [14, 15, 16, 17, 18, 19, 52, 53] by rw [e]; exact (sC.m (by decide) (sC.hi (by omega) (by decide) sC.rf))) ((show s3 N N2 [13] by rw [e]; exact (s3.m (by omega) (s3.m (by omega) s3.rf))) 13 (by simp)) ((show s3 N N2 [14] by rw [e]; exact (s3.m (by omega) (s3.m (by omega) s3.rf))) 14 (by simp)) g18 hI.law
  have k_sh : xSh N2 := xSh_k (show sC N N2 [20, 31, 32, 33, 34, 35, 36, 37, 38, 82, 83, 84] by rw [e]; exact (sC.m (by decide) (sC.hi (by omega) (by decide) sC.rf))) hI.sh
  have k_ro : xRo N2 := xRo_k (show sC N N2 [21, 22, 23, 24, 85, 86, 87] by rw [e]; exact (sC.m (by decide) (sC.hi (by omega) (by decide) sC.rf))) g63 hI.ro
  have k_kp : yKp N2 := yKp_k (show s3 N N2 [19] by rw [e]; exact (s3.m (by omega) (s3.m (by omega) s3.rf))) (show s9 N N2 [10, 31] by rw [e]; exact (s9.m (by omega) (s9.m (by omega) s9.rf))) hy.1
  have k_ow : yOw N2 := yOw_k (show sC N N2 [76, 77, 80] by rw [e]; exact (sC.m (by decide) (sC.hi (by omega) (by decide) sC.rf))) (show s9 N N2 [50] by rw [e]; exact (s9.m (by omega) (s9.m (by omega) s9.rf))) hy.2.1
  have k_tp : yTp N2 := yTp_k (show sC N N2 [51] by rw [e]; exact (sC.m (by decide) (sC.hi (by omega) (by decide) sC.rf))) (show s9 N N2 [15] by rw [e]; exact (s9.m (by omega) (s9.m (by omega) s9.rf))) hy.2.2.1
  have k_yro : yRo N2 := yRo_k (show sC N N2 [85, 86] by rw [e]; exact (sC.m (by decide) (sC.hi (by omega) (by decide) sC.rf))) hy.2.2.2.1
  have k_ln : yLn N2 := yLn_k (show sC N N2 [40, 58] by rw [e]; exact (sC.m (by decide) (sC.hi (by omega) (by decide) sC.rf))) (show s9 N N2 [0, 29] by rw [e]; exact (s9.m (by omega) (s9.m (by omega) s9.rf))) hy.2.2.2.2.1
  have k_cm : yCm N2 := yCm_k (show sC N N2 [73] by rw [e]; exact (sC.m (by decide) (sC.hi (by omega) (by decide) sC.rf))) (show s9 N N2 [2, 49] by rw [e]; exact (s9.m (by omega) (s9.m (by omega) s9.rf))) hy.2.2.2.2.2.1
  have k_bf : yBf N2 := yBf_k (show sC N N2 [42, 48, 49] by rw [e]; exact (sC.m (by decide) (sC.hi (by omega) (by decide) sC.rf))) (show s9 N N2 [10] by rw [e]; exact (s9.m (by omega) (s9.m (by omega) s9.rf))) hy.2.2.2.2.2.2
  have k_bud : bud N2 ≤ bud N + 1 := by have := bud_k (show sC N N2 [59, 62] by rw [e]; exact (sC.m (by decide) (sC.hi (by omega) (by decide) sC.rf))) (show s9 N N2 [2, 10, 31] by rw [e]; exact (s9.m (by omega) (s9.m (by omega) s9.rf))); omega
  exact ⟨⟨hB.k hs, hG, ⟨hG.1, kCnt, k_ppl, k_flt, k_spl, k_sty, k_ple⟩, k_ord, k_hs, k_ps, k_fs, k_ss, k_ys, k_ls, k_law, k_sh, k_ro⟩, ⟨k_kp, k_ow, k_tp, k_yro, k_ln, k_cm, k_bf⟩, k_bud⟩
set_option maxRecDepth 20000 in
set_option maxHeartbeats 2000000 in
theorem j_back (hJ : xJ s N c) (hc : c < 512) {w d : Int} (hw : zr w) (hd : zr d) (h : jK X c m_X12_back [.ref 39, vi w, vi d] K) : zC X m_X11_back [.ref 3, vi w, vi d] (zI s N) K := by
  obtain ⟨fa, sa, hI, hy, hbud, hsz⟩ := id hJ
  have hk := bud_r hI hbud hc
  have hC := hI.C
  unfold mCnt at hC
  have n88 := hI.B.1
  have hR := hI.R
  have hkp : N 3 19 = N 39 10 + N 39 31 := hy.1
  refine x_back hI hy.2.2.2.2.2.2 hw hd (fun g1 => ?_) (fun g1 g2 => ?_) (fun b g1 g2 hb => ?_)
  · exact h _ _ _ (by first | exact hI.B | exact hI.B.k sK.ns | exact hI.B.k (sK.ns.trans (sK.ns.trans sK.ns))) (fun Q hq => k_back hI.B hI.m hw hd (fun _ => hq _ _ hJ.up) (fun q => absurd q g1) (fun q => absurd q g1))
  · exact h _ _ _ (by first | exact hI.B | exact hI.B.k sK.ns | exact hI.B.k (sK.ns.trans (sK.ns.trans sK.ns))) (fun Q hq => k_back hI.B hI.m hw hd (fun q => absurd g1 q) (fun _ _ => hq _ _ hJ.up) (fun _ q => absurd q g2))
  · refine h _ _ _ (by first | exact hI.B | exact hI.B.k sK.ns | exact hI.B.k (sK.ns.trans (sK.ns.trans sK.ns))) (fun Q hq => ?_)
    have b88 := hb.1
    have bA := hb.2.1
    have hlt := bA.2.1
    have hE : eM N (mup N b 2 d) := (eM.m (by omega) eM.rf)
    have hm1 : mI (mup N b 2 d) := hE.mI_ (zG_mup (s := s) hI.2.1 (by omega) (by constructor <;> omega)).1 hI.m
    refine k_back hI.B hm1 hw hd ?_ ?_ ?_
    all_goals
      rw [hE.at 39 (by decide) (by decide) 2]
      try rw [hE.at 47 (by decide) (by decide), hE.away_, hE.behind_]
    · exact fun q => absurd g1 q
    · exact fun _ q => absurd g2 q
    · intro _ _
      rw [hE.lastF_, hE.at 49 (by decide) (by decide)]
      obtain ⟨x1, x2, x3⟩ := jx_back hI hy g1 g2 b88 bA hb (N2 := mup (mup N b 2 d) 50 (lastF N w) d) rfl
      exact hq _ _ ⟨fa, sa, x1, x2, by omega, hsz.n0⟩
end JN4
