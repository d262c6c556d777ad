/-! BOTH TOGETHER: joins, leaves (printed by wip/whole/gen/j5.py) -/
section JN5
variable {X : zX} {s : zK} {N : zN} {fa sa : Int → Int} {Q K : Option Value → zS → Prop} {c : Int}
/-- one more spell, of one who is not bound -/
theorem spA_add {N' : zN} {w d : Int} (h59 : ∀ k : Int, k ≠ N 39 31 → N' 59 k = N 59 k) (h61 : ∀ k : Int, k ≠ N 39 31 → N' 61 k = N 61 k) (h62 : ∀ k : Int, k ≠ N 39 31 → N' 62 k = N 62 k) (hw : N' 59 (N 39 31) = w) (h31 : N' 39 31 = N 39 31 + 1) (h0 : 0 ≤ N 39 31) (hc : sC N N' [42, 47, 48, 49, 50]) (h10 : N' 39 10 = N 39 10) {i : Int} (hi : i ≠ w) : spA N' i d = spA N i d := by
  have e1 : tHere N' i d = tHere N i d := by
    unfold tHere
    rw [hc 42 (by decide), hc 47 (by decide), hc 48 (by decide), hc 49 (by decide), hc 50 (by decide), h10]
  unfold spA
  rw [e1]
  by_cases ht : tHere N i d
  · rw [zif_t ht, zif_t ht, h31, show (N 39 31 + 1).toNat = (N 39 31).toNat + 1 by omega]
    have e2 : fstK (fun k => N' 59 k = i ∧ N' 61 k ≤ d ∧ d < N' 62 k) (N 39 31).toNat = fstK (fun k => N 59 k = i ∧ N 61 k ≤ d ∧ d < N 62 k) (N 39 31).toNat := by
      by_cases hn : fstK (fun k => N 59 k = i ∧ N 61 k ≤ d ∧ d < N 62 k) (N 39 31).toNat < 0
      · have h1 := fstK_b (fun k => N 59 k = i ∧ N 61 k ≤ d ∧ d < N 62 k) (N 39 31).toNat
        rw [fstK_none (fun j hj q => fstK_neg hn j hj (by rw [h59 j (by omega), h61 j (by omega), h62 j (by omega)] at q; exact q))]
        omega
      · have h1 := fstK_p (p := fun k => N 59 k = i ∧ N 61 k ≤ d ∧ d < N 62 k) (n := (N 39 31).toNat) (by omega)
        have h2 := fstK_b (fun k => N 59 k = i ∧ N 61 k ≤ d ∧ d < N 62 k) (N 39 31).toNat
        rw [fstK_at (i := (fstK (fun k => N 59 k = i ∧ N 61 k ≤ d ∧ d < N 62 k) (N 39 31).toNat).toNat) (by omega) (fun j hj q => h1.2 j hj (by rw [h59 j (by omega), h61 j (by omega), h62 j (by omega)] at q; exact q)) (by rw [h59 _ (by omega), h61 _ (by omega), h62 _ (by omega)]; exact h1.1)]
        omega
    rw [fstK, e2]
    split
    · rename_i hq
      rw [hq, if_neg]
      rw [bi_f (by rw [z_cast h0, hw]; omega)]
      omega
    · rfl
  · rw [zif_f ht, zif_f ht]
theorem spA_free {w d : Int} (h : ¬ boundS N w d) : spA N w d < 0 := spA_no (fun _ j hj q => h ⟨j, hj, q.1, q.2.2⟩)
set_option maxRecDepth 20000 in
set_option maxHeartbeats 2000000 in
theorem jx_begin (hI : xI s N fa sa) (hy : yI N) {w g d : Int} {a : Nat} (hg : ((0 ≤ w ∧ w < N 39 2) ∧ (0 ≤ g ∧ g < N 39 29) ∧ (0 ≤ d ∧ d ≤ 9999))) (hc1 : ¬ boundS N w d) (p88 : 88 ≤ a) (pA : zA s a (4, 0)) (hp : xPer s N fa sa w a) (hn : N 39 31 < 4000) (hkr : 0 ≤ N 3 19 ∧ N 3 19 < 600) (ha0 : zr ((s.1.1 : Nat) : Int)) {N2 : zN} (e : N2 = (mup (mup (mup (mup (mup (mup (mup (mup (mup (mup (mup N 3 19 (N 3 19 + 1)) s.1.1 3 (-1)) s.1.1 0 g) s.1.1 1 d) s.1.1 2 (N a 9)) a 9 (s.1.1 : Int)) 59 (N 39 31) w) 60 (N 39 31) g) 61 (N 39 31) d) 62 (N 39 31) 100000) 39 31 ((N 39 31) + 1))) : xI (z_ns s (8, 0) 4) N2 fa (fun k => if k = (N 39 31) then (s.1.1 : Int) else sa k) ∧ yI N2 ∧ bud N2 ≤ bud N := by
  have hB := hI.B
  have hR := hI.R
  have hC := hI.C
  unfold mCnt at hC
  have hm := hI.m
  have n88 := hB.1
  obtain ⟨e1, e5, e7, e8, e10, e11, e3, e12, eh, eg, ef, et⟩ := hI.hs
  have hlt_pA := pA.2.1
  have hs : sK s (z_ns s (8, 0) 4) := sK.ns
  have hG : zG (z_ns s (8, 0) 4) N2 := by rw [e]; exact (zG_mup (zG_mup (zG_mup (zG_mup (zG_mup (zG_mup (zG_mup (zG_mup (zG_mup (zG_mup (zG_mup (zG_ns hI.2.1) (by show _ < s.1.1 + 1; omega) (by constructor <;> omega)) (by show _ < s.1.1 + 1; omega) (by constructor <;> omega)) (by show _ < s.1.1 + 1; omega) (by constructor <;> omega)) (by show _ < s.1.1 + 1; omega) (by constructor <;> omega)) (by show _ < s.1.1 + 1; omega) (hR _ _)) (by show _ < s.1.1 + 1; omega) ha0) (by show _ < s.1.1 + 1; omega) (by constructor <;> omega)) (by show _ < s.1.1 + 1; omega) (by constructor <;> omega)) (by show _ < s.1.1 + 1; omega) (by constructor <;> omega)) (by show _ < s.1.1 + 1; omega) (by constructor <;> omega)) (by show _ < s.1.1 + 1; omega) (by constructor <;> omega))
  have g0 : N2 39 0 = N 39 0 := by rw [e]; exact ((mup_slot (by omega)).trans ((mup_cell (by omega)).trans ((mup_cell (by omega)).trans ((mup_cell (by omega)).trans ((mup_cell (by omega)).trans ((mup_cell (by omega)).trans ((mup_cell (by omega)).trans ((mup_cell (by omega)).trans ((mup_cell (by omega)).trans ((mup_cell (by omega)).trans (mup_cell (by omega))))))))))))
  have g2 : N2 39 2 = N 39 2 := by rw [e]; exact ((mup_slot (by omega)).trans ((mup_cell (by omega)).trans ((mup_cell (by omega)).trans ((mup_cell (by omega)).trans ((mup_cell (by omega)).trans ((mup_cell (by omega)).trans ((mup_cell (by omega)).trans ((mup_cell (by omega)).trans ((mup_cell (by omega)).trans ((mup_cell (by omega)).trans (mup_cell (by omega))))))))))))
  have g10 : N2 39 10 = N 39 10 := by rw [e]; exact ((mup_slot (by omega)).trans ((mup_cell (by omega)).trans ((mup_cell (by omega)).trans ((mup_cell (by omega)).trans ((mup_cell (by omega)).trans ((mup_cell (by omega)).trans ((mup_cell (by omega)).trans ((mup_cell (by omega)).trans ((mup_cell (by omega)).trans ((mup_cell (by omega)).trans (mup_cell (by omega))))))))))))
  have g15 : N2 39 15 = N 39 15 := by rw [e]; exact ((mup_slot (by omega)).trans ((mup_cell (by omega)).trans ((mup_cell (by omega)).trans ((mup_cell (by omega)).trans ((mup_cell (by omega)).trans ((mup_cell (by omega)).trans ((mup_cell (by omega)).trans ((mup_cell (by omega)).trans ((mup_cell (by omega)).trans ((mup_cell (by omega)).trans (mup_cell (by omega))))))))))))
  have g18 : N2 39 18 = N 39 18 := by rw [e]; exact ((mup_slot (by omega)).trans ((mup_cell (by omega)).trans ((mup_cell (by omega)).trans ((mup_cell (by omega)).trans ((mup_cell (by omega)).trans ((mup_cell (by omega)).trans ((mup_cell (by omega)).trans ((mup_cell (by omega)).trans ((mup_cell (by omega)).trans ((mup_cell (by omega)).trans (mup_cell (by omega))))))))))))
  have g26 : N2 39 26 = N 39 26 := by rw [e]; exact ((mup_slot (by omega)).trans ((mup_cell (by omega)).trans ((mup_cell (by omega)).trans ((mup_cell (by omega)).trans ((mup_cell (by omega)).trans ((mup_cell (by omega)).trans ((mup_cell (by omega)).trans ((mup_cell (by omega)).trans ((mup_cell (by omega)).trans ((mup_cell (by omega)).trans (mup_cell (by omega))))))))))))
  have g29 : N2 39 29 = N 39 29 := by rw [e]; exact ((mup_slot (by omega)).trans ((mup_cell (by omega)).trans ((mup_cell (by omega)).trans ((mup_cell (by omega)).trans ((mup_cell (by omega)).trans ((mup_cell (by omega)).trans ((mup_cell (by omega)).trans ((mup_cell (by omega)).trans ((mup_cell (by omega)).trans ((mup_cell (by omega)).trans (mup_cell (by omega))))))))))))
  have g31 : N2 39 31 = ((N 39 31) + 1) := by rw [e]; exact (mup_self _ _ _ _)
  have g36 : N2 39 36 = N 39 36 := by rw [e]; exact ((mup_slot (by omega)).trans ((mup_cell (by omega)).trans ((mup_cell (by omega)).trans ((mup_cell (by omega)).trans ((mup_cell (by omega)).trans ((mup_cell (by omega)).trans ((mup_cell (by omega)).trans ((mup_cell (by omega)).trans ((mup_cell (by omega)).trans ((mup_cell (by omega)).trans (mup_cell (by omega))))))))))))
  have g49 : N2 39 49 = N 39 49 := by rw [e]; exact ((mup_slot (by omega)).trans ((mup_cell (by omega)).trans ((mup_cell (by omega)).trans ((mup_cell (by omega)).trans ((mup_cell (by omega)).trans ((mup_cell (by omega)).trans ((mup_cell (by omega)).trans ((mup_cell (by omega)).trans ((mup_cell (by omega)).trans ((mup_cell (by omega)).trans (mup_cell (by omega))))))))))))
  have g50 : N2 39 50 = N 39 50 := by rw [e]; exact ((mup_slot (by omega)).trans ((mup_cell (by omega)).trans ((mup_cell (by omega)).trans ((mup_cell (by omega)).trans ((mup_cell (by omega)).trans ((mup_cell (by omega)).trans ((mup_cell (by omega)).trans ((mup_cell (by omega)).trans ((mup_cell (by omega)).trans ((mup_cell (by omega)).trans (mup_cell (by omega))))))))))))
  have g58 : N2 39 58 = N 39 58 := by rw [e]; exact ((mup_slot (by omega)).trans ((mup_cell (by omega)).trans ((mup_cell (by omega)).trans ((mup_cell (by omega)).trans ((mup_cell (by omega)).trans ((mup_cell (by omega)).trans ((mup_cell (by omega)).trans ((mup_cell (by omega)).trans ((mup_cell (by omega)).trans ((mup_cell (by omega)).trans (mup_cell (by omega))))))))))))
  have g63 : N2 39 63 = N 39 63 := by rw [e]; exact ((mup_slot (by omega)).trans ((mup_cell (by omega)).trans ((mup_cell (by omega)).trans ((mup_cell (by omega)).trans ((mup_cell (by omega)).trans ((mup_cell (by omega)).trans ((mup_cell (by omega)).trans ((mup_cell (by omega)).trans ((mup_cell (by omega)).trans ((mup_cell (by omega)).trans (mup_cell (by omega))))))))))))
  have hkp : N 3 19 = N 39 10 + N 39 31 := hy.1
  have u59 : ∀ i : Int, i ≠ (N 39 31) → N2 59 i = N 59 i := fun i hi => by rw [e]; exact ((mup_cell (by omega)).trans ((mup_cell (by omega)).trans ((mup_cell (by omega)).trans ((mup_cell (by omega)).trans ((mup_slot (by omega)).trans ((mup_cell (by omega)).trans ((mup_cell (by omega)).trans ((mup_cell (by omega)).trans ((mup_cell (by omega)).trans ((mup_cell (by omega)).trans (mup_cell (by omega))))))))))))
  have w59 : N2 59 (N 39 31) = w := by rw [e]; exact ((mup_cell (by omega)).trans ((mup_cell (by omega)).trans ((mup_cell (by omega)).trans ((mup_cell (by omega)).trans (mup_self _ _ _ _)))))
  have u60 : ∀ i : Int, i ≠ (N 39 31) → N2 60 i = N 60 i := fun i hi => by rw [e]; exact ((mup_cell (by omega)).trans ((mup_cell (by omega)).trans ((mup_cell (by omega)).trans ((mup_slot (by omega)).trans ((mup_cell (by omega)).trans ((mup_cell (by omega)).trans ((mup_cell (by omega)).trans ((mup_cell (by omega)).trans ((mup_cell (by omega)).trans ((mup_cell (by omega)).trans (mup_cell (by omega))))))))))))
  have w60 : N2 60 (N 39 31) = g := by rw [e]; exact ((mup_cell (by omega)).trans ((mup_cell (by omega)).trans ((mup_cell (by omega)).trans (mup_self _ _ _ _))))
  have u61 : ∀ i : Int, i ≠ (N 39 31) → N2 61 i = N 61 i := fun i hi => by rw [e]; exact ((mup_cell (by omega)).trans ((mup_cell (by omega)).trans ((mup_slot (by omega)).trans ((mup_cell (by omega)).trans ((mup_cell (by omega)).trans ((mup_cell (by omega)).trans ((mup_cell (by omega)).trans ((mup_cell (by omega)).trans ((mup_cell (by omega)).trans ((mup_cell (by omega)).trans (mup_cell (by omega))))))))))))
  have w61 : N2 61 (N 39 31) = d := by rw [e]; exact ((mup_cell (by omega)).trans ((mup_cell (by omega)).trans (mup_self _ _ _ _)))
  have u62 : ∀ i : Int, i ≠ (N 39 31) → N2 62 i = N 62 i := fun i hi => by rw [e]; exact ((mup_cell (by omega)).trans ((mup_slot (by omega)).trans ((mup_cell (by omega)).trans ((mup_cell (by omega)).trans ((mup_cell (by omega)).trans ((mup_cell (by omega)).trans ((mup_cell (by omega)).trans ((mup_cell (by omega)).trans ((mup_cell (by omega)).trans ((mup_cell (by omega)).trans (mup_cell (by omega))))))))))))
  have w62 : N2 62 (N 39 31) = 100000 := by rw [e]; exact ((mup_cell (by omega)).trans (mup_self _ _ _ _))
  have q0 : N2 s.1.1 0 = g := by rw [e]; exact ((mup_cell (by omega)).trans ((mup_cell (by omega)).trans ((mup_cell (by omega)).trans ((mup_cell (by omega)).trans ((mup_cell (by omega)).trans ((mup_cell (by omega)).trans ((mup_slot (by omega)).trans ((mup_slot (by omega)).trans (mup_self _ _ _ _)))))))))
  have q1 : N2 s.1.1 1 = d := by rw [e]; exact ((mup_cell (by omega)).trans ((mup_cell (by omega)).trans ((mup_cell (by omega)).trans ((mup_cell (by omega)).trans ((mup_cell (by omega)).trans ((mup_cell (by omega)).trans ((mup_slot (by omega)).trans (mup_self _ _ _ _))))))))
  have q2 : N2 s.1.1 2 = (N a 9) := by rw [e]; exact ((mup_cell (by omega)).trans ((mup_cell (by omega)).trans ((mup_cell (by omega)).trans ((mup_cell (by omega)).trans ((mup_cell (by omega)).trans ((mup_cell (by omega)).trans (mup_self _ _ _ _)))))))
  have q3 : N2 s.1.1 3 = (-1) := by rw [e]; exact ((mup_cell (by omega)).trans ((mup_cell (by omega)).trans ((mup_cell (by omega)).trans ((mup_cell (by omega)).trans ((mup_cell (by omega)).trans ((mup_cell (by omega)).trans ((mup_slot (by omega)).trans ((mup_slot (by omega)).trans ((mup_slot (by omega)).trans (mup_self _ _ _ _))))))))))
  have r5 : N2 5 = N 5 := (show sC N N2 [5] by rw [e]; exact (sC.m (by decide) (sC.m (by decide) (sC.m (by decide) (sC.m (by decide) (sC.m (by decide) (sC.hi (by omega) (by decide) (sC.hi (by omega) (by decide) (sC.hi (by omega) (by decide) (sC.hi (by omega) (by decide) (sC.hi (by omega) (by decide) (sC.m (by decide) sC.rf)))))))))))) 5 (by simp)
  have r41 : N2 41 = N 41 := (show sC N N2 [41] by rw [e]; exact (sC.m (by decide) (sC.m (by decide) (sC.m (by decide) (sC.m (by decide) (sC.m (by decide) (sC.hi (by omega) (by decide) (sC.hi (by omega) (by decide) (sC.hi (by omega) (by decide) (sC.hi (by omega) (by decide) (sC.hi (by omega) (by decide) (sC.m (by decide) sC.rf)))))))))))) 41 (by simp)
  have r42 : N2 42 = N 42 := (show sC N N2 [42] by rw [e]; exact (sC.m (by decide) (sC.m (by decide) (sC.m (by decide) (sC.m (by decide) (sC.m (by decide) (sC.hi (by omega) (by decide) (sC.hi (by omega) (by decide) (sC.hi (by omega) (by decide) (sC.hi (by omega) (by decide) (sC.hi (by omega) (by decide) (sC.m (by decide) sC.rf)))))))))))) 42 (by simp)
  have r43 : N2 43 = N 43 := (show sC N N2 [43] by rw [e]; exact (sC.m (by decide) (sC.m (by decide) (sC.m (by decide) (sC.m (by decide) (sC.m (by decide) (sC.hi (by omega) (by decide) (sC.hi (by omega) (by decide) (sC.hi (by omega) (by decide) (sC.hi (by omega) (by decide) (sC.hi (by omega) (by decide) (sC.m (by decide) sC.rf)))))))))))) 43 (by simp)
  have r44 : N2 44 = N 44 := (show sC N N2 [44] by rw [e]; exact (sC.m (by decide) (sC.m (by decide) (sC.m (by decide) (sC.m (by decide) (sC.m (by decide) (sC.hi (by omega) (by decide) (sC.hi (by omega) (by decide) (sC.hi (by omega) (by decide) (sC.hi (by omega) (by decide) (sC.hi (by omega) (by decide) (sC.m (by decide) sC.rf)))))))))))) 44 (by simp)
  have r45 : N2 45 = N 45 := (show sC N N2 [45] by rw [e]; exact (sC.m (by decide) (sC.m (by decide) (sC.m (by decide) (sC.m (by decide) (sC.m (by decide) (sC.hi (by omega) (by decide) (sC.hi (by omega) (by decide) (sC.hi (by omega) (by decide) (sC.hi (by omega) (by decide) (sC.hi (by omega) (by decide) (sC.m (by decide) sC.rf)))))))))))) 45 (by simp)
  have r46 : N2 46 = N 46 := (show sC N N2 [46] by rw [e]; exact (sC.m (by decide) (sC.m (by decide) (sC.m (by decide) (sC.m (by decide) (sC.m (by decide) (sC.hi (by omega) (by decide) (sC.hi (by omega) (by decide) (sC.hi (by omega) (by decide) (sC.hi (by omega) (by decide) (sC.hi (by omega) (by decide) (sC.m (by decide) sC.rf)))))))))))) 46 (by simp)
  have r47 : N2 47 = N 47 := (show sC N N2 [47] by rw [e]; exact (sC.m (by decide) (sC.m (by decide) (sC.m (by decide) (sC.m (by decide) (sC.m (by decide) (sC.hi (by omega) (by decide) (sC.hi (by omega) (by decide) (sC.hi (by omega) (by decide) (sC.hi (by omega) (by decide) (sC.hi (by omega) (by decide) (sC.m (by decide) sC.rf)))))))))))) 47 (by simp)
  have r48 : N2 48 = N 48 := (show sC N N2 [48] by rw [e]; exact (sC.m (by decide) (sC.m (by decide) (sC.m (by decide) (sC.m (by decide) (sC.m (by decide) (sC.hi (by omega) (by decide) (sC.hi (by omega) (by decide) (sC.hi (by omega) (by decide) (sC.hi (by omega) (by decide) (sC.hi (by omega) (by decide) (sC.m (by decide) sC.rf)))))))))))) 48 (by simp)
  have r73 : N2 73 = N 73 := (show sC N N2 [73] by rw [e]; exact (sC.m (by decide) (sC.m (by decide) (sC.m (by decide) (sC.m (by decide) (sC.m (by decide) (sC.hi (by omega) (by decide) (sC.hi (by omega) (by decide) (sC.hi (by omega) (by decide) (sC.hi (by omega) (by decide) (sC.hi (by omega) (by decide) (sC.m (by decide) sC.rf)))))))))))) 73 (by simp)
  have lF : ∀ i, lastF N2 i = lastF N i := lastF_k r48 g10
  have lS : ∀ i, lastS N2 i = if i = w then (N 39 31) else lastS N i := lastS_add u59 w59 g31 (by omega)
  have hlb := lastS_b N w
  have hfb : ∀ j : Int, 0 ≤ j → j < (N 39 31) → N 59 j = w → N 62 j ≤ d := by
    intro j h0 h1 h2
    by_cases q : N 62 j ≤ d
    · exact q
    · exact absurd ⟨j.toNat, by omega, by rw [z_cast h0]; exact h2, by rw [z_cast h0]; omega⟩ hc1
  have kCnt : mCnt N2 := by unfold mCnt; omega
  have k_ord : mOrd N2 := by
    refine ⟨?_, fun j k h0 h1 h2 h3 => ?_⟩
    · rw [g10, r48, show N2 49 = N 49 from (show sC N N2 [49] by rw [e]; exact (sC.m (by decide) (sC.m (by decide) (sC.m (by decide) (sC.m (by decide) (sC.m (by decide) (sC.hi (by omega) (by decide) (sC.hi (by omega) (by decide) (sC.hi (by omega) (by decide) (sC.hi (by omega) (by decide) (sC.hi (by omega) (by decide) (sC.m (by decide) sC.rf)))))))))))) 49 (by simp), show N2 50 = N 50 from (show sC N N2 [50] by rw [e]; exact (sC.m (by decide) (sC.m (by decide) (sC.m (by decide) (sC.m (by decide) (sC.m (by decide) (sC.hi (by omega) (by decide) (sC.hi (by omega) (by decide) (sC.hi (by omega) (by decide) (sC.hi (by omega) (by decide) (sC.hi (by omega) (by decide) (sC.m (by decide) sC.rf)))))))))))) 50 (by simp)]
      exact hI.ord.1
    · rw [g31] at h2
      by_cases hk : k = (N 39 31)
      · rw [hk, w59, u59 j (by omega)] at h3
        rw [hk, w61, u62 j (by omega)]
        exact hfb j h0 (by omega) h3
      · rw [u59 j (by omega), u59 k hk] at h3
        rw [u62 j (by omega), u61 k hk]
        exact hI.ord.2 j k h0 h1 (by omega) h3
  have k_ppl : mPpl N2 := mPpl_k (show sC N N2 [41, 42, 43, 44, 45, 46, 47] by rw [e]; exact (sC.m (by decide) (sC.m (by decide) (sC.m (by decide) (sC.m (by decide) (sC.m (by decide) (sC.hi (by omega) (by decide) (sC.hi (by omega) (by decide) (sC.hi (by omega) (by decide) (sC.hi (by omega) (by decide) (sC.hi (by omega) (by decide) (sC.m (by decide) sC.rf)))))))))))) g2 (by omega) hm.2.2.1
  have k_flt : mFlt N2 := mFlt_k (show sC N N2 [48, 49, 50] by rw [e]; exact (sC.m (by decide) (sC.m (by decide) (sC.m (by decide) (sC.m (by decide) (sC.m (by decide) (sC.hi (by omega) (by decide) (sC.hi (by omega) (by decide) (sC.hi (by omega) (by decide) (sC.hi (by omega) (by decide) (sC.hi (by omega) (by decide) (sC.m (by decide) sC.rf)))))))))))) g10 (by omega) hm.2.2.2.1
  have k_spl : mSpl N2 := by
    intro k h0 h1
    rw [g31] at h1
    by_cases hk : k = (N 39 31)
    · rw [hk, w59, w60, w61, w62, g2, g29]
      omega
    · rw [u59 k hk, u60 k hk, u61 k hk, u62 k hk, g2, g29]
      exact hm.2.2.2.2.1 k h0 (by omega)
  have k_sty : mSty N2 := mSty_k (show sC N N2 [63, 64, 65, 66] by rw [e]; exact (sC.m (by decide) (sC.m (by decide) (sC.m (by decide) (sC.m (by decide) (sC.m (by decide) (sC.hi (by omega) (by decide) (sC.hi (by omega) (by decide) (sC.hi (by omega) (by decide) (sC.hi (by omega) (by decide) (sC.hi (by omega) (by decide) (sC.m (by decide) sC.rf)))))))))))) g36 (by omega) (by omega) hm.2.2.2.2.2.1
  have k_ple : mPle N2 := mPle_k (show sC N N2 [74, 75, 76, 77, 78] by rw [e]; exact (sC.m (by decide) (sC.m (by decide) (sC.m (by decide) (sC.m (by decide) (sC.m (by decide) (sC.hi (by omega) (by decide) (sC.hi (by omega) (by decide) (sC.hi (by omega) (by decide) (sC.hi (by omega) (by decide) (sC.hi (by omega) (by decide) (sC.m (by decide) sC.rf)))))))))))) g50 (by omega) (by omega) hm.2.2.2.2.2.2
  have k_hs : xHs N2 := xHs_k (show s3 N N2 [1, 3, 5, 8, 10, 11] by rw [e]; exact (s3.m (by omega) (s3.m (by omega) (s3.m (by omega) (s3.m (by omega) (s3.m (by omega) (s3.m (by omega) (s3.m (by omega) (s3.m (by omega) (s3.m (by omega) (s3.m (by omega) (s3.o (by decide) s3.rf)))))))))))) (show s9 N N2 [0, 2, 15, 26, 29, 36, 50, 58] by rw [e]; exact (s9.o (by decide) (s9.m (by omega) (s9.m (by omega) (s9.m (by omega) (s9.m (by omega) (s9.m (by omega) (s9.m (by omega) (s9.m (by omega) (s9.m (by omega) (s9.m (by omega) (s9.m (by omega) s9.rf)))))))))))) (show sC N N2 [4, 6, 7, 8, 9, 12, 13, 40, 51, 56, 57, 58] by rw [e]; exact (sC.m (by decide) (sC.m (by decide) (sC.m (by decide) (sC.m (by decide) (sC.m (by decide) (sC.hi (by omega) (by decide) (sC.hi (by omega) (by decide) (sC.hi (by omega) (by decide) (sC.hi (by omega) (by decide) (sC.hi (by omega) (by decide) (sC.m (by decide) sC.rf)))))))))))) hI.hs
  have k_ps : xPs (z_ns s (8, 0) 4) N2 fa (fun k => if k = (N 39 31) then (s.1.1 : Int) else sa k) := by
    refine ⟨fun i h0 h1 => ?_, by rw [r5, g2]; exact hI.ps.2⟩
    rw [g2] at h1
    by_cases hi : i = w
    · obtain ⟨-, -, p5, p0, p1, p2, p3, p4, p5f, p6, p7, p8, p9⟩ := hp
      refine ⟨a, p88, hs.A pA, ?_⟩
      have ra : ∀ x0 : Int, x0 ≠ 9 → N2 a x0 = N a x0 := fun x0 hx => by rw [e]; exact ((mup_cell (by omega)).trans ((mup_cell (by omega)).trans ((mup_cell (by omega)).trans ((mup_cell (by omega)).trans ((mup_cell (by omega)).trans ((mup_slot (by omega)).trans ((mup_cell (by omega)).trans ((mup_cell (by omega)).trans ((mup_cell (by omega)).trans ((mup_cell (by omega)).trans (mup_cell (by omega))))))))))))
      have ra9 : N2 a 9 = (s.1.1 : Int) := by rw [e]; exact ((mup_cell (by omega)).trans ((mup_cell (by omega)).trans ((mup_cell (by omega)).trans ((mup_cell (by omega)).trans ((mup_cell (by omega)).trans (mup_self _ _ _ _))))))
      rw [hi, ra 0 (by decide), ra 1 (by decide), ra 2 (by decide), ra 3 (by decide), ra 4 (by decide), ra 5 (by decide), ra 6 (by decide), ra 7 (by decide), ra9, ra 8 (by decide), r5, r41, r42, r43, r44, r45, r46, r47, r73, g49, lF, lS, if_pos rfl, orZ_p (k := (N 39 31)) (by omega)]
      exact ⟨p5, p0, p1, p2, p3, p4, p5f, p6, p7, p8, (if_pos rfl).symm⟩
    · obtain ⟨a2, ha2⟩ := hI.ps.1 i h0 h1
      have hne : a2 ≠ a := fun q => hi (hI.ps.2 i w h0 h1 (by omega) (by omega) (by rw [ha2.2.2.1, hp.2.2.1, q]))
      have hlt := ha2.2.1.2.1
      have h88 := ha2.1
      have hrow : N2 a2 = N a2 := by
        funext x0
        rw [e]
        exact ((mup_cell (by omega)).trans ((mup_cell (by omega)).trans ((mup_cell (by omega)).trans ((mup_cell (by omega)).trans ((mup_cell (by omega)).trans ((mup_cell (by omega)).trans ((mup_cell (by omega)).trans ((mup_cell (by omega)).trans ((mup_cell (by omega)).trans ((mup_cell (by omega)).trans (mup_cell (by omega))))))))))))
      have hlb2 := lastS_b N i
      exact ⟨a2, xPer_p hs hrow (by rw [r5]) (by rw [r41]) (by rw [r42]) (by rw [r43]) (by rw [r44]) (by rw [r45]) (by rw [r46]) (by rw [r47]) (by rw [r73]) g49 (by rw [lF]) (by rw [lS, if_neg hi, orZ_if (by omega)]) ha2⟩
  have k_fs : xFs (z_ns s (8, 0) 4) N2 fa := xFs_k hs (show s8 s N N2 2 by rw [e]; exact (s8.lo (by decide) (s8.lo (by decide) (s8.lo (by decide) (s8.lo (by decide) (s8.lo (by decide) (s8.sh pA (by decide) (s8.nw (by omega) (s8.nw (by omega) (s8.nw (by omega) (s8.nw (by omega) (s8.lo (by decide) s8.rf)))))))))))) (show sC N N2 [48, 49, 50] by rw [e]; exact (sC.m (by decide) (sC.m (by decide) (sC.m (by decide) (sC.m (by decide) (sC.m (by decide) (sC.hi (by omega) (by decide) (sC.hi (by omega) (by decide) (sC.hi (by omega) (by decide) (sC.hi (by omega) (by decide) (sC.hi (by omega) (by decide) (sC.m (by decide) sC.rf)))))))))))) g10 hI.fs
  have k_ss : xSs (z_ns s (8, 0) 4) N2 (fun k => if k = (N 39 31) then (s.1.1 : Int) else sa k) := by
    have old : ∀ k : Int, 0 ≤ k → k < (N 39 31) → ∃ b, xSpl s N sa k b ∧ xSpl (z_ns s (8, 0) 4) N2 (fun k => if k = (N 39 31) then (s.1.1 : Int) else sa k) k b := by
      intro k h0 h1
      obtain ⟨b, hb⟩ := hI.ss.1 k h0 h1
      have hlt := hb.2.1.2.1
      have h88 := hb.1
      have hne : b ≠ a := fun q => by
        have h1 := hb.2.1.2.2
        rw [q, pA.2.2] at h1
        cases h1
      have hrow : N2 b = N b := by
        funext x0
        rw [e]
        exact ((mup_cell (by omega)).trans ((mup_cell (by omega)).trans ((mup_cell (by omega)).trans ((mup_cell (by omega)).trans ((mup_cell (by omega)).trans ((mup_cell (by omega)).trans ((mup_cell (by omega)).trans ((mup_cell (by omega)).trans ((mup_cell (by omega)).trans ((mup_cell (by omega)).trans (mup_cell (by omega))))))))))))
      have hfp := spv_p (N := N) h0
      exact ⟨b, hb, xSpl_p hs hrow (if_neg (by omega)) (u60 k (by omega)) (u61 k (by omega)) (u62 k (by omega)) (by rw [spv_add u59 h0 h1, orZ_if (by omega)]) hb⟩
    refine ⟨fun k h0 h1 => ?_, fun i i2 h0 h1 h2 h3 h4 => ?_⟩
    · rw [g31] at h1
      by_cases hk : k = (N 39 31)
      · refine ⟨s.1.1, by omega, zA_new (by omega), ?_⟩
        rw [hk, q0, q1, q2, q3, w60, w61, w62, spv_new u59 w59, orZ_if (by omega)]
        exact ⟨if_pos rfl, rfl, rfl, hp.2.2.2.2.2.2.2.2.2.2.2.2, Or.inl ⟨rfl, rfl⟩⟩
      · obtain ⟨b, -, hb⟩ := old k h0 (by omega)
        exact ⟨b, hb⟩
    · rw [g31] at h1 h3
      have h4 : (if i = (N 39 31) then (s.1.1 : Int) else sa i) = (if i2 = (N 39 31) then (s.1.1 : Int) else sa i2) := h4
      by_cases hi : i = (N 39 31)
      · by_cases hj : i2 = (N 39 31)
        · omega
        · obtain ⟨b, hb, -⟩ := old i2 h2 (by omega)
          rw [if_pos hi, if_neg hj, hb.2.2.1] at h4
          have := hb.2.1.2.1
          omega
      · by_cases hj : i2 = (N 39 31)
        · obtain ⟨b, hb, -⟩ := old i h0 (by omega)
          rw [if_neg hi, if_pos hj, hb.2.2.1] at h4
          have := hb.2.1.2.1
          omega
        · rw [if_neg hi, if_neg hj] at h4
          exact hI.ss.2 i i2 h0 (by omega) h2 (by omega) h4
  have k_ys : xYs (z_ns s (8, 0) 4) N2 := xYs_k hs (show s8 s N N2 9 by rw [e]; exact (s8.lo (by decide) (s8.lo (by decide) (s8.lo (by decide) (s8.lo (by decide) (s8.lo (by decide) (s8.sh pA (by decide) (s8.nw (by omega) (s8.nw (by omega) (s8.nw (by omega) (s8.nw (by omega) (s8.lo (by decide) s8.rf)))))))))))) (show sC N N2 [10, 63, 64, 65, 66] by rw [e]; exact (sC.m (by decide) (sC.m (by decide) (sC.m (by decide) (sC.m (by decide) (sC.m (by decide) (sC.hi (by omega) (by decide) (sC.hi (by omega) (by decide) (sC.hi (by omega) (by decide) (sC.hi (by omega) (by decide) (sC.hi (by omega) (by decide) (sC.m (by decide) sC.rf)))))))))))) g36 hI.ys
  have k_ls : xLs (z_ns s (8, 0) 4) N2 fa := xLs_k hs (show s8 s N N2 5 by rw [e]; exact (s8.lo (by decide) (s8.lo (by decide) (s8.lo (by decide) (s8.lo (by decide) (s8.lo (by decide) (s8.sh pA (by decide) (s8.nw (by omega) (s8.nw (by omega) (s8.nw (by omega) (s8.nw (by omega) (s8.lo (by decide) s8.rf)))))))))))) (show s8 s N N2 20 by rw [e]; exact (s8.lo (by decide) (s8.lo (by decide) (s8.lo (by decide) (s8.lo (by decide) (s8.lo (by decide) (s8.sh pA (by decide) (s8.nw (by omega) (s8.nw (by omega) (s8.nw (by omega) (s8.nw (by omega) (s8.lo (by decide) s8.rf)))))))))))) (show s8 s N N2 21 by rw [e]; exact (s8.lo (by decide) (s8.lo (by decide) (s8.lo (by decide) (s8.lo (by decide) (s8.lo (by decide) (s8.sh pA (by decide) (s8.nw (by omega) (s8.nw (by omega) (s8.nw (by omega) (s8.nw (by omega) (s8.lo (by decide) s8.rf)))))))))))) (show sC N N2 [11, 48, 74, 75, 76, 77, 78, 79, 80] by rw [e]; exact (sC.m (by decide) (sC.m (by decide) (sC.m (by decide) (sC.m (by decide) (sC.m (by decide) (sC.hi (by omega) (by decide) (sC.hi (by omega) (by decide) (sC.hi (by omega) (by decide) (sC.hi (by omega) (by decide) (sC.hi (by omega) (by decide) (sC.m (by decide) sC.rf)))))))))))) g50 hI.ls
  have k_law : xLaw N2 := xLaw_k (show sC N N2 [14, 15, 16, 17, 18, 19, 52, 53] by rw [e]; exact (sC.m (by decide) (sC.m (by decide) (sC.m (by decide) (sC.m (by decide) (sC.m (by decide) (sC.hi (by omega) (by decide) (sC.hi (by omega) (by decide) (sC.hi (by omega) (by decide) (sC.hi (by omega) (by decide) (sC.hi (by omega) (by decide) (sC.m (by decide) sC.rf)))))))))))) ((show s3 N N2 [13] by rw [e]; exact (s3.m (by omega) (s3.m (by omega) (s3.m (by omega) (s3.m (by omega) (s3.m (by omega) (s3.m (by omega) (s3.m (by omega) (s3.m (by omega) (s3.m (by omega) (s3.m (by omega) (s3.o (by decide) s3.rf)))))))))))) 13 (by simp)) ((show s3 N N2 [14] by rw [e]; exact (s3.m (by omega) (s3.m (by omega) (s3.m (by omega) (s3.m (by omega) (s3.m (by omega) (s3.m (by omega) (s3.m (by omega) (s3.m (by omega) (s3.m (by omega) (s3.m (by omega) (s3.o (by decide) s3.rf)))))))))))) 14 (by simp)) g18 hI.law
  have k_sh : xSh N2 := xSh_k (show sC N N2 [20, 31, 32, 33, 34, 35, 36, 37, 38, 82, 83, 84] by rw [e]; exact (sC.m (by decide) (sC.m (by decide) (sC.m (by decide) (sC.m (by decide) (sC.m (by decide) (sC.hi (by omega) (by decide) (sC.hi (by omega) (by decide) (sC.hi (by omega) (by decide) (sC.hi (by omega) (by decide) (sC.hi (by omega) (by decide) (sC.m (by decide) sC.rf)))))))))))) hI.sh
  have k_ro : xRo N2 := xRo_k (show sC N N2 [21, 22, 23, 24, 85, 86, 87] by rw [e]; exact (sC.m (by decide) (sC.m (by decide) (sC.m (by decide) (sC.m (by decide) (sC.m (by decide) (sC.hi (by omega) (by decide) (sC.hi (by omega) (by decide) (sC.hi (by omega) (by decide) (sC.hi (by omega) (by decide) (sC.hi (by omega) (by decide) (sC.m (by decide) sC.rf)))))))))))) g63 hI.ro
  have k_kp : yKp N2 := by
    have t19 : N2 3 19 = N 3 19 + 1 := by rw [e]; exact ((mup_cell (by omega)).trans ((mup_cell (by omega)).trans ((mup_cell (by omega)).trans ((mup_cell (by omega)).trans ((mup_cell (by omega)).trans ((mup_cell (by omega)).trans ((mup_cell (by omega)).trans ((mup_cell (by omega)).trans ((mup_cell (by omega)).trans ((mup_cell (by omega)).trans (mup_self _ _ _ _)))))))))))
    show N2 3 19 = N2 39 10 + N2 39 31
    omega
  have k_ow : yOw N2 := yOw_k (show sC N N2 [76, 77, 80] by rw [e]; exact (sC.m (by decide) (sC.m (by decide) (sC.m (by decide) (sC.m (by decide) (sC.m (by decide) (sC.hi (by omega) (by decide) (sC.hi (by omega) (by decide) (sC.hi (by omega) (by decide) (sC.hi (by omega) (by decide) (sC.hi (by omega) (by decide) (sC.m (by decide) sC.rf)))))))))))) (show s9 N N2 [50] by rw [e]; exact (s9.o (by decide) (s9.m (by omega) (s9.m (by omega) (s9.m (by omega) (s9.m (by omega) (s9.m (by omega) (s9.m (by omega) (s9.m (by omega) (s9.m (by omega) (s9.m (by omega) (s9.m (by omega) s9.rf)))))))))))) hy.2.1
  have k_tp : yTp N2 := yTp_k (show sC N N2 [51] by rw [e]; exact (sC.m (by decide) (sC.m (by decide) (sC.m (by decide) (sC.m (by decide) (sC.m (by decide) (sC.hi (by omega) (by decide) (sC.hi (by omega) (by decide) (sC.hi (by omega) (by decide) (sC.hi (by omega) (by decide) (sC.hi (by omega) (by decide) (sC.m (by decide) sC.rf)))))))))))) (show s9 N N2 [15] by rw [e]; exact (s9.o (by decide) (s9.m (by omega) (s9.m (by omega) (s9.m (by omega) (s9.m (by omega) (s9.m (by omega) (s9.m (by omega) (s9.m (by omega) (s9.m (by omega) (s9.m (by omega) (s9.m (by omega) s9.rf)))))))))))) hy.2.2.1
  have k_yro : yRo N2 := yRo_k (show sC N N2 [85, 86] by rw [e]; exact (sC.m (by decide) (sC.m (by decide) (sC.m (by decide) (sC.m (by decide) (sC.m (by decide) (sC.hi (by omega) (by decide) (sC.hi (by omega) (by decide) (sC.hi (by omega) (by decide) (sC.hi (by omega) (by decide) (sC.hi (by omega) (by decide) (sC.m (by decide) sC.rf)))))))))))) hy.2.2.2.1
  have k_ln : yLn N2 := yLn_k (show sC N N2 [40, 58] by rw [e]; exact (sC.m (by decide) (sC.m (by decide) (sC.m (by decide) (sC.m (by decide) (sC.m (by decide) (sC.hi (by omega) (by decide) (sC.hi (by omega) (by decide) (sC.hi (by omega) (by decide) (sC.hi (by omega) (by decide) (sC.hi (by omega) (by decide) (sC.m (by decide) sC.rf)))))))))))) (show s9 N N2 [0, 29] by rw [e]; exact (s9.o (by decide) (s9.m (by omega) (s9.m (by omega) (s9.m (by omega) (s9.m (by omega) (s9.m (by omega) (s9.m (by omega) (s9.m (by omega) (s9.m (by omega) (s9.m (by omega) (s9.m (by omega) s9.rf)))))))))))) hy.2.2.2.2.1
  have k_cm : yCm N2 := yCm_k (show sC N N2 [73] by rw [e]; exact (sC.m (by decide) (sC.m (by decide) (sC.m (by decide) (sC.m (by decide) (sC.m (by decide) (sC.hi (by omega) (by decide) (sC.hi (by omega) (by decide) (sC.hi (by omega) (by decide) (sC.hi (by omega) (by decide) (sC.hi (by omega) (by decide) (sC.m (by decide) sC.rf)))))))))))) (show s9 N N2 [2, 49] by rw [e]; exact (s9.o (by decide) (s9.m (by omega) (s9.m (by omega) (s9.m (by omega) (s9.m (by omega) (s9.m (by omega) (s9.m (by omega) (s9.m (by omega) (s9.m (by omega) (s9.m (by omega) (s9.m (by omega) s9.rf)))))))))))) hy.2.2.2.2.2.1
  have k_bf : yBf N2 := yBf_k (show sC N N2 [42, 48, 49] by rw [e]; exact (sC.m (by decide) (sC.m (by decide) (sC.m (by decide) (sC.m (by decide) (sC.m (by decide) (sC.hi (by omega) (by decide) (sC.hi (by omega) (by decide) (sC.hi (by omega) (by decide) (sC.hi (by omega) (by decide) (sC.hi (by omega) (by decide) (sC.m (by decide) sC.rf)))))))))))) (show s9 N N2 [10] by rw [e]; exact (s9.o (by decide) (s9.m (by omega) (s9.m (by omega) (s9.m (by omega) (s9.m (by omega) (s9.m (by omega) (s9.m (by omega) (s9.m (by omega) (s9.m (by omega) (s9.m (by omega) (s9.m (by omega) s9.rf)))))))))))) hy.2.2.2.2.2.2
  have k_bud : bud N2 ≤ bud N := by
    have hd := cnt_dn (p := fun i : Nat => ¬ boundS N2 i 9999) (q := fun i : Nat => ¬ boundS N i 9999) (w := w.toNat) (fun i hi => by
      refine not_congr ⟨fun ⟨k, h1, h2, h3⟩ => ?_, fun ⟨k, h1, h2, h3⟩ => ?_⟩
      · rw [g31] at h1
        by_cases hk : (k : Int) = (N 39 31)
        · rw [hk, w59] at h2; omega
        · rw [u59 k hk] at h2; rw [u62 k hk] at h3; exact ⟨k, by omega, h2, h3⟩
      · exact ⟨k, by omega, by rw [u59 k (by omega)]; exact h2, by rw [u62 k (by omega)]; exact h3⟩) (fun q => q ⟨(N 39 31).toNat, by omega, by rw [z_cast (by omega), w59, z_cast (by omega)], by rw [z_cast (by omega), w62]; omega⟩) (fun q => by
      obtain ⟨k, h1, h2, h3⟩ := q
      rw [z_cast (by omega)] at h2
      have := hfb k (by omega) h1 h2
      omega) (N 39 2).toNat
    rw [if_pos (by omega)] at hd
    unfold bud
    rw [g2, g10, g31]
    omega
  exact ⟨⟨hB.k hs, hG, ⟨hG.1, kCnt, k_ppl, k_flt, k_spl, k_sty, k_ple⟩, k_ord, k_hs, k_ps, k_fs, k_ss, k_ys, k_ls, k_law, k_sh, k_ro⟩, ⟨k_kp, k_ow, k_tp, k_yro, k_ln, k_cm, k_bf⟩, k_bud⟩
set_option maxRecDepth 20000 in
set_option maxHeartbeats 2000000 in
theorem j_joins (hJ : xJ s N c) (hc : c < 512) {w g d : Int} (hw : zr w) (hg : zr g) (hd : zr d) (h : jK X c m_X12_joins [.ref 39, vi w, vi g, vi d] K) : zC X m_X11_joins [.ref 3, vi w, vi g, vi d] (zI s N) K := by
  obtain ⟨fa, sa, hI, hy, hbud, hsz⟩ := id hJ
  have hk := bud_r hI hbud hc
  have hC := hI.C
  unfold mCnt at hC
  have n88 := hI.B.1
  have hR := hI.R
  have hkp : N 3 19 = N 39 10 + N 39 31 := hy.1
  have hadr := hsz.adr hc
  refine x_joins hI hw hg hd (by omega) (fun g1 => ?_) (fun g1 g2 => ?_) (fun g1 g2 g3 => ?_) (fun g1 g2 g3 g4 => ?_) (fun a g1 g2 g3 g4 hp => ?_)
  · exact h _ _ _ (by first | exact hI.B | exact hI.B.k sK.ns | exact hI.B.k (sK.ns.trans (sK.ns.trans sK.ns))) (fun Q hq => k_joins hI.B hI.m hw hg hd (by omega) (fun _ => hq _ _ hJ.up) (fun q => absurd q g1) (fun q => absurd q g1) (fun q => absurd q g1) (fun q => absurd q g1))
  · exact h _ _ _ (by first | exact hI.B | exact hI.B.k sK.ns | exact hI.B.k (sK.ns.trans (sK.ns.trans sK.ns))) (fun Q hq => k_joins hI.B hI.m hw hg hd (by omega) (fun q => absurd g1 q) (fun _ _ => hq _ _ hJ.up) (fun _ q => absurd g2 q) (fun _ q => absurd g2 q) (fun _ q => absurd g2 q))
  · exact h _ _ _ (by first | exact hI.B | exact hI.B.k sK.ns | exact hI.B.k (sK.ns.trans (sK.ns.trans sK.ns))) (fun Q hq => k_joins hI.B hI.m hw hg hd (by omega) (fun q => absurd g1 q) (fun _ q => absurd q g2) (fun _ _ _ => hq _ _ hJ.up) (fun _ _ q => absurd q g3) (fun _ _ q => absurd q g3))
  · exact h _ _ _ (by first | exact hI.B | exact hI.B.k sK.ns | exact hI.B.k (sK.ns.trans (sK.ns.trans sK.ns))) (fun Q hq => k_joins hI.B hI.m hw hg hd (by omega) (fun q => absurd g1 q) (fun _ q => absurd q g2) (fun _ _ q => absurd g3 q) (fun _ _ _ _ => hq _ _ hJ.up) (fun _ _ _ q => absurd q (by omega)))
  · refine h _ _ _ (by first | exact hI.B | exact hI.B.k sK.ns | exact hI.B.k (sK.ns.trans (sK.ns.trans sK.ns))) (fun Q hq => ?_)
    have p88 := hp.1
    have pA := hp.2.1
    have hlt := pA.2.1
    have hE : eM N (xn_begin N a s.1.1 g d) := (eM.m (by omega) (eM.m (by omega) (eM.m (by omega) (eM.m (by omega) (eM.m (by omega) (eM.m (by omega) eM.rf))))))
    have hm1 : mI (xn_begin N a s.1.1 g d) := hE.mI_ (zG_mup (zG_mup (zG_mup (zG_mup (zG_mup (zG_mup (zG_ns (sp := (8, 0)) (sl := 4) hI.2.1) (by show _ < s.1.1 + 1; omega) (by constructor <;> omega)) (by show _ < s.1.1 + 1; omega) (by constructor <;> omega)) (by show _ < s.1.1 + 1; omega) (by constructor <;> omega)) (by show _ < s.1.1 + 1; omega) (by constructor <;> omega)) (by show _ < s.1.1 + 1; omega) (hR _ _)) (by show _ < s.1.1 + 1; omega) hadr).1 hI.m
    have c0 := hE.at 39 (by decide) (by decide) 31
    refine k_joins (hI.B.k (sK.ns (sp := (8, 0)) (sl := 4))) hm1 hw hg hd (by omega) ?_ ?_ ?_ ?_ ?_
    all_goals
      rw [hE.at 39 (by decide) (by decide) 2, hE.at 39 (by decide) (by decide) 29]
      try rw [hE.at 41 (by decide) (by decide)]
      try rw [hE.tHere_, hE.boundS_]
      try rw [hE.mems_]
    · exact fun q => absurd g1 q
    · exact fun _ q => absurd q g2
    · exact fun _ _ q => absurd g3 q
    · exact fun _ _ _ q => absurd q (by omega)
    · intro _ _ _ _
      obtain ⟨x1, x2, x3⟩ := jx_begin hI hy g1 g3.2 p88 pA hp (by omega) (by omega) hadr (N2 := n_begin (xn_begin N a s.1.1 g d) w g d) (by unfold n_begin; rw [c0]; rfl)
      refine ⟨x1.m, zqI (hq _ _ ⟨fa, _, x1, x2, by omega, hsz.n1 (by decide)⟩) ?_⟩
      have hn1 : ∀ (a0 : Nat) (k : Int), 39 ≤ a0 → a0 < 88 → a0 ≠ 39 → k ≠ N 39 31 → n_begin (xn_begin N a s.1.1 g d) w g d a0 k = N a0 k := fun a0 k h1 h2 h3 h4 => by
        unfold n_begin
        rw [c0, mup_cell h3, mup_ne (fun q => h4 q.2), mup_ne (fun q => h4 q.2), mup_ne (fun q => h4 q.2), mup_ne (fun q => h4 q.2)]
        exact hE.at a0 h1 h2 k
      have w59 : n_begin (xn_begin N a s.1.1 g d) w g d 59 (N 39 31) = w := by
        unfold n_begin
        rw [c0]
        exact (mup_cell (by decide)).trans ((mup_cell (by decide)).trans ((mup_cell (by decide)).trans ((mup_cell (by decide)).trans (mup_self _ _ _ _))))
      have w60 : n_begin (xn_begin N a s.1.1 g d) w g d 60 (N 39 31) = g := by
        unfold n_begin
        rw [c0]
        exact (mup_cell (by decide)).trans ((mup_cell (by decide)).trans ((mup_cell (by decide)).trans (mup_self _ _ _ _)))
      have w61 : n_begin (xn_begin N a s.1.1 g d) w g d 61 (N 39 31) = d := by
        unfold n_begin
        rw [c0]
        exact (mup_cell (by decide)).trans ((mup_cell (by decide)).trans (mup_self _ _ _ _))
      have w62 : n_begin (xn_begin N a s.1.1 g d) w g d 62 (N 39 31) = 100000 := by
        unfold n_begin
        rw [c0]
        exact (mup_cell (by decide)).trans (mup_self _ _ _ _)
      have w31 : n_begin (xn_begin N a s.1.1 g d) w g d 39 31 = N 39 31 + 1 := by
        unfold n_begin
        rw [c0]
        exact mup_self _ _ _ _
      have w9 : ∀ j : Int, j ≠ 31 → n_begin (xn_begin N a s.1.1 g d) w g d 39 j = N 39 j := fun j hj => by
        unfold n_begin
        rw [mup_slot hj, mup_cell (by decide), mup_cell (by decide), mup_cell (by decide), mup_cell (by decide)]
        exact hE.at 39 (by decide) (by decide) j
      have rC : ∀ a0 : Nat, 40 ≤ a0 → a0 < 59 → n_begin (xn_begin N a s.1.1 g d) w g d a0 = N a0 := fun a0 h1 h2 => funext fun k => by
        unfold n_begin
        rw [mup_cell (by omega), mup_cell (by omega), mup_cell (by omega), mup_cell (by omega), mup_cell (by omega)]
        exact hE.at a0 (by omega) (by omega) k
      have hC5 : sC N (n_begin (xn_begin N a s.1.1 g d) w g d) [42, 47, 48, 49, 50] := fun b hb => rC b (by simp only [List.mem_cons, List.not_mem_nil, or_false] at hb; omega) (by simp only [List.mem_cons, List.not_mem_nil, or_false] at hb; omega)
      have eS : ∀ i : Int, i ≠ w → spA (n_begin (xn_begin N a s.1.1 g d) w g d) i d = spA N i d := fun i hi => spA_add (fun k hk => hn1 59 k (by decide) (by decide) (by decide) hk) (fun k hk => hn1 61 k (by decide) (by decide) (by decide) hk) (fun k hk => hn1 62 k (by decide) (by decide) (by decide) hk) w59 w31 (by omega) hC5 (w9 10 (by decide)) hi
      have ht : tHere (n_begin (xn_begin N a s.1.1 g d) w g d) w d := by
        unfold tHere
        rw [hC5 42 (by decide), hC5 47 (by decide), hC5 48 (by decide), hC5 49 (by decide), hC5 50 (by decide), w9 10 (by decide)]
        exact g3.1
      have eW : spA (n_begin (xn_begin N a s.1.1 g d) w g d) w d = N 39 31 := spA_at (N 39 31) (by omega) (by omega) ht ⟨w59, by rw [w61]; exact Int.le_refl _, by rw [w62]; omega⟩ (fun j hj q => by
        by_cases hk : (j : Int) = N 39 31
        · exact hk
        · rw [w31] at hj
          rw [hn1 59 j (by decide) (by decide) (by decide) hk, hn1 62 j (by decide) (by decide) (by decide) hk] at q
          exact absurd ⟨j, by omega, q.1, q.2.2⟩ g3.2)
      have hd := cnt_dn (p := fun i : Nat => memb N i g d) (q := fun i : Nat => memb (n_begin (xn_begin N a s.1.1 g d) w g d) i g d) (w := w.toNat) (fun i hi => by
        show (0 ≤ spA N i d ∧ N 60 (spA N i d) = g) ↔ (0 ≤ spA _ i d ∧ n_begin (xn_begin N a s.1.1 g d) w g d 60 (spA _ i d) = g)
        rw [eS i (by omega)]
        have hb := spA_b N i d
        rw [hn1 60 _ (by decide) (by decide) (by decide) (by omega)]) (fun q => by
        have q1 : 0 ≤ spA N (w.toNat : Int) d := q.1
        rw [z_cast (by omega)] at q1
        have := spA_free g3.2
        omega) (by
        show 0 ≤ spA _ (w.toNat : Int) d ∧ n_begin (xn_begin N a s.1.1 g d) w g d 60 (spA _ (w.toNat : Int) d) = g
        rw [z_cast (by omega), eW]
        exact ⟨by omega, w60⟩) (N 39 2).toNat
      rw [if_pos (by omega)] at hd
      unfold mems
      rw [w9 2 (by decide)]
      omega
set_option maxRecDepth 20000 in
set_option maxHeartbeats 2000000 in
theorem jx_leaves (hI : xI s N fa sa) (hy : yI N) {w d : Int} {b : Nat} (hg : ((0 ≤ w ∧ w < N 39 2) ∧ (0 ≤ d ∧ d ≤ 9999))) (hc1 : 0 ≤ lastS N w ∧ N 62 (lastS N w) = 100000 ∧ N 61 (lastS N w) < d) (b88 : 88 ≤ b) (bA : zA s b (8, 0)) (hb : xSpl s N sa (lastS N w) b) {N2 : zN} (e : N2 = (mup (mup N b 3 d) 62 (lastS N w) d)) : xI s N2 fa sa ∧ yI N2 ∧ bud N2 ≤ bud N + 1 := by
  have hB := hI.B
  have hR := hI.R
  have hC := hI.C
  unfold mCnt at hC
  have hm := hI.m
  have n88 := hB.1
  obtain ⟨e1, e5, e7, e8, e10, e11, e3, e12, eh, eg, ef, et⟩ := hI.hs
  have hlt_bA := bA.2.1
  have hs : sK s s := sK.rf
  have hG : zG s N2 := by rw [e]; exact (zG_mup (zG_mup hI.2.1 (by omega) (by constructor <;> omega)) (by omega) (by constructor <;> omega))
  have g0 : N2 39 0 = N 39 0 := by rw [e]; exact ((mup_cell (by omega)).trans (mup_cell (by omega)))
  have g2 : N2 39 2 = N 39 2 := by rw [e]; exact ((mup_cell (by omega)).trans (mup_cell (by omega)))
  have g10 : N2 39 10 = N 39 10 := by rw [e]; exact ((mup_cell (by omega)).trans (mup_cell (by omega)))
  have g15 : N2 39 15 = N 39 15 := by rw [e]; exact ((mup_cell (by omega)).trans (mup_cell (by omega)))
  have g18 : N2 39 18 = N 39 18 := by rw [e]; exact ((mup_cell (by omega)).trans (mup_cell (by omega)))
  have g26 : N2 39 26 = N 39 26 := by rw [e]; exact ((mup_cell (by omega)).trans (mup_cell (by omega)))
  have g29 : N2 39 29 = N 39 29 := by rw [e]; exact ((mup_cell (by omega)).trans (mup_cell (by omega)))
  have g31 : N2 39 31 = N 39 31 := by rw [e]; exact ((mup_cell (by omega)).trans (mup_cell (by omega)))
  have g36 : N2 39 36 = N 39 36 := by rw [e]; exact ((mup_cell (by omega)).trans (mup_cell (by omega)))
  have g49 : N2 39 49 = N 39 49 := by rw [e]; exact ((mup_cell (by omega)).trans (mup_cell (by omega)))
  have g50 : N2 39 50 = N 39 50 := by rw [e]; exact ((mup_cell (by omega)).trans (mup_cell (by omega)))
  have g58 : N2 39 58 = N 39 58 := by rw [e]; exact ((mup_cell (by omega)).trans (mup_cell (by omega)))
  have g63 : N2 39 63 = N 39 63 := by rw [e]; exact ((mup_cell (by omega)).trans (mup_cell (by omega)))
  have u62 : ∀ i : Int, i ≠ (lastS N w) → N2 62 i = N 62 i := fun i hi => by rw [e]; exact ((mup_slot (by omega)).trans (mup_cell (by omega)))
  have w62 : N2 62 (lastS N w) = d := by rw [e]; exact (mup_self _ _ _ _)
  have r59 : N2 59 = N 59 := (show sC N N2 [59] by rw [e]; exact (sC.m (by decide) (sC.hi (by omega) (by decide) sC.rf))) 59 (by simp)
  have r60 : N2 60 = N 60 := (show sC N N2 [60] by rw [e]; exact (sC.m (by decide) (sC.hi (by omega) (by decide) sC.rf))) 60 (by simp)
  have r61 : N2 61 = N 61 := (show sC N N2 [61] by rw [e]; exact (sC.m (by decide) (sC.hi (by omega) (by decide) sC.rf))) 61 (by simp)
  have hlb := lastS_b N w
  have hl := hc1.1
  have hlp := lastS_p hl
  have kCnt : mCnt N2 := by unfold mCnt; omega
  have k_ord : mOrd N2 := by
    refine ⟨?_, fun j k h0 h1 h2 h3 => ?_⟩
    · rw [g10, show N2 48 = N 48 from (show sC N N2 [48] by rw [e]; exact (sC.m (by decide) (sC.hi (by omega) (by decide) sC.rf))) 48 (by simp), show N2 49 = N 49 from (show sC N N2 [49] by rw [e]; exact (sC.m (by decide) (sC.hi (by omega) (by decide) sC.rf))) 49 (by simp), show N2 50 = N 50 from (show sC N N2 [50] by rw [e]; exact (sC.m (by decide) (sC.hi (by omega) (by decide) sC.rf))) 50 (by simp)]
      exact hI.ord.1
    · rw [g31] at h2
      rw [r59] at h3
      rw [r61]
      by_cases hj : j = (lastS N w)
      · exact absurd (h3.symm.trans (by rw [hj]; exact hlp.1)) (hlp.2 k (by omega) h2)
      · rw [u62 j hj]
        exact hI.ord.2 j k h0 h1 h2 h3
  have k_ppl : mPpl N2 := mPpl_k (show sC N N2 [41, 42, 43, 44, 45, 46, 47] by rw [e]; exact (sC.m (by decide) (sC.hi (by omega) (by decide) sC.rf))) g2 (by omega) hm.2.2.1
  have k_flt : mFlt N2 := mFlt_k (show sC N N2 [48, 49, 50] by rw [e]; exact (sC.m (by decide) (sC.hi (by omega) (by decide) sC.rf))) g10 (by omega) hm.2.2.2.1
  have k_spl : mSpl N2 := by
    intro k h0 h1
    rw [g31] at h1
    have hk2 := hm.2.2.2.2.1 k h0 h1
    by_cases hk : k = (lastS N w)
    · rw [hk] at hk2
      rw [hk, r59, r60, r61, w62, g2, g29]
      omega
    · rw [r59, r60, r61, u62 k hk, g2, g29]
      exact hk2
  have k_sty : mSty N2 := mSty_k (show sC N N2 [63, 64, 65, 66] by rw [e]; exact (sC.m (by decide) (sC.hi (by omega) (by decide) sC.rf))) g36 (by omega) (by omega) hm.2.2.2.2.2.1
  have k_ple : mPle N2 := mPle_k (show sC N N2 [74, 75, 76, 77, 78] by rw [e]; exact (sC.m (by decide) (sC.hi (by omega) (by decide) sC.rf))) g50 (by omega) (by omega) hm.2.2.2.2.2.2
  have k_hs : xHs N2 := xHs_k (show s3 N N2 [1, 3, 5, 8, 10, 11] by rw [e]; exact (s3.m (by omega) (s3.m (by omega) s3.rf))) (show s9 N N2 [0, 2, 15, 26, 29, 36, 50, 58] by rw [e]; exact (s9.m (by omega) (s9.m (by omega) s9.rf))) (show sC N N2 [4, 6, 7, 8, 9, 12, 13, 40, 51, 56, 57, 58] by rw [e]; exact (sC.m (by decide) (sC.hi (by omega) (by decide) sC.rf))) hI.hs
  have k_ps : xPs s N2 fa sa := xPs_k hs (show s8 s N N2 4 by rw [e]; exact (s8.lo (by decide) (s8.sh bA (by decide) s8.rf))) ((show sC N N2 [5] by rw [e]; exact (sC.m (by decide) (sC.hi (by omega) (by decide) sC.rf))) 5 (by simp)) (show sC N N2 [41, 42, 43, 44, 45, 46, 47, 48, 59, 73] by rw [e]; exact (sC.m (by decide) (sC.hi (by omega) (by decide) sC.rf))) (show s9 N N2 [2, 10, 31, 49] by rw [e]; exact (s9.m (by omega) (s9.m (by omega) s9.rf))) hI.ps
  have k_fs : xFs s N2 fa := xFs_k hs (show s8 s N N2 2 by rw [e]; exact (s8.lo (by decide) (s8.sh bA (by decide) s8.rf))) (show sC N N2 [48, 49, 50] by rw [e]; exact (sC.m (by decide) (sC.hi (by omega) (by decide) sC.rf))) g10 hI.fs
  have k_ss : xSs s N2 sa := by
    refine ⟨fun k h0 h1 => ?_, by rw [g31]; exact hI.ss.2⟩
    rw [g31] at h1
    obtain ⟨b2, hb2⟩ := hI.ss.1 k h0 h1
    have efp : spv N2 k = spv N k := by unfold spv; rw [r59]
    by_cases hk : k = (lastS N w)
    · obtain ⟨-, -, bf, b0, b1, b2, -⟩ := hb
      refine ⟨b, b88, bA, ?_⟩
      have rb : ∀ x0 : Int, x0 ≠ 3 → N2 b x0 = N b x0 := fun x0 hx => by rw [e]; exact ((mup_cell (by omega)).trans (mup_slot (by omega)))
      have rb3 : N2 b 3 = d := by rw [e]; exact ((mup_cell (by omega)).trans (mup_self _ _ _ _))
      rw [efp, hk, rb 0 (by decide), rb 1 (by decide), rb 2 (by decide), rb3, w62, r60, r61]
      exact ⟨bf, b0, b1, b2, Or.inr ⟨by omega, rfl⟩⟩
    · have hne : b2 ≠ b := fun q => hk (hI.ss.2 k (lastS N w) h0 h1 hl (by omega) (by rw [hb2.2.2.1, hb.2.2.1, q]))
      have h88 := hb2.1
      have hrow : N2 b2 = N b2 := by
        funext x0
        rw [e]
        exact ((mup_cell (by omega)).trans (mup_cell (by omega)))
      exact ⟨b2, xSpl_p hs hrow rfl (by rw [r60]) (by rw [r61]) (u62 k hk) (by rw [efp]) hb2⟩
  have k_ys : xYs s N2 := xYs_k hs (show s8 s N N2 9 by rw [e]; exact (s8.lo (by decide) (s8.sh bA (by decide) s8.rf))) (show sC N N2 [10, 63, 64, 65, 66] by rw [e]; exact (sC.m (by decide) (sC.hi (by omega) (by decide) sC.rf))) g36 hI.ys
  have k_ls : xLs s N2 fa := xLs_k hs (show s8 s N N2 5 by rw [e]; exact (s8.lo (by decide) (s8.sh bA (by decide) s8.rf))) (show s8 s N N2 20 by rw [e]; exact (s8.lo (by decide) (s8.sh bA (by decide) s8.rf))) (show s8 s N N2 21 by rw [e]; exact (s8.lo (by decide) (s8.sh bA (by decide) s8.rf))) (show sC N N2 [11, 48, 74, 75, 76, 77, 78, 79, 80] by rw [e]; exact (sC.m (by decide) (sC.hi (by omega) (by decide) sC.rf))) g50 hI.ls
  have k_law : xLaw N2 := xLaw_k (show sC N N2 [14, 15, 16, 17, 18, 19, 52, 53] by rw [e]; exact (sC.m (by decide) (sC.hi (by omega) (by decide) sC.rf))) ((show s3 N N2 [13] by rw [e]; exact (s3.m (by omega) (s3.m (by omega) s3.rf))) 13 (by simp)) ((show s3 N N2 [14] by rw [e]; exact (s3.m (by omega) (s3.m (by omega) s3.rf))) 14 (by simp)) g18 hI.law
  have k_sh : xSh N2 := xSh_k (show sC N N2 [20, 31, 32, 33, 34, 35, 36, 37, 38, 82, 83, 84] by rw [e]; exact (sC.m (by decide) (sC.hi (by omega) (by decide) sC.rf))) hI.sh
  have k_ro : xRo N2 := xRo_k (show sC N N2 [21, 22, 23, 24, 85, 86, 87] by rw [e]; exact (sC.m (by decide) (sC.hi (by omega) (by decide) sC.rf))) g63 hI.ro
  have k_kp : yKp N2 := yKp_k (show s3 N N2 [19] by rw [e]; exact (s3.m (by omega) (s3.m (by omega) s3.rf))) (show s9 N N2 [10, 31] by rw [e]; exact (s9.m (by omega) (s9.m (by omega) s9.rf))) hy.1
  have k_ow : yOw N2 := yOw_k (show sC N N2 [76, 77, 80] by rw [e]; exact (sC.m (by decide) (sC.hi (by omega) (by decide) sC.rf))) (show s9 N N2 [50] by rw [e]; exact (s9.m (by omega) (s9.m (by omega) s9.rf))) hy.2.1
  have k_tp : yTp N2 := yTp_k (show sC N N2 [51] by rw [e]; exact (sC.m (by decide) (sC.hi (by omega) (by decide) sC.rf))) (show s9 N N2 [15] by rw [e]; exact (s9.m (by omega) (s9.m (by omega) s9.rf))) hy.2.2.1
  have k_yro : yRo N2 := yRo_k (show sC N N2 [85, 86] by rw [e]; exact (sC.m (by decide) (sC.hi (by omega) (by decide) sC.rf))) hy.2.2.2.1
  have k_ln : yLn N2 := yLn_k (show sC N N2 [40, 58] by rw [e]; exact (sC.m (by decide) (sC.hi (by omega) (by decide) sC.rf))) (show s9 N N2 [0, 29] by rw [e]; exact (s9.m (by omega) (s9.m (by omega) s9.rf))) hy.2.2.2.2.1
  have k_cm : yCm N2 := yCm_k (show sC N N2 [73] by rw [e]; exact (sC.m (by decide) (sC.hi (by omega) (by decide) sC.rf))) (show s9 N N2 [2, 49] by rw [e]; exact (s9.m (by omega) (s9.m (by omega) s9.rf))) hy.2.2.2.2.2.1
  have k_bf : yBf N2 := yBf_k (show sC N N2 [42, 48, 49] by rw [e]; exact (sC.m (by decide) (sC.hi (by omega) (by decide) sC.rf))) (show s9 N N2 [10] by rw [e]; exact (s9.m (by omega) (s9.m (by omega) s9.rf))) hy.2.2.2.2.2.2
  have k_bud : bud N2 ≤ bud N + 1 := by
    have hd := cnt_u1 (p := fun i : Nat => ¬ boundS N2 i 9999) (q := fun i : Nat => ¬ boundS N i 9999) (w := w.toNat) (fun i hi => by
      refine not_congr ⟨fun ⟨k, h1, h2, h3⟩ => ?_, fun ⟨k, h1, h2, h3⟩ => ?_⟩
      · rw [g31] at h1
        rw [r59] at h2
        by_cases hk : (k : Int) = (lastS N w)
        · rw [hk, hlp.1] at h2; omega
        · rw [u62 k hk] at h3; exact ⟨k, h1, h2, h3⟩
      · by_cases hk : (k : Int) = (lastS N w)
        · rw [hk, hlp.1] at h2; omega
        · exact ⟨k, by rw [g31]; exact h1, by rw [r59]; exact h2, by rw [u62 k hk]; exact h3⟩) (N 39 2).toNat
    rw [if_pos (by omega)] at hd
    unfold bud
    rw [g2, g10, g31]
    omega
  exact ⟨⟨hB.k hs, hG, ⟨hG.1, kCnt, k_ppl, k_flt, k_spl, k_sty, k_ple⟩, k_ord, k_hs, k_ps, k_fs, k_ss, k_ys, k_ls, k_law, k_sh, k_ro⟩, ⟨k_kp, k_ow, k_tp, k_yro, k_ln, k_cm, k_bf⟩, k_bud⟩
set_option maxRecDepth 20000 in
set_option maxHeartbeats 2000000 in
theorem j_leaves (hJ : xJ s N c) (hc : c < 512) {w d : Int} (hw : zr w) (hd : zr d) (h : jK X c m_X12_leaves [.ref 39, vi w, vi d] K) : zC X m_X11_leaves [.ref 3, vi w, vi d] (zI s N) K := by
  obtain ⟨fa, sa, hI, hy, hbud, hsz⟩ := id hJ
  have hk := bud_r hI hbud hc
  have hC := hI.C
  unfold mCnt at hC
  have n88 := hI.B.1
  have hR := hI.R
  have hkp : N 3 19 = N 39 10 + N 39 31 := hy.1
  have key : ∀ i : Nat, (i : Int) < N 39 31 → N 59 i = w → N 62 i = 100000 → (i : Int) = lastS N w := by
    intro i h1 h2 h3
    have hl : 0 ≤ lastS N w := by
      by_cases q : 0 ≤ lastS N w
      · exact q
      · exact absurd h2 (lastS_none (by omega) i (by omega) h1)
    have hlp := lastS_p hl
    have hlb := lastS_b N w
    by_cases h4 : (i : Int) < lastS N w
    · have := hI.ord.2 i (lastS N w) (by omega) h4 (by omega) (by omega)
      have := hI.m.2.2.2.2.1 (lastS N w) hl (by omega)
      omega
    · by_cases h5 : lastS N w < (i : Int)
      · exact absurd h2 (hlp.2 i h5 h1)
      · omega
  refine x_leaves hI hw hd (fun g1 => ?_) (fun g1 g2 => ?_) (fun b g1 g2 hb => ?_)
  · exact h _ _ _ (by first | exact hI.B | exact hI.B.k sK.ns | exact hI.B.k (sK.ns.trans (sK.ns.trans sK.ns))) (fun Q hq => k_leaves hI.B hI.m hw hd (fun _ => hq _ _ hJ.up) (fun q => absurd q g1) (fun q => absurd q g1))
  · exact h _ _ _ (by first | exact hI.B | exact hI.B.k sK.ns | exact hI.B.k (sK.ns.trans (sK.ns.trans sK.ns))) (fun Q hq => k_leaves hI.B hI.m hw hd (fun q => absurd g1 q) (fun _ _ => hq _ _ hJ.up) (fun _ i h1 h2 _ => absurd (by
      have h2 : N 59 i = w ∧ N 62 i = 100000 ∧ N 61 i < d := h2
      have := key i h1 h2.1 h2.2.1
      rw [← this]
      exact ⟨by omega, h2.2⟩) g2))
  · refine h _ _ _ (by first | exact hI.B | exact hI.B.k sK.ns | exact hI.B.k (sK.ns.trans (sK.ns.trans sK.ns))) (fun Q hq => ?_)
    have b88 := hb.1
    have bA := hb.2.1
    have hlt := bA.2.1
    have hlb := lastS_b N w
    have hlp := lastS_p g2.1
    have hE : eM N (mup N b 3 d) := (eM.m (by omega) eM.rf)
    have hm1 : mI (mup N b 3 d) := hE.mI_ (zG_mup (s := s) hI.2.1 (by omega) (by constructor <;> omega)).1 hI.m
    refine k_leaves hI.B hm1 hw hd ?_ ?_ ?_
    all_goals
      rw [hE 39 (by decide) (by decide)]
      try rw [hE 59 (by decide) (by decide), hE 61 (by decide) (by decide), hE 62 (by decide) (by decide)]
    · exact fun q => absurd g1 q
    · exact fun _ q => absurd (show N 59 ((lastS N w).toNat : Int) = w ∧ N 62 ((lastS N w).toNat : Int) = 100000 ∧ N 61 ((lastS N w).toNat : Int) < d by rw [z_cast g2.1]; exact ⟨hlp.1, g2.2⟩) (q (lastS N w).toNat (by omega))
    · intro _ i h1 h2 _
      have h2 : N 59 i = w ∧ N 62 i = 100000 ∧ N 61 i < d := h2
      have ei := key i h1 h2.1 h2.2.1
      rw [hE.at 60 (by decide) (by decide), ei]
      obtain ⟨x1, x2, x3⟩ := jx_leaves hI hy g1 g2 b88 bA hb (N2 := mup (mup N b 3 d) 62 (lastS N w) d) rfl
      exact hq _ _ ⟨fa, sa, x1, x2, by omega, hsz.n0⟩
end JN5
