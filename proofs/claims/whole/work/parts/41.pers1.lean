/-! THE SYSTEM'S METHODS, 1: one's own (printed by wip/whole/gen/x1.py) -/
section XS1
variable {X : zX} {s : zK} {N : zN} {fa sa : Int → Int} {σ : zS} {Q : Option Value → zS → Prop}
set_option maxRecDepth 20000 in
set_option maxHeartbeats 2000000 in
theorem x_isDead (hI : xI s N fa sa) {i : Int} {a : Nat} (h0 : 0 ≤ i) (h1 : i < N 39 2) (hp : xPer s N fa sa i a) (h : Q (some (vi (bi (N 47 i ≠ 100000)))) (zI s N)) : zC X m_X4_isDead [.ref a] (zI s N) Q := by
  have hB := hI.B
  have hR := hI.R
  have hC := hI.C
  unfold mCnt at hC
  have hm := hI.m
  have hpp := hm.2.2.1 i h0 h1
  obtain ⟨p88, pA, p5, p0, p1, p2, p3, p4, p5f, p6, p7, p8, p9⟩ := hp
  show zE X m_X4_isDead 0 [.ref a] [] _ Q
  refine e_aload_n q_X4_isDead_0 (by decide) rfl ?_
  refine i_getI (k' := 6) q_X4_isDead_1 fl_X4_9 pA (cref0 (by omega) _) rfl rfl rfl ?_
  refine e_iconst q_X4_isDead_4 ?_
  refine e_icmp_eq q_X4_isDead_5 (by first | exact hR _ _ | (constructor <;> omega) | assumption) (by first | exact hR _ _ | (constructor <;> omega) | assumption) (fun c5 => ?_) (fun c5 => ?_)
  · skip
    refine e_iconst q_X4_isDead_12 ?_
    refine e_ireturn q_X4_isDead_13 rfl rfl ?_
    first | exact zqT h (by omega) | exact zqF h (by omega)
  · skip
    refine e_iconst q_X4_isDead_8 ?_
    refine e_goto q_X4_isDead_9 ?_
    refine e_ireturn q_X4_isDead_13 rfl rfl ?_
    first | exact zqT h (by omega) | exact zqF h (by omega)
set_option maxRecDepth 20000 in
set_option maxHeartbeats 2000000 in
theorem x_weight (hI : xI s N fa sa) {i : Int} {a : Nat} (h0 : 0 ≤ i) (h1 : i < N 39 2) (hp : xPer s N fa sa i a) (h : Q (some (vi (wgt N i))) (zI s N)) : zC X m_X4_weight [.ref a] (zI s N) Q := by
  have hB := hI.B
  have hR := hI.R
  have hC := hI.C
  unfold mCnt at hC
  have hm := hI.m
  have hpp := hm.2.2.1 i h0 h1
  obtain ⟨p88, pA, p5, p0, p1, p2, p3, p4, p5f, p6, p7, p8, p9⟩ := hp
  show zE X m_X4_weight 0 [.ref a] [] _ Q
  refine e_aload_n q_X4_weight_0 (by decide) rfl ?_
  refine i_getI (k' := 4) q_X4_weight_1 fl_X4_30 pA (cref0 (by omega) _) rfl rfl rfl ?_
  refine e_if_eq q_X4_weight_4 (by first | exact hR _ _ | (constructor <;> omega) | assumption) (fun c4 => ?_) (fun c4 => ?_)
  · skip
    refine e_iconst q_X4_weight_11 ?_
    refine e_ireturn q_X4_weight_12 rfl rfl ?_
    first | exact zqI h (if_pos (by omega)) | exact zqI h (if_neg (by omega))
  · skip
    refine e_iconst q_X4_weight_7 ?_
    refine e_goto q_X4_weight_8 ?_
    refine e_ireturn q_X4_weight_12 rfl rfl ?_
    first | exact zqI h (if_pos (by omega)) | exact zqI h (if_neg (by omega))
set_option maxRecDepth 20000 in
set_option maxHeartbeats 2000000 in
theorem x_ageOn (hI : xI s N fa sa) {i : Int} {a : Nat} (h0 : 0 ≤ i) (h1 : i < N 39 2) (hp : xPer s N fa sa i a) {d : Int} (hd : d ≤ 9999) (hb : N 42 i ≤ d) (h : Q (some (vi ((d - N 42 i) / 100))) (zI s N)) : zC X m_X4_ageOn [.ref a, vi d] (zI s N) Q := by
  have hB := hI.B
  have hR := hI.R
  have hC := hI.C
  unfold mCnt at hC
  have hm := hI.m
  have hpp := hm.2.2.1 i h0 h1
  obtain ⟨p88, pA, p5, p0, p1, p2, p3, p4, p5f, p6, p7, p8, p9⟩ := hp
  show zE X m_X4_ageOn 0 [.ref a, vi d] [] _ Q
  refine e_iload_n q_X4_ageOn_0 (by decide) rfl ?_
  refine e_aload_n q_X4_ageOn_1 (by decide) rfl ?_
  refine i_getI (k' := 1) q_X4_ageOn_2 fl_X4_21 pA (cref0 (by omega) _) rfl rfl p1 ?_
  refine e_isub q_X4_ageOn_5 ?_
  refine e_bipush q_X4_ageOn_6 (by decide) ?_
  refine e_idiv q_X4_ageOn_8 (by omega) (by omega) ?_
  refine e_ireturn q_X4_ageOn_9 rfl rfl ?_
  exact h
set_option maxRecDepth 20000 in
set_option maxHeartbeats 2000000 in
theorem x_isAway (hI : xI s N fa sa) {i : Int} {a : Nat} (h0 : 0 ≤ i) (h1 : i < N 39 2) (hp : xPer s N fa sa i a) (h : Q (some (vi (bi (away N i)))) (zI s N)) : zC X m_X4_isAway [.ref a] (zI s N) Q := by
  have hB := hI.B
  have hR := hI.R
  have hC := hI.C
  unfold mCnt at hC
  have hm := hI.m
  have hpp := hm.2.2.1 i h0 h1
  obtain ⟨p88, pA, p5, p0, p1, p2, p3, p4, p5f, p6, p7, p8, p9⟩ := hp
  show zE X m_X4_isAway 0 [.ref a] [] _ Q
  have hlb := lastF_b N i
  by_cases hl : 0 ≤ lastF N i
  · skip
    obtain ⟨b, hb⟩ := hI.fs.1 (lastF N i) (by omega) (by omega)
    obtain ⟨b88, bA, bf, b0, b1, b2⟩ := hb
    have p8b : N a 8 = (b : Int) := by rw [p8, orZ_p hl]; exact bf
    have hfl := hm.2.2.2.1 (lastF N i) hl (by omega)
    refine e_aload_n q_X4_isAway_0 (by decide) rfl ?_
    refine i_getR (k' := 8) q_X4_isAway_1 fl_X4_37 pA (cref0 (by omega) _) rfl rfl p8b (by omega) ?_
    refine e_ifnull q_X4_isAway_4 ?_
    refine e_aload_n q_X4_isAway_7 (by decide) rfl ?_
    refine i_getR (k' := 8) q_X4_isAway_8 fl_X4_37 pA (cref0 (by omega) _) rfl rfl p8b (by omega) ?_
    refine i_getI (k' := 2) q_X4_isAway_11 fl_X4_41 bA (cref0 (by omega) _) rfl rfl rfl ?_
    refine e_iconst q_X4_isAway_14 ?_
    refine e_icmp_ne q_X4_isAway_15 (by first | exact hR _ _ | (constructor <;> omega) | assumption) (by first | exact hR _ _ | (constructor <;> omega) | assumption) (fun c15 => ?_) (fun c15 => ?_)
    · skip
      refine e_iconst q_X4_isAway_22 ?_
      refine e_ireturn q_X4_isAway_23 rfl rfl ?_
      first | exact zqT h ⟨by omega, by omega⟩ | exact zqF h (fun q => by have q1 := q.1; have q2 := q.2; omega)
    · skip
      refine e_iconst q_X4_isAway_18 ?_
      refine e_goto q_X4_isAway_19 ?_
      refine e_ireturn q_X4_isAway_23 rfl rfl ?_
      first | exact zqT h ⟨by omega, by omega⟩ | exact zqF h (fun q => by have q1 := q.1; have q2 := q.2; omega)
  · have p8z : N a 8 = 0 := by rw [p8, orZ_n (by omega)]
    refine e_aload_n q_X4_isAway_0 (by decide) rfl ?_
    refine i_getN (k' := 8) q_X4_isAway_1 fl_X4_37 pA (cref0 (by omega) _) rfl rfl (by omega) ?_
    refine e_ifnullN q_X4_isAway_4 ?_
    refine e_iconst q_X4_isAway_22 ?_
    refine e_ireturn q_X4_isAway_23 rfl rfl ?_
    exact zqF h (fun q => by have q1 := q.1; omega)
/-- the day of the latest flight or coming back, else -1 -/
noncomputable def lmove (N : zN) (i : Int) : Int := if lastF N i < 0 then -1 else if N 50 (lastF N i) = 100000 then N 49 (lastF N i) else N 50 (lastF N i)
set_option maxRecDepth 20000 in
set_option maxHeartbeats 2000000 in
theorem x_latestMove (hI : xI s N fa sa) {i : Int} {a : Nat} (h0 : 0 ≤ i) (h1 : i < N 39 2) (hp : xPer s N fa sa i a) (h : Q (some (vi (lmove N i))) (zI s N)) : zC X m_X4_latestMove [.ref a] (zI s N) Q := by
  have hB := hI.B
  have hR := hI.R
  have hC := hI.C
  unfold mCnt at hC
  have hm := hI.m
  have hpp := hm.2.2.1 i h0 h1
  obtain ⟨p88, pA, p5, p0, p1, p2, p3, p4, p5f, p6, p7, p8, p9⟩ := hp
  show zE X m_X4_latestMove 0 [.ref a] [] _ Q
  have hlb := lastF_b N i
  by_cases hl : 0 ≤ lastF N i
  · skip
    obtain ⟨b, hb⟩ := hI.fs.1 (lastF N i) (by omega) (by omega)
    obtain ⟨b88, bA, bf, b0, b1, b2⟩ := hb
    have p8b : N a 8 = (b : Int) := by rw [p8, orZ_p hl]; exact bf
    have hfl := hm.2.2.2.1 (lastF N i) hl (by omega)
    refine e_aload_n q_X4_latestMove_0 (by decide) rfl ?_
    refine i_getR (k' := 8) q_X4_latestMove_1 fl_X4_37 pA (cref0 (by omega) _) rfl rfl p8b (by omega) ?_
    refine e_ifnonnull q_X4_latestMove_4 ?_
    refine e_aload_n q_X4_latestMove_11 (by decide) rfl ?_
    refine i_getR (k' := 8) q_X4_latestMove_12 fl_X4_37 pA (cref0 (by omega) _) rfl rfl p8b (by omega) ?_
    refine i_getI (k' := 0) q_X4_latestMove_15 fl_X4_46 bA (cref0 (by omega) _) rfl rfl rfl ?_
    refine e_aload_n q_X4_latestMove_18 (by decide) rfl ?_
    refine i_getR (k' := 8) q_X4_latestMove_19 fl_X4_37 pA (cref0 (by omega) _) rfl rfl p8b (by omega) ?_
    refine i_getI (k' := 2) q_X4_latestMove_22 fl_X4_41 bA (cref0 (by omega) _) rfl rfl rfl ?_
    refine e_max q_X4_latestMove_25 lk_X4_49 mm_max_s ini_J9 mm_max_c (by decide) (by decide) (Nat.le_of_ble_eq_true rfl) (by first | exact hR _ _ | (constructor <;> omega) | assumption) (by first | exact hR _ _ | (constructor <;> omega) | assumption) ?_
    refine e_ireturn q_X4_latestMove_28 rfl rfl ?_
    rcases b2 with ⟨e1, e2⟩ | ⟨e1, e2⟩
    · exact zqI h (by unfold lmove; rw [if_neg (by omega), if_pos e1]; omega)
    · exact zqI h (by unfold lmove; rw [if_neg (by omega), if_neg e1]; omega)
  · have p8z : N a 8 = 0 := by rw [p8, orZ_n (by omega)]
    refine e_aload_n q_X4_latestMove_0 (by decide) rfl ?_
    refine i_getN (k' := 8) q_X4_latestMove_1 fl_X4_37 pA (cref0 (by omega) _) rfl rfl (by omega) ?_
    refine e_ifnonnullN q_X4_latestMove_4 ?_
    refine e_iconst q_X4_latestMove_7 ?_
    refine e_goto q_X4_latestMove_8 ?_
    refine e_ireturn q_X4_latestMove_28 rfl rfl ?_
    exact zqI h (by unfold lmove; rw [if_pos (by omega)])
set_option maxRecDepth 20000 in
set_option maxHeartbeats 2000000 in
theorem x_isAwayOn (hI : xI s N fa sa) {i : Int} {a : Nat} (h0 : 0 ≤ i) (h1 : i < N 39 2) (hp : xPer s N fa sa i a) {d : Int} (hd : -1 ≤ d ∧ d ≤ 9999) (h : Q (some (vi (bi (∃ j : Nat, (j : Int) < N 39 10 ∧ N 48 j = i ∧ N 49 j ≤ d ∧ d < N 50 j)))) (zI s N)) : zC X m_X4_isAwayOn [.ref a, vi d] (zI s N) Q := by
  have hB := hI.B
  have hR := hI.R
  have hC := hI.C
  unfold mCnt at hC
  have hm := hI.m
  have hpp := hm.2.2.1 i h0 h1
  obtain ⟨p88, pA, p5, p0, p1, p2, p3, p4, p5f, p6, p7, p8, p9⟩ := hp
  show zE X m_X4_isAwayOn 0 [.ref a, vi d, zU] [] _ Q
  have hlb := lastF_b N i
  have key : ∀ (n : Nat) (k : Int), k < n → 0 ≤ k → k < N 39 10 → N 48 k = i → (∀ j : Int, k < j → j < N 39 10 → N 48 j = i → d < N 49 j) → ∀ b : Nat, xFlt s N fa k b → zE X m_X4_isAwayOn 5 [.ref a, vi d, .ref b] [] (zI s N) Q := by
    intro n
    induction n with
    | zero => intro k h1 h2; omega
    | succ n ih =>
      intro k hkn hk0 hk1 hkw hnx b hb
      obtain ⟨b88, bA, bf, b0, b1, b2⟩ := hb
      have hfl := hm.2.2.2.1 k hk0 hk1
      refine e_aload_n q_X4_isAwayOn_5 (by decide) rfl ?_
      refine e_ifnull q_X4_isAwayOn_6 ?_
      refine e_aload_n q_X4_isAwayOn_9 (by decide) rfl ?_
      refine i_getI (k' := 0) q_X4_isAwayOn_10 fl_X4_46 bA (cref0 (by omega) _) rfl rfl b0 ?_
      refine e_iload_n q_X4_isAwayOn_13 (by decide) rfl ?_
      refine e_icmp_gt q_X4_isAwayOn_14 (by first | exact hR _ _ | (constructor <;> omega) | assumption) (by first | exact hR _ _ | (constructor <;> omega) | assumption) (fun c14 => ?_) (fun c14 => ?_)
      · skip
        obtain ⟨hq0, hq1, hq3, hq4⟩ := fpv_p (N := N) hk0
        have hnx2 : ∀ j : Int, 0 ≤ j → fpv N k < j → j < N 39 10 → N 48 j = i → d < N 49 j := by
          intro j h0j h1j h2j h3j
          rcases Int.lt_trichotomy j k with hjk | hjk | hjk
          · exact absurd (by rw [h3j, hkw]) (hq4 j h0j h1j hjk)
          · rw [hjk]
            omega
          · exact hnx j hjk h2j h3j
        by_cases hq2 : 0 ≤ fpv N k
        · obtain ⟨c, hc⟩ := hI.fs.1 (fpv N k) hq2 (by omega)
          obtain ⟨c88, cA, cf, -⟩ := id hc
          have b1c : N b 1 = (c : Int) := by rw [b1, orZ_p hq2]; exact cf
          refine e_aload_n q_X4_isAwayOn_39 (by decide) rfl ?_
          refine i_getR (k' := 1) q_X4_isAwayOn_40 fl_X4_63 bA (cref0 (by omega) _) rfl rfl b1c (by omega) ?_
          refine e_astore_n (ls' := [_, _, _]) q_X4_isAwayOn_43 (by decide) rfl rfl ?_
          refine e_goto q_X4_isAwayOn_44 ?_
          exact ih (fpv N k) (by omega) hq2 (by omega) (by rw [hq3 hq2]; exact hkw) (fun j hj h1 h2 => hnx2 j (by omega) hj h1 h2) c hc
        · have b1z : N b 1 = 0 := by rw [b1, orZ_n (by omega)]
          refine e_aload_n q_X4_isAwayOn_39 (by decide) rfl ?_
          refine i_getN (k' := 1) q_X4_isAwayOn_40 fl_X4_63 bA (cref0 (by omega) _) rfl rfl (by omega) ?_
          refine e_astore_nN (ls' := [_, _, _]) q_X4_isAwayOn_43 (by decide) rfl rfl ?_
          refine e_goto q_X4_isAwayOn_44 ?_
          refine e_aload_nN q_X4_isAwayOn_5 (by decide) rfl ?_
          refine e_ifnullN q_X4_isAwayOn_6 ?_
          refine e_iconst q_X4_isAwayOn_47 ?_
          refine e_ireturn q_X4_isAwayOn_48 rfl rfl ?_
          exact zqF h (fun q => by obtain ⟨j, q1, q2, q3, q4⟩ := q; have := hnx2 j (by omega) (by omega) q1 q2; omega)
      · skip
        have hno : ∀ j : Nat, (j : Int) < N 39 10 → N 48 j = i → N 49 j ≤ d → d < N 50 j → (j : Int) = k := by
          intro j q1 q2 q3 q4
          rcases Int.lt_trichotomy (j : Int) k with hjk | hjk | hjk
          · have := hI.ord.1 j k (by omega) hjk hk1 (by rw [q2, hkw])
            omega
          · exact hjk
          · have := hnx j hjk q1 q2
            omega
        refine e_aload_n q_X4_isAwayOn_17 (by decide) rfl ?_
        refine i_getI (k' := 2) q_X4_isAwayOn_18 fl_X4_41 bA (cref0 (by omega) _) rfl rfl rfl ?_
        refine e_iconst q_X4_isAwayOn_21 ?_
        refine e_icmp_eq q_X4_isAwayOn_22 (by first | exact hR _ _ | (constructor <;> omega) | assumption) (by first | exact hR _ _ | (constructor <;> omega) | assumption) (fun c22 => ?_) (fun c22 => ?_)
        · skip
          refine e_iconst q_X4_isAwayOn_33 ?_
          refine e_goto q_X4_isAwayOn_34 ?_
          refine e_ireturn q_X4_isAwayOn_38 rfl rfl ?_
          first | exact zqT h ⟨k.toNat, by omega, by rw [z_cast hk0]; exact hkw, by rw [z_cast hk0]; omega, by rw [z_cast hk0]; omega⟩ | exact zqF h (fun q => by obtain ⟨j, q1, q2, q3, q4⟩ := q; have e := hno j q1 q2 q3 q4; rw [e] at q4; omega)
        · skip
          refine e_aload_n q_X4_isAwayOn_25 (by decide) rfl ?_
          refine i_getI (k' := 2) q_X4_isAwayOn_26 fl_X4_41 bA (cref0 (by omega) _) rfl rfl rfl ?_
          refine e_iload_n q_X4_isAwayOn_29 (by decide) rfl ?_
          refine e_icmp_le q_X4_isAwayOn_30 (by first | exact hR _ _ | (constructor <;> omega) | assumption) (by first | exact hR _ _ | (constructor <;> omega) | assumption) (fun c30 => ?_) (fun c30 => ?_)
          · skip
            refine e_iconst q_X4_isAwayOn_37 ?_
            refine e_ireturn q_X4_isAwayOn_38 rfl rfl ?_
            first | exact zqT h ⟨k.toNat, by omega, by rw [z_cast hk0]; exact hkw, by rw [z_cast hk0]; omega, by rw [z_cast hk0]; omega⟩ | exact zqF h (fun q => by obtain ⟨j, q1, q2, q3, q4⟩ := q; have e := hno j q1 q2 q3 q4; rw [e] at q4; omega)
          · skip
            refine e_iconst q_X4_isAwayOn_33 ?_
            refine e_goto q_X4_isAwayOn_34 ?_
            refine e_ireturn q_X4_isAwayOn_38 rfl rfl ?_
            first | exact zqT h ⟨k.toNat, by omega, by rw [z_cast hk0]; exact hkw, by rw [z_cast hk0]; omega, by rw [z_cast hk0]; omega⟩ | exact zqF h (fun q => by obtain ⟨j, q1, q2, q3, q4⟩ := q; have e := hno j q1 q2 q3 q4; rw [e] at q4; omega)
  by_cases hl : 0 ≤ lastF N i
  · skip
    obtain ⟨b, hb⟩ := hI.fs.1 (lastF N i) (by omega) (by omega)
    obtain ⟨b88, bA, bf, b0, b1, b2⟩ := hb
    have p8b : N a 8 = (b : Int) := by rw [p8, orZ_p hl]; exact bf
    refine e_aload_n q_X4_isAwayOn_0 (by decide) rfl ?_
    refine i_getR (k' := 8) q_X4_isAwayOn_1 fl_X4_37 pA (cref0 (by omega) _) rfl rfl p8b (by omega) ?_
    refine e_astore_n (ls' := [_, _, _]) q_X4_isAwayOn_4 (by decide) rfl rfl ?_
    exact key (N 39 10).toNat (lastF N i) (by omega) hl (by omega) (lastF_p hl).1 (fun j hj h1 h2 => absurd h2 ((lastF_p hl).2 j hj h1)) b ⟨b88, bA, bf, b0, b1, b2⟩
  · have p8z : N a 8 = 0 := by rw [p8, orZ_n (by omega)]
    refine e_aload_n q_X4_isAwayOn_0 (by decide) rfl ?_
    refine i_getN (k' := 8) q_X4_isAwayOn_1 fl_X4_37 pA (cref0 (by omega) _) rfl rfl (by omega) ?_
    refine e_astore_nN (ls' := [_, _, _]) q_X4_isAwayOn_4 (by decide) rfl rfl ?_
    refine e_aload_nN q_X4_isAwayOn_5 (by decide) rfl ?_
    refine e_ifnullN q_X4_isAwayOn_6 ?_
    refine e_iconst q_X4_isAwayOn_47 ?_
    refine e_ireturn q_X4_isAwayOn_48 rfl rfl ?_
    exact zqF h (fun q => by obtain ⟨j, q1, q2, q3, q4⟩ := q; exact lastF_none (by omega) j (by omega) q1 q2)
set_option maxRecDepth 20000 in
set_option maxHeartbeats 2000000 in
theorem x_isThereOn (hI : xI s N fa sa) {i : Int} {a : Nat} (h0 : 0 ≤ i) (h1 : i < N 39 2) (hp : xPer s N fa sa i a) {d : Int} (hd : -1 ≤ d ∧ d ≤ 9999) (h : Q (some (vi (bi (tHere N i d)))) (zI s N)) : zC X m_X4_isThereOn [.ref a, vi d] (zI s N) Q := by
  have hB := hI.B
  have hR := hI.R
  have hC := hI.C
  unfold mCnt at hC
  have hm := hI.m
  have hpp := hm.2.2.1 i h0 h1
  obtain ⟨p88, pA, p5, p0, p1, p2, p3, p4, p5f, p6, p7, p8, p9⟩ := hp
  show zE X m_X4_isThereOn 0 [.ref a, vi d] [] _ Q
  refine e_iload_n q_X4_isThereOn_0 (by decide) rfl ?_
  refine e_aload_n q_X4_isThereOn_1 (by decide) rfl ?_
  refine i_getI (k' := 1) q_X4_isThereOn_2 fl_X4_21 pA (cref0 (by omega) _) rfl rfl p1 ?_
  refine e_icmp_lt q_X4_isThereOn_5 (by first | exact hR _ _ | (constructor <;> omega) | assumption) (by first | exact hR _ _ | (constructor <;> omega) | assumption) (fun c5 => ?_) (fun c5 => ?_)
  · skip
    refine e_iconst q_X4_isThereOn_35 ?_
    refine e_ireturn q_X4_isThereOn_36 rfl rfl ?_
    first | exact zqT h ⟨by omega, by omega, fun k hk q => c28 ⟨k, hk, q⟩⟩ | exact zqF h (fun q => by obtain ⟨q1, q2, q3⟩ := q; first | omega | (obtain ⟨k, hk, q4⟩ := c28; exact q3 k hk q4))
  · skip
    refine e_aload_n q_X4_isThereOn_8 (by decide) rfl ?_
    refine iv_X4_isDead q_X4_isThereOn_9 lk_X4_55 (by decide) pA (Nat.le_of_ble_eq_true rfl) ?_
    refine x_isDead hI h0 h1 ⟨p88, pA, p5, p0, p1, p2, p3, p4, p5f, p6, p7, p8, p9⟩ ?_
    refine e_ifb_eq q_X4_isThereOn_12 (fun c12 => ?_) (fun c12 => ?_)
    · skip
      refine e_aload_n q_X4_isThereOn_23 (by decide) rfl ?_
      refine e_iload_n q_X4_isThereOn_24 (by decide) rfl ?_
      refine iv_X4_isAwayOn q_X4_isThereOn_25 lk_X4_59 (by decide) pA (Nat.le_of_ble_eq_true rfl) ?_
      refine x_isAwayOn hI h0 h1 ⟨p88, pA, p5, p0, p1, p2, p3, p4, p5f, p6, p7, p8, p9⟩ hd ?_
      refine e_ifb_ne q_X4_isThereOn_28 (fun c28 => ?_) (fun c28 => ?_)
      · skip
        refine e_iconst q_X4_isThereOn_35 ?_
        refine e_ireturn q_X4_isThereOn_36 rfl rfl ?_
        first | exact zqT h ⟨by omega, by omega, fun k hk q => c28 ⟨k, hk, q⟩⟩ | exact zqF h (fun q => by obtain ⟨q1, q2, q3⟩ := q; first | omega | (obtain ⟨k, hk, q4⟩ := c28; exact q3 k hk q4))
      · skip
        refine e_iconst q_X4_isThereOn_31 ?_
        refine e_goto q_X4_isThereOn_32 ?_
        refine e_ireturn q_X4_isThereOn_36 rfl rfl ?_
        first | exact zqT h ⟨by omega, by omega, fun k hk q => c28 ⟨k, hk, q⟩⟩ | exact zqF h (fun q => by obtain ⟨q1, q2, q3⟩ := q; first | omega | (obtain ⟨k, hk, q4⟩ := c28; exact q3 k hk q4))
    · skip
      refine e_iload_n q_X4_isThereOn_15 (by decide) rfl ?_
      refine e_aload_n q_X4_isThereOn_16 (by decide) rfl ?_
      refine i_getI (k' := 6) q_X4_isThereOn_17 fl_X4_9 pA (cref0 (by omega) _) rfl rfl rfl ?_
      refine e_icmp_gt q_X4_isThereOn_20 (by first | exact hR _ _ | (constructor <;> omega) | assumption) (by first | exact hR _ _ | (constructor <;> omega) | assumption) (fun c20 => ?_) (fun c20 => ?_)
      · skip
        refine e_iconst q_X4_isThereOn_35 ?_
        refine e_ireturn q_X4_isThereOn_36 rfl rfl ?_
        first | exact zqT h ⟨by omega, by omega, fun k hk q => c28 ⟨k, hk, q⟩⟩ | exact zqF h (fun q => by obtain ⟨q1, q2, q3⟩ := q; first | omega | (obtain ⟨k, hk, q4⟩ := c28; exact q3 k hk q4))
      · skip
        refine e_aload_n q_X4_isThereOn_23 (by decide) rfl ?_
        refine e_iload_n q_X4_isThereOn_24 (by decide) rfl ?_
        refine iv_X4_isAwayOn q_X4_isThereOn_25 lk_X4_59 (by decide) pA (Nat.le_of_ble_eq_true rfl) ?_
        refine x_isAwayOn hI h0 h1 ⟨p88, pA, p5, p0, p1, p2, p3, p4, p5f, p6, p7, p8, p9⟩ hd ?_
        refine e_ifb_ne q_X4_isThereOn_28 (fun c28 => ?_) (fun c28 => ?_)
        · skip
          refine e_iconst q_X4_isThereOn_35 ?_
          refine e_ireturn q_X4_isThereOn_36 rfl rfl ?_
          first | exact zqT h ⟨by omega, by omega, fun k hk q => c28 ⟨k, hk, q⟩⟩ | exact zqF h (fun q => by obtain ⟨q1, q2, q3⟩ := q; first | omega | (obtain ⟨k, hk, q4⟩ := c28; exact q3 k hk q4))
        · skip
          refine e_iconst q_X4_isThereOn_31 ?_
          refine e_goto q_X4_isThereOn_32 ?_
          refine e_ireturn q_X4_isThereOn_36 rfl rfl ?_
          first | exact zqT h ⟨by omega, by omega, fun k hk q => c28 ⟨k, hk, q⟩⟩ | exact zqF h (fun q => by obtain ⟨q1, q2, q3⟩ := q; first | omega | (obtain ⟨k, hk, q4⟩ := c28; exact q3 k hk q4))
end XS1
