/-! rolls, 1 (printed by wip/whole/gen/r13.py) -/
section RT13
variable {X : zX} {s : zK} {N : zN} {σ : zS} {fa sa : Int → Int} {Q K : Option Value → zS → Prop} {c : Int}
/-- what asking after one's group needs -/
def xW (s : zK) (N : zN) (fa sa : Int → Int) : Prop := zB0 s ∧ (∀ a j, zr (N a j)) ∧ mI N ∧ mOrd N ∧ xFs s N fa ∧ xSs s N sa
theorem xW.B (h : xW s N fa sa) : zB0 s := h.1
theorem xW.R (h : xW s N fa sa) : ∀ a j, zr (N a j) := h.2.1
theorem xW.m (h : xW s N fa sa) : mI N := h.2.2.1
theorem xW.C (h : xW s N fa sa) : mCnt N := h.2.2.1.2.1
theorem xW.ord (h : xW s N fa sa) : mOrd N := h.2.2.2.1
theorem xW.fs (h : xW s N fa sa) : xFs s N fa := h.2.2.2.2.1
theorem xW.ss (h : xW s N fa sa) : xSs s N sa := h.2.2.2.2.2
set_option maxRecDepth 20000 in
set_option maxHeartbeats 2000000 in
theorem xw_isDead (hI : xW s N fa sa) {i : Int} {a : Nat} (h0 : 0 ≤ i) (h1 : i < N 39 2) (hp : xPer s N fa sa i a) (h : Q (some (vi (bi (N 47 i ≠ 100000)))) (zI s N)) : zC X m_X4_isDead [.ref a] (zI s N) Q := by
  have hB := hI.B
  have hR := hI.R
  have hC := hI.C
  unfold mCnt at hC
  have hm := hI.m
  have hpp := hm.2.2.1 i h0 h1
  obtain ⟨p88, pA, p5, p0, p1, p2, p3, p4, p5f, p6, p7, p8, p9⟩ := hp
  show zE X m_X4_isDead 0 [.ref a] [] _ Q
  refine e_aload_n q_X4_isDead_0 (by decide) rfl ?_
  refine i_getI (k' := 6) q_X4_isDead_1 fl_X4_9 pA (cref0 (by omega) _) rfl rfl rfl ?_
  refine e_iconst q_X4_isDead_4 ?_
  refine e_icmp_eq q_X4_isDead_5 (by first | exact hR _ _ | (constructor <;> omega) | assumption) (by first | exact hR _ _ | (constructor <;> omega) | assumption) (fun c5 => ?_) (fun c5 => ?_)
  · skip
    refine e_iconst q_X4_isDead_12 ?_
    refine e_ireturn q_X4_isDead_13 rfl rfl ?_
    first | exact zqT h (by omega) | exact zqF h (by omega)
  · skip
    refine e_iconst q_X4_isDead_8 ?_
    refine e_goto q_X4_isDead_9 ?_
    refine e_ireturn q_X4_isDead_13 rfl rfl ?_
    first | exact zqT h (by omega) | exact zqF h (by omega)
set_option maxRecDepth 20000 in
set_option maxHeartbeats 2000000 in
theorem xw_isAwayOn (hI : xW s N fa sa) {i : Int} {a : Nat} (h0 : 0 ≤ i) (h1 : i < N 39 2) (hp : xPer s N fa sa i a) {d : Int} (hd : -1 ≤ d ∧ d ≤ 9999) (h : Q (some (vi (bi (∃ j : Nat, (j : Int) < N 39 10 ∧ N 48 j = i ∧ N 49 j ≤ d ∧ d < N 50 j)))) (zI s N)) : zC X m_X4_isAwayOn [.ref a, vi d] (zI s N) Q := by
  have hB := hI.B
  have hR := hI.R
  have hC := hI.C
  unfold mCnt at hC
  have hm := hI.m
  have hpp := hm.2.2.1 i h0 h1
  obtain ⟨p88, pA, p5, p0, p1, p2, p3, p4, p5f, p6, p7, p8, p9⟩ := hp
  show zE X m_X4_isAwayOn 0 [.ref a, vi d, zU] [] _ Q
  have hlb := lastF_b N i
  have key : ∀ (n : Nat) (k : Int), k < n → 0 ≤ k → k < N 39 10 → N 48 k = i → (∀ j : Int, k < j → j < N 39 10 → N 48 j = i → d < N 49 j) → ∀ b : Nat, xFlt s N fa k b → zE X m_X4_isAwayOn 5 [.ref a, vi d, .ref b] [] (zI s N) Q := by
    intro n
    induction n with
    | zero => intro k h1 h2; omega
    | succ n ih =>
      intro k hkn hk0 hk1 hkw hnx b hb
      obtain ⟨b88, bA, bf, b0, b1, b2⟩ := hb
      have hfl := hm.2.2.2.1 k hk0 hk1
      refine e_aload_n q_X4_isAwayOn_5 (by decide) rfl ?_
      refine e_ifnull q_X4_isAwayOn_6 ?_
      refine e_aload_n q_X4_isAwayOn_9 (by decide) rfl ?_
      refine i_getI (k' := 0) q_X4_isAwayOn_10 fl_X4_46 bA (cref0 (by omega) _) rfl rfl b0 ?_
      refine e_iload_n q_X4_isAwayOn_13 (by decide) rfl ?_
      refine e_icmp_gt q_X4_isAwayOn_14 (by first | exact hR _ _ | (constructor <;> omega) | assumption) (by first | exact hR _ _ | (constructor <;> omega) | assumption) (fun c14 => ?_) (fun c14 => ?_)
      · skip
        obtain ⟨hq0, hq1, hq3, hq4⟩ := fpv_p (N := N) hk0
        have hnx2 : ∀ j : Int, 0 ≤ j → fpv N k < j → j < N 39 10 → N 48 j = i → d < N 49 j := by
          intro j h0j h1j h2j h3j
          rcases Int.lt_trichotomy j k with hjk | hjk | hjk
          · exact absurd (by rw [h3j, hkw]) (hq4 j h0j h1j hjk)
          · rw [hjk]
            omega
          · exact hnx j hjk h2j h3j
        by_cases hq2 : 0 ≤ fpv N k
        · obtain ⟨c, hc⟩ := hI.fs.1 (fpv N k) hq2 (by omega)
          obtain ⟨c88, cA, cf, -⟩ := id hc
          have b1c : N b 1 = (c : Int) := by rw [b1, orZ_p hq2]; exact cf
          refine e_aload_n q_X4_isAwayOn_39 (by decide) rfl ?_
          refine i_getR (k' := 1) q_X4_isAwayOn_40 fl_X4_63 bA (cref0 (by omega) _) rfl rfl b1c (by omega) ?_
          refine e_astore_n (ls' := [_, _, _]) q_X4_isAwayOn_43 (by decide) rfl rfl ?_
          refine e_goto q_X4_isAwayOn_44 ?_
          exact ih (fpv N k) (by omega) hq2 (by omega) (by rw [hq3 hq2]; exact hkw) (fun j hj h1 h2 => hnx2 j (by omega) hj h1 h2) c hc
        · have b1z : N b 1 = 0 := by rw [b1, orZ_n (by omega)]
          refine e_aload_n q_X4_isAwayOn_39 (by decide) rfl ?_
          refine i_getN (k' := 1) q_X4_isAwayOn_40 fl_X4_63 bA (cref0 (by omega) _) rfl rfl (by omega) ?_
          refine e_astore_nN (ls' := [_, _, _]) q_X4_isAwayOn_43 (by decide) rfl rfl ?_
          refine e_goto q_X4_isAwayOn_44 ?_
          refine e_aload_nN q_X4_isAwayOn_5 (by decide) rfl ?_
          refine e_ifnullN q_X4_isAwayOn_6 ?_
          refine e_iconst q_X4_isAwayOn_47 ?_
          refine e_ireturn q_X4_isAwayOn_48 rfl rfl ?_
          exact zqF h (fun q => by obtain ⟨j, q1, q2, q3, q4⟩ := q; have := hnx2 j (by omega) (by omega) q1 q2; omega)
      · skip
        have hno : ∀ j : Nat, (j : Int) < N 39 10 → N 48 j = i → N 49 j ≤ d → d < N 50 j → (j : Int) = k := by
          intro j q1 q2 q3 q4
          rcases Int.lt_trichotomy (j : Int) k with hjk | hjk | hjk
          · have := hI.ord.1 j k (by omega) hjk hk1 (by rw [q2, hkw])
            omega
          · exact hjk
          · have := hnx j hjk q1 q2
            omega
        refine e_aload_n q_X4_isAwayOn_17 (by decide) rfl ?_
        refine i_getI (k' := 2) q_X4_isAwayOn_18 fl_X4_41 bA (cref0 (by omega) _) rfl rfl rfl ?_
        refine e_iconst q_X4_isAwayOn_21 ?_
        refine e_icmp_eq q_X4_isAwayOn_22 (by first | exact hR _ _ | (constructor <;> omega) | assumption) (by first | exact hR _ _ | (constructor <;> omega) | assumption) (fun c22 => ?_) (fun c22 => ?_)
        · skip
          refine e_iconst q_X4_isAwayOn_33 ?_
          refine e_goto q_X4_isAwayOn_34 ?_
          refine e_ireturn q_X4_isAwayOn_38 rfl rfl ?_
          first | exact zqT h ⟨k.toNat, by omega, by rw [z_cast hk0]; exact hkw, by rw [z_cast hk0]; omega, by rw [z_cast hk0]; omega⟩ | exact zqF h (fun q => by obtain ⟨j, q1, q2, q3, q4⟩ := q; have e := hno j q1 q2 q3 q4; rw [e] at q4; omega)
        · skip
          refine e_aload_n q_X4_isAwayOn_25 (by decide) rfl ?_
          refine i_getI (k' := 2) q_X4_isAwayOn_26 fl_X4_41 bA (cref0 (by omega) _) rfl rfl rfl ?_
          refine e_iload_n q_X4_isAwayOn_29 (by decide) rfl ?_
          refine e_icmp_le q_X4_isAwayOn_30 (by first | exact hR _ _ | (constructor <;> omega) | assumption) (by first | exact hR _ _ | (constructor <;> omega) | assumption) (fun c30 => ?_) (fun c30 => ?_)
          · skip
            refine e_iconst q_X4_isAwayOn_37 ?_
            refine e_ireturn q_X4_isAwayOn_38 rfl rfl ?_
            first | exact zqT h ⟨k.toNat, by omega, by rw [z_cast hk0]; exact hkw, by rw [z_cast hk0]; omega, by rw [z_cast hk0]; omega⟩ | exact zqF h (fun q => by obtain ⟨j, q1, q2, q3, q4⟩ := q; have e := hno j q1 q2 q3 q4; rw [e] at q4; omega)
          · skip
            refine e_iconst q_X4_isAwayOn_33 ?_
            refine e_goto q_X4_isAwayOn_34 ?_
            refine e_ireturn q_X4_isAwayOn_38 rfl rfl ?_
            first | exact zqT h ⟨k.toNat, by omega, by rw [z_cast hk0]; exact hkw, by rw [z_cast hk0]; omega, by rw [z_cast hk0]; omega⟩ | exact zqF h (fun q => by obtain ⟨j, q1, q2, q3, q4⟩ := q; have e := hno j q1 q2 q3 q4; rw [e] at q4; omega)
  by_cases hl : 0 ≤ lastF N i
  · skip
    obtain ⟨b, hb⟩ := hI.fs.1 (lastF N i) (by omega) (by omega)
    obtain ⟨b88, bA, bf, b0, b1, b2⟩ := hb
    have p8b : N a 8 = (b : Int) := by rw [p8, orZ_p hl]; exact bf
    refine e_aload_n q_X4_isAwayOn_0 (by decide) rfl ?_
    refine i_getR (k' := 8) q_X4_isAwayOn_1 fl_X4_37 pA (cref0 (by omega) _) rfl rfl p8b (by omega) ?_
    refine e_astore_n (ls' := [_, _, _]) q_X4_isAwayOn_4 (by decide) rfl rfl ?_
    exact key (N 39 10).toNat (lastF N i) (by omega) hl (by omega) (lastF_p hl).1 (fun j hj h1 h2 => absurd h2 ((lastF_p hl).2 j hj h1)) b ⟨b88, bA, bf, b0, b1, b2⟩
  · have p8z : N a 8 = 0 := by rw [p8, orZ_n (by omega)]
    refine e_aload_n q_X4_isAwayOn_0 (by decide) rfl ?_
    refine i_getN (k' := 8) q_X4_isAwayOn_1 fl_X4_37 pA (cref0 (by omega) _) rfl rfl (by omega) ?_
    refine e_astore_nN (ls' := [_, _, _]) q_X4_isAwayOn_4 (by decide) rfl rfl ?_
    refine e_aload_nN q_X4_isAwayOn_5 (by decide) rfl ?_
    refine e_ifnullN q_X4_isAwayOn_6 ?_
    refine e_iconst q_X4_isAwayOn_47 ?_
    refine e_ireturn q_X4_isAwayOn_48 rfl rfl ?_
    exact zqF h (fun q => by obtain ⟨j, q1, q2, q3, q4⟩ := q; exact lastF_none (by omega) j (by omega) q1 q2)
set_option maxRecDepth 20000 in
set_option maxHeartbeats 2000000 in
theorem xw_isThereOn (hI : xW s N fa sa) {i : Int} {a : Nat} (h0 : 0 ≤ i) (h1 : i < N 39 2) (hp : xPer s N fa sa i a) {d : Int} (hd : -1 ≤ d ∧ d ≤ 9999) (h : Q (some (vi (bi (tHere N i d)))) (zI s N)) : zC X m_X4_isThereOn [.ref a, vi d] (zI s N) Q := by
  have hB := hI.B
  have hR := hI.R
  have hC := hI.C
  unfold mCnt at hC
  have hm := hI.m
  have hpp := hm.2.2.1 i h0 h1
  obtain ⟨p88, pA, p5, p0, p1, p2, p3, p4, p5f, p6, p7, p8, p9⟩ := hp
  show zE X m_X4_isThereOn 0 [.ref a, vi d] [] _ Q
  refine e_iload_n q_X4_isThereOn_0 (by decide) rfl ?_
  refine e_aload_n q_X4_isThereOn_1 (by decide) rfl ?_
  refine i_getI (k' := 1) q_X4_isThereOn_2 fl_X4_21 pA (cref0 (by omega) _) rfl rfl p1 ?_
  refine e_icmp_lt q_X4_isThereOn_5 (by first | exact hR _ _ | (constructor <;> omega) | assumption) (by first | exact hR _ _ | (constructor <;> omega) | assumption) (fun c5 => ?_) (fun c5 => ?_)
  · skip
    refine e_iconst q_X4_isThereOn_35 ?_
    refine e_ireturn q_X4_isThereOn_36 rfl rfl ?_
    first | exact zqT h ⟨by omega, by omega, fun k hk q => c28 ⟨k, hk, q⟩⟩ | exact zqF h (fun q => by obtain ⟨q1, q2, q3⟩ := q; first | omega | (obtain ⟨k, hk, q4⟩ := c28; exact q3 k hk q4))
  · skip
    refine e_aload_n q_X4_isThereOn_8 (by decide) rfl ?_
    refine iv_X4_isDead q_X4_isThereOn_9 lk_X4_55 (by decide) pA (Nat.le_of_ble_eq_true rfl) ?_
    refine xw_isDead hI h0 h1 ⟨p88, pA, p5, p0, p1, p2, p3, p4, p5f, p6, p7, p8, p9⟩ ?_
    refine e_ifb_eq q_X4_isThereOn_12 (fun c12 => ?_) (fun c12 => ?_)
    · skip
      refine e_aload_n q_X4_isThereOn_23 (by decide) rfl ?_
      refine e_iload_n q_X4_isThereOn_24 (by decide) rfl ?_
      refine iv_X4_isAwayOn q_X4_isThereOn_25 lk_X4_59 (by decide) pA (Nat.le_of_ble_eq_true rfl) ?_
      refine xw_isAwayOn hI h0 h1 ⟨p88, pA, p5, p0, p1, p2, p3, p4, p5f, p6, p7, p8, p9⟩ hd ?_
      refine e_ifb_ne q_X4_isThereOn_28 (fun c28 => ?_) (fun c28 => ?_)
      · skip
        refine e_iconst q_X4_isThereOn_35 ?_
        refine e_ireturn q_X4_isThereOn_36 rfl rfl ?_
        first | exact zqT h ⟨by omega, by omega, fun k hk q => c28 ⟨k, hk, q⟩⟩ | exact zqF h (fun q => by obtain ⟨q1, q2, q3⟩ := q; first | omega | (obtain ⟨k, hk, q4⟩ := c28; exact q3 k hk q4))
      · skip
        refine e_iconst q_X4_isThereOn_31 ?_
        refine e_goto q_X4_isThereOn_32 ?_
        refine e_ireturn q_X4_isThereOn_36 rfl rfl ?_
        first | exact zqT h ⟨by omega, by omega, fun k hk q => c28 ⟨k, hk, q⟩⟩ | exact zqF h (fun q => by obtain ⟨q1, q2, q3⟩ := q; first | omega | (obtain ⟨k, hk, q4⟩ := c28; exact q3 k hk q4))
    · skip
      refine e_iload_n q_X4_isThereOn_15 (by decide) rfl ?_
      refine e_aload_n q_X4_isThereOn_16 (by decide) rfl ?_
      refine i_getI (k' := 6) q_X4_isThereOn_17 fl_X4_9 pA (cref0 (by omega) _) rfl rfl rfl ?_
      refine e_icmp_gt q_X4_isThereOn_20 (by first | exact hR _ _ | (constructor <;> omega) | assumption) (by first | exact hR _ _ | (constructor <;> omega) | assumption) (fun c20 => ?_) (fun c20 => ?_)
      · skip
        refine e_iconst q_X4_isThereOn_35 ?_
        refine e_ireturn q_X4_isThereOn_36 rfl rfl ?_
        first | exact zqT h ⟨by omega, by omega, fun k hk q => c28 ⟨k, hk, q⟩⟩ | exact zqF h (fun q => by obtain ⟨q1, q2, q3⟩ := q; first | omega | (obtain ⟨k, hk, q4⟩ := c28; exact q3 k hk q4))
      · skip
        refine e_aload_n q_X4_isThereOn_23 (by decide) rfl ?_
        refine e_iload_n q_X4_isThereOn_24 (by decide) rfl ?_
        refine iv_X4_isAwayOn q_X4_isThereOn_25 lk_X4_59 (by decide) pA (Nat.le_of_ble_eq_true rfl) ?_
        refine xw_isAwayOn hI h0 h1 ⟨p88, pA, p5, p0, p1, p2, p3, p4, p5f, p6, p7, p8, p9⟩ hd ?_
        refine e_ifb_ne q_X4_isThereOn_28 (fun c28 => ?_) (fun c28 => ?_)
        · skip
          refine e_iconst q_X4_isThereOn_35 ?_
          refine e_ireturn q_X4_isThereOn_36 rfl rfl ?_
          first | exact zqT h ⟨by omega, by omega, fun k hk q => c28 ⟨k, hk, q⟩⟩ | exact zqF h (fun q => by obtain ⟨q1, q2, q3⟩ := q; first | omega | (obtain ⟨k, hk, q4⟩ := c28; exact q3 k hk q4))
        · skip
          refine e_iconst q_X4_isThereOn_31 ?_
          refine e_goto q_X4_isThereOn_32 ?_
          refine e_ireturn q_X4_isThereOn_36 rfl rfl ?_
          first | exact zqT h ⟨by omega, by omega, fun k hk q => c28 ⟨k, hk, q⟩⟩ | exact zqF h (fun q => by obtain ⟨q1, q2, q3⟩ := q; first | omega | (obtain ⟨k, hk, q4⟩ := c28; exact q3 k hk q4))
set_option maxRecDepth 20000 in
set_option maxHeartbeats 2000000 in
theorem xw_spellOn (hI : xW s N fa sa) {i : Int} {a : Nat} (h0 : 0 ≤ i) (h1 : i < N 39 2) (hp : xPer s N fa sa i a) {d : Int} (hd : -1 ≤ d ∧ d ≤ 9999) (hN : spA N i d < 0 → Q (some .null) (zI s N)) (hS : ∀ b : Nat, 0 ≤ spA N i d → xSpl s N sa (spA N i d) b → Q (some (.ref b)) (zI s N)) : zC X m_X4_spellOn [.ref a, vi d] (zI s N) Q := by
  have hB := hI.B
  have hR := hI.R
  have hC := hI.C
  unfold mCnt at hC
  have hm := hI.m
  have hpp := hm.2.2.1 i h0 h1
  obtain ⟨p88, pA, p5, p0, p1, p2, p3, p4, p5f, p6, p7, p8, p9⟩ := hp
  show zE X m_X4_spellOn 0 [.ref a, vi d, zU, zU] [] _ Q
  have hlb := lastS_b N i
  have key : ∀ (n : Nat) (k : Int), k < n → 0 ≤ k → k < N 39 31 → N 59 k = i → (∀ j : Int, k < j → j < N 39 31 → N 59 j = i → d < N 61 j) → ∀ b : Nat, xSpl s N sa k b → zE X m_X4_spellOn 5 [.ref a, vi d, .ref b, zU] [] (zI s N) Q := by
    intro n
    induction n with
    | zero => intro k h1 h2; omega
    | succ n ih =>
      intro k hkn hk0 hk1 hkw hnx b hb
      obtain ⟨b88, bA, bf, b0, b1, b2, b3⟩ := hb
      have hfl := hm.2.2.2.2.1 k hk0 hk1
      refine e_aload_n q_X4_spellOn_5 (by decide) rfl ?_
      refine e_ifnull q_X4_spellOn_6 ?_
      refine e_aload_n q_X4_spellOn_9 (by decide) rfl ?_
      refine i_getI (k' := 1) q_X4_spellOn_10 fl_X4_75 bA (cref0 (by omega) _) rfl rfl b1 ?_
      refine e_iload_n q_X4_spellOn_13 (by decide) rfl ?_
      refine e_icmp_gt q_X4_spellOn_14 (by first | exact hR _ _ | (constructor <;> omega) | assumption) (by first | exact hR _ _ | (constructor <;> omega) | assumption) (fun c14 => ?_) (fun c14 => ?_)
      · skip
        obtain ⟨hq0, hq1, hq3, hq4⟩ := spv_p (N := N) hk0
        have hnx2 : ∀ j : Int, 0 ≤ j → spv N k < j → j < N 39 31 → N 59 j = i → d < N 61 j := by
          intro j h0j h1j h2j h3j
          rcases Int.lt_trichotomy j k with hjk | hjk | hjk
          · exact absurd (by rw [h3j, hkw]) (hq4 j h0j h1j hjk)
          · rw [hjk]
            omega
          · exact hnx j hjk h2j h3j
        by_cases hq2 : 0 ≤ spv N k
        · obtain ⟨c, hc⟩ := hI.ss.1 (spv N k) hq2 (by omega)
          obtain ⟨c88, cA, cf, -⟩ := id hc
          have b2c : N b 2 = (c : Int) := by rw [b2, orZ_p hq2]; exact cf
          refine e_aload_n q_X4_spellOn_57 (by decide) rfl ?_
          refine i_getR (k' := 2) q_X4_spellOn_58 fl_X4_79 bA (cref0 (by omega) _) rfl rfl b2c (by omega) ?_
          refine e_astore_n (ls' := [_, _, _, _]) q_X4_spellOn_61 (by decide) rfl rfl ?_
          refine e_goto q_X4_spellOn_62 ?_
          exact ih (spv N k) (by omega) hq2 (by omega) (by rw [hq3 hq2]; exact hkw) (fun j hj h1 h2 => hnx2 j (by omega) hj h1 h2) c hc
        · have b2z : N b 2 = 0 := by rw [b2, orZ_n (by omega)]
          refine e_aload_n q_X4_spellOn_57 (by decide) rfl ?_
          refine i_getN (k' := 2) q_X4_spellOn_58 fl_X4_79 bA (cref0 (by omega) _) rfl rfl (by omega) ?_
          refine e_astore_nN (ls' := [_, _, _, _]) q_X4_spellOn_61 (by decide) rfl rfl ?_
          refine e_goto q_X4_spellOn_62 ?_
          refine e_aload_nN q_X4_spellOn_5 (by decide) rfl ?_
          refine e_ifnullN q_X4_spellOn_6 ?_
          refine e_null q_X4_spellOn_65 ?_
          refine e_areturn q_X4_spellOn_66 rfl (Or.inl ⟨_, rfl⟩) (Or.inl rfl) ?_
          exact hN (spA_no (fun _ j q1 q => by have := hnx2 j (by omega) (by omega) q1 q.1; omega))
      · skip
        have hno : ∀ j : Nat, (j : Int) < N 39 31 → N 59 j = i ∧ N 61 j ≤ d ∧ d < N 62 j → (j : Int) = k := by
          intro j q1 q
          obtain ⟨q2, q3, q4⟩ := q
          rcases Int.lt_trichotomy (j : Int) k with hjk | hjk | hjk
          · have := hI.ord.2 j k (by omega) hjk hk1 (by rw [q2, hkw])
            omega
          · exact hjk
          · have := hnx j hjk q1 q2
            omega
        refine e_aload_n q_X4_spellOn_17 (by decide) rfl ?_
        refine i_getI (k' := 3) q_X4_spellOn_18 fl_X4_70 bA (cref0 (by omega) _) rfl rfl rfl ?_
        refine e_iconst q_X4_spellOn_21 ?_
        refine e_icmp_eq q_X4_spellOn_22 (by first | exact hR _ _ | (constructor <;> omega) | assumption) (by first | exact hR _ _ | (constructor <;> omega) | assumption) (fun c22 => ?_) (fun c22 => ?_)
        · skip
          refine e_iconst q_X4_spellOn_33 ?_
          refine e_goto q_X4_spellOn_34 ?_
          refine e_istore_n (ls' := [_, _, _, _]) q_X4_spellOn_38 (by decide) rfl rfl ?_
          refine e_iload_n q_X4_spellOn_39 (by decide) rfl ?_
          refine e_if_eq q_X4_spellOn_40 (by first | exact hR _ _ | (constructor <;> omega) | assumption) (fun c40 => ?_) (fun c40 => ?_)
          · skip
            refine e_null q_X4_spellOn_55 ?_
            refine e_areturn q_X4_spellOn_56 rfl (Or.inl ⟨_, rfl⟩) (Or.inl rfl) ?_
            exact hN (spA_no (fun ht j q1 q => by have e := hno j q1 q; rw [e] at q; first | exact c48 ht | omega))
          · skip
            refine e_aload_n q_X4_spellOn_43 (by decide) rfl ?_
            refine e_iload_n q_X4_spellOn_44 (by decide) rfl ?_
            refine iv_X4_isThereOn q_X4_spellOn_45 lk_X4_76 (by decide) pA (Nat.le_of_ble_eq_true rfl) ?_
            refine xw_isThereOn hI h0 h1 ⟨p88, pA, p5, p0, p1, p2, p3, p4, p5f, p6, p7, p8, p9⟩ hd ?_
            refine e_ifb_eq q_X4_spellOn_48 (fun c48 => ?_) (fun c48 => ?_)
            · skip
              refine e_null q_X4_spellOn_55 ?_
              refine e_areturn q_X4_spellOn_56 rfl (Or.inl ⟨_, rfl⟩) (Or.inl rfl) ?_
              exact hN (spA_no (fun ht j q1 q => by have e := hno j q1 q; rw [e] at q; first | exact c48 ht | omega))
            · skip
              refine e_aload_n q_X4_spellOn_51 (by decide) rfl ?_
              refine e_goto q_X4_spellOn_52 ?_
              refine e_areturn q_X4_spellOn_56 rfl (Or.inl ⟨_, rfl⟩) (Or.inr ⟨_, rfl⟩) ?_
              have e : spA N i d = k := spA_at k hk0 hk1 c48 ⟨hkw, by omega, by omega⟩ hno
              exact hS b (by omega) (by rw [e]; exact ⟨b88, bA, bf, b0, b1, b2, b3⟩)
        · skip
          refine e_iload_n q_X4_spellOn_25 (by decide) rfl ?_
          refine e_aload_n q_X4_spellOn_26 (by decide) rfl ?_
          refine i_getI (k' := 3) q_X4_spellOn_27 fl_X4_70 bA (cref0 (by omega) _) rfl rfl rfl ?_
          refine e_icmp_ge q_X4_spellOn_30 (by first | exact hR _ _ | (constructor <;> omega) | assumption) (by first | exact hR _ _ | (constructor <;> omega) | assumption) (fun c30 => ?_) (fun c30 => ?_)
          · skip
            refine e_iconst q_X4_spellOn_37 ?_
            refine e_istore_n (ls' := [_, _, _, _]) q_X4_spellOn_38 (by decide) rfl rfl ?_
            refine e_iload_n q_X4_spellOn_39 (by decide) rfl ?_
            refine e_if_eq q_X4_spellOn_40 (by first | exact hR _ _ | (constructor <;> omega) | assumption) (fun c40 => ?_) (fun c40 => ?_)
            · skip
              refine e_null q_X4_spellOn_55 ?_
              refine e_areturn q_X4_spellOn_56 rfl (Or.inl ⟨_, rfl⟩) (Or.inl rfl) ?_
              exact hN (spA_no (fun ht j q1 q => by have e := hno j q1 q; rw [e] at q; first | exact c48 ht | omega))
            · skip
              refine e_aload_n q_X4_spellOn_43 (by decide) rfl ?_
              refine e_iload_n q_X4_spellOn_44 (by decide) rfl ?_
              refine iv_X4_isThereOn q_X4_spellOn_45 lk_X4_76 (by decide) pA (Nat.le_of_ble_eq_true rfl) ?_
              refine xw_isThereOn hI h0 h1 ⟨p88, pA, p5, p0, p1, p2, p3, p4, p5f, p6, p7, p8, p9⟩ hd ?_
              refine e_ifb_eq q_X4_spellOn_48 (fun c48 => ?_) (fun c48 => ?_)
              · skip
                refine e_null q_X4_spellOn_55 ?_
                refine e_areturn q_X4_spellOn_56 rfl (Or.inl ⟨_, rfl⟩) (Or.inl rfl) ?_
                exact hN (spA_no (fun ht j q1 q => by have e := hno j q1 q; rw [e] at q; first | exact c48 ht | omega))
              · skip
                refine e_aload_n q_X4_spellOn_51 (by decide) rfl ?_
                refine e_goto q_X4_spellOn_52 ?_
                refine e_areturn q_X4_spellOn_56 rfl (Or.inl ⟨_, rfl⟩) (Or.inr ⟨_, rfl⟩) ?_
                have e : spA N i d = k := spA_at k hk0 hk1 c48 ⟨hkw, by omega, by omega⟩ hno
                exact hS b (by omega) (by rw [e]; exact ⟨b88, bA, bf, b0, b1, b2, b3⟩)
          · skip
            refine e_iconst q_X4_spellOn_33 ?_
            refine e_goto q_X4_spellOn_34 ?_
            refine e_istore_n (ls' := [_, _, _, _]) q_X4_spellOn_38 (by decide) rfl rfl ?_
            refine e_iload_n q_X4_spellOn_39 (by decide) rfl ?_
            refine e_if_eq q_X4_spellOn_40 (by first | exact hR _ _ | (constructor <;> omega) | assumption) (fun c40 => ?_) (fun c40 => ?_)
            · skip
              refine e_null q_X4_spellOn_55 ?_
              refine e_areturn q_X4_spellOn_56 rfl (Or.inl ⟨_, rfl⟩) (Or.inl rfl) ?_
              exact hN (spA_no (fun ht j q1 q => by have e := hno j q1 q; rw [e] at q; first | exact c48 ht | omega))
            · skip
              refine e_aload_n q_X4_spellOn_43 (by decide) rfl ?_
              refine e_iload_n q_X4_spellOn_44 (by decide) rfl ?_
              refine iv_X4_isThereOn q_X4_spellOn_45 lk_X4_76 (by decide) pA (Nat.le_of_ble_eq_true rfl) ?_
              refine xw_isThereOn hI h0 h1 ⟨p88, pA, p5, p0, p1, p2, p3, p4, p5f, p6, p7, p8, p9⟩ hd ?_
              refine e_ifb_eq q_X4_spellOn_48 (fun c48 => ?_) (fun c48 => ?_)
              · skip
                refine e_null q_X4_spellOn_55 ?_
                refine e_areturn q_X4_spellOn_56 rfl (Or.inl ⟨_, rfl⟩) (Or.inl rfl) ?_
                exact hN (spA_no (fun ht j q1 q => by have e := hno j q1 q; rw [e] at q; first | exact c48 ht | omega))
              · skip
                refine e_aload_n q_X4_spellOn_51 (by decide) rfl ?_
                refine e_goto q_X4_spellOn_52 ?_
                refine e_areturn q_X4_spellOn_56 rfl (Or.inl ⟨_, rfl⟩) (Or.inr ⟨_, rfl⟩) ?_
                have e : spA N i d = k := spA_at k hk0 hk1 c48 ⟨hkw, by omega, by omega⟩ hno
                exact hS b (by omega) (by rw [e]; exact ⟨b88, bA, bf, b0, b1, b2, b3⟩)
  by_cases hl : 0 ≤ lastS N i
  · skip
    obtain ⟨b, hb⟩ := hI.ss.1 (lastS N i) (by omega) (by omega)
    obtain ⟨b88, bA, bf, b0, b1, b2, b3⟩ := hb
    have p9b : N a 9 = (b : Int) := by rw [p9, orZ_p hl]; exact bf
    have hsl := hm.2.2.2.2.1 (lastS N i) hl (by omega)
    refine e_aload_n q_X4_spellOn_0 (by decide) rfl ?_
    refine i_getR (k' := 9) q_X4_spellOn_1 fl_X4_66 pA (cref0 (by omega) _) rfl rfl p9b (by omega) ?_
    refine e_astore_n (ls' := [_, _, _, _]) q_X4_spellOn_4 (by decide) rfl rfl ?_
    exact key (N 39 31).toNat (lastS N i) (by omega) hl (by omega) (lastS_p hl).1 (fun j hj h1 h2 => absurd h2 ((lastS_p hl).2 j hj h1)) b ⟨b88, bA, bf, b0, b1, b2, b3⟩
  · have p9z : N a 9 = 0 := by rw [p9, orZ_n (by omega)]
    refine e_aload_n q_X4_spellOn_0 (by decide) rfl ?_
    refine i_getN (k' := 9) q_X4_spellOn_1 fl_X4_66 pA (cref0 (by omega) _) rfl rfl (by omega) ?_
    refine e_astore_nN (ls' := [_, _, _, _]) q_X4_spellOn_4 (by decide) rfl rfl ?_
    refine e_aload_nN q_X4_spellOn_5 (by decide) rfl ?_
    refine e_ifnullN q_X4_spellOn_6 ?_
    refine e_null q_X4_spellOn_65 ?_
    refine e_areturn q_X4_spellOn_66 rfl (Or.inl ⟨_, rfl⟩) (Or.inl rfl) ?_
    exact hN (spA_no (fun _ j q1 q => lastS_none (by omega) j (by omega) q1 q.1))
set_option maxRecDepth 20000 in
set_option maxHeartbeats 2000000 in
theorem xw_groupOn (hI : xW s N fa sa) {i : Int} {a : Nat} (h0 : 0 ≤ i) (h1 : i < N 39 2) (hp : xPer s N fa sa i a) {d : Int} (hd : -1 ≤ d ∧ d ≤ 9999) (h : Q (some (vi (gOn N i d))) (zI s N)) : zC X m_X4_groupOn [.ref a, vi d] (zI s N) Q := by
  have hB := hI.B
  have hR := hI.R
  have hC := hI.C
  unfold mCnt at hC
  have hm := hI.m
  have hpp := hm.2.2.1 i h0 h1
  obtain ⟨p88, pA, p5, p0, p1, p2, p3, p4, p5f, p6, p7, p8, p9⟩ := hp
  show zE X m_X4_groupOn 0 [.ref a, vi d, zU] [] _ Q
  refine e_aload_n q_X4_groupOn_0 (by decide) rfl ?_
  refine e_iload_n q_X4_groupOn_1 (by decide) rfl ?_
  refine iv_X4_spellOn q_X4_groupOn_2 lk_X4_81 (by decide) pA (Nat.le_of_ble_eq_true rfl) ?_
  refine xw_spellOn hI h0 h1 ⟨p88, pA, p5, p0, p1, p2, p3, p4, p5f, p6, p7, p8, p9⟩ hd (fun hs => ?_) (fun b hs hb => ?_)
  · skip
    refine e_astore_nN (ls' := [_, _, _]) q_X4_groupOn_5 (by decide) rfl rfl ?_
    refine e_aload_nN q_X4_groupOn_6 (by decide) rfl ?_
    refine e_ifnonnullN q_X4_groupOn_7 ?_
    refine e_bipush q_X4_groupOn_10 (by decide) ?_
    refine e_goto q_X4_groupOn_12 ?_
    refine e_ireturn q_X4_groupOn_19 rfl rfl ?_
    first | exact zqI h (if_pos hs) | exact zqI h (if_neg (by omega))
  · skip
    obtain ⟨b88, bA, bf, b0, b1, b2, b3⟩ := hb
    refine e_astore_n (ls' := [_, _, _]) q_X4_groupOn_5 (by decide) rfl rfl ?_
    refine e_aload_n q_X4_groupOn_6 (by decide) rfl ?_
    refine e_ifnonnull q_X4_groupOn_7 ?_
    refine e_aload_n q_X4_groupOn_15 (by decide) rfl ?_
    refine i_getI (k' := 0) q_X4_groupOn_16 fl_X4_85 bA (cref0 (by omega) _) rfl rfl b0 ?_
    refine e_ireturn q_X4_groupOn_19 rfl rfl ?_
    first | exact zqI h (if_pos hs) | exact zqI h (if_neg (by omega))
def itm (N : zN) (j i : Int) : Int := N 84 (20 * j + i)
noncomputable def rlK (N : zN) (j n : Int) (k : Nat) : Int := cnt (fun m : Nat => itm N j m = n) k
noncomputable def nmK (N : zN) (g d n : Int) (k : Nat) : Int := cnt (fun w : Nat => memb N w g d ∧ N 43 w = n) k
def rB (N : zN) (j : Int) (i l k : Nat) (N1 : zN) : Prop := (∀ a : Nat, a ≠ 21 → a ≠ 22 → a ≠ 23 → a ≠ 24 → N1 a = N a) ∧ N1 21 3 = 1 ∧ (∀ n : Int, 0 ≤ n → n < i → N1 22 n = rlK N j n k ∧ N1 23 n = 0) ∧ (∀ w : Int, 0 ≤ w → w < l → N1 24 w = 0) ∧ ∀ a x, zr (N1 a x)
def rD (N : zN) (j g d : Int) (i : Nat) (N1 : zN) : Prop := (∀ a : Nat, a ≠ 21 → a ≠ 22 → a ≠ 23 → a ≠ 24 → N1 a = N a) ∧ N1 21 3 = 1 ∧ (∀ n : Int, 0 ≤ n → n < 40 → N1 22 n = rlK N j n (N 83 j).toNat ∧ N1 23 n = nmK N g d n i) ∧ (∀ w : Int, 0 ≤ w → w < 48 → N1 24 w = bi (w < i ∧ memb N w g d)) ∧ ∀ a x, zr (N1 a x)
theorem zr_mup {N1 : zN} {a : Nat} {i x : Int} (h : ∀ a x, zr (N1 a x)) (hx : zr x) : ∀ b j, zr (mup N1 a i x b j) := fun b j => by
  by_cases q : b = a ∧ j = i
  · rw [q.1, q.2, mup_self]; exact hx
  · rw [mup_ne q]; exact h b j
set_option maxRecDepth 20000 in
set_option maxHeartbeats 2000000 in
theorem xr_rbegin (hB : zB0 s) (hR : ∀ a j, zr (N a j)) {j : Int} {a : Nat} (hj : 0 ≤ j ∧ j ≤ 3) (hs : xShA s N j a) (hits : ∀ i : Int, 0 ≤ i → i < N 83 j → 0 ≤ itm N j i ∧ itm N j i ≤ 39) (h : ∀ N1, rB N j 40 48 (N 83 j).toNat N1 → Q none (zI s N1)) : zC X m_X6_begin [.ref 21, .ref a] (zI s N) Q := by
  obtain ⟨sa0, sA, sB, sc0, sc1, scB, s20, s1, s2, s3, s4⟩ := id hs
  show zE X m_X6_begin 0 [.ref 21, .ref a, zU, zU] [] _ Q
  refine e_aload_n q_X6_begin_0 (by decide) rfl ?_
  refine e_iconst q_X6_begin_1 ?_
  refine i_putI (k' := 3) q_X6_begin_2 fl_X6_22 (Or.inl rfl) (a21 hB) rfl rfl rfl rfl rfl ?_
  refine e_iconst q_X6_begin_5 ?_
  refine e_istore_n (ls' := [_, _, _, _]) q_X6_begin_6 (by decide) rfl rfl ?_
  refine zEe (ls := [.ref 21, .ref a, vi ((0 : Nat) : Int), zU]) (σ := zI s (mup N 21 3 1)) ?_ rfl rfl
  refine z_for (P := fun i => ∀ (N2 : zN), (rB N j i 0 0 N2) → zE X m_X6_begin 7 [.ref 21, .ref a, vi (i : Int), zU] [] (zI s N2) Q) 40 (fun i hi ih N2 hv => ?_) (fun N2 hv => ?_) _ ⟨fun a0 h1 _ _ _ => mup_fn h1, mup_self _ _ _ _, fun n h1 h2 => by omega, fun x h1 h2 => by omega, zr_mup hR (by constructor <;> omega)⟩
  · skip
    refine e_iload_n q_X6_begin_7 (by decide) rfl ?_
    refine e_bipush q_X6_begin_8 (by decide) ?_
    refine e_icmp_ge q_X6_begin_10 (by first | exact hR _ _ | (constructor <;> omega) | assumption) (by first | exact hR _ _ | (constructor <;> omega) | assumption) (fun c10 => ?_) (fun c10 => ?_)
    · skip
      exact absurd c10 (by omega)
    · skip
      refine e_aload_n q_X6_begin_13 (by decide) rfl ?_
      refine i_getC (r := 22) q_X6_begin_14 fl_X6_9 (a21 hB) rfl (by decide) ?_
      refine e_iload_n q_X6_begin_17 (by decide) rfl ?_
      refine e_iconst q_X6_begin_18 ?_
      refine i_iast q_X6_begin_19 (a22 hB) (fun _ => rfl) (by first | omega | assumption) (by first | omega | assumption) (by decide) ?_
      refine e_aload_n q_X6_begin_20 (by decide) rfl ?_
      refine i_getC (r := 23) q_X6_begin_21 fl_X6_15 (a21 hB) rfl (by decide) ?_
      refine e_iload_n q_X6_begin_24 (by decide) rfl ?_
      refine e_iconst q_X6_begin_25 ?_
      refine i_iast q_X6_begin_26 (a23 hB) (fun _ => rfl) (by first | omega | assumption) (by first | omega | assumption) (by decide) ?_
      refine e_iinc (ls' := [_, _, _, _]) q_X6_begin_27 (by decide) rfl rfl rfl ?_
      refine e_goto q_X6_begin_30 ?_
      refine ih _ ⟨fun a0 h1 h2 h3 h4 => ?_, ?_, fun n h1 h2 => ?_, fun x h1 h2 => by omega, zr_mup (zr_mup hv.2.2.2.2 (by constructor <;> omega)) (by constructor <;> omega)⟩
      · rw [mup_fn h3, mup_fn h2]; exact hv.1 a0 h1 h2 h3 h4
      · rw [mup_cell (by decide), mup_cell (by decide)]; exact hv.2.1
      · by_cases hn : n = i
        · rw [hn, mup_cell (by decide), mup_self, mup_self]; exact ⟨rfl, rfl⟩
        · rw [mup_cell (by decide), mup_slot hn, mup_slot hn, mup_cell (by decide)]; exact hv.2.2.1 n h1 (by omega)
  · skip
    refine e_iload_n q_X6_begin_7 (by decide) rfl ?_
    refine e_bipush q_X6_begin_8 (by decide) ?_
    refine e_icmp_ge q_X6_begin_10 (by first | exact hR _ _ | (constructor <;> omega) | assumption) (by first | exact hR _ _ | (constructor <;> omega) | assumption) (fun c10 => ?_) (fun c10 => ?_)
    · skip
      have hb1 := hv
      refine e_iconst q_X6_begin_33 ?_
      refine e_istore_n (ls' := [_, _, _, _]) q_X6_begin_34 (by decide) rfl rfl ?_
      refine zEe (ls := [.ref 21, .ref a, vi ((0 : Nat) : Int), zU]) (σ := zI s N2) ?_ rfl rfl
      refine z_for (P := fun i => ∀ (N2 : zN), (rB N j 40 i 0 N2) → zE X m_X6_begin 35 [.ref 21, .ref a, vi (i : Int), zU] [] (zI s N2) Q) 48 (fun i hi ih N2 hv => ?_) (fun N2 hv => ?_) N2 hb1
      · skip
        refine e_iload_n q_X6_begin_35 (by decide) rfl ?_
        refine e_bipush q_X6_begin_36 (by decide) ?_
        refine e_icmp_ge q_X6_begin_38 (by first | exact hR _ _ | (constructor <;> omega) | assumption) (by first | exact hR _ _ | (constructor <;> omega) | assumption) (fun c38 => ?_) (fun c38 => ?_)
        · skip
          exact absurd c38 (by omega)
        · skip
          refine e_aload_n q_X6_begin_41 (by decide) rfl ?_
          refine i_getC (r := 24) q_X6_begin_42 fl_X6_18 (a21 hB) rfl (by decide) ?_
          refine e_iload_n q_X6_begin_45 (by decide) rfl ?_
          refine e_iconst q_X6_begin_46 ?_
          refine i_zast q_X6_begin_47 (a24 hB) (fun _ => rfl) (by first | omega | assumption) (by first | omega | assumption) (by decide) rfl ?_
          refine e_iinc (ls' := [_, _, _, _]) q_X6_begin_48 (by decide) rfl rfl rfl ?_
          refine e_goto q_X6_begin_51 ?_
          refine ih _ ⟨fun a0 h1 h2 h3 h4 => ?_, ?_, fun n h1 h2 => ?_, fun x h1 h2 => ?_, zr_mup hv.2.2.2.2 (by constructor <;> omega)⟩
          · rw [mup_fn h4]; exact hv.1 a0 h1 h2 h3 h4
          · rw [mup_cell (by decide)]; exact hv.2.1
          · rw [mup_cell (by decide), mup_cell (by decide)]; exact hv.2.2.1 n h1 h2
          · by_cases hx : x = i
            · rw [hx, mup_self]
            · rw [mup_slot hx]; exact hv.2.2.2.1 x h1 (by omega)
      · skip
        refine e_iload_n q_X6_begin_35 (by decide) rfl ?_
        refine e_bipush q_X6_begin_36 (by decide) ?_
        refine e_icmp_ge q_X6_begin_38 (by first | exact hR _ _ | (constructor <;> omega) | assumption) (by first | exact hR _ _ | (constructor <;> omega) | assumption) (fun c38 => ?_) (fun c38 => ?_)
        · skip
          have hb2 := hv
          refine e_iconst q_X6_begin_54 ?_
          refine e_istore_n (ls' := [_, _, _, _]) q_X6_begin_55 (by decide) rfl rfl ?_
          refine zEe (ls := [.ref 21, .ref a, vi ((0 : Nat) : Int), zU]) (σ := zI s N2) ?_ rfl rfl
          refine z_for (P := fun i => ∀ (N1 : zN) (u3 : Value), (rB N j 40 48 i N1) → zE X m_X6_begin 56 [.ref 21, .ref a, vi (i : Int), u3] [] (zI s N1) Q) (N 83 j).toNat (fun i hi ih N1 u3 hv => ?_) (fun N1 u3 hv => ?_) N2 zU hb2
          · skip
            have hit : 0 ≤ itm N j i ∧ itm N j i ≤ 39 := hits i (by omega) (by omega)
            refine e_iload_n q_X6_begin_56 (by decide) rfl ?_
            refine e_aload_n q_X6_begin_57 (by decide) rfl ?_
            refine i_getI (k' := 2) q_X6_begin_58 fl_X6_26 sA (sc1 _ (by decide)) rfl rfl ((congrFun (hv.1 a (by omega) (by omega) (by omega) (by omega)) 2).trans s2) ?_
            refine e_icmp_ge q_X6_begin_61 (by first | exact hR _ _ | (constructor <;> omega) | assumption) (by first | exact hR _ _ | (constructor <;> omega) | assumption) (fun c61 => ?_) (fun c61 => ?_)
            · skip
              exact absurd c61 (by omega)
            · skip
              refine e_aload_n q_X6_begin_64 (by decide) rfl ?_
              refine i_getC (r := a + 1) q_X6_begin_65 fl_X6_32 sA sc0 (by omega) ?_
              refine e_iload_n q_X6_begin_68 (by decide) rfl ?_
              refine i_iald q_X6_begin_69 sB scB (by first | omega | assumption) (by first | omega | assumption) (by decide) (show N1 (a + 1) i = itm N j i from (congrFun (hv.1 (a + 1) (by omega) (by omega) (by omega) (by omega)) i).trans (s4 i (by omega) (by omega))) ?_
              refine e_istore_n (ls' := [_, _, _, _]) q_X6_begin_70 (by decide) rfl rfl ?_
              refine e_iload_n q_X6_begin_71 (by decide) rfl ?_
              refine iv_X11_isName_N q_X6_begin_72 ln_X6_35 (by decide) (Nat.le_of_ble_eq_true rfl) ?_
              refine x_isName (hR _ _) ?_
              refine e_ifb_eq q_X6_begin_75 (fun c75 => ?_) (fun c75 => ?_)
              · skip
                refine e_iinc (ls' := [_, _, _, _]) q_X6_begin_88 (by decide) rfl rfl rfl ?_
                refine e_goto q_X6_begin_91 ?_
                have hne : ∀ n : Int, n ≠ itm N j i → rlK N j n (i + 1) = rlK N j n i := fun n hn => cnt_f' (p := fun m : Nat => itm N j m = n) (fun q => hn q.symm)
                first
                | exact absurd (show 0 ≤ itm N j i ∧ itm N j i ≤ 39 from hit) c75
                | (refine ih _ _ ⟨fun a0 h1 h2 h3 h4 => ?_, ?_, fun n h1 h2 => ?_, fun x h1 h2 => ?_, zr_mup hv.2.2.2.2 ?_⟩
                   · rw [mup_fn h2]; exact hv.1 a0 h1 h2 h3 h4
                   · rw [mup_cell (by decide)]; exact hv.2.1
                   · rw [mup_cell (a := 22) (b := 23) (by decide)]
                     by_cases hn : n = itm N j i
                     · rw [hn, mup_self, (hv.2.2.1 _ hit.1 (by omega)).1]
                       exact ⟨(cnt_t (p := fun m : Nat => itm N j m = itm N j i) rfl).symm, (hv.2.2.1 _ hit.1 (by omega)).2⟩
                     · rw [mup_slot hn, hne n hn]
                       exact hv.2.2.1 n h1 h2
                   · rw [mup_cell (by decide)]; exact hv.2.2.2.1 x h1 h2
                   · rw [(hv.2.2.1 _ hit.1 (by omega)).1]
                     have := cnt_b (fun m : Nat => itm N j m = itm N j i) i
                     have e : rlK N j (itm N j i) i = cnt (fun m : Nat => itm N j m = itm N j i) i := rfl
                     constructor <;> omega)
              · skip
                refine e_aload_n q_X6_begin_78 (by decide) rfl ?_
                refine i_getC (r := 22) q_X6_begin_79 fl_X6_9 (a21 hB) rfl (by decide) ?_
                refine e_iload_n q_X6_begin_82 (by decide) rfl ?_
                refine e_dup2 q_X6_begin_83 rfl rfl ?_
                refine i_iald q_X6_begin_84 (a22 hB) (fun _ => rfl) (by first | omega | assumption) (by first | omega | assumption) (by decide) rfl ?_
                refine e_iconst q_X6_begin_85 ?_
                refine e_iadd q_X6_begin_86 ?_
                refine i_iast q_X6_begin_87 (a22 hB) (fun _ => rfl) (by first | omega | assumption) (by first | omega | assumption) (by decide) ?_
                refine e_iinc (ls' := [_, _, _, _]) q_X6_begin_88 (by decide) rfl rfl rfl ?_
                refine e_goto q_X6_begin_91 ?_
                have hne : ∀ n : Int, n ≠ itm N j i → rlK N j n (i + 1) = rlK N j n i := fun n hn => cnt_f' (p := fun m : Nat => itm N j m = n) (fun q => hn q.symm)
                first
                | exact absurd (show 0 ≤ itm N j i ∧ itm N j i ≤ 39 from hit) c75
                | (refine ih _ _ ⟨fun a0 h1 h2 h3 h4 => ?_, ?_, fun n h1 h2 => ?_, fun x h1 h2 => ?_, zr_mup hv.2.2.2.2 ?_⟩
                   · rw [mup_fn h2]; exact hv.1 a0 h1 h2 h3 h4
                   · rw [mup_cell (by decide)]; exact hv.2.1
                   · rw [mup_cell (a := 22) (b := 23) (by decide)]
                     by_cases hn : n = itm N j i
                     · rw [hn, mup_self, (hv.2.2.1 _ hit.1 (by omega)).1]
                       exact ⟨(cnt_t (p := fun m : Nat => itm N j m = itm N j i) rfl).symm, (hv.2.2.1 _ hit.1 (by omega)).2⟩
                     · rw [mup_slot hn, hne n hn]
                       exact hv.2.2.1 n h1 h2
                   · rw [mup_cell (by decide)]; exact hv.2.2.2.1 x h1 h2
                   · rw [(hv.2.2.1 _ hit.1 (by omega)).1]
                     have := cnt_b (fun m : Nat => itm N j m = itm N j i) i
                     have e : rlK N j (itm N j i) i = cnt (fun m : Nat => itm N j m = itm N j i) i := rfl
                     constructor <;> omega)
          · skip
            refine e_iload_n q_X6_begin_56 (by decide) rfl ?_
            refine e_aload_n q_X6_begin_57 (by decide) rfl ?_
            refine i_getI (k' := 2) q_X6_begin_58 fl_X6_26 sA (sc1 _ (by decide)) rfl rfl ((congrFun (hv.1 a (by omega) (by omega) (by omega) (by omega)) 2).trans s2) ?_
            refine e_icmp_ge q_X6_begin_61 (by first | exact hR _ _ | (constructor <;> omega) | assumption) (by first | exact hR _ _ | (constructor <;> omega) | assumption) (fun c61 => ?_) (fun c61 => ?_)
            · skip
              refine e_return q_X6_begin_94 rfl ?_
              exact h N1 hv
            · skip
              exact absurd (by omega) c61
        · skip
          exact absurd (by omega) c38
    · skip
      exact absurd (by omega) c10
set_option maxRecDepth 20000 in
set_option maxHeartbeats 2000000 in
theorem xr_putMember (hB : zB0 s) {w n : Int} (hw : 0 ≤ w ∧ w < 48) (hn : 0 ≤ n ∧ n < 40) (h : Q none (zI s (mup (mup N 24 w 1) 23 n (N 23 n + 1)))) : zC X m_X6_putMember [.ref 21, vi w, vi n] (zI s N) Q := by
  show zE X m_X6_putMember 0 [.ref 21, vi w, vi n] [] _ Q
  refine e_aload_n q_X6_putMember_0 (by decide) rfl ?_
  refine i_getC (r := 24) q_X6_putMember_1 fl_X6_18 (a21 hB) rfl (by decide) ?_
  refine e_iload_n q_X6_putMember_4 (by decide) rfl ?_
  refine e_iconst q_X6_putMember_5 ?_
  refine i_zast q_X6_putMember_6 (a24 hB) (fun _ => rfl) (by first | omega | assumption) (by first | omega | assumption) (by decide) rfl ?_
  refine e_aload_n q_X6_putMember_7 (by decide) rfl ?_
  refine i_getC (r := 23) q_X6_putMember_8 fl_X6_15 (a21 hB) rfl (by decide) ?_
  refine e_iload_n q_X6_putMember_11 (by decide) rfl ?_
  refine e_dup2 q_X6_putMember_12 rfl rfl ?_
  refine i_iald q_X6_putMember_13 (a23 hB) (fun _ => rfl) (by first | omega | assumption) (by first | omega | assumption) (by decide) (mup_cell (by decide)) ?_
  refine e_iconst q_X6_putMember_14 ?_
  refine e_iadd q_X6_putMember_15 ?_
  refine i_iast q_X6_putMember_16 (a23 hB) (fun _ => rfl) (by first | omega | assumption) (by first | omega | assumption) (by decide) ?_
  refine e_return q_X6_putMember_17 rfl ?_
  exact h
def loF (a b : Int) : Int := if 0 < a - b then a - b else 0
theorem loF_m (a b : Int) : max 0 (a - b) = loF a b := by
  unfold loF
  split <;> omega
set_option maxRecDepth 20000 in
set_option maxHeartbeats 2000000 in
theorem xr_leftOutOf (hB : zB0 s) {n : Int} (hn : 0 ≤ n ∧ n < 40) (hr : zr (N 23 n - N 22 n)) (h : Q (some (vi (loF (N 23 n) (N 22 n)))) (zI s N)) : zC X m_X6_leftOutOf [.ref 21, vi n] (zI s N) Q := by
  show zE X m_X6_leftOutOf 0 [.ref 21, vi n] [] _ Q
  refine e_iconst q_X6_leftOutOf_0 ?_
  refine e_aload_n q_X6_leftOutOf_1 (by decide) rfl ?_
  refine i_getC (r := 23) q_X6_leftOutOf_2 fl_X6_15 (a21 hB) rfl (by decide) ?_
  refine e_iload_n q_X6_leftOutOf_5 (by decide) rfl ?_
  refine i_iald q_X6_leftOutOf_6 (a23 hB) (fun _ => rfl) (by first | omega | assumption) (by first | omega | assumption) (by decide) rfl ?_
  refine e_aload_n q_X6_leftOutOf_7 (by decide) rfl ?_
  refine i_getC (r := 22) q_X6_leftOutOf_8 fl_X6_9 (a21 hB) rfl (by decide) ?_
  refine e_iload_n q_X6_leftOutOf_11 (by decide) rfl ?_
  refine i_iald q_X6_leftOutOf_12 (a22 hB) (fun _ => rfl) (by first | omega | assumption) (by first | omega | assumption) (by decide) rfl ?_
  refine e_isub q_X6_leftOutOf_13 ?_
  refine e_max q_X6_leftOutOf_14 lk_X6_39 mm_max_s ini_J9 mm_max_c (by decide) (by decide) (Nat.le_of_ble_eq_true rfl) (by constructor <;> omega) hr ?_
  refine e_ireturn q_X6_leftOutOf_17 rfl rfl ?_
  exact zqI h (loF_m _ _).symm
set_option maxRecDepth 20000 in
set_option maxHeartbeats 2000000 in
theorem xr_leftOutOfAll (hB : zB0 s) (hr : ∀ n : Int, 0 ≤ n → n < 40 → zr (N 23 n - N 22 n)) (h : Q (some (vi (sumK (fun n : Nat => loF (N 23 n) (N 22 n)) 40))) (zI s N)) : zC X m_X6_leftOutOfAll [.ref 21] (zI s N) Q := by
  show zE X m_X6_leftOutOfAll 0 [.ref 21, zU, zU] [] _ Q
  refine e_iconst q_X6_leftOutOfAll_0 ?_
  refine e_istore_n (ls' := [_, _, _]) q_X6_leftOutOfAll_1 (by decide) rfl rfl ?_
  refine e_iconst q_X6_leftOutOfAll_2 ?_
  refine e_istore_n (ls' := [_, _, _]) q_X6_leftOutOfAll_3 (by decide) rfl rfl ?_
  refine zEe (ls := [.ref 21, vi (sumK (fun n : Nat => loF (N 23 n) (N 22 n)) 0), vi ((0 : Nat) : Int)]) (σ := zI s N) ?_ rfl rfl
  refine z_for (P := fun i => ∀ (hh : True), (True) → zE X m_X6_leftOutOfAll 4 [.ref 21, vi (sumK (fun n : Nat => loF (N 23 n) (N 22 n)) i), vi (i : Int)] [] (zI s N) Q) 40 (fun i hi ih hh hv => ?_) (fun hh hv => ?_) trivial trivial
  · skip
    refine e_iload_n q_X6_leftOutOfAll_4 (by decide) rfl ?_
    refine e_bipush q_X6_leftOutOfAll_5 (by decide) ?_
    refine e_icmp_ge q_X6_leftOutOfAll_7 (by first | exact hR _ _ | (constructor <;> omega) | assumption) (by first | exact hR _ _ | (constructor <;> omega) | assumption) (fun c7 => ?_) (fun c7 => ?_)
    · skip
      exact absurd c7 (by omega)
    · skip
      refine e_iload_n q_X6_leftOutOfAll_10 (by decide) rfl ?_
      refine e_aload_n q_X6_leftOutOfAll_11 (by decide) rfl ?_
      refine e_iload_n q_X6_leftOutOfAll_12 (by decide) rfl ?_
      refine iv_X6_leftOutOf q_X6_leftOutOfAll_13 lk_X6_45 (by decide) (a21 hB) (Nat.le_of_ble_eq_true rfl) ?_
      refine xr_leftOutOf hB (by omega) (hr i (by omega) (by omega)) ?_
      refine e_iadd q_X6_leftOutOfAll_16 ?_
      refine e_istore_n (ls' := [_, _, _]) q_X6_leftOutOfAll_17 (by decide) rfl rfl ?_
      refine e_iinc (ls' := [_, _, _]) q_X6_leftOutOfAll_18 (by decide) rfl rfl rfl ?_
      refine e_goto q_X6_leftOutOfAll_21 ?_
      exact zEe (ih trivial trivial) rfl rfl
  · skip
    refine e_iload_n q_X6_leftOutOfAll_4 (by decide) rfl ?_
    refine e_bipush q_X6_leftOutOfAll_5 (by decide) ?_
    refine e_icmp_ge q_X6_leftOutOfAll_7 (by first | exact hR _ _ | (constructor <;> omega) | assumption) (by first | exact hR _ _ | (constructor <;> omega) | assumption) (fun c7 => ?_) (fun c7 => ?_)
    · skip
      refine e_iload_n q_X6_leftOutOfAll_24 (by decide) rfl ?_
      refine e_ireturn q_X6_leftOutOfAll_25 rfl rfl ?_
      exact h
    · skip
      exact absurd (by omega) c7
end RT13
