/-! THE SYSTEM'S METHODS, 2: one's spells (printed by wip/whole/gen/x2.py) -/
section XS2
variable {X : zX} {s : zK} {N : zN} {fa sa : Int → Int} {σ : zS} {Q : Option Value → zS → Prop}
theorem bound_last {N : zN} {i d : Int} (hm : mI N) (hO : mOrd N) (hl : 0 ≤ lastS N i) : boundS N i d ↔ d < N 62 (lastS N i) := by
  have hb := lastS_b N i
  have hs := hm.2.2.2.2.1 (lastS N i) hl (by omega)
  have hp := lastS_p hl
  constructor
  · rintro ⟨k, h1, h2, h3⟩
    rcases Int.lt_trichotomy (k : Int) (lastS N i) with h | h | h
    · have := hO.2 k (lastS N i) (by omega) h (by omega) (by rw [h2, hp.1])
      omega
    · rw [← h]; exact h3
    · exact absurd h2 (hp.2 k h h1)
  · intro h
    exact ⟨(lastS N i).toNat, by omega, by rw [z_cast hl]; exact hp.1, by rw [z_cast hl]; exact h⟩
theorem bound_none {N : zN} {i d : Int} (hl : lastS N i < 0) : ¬ boundS N i d := by
  rintro ⟨k, h1, h2, h3⟩
  exact lastS_none hl k (by omega) h1 h2
theorem spA_at {N : zN} {i d : Int} (k : Int) (h0 : 0 ≤ k) (h1 : k < N 39 31) (ht : tHere N i d) (hp : N 59 k = i ∧ N 61 k ≤ d ∧ d < N 62 k) (hu : ∀ j : Nat, (j : Int) < N 39 31 → N 59 j = i ∧ N 61 j ≤ d ∧ d < N 62 j → (j : Int) = k) : spA N i d = k := by
  unfold spA
  rw [zif_t ht]
  have e := fstK_at (p := fun k => N 59 k = i ∧ N 61 k ≤ d ∧ d < N 62 k) (n := (N 39 31).toNat) (i := k.toNat) (by omega) (fun j hj q => by have := hu j (by omega) q; omega) (by rw [z_cast h0]; exact hp)
  rw [e, z_cast h0]
theorem spA_no {N : zN} {i d : Int} (hu : tHere N i d → ∀ j : Nat, (j : Int) < N 39 31 → ¬ (N 59 j = i ∧ N 61 j ≤ d ∧ d < N 62 j)) : spA N i d < 0 := by
  unfold spA
  by_cases ht : tHere N i d
  · rw [zif_t ht, fstK_none (fun j hj => hu ht j (by omega))]
    omega
  · rw [zif_f ht]
    omega
theorem spA_p {N : zN} {i d : Int} (h : 0 ≤ spA N i d) : tHere N i d ∧ N 59 (spA N i d) = i ∧ N 61 (spA N i d) ≤ d ∧ d < N 62 (spA N i d) := by
  by_cases ht : tHere N i d
  · have e : spA N i d = fstK (fun k => N 59 k = i ∧ N 61 k ≤ d ∧ d < N 62 k) (N 39 31).toNat := by unfold spA; rw [zif_t ht]
    rw [e] at h ⊢
    have := (fstK_p h).1
    rw [z_cast h] at this
    exact ⟨ht, this⟩
  · unfold spA at h
    rw [zif_f ht] at h
    omega
noncomputable def gOn (N : zN) (i d : Int) : Int := if spA N i d < 0 then -4 else N 60 (spA N i d)
theorem gOn_m {N : zN} (hm : mI N) {i g d : Int} (hg : 0 ≤ g) : gOn N i d = g ↔ memb N i g d := by
  unfold gOn memb
  split
  · constructor
    · intro h; omega
    · intro h; have := h.1; omega
  · constructor
    · intro h; exact ⟨by omega, h⟩
    · intro h; exact h.2
theorem gOn_r {N : zN} (hm : mI N) (i d : Int) : -4 ≤ gOn N i d ∧ gOn N i d < 8 ∧ (gOn N i d = -4 ↔ spA N i d < 0) := by
  have hC := hm.2.1
  unfold mCnt at hC
  unfold gOn
  have hb := spA_b N i d
  split
  · omega
  · have := (hm.2.2.2.2.1 (spA N i d) (by omega) (by omega)).2.1
    omega
set_option maxRecDepth 20000 in
set_option maxHeartbeats 2000000 in
theorem x_mayJoin (hI : xI s N fa sa) {i : Int} {a : Nat} (h0 : 0 ≤ i) (h1 : i < N 39 2) (hp : xPer s N fa sa i a) {d : Int} (hd : -1 ≤ d ∧ d ≤ 9999) (h : Q (some (vi (bi (¬ boundS N i d)))) (zI s N)) : zC X m_X4_mayJoin [.ref a, vi d] (zI s N) Q := by
  have hB := hI.B
  have hR := hI.R
  have hC := hI.C
  unfold mCnt at hC
  have hm := hI.m
  have hpp := hm.2.2.1 i h0 h1
  obtain ⟨p88, pA, p5, p0, p1, p2, p3, p4, p5f, p6, p7, p8, p9⟩ := hp
  show zE X m_X4_mayJoin 0 [.ref a, vi d] [] _ Q
  have hlb := lastS_b N i
  by_cases hl : 0 ≤ lastS N i
  · skip
    obtain ⟨b, hb⟩ := hI.ss.1 (lastS N i) (by omega) (by omega)
    obtain ⟨b88, bA, bf, b0, b1, b2, b3⟩ := hb
    have p9b : N a 9 = (b : Int) := by rw [p9, orZ_p hl]; exact bf
    have hsl := hm.2.2.2.2.1 (lastS N i) hl (by omega)
    rw [bound_last hm hI.ord hl] at h
    refine e_aload_n q_X4_mayJoin_0 (by decide) rfl ?_
    refine i_getR (k' := 9) q_X4_mayJoin_1 fl_X4_66 pA (cref0 (by omega) _) rfl rfl p9b (by omega) ?_
    refine e_ifnull q_X4_mayJoin_4 ?_
    refine e_aload_n q_X4_mayJoin_7 (by decide) rfl ?_
    refine i_getR (k' := 9) q_X4_mayJoin_8 fl_X4_66 pA (cref0 (by omega) _) rfl rfl p9b (by omega) ?_
    refine i_getI (k' := 3) q_X4_mayJoin_11 fl_X4_70 bA (cref0 (by omega) _) rfl rfl rfl ?_
    refine e_iconst q_X4_mayJoin_14 ?_
    refine e_icmp_eq q_X4_mayJoin_15 (by first | exact hR _ _ | (constructor <;> omega) | assumption) (by first | exact hR _ _ | (constructor <;> omega) | assumption) (fun c15 => ?_) (fun c15 => ?_)
    · skip
      refine e_iconst q_X4_mayJoin_33 ?_
      refine e_ireturn q_X4_mayJoin_34 rfl rfl ?_
      first | exact zqT h (by omega) | exact zqF h (by omega)
    · skip
      refine e_aload_n q_X4_mayJoin_18 (by decide) rfl ?_
      refine i_getR (k' := 9) q_X4_mayJoin_19 fl_X4_66 pA (cref0 (by omega) _) rfl rfl p9b (by omega) ?_
      refine i_getI (k' := 3) q_X4_mayJoin_22 fl_X4_70 bA (cref0 (by omega) _) rfl rfl rfl ?_
      refine e_iload_n q_X4_mayJoin_25 (by decide) rfl ?_
      refine e_icmp_gt q_X4_mayJoin_26 (by first | exact hR _ _ | (constructor <;> omega) | assumption) (by first | exact hR _ _ | (constructor <;> omega) | assumption) (fun c26 => ?_) (fun c26 => ?_)
      · skip
        refine e_iconst q_X4_mayJoin_33 ?_
        refine e_ireturn q_X4_mayJoin_34 rfl rfl ?_
        first | exact zqT h (by omega) | exact zqF h (by omega)
      · skip
        refine e_iconst q_X4_mayJoin_29 ?_
        refine e_goto q_X4_mayJoin_30 ?_
        refine e_ireturn q_X4_mayJoin_34 rfl rfl ?_
        first | exact zqT h (by omega) | exact zqF h (by omega)
  · have p9z : N a 9 = 0 := by rw [p9, orZ_n (by omega)]
    refine e_aload_n q_X4_mayJoin_0 (by decide) rfl ?_
    refine i_getN (k' := 9) q_X4_mayJoin_1 fl_X4_66 pA (cref0 (by omega) _) rfl rfl (by omega) ?_
    refine e_ifnullN q_X4_mayJoin_4 ?_
    refine e_iconst q_X4_mayJoin_29 ?_
    refine e_goto q_X4_mayJoin_30 ?_
    refine e_ireturn q_X4_mayJoin_34 rfl rfl ?_
    exact zqT h (bound_none (by omega))
set_option maxRecDepth 20000 in
set_option maxHeartbeats 2000000 in
theorem x_spellOn (hI : xI s N fa sa) {i : Int} {a : Nat} (h0 : 0 ≤ i) (h1 : i < N 39 2) (hp : xPer s N fa sa i a) {d : Int} (hd : -1 ≤ d ∧ d ≤ 9999) (hN : spA N i d < 0 → Q (some .null) (zI s N)) (hS : ∀ b : Nat, 0 ≤ spA N i d → xSpl s N sa (spA N i d) b → Q (some (.ref b)) (zI s N)) : zC X m_X4_spellOn [.ref a, vi d] (zI s N) Q := by
  have hB := hI.B
  have hR := hI.R
  have hC := hI.C
  unfold mCnt at hC
  have hm := hI.m
  have hpp := hm.2.2.1 i h0 h1
  obtain ⟨p88, pA, p5, p0, p1, p2, p3, p4, p5f, p6, p7, p8, p9⟩ := hp
  show zE X m_X4_spellOn 0 [.ref a, vi d, zU, zU] [] _ Q
  have hlb := lastS_b N i
  have key : ∀ (n : Nat) (k : Int), k < n → 0 ≤ k → k < N 39 31 → N 59 k = i → (∀ j : Int, k < j → j < N 39 31 → N 59 j = i → d < N 61 j) → ∀ b : Nat, xSpl s N sa k b → zE X m_X4_spellOn 5 [.ref a, vi d, .ref b, zU] [] (zI s N) Q := by
    intro n
    induction n with
    | zero => intro k h1 h2; omega
    | succ n ih =>
      intro k hkn hk0 hk1 hkw hnx b hb
      obtain ⟨b88, bA, bf, b0, b1, b2, b3⟩ := hb
      have hfl := hm.2.2.2.2.1 k hk0 hk1
      refine e_aload_n q_X4_spellOn_5 (by decide) rfl ?_
      refine e_ifnull q_X4_spellOn_6 ?_
      refine e_aload_n q_X4_spellOn_9 (by decide) rfl ?_
      refine i_getI (k' := 1) q_X4_spellOn_10 fl_X4_75 bA (cref0 (by omega) _) rfl rfl b1 ?_
      refine e_iload_n q_X4_spellOn_13 (by decide) rfl ?_
      refine e_icmp_gt q_X4_spellOn_14 (by first | exact hR _ _ | (constructor <;> omega) | assumption) (by first | exact hR _ _ | (constructor <;> omega) | assumption) (fun c14 => ?_) (fun c14 => ?_)
      · skip
        obtain ⟨hq0, hq1, hq3, hq4⟩ := spv_p (N := N) hk0
        have hnx2 : ∀ j : Int, 0 ≤ j → spv N k < j → j < N 39 31 → N 59 j = i → d < N 61 j := by
          intro j h0j h1j h2j h3j
          rcases Int.lt_trichotomy j k with hjk | hjk | hjk
          · exact absurd (by rw [h3j, hkw]) (hq4 j h0j h1j hjk)
          · rw [hjk]
            omega
          · exact hnx j hjk h2j h3j
        by_cases hq2 : 0 ≤ spv N k
        · obtain ⟨c, hc⟩ := hI.ss.1 (spv N k) hq2 (by omega)
          obtain ⟨c88, cA, cf, -⟩ := id hc
          have b2c : N b 2 = (c : Int) := by rw [b2, orZ_p hq2]; exact cf
          refine e_aload_n q_X4_spellOn_57 (by decide) rfl ?_
          refine i_getR (k' := 2) q_X4_spellOn_58 fl_X4_79 bA (cref0 (by omega) _) rfl rfl b2c (by omega) ?_
          refine e_astore_n (ls' := [_, _, _, _]) q_X4_spellOn_61 (by decide) rfl rfl ?_
          refine e_goto q_X4_spellOn_62 ?_
          exact ih (spv N k) (by omega) hq2 (by omega) (by rw [hq3 hq2]; exact hkw) (fun j hj h1 h2 => hnx2 j (by omega) hj h1 h2) c hc
        · have b2z : N b 2 = 0 := by rw [b2, orZ_n (by omega)]
          refine e_aload_n q_X4_spellOn_57 (by decide) rfl ?_
          refine i_getN (k' := 2) q_X4_spellOn_58 fl_X4_79 bA (cref0 (by omega) _) rfl rfl (by omega) ?_
          refine e_astore_nN (ls' := [_, _, _, _]) q_X4_spellOn_61 (by decide) rfl rfl ?_
          refine e_goto q_X4_spellOn_62 ?_
          refine e_aload_nN q_X4_spellOn_5 (by decide) rfl ?_
          refine e_ifnullN q_X4_spellOn_6 ?_
          refine e_null q_X4_spellOn_65 ?_
          refine e_areturn q_X4_spellOn_66 rfl (Or.inl ⟨_, rfl⟩) (Or.inl rfl) ?_
          exact hN (spA_no (fun _ j q1 q => by have := hnx2 j (by omega) (by omega) q1 q.1; omega))
      · skip
        have hno : ∀ j : Nat, (j : Int) < N 39 31 → N 59 j = i ∧ N 61 j ≤ d ∧ d < N 62 j → (j : Int) = k := by
          intro j q1 q
          obtain ⟨q2, q3, q4⟩ := q
          rcases Int.lt_trichotomy (j : Int) k with hjk | hjk | hjk
          · have := hI.ord.2 j k (by omega) hjk hk1 (by rw [q2, hkw])
            omega
          · exact hjk
          · have := hnx j hjk q1 q2
            omega
        refine e_aload_n q_X4_spellOn_17 (by decide) rfl ?_
        refine i_getI (k' := 3) q_X4_spellOn_18 fl_X4_70 bA (cref0 (by omega) _) rfl rfl rfl ?_
        refine e_iconst q_X4_spellOn_21 ?_
        refine e_icmp_eq q_X4_spellOn_22 (by first | exact hR _ _ | (constructor <;> omega) | assumption) (by first | exact hR _ _ | (constructor <;> omega) | assumption) (fun c22 => ?_) (fun c22 => ?_)
        · skip
          refine e_iconst q_X4_spellOn_33 ?_
          refine e_goto q_X4_spellOn_34 ?_
          refine e_istore_n (ls' := [_, _, _, _]) q_X4_spellOn_38 (by decide) rfl rfl ?_
          refine e_iload_n q_X4_spellOn_39 (by decide) rfl ?_
          refine e_if_eq q_X4_spellOn_40 (by first | exact hR _ _ | (constructor <;> omega) | assumption) (fun c40 => ?_) (fun c40 => ?_)
          · skip
            refine e_null q_X4_spellOn_55 ?_
            refine e_areturn q_X4_spellOn_56 rfl (Or.inl ⟨_, rfl⟩) (Or.inl rfl) ?_
            exact hN (spA_no (fun ht j q1 q => by have e := hno j q1 q; rw [e] at q; first | exact c48 ht | omega))
          · skip
            refine e_aload_n q_X4_spellOn_43 (by decide) rfl ?_
            refine e_iload_n q_X4_spellOn_44 (by decide) rfl ?_
            refine iv_X4_isThereOn q_X4_spellOn_45 lk_X4_76 (by decide) pA (Nat.le_of_ble_eq_true rfl) ?_
            refine x_isThereOn hI h0 h1 ⟨p88, pA, p5, p0, p1, p2, p3, p4, p5f, p6, p7, p8, p9⟩ hd ?_
            refine e_ifb_eq q_X4_spellOn_48 (fun c48 => ?_) (fun c48 => ?_)
            · skip
              refine e_null q_X4_spellOn_55 ?_
              refine e_areturn q_X4_spellOn_56 rfl (Or.inl ⟨_, rfl⟩) (Or.inl rfl) ?_
              exact hN (spA_no (fun ht j q1 q => by have e := hno j q1 q; rw [e] at q; first | exact c48 ht | omega))
            · skip
              refine e_aload_n q_X4_spellOn_51 (by decide) rfl ?_
              refine e_goto q_X4_spellOn_52 ?_
              refine e_areturn q_X4_spellOn_56 rfl (Or.inl ⟨_, rfl⟩) (Or.inr ⟨_, rfl⟩) ?_
              have e : spA N i d = k := spA_at k hk0 hk1 c48 ⟨hkw, by omega, by omega⟩ hno
              exact hS b (by omega) (by rw [e]; exact ⟨b88, bA, bf, b0, b1, b2, b3⟩)
        · skip
          refine e_iload_n q_X4_spellOn_25 (by decide) rfl ?_
          refine e_aload_n q_X4_spellOn_26 (by decide) rfl ?_
          refine i_getI (k' := 3) q_X4_spellOn_27 fl_X4_70 bA (cref0 (by omega) _) rfl rfl rfl ?_
          refine e_icmp_ge q_X4_spellOn_30 (by first | exact hR _ _ | (constructor <;> omega) | assumption) (by first | exact hR _ _ | (constructor <;> omega) | assumption) (fun c30 => ?_) (fun c30 => ?_)
          · skip
            refine e_iconst q_X4_spellOn_37 ?_
            refine e_istore_n (ls' := [_, _, _, _]) q_X4_spellOn_38 (by decide) rfl rfl ?_
            refine e_iload_n q_X4_spellOn_39 (by decide) rfl ?_
            refine e_if_eq q_X4_spellOn_40 (by first | exact hR _ _ | (constructor <;> omega) | assumption) (fun c40 => ?_) (fun c40 => ?_)
            · skip
              refine e_null q_X4_spellOn_55 ?_
              refine e_areturn q_X4_spellOn_56 rfl (Or.inl ⟨_, rfl⟩) (Or.inl rfl) ?_
              exact hN (spA_no (fun ht j q1 q => by have e := hno j q1 q; rw [e] at q; first | exact c48 ht | omega))
            · skip
              refine e_aload_n q_X4_spellOn_43 (by decide) rfl ?_
              refine e_iload_n q_X4_spellOn_44 (by decide) rfl ?_
              refine iv_X4_isThereOn q_X4_spellOn_45 lk_X4_76 (by decide) pA (Nat.le_of_ble_eq_true rfl) ?_
              refine x_isThereOn hI h0 h1 ⟨p88, pA, p5, p0, p1, p2, p3, p4, p5f, p6, p7, p8, p9⟩ hd ?_
              refine e_ifb_eq q_X4_spellOn_48 (fun c48 => ?_) (fun c48 => ?_)
              · skip
                refine e_null q_X4_spellOn_55 ?_
                refine e_areturn q_X4_spellOn_56 rfl (Or.inl ⟨_, rfl⟩) (Or.inl rfl) ?_
                exact hN (spA_no (fun ht j q1 q => by have e := hno j q1 q; rw [e] at q; first | exact c48 ht | omega))
              · skip
                refine e_aload_n q_X4_spellOn_51 (by decide) rfl ?_
                refine e_goto q_X4_spellOn_52 ?_
                refine e_areturn q_X4_spellOn_56 rfl (Or.inl ⟨_, rfl⟩) (Or.inr ⟨_, rfl⟩) ?_
                have e : spA N i d = k := spA_at k hk0 hk1 c48 ⟨hkw, by omega, by omega⟩ hno
                exact hS b (by omega) (by rw [e]; exact ⟨b88, bA, bf, b0, b1, b2, b3⟩)
          · skip
            refine e_iconst q_X4_spellOn_33 ?_
            refine e_goto q_X4_spellOn_34 ?_
            refine e_istore_n (ls' := [_, _, _, _]) q_X4_spellOn_38 (by decide) rfl rfl ?_
            refine e_iload_n q_X4_spellOn_39 (by decide) rfl ?_
            refine e_if_eq q_X4_spellOn_40 (by first | exact hR _ _ | (constructor <;> omega) | assumption) (fun c40 => ?_) (fun c40 => ?_)
            · skip
              refine e_null q_X4_spellOn_55 ?_
              refine e_areturn q_X4_spellOn_56 rfl (Or.inl ⟨_, rfl⟩) (Or.inl rfl) ?_
              exact hN (spA_no (fun ht j q1 q => by have e := hno j q1 q; rw [e] at q; first | exact c48 ht | omega))
            · skip
              refine e_aload_n q_X4_spellOn_43 (by decide) rfl ?_
              refine e_iload_n q_X4_spellOn_44 (by decide) rfl ?_
              refine iv_X4_isThereOn q_X4_spellOn_45 lk_X4_76 (by decide) pA (Nat.le_of_ble_eq_true rfl) ?_
              refine x_isThereOn hI h0 h1 ⟨p88, pA, p5, p0, p1, p2, p3, p4, p5f, p6, p7, p8, p9⟩ hd ?_
              refine e_ifb_eq q_X4_spellOn_48 (fun c48 => ?_) (fun c48 => ?_)
              · skip
                refine e_null q_X4_spellOn_55 ?_
                refine e_areturn q_X4_spellOn_56 rfl (Or.inl ⟨_, rfl⟩) (Or.inl rfl) ?_
                exact hN (spA_no (fun ht j q1 q => by have e := hno j q1 q; rw [e] at q; first | exact c48 ht | omega))
              · skip
                refine e_aload_n q_X4_spellOn_51 (by decide) rfl ?_
                refine e_goto q_X4_spellOn_52 ?_
                refine e_areturn q_X4_spellOn_56 rfl (Or.inl ⟨_, rfl⟩) (Or.inr ⟨_, rfl⟩) ?_
                have e : spA N i d = k := spA_at k hk0 hk1 c48 ⟨hkw, by omega, by omega⟩ hno
                exact hS b (by omega) (by rw [e]; exact ⟨b88, bA, bf, b0, b1, b2, b3⟩)
  by_cases hl : 0 ≤ lastS N i
  · skip
    obtain ⟨b, hb⟩ := hI.ss.1 (lastS N i) (by omega) (by omega)
    obtain ⟨b88, bA, bf, b0, b1, b2, b3⟩ := hb
    have p9b : N a 9 = (b : Int) := by rw [p9, orZ_p hl]; exact bf
    have hsl := hm.2.2.2.2.1 (lastS N i) hl (by omega)
    refine e_aload_n q_X4_spellOn_0 (by decide) rfl ?_
    refine i_getR (k' := 9) q_X4_spellOn_1 fl_X4_66 pA (cref0 (by omega) _) rfl rfl p9b (by omega) ?_
    refine e_astore_n (ls' := [_, _, _, _]) q_X4_spellOn_4 (by decide) rfl rfl ?_
    exact key (N 39 31).toNat (lastS N i) (by omega) hl (by omega) (lastS_p hl).1 (fun j hj h1 h2 => absurd h2 ((lastS_p hl).2 j hj h1)) b ⟨b88, bA, bf, b0, b1, b2, b3⟩
  · have p9z : N a 9 = 0 := by rw [p9, orZ_n (by omega)]
    refine e_aload_n q_X4_spellOn_0 (by decide) rfl ?_
    refine i_getN (k' := 9) q_X4_spellOn_1 fl_X4_66 pA (cref0 (by omega) _) rfl rfl (by omega) ?_
    refine e_astore_nN (ls' := [_, _, _, _]) q_X4_spellOn_4 (by decide) rfl rfl ?_
    refine e_aload_nN q_X4_spellOn_5 (by decide) rfl ?_
    refine e_ifnullN q_X4_spellOn_6 ?_
    refine e_null q_X4_spellOn_65 ?_
    refine e_areturn q_X4_spellOn_66 rfl (Or.inl ⟨_, rfl⟩) (Or.inl rfl) ?_
    exact hN (spA_no (fun _ j q1 q => lastS_none (by omega) j (by omega) q1 q.1))
set_option maxRecDepth 20000 in
set_option maxHeartbeats 2000000 in
theorem x_groupOn (hI : xI s N fa sa) {i : Int} {a : Nat} (h0 : 0 ≤ i) (h1 : i < N 39 2) (hp : xPer s N fa sa i a) {d : Int} (hd : -1 ≤ d ∧ d ≤ 9999) (h : Q (some (vi (gOn N i d))) (zI s N)) : zC X m_X4_groupOn [.ref a, vi d] (zI s N) Q := by
  have hB := hI.B
  have hR := hI.R
  have hC := hI.C
  unfold mCnt at hC
  have hm := hI.m
  have hpp := hm.2.2.1 i h0 h1
  obtain ⟨p88, pA, p5, p0, p1, p2, p3, p4, p5f, p6, p7, p8, p9⟩ := hp
  show zE X m_X4_groupOn 0 [.ref a, vi d, zU] [] _ Q
  refine e_aload_n q_X4_groupOn_0 (by decide) rfl ?_
  refine e_iload_n q_X4_groupOn_1 (by decide) rfl ?_
  refine iv_X4_spellOn q_X4_groupOn_2 lk_X4_81 (by decide) pA (Nat.le_of_ble_eq_true rfl) ?_
  refine x_spellOn hI h0 h1 ⟨p88, pA, p5, p0, p1, p2, p3, p4, p5f, p6, p7, p8, p9⟩ hd (fun hs => ?_) (fun b hs hb => ?_)
  · skip
    refine e_astore_nN (ls' := [_, _, _]) q_X4_groupOn_5 (by decide) rfl rfl ?_
    refine e_aload_nN q_X4_groupOn_6 (by decide) rfl ?_
    refine e_ifnonnullN q_X4_groupOn_7 ?_
    refine e_bipush q_X4_groupOn_10 (by decide) ?_
    refine e_goto q_X4_groupOn_12 ?_
    refine e_ireturn q_X4_groupOn_19 rfl rfl ?_
    first | exact zqI h (if_pos hs) | exact zqI h (if_neg (by omega))
  · skip
    obtain ⟨b88, bA, bf, b0, b1, b2, b3⟩ := hb
    refine e_astore_n (ls' := [_, _, _]) q_X4_groupOn_5 (by decide) rfl rfl ?_
    refine e_aload_n q_X4_groupOn_6 (by decide) rfl ?_
    refine e_ifnonnull q_X4_groupOn_7 ?_
    refine e_aload_n q_X4_groupOn_15 (by decide) rfl ?_
    refine i_getI (k' := 0) q_X4_groupOn_16 fl_X4_85 bA (cref0 (by omega) _) rfl rfl b0 ?_
    refine e_ireturn q_X4_groupOn_19 rfl rfl ?_
    first | exact zqI h (if_pos hs) | exact zqI h (if_neg (by omega))
end XS2
