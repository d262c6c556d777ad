/-! THE REFERENCE'S METHODS, 3 (printed by wip/whole/gen/m3.py) -/
section MR3
variable {X : zX} {s : zK} {N : zN} {σ : zS} {Q : Option Value → zS → Prop}
noncomputable def r_there (N : zN) (w d : Int) : Int := zif ((0 ≤ w ∧ w < N 39 2) ∧ (0 ≤ d ∧ d ≤ 9999)) (bi (tHere N w d)) (-1)
noncomputable def r_told (N : zN) (w k : Int) : Int := zif (0 ≤ w ∧ w < N 39 2) (if k = 0 then N 41 w else if k = 1 then N 43 w else if k = 2 then N 44 w else if k = 3 then bi (N 45 w ≠ 0) else if k = 4 then (if N 46 w < 0 then -4 else N 46 w) else if k = 5 then (if N 47 w = 100000 then -4 else N 47 w) else -1) (-1)
noncomputable def r_age (N : zN) (w d : Int) : Int := zif ((0 ≤ w ∧ w < N 39 2) ∧ (0 ≤ d ∧ d ≤ 9999)) (if d < N 42 w then -4 else (d - N 42 w) / 100) (-1)
noncomputable def r_kin (N : zN) (a b : Int) : Int := zif ((0 ≤ a ∧ a < N 39 2) ∧ (0 ≤ b ∧ b < N 39 2) ∧ a ≠ b) (bi (kinP N a b)) (-1)
noncomputable def r_must (N : zN) (w d : Int) : Int := zif ((0 ≤ w ∧ w < N 39 2) ∧ (0 ≤ d ∧ d ≤ 9999)) (if N 41 w = 3 then -12 else bi (must N w d)) (-1)
noncomputable def r_groupOf (N : zN) (w d : Int) : Int := zif ((0 ≤ w ∧ w < N 39 2) ∧ (0 ≤ d ∧ d ≤ 9999)) (if spA N w d < 0 then -4 else N 60 (spA N w d)) (-1)
noncomputable def r_members (N : zN) (g d : Int) : Int := zif ((0 ≤ g ∧ g < N 39 29) ∧ (0 ≤ d ∧ d ≤ 9999)) (mems N g d) (-1)
noncomputable def r_charged (N : zN) (w d : Int) : Int := zif ((0 ≤ w ∧ w < N 39 2) ∧ (0 ≤ d ∧ d ≤ 9999)) (if N 41 w = 3 then charg N w d else -12) (-1)
noncomputable def r_came (N : zN) (w : Int) : Int := zif (0 ≤ w ∧ w < N 39 2) (if N 39 49 = 0 then -4 else N 73 w) (-1)
noncomputable def r_wants (N : zN) (d k : Int) : Int := zif ((0 ≤ d ∧ d ≤ 9999) ∧ (0 ≤ k ∧ k ≤ 1)) (cnt (fun i => want N i d k) (N 39 2).toNat) (-1)
def r_count (N : zN) (k : Int) : Int := if k = 0 then N 39 0 else if k = 1 then N 39 2 else if k = 2 then N 39 29 else if k = 3 then N 39 26 else if k = 4 then N 39 36 else if k = 5 then N 39 50 else if k = 6 then N 39 58 else -1
noncomputable def r_owes (N : zN) (w p : Int) : Int := zif ((0 ≤ w ∧ w < N 39 2) ∧ -1 ≤ p ∧ p < N 39 50) (if p < 0 then owesA N w else N 80 (48 * p + w)) (-1)
noncomputable def r_leftOut (N : zN) (n : Int) : Int := zif (0 ≤ n ∧ n ≤ 39) (if N 39 63 = 0 then -4 else leftO N n) (-1)
noncomputable def r_sure (N : zN) (w : Int) : Int := zif (0 ≤ w ∧ w < N 39 2) (if N 39 63 = 0 ∨ N 87 w = 0 then -4 else if N 86 (N 43 w) = 0 then 1 else if N 85 (N 43 w) ≤ N 86 (N 43 w) then 0 else -2) (-1)
/-- the one with i others ahead who wants, else -1 -/
noncomputable def r_wantsAt (N : zN) (d k i : Int) : Int := zif ((0 ≤ d ∧ d ≤ 9999) ∧ (0 ≤ k ∧ k ≤ 1) ∧ 0 ≤ i) (fstK (fun w => want N w d k ∧ cnt (fun v => want N v d k) w = i) (N 39 2).toNat) (-1)
noncomputable def r_borne (N : zN) (g d k : Int) : Int := zif ((0 ≤ g ∧ g < N 39 29) ∧ (0 ≤ d ∧ d ≤ 9999) ∧ (0 ≤ k ∧ k ≤ 2)) (if k = 0 then borneB N g else if k = 1 then byH N g d else bi (2 * (sumK (fun i => byH N i d) (N 39 29).toNat / N 39 29) < byH N g d)) (-1)
set_option maxRecDepth 20000 in
set_option maxHeartbeats 2000000 in
theorem k_there (hB : zB0 s) (hm : mI N){w : Int} (hw : zr w){d : Int} (hd : zr d) (h : Q (some (vi (r_there N w d))) (zI s N)) : zC X m_X12_there [.ref 39, vi w, vi d] (zI s N) Q := by
  have hR := hm.1
  have hC := hm.2.1
  unfold mCnt at hC
  show zE X m_X12_there 0 [.ref 39, vi w, vi d] [] _ Q
  refine e_aload_n q_X12_there_0 (by decide) rfl ?_
  refine e_iload_n q_X12_there_1 (by decide) rfl ?_
  refine iv_X12_isOne q_X12_there_2 lk_X12_170 (by decide) (a39 hB) (Nat.le_of_ble_eq_true rfl) ?_
  refine k_isOne hB hm hw ?_
  refine e_ifb_eq q_X12_there_5 (fun c5 => ?_) (fun c5 => ?_)
  · skip
    refine e_iconst q_X12_there_15 ?_
    refine e_ireturn q_X12_there_16 rfl rfl ?_
    exact zqI h (by unfold r_there; exact zif_f (fun q => by first | exact c5 q.1 | exact c12 q.2 | omega))
  · skip
    refine e_iload_n q_X12_there_8 (by decide) rfl ?_
    refine iv_X12_isDay q_X12_there_9 lk_X12_181 (by decide) (Nat.le_of_ble_eq_true rfl) ?_
    refine k_isDay hd ?_
    refine e_ifb_ne q_X12_there_12 (fun c12 => ?_) (fun c12 => ?_)
    · skip
      refine e_aload_n q_X12_there_17 (by decide) rfl ?_
      refine e_iload_n q_X12_there_18 (by decide) rfl ?_
      refine e_iload_n q_X12_there_19 (by decide) rfl ?_
      refine iv_X12_isThere q_X12_there_20 lk_X12_197 (by decide) (a39 hB) (Nat.le_of_ble_eq_true rfl) ?_
      refine k_isThere hB hm (by omega) (by omega) c12 ?_
      refine e_ifb_eq q_X12_there_23 (fun c23 => ?_) (fun c23 => ?_)
      · skip
        refine e_iconst q_X12_there_30 ?_
        refine e_ireturn q_X12_there_31 rfl rfl ?_
        first | exact zqI h (by unfold r_there; rw [zif_t ⟨c5, c12⟩]; exact bi_t c23) | exact zqI h (by unfold r_there; rw [zif_t ⟨c5, c12⟩]; exact bi_f c23)
      · skip
        refine e_iconst q_X12_there_26 ?_
        refine e_goto q_X12_there_27 ?_
        refine e_ireturn q_X12_there_31 rfl rfl ?_
        first | exact zqI h (by unfold r_there; rw [zif_t ⟨c5, c12⟩]; exact bi_t c23) | exact zqI h (by unfold r_there; rw [zif_t ⟨c5, c12⟩]; exact bi_f c23)
    · skip
      refine e_iconst q_X12_there_15 ?_
      refine e_ireturn q_X12_there_16 rfl rfl ?_
      exact zqI h (by unfold r_there; exact zif_f (fun q => by first | exact c5 q.1 | exact c12 q.2 | omega))
set_option maxRecDepth 20000 in
set_option maxHeartbeats 2000000 in
theorem k_age (hB : zB0 s) (hm : mI N){w : Int} (hw : zr w){d : Int} (hd : zr d) (h : Q (some (vi (r_age N w d))) (zI s N)) : zC X m_X12_age [.ref 39, vi w, vi d] (zI s N) Q := by
  have hR := hm.1
  have hC := hm.2.1
  unfold mCnt at hC
  show zE X m_X12_age 0 [.ref 39, vi w, vi d] [] _ Q
  refine e_aload_n q_X12_age_0 (by decide) rfl ?_
  refine e_iload_n q_X12_age_1 (by decide) rfl ?_
  refine iv_X12_isOne q_X12_age_2 lk_X12_170 (by decide) (a39 hB) (Nat.le_of_ble_eq_true rfl) ?_
  refine k_isOne hB hm hw ?_
  refine e_ifb_eq q_X12_age_5 (fun c5 => ?_) (fun c5 => ?_)
  · skip
    refine e_iconst q_X12_age_15 ?_
    refine e_ireturn q_X12_age_16 rfl rfl ?_
    exact zqI h (by unfold r_age; exact zif_f (fun q => by first | exact c5 q.1 | exact c12 q.2 | omega))
  · skip
    refine e_iload_n q_X12_age_8 (by decide) rfl ?_
    refine iv_X12_isDay q_X12_age_9 lk_X12_181 (by decide) (Nat.le_of_ble_eq_true rfl) ?_
    refine k_isDay hd ?_
    refine e_ifb_ne q_X12_age_12 (fun c12 => ?_) (fun c12 => ?_)
    · skip
      have hp := hm.2.2.1 w c5.1 c5.2
      refine e_iload_n q_X12_age_17 (by decide) rfl ?_
      refine e_aload_n q_X12_age_18 (by decide) rfl ?_
      refine i_getC (r := 42) q_X12_age_19 fl_X12_16 (a39 hB) rfl (by decide) ?_
      refine e_iload_n q_X12_age_22 (by decide) rfl ?_
      refine i_iald q_X12_age_23 (a42 hB) (cref0 (by decide)) (by first | omega | assumption) (by first | omega | assumption) (by decide) rfl ?_
      refine e_icmp_ge q_X12_age_24 (by first | exact hR _ _ | (constructor <;> omega) | assumption) (by first | exact hR _ _ | (constructor <;> omega) | assumption) (fun c24 => ?_) (fun c24 => ?_)
      · skip
        refine e_iload_n q_X12_age_32 (by decide) rfl ?_
        refine e_aload_n q_X12_age_33 (by decide) rfl ?_
        refine i_getC (r := 42) q_X12_age_34 fl_X12_16 (a39 hB) rfl (by decide) ?_
        refine e_iload_n q_X12_age_37 (by decide) rfl ?_
        refine i_iald q_X12_age_38 (a42 hB) (cref0 (by decide)) (by first | omega | assumption) (by first | omega | assumption) (by decide) rfl ?_
        refine e_isub q_X12_age_39 ?_
        refine e_bipush q_X12_age_40 (by decide) ?_
        refine e_idiv q_X12_age_42 (by omega) (by omega) ?_
        refine e_ireturn q_X12_age_43 rfl rfl ?_
        first | exact zqI h (by unfold r_age; rw [zif_t ⟨c5, c12⟩]; exact if_pos (by omega)) | exact zqI h (by unfold r_age; rw [zif_t ⟨c5, c12⟩]; exact if_neg (by omega))
      · skip
        refine e_bipush q_X12_age_27 (by decide) ?_
        refine e_goto q_X12_age_29 ?_
        refine e_ireturn q_X12_age_43 rfl rfl ?_
        first | exact zqI h (by unfold r_age; rw [zif_t ⟨c5, c12⟩]; exact if_pos (by omega)) | exact zqI h (by unfold r_age; rw [zif_t ⟨c5, c12⟩]; exact if_neg (by omega))
    · skip
      refine e_iconst q_X12_age_15 ?_
      refine e_ireturn q_X12_age_16 rfl rfl ?_
      exact zqI h (by unfold r_age; exact zif_f (fun q => by first | exact c5 q.1 | exact c12 q.2 | omega))
set_option maxRecDepth 20000 in
set_option maxHeartbeats 2000000 in
theorem k_kin (hB : zB0 s) (hm : mI N){a b : Int} (ha : zr a) (hb : zr b) (h : Q (some (vi (r_kin N a b))) (zI s N)) : zC X m_X12_kin [.ref 39, vi a, vi b] (zI s N) Q := by
  have hR := hm.1
  have hC := hm.2.1
  unfold mCnt at hC
  show zE X m_X12_kin 0 [.ref 39, vi a, vi b] [] _ Q
  refine e_aload_n q_X12_kin_0 (by decide) rfl ?_
  refine e_iload_n q_X12_kin_1 (by decide) rfl ?_
  refine iv_X12_isOne q_X12_kin_2 lk_X12_170 (by decide) (a39 hB) (Nat.le_of_ble_eq_true rfl) ?_
  refine k_isOne hB hm ha ?_
  refine e_ifb_eq q_X12_kin_5 (fun c5 => ?_) (fun c5 => ?_)
  · skip
    refine e_iconst q_X12_kin_21 ?_
    refine e_ireturn q_X12_kin_22 rfl rfl ?_
    exact zqI h (by unfold r_kin; exact zif_f (fun q => by first | exact c5 q.1 | exact c13 q.2.1 | exact q.2.2 c18))
  · skip
    refine e_aload_n q_X12_kin_8 (by decide) rfl ?_
    refine e_iload_n q_X12_kin_9 (by decide) rfl ?_
    refine iv_X12_isOne q_X12_kin_10 lk_X12_170 (by decide) (a39 hB) (Nat.le_of_ble_eq_true rfl) ?_
    refine k_isOne hB hm hb ?_
    refine e_ifb_eq q_X12_kin_13 (fun c13 => ?_) (fun c13 => ?_)
    · skip
      refine e_iconst q_X12_kin_21 ?_
      refine e_ireturn q_X12_kin_22 rfl rfl ?_
      exact zqI h (by unfold r_kin; exact zif_f (fun q => by first | exact c5 q.1 | exact c13 q.2.1 | exact q.2.2 c18))
    · skip
      refine e_iload_n q_X12_kin_16 (by decide) rfl ?_
      refine e_iload_n q_X12_kin_17 (by decide) rfl ?_
      refine e_icmp_ne q_X12_kin_18 (by first | exact hR _ _ | (constructor <;> omega) | assumption) (by first | exact hR _ _ | (constructor <;> omega) | assumption) (fun c18 => ?_) (fun c18 => ?_)
      · skip
        refine e_aload_n q_X12_kin_23 (by decide) rfl ?_
        refine e_iload_n q_X12_kin_24 (by decide) rfl ?_
        refine e_iload_n q_X12_kin_25 (by decide) rfl ?_
        refine iv_X12_areKin q_X12_kin_26 lk_X12_200 (by decide) (a39 hB) (Nat.le_of_ble_eq_true rfl) ?_
        refine k_areKin hB hm (by omega) (by omega) (by omega) (by omega) ?_
        refine e_ifb_eq q_X12_kin_29 (fun c29 => ?_) (fun c29 => ?_)
        · skip
          refine e_iconst q_X12_kin_36 ?_
          refine e_ireturn q_X12_kin_37 rfl rfl ?_
          first | exact zqI h (by unfold r_kin; rw [zif_t ⟨c5, c13, c18⟩]; exact bi_t c29) | exact zqI h (by unfold r_kin; rw [zif_t ⟨c5, c13, c18⟩]; exact bi_f c29)
        · skip
          refine e_iconst q_X12_kin_32 ?_
          refine e_goto q_X12_kin_33 ?_
          refine e_ireturn q_X12_kin_37 rfl rfl ?_
          first | exact zqI h (by unfold r_kin; rw [zif_t ⟨c5, c13, c18⟩]; exact bi_t c29) | exact zqI h (by unfold r_kin; rw [zif_t ⟨c5, c13, c18⟩]; exact bi_f c29)
      · skip
        refine e_iconst q_X12_kin_21 ?_
        refine e_ireturn q_X12_kin_22 rfl rfl ?_
        exact zqI h (by unfold r_kin; exact zif_f (fun q => by first | exact c5 q.1 | exact c13 q.2.1 | exact q.2.2 c18))
set_option maxRecDepth 20000 in
set_option maxHeartbeats 2000000 in
theorem k_must (hB : zB0 s) (hm : mI N){w : Int} (hw : zr w){d : Int} (hd : zr d) (h : Q (some (vi (r_must N w d))) (zI s N)) : zC X m_X12_must [.ref 39, vi w, vi d] (zI s N) Q := by
  have hR := hm.1
  have hC := hm.2.1
  unfold mCnt at hC
  show zE X m_X12_must 0 [.ref 39, vi w, vi d] [] _ Q
  refine e_aload_n q_X12_must_0 (by decide) rfl ?_
  refine e_iload_n q_X12_must_1 (by decide) rfl ?_
  refine iv_X12_isOne q_X12_must_2 lk_X12_170 (by decide) (a39 hB) (Nat.le_of_ble_eq_true rfl) ?_
  refine k_isOne hB hm hw ?_
  refine e_ifb_eq q_X12_must_5 (fun c5 => ?_) (fun c5 => ?_)
  · skip
    refine e_iconst q_X12_must_15 ?_
    refine e_ireturn q_X12_must_16 rfl rfl ?_
    exact zqI h (by unfold r_must; exact zif_f (fun q => by first | exact c5 q.1 | exact c12 q.2 | omega))
  · skip
    refine e_iload_n q_X12_must_8 (by decide) rfl ?_
    refine iv_X12_isDay q_X12_must_9 lk_X12_181 (by decide) (Nat.le_of_ble_eq_true rfl) ?_
    refine k_isDay hd ?_
    refine e_ifb_ne q_X12_must_12 (fun c12 => ?_) (fun c12 => ?_)
    · skip
      refine e_aload_n q_X12_must_17 (by decide) rfl ?_
      refine i_getC (r := 41) q_X12_must_18 fl_X12_13 (a39 hB) rfl (by decide) ?_
      refine e_iload_n q_X12_must_21 (by decide) rfl ?_
      refine i_iald q_X12_must_22 (a41 hB) (cref0 (by decide)) (by first | omega | assumption) (by first | omega | assumption) (by decide) rfl ?_
      refine e_iconst q_X12_must_23 ?_
      refine e_icmp_ne q_X12_must_24 (by first | exact hR _ _ | (constructor <;> omega) | assumption) (by first | exact hR _ _ | (constructor <;> omega) | assumption) (fun c24 => ?_) (fun c24 => ?_)
      · skip
        refine e_aload_n q_X12_must_30 (by decide) rfl ?_
        refine e_iload_n q_X12_must_31 (by decide) rfl ?_
        refine e_iload_n q_X12_must_32 (by decide) rfl ?_
        refine iv_X12_mustBe q_X12_must_33 lk_X12_242 (by decide) (a39 hB) (Nat.le_of_ble_eq_true rfl) ?_
        refine k_mustBe hB hm c5.1 c5.2 c12 ?_
        refine e_ifb_eq q_X12_must_36 (fun c36 => ?_) (fun c36 => ?_)
        · skip
          refine e_iconst q_X12_must_43 ?_
          refine e_ireturn q_X12_must_44 rfl rfl ?_
          first | exact zqI h (by unfold r_must; rw [zif_t ⟨c5, c12⟩]; rw [if_neg (by omega), bi_t c36]) | exact zqI h (by unfold r_must; rw [zif_t ⟨c5, c12⟩]; rw [if_neg (by omega), bi_f c36])
        · skip
          refine e_iconst q_X12_must_39 ?_
          refine e_goto q_X12_must_40 ?_
          refine e_ireturn q_X12_must_44 rfl rfl ?_
          first | exact zqI h (by unfold r_must; rw [zif_t ⟨c5, c12⟩]; rw [if_neg (by omega), bi_t c36]) | exact zqI h (by unfold r_must; rw [zif_t ⟨c5, c12⟩]; rw [if_neg (by omega), bi_f c36])
      · skip
        refine e_bipush q_X12_must_27 (by decide) ?_
        refine e_ireturn q_X12_must_29 rfl rfl ?_
        first | exact zqI h (by unfold r_must; rw [zif_t ⟨c5, c12⟩]; exact if_pos (by omega))
    · skip
      refine e_iconst q_X12_must_15 ?_
      refine e_ireturn q_X12_must_16 rfl rfl ?_
      exact zqI h (by unfold r_must; exact zif_f (fun q => by first | exact c5 q.1 | exact c12 q.2 | omega))
set_option maxRecDepth 20000 in
set_option maxHeartbeats 2000000 in
theorem k_groupOf (hB : zB0 s) (hm : mI N){w : Int} (hw : zr w){d : Int} (hd : zr d) (h : Q (some (vi (r_groupOf N w d))) (zI s N)) : zC X m_X12_groupOf [.ref 39, vi w, vi d] (zI s N) Q := by
  have hR := hm.1
  have hC := hm.2.1
  unfold mCnt at hC
  show zE X m_X12_groupOf 0 [.ref 39, vi w, vi d, zU] [] _ Q
  refine e_aload_n q_X12_groupOf_0 (by decide) rfl ?_
  refine e_iload_n q_X12_groupOf_1 (by decide) rfl ?_
  refine iv_X12_isOne q_X12_groupOf_2 lk_X12_170 (by decide) (a39 hB) (Nat.le_of_ble_eq_true rfl) ?_
  refine k_isOne hB hm hw ?_
  refine e_ifb_eq q_X12_groupOf_5 (fun c5 => ?_) (fun c5 => ?_)
  · skip
    refine e_iconst q_X12_groupOf_15 ?_
    refine e_ireturn q_X12_groupOf_16 rfl rfl ?_
    exact zqI h (by unfold r_groupOf; exact zif_f (fun q => by first | exact c5 q.1 | exact c12 q.2 | omega))
  · skip
    refine e_iload_n q_X12_groupOf_8 (by decide) rfl ?_
    refine iv_X12_isDay q_X12_groupOf_9 lk_X12_181 (by decide) (Nat.le_of_ble_eq_true rfl) ?_
    refine k_isDay hd ?_
    refine e_ifb_ne q_X12_groupOf_12 (fun c12 => ?_) (fun c12 => ?_)
    · skip
      refine e_aload_n q_X12_groupOf_17 (by decide) rfl ?_
      refine e_iload_n q_X12_groupOf_18 (by decide) rfl ?_
      refine e_iload_n q_X12_groupOf_19 (by decide) rfl ?_
      refine iv_X12_spellAt q_X12_groupOf_20 lk_X12_254 (by decide) (a39 hB) (Nat.le_of_ble_eq_true rfl) ?_
      refine k_spellAt hB hm c5.1 c5.2 c12 ?_
      have hs := spA_b N w d
      refine e_istore_n (ls' := [_, _, _, _]) q_X12_groupOf_23 (by decide) rfl rfl ?_
      refine e_iload_n q_X12_groupOf_24 (by decide) rfl ?_
      refine e_if_ge q_X12_groupOf_25 (by first | exact hR _ _ | (constructor <;> omega) | assumption) (fun c25 => ?_) (fun c25 => ?_)
      · skip
        refine e_aload_n q_X12_groupOf_33 (by decide) rfl ?_
        refine i_getC (r := 60) q_X12_groupOf_34 fl_X12_76 (a39 hB) rfl (by decide) ?_
        refine e_iload_n q_X12_groupOf_37 (by decide) rfl ?_
        refine i_iald q_X12_groupOf_38 (a60 hB) (cref0 (by decide)) (by first | omega | assumption) (by first | omega | assumption) (by decide) rfl ?_
        refine e_ireturn q_X12_groupOf_39 rfl rfl ?_
        first | exact zqI h (by unfold r_groupOf; rw [zif_t ⟨c5, c12⟩]; exact if_pos (by omega)) | exact zqI h (by unfold r_groupOf; rw [zif_t ⟨c5, c12⟩]; exact if_neg (by omega))
      · skip
        refine e_bipush q_X12_groupOf_28 (by decide) ?_
        refine e_goto q_X12_groupOf_30 ?_
        refine e_ireturn q_X12_groupOf_39 rfl rfl ?_
        first | exact zqI h (by unfold r_groupOf; rw [zif_t ⟨c5, c12⟩]; exact if_pos (by omega)) | exact zqI h (by unfold r_groupOf; rw [zif_t ⟨c5, c12⟩]; exact if_neg (by omega))
    · skip
      refine e_iconst q_X12_groupOf_15 ?_
      refine e_ireturn q_X12_groupOf_16 rfl rfl ?_
      exact zqI h (by unfold r_groupOf; exact zif_f (fun q => by first | exact c5 q.1 | exact c12 q.2 | omega))
set_option maxRecDepth 20000 in
set_option maxHeartbeats 2000000 in
theorem k_members (hB : zB0 s) (hm : mI N){g : Int} (hg : zr g){d : Int} (hd : zr d) (h : Q (some (vi (r_members N g d))) (zI s N)) : zC X m_X12_members [.ref 39, vi g, vi d] (zI s N) Q := by
  have hR := hm.1
  have hC := hm.2.1
  unfold mCnt at hC
  show zE X m_X12_members 0 [.ref 39, vi g, vi d] [] _ Q
  refine e_aload_n q_X12_members_0 (by decide) rfl ?_
  refine e_iload_n q_X12_members_1 (by decide) rfl ?_
  refine iv_X12_isGroup q_X12_members_2 lk_X12_261 (by decide) (a39 hB) (Nat.le_of_ble_eq_true rfl) ?_
  refine k_isGroup hB hm hg ?_
  refine e_ifb_eq q_X12_members_5 (fun c5 => ?_) (fun c5 => ?_)
  · skip
    refine e_iconst q_X12_members_24 ?_
    refine e_ireturn q_X12_members_25 rfl rfl ?_
    first | exact zqI h (by unfold r_members; exact zif_t ⟨c5, c12⟩) | exact zqI h (by unfold r_members; exact zif_f (fun q => by first | exact c5 q.1 | exact c12 q.2))
  · skip
    refine e_iload_n q_X12_members_8 (by decide) rfl ?_
    refine iv_X12_isDay q_X12_members_9 lk_X12_181 (by decide) (Nat.le_of_ble_eq_true rfl) ?_
    refine k_isDay hd ?_
    refine e_ifb_eq q_X12_members_12 (fun c12 => ?_) (fun c12 => ?_)
    · skip
      refine e_iconst q_X12_members_24 ?_
      refine e_ireturn q_X12_members_25 rfl rfl ?_
      first | exact zqI h (by unfold r_members; exact zif_t ⟨c5, c12⟩) | exact zqI h (by unfold r_members; exact zif_f (fun q => by first | exact c5 q.1 | exact c12 q.2))
    · skip
      refine e_aload_n q_X12_members_15 (by decide) rfl ?_
      refine e_iload_n q_X12_members_16 (by decide) rfl ?_
      refine e_iload_n q_X12_members_17 (by decide) rfl ?_
      refine iv_X12_membersOf q_X12_members_18 lk_X12_267 (by decide) (a39 hB) (Nat.le_of_ble_eq_true rfl) ?_
      refine k_membersOf hB hm hg c12 ?_
      refine e_goto q_X12_members_21 ?_
      refine e_ireturn q_X12_members_25 rfl rfl ?_
      first | exact zqI h (by unfold r_members; exact zif_t ⟨c5, c12⟩) | exact zqI h (by unfold r_members; exact zif_f (fun q => by first | exact c5 q.1 | exact c12 q.2))
set_option maxRecDepth 20000 in
set_option maxHeartbeats 2000000 in
theorem k_charged (hB : zB0 s) (hm : mI N){w : Int} (hw : zr w){d : Int} (hd : zr d) (h : Q (some (vi (r_charged N w d))) (zI s N)) : zC X m_X12_charged [.ref 39, vi w, vi d] (zI s N) Q := by
  have hR := hm.1
  have hC := hm.2.1
  unfold mCnt at hC
  show zE X m_X12_charged 0 [.ref 39, vi w, vi d] [] _ Q
  refine e_aload_n q_X12_charged_0 (by decide) rfl ?_
  refine e_iload_n q_X12_charged_1 (by decide) rfl ?_
  refine iv_X12_isOne q_X12_charged_2 lk_X12_170 (by decide) (a39 hB) (Nat.le_of_ble_eq_true rfl) ?_
  refine k_isOne hB hm hw ?_
  refine e_ifb_eq q_X12_charged_5 (fun c5 => ?_) (fun c5 => ?_)
  · skip
    refine e_iconst q_X12_charged_15 ?_
    refine e_ireturn q_X12_charged_16 rfl rfl ?_
    exact zqI h (by unfold r_charged; exact zif_f (fun q => by first | exact c5 q.1 | exact c12 q.2 | omega))
  · skip
    refine e_iload_n q_X12_charged_8 (by decide) rfl ?_
    refine iv_X12_isDay q_X12_charged_9 lk_X12_181 (by decide) (Nat.le_of_ble_eq_true rfl) ?_
    refine k_isDay hd ?_
    refine e_ifb_ne q_X12_charged_12 (fun c12 => ?_) (fun c12 => ?_)
    · skip
      refine e_aload_n q_X12_charged_17 (by decide) rfl ?_
      refine i_getC (r := 41) q_X12_charged_18 fl_X12_13 (a39 hB) rfl (by decide) ?_
      refine e_iload_n q_X12_charged_21 (by decide) rfl ?_
      refine i_iald q_X12_charged_22 (a41 hB) (cref0 (by decide)) (by first | omega | assumption) (by first | omega | assumption) (by decide) rfl ?_
      refine e_iconst q_X12_charged_23 ?_
      refine e_icmp_ne q_X12_charged_24 (by first | exact hR _ _ | (constructor <;> omega) | assumption) (by first | exact hR _ _ | (constructor <;> omega) | assumption) (fun c24 => ?_) (fun c24 => ?_)
      · skip
        refine e_bipush q_X12_charged_36 (by decide) ?_
        refine e_ireturn q_X12_charged_38 rfl rfl ?_
        first | exact zqI h (by unfold r_charged; rw [zif_t ⟨c5, c12⟩]; exact if_pos (by omega)) | exact zqI h (by unfold r_charged; rw [zif_t ⟨c5, c12⟩]; exact if_neg (by omega))
      · skip
        refine e_aload_n q_X12_charged_27 (by decide) rfl ?_
        refine e_iload_n q_X12_charged_28 (by decide) rfl ?_
        refine e_iload_n q_X12_charged_29 (by decide) rfl ?_
        refine iv_X12_chargedFor q_X12_charged_30 lk_X12_289 (by decide) (a39 hB) (Nat.le_of_ble_eq_true rfl) ?_
        refine k_chargedFor hB hm c5.1 c5.2 c12 ?_
        refine e_goto q_X12_charged_33 ?_
        refine e_ireturn q_X12_charged_38 rfl rfl ?_
        first | exact zqI h (by unfold r_charged; rw [zif_t ⟨c5, c12⟩]; exact if_pos (by omega)) | exact zqI h (by unfold r_charged; rw [zif_t ⟨c5, c12⟩]; exact if_neg (by omega))
    · skip
      refine e_iconst q_X12_charged_15 ?_
      refine e_ireturn q_X12_charged_16 rfl rfl ?_
      exact zqI h (by unfold r_charged; exact zif_f (fun q => by first | exact c5 q.1 | exact c12 q.2 | omega))
set_option maxRecDepth 20000 in
set_option maxHeartbeats 2000000 in
theorem k_came (hB : zB0 s) (hm : mI N){w : Int} (hw : zr w) (h : Q (some (vi (r_came N w))) (zI s N)) : zC X m_X12_came [.ref 39, vi w] (zI s N) Q := by
  have hR := hm.1
  have hC := hm.2.1
  unfold mCnt at hC
  show zE X m_X12_came 0 [.ref 39, vi w] [] _ Q
  refine e_aload_n q_X12_came_0 (by decide) rfl ?_
  refine e_iload_n q_X12_came_1 (by decide) rfl ?_
  refine iv_X12_isOne q_X12_came_2 lk_X12_170 (by decide) (a39 hB) (Nat.le_of_ble_eq_true rfl) ?_
  refine k_isOne hB hm hw ?_
  refine e_ifb_ne q_X12_came_5 (fun c5 => ?_) (fun c5 => ?_)
  · skip
    refine e_aload_n q_X12_came_10 (by decide) rfl ?_
    refine i_getI (k' := 49) q_X12_came_11 fl_X12_312 (a39 hB) rfl rfl rfl rfl ?_
    refine e_if_eq q_X12_came_14 (by first | exact hR _ _ | (constructor <;> omega) | assumption) (fun c14 => ?_) (fun c14 => ?_)
    · skip
      refine e_bipush q_X12_came_26 (by decide) ?_
      refine e_ireturn q_X12_came_28 rfl rfl ?_
      first | exact zqI h (by unfold r_came; rw [zif_t c5]; exact if_pos (by omega)) | exact zqI h (by unfold r_came; rw [zif_t c5]; exact if_neg (by omega))
    · skip
      refine e_aload_n q_X12_came_17 (by decide) rfl ?_
      refine i_getC (r := 73) q_X12_came_18 fl_X12_115 (a39 hB) rfl (by decide) ?_
      refine e_iload_n q_X12_came_21 (by decide) rfl ?_
      refine i_iald q_X12_came_22 (a73 hB) (cref0 (by decide)) (by first | omega | assumption) (by first | omega | assumption) (by decide) rfl ?_
      refine e_goto q_X12_came_23 ?_
      refine e_ireturn q_X12_came_28 rfl rfl ?_
      first | exact zqI h (by unfold r_came; rw [zif_t c5]; exact if_pos (by omega)) | exact zqI h (by unfold r_came; rw [zif_t c5]; exact if_neg (by omega))
  · skip
    refine e_iconst q_X12_came_8 ?_
    refine e_ireturn q_X12_came_9 rfl rfl ?_
    exact zqI h (by unfold r_came; exact zif_f c5)
set_option maxRecDepth 20000 in
set_option maxHeartbeats 2000000 in
theorem k_told (hB : zB0 s) (hm : mI N){w : Int} (hw : zr w){k : Int} (hk0 : zr k) (h : Q (some (vi (r_told N w k))) (zI s N)) : zC X m_X12_told [.ref 39, vi w, vi k] (zI s N) Q := by
  have hR := hm.1
  have hC := hm.2.1
  unfold mCnt at hC
  show zE X m_X12_told 0 [.ref 39, vi w, vi k] [] _ Q
  refine e_aload_n q_X12_told_0 (by decide) rfl ?_
  refine e_iload_n q_X12_told_1 (by decide) rfl ?_
  refine iv_X12_isOne q_X12_told_2 lk_X12_170 (by decide) (a39 hB) (Nat.le_of_ble_eq_true rfl) ?_
  refine k_isOne hB hm hw ?_
  refine e_ifb_ne q_X12_told_5 (fun c5 => ?_) (fun c5 => ?_)
  · skip
    refine e_iload_n q_X12_told_10 (by decide) rfl ?_
    rcases (show k < 0 ∨ k = 0 ∨ k = 1 ∨ k = 2 ∨ k = 3 ∨ k = 4 ∨ k = 5 ∨ 5 < k by omega) with hk | rfl | rfl | rfl | rfl | rfl | rfl | hk
    · skip
      refine e_tableOut (tgt := 125) q_X12_told_11 (by first | exact hR _ _ | (constructor <;> omega) | assumption) (by omega) rfl ?_
      refine e_iconst q_X12_told_125 ?_
      refine e_ireturn q_X12_told_126 rfl rfl ?_
      first | exact zqI h (by unfold r_told; rw [zif_t c5]; rfl) | exact zqI h (by unfold r_told; rw [zif_t c5]; exact bi_t (by omega)) | exact zqI h (by unfold r_told; rw [zif_t c5]; exact bi_f (by omega)) | exact zqI h (by unfold r_told; rw [zif_t c5]; exact if_pos (by omega)) | exact zqI h (by unfold r_told; rw [zif_t c5]; exact if_neg (by omega)) | exact zqI h (by unfold r_told; rw [zif_t c5]; rw [if_neg (by omega), if_neg (by omega), if_neg (by omega), if_neg (by omega), if_neg (by omega), if_neg (by omega)])
    · skip
      refine e_tableIn (off := 37) (tgt := 48) q_X12_told_11 (by first | exact hR _ _ | (constructor <;> omega) | assumption) (by omega) (by omega) rfl rfl ?_
      refine e_aload_n q_X12_told_48 (by decide) rfl ?_
      refine i_getC (r := 41) q_X12_told_49 fl_X12_13 (a39 hB) rfl (by decide) ?_
      refine e_iload_n q_X12_told_52 (by decide) rfl ?_
      refine i_iald q_X12_told_53 (a41 hB) (cref0 (by decide)) (by first | omega | assumption) (by first | omega | assumption) (by decide) rfl ?_
      refine e_ireturn q_X12_told_54 rfl rfl ?_
      first | exact zqI h (by unfold r_told; rw [zif_t c5]; rfl) | exact zqI h (by unfold r_told; rw [zif_t c5]; exact bi_t (by omega)) | exact zqI h (by unfold r_told; rw [zif_t c5]; exact bi_f (by omega)) | exact zqI h (by unfold r_told; rw [zif_t c5]; exact if_pos (by omega)) | exact zqI h (by unfold r_told; rw [zif_t c5]; exact if_neg (by omega)) | exact zqI h (by unfold r_told; rw [zif_t c5]; rw [if_neg (by omega), if_neg (by omega), if_neg (by omega), if_neg (by omega), if_neg (by omega), if_neg (by omega)])
    · skip
      refine e_tableIn (off := 44) (tgt := 55) q_X12_told_11 (by first | exact hR _ _ | (constructor <;> omega) | assumption) (by omega) (by omega) rfl rfl ?_
      refine e_aload_n q_X12_told_55 (by decide) rfl ?_
      refine i_getC (r := 43) q_X12_told_56 fl_X12_19 (a39 hB) rfl (by decide) ?_
      refine e_iload_n q_X12_told_59 (by decide) rfl ?_
      refine i_iald q_X12_told_60 (a43 hB) (cref0 (by decide)) (by first | omega | assumption) (by first | omega | assumption) (by decide) rfl ?_
      refine e_ireturn q_X12_told_61 rfl rfl ?_
      first | exact zqI h (by unfold r_told; rw [zif_t c5]; rfl) | exact zqI h (by unfold r_told; rw [zif_t c5]; exact bi_t (by omega)) | exact zqI h (by unfold r_told; rw [zif_t c5]; exact bi_f (by omega)) | exact zqI h (by unfold r_told; rw [zif_t c5]; exact if_pos (by omega)) | exact zqI h (by unfold r_told; rw [zif_t c5]; exact if_neg (by omega)) | exact zqI h (by unfold r_told; rw [zif_t c5]; rw [if_neg (by omega), if_neg (by omega), if_neg (by omega), if_neg (by omega), if_neg (by omega), if_neg (by omega)])
    · skip
      refine e_tableIn (off := 51) (tgt := 62) q_X12_told_11 (by first | exact hR _ _ | (constructor <;> omega) | assumption) (by omega) (by omega) rfl rfl ?_
      refine e_aload_n q_X12_told_62 (by decide) rfl ?_
      refine i_getC (r := 44) q_X12_told_63 fl_X12_22 (a39 hB) rfl (by decide) ?_
      refine e_iload_n q_X12_told_66 (by decide) rfl ?_
      refine i_iald q_X12_told_67 (a44 hB) (cref0 (by decide)) (by first | omega | assumption) (by first | omega | assumption) (by decide) rfl ?_
      refine e_ireturn q_X12_told_68 rfl rfl ?_
      first | exact zqI h (by unfold r_told; rw [zif_t c5]; rfl) | exact zqI h (by unfold r_told; rw [zif_t c5]; exact bi_t (by omega)) | exact zqI h (by unfold r_told; rw [zif_t c5]; exact bi_f (by omega)) | exact zqI h (by unfold r_told; rw [zif_t c5]; exact if_pos (by omega)) | exact zqI h (by unfold r_told; rw [zif_t c5]; exact if_neg (by omega)) | exact zqI h (by unfold r_told; rw [zif_t c5]; rw [if_neg (by omega), if_neg (by omega), if_neg (by omega), if_neg (by omega), if_neg (by omega), if_neg (by omega)])
    · skip
      refine e_tableIn (off := 58) (tgt := 69) q_X12_told_11 (by first | exact hR _ _ | (constructor <;> omega) | assumption) (by omega) (by omega) rfl rfl ?_
      refine e_aload_n q_X12_told_69 (by decide) rfl ?_
      refine i_getC (r := 45) q_X12_told_70 fl_X12_25 (a39 hB) rfl (by decide) ?_
      refine e_iload_n q_X12_told_73 (by decide) rfl ?_
      refine i_zald q_X12_told_74 (a45 hB) (cref0 (by decide)) (by first | omega | assumption) (by first | omega | assumption) (by decide) rfl ?_
      refine e_if_eq q_X12_told_75 (by first | exact hR _ _ | (constructor <;> omega) | assumption) (fun c75 => ?_) (fun c75 => ?_)
      · skip
        refine e_iconst q_X12_told_82 ?_
        refine e_ireturn q_X12_told_83 rfl rfl ?_
        first | exact zqI h (by unfold r_told; rw [zif_t c5]; rfl) | exact zqI h (by unfold r_told; rw [zif_t c5]; exact bi_t (by omega)) | exact zqI h (by unfold r_told; rw [zif_t c5]; exact bi_f (by omega)) | exact zqI h (by unfold r_told; rw [zif_t c5]; exact if_pos (by omega)) | exact zqI h (by unfold r_told; rw [zif_t c5]; exact if_neg (by omega)) | exact zqI h (by unfold r_told; rw [zif_t c5]; rw [if_neg (by omega), if_neg (by omega), if_neg (by omega), if_neg (by omega), if_neg (by omega), if_neg (by omega)])
      · skip
        refine e_iconst q_X12_told_78 ?_
        refine e_goto q_X12_told_79 ?_
        refine e_ireturn q_X12_told_83 rfl rfl ?_
        first | exact zqI h (by unfold r_told; rw [zif_t c5]; rfl) | exact zqI h (by unfold r_told; rw [zif_t c5]; exact bi_t (by omega)) | exact zqI h (by unfold r_told; rw [zif_t c5]; exact bi_f (by omega)) | exact zqI h (by unfold r_told; rw [zif_t c5]; exact if_pos (by omega)) | exact zqI h (by unfold r_told; rw [zif_t c5]; exact if_neg (by omega)) | exact zqI h (by unfold r_told; rw [zif_t c5]; rw [if_neg (by omega), if_neg (by omega), if_neg (by omega), if_neg (by omega), if_neg (by omega), if_neg (by omega)])
    · skip
      refine e_tableIn (off := 73) (tgt := 84) q_X12_told_11 (by first | exact hR _ _ | (constructor <;> omega) | assumption) (by omega) (by omega) rfl rfl ?_
      refine e_aload_n q_X12_told_84 (by decide) rfl ?_
      refine i_getC (r := 46) q_X12_told_85 fl_X12_29 (a39 hB) rfl (by decide) ?_
      refine e_iload_n q_X12_told_88 (by decide) rfl ?_
      refine i_iald q_X12_told_89 (a46 hB) (cref0 (by decide)) (by first | omega | assumption) (by first | omega | assumption) (by decide) rfl ?_
      refine e_if_ge q_X12_told_90 (by first | exact hR _ _ | (constructor <;> omega) | assumption) (fun c90 => ?_) (fun c90 => ?_)
      · skip
        refine e_aload_n q_X12_told_98 (by decide) rfl ?_
        refine i_getC (r := 46) q_X12_told_99 fl_X12_29 (a39 hB) rfl (by decide) ?_
        refine e_iload_n q_X12_told_102 (by decide) rfl ?_
        refine i_iald q_X12_told_103 (a46 hB) (cref0 (by decide)) (by first | omega | assumption) (by first | omega | assumption) (by decide) rfl ?_
        refine e_ireturn q_X12_told_104 rfl rfl ?_
        first | exact zqI h (by unfold r_told; rw [zif_t c5]; show (if N 46 w < 0 then -4 else N 46 w) = _; exact if_pos (by omega)) | exact zqI h (by unfold r_told; rw [zif_t c5]; show (if N 46 w < 0 then -4 else N 46 w) = _; exact if_neg (by omega))
      · skip
        refine e_bipush q_X12_told_93 (by decide) ?_
        refine e_goto q_X12_told_95 ?_
        refine e_ireturn q_X12_told_104 rfl rfl ?_
        first | exact zqI h (by unfold r_told; rw [zif_t c5]; show (if N 46 w < 0 then -4 else N 46 w) = _; exact if_pos (by omega)) | exact zqI h (by unfold r_told; rw [zif_t c5]; show (if N 46 w < 0 then -4 else N 46 w) = _; exact if_neg (by omega))
    · skip
      refine e_tableIn (off := 94) (tgt := 105) q_X12_told_11 (by first | exact hR _ _ | (constructor <;> omega) | assumption) (by omega) (by omega) rfl rfl ?_
      refine e_aload_n q_X12_told_105 (by decide) rfl ?_
      refine e_iload_n q_X12_told_106 (by decide) rfl ?_
      refine iv_X12_isDead q_X12_told_107 lk_X12_178 (by decide) (a39 hB) (Nat.le_of_ble_eq_true rfl) ?_
      refine k_isDead hB hm (by omega) (by omega) ?_
      refine e_ifb_eq q_X12_told_110 (fun c110 => ?_) (fun c110 => ?_)
      · skip
        refine e_bipush q_X12_told_122 (by decide) ?_
        refine e_ireturn q_X12_told_124 rfl rfl ?_
        first | exact zqI h (by unfold r_told; rw [zif_t c5]; show (if N 47 w = 100000 then -4 else N 47 w) = _; exact if_pos (by omega)) | exact zqI h (by unfold r_told; rw [zif_t c5]; show (if N 47 w = 100000 then -4 else N 47 w) = _; exact if_neg (by omega))
      · skip
        refine e_aload_n q_X12_told_113 (by decide) rfl ?_
        refine i_getC (r := 47) q_X12_told_114 fl_X12_32 (a39 hB) rfl (by decide) ?_
        refine e_iload_n q_X12_told_117 (by decide) rfl ?_
        refine i_iald q_X12_told_118 (a47 hB) (cref0 (by decide)) (by first | omega | assumption) (by first | omega | assumption) (by decide) rfl ?_
        refine e_goto q_X12_told_119 ?_
        refine e_ireturn q_X12_told_124 rfl rfl ?_
        first | exact zqI h (by unfold r_told; rw [zif_t c5]; show (if N 47 w = 100000 then -4 else N 47 w) = _; exact if_pos (by omega)) | exact zqI h (by unfold r_told; rw [zif_t c5]; show (if N 47 w = 100000 then -4 else N 47 w) = _; exact if_neg (by omega))
    · skip
      refine e_tableOut (tgt := 125) q_X12_told_11 (by first | exact hR _ _ | (constructor <;> omega) | assumption) (by omega) rfl ?_
      refine e_iconst q_X12_told_125 ?_
      refine e_ireturn q_X12_told_126 rfl rfl ?_
      first | exact zqI h (by unfold r_told; rw [zif_t c5]; rfl) | exact zqI h (by unfold r_told; rw [zif_t c5]; exact bi_t (by omega)) | exact zqI h (by unfold r_told; rw [zif_t c5]; exact bi_f (by omega)) | exact zqI h (by unfold r_told; rw [zif_t c5]; exact if_pos (by omega)) | exact zqI h (by unfold r_told; rw [zif_t c5]; exact if_neg (by omega)) | exact zqI h (by unfold r_told; rw [zif_t c5]; rw [if_neg (by omega), if_neg (by omega), if_neg (by omega), if_neg (by omega), if_neg (by omega), if_neg (by omega)])
  · skip
    refine e_iconst q_X12_told_8 ?_
    refine e_ireturn q_X12_told_9 rfl rfl ?_
    exact zqI h (by unfold r_told; exact zif_f c5)
set_option maxRecDepth 20000 in
set_option maxHeartbeats 2000000 in
theorem k_count (hB : zB0 s) (hm : mI N){k : Int} (hk0 : zr k) (h : Q (some (vi (r_count N k))) (zI s N)) : zC X m_X12_count [.ref 39, vi k] (zI s N) Q := by
  have hR := hm.1
  have hC := hm.2.1
  unfold mCnt at hC
  show zE X m_X12_count 0 [.ref 39, vi k] [] _ Q
  refine e_iload_n q_X12_count_0 (by decide) rfl ?_
  rcases (show k < 0 ∨ k = 0 ∨ k = 1 ∨ k = 2 ∨ k = 3 ∨ k = 4 ∨ k = 5 ∨ k = 6 ∨ 6 < k by omega) with hk | rfl | rfl | rfl | rfl | rfl | rfl | rfl | hk
  · skip
    refine e_tableOut (tgt := 79) q_X12_count_1 (by first | exact hR _ _ | (constructor <;> omega) | assumption) (by omega) rfl ?_
    refine e_iconst q_X12_count_79 ?_
    refine e_ireturn q_X12_count_80 rfl rfl ?_
    first | exact zqI h (by unfold r_count; rfl) | exact zqI h (by unfold r_count; rw [if_neg (by omega), if_neg (by omega), if_neg (by omega), if_neg (by omega), if_neg (by omega), if_neg (by omega), if_neg (by omega)])
  · skip
    refine e_tableIn (off := 43) (tgt := 44) q_X12_count_1 (by first | exact hR _ _ | (constructor <;> omega) | assumption) (by omega) (by omega) rfl rfl ?_
    refine e_aload_n q_X12_count_44 (by decide) rfl ?_
    refine i_getI (k' := 0) q_X12_count_45 fl_X12_167 (a39 hB) rfl rfl rfl rfl ?_
    refine e_ireturn q_X12_count_48 rfl rfl ?_
    first | exact zqI h (by unfold r_count; rfl) | exact zqI h (by unfold r_count; rw [if_neg (by omega), if_neg (by omega), if_neg (by omega), if_neg (by omega), if_neg (by omega), if_neg (by omega), if_neg (by omega)])
  · skip
    refine e_tableIn (off := 48) (tgt := 49) q_X12_count_1 (by first | exact hR _ _ | (constructor <;> omega) | assumption) (by omega) (by omega) rfl rfl ?_
    refine e_aload_n q_X12_count_49 (by decide) rfl ?_
    refine i_getI (k' := 2) q_X12_count_50 fl_X12_164 (a39 hB) rfl rfl rfl rfl ?_
    refine e_ireturn q_X12_count_53 rfl rfl ?_
    first | exact zqI h (by unfold r_count; rfl) | exact zqI h (by unfold r_count; rw [if_neg (by omega), if_neg (by omega), if_neg (by omega), if_neg (by omega), if_neg (by omega), if_neg (by omega), if_neg (by omega)])
  · skip
    refine e_tableIn (off := 53) (tgt := 54) q_X12_count_1 (by first | exact hR _ _ | (constructor <;> omega) | assumption) (by omega) (by omega) rfl rfl ?_
    refine e_aload_n q_X12_count_54 (by decide) rfl ?_
    refine i_getI (k' := 29) q_X12_count_55 fl_X12_248 (a39 hB) rfl rfl rfl rfl ?_
    refine e_ireturn q_X12_count_58 rfl rfl ?_
    first | exact zqI h (by unfold r_count; rfl) | exact zqI h (by unfold r_count; rw [if_neg (by omega), if_neg (by omega), if_neg (by omega), if_neg (by omega), if_neg (by omega), if_neg (by omega), if_neg (by omega)])
  · skip
    refine e_tableIn (off := 58) (tgt := 59) q_X12_count_1 (by first | exact hR _ _ | (constructor <;> omega) | assumption) (by omega) (by omega) rfl rfl ?_
    refine e_aload_n q_X12_count_59 (by decide) rfl ?_
    refine i_getI (k' := 26) q_X12_count_60 fl_X12_245 (a39 hB) rfl rfl rfl rfl ?_
    refine e_ireturn q_X12_count_63 rfl rfl ?_
    first | exact zqI h (by unfold r_count; rfl) | exact zqI h (by unfold r_count; rw [if_neg (by omega), if_neg (by omega), if_neg (by omega), if_neg (by omega), if_neg (by omega), if_neg (by omega), if_neg (by omega)])
  · skip
    refine e_tableIn (off := 63) (tgt := 64) q_X12_count_1 (by first | exact hR _ _ | (constructor <;> omega) | assumption) (by omega) (by omega) rfl rfl ?_
    refine e_aload_n q_X12_count_64 (by decide) rfl ?_
    refine i_getI (k' := 36) q_X12_count_65 fl_X12_277 (a39 hB) rfl rfl rfl rfl ?_
    refine e_ireturn q_X12_count_68 rfl rfl ?_
    first | exact zqI h (by unfold r_count; rfl) | exact zqI h (by unfold r_count; rw [if_neg (by omega), if_neg (by omega), if_neg (by omega), if_neg (by omega), if_neg (by omega), if_neg (by omega), if_neg (by omega)])
  · skip
    refine e_tableIn (off := 68) (tgt := 69) q_X12_count_1 (by first | exact hR _ _ | (constructor <;> omega) | assumption) (by omega) (by omega) rfl rfl ?_
    refine e_aload_n q_X12_count_69 (by decide) rfl ?_
    refine i_getI (k' := 50) q_X12_count_70 fl_X12_316 (a39 hB) rfl rfl rfl rfl ?_
    refine e_ireturn q_X12_count_73 rfl rfl ?_
    first | exact zqI h (by unfold r_count; rfl) | exact zqI h (by unfold r_count; rw [if_neg (by omega), if_neg (by omega), if_neg (by omega), if_neg (by omega), if_neg (by omega), if_neg (by omega), if_neg (by omega)])
  · skip
    refine e_tableIn (off := 73) (tgt := 74) q_X12_count_1 (by first | exact hR _ _ | (constructor <;> omega) | assumption) (by omega) (by omega) rfl rfl ?_
    refine e_aload_n q_X12_count_74 (by decide) rfl ?_
    refine i_getI (k' := 58) q_X12_count_75 fl_X12_331 (a39 hB) rfl rfl rfl rfl ?_
    refine e_ireturn q_X12_count_78 rfl rfl ?_
    first | exact zqI h (by unfold r_count; rfl) | exact zqI h (by unfold r_count; rw [if_neg (by omega), if_neg (by omega), if_neg (by omega), if_neg (by omega), if_neg (by omega), if_neg (by omega), if_neg (by omega)])
  · skip
    refine e_tableOut (tgt := 79) q_X12_count_1 (by first | exact hR _ _ | (constructor <;> omega) | assumption) (by omega) rfl ?_
    refine e_iconst q_X12_count_79 ?_
    refine e_ireturn q_X12_count_80 rfl rfl ?_
    first | exact zqI h (by unfold r_count; rfl) | exact zqI h (by unfold r_count; rw [if_neg (by omega), if_neg (by omega), if_neg (by omega), if_neg (by omega), if_neg (by omega), if_neg (by omega), if_neg (by omega)])
set_option maxRecDepth 20000 in
set_option maxHeartbeats 2000000 in
theorem k_owes (hB : zB0 s) (hm : mI N){w : Int} (hw : zr w){p : Int} (hp0 : zr p) (h : Q (some (vi (r_owes N w p))) (zI s N)) : zC X m_X12_owes [.ref 39, vi w, vi p] (zI s N) Q := by
  have hR := hm.1
  have hC := hm.2.1
  unfold mCnt at hC
  show zE X m_X12_owes 0 [.ref 39, vi w, vi p] [] _ Q
  refine e_aload_n q_X12_owes_0 (by decide) rfl ?_
  refine e_iload_n q_X12_owes_1 (by decide) rfl ?_
  refine iv_X12_isOne q_X12_owes_2 lk_X12_170 (by decide) (a39 hB) (Nat.le_of_ble_eq_true rfl) ?_
  refine k_isOne hB hm hw ?_
  refine e_ifb_eq q_X12_owes_5 (fun c5 => ?_) (fun c5 => ?_)
  · skip
    refine e_iconst q_X12_owes_21 ?_
    refine e_ireturn q_X12_owes_22 rfl rfl ?_
    exact zqI h (by unfold r_owes; exact zif_f (fun q => by first | exact c5 q.1 | omega))
  · skip
    refine e_iload_n q_X12_owes_8 (by decide) rfl ?_
    refine e_iconst q_X12_owes_9 ?_
    refine e_icmp_lt q_X12_owes_10 (by first | exact hR _ _ | (constructor <;> omega) | assumption) (by first | exact hR _ _ | (constructor <;> omega) | assumption) (fun c10 => ?_) (fun c10 => ?_)
    · skip
      refine e_iconst q_X12_owes_21 ?_
      refine e_ireturn q_X12_owes_22 rfl rfl ?_
      exact zqI h (by unfold r_owes; exact zif_f (fun q => by first | exact c5 q.1 | omega))
    · skip
      refine e_iload_n q_X12_owes_13 (by decide) rfl ?_
      refine e_aload_n q_X12_owes_14 (by decide) rfl ?_
      refine i_getI (k' := 50) q_X12_owes_15 fl_X12_316 (a39 hB) rfl rfl rfl rfl ?_
      refine e_icmp_lt q_X12_owes_18 (by first | exact hR _ _ | (constructor <;> omega) | assumption) (by first | exact hR _ _ | (constructor <;> omega) | assumption) (fun c18 => ?_) (fun c18 => ?_)
      · skip
        refine e_iload_n q_X12_owes_23 (by decide) rfl ?_
        refine e_if_ge q_X12_owes_24 (by first | exact hR _ _ | (constructor <;> omega) | assumption) (fun c24 => ?_) (fun c24 => ?_)
        · skip
          refine e_aload_n q_X12_owes_35 (by decide) rfl ?_
          refine i_getC (r := 80) q_X12_owes_36 fl_X12_136 (a39 hB) rfl (by decide) ?_
          refine e_bipush q_X12_owes_39 (by decide) ?_
          refine e_iload_n q_X12_owes_41 (by decide) rfl ?_
          refine e_imul q_X12_owes_42 ?_
          refine e_iload_n q_X12_owes_43 (by decide) rfl ?_
          refine e_iadd q_X12_owes_44 ?_
          refine i_iald q_X12_owes_45 (a80 hB) (cref0 (by decide)) (by first | omega | assumption) (by first | omega | assumption) (by decide) rfl ?_
          refine e_ireturn q_X12_owes_46 rfl rfl ?_
          first | exact zqI h (by unfold r_owes; rw [zif_t ⟨c5, by omega, by omega⟩]; exact if_pos (by omega)) | exact zqI h (by unfold r_owes; rw [zif_t ⟨c5, by omega, by omega⟩]; exact if_neg (by omega))
        · skip
          refine e_aload_n q_X12_owes_27 (by decide) rfl ?_
          refine e_iload_n q_X12_owes_28 (by decide) rfl ?_
          refine iv_X12_owesAll q_X12_owes_29 lk_X12_337 (by decide) (a39 hB) (Nat.le_of_ble_eq_true rfl) ?_
          refine k_owesAll hB hm (by omega) (by omega) ?_
          refine e_goto q_X12_owes_32 ?_
          refine e_ireturn q_X12_owes_46 rfl rfl ?_
          first | exact zqI h (by unfold r_owes; rw [zif_t ⟨c5, by omega, by omega⟩]; exact if_pos (by omega)) | exact zqI h (by unfold r_owes; rw [zif_t ⟨c5, by omega, by omega⟩]; exact if_neg (by omega))
      · skip
        refine e_iconst q_X12_owes_21 ?_
        refine e_ireturn q_X12_owes_22 rfl rfl ?_
        exact zqI h (by unfold r_owes; exact zif_f (fun q => by first | exact c5 q.1 | omega))
set_option maxRecDepth 20000 in
set_option maxHeartbeats 2000000 in
theorem k_leftOut (hB : zB0 s) (hm : mI N){n : Int} (hn0 : zr n) (hr1 : ∀ n : Int, 0 ≤ n → n < 40 → zr (N 85 n - N 86 n)) (h : Q (some (vi (r_leftOut N n))) (zI s N)) : zC X m_X12_leftOut [.ref 39, vi n] (zI s N) Q := by
  have hR := hm.1
  have hC := hm.2.1
  unfold mCnt at hC
  show zE X m_X12_leftOut 0 [.ref 39, vi n] [] _ Q
  refine e_iload_n q_X12_leftOut_0 (by decide) rfl ?_
  refine e_iconst q_X12_leftOut_1 ?_
  refine e_bipush q_X12_leftOut_2 (by decide) ?_
  refine iv_X12_within q_X12_leftOut_4 lk_X12_160 (by decide) (Nat.le_of_ble_eq_true rfl) ?_
  refine k_within hn0 (by constructor <;> omega) (by constructor <;> omega) ?_
  refine e_ifb_ne q_X12_leftOut_7 (fun c7 => ?_) (fun c7 => ?_)
  · skip
    refine e_aload_n q_X12_leftOut_12 (by decide) rfl ?_
    refine i_getI (k' := 63) q_X12_leftOut_13 fl_X12_353 (a39 hB) rfl rfl rfl rfl ?_
    refine e_if_eq q_X12_leftOut_16 (by first | exact hR _ _ | (constructor <;> omega) | assumption) (fun c16 => ?_) (fun c16 => ?_)
    · skip
      refine e_bipush q_X12_leftOut_27 (by decide) ?_
      refine e_ireturn q_X12_leftOut_29 rfl rfl ?_
      first | exact zqI h (by unfold r_leftOut; rw [zif_t c7]; exact if_pos (by omega)) | exact zqI h (by unfold r_leftOut; rw [zif_t c7]; exact if_neg (by omega))
    · skip
      refine e_aload_n q_X12_leftOut_19 (by decide) rfl ?_
      refine e_iload_n q_X12_leftOut_20 (by decide) rfl ?_
      refine iv_X12_leftOutOf q_X12_leftOut_21 lk_X12_356 (by decide) (a39 hB) (Nat.le_of_ble_eq_true rfl) ?_
      refine k_leftOutOf hB hm c7.1 (by omega) (hr1 n (by omega) (by omega)) ?_
      refine e_goto q_X12_leftOut_24 ?_
      refine e_ireturn q_X12_leftOut_29 rfl rfl ?_
      first | exact zqI h (by unfold r_leftOut; rw [zif_t c7]; exact if_pos (by omega)) | exact zqI h (by unfold r_leftOut; rw [zif_t c7]; exact if_neg (by omega))
  · skip
    refine e_iconst q_X12_leftOut_10 ?_
    refine e_ireturn q_X12_leftOut_11 rfl rfl ?_
    exact zqI h (by unfold r_leftOut; exact zif_f c7)
set_option maxRecDepth 20000 in
set_option maxHeartbeats 2000000 in
theorem k_sure (hB : zB0 s) (hm : mI N){w : Int} (hw : zr w) (h : Q (some (vi (r_sure N w))) (zI s N)) : zC X m_X12_sure [.ref 39, vi w] (zI s N) Q := by
  have hR := hm.1
  have hC := hm.2.1
  unfold mCnt at hC
  show zE X m_X12_sure 0 [.ref 39, vi w, zU] [] _ Q
  refine e_aload_n q_X12_sure_0 (by decide) rfl ?_
  refine e_iload_n q_X12_sure_1 (by decide) rfl ?_
  refine iv_X12_isOne q_X12_sure_2 lk_X12_170 (by decide) (a39 hB) (Nat.le_of_ble_eq_true rfl) ?_
  refine k_isOne hB hm hw ?_
  refine e_ifb_ne q_X12_sure_5 (fun c5 => ?_) (fun c5 => ?_)
  · skip
    have hp := hm.2.2.1 w c5.1 c5.2
    refine e_aload_n q_X12_sure_10 (by decide) rfl ?_
    refine i_getI (k' := 63) q_X12_sure_11 fl_X12_353 (a39 hB) rfl rfl rfl rfl ?_
    refine e_if_eq q_X12_sure_14 (by first | exact hR _ _ | (constructor <;> omega) | assumption) (fun c14 => ?_) (fun c14 => ?_)
    · skip
      refine e_bipush q_X12_sure_26 (by decide) ?_
      refine e_ireturn q_X12_sure_28 rfl rfl ?_
      first | exact zqI h (by unfold r_sure; rw [zif_t c5]; exact if_pos (by omega)) | exact zqI h (by unfold r_sure; rw [zif_t c5]; rw [if_neg (by omega), if_pos (by omega)]) | exact zqI h (by unfold r_sure; rw [zif_t c5]; rw [if_neg (by omega), if_neg (by omega), if_pos (by omega)]) | exact zqI h (by unfold r_sure; rw [zif_t c5]; rw [if_neg (by omega), if_neg (by omega), if_neg (by omega)])
    · skip
      refine e_aload_n q_X12_sure_17 (by decide) rfl ?_
      refine i_getC (r := 87) q_X12_sure_18 fl_X12_157 (a39 hB) rfl (by decide) ?_
      refine e_iload_n q_X12_sure_21 (by decide) rfl ?_
      refine i_zald q_X12_sure_22 (a87 hB) (cref0 (by decide)) (by first | omega | assumption) (by first | omega | assumption) (by decide) rfl ?_
      refine e_if_ne q_X12_sure_23 (by first | exact hR _ _ | (constructor <;> omega) | assumption) (fun c23 => ?_) (fun c23 => ?_)
      · skip
        refine e_aload_n q_X12_sure_29 (by decide) rfl ?_
        refine i_getC (r := 43) q_X12_sure_30 fl_X12_19 (a39 hB) rfl (by decide) ?_
        refine e_iload_n q_X12_sure_33 (by decide) rfl ?_
        refine i_iald q_X12_sure_34 (a43 hB) (cref0 (by decide)) (by first | omega | assumption) (by first | omega | assumption) (by decide) rfl ?_
        refine e_istore_n (ls' := [_, _, _]) q_X12_sure_35 (by decide) rfl rfl ?_
        refine e_aload_n q_X12_sure_36 (by decide) rfl ?_
        refine i_getC (r := 86) q_X12_sure_37 fl_X12_154 (a39 hB) rfl (by decide) ?_
        refine e_iload_n q_X12_sure_40 (by decide) rfl ?_
        refine i_iald q_X12_sure_41 (a86 hB) (cref0 (by decide)) (by first | omega | assumption) (by first | omega | assumption) (by decide) rfl ?_
        refine e_if_ne q_X12_sure_42 (by first | exact hR _ _ | (constructor <;> omega) | assumption) (fun c42 => ?_) (fun c42 => ?_)
        · skip
          refine e_aload_n q_X12_sure_49 (by decide) rfl ?_
          refine i_getC (r := 86) q_X12_sure_50 fl_X12_154 (a39 hB) rfl (by decide) ?_
          refine e_iload_n q_X12_sure_53 (by decide) rfl ?_
          refine i_iald q_X12_sure_54 (a86 hB) (cref0 (by decide)) (by first | omega | assumption) (by first | omega | assumption) (by decide) rfl ?_
          refine e_aload_n q_X12_sure_55 (by decide) rfl ?_
          refine i_getC (r := 85) q_X12_sure_56 fl_X12_151 (a39 hB) rfl (by decide) ?_
          refine e_iload_n q_X12_sure_59 (by decide) rfl ?_
          refine i_iald q_X12_sure_60 (a85 hB) (cref0 (by decide)) (by first | omega | assumption) (by first | omega | assumption) (by decide) rfl ?_
          refine e_icmp_lt q_X12_sure_61 (by first | exact hR _ _ | (constructor <;> omega) | assumption) (by first | exact hR _ _ | (constructor <;> omega) | assumption) (fun c61 => ?_) (fun c61 => ?_)
          · skip
            refine e_bipush q_X12_sure_68 (by decide) ?_
            refine e_ireturn q_X12_sure_70 rfl rfl ?_
            first | exact zqI h (by unfold r_sure; rw [zif_t c5]; exact if_pos (by omega)) | exact zqI h (by unfold r_sure; rw [zif_t c5]; rw [if_neg (by omega), if_pos (by omega)]) | exact zqI h (by unfold r_sure; rw [zif_t c5]; rw [if_neg (by omega), if_neg (by omega), if_pos (by omega)]) | exact zqI h (by unfold r_sure; rw [zif_t c5]; rw [if_neg (by omega), if_neg (by omega), if_neg (by omega)])
          · skip
            refine e_iconst q_X12_sure_64 ?_
            refine e_goto q_X12_sure_65 ?_
            refine e_ireturn q_X12_sure_70 rfl rfl ?_
            first | exact zqI h (by unfold r_sure; rw [zif_t c5]; exact if_pos (by omega)) | exact zqI h (by unfold r_sure; rw [zif_t c5]; rw [if_neg (by omega), if_pos (by omega)]) | exact zqI h (by unfold r_sure; rw [zif_t c5]; rw [if_neg (by omega), if_neg (by omega), if_pos (by omega)]) | exact zqI h (by unfold r_sure; rw [zif_t c5]; rw [if_neg (by omega), if_neg (by omega), if_neg (by omega)])
        · skip
          refine e_iconst q_X12_sure_45 ?_
          refine e_goto q_X12_sure_46 ?_
          refine e_ireturn q_X12_sure_70 rfl rfl ?_
          first | exact zqI h (by unfold r_sure; rw [zif_t c5]; exact if_pos (by omega)) | exact zqI h (by unfold r_sure; rw [zif_t c5]; rw [if_neg (by omega), if_pos (by omega)]) | exact zqI h (by unfold r_sure; rw [zif_t c5]; rw [if_neg (by omega), if_neg (by omega), if_pos (by omega)]) | exact zqI h (by unfold r_sure; rw [zif_t c5]; rw [if_neg (by omega), if_neg (by omega), if_neg (by omega)])
      · skip
        refine e_bipush q_X12_sure_26 (by decide) ?_
        refine e_ireturn q_X12_sure_28 rfl rfl ?_
        first | exact zqI h (by unfold r_sure; rw [zif_t c5]; exact if_pos (by omega)) | exact zqI h (by unfold r_sure; rw [zif_t c5]; rw [if_neg (by omega), if_pos (by omega)]) | exact zqI h (by unfold r_sure; rw [zif_t c5]; rw [if_neg (by omega), if_neg (by omega), if_pos (by omega)]) | exact zqI h (by unfold r_sure; rw [zif_t c5]; rw [if_neg (by omega), if_neg (by omega), if_neg (by omega)])
  · skip
    refine e_iconst q_X12_sure_8 ?_
    refine e_ireturn q_X12_sure_9 rfl rfl ?_
    exact zqI h (by unfold r_sure; exact zif_f c5)
set_option maxRecDepth 20000 in
set_option maxHeartbeats 2000000 in
theorem k_wants (hB : zB0 s) (hm : mI N){d : Int} (hd : zr d){k : Int} (hk0 : zr k) (h : Q (some (vi (r_wants N d k))) (zI s N)) : zC X m_X12_wants [.ref 39, vi d, vi k] (zI s N) Q := by
  have hR := hm.1
  have hC := hm.2.1
  unfold mCnt at hC
  show zE X m_X12_wants 0 [.ref 39, vi d, vi k, zU, zU] [] _ Q
  refine e_iload_n q_X12_wants_0 (by decide) rfl ?_
  refine iv_X12_isDay q_X12_wants_1 lk_X12_181 (by decide) (Nat.le_of_ble_eq_true rfl) ?_
  refine k_isDay hd ?_
  refine e_ifb_eq q_X12_wants_4 (fun c4 => ?_) (fun c4 => ?_)
  · skip
    refine e_iconst q_X12_wants_16 ?_
    refine e_ireturn q_X12_wants_17 rfl rfl ?_
    exact zqI h (by unfold r_wants; exact zif_f (fun q => by first | exact c4 q.1 | exact c13 q.2))
  · skip
    refine e_iload_n q_X12_wants_7 (by decide) rfl ?_
    refine e_iconst q_X12_wants_8 ?_
    refine e_iconst q_X12_wants_9 ?_
    refine iv_X12_within q_X12_wants_10 lk_X12_160 (by decide) (Nat.le_of_ble_eq_true rfl) ?_
    refine k_within hk0 (by constructor <;> omega) (by constructor <;> omega) ?_
    refine e_ifb_ne q_X12_wants_13 (fun c13 => ?_) (fun c13 => ?_)
    · skip
      refine e_iconst q_X12_wants_18 ?_
      refine e_istore_n (ls' := [_, _, _, _, _]) q_X12_wants_19 (by decide) rfl rfl ?_
      refine e_iconst q_X12_wants_20 ?_
      refine e_istore (ls' := [_, _, _, _, _]) q_X12_wants_21 (by decide) rfl rfl ?_
      refine zEe (ls := [.ref 39, vi d, vi k, vi (cnt (fun i : Nat => want N i d k) 0), vi ((0 : Nat) : Int)]) (σ := (zI s N)) ?_ rfl rfl
      refine z_for (P := fun i => zE X m_X12_wants 23 [.ref 39, vi d, vi k, vi (cnt (fun i : Nat => want N i d k) i), vi (i : Int)] [] (zI s N) Q) (N 39 2).toNat (fun i hi ih => ?_) ?_
      · skip
        refine e_iload q_X12_wants_23 (by decide) rfl ?_
        refine e_aload_n q_X12_wants_25 (by decide) rfl ?_
        refine i_getI (k' := 2) q_X12_wants_26 fl_X12_164 (a39 hB) rfl rfl rfl rfl ?_
        refine e_icmp_ge q_X12_wants_29 (by first | exact hR _ _ | (constructor <;> omega) | assumption) (by first | exact hR _ _ | (constructor <;> omega) | assumption) (fun c29 => ?_) (fun c29 => ?_)
        · skip
          exact absurd c29 (by omega)
        · skip
          refine e_iload_n q_X12_wants_32 (by decide) rfl ?_
          refine e_aload_n q_X12_wants_33 (by decide) rfl ?_
          refine e_iload q_X12_wants_34 (by decide) rfl ?_
          refine e_iload_n q_X12_wants_36 (by decide) rfl ?_
          refine e_iload_n q_X12_wants_37 (by decide) rfl ?_
          refine iv_X12_isWant q_X12_wants_38 lk_X12_274 (by decide) (a39 hB) (Nat.le_of_ble_eq_true rfl) ?_
          refine k_isWant hB hm hk0 (by omega) (by omega) c4 ?_
          refine e_ifb_eq q_X12_wants_41 (fun c41 => ?_) (fun c41 => ?_)
          · skip
            refine e_iconst q_X12_wants_48 ?_
            refine e_iadd q_X12_wants_49 ?_
            refine e_istore_n (ls' := [_, _, _, _, _]) q_X12_wants_50 (by decide) rfl rfl ?_
            refine e_iinc (ls' := [_, _, _, _, _]) q_X12_wants_51 (by decide) rfl rfl rfl ?_
            refine e_goto q_X12_wants_54 ?_
            first | exact zEe ih (by rw [cnt_t (p := fun i : Nat => want N i d k) c41]; rfl) rfl | exact zEe ih (by rw [cnt_f (p := fun i : Nat => want N i d k) c41]; rfl) rfl
          · skip
            refine e_iconst q_X12_wants_44 ?_
            refine e_goto q_X12_wants_45 ?_
            refine e_iadd q_X12_wants_49 ?_
            refine e_istore_n (ls' := [_, _, _, _, _]) q_X12_wants_50 (by decide) rfl rfl ?_
            refine e_iinc (ls' := [_, _, _, _, _]) q_X12_wants_51 (by decide) rfl rfl rfl ?_
            refine e_goto q_X12_wants_54 ?_
            first | exact zEe ih (by rw [cnt_t (p := fun i : Nat => want N i d k) c41]; rfl) rfl | exact zEe ih (by rw [cnt_f (p := fun i : Nat => want N i d k) c41]; rfl) rfl
      · skip
        refine e_iload q_X12_wants_23 (by decide) rfl ?_
        refine e_aload_n q_X12_wants_25 (by decide) rfl ?_
        refine i_getI (k' := 2) q_X12_wants_26 fl_X12_164 (a39 hB) rfl rfl rfl rfl ?_
        refine e_icmp_ge q_X12_wants_29 (by first | exact hR _ _ | (constructor <;> omega) | assumption) (by first | exact hR _ _ | (constructor <;> omega) | assumption) (fun c29 => ?_) (fun c29 => ?_)
        · skip
          refine e_iload_n q_X12_wants_57 (by decide) rfl ?_
          refine e_ireturn q_X12_wants_58 rfl rfl ?_
          exact zqI h (by unfold r_wants; exact zif_t ⟨c4, c13⟩)
        · skip
          exact absurd (by omega) c29
    · skip
      refine e_iconst q_X12_wants_16 ?_
      refine e_ireturn q_X12_wants_17 rfl rfl ?_
      exact zqI h (by unfold r_wants; exact zif_f (fun q => by first | exact c4 q.1 | exact c13 q.2))
set_option maxRecDepth 20000 in
set_option maxHeartbeats 2000000 in
theorem k_wantsAt (hB : zB0 s) (hm : mI N){d : Int} (hd : zr d){k i0 : Int} (hk0 : zr k) (hi0 : zr i0) (h : Q (some (vi (r_wantsAt N d k i0))) (zI s N)) : zC X m_X12_wantsAt [.ref 39, vi d, vi k, vi i0] (zI s N) Q := by
  have hR := hm.1
  have hC := hm.2.1
  unfold mCnt at hC
  show zE X m_X12_wantsAt 0 [.ref 39, vi d, vi k, vi i0, zU, zU] [] _ Q
  refine e_iload_n q_X12_wantsAt_0 (by decide) rfl ?_
  refine iv_X12_isDay q_X12_wantsAt_1 lk_X12_181 (by decide) (Nat.le_of_ble_eq_true rfl) ?_
  refine k_isDay hd ?_
  refine e_ifb_eq q_X12_wantsAt_4 (fun c4 => ?_) (fun c4 => ?_)
  · skip
    refine e_iconst q_X12_wantsAt_20 ?_
    refine e_ireturn q_X12_wantsAt_21 rfl rfl ?_
    exact zqI h (by unfold r_wantsAt; exact zif_f (fun q => by first | exact c4 q.1 | exact c13 q.2.1 | omega))
  · skip
    refine e_iload_n q_X12_wantsAt_7 (by decide) rfl ?_
    refine e_iconst q_X12_wantsAt_8 ?_
    refine e_iconst q_X12_wantsAt_9 ?_
    refine iv_X12_within q_X12_wantsAt_10 lk_X12_160 (by decide) (Nat.le_of_ble_eq_true rfl) ?_
    refine k_within hk0 (by constructor <;> omega) (by constructor <;> omega) ?_
    refine e_ifb_eq q_X12_wantsAt_13 (fun c13 => ?_) (fun c13 => ?_)
    · skip
      refine e_iconst q_X12_wantsAt_20 ?_
      refine e_ireturn q_X12_wantsAt_21 rfl rfl ?_
      exact zqI h (by unfold r_wantsAt; exact zif_f (fun q => by first | exact c4 q.1 | exact c13 q.2.1 | omega))
    · skip
      refine e_iload_n q_X12_wantsAt_16 (by decide) rfl ?_
      refine e_if_ge q_X12_wantsAt_17 hi0 (fun c17 => ?_) (fun c17 => ?_)
      · skip
        refine e_iload_n q_X12_wantsAt_22 (by decide) rfl ?_
        refine e_istore (ls' := [_, _, _, _, _, _]) q_X12_wantsAt_23 (by decide) rfl rfl ?_
        refine e_iconst q_X12_wantsAt_25 ?_
        refine e_istore (ls' := [_, _, _, _, _, _]) q_X12_wantsAt_26 (by decide) rfl rfl ?_
        refine zEe (ls := [.ref 39, vi d, vi k, vi i0, vi (i0 - cnt (fun i : Nat => want N i d k) 0), vi ((0 : Nat) : Int)]) (σ := (zI s N)) ?_ (by simp [cnt, sumK]) rfl
        refine z_for (P := fun i => (∀ j, j < i → ¬ (fun w : Nat => want N w d k ∧ cnt (fun i : Nat => want N i d k) w = i0) j) → zE X m_X12_wantsAt 28 [.ref 39, vi d, vi k, vi i0, vi (i0 - cnt (fun i : Nat => want N i d k) i), vi (i : Int)] [] (zI s N) Q) (N 39 2).toNat (fun i hi ih hn => ?_) (fun hn => ?_) (by intro j hj; omega)
        · skip
          refine e_iload q_X12_wantsAt_28 (by decide) rfl ?_
          refine e_aload_n q_X12_wantsAt_30 (by decide) rfl ?_
          refine i_getI (k' := 2) q_X12_wantsAt_31 fl_X12_164 (a39 hB) rfl rfl rfl rfl ?_
          refine e_icmp_ge q_X12_wantsAt_34 (by first | exact hR _ _ | (constructor <;> omega) | assumption) (by first | exact hR _ _ | (constructor <;> omega) | assumption) (fun c34 => ?_) (fun c34 => ?_)
          · skip
            exact absurd c34 (by omega)
          · skip
            refine e_aload_n q_X12_wantsAt_37 (by decide) rfl ?_
            refine e_iload q_X12_wantsAt_38 (by decide) rfl ?_
            refine e_iload_n q_X12_wantsAt_40 (by decide) rfl ?_
            refine e_iload_n q_X12_wantsAt_41 (by decide) rfl ?_
            refine iv_X12_isWant q_X12_wantsAt_42 lk_X12_274 (by decide) (a39 hB) (Nat.le_of_ble_eq_true rfl) ?_
            refine k_isWant hB hm hk0 (by omega) (by omega) c4 ?_
            refine e_ifb_eq q_X12_wantsAt_45 (fun c45 => ?_) (fun c45 => ?_)
            · skip
              refine e_iinc (ls' := [_, _, _, _, _, _]) q_X12_wantsAt_59 (by decide) rfl rfl rfl ?_
              refine e_goto q_X12_wantsAt_62 ?_
              first | (have e : i0 - cnt (fun i : Nat => want N i d k) (i + 1) = i0 - cnt (fun i : Nat => want N i d k) i + -1 := by (rw [cnt_t (p := fun i : Nat => want N i d k) c45]; omega)
                       exact zEe (ih (z_lt1 hn (fun q => by have := q.2; omega))) (by rw [e]; rfl) rfl) | exact zEe (ih (z_lt1 hn (fun q => c45 q.1))) (by rw [cnt_f (p := fun i : Nat => want N i d k) c45, Int.add_zero]; rfl) rfl
            · skip
              have hcb := cnt_b (fun i : Nat => want N i d k) i
              refine e_iload q_X12_wantsAt_48 (by decide) rfl ?_
              refine e_if_ne q_X12_wantsAt_50 (by first | exact hR _ _ | (constructor <;> omega) | assumption) (fun c50 => ?_) (fun c50 => ?_)
              · skip
                refine e_iinc (ls' := [_, _, _, _, _, _]) q_X12_wantsAt_56 (by decide) rfl rfl rfl ?_
                refine e_iinc (ls' := [_, _, _, _, _, _]) q_X12_wantsAt_59 (by decide) rfl rfl rfl ?_
                refine e_goto q_X12_wantsAt_62 ?_
                first | (have e : i0 - cnt (fun i : Nat => want N i d k) (i + 1) = i0 - cnt (fun i : Nat => want N i d k) i + -1 := by (rw [cnt_t (p := fun i : Nat => want N i d k) c45]; omega)
                         exact zEe (ih (z_lt1 hn (fun q => by have := q.2; omega))) (by rw [e]; rfl) rfl) | exact zEe (ih (z_lt1 hn (fun q => c45 q.1))) (by rw [cnt_f (p := fun i : Nat => want N i d k) c45, Int.add_zero]; rfl) rfl
              · skip
                refine e_iload q_X12_wantsAt_53 (by decide) rfl ?_
                refine e_ireturn q_X12_wantsAt_55 rfl rfl ?_
                exact zqI h (by unfold r_wantsAt; rw [zif_t ⟨c4, c13, by omega⟩]; exact fstK_at (p := fun w : Nat => want N w d k ∧ cnt (fun i : Nat => want N i d k) w = i0) (by omega) hn ⟨c45, by omega⟩)
        · skip
          refine e_iload q_X12_wantsAt_28 (by decide) rfl ?_
          refine e_aload_n q_X12_wantsAt_30 (by decide) rfl ?_
          refine i_getI (k' := 2) q_X12_wantsAt_31 fl_X12_164 (a39 hB) rfl rfl rfl rfl ?_
          refine e_icmp_ge q_X12_wantsAt_34 (by first | exact hR _ _ | (constructor <;> omega) | assumption) (by first | exact hR _ _ | (constructor <;> omega) | assumption) (fun c34 => ?_) (fun c34 => ?_)
          · skip
            refine e_iconst q_X12_wantsAt_65 ?_
            refine e_ireturn q_X12_wantsAt_66 rfl rfl ?_
            exact zqI h (by unfold r_wantsAt; rw [zif_t ⟨c4, c13, by omega⟩]; exact fstK_none (p := fun w : Nat => want N w d k ∧ cnt (fun i : Nat => want N i d k) w = i0) (fun j hj => hn j (by omega)))
          · skip
            exact absurd (by omega) c34
      · skip
        refine e_iconst q_X12_wantsAt_20 ?_
        refine e_ireturn q_X12_wantsAt_21 rfl rfl ?_
        exact zqI h (by unfold r_wantsAt; exact zif_f (fun q => by first | exact c4 q.1 | exact c13 q.2.1 | omega))
theorem byH_r {N : zN} (hm : mI N) (g d : Int) : 0 ≤ byH N g d ∧ byH N g d ≤ 199980 := by
  have h1 := borneB_r hm g
  have h2 := mems_r hm g d
  unfold byH
  split
  · omega
  · have h3 : 0 ≤ borneB N g / mems N g d := Int.ediv_nonneg h1.1 h2.1
    have h4 : borneB N g / mems N g d ≤ borneB N g := Int.ediv_le_self _ h1.1
    omega
theorem byHs_r {N : zN} (hm : mI N) (d : Int) : ∀ n : Nat, 0 ≤ sumK (fun i => byH N i d) n ∧ sumK (fun i => byH N i d) n ≤ 199980 * n
  | 0 => by simp [sumK]
  | n + 1 => by
    have ih := byHs_r hm d n
    have h1 := byH_r hm n d
    rw [sumK]
    omega
set_option maxRecDepth 20000 in
set_option maxHeartbeats 2000000 in
theorem k_borne (hB : zB0 s) (hm : mI N){g : Int} (hg : zr g){d : Int} (hd : zr d){k : Int} (hk0 : zr k) (h : Q (some (vi (r_borne N g d k))) (zI s N)) : zC X m_X12_borne [.ref 39, vi g, vi d, vi k] (zI s N) Q := by
  have hR := hm.1
  have hC := hm.2.1
  unfold mCnt at hC
  show zE X m_X12_borne 0 [.ref 39, vi g, vi d, vi k, zU, zU] [] _ Q
  refine e_aload_n q_X12_borne_0 (by decide) rfl ?_
  refine e_iload_n q_X12_borne_1 (by decide) rfl ?_
  refine iv_X12_isGroup q_X12_borne_2 lk_X12_261 (by decide) (a39 hB) (Nat.le_of_ble_eq_true rfl) ?_
  refine k_isGroup hB hm hg ?_
  refine e_ifb_eq q_X12_borne_5 (fun c5 => ?_) (fun c5 => ?_)
  · skip
    refine e_iconst q_X12_borne_24 ?_
    refine e_ireturn q_X12_borne_25 rfl rfl ?_
    exact zqI h (by unfold r_borne; exact zif_f (fun q => by first | exact c5 q.1 | exact c12 q.2.1 | exact c21 q.2.2))
  · skip
    refine e_iload_n q_X12_borne_8 (by decide) rfl ?_
    refine iv_X12_isDay q_X12_borne_9 lk_X12_181 (by decide) (Nat.le_of_ble_eq_true rfl) ?_
    refine k_isDay hd ?_
    refine e_ifb_eq q_X12_borne_12 (fun c12 => ?_) (fun c12 => ?_)
    · skip
      refine e_iconst q_X12_borne_24 ?_
      refine e_ireturn q_X12_borne_25 rfl rfl ?_
      exact zqI h (by unfold r_borne; exact zif_f (fun q => by first | exact c5 q.1 | exact c12 q.2.1 | exact c21 q.2.2))
    · skip
      refine e_iload_n q_X12_borne_15 (by decide) rfl ?_
      refine e_iconst q_X12_borne_16 ?_
      refine e_iconst q_X12_borne_17 ?_
      refine iv_X12_within q_X12_borne_18 lk_X12_160 (by decide) (Nat.le_of_ble_eq_true rfl) ?_
      refine k_within hk0 (by constructor <;> omega) (by constructor <;> omega) ?_
      refine e_ifb_ne q_X12_borne_21 (fun c21 => ?_) (fun c21 => ?_)
      · skip
        refine e_iload_n q_X12_borne_26 (by decide) rfl ?_
        refine e_iconst q_X12_borne_27 ?_
        refine e_icmp_ge q_X12_borne_28 (by first | exact hR _ _ | (constructor <;> omega) | assumption) (by first | exact hR _ _ | (constructor <;> omega) | assumption) (fun c28 => ?_) (fun c28 => ?_)
        · skip
          refine e_iconst q_X12_borne_50 ?_
          refine e_istore (ls' := [_, _, _, _, _, _]) q_X12_borne_51 (by decide) rfl rfl ?_
          refine e_iconst q_X12_borne_53 ?_
          refine e_istore (ls' := [_, _, _, _, _, _]) q_X12_borne_54 (by decide) rfl rfl ?_
          refine zEe (ls := [.ref 39, vi g, vi d, vi k, vi (sumK (fun i => byH N i d) 0), vi ((0 : Nat) : Int)]) (σ := (zI s N)) ?_ rfl rfl
          refine z_for (P := fun i => zE X m_X12_borne 56 [.ref 39, vi g, vi d, vi k, vi (sumK (fun i => byH N i d) i), vi (i : Int)] [] (zI s N) Q) (N 39 29).toNat (fun i hi ih => ?_) ?_
          · skip
            refine e_iload q_X12_borne_56 (by decide) rfl ?_
            refine e_aload_n q_X12_borne_58 (by decide) rfl ?_
            refine i_getI (k' := 29) q_X12_borne_59 fl_X12_248 (a39 hB) rfl rfl rfl rfl ?_
            refine e_icmp_ge q_X12_borne_62 (by first | exact hR _ _ | (constructor <;> omega) | assumption) (by first | exact hR _ _ | (constructor <;> omega) | assumption) (fun c62 => ?_) (fun c62 => ?_)
            · skip
              exact absurd c62 (by omega)
            · skip
              refine e_iload q_X12_borne_65 (by decide) rfl ?_
              refine e_aload_n q_X12_borne_67 (by decide) rfl ?_
              refine e_iload q_X12_borne_68 (by decide) rfl ?_
              refine e_iload_n q_X12_borne_70 (by decide) rfl ?_
              refine iv_X12_byHeads q_X12_borne_71 lk_X12_344 (by decide) (a39 hB) (Nat.le_of_ble_eq_true rfl) ?_
              refine k_byHeads hB hm (by constructor <;> omega) c12 ?_
              refine e_iadd q_X12_borne_74 ?_
              refine e_istore (ls' := [_, _, _, _, _, _]) q_X12_borne_75 (by decide) rfl rfl ?_
              refine e_iinc (ls' := [_, _, _, _, _, _]) q_X12_borne_77 (by decide) rfl rfl rfl ?_
              refine e_goto q_X12_borne_80 ?_
              exact zEe ih rfl rfl
          · skip
            refine e_iload q_X12_borne_56 (by decide) rfl ?_
            refine e_aload_n q_X12_borne_58 (by decide) rfl ?_
            refine i_getI (k' := 29) q_X12_borne_59 fl_X12_248 (a39 hB) rfl rfl rfl rfl ?_
            refine e_icmp_ge q_X12_borne_62 (by first | exact hR _ _ | (constructor <;> omega) | assumption) (by first | exact hR _ _ | (constructor <;> omega) | assumption) (fun c62 => ?_) (fun c62 => ?_)
            · skip
              have hbs := byHs_r hm d (N 39 29).toNat
              have hb1 := byH_r hm g d
              have hq : 0 ≤ sumK (fun i => byH N i d) (N 39 29).toNat / N 39 29 := Int.ediv_nonneg (by omega) (by omega)
              have hq2 : sumK (fun i => byH N i d) (N 39 29).toNat / N 39 29 ≤ sumK (fun i => byH N i d) (N 39 29).toNat := Int.ediv_le_self _ (by omega)
              refine e_aload_n q_X12_borne_83 (by decide) rfl ?_
              refine e_iload_n q_X12_borne_84 (by decide) rfl ?_
              refine e_iload_n q_X12_borne_85 (by decide) rfl ?_
              refine iv_X12_byHeads q_X12_borne_86 lk_X12_344 (by decide) (a39 hB) (Nat.le_of_ble_eq_true rfl) ?_
              refine k_byHeads hB hm hg c12 ?_
              refine e_iconst q_X12_borne_89 ?_
              refine e_iload q_X12_borne_90 (by decide) rfl ?_
              refine e_aload_n q_X12_borne_92 (by decide) rfl ?_
              refine i_getI (k' := 29) q_X12_borne_93 fl_X12_248 (a39 hB) rfl rfl rfl rfl ?_
              refine e_idiv q_X12_borne_96 (by omega) (by omega) ?_
              refine e_imul q_X12_borne_97 ?_
              refine e_icmp_le q_X12_borne_98 (by constructor <;> omega) (by constructor <;> omega) (fun c98 => ?_) (fun c98 => ?_)
              · skip
                refine e_iconst q_X12_borne_105 ?_
                refine e_ireturn q_X12_borne_106 rfl rfl ?_
                first | exact zqI h (by unfold r_borne; rw [zif_t ⟨c5, c12, c21⟩, if_neg (by omega), if_neg (by omega)]; exact bi_t (by omega)) | exact zqI h (by unfold r_borne; rw [zif_t ⟨c5, c12, c21⟩, if_neg (by omega), if_neg (by omega)]; exact bi_f (by omega))
              · skip
                refine e_iconst q_X12_borne_101 ?_
                refine e_goto q_X12_borne_102 ?_
                refine e_ireturn q_X12_borne_106 rfl rfl ?_
                first | exact zqI h (by unfold r_borne; rw [zif_t ⟨c5, c12, c21⟩, if_neg (by omega), if_neg (by omega)]; exact bi_t (by omega)) | exact zqI h (by unfold r_borne; rw [zif_t ⟨c5, c12, c21⟩, if_neg (by omega), if_neg (by omega)]; exact bi_f (by omega))
            · skip
              exact absurd (by omega) c62
        · skip
          refine e_iload_n q_X12_borne_31 (by decide) rfl ?_
          refine e_if_ne q_X12_borne_32 (by first | exact hR _ _ | (constructor <;> omega) | assumption) (fun c32 => ?_) (fun c32 => ?_)
          · skip
            refine e_aload_n q_X12_borne_43 (by decide) rfl ?_
            refine e_iload_n q_X12_borne_44 (by decide) rfl ?_
            refine e_iload_n q_X12_borne_45 (by decide) rfl ?_
            refine iv_X12_byHeads q_X12_borne_46 lk_X12_344 (by decide) (a39 hB) (Nat.le_of_ble_eq_true rfl) ?_
            refine k_byHeads hB hm hg c12 ?_
            refine e_ireturn q_X12_borne_49 rfl rfl ?_
            first | exact zqI h (by unfold r_borne; rw [zif_t ⟨c5, c12, c21⟩, if_pos (by omega)]) | exact zqI h (by unfold r_borne; rw [zif_t ⟨c5, c12, c21⟩, if_neg (by omega), if_pos (by omega)])
          · skip
            refine e_aload_n q_X12_borne_35 (by decide) rfl ?_
            refine e_iload_n q_X12_borne_36 (by decide) rfl ?_
            refine iv_X12_borneBy q_X12_borne_37 lk_X12_341 (by decide) (a39 hB) (Nat.le_of_ble_eq_true rfl) ?_
            refine k_borneBy hB hm hg ?_
            refine e_goto q_X12_borne_40 ?_
            refine e_ireturn q_X12_borne_49 rfl rfl ?_
            first | exact zqI h (by unfold r_borne; rw [zif_t ⟨c5, c12, c21⟩, if_pos (by omega)]) | exact zqI h (by unfold r_borne; rw [zif_t ⟨c5, c12, c21⟩, if_neg (by omega), if_pos (by omega)])
      · skip
        refine e_iconst q_X12_borne_24 ?_
        refine e_ireturn q_X12_borne_25 rfl rfl ?_
        exact zqI h (by unfold r_borne; exact zif_f (fun q => by first | exact c5 q.1 | exact c12 q.2.1 | exact c21 q.2.2))
end MR3
