/-! THE REFERENCE'S METHODS (printed by wip/whole/gen/m1.py) -/
section MR1
variable {X : zX} {s : zK} {N : zN} {σ : zS} {Q : Option Value → zS → Prop}
set_option maxRecDepth 20000 in
set_option maxHeartbeats 2000000 in
theorem k_within {v a b : Int} (hv : zr v) (ha : zr a) (hb : zr b) (h : Q (some (vi (bi (a ≤ v ∧ v ≤ b)))) σ) : zC X m_X12_within [vi v, vi a, vi b] σ Q := by
  show zE X m_X12_within 0 [vi v, vi a, vi b] [] _ Q
  refine e_iload_n q_X12_within_0 (by decide) rfl ?_
  refine e_iload_n q_X12_within_1 (by decide) rfl ?_
  refine e_icmp_lt q_X12_within_2 (by assumption) (by assumption) (fun c2 => ?_) (fun c2 => ?_)
  · skip
    refine e_iconst q_X12_within_14 ?_
    refine e_ireturn q_X12_within_15 rfl rfl ?_
    first | exact zqT h (by omega) | exact zqF h (by omega)
  · skip
    refine e_iload_n q_X12_within_5 (by decide) rfl ?_
    refine e_iload_n q_X12_within_6 (by decide) rfl ?_
    refine e_icmp_gt q_X12_within_7 (by assumption) (by assumption) (fun c7 => ?_) (fun c7 => ?_)
    · skip
      refine e_iconst q_X12_within_14 ?_
      refine e_ireturn q_X12_within_15 rfl rfl ?_
      first | exact zqT h (by omega) | exact zqF h (by omega)
    · skip
      refine e_iconst q_X12_within_10 ?_
      refine e_goto q_X12_within_11 ?_
      refine e_ireturn q_X12_within_15 rfl rfl ?_
      first | exact zqT h (by omega) | exact zqF h (by omega)
set_option maxRecDepth 20000 in
set_option maxHeartbeats 2000000 in
theorem k_isDay {d : Int} (hd : zr d) (h : Q (some (vi (bi (0 ≤ d ∧ d ≤ 9999)))) σ) : zC X m_X12_isDay [vi d] σ Q := by
  show zE X m_X12_isDay 0 [vi d] [] _ Q
  refine e_iload_n q_X12_isDay_0 (by decide) rfl ?_
  refine e_iconst q_X12_isDay_1 ?_
  refine e_sipush q_X12_isDay_2 (by decide) ?_
  refine iv_X12_within q_X12_isDay_5 lk_X12_160 (by decide) (Nat.le_of_ble_eq_true rfl) ?_
  refine k_within hd (by constructor <;> omega) (by constructor <;> omega) ?_
  refine e_ireturn q_X12_isDay_8 rfl (bi_n _) ?_
  exact h
set_option maxRecDepth 20000 in
set_option maxHeartbeats 2000000 in
theorem k_isSheet {d : Int} (hd : zr d) (h : Q (some (vi (bi (0 ≤ d ∧ d ≤ 3)))) σ) : zC X m_X12_isSheet [vi d] σ Q := by
  show zE X m_X12_isSheet 0 [vi d] [] _ Q
  refine e_iload_n q_X12_isSheet_0 (by decide) rfl ?_
  refine e_iconst q_X12_isSheet_1 ?_
  refine e_iconst q_X12_isSheet_2 ?_
  refine iv_X12_within q_X12_isSheet_3 lk_X12_160 (by decide) (Nat.le_of_ble_eq_true rfl) ?_
  refine k_within hd (by constructor <;> omega) (by constructor <;> omega) ?_
  refine e_ireturn q_X12_isSheet_6 rfl (bi_n _) ?_
  exact h
set_option maxRecDepth 20000 in
set_option maxHeartbeats 2000000 in
theorem k_isLane {d : Int} (hd : zr d) (h : Q (some (vi (bi (0 ≤ d ∧ d ≤ 2)))) σ) : zC X m_X12_isLane [vi d] σ Q := by
  show zE X m_X12_isLane 0 [vi d] [] _ Q
  refine e_iload_n q_X12_isLane_0 (by decide) rfl ?_
  refine e_iconst q_X12_isLane_1 ?_
  refine e_iconst q_X12_isLane_2 ?_
  refine iv_X12_within q_X12_isLane_3 lk_X12_160 (by decide) (Nat.le_of_ble_eq_true rfl) ?_
  refine k_within hd (by constructor <;> omega) (by constructor <;> omega) ?_
  refine e_ireturn q_X12_isLane_6 rfl (bi_n _) ?_
  exact h
set_option maxRecDepth 20000 in
set_option maxHeartbeats 2000000 in
theorem k_isOne (hB : zB0 s) (hm : mI N) {w : Int} (hw : zr w) (h : Q (some (vi (bi (0 ≤ w ∧ w < N 39 2)))) (zI s N)) : zC X m_X12_isOne [.ref 39, vi w] (zI s N) Q := by
  have hR := hm.1
  have hC := hm.2.1
  unfold mCnt at hC
  show zE X m_X12_isOne 0 [.ref 39, vi w] [] _ Q
  refine e_iload_n q_X12_isOne_0 (by decide) rfl ?_
  refine e_if_lt q_X12_isOne_1 (by first | exact hR _ _ | (constructor <;> omega) | assumption) (fun c1 => ?_) (fun c1 => ?_)
  · skip
    refine e_iconst q_X12_isOne_16 ?_
    refine e_ireturn q_X12_isOne_17 rfl rfl ?_
    first | exact zqT h (by omega) | exact zqF h (by omega)
  · skip
    refine e_iload_n q_X12_isOne_4 (by decide) rfl ?_
    refine e_aload_n q_X12_isOne_5 (by decide) rfl ?_
    refine i_getI (k' := 2) q_X12_isOne_6 fl_X12_164 (a39 hB) rfl rfl rfl rfl ?_
    refine e_icmp_ge q_X12_isOne_9 (by first | exact hR _ _ | (constructor <;> omega) | assumption) (by first | exact hR _ _ | (constructor <;> omega) | assumption) (fun c9 => ?_) (fun c9 => ?_)
    · skip
      refine e_iconst q_X12_isOne_16 ?_
      refine e_ireturn q_X12_isOne_17 rfl rfl ?_
      first | exact zqT h (by omega) | exact zqF h (by omega)
    · skip
      refine e_iconst q_X12_isOne_12 ?_
      refine e_goto q_X12_isOne_13 ?_
      refine e_ireturn q_X12_isOne_17 rfl rfl ?_
      first | exact zqT h (by omega) | exact zqF h (by omega)
set_option maxRecDepth 20000 in
set_option maxHeartbeats 2000000 in
theorem k_isGroup (hB : zB0 s) (hm : mI N) {w : Int} (hw : zr w) (h : Q (some (vi (bi (0 ≤ w ∧ w < N 39 29)))) (zI s N)) : zC X m_X12_isGroup [.ref 39, vi w] (zI s N) Q := by
  have hR := hm.1
  have hC := hm.2.1
  unfold mCnt at hC
  show zE X m_X12_isGroup 0 [.ref 39, vi w] [] _ Q
  refine e_iload_n q_X12_isGroup_0 (by decide) rfl ?_
  refine e_if_lt q_X12_isGroup_1 (by first | exact hR _ _ | (constructor <;> omega) | assumption) (fun c1 => ?_) (fun c1 => ?_)
  · skip
    refine e_iconst q_X12_isGroup_16 ?_
    refine e_ireturn q_X12_isGroup_17 rfl rfl ?_
    first | exact zqT h (by omega) | exact zqF h (by omega)
  · skip
    refine e_iload_n q_X12_isGroup_4 (by decide) rfl ?_
    refine e_aload_n q_X12_isGroup_5 (by decide) rfl ?_
    refine i_getI (k' := 29) q_X12_isGroup_6 fl_X12_248 (a39 hB) rfl rfl rfl rfl ?_
    refine e_icmp_ge q_X12_isGroup_9 (by first | exact hR _ _ | (constructor <;> omega) | assumption) (by first | exact hR _ _ | (constructor <;> omega) | assumption) (fun c9 => ?_) (fun c9 => ?_)
    · skip
      refine e_iconst q_X12_isGroup_16 ?_
      refine e_ireturn q_X12_isGroup_17 rfl rfl ?_
      first | exact zqT h (by omega) | exact zqF h (by omega)
    · skip
      refine e_iconst q_X12_isGroup_12 ?_
      refine e_goto q_X12_isGroup_13 ?_
      refine e_ireturn q_X12_isGroup_17 rfl rfl ?_
      first | exact zqT h (by omega) | exact zqF h (by omega)
set_option maxRecDepth 20000 in
set_option maxHeartbeats 2000000 in
theorem k_isDead (hB : zB0 s) (hm : mI N) {w : Int} (h0 : 0 ≤ w) (h1 : w < 48) (h : Q (some (vi (bi (N 47 w ≠ 100000)))) (zI s N)) : zC X m_X12_isDead [.ref 39, vi w] (zI s N) Q := by
  have hR := hm.1
  have hC := hm.2.1
  unfold mCnt at hC
  show zE X m_X12_isDead 0 [.ref 39, vi w] [] _ Q
  refine e_aload_n q_X12_isDead_0 (by decide) rfl ?_
  refine i_getC (r := 47) q_X12_isDead_1 fl_X12_32 (a39 hB) rfl (by decide) ?_
  refine e_iload_n q_X12_isDead_4 (by decide) rfl ?_
  refine i_iald q_X12_isDead_5 (a47 hB) (cref0 (by decide)) (by first | omega | assumption) (by first | omega | assumption) (by decide) rfl ?_
  refine e_ldc q_X12_isDead_6 co_X12_47 ?_
  refine e_icmp_eq q_X12_isDead_8 (by first | exact hR _ _ | (constructor <;> omega) | assumption) (by first | exact hR _ _ | (constructor <;> omega) | assumption) (fun c8 => ?_) (fun c8 => ?_)
  · skip
    refine e_iconst q_X12_isDead_15 ?_
    refine e_ireturn q_X12_isDead_16 rfl rfl ?_
    first | exact zqT h (by omega) | exact zqF h (by omega)
  · skip
    refine e_iconst q_X12_isDead_11 ?_
    refine e_goto q_X12_isDead_12 ?_
    refine e_ireturn q_X12_isDead_16 rfl rfl ?_
    first | exact zqT h (by omega) | exact zqF h (by omega)
set_option maxRecDepth 20000 in
set_option maxHeartbeats 2000000 in
theorem k_areKin (hB : zB0 s) (hm : mI N) {a b : Int} (ha0 : 0 ≤ a) (ha1 : a < 48) (hb0 : 0 ≤ b) (hb1 : b < 48) (h : Q (some (vi (bi (N 46 a = b ∨ N 46 b = a ∨ (0 ≤ N 46 a ∧ N 46 a = N 46 b))))) (zI s N)) : zC X m_X12_areKin [.ref 39, vi a, vi b] (zI s N) Q := by
  have hR := hm.1
  have hC := hm.2.1
  unfold mCnt at hC
  show zE X m_X12_areKin 0 [.ref 39, vi a, vi b] [] _ Q
  refine e_aload_n q_X12_areKin_0 (by decide) rfl ?_
  refine i_getC (r := 46) q_X12_areKin_1 fl_X12_29 (a39 hB) rfl (by decide) ?_
  refine e_iload_n q_X12_areKin_4 (by decide) rfl ?_
  refine i_iald q_X12_areKin_5 (a46 hB) (cref0 (by decide)) (by first | omega | assumption) (by first | omega | assumption) (by decide) rfl ?_
  refine e_iload_n q_X12_areKin_6 (by decide) rfl ?_
  refine e_icmp_eq q_X12_areKin_7 (by first | exact hR _ _ | (constructor <;> omega) | assumption) (by first | exact hR _ _ | (constructor <;> omega) | assumption) (fun c7 => ?_) (fun c7 => ?_)
  · skip
    refine e_iconst q_X12_areKin_44 ?_
    refine e_goto q_X12_areKin_45 ?_
    refine e_ireturn q_X12_areKin_49 rfl rfl ?_
    first | exact zqT h (by omega) | exact zqF h (by omega)
  · skip
    refine e_aload_n q_X12_areKin_10 (by decide) rfl ?_
    refine i_getC (r := 46) q_X12_areKin_11 fl_X12_29 (a39 hB) rfl (by decide) ?_
    refine e_iload_n q_X12_areKin_14 (by decide) rfl ?_
    refine i_iald q_X12_areKin_15 (a46 hB) (cref0 (by decide)) (by first | omega | assumption) (by first | omega | assumption) (by decide) rfl ?_
    refine e_iload_n q_X12_areKin_16 (by decide) rfl ?_
    refine e_icmp_eq q_X12_areKin_17 (by first | exact hR _ _ | (constructor <;> omega) | assumption) (by first | exact hR _ _ | (constructor <;> omega) | assumption) (fun c17 => ?_) (fun c17 => ?_)
    · skip
      refine e_iconst q_X12_areKin_44 ?_
      refine e_goto q_X12_areKin_45 ?_
      refine e_ireturn q_X12_areKin_49 rfl rfl ?_
      first | exact zqT h (by omega) | exact zqF h (by omega)
    · skip
      refine e_aload_n q_X12_areKin_20 (by decide) rfl ?_
      refine i_getC (r := 46) q_X12_areKin_21 fl_X12_29 (a39 hB) rfl (by decide) ?_
      refine e_iload_n q_X12_areKin_24 (by decide) rfl ?_
      refine i_iald q_X12_areKin_25 (a46 hB) (cref0 (by decide)) (by first | omega | assumption) (by first | omega | assumption) (by decide) rfl ?_
      refine e_if_lt q_X12_areKin_26 (by first | exact hR _ _ | (constructor <;> omega) | assumption) (fun c26 => ?_) (fun c26 => ?_)
      · skip
        refine e_iconst q_X12_areKin_48 ?_
        refine e_ireturn q_X12_areKin_49 rfl rfl ?_
        first | exact zqT h (by omega) | exact zqF h (by omega)
      · skip
        refine e_aload_n q_X12_areKin_29 (by decide) rfl ?_
        refine i_getC (r := 46) q_X12_areKin_30 fl_X12_29 (a39 hB) rfl (by decide) ?_
        refine e_iload_n q_X12_areKin_33 (by decide) rfl ?_
        refine i_iald q_X12_areKin_34 (a46 hB) (cref0 (by decide)) (by first | omega | assumption) (by first | omega | assumption) (by decide) rfl ?_
        refine e_aload_n q_X12_areKin_35 (by decide) rfl ?_
        refine i_getC (r := 46) q_X12_areKin_36 fl_X12_29 (a39 hB) rfl (by decide) ?_
        refine e_iload_n q_X12_areKin_39 (by decide) rfl ?_
        refine i_iald q_X12_areKin_40 (a46 hB) (cref0 (by decide)) (by first | omega | assumption) (by first | omega | assumption) (by decide) rfl ?_
        refine e_icmp_ne q_X12_areKin_41 (by first | exact hR _ _ | (constructor <;> omega) | assumption) (by first | exact hR _ _ | (constructor <;> omega) | assumption) (fun c41 => ?_) (fun c41 => ?_)
        · skip
          refine e_iconst q_X12_areKin_48 ?_
          refine e_ireturn q_X12_areKin_49 rfl rfl ?_
          first | exact zqT h (by omega) | exact zqF h (by omega)
        · skip
          refine e_iconst q_X12_areKin_44 ?_
          refine e_goto q_X12_areKin_45 ?_
          refine e_ireturn q_X12_areKin_49 rfl rfl ?_
          first | exact zqT h (by omega) | exact zqF h (by omega)
set_option maxRecDepth 20000 in
set_option maxHeartbeats 2000000 in
theorem k_mayFather (hB : zB0 s) (hm : mI N) {f b : Int} (hf : zr f) (hb : -9999 ≤ b ∧ b ≤ 9999) (h : Q (some (vi (bi (f = -1 ∨ (0 ≤ f ∧ f < N 39 2 ∧ N 41 f ≠ 3 ∧ N 42 f ≤ b - 1200))))) (zI s N)) : zC X m_X12_mayFather [.ref 39, vi f, vi b] (zI s N) Q := by
  have hR := hm.1
  have hC := hm.2.1
  unfold mCnt at hC
  show zE X m_X12_mayFather 0 [.ref 39, vi f, vi b] [] _ Q
  refine e_iload_n q_X12_mayFather_0 (by decide) rfl ?_
  refine e_iconst q_X12_mayFather_1 ?_
  refine e_icmp_eq q_X12_mayFather_2 (by first | exact hR _ _ | (constructor <;> omega) | assumption) (by first | exact hR _ _ | (constructor <;> omega) | assumption) (fun c2 => ?_) (fun c2 => ?_)
  · skip
    refine e_iconst q_X12_mayFather_37 ?_
    refine e_goto q_X12_mayFather_38 ?_
    refine e_ireturn q_X12_mayFather_42 rfl rfl ?_
    first | exact zqT h (by omega) | exact zqF h (by omega)
  · skip
    refine e_aload_n q_X12_mayFather_5 (by decide) rfl ?_
    refine e_iload_n q_X12_mayFather_6 (by decide) rfl ?_
    refine iv_X12_isOne q_X12_mayFather_7 lk_X12_170 (by decide) (a39 hB) (Nat.le_of_ble_eq_true rfl) ?_
    refine k_isOne hB hm hf ?_
    refine e_ifb_eq q_X12_mayFather_10 (fun c10 => ?_) (fun c10 => ?_)
    · skip
      refine e_iconst q_X12_mayFather_41 ?_
      refine e_ireturn q_X12_mayFather_42 rfl rfl ?_
      first | exact zqT h (by omega) | exact zqF h (by omega)
    · skip
      refine e_aload_n q_X12_mayFather_13 (by decide) rfl ?_
      refine i_getC (r := 41) q_X12_mayFather_14 fl_X12_13 (a39 hB) rfl (by decide) ?_
      refine e_iload_n q_X12_mayFather_17 (by decide) rfl ?_
      refine i_iald q_X12_mayFather_18 (a41 hB) (cref0 (by decide)) (by first | omega | assumption) (by first | omega | assumption) (by decide) rfl ?_
      refine e_iconst q_X12_mayFather_19 ?_
      refine e_icmp_eq q_X12_mayFather_20 (by first | exact hR _ _ | (constructor <;> omega) | assumption) (by first | exact hR _ _ | (constructor <;> omega) | assumption) (fun c20 => ?_) (fun c20 => ?_)
      · skip
        refine e_iconst q_X12_mayFather_41 ?_
        refine e_ireturn q_X12_mayFather_42 rfl rfl ?_
        first | exact zqT h (by omega) | exact zqF h (by omega)
      · skip
        refine e_aload_n q_X12_mayFather_23 (by decide) rfl ?_
        refine i_getC (r := 42) q_X12_mayFather_24 fl_X12_16 (a39 hB) rfl (by decide) ?_
        refine e_iload_n q_X12_mayFather_27 (by decide) rfl ?_
        refine i_iald q_X12_mayFather_28 (a42 hB) (cref0 (by decide)) (by first | omega | assumption) (by first | omega | assumption) (by decide) rfl ?_
        refine e_iload_n q_X12_mayFather_29 (by decide) rfl ?_
        refine e_sipush q_X12_mayFather_30 (by decide) ?_
        refine e_isub q_X12_mayFather_33 ?_
        refine e_icmp_gt q_X12_mayFather_34 (by first | exact hR _ _ | (constructor <;> omega) | assumption) (by first | exact hR _ _ | (constructor <;> omega) | assumption) (fun c34 => ?_) (fun c34 => ?_)
        · skip
          refine e_iconst q_X12_mayFather_41 ?_
          refine e_ireturn q_X12_mayFather_42 rfl rfl ?_
          first | exact zqT h (by omega) | exact zqF h (by omega)
        · skip
          refine e_iconst q_X12_mayFather_37 ?_
          refine e_goto q_X12_mayFather_38 ?_
          refine e_ireturn q_X12_mayFather_42 rfl rfl ?_
          first | exact zqT h (by omega) | exact zqF h (by omega)
set_option maxRecDepth 20000 in
set_option maxHeartbeats 2000000 in
theorem k_lastFlight (hB : zB0 s) (hm : mI N) {w : Int} (hw : zr w) (h : Q (some (vi (lastF N w))) (zI s N)) : zC X m_X12_lastFlight [.ref 39, vi w] (zI s N) Q := by
  have hR := hm.1
  have hC := hm.2.1
  unfold mCnt at hC
  show zE X m_X12_lastFlight 0 [.ref 39, vi w, zU, zU] [] _ Q
  refine e_iconst q_X12_lastFlight_0 ?_
  refine e_istore_n (ls' := [_, _, _, _]) q_X12_lastFlight_1 (by decide) rfl rfl ?_
  refine e_iconst q_X12_lastFlight_2 ?_
  refine e_istore_n (ls' := [_, _, _, _]) q_X12_lastFlight_3 (by decide) rfl rfl ?_
  skip
  refine zEe (ls := [.ref 39, vi w, vi (lastK (fun k => N 48 k = w) 0), vi ((0 : Nat) : Int)]) (σ := (zI s N)) ?_ rfl rfl
  refine z_for (P := fun i => zE X m_X12_lastFlight 4 [.ref 39, vi w, vi (lastK (fun k => N 48 k = w) i), vi (i : Int)] [] (zI s N) Q) (N 39 10).toNat (fun i hi ih => ?_) ?_
  · skip
    refine e_iload_n q_X12_lastFlight_4 (by decide) rfl ?_
    refine e_aload_n q_X12_lastFlight_5 (by decide) rfl ?_
    refine i_getI (k' := 10) q_X12_lastFlight_6 fl_X12_184 (a39 hB) rfl rfl rfl rfl ?_
    refine e_icmp_ge q_X12_lastFlight_9 (by first | exact hR _ _ | (constructor <;> omega) | assumption) (by first | exact hR _ _ | (constructor <;> omega) | assumption) (fun c9 => ?_) (fun c9 => ?_)
    · skip
      exact absurd c9 (by omega)
    · skip
      refine e_aload_n q_X12_lastFlight_12 (by decide) rfl ?_
      refine i_getC (r := 48) q_X12_lastFlight_13 fl_X12_35 (a39 hB) rfl (by decide) ?_
      refine e_iload_n q_X12_lastFlight_16 (by decide) rfl ?_
      refine i_iald q_X12_lastFlight_17 (a48 hB) (cref0 (by decide)) (by first | omega | assumption) (by first | omega | assumption) (by decide) rfl ?_
      refine e_iload_n q_X12_lastFlight_18 (by decide) rfl ?_
      refine e_icmp_ne q_X12_lastFlight_19 (by first | exact hR _ _ | (constructor <;> omega) | assumption) (by first | exact hR _ _ | (constructor <;> omega) | assumption) (fun c19 => ?_) (fun c19 => ?_)
      · skip
        refine e_iload_n q_X12_lastFlight_26 (by decide) rfl ?_
        refine e_istore_n (ls' := [_, _, _, _]) q_X12_lastFlight_27 (by decide) rfl rfl ?_
        refine e_iinc (ls' := [_, _, _, _]) q_X12_lastFlight_28 (by decide) rfl rfl rfl ?_
        refine e_goto q_X12_lastFlight_31 ?_
        first | exact zEe ih (by rw [lastK_t (by assumption)]; rfl) rfl | exact zEe ih (by rw [lastK_f (by assumption)]; rfl) rfl
      · skip
        refine e_iload_n q_X12_lastFlight_22 (by decide) rfl ?_
        refine e_goto q_X12_lastFlight_23 ?_
        refine e_istore_n (ls' := [_, _, _, _]) q_X12_lastFlight_27 (by decide) rfl rfl ?_
        refine e_iinc (ls' := [_, _, _, _]) q_X12_lastFlight_28 (by decide) rfl rfl rfl ?_
        refine e_goto q_X12_lastFlight_31 ?_
        first | exact zEe ih (by rw [lastK_t (by assumption)]; rfl) rfl | exact zEe ih (by rw [lastK_f (by assumption)]; rfl) rfl
  · skip
    refine e_iload_n q_X12_lastFlight_4 (by decide) rfl ?_
    refine e_aload_n q_X12_lastFlight_5 (by decide) rfl ?_
    refine i_getI (k' := 10) q_X12_lastFlight_6 fl_X12_184 (a39 hB) rfl rfl rfl rfl ?_
    refine e_icmp_ge q_X12_lastFlight_9 (by first | exact hR _ _ | (constructor <;> omega) | assumption) (by first | exact hR _ _ | (constructor <;> omega) | assumption) (fun c9 => ?_) (fun c9 => ?_)
    · skip
      refine e_iload_n q_X12_lastFlight_34 (by decide) rfl ?_
      refine e_ireturn q_X12_lastFlight_35 rfl rfl ?_
      exact h
    · skip
      exact absurd (by omega) c9
set_option maxRecDepth 20000 in
set_option maxHeartbeats 2000000 in
theorem k_isBehind (hB : zB0 s) (hm : mI N) {w d : Int} (h0 : 0 ≤ w) (h1 : w < 48) (hd : 0 ≤ d ∧ d ≤ 9999) (h : Q (some (vi (bi (N 42 w ≤ d ∧ (lastF N w < 0 ∨ (if N 50 (lastF N w) = 100000 then N 49 (lastF N w) else N 50 (lastF N w)) < d))))) (zI s N)) : zC X m_X12_isBehind [.ref 39, vi w, vi d] (zI s N) Q := by
  have hR := hm.1
  have hC := hm.2.1
  unfold mCnt at hC
  have hl := lastF_b N w
  show zE X m_X12_isBehind 0 [.ref 39, vi w, vi d, zU] [] _ Q
  refine e_aload_n q_X12_isBehind_0 (by decide) rfl ?_
  refine e_iload_n q_X12_isBehind_1 (by decide) rfl ?_
  refine iv_X12_lastFlight q_X12_isBehind_2 lk_X12_187 (by decide) (a39 hB) (Nat.le_of_ble_eq_true rfl) ?_
  refine k_lastFlight hB hm (by constructor <;> omega) ?_
  refine e_istore_n (ls' := [_, _, _, _]) q_X12_isBehind_5 (by decide) rfl rfl ?_
  refine e_iload_n q_X12_isBehind_6 (by decide) rfl ?_
  refine e_aload_n q_X12_isBehind_7 (by decide) rfl ?_
  refine i_getC (r := 42) q_X12_isBehind_8 fl_X12_16 (a39 hB) rfl (by decide) ?_
  refine e_iload_n q_X12_isBehind_11 (by decide) rfl ?_
  refine i_iald q_X12_isBehind_12 (a42 hB) (cref0 (by decide)) (by first | omega | assumption) (by first | omega | assumption) (by decide) rfl ?_
  refine e_icmp_ge q_X12_isBehind_13 (by first | exact hR _ _ | (constructor <;> omega) | assumption) (by first | exact hR _ _ | (constructor <;> omega) | assumption) (fun c13 => ?_) (fun c13 => ?_)
  · skip
    refine e_iload_n q_X12_isBehind_18 (by decide) rfl ?_
    refine e_if_lt q_X12_isBehind_19 (by first | exact hR _ _ | (constructor <;> omega) | assumption) (fun c19 => ?_) (fun c19 => ?_)
    · skip
      refine e_iconst q_X12_isBehind_52 ?_
      refine e_goto q_X12_isBehind_53 ?_
      refine e_ireturn q_X12_isBehind_57 rfl rfl ?_
      first | exact zqT h (by omega) | exact zqF h (by omega)
    · skip
      refine e_iload_n q_X12_isBehind_22 (by decide) rfl ?_
      refine e_aload_n q_X12_isBehind_23 (by decide) rfl ?_
      refine i_getC (r := 50) q_X12_isBehind_24 fl_X12_41 (a39 hB) rfl (by decide) ?_
      refine e_iload_n q_X12_isBehind_27 (by decide) rfl ?_
      refine i_iald q_X12_isBehind_28 (a50 hB) (cref0 (by decide)) (by first | omega | assumption) (by first | omega | assumption) (by decide) rfl ?_
      refine e_ldc q_X12_isBehind_29 co_X12_47 ?_
      refine e_icmp_ne q_X12_isBehind_31 (by first | exact hR _ _ | (constructor <;> omega) | assumption) (by first | exact hR _ _ | (constructor <;> omega) | assumption) (fun c31 => ?_) (fun c31 => ?_)
      · skip
        refine e_aload_n q_X12_isBehind_43 (by decide) rfl ?_
        refine i_getC (r := 50) q_X12_isBehind_44 fl_X12_41 (a39 hB) rfl (by decide) ?_
        refine e_iload_n q_X12_isBehind_47 (by decide) rfl ?_
        refine i_iald q_X12_isBehind_48 (a50 hB) (cref0 (by decide)) (by first | omega | assumption) (by first | omega | assumption) (by decide) rfl ?_
        refine e_icmp_le q_X12_isBehind_49 (by first | exact hR _ _ | (constructor <;> omega) | assumption) (by first | exact hR _ _ | (constructor <;> omega) | assumption) (fun c49 => ?_) (fun c49 => ?_)
        · skip
          refine e_iconst q_X12_isBehind_56 ?_
          refine e_ireturn q_X12_isBehind_57 rfl rfl ?_
          first | exact zqT h (by omega) | exact zqF h (by omega)
        · skip
          refine e_iconst q_X12_isBehind_52 ?_
          refine e_goto q_X12_isBehind_53 ?_
          refine e_ireturn q_X12_isBehind_57 rfl rfl ?_
          first | exact zqT h (by omega) | exact zqF h (by omega)
      · skip
        refine e_aload_n q_X12_isBehind_34 (by decide) rfl ?_
        refine i_getC (r := 49) q_X12_isBehind_35 fl_X12_38 (a39 hB) rfl (by decide) ?_
        refine e_iload_n q_X12_isBehind_38 (by decide) rfl ?_
        refine i_iald q_X12_isBehind_39 (a49 hB) (cref0 (by decide)) (by first | omega | assumption) (by first | omega | assumption) (by decide) rfl ?_
        refine e_goto q_X12_isBehind_40 ?_
        refine e_icmp_le q_X12_isBehind_49 (by first | exact hR _ _ | (constructor <;> omega) | assumption) (by first | exact hR _ _ | (constructor <;> omega) | assumption) (fun c49 => ?_) (fun c49 => ?_)
        · skip
          refine e_iconst q_X12_isBehind_56 ?_
          refine e_ireturn q_X12_isBehind_57 rfl rfl ?_
          first | exact zqT h (by omega) | exact zqF h (by omega)
        · skip
          refine e_iconst q_X12_isBehind_52 ?_
          refine e_goto q_X12_isBehind_53 ?_
          refine e_ireturn q_X12_isBehind_57 rfl rfl ?_
          first | exact zqT h (by omega) | exact zqF h (by omega)
  · skip
    refine e_iconst q_X12_isBehind_16 ?_
    refine e_ireturn q_X12_isBehind_17 rfl rfl ?_
    first | exact zqT h (by omega) | exact zqF h (by omega)
set_option maxRecDepth 20000 in
set_option maxHeartbeats 2000000 in
theorem k_isAway (hB : zB0 s) (hm : mI N) {w : Int} (h0 : 0 ≤ w) (h1 : w < 48) (h : Q (some (vi (bi (0 ≤ lastF N w ∧ N 50 (lastF N w) = 100000)))) (zI s N)) : zC X m_X12_isAway [.ref 39, vi w] (zI s N) Q := by
  have hR := hm.1
  have hC := hm.2.1
  unfold mCnt at hC
  have hl := lastF_b N w
  show zE X m_X12_isAway 0 [.ref 39, vi w, zU] [] _ Q
  refine e_aload_n q_X12_isAway_0 (by decide) rfl ?_
  refine e_iload_n q_X12_isAway_1 (by decide) rfl ?_
  refine iv_X12_lastFlight q_X12_isAway_2 lk_X12_187 (by decide) (a39 hB) (Nat.le_of_ble_eq_true rfl) ?_
  refine k_lastFlight hB hm (by constructor <;> omega) ?_
  refine e_istore_n (ls' := [_, _, _]) q_X12_isAway_5 (by decide) rfl rfl ?_
  refine e_iload_n q_X12_isAway_6 (by decide) rfl ?_
  refine e_if_lt q_X12_isAway_7 (by first | exact hR _ _ | (constructor <;> omega) | assumption) (fun c7 => ?_) (fun c7 => ?_)
  · skip
    refine e_iconst q_X12_isAway_25 ?_
    refine e_ireturn q_X12_isAway_26 rfl rfl ?_
    first | exact zqT h (by omega) | exact zqF h (by omega)
  · skip
    refine e_aload_n q_X12_isAway_10 (by decide) rfl ?_
    refine i_getC (r := 50) q_X12_isAway_11 fl_X12_41 (a39 hB) rfl (by decide) ?_
    refine e_iload_n q_X12_isAway_14 (by decide) rfl ?_
    refine i_iald q_X12_isAway_15 (a50 hB) (cref0 (by decide)) (by first | omega | assumption) (by first | omega | assumption) (by decide) rfl ?_
    refine e_ldc q_X12_isAway_16 co_X12_47 ?_
    refine e_icmp_ne q_X12_isAway_18 (by first | exact hR _ _ | (constructor <;> omega) | assumption) (by first | exact hR _ _ | (constructor <;> omega) | assumption) (fun c18 => ?_) (fun c18 => ?_)
    · skip
      refine e_iconst q_X12_isAway_25 ?_
      refine e_ireturn q_X12_isAway_26 rfl rfl ?_
      first | exact zqT h (by omega) | exact zqF h (by omega)
    · skip
      refine e_iconst q_X12_isAway_21 ?_
      refine e_goto q_X12_isAway_22 ?_
      refine e_ireturn q_X12_isAway_26 rfl rfl ?_
      first | exact zqT h (by omega) | exact zqF h (by omega)
set_option maxRecDepth 20000 in
set_option maxHeartbeats 2000000 in
theorem k_isThere (hB : zB0 s) (hm : mI N) {w d : Int} (h0 : 0 ≤ w) (h1 : w < 48) (hd : 0 ≤ d ∧ d ≤ 9999) (h : Q (some (vi (bi (tHere N w d)))) (zI s N)) : zC X m_X12_isThere [.ref 39, vi w, vi d] (zI s N) Q := by
  have hR := hm.1
  have hC := hm.2.1
  unfold mCnt at hC
  show zE X m_X12_isThere 0 [.ref 39, vi w, vi d, zU] [] _ Q
  refine e_iload_n q_X12_isThere_0 (by decide) rfl ?_
  refine e_aload_n q_X12_isThere_1 (by decide) rfl ?_
  refine i_getC (r := 42) q_X12_isThere_2 fl_X12_16 (a39 hB) rfl (by decide) ?_
  refine e_iload_n q_X12_isThere_5 (by decide) rfl ?_
  refine i_iald q_X12_isThere_6 (a42 hB) (cref0 (by decide)) (by first | omega | assumption) (by first | omega | assumption) (by decide) rfl ?_
  refine e_icmp_lt q_X12_isThere_7 (by first | exact hR _ _ | (constructor <;> omega) | assumption) (by first | exact hR _ _ | (constructor <;> omega) | assumption) (fun c7 => ?_) (fun c7 => ?_)
  · skip
    refine e_iconst q_X12_isThere_20 ?_
    refine e_ireturn q_X12_isThere_21 rfl rfl ?_
    exact zqF h (fun q => by have q1 := q.1; have q2 := q.2.1; omega)
  · skip
    refine e_iload_n q_X12_isThere_10 (by decide) rfl ?_
    refine e_aload_n q_X12_isThere_11 (by decide) rfl ?_
    refine i_getC (r := 47) q_X12_isThere_12 fl_X12_32 (a39 hB) rfl (by decide) ?_
    refine e_iload_n q_X12_isThere_15 (by decide) rfl ?_
    refine i_iald q_X12_isThere_16 (a47 hB) (cref0 (by decide)) (by first | omega | assumption) (by first | omega | assumption) (by decide) rfl ?_
    refine e_icmp_le q_X12_isThere_17 (by first | exact hR _ _ | (constructor <;> omega) | assumption) (by first | exact hR _ _ | (constructor <;> omega) | assumption) (fun c17 => ?_) (fun c17 => ?_)
    · skip
      refine e_iconst q_X12_isThere_22 ?_
      refine e_istore_n (ls' := [_, _, _, _]) q_X12_isThere_23 (by decide) rfl rfl ?_
      refine zEe (ls := [.ref 39, vi w, vi d, vi ((0 : Nat) : Int)]) (σ := (zI s N)) ?_ rfl rfl
      refine z_for (P := fun i => (∀ j, j < i → ¬ (fun k : Nat => N 48 k = w ∧ N 49 k ≤ d ∧ d < N 50 k) j) → zE X m_X12_isThere 24 [.ref 39, vi w, vi d, vi (i : Int)] [] (zI s N) Q) (N 39 10).toNat (fun i hi ih hn => ?_) (fun hn => ?_) (by intro j hj; omega)
      · skip
        refine e_iload_n q_X12_isThere_24 (by decide) rfl ?_
        refine e_aload_n q_X12_isThere_25 (by decide) rfl ?_
        refine i_getI (k' := 10) q_X12_isThere_26 fl_X12_184 (a39 hB) rfl rfl rfl rfl ?_
        refine e_icmp_ge q_X12_isThere_29 (by first | exact hR _ _ | (constructor <;> omega) | assumption) (by first | exact hR _ _ | (constructor <;> omega) | assumption) (fun c29 => ?_) (fun c29 => ?_)
        · skip
          exact absurd c29 (by omega)
        · skip
          refine e_aload_n q_X12_isThere_32 (by decide) rfl ?_
          refine i_getC (r := 48) q_X12_isThere_33 fl_X12_35 (a39 hB) rfl (by decide) ?_
          refine e_iload_n q_X12_isThere_36 (by decide) rfl ?_
          refine i_iald q_X12_isThere_37 (a48 hB) (cref0 (by decide)) (by first | omega | assumption) (by first | omega | assumption) (by decide) rfl ?_
          refine e_iload_n q_X12_isThere_38 (by decide) rfl ?_
          refine e_icmp_ne q_X12_isThere_39 (by first | exact hR _ _ | (constructor <;> omega) | assumption) (by first | exact hR _ _ | (constructor <;> omega) | assumption) (fun c39 => ?_) (fun c39 => ?_)
          · skip
            refine e_iinc (ls' := [_, _, _, _]) q_X12_isThere_64 (by decide) rfl rfl rfl ?_
            refine e_goto q_X12_isThere_67 ?_
            exact ih (z_lt1 hn (by omega))
          · skip
            refine e_aload_n q_X12_isThere_42 (by decide) rfl ?_
            refine i_getC (r := 49) q_X12_isThere_43 fl_X12_38 (a39 hB) rfl (by decide) ?_
            refine e_iload_n q_X12_isThere_46 (by decide) rfl ?_
            refine i_iald q_X12_isThere_47 (a49 hB) (cref0 (by decide)) (by first | omega | assumption) (by first | omega | assumption) (by decide) rfl ?_
            refine e_iload_n q_X12_isThere_48 (by decide) rfl ?_
            refine e_icmp_gt q_X12_isThere_49 (by first | exact hR _ _ | (constructor <;> omega) | assumption) (by first | exact hR _ _ | (constructor <;> omega) | assumption) (fun c49 => ?_) (fun c49 => ?_)
            · skip
              refine e_iinc (ls' := [_, _, _, _]) q_X12_isThere_64 (by decide) rfl rfl rfl ?_
              refine e_goto q_X12_isThere_67 ?_
              exact ih (z_lt1 hn (by omega))
            · skip
              refine e_iload_n q_X12_isThere_52 (by decide) rfl ?_
              refine e_aload_n q_X12_isThere_53 (by decide) rfl ?_
              refine i_getC (r := 50) q_X12_isThere_54 fl_X12_41 (a39 hB) rfl (by decide) ?_
              refine e_iload_n q_X12_isThere_57 (by decide) rfl ?_
              refine i_iald q_X12_isThere_58 (a50 hB) (cref0 (by decide)) (by first | omega | assumption) (by first | omega | assumption) (by decide) rfl ?_
              refine e_icmp_ge q_X12_isThere_59 (by first | exact hR _ _ | (constructor <;> omega) | assumption) (by first | exact hR _ _ | (constructor <;> omega) | assumption) (fun c59 => ?_) (fun c59 => ?_)
              · skip
                refine e_iinc (ls' := [_, _, _, _]) q_X12_isThere_64 (by decide) rfl rfl rfl ?_
                refine e_goto q_X12_isThere_67 ?_
                exact ih (z_lt1 hn (by omega))
              · skip
                refine e_iconst q_X12_isThere_62 ?_
                refine e_ireturn q_X12_isThere_63 rfl rfl ?_
                exact zqF h (fun q => q.2.2 i (by omega) ⟨c39, by omega, by omega⟩)
      · skip
        refine e_iload_n q_X12_isThere_24 (by decide) rfl ?_
        refine e_aload_n q_X12_isThere_25 (by decide) rfl ?_
        refine i_getI (k' := 10) q_X12_isThere_26 fl_X12_184 (a39 hB) rfl rfl rfl rfl ?_
        refine e_icmp_ge q_X12_isThere_29 (by first | exact hR _ _ | (constructor <;> omega) | assumption) (by first | exact hR _ _ | (constructor <;> omega) | assumption) (fun c29 => ?_) (fun c29 => ?_)
        · skip
          refine e_iconst q_X12_isThere_70 ?_
          refine e_ireturn q_X12_isThere_71 rfl rfl ?_
          exact zqT h ⟨by omega, by omega, fun k hk => hn k (by omega)⟩
        · skip
          exact absurd (by omega) c29
    · skip
      refine e_iconst q_X12_isThere_20 ?_
      refine e_ireturn q_X12_isThere_21 rfl rfl ?_
      exact zqF h (fun q => by have q1 := q.1; have q2 := q.2.1; omega)
end MR1
