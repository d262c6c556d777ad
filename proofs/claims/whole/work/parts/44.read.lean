/-! THE SYSTEM'S METHODS, 4: what is asked (printed by wip/whole/gen/x4.py) -/
section XS4
variable {X : zX} {s : zK} {N : zN} {fa sa : Int → Int} {σ : zS} {Q : Option Value → zS → Prop}
set_option maxRecDepth 20000 in
set_option maxHeartbeats 2000000 in
theorem x_there (hI : xI s N fa sa){w : Int} (hw : zr w){d : Int} (hd : zr d) (h : Q (some (vi (r_there N w d))) (zI s N)) : zC X m_X11_there [.ref 3, vi w, vi d] (zI s N) Q := by
  have hB := hI.B
  have hR := hI.R
  have hC := hI.C
  unfold mCnt at hC
  have hm := hI.m
  obtain ⟨e1, e5, e7, e8, e10, e11, e3, e12, eh, eg, ef, et⟩ := hI.hs
  show zE X m_X11_there 0 [.ref 3, vi w, vi d, zU] [] _ Q
  refine e_aload_n q_X11_there_0 (by decide) rfl ?_
  refine e_iload_n q_X11_there_1 (by decide) rfl ?_
  refine iv_X11_personAt q_X11_there_2 lk_X11_113 (by decide) (a3 hB) (Nat.le_of_ble_eq_true rfl) ?_
  refine x_personAt hI hw (fun hw1 => ?_) (fun a hw1 hp => ?_)
  · skip
    refine e_astore_nN (ls' := [_, _, _, _]) q_X11_there_5 (by decide) rfl rfl ?_
    refine e_aload_nN q_X11_there_6 (by decide) rfl ?_
    refine e_ifnullN q_X11_there_7 ?_
    refine e_iconst q_X11_there_17 ?_
    refine e_ireturn q_X11_there_18 rfl rfl ?_
    exact zqI h (by unfold r_there; exact zif_f (fun q => by first | exact hw1 q.1 | exact c14 q.2))
  · skip
    obtain ⟨p88, pA, p5, p0, p1, p2, p3, p4, p5f, p6, p7, p8, p9⟩ := id hp
    refine e_astore_n (ls' := [_, _, _, _]) q_X11_there_5 (by decide) rfl rfl ?_
    refine e_aload_n q_X11_there_6 (by decide) rfl ?_
    refine e_ifnull q_X11_there_7 ?_
    refine e_iload_n q_X11_there_10 (by decide) rfl ?_
    refine iv_X11_isDay q_X11_there_11 lk_X11_140 (by decide) (Nat.le_of_ble_eq_true rfl) ?_
    refine x_isDay hd ?_
    refine e_ifb_ne q_X11_there_14 (fun c14 => ?_) (fun c14 => ?_)
    · skip
      refine e_aload_n q_X11_there_19 (by decide) rfl ?_
      refine e_iload_n q_X11_there_20 (by decide) rfl ?_
      refine iv_X4_isThereOn q_X11_there_21 lk_X11_182 (by decide) pA (Nat.le_of_ble_eq_true rfl) ?_
      refine x_isThereOn hI hw1.1 hw1.2 hp (by omega) ?_
      refine e_ifb_eq q_X11_there_24 (fun c24 => ?_) (fun c24 => ?_)
      · skip
        refine e_iconst q_X11_there_31 ?_
        refine e_ireturn q_X11_there_32 rfl rfl ?_
        first | exact zqI h (by unfold r_there; rw [zif_t ⟨hw1, c14⟩]; exact bi_t c24) | exact zqI h (by unfold r_there; rw [zif_t ⟨hw1, c14⟩]; exact bi_f c24)
      · skip
        refine e_iconst q_X11_there_27 ?_
        refine e_goto q_X11_there_28 ?_
        refine e_ireturn q_X11_there_32 rfl rfl ?_
        first | exact zqI h (by unfold r_there; rw [zif_t ⟨hw1, c14⟩]; exact bi_t c24) | exact zqI h (by unfold r_there; rw [zif_t ⟨hw1, c14⟩]; exact bi_f c24)
    · skip
      refine e_iconst q_X11_there_17 ?_
      refine e_ireturn q_X11_there_18 rfl rfl ?_
      exact zqI h (by unfold r_there; exact zif_f (fun q => by first | exact hw1 q.1 | exact c14 q.2))
set_option maxRecDepth 20000 in
set_option maxHeartbeats 2000000 in
theorem x_age (hI : xI s N fa sa){w : Int} (hw : zr w){d : Int} (hd : zr d) (h : Q (some (vi (r_age N w d))) (zI s N)) : zC X m_X11_age [.ref 3, vi w, vi d] (zI s N) Q := by
  have hB := hI.B
  have hR := hI.R
  have hC := hI.C
  unfold mCnt at hC
  have hm := hI.m
  obtain ⟨e1, e5, e7, e8, e10, e11, e3, e12, eh, eg, ef, et⟩ := hI.hs
  show zE X m_X11_age 0 [.ref 3, vi w, vi d, zU] [] _ Q
  refine e_aload_n q_X11_age_0 (by decide) rfl ?_
  refine e_iload_n q_X11_age_1 (by decide) rfl ?_
  refine iv_X11_personAt q_X11_age_2 lk_X11_113 (by decide) (a3 hB) (Nat.le_of_ble_eq_true rfl) ?_
  refine x_personAt hI hw (fun hw1 => ?_) (fun a hw1 hp => ?_)
  · skip
    refine e_astore_nN (ls' := [_, _, _, _]) q_X11_age_5 (by decide) rfl rfl ?_
    refine e_aload_nN q_X11_age_6 (by decide) rfl ?_
    refine e_ifnullN q_X11_age_7 ?_
    refine e_iconst q_X11_age_17 ?_
    refine e_ireturn q_X11_age_18 rfl rfl ?_
    exact zqI h (by unfold r_age; exact zif_f (fun q => by first | exact hw1 q.1 | exact c14 q.2))
  · skip
    obtain ⟨p88, pA, p5, p0, p1, p2, p3, p4, p5f, p6, p7, p8, p9⟩ := id hp
    refine e_astore_n (ls' := [_, _, _, _]) q_X11_age_5 (by decide) rfl rfl ?_
    refine e_aload_n q_X11_age_6 (by decide) rfl ?_
    refine e_ifnull q_X11_age_7 ?_
    refine e_iload_n q_X11_age_10 (by decide) rfl ?_
    refine iv_X11_isDay q_X11_age_11 lk_X11_140 (by decide) (Nat.le_of_ble_eq_true rfl) ?_
    refine x_isDay hd ?_
    refine e_ifb_ne q_X11_age_14 (fun c14 => ?_) (fun c14 => ?_)
    · skip
      refine e_iload_n q_X11_age_19 (by decide) rfl ?_
      refine e_aload_n q_X11_age_20 (by decide) rfl ?_
      refine i_getI (k' := 1) q_X11_age_21 fl_X11_143 pA (cref0 (by omega) _) rfl rfl p1 ?_
      refine e_icmp_ge q_X11_age_24 (by first | exact hR _ _ | (constructor <;> omega) | assumption) (by first | exact hR _ _ | (constructor <;> omega) | assumption) (fun c24 => ?_) (fun c24 => ?_)
      · skip
        refine e_aload_n q_X11_age_32 (by decide) rfl ?_
        refine e_iload_n q_X11_age_33 (by decide) rfl ?_
        refine iv_X4_ageOn q_X11_age_34 lk_X11_146 (by decide) pA (Nat.le_of_ble_eq_true rfl) ?_
        refine x_ageOn hI hw1.1 hw1.2 hp c14.2 (by omega) ?_
        refine e_ireturn q_X11_age_37 rfl rfl ?_
        first | exact zqI h (by unfold r_age; rw [zif_t ⟨hw1, c14⟩]; exact if_pos (by omega)) | exact zqI h (by unfold r_age; rw [zif_t ⟨hw1, c14⟩]; exact if_neg (by omega))
      · skip
        refine e_bipush q_X11_age_27 (by decide) ?_
        refine e_goto q_X11_age_29 ?_
        refine e_ireturn q_X11_age_37 rfl rfl ?_
        first | exact zqI h (by unfold r_age; rw [zif_t ⟨hw1, c14⟩]; exact if_pos (by omega)) | exact zqI h (by unfold r_age; rw [zif_t ⟨hw1, c14⟩]; exact if_neg (by omega))
    · skip
      refine e_iconst q_X11_age_17 ?_
      refine e_ireturn q_X11_age_18 rfl rfl ?_
      exact zqI h (by unfold r_age; exact zif_f (fun q => by first | exact hw1 q.1 | exact c14 q.2))
set_option maxRecDepth 20000 in
set_option maxHeartbeats 2000000 in
theorem x_must (hI : xI s N fa sa){w : Int} (hw : zr w){d : Int} (hd : zr d) (h : Q (some (vi (r_must N w d))) (zI s N)) : zC X m_X11_must [.ref 3, vi w, vi d] (zI s N) Q := by
  have hB := hI.B
  have hR := hI.R
  have hC := hI.C
  unfold mCnt at hC
  have hm := hI.m
  obtain ⟨e1, e5, e7, e8, e10, e11, e3, e12, eh, eg, ef, et⟩ := hI.hs
  show zE X m_X11_must 0 [.ref 3, vi w, vi d, zU] [] _ Q
  refine e_aload_n q_X11_must_0 (by decide) rfl ?_
  refine e_iload_n q_X11_must_1 (by decide) rfl ?_
  refine iv_X11_personAt q_X11_must_2 lk_X11_113 (by decide) (a3 hB) (Nat.le_of_ble_eq_true rfl) ?_
  refine x_personAt hI hw (fun hw1 => ?_) (fun a hw1 hp => ?_)
  · skip
    refine e_astore_nN (ls' := [_, _, _, _]) q_X11_must_5 (by decide) rfl rfl ?_
    refine e_aload_nN q_X11_must_6 (by decide) rfl ?_
    refine e_ifnullN q_X11_must_7 ?_
    refine e_iconst q_X11_must_17 ?_
    refine e_ireturn q_X11_must_18 rfl rfl ?_
    exact zqI h (by unfold r_must; exact zif_f (fun q => by first | exact hw1 q.1 | exact c14 q.2))
  · skip
    obtain ⟨p88, pA, p5, p0, p1, p2, p3, p4, p5f, p6, p7, p8, p9⟩ := id hp
    refine e_astore_n (ls' := [_, _, _, _]) q_X11_must_5 (by decide) rfl rfl ?_
    refine e_aload_n q_X11_must_6 (by decide) rfl ?_
    refine e_ifnull q_X11_must_7 ?_
    refine e_iload_n q_X11_must_10 (by decide) rfl ?_
    refine iv_X11_isDay q_X11_must_11 lk_X11_140 (by decide) (Nat.le_of_ble_eq_true rfl) ?_
    refine x_isDay hd ?_
    refine e_ifb_ne q_X11_must_14 (fun c14 => ?_) (fun c14 => ?_)
    · skip
      refine e_aload_n q_X11_must_19 (by decide) rfl ?_
      refine i_getI (k' := 0) q_X11_must_20 fl_X11_117 pA (cref0 (by omega) _) rfl rfl p0 ?_
      refine e_iconst q_X11_must_23 ?_
      refine e_icmp_ne q_X11_must_24 (by first | exact hR _ _ | (constructor <;> omega) | assumption) (by first | exact hR _ _ | (constructor <;> omega) | assumption) (fun c24 => ?_) (fun c24 => ?_)
      · skip
        refine e_aload_n q_X11_must_30 (by decide) rfl ?_
        refine e_aload_n q_X11_must_31 (by decide) rfl ?_
        refine e_iload_n q_X11_must_32 (by decide) rfl ?_
        refine iv_X11_mustBeSworn rfl q_X11_must_33 lk_X11_205 (by decide) (a3 hB) (Nat.le_of_ble_eq_true rfl) ?_
        refine x_mustBeSworn hI hw1.1 hw1.2 hp c14 ?_
        refine e_ifb_eq q_X11_must_36 (fun c36 => ?_) (fun c36 => ?_)
        · skip
          refine e_iconst q_X11_must_43 ?_
          refine e_ireturn q_X11_must_44 rfl rfl ?_
          first | exact zqI h (by unfold r_must; rw [zif_t ⟨hw1, c14⟩]; rw [if_neg (by omega), bi_t c36]) | exact zqI h (by unfold r_must; rw [zif_t ⟨hw1, c14⟩]; rw [if_neg (by omega), bi_f c36])
        · skip
          refine e_iconst q_X11_must_39 ?_
          refine e_goto q_X11_must_40 ?_
          refine e_ireturn q_X11_must_44 rfl rfl ?_
          first | exact zqI h (by unfold r_must; rw [zif_t ⟨hw1, c14⟩]; rw [if_neg (by omega), bi_t c36]) | exact zqI h (by unfold r_must; rw [zif_t ⟨hw1, c14⟩]; rw [if_neg (by omega), bi_f c36])
      · skip
        refine e_bipush q_X11_must_27 (by decide) ?_
        refine e_ireturn q_X11_must_29 rfl rfl ?_
        first | exact zqI h (by unfold r_must; rw [zif_t ⟨hw1, c14⟩]; exact if_pos (by omega))
    · skip
      refine e_iconst q_X11_must_17 ?_
      refine e_ireturn q_X11_must_18 rfl rfl ?_
      exact zqI h (by unfold r_must; exact zif_f (fun q => by first | exact hw1 q.1 | exact c14 q.2))
set_option maxRecDepth 20000 in
set_option maxHeartbeats 2000000 in
theorem x_groupOf (hI : xI s N fa sa){w : Int} (hw : zr w){d : Int} (hd : zr d) (h : Q (some (vi (r_groupOf N w d))) (zI s N)) : zC X m_X11_groupOf [.ref 3, vi w, vi d] (zI s N) Q := by
  have hB := hI.B
  have hR := hI.R
  have hC := hI.C
  unfold mCnt at hC
  have hm := hI.m
  obtain ⟨e1, e5, e7, e8, e10, e11, e3, e12, eh, eg, ef, et⟩ := hI.hs
  show zE X m_X11_groupOf 0 [.ref 3, vi w, vi d, zU] [] _ Q
  refine e_aload_n q_X11_groupOf_0 (by decide) rfl ?_
  refine e_iload_n q_X11_groupOf_1 (by decide) rfl ?_
  refine iv_X11_personAt q_X11_groupOf_2 lk_X11_113 (by decide) (a3 hB) (Nat.le_of_ble_eq_true rfl) ?_
  refine x_personAt hI hw (fun hw1 => ?_) (fun a hw1 hp => ?_)
  · skip
    refine e_astore_nN (ls' := [_, _, _, _]) q_X11_groupOf_5 (by decide) rfl rfl ?_
    refine e_aload_nN q_X11_groupOf_6 (by decide) rfl ?_
    refine e_ifnullN q_X11_groupOf_7 ?_
    refine e_iconst q_X11_groupOf_17 ?_
    refine e_ireturn q_X11_groupOf_18 rfl rfl ?_
    exact zqI h (by unfold r_groupOf; exact zif_f (fun q => by first | exact hw1 q.1 | exact c14 q.2))
  · skip
    obtain ⟨p88, pA, p5, p0, p1, p2, p3, p4, p5f, p6, p7, p8, p9⟩ := id hp
    refine e_astore_n (ls' := [_, _, _, _]) q_X11_groupOf_5 (by decide) rfl rfl ?_
    refine e_aload_n q_X11_groupOf_6 (by decide) rfl ?_
    refine e_ifnull q_X11_groupOf_7 ?_
    refine e_iload_n q_X11_groupOf_10 (by decide) rfl ?_
    refine iv_X11_isDay q_X11_groupOf_11 lk_X11_140 (by decide) (Nat.le_of_ble_eq_true rfl) ?_
    refine x_isDay hd ?_
    refine e_ifb_ne q_X11_groupOf_14 (fun c14 => ?_) (fun c14 => ?_)
    · skip
      refine e_aload_n q_X11_groupOf_19 (by decide) rfl ?_
      refine e_iload_n q_X11_groupOf_20 (by decide) rfl ?_
      refine iv_X4_groupOn q_X11_groupOf_21 lk_X11_245 (by decide) pA (Nat.le_of_ble_eq_true rfl) ?_
      refine x_groupOn hI hw1.1 hw1.2 hp (by omega) ?_
      refine e_ireturn q_X11_groupOf_24 rfl rfl ?_
      exact zqI h (by unfold r_groupOf; rw [zif_t ⟨hw1, c14⟩]; rfl)
    · skip
      refine e_iconst q_X11_groupOf_17 ?_
      refine e_ireturn q_X11_groupOf_18 rfl rfl ?_
      exact zqI h (by unfold r_groupOf; exact zif_f (fun q => by first | exact hw1 q.1 | exact c14 q.2))
set_option maxRecDepth 20000 in
set_option maxHeartbeats 2000000 in
theorem x_came (hI : xI s N fa sa){w : Int} (hw : zr w) (h : Q (some (vi (r_came N w))) (zI s N)) : zC X m_X11_came [.ref 3, vi w] (zI s N) Q := by
  have hB := hI.B
  have hR := hI.R
  have hC := hI.C
  unfold mCnt at hC
  have hm := hI.m
  obtain ⟨e1, e5, e7, e8, e10, e11, e3, e12, eh, eg, ef, et⟩ := hI.hs
  show zE X m_X11_came 0 [.ref 3, vi w, zU] [] _ Q
  refine e_aload_n q_X11_came_0 (by decide) rfl ?_
  refine e_iload_n q_X11_came_1 (by decide) rfl ?_
  refine iv_X11_personAt q_X11_came_2 lk_X11_113 (by decide) (a3 hB) (Nat.le_of_ble_eq_true rfl) ?_
  refine x_personAt hI hw (fun hw1 => ?_) (fun a hw1 hp => ?_)
  · skip
    refine e_astore_nN (ls' := [_, _, _]) q_X11_came_5 (by decide) rfl rfl ?_
    refine e_aload_nN q_X11_came_6 (by decide) rfl ?_
    refine e_ifnonnullN q_X11_came_7 ?_
    refine e_iconst q_X11_came_10 ?_
    refine e_goto q_X11_came_11 ?_
    refine e_ireturn q_X11_came_18 rfl rfl ?_
    exact zqI h (by unfold r_came; first | exact zif_f hw1 | (rw [zif_t hw1]; rcases p7 with ⟨q1, q2⟩ | ⟨q1, q2⟩ <;> first | (rw [if_pos q1, q2]) | (rw [if_neg q1, q2])))
  · skip
    obtain ⟨p88, pA, p5, p0, p1, p2, p3, p4, p5f, p6, p7, p8, p9⟩ := id hp
    refine e_astore_n (ls' := [_, _, _]) q_X11_came_5 (by decide) rfl rfl ?_
    refine e_aload_n q_X11_came_6 (by decide) rfl ?_
    refine e_ifnonnull q_X11_came_7 ?_
    refine e_aload_n q_X11_came_14 (by decide) rfl ?_
    refine i_getI (k' := 7) q_X11_came_15 fl_X11_288 pA (cref0 (by omega) _) rfl rfl rfl ?_
    refine e_ireturn q_X11_came_18 rfl rfl ?_
    exact zqI h (by unfold r_came; first | exact zif_f hw1 | (rw [zif_t hw1]; rcases p7 with ⟨q1, q2⟩ | ⟨q1, q2⟩ <;> first | (rw [if_pos q1, q2]) | (rw [if_neg q1, q2])))
set_option maxRecDepth 20000 in
set_option maxHeartbeats 2000000 in
theorem x_kin (hI : xI s N fa sa){a0 b0 : Int} (ha : zr a0) (hb : zr b0) (h : Q (some (vi (r_kin N a0 b0))) (zI s N)) : zC X m_X11_kin [.ref 3, vi a0, vi b0] (zI s N) Q := by
  have hB := hI.B
  have hR := hI.R
  have hC := hI.C
  unfold mCnt at hC
  have hm := hI.m
  obtain ⟨e1, e5, e7, e8, e10, e11, e3, e12, eh, eg, ef, et⟩ := hI.hs
  show zE X m_X11_kin 0 [.ref 3, vi a0, vi b0] [] _ Q
  refine e_aload_n q_X11_kin_0 (by decide) rfl ?_
  refine e_iload_n q_X11_kin_1 (by decide) rfl ?_
  refine iv_X11_personAt q_X11_kin_2 lk_X11_113 (by decide) (a3 hB) (Nat.le_of_ble_eq_true rfl) ?_
  refine x_personAt hI ha (fun ha1 => ?_) (fun a ha1 hp => ?_)
  · skip
    refine e_ifnullN q_X11_kin_5 ?_
    refine e_iconst q_X11_kin_21 ?_
    refine e_ireturn q_X11_kin_22 rfl rfl ?_
    exact zqI h (by unfold r_kin; exact zif_f (fun q => by first | exact ha1 q.1 | exact hb1 q.2.1 | exact q.2.2 c18))
  · skip
    obtain ⟨p88, pA, p5, p0, p1, p2, p3, p4, p5f, p6, p7, p8, p9⟩ := id hp
    refine e_ifnull q_X11_kin_5 ?_
    refine e_aload_n q_X11_kin_8 (by decide) rfl ?_
    refine e_iload_n q_X11_kin_9 (by decide) rfl ?_
    refine iv_X11_personAt q_X11_kin_10 lk_X11_113 (by decide) (a3 hB) (Nat.le_of_ble_eq_true rfl) ?_
    refine x_personAt hI hb (fun hb1 => ?_) (fun ax hb1 hpx => ?_)
    · skip
      refine e_ifnullN q_X11_kin_13 ?_
      refine e_iconst q_X11_kin_21 ?_
      refine e_ireturn q_X11_kin_22 rfl rfl ?_
      exact zqI h (by unfold r_kin; exact zif_f (fun q => by first | exact ha1 q.1 | exact hb1 q.2.1 | exact q.2.2 c18))
    · skip
      obtain ⟨p88x, pAx, p5x, p0x, p1x, p2x, p3x, p4x, p5fx, p6x, p7x, p8x, p9x⟩ := id hpx
      refine e_ifnull q_X11_kin_13 ?_
      refine e_iload_n q_X11_kin_16 (by decide) rfl ?_
      refine e_iload_n q_X11_kin_17 (by decide) rfl ?_
      refine e_icmp_ne q_X11_kin_18 ha hb (fun c18 => ?_) (fun c18 => ?_)
      · skip
        refine e_aload_n q_X11_kin_23 (by decide) rfl ?_
        refine e_iload_n q_X11_kin_24 (by decide) rfl ?_
        refine e_iload_n q_X11_kin_25 (by decide) rfl ?_
        refine iv_X11_areKin q_X11_kin_26 lk_X11_185 (by decide) (a3 hB) (Nat.le_of_ble_eq_true rfl) ?_
        refine x_areKin hI ha1.1 ha1.2 hb1.1 hb1.2 ?_
        refine e_ifb_eq q_X11_kin_29 (fun c29 => ?_) (fun c29 => ?_)
        · skip
          refine e_iconst q_X11_kin_36 ?_
          refine e_ireturn q_X11_kin_37 rfl rfl ?_
          first | exact zqI h (by unfold r_kin; rw [zif_t ⟨ha1, hb1, c18⟩]; exact bi_t c29) | exact zqI h (by unfold r_kin; rw [zif_t ⟨ha1, hb1, c18⟩]; exact bi_f c29)
        · skip
          refine e_iconst q_X11_kin_32 ?_
          refine e_goto q_X11_kin_33 ?_
          refine e_ireturn q_X11_kin_37 rfl rfl ?_
          first | exact zqI h (by unfold r_kin; rw [zif_t ⟨ha1, hb1, c18⟩]; exact bi_t c29) | exact zqI h (by unfold r_kin; rw [zif_t ⟨ha1, hb1, c18⟩]; exact bi_f c29)
      · skip
        refine e_iconst q_X11_kin_21 ?_
        refine e_ireturn q_X11_kin_22 rfl rfl ?_
        exact zqI h (by unfold r_kin; exact zif_f (fun q => by first | exact ha1 q.1 | exact hb1 q.2.1 | exact q.2.2 c18))
set_option maxRecDepth 20000 in
set_option maxHeartbeats 2000000 in
theorem x_members (hI : xI s N fa sa){g : Int} (hg : zr g){d : Int} (hd : zr d) (h : Q (some (vi (r_members N g d))) (zI s N)) : zC X m_X11_members [.ref 3, vi g, vi d] (zI s N) Q := by
  have hB := hI.B
  have hR := hI.R
  have hC := hI.C
  unfold mCnt at hC
  have hm := hI.m
  obtain ⟨e1, e5, e7, e8, e10, e11, e3, e12, eh, eg, ef, et⟩ := hI.hs
  show zE X m_X11_members 0 [.ref 3, vi g, vi d] [] _ Q
  refine e_aload_n q_X11_members_0 (by decide) rfl ?_
  refine e_iload_n q_X11_members_1 (by decide) rfl ?_
  refine iv_X11_isGroup q_X11_members_2 lk_X11_218 (by decide) (a3 hB) (Nat.le_of_ble_eq_true rfl) ?_
  refine x_isGroup hI hg ?_
  refine e_ifb_eq q_X11_members_5 (fun c5 => ?_) (fun c5 => ?_)
  · skip
    refine e_iconst q_X11_members_24 ?_
    refine e_ireturn q_X11_members_25 rfl rfl ?_
    first | exact zqI h (by unfold r_members; exact zif_t ⟨c5, c12⟩) | exact zqI h (by unfold r_members; exact zif_f (fun q => by first | exact c5 q.1 | exact c12 q.2))
  · skip
    refine e_iload_n q_X11_members_8 (by decide) rfl ?_
    refine iv_X11_isDay q_X11_members_9 lk_X11_140 (by decide) (Nat.le_of_ble_eq_true rfl) ?_
    refine x_isDay hd ?_
    refine e_ifb_eq q_X11_members_12 (fun c12 => ?_) (fun c12 => ?_)
    · skip
      refine e_iconst q_X11_members_24 ?_
      refine e_ireturn q_X11_members_25 rfl rfl ?_
      first | exact zqI h (by unfold r_members; exact zif_t ⟨c5, c12⟩) | exact zqI h (by unfold r_members; exact zif_f (fun q => by first | exact c5 q.1 | exact c12 q.2))
    · skip
      refine e_aload_n q_X11_members_15 (by decide) rfl ?_
      refine e_iload_n q_X11_members_16 (by decide) rfl ?_
      refine e_iload_n q_X11_members_17 (by decide) rfl ?_
      refine iv_X11_membersOf q_X11_members_18 lk_X11_224 (by decide) (a3 hB) (Nat.le_of_ble_eq_true rfl) ?_
      refine x_membersOf hI (by omega) c12 ?_
      refine e_goto q_X11_members_21 ?_
      refine e_ireturn q_X11_members_25 rfl rfl ?_
      first | exact zqI h (by unfold r_members; exact zif_t ⟨c5, c12⟩) | exact zqI h (by unfold r_members; exact zif_f (fun q => by first | exact c5 q.1 | exact c12 q.2))
set_option maxRecDepth 20000 in
set_option maxHeartbeats 2000000 in
theorem x_told (hI : xI s N fa sa){w : Int} (hw : zr w){k : Int} (hk0 : zr k) (h : Q (some (vi (r_told N w k))) (zI s N)) : zC X m_X11_told [.ref 3, vi w, vi k] (zI s N) Q := by
  have hB := hI.B
  have hR := hI.R
  have hC := hI.C
  unfold mCnt at hC
  have hm := hI.m
  obtain ⟨e1, e5, e7, e8, e10, e11, e3, e12, eh, eg, ef, et⟩ := hI.hs
  show zE X m_X11_told 0 [.ref 3, vi w, vi k, zU] [] _ Q
  refine e_aload_n q_X11_told_0 (by decide) rfl ?_
  refine e_iload_n q_X11_told_1 (by decide) rfl ?_
  refine iv_X11_personAt q_X11_told_2 lk_X11_113 (by decide) (a3 hB) (Nat.le_of_ble_eq_true rfl) ?_
  refine x_personAt hI hw (fun hw1 => ?_) (fun a hw1 hp => ?_)
  · skip
    refine e_astore_nN (ls' := [_, _, _, _]) q_X11_told_5 (by decide) rfl rfl ?_
    refine e_aload_nN q_X11_told_6 (by decide) rfl ?_
    refine e_ifnonnullN q_X11_told_7 ?_
    refine e_iconst q_X11_told_10 ?_
    refine e_ireturn q_X11_told_11 rfl rfl ?_
    exact zqI h (by unfold r_told; exact zif_f hw1)
  · skip
    obtain ⟨p88, pA, p5, p0, p1, p2, p3, p4, p5f, p6, p7, p8, p9⟩ := id hp
    refine e_astore_n (ls' := [_, _, _, _]) q_X11_told_5 (by decide) rfl rfl ?_
    refine e_aload_n q_X11_told_6 (by decide) rfl ?_
    refine e_ifnonnull q_X11_told_7 ?_
    refine e_iload_n q_X11_told_12 (by decide) rfl ?_
    rcases (show k < 0 ∨ k = 0 ∨ k = 1 ∨ k = 2 ∨ k = 3 ∨ k = 4 ∨ k = 5 ∨ 5 < k by omega) with hk | rfl | rfl | rfl | rfl | rfl | rfl | hk
    · skip
      refine e_tableOut (tgt := 114) q_X11_told_13 (by first | exact hR _ _ | (constructor <;> omega) | assumption) (by omega) rfl ?_
      refine e_iconst q_X11_told_114 ?_
      refine e_ireturn q_X11_told_115 rfl rfl ?_
      first | exact zqI h (by unfold r_told; rw [zif_t hw1]; rfl) | exact zqI h (by unfold r_told; rw [zif_t hw1]; exact bi_t (by omega)) | exact zqI h (by unfold r_told; rw [zif_t hw1]; exact bi_f (by omega)) | exact zqI h (by unfold r_told; rw [zif_t hw1]; rw [if_neg (by omega), if_neg (by omega), if_neg (by omega), if_neg (by omega), if_neg (by omega), if_neg (by omega)])
    · skip
      refine e_tableIn (off := 39) (tgt := 52) q_X11_told_13 (by first | exact hR _ _ | (constructor <;> omega) | assumption) (by omega) (by omega) rfl rfl ?_
      refine e_aload_n q_X11_told_52 (by decide) rfl ?_
      refine i_getI (k' := 0) q_X11_told_53 fl_X11_117 pA (cref0 (by omega) _) rfl rfl p0 ?_
      refine e_ireturn q_X11_told_56 rfl rfl ?_
      first | exact zqI h (by unfold r_told; rw [zif_t hw1]; rfl) | exact zqI h (by unfold r_told; rw [zif_t hw1]; exact bi_t (by omega)) | exact zqI h (by unfold r_told; rw [zif_t hw1]; exact bi_f (by omega)) | exact zqI h (by unfold r_told; rw [zif_t hw1]; rw [if_neg (by omega), if_neg (by omega), if_neg (by omega), if_neg (by omega), if_neg (by omega), if_neg (by omega)])
    · skip
      refine e_tableIn (off := 44) (tgt := 57) q_X11_told_13 (by first | exact hR _ _ | (constructor <;> omega) | assumption) (by omega) (by omega) rfl rfl ?_
      refine e_aload_n q_X11_told_57 (by decide) rfl ?_
      refine i_getI (k' := 2) q_X11_told_58 fl_X11_120 pA (cref0 (by omega) _) rfl rfl p2 ?_
      refine e_ireturn q_X11_told_61 rfl rfl ?_
      first | exact zqI h (by unfold r_told; rw [zif_t hw1]; rfl) | exact zqI h (by unfold r_told; rw [zif_t hw1]; exact bi_t (by omega)) | exact zqI h (by unfold r_told; rw [zif_t hw1]; exact bi_f (by omega)) | exact zqI h (by unfold r_told; rw [zif_t hw1]; rw [if_neg (by omega), if_neg (by omega), if_neg (by omega), if_neg (by omega), if_neg (by omega), if_neg (by omega)])
    · skip
      refine e_tableIn (off := 49) (tgt := 62) q_X11_told_13 (by first | exact hR _ _ | (constructor <;> omega) | assumption) (by omega) (by omega) rfl rfl ?_
      refine e_aload_n q_X11_told_62 (by decide) rfl ?_
      refine i_getI (k' := 3) q_X11_told_63 fl_X11_123 pA (cref0 (by omega) _) rfl rfl p3 ?_
      refine e_ireturn q_X11_told_66 rfl rfl ?_
      first | exact zqI h (by unfold r_told; rw [zif_t hw1]; rfl) | exact zqI h (by unfold r_told; rw [zif_t hw1]; exact bi_t (by omega)) | exact zqI h (by unfold r_told; rw [zif_t hw1]; exact bi_f (by omega)) | exact zqI h (by unfold r_told; rw [zif_t hw1]; rw [if_neg (by omega), if_neg (by omega), if_neg (by omega), if_neg (by omega), if_neg (by omega), if_neg (by omega)])
    · skip
      refine e_tableIn (off := 54) (tgt := 67) q_X11_told_13 (by first | exact hR _ _ | (constructor <;> omega) | assumption) (by omega) (by omega) rfl rfl ?_
      refine e_aload_n q_X11_told_67 (by decide) rfl ?_
      refine i_getI (k' := 4) q_X11_told_68 fl_X11_126 pA (cref0 (by omega) _) rfl rfl p4 ?_
      refine e_if_eq q_X11_told_71 (by first | exact hR _ _ | (constructor <;> omega) | assumption) (fun c71 => ?_) (fun c71 => ?_)
      · skip
        refine e_iconst q_X11_told_78 ?_
        refine e_ireturn q_X11_told_79 rfl rfl ?_
        first | exact zqI h (by unfold r_told; rw [zif_t hw1]; rfl) | exact zqI h (by unfold r_told; rw [zif_t hw1]; exact bi_t (by omega)) | exact zqI h (by unfold r_told; rw [zif_t hw1]; exact bi_f (by omega)) | exact zqI h (by unfold r_told; rw [zif_t hw1]; rw [if_neg (by omega), if_neg (by omega), if_neg (by omega), if_neg (by omega), if_neg (by omega), if_neg (by omega)])
      · skip
        refine e_iconst q_X11_told_74 ?_
        refine e_goto q_X11_told_75 ?_
        refine e_ireturn q_X11_told_79 rfl rfl ?_
        first | exact zqI h (by unfold r_told; rw [zif_t hw1]; rfl) | exact zqI h (by unfold r_told; rw [zif_t hw1]; exact bi_t (by omega)) | exact zqI h (by unfold r_told; rw [zif_t hw1]; exact bi_f (by omega)) | exact zqI h (by unfold r_told; rw [zif_t hw1]; rw [if_neg (by omega), if_neg (by omega), if_neg (by omega), if_neg (by omega), if_neg (by omega), if_neg (by omega)])
    · skip
      refine e_tableIn (off := 67) (tgt := 80) q_X11_told_13 (by first | exact hR _ _ | (constructor <;> omega) | assumption) (by omega) (by omega) rfl rfl ?_
      refine e_aload_n q_X11_told_80 (by decide) rfl ?_
      refine i_getI (k' := 5) q_X11_told_81 fl_X11_130 pA (cref0 (by omega) _) rfl rfl p5f ?_
      refine e_if_ge q_X11_told_84 (by first | exact hR _ _ | (constructor <;> omega) | assumption) (fun c84 => ?_) (fun c84 => ?_)
      · skip
        refine e_aload_n q_X11_told_92 (by decide) rfl ?_
        refine i_getI (k' := 5) q_X11_told_93 fl_X11_130 pA (cref0 (by omega) _) rfl rfl p5f ?_
        refine e_ireturn q_X11_told_96 rfl rfl ?_
        first | exact zqI h (by unfold r_told; rw [zif_t hw1]; show (if N 46 w < 0 then -4 else N 46 w) = _; exact if_pos (by omega)) | exact zqI h (by unfold r_told; rw [zif_t hw1]; show (if N 46 w < 0 then -4 else N 46 w) = _; exact if_neg (by omega))
      · skip
        refine e_bipush q_X11_told_87 (by decide) ?_
        refine e_goto q_X11_told_89 ?_
        refine e_ireturn q_X11_told_96 rfl rfl ?_
        first | exact zqI h (by unfold r_told; rw [zif_t hw1]; show (if N 46 w < 0 then -4 else N 46 w) = _; exact if_pos (by omega)) | exact zqI h (by unfold r_told; rw [zif_t hw1]; show (if N 46 w < 0 then -4 else N 46 w) = _; exact if_neg (by omega))
    · skip
      refine e_tableIn (off := 84) (tgt := 97) q_X11_told_13 (by first | exact hR _ _ | (constructor <;> omega) | assumption) (by omega) (by omega) rfl rfl ?_
      refine e_aload_n q_X11_told_97 (by decide) rfl ?_
      refine iv_X4_isDead q_X11_told_98 lk_X11_133 (by decide) pA (Nat.le_of_ble_eq_true rfl) ?_
      refine x_isDead hI hw1.1 hw1.2 hp ?_
      refine e_ifb_eq q_X11_told_101 (fun c101 => ?_) (fun c101 => ?_)
      · skip
        refine e_bipush q_X11_told_111 (by decide) ?_
        refine e_ireturn q_X11_told_113 rfl rfl ?_
        first | exact zqI h (by unfold r_told; rw [zif_t hw1]; show (if N 47 w = 100000 then -4 else N 47 w) = _; rw [if_pos (by omega)]) | exact zqI h (by unfold r_told; rw [zif_t hw1]; show (if N 47 w = 100000 then -4 else N 47 w) = _; rw [if_neg (by omega)]; omega)
      · skip
        refine e_aload_n q_X11_told_104 (by decide) rfl ?_
        refine i_getI (k' := 6) q_X11_told_105 fl_X11_137 pA (cref0 (by omega) _) rfl rfl rfl ?_
        refine e_goto q_X11_told_108 ?_
        refine e_ireturn q_X11_told_113 rfl rfl ?_
        first | exact zqI h (by unfold r_told; rw [zif_t hw1]; show (if N 47 w = 100000 then -4 else N 47 w) = _; rw [if_pos (by omega)]) | exact zqI h (by unfold r_told; rw [zif_t hw1]; show (if N 47 w = 100000 then -4 else N 47 w) = _; rw [if_neg (by omega)]; omega)
    · skip
      refine e_tableOut (tgt := 114) q_X11_told_13 (by first | exact hR _ _ | (constructor <;> omega) | assumption) (by omega) rfl ?_
      refine e_iconst q_X11_told_114 ?_
      refine e_ireturn q_X11_told_115 rfl rfl ?_
      first | exact zqI h (by unfold r_told; rw [zif_t hw1]; rfl) | exact zqI h (by unfold r_told; rw [zif_t hw1]; exact bi_t (by omega)) | exact zqI h (by unfold r_told; rw [zif_t hw1]; exact bi_f (by omega)) | exact zqI h (by unfold r_told; rw [zif_t hw1]; rw [if_neg (by omega), if_neg (by omega), if_neg (by omega), if_neg (by omega), if_neg (by omega), if_neg (by omega)])
set_option maxRecDepth 20000 in
set_option maxHeartbeats 2000000 in
theorem x_count (hI : xI s N fa sa){k : Int} (hk0 : zr k) (h : Q (some (vi (r_count N k))) (zI s N)) : zC X m_X11_count [.ref 3, vi k] (zI s N) Q := by
  have hB := hI.B
  have hR := hI.R
  have hC := hI.C
  unfold mCnt at hC
  have hm := hI.m
  obtain ⟨e1, e5, e7, e8, e10, e11, e3, e12, eh, eg, ef, et⟩ := hI.hs
  show zE X m_X11_count 0 [.ref 3, vi k] [] _ Q
  refine e_iload_n q_X11_count_0 (by decide) rfl ?_
  rcases (show k < 0 ∨ k = 0 ∨ k = 1 ∨ k = 2 ∨ k = 3 ∨ k = 4 ∨ k = 5 ∨ k = 6 ∨ 6 < k by omega) with hk | rfl | rfl | rfl | rfl | rfl | rfl | rfl | hk
  · skip
    refine e_tableOut (tgt := 82) q_X11_count_1 (by first | exact hR _ _ | (constructor <;> omega) | assumption) (by omega) rfl ?_
    refine e_iconst q_X11_count_82 ?_
    refine e_ireturn q_X11_count_83 rfl rfl ?_
    first | exact zqI h (by unfold r_count; rfl) | exact zqI h (by unfold r_count; rw [if_neg (by omega), if_neg (by omega), if_neg (by omega), if_neg (by omega), if_neg (by omega), if_neg (by omega), if_neg (by omega)])
  · skip
    refine e_tableIn (off := 43) (tgt := 44) q_X11_count_1 (by first | exact hR _ _ | (constructor <;> omega) | assumption) (by omega) (by omega) rfl rfl ?_
    refine e_aload_n q_X11_count_44 (by decide) rfl ?_
    refine i_getI (k' := 1) q_X11_count_45 fl_X11_94 (a3 hB) rfl rfl rfl e1 ?_
    refine e_ireturn q_X11_count_48 rfl rfl ?_
    first | exact zqI h (by unfold r_count; rfl) | exact zqI h (by unfold r_count; rw [if_neg (by omega), if_neg (by omega), if_neg (by omega), if_neg (by omega), if_neg (by omega), if_neg (by omega), if_neg (by omega)])
  · skip
    refine e_tableIn (off := 48) (tgt := 49) q_X11_count_1 (by first | exact hR _ _ | (constructor <;> omega) | assumption) (by omega) (by omega) rfl rfl ?_
    refine e_aload_n q_X11_count_49 (by decide) rfl ?_
    refine i_getI (k' := 3) q_X11_count_50 fl_X11_107 (a3 hB) rfl rfl rfl e3 ?_
    refine e_ireturn q_X11_count_53 rfl rfl ?_
    first | exact zqI h (by unfold r_count; rfl) | exact zqI h (by unfold r_count; rw [if_neg (by omega), if_neg (by omega), if_neg (by omega), if_neg (by omega), if_neg (by omega), if_neg (by omega), if_neg (by omega)])
  · skip
    refine e_tableIn (off := 53) (tgt := 54) q_X11_count_1 (by first | exact hR _ _ | (constructor <;> omega) | assumption) (by omega) (by omega) rfl rfl ?_
    refine e_aload_n q_X11_count_54 (by decide) rfl ?_
    refine i_getI (k' := 5) q_X11_count_55 fl_X11_215 (a3 hB) rfl rfl rfl e5 ?_
    refine e_ireturn q_X11_count_58 rfl rfl ?_
    first | exact zqI h (by unfold r_count; rfl) | exact zqI h (by unfold r_count; rw [if_neg (by omega), if_neg (by omega), if_neg (by omega), if_neg (by omega), if_neg (by omega), if_neg (by omega), if_neg (by omega)])
  · skip
    refine e_tableIn (off := 58) (tgt := 59) q_X11_count_1 (by first | exact hR _ _ | (constructor <;> omega) | assumption) (by omega) (by omega) rfl rfl ?_
    refine e_aload_n q_X11_count_59 (by decide) rfl ?_
    refine i_getC (r := 7) q_X11_count_60 fl_X11_25 (a3 hB) rfl (by decide) ?_
    refine i_getI (k' := 2) q_X11_count_63 fl_X11_209 (a7 hB) rfl rfl rfl e7 ?_
    refine e_ireturn q_X11_count_66 rfl rfl ?_
    first | exact zqI h (by unfold r_count; rfl) | exact zqI h (by unfold r_count; rw [if_neg (by omega), if_neg (by omega), if_neg (by omega), if_neg (by omega), if_neg (by omega), if_neg (by omega), if_neg (by omega)])
  · skip
    refine e_tableIn (off := 66) (tgt := 67) q_X11_count_1 (by first | exact hR _ _ | (constructor <;> omega) | assumption) (by omega) (by omega) rfl rfl ?_
    refine e_aload_n q_X11_count_67 (by decide) rfl ?_
    refine i_getI (k' := 8) q_X11_count_68 fl_X11_259 (a3 hB) rfl rfl rfl e8 ?_
    refine e_ireturn q_X11_count_71 rfl rfl ?_
    first | exact zqI h (by unfold r_count; rfl) | exact zqI h (by unfold r_count; rw [if_neg (by omega), if_neg (by omega), if_neg (by omega), if_neg (by omega), if_neg (by omega), if_neg (by omega), if_neg (by omega)])
  · skip
    refine e_tableIn (off := 71) (tgt := 72) q_X11_count_1 (by first | exact hR _ _ | (constructor <;> omega) | assumption) (by omega) (by omega) rfl rfl ?_
    refine e_aload_n q_X11_count_72 (by decide) rfl ?_
    refine i_getI (k' := 10) q_X11_count_73 fl_X11_294 (a3 hB) rfl rfl rfl e10 ?_
    refine e_ireturn q_X11_count_76 rfl rfl ?_
    first | exact zqI h (by unfold r_count; rfl) | exact zqI h (by unfold r_count; rw [if_neg (by omega), if_neg (by omega), if_neg (by omega), if_neg (by omega), if_neg (by omega), if_neg (by omega), if_neg (by omega)])
  · skip
    refine e_tableIn (off := 76) (tgt := 77) q_X11_count_1 (by first | exact hR _ _ | (constructor <;> omega) | assumption) (by omega) (by omega) rfl rfl ?_
    refine e_aload_n q_X11_count_77 (by decide) rfl ?_
    refine i_getI (k' := 11) q_X11_count_78 fl_X11_351 (a3 hB) rfl rfl rfl e11 ?_
    refine e_ireturn q_X11_count_81 rfl rfl ?_
    first | exact zqI h (by unfold r_count; rfl) | exact zqI h (by unfold r_count; rw [if_neg (by omega), if_neg (by omega), if_neg (by omega), if_neg (by omega), if_neg (by omega), if_neg (by omega), if_neg (by omega)])
  · skip
    refine e_tableOut (tgt := 82) q_X11_count_1 (by first | exact hR _ _ | (constructor <;> omega) | assumption) (by omega) rfl ?_
    refine e_iconst q_X11_count_82 ?_
    refine e_ireturn q_X11_count_83 rfl rfl ?_
    first | exact zqI h (by unfold r_count; rfl) | exact zqI h (by unfold r_count; rw [if_neg (by omega), if_neg (by omega), if_neg (by omega), if_neg (by omega), if_neg (by omega), if_neg (by omega), if_neg (by omega)])
set_option maxRecDepth 20000 in
set_option maxHeartbeats 2000000 in
theorem x_wants (hI : xI s N fa sa){d : Int} (hd : zr d){k : Int} (hk0 : zr k) (h : Q (some (vi (r_wants N d k))) (zI s N)) : zC X m_X11_wants [.ref 3, vi d, vi k] (zI s N) Q := by
  have hB := hI.B
  have hR := hI.R
  have hC := hI.C
  unfold mCnt at hC
  have hm := hI.m
  obtain ⟨e1, e5, e7, e8, e10, e11, e3, e12, eh, eg, ef, et⟩ := hI.hs
  show zE X m_X11_wants 0 [.ref 3, vi d, vi k, zU, zU] [] _ Q
  refine e_iload_n q_X11_wants_0 (by decide) rfl ?_
  refine iv_X11_isDay q_X11_wants_1 lk_X11_140 (by decide) (Nat.le_of_ble_eq_true rfl) ?_
  refine x_isDay hd ?_
  refine e_ifb_eq q_X11_wants_4 (fun c4 => ?_) (fun c4 => ?_)
  · skip
    refine e_iconst q_X11_wants_16 ?_
    refine e_ireturn q_X11_wants_17 rfl rfl ?_
    exact zqI h (by unfold r_wants; exact zif_f (fun q => by first | exact c4 q.1 | omega))
  · skip
    refine e_iload_n q_X11_wants_7 (by decide) rfl ?_
    refine e_if_lt q_X11_wants_8 hk0 (fun c8 => ?_) (fun c8 => ?_)
    · skip
      refine e_iconst q_X11_wants_16 ?_
      refine e_ireturn q_X11_wants_17 rfl rfl ?_
      exact zqI h (by unfold r_wants; exact zif_f (fun q => by first | exact c4 q.1 | omega))
    · skip
      refine e_iload_n q_X11_wants_11 (by decide) rfl ?_
      refine e_iconst q_X11_wants_12 ?_
      refine e_icmp_le q_X11_wants_13 hk0 (by constructor <;> omega) (fun c13 => ?_) (fun c13 => ?_)
      · skip
        refine e_iconst q_X11_wants_18 ?_
        refine e_istore_n (ls' := [_, _, _, _, _]) q_X11_wants_19 (by decide) rfl rfl ?_
        refine e_iconst q_X11_wants_20 ?_
        refine e_istore (ls' := [_, _, _, _, _]) q_X11_wants_21 (by decide) rfl rfl ?_
        refine zEe (ls := [.ref 3, vi d, vi k, vi (cnt (fun i : Nat => want N i d k) 0), vi ((0 : Nat) : Int)]) (σ := (zI s N)) ?_ rfl rfl
        refine z_for (P := fun i => zE X m_X11_wants 23 [.ref 3, vi d, vi k, vi (cnt (fun i : Nat => want N i d k) i), vi (i : Int)] [] (zI s N) Q) (N 39 2).toNat (fun i hi ih => ?_) ?_
        · skip
          refine e_iload q_X11_wants_23 (by decide) rfl ?_
          refine e_aload_n q_X11_wants_25 (by decide) rfl ?_
          refine i_getI (k' := 3) q_X11_wants_26 fl_X11_107 (a3 hB) rfl rfl rfl e3 ?_
          refine e_icmp_ge q_X11_wants_29 (by first | exact hR _ _ | (constructor <;> omega) | assumption) (by first | exact hR _ _ | (constructor <;> omega) | assumption) (fun c29 => ?_) (fun c29 => ?_)
          · skip
            exact absurd c29 (by omega)
          · skip
            refine e_aload_n q_X11_wants_32 (by decide) rfl ?_
            refine e_aload_n q_X11_wants_33 (by decide) rfl ?_
            refine i_getC (r := 5) q_X11_wants_34 fl_X11_15 (a3 hB) rfl (by decide) ?_
            refine e_iload q_X11_wants_37 (by decide) rfl ?_
            obtain ⟨a, hp⟩ := hI.ps.1 (i) (by omega) (by omega)
            obtain ⟨p88, pA, p5, p0, p1, p2, p3, p4, p5f, p6, p7, p8, p9⟩ := id hp
            refine i_aald q_X11_wants_39 (a5 hB) (by decide) (fun _ => rfl) (by omega) (by omega) (by decide) p5 (by omega) ?_
            refine e_iload_n q_X11_wants_40 (by decide) rfl ?_
            refine e_iload_n q_X11_wants_41 (by decide) rfl ?_
            refine iv_X11_isWanting rfl q_X11_wants_42 lk_X11_252 (by decide) (a3 hB) (Nat.le_of_ble_eq_true rfl) ?_
            refine x_isWanting hI (by omega) (by omega) hp c4 (by omega) ?_
            refine e_ifb_eq q_X11_wants_45 (fun c45 => ?_) (fun c45 => ?_)
            · skip
              refine e_iinc (ls' := [_, _, _, _, _]) q_X11_wants_51 (by decide) rfl rfl rfl ?_
              refine e_goto q_X11_wants_54 ?_
              first | exact zEe ih (by rw [cnt_t (p := fun i : Nat => want N i d k) c45]; rfl) rfl | exact zEe ih (by rw [cnt_f' (p := fun i : Nat => want N i d k) c45]; rfl) rfl
            · skip
              refine e_iinc (ls' := [_, _, _, _, _]) q_X11_wants_48 (by decide) rfl rfl rfl ?_
              refine e_iinc (ls' := [_, _, _, _, _]) q_X11_wants_51 (by decide) rfl rfl rfl ?_
              refine e_goto q_X11_wants_54 ?_
              first | exact zEe ih (by rw [cnt_t (p := fun i : Nat => want N i d k) c45]; rfl) rfl | exact zEe ih (by rw [cnt_f' (p := fun i : Nat => want N i d k) c45]; rfl) rfl
        · skip
          refine e_iload q_X11_wants_23 (by decide) rfl ?_
          refine e_aload_n q_X11_wants_25 (by decide) rfl ?_
          refine i_getI (k' := 3) q_X11_wants_26 fl_X11_107 (a3 hB) rfl rfl rfl e3 ?_
          refine e_icmp_ge q_X11_wants_29 (by first | exact hR _ _ | (constructor <;> omega) | assumption) (by first | exact hR _ _ | (constructor <;> omega) | assumption) (fun c29 => ?_) (fun c29 => ?_)
          · skip
            refine e_iload_n q_X11_wants_57 (by decide) rfl ?_
            refine e_ireturn q_X11_wants_58 rfl rfl ?_
            exact zqI h (by unfold r_wants; exact zif_t ⟨c4, by omega⟩)
          · skip
            exact absurd (by omega) c29
      · skip
        refine e_iconst q_X11_wants_16 ?_
        refine e_ireturn q_X11_wants_17 rfl rfl ?_
        exact zqI h (by unfold r_wants; exact zif_f (fun q => by first | exact c4 q.1 | omega))
set_option maxRecDepth 20000 in
set_option maxHeartbeats 2000000 in
theorem x_wantsAt (hI : xI s N fa sa){d : Int} (hd : zr d){k i0 : Int} (hk0 : zr k) (hi0 : zr i0) (h : Q (some (vi (r_wantsAt N d k i0))) (zI s N)) : zC X m_X11_wantsAt [.ref 3, vi d, vi k, vi i0] (zI s N) Q := by
  have hB := hI.B
  have hR := hI.R
  have hC := hI.C
  unfold mCnt at hC
  have hm := hI.m
  obtain ⟨e1, e5, e7, e8, e10, e11, e3, e12, eh, eg, ef, et⟩ := hI.hs
  show zE X m_X11_wantsAt 0 [.ref 3, vi d, vi k, vi i0, zU, zU] [] _ Q
  refine e_iload_n q_X11_wantsAt_0 (by decide) rfl ?_
  refine iv_X11_isDay q_X11_wantsAt_1 lk_X11_140 (by decide) (Nat.le_of_ble_eq_true rfl) ?_
  refine x_isDay hd ?_
  refine e_ifb_eq q_X11_wantsAt_4 (fun c4 => ?_) (fun c4 => ?_)
  · skip
    refine e_iconst q_X11_wantsAt_20 ?_
    refine e_ireturn q_X11_wantsAt_21 rfl rfl ?_
    exact zqI h (by unfold r_wantsAt; exact zif_f (fun q => by first | exact c4 q.1 | omega))
  · skip
    refine e_iload_n q_X11_wantsAt_7 (by decide) rfl ?_
    refine e_if_lt q_X11_wantsAt_8 hk0 (fun c8 => ?_) (fun c8 => ?_)
    · skip
      refine e_iconst q_X11_wantsAt_20 ?_
      refine e_ireturn q_X11_wantsAt_21 rfl rfl ?_
      exact zqI h (by unfold r_wantsAt; exact zif_f (fun q => by first | exact c4 q.1 | omega))
    · skip
      refine e_iload_n q_X11_wantsAt_11 (by decide) rfl ?_
      refine e_iconst q_X11_wantsAt_12 ?_
      refine e_icmp_gt q_X11_wantsAt_13 hk0 (by constructor <;> omega) (fun c13 => ?_) (fun c13 => ?_)
      · skip
        refine e_iconst q_X11_wantsAt_20 ?_
        refine e_ireturn q_X11_wantsAt_21 rfl rfl ?_
        exact zqI h (by unfold r_wantsAt; exact zif_f (fun q => by first | exact c4 q.1 | omega))
      · skip
        refine e_iload_n q_X11_wantsAt_16 (by decide) rfl ?_
        refine e_if_ge q_X11_wantsAt_17 hi0 (fun c17 => ?_) (fun c17 => ?_)
        · skip
          refine e_iconst q_X11_wantsAt_22 ?_
          refine e_istore (ls' := [_, _, _, _, _, _]) q_X11_wantsAt_23 (by decide) rfl rfl ?_
          refine e_iconst q_X11_wantsAt_25 ?_
          refine e_istore (ls' := [_, _, _, _, _, _]) q_X11_wantsAt_26 (by decide) rfl rfl ?_
          refine zEe (ls := [.ref 3, vi d, vi k, vi i0, vi (cnt (fun i : Nat => want N i d k) 0), vi ((0 : Nat) : Int)]) (σ := (zI s N)) ?_ rfl rfl
          refine z_for (P := fun i => (∀ j, j < i → ¬ (fun w : Nat => want N w d k ∧ cnt (fun i : Nat => want N i d k) w = i0) j) → zE X m_X11_wantsAt 28 [.ref 3, vi d, vi k, vi i0, vi (cnt (fun i : Nat => want N i d k) i), vi (i : Int)] [] (zI s N) Q) (N 39 2).toNat (fun i hi ih hn => ?_) (fun hn => ?_) (by intro j hj; omega)
          · skip
            refine e_iload q_X11_wantsAt_28 (by decide) rfl ?_
            refine e_aload_n q_X11_wantsAt_30 (by decide) rfl ?_
            refine i_getI (k' := 3) q_X11_wantsAt_31 fl_X11_107 (a3 hB) rfl rfl rfl e3 ?_
            refine e_icmp_ge q_X11_wantsAt_34 (by first | exact hR _ _ | (constructor <;> omega) | assumption) (by first | exact hR _ _ | (constructor <;> omega) | assumption) (fun c34 => ?_) (fun c34 => ?_)
            · skip
              exact absurd c34 (by omega)
            · skip
              refine e_aload_n q_X11_wantsAt_37 (by decide) rfl ?_
              refine e_aload_n q_X11_wantsAt_38 (by decide) rfl ?_
              refine i_getC (r := 5) q_X11_wantsAt_39 fl_X11_15 (a3 hB) rfl (by decide) ?_
              refine e_iload q_X11_wantsAt_42 (by decide) rfl ?_
              obtain ⟨a, hp⟩ := hI.ps.1 (i) (by omega) (by omega)
              obtain ⟨p88, pA, p5, p0, p1, p2, p3, p4, p5f, p6, p7, p8, p9⟩ := id hp
              refine i_aald q_X11_wantsAt_44 (a5 hB) (by decide) (fun _ => rfl) (by omega) (by omega) (by decide) p5 (by omega) ?_
              refine e_iload_n q_X11_wantsAt_45 (by decide) rfl ?_
              refine e_iload_n q_X11_wantsAt_46 (by decide) rfl ?_
              refine iv_X11_isWanting rfl q_X11_wantsAt_47 lk_X11_252 (by decide) (a3 hB) (Nat.le_of_ble_eq_true rfl) ?_
              refine x_isWanting hI (by omega) (by omega) hp c4 (by omega) ?_
              refine e_ifb_eq q_X11_wantsAt_50 (fun c50 => ?_) (fun c50 => ?_)
              · skip
                refine e_iinc (ls' := [_, _, _, _, _, _]) q_X11_wantsAt_65 (by decide) rfl rfl rfl ?_
                refine e_goto q_X11_wantsAt_68 ?_
                first | exact zEe (ih (z_lt1 hn (fun q => by have := q.2; omega))) (by rw [cnt_t (p := fun i : Nat => want N i d k) c50]; rfl) rfl | exact zEe (ih (z_lt1 hn (fun q => c50 q.1))) (by rw [cnt_f' (p := fun i : Nat => want N i d k) c50]; rfl) rfl
              · skip
                have hcb := cnt_b (fun i : Nat => want N i d k) i
                refine e_iload q_X11_wantsAt_53 (by decide) rfl ?_
                refine e_iload_n q_X11_wantsAt_55 (by decide) rfl ?_
                refine e_icmp_ne q_X11_wantsAt_56 (by constructor <;> omega) hi0 (fun c56 => ?_) (fun c56 => ?_)
                · skip
                  refine e_iinc (ls' := [_, _, _, _, _, _]) q_X11_wantsAt_62 (by decide) rfl rfl rfl ?_
                  refine e_iinc (ls' := [_, _, _, _, _, _]) q_X11_wantsAt_65 (by decide) rfl rfl rfl ?_
                  refine e_goto q_X11_wantsAt_68 ?_
                  first | exact zEe (ih (z_lt1 hn (fun q => by have := q.2; omega))) (by rw [cnt_t (p := fun i : Nat => want N i d k) c50]; rfl) rfl | exact zEe (ih (z_lt1 hn (fun q => c50 q.1))) (by rw [cnt_f' (p := fun i : Nat => want N i d k) c50]; rfl) rfl
                · skip
                  refine e_iload q_X11_wantsAt_59 (by decide) rfl ?_
                  refine e_ireturn q_X11_wantsAt_61 rfl rfl ?_
                  exact zqI h (by unfold r_wantsAt; rw [zif_t ⟨c4, by omega, by omega⟩]; exact fstK_at (p := fun w : Nat => want N w d k ∧ cnt (fun i : Nat => want N i d k) w = i0) (by omega) hn ⟨c50, by omega⟩)
          · skip
            refine e_iload q_X11_wantsAt_28 (by decide) rfl ?_
            refine e_aload_n q_X11_wantsAt_30 (by decide) rfl ?_
            refine i_getI (k' := 3) q_X11_wantsAt_31 fl_X11_107 (a3 hB) rfl rfl rfl e3 ?_
            refine e_icmp_ge q_X11_wantsAt_34 (by first | exact hR _ _ | (constructor <;> omega) | assumption) (by first | exact hR _ _ | (constructor <;> omega) | assumption) (fun c34 => ?_) (fun c34 => ?_)
            · skip
              refine e_iconst q_X11_wantsAt_71 ?_
              refine e_ireturn q_X11_wantsAt_72 rfl rfl ?_
              exact zqI h (by unfold r_wantsAt; rw [zif_t ⟨c4, by omega, by omega⟩]; exact fstK_none (p := fun w : Nat => want N w d k ∧ cnt (fun i : Nat => want N i d k) w = i0) (fun j hj => hn j (by omega)))
            · skip
              exact absurd (by omega) c34
        · skip
          refine e_iconst q_X11_wantsAt_20 ?_
          refine e_ireturn q_X11_wantsAt_21 rfl rfl ?_
          exact zqI h (by unfold r_wantsAt; exact zif_f (fun q => by first | exact c4 q.1 | omega))
set_option maxRecDepth 20000 in
set_option maxHeartbeats 2000000 in
theorem x_owedOfAll (hI : xI s N fa sa){w : Int} (h0 : 0 ≤ w) (h1 : w < 48) (h : Q (some (vi (owesA N w))) (zI s N)) : zC X m_X11_owedOfAll [.ref 3, vi w] (zI s N) Q := by
  have hB := hI.B
  have hR := hI.R
  have hC := hI.C
  unfold mCnt at hC
  have hm := hI.m
  obtain ⟨e1, e5, e7, e8, e10, e11, e3, e12, eh, eg, ef, et⟩ := hI.hs
  show zE X m_X11_owedOfAll 0 [.ref 3, vi w, zU, zU] [] _ Q
  refine e_iconst q_X11_owedOfAll_0 ?_
  refine e_istore_n (ls' := [_, _, _, _]) q_X11_owedOfAll_1 (by decide) rfl rfl ?_
  refine e_iconst q_X11_owedOfAll_2 ?_
  refine e_istore_n (ls' := [_, _, _, _]) q_X11_owedOfAll_3 (by decide) rfl rfl ?_
  refine zEe (ls := [.ref 3, vi w, vi (sumK (fun p => N 80 (48 * p + w)) 0), vi ((0 : Nat) : Int)]) (σ := (zI s N)) ?_ rfl rfl
  refine z_for (P := fun i => zE X m_X11_owedOfAll 4 [.ref 3, vi w, vi (sumK (fun p => N 80 (48 * p + w)) i), vi (i : Int)] [] (zI s N) Q) (N 39 50).toNat (fun i hi ih => ?_) ?_
  · skip
    refine e_iload_n q_X11_owedOfAll_4 (by decide) rfl ?_
    refine e_aload_n q_X11_owedOfAll_5 (by decide) rfl ?_
    refine i_getI (k' := 10) q_X11_owedOfAll_6 fl_X11_294 (a3 hB) rfl rfl rfl e10 ?_
    refine e_icmp_ge q_X11_owedOfAll_9 (by first | exact hR _ _ | (constructor <;> omega) | assumption) (by first | exact hR _ _ | (constructor <;> omega) | assumption) (fun c9 => ?_) (fun c9 => ?_)
    · skip
      exact absurd c9 (by omega)
    · skip
      refine e_iload_n q_X11_owedOfAll_12 (by decide) rfl ?_
      refine e_aload_n q_X11_owedOfAll_13 (by decide) rfl ?_
      refine i_getC (r := 11) q_X11_owedOfAll_14 fl_X11_37 (a3 hB) rfl (by decide) ?_
      refine e_iload_n q_X11_owedOfAll_17 (by decide) rfl ?_
      obtain ⟨a, b, c, hl⟩ := hI.ls.1 (i) (by omega) (by omega)
      obtain ⟨l88, lA, l11, l0, l1, l2, l3, l4, l5, l6, l7, l8, lb88, lbA, lc88, lcA, lrow⟩ := id hl
      refine i_aald q_X11_owedOfAll_18 (a11 hB) (by decide) (fun _ => rfl) (by omega) (by omega) (by decide) l11 (by omega) ?_
      refine i_getR (k' := 5) q_X11_owedOfAll_19 fl_X11_333 lA (cref0 (by omega) _) rfl rfl l5 (by omega) ?_
      refine e_iload_n q_X11_owedOfAll_22 (by decide) rfl ?_
      refine i_iald q_X11_owedOfAll_23 lcA (cref0 (by omega)) (by first | omega | assumption) (by first | omega | assumption) (by decide) (lrow w h0 h1).2 ?_
      refine e_iadd q_X11_owedOfAll_24 ?_
      refine e_istore_n (ls' := [_, _, _, _]) q_X11_owedOfAll_25 (by decide) rfl rfl ?_
      refine e_iinc (ls' := [_, _, _, _]) q_X11_owedOfAll_26 (by decide) rfl rfl rfl ?_
      refine e_goto q_X11_owedOfAll_29 ?_
      exact zEe ih rfl rfl
  · skip
    refine e_iload_n q_X11_owedOfAll_4 (by decide) rfl ?_
    refine e_aload_n q_X11_owedOfAll_5 (by decide) rfl ?_
    refine i_getI (k' := 10) q_X11_owedOfAll_6 fl_X11_294 (a3 hB) rfl rfl rfl e10 ?_
    refine e_icmp_ge q_X11_owedOfAll_9 (by first | exact hR _ _ | (constructor <;> omega) | assumption) (by first | exact hR _ _ | (constructor <;> omega) | assumption) (fun c9 => ?_) (fun c9 => ?_)
    · skip
      refine e_iload_n q_X11_owedOfAll_32 (by decide) rfl ?_
      refine e_ireturn q_X11_owedOfAll_33 rfl rfl ?_
      exact h
    · skip
      exact absurd (by omega) c9
set_option maxRecDepth 20000 in
set_option maxHeartbeats 2000000 in
theorem x_owes (hI : xI s N fa sa){w : Int} (hw : zr w){p : Int} (hp0 : zr p) (h : Q (some (vi (r_owes N w p))) (zI s N)) : zC X m_X11_owes [.ref 3, vi w, vi p] (zI s N) Q := by
  have hB := hI.B
  have hR := hI.R
  have hC := hI.C
  unfold mCnt at hC
  have hm := hI.m
  obtain ⟨e1, e5, e7, e8, e10, e11, e3, e12, eh, eg, ef, et⟩ := hI.hs
  show zE X m_X11_owes 0 [.ref 3, vi w, vi p] [] _ Q
  refine e_aload_n q_X11_owes_0 (by decide) rfl ?_
  refine e_iload_n q_X11_owes_1 (by decide) rfl ?_
  refine iv_X11_personAt q_X11_owes_2 lk_X11_113 (by decide) (a3 hB) (Nat.le_of_ble_eq_true rfl) ?_
  refine x_personAt hI hw (fun hw1 => ?_) (fun a hw1 hp => ?_)
  · skip
    refine e_ifnullN q_X11_owes_5 ?_
    refine e_iconst q_X11_owes_21 ?_
    refine e_ireturn q_X11_owes_22 rfl rfl ?_
    exact zqI h (by unfold r_owes; exact zif_f (fun q => by first | exact hw1 q.1 | omega))
  · skip
    obtain ⟨p88, pA, p5, p0, p1, p2, p3, p4, p5f, p6, p7, p8, p9⟩ := id hp
    refine e_ifnull q_X11_owes_5 ?_
    refine e_iload_n q_X11_owes_8 (by decide) rfl ?_
    refine e_iconst q_X11_owes_9 ?_
    refine e_icmp_lt q_X11_owes_10 (by first | exact hR _ _ | (constructor <;> omega) | assumption) (by first | exact hR _ _ | (constructor <;> omega) | assumption) (fun c10 => ?_) (fun c10 => ?_)
    · skip
      refine e_iconst q_X11_owes_21 ?_
      refine e_ireturn q_X11_owes_22 rfl rfl ?_
      exact zqI h (by unfold r_owes; exact zif_f (fun q => by first | exact hw1 q.1 | omega))
    · skip
      refine e_iload_n q_X11_owes_13 (by decide) rfl ?_
      refine e_aload_n q_X11_owes_14 (by decide) rfl ?_
      refine i_getI (k' := 10) q_X11_owes_15 fl_X11_294 (a3 hB) rfl rfl rfl e10 ?_
      refine e_icmp_lt q_X11_owes_18 (by first | exact hR _ _ | (constructor <;> omega) | assumption) (by first | exact hR _ _ | (constructor <;> omega) | assumption) (fun c18 => ?_) (fun c18 => ?_)
      · skip
        refine e_iload_n q_X11_owes_23 (by decide) rfl ?_
        refine e_if_ge q_X11_owes_24 (by first | exact hR _ _ | (constructor <;> omega) | assumption) (fun c24 => ?_) (fun c24 => ?_)
        · skip
          refine e_aload_n q_X11_owes_35 (by decide) rfl ?_
          refine i_getC (r := 11) q_X11_owes_36 fl_X11_37 (a3 hB) rfl (by decide) ?_
          refine e_iload_n q_X11_owes_39 (by decide) rfl ?_
          obtain ⟨a, b, c, hl⟩ := hI.ls.1 (p) (by omega) (by omega)
          obtain ⟨l88, lA, l11, l0, l1, l2, l3, l4, l5, l6, l7, l8, lb88, lbA, lc88, lcA, lrow⟩ := id hl
          refine i_aald q_X11_owes_40 (a11 hB) (by decide) (fun _ => rfl) (by omega) (by omega) (by decide) l11 (by omega) ?_
          refine i_getR (k' := 5) q_X11_owes_41 fl_X11_333 lA (cref0 (by omega) _) rfl rfl l5 (by omega) ?_
          refine e_iload_n q_X11_owes_44 (by decide) rfl ?_
          refine i_iald q_X11_owes_45 lcA (cref0 (by omega)) (by first | omega | assumption) (by first | omega | assumption) (by decide) (lrow w (by omega) (by omega)).2 ?_
          refine e_ireturn q_X11_owes_46 rfl rfl ?_
          first | exact zqI h (by unfold r_owes; rw [zif_t ⟨hw1, by omega, by omega⟩]; exact if_pos (by omega)) | exact zqI h (by unfold r_owes; rw [zif_t ⟨hw1, by omega, by omega⟩]; exact if_neg (by omega))
        · skip
          refine e_aload_n q_X11_owes_27 (by decide) rfl ?_
          refine e_iload_n q_X11_owes_28 (by decide) rfl ?_
          refine iv_X11_owedOfAll q_X11_owes_29 lk_X11_154 (by decide) (a3 hB) (Nat.le_of_ble_eq_true rfl) ?_
          refine x_owedOfAll hI (by omega) (by omega) ?_
          refine e_goto q_X11_owes_32 ?_
          refine e_ireturn q_X11_owes_46 rfl rfl ?_
          first | exact zqI h (by unfold r_owes; rw [zif_t ⟨hw1, by omega, by omega⟩]; exact if_pos (by omega)) | exact zqI h (by unfold r_owes; rw [zif_t ⟨hw1, by omega, by omega⟩]; exact if_neg (by omega))
      · skip
        refine e_iconst q_X11_owes_21 ?_
        refine e_ireturn q_X11_owes_22 rfl rfl ?_
        exact zqI h (by unfold r_owes; exact zif_f (fun q => by first | exact hw1 q.1 | omega))
set_option maxRecDepth 20000 in
set_option maxHeartbeats 2000000 in
theorem x_borneBy (hI : xI s N fa sa){g : Int} (hg : zr g) (h : Q (some (vi (borneB N g))) (zI s N)) : zC X m_X11_borneBy [.ref 3, vi g] (zI s N) Q := by
  have hB := hI.B
  have hR := hI.R
  have hC := hI.C
  unfold mCnt at hC
  have hm := hI.m
  obtain ⟨e1, e5, e7, e8, e10, e11, e3, e12, eh, eg, ef, et⟩ := hI.hs
  show zE X m_X11_borneBy 0 [.ref 3, vi g, zU, zU] [] _ Q
  refine e_iconst q_X11_borneBy_0 ?_
  refine e_istore_n (ls' := [_, _, _, _]) q_X11_borneBy_1 (by decide) rfl rfl ?_
  refine e_iconst q_X11_borneBy_2 ?_
  refine e_istore_n (ls' := [_, _, _, _]) q_X11_borneBy_3 (by decide) rfl rfl ?_
  refine zEe (ls := [.ref 3, vi g, vi (sumK (borneF N g) 0), vi ((0 : Nat) : Int)]) (σ := (zI s N)) ?_ rfl rfl
  refine z_for (P := fun i => zE X m_X11_borneBy 4 [.ref 3, vi g, vi (sumK (borneF N g) i), vi (i : Int)] [] (zI s N) Q) (N 39 50).toNat (fun i hi ih => ?_) ?_
  · skip
    refine e_iload_n q_X11_borneBy_4 (by decide) rfl ?_
    refine e_aload_n q_X11_borneBy_5 (by decide) rfl ?_
    refine i_getI (k' := 10) q_X11_borneBy_6 fl_X11_294 (a3 hB) rfl rfl rfl e10 ?_
    refine e_icmp_ge q_X11_borneBy_9 (by first | exact hR _ _ | (constructor <;> omega) | assumption) (by first | exact hR _ _ | (constructor <;> omega) | assumption) (fun c9 => ?_) (fun c9 => ?_)
    · skip
      exact absurd c9 (by omega)
    · skip
      refine e_aload_n q_X11_borneBy_12 (by decide) rfl ?_
      refine i_getC (r := 11) q_X11_borneBy_13 fl_X11_37 (a3 hB) rfl (by decide) ?_
      refine e_iload_n q_X11_borneBy_16 (by decide) rfl ?_
      obtain ⟨a, b, c, hl⟩ := hI.ls.1 (i) (by omega) (by omega)
      obtain ⟨l88, lA, l11, l0, l1, l2, l3, l4, l5, l6, l7, l8, lb88, lbA, lc88, lcA, lrow⟩ := id hl
      refine i_aald q_X11_borneBy_17 (a11 hB) (by decide) (fun _ => rfl) (by omega) (by omega) (by decide) l11 (by omega) ?_
      refine i_getI (k' := 2) q_X11_borneBy_18 fl_X11_310 lA (cref0 (by omega) _) rfl rfl l2 ?_
      refine e_iload_n q_X11_borneBy_21 (by decide) rfl ?_
      refine e_icmp_ne q_X11_borneBy_22 (hR _ _) hg (fun c22 => ?_) (fun c22 => ?_)
      · skip
        refine e_iinc (ls' := [_, _, _, _]) q_X11_borneBy_49 (by decide) rfl rfl rfl ?_
        refine e_goto q_X11_borneBy_52 ?_
        first | exact zEe ih (by rw [sumK, borneF, if_pos ⟨by omega, c22⟩]; rfl) rfl | exact zEe ih (by rw [sumK, borneF, if_neg (fun q => by have q1 := q.1; have q2 := q.2; omega), Int.add_zero]; rfl) rfl
      · skip
        refine e_aload_n q_X11_borneBy_25 (by decide) rfl ?_
        refine i_getC (r := 11) q_X11_borneBy_26 fl_X11_37 (a3 hB) rfl (by decide) ?_
        refine e_iload_n q_X11_borneBy_29 (by decide) rfl ?_
        obtain ⟨ax, bx, cx, hlx⟩ := hI.ls.1 (i) (by omega) (by omega)
        obtain ⟨l88x, lAx, l11x, l0x, l1x, l2x, l3x, l4x, l5x, l6x, l7x, l8x, lb88x, lbAx, lc88x, lcAx, lrowx⟩ := id hlx
        refine i_aald q_X11_borneBy_30 (a11 hB) (by decide) (fun _ => rfl) (by omega) (by omega) (by decide) l11x (by omega) ?_
        refine i_getI (k' := 8) q_X11_borneBy_31 fl_X11_330 lAx (cref0 (by omega) _) rfl rfl l8x ?_
        refine e_if_eq q_X11_borneBy_34 (by first | exact hR _ _ | (constructor <;> omega) | assumption) (fun c34 => ?_) (fun c34 => ?_)
        · skip
          refine e_iinc (ls' := [_, _, _, _]) q_X11_borneBy_49 (by decide) rfl rfl rfl ?_
          refine e_goto q_X11_borneBy_52 ?_
          first | exact zEe ih (by rw [sumK, borneF, if_pos ⟨by omega, c22⟩]; rfl) rfl | exact zEe ih (by rw [sumK, borneF, if_neg (fun q => by have q1 := q.1; have q2 := q.2; omega), Int.add_zero]; rfl) rfl
        · skip
          refine e_iload_n q_X11_borneBy_37 (by decide) rfl ?_
          refine e_aload_n q_X11_borneBy_38 (by decide) rfl ?_
          refine i_getC (r := 11) q_X11_borneBy_39 fl_X11_37 (a3 hB) rfl (by decide) ?_
          refine e_iload_n q_X11_borneBy_42 (by decide) rfl ?_
          obtain ⟨az, bz, cz, hlz⟩ := hI.ls.1 (i) (by omega) (by omega)
          obtain ⟨l88z, lAz, l11z, l0z, l1z, l2z, l3z, l4z, l5z, l6z, l7z, l8z, lb88z, lbAz, lc88z, lcAz, lrowz⟩ := id hlz
          refine i_aald q_X11_borneBy_43 (a11 hB) (by decide) (fun _ => rfl) (by omega) (by omega) (by decide) l11z (by omega) ?_
          refine i_getI (k' := 3) q_X11_borneBy_44 fl_X11_311 lAz (cref0 (by omega) _) rfl rfl l3z ?_
          refine e_iadd q_X11_borneBy_47 ?_
          refine e_istore_n (ls' := [_, _, _, _]) q_X11_borneBy_48 (by decide) rfl rfl ?_
          refine e_iinc (ls' := [_, _, _, _]) q_X11_borneBy_49 (by decide) rfl rfl rfl ?_
          refine e_goto q_X11_borneBy_52 ?_
          first | exact zEe ih (by rw [sumK, borneF, if_pos ⟨by omega, c22⟩]; rfl) rfl | exact zEe ih (by rw [sumK, borneF, if_neg (fun q => by have q1 := q.1; have q2 := q.2; omega), Int.add_zero]; rfl) rfl
  · skip
    refine e_iload_n q_X11_borneBy_4 (by decide) rfl ?_
    refine e_aload_n q_X11_borneBy_5 (by decide) rfl ?_
    refine i_getI (k' := 10) q_X11_borneBy_6 fl_X11_294 (a3 hB) rfl rfl rfl e10 ?_
    refine e_icmp_ge q_X11_borneBy_9 (by first | exact hR _ _ | (constructor <;> omega) | assumption) (by first | exact hR _ _ | (constructor <;> omega) | assumption) (fun c9 => ?_) (fun c9 => ?_)
    · skip
      refine e_iload_n q_X11_borneBy_55 (by decide) rfl ?_
      refine e_ireturn q_X11_borneBy_56 rfl rfl ?_
      exact h
    · skip
      exact absurd (by omega) c9
set_option maxRecDepth 20000 in
set_option maxHeartbeats 2000000 in
theorem x_borneByHeads (hI : xI s N fa sa){g : Int} (hg : 0 ≤ g ∧ g < 8){d : Int} (hd : 0 ≤ d ∧ d ≤ 9999) (h : Q (some (vi (byH N g d))) (zI s N)) : zC X m_X11_borneByHeads [.ref 3, vi g, vi d] (zI s N) Q := by
  have hB := hI.B
  have hR := hI.R
  have hC := hI.C
  unfold mCnt at hC
  have hm := hI.m
  obtain ⟨e1, e5, e7, e8, e10, e11, e3, e12, eh, eg, ef, et⟩ := hI.hs
  have hmr := mems_r hm g d
  have hbr := borneB_r hm g
  show zE X m_X11_borneByHeads 0 [.ref 3, vi g, vi d, zU] [] _ Q
  refine e_aload_n q_X11_borneByHeads_0 (by decide) rfl ?_
  refine e_iload_n q_X11_borneByHeads_1 (by decide) rfl ?_
  refine e_iload_n q_X11_borneByHeads_2 (by decide) rfl ?_
  refine iv_X11_membersOf q_X11_borneByHeads_3 lk_X11_224 (by decide) (a3 hB) (Nat.le_of_ble_eq_true rfl) ?_
  refine x_membersOf hI hg hd ?_
  refine e_istore_n (ls' := [_, _, _, _]) q_X11_borneByHeads_6 (by decide) rfl rfl ?_
  refine e_iload_n q_X11_borneByHeads_7 (by decide) rfl ?_
  refine e_if_le q_X11_borneByHeads_8 (by first | exact hR _ _ | (constructor <;> omega) | assumption) (fun c8 => ?_) (fun c8 => ?_)
  · skip
    refine e_aload_n q_X11_borneByHeads_21 (by decide) rfl ?_
    refine e_iload_n q_X11_borneByHeads_22 (by decide) rfl ?_
    refine iv_X11_borneBy q_X11_borneByHeads_23 lk_X11_342 (by decide) (a3 hB) (Nat.le_of_ble_eq_true rfl) ?_
    refine x_borneBy hI (by constructor <;> omega) ?_
    refine e_ireturn q_X11_borneByHeads_26 rfl rfl ?_
    first | exact zqI h (if_pos (by omega)) | exact zqI h (if_neg (by omega))
  · skip
    refine e_aload_n q_X11_borneByHeads_11 (by decide) rfl ?_
    refine e_iload_n q_X11_borneByHeads_12 (by decide) rfl ?_
    refine iv_X11_borneBy q_X11_borneByHeads_13 lk_X11_342 (by decide) (a3 hB) (Nat.le_of_ble_eq_true rfl) ?_
    refine x_borneBy hI (by constructor <;> omega) ?_
    refine e_iload_n q_X11_borneByHeads_16 (by decide) rfl ?_
    refine e_idiv q_X11_borneByHeads_17 (by omega) (by omega) ?_
    refine e_goto q_X11_borneByHeads_18 ?_
    refine e_ireturn q_X11_borneByHeads_26 rfl rfl ?_
    first | exact zqI h (if_pos (by omega)) | exact zqI h (if_neg (by omega))
set_option maxRecDepth 20000 in
set_option maxHeartbeats 2000000 in
theorem x_bearsTooMuch (hI : xI s N fa sa){g : Int} (hg : 0 ≤ g ∧ g < N 39 29){d : Int} (hd : 0 ≤ d ∧ d ≤ 9999) (h : Q (some (vi (bi (2 * (sumK (fun i => byH N i d) (N 39 29).toNat / N 39 29) < byH N g d)))) (zI s N)) : zC X m_X11_bearsTooMuch [.ref 3, vi g, vi d] (zI s N) Q := by
  have hB := hI.B
  have hR := hI.R
  have hC := hI.C
  unfold mCnt at hC
  have hm := hI.m
  obtain ⟨e1, e5, e7, e8, e10, e11, e3, e12, eh, eg, ef, et⟩ := hI.hs
  show zE X m_X11_bearsTooMuch 0 [.ref 3, vi g, vi d, zU, zU] [] _ Q
  refine e_iconst q_X11_bearsTooMuch_0 ?_
  refine e_istore_n (ls' := [_, _, _, _, _]) q_X11_bearsTooMuch_1 (by decide) rfl rfl ?_
  refine e_iconst q_X11_bearsTooMuch_2 ?_
  refine e_istore (ls' := [_, _, _, _, _]) q_X11_bearsTooMuch_3 (by decide) rfl rfl ?_
  refine zEe (ls := [.ref 3, vi g, vi d, vi (sumK (fun i => byH N i d) 0), vi ((0 : Nat) : Int)]) (σ := (zI s N)) ?_ rfl rfl
  refine z_for (P := fun i => zE X m_X11_bearsTooMuch 5 [.ref 3, vi g, vi d, vi (sumK (fun i => byH N i d) i), vi (i : Int)] [] (zI s N) Q) (N 39 29).toNat (fun i hi ih => ?_) ?_
  · skip
    refine e_iload q_X11_bearsTooMuch_5 (by decide) rfl ?_
    refine e_aload_n q_X11_bearsTooMuch_7 (by decide) rfl ?_
    refine i_getI (k' := 5) q_X11_bearsTooMuch_8 fl_X11_215 (a3 hB) rfl rfl rfl e5 ?_
    refine e_icmp_ge q_X11_bearsTooMuch_11 (by first | exact hR _ _ | (constructor <;> omega) | assumption) (by first | exact hR _ _ | (constructor <;> omega) | assumption) (fun c11 => ?_) (fun c11 => ?_)
    · skip
      exact absurd c11 (by omega)
    · skip
      refine e_iload_n q_X11_bearsTooMuch_14 (by decide) rfl ?_
      refine e_aload_n q_X11_bearsTooMuch_15 (by decide) rfl ?_
      refine e_iload q_X11_bearsTooMuch_16 (by decide) rfl ?_
      refine e_iload_n q_X11_bearsTooMuch_18 (by decide) rfl ?_
      refine iv_X11_borneByHeads q_X11_bearsTooMuch_19 lk_X11_345 (by decide) (a3 hB) (Nat.le_of_ble_eq_true rfl) ?_
      refine x_borneByHeads hI (by omega) hd ?_
      refine e_iadd q_X11_bearsTooMuch_22 ?_
      refine e_istore_n (ls' := [_, _, _, _, _]) q_X11_bearsTooMuch_23 (by decide) rfl rfl ?_
      refine e_iinc (ls' := [_, _, _, _, _]) q_X11_bearsTooMuch_24 (by decide) rfl rfl rfl ?_
      refine e_goto q_X11_bearsTooMuch_27 ?_
      exact zEe ih rfl rfl
  · skip
    refine e_iload q_X11_bearsTooMuch_5 (by decide) rfl ?_
    refine e_aload_n q_X11_bearsTooMuch_7 (by decide) rfl ?_
    refine i_getI (k' := 5) q_X11_bearsTooMuch_8 fl_X11_215 (a3 hB) rfl rfl rfl e5 ?_
    refine e_icmp_ge q_X11_bearsTooMuch_11 (by first | exact hR _ _ | (constructor <;> omega) | assumption) (by first | exact hR _ _ | (constructor <;> omega) | assumption) (fun c11 => ?_) (fun c11 => ?_)
    · skip
      have hbs := byHs_r hm d (N 39 29).toNat
      have hb1 := byH_r hm g d
      have hq : 0 ≤ sumK (fun i => byH N i d) (N 39 29).toNat / N 39 29 := Int.ediv_nonneg (by omega) (by omega)
      have hq2 : sumK (fun i => byH N i d) (N 39 29).toNat / N 39 29 ≤ sumK (fun i => byH N i d) (N 39 29).toNat := Int.ediv_le_self _ (by omega)
      refine e_aload_n q_X11_bearsTooMuch_30 (by decide) rfl ?_
      refine i_getI (k' := 5) q_X11_bearsTooMuch_31 fl_X11_215 (a3 hB) rfl rfl rfl e5 ?_
      refine e_if_le q_X11_bearsTooMuch_34 (by first | exact hR _ _ | (constructor <;> omega) | assumption) (fun c34 => ?_) (fun c34 => ?_)
      · skip
        refine e_iconst q_X11_bearsTooMuch_46 ?_
        refine e_istore (ls' := [_, _, _, _, _]) q_X11_bearsTooMuch_47 (by decide) rfl rfl ?_
        refine e_aload_n q_X11_bearsTooMuch_49 (by decide) rfl ?_
        refine e_iload_n q_X11_bearsTooMuch_50 (by decide) rfl ?_
        refine e_iload_n q_X11_bearsTooMuch_51 (by decide) rfl ?_
        refine iv_X11_borneByHeads q_X11_bearsTooMuch_52 lk_X11_345 (by decide) (a3 hB) (Nat.le_of_ble_eq_true rfl) ?_
        refine x_borneByHeads hI (by omega) hd ?_
        refine e_iconst q_X11_bearsTooMuch_55 ?_
        refine e_iload q_X11_bearsTooMuch_56 (by decide) rfl ?_
        refine e_imul q_X11_bearsTooMuch_58 ?_
        refine e_icmp_le q_X11_bearsTooMuch_59 (by constructor <;> omega) (by constructor <;> omega) (fun c59 => ?_) (fun c59 => ?_)
        · skip
          refine e_iconst q_X11_bearsTooMuch_66 ?_
          refine e_ireturn q_X11_bearsTooMuch_67 rfl rfl ?_
          first | exact zqT h (by omega) | exact zqF h (by omega)
        · skip
          refine e_iconst q_X11_bearsTooMuch_62 ?_
          refine e_goto q_X11_bearsTooMuch_63 ?_
          refine e_ireturn q_X11_bearsTooMuch_67 rfl rfl ?_
          first | exact zqT h (by omega) | exact zqF h (by omega)
      · skip
        refine e_iload_n q_X11_bearsTooMuch_37 (by decide) rfl ?_
        refine e_aload_n q_X11_bearsTooMuch_38 (by decide) rfl ?_
        refine i_getI (k' := 5) q_X11_bearsTooMuch_39 fl_X11_215 (a3 hB) rfl rfl rfl e5 ?_
        refine e_idiv q_X11_bearsTooMuch_42 (by omega) (by omega) ?_
        refine e_goto q_X11_bearsTooMuch_43 ?_
        refine e_istore (ls' := [_, _, _, _, _]) q_X11_bearsTooMuch_47 (by decide) rfl rfl ?_
        refine e_aload_n q_X11_bearsTooMuch_49 (by decide) rfl ?_
        refine e_iload_n q_X11_bearsTooMuch_50 (by decide) rfl ?_
        refine e_iload_n q_X11_bearsTooMuch_51 (by decide) rfl ?_
        refine iv_X11_borneByHeads q_X11_bearsTooMuch_52 lk_X11_345 (by decide) (a3 hB) (Nat.le_of_ble_eq_true rfl) ?_
        refine x_borneByHeads hI (by omega) hd ?_
        refine e_iconst q_X11_bearsTooMuch_55 ?_
        refine e_iload q_X11_bearsTooMuch_56 (by decide) rfl ?_
        refine e_imul q_X11_bearsTooMuch_58 ?_
        refine e_icmp_le q_X11_bearsTooMuch_59 (by constructor <;> omega) (by constructor <;> omega) (fun c59 => ?_) (fun c59 => ?_)
        · skip
          refine e_iconst q_X11_bearsTooMuch_66 ?_
          refine e_ireturn q_X11_bearsTooMuch_67 rfl rfl ?_
          first | exact zqT h (by omega) | exact zqF h (by omega)
        · skip
          refine e_iconst q_X11_bearsTooMuch_62 ?_
          refine e_goto q_X11_bearsTooMuch_63 ?_
          refine e_ireturn q_X11_bearsTooMuch_67 rfl rfl ?_
          first | exact zqT h (by omega) | exact zqF h (by omega)
    · skip
      exact absurd (by omega) c11
set_option maxRecDepth 20000 in
set_option maxHeartbeats 2000000 in
theorem x_borne (hI : xI s N fa sa){g : Int} (hg : zr g){d : Int} (hd : zr d){k : Int} (hk0 : zr k) (h : Q (some (vi (r_borne N g d k))) (zI s N)) : zC X m_X11_borne [.ref 3, vi g, vi d, vi k] (zI s N) Q := by
  have hB := hI.B
  have hR := hI.R
  have hC := hI.C
  unfold mCnt at hC
  have hm := hI.m
  obtain ⟨e1, e5, e7, e8, e10, e11, e3, e12, eh, eg, ef, et⟩ := hI.hs
  show zE X m_X11_borne 0 [.ref 3, vi g, vi d, vi k] [] _ Q
  refine e_aload_n q_X11_borne_0 (by decide) rfl ?_
  refine e_iload_n q_X11_borne_1 (by decide) rfl ?_
  refine iv_X11_isGroup q_X11_borne_2 lk_X11_218 (by decide) (a3 hB) (Nat.le_of_ble_eq_true rfl) ?_
  refine x_isGroup hI hg ?_
  refine e_ifb_eq q_X11_borne_5 (fun c5 => ?_) (fun c5 => ?_)
  · skip
    refine e_iconst q_X11_borne_15 ?_
    refine e_ireturn q_X11_borne_16 rfl rfl ?_
    exact zqI h (by unfold r_borne; exact zif_f (fun q => by first | exact c5 q.1 | exact c12 q.2.1))
  · skip
    refine e_iload_n q_X11_borne_8 (by decide) rfl ?_
    refine iv_X11_isDay q_X11_borne_9 lk_X11_140 (by decide) (Nat.le_of_ble_eq_true rfl) ?_
    refine x_isDay hd ?_
    refine e_ifb_ne q_X11_borne_12 (fun c12 => ?_) (fun c12 => ?_)
    · skip
      refine e_iload_n q_X11_borne_17 (by decide) rfl ?_
      rcases (show k < 0 ∨ k = 0 ∨ k = 1 ∨ k = 2 ∨ 2 < k by omega) with hk | rfl | rfl | rfl | hk
      · skip
        refine e_tableOut (tgt := 72) q_X11_borne_18 (by first | exact hR _ _ | (constructor <;> omega) | assumption) (by omega) rfl ?_
        refine e_iconst q_X11_borne_72 ?_
        refine e_ireturn q_X11_borne_73 rfl rfl ?_
        exact zqI h (by unfold r_borne; exact zif_f (fun q => by have := q.2.2; omega))
      · skip
        refine e_tableIn (off := 26) (tgt := 44) q_X11_borne_18 (by first | exact hR _ _ | (constructor <;> omega) | assumption) (by omega) (by omega) rfl rfl ?_
        refine e_aload_n q_X11_borne_44 (by decide) rfl ?_
        refine e_iload_n q_X11_borne_45 (by decide) rfl ?_
        refine iv_X11_borneBy q_X11_borne_46 lk_X11_342 (by decide) (a3 hB) (Nat.le_of_ble_eq_true rfl) ?_
        refine x_borneBy hI hg ?_
        refine e_ireturn q_X11_borne_49 rfl rfl ?_
        exact zqI h (by unfold r_borne; rw [zif_t ⟨c5, c12, by omega⟩]; rfl)
      · skip
        refine e_tableIn (off := 32) (tgt := 50) q_X11_borne_18 (by first | exact hR _ _ | (constructor <;> omega) | assumption) (by omega) (by omega) rfl rfl ?_
        refine e_aload_n q_X11_borne_50 (by decide) rfl ?_
        refine e_iload_n q_X11_borne_51 (by decide) rfl ?_
        refine e_iload_n q_X11_borne_52 (by decide) rfl ?_
        refine iv_X11_borneByHeads q_X11_borne_53 lk_X11_345 (by decide) (a3 hB) (Nat.le_of_ble_eq_true rfl) ?_
        refine x_borneByHeads hI (by omega) c12 ?_
        refine e_ireturn q_X11_borne_56 rfl rfl ?_
        exact zqI h (by unfold r_borne; rw [zif_t ⟨c5, c12, by omega⟩]; rfl)
      · skip
        refine e_tableIn (off := 39) (tgt := 57) q_X11_borne_18 (by first | exact hR _ _ | (constructor <;> omega) | assumption) (by omega) (by omega) rfl rfl ?_
        refine e_aload_n q_X11_borne_57 (by decide) rfl ?_
        refine e_iload_n q_X11_borne_58 (by decide) rfl ?_
        refine e_iload_n q_X11_borne_59 (by decide) rfl ?_
        refine iv_X11_bearsTooMuch q_X11_borne_60 lk_X11_348 (by decide) (a3 hB) (Nat.le_of_ble_eq_true rfl) ?_
        refine x_bearsTooMuch hI c5 c12 ?_
        refine e_ifb_eq q_X11_borne_63 (fun c63 => ?_) (fun c63 => ?_)
        · skip
          refine e_iconst q_X11_borne_70 ?_
          refine e_ireturn q_X11_borne_71 rfl rfl ?_
          first | exact zqI h (by unfold r_borne; rw [zif_t ⟨c5, c12, by omega⟩]; exact bi_t c63) | exact zqI h (by unfold r_borne; rw [zif_t ⟨c5, c12, by omega⟩]; exact bi_f c63)
        · skip
          refine e_iconst q_X11_borne_66 ?_
          refine e_goto q_X11_borne_67 ?_
          refine e_ireturn q_X11_borne_71 rfl rfl ?_
          first | exact zqI h (by unfold r_borne; rw [zif_t ⟨c5, c12, by omega⟩]; exact bi_t c63) | exact zqI h (by unfold r_borne; rw [zif_t ⟨c5, c12, by omega⟩]; exact bi_f c63)
      · skip
        refine e_tableOut (tgt := 72) q_X11_borne_18 (by first | exact hR _ _ | (constructor <;> omega) | assumption) (by omega) rfl ?_
        refine e_iconst q_X11_borne_72 ?_
        refine e_ireturn q_X11_borne_73 rfl rfl ?_
        exact zqI h (by unfold r_borne; exact zif_f (fun q => by have := q.2.2; omega))
    · skip
      refine e_iconst q_X11_borne_15 ?_
      refine e_ireturn q_X11_borne_16 rfl rfl ?_
      exact zqI h (by unfold r_borne; exact zif_f (fun q => by first | exact c5 q.1 | exact c12 q.2.1))
set_option maxRecDepth 20000 in
set_option maxHeartbeats 2000000 in
theorem x_leftOutOf (hI : xI s N fa sa){n : Int} (h0 : 0 ≤ n) (h1 : n < 40) (hr1 : zr (N 85 n - N 86 n)) (h : Q (some (vi (leftO N n))) (zI s N)) : zC X m_X6_leftOutOf [.ref 21, vi n] (zI s N) Q := by
  have hB := hI.B
  have hR := hI.R
  have hC := hI.C
  unfold mCnt at hC
  have hm := hI.m
  obtain ⟨e1, e5, e7, e8, e10, e11, e3, e12, eh, eg, ef, et⟩ := hI.hs
  show zE X m_X6_leftOutOf 0 [.ref 21, vi n] [] _ Q
  refine e_iconst q_X6_leftOutOf_0 ?_
  refine e_aload_n q_X6_leftOutOf_1 (by decide) rfl ?_
  refine i_getC (r := 23) q_X6_leftOutOf_2 fl_X6_15 (a21 hB) rfl (by decide) ?_
  refine e_iload_n q_X6_leftOutOf_5 (by decide) rfl ?_
  refine i_iald q_X6_leftOutOf_6 (a23 hB) (fun _ => rfl) (by first | omega | assumption) (by first | omega | assumption) (by decide) (hI.ro.2.1 n h0 h1).2 ?_
  refine e_aload_n q_X6_leftOutOf_7 (by decide) rfl ?_
  refine i_getC (r := 22) q_X6_leftOutOf_8 fl_X6_9 (a21 hB) rfl (by decide) ?_
  refine e_iload_n q_X6_leftOutOf_11 (by decide) rfl ?_
  refine i_iald q_X6_leftOutOf_12 (a22 hB) (fun _ => rfl) (by first | omega | assumption) (by first | omega | assumption) (by decide) (hI.ro.2.1 n h0 h1).1 ?_
  refine e_isub q_X6_leftOutOf_13 ?_
  refine e_max q_X6_leftOutOf_14 lk_X6_39 mm_max_s ini_J9 mm_max_c (by decide) (by decide) (Nat.le_of_ble_eq_true rfl) (by constructor <;> omega) hr1 ?_
  refine e_ireturn q_X6_leftOutOf_17 rfl rfl ?_
  by_cases hq : 0 < N 85 n - N 86 n
  · exact zqI h (by unfold leftO; rw [if_pos hq]; omega)
  · exact zqI h (by unfold leftO; rw [if_neg hq]; omega)
set_option maxRecDepth 20000 in
set_option maxHeartbeats 2000000 in
theorem x_leftOut (hI : xI s N fa sa){n : Int} (hn0 : zr n) (hr1 : ∀ n : Int, 0 ≤ n → n < 40 → zr (N 85 n - N 86 n)) (h : Q (some (vi (r_leftOut N n))) (zI s N)) : zC X m_X11_leftOut [.ref 3, vi n] (zI s N) Q := by
  have hB := hI.B
  have hR := hI.R
  have hC := hI.C
  unfold mCnt at hC
  have hm := hI.m
  obtain ⟨e1, e5, e7, e8, e10, e11, e3, e12, eh, eg, ef, et⟩ := hI.hs
  show zE X m_X11_leftOut 0 [.ref 3, vi n] [] _ Q
  refine e_iload_n q_X11_leftOut_0 (by decide) rfl ?_
  refine iv_X11_isName q_X11_leftOut_1 lk_X11_97 (by decide) (Nat.le_of_ble_eq_true rfl) ?_
  refine x_isName hn0 ?_
  refine e_ifb_ne q_X11_leftOut_4 (fun c4 => ?_) (fun c4 => ?_)
  · skip
    refine e_aload_n q_X11_leftOut_9 (by decide) rfl ?_
    refine i_getC (r := 21) q_X11_leftOut_10 fl_X11_67 (a3 hB) rfl (by decide) ?_
    refine i_getI (k' := 3) q_X11_leftOut_13 fl_X11_386 (a21 hB) rfl rfl rfl hI.ro.1 ?_
    refine e_if_eq q_X11_leftOut_16 (by first | exact hR _ _ | (constructor <;> omega) | assumption) (fun c16 => ?_) (fun c16 => ?_)
    · skip
      refine e_bipush q_X11_leftOut_30 (by decide) ?_
      refine e_ireturn q_X11_leftOut_32 rfl rfl ?_
      first | exact zqI h (by unfold r_leftOut; rw [zif_t c4]; exact if_pos (by omega)) | exact zqI h (by unfold r_leftOut; rw [zif_t c4]; exact if_neg (by omega))
    · skip
      refine e_aload_n q_X11_leftOut_19 (by decide) rfl ?_
      refine i_getC (r := 21) q_X11_leftOut_20 fl_X11_67 (a3 hB) rfl (by decide) ?_
      refine e_iload_n q_X11_leftOut_23 (by decide) rfl ?_
      refine iv_X6_leftOutOf q_X11_leftOut_24 lk_X11_389 (by decide) (a21 hB) (Nat.le_of_ble_eq_true rfl) ?_
      refine x_leftOutOf hI (by omega) (by omega) (hr1 n (by omega) (by omega)) ?_
      refine e_goto q_X11_leftOut_27 ?_
      refine e_ireturn q_X11_leftOut_32 rfl rfl ?_
      first | exact zqI h (by unfold r_leftOut; rw [zif_t c4]; exact if_pos (by omega)) | exact zqI h (by unfold r_leftOut; rw [zif_t c4]; exact if_neg (by omega))
  · skip
    refine e_iconst q_X11_leftOut_7 ?_
    refine e_ireturn q_X11_leftOut_8 rfl rfl ?_
    exact zqI h (by unfold r_leftOut; exact zif_f c4)
set_option maxRecDepth 20000 in
set_option maxHeartbeats 2000000 in
theorem x_sure (hI : xI s N fa sa){w : Int} (hw : zr w)(hr1 : ∀ n : Int, 0 ≤ n → n < 40 → zr (N 85 n - N 86 n)) (h : Q (some (vi (r_sure N w))) (zI s N)) : zC X m_X11_sure [.ref 3, vi w] (zI s N) Q := by
  have hB := hI.B
  have hR := hI.R
  have hC := hI.C
  unfold mCnt at hC
  have hm := hI.m
  obtain ⟨e1, e5, e7, e8, e10, e11, e3, e12, eh, eg, ef, et⟩ := hI.hs
  show zE X m_X11_sure 0 [.ref 3, vi w, zU] [] _ Q
  refine e_aload_n q_X11_sure_0 (by decide) rfl ?_
  refine e_iload_n q_X11_sure_1 (by decide) rfl ?_
  refine iv_X11_personAt q_X11_sure_2 lk_X11_113 (by decide) (a3 hB) (Nat.le_of_ble_eq_true rfl) ?_
  refine x_personAt hI hw (fun hw1 => ?_) (fun a hw1 hp => ?_)
  · skip
    refine e_astore_nN (ls' := [_, _, _]) q_X11_sure_5 (by decide) rfl rfl ?_
    refine e_aload_nN q_X11_sure_6 (by decide) rfl ?_
    refine e_ifnonnullN q_X11_sure_7 ?_
    refine e_iconst q_X11_sure_10 ?_
    refine e_ireturn q_X11_sure_11 rfl rfl ?_
    exact zqI h (by unfold r_sure; exact zif_f hw1)
  · skip
    obtain ⟨p88, pA, p5, p0, p1, p2, p3, p4, p5f, p6, p7, p8, p9⟩ := id hp
    refine e_astore_n (ls' := [_, _, _]) q_X11_sure_5 (by decide) rfl rfl ?_
    refine e_aload_n q_X11_sure_6 (by decide) rfl ?_
    refine e_ifnonnull q_X11_sure_7 ?_
    have hpp := hm.2.2.1 w hw1.1 hw1.2
    refine e_aload_n q_X11_sure_12 (by decide) rfl ?_
    refine i_getC (r := 21) q_X11_sure_13 fl_X11_67 (a3 hB) rfl (by decide) ?_
    refine i_getI (k' := 3) q_X11_sure_16 fl_X11_386 (a21 hB) rfl rfl rfl hI.ro.1 ?_
    refine e_if_eq q_X11_sure_19 (by first | exact hR _ _ | (constructor <;> omega) | assumption) (fun c19 => ?_) (fun c19 => ?_)
    · skip
      refine e_bipush q_X11_sure_34 (by decide) ?_
      refine e_ireturn q_X11_sure_36 rfl rfl ?_
      first | exact zqI h (by unfold r_sure; rw [zif_t hw1]; exact if_pos (by omega))
    · skip
      refine e_aload_n q_X11_sure_22 (by decide) rfl ?_
      refine i_getC (r := 21) q_X11_sure_23 fl_X11_67 (a3 hB) rfl (by decide) ?_
      refine i_getC (r := 24) q_X11_sure_26 fl_X11_392 (a21 hB) rfl (by decide) ?_
      refine e_iload_n q_X11_sure_29 (by decide) rfl ?_
      refine i_zald q_X11_sure_30 (a24 hB) (fun _ => rfl) (by first | omega | assumption) (by first | omega | assumption) (by decide) (hI.ro.2.2 w (by omega) (by omega)) ?_
      refine e_if_ne q_X11_sure_31 (by first | exact hR _ _ | (constructor <;> omega) | assumption) (fun c31 => ?_) (fun c31 => ?_)
      · skip
        refine e_aload_n q_X11_sure_37 (by decide) rfl ?_
        refine i_getC (r := 21) q_X11_sure_38 fl_X11_67 (a3 hB) rfl (by decide) ?_
        refine i_getC (r := 22) q_X11_sure_41 fl_X11_396 (a21 hB) rfl (by decide) ?_
        refine e_aload_n q_X11_sure_44 (by decide) rfl ?_
        refine i_getI (k' := 2) q_X11_sure_45 fl_X11_120 pA (cref0 (by omega) _) rfl rfl p2 ?_
        refine i_iald q_X11_sure_48 (a22 hB) (fun _ => rfl) (by first | omega | assumption) (by first | omega | assumption) (by decide) (hI.ro.2.1 (N 43 w) (by omega) (by omega)).1 ?_
        refine e_if_ne q_X11_sure_49 (by first | exact hR _ _ | (constructor <;> omega) | assumption) (fun c49 => ?_) (fun c49 => ?_)
        · skip
          refine e_aload_n q_X11_sure_54 (by decide) rfl ?_
          refine i_getC (r := 21) q_X11_sure_55 fl_X11_67 (a3 hB) rfl (by decide) ?_
          refine e_aload_n q_X11_sure_58 (by decide) rfl ?_
          refine i_getI (k' := 2) q_X11_sure_59 fl_X11_120 pA (cref0 (by omega) _) rfl rfl p2 ?_
          refine iv_X6_leftOutOf q_X11_sure_62 lk_X11_389 (by decide) (a21 hB) (Nat.le_of_ble_eq_true rfl) ?_
          refine x_leftOutOf hI (by omega) (by omega) (hr1 _ (by omega) (by omega)) ?_
          have hlo : leftO N (N 43 w) = if 0 < N 85 (N 43 w) - N 86 (N 43 w) then N 85 (N 43 w) - N 86 (N 43 w) else 0 := rfl
          have hrr := hr1 (N 43 w) (by omega) (by omega)
          refine e_if_ne q_X11_sure_65 (by rw [hlo]; split <;> constructor <;> omega) (fun c65 => ?_) (fun c65 => ?_)
          · skip
            refine e_bipush q_X11_sure_72 (by decide) ?_
            refine e_ireturn q_X11_sure_74 rfl rfl ?_
            rw [hlo] at c65
            by_cases hq : 0 < N 85 (N 43 w) - N 86 (N 43 w)
            · rw [if_pos hq] at c65
              first | (exfalso; omega) | exact zqI h (by unfold r_sure; rw [zif_t hw1, if_neg (by omega), if_neg (by omega), if_neg (by omega)])
            · rw [if_neg hq] at c65
              first | (exfalso; omega) | exact zqI h (by unfold r_sure; rw [zif_t hw1, if_neg (by omega), if_neg (by omega), if_pos (by omega)])
          · skip
            refine e_iconst q_X11_sure_68 ?_
            refine e_goto q_X11_sure_69 ?_
            refine e_ireturn q_X11_sure_74 rfl rfl ?_
            rw [hlo] at c65
            by_cases hq : 0 < N 85 (N 43 w) - N 86 (N 43 w)
            · rw [if_pos hq] at c65
              first | (exfalso; omega) | exact zqI h (by unfold r_sure; rw [zif_t hw1, if_neg (by omega), if_neg (by omega), if_neg (by omega)])
            · rw [if_neg hq] at c65
              first | (exfalso; omega) | exact zqI h (by unfold r_sure; rw [zif_t hw1, if_neg (by omega), if_neg (by omega), if_pos (by omega)])
        · skip
          refine e_iconst q_X11_sure_52 ?_
          refine e_ireturn q_X11_sure_53 rfl rfl ?_
          first | exact zqI h (by unfold r_sure; rw [zif_t hw1]; rw [if_neg (by omega), if_pos (by omega)])
      · skip
        refine e_bipush q_X11_sure_34 (by decide) ?_
        refine e_ireturn q_X11_sure_36 rfl rfl ?_
        first | exact zqI h (by unfold r_sure; rw [zif_t hw1]; exact if_pos (by omega))
end XS4
