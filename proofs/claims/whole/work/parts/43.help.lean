/-! THE SYSTEM'S METHODS, 3 (printed by wip/whole/gen/x3.py) -/
section XS3
variable {X : zX} {s : zK} {N : zN} {fa sa : Int → Int} {σ : zS} {Q : Option Value → zS → Prop}
set_option maxRecDepth 20000 in
set_option maxHeartbeats 2000000 in
theorem x_isDay {d : Int} (hd : zr d) (h : Q (some (vi (bi (0 ≤ d ∧ d ≤ 9999)))) σ) : zC X m_X11_isDay [vi d] σ Q := by
  show zE X m_X11_isDay 0 [vi d] [] _ Q
  refine e_iload_n q_X11_isDay_0 (by decide) rfl ?_
  refine e_if_lt q_X11_isDay_1 (by first | assumption | (constructor <;> omega)) (fun c1 => ?_) (fun c1 => ?_)
  · skip
    refine e_iconst q_X11_isDay_15 ?_
    refine e_ireturn q_X11_isDay_16 rfl rfl ?_
    first | exact zqT h (by omega) | exact zqF h (by omega)
  · skip
    refine e_iload_n q_X11_isDay_4 (by decide) rfl ?_
    refine e_sipush q_X11_isDay_5 (by decide) ?_
    refine e_icmp_gt q_X11_isDay_8 (by first | assumption | (constructor <;> omega)) (by first | assumption | (constructor <;> omega)) (fun c8 => ?_) (fun c8 => ?_)
    · skip
      refine e_iconst q_X11_isDay_15 ?_
      refine e_ireturn q_X11_isDay_16 rfl rfl ?_
      first | exact zqT h (by omega) | exact zqF h (by omega)
    · skip
      refine e_iconst q_X11_isDay_11 ?_
      refine e_goto q_X11_isDay_12 ?_
      refine e_ireturn q_X11_isDay_16 rfl rfl ?_
      first | exact zqT h (by omega) | exact zqF h (by omega)
set_option maxRecDepth 20000 in
set_option maxHeartbeats 2000000 in
theorem x_isLane {d : Int} (hd : zr d) (h : Q (some (vi (bi (0 ≤ d ∧ d ≤ 99)))) σ) : zC X m_X11_isLane [vi d] σ Q := by
  show zE X m_X11_isLane 0 [vi d] [] _ Q
  refine e_iload_n q_X11_isLane_0 (by decide) rfl ?_
  refine e_if_lt q_X11_isLane_1 (by first | assumption | (constructor <;> omega)) (fun c1 => ?_) (fun c1 => ?_)
  · skip
    refine e_iconst q_X11_isLane_14 ?_
    refine e_ireturn q_X11_isLane_15 rfl rfl ?_
    first | exact zqT h (by omega) | exact zqF h (by omega)
  · skip
    refine e_iload_n q_X11_isLane_4 (by decide) rfl ?_
    refine e_bipush q_X11_isLane_5 (by decide) ?_
    refine e_icmp_gt q_X11_isLane_7 (by first | assumption | (constructor <;> omega)) (by first | assumption | (constructor <;> omega)) (fun c7 => ?_) (fun c7 => ?_)
    · skip
      refine e_iconst q_X11_isLane_14 ?_
      refine e_ireturn q_X11_isLane_15 rfl rfl ?_
      first | exact zqT h (by omega) | exact zqF h (by omega)
    · skip
      refine e_iconst q_X11_isLane_10 ?_
      refine e_goto q_X11_isLane_11 ?_
      refine e_ireturn q_X11_isLane_15 rfl rfl ?_
      first | exact zqT h (by omega) | exact zqF h (by omega)
set_option maxRecDepth 20000 in
set_option maxHeartbeats 2000000 in
theorem x_isName {d : Int} (hd : zr d) (h : Q (some (vi (bi (0 ≤ d ∧ d ≤ 39)))) σ) : zC X m_X11_isName [vi d] σ Q := by
  show zE X m_X11_isName 0 [vi d] [] _ Q
  refine e_iload_n q_X11_isName_0 (by decide) rfl ?_
  refine e_if_lt q_X11_isName_1 (by first | assumption | (constructor <;> omega)) (fun c1 => ?_) (fun c1 => ?_)
  · skip
    refine e_iconst q_X11_isName_14 ?_
    refine e_ireturn q_X11_isName_15 rfl rfl ?_
    first | exact zqT h (by omega) | exact zqF h (by omega)
  · skip
    refine e_iload_n q_X11_isName_4 (by decide) rfl ?_
    refine e_bipush q_X11_isName_5 (by decide) ?_
    refine e_icmp_ge q_X11_isName_7 (by first | assumption | (constructor <;> omega)) (by first | assumption | (constructor <;> omega)) (fun c7 => ?_) (fun c7 => ?_)
    · skip
      refine e_iconst q_X11_isName_14 ?_
      refine e_ireturn q_X11_isName_15 rfl rfl ?_
      first | exact zqT h (by omega) | exact zqF h (by omega)
    · skip
      refine e_iconst q_X11_isName_10 ?_
      refine e_goto q_X11_isName_11 ?_
      refine e_ireturn q_X11_isName_15 rfl rfl ?_
      first | exact zqT h (by omega) | exact zqF h (by omega)
set_option maxRecDepth 20000 in
set_option maxHeartbeats 2000000 in
theorem x_isSheet {d : Int} (hd : zr d) (h : Q (some (vi (bi (0 ≤ d ∧ d ≤ 3)))) σ) : zC X m_X11_isSheet [vi d] σ Q := by
  show zE X m_X11_isSheet 0 [vi d] [] _ Q
  refine e_iload_n q_X11_isSheet_0 (by decide) rfl ?_
  refine e_if_lt q_X11_isSheet_1 (by first | assumption | (constructor <;> omega)) (fun c1 => ?_) (fun c1 => ?_)
  · skip
    refine e_iconst q_X11_isSheet_13 ?_
    refine e_ireturn q_X11_isSheet_14 rfl rfl ?_
    first | exact zqT h (by omega) | exact zqF h (by omega)
  · skip
    refine e_iload_n q_X11_isSheet_4 (by decide) rfl ?_
    refine e_iconst q_X11_isSheet_5 ?_
    refine e_icmp_ge q_X11_isSheet_6 (by first | assumption | (constructor <;> omega)) (by first | assumption | (constructor <;> omega)) (fun c6 => ?_) (fun c6 => ?_)
    · skip
      refine e_iconst q_X11_isSheet_13 ?_
      refine e_ireturn q_X11_isSheet_14 rfl rfl ?_
      first | exact zqT h (by omega) | exact zqF h (by omega)
    · skip
      refine e_iconst q_X11_isSheet_9 ?_
      refine e_goto q_X11_isSheet_10 ?_
      refine e_ireturn q_X11_isSheet_14 rfl rfl ?_
      first | exact zqT h (by omega) | exact zqF h (by omega)
set_option maxRecDepth 20000 in
set_option maxHeartbeats 2000000 in
theorem x_isSheetLane {d : Int} (hd : zr d) (h : Q (some (vi (bi (0 ≤ d ∧ d ≤ 2)))) σ) : zC X m_X11_isSheetLane [vi d] σ Q := by
  show zE X m_X11_isSheetLane 0 [vi d] [] _ Q
  refine e_iload_n q_X11_isSheetLane_0 (by decide) rfl ?_
  refine e_if_lt q_X11_isSheetLane_1 (by first | assumption | (constructor <;> omega)) (fun c1 => ?_) (fun c1 => ?_)
  · skip
    refine e_iconst q_X11_isSheetLane_13 ?_
    refine e_ireturn q_X11_isSheetLane_14 rfl rfl ?_
    first | exact zqT h (by omega) | exact zqF h (by omega)
  · skip
    refine e_iload_n q_X11_isSheetLane_4 (by decide) rfl ?_
    refine e_iconst q_X11_isSheetLane_5 ?_
    refine e_icmp_ge q_X11_isSheetLane_6 (by first | assumption | (constructor <;> omega)) (by first | assumption | (constructor <;> omega)) (fun c6 => ?_) (fun c6 => ?_)
    · skip
      refine e_iconst q_X11_isSheetLane_13 ?_
      refine e_ireturn q_X11_isSheetLane_14 rfl rfl ?_
      first | exact zqT h (by omega) | exact zqF h (by omega)
    · skip
      refine e_iconst q_X11_isSheetLane_9 ?_
      refine e_goto q_X11_isSheetLane_10 ?_
      refine e_ireturn q_X11_isSheetLane_14 rfl rfl ?_
      first | exact zqT h (by omega) | exact zqF h (by omega)
set_option maxRecDepth 20000 in
set_option maxHeartbeats 2000000 in
theorem x_isHouse (hI : xI s N fa sa){d : Int} (hd : zr d) (h : Q (some (vi (bi (0 ≤ d ∧ d < N 39 0)))) (zI s N)) : zC X m_X11_isHouse [.ref 3, vi d] (zI s N) Q := by
  have hB := hI.B
  have hR := hI.R
  have hC := hI.C
  unfold mCnt at hC
  have hm := hI.m
  obtain ⟨e1, e5, e7, e8, e10, e11, e3, e12, eh, eg, ef, et⟩ := hI.hs
  show zE X m_X11_isHouse 0 [.ref 3, vi d] [] _ Q
  refine e_iload_n q_X11_isHouse_0 (by decide) rfl ?_
  refine e_if_lt q_X11_isHouse_1 (by first | exact hR _ _ | (constructor <;> omega) | assumption) (fun c1 => ?_) (fun c1 => ?_)
  · skip
    refine e_iconst q_X11_isHouse_16 ?_
    refine e_ireturn q_X11_isHouse_17 rfl rfl ?_
    first | exact zqT h (by omega) | exact zqF h (by omega)
  · skip
    refine e_iload_n q_X11_isHouse_4 (by decide) rfl ?_
    refine e_aload_n q_X11_isHouse_5 (by decide) rfl ?_
    refine i_getI (k' := 1) q_X11_isHouse_6 fl_X11_94 (a3 hB) rfl rfl rfl e1 ?_
    refine e_icmp_ge q_X11_isHouse_9 (by first | exact hR _ _ | (constructor <;> omega) | assumption) (by first | exact hR _ _ | (constructor <;> omega) | assumption) (fun c9 => ?_) (fun c9 => ?_)
    · skip
      refine e_iconst q_X11_isHouse_16 ?_
      refine e_ireturn q_X11_isHouse_17 rfl rfl ?_
      first | exact zqT h (by omega) | exact zqF h (by omega)
    · skip
      refine e_iconst q_X11_isHouse_12 ?_
      refine e_goto q_X11_isHouse_13 ?_
      refine e_ireturn q_X11_isHouse_17 rfl rfl ?_
      first | exact zqT h (by omega) | exact zqF h (by omega)
set_option maxRecDepth 20000 in
set_option maxHeartbeats 2000000 in
theorem x_isGroup (hI : xI s N fa sa){d : Int} (hd : zr d) (h : Q (some (vi (bi (0 ≤ d ∧ d < N 39 29)))) (zI s N)) : zC X m_X11_isGroup [.ref 3, vi d] (zI s N) Q := by
  have hB := hI.B
  have hR := hI.R
  have hC := hI.C
  unfold mCnt at hC
  have hm := hI.m
  obtain ⟨e1, e5, e7, e8, e10, e11, e3, e12, eh, eg, ef, et⟩ := hI.hs
  show zE X m_X11_isGroup 0 [.ref 3, vi d] [] _ Q
  refine e_iload_n q_X11_isGroup_0 (by decide) rfl ?_
  refine e_if_lt q_X11_isGroup_1 (by first | exact hR _ _ | (constructor <;> omega) | assumption) (fun c1 => ?_) (fun c1 => ?_)
  · skip
    refine e_iconst q_X11_isGroup_16 ?_
    refine e_ireturn q_X11_isGroup_17 rfl rfl ?_
    first | exact zqT h (by omega) | exact zqF h (by omega)
  · skip
    refine e_iload_n q_X11_isGroup_4 (by decide) rfl ?_
    refine e_aload_n q_X11_isGroup_5 (by decide) rfl ?_
    refine i_getI (k' := 5) q_X11_isGroup_6 fl_X11_215 (a3 hB) rfl rfl rfl e5 ?_
    refine e_icmp_ge q_X11_isGroup_9 (by first | exact hR _ _ | (constructor <;> omega) | assumption) (by first | exact hR _ _ | (constructor <;> omega) | assumption) (fun c9 => ?_) (fun c9 => ?_)
    · skip
      refine e_iconst q_X11_isGroup_16 ?_
      refine e_ireturn q_X11_isGroup_17 rfl rfl ?_
      first | exact zqT h (by omega) | exact zqF h (by omega)
    · skip
      refine e_iconst q_X11_isGroup_12 ?_
      refine e_goto q_X11_isGroup_13 ?_
      refine e_ireturn q_X11_isGroup_17 rfl rfl ?_
      first | exact zqT h (by omega) | exact zqF h (by omega)
set_option maxRecDepth 20000 in
set_option maxHeartbeats 2000000 in
theorem x_personAt (hI : xI s N fa sa){w : Int} (hw : zr w) (h1 : ¬ (0 ≤ w ∧ w < N 39 2) → Q (some .null) (zI s N)) (h2 : ∀ a : Nat, 0 ≤ w ∧ w < N 39 2 → xPer s N fa sa w a → Q (some (.ref a)) (zI s N)) : zC X m_X11_personAt [.ref 3, vi w] (zI s N) Q := by
  have hB := hI.B
  have hR := hI.R
  have hC := hI.C
  unfold mCnt at hC
  have hm := hI.m
  obtain ⟨e1, e5, e7, e8, e10, e11, e3, e12, eh, eg, ef, et⟩ := hI.hs
  show zE X m_X11_personAt 0 [.ref 3, vi w] [] _ Q
  refine e_iload_n q_X11_personAt_0 (by decide) rfl ?_
  refine e_if_lt q_X11_personAt_1 (by first | exact hR _ _ | (constructor <;> omega) | assumption) (fun c1 => ?_) (fun c1 => ?_)
  · skip
    refine e_null q_X11_personAt_21 ?_
    refine e_areturn q_X11_personAt_22 rfl (Or.inl ⟨_, rfl⟩) (Or.inl rfl) ?_
    exact h1 (by omega)
  · skip
    refine e_iload_n q_X11_personAt_4 (by decide) rfl ?_
    refine e_aload_n q_X11_personAt_5 (by decide) rfl ?_
    refine i_getI (k' := 3) q_X11_personAt_6 fl_X11_107 (a3 hB) rfl rfl rfl e3 ?_
    refine e_icmp_ge q_X11_personAt_9 (by first | exact hR _ _ | (constructor <;> omega) | assumption) (by first | exact hR _ _ | (constructor <;> omega) | assumption) (fun c9 => ?_) (fun c9 => ?_)
    · skip
      refine e_null q_X11_personAt_21 ?_
      refine e_areturn q_X11_personAt_22 rfl (Or.inl ⟨_, rfl⟩) (Or.inl rfl) ?_
      exact h1 (by omega)
    · skip
      refine e_aload_n q_X11_personAt_12 (by decide) rfl ?_
      refine i_getC (r := 5) q_X11_personAt_13 fl_X11_15 (a3 hB) rfl (by decide) ?_
      refine e_iload_n q_X11_personAt_16 (by decide) rfl ?_
      obtain ⟨a, hp⟩ := hI.ps.1 (w) (by omega) (by omega)
      obtain ⟨p88, pA, p5, p0, p1, p2, p3, p4, p5f, p6, p7, p8, p9⟩ := id hp
      refine i_aald q_X11_personAt_17 (a5 hB) (by decide) (fun _ => rfl) (by omega) (by omega) (by decide) p5 (by omega) ?_
      refine e_goto q_X11_personAt_18 ?_
      refine e_areturn q_X11_personAt_22 rfl (Or.inl ⟨_, rfl⟩) (Or.inr ⟨_, rfl⟩) ?_
      exact h2 a (by omega) hp
set_option maxRecDepth 20000 in
set_option maxHeartbeats 2000000 in
theorem x_mayBeFather (hI : xI s N fa sa){f b : Int} (hf : zr f) (hb : -9999 ≤ b ∧ b ≤ 9999) (h : Q (some (vi (bi (f = -1 ∨ (0 ≤ f ∧ f < N 39 2 ∧ N 41 f ≠ 3 ∧ N 42 f ≤ b - 1200))))) (zI s N)) : zC X m_X11_mayBeFather [.ref 3, vi f, vi b] (zI s N) Q := by
  have hB := hI.B
  have hR := hI.R
  have hC := hI.C
  unfold mCnt at hC
  have hm := hI.m
  obtain ⟨e1, e5, e7, e8, e10, e11, e3, e12, eh, eg, ef, et⟩ := hI.hs
  show zE X m_X11_mayBeFather 0 [.ref 3, vi f, vi b, zU] [] _ Q
  refine e_iload_n q_X11_mayBeFather_0 (by decide) rfl ?_
  refine e_iconst q_X11_mayBeFather_1 ?_
  refine e_icmp_ne q_X11_mayBeFather_2 (by first | exact hR _ _ | (constructor <;> omega) | assumption) (by first | exact hR _ _ | (constructor <;> omega) | assumption) (fun c2 => ?_) (fun c2 => ?_)
  · skip
    refine e_aload_n q_X11_mayBeFather_7 (by decide) rfl ?_
    refine e_iload_n q_X11_mayBeFather_8 (by decide) rfl ?_
    refine iv_X11_personAt q_X11_mayBeFather_9 lk_X11_113 (by decide) (a3 hB) (Nat.le_of_ble_eq_true rfl) ?_
    refine x_personAt hI hf (fun hw1 => ?_) (fun a hw1 hp => ?_)
    · skip
      refine e_astore_nN (ls' := [_, _, _, _]) q_X11_mayBeFather_12 (by decide) rfl rfl ?_
      refine e_aload_nN q_X11_mayBeFather_13 (by decide) rfl ?_
      refine e_ifnullN q_X11_mayBeFather_14 ?_
      refine e_iconst q_X11_mayBeFather_41 ?_
      refine e_ireturn q_X11_mayBeFather_42 rfl rfl ?_
      first | exact zqT h (by omega) | exact zqF h (by omega)
    · skip
      obtain ⟨p88, pA, p5, p0, p1, p2, p3, p4, p5f, p6, p7, p8, p9⟩ := id hp
      refine e_astore_n (ls' := [_, _, _, _]) q_X11_mayBeFather_12 (by decide) rfl rfl ?_
      refine e_aload_n q_X11_mayBeFather_13 (by decide) rfl ?_
      refine e_ifnull q_X11_mayBeFather_14 ?_
      refine e_aload_n q_X11_mayBeFather_17 (by decide) rfl ?_
      refine i_getI (k' := 0) q_X11_mayBeFather_18 fl_X11_117 pA (cref0 (by omega) _) rfl rfl p0 ?_
      refine e_iconst q_X11_mayBeFather_21 ?_
      refine e_icmp_eq q_X11_mayBeFather_22 (by first | exact hR _ _ | (constructor <;> omega) | assumption) (by first | exact hR _ _ | (constructor <;> omega) | assumption) (fun c22 => ?_) (fun c22 => ?_)
      · skip
        refine e_iconst q_X11_mayBeFather_41 ?_
        refine e_ireturn q_X11_mayBeFather_42 rfl rfl ?_
        first | exact zqT h (by omega) | exact zqF h (by omega)
      · skip
        have hpp := hm.2.2.1 f hw1.1 hw1.2
        refine e_aload_n q_X11_mayBeFather_25 (by decide) rfl ?_
        refine i_getI (k' := 1) q_X11_mayBeFather_26 fl_X11_143 pA (cref0 (by omega) _) rfl rfl p1 ?_
        refine e_sipush q_X11_mayBeFather_29 (by decide) ?_
        refine e_iadd q_X11_mayBeFather_32 ?_
        refine e_iload_n q_X11_mayBeFather_33 (by decide) rfl ?_
        refine e_icmp_gt q_X11_mayBeFather_34 (by first | exact hR _ _ | (constructor <;> omega) | assumption) (by first | exact hR _ _ | (constructor <;> omega) | assumption) (fun c34 => ?_) (fun c34 => ?_)
        · skip
          refine e_iconst q_X11_mayBeFather_41 ?_
          refine e_ireturn q_X11_mayBeFather_42 rfl rfl ?_
          first | exact zqT h (by omega) | exact zqF h (by omega)
        · skip
          refine e_iconst q_X11_mayBeFather_37 ?_
          refine e_goto q_X11_mayBeFather_38 ?_
          refine e_ireturn q_X11_mayBeFather_42 rfl rfl ?_
          first | exact zqT h (by omega) | exact zqF h (by omega)
  · skip
    refine e_iconst q_X11_mayBeFather_5 ?_
    refine e_ireturn q_X11_mayBeFather_6 rfl rfl ?_
    first | exact zqT h (by omega) | exact zqF h (by omega)
theorem kinP_s {N : zN} {a b : Int} : kinP N a b ↔ (N 46 a = b ∨ N 46 b = a ∨ (0 ≤ N 46 a ∧ N 46 a = N 46 b)) := Iff.rfl
theorem cnt_f' {p : Nat → Prop} {n : Nat} (h : ¬ p n) : cnt p (n + 1) = cnt p n := by rw [cnt_f h, Int.add_zero]
set_option maxRecDepth 20000 in
set_option maxHeartbeats 2000000 in
theorem x_areKin (hI : xI s N fa sa){a0 b0 : Int} (ha0 : 0 ≤ a0) (ha1 : a0 < N 39 2) (hb0 : 0 ≤ b0) (hb1 : b0 < N 39 2) (h : Q (some (vi (bi (kinP N a0 b0)))) (zI s N)) : zC X m_X11_areKin [.ref 3, vi a0, vi b0] (zI s N) Q := by
  have hB := hI.B
  have hR := hI.R
  have hC := hI.C
  unfold mCnt at hC
  have hm := hI.m
  obtain ⟨e1, e5, e7, e8, e10, e11, e3, e12, eh, eg, ef, et⟩ := hI.hs
  show zE X m_X11_areKin 0 [.ref 3, vi a0, vi b0, zU, zU] [] _ Q
  refine e_aload_n q_X11_areKin_0 (by decide) rfl ?_
  refine i_getC (r := 5) q_X11_areKin_1 fl_X11_15 (a3 hB) rfl (by decide) ?_
  refine e_iload_n q_X11_areKin_4 (by decide) rfl ?_
  obtain ⟨a, hp⟩ := hI.ps.1 (a0) (by omega) (by omega)
  obtain ⟨p88, pA, p5, p0, p1, p2, p3, p4, p5f, p6, p7, p8, p9⟩ := id hp
  refine i_aald q_X11_areKin_5 (a5 hB) (by decide) (fun _ => rfl) (by omega) (by omega) (by decide) p5 (by omega) ?_
  refine i_getI (k' := 5) q_X11_areKin_6 fl_X11_130 pA (cref0 (by omega) _) rfl rfl p5f ?_
  refine e_istore_n (ls' := [_, _, _, _, _]) q_X11_areKin_9 (by decide) rfl rfl ?_
  refine e_aload_n q_X11_areKin_10 (by decide) rfl ?_
  refine i_getC (r := 5) q_X11_areKin_11 fl_X11_15 (a3 hB) rfl (by decide) ?_
  refine e_iload_n q_X11_areKin_14 (by decide) rfl ?_
  obtain ⟨ax, hpx⟩ := hI.ps.1 (b0) (by omega) (by omega)
  obtain ⟨p88x, pAx, p5x, p0x, p1x, p2x, p3x, p4x, p5fx, p6x, p7x, p8x, p9x⟩ := id hpx
  refine i_aald q_X11_areKin_15 (a5 hB) (by decide) (fun _ => rfl) (by omega) (by omega) (by decide) p5x (by omega) ?_
  refine i_getI (k' := 5) q_X11_areKin_16 fl_X11_130 pAx (cref0 (by omega) _) rfl rfl p5fx ?_
  refine e_istore (ls' := [_, _, _, _, _]) q_X11_areKin_19 (by decide) rfl rfl ?_
  refine e_iload_n q_X11_areKin_21 (by decide) rfl ?_
  refine e_iload_n q_X11_areKin_22 (by decide) rfl ?_
  refine e_icmp_eq q_X11_areKin_23 (by first | exact hR _ _ | (constructor <;> omega) | assumption) (by first | exact hR _ _ | (constructor <;> omega) | assumption) (fun c23 => ?_) (fun c23 => ?_)
  · skip
    refine e_iconst q_X11_areKin_42 ?_
    refine e_goto q_X11_areKin_43 ?_
    refine e_ireturn q_X11_areKin_47 rfl rfl ?_
    rw [show (kinP N a0 b0) = (N 46 a0 = b0 ∨ N 46 b0 = a0 ∨ (0 ≤ N 46 a0 ∧ N 46 a0 = N 46 b0)) from rfl] at h
    first | exact zqT h (by omega) | exact zqF h (by omega)
  · skip
    refine e_iload q_X11_areKin_26 (by decide) rfl ?_
    refine e_iload_n q_X11_areKin_28 (by decide) rfl ?_
    refine e_icmp_eq q_X11_areKin_29 (by first | exact hR _ _ | (constructor <;> omega) | assumption) (by first | exact hR _ _ | (constructor <;> omega) | assumption) (fun c29 => ?_) (fun c29 => ?_)
    · skip
      refine e_iconst q_X11_areKin_42 ?_
      refine e_goto q_X11_areKin_43 ?_
      refine e_ireturn q_X11_areKin_47 rfl rfl ?_
      rw [show (kinP N a0 b0) = (N 46 a0 = b0 ∨ N 46 b0 = a0 ∨ (0 ≤ N 46 a0 ∧ N 46 a0 = N 46 b0)) from rfl] at h
      first | exact zqT h (by omega) | exact zqF h (by omega)
    · skip
      refine e_iload_n q_X11_areKin_32 (by decide) rfl ?_
      refine e_if_lt q_X11_areKin_33 (by first | exact hR _ _ | (constructor <;> omega) | assumption) (fun c33 => ?_) (fun c33 => ?_)
      · skip
        refine e_iconst q_X11_areKin_46 ?_
        refine e_ireturn q_X11_areKin_47 rfl rfl ?_
        rw [show (kinP N a0 b0) = (N 46 a0 = b0 ∨ N 46 b0 = a0 ∨ (0 ≤ N 46 a0 ∧ N 46 a0 = N 46 b0)) from rfl] at h
        first | exact zqT h (by omega) | exact zqF h (by omega)
      · skip
        refine e_iload_n q_X11_areKin_36 (by decide) rfl ?_
        refine e_iload q_X11_areKin_37 (by decide) rfl ?_
        refine e_icmp_ne q_X11_areKin_39 (by first | exact hR _ _ | (constructor <;> omega) | assumption) (by first | exact hR _ _ | (constructor <;> omega) | assumption) (fun c39 => ?_) (fun c39 => ?_)
        · skip
          refine e_iconst q_X11_areKin_46 ?_
          refine e_ireturn q_X11_areKin_47 rfl rfl ?_
          rw [show (kinP N a0 b0) = (N 46 a0 = b0 ∨ N 46 b0 = a0 ∨ (0 ≤ N 46 a0 ∧ N 46 a0 = N 46 b0)) from rfl] at h
          first | exact zqT h (by omega) | exact zqF h (by omega)
        · skip
          refine e_iconst q_X11_areKin_42 ?_
          refine e_goto q_X11_areKin_43 ?_
          refine e_ireturn q_X11_areKin_47 rfl rfl ?_
          rw [show (kinP N a0 b0) = (N 46 a0 = b0 ∨ N 46 b0 = a0 ∨ (0 ≤ N 46 a0 ∧ N 46 a0 = N 46 b0)) from rfl] at h
          first | exact zqT h (by omega) | exact zqF h (by omega)
set_option maxRecDepth 20000 in
set_option maxHeartbeats 2000000 in
theorem x_bind14 (hB : zB0 s) (hR : ∀ a j, zr (N a j)) {k g : Int} (hk : zr k) (hg : zr g) (h : Q (some (vi (bi (0 ≤ k ∧ k < 3 ∧ N 15 k ≤ g ∧ g ≤ N 16 k)))) (zI s N)) : zC X m_X3_bind [.ref 14, vi k, vi g] (zI s N) Q := by
  show zE X m_X3_bind 0 [.ref 14, vi k, vi g] [] _ Q
  refine e_iload_n q_X3_bind_0 (by decide) rfl ?_
  refine e_if_lt q_X3_bind_1 (by first | exact hR _ _ | (constructor <;> omega) | assumption) (fun c1 => ?_) (fun c1 => ?_)
  · skip
    refine e_iconst q_X3_bind_33 ?_
    refine e_ireturn q_X3_bind_34 rfl rfl ?_
    first | exact zqT h (by omega) | exact zqF h (by omega)
  · skip
    refine e_iload_n q_X3_bind_4 (by decide) rfl ?_
    refine e_iconst q_X3_bind_5 ?_
    refine e_icmp_ge q_X3_bind_6 (by first | exact hR _ _ | (constructor <;> omega) | assumption) (by first | exact hR _ _ | (constructor <;> omega) | assumption) (fun c6 => ?_) (fun c6 => ?_)
    · skip
      refine e_iconst q_X3_bind_33 ?_
      refine e_ireturn q_X3_bind_34 rfl rfl ?_
      first | exact zqT h (by omega) | exact zqF h (by omega)
    · skip
      refine e_aload_n q_X3_bind_9 (by decide) rfl ?_
      refine i_getC (r := 15) q_X3_bind_10 fl_X3_9 (a14 hB) rfl (by decide) ?_
      refine e_iload_n q_X3_bind_13 (by decide) rfl ?_
      refine i_iald q_X3_bind_14 (a15 hB) (fun _ => rfl) (by first | omega | assumption) (by first | omega | assumption) (by decide) rfl ?_
      refine e_iload_n q_X3_bind_15 (by decide) rfl ?_
      refine e_icmp_gt q_X3_bind_16 (by first | exact hR _ _ | (constructor <;> omega) | assumption) (by first | exact hR _ _ | (constructor <;> omega) | assumption) (fun c16 => ?_) (fun c16 => ?_)
      · skip
        refine e_iconst q_X3_bind_33 ?_
        refine e_ireturn q_X3_bind_34 rfl rfl ?_
        first | exact zqT h (by omega) | exact zqF h (by omega)
      · skip
        refine e_iload_n q_X3_bind_19 (by decide) rfl ?_
        refine e_aload_n q_X3_bind_20 (by decide) rfl ?_
        refine i_getC (r := 16) q_X3_bind_21 fl_X3_15 (a14 hB) rfl (by decide) ?_
        refine e_iload_n q_X3_bind_24 (by decide) rfl ?_
        refine i_iald q_X3_bind_25 (a16 hB) (fun _ => rfl) (by first | omega | assumption) (by first | omega | assumption) (by decide) rfl ?_
        refine e_icmp_gt q_X3_bind_26 (by first | exact hR _ _ | (constructor <;> omega) | assumption) (by first | exact hR _ _ | (constructor <;> omega) | assumption) (fun c26 => ?_) (fun c26 => ?_)
        · skip
          refine e_iconst q_X3_bind_33 ?_
          refine e_ireturn q_X3_bind_34 rfl rfl ?_
          first | exact zqT h (by omega) | exact zqF h (by omega)
        · skip
          refine e_iconst q_X3_bind_29 ?_
          refine e_goto q_X3_bind_30 ?_
          refine e_ireturn q_X3_bind_34 rfl rfl ?_
          first | exact zqT h (by omega) | exact zqF h (by omega)
set_option maxRecDepth 20000 in
set_option maxHeartbeats 2000000 in
theorem x_bind17 (hB : zB0 s) (hR : ∀ a j, zr (N a j)) {k g : Int} (hk : zr k) (hg : zr g) (h : Q (some (vi (bi (0 ≤ k ∧ k < 3 ∧ N 18 k ≤ g ∧ g ≤ N 19 k)))) (zI s N)) : zC X m_X3_bind [.ref 17, vi k, vi g] (zI s N) Q := by
  show zE X m_X3_bind 0 [.ref 17, vi k, vi g] [] _ Q
  refine e_iload_n q_X3_bind_0 (by decide) rfl ?_
  refine e_if_lt q_X3_bind_1 (by first | exact hR _ _ | (constructor <;> omega) | assumption) (fun c1 => ?_) (fun c1 => ?_)
  · skip
    refine e_iconst q_X3_bind_33 ?_
    refine e_ireturn q_X3_bind_34 rfl rfl ?_
    first | exact zqT h (by omega) | exact zqF h (by omega)
  · skip
    refine e_iload_n q_X3_bind_4 (by decide) rfl ?_
    refine e_iconst q_X3_bind_5 ?_
    refine e_icmp_ge q_X3_bind_6 (by first | exact hR _ _ | (constructor <;> omega) | assumption) (by first | exact hR _ _ | (constructor <;> omega) | assumption) (fun c6 => ?_) (fun c6 => ?_)
    · skip
      refine e_iconst q_X3_bind_33 ?_
      refine e_ireturn q_X3_bind_34 rfl rfl ?_
      first | exact zqT h (by omega) | exact zqF h (by omega)
    · skip
      refine e_aload_n q_X3_bind_9 (by decide) rfl ?_
      refine i_getC (r := 18) q_X3_bind_10 fl_X3_9 (a17 hB) rfl (by decide) ?_
      refine e_iload_n q_X3_bind_13 (by decide) rfl ?_
      refine i_iald q_X3_bind_14 (a18 hB) (fun _ => rfl) (by first | omega | assumption) (by first | omega | assumption) (by decide) rfl ?_
      refine e_iload_n q_X3_bind_15 (by decide) rfl ?_
      refine e_icmp_gt q_X3_bind_16 (by first | exact hR _ _ | (constructor <;> omega) | assumption) (by first | exact hR _ _ | (constructor <;> omega) | assumption) (fun c16 => ?_) (fun c16 => ?_)
      · skip
        refine e_iconst q_X3_bind_33 ?_
        refine e_ireturn q_X3_bind_34 rfl rfl ?_
        first | exact zqT h (by omega) | exact zqF h (by omega)
      · skip
        refine e_iload_n q_X3_bind_19 (by decide) rfl ?_
        refine e_aload_n q_X3_bind_20 (by decide) rfl ?_
        refine i_getC (r := 19) q_X3_bind_21 fl_X3_15 (a17 hB) rfl (by decide) ?_
        refine e_iload_n q_X3_bind_24 (by decide) rfl ?_
        refine i_iald q_X3_bind_25 (a19 hB) (fun _ => rfl) (by first | omega | assumption) (by first | omega | assumption) (by decide) rfl ?_
        refine e_icmp_gt q_X3_bind_26 (by first | exact hR _ _ | (constructor <;> omega) | assumption) (by first | exact hR _ _ | (constructor <;> omega) | assumption) (fun c26 => ?_) (fun c26 => ?_)
        · skip
          refine e_iconst q_X3_bind_33 ?_
          refine e_ireturn q_X3_bind_34 rfl rfl ?_
          first | exact zqT h (by omega) | exact zqF h (by omega)
        · skip
          refine e_iconst q_X3_bind_29 ?_
          refine e_goto q_X3_bind_30 ?_
          refine e_ireturn q_X3_bind_34 rfl rfl ?_
          first | exact zqT h (by omega) | exact zqF h (by omega)
set_option maxRecDepth 20000 in
set_option maxHeartbeats 2000000 in
theorem x_mustBeSworn (hI : xI s N fa sa) {i : Int} {a : Nat} (h0 : 0 ≤ i) (h1 : i < N 39 2) (hp : xPer s N fa sa i a) {d : Int} (hd : 0 ≤ d ∧ d ≤ 9999) (h : Q (some (vi (bi (must N i d)))) (zI s N)) : zC X m_X11_mustBeSworn [.ref 3, .ref a, vi d] (zI s N) Q := by
  have hB := hI.B
  have hR := hI.R
  have hC := hI.C
  unfold mCnt at hC
  have hm := hI.m
  obtain ⟨e1, e5, e7, e8, e10, e11, e3, e12, eh, eg, ef, et⟩ := hI.hs
  have hpp := hm.2.2.1 i h0 h1
  obtain ⟨p88, pA, p5, p0, p1, p2, p3, p4, p5f, p6, p7, p8, p9⟩ := hp
  show zE X m_X11_mustBeSworn 0 [.ref 3, .ref a, vi d] [] _ Q
  obtain ⟨hll, lk, ln⟩ := hI.law
  rcases hll with ⟨l1, l2⟩ | ⟨l1, l2⟩
  · have lk : ∀ k : Int, 0 ≤ k → k < 3 → (N 15 k = N 52 k ∧ N 16 k = N 53 k) ∨ (N 16 k = -1 ∧ N 53 k = -1) := by rw [l1] at lk; exact lk
    refine e_aload_n q_X11_mustBeSworn_0 (by decide) rfl ?_
    refine e_iload_n q_X11_mustBeSworn_1 (by decide) rfl ?_
    refine iv_X4_isThereOn q_X11_mustBeSworn_2 lk_X11_182 (by decide) pA (Nat.le_of_ble_eq_true rfl) ?_
    refine x_isThereOn hI h0 h1 ⟨p88, pA, p5, p0, p1, p2, p3, p4, p5f, p6, p7, p8, p9⟩ (by omega) ?_
    refine e_ifb_eq q_X11_mustBeSworn_5 (fun c5 => ?_) (fun c5 => ?_)
    · skip
      refine e_iconst q_X11_mustBeSworn_31 ?_
      refine e_ireturn q_X11_mustBeSworn_32 rfl rfl ?_
      exact zqF h (fun q => by obtain ⟨q1, q2, q3, q4⟩ := q; first | exact c5 q2 | (have hlk := lk (N 41 i) (by omega) (by omega); have hag := q2.1; exact c24 (by omega)))
    · skip
      refine e_aload_n q_X11_mustBeSworn_8 (by decide) rfl ?_
      refine i_getR (r := 14) (k' := 13) q_X11_mustBeSworn_9 fl_X11_51 (a3 hB) rfl rfl rfl l1 (by decide) ?_
      refine e_aload_n q_X11_mustBeSworn_12 (by decide) rfl ?_
      refine i_getI (k' := 0) q_X11_mustBeSworn_13 fl_X11_117 pA (cref0 (by omega) _) rfl rfl p0 ?_
      refine e_aload_n q_X11_mustBeSworn_16 (by decide) rfl ?_
      refine e_iload_n q_X11_mustBeSworn_17 (by decide) rfl ?_
      refine iv_X4_ageOn q_X11_mustBeSworn_18 lk_X11_146 (by decide) pA (Nat.le_of_ble_eq_true rfl) ?_
      refine x_ageOn hI h0 h1 ⟨p88, pA, p5, p0, p1, p2, p3, p4, p5f, p6, p7, p8, p9⟩ hd.2 c5.1 ?_
      refine iv_X3_bind q_X11_mustBeSworn_21 lk_X11_399 (by decide) (a14 hB) (Nat.le_of_ble_eq_true rfl) ?_
      refine x_bind14 hB hR (hR _ _) (by have := c5.1; constructor <;> omega) ?_
      refine e_ifb_eq q_X11_mustBeSworn_24 (fun c24 => ?_) (fun c24 => ?_)
      · skip
        refine e_iconst q_X11_mustBeSworn_31 ?_
        refine e_ireturn q_X11_mustBeSworn_32 rfl rfl ?_
        exact zqF h (fun q => by obtain ⟨q1, q2, q3, q4⟩ := q; first | exact c5 q2 | (have hlk := lk (N 41 i) (by omega) (by omega); have hag := q2.1; exact c24 (by omega)))
      · skip
        have hlk := lk (N 41 i) (by omega) (by omega)
        have hag := c5.1
        refine e_iconst q_X11_mustBeSworn_27 ?_
        refine e_goto q_X11_mustBeSworn_28 ?_
        refine e_ireturn q_X11_mustBeSworn_32 rfl rfl ?_
        exact zqT h ⟨by omega, c5, by omega, by omega⟩
  · have lk : ∀ k : Int, 0 ≤ k → k < 3 → (N 18 k = N 52 k ∧ N 19 k = N 53 k) ∨ (N 19 k = -1 ∧ N 53 k = -1) := by rw [l1] at lk; exact lk
    refine e_aload_n q_X11_mustBeSworn_0 (by decide) rfl ?_
    refine e_iload_n q_X11_mustBeSworn_1 (by decide) rfl ?_
    refine iv_X4_isThereOn q_X11_mustBeSworn_2 lk_X11_182 (by decide) pA (Nat.le_of_ble_eq_true rfl) ?_
    refine x_isThereOn hI h0 h1 ⟨p88, pA, p5, p0, p1, p2, p3, p4, p5f, p6, p7, p8, p9⟩ (by omega) ?_
    refine e_ifb_eq q_X11_mustBeSworn_5 (fun c5 => ?_) (fun c5 => ?_)
    · skip
      refine e_iconst q_X11_mustBeSworn_31 ?_
      refine e_ireturn q_X11_mustBeSworn_32 rfl rfl ?_
      exact zqF h (fun q => by obtain ⟨q1, q2, q3, q4⟩ := q; first | exact c5 q2 | (have hlk := lk (N 41 i) (by omega) (by omega); have hag := q2.1; exact c24 (by omega)))
    · skip
      refine e_aload_n q_X11_mustBeSworn_8 (by decide) rfl ?_
      refine i_getR (r := 17) (k' := 13) q_X11_mustBeSworn_9 fl_X11_51 (a3 hB) rfl rfl rfl l1 (by decide) ?_
      refine e_aload_n q_X11_mustBeSworn_12 (by decide) rfl ?_
      refine i_getI (k' := 0) q_X11_mustBeSworn_13 fl_X11_117 pA (cref0 (by omega) _) rfl rfl p0 ?_
      refine e_aload_n q_X11_mustBeSworn_16 (by decide) rfl ?_
      refine e_iload_n q_X11_mustBeSworn_17 (by decide) rfl ?_
      refine iv_X4_ageOn q_X11_mustBeSworn_18 lk_X11_146 (by decide) pA (Nat.le_of_ble_eq_true rfl) ?_
      refine x_ageOn hI h0 h1 ⟨p88, pA, p5, p0, p1, p2, p3, p4, p5f, p6, p7, p8, p9⟩ hd.2 c5.1 ?_
      refine iv_X3_bind q_X11_mustBeSworn_21 lk_X11_399 (by decide) (a17 hB) (Nat.le_of_ble_eq_true rfl) ?_
      refine x_bind17 hB hR (hR _ _) (by have := c5.1; constructor <;> omega) ?_
      refine e_ifb_eq q_X11_mustBeSworn_24 (fun c24 => ?_) (fun c24 => ?_)
      · skip
        refine e_iconst q_X11_mustBeSworn_31 ?_
        refine e_ireturn q_X11_mustBeSworn_32 rfl rfl ?_
        exact zqF h (fun q => by obtain ⟨q1, q2, q3, q4⟩ := q; first | exact c5 q2 | (have hlk := lk (N 41 i) (by omega) (by omega); have hag := q2.1; exact c24 (by omega)))
      · skip
        have hlk := lk (N 41 i) (by omega) (by omega)
        have hag := c5.1
        refine e_iconst q_X11_mustBeSworn_27 ?_
        refine e_goto q_X11_mustBeSworn_28 ?_
        refine e_ireturn q_X11_mustBeSworn_32 rfl rfl ?_
        exact zqT h ⟨by omega, c5, by omega, by omega⟩
set_option maxRecDepth 20000 in
set_option maxHeartbeats 2000000 in
theorem x_isUnsworn (hI : xI s N fa sa) {i : Int} {a : Nat} (h0 : 0 ≤ i) (h1 : i < N 39 2) (hp : xPer s N fa sa i a){d : Int} (hd : 0 ≤ d ∧ d ≤ 9999) (h : Q (some (vi (bi (want N i d 0)))) (zI s N)) : zC X m_X11_isUnsworn [.ref 3, .ref a, vi d] (zI s N) Q := by
  have hB := hI.B
  have hR := hI.R
  have hC := hI.C
  unfold mCnt at hC
  have hm := hI.m
  obtain ⟨e1, e5, e7, e8, e10, e11, e3, e12, eh, eg, ef, et⟩ := hI.hs
  obtain ⟨p88, pA, p5, p0, p1, p2, p3, p4, p5f, p6, p7, p8, p9⟩ := id hp
  have hgr := gOn_r hm i d
  show zE X m_X11_isUnsworn 0 [.ref 3, .ref a, vi d] [] _ Q
  refine e_aload_n q_X11_isUnsworn_0 (by decide) rfl ?_
  refine e_aload_n q_X11_isUnsworn_1 (by decide) rfl ?_
  refine e_iload_n q_X11_isUnsworn_2 (by decide) rfl ?_
  refine iv_X11_mustBeSworn rfl q_X11_isUnsworn_3 lk_X11_205 (by decide) (a3 hB) (Nat.le_of_ble_eq_true rfl) ?_
  refine x_mustBeSworn hI h0 h1 hp hd ?_
  refine e_ifb_eq q_X11_isUnsworn_6 (fun c6 => ?_) (fun c6 => ?_)
  · skip
    refine e_iconst q_X11_isUnsworn_23 ?_
    refine e_ireturn q_X11_isUnsworn_24 rfl rfl ?_
    first | exact zqT h (Or.inl ⟨rfl, c6, by omega⟩) | exact zqF h (fun q => by rcases q with ⟨q1, q2, q3⟩ | ⟨q1, q2, q3⟩ <;> first | omega | exact c6 q2)
  · skip
    refine e_aload_n q_X11_isUnsworn_9 (by decide) rfl ?_
    refine e_iload_n q_X11_isUnsworn_10 (by decide) rfl ?_
    refine iv_X4_groupOn q_X11_isUnsworn_11 lk_X11_245 (by decide) pA (Nat.le_of_ble_eq_true rfl) ?_
    refine x_groupOn hI h0 h1 hp (by omega) ?_
    refine e_bipush q_X11_isUnsworn_14 (by decide) ?_
    refine e_icmp_ne q_X11_isUnsworn_16 (by first | exact hR _ _ | (constructor <;> omega) | assumption) (by first | exact hR _ _ | (constructor <;> omega) | assumption) (fun c16 => ?_) (fun c16 => ?_)
    · skip
      refine e_iconst q_X11_isUnsworn_23 ?_
      refine e_ireturn q_X11_isUnsworn_24 rfl rfl ?_
      first | exact zqT h (Or.inl ⟨rfl, c6, by omega⟩) | exact zqF h (fun q => by rcases q with ⟨q1, q2, q3⟩ | ⟨q1, q2, q3⟩ <;> first | omega | exact c6 q2)
    · skip
      refine e_iconst q_X11_isUnsworn_19 ?_
      refine e_goto q_X11_isUnsworn_20 ?_
      refine e_ireturn q_X11_isUnsworn_24 rfl rfl ?_
      first | exact zqT h (Or.inl ⟨rfl, c6, by omega⟩) | exact zqF h (fun q => by rcases q with ⟨q1, q2, q3⟩ | ⟨q1, q2, q3⟩ <;> first | omega | exact c6 q2)
set_option maxRecDepth 20000 in
set_option maxHeartbeats 2000000 in
theorem x_isIdle (hI : xI s N fa sa) {i : Int} {a : Nat} (h0 : 0 ≤ i) (h1 : i < N 39 2) (hp : xPer s N fa sa i a){d : Int} (hd : 0 ≤ d ∧ d ≤ 9999) (h : Q (some (vi (bi (want N i d 1)))) (zI s N)) : zC X m_X11_isIdle [.ref 3, .ref a, vi d] (zI s N) Q := by
  have hB := hI.B
  have hR := hI.R
  have hC := hI.C
  unfold mCnt at hC
  have hm := hI.m
  obtain ⟨e1, e5, e7, e8, e10, e11, e3, e12, eh, eg, ef, et⟩ := hI.hs
  obtain ⟨p88, pA, p5, p0, p1, p2, p3, p4, p5f, p6, p7, p8, p9⟩ := id hp
  have hgr := gOn_r hm i d
  show zE X m_X11_isIdle 0 [.ref 3, .ref a, vi d] [] _ Q
  refine e_aload_n q_X11_isIdle_0 (by decide) rfl ?_
  refine e_iload_n q_X11_isIdle_1 (by decide) rfl ?_
  refine iv_X4_groupOn q_X11_isIdle_2 lk_X11_245 (by decide) pA (Nat.le_of_ble_eq_true rfl) ?_
  refine x_groupOn hI h0 h1 hp (by omega) ?_
  refine e_bipush q_X11_isIdle_5 (by decide) ?_
  refine e_icmp_eq q_X11_isIdle_7 (by first | exact hR _ _ | (constructor <;> omega) | assumption) (by first | exact hR _ _ | (constructor <;> omega) | assumption) (fun c7 => ?_) (fun c7 => ?_)
  · skip
    refine e_iconst q_X11_isIdle_23 ?_
    refine e_ireturn q_X11_isIdle_24 rfl rfl ?_
    first | exact zqT h (Or.inr ⟨by omega, by omega, c16⟩) | exact zqF h (fun q => by rcases q with ⟨q1, q2, q3⟩ | ⟨q1, q2, q3⟩ <;> first | omega | exact q3 c16)
  · skip
    refine e_aload_n q_X11_isIdle_10 (by decide) rfl ?_
    refine e_aload_n q_X11_isIdle_11 (by decide) rfl ?_
    refine e_iload_n q_X11_isIdle_12 (by decide) rfl ?_
    refine iv_X11_mustBeSworn rfl q_X11_isIdle_13 lk_X11_205 (by decide) (a3 hB) (Nat.le_of_ble_eq_true rfl) ?_
    refine x_mustBeSworn hI h0 h1 hp hd ?_
    refine e_ifb_ne q_X11_isIdle_16 (fun c16 => ?_) (fun c16 => ?_)
    · skip
      refine e_iconst q_X11_isIdle_23 ?_
      refine e_ireturn q_X11_isIdle_24 rfl rfl ?_
      first | exact zqT h (Or.inr ⟨by omega, by omega, c16⟩) | exact zqF h (fun q => by rcases q with ⟨q1, q2, q3⟩ | ⟨q1, q2, q3⟩ <;> first | omega | exact q3 c16)
    · skip
      refine e_iconst q_X11_isIdle_19 ?_
      refine e_goto q_X11_isIdle_20 ?_
      refine e_ireturn q_X11_isIdle_24 rfl rfl ?_
      first | exact zqT h (Or.inr ⟨by omega, by omega, c16⟩) | exact zqF h (fun q => by rcases q with ⟨q1, q2, q3⟩ | ⟨q1, q2, q3⟩ <;> first | omega | exact q3 c16)
set_option maxRecDepth 20000 in
set_option maxHeartbeats 2000000 in
theorem x_isWanting (hI : xI s N fa sa) {i : Int} {a : Nat} (h0 : 0 ≤ i) (h1 : i < N 39 2) (hp : xPer s N fa sa i a){d : Int} (hd : 0 ≤ d ∧ d ≤ 9999) {k : Int} (hk : k = 0 ∨ k = 1) (h : Q (some (vi (bi (want N i d k)))) (zI s N)) : zC X m_X11_isWanting [.ref 3, .ref a, vi d, vi k] (zI s N) Q := by
  have hB := hI.B
  have hR := hI.R
  have hC := hI.C
  unfold mCnt at hC
  have hm := hI.m
  obtain ⟨e1, e5, e7, e8, e10, e11, e3, e12, eh, eg, ef, et⟩ := hI.hs
  obtain ⟨p88, pA, p5, p0, p1, p2, p3, p4, p5f, p6, p7, p8, p9⟩ := id hp
  have hgr := gOn_r hm i d
  show zE X m_X11_isWanting 0 [.ref 3, .ref a, vi d, vi k] [] _ Q
  refine e_iload_n q_X11_isWanting_0 (by decide) rfl ?_
  refine e_if_ne q_X11_isWanting_1 (by first | exact hR _ _ | (constructor <;> omega) | assumption) (fun c1 => ?_) (fun c1 => ?_)
  · skip
    refine e_aload_n q_X11_isWanting_13 (by decide) rfl ?_
    refine e_aload_n q_X11_isWanting_14 (by decide) rfl ?_
    refine e_iload_n q_X11_isWanting_15 (by decide) rfl ?_
    refine iv_X11_isIdle rfl q_X11_isWanting_16 lk_X11_405 (by decide) (a3 hB) (Nat.le_of_ble_eq_true rfl) ?_
    refine x_isIdle hI h0 h1 hp hd ?_
    refine e_ireturn q_X11_isWanting_19 rfl (bi_n _) ?_
    rcases hk with rfl | rfl
    · first | exact h | (exfalso; omega)
    · first | exact h | (exfalso; omega)
  · skip
    refine e_aload_n q_X11_isWanting_4 (by decide) rfl ?_
    refine e_aload_n q_X11_isWanting_5 (by decide) rfl ?_
    refine e_iload_n q_X11_isWanting_6 (by decide) rfl ?_
    refine iv_X11_isUnsworn rfl q_X11_isWanting_7 lk_X11_402 (by decide) (a3 hB) (Nat.le_of_ble_eq_true rfl) ?_
    refine x_isUnsworn hI h0 h1 hp hd ?_
    refine e_goto q_X11_isWanting_10 ?_
    refine e_ireturn q_X11_isWanting_19 rfl (bi_n _) ?_
    rcases hk with rfl | rfl
    · first | exact h | (exfalso; omega)
    · first | exact h | (exfalso; omega)
set_option maxRecDepth 20000 in
set_option maxHeartbeats 2000000 in
theorem x_membersOf (hI : xI s N fa sa){g : Int} (hg : 0 ≤ g ∧ g < 8) {d : Int} (hd : 0 ≤ d ∧ d ≤ 9999) (h : Q (some (vi (mems N g d))) (zI s N)) : zC X m_X11_membersOf [.ref 3, vi g, vi d] (zI s N) Q := by
  have hB := hI.B
  have hR := hI.R
  have hC := hI.C
  unfold mCnt at hC
  have hm := hI.m
  obtain ⟨e1, e5, e7, e8, e10, e11, e3, e12, eh, eg, ef, et⟩ := hI.hs
  show zE X m_X11_membersOf 0 [.ref 3, vi g, vi d, zU, zU] [] _ Q
  refine e_iconst q_X11_membersOf_0 ?_
  refine e_istore_n (ls' := [_, _, _, _, _]) q_X11_membersOf_1 (by decide) rfl rfl ?_
  refine e_iconst q_X11_membersOf_2 ?_
  refine e_istore (ls' := [_, _, _, _, _]) q_X11_membersOf_3 (by decide) rfl rfl ?_
  refine zEe (ls := [.ref 3, vi g, vi d, vi (cnt (fun i : Nat => memb N i g d) 0), vi ((0 : Nat) : Int)]) (σ := (zI s N)) ?_ rfl rfl
  refine z_for (P := fun i => zE X m_X11_membersOf 5 [.ref 3, vi g, vi d, vi (cnt (fun i : Nat => memb N i g d) i), vi (i : Int)] [] (zI s N) Q) (N 39 2).toNat (fun i hi ih => ?_) ?_
  · skip
    refine e_iload q_X11_membersOf_5 (by decide) rfl ?_
    refine e_aload_n q_X11_membersOf_7 (by decide) rfl ?_
    refine i_getI (k' := 3) q_X11_membersOf_8 fl_X11_107 (a3 hB) rfl rfl rfl e3 ?_
    refine e_icmp_ge q_X11_membersOf_11 (by first | exact hR _ _ | (constructor <;> omega) | assumption) (by first | exact hR _ _ | (constructor <;> omega) | assumption) (fun c11 => ?_) (fun c11 => ?_)
    · skip
      exact absurd c11 (by omega)
    · skip
      refine e_aload_n q_X11_membersOf_14 (by decide) rfl ?_
      refine i_getC (r := 5) q_X11_membersOf_15 fl_X11_15 (a3 hB) rfl (by decide) ?_
      refine e_iload q_X11_membersOf_18 (by decide) rfl ?_
      obtain ⟨a, hp⟩ := hI.ps.1 (i) (by omega) (by omega)
      obtain ⟨p88, pA, p5, p0, p1, p2, p3, p4, p5f, p6, p7, p8, p9⟩ := id hp
      refine i_aald q_X11_membersOf_20 (a5 hB) (by decide) (fun _ => rfl) (by omega) (by omega) (by decide) p5 (by omega) ?_
      refine e_iload_n q_X11_membersOf_21 (by decide) rfl ?_
      refine iv_X4_groupOn q_X11_membersOf_22 lk_X11_245 (by decide) pA (Nat.le_of_ble_eq_true rfl) ?_
      refine x_groupOn hI (by omega) (by omega) hp (by omega) ?_
      have hgr := gOn_r hm i d
      refine e_iload_n q_X11_membersOf_25 (by decide) rfl ?_
      refine e_icmp_ne q_X11_membersOf_26 (by first | exact hR _ _ | (constructor <;> omega) | assumption) (by first | exact hR _ _ | (constructor <;> omega) | assumption) (fun c26 => ?_) (fun c26 => ?_)
      · skip
        refine e_iinc (ls' := [_, _, _, _, _]) q_X11_membersOf_32 (by decide) rfl rfl rfl ?_
        refine e_goto q_X11_membersOf_35 ?_
        first | exact zEe ih (by rw [cnt_t (p := fun i : Nat => memb N i g d) ((gOn_m hm hg.1).mp c26)]; rfl) rfl | exact zEe ih (by rw [cnt_f' (p := fun i : Nat => memb N i g d) (fun q => c26 ((gOn_m hm hg.1).mpr q))]; rfl) rfl
      · skip
        refine e_iinc (ls' := [_, _, _, _, _]) q_X11_membersOf_29 (by decide) rfl rfl rfl ?_
        refine e_iinc (ls' := [_, _, _, _, _]) q_X11_membersOf_32 (by decide) rfl rfl rfl ?_
        refine e_goto q_X11_membersOf_35 ?_
        first | exact zEe ih (by rw [cnt_t (p := fun i : Nat => memb N i g d) ((gOn_m hm hg.1).mp c26)]; rfl) rfl | exact zEe ih (by rw [cnt_f' (p := fun i : Nat => memb N i g d) (fun q => c26 ((gOn_m hm hg.1).mpr q))]; rfl) rfl
  · skip
    refine e_iload q_X11_membersOf_5 (by decide) rfl ?_
    refine e_aload_n q_X11_membersOf_7 (by decide) rfl ?_
    refine i_getI (k' := 3) q_X11_membersOf_8 fl_X11_107 (a3 hB) rfl rfl rfl e3 ?_
    refine e_icmp_ge q_X11_membersOf_11 (by first | exact hR _ _ | (constructor <;> omega) | assumption) (by first | exact hR _ _ | (constructor <;> omega) | assumption) (fun c11 => ?_) (fun c11 => ?_)
    · skip
      refine e_iload_n q_X11_membersOf_38 (by decide) rfl ?_
      refine e_ireturn q_X11_membersOf_39 rfl rfl ?_
      exact h
    · skip
      exact absurd (by omega) c11
set_option maxRecDepth 20000 in
set_option maxHeartbeats 2000000 in
theorem x_hasKinIn (hI : xI s N fa sa){w g : Int} (h0 : 0 ≤ w) (h1 : w < N 39 2) (hg : 0 ≤ g ∧ g < 8) {d : Int} (hd : 0 ≤ d ∧ d ≤ 9999) (h : Q (some (vi (bi (kinIn N w g d)))) (zI s N)) : zC X m_X11_hasKinIn [.ref 3, vi w, vi g, vi d] (zI s N) Q := by
  have hB := hI.B
  have hR := hI.R
  have hC := hI.C
  unfold mCnt at hC
  have hm := hI.m
  obtain ⟨e1, e5, e7, e8, e10, e11, e3, e12, eh, eg, ef, et⟩ := hI.hs
  show zE X m_X11_hasKinIn 0 [.ref 3, vi w, vi g, vi d, zU] [] _ Q
  refine e_iconst q_X11_hasKinIn_0 ?_
  refine e_istore (ls' := [_, _, _, _, _]) q_X11_hasKinIn_1 (by decide) rfl rfl ?_
  refine zEe (ls := [.ref 3, vi w, vi g, vi d, vi ((0 : Nat) : Int)]) (σ := (zI s N)) ?_ rfl rfl
  refine z_for (P := fun i => (∀ j, j < i → ¬ (fun k : Nat => (k : Int) ≠ w ∧ kinP N w k ∧ memb N k g d) j) → zE X m_X11_hasKinIn 3 [.ref 3, vi w, vi g, vi d, vi (i : Int)] [] (zI s N) Q) (N 39 2).toNat (fun i hi ih hn => ?_) (fun hn => ?_) (by intro j hj; omega)
  · skip
    refine e_iload q_X11_hasKinIn_3 (by decide) rfl ?_
    refine e_aload_n q_X11_hasKinIn_5 (by decide) rfl ?_
    refine i_getI (k' := 3) q_X11_hasKinIn_6 fl_X11_107 (a3 hB) rfl rfl rfl e3 ?_
    refine e_icmp_ge q_X11_hasKinIn_9 (by first | exact hR _ _ | (constructor <;> omega) | assumption) (by first | exact hR _ _ | (constructor <;> omega) | assumption) (fun c9 => ?_) (fun c9 => ?_)
    · skip
      exact absurd c9 (by omega)
    · skip
      refine e_iload q_X11_hasKinIn_12 (by decide) rfl ?_
      refine e_iload_n q_X11_hasKinIn_14 (by decide) rfl ?_
      refine e_icmp_eq q_X11_hasKinIn_15 (by first | exact hR _ _ | (constructor <;> omega) | assumption) (by first | exact hR _ _ | (constructor <;> omega) | assumption) (fun c15 => ?_) (fun c15 => ?_)
      · skip
        refine e_iinc (ls' := [_, _, _, _, _]) q_X11_hasKinIn_45 (by decide) rfl rfl rfl ?_
        refine e_goto q_X11_hasKinIn_48 ?_
        exact ih (z_lt1 hn (fun q => by first | exact q.1 c15 | exact c25 q.2.1 | exact c40 ((gOn_m hm hg.1).mpr q.2.2)))
      · skip
        refine e_aload_n q_X11_hasKinIn_18 (by decide) rfl ?_
        refine e_iload_n q_X11_hasKinIn_19 (by decide) rfl ?_
        refine e_iload q_X11_hasKinIn_20 (by decide) rfl ?_
        refine iv_X11_areKin q_X11_hasKinIn_22 lk_X11_185 (by decide) (a3 hB) (Nat.le_of_ble_eq_true rfl) ?_
        refine x_areKin hI h0 h1 (by omega) (by omega) ?_
        refine e_ifb_eq q_X11_hasKinIn_25 (fun c25 => ?_) (fun c25 => ?_)
        · skip
          refine e_iinc (ls' := [_, _, _, _, _]) q_X11_hasKinIn_45 (by decide) rfl rfl rfl ?_
          refine e_goto q_X11_hasKinIn_48 ?_
          exact ih (z_lt1 hn (fun q => by first | exact q.1 c15 | exact c25 q.2.1 | exact c40 ((gOn_m hm hg.1).mpr q.2.2)))
        · skip
          refine e_aload_n q_X11_hasKinIn_28 (by decide) rfl ?_
          refine i_getC (r := 5) q_X11_hasKinIn_29 fl_X11_15 (a3 hB) rfl (by decide) ?_
          refine e_iload q_X11_hasKinIn_32 (by decide) rfl ?_
          obtain ⟨a, hp⟩ := hI.ps.1 (i) (by omega) (by omega)
          obtain ⟨p88, pA, p5, p0, p1, p2, p3, p4, p5f, p6, p7, p8, p9⟩ := id hp
          refine i_aald q_X11_hasKinIn_34 (a5 hB) (by decide) (fun _ => rfl) (by omega) (by omega) (by decide) p5 (by omega) ?_
          refine e_iload_n q_X11_hasKinIn_35 (by decide) rfl ?_
          refine iv_X4_groupOn q_X11_hasKinIn_36 lk_X11_245 (by decide) pA (Nat.le_of_ble_eq_true rfl) ?_
          refine x_groupOn hI (by omega) (by omega) hp (by omega) ?_
          have hgr := gOn_r hm i d
          refine e_iload_n q_X11_hasKinIn_39 (by decide) rfl ?_
          refine e_icmp_ne q_X11_hasKinIn_40 (by first | exact hR _ _ | (constructor <;> omega) | assumption) (by first | exact hR _ _ | (constructor <;> omega) | assumption) (fun c40 => ?_) (fun c40 => ?_)
          · skip
            refine e_iinc (ls' := [_, _, _, _, _]) q_X11_hasKinIn_45 (by decide) rfl rfl rfl ?_
            refine e_goto q_X11_hasKinIn_48 ?_
            exact ih (z_lt1 hn (fun q => by first | exact q.1 c15 | exact c25 q.2.1 | exact c40 ((gOn_m hm hg.1).mpr q.2.2)))
          · skip
            refine e_iconst q_X11_hasKinIn_43 ?_
            refine e_ireturn q_X11_hasKinIn_44 rfl rfl ?_
            exact zqT h ⟨i, by omega, c15, c25, (gOn_m hm hg.1).mp c40⟩
  · skip
    refine e_iload q_X11_hasKinIn_3 (by decide) rfl ?_
    refine e_aload_n q_X11_hasKinIn_5 (by decide) rfl ?_
    refine i_getI (k' := 3) q_X11_hasKinIn_6 fl_X11_107 (a3 hB) rfl rfl rfl e3 ?_
    refine e_icmp_ge q_X11_hasKinIn_9 (by first | exact hR _ _ | (constructor <;> omega) | assumption) (by first | exact hR _ _ | (constructor <;> omega) | assumption) (fun c9 => ?_) (fun c9 => ?_)
    · skip
      refine e_iconst q_X11_hasKinIn_51 ?_
      refine e_ireturn q_X11_hasKinIn_52 rfl rfl ?_
      exact zqF h (fun q => by obtain ⟨k, q1, q2⟩ := q; exact hn k (by omega) q2)
    · skip
      exact absurd (by omega) c9
end XS3
