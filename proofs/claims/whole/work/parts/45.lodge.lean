/-! THE SYSTEM'S METHODS, 5: pleas asked, lodgers (printed by wip/whole/gen/x5.py) -/
section XS5
variable {X : zX} {s : zK} {N : zN} {fa sa : Int → Int} {σ : zS} {Q : Option Value → zS → Prop}
set_option maxRecDepth 20000 in
set_option maxHeartbeats 2000000 in
theorem x_isBrought (hI : xI s N fa sa) {p : Int} {a b c : Nat} (h0 : 0 ≤ p) (h1 : p < N 39 50) (hl : xPle s N fa p a b c) (h : Q (some (vi (bi (brought N p)))) (zI s N)) : zC X m_X5_isBrought [.ref a] (zI s N) Q := by
  have hB := hI.B
  have hR := hI.R
  have hC := hI.C
  unfold mCnt at hC
  have hm := hI.m
  obtain ⟨e1, e5, e7, e8, e10, e11, e3, e12, eh, eg, ef, et⟩ := hI.hs
  obtain ⟨l88, lA, l11, l0, l1, l2, l3, l4, l5, l6, l7, l8, lb88, lbA, lc88, lcA, lrow⟩ := id hl
  have hpl := hm.2.2.2.2.2.2 p h0 h1
  obtain ⟨f, hf⟩ := hI.fs.1 (N 74 p) hpl.1.1 hpl.1.2
  obtain ⟨f88, fA, ff, f0, f1, f2⟩ := hf
  have hfl := hm.2.2.2.1 (N 74 p) hpl.1.1 hpl.1.2
  have l1f : N a 1 = (f : Int) := by rw [l1]; exact ff
  show zE X m_X5_isBrought 0 [.ref a] [] _ Q
  refine e_aload_n q_X5_isBrought_0 (by decide) rfl ?_
  refine i_getR (k' := 1) q_X5_isBrought_1 fl_X5_23 lA (cref0 (by omega) _) rfl rfl l1f (by omega) ?_
  refine i_getI (k' := 2) q_X5_isBrought_4 fl_X5_33 fA (cref0 (by omega) _) rfl rfl rfl ?_
  refine e_iconst q_X5_isBrought_7 ?_
  refine e_icmp_eq q_X5_isBrought_8 (by first | exact hR _ _ | (constructor <;> omega) | assumption) (by first | exact hR _ _ | (constructor <;> omega) | assumption) (fun c8 => ?_) (fun c8 => ?_)
  · skip
    refine e_iconst q_X5_isBrought_35 ?_
    refine e_ireturn q_X5_isBrought_36 rfl rfl ?_
    unfold brought at h
    first | exact zqT h (by omega) | exact zqF h (by omega)
  · skip
    refine e_aload_n q_X5_isBrought_11 (by decide) rfl ?_
    refine i_getR (k' := 1) q_X5_isBrought_12 fl_X5_23 lA (cref0 (by omega) _) rfl rfl l1f (by omega) ?_
    refine i_getI (k' := 2) q_X5_isBrought_15 fl_X5_33 fA (cref0 (by omega) _) rfl rfl rfl ?_
    refine e_aload_n q_X5_isBrought_18 (by decide) rfl ?_
    refine i_getR (k' := 1) q_X5_isBrought_19 fl_X5_23 lA (cref0 (by omega) _) rfl rfl l1f (by omega) ?_
    refine i_getI (k' := 0) q_X5_isBrought_22 fl_X5_38 fA (cref0 (by omega) _) rfl rfl f0 ?_
    refine e_isub q_X5_isBrought_25 ?_
    refine e_bipush q_X5_isBrought_26 (by decide) ?_
    refine e_icmp_gt q_X5_isBrought_28 (by first | exact hR _ _ | (constructor <;> omega) | assumption) (by first | exact hR _ _ | (constructor <;> omega) | assumption) (fun c28 => ?_) (fun c28 => ?_)
    · skip
      refine e_iconst q_X5_isBrought_35 ?_
      refine e_ireturn q_X5_isBrought_36 rfl rfl ?_
      unfold brought at h
      first | exact zqT h (by omega) | exact zqF h (by omega)
    · skip
      refine e_iconst q_X5_isBrought_31 ?_
      refine e_goto q_X5_isBrought_32 ?_
      refine e_ireturn q_X5_isBrought_36 rfl rfl ?_
      unfold brought at h
      first | exact zqT h (by omega) | exact zqF h (by omega)
set_option maxRecDepth 20000 in
set_option maxHeartbeats 2000000 in
theorem x_isDueOn (hI : xI s N fa sa) {p : Int} {a b c : Nat} (h0 : 0 ≤ p) (h1 : p < N 39 50) (hl : xPle s N fa p a b c){d : Int} (hd : 0 ≤ d ∧ d ≤ 9999) (h : Q (some (vi (bi (N 77 p = 0 ∧ ¬ brought N p ∧ N 49 (N 74 p) + 30 < d)))) (zI s N)) : zC X m_X5_isDueOn [.ref a, vi d] (zI s N) Q := by
  have hB := hI.B
  have hR := hI.R
  have hC := hI.C
  unfold mCnt at hC
  have hm := hI.m
  obtain ⟨e1, e5, e7, e8, e10, e11, e3, e12, eh, eg, ef, et⟩ := hI.hs
  obtain ⟨l88, lA, l11, l0, l1, l2, l3, l4, l5, l6, l7, l8, lb88, lbA, lc88, lcA, lrow⟩ := id hl
  have hpl := hm.2.2.2.2.2.2 p h0 h1
  obtain ⟨f, hf⟩ := hI.fs.1 (N 74 p) hpl.1.1 hpl.1.2
  obtain ⟨f88, fA, ff, f0, f1, f2⟩ := hf
  have hfl := hm.2.2.2.1 (N 74 p) hpl.1.1 hpl.1.2
  have l1f : N a 1 = (f : Int) := by rw [l1]; exact ff
  show zE X m_X5_isDueOn 0 [.ref a, vi d] [] _ Q
  refine e_aload_n q_X5_isDueOn_0 (by decide) rfl ?_
  refine i_getI (k' := 7) q_X5_isDueOn_1 fl_X5_41 lA (cref0 (by omega) _) rfl rfl l7 ?_
  refine e_if_ne q_X5_isDueOn_4 (by first | exact hR _ _ | (constructor <;> omega) | assumption) (fun c4 => ?_) (fun c4 => ?_)
  · skip
    refine e_iconst q_X5_isDueOn_32 ?_
    refine e_ireturn q_X5_isDueOn_33 rfl rfl ?_
    first | exact zqT h ⟨by omega, c11, by omega⟩ | exact zqF h (fun q => by obtain ⟨q1, q2, q3⟩ := q; first | omega | exact q2 c11)
  · skip
    refine e_aload_n q_X5_isDueOn_7 (by decide) rfl ?_
    refine iv_X5_isBrought q_X5_isDueOn_8 lk_X5_45 (by decide) lA (Nat.le_of_ble_eq_true rfl) ?_
    refine x_isBrought hI h0 h1 hl ?_
    refine e_ifb_ne q_X5_isDueOn_11 (fun c11 => ?_) (fun c11 => ?_)
    · skip
      refine e_iconst q_X5_isDueOn_32 ?_
      refine e_ireturn q_X5_isDueOn_33 rfl rfl ?_
      first | exact zqT h ⟨by omega, c11, by omega⟩ | exact zqF h (fun q => by obtain ⟨q1, q2, q3⟩ := q; first | omega | exact q2 c11)
    · skip
      refine e_iload_n q_X5_isDueOn_14 (by decide) rfl ?_
      refine e_aload_n q_X5_isDueOn_15 (by decide) rfl ?_
      refine i_getR (k' := 1) q_X5_isDueOn_16 fl_X5_23 lA (cref0 (by omega) _) rfl rfl l1f (by omega) ?_
      refine i_getI (k' := 0) q_X5_isDueOn_19 fl_X5_38 fA (cref0 (by omega) _) rfl rfl f0 ?_
      refine e_isub q_X5_isDueOn_22 ?_
      refine e_bipush q_X5_isDueOn_23 (by decide) ?_
      refine e_icmp_le q_X5_isDueOn_25 (by first | exact hR _ _ | (constructor <;> omega) | assumption) (by first | exact hR _ _ | (constructor <;> omega) | assumption) (fun c25 => ?_) (fun c25 => ?_)
      · skip
        refine e_iconst q_X5_isDueOn_32 ?_
        refine e_ireturn q_X5_isDueOn_33 rfl rfl ?_
        first | exact zqT h ⟨by omega, c11, by omega⟩ | exact zqF h (fun q => by obtain ⟨q1, q2, q3⟩ := q; first | omega | exact q2 c11)
      · skip
        refine e_iconst q_X5_isDueOn_28 ?_
        refine e_goto q_X5_isDueOn_29 ?_
        refine e_ireturn q_X5_isDueOn_33 rfl rfl ?_
        first | exact zqT h ⟨by omega, c11, by omega⟩ | exact zqF h (fun q => by obtain ⟨q1, q2, q3⟩ := q; first | omega | exact q2 c11)
noncomputable def pstate (N : zN) (p : Int) : Int := if N 77 p ≠ 0 then 2 else bi (brought N p)
noncomputable def r_about (N : zN) (p k : Int) : Int := zif (0 ≤ p ∧ p < N 39 50) (if k = 0 then N 48 (N 74 p) else if k = 1 then N 49 (N 74 p) else if k = 2 then N 75 p else if k = 3 then N 76 p else if k = 4 then cnt (fun w => N 79 (48 * p + w) ≠ 0) 48 else if k = 5 then pstate N p else -1) (-1)
set_option maxRecDepth 20000 in
set_option maxHeartbeats 2000000 in
theorem x_state (hI : xI s N fa sa) {p : Int} {a b c : Nat} (h0 : 0 ≤ p) (h1 : p < N 39 50) (hl : xPle s N fa p a b c) (h : Q (some (vi (pstate N p))) (zI s N)) : zC X m_X5_state [.ref a] (zI s N) Q := by
  have hB := hI.B
  have hR := hI.R
  have hC := hI.C
  unfold mCnt at hC
  have hm := hI.m
  obtain ⟨e1, e5, e7, e8, e10, e11, e3, e12, eh, eg, ef, et⟩ := hI.hs
  obtain ⟨l88, lA, l11, l0, l1, l2, l3, l4, l5, l6, l7, l8, lb88, lbA, lc88, lcA, lrow⟩ := id hl
  have hpl := hm.2.2.2.2.2.2 p h0 h1
  obtain ⟨f, hf⟩ := hI.fs.1 (N 74 p) hpl.1.1 hpl.1.2
  obtain ⟨f88, fA, ff, f0, f1, f2⟩ := hf
  have hfl := hm.2.2.2.1 (N 74 p) hpl.1.1 hpl.1.2
  have l1f : N a 1 = (f : Int) := by rw [l1]; exact ff
  show zE X m_X5_state 0 [.ref a] [] _ Q
  refine e_aload_n q_X5_state_0 (by decide) rfl ?_
  refine i_getI (k' := 7) q_X5_state_1 fl_X5_41 lA (cref0 (by omega) _) rfl rfl l7 ?_
  refine e_if_eq q_X5_state_4 (by first | exact hR _ _ | (constructor <;> omega) | assumption) (fun c4 => ?_) (fun c4 => ?_)
  · skip
    refine e_aload_n q_X5_state_9 (by decide) rfl ?_
    refine iv_X5_isBrought q_X5_state_10 lk_X5_45 (by decide) lA (Nat.le_of_ble_eq_true rfl) ?_
    refine x_isBrought hI h0 h1 hl ?_
    refine e_ifb_eq q_X5_state_13 (fun c13 => ?_) (fun c13 => ?_)
    · skip
      refine e_iconst q_X5_state_20 ?_
      refine e_ireturn q_X5_state_21 rfl rfl ?_
      first | exact zqI h (by unfold pstate; rw [if_neg (by omega), bi_t c13]) | exact zqI h (by unfold pstate; rw [if_neg (by omega), bi_f c13])
    · skip
      refine e_iconst q_X5_state_16 ?_
      refine e_goto q_X5_state_17 ?_
      refine e_ireturn q_X5_state_21 rfl rfl ?_
      first | exact zqI h (by unfold pstate; rw [if_neg (by omega), bi_t c13]) | exact zqI h (by unfold pstate; rw [if_neg (by omega), bi_f c13])
  · skip
    refine e_iconst q_X5_state_7 ?_
    refine e_ireturn q_X5_state_8 rfl rfl ?_
    exact zqI h (if_pos (by omega))
set_option maxRecDepth 20000 in
set_option maxHeartbeats 2000000 in
theorem x_about (hI : xI s N fa sa){p : Int} (hp : zr p) {k : Int} (hk0 : zr k) (h : Q (some (vi (r_about N p k))) (zI s N)) : zC X m_X11_about [.ref 3, vi p, vi k] (zI s N) Q := by
  have hB := hI.B
  have hR := hI.R
  have hC := hI.C
  unfold mCnt at hC
  have hm := hI.m
  obtain ⟨e1, e5, e7, e8, e10, e11, e3, e12, eh, eg, ef, et⟩ := hI.hs
  show zE X m_X11_about 0 [.ref 3, vi p, vi k, zU] [] _ Q
  refine e_iload_n q_X11_about_0 (by decide) rfl ?_
  refine e_if_lt q_X11_about_1 hp (fun c1 => ?_) (fun c1 => ?_)
  · skip
    refine e_iconst q_X11_about_12 ?_
    refine e_ireturn q_X11_about_13 rfl rfl ?_
    exact zqI h (by unfold r_about; exact zif_f (by omega))
  · skip
    refine e_iload_n q_X11_about_4 (by decide) rfl ?_
    refine e_aload_n q_X11_about_5 (by decide) rfl ?_
    refine i_getI (k' := 10) q_X11_about_6 fl_X11_294 (a3 hB) rfl rfl rfl e10 ?_
    refine e_icmp_lt q_X11_about_9 hp (hR _ _) (fun c9 => ?_) (fun c9 => ?_)
    · skip
      refine e_aload_n q_X11_about_14 (by decide) rfl ?_
      refine i_getC (r := 11) q_X11_about_15 fl_X11_37 (a3 hB) rfl (by decide) ?_
      refine e_iload_n q_X11_about_18 (by decide) rfl ?_
      obtain ⟨a, b, c, hl⟩ := hI.ls.1 (p) (by omega) (by omega)
      obtain ⟨l88, lA, l11, l0, l1, l2, l3, l4, l5, l6, l7, l8, lb88, lbA, lc88, lcA, lrow⟩ := id hl
      refine i_aald q_X11_about_19 (a11 hB) (by decide) (fun _ => rfl) (by omega) (by omega) (by decide) l11 (by omega) ?_
      refine e_astore_n (ls' := [_, _, _, _]) q_X11_about_20 (by decide) rfl rfl ?_
      have hpl := hm.2.2.2.2.2.2 p (by omega) (by omega)
      obtain ⟨f, hf⟩ := hI.fs.1 (N 74 p) hpl.1.1 hpl.1.2
      obtain ⟨f88, fA, ff, f0, f1, f2⟩ := hf
      have l1f : N a 1 = (f : Int) := by rw [l1]; exact ff
      refine e_iload_n q_X11_about_21 (by decide) rfl ?_
      rcases (show k < 0 ∨ k = 0 ∨ k = 1 ∨ k = 2 ∨ k = 3 ∨ k = 4 ∨ k = 5 ∨ 5 < k by omega) with hk | rfl | rfl | rfl | rfl | rfl | rfl | hk
      · skip
        refine e_tableOut (tgt := 93) q_X11_about_22 (by first | exact hR _ _ | (constructor <;> omega) | assumption) (by omega) rfl ?_
        refine e_iconst q_X11_about_93 ?_
        refine e_ireturn q_X11_about_94 rfl rfl ?_
        first | exact zqI h (by unfold r_about; rw [zif_t ⟨by omega, by omega⟩]; rfl) | exact zqI h (by unfold r_about; rw [zif_t ⟨by omega, by omega⟩]; rw [if_neg (by omega), if_neg (by omega), if_neg (by omega), if_neg (by omega), if_neg (by omega), if_neg (by omega)])
      · skip
        refine e_tableIn (off := 38) (tgt := 60) q_X11_about_22 (by first | exact hR _ _ | (constructor <;> omega) | assumption) (by omega) (by omega) rfl rfl ?_
        refine e_aload_n q_X11_about_60 (by decide) rfl ?_
        refine i_getI (k' := 0) q_X11_about_61 fl_X11_304 lA (cref0 (by omega) _) rfl rfl l0 ?_
        refine e_ireturn q_X11_about_64 rfl rfl ?_
        first | exact zqI h (by unfold r_about; rw [zif_t ⟨by omega, by omega⟩]; rfl) | exact zqI h (by unfold r_about; rw [zif_t ⟨by omega, by omega⟩]; rw [if_neg (by omega), if_neg (by omega), if_neg (by omega), if_neg (by omega), if_neg (by omega), if_neg (by omega)])
      · skip
        refine e_tableIn (off := 43) (tgt := 65) q_X11_about_22 (by first | exact hR _ _ | (constructor <;> omega) | assumption) (by omega) (by omega) rfl rfl ?_
        refine e_aload_n q_X11_about_65 (by decide) rfl ?_
        refine i_getR (k' := 1) q_X11_about_66 fl_X11_307 lA (cref0 (by omega) _) rfl rfl l1f (by omega) ?_
        refine i_getI (k' := 0) q_X11_about_69 fl_X11_176 fA (cref0 (by omega) _) rfl rfl f0 ?_
        refine e_ireturn q_X11_about_72 rfl rfl ?_
        first | exact zqI h (by unfold r_about; rw [zif_t ⟨by omega, by omega⟩]; rfl) | exact zqI h (by unfold r_about; rw [zif_t ⟨by omega, by omega⟩]; rw [if_neg (by omega), if_neg (by omega), if_neg (by omega), if_neg (by omega), if_neg (by omega), if_neg (by omega)])
      · skip
        refine e_tableIn (off := 51) (tgt := 73) q_X11_about_22 (by first | exact hR _ _ | (constructor <;> omega) | assumption) (by omega) (by omega) rfl rfl ?_
        refine e_aload_n q_X11_about_73 (by decide) rfl ?_
        refine i_getI (k' := 2) q_X11_about_74 fl_X11_310 lA (cref0 (by omega) _) rfl rfl l2 ?_
        refine e_ireturn q_X11_about_77 rfl rfl ?_
        first | exact zqI h (by unfold r_about; rw [zif_t ⟨by omega, by omega⟩]; rfl) | exact zqI h (by unfold r_about; rw [zif_t ⟨by omega, by omega⟩]; rw [if_neg (by omega), if_neg (by omega), if_neg (by omega), if_neg (by omega), if_neg (by omega), if_neg (by omega)])
      · skip
        refine e_tableIn (off := 56) (tgt := 78) q_X11_about_22 (by first | exact hR _ _ | (constructor <;> omega) | assumption) (by omega) (by omega) rfl rfl ?_
        refine e_aload_n q_X11_about_78 (by decide) rfl ?_
        refine i_getI (k' := 3) q_X11_about_79 fl_X11_311 lA (cref0 (by omega) _) rfl rfl l3 ?_
        refine e_ireturn q_X11_about_82 rfl rfl ?_
        first | exact zqI h (by unfold r_about; rw [zif_t ⟨by omega, by omega⟩]; rfl) | exact zqI h (by unfold r_about; rw [zif_t ⟨by omega, by omega⟩]; rw [if_neg (by omega), if_neg (by omega), if_neg (by omega), if_neg (by omega), if_neg (by omega), if_neg (by omega)])
      · skip
        refine e_tableIn (off := 61) (tgt := 83) q_X11_about_22 (by first | exact hR _ _ | (constructor <;> omega) | assumption) (by omega) (by omega) rfl rfl ?_
        refine e_aload_n q_X11_about_83 (by decide) rfl ?_
        refine i_getI (k' := 6) q_X11_about_84 fl_X11_314 lA (cref0 (by omega) _) rfl rfl l6 ?_
        refine e_ireturn q_X11_about_87 rfl rfl ?_
        first | exact zqI h (by unfold r_about; rw [zif_t ⟨by omega, by omega⟩]; rfl) | exact zqI h (by unfold r_about; rw [zif_t ⟨by omega, by omega⟩]; rw [if_neg (by omega), if_neg (by omega), if_neg (by omega), if_neg (by omega), if_neg (by omega), if_neg (by omega)])
      · skip
        refine e_tableIn (off := 66) (tgt := 88) q_X11_about_22 (by first | exact hR _ _ | (constructor <;> omega) | assumption) (by omega) (by omega) rfl rfl ?_
        refine e_aload_n q_X11_about_88 (by decide) rfl ?_
        refine iv_X5_state q_X11_about_89 lk_X11_317 (by decide) lA (Nat.le_of_ble_eq_true rfl) ?_
        refine x_state hI (by omega) (by omega) hl ?_
        refine e_ireturn q_X11_about_92 rfl rfl ?_
        first | exact zqI h (by unfold r_about; rw [zif_t ⟨by omega, by omega⟩]; rfl) | exact zqI h (by unfold r_about; rw [zif_t ⟨by omega, by omega⟩]; rw [if_neg (by omega), if_neg (by omega), if_neg (by omega), if_neg (by omega), if_neg (by omega), if_neg (by omega)])
      · skip
        refine e_tableOut (tgt := 93) q_X11_about_22 (by first | exact hR _ _ | (constructor <;> omega) | assumption) (by omega) rfl ?_
        refine e_iconst q_X11_about_93 ?_
        refine e_ireturn q_X11_about_94 rfl rfl ?_
        first | exact zqI h (by unfold r_about; rw [zif_t ⟨by omega, by omega⟩]; rfl) | exact zqI h (by unfold r_about; rw [zif_t ⟨by omega, by omega⟩]; rw [if_neg (by omega), if_neg (by omega), if_neg (by omega), if_neg (by omega), if_neg (by omega), if_neg (by omega)])
    · skip
      refine e_iconst q_X11_about_12 ?_
      refine e_ireturn q_X11_about_13 rfl rfl ?_
      exact zqI h (by unfold r_about; exact zif_f (by omega))
set_option maxRecDepth 20000 in
set_option maxHeartbeats 2000000 in
theorem x_endAround (hI : xI s N fa sa){d : Int} (hd : zr d) (h1 : ¬ fairD N d → Q (some (vi (-1))) (zI s N)) (h2 : ∀ k : Nat, (k : Int) < N 39 26 → N 56 k ≤ d → d ≤ N 57 k → Q (some (vi (N 57 k))) (zI s N)) : zC X m_X0_endAround [.ref 7, vi d] (zI s N) Q := by
  have hB := hI.B
  have hR := hI.R
  have hC := hI.C
  unfold mCnt at hC
  have hm := hI.m
  obtain ⟨e1, e5, e7, e8, e10, e11, e3, e12, eh, eg, ef, et⟩ := hI.hs
  show zE X m_X0_endAround 0 [.ref 7, vi d, zU] [] _ Q
  refine e_iconst q_X0_endAround_0 ?_
  refine e_istore_n (ls' := [_, _, _]) q_X0_endAround_1 (by decide) rfl rfl ?_
  refine zEe (ls := [.ref 7, vi d, vi ((0 : Nat) : Int)]) (σ := (zI s N)) ?_ rfl rfl
  refine z_for (P := fun i => (∀ j, j < i → ¬ (fun k : Nat => N 56 k ≤ d ∧ d ≤ N 57 k) j) → zE X m_X0_endAround 2 [.ref 7, vi d, vi (i : Int)] [] (zI s N) Q) (N 39 26).toNat (fun i hi ih hn => ?_) (fun hn => ?_) (by intro j hj; omega)
  · skip
    refine e_iload_n q_X0_endAround_2 (by decide) rfl ?_
    refine e_aload_n q_X0_endAround_3 (by decide) rfl ?_
    refine i_getI (k' := 2) q_X0_endAround_4 fl_X0_18 (a7 hB) rfl rfl rfl e7 ?_
    refine e_icmp_ge q_X0_endAround_7 (by first | exact hR _ _ | (constructor <;> omega) | assumption) (by first | exact hR _ _ | (constructor <;> omega) | assumption) (fun c7 => ?_) (fun c7 => ?_)
    · skip
      exact absurd c7 (by omega)
    · skip
      refine e_aload_n q_X0_endAround_10 (by decide) rfl ?_
      refine i_getC (r := 8) q_X0_endAround_11 fl_X0_9 (a7 hB) rfl (by decide) ?_
      refine e_iload_n q_X0_endAround_14 (by decide) rfl ?_
      refine i_iald q_X0_endAround_15 (a8 hB) (fun _ => rfl) (by first | omega | assumption) (by first | omega | assumption) (by decide) (ef i (by omega) (by omega)).1 ?_
      refine e_iload_n q_X0_endAround_16 (by decide) rfl ?_
      refine e_icmp_gt q_X0_endAround_17 (by first | exact hR _ _ | (constructor <;> omega) | assumption) (by first | exact hR _ _ | (constructor <;> omega) | assumption) (fun c17 => ?_) (fun c17 => ?_)
      · skip
        refine e_iinc (ls' := [_, _, _]) q_X0_endAround_37 (by decide) rfl rfl rfl ?_
        refine e_goto q_X0_endAround_40 ?_
        exact ih (z_lt1 hn (by omega))
      · skip
        refine e_iload_n q_X0_endAround_20 (by decide) rfl ?_
        refine e_aload_n q_X0_endAround_21 (by decide) rfl ?_
        refine i_getC (r := 9) q_X0_endAround_22 fl_X0_15 (a7 hB) rfl (by decide) ?_
        refine e_iload_n q_X0_endAround_25 (by decide) rfl ?_
        refine i_iald q_X0_endAround_26 (a9 hB) (fun _ => rfl) (by first | omega | assumption) (by first | omega | assumption) (by decide) (ef i (by omega) (by omega)).2.1 ?_
        refine e_icmp_gt q_X0_endAround_27 (by first | exact hR _ _ | (constructor <;> omega) | assumption) (by first | exact hR _ _ | (constructor <;> omega) | assumption) (fun c27 => ?_) (fun c27 => ?_)
        · skip
          refine e_iinc (ls' := [_, _, _]) q_X0_endAround_37 (by decide) rfl rfl rfl ?_
          refine e_goto q_X0_endAround_40 ?_
          exact ih (z_lt1 hn (by omega))
        · skip
          refine e_aload_n q_X0_endAround_30 (by decide) rfl ?_
          refine i_getC (r := 9) q_X0_endAround_31 fl_X0_15 (a7 hB) rfl (by decide) ?_
          refine e_iload_n q_X0_endAround_34 (by decide) rfl ?_
          refine i_iald q_X0_endAround_35 (a9 hB) (fun _ => rfl) (by first | omega | assumption) (by first | omega | assumption) (by decide) (ef i (by omega) (by omega)).2.1 ?_
          refine e_ireturn q_X0_endAround_36 rfl rfl ?_
          exact h2 i (by omega) (by omega) (by omega)
  · skip
    refine e_iload_n q_X0_endAround_2 (by decide) rfl ?_
    refine e_aload_n q_X0_endAround_3 (by decide) rfl ?_
    refine i_getI (k' := 2) q_X0_endAround_4 fl_X0_18 (a7 hB) rfl rfl rfl e7 ?_
    refine e_icmp_ge q_X0_endAround_7 (by first | exact hR _ _ | (constructor <;> omega) | assumption) (by first | exact hR _ _ | (constructor <;> omega) | assumption) (fun c7 => ?_) (fun c7 => ?_)
    · skip
      refine e_iconst q_X0_endAround_43 ?_
      refine e_ireturn q_X0_endAround_44 rfl rfl ?_
      exact h1 (fun q => by obtain ⟨k, q1, q2⟩ := q; exact hn k (by omega) q2)
    · skip
      exact absurd (by omega) c7
set_option maxRecDepth 20000 in
set_option maxHeartbeats 2000000 in
theorem x_stayOn (hI : xI s N fa sa){w : Int} (hw : zr w){d : Int} (hd : -1 ≤ d ∧ d ≤ 9999) (h1 : stayK N w d < 0 → Q (some .null) (zI s N)) (h2 : ∀ a : Nat, 0 ≤ stayK N w d → xSty s N (stayK N w d) a → Q (some (.ref a)) (zI s N)) : zC X m_X11_stayOn [.ref 3, vi w, vi d] (zI s N) Q := by
  have hB := hI.B
  have hR := hI.R
  have hC := hI.C
  unfold mCnt at hC
  have hm := hI.m
  obtain ⟨e1, e5, e7, e8, e10, e11, e3, e12, eh, eg, ef, et⟩ := hI.hs
  show zE X m_X11_stayOn 0 [.ref 3, vi w, vi d, zU] [] _ Q
  refine e_iconst q_X11_stayOn_0 ?_
  refine e_istore_n (ls' := [_, _, _, _]) q_X11_stayOn_1 (by decide) rfl rfl ?_
  refine zEe (ls := [.ref 3, vi w, vi d, vi ((0 : Nat) : Int)]) (σ := (zI s N)) ?_ rfl rfl
  refine z_for (P := fun i => (∀ j, j < i → ¬ (fun k : Nat => N 63 k = w ∧ N 65 k ≤ d ∧ d ≤ N 66 k) j) → zE X m_X11_stayOn 2 [.ref 3, vi w, vi d, vi (i : Int)] [] (zI s N) Q) (N 39 36).toNat (fun i hi ih hn => ?_) (fun hn => ?_) (by intro j hj; omega)
  · skip
    refine e_iload_n q_X11_stayOn_2 (by decide) rfl ?_
    refine e_aload_n q_X11_stayOn_3 (by decide) rfl ?_
    refine i_getI (k' := 8) q_X11_stayOn_4 fl_X11_259 (a3 hB) rfl rfl rfl e8 ?_
    refine e_icmp_ge q_X11_stayOn_7 (by first | exact hR _ _ | (constructor <;> omega) | assumption) (by first | exact hR _ _ | (constructor <;> omega) | assumption) (fun c7 => ?_) (fun c7 => ?_)
    · skip
      exact absurd c7 (by omega)
    · skip
      refine e_aload_n q_X11_stayOn_10 (by decide) rfl ?_
      refine i_getC (r := 10) q_X11_stayOn_11 fl_X11_31 (a3 hB) rfl (by decide) ?_
      refine e_iload_n q_X11_stayOn_14 (by decide) rfl ?_
      obtain ⟨a, hy⟩ := hI.ys (i) (by omega) (by omega)
      obtain ⟨y88, yA, y10, y0, y1, y2, y3⟩ := id hy
      refine i_aald q_X11_stayOn_15 (a10 hB) (by decide) (fun _ => rfl) (by omega) (by omega) (by decide) y10 (by omega) ?_
      refine i_getI (k' := 0) q_X11_stayOn_16 fl_X11_411 yA (cref0 (by omega) _) rfl rfl y0 ?_
      refine e_iload_n q_X11_stayOn_19 (by decide) rfl ?_
      refine e_icmp_ne q_X11_stayOn_20 (hR _ _) hw (fun c20 => ?_) (fun c20 => ?_)
      · skip
        refine e_iinc (ls' := [_, _, _, _]) q_X11_stayOn_56 (by decide) rfl rfl rfl ?_
        refine e_goto q_X11_stayOn_59 ?_
        exact ih (z_lt1 hn (by omega))
      · skip
        refine e_aload_n q_X11_stayOn_23 (by decide) rfl ?_
        refine i_getC (r := 10) q_X11_stayOn_24 fl_X11_31 (a3 hB) rfl (by decide) ?_
        refine e_iload_n q_X11_stayOn_27 (by decide) rfl ?_
        obtain ⟨ax, hyx⟩ := hI.ys (i) (by omega) (by omega)
        obtain ⟨y88x, yAx, y10x, y0x, y1x, y2x, y3x⟩ := id hyx
        refine i_aald q_X11_stayOn_28 (a10 hB) (by decide) (fun _ => rfl) (by omega) (by omega) (by decide) y10x (by omega) ?_
        refine i_getI (k' := 2) q_X11_stayOn_29 fl_X11_415 yAx (cref0 (by omega) _) rfl rfl y2x ?_
        refine e_iload_n q_X11_stayOn_32 (by decide) rfl ?_
        refine e_icmp_gt q_X11_stayOn_33 (by first | exact hR _ _ | (constructor <;> omega) | assumption) (by first | exact hR _ _ | (constructor <;> omega) | assumption) (fun c33 => ?_) (fun c33 => ?_)
        · skip
          refine e_iinc (ls' := [_, _, _, _]) q_X11_stayOn_56 (by decide) rfl rfl rfl ?_
          refine e_goto q_X11_stayOn_59 ?_
          exact ih (z_lt1 hn (by omega))
        · skip
          refine e_aload_n q_X11_stayOn_36 (by decide) rfl ?_
          refine i_getC (r := 10) q_X11_stayOn_37 fl_X11_31 (a3 hB) rfl (by decide) ?_
          refine e_iload_n q_X11_stayOn_40 (by decide) rfl ?_
          obtain ⟨az, hyz⟩ := hI.ys (i) (by omega) (by omega)
          obtain ⟨y88z, yAz, y10z, y0z, y1z, y2z, y3z⟩ := id hyz
          refine i_aald q_X11_stayOn_41 (a10 hB) (by decide) (fun _ => rfl) (by omega) (by omega) (by decide) y10z (by omega) ?_
          refine i_getI (k' := 3) q_X11_stayOn_42 fl_X11_412 yAz (cref0 (by omega) _) rfl rfl y3z ?_
          refine e_iload_n q_X11_stayOn_45 (by decide) rfl ?_
          refine e_icmp_lt q_X11_stayOn_46 (by first | exact hR _ _ | (constructor <;> omega) | assumption) (by first | exact hR _ _ | (constructor <;> omega) | assumption) (fun c46 => ?_) (fun c46 => ?_)
          · skip
            refine e_iinc (ls' := [_, _, _, _]) q_X11_stayOn_56 (by decide) rfl rfl rfl ?_
            refine e_goto q_X11_stayOn_59 ?_
            exact ih (z_lt1 hn (by omega))
          · skip
            refine e_aload_n q_X11_stayOn_49 (by decide) rfl ?_
            refine i_getC (r := 10) q_X11_stayOn_50 fl_X11_31 (a3 hB) rfl (by decide) ?_
            refine e_iload_n q_X11_stayOn_53 (by decide) rfl ?_
            obtain ⟨av, hyv⟩ := hI.ys (i) (by omega) (by omega)
            obtain ⟨y88v, yAv, y10v, y0v, y1v, y2v, y3v⟩ := id hyv
            refine i_aald q_X11_stayOn_54 (a10 hB) (by decide) (fun _ => rfl) (by omega) (by omega) (by decide) y10v (by omega) ?_
            refine e_areturn q_X11_stayOn_55 rfl (Or.inl ⟨_, rfl⟩) (Or.inr ⟨_, rfl⟩) ?_
            have e : stayK N w d = i := fstK_at (p := fun k : Nat => N 63 k = w ∧ N 65 k ≤ d ∧ d ≤ N 66 k) (by omega) hn ⟨c20, by omega, by omega⟩
            exact h2 av (by omega) (by rw [e]; exact hyv)
  · skip
    refine e_iload_n q_X11_stayOn_2 (by decide) rfl ?_
    refine e_aload_n q_X11_stayOn_3 (by decide) rfl ?_
    refine i_getI (k' := 8) q_X11_stayOn_4 fl_X11_259 (a3 hB) rfl rfl rfl e8 ?_
    refine e_icmp_ge q_X11_stayOn_7 (by first | exact hR _ _ | (constructor <;> omega) | assumption) (by first | exact hR _ _ | (constructor <;> omega) | assumption) (fun c7 => ?_) (fun c7 => ?_)
    · skip
      refine e_null q_X11_stayOn_62 ?_
      refine e_areturn q_X11_stayOn_63 rfl (Or.inl ⟨_, rfl⟩) (Or.inl rfl) ?_
      exact h1 (by unfold stayK; rw [fstK_none (p := fun k : Nat => N 63 k = w ∧ N 65 k ≤ d ∧ d ≤ N 66 k) (fun j hj => hn j (by omega))]; omega)
    · skip
      exact absurd (by omega) c7
set_option maxRecDepth 20000 in
set_option maxHeartbeats 2000000 in
theorem x_lodges (hI : xI s N fa sa){w : Int} (hw : zr w){d : Int} (hd : 0 ≤ d ∧ d ≤ 9999) (h : Q (some (vi (bi (∃ k : Nat, (k : Int) < N 39 36 ∧ N 63 k = w ∧ d ≤ N 66 k)))) (zI s N)) : zC X m_X11_lodgesOnOrBehind [.ref 3, vi w, vi d] (zI s N) Q := by
  have hB := hI.B
  have hR := hI.R
  have hC := hI.C
  unfold mCnt at hC
  have hm := hI.m
  obtain ⟨e1, e5, e7, e8, e10, e11, e3, e12, eh, eg, ef, et⟩ := hI.hs
  show zE X m_X11_lodgesOnOrBehind 0 [.ref 3, vi w, vi d, zU] [] _ Q
  refine e_iconst q_X11_lodgesOnOrBehind_0 ?_
  refine e_istore_n (ls' := [_, _, _, _]) q_X11_lodgesOnOrBehind_1 (by decide) rfl rfl ?_
  refine zEe (ls := [.ref 3, vi w, vi d, vi ((0 : Nat) : Int)]) (σ := (zI s N)) ?_ rfl rfl
  refine z_for (P := fun i => (∀ j, j < i → ¬ (fun k : Nat => N 63 k = w ∧ d ≤ N 66 k) j) → zE X m_X11_lodgesOnOrBehind 2 [.ref 3, vi w, vi d, vi (i : Int)] [] (zI s N) Q) (N 39 36).toNat (fun i hi ih hn => ?_) (fun hn => ?_) (by intro j hj; omega)
  · skip
    refine e_iload_n q_X11_lodgesOnOrBehind_2 (by decide) rfl ?_
    refine e_aload_n q_X11_lodgesOnOrBehind_3 (by decide) rfl ?_
    refine i_getI (k' := 8) q_X11_lodgesOnOrBehind_4 fl_X11_259 (a3 hB) rfl rfl rfl e8 ?_
    refine e_icmp_ge q_X11_lodgesOnOrBehind_7 (by first | exact hR _ _ | (constructor <;> omega) | assumption) (by first | exact hR _ _ | (constructor <;> omega) | assumption) (fun c7 => ?_) (fun c7 => ?_)
    · skip
      exact absurd c7 (by omega)
    · skip
      refine e_aload_n q_X11_lodgesOnOrBehind_10 (by decide) rfl ?_
      refine i_getC (r := 10) q_X11_lodgesOnOrBehind_11 fl_X11_31 (a3 hB) rfl (by decide) ?_
      refine e_iload_n q_X11_lodgesOnOrBehind_14 (by decide) rfl ?_
      obtain ⟨a, hy⟩ := hI.ys (i) (by omega) (by omega)
      obtain ⟨y88, yA, y10, y0, y1, y2, y3⟩ := id hy
      refine i_aald q_X11_lodgesOnOrBehind_15 (a10 hB) (by decide) (fun _ => rfl) (by omega) (by omega) (by decide) y10 (by omega) ?_
      refine i_getI (k' := 0) q_X11_lodgesOnOrBehind_16 fl_X11_411 yA (cref0 (by omega) _) rfl rfl y0 ?_
      refine e_iload_n q_X11_lodgesOnOrBehind_19 (by decide) rfl ?_
      refine e_icmp_ne q_X11_lodgesOnOrBehind_20 (hR _ _) hw (fun c20 => ?_) (fun c20 => ?_)
      · skip
        refine e_iinc (ls' := [_, _, _, _]) q_X11_lodgesOnOrBehind_38 (by decide) rfl rfl rfl ?_
        refine e_goto q_X11_lodgesOnOrBehind_41 ?_
        exact ih (z_lt1 hn (by omega))
      · skip
        refine e_aload_n q_X11_lodgesOnOrBehind_23 (by decide) rfl ?_
        refine i_getC (r := 10) q_X11_lodgesOnOrBehind_24 fl_X11_31 (a3 hB) rfl (by decide) ?_
        refine e_iload_n q_X11_lodgesOnOrBehind_27 (by decide) rfl ?_
        obtain ⟨ax, hyx⟩ := hI.ys (i) (by omega) (by omega)
        obtain ⟨y88x, yAx, y10x, y0x, y1x, y2x, y3x⟩ := id hyx
        refine i_aald q_X11_lodgesOnOrBehind_28 (a10 hB) (by decide) (fun _ => rfl) (by omega) (by omega) (by decide) y10x (by omega) ?_
        refine i_getI (k' := 3) q_X11_lodgesOnOrBehind_29 fl_X11_412 yAx (cref0 (by omega) _) rfl rfl y3x ?_
        refine e_iload_n q_X11_lodgesOnOrBehind_32 (by decide) rfl ?_
        refine e_icmp_lt q_X11_lodgesOnOrBehind_33 (by first | exact hR _ _ | (constructor <;> omega) | assumption) (by first | exact hR _ _ | (constructor <;> omega) | assumption) (fun c33 => ?_) (fun c33 => ?_)
        · skip
          refine e_iinc (ls' := [_, _, _, _]) q_X11_lodgesOnOrBehind_38 (by decide) rfl rfl rfl ?_
          refine e_goto q_X11_lodgesOnOrBehind_41 ?_
          exact ih (z_lt1 hn (by omega))
        · skip
          refine e_iconst q_X11_lodgesOnOrBehind_36 ?_
          refine e_ireturn q_X11_lodgesOnOrBehind_37 rfl rfl ?_
          exact zqT h ⟨i, by omega, c20, by omega⟩
  · skip
    refine e_iload_n q_X11_lodgesOnOrBehind_2 (by decide) rfl ?_
    refine e_aload_n q_X11_lodgesOnOrBehind_3 (by decide) rfl ?_
    refine i_getI (k' := 8) q_X11_lodgesOnOrBehind_4 fl_X11_259 (a3 hB) rfl rfl rfl e8 ?_
    refine e_icmp_ge q_X11_lodgesOnOrBehind_7 (by first | exact hR _ _ | (constructor <;> omega) | assumption) (by first | exact hR _ _ | (constructor <;> omega) | assumption) (fun c7 => ?_) (fun c7 => ?_)
    · skip
      refine e_iconst q_X11_lodgesOnOrBehind_44 ?_
      refine e_ireturn q_X11_lodgesOnOrBehind_45 rfl rfl ?_
      exact zqF h (fun q => by obtain ⟨k, q1, q2⟩ := q; exact hn k (by omega) q2)
    · skip
      exact absurd (by omega) c7
theorem cnt_mono {p : Nat → Prop} {m n : Nat} (h : m ≤ n) : cnt p m ≤ cnt p n := by
  induction n with
  | zero => have : m = 0 := by omega
            rw [this]; exact Int.le_refl _
  | succ n ih =>
    by_cases e : m = n + 1
    · rw [e]; exact Int.le_refl _
    · have h1 := ih (by omega)
      have h2 := bi_r (p n)
      rw [cnt_s]
      omega
theorem cnt_flat {p : Nat → Prop} {m n : Nat} (h : m ≤ n) (hf : ∀ j, m ≤ j → j < n → ¬ p j) : cnt p n = cnt p m := by
  induction n with
  | zero => have : m = 0 := by omega
            rw [this]
  | succ n ih =>
    by_cases e : m = n + 1
    · rw [e]
    · rw [cnt_f (hf n (by omega) (by omega)), Int.add_zero]
      exact ih (by omega) (fun j h1 h2 => hf j h1 (by omega))
set_option maxRecDepth 20000 in
set_option maxHeartbeats 2000000 in
theorem x_hasLodgedLong (hI : xI s N fa sa) {k : Int} {a : Nat} (h0 : 0 ≤ k) (h1 : k < N 39 36) (hy : xSty s N k a) {d : Int} (hd : -1 ≤ d ∧ d ≤ 9999) (hfd : N 65 k ≤ d) (h : Q (some (vi (bi (N 39 18 ≤ nightsC N k d)))) (zI s N)) : zC X m_X11_hasLodgedLong [.ref 3, .ref a, vi d] (zI s N) Q := by
  have hB := hI.B
  have hR := hI.R
  have hC := hI.C
  unfold mCnt at hC
  have hm := hI.m
  obtain ⟨e1, e5, e7, e8, e10, e11, e3, e12, eh, eg, ef, et⟩ := hI.hs
  have hst := hm.2.2.2.2.2.1 k h0 h1
  obtain ⟨y88, yA, y10, y0, y1, y2, y3⟩ := hy
  show zE X m_X11_hasLodgedLong 0 [.ref 3, .ref a, vi d, zU, zU, zU] [] _ Q
  obtain ⟨hll, lk, ln⟩ := hI.law
  rcases hll with ⟨l1, l2⟩ | ⟨l1, l2⟩
  · have ln : (N 14 2 = N 39 18 ∧ 1 ≤ N 39 18 ∧ N 39 18 ≤ 9) ∨ (N 14 2 = 0 ∧ N 39 18 = 100000) := by rw [l1] at ln; exact ln
    have key : N 14 2 ≠ 0 → ∀ (f : Nat) (at0 : Int) (n : Nat), d + 1 - at0 < f → at0 = N 65 k + n → at0 ≤ 10000 → (∀ j : Nat, d + 1 - N 65 k ≤ j → j < n → ¬ (fun i : Nat => ¬ fairD N (N 65 k + i)) j) → ∀ u : Value, zE X m_X11_hasLodgedLong 20 [.ref 3, .ref a, vi d, vi (cnt (fun i : Nat => ¬ fairD N (N 65 k + i)) n), vi at0, u] [] (zI s N) Q := by
      intro hL0 f
      induction f with
      | zero =>
        intro at0 n hf hat h10 hfl u
        have hf : d + 1 - at0 < 0 := by simpa using hf
        refine e_iload q_X11_hasLodgedLong_20 (by decide) rfl ?_
        refine e_iload_n q_X11_hasLodgedLong_22 (by decide) rfl ?_
        refine e_icmp_gt q_X11_hasLodgedLong_23 (by first | exact hR _ _ | (constructor <;> omega) | assumption) (by first | exact hR _ _ | (constructor <;> omega) | assumption) (fun c23 => ?_) (fun c23 => ?_)
        · skip
          have hcb := cnt_b (fun i : Nat => ¬ fairD N (N 65 k + i)) n
          refine e_iload_n q_X11_hasLodgedLong_75 (by decide) rfl ?_
          refine e_aload_n q_X11_hasLodgedLong_76 (by decide) rfl ?_
          refine i_getR (r := 14) (k' := 13) q_X11_hasLodgedLong_77 fl_X11_51 (a3 hB) rfl rfl rfl l1 (by decide) ?_
          refine i_getI (k' := 2) q_X11_hasLodgedLong_80 fl_X11_85 (a14 hB) rfl rfl rfl rfl ?_
          refine e_icmp_lt q_X11_hasLodgedLong_83 (by first | exact hR _ _ | (constructor <;> omega) | assumption) (by first | exact hR _ _ | (constructor <;> omega) | assumption) (fun c83 => ?_) (fun c83 => ?_)
          · skip
            refine e_iconst q_X11_hasLodgedLong_90 ?_
            refine e_ireturn q_X11_hasLodgedLong_91 rfl rfl ?_
            have hcb := cnt_b (fun i : Nat => ¬ fairD N (N 65 k + i)) n
            have hA : n ≤ (d + 1 - N 65 k).toNat → cnt (fun i : Nat => ¬ fairD N (N 65 k + i)) n ≤ nightsC N k d := fun hh => cnt_mono hh
            have hBf : (d + 1 - N 65 k).toNat ≤ n → cnt (fun i : Nat => ¬ fairD N (N 65 k + i)) n = nightsC N k d := fun hh => cnt_flat hh (fun j hj1 hj2 => hfl j (by omega) hj2)
            by_cases hnB : (d + 1 - N 65 k).toNat ≤ n
            · have hBf := hBf hnB
              first | exact zqT h (by omega) | exact zqF h (by omega)
            · have hA := hA (by omega)
              first | exact zqT h (by omega) | exact zqF h (by omega)
          · skip
            refine e_iconst q_X11_hasLodgedLong_86 ?_
            refine e_goto q_X11_hasLodgedLong_87 ?_
            refine e_ireturn q_X11_hasLodgedLong_91 rfl rfl ?_
            have hcb := cnt_b (fun i : Nat => ¬ fairD N (N 65 k + i)) n
            have hA : n ≤ (d + 1 - N 65 k).toNat → cnt (fun i : Nat => ¬ fairD N (N 65 k + i)) n ≤ nightsC N k d := fun hh => cnt_mono hh
            have hBf : (d + 1 - N 65 k).toNat ≤ n → cnt (fun i : Nat => ¬ fairD N (N 65 k + i)) n = nightsC N k d := fun hh => cnt_flat hh (fun j hj1 hj2 => hfl j (by omega) hj2)
            by_cases hnB : (d + 1 - N 65 k).toNat ≤ n
            · have hBf := hBf hnB
              first | exact zqT h (by omega) | exact zqF h (by omega)
            · have hA := hA (by omega)
              first | exact zqT h (by omega) | exact zqF h (by omega)
        · skip
          exact absurd c23 (by omega)
      | succ f ih =>
        intro at0 n hf hat h10 hfl u
        refine e_iload q_X11_hasLodgedLong_20 (by decide) rfl ?_
        refine e_iload_n q_X11_hasLodgedLong_22 (by decide) rfl ?_
        refine e_icmp_gt q_X11_hasLodgedLong_23 (by first | exact hR _ _ | (constructor <;> omega) | assumption) (by first | exact hR _ _ | (constructor <;> omega) | assumption) (fun c23 => ?_) (fun c23 => ?_)
        · skip
          have hcb := cnt_b (fun i : Nat => ¬ fairD N (N 65 k + i)) n
          refine e_iload_n q_X11_hasLodgedLong_75 (by decide) rfl ?_
          refine e_aload_n q_X11_hasLodgedLong_76 (by decide) rfl ?_
          refine i_getR (r := 14) (k' := 13) q_X11_hasLodgedLong_77 fl_X11_51 (a3 hB) rfl rfl rfl l1 (by decide) ?_
          refine i_getI (k' := 2) q_X11_hasLodgedLong_80 fl_X11_85 (a14 hB) rfl rfl rfl rfl ?_
          refine e_icmp_lt q_X11_hasLodgedLong_83 (by first | exact hR _ _ | (constructor <;> omega) | assumption) (by first | exact hR _ _ | (constructor <;> omega) | assumption) (fun c83 => ?_) (fun c83 => ?_)
          · skip
            refine e_iconst q_X11_hasLodgedLong_90 ?_
            refine e_ireturn q_X11_hasLodgedLong_91 rfl rfl ?_
            have hcb := cnt_b (fun i : Nat => ¬ fairD N (N 65 k + i)) n
            have hA : n ≤ (d + 1 - N 65 k).toNat → cnt (fun i : Nat => ¬ fairD N (N 65 k + i)) n ≤ nightsC N k d := fun hh => cnt_mono hh
            have hBf : (d + 1 - N 65 k).toNat ≤ n → cnt (fun i : Nat => ¬ fairD N (N 65 k + i)) n = nightsC N k d := fun hh => cnt_flat hh (fun j hj1 hj2 => hfl j (by omega) hj2)
            by_cases hnB : (d + 1 - N 65 k).toNat ≤ n
            · have hBf := hBf hnB
              first | exact zqT h (by omega) | exact zqF h (by omega)
            · have hA := hA (by omega)
              first | exact zqT h (by omega) | exact zqF h (by omega)
          · skip
            refine e_iconst q_X11_hasLodgedLong_86 ?_
            refine e_goto q_X11_hasLodgedLong_87 ?_
            refine e_ireturn q_X11_hasLodgedLong_91 rfl rfl ?_
            have hcb := cnt_b (fun i : Nat => ¬ fairD N (N 65 k + i)) n
            have hA : n ≤ (d + 1 - N 65 k).toNat → cnt (fun i : Nat => ¬ fairD N (N 65 k + i)) n ≤ nightsC N k d := fun hh => cnt_mono hh
            have hBf : (d + 1 - N 65 k).toNat ≤ n → cnt (fun i : Nat => ¬ fairD N (N 65 k + i)) n = nightsC N k d := fun hh => cnt_flat hh (fun j hj1 hj2 => hfl j (by omega) hj2)
            by_cases hnB : (d + 1 - N 65 k).toNat ≤ n
            · have hBf := hBf hnB
              first | exact zqT h (by omega) | exact zqF h (by omega)
            · have hA := hA (by omega)
              first | exact zqT h (by omega) | exact zqF h (by omega)
        · skip
          have hcb := cnt_b (fun i : Nat => ¬ fairD N (N 65 k + i)) n
          refine e_iload_n q_X11_hasLodgedLong_26 (by decide) rfl ?_
          refine e_aload_n q_X11_hasLodgedLong_27 (by decide) rfl ?_
          refine i_getR (r := 14) (k' := 13) q_X11_hasLodgedLong_28 fl_X11_51 (a3 hB) rfl rfl rfl l1 (by decide) ?_
          refine i_getI (k' := 2) q_X11_hasLodgedLong_31 fl_X11_85 (a14 hB) rfl rfl rfl rfl ?_
          refine e_icmp_ge q_X11_hasLodgedLong_34 (by first | exact hR _ _ | (constructor <;> omega) | assumption) (by first | exact hR _ _ | (constructor <;> omega) | assumption) (fun c34 => ?_) (fun c34 => ?_)
          · skip
            have hcb := cnt_b (fun i : Nat => ¬ fairD N (N 65 k + i)) n
            refine e_iload_n q_X11_hasLodgedLong_75 (by decide) rfl ?_
            refine e_aload_n q_X11_hasLodgedLong_76 (by decide) rfl ?_
            refine i_getR (r := 14) (k' := 13) q_X11_hasLodgedLong_77 fl_X11_51 (a3 hB) rfl rfl rfl l1 (by decide) ?_
            refine i_getI (k' := 2) q_X11_hasLodgedLong_80 fl_X11_85 (a14 hB) rfl rfl rfl rfl ?_
            refine e_icmp_lt q_X11_hasLodgedLong_83 (by first | exact hR _ _ | (constructor <;> omega) | assumption) (by first | exact hR _ _ | (constructor <;> omega) | assumption) (fun c83 => ?_) (fun c83 => ?_)
            · skip
              refine e_iconst q_X11_hasLodgedLong_90 ?_
              refine e_ireturn q_X11_hasLodgedLong_91 rfl rfl ?_
              have hcb := cnt_b (fun i : Nat => ¬ fairD N (N 65 k + i)) n
              have hA : n ≤ (d + 1 - N 65 k).toNat → cnt (fun i : Nat => ¬ fairD N (N 65 k + i)) n ≤ nightsC N k d := fun hh => cnt_mono hh
              have hBf : (d + 1 - N 65 k).toNat ≤ n → cnt (fun i : Nat => ¬ fairD N (N 65 k + i)) n = nightsC N k d := fun hh => cnt_flat hh (fun j hj1 hj2 => hfl j (by omega) hj2)
              by_cases hnB : (d + 1 - N 65 k).toNat ≤ n
              · have hBf := hBf hnB
                first | exact zqT h (by omega) | exact zqF h (by omega)
              · have hA := hA (by omega)
                first | exact zqT h (by omega) | exact zqF h (by omega)
            · skip
              refine e_iconst q_X11_hasLodgedLong_86 ?_
              refine e_goto q_X11_hasLodgedLong_87 ?_
              refine e_ireturn q_X11_hasLodgedLong_91 rfl rfl ?_
              have hcb := cnt_b (fun i : Nat => ¬ fairD N (N 65 k + i)) n
              have hA : n ≤ (d + 1 - N 65 k).toNat → cnt (fun i : Nat => ¬ fairD N (N 65 k + i)) n ≤ nightsC N k d := fun hh => cnt_mono hh
              have hBf : (d + 1 - N 65 k).toNat ≤ n → cnt (fun i : Nat => ¬ fairD N (N 65 k + i)) n = nightsC N k d := fun hh => cnt_flat hh (fun j hj1 hj2 => hfl j (by omega) hj2)
              by_cases hnB : (d + 1 - N 65 k).toNat ≤ n
              · have hBf := hBf hnB
                first | exact zqT h (by omega) | exact zqF h (by omega)
              · have hA := hA (by omega)
                first | exact zqT h (by omega) | exact zqF h (by omega)
          · skip
            refine e_aload_n q_X11_hasLodgedLong_37 (by decide) rfl ?_
            refine i_getC (r := 7) q_X11_hasLodgedLong_38 fl_X11_25 (a3 hB) rfl (by decide) ?_
            refine e_iload q_X11_hasLodgedLong_41 (by decide) rfl ?_
            refine iv_X0_endAround q_X11_hasLodgedLong_43 lk_X11_425 (by decide) (a7 hB) (Nat.le_of_ble_eq_true rfl) ?_
            refine x_endAround hI (by constructor <;> omega) (fun hnf => ?_) (fun q hq0 hq1 hq2 => ?_)
            · skip
              have hkind := 0
              refine e_istore (ls' := [_, _, _, _, _, _]) q_X11_hasLodgedLong_46 (by decide) rfl rfl ?_
              refine e_iload q_X11_hasLodgedLong_48 (by decide) rfl ?_
              refine e_iconst q_X11_hasLodgedLong_50 ?_
              refine e_icmp_ne q_X11_hasLodgedLong_51 (by first | exact hR _ _ | (constructor <;> omega) | assumption) (by first | exact hR _ _ | (constructor <;> omega) | assumption) (fun c51 => ?_) (fun c51 => ?_)
              · skip
                refine e_iload q_X11_hasLodgedLong_60 (by decide) rfl ?_
                refine e_iload q_X11_hasLodgedLong_62 (by decide) rfl ?_
                refine e_max q_X11_hasLodgedLong_64 lk_X11_428 mm_max_s ini_J9 mm_max_c (by decide) (by decide) (Nat.le_of_ble_eq_true rfl) (by first | exact hR _ _ | (constructor <;> omega) | assumption) (by first | exact hR _ _ | (constructor <;> omega) | assumption) ?_
                refine e_istore (ls' := [_, _, _, _, _, _]) q_X11_hasLodgedLong_67 (by decide) rfl rfl ?_
                refine e_iinc (ls' := [_, _, _, _, _, _]) q_X11_hasLodgedLong_69 (by decide) rfl rfl rfl ?_
                refine e_goto q_X11_hasLodgedLong_72 ?_
                exfalso; omega
              · skip
                refine e_iinc (ls' := [_, _, _, _, _, _]) q_X11_hasLodgedLong_54 (by decide) rfl rfl rfl ?_
                refine e_goto q_X11_hasLodgedLong_57 ?_
                refine e_iinc (ls' := [_, _, _, _, _, _]) q_X11_hasLodgedLong_69 (by decide) rfl rfl rfl ?_
                refine e_goto q_X11_hasLodgedLong_72 ?_
                exact zEe (ih (at0 + 1) (n + 1) (by omega) (by omega) (by omega) (fun j hj1 hj2 => by omega) _) (by rw [cnt_t (p := fun i : Nat => ¬ fairD N (N 65 k + i)) (by rw [show N 65 k + (n : Int) = at0 by omega]; exact hnf)]) rfl
            · skip
              have hq3 := ((ef q (by omega) (by omega)).2.2 hq0)
              refine e_istore (ls' := [_, _, _, _, _, _]) q_X11_hasLodgedLong_46 (by decide) rfl rfl ?_
              refine e_iload q_X11_hasLodgedLong_48 (by decide) rfl ?_
              refine e_iconst q_X11_hasLodgedLong_50 ?_
              refine e_icmp_ne q_X11_hasLodgedLong_51 (by first | exact hR _ _ | (constructor <;> omega) | assumption) (by first | exact hR _ _ | (constructor <;> omega) | assumption) (fun c51 => ?_) (fun c51 => ?_)
              · skip
                refine e_iload q_X11_hasLodgedLong_60 (by decide) rfl ?_
                refine e_iload q_X11_hasLodgedLong_62 (by decide) rfl ?_
                refine e_max q_X11_hasLodgedLong_64 lk_X11_428 mm_max_s ini_J9 mm_max_c (by decide) (by decide) (Nat.le_of_ble_eq_true rfl) (by first | exact hR _ _ | (constructor <;> omega) | assumption) (by first | exact hR _ _ | (constructor <;> omega) | assumption) ?_
                refine e_istore (ls' := [_, _, _, _, _, _]) q_X11_hasLodgedLong_67 (by decide) rfl rfl ?_
                refine e_iinc (ls' := [_, _, _, _, _, _]) q_X11_hasLodgedLong_69 (by decide) rfl rfl rfl ?_
                refine e_goto q_X11_hasLodgedLong_72 ?_
                have em : max at0 (N 57 q) = N 57 q := by omega
                have ef2 : cnt (fun i : Nat => ¬ fairD N (N 65 k + i)) (N 57 q + 1 - N 65 k).toNat = cnt (fun i : Nat => ¬ fairD N (N 65 k + i)) n := cnt_flat (by omega) (fun j hj1 hj2 hj3 => hj3 ⟨q, hq0, by omega, by omega⟩)
                rw [em]
                exact zEe (ih (N 57 q + 1) (N 57 q + 1 - N 65 k).toNat (by omega) (by omega) (by omega) (fun j hj1 hj2 hj3 => hj3 ⟨q, hq0, by omega, by omega⟩) _) (by rw [ef2]) rfl
              · skip
                refine e_iinc (ls' := [_, _, _, _, _, _]) q_X11_hasLodgedLong_54 (by decide) rfl rfl rfl ?_
                refine e_goto q_X11_hasLodgedLong_57 ?_
                refine e_iinc (ls' := [_, _, _, _, _, _]) q_X11_hasLodgedLong_69 (by decide) rfl rfl rfl ?_
                refine e_goto q_X11_hasLodgedLong_72 ?_
                exfalso; omega
    refine e_aload_n q_X11_hasLodgedLong_0 (by decide) rfl ?_
    refine i_getR (r := 14) (k' := 13) q_X11_hasLodgedLong_1 fl_X11_51 (a3 hB) rfl rfl rfl l1 (by decide) ?_
    refine i_getI (k' := 2) q_X11_hasLodgedLong_4 fl_X11_85 (a14 hB) rfl rfl rfl rfl ?_
    refine e_if_ne q_X11_hasLodgedLong_7 (by first | exact hR _ _ | (constructor <;> omega) | assumption) (fun c7 => ?_) (fun c7 => ?_)
    · skip
      refine e_iconst q_X11_hasLodgedLong_12 ?_
      refine e_istore_n (ls' := [_, _, _, _, _, _]) q_X11_hasLodgedLong_13 (by decide) rfl rfl ?_
      refine e_aload_n q_X11_hasLodgedLong_14 (by decide) rfl ?_
      refine i_getI (k' := 2) q_X11_hasLodgedLong_15 fl_X11_415 yA (cref0 (by omega) _) rfl rfl y2 ?_
      refine e_istore (ls' := [_, _, _, _, _, _]) q_X11_hasLodgedLong_18 (by decide) rfl rfl ?_
      exact zEe (key c7 ((d + 1 - N 65 k).toNat + 1) (N 65 k) 0 (by omega) (by omega) (by omega) (fun j hj1 hj2 => by omega) zU) (by simp [cnt, sumK]) rfl
    · skip
      refine e_iconst q_X11_hasLodgedLong_10 ?_
      refine e_ireturn q_X11_hasLodgedLong_11 rfl rfl ?_
      exact zqF h (by have := nightsC_r (N := N) (k := k) (d := d) hst.2.2.1 hd.2; omega)
  · have ln : (N 17 2 = N 39 18 ∧ 1 ≤ N 39 18 ∧ N 39 18 ≤ 9) ∨ (N 17 2 = 0 ∧ N 39 18 = 100000) := by rw [l1] at ln; exact ln
    have key : N 17 2 ≠ 0 → ∀ (f : Nat) (at0 : Int) (n : Nat), d + 1 - at0 < f → at0 = N 65 k + n → at0 ≤ 10000 → (∀ j : Nat, d + 1 - N 65 k ≤ j → j < n → ¬ (fun i : Nat => ¬ fairD N (N 65 k + i)) j) → ∀ u : Value, zE X m_X11_hasLodgedLong 20 [.ref 3, .ref a, vi d, vi (cnt (fun i : Nat => ¬ fairD N (N 65 k + i)) n), vi at0, u] [] (zI s N) Q := by
      intro hL0 f
      induction f with
      | zero =>
        intro at0 n hf hat h10 hfl u
        have hf : d + 1 - at0 < 0 := by simpa using hf
        refine e_iload q_X11_hasLodgedLong_20 (by decide) rfl ?_
        refine e_iload_n q_X11_hasLodgedLong_22 (by decide) rfl ?_
        refine e_icmp_gt q_X11_hasLodgedLong_23 (by first | exact hR _ _ | (constructor <;> omega) | assumption) (by first | exact hR _ _ | (constructor <;> omega) | assumption) (fun c23 => ?_) (fun c23 => ?_)
        · skip
          have hcb := cnt_b (fun i : Nat => ¬ fairD N (N 65 k + i)) n
          refine e_iload_n q_X11_hasLodgedLong_75 (by decide) rfl ?_
          refine e_aload_n q_X11_hasLodgedLong_76 (by decide) rfl ?_
          refine i_getR (r := 17) (k' := 13) q_X11_hasLodgedLong_77 fl_X11_51 (a3 hB) rfl rfl rfl l1 (by decide) ?_
          refine i_getI (k' := 2) q_X11_hasLodgedLong_80 fl_X11_85 (a17 hB) rfl rfl rfl rfl ?_
          refine e_icmp_lt q_X11_hasLodgedLong_83 (by first | exact hR _ _ | (constructor <;> omega) | assumption) (by first | exact hR _ _ | (constructor <;> omega) | assumption) (fun c83 => ?_) (fun c83 => ?_)
          · skip
            refine e_iconst q_X11_hasLodgedLong_90 ?_
            refine e_ireturn q_X11_hasLodgedLong_91 rfl rfl ?_
            have hcb := cnt_b (fun i : Nat => ¬ fairD N (N 65 k + i)) n
            have hA : n ≤ (d + 1 - N 65 k).toNat → cnt (fun i : Nat => ¬ fairD N (N 65 k + i)) n ≤ nightsC N k d := fun hh => cnt_mono hh
            have hBf : (d + 1 - N 65 k).toNat ≤ n → cnt (fun i : Nat => ¬ fairD N (N 65 k + i)) n = nightsC N k d := fun hh => cnt_flat hh (fun j hj1 hj2 => hfl j (by omega) hj2)
            by_cases hnB : (d + 1 - N 65 k).toNat ≤ n
            · have hBf := hBf hnB
              first | exact zqT h (by omega) | exact zqF h (by omega)
            · have hA := hA (by omega)
              first | exact zqT h (by omega) | exact zqF h (by omega)
          · skip
            refine e_iconst q_X11_hasLodgedLong_86 ?_
            refine e_goto q_X11_hasLodgedLong_87 ?_
            refine e_ireturn q_X11_hasLodgedLong_91 rfl rfl ?_
            have hcb := cnt_b (fun i : Nat => ¬ fairD N (N 65 k + i)) n
            have hA : n ≤ (d + 1 - N 65 k).toNat → cnt (fun i : Nat => ¬ fairD N (N 65 k + i)) n ≤ nightsC N k d := fun hh => cnt_mono hh
            have hBf : (d + 1 - N 65 k).toNat ≤ n → cnt (fun i : Nat => ¬ fairD N (N 65 k + i)) n = nightsC N k d := fun hh => cnt_flat hh (fun j hj1 hj2 => hfl j (by omega) hj2)
            by_cases hnB : (d + 1 - N 65 k).toNat ≤ n
            · have hBf := hBf hnB
              first | exact zqT h (by omega) | exact zqF h (by omega)
            · have hA := hA (by omega)
              first | exact zqT h (by omega) | exact zqF h (by omega)
        · skip
          exact absurd c23 (by omega)
      | succ f ih =>
        intro at0 n hf hat h10 hfl u
        refine e_iload q_X11_hasLodgedLong_20 (by decide) rfl ?_
        refine e_iload_n q_X11_hasLodgedLong_22 (by decide) rfl ?_
        refine e_icmp_gt q_X11_hasLodgedLong_23 (by first | exact hR _ _ | (constructor <;> omega) | assumption) (by first | exact hR _ _ | (constructor <;> omega) | assumption) (fun c23 => ?_) (fun c23 => ?_)
        · skip
          have hcb := cnt_b (fun i : Nat => ¬ fairD N (N 65 k + i)) n
          refine e_iload_n q_X11_hasLodgedLong_75 (by decide) rfl ?_
          refine e_aload_n q_X11_hasLodgedLong_76 (by decide) rfl ?_
          refine i_getR (r := 17) (k' := 13) q_X11_hasLodgedLong_77 fl_X11_51 (a3 hB) rfl rfl rfl l1 (by decide) ?_
          refine i_getI (k' := 2) q_X11_hasLodgedLong_80 fl_X11_85 (a17 hB) rfl rfl rfl rfl ?_
          refine e_icmp_lt q_X11_hasLodgedLong_83 (by first | exact hR _ _ | (constructor <;> omega) | assumption) (by first | exact hR _ _ | (constructor <;> omega) | assumption) (fun c83 => ?_) (fun c83 => ?_)
          · skip
            refine e_iconst q_X11_hasLodgedLong_90 ?_
            refine e_ireturn q_X11_hasLodgedLong_91 rfl rfl ?_
            have hcb := cnt_b (fun i : Nat => ¬ fairD N (N 65 k + i)) n
            have hA : n ≤ (d + 1 - N 65 k).toNat → cnt (fun i : Nat => ¬ fairD N (N 65 k + i)) n ≤ nightsC N k d := fun hh => cnt_mono hh
            have hBf : (d + 1 - N 65 k).toNat ≤ n → cnt (fun i : Nat => ¬ fairD N (N 65 k + i)) n = nightsC N k d := fun hh => cnt_flat hh (fun j hj1 hj2 => hfl j (by omega) hj2)
            by_cases hnB : (d + 1 - N 65 k).toNat ≤ n
            · have hBf := hBf hnB
              first | exact zqT h (by omega) | exact zqF h (by omega)
            · have hA := hA (by omega)
              first | exact zqT h (by omega) | exact zqF h (by omega)
          · skip
            refine e_iconst q_X11_hasLodgedLong_86 ?_
            refine e_goto q_X11_hasLodgedLong_87 ?_
            refine e_ireturn q_X11_hasLodgedLong_91 rfl rfl ?_
            have hcb := cnt_b (fun i : Nat => ¬ fairD N (N 65 k + i)) n
            have hA : n ≤ (d + 1 - N 65 k).toNat → cnt (fun i : Nat => ¬ fairD N (N 65 k + i)) n ≤ nightsC N k d := fun hh => cnt_mono hh
            have hBf : (d + 1 - N 65 k).toNat ≤ n → cnt (fun i : Nat => ¬ fairD N (N 65 k + i)) n = nightsC N k d := fun hh => cnt_flat hh (fun j hj1 hj2 => hfl j (by omega) hj2)
            by_cases hnB : (d + 1 - N 65 k).toNat ≤ n
            · have hBf := hBf hnB
              first | exact zqT h (by omega) | exact zqF h (by omega)
            · have hA := hA (by omega)
              first | exact zqT h (by omega) | exact zqF h (by omega)
        · skip
          have hcb := cnt_b (fun i : Nat => ¬ fairD N (N 65 k + i)) n
          refine e_iload_n q_X11_hasLodgedLong_26 (by decide) rfl ?_
          refine e_aload_n q_X11_hasLodgedLong_27 (by decide) rfl ?_
          refine i_getR (r := 17) (k' := 13) q_X11_hasLodgedLong_28 fl_X11_51 (a3 hB) rfl rfl rfl l1 (by decide) ?_
          refine i_getI (k' := 2) q_X11_hasLodgedLong_31 fl_X11_85 (a17 hB) rfl rfl rfl rfl ?_
          refine e_icmp_ge q_X11_hasLodgedLong_34 (by first | exact hR _ _ | (constructor <;> omega) | assumption) (by first | exact hR _ _ | (constructor <;> omega) | assumption) (fun c34 => ?_) (fun c34 => ?_)
          · skip
            have hcb := cnt_b (fun i : Nat => ¬ fairD N (N 65 k + i)) n
            refine e_iload_n q_X11_hasLodgedLong_75 (by decide) rfl ?_
            refine e_aload_n q_X11_hasLodgedLong_76 (by decide) rfl ?_
            refine i_getR (r := 17) (k' := 13) q_X11_hasLodgedLong_77 fl_X11_51 (a3 hB) rfl rfl rfl l1 (by decide) ?_
            refine i_getI (k' := 2) q_X11_hasLodgedLong_80 fl_X11_85 (a17 hB) rfl rfl rfl rfl ?_
            refine e_icmp_lt q_X11_hasLodgedLong_83 (by first | exact hR _ _ | (constructor <;> omega) | assumption) (by first | exact hR _ _ | (constructor <;> omega) | assumption) (fun c83 => ?_) (fun c83 => ?_)
            · skip
              refine e_iconst q_X11_hasLodgedLong_90 ?_
              refine e_ireturn q_X11_hasLodgedLong_91 rfl rfl ?_
              have hcb := cnt_b (fun i : Nat => ¬ fairD N (N 65 k + i)) n
              have hA : n ≤ (d + 1 - N 65 k).toNat → cnt (fun i : Nat => ¬ fairD N (N 65 k + i)) n ≤ nightsC N k d := fun hh => cnt_mono hh
              have hBf : (d + 1 - N 65 k).toNat ≤ n → cnt (fun i : Nat => ¬ fairD N (N 65 k + i)) n = nightsC N k d := fun hh => cnt_flat hh (fun j hj1 hj2 => hfl j (by omega) hj2)
              by_cases hnB : (d + 1 - N 65 k).toNat ≤ n
              · have hBf := hBf hnB
                first | exact zqT h (by omega) | exact zqF h (by omega)
              · have hA := hA (by omega)
                first | exact zqT h (by omega) | exact zqF h (by omega)
            · skip
              refine e_iconst q_X11_hasLodgedLong_86 ?_
              refine e_goto q_X11_hasLodgedLong_87 ?_
              refine e_ireturn q_X11_hasLodgedLong_91 rfl rfl ?_
              have hcb := cnt_b (fun i : Nat => ¬ fairD N (N 65 k + i)) n
              have hA : n ≤ (d + 1 - N 65 k).toNat → cnt (fun i : Nat => ¬ fairD N (N 65 k + i)) n ≤ nightsC N k d := fun hh => cnt_mono hh
              have hBf : (d + 1 - N 65 k).toNat ≤ n → cnt (fun i : Nat => ¬ fairD N (N 65 k + i)) n = nightsC N k d := fun hh => cnt_flat hh (fun j hj1 hj2 => hfl j (by omega) hj2)
              by_cases hnB : (d + 1 - N 65 k).toNat ≤ n
              · have hBf := hBf hnB
                first | exact zqT h (by omega) | exact zqF h (by omega)
              · have hA := hA (by omega)
                first | exact zqT h (by omega) | exact zqF h (by omega)
          · skip
            refine e_aload_n q_X11_hasLodgedLong_37 (by decide) rfl ?_
            refine i_getC (r := 7) q_X11_hasLodgedLong_38 fl_X11_25 (a3 hB) rfl (by decide) ?_
            refine e_iload q_X11_hasLodgedLong_41 (by decide) rfl ?_
            refine iv_X0_endAround q_X11_hasLodgedLong_43 lk_X11_425 (by decide) (a7 hB) (Nat.le_of_ble_eq_true rfl) ?_
            refine x_endAround hI (by constructor <;> omega) (fun hnf => ?_) (fun q hq0 hq1 hq2 => ?_)
            · skip
              have hkind := 0
              refine e_istore (ls' := [_, _, _, _, _, _]) q_X11_hasLodgedLong_46 (by decide) rfl rfl ?_
              refine e_iload q_X11_hasLodgedLong_48 (by decide) rfl ?_
              refine e_iconst q_X11_hasLodgedLong_50 ?_
              refine e_icmp_ne q_X11_hasLodgedLong_51 (by first | exact hR _ _ | (constructor <;> omega) | assumption) (by first | exact hR _ _ | (constructor <;> omega) | assumption) (fun c51 => ?_) (fun c51 => ?_)
              · skip
                refine e_iload q_X11_hasLodgedLong_60 (by decide) rfl ?_
                refine e_iload q_X11_hasLodgedLong_62 (by decide) rfl ?_
                refine e_max q_X11_hasLodgedLong_64 lk_X11_428 mm_max_s ini_J9 mm_max_c (by decide) (by decide) (Nat.le_of_ble_eq_true rfl) (by first | exact hR _ _ | (constructor <;> omega) | assumption) (by first | exact hR _ _ | (constructor <;> omega) | assumption) ?_
                refine e_istore (ls' := [_, _, _, _, _, _]) q_X11_hasLodgedLong_67 (by decide) rfl rfl ?_
                refine e_iinc (ls' := [_, _, _, _, _, _]) q_X11_hasLodgedLong_69 (by decide) rfl rfl rfl ?_
                refine e_goto q_X11_hasLodgedLong_72 ?_
                exfalso; omega
              · skip
                refine e_iinc (ls' := [_, _, _, _, _, _]) q_X11_hasLodgedLong_54 (by decide) rfl rfl rfl ?_
                refine e_goto q_X11_hasLodgedLong_57 ?_
                refine e_iinc (ls' := [_, _, _, _, _, _]) q_X11_hasLodgedLong_69 (by decide) rfl rfl rfl ?_
                refine e_goto q_X11_hasLodgedLong_72 ?_
                exact zEe (ih (at0 + 1) (n + 1) (by omega) (by omega) (by omega) (fun j hj1 hj2 => by omega) _) (by rw [cnt_t (p := fun i : Nat => ¬ fairD N (N 65 k + i)) (by rw [show N 65 k + (n : Int) = at0 by omega]; exact hnf)]) rfl
            · skip
              have hq3 := ((ef q (by omega) (by omega)).2.2 hq0)
              refine e_istore (ls' := [_, _, _, _, _, _]) q_X11_hasLodgedLong_46 (by decide) rfl rfl ?_
              refine e_iload q_X11_hasLodgedLong_48 (by decide) rfl ?_
              refine e_iconst q_X11_hasLodgedLong_50 ?_
              refine e_icmp_ne q_X11_hasLodgedLong_51 (by first | exact hR _ _ | (constructor <;> omega) | assumption) (by first | exact hR _ _ | (constructor <;> omega) | assumption) (fun c51 => ?_) (fun c51 => ?_)
              · skip
                refine e_iload q_X11_hasLodgedLong_60 (by decide) rfl ?_
                refine e_iload q_X11_hasLodgedLong_62 (by decide) rfl ?_
                refine e_max q_X11_hasLodgedLong_64 lk_X11_428 mm_max_s ini_J9 mm_max_c (by decide) (by decide) (Nat.le_of_ble_eq_true rfl) (by first | exact hR _ _ | (constructor <;> omega) | assumption) (by first | exact hR _ _ | (constructor <;> omega) | assumption) ?_
                refine e_istore (ls' := [_, _, _, _, _, _]) q_X11_hasLodgedLong_67 (by decide) rfl rfl ?_
                refine e_iinc (ls' := [_, _, _, _, _, _]) q_X11_hasLodgedLong_69 (by decide) rfl rfl rfl ?_
                refine e_goto q_X11_hasLodgedLong_72 ?_
                have em : max at0 (N 57 q) = N 57 q := by omega
                have ef2 : cnt (fun i : Nat => ¬ fairD N (N 65 k + i)) (N 57 q + 1 - N 65 k).toNat = cnt (fun i : Nat => ¬ fairD N (N 65 k + i)) n := cnt_flat (by omega) (fun j hj1 hj2 hj3 => hj3 ⟨q, hq0, by omega, by omega⟩)
                rw [em]
                exact zEe (ih (N 57 q + 1) (N 57 q + 1 - N 65 k).toNat (by omega) (by omega) (by omega) (fun j hj1 hj2 hj3 => hj3 ⟨q, hq0, by omega, by omega⟩) _) (by rw [ef2]) rfl
              · skip
                refine e_iinc (ls' := [_, _, _, _, _, _]) q_X11_hasLodgedLong_54 (by decide) rfl rfl rfl ?_
                refine e_goto q_X11_hasLodgedLong_57 ?_
                refine e_iinc (ls' := [_, _, _, _, _, _]) q_X11_hasLodgedLong_69 (by decide) rfl rfl rfl ?_
                refine e_goto q_X11_hasLodgedLong_72 ?_
                exfalso; omega
    refine e_aload_n q_X11_hasLodgedLong_0 (by decide) rfl ?_
    refine i_getR (r := 17) (k' := 13) q_X11_hasLodgedLong_1 fl_X11_51 (a3 hB) rfl rfl rfl l1 (by decide) ?_
    refine i_getI (k' := 2) q_X11_hasLodgedLong_4 fl_X11_85 (a17 hB) rfl rfl rfl rfl ?_
    refine e_if_ne q_X11_hasLodgedLong_7 (by first | exact hR _ _ | (constructor <;> omega) | assumption) (fun c7 => ?_) (fun c7 => ?_)
    · skip
      refine e_iconst q_X11_hasLodgedLong_12 ?_
      refine e_istore_n (ls' := [_, _, _, _, _, _]) q_X11_hasLodgedLong_13 (by decide) rfl rfl ?_
      refine e_aload_n q_X11_hasLodgedLong_14 (by decide) rfl ?_
      refine i_getI (k' := 2) q_X11_hasLodgedLong_15 fl_X11_415 yA (cref0 (by omega) _) rfl rfl y2 ?_
      refine e_istore (ls' := [_, _, _, _, _, _]) q_X11_hasLodgedLong_18 (by decide) rfl rfl ?_
      exact zEe (key c7 ((d + 1 - N 65 k).toNat + 1) (N 65 k) 0 (by omega) (by omega) (by omega) (fun j hj1 hj2 => by omega) zU) (by simp [cnt, sumK]) rfl
    · skip
      refine e_iconst q_X11_hasLodgedLong_10 ?_
      refine e_ireturn q_X11_hasLodgedLong_11 rfl rfl ?_
      exact zqF h (by have := nightsC_r (N := N) (k := k) (d := d) hst.2.2.1 hd.2; omega)
end XS5
