/-! THE CALLS THAT ONLY ASK (printed by wip/whole/gen/m5.py) -/
section MR5
variable {X : zX} {s : zK} {N : zN} {σ : zS} {Q : Option Value → zS → Prop}
set_option maxRecDepth 20000 in
set_option maxHeartbeats 2000000 in
theorem k_about (hB : zB0 s) (hm : mI N){p : Int} (hp0 : zr p) {k : Int} (hk0 : zr k) (h : Q (some (vi (r_about N p k))) (zI s N)) : zC X m_X12_about [.ref 39, vi p, vi k] (zI s N) Q := by
  have hR := hm.1
  have hC := hm.2.1
  unfold mCnt at hC
  show zE X m_X12_about 0 [.ref 39, vi p, vi k, zU, zU] [] _ Q
  refine e_iload_n q_X12_about_0 (by decide) rfl ?_
  refine e_if_lt q_X12_about_1 hp0 (fun c1 => ?_) (fun c1 => ?_)
  · skip
    refine e_iconst q_X12_about_12 ?_
    refine e_ireturn q_X12_about_13 rfl rfl ?_
    exact zqI h (by unfold r_about; exact zif_f (by omega))
  · skip
    refine e_iload_n q_X12_about_4 (by decide) rfl ?_
    refine e_aload_n q_X12_about_5 (by decide) rfl ?_
    refine i_getI (k' := 50) q_X12_about_6 fl_X12_316 (a39 hB) rfl rfl rfl rfl ?_
    refine e_icmp_lt q_X12_about_9 hp0 (hR _ _) (fun c9 => ?_) (fun c9 => ?_)
    · skip
      have hp := hm.2.2.2.2.2.2 p (by omega) (by omega)
      refine e_iload_n q_X12_about_14 (by decide) rfl ?_
      rcases (show k < 0 ∨ k = 0 ∨ k = 1 ∨ k = 2 ∨ k = 3 ∨ k = 4 ∨ k = 5 ∨ 5 < k by omega) with hk | rfl | rfl | rfl | rfl | rfl | rfl | hk
      · skip
        refine e_tableOut (tgt := 160) q_X12_about_15 (by first | exact hR _ _ | (constructor <;> omega) | assumption) (by omega) rfl ?_
        refine e_iconst q_X12_about_160 ?_
        refine e_ireturn q_X12_about_161 rfl rfl ?_
        exact zqI h (by unfold r_about; rw [zif_t ⟨by omega, by omega⟩]; rw [if_neg (by omega), if_neg (by omega), if_neg (by omega), if_neg (by omega), if_neg (by omega), if_neg (by omega)])
      · skip
        refine e_tableIn (off := 37) (tgt := 52) q_X12_about_15 (by first | exact hR _ _ | (constructor <;> omega) | assumption) (by omega) (by omega) rfl rfl ?_
        refine e_aload_n q_X12_about_52 (by decide) rfl ?_
        refine i_getC (r := 48) q_X12_about_53 fl_X12_35 (a39 hB) rfl (by decide) ?_
        refine e_aload_n q_X12_about_56 (by decide) rfl ?_
        refine i_getC (r := 74) q_X12_about_57 fl_X12_118 (a39 hB) rfl (by decide) ?_
        refine e_iload_n q_X12_about_60 (by decide) rfl ?_
        refine i_iald q_X12_about_61 (a74 hB) (cref0 (by decide)) (by first | omega | assumption) (by first | omega | assumption) (by decide) rfl ?_
        refine i_iald q_X12_about_62 (a48 hB) (cref0 (by decide)) (by first | omega | assumption) (by first | omega | assumption) (by decide) rfl ?_
        refine e_ireturn q_X12_about_63 rfl rfl ?_
        exact zqI h (by unfold r_about; rw [zif_t ⟨by omega, by omega⟩]; rfl)
      · skip
        refine e_tableIn (off := 49) (tgt := 64) q_X12_about_15 (by first | exact hR _ _ | (constructor <;> omega) | assumption) (by omega) (by omega) rfl rfl ?_
        refine e_aload_n q_X12_about_64 (by decide) rfl ?_
        refine i_getC (r := 49) q_X12_about_65 fl_X12_38 (a39 hB) rfl (by decide) ?_
        refine e_aload_n q_X12_about_68 (by decide) rfl ?_
        refine i_getC (r := 74) q_X12_about_69 fl_X12_118 (a39 hB) rfl (by decide) ?_
        refine e_iload_n q_X12_about_72 (by decide) rfl ?_
        refine i_iald q_X12_about_73 (a74 hB) (cref0 (by decide)) (by first | omega | assumption) (by first | omega | assumption) (by decide) rfl ?_
        refine i_iald q_X12_about_74 (a49 hB) (cref0 (by decide)) (by first | omega | assumption) (by first | omega | assumption) (by decide) rfl ?_
        refine e_ireturn q_X12_about_75 rfl rfl ?_
        exact zqI h (by unfold r_about; rw [zif_t ⟨by omega, by omega⟩]; rfl)
      · skip
        refine e_tableIn (off := 61) (tgt := 76) q_X12_about_15 (by first | exact hR _ _ | (constructor <;> omega) | assumption) (by omega) (by omega) rfl rfl ?_
        refine e_aload_n q_X12_about_76 (by decide) rfl ?_
        refine i_getC (r := 75) q_X12_about_77 fl_X12_121 (a39 hB) rfl (by decide) ?_
        refine e_iload_n q_X12_about_80 (by decide) rfl ?_
        refine i_iald q_X12_about_81 (a75 hB) (cref0 (by decide)) (by first | omega | assumption) (by first | omega | assumption) (by decide) rfl ?_
        refine e_ireturn q_X12_about_82 rfl rfl ?_
        exact zqI h (by unfold r_about; rw [zif_t ⟨by omega, by omega⟩]; rfl)
      · skip
        refine e_tableIn (off := 68) (tgt := 83) q_X12_about_15 (by first | exact hR _ _ | (constructor <;> omega) | assumption) (by omega) (by omega) rfl rfl ?_
        refine e_aload_n q_X12_about_83 (by decide) rfl ?_
        refine i_getC (r := 76) q_X12_about_84 fl_X12_124 (a39 hB) rfl (by decide) ?_
        refine e_iload_n q_X12_about_87 (by decide) rfl ?_
        refine i_iald q_X12_about_88 (a76 hB) (cref0 (by decide)) (by first | omega | assumption) (by first | omega | assumption) (by decide) rfl ?_
        refine e_ireturn q_X12_about_89 rfl rfl ?_
        exact zqI h (by unfold r_about; rw [zif_t ⟨by omega, by omega⟩]; rfl)
      · skip
        refine e_tableIn (off := 75) (tgt := 90) q_X12_about_15 (by first | exact hR _ _ | (constructor <;> omega) | assumption) (by omega) (by omega) rfl rfl ?_
        refine e_iconst q_X12_about_90 ?_
        refine e_istore_n (ls' := [_, _, _, _, _]) q_X12_about_91 (by decide) rfl rfl ?_
        refine e_iconst q_X12_about_92 ?_
        refine e_istore (ls' := [_, _, _, _, _]) q_X12_about_93 (by decide) rfl rfl ?_
        refine zEe (ls := [.ref 39, vi p, vi 4, vi (cnt (fun w : Nat => N 79 (48 * p + w) ≠ 0) 0), vi ((0 : Nat) : Int)]) (σ := (zI s N)) ?_ rfl rfl
        refine z_for (P := fun i => zE X m_X12_about 95 [.ref 39, vi p, vi 4, vi (cnt (fun w : Nat => N 79 (48 * p + w) ≠ 0) i), vi (i : Int)] [] (zI s N) Q) 48 (fun i hi ih => ?_) ?_
        · skip
          refine e_iload q_X12_about_95 (by decide) rfl ?_
          refine e_bipush q_X12_about_97 (by decide) ?_
          refine e_icmp_ge q_X12_about_99 (by first | exact hR _ _ | (constructor <;> omega) | assumption) (by first | exact hR _ _ | (constructor <;> omega) | assumption) (fun c99 => ?_) (fun c99 => ?_)
          · skip
            exact absurd c99 (by omega)
          · skip
            refine e_iload_n q_X12_about_102 (by decide) rfl ?_
            refine e_aload_n q_X12_about_103 (by decide) rfl ?_
            refine i_getC (r := 79) q_X12_about_104 fl_X12_133 (a39 hB) rfl (by decide) ?_
            refine e_bipush q_X12_about_107 (by decide) ?_
            refine e_iload_n q_X12_about_109 (by decide) rfl ?_
            refine e_imul q_X12_about_110 ?_
            refine e_iload q_X12_about_111 (by decide) rfl ?_
            refine e_iadd q_X12_about_113 ?_
            refine i_zald q_X12_about_114 (a79 hB) (cref0 (by decide)) (by first | omega | assumption) (by first | omega | assumption) (by decide) rfl ?_
            refine e_if_eq q_X12_about_115 (by first | exact hR _ _ | (constructor <;> omega) | assumption) (fun c115 => ?_) (fun c115 => ?_)
            · skip
              refine e_iconst q_X12_about_122 ?_
              refine e_iadd q_X12_about_123 ?_
              refine e_istore_n (ls' := [_, _, _, _, _]) q_X12_about_124 (by decide) rfl rfl ?_
              refine e_iinc (ls' := [_, _, _, _, _]) q_X12_about_125 (by decide) rfl rfl rfl ?_
              refine e_goto q_X12_about_128 ?_
              first | exact zEe ih (by rw [cnt_t (p := fun w : Nat => N 79 (48 * p + w) ≠ 0) c115]; rfl) rfl | exact zEe ih (by rw [cnt_f (p := fun w : Nat => N 79 (48 * p + w) ≠ 0) (by omega)]; rfl) rfl
            · skip
              refine e_iconst q_X12_about_118 ?_
              refine e_goto q_X12_about_119 ?_
              refine e_iadd q_X12_about_123 ?_
              refine e_istore_n (ls' := [_, _, _, _, _]) q_X12_about_124 (by decide) rfl rfl ?_
              refine e_iinc (ls' := [_, _, _, _, _]) q_X12_about_125 (by decide) rfl rfl rfl ?_
              refine e_goto q_X12_about_128 ?_
              first | exact zEe ih (by rw [cnt_t (p := fun w : Nat => N 79 (48 * p + w) ≠ 0) c115]; rfl) rfl | exact zEe ih (by rw [cnt_f (p := fun w : Nat => N 79 (48 * p + w) ≠ 0) (by omega)]; rfl) rfl
        · skip
          refine e_iload q_X12_about_95 (by decide) rfl ?_
          refine e_bipush q_X12_about_97 (by decide) ?_
          refine e_icmp_ge q_X12_about_99 (by first | exact hR _ _ | (constructor <;> omega) | assumption) (by first | exact hR _ _ | (constructor <;> omega) | assumption) (fun c99 => ?_) (fun c99 => ?_)
          · skip
            refine e_iload_n q_X12_about_131 (by decide) rfl ?_
            refine e_ireturn q_X12_about_132 rfl rfl ?_
            exact zqI h (by unfold r_about; rw [zif_t ⟨by omega, by omega⟩]; rfl)
          · skip
            exact absurd (by omega) c99
      · skip
        refine e_tableIn (off := 118) (tgt := 133) q_X12_about_15 (by first | exact hR _ _ | (constructor <;> omega) | assumption) (by omega) (by omega) rfl rfl ?_
        refine e_aload_n q_X12_about_133 (by decide) rfl ?_
        refine i_getC (r := 77) q_X12_about_134 fl_X12_127 (a39 hB) rfl (by decide) ?_
        refine e_iload_n q_X12_about_137 (by decide) rfl ?_
        refine i_zald q_X12_about_138 (a77 hB) (cref0 (by decide)) (by first | omega | assumption) (by first | omega | assumption) (by decide) rfl ?_
        refine e_if_eq q_X12_about_139 (by first | exact hR _ _ | (constructor <;> omega) | assumption) (fun c139 => ?_) (fun c139 => ?_)
        · skip
          refine e_aload_n q_X12_about_146 (by decide) rfl ?_
          refine e_iload_n q_X12_about_147 (by decide) rfl ?_
          refine iv_X12_isBrought q_X12_about_148 lk_X12_322 (by decide) (a39 hB) (Nat.le_of_ble_eq_true rfl) ?_
          refine k_isBrought hB hm (by omega) (by omega) ?_
          refine e_ifb_eq q_X12_about_151 (fun c151 => ?_) (fun c151 => ?_)
          · skip
            refine e_iconst q_X12_about_158 ?_
            refine e_ireturn q_X12_about_159 rfl rfl ?_
            first | exact zqI h (by unfold r_about; rw [zif_t ⟨by omega, by omega⟩]; show pstate N p = 2; unfold pstate; rw [if_pos (by omega)]) | exact zqI h (by unfold r_about; rw [zif_t ⟨by omega, by omega⟩]; show pstate N p = 1; unfold pstate; rw [if_neg (by omega), bi_t c151]) | exact zqI h (by unfold r_about; rw [zif_t ⟨by omega, by omega⟩]; show pstate N p = 0; unfold pstate; rw [if_neg (by omega), bi_f c151])
          · skip
            refine e_iconst q_X12_about_154 ?_
            refine e_goto q_X12_about_155 ?_
            refine e_ireturn q_X12_about_159 rfl rfl ?_
            first | exact zqI h (by unfold r_about; rw [zif_t ⟨by omega, by omega⟩]; show pstate N p = 2; unfold pstate; rw [if_pos (by omega)]) | exact zqI h (by unfold r_about; rw [zif_t ⟨by omega, by omega⟩]; show pstate N p = 1; unfold pstate; rw [if_neg (by omega), bi_t c151]) | exact zqI h (by unfold r_about; rw [zif_t ⟨by omega, by omega⟩]; show pstate N p = 0; unfold pstate; rw [if_neg (by omega), bi_f c151])
        · skip
          refine e_iconst q_X12_about_142 ?_
          refine e_goto q_X12_about_143 ?_
          refine e_ireturn q_X12_about_159 rfl rfl ?_
          first | exact zqI h (by unfold r_about; rw [zif_t ⟨by omega, by omega⟩]; show pstate N p = 2; unfold pstate; rw [if_pos (by omega)]) | exact zqI h (by unfold r_about; rw [zif_t ⟨by omega, by omega⟩]; show pstate N p = 1; unfold pstate; rw [if_neg (by omega), bi_t c151]) | exact zqI h (by unfold r_about; rw [zif_t ⟨by omega, by omega⟩]; show pstate N p = 0; unfold pstate; rw [if_neg (by omega), bi_f c151])
      · skip
        refine e_tableOut (tgt := 160) q_X12_about_15 (by first | exact hR _ _ | (constructor <;> omega) | assumption) (by omega) rfl ?_
        refine e_iconst q_X12_about_160 ?_
        refine e_ireturn q_X12_about_161 rfl rfl ?_
        exact zqI h (by unfold r_about; rw [zif_t ⟨by omega, by omega⟩]; rw [if_neg (by omega), if_neg (by omega), if_neg (by omega), if_neg (by omega), if_neg (by omega), if_neg (by omega)])
    · skip
      refine e_iconst q_X12_about_12 ?_
      refine e_ireturn q_X12_about_13 rfl rfl ?_
      exact zqI h (by unfold r_about; exact zif_f (by omega))
variable {K : Option Value → zS → Prop} {c : Int}
theorem hr1_y (hy : yI N) : ∀ n : Int, 0 ≤ n → n < 40 → zr (N 85 n - N 86 n) := by
  intro n h0 h1
  have := hy.2.2.2.1 n h0 h1
  constructor <;> omega
theorem j_there (hJ : xJ s N c) {w : Int} (hw : zr w) {d : Int} (hd : zr d) (h : jK X c m_X12_there [.ref 39, vi w, vi d] K) : zC X m_X11_there [.ref 3, vi w, vi d] (zI s N) K := by
  obtain ⟨fa, sa, hI, hy, hbud⟩ := id hJ
  exact x_there hI hw hd  (h _ _ _ (by first | exact hI.B | exact hI.B.k sK.ns | exact hI.B.k (sK.ns.trans (sK.ns.trans sK.ns))) (fun Q hq => k_there hI.B hI.m hw hd  (hq s N hJ.up)))
theorem j_age (hJ : xJ s N c) {w : Int} (hw : zr w) {d : Int} (hd : zr d) (h : jK X c m_X12_age [.ref 39, vi w, vi d] K) : zC X m_X11_age [.ref 3, vi w, vi d] (zI s N) K := by
  obtain ⟨fa, sa, hI, hy, hbud⟩ := id hJ
  exact x_age hI hw hd  (h _ _ _ (by first | exact hI.B | exact hI.B.k sK.ns | exact hI.B.k (sK.ns.trans (sK.ns.trans sK.ns))) (fun Q hq => k_age hI.B hI.m hw hd  (hq s N hJ.up)))
theorem j_must (hJ : xJ s N c) {w : Int} (hw : zr w) {d : Int} (hd : zr d) (h : jK X c m_X12_must [.ref 39, vi w, vi d] K) : zC X m_X11_must [.ref 3, vi w, vi d] (zI s N) K := by
  obtain ⟨fa, sa, hI, hy, hbud⟩ := id hJ
  exact x_must hI hw hd  (h _ _ _ (by first | exact hI.B | exact hI.B.k sK.ns | exact hI.B.k (sK.ns.trans (sK.ns.trans sK.ns))) (fun Q hq => k_must hI.B hI.m hw hd  (hq s N hJ.up)))
theorem j_groupOf (hJ : xJ s N c) {w : Int} (hw : zr w) {d : Int} (hd : zr d) (h : jK X c m_X12_groupOf [.ref 39, vi w, vi d] K) : zC X m_X11_groupOf [.ref 3, vi w, vi d] (zI s N) K := by
  obtain ⟨fa, sa, hI, hy, hbud⟩ := id hJ
  exact x_groupOf hI hw hd  (h _ _ _ (by first | exact hI.B | exact hI.B.k sK.ns | exact hI.B.k (sK.ns.trans (sK.ns.trans sK.ns))) (fun Q hq => k_groupOf hI.B hI.m hw hd  (hq s N hJ.up)))
theorem j_came (hJ : xJ s N c) {w : Int} (hw : zr w) (h : jK X c m_X12_came [.ref 39, vi w] K) : zC X m_X11_came [.ref 3, vi w] (zI s N) K := by
  obtain ⟨fa, sa, hI, hy, hbud⟩ := id hJ
  exact x_came hI hw  (h _ _ _ (by first | exact hI.B | exact hI.B.k sK.ns | exact hI.B.k (sK.ns.trans (sK.ns.trans sK.ns))) (fun Q hq => k_came hI.B hI.m hw  (hq s N hJ.up)))
theorem j_kin (hJ : xJ s N c) {a : Int} (ha : zr a) {b : Int} (hb : zr b) (h : jK X c m_X12_kin [.ref 39, vi a, vi b] K) : zC X m_X11_kin [.ref 3, vi a, vi b] (zI s N) K := by
  obtain ⟨fa, sa, hI, hy, hbud⟩ := id hJ
  exact x_kin hI ha hb  (h _ _ _ (by first | exact hI.B | exact hI.B.k sK.ns | exact hI.B.k (sK.ns.trans (sK.ns.trans sK.ns))) (fun Q hq => k_kin hI.B hI.m ha hb  (hq s N hJ.up)))
theorem j_members (hJ : xJ s N c) {g : Int} (hg : zr g) {d : Int} (hd : zr d) (h : jK X c m_X12_members [.ref 39, vi g, vi d] K) : zC X m_X11_members [.ref 3, vi g, vi d] (zI s N) K := by
  obtain ⟨fa, sa, hI, hy, hbud⟩ := id hJ
  exact x_members hI hg hd  (h _ _ _ (by first | exact hI.B | exact hI.B.k sK.ns | exact hI.B.k (sK.ns.trans (sK.ns.trans sK.ns))) (fun Q hq => k_members hI.B hI.m hg hd  (hq s N hJ.up)))
theorem j_told (hJ : xJ s N c) {w : Int} (hw : zr w) {k : Int} (hk : zr k) (h : jK X c m_X12_told [.ref 39, vi w, vi k] K) : zC X m_X11_told [.ref 3, vi w, vi k] (zI s N) K := by
  obtain ⟨fa, sa, hI, hy, hbud⟩ := id hJ
  exact x_told hI hw hk  (h _ _ _ (by first | exact hI.B | exact hI.B.k sK.ns | exact hI.B.k (sK.ns.trans (sK.ns.trans sK.ns))) (fun Q hq => k_told hI.B hI.m hw hk  (hq s N hJ.up)))
theorem j_count (hJ : xJ s N c) {k : Int} (hk : zr k) (h : jK X c m_X12_count [.ref 39, vi k] K) : zC X m_X11_count [.ref 3, vi k] (zI s N) K := by
  obtain ⟨fa, sa, hI, hy, hbud⟩ := id hJ
  exact x_count hI hk  (h _ _ _ (by first | exact hI.B | exact hI.B.k sK.ns | exact hI.B.k (sK.ns.trans (sK.ns.trans sK.ns))) (fun Q hq => k_count hI.B hI.m hk  (hq s N hJ.up)))
theorem j_wants (hJ : xJ s N c) {d : Int} (hd : zr d) {k : Int} (hk : zr k) (h : jK X c m_X12_wants [.ref 39, vi d, vi k] K) : zC X m_X11_wants [.ref 3, vi d, vi k] (zI s N) K := by
  obtain ⟨fa, sa, hI, hy, hbud⟩ := id hJ
  exact x_wants hI hd hk  (h _ _ _ (by first | exact hI.B | exact hI.B.k sK.ns | exact hI.B.k (sK.ns.trans (sK.ns.trans sK.ns))) (fun Q hq => k_wants hI.B hI.m hd hk  (hq s N hJ.up)))
theorem j_wantsAt (hJ : xJ s N c) {d : Int} (hd : zr d) {k : Int} (hk : zr k) {i : Int} (hi : zr i) (h : jK X c m_X12_wantsAt [.ref 39, vi d, vi k, vi i] K) : zC X m_X11_wantsAt [.ref 3, vi d, vi k, vi i] (zI s N) K := by
  obtain ⟨fa, sa, hI, hy, hbud⟩ := id hJ
  exact x_wantsAt hI hd hk hi  (h _ _ _ (by first | exact hI.B | exact hI.B.k sK.ns | exact hI.B.k (sK.ns.trans (sK.ns.trans sK.ns))) (fun Q hq => k_wantsAt hI.B hI.m hd hk hi  (hq s N hJ.up)))
theorem j_owes (hJ : xJ s N c) {w : Int} (hw : zr w) {p : Int} (hp : zr p) (h : jK X c m_X12_owes [.ref 39, vi w, vi p] K) : zC X m_X11_owes [.ref 3, vi w, vi p] (zI s N) K := by
  obtain ⟨fa, sa, hI, hy, hbud⟩ := id hJ
  exact x_owes hI hw hp  (h _ _ _ (by first | exact hI.B | exact hI.B.k sK.ns | exact hI.B.k (sK.ns.trans (sK.ns.trans sK.ns))) (fun Q hq => k_owes hI.B hI.m hw hp  (hq s N hJ.up)))
theorem j_borne (hJ : xJ s N c) {g : Int} (hg : zr g) {d : Int} (hd : zr d) {k : Int} (hk : zr k) (h : jK X c m_X12_borne [.ref 39, vi g, vi d, vi k] K) : zC X m_X11_borne [.ref 3, vi g, vi d, vi k] (zI s N) K := by
  obtain ⟨fa, sa, hI, hy, hbud⟩ := id hJ
  exact x_borne hI hg hd hk  (h _ _ _ (by first | exact hI.B | exact hI.B.k sK.ns | exact hI.B.k (sK.ns.trans (sK.ns.trans sK.ns))) (fun Q hq => k_borne hI.B hI.m hg hd hk  (hq s N hJ.up)))
theorem j_about (hJ : xJ s N c) {p : Int} (hp : zr p) {k : Int} (hk : zr k) (h : jK X c m_X12_about [.ref 39, vi p, vi k] K) : zC X m_X11_about [.ref 3, vi p, vi k] (zI s N) K := by
  obtain ⟨fa, sa, hI, hy, hbud⟩ := id hJ
  exact x_about hI hp hk  (h _ _ _ (by first | exact hI.B | exact hI.B.k sK.ns | exact hI.B.k (sK.ns.trans (sK.ns.trans sK.ns))) (fun Q hq => k_about hI.B hI.m hp hk  (hq s N hJ.up)))
theorem j_charged (hJ : xJ s N c) {w : Int} (hw : zr w) {d : Int} (hd : zr d) (h : jK X c m_X12_charged [.ref 39, vi w, vi d] K) : zC X m_X11_charged [.ref 3, vi w, vi d] (zI s N) K := by
  obtain ⟨fa, sa, hI, hy, hbud⟩ := id hJ
  exact x_charged hI hw hd  (h _ _ _ (by first | exact hI.B | exact hI.B.k sK.ns | exact hI.B.k (sK.ns.trans (sK.ns.trans sK.ns))) (fun Q hq => k_charged hI.B hI.m hw hd  (hq s N hJ.up)))
theorem j_head (hJ : xJ s N c) {g : Int} (hg : zr g) {d : Int} (hd : zr d) (h : jK X c m_X12_head [.ref 39, vi g, vi d] K) : zC X m_X11_head [.ref 3, vi g, vi d] (zI s N) K := by
  obtain ⟨fa, sa, hI, hy, hbud⟩ := id hJ
  exact x_head hI hg hd  (h _ _ _ (by first | exact hI.B | exact hI.B.k sK.ns | exact hI.B.k (sK.ns.trans (sK.ns.trans sK.ns))) (fun Q hq => k_head hI.B hI.m hg hd  (hq s N hJ.up)))
theorem j_leftOut (hJ : xJ s N c) {n : Int} (hn : zr n) (h : jK X c m_X12_leftOut [.ref 39, vi n] K) : zC X m_X11_leftOut [.ref 3, vi n] (zI s N) K := by
  obtain ⟨fa, sa, hI, hy, hbud⟩ := id hJ
  exact x_leftOut hI hn (hr1_y hy) (h _ _ _ (by first | exact hI.B | exact hI.B.k sK.ns | exact hI.B.k (sK.ns.trans (sK.ns.trans sK.ns))) (fun Q hq => k_leftOut hI.B hI.m hn (hr1_y hy) (hq s N hJ.up)))
theorem j_sure (hJ : xJ s N c) {w : Int} (hw : zr w) (h : jK X c m_X12_sure [.ref 39, vi w] K) : zC X m_X11_sure [.ref 3, vi w] (zI s N) K := by
  obtain ⟨fa, sa, hI, hy, hbud⟩ := id hJ
  exact x_sure hI hw (hr1_y hy) (h _ _ _ (by first | exact hI.B | exact hI.B.k sK.ns | exact hI.B.k (sK.ns.trans (sK.ns.trans sK.ns))) (fun Q hq => k_sure hI.B hI.m hw  (hq s N hJ.up)))
end MR5
