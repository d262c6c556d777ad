/-! making whole, 13 (printed by wip/whole/gen/f13.py) -/
section FI13
variable {X : zX} {s : zK} {N : zN} {σ : zS} {fa sa : Int → Int} {Q K : Option Value → zS → Prop} {c : Int}
def nwM (N N1 : zN) : Prop := (∀ a : Nat, a ≠ 39 → a ≠ 73 → N1 a = N a) ∧ (∀ j : Int, j ≠ 49 → N1 39 j = N 39 j) ∧ N1 39 49 = 1 ∧ (∀ x : Int, 0 ≤ x → x < 48 → N1 73 x = -4) ∧ (∀ x : Int, ¬ (0 ≤ x ∧ x < 48) → N1 73 x = N 73 x) ∧ ∀ a x, zr (N1 a x)
/-- those who come, in the reference's -/
def stM (d : Int) (w f : Nat → Int) (M : zN) : Nat → zN
  | 0 => M
  | k + 1 => mup (n_begin (stM d w f M k) (w k) (f k) d) 73 (w k) (f k)
theorem n_begin_c {w g d : Int} {c0 : Nat} (h : (c0 < 59 ∨ 62 < c0) ∧ c0 ≠ 39) : n_begin N w g d c0 = N c0 := by
  unfold n_begin
  rw [mup_fn (by omega), mup_fn (by omega), mup_fn (by omega), mup_fn (by omega), mup_fn (by omega)]
theorem n_begin_9 {w g d j : Int} (h : j ≠ 31) : n_begin N w g d 39 j = N 39 j := by
  unfold n_begin
  rw [mup_slot h, mup_cell (by decide), mup_cell (by decide), mup_cell (by decide), mup_cell (by decide)]
theorem stM_f {d : Int} {w f : Nat → Int} {M : zN} : ∀ k : Nat, (∀ c0 : Nat, (c0 < 59 ∨ 62 < c0) ∧ c0 ≠ 39 ∧ c0 ≠ 73 → stM d w f M k c0 = M c0) ∧ (∀ j : Int, j ≠ 31 → stM d w f M k 39 j = M 39 j) ∧ stM d w f M k 39 31 = M 39 31 + k
  | 0 => ⟨fun _ _ => rfl, fun _ _ => rfl, by show M 39 31 = _; omega⟩
  | k + 1 => by
    obtain ⟨h1, h2, h3⟩ := stM_f (d := d) (w := w) (f := f) (M := M) k
    refine ⟨fun c0 hc => ?_, fun j hj => ?_, ?_⟩
    · show mup _ _ _ _ c0 = _
      rw [mup_fn (by omega), n_begin_c (by omega)]
      exact h1 c0 hc
    · show mup _ _ _ _ 39 j = _
      rw [mup_cell (by decide), n_begin_9 hj]
      exact h2 j hj
    · show mup _ _ _ _ 39 31 = _
      rw [mup_cell (by decide)]
      unfold n_begin
      rw [mup_self, h3]
      omega
set_option maxRecDepth 20000 in
set_option maxHeartbeats 2000000 in
theorem k_wrest (hB : zB0 s) {N2 : zN} (hR2 : ∀ a x, zr (N2 a x)) {d r : Int} {K : Nat} (hK : N2 39 41 = K) (hK6 : K ≤ 6) (hwh : ∀ k : Nat, k < K → 0 ≤ N2 67 k ∧ N2 67 k < 48) (hs0 : 0 ≤ N2 39 31) (hs : N2 39 31 + 6 ≤ 4000) {u3 : Value} (h : ∀ N3, nwM N2 N3 → Q (some (vi r)) (zI s (stM d (fun k : Nat => N2 67 k) (fun k : Nat => N2 69 k) N3 K))) : zE X m_X12_whole 102 [.ref 39, vi d, vi r, u3] [] (zI s N2) Q := by
  refine e_aload_n q_X12_whole_102 (by decide) rfl ?_
  refine e_iconst q_X12_whole_103 ?_
  refine i_putI (k' := 49) q_X12_whole_104 fl_X12_312 (Or.inl rfl) (a39 hB) rfl rfl rfl rfl rfl ?_
  refine e_iconst q_X12_whole_107 ?_
  refine e_istore_n (ls' := [_, _, _, _]) q_X12_whole_108 (by decide) rfl rfl ?_
  refine zEe (ls := [.ref 39, vi d, vi r, vi ((0 : Nat) : Int)]) (σ := zI s (mup N2 39 49 1)) ?_ rfl rfl
  refine z_for (P := fun i => ∀ (N3 : zN), ((∀ a : Nat, a ≠ 39 → a ≠ 73 → N3 a = N2 a) ∧ (∀ j : Int, j ≠ 49 → N3 39 j = N2 39 j) ∧ N3 39 49 = 1 ∧ (∀ x : Int, 0 ≤ x → x < (i : Int) → N3 73 x = -4) ∧ (∀ x : Int, ¬ (0 ≤ x ∧ x < (i : Int)) → N3 73 x = N2 73 x) ∧ ∀ a x, zr (N3 a x)) → zE X m_X12_whole 109 [.ref 39, vi d, vi r, vi (i : Int)] [] (zI s N3) Q) 48 (fun i hi ih N3 hv => ?_) (fun N3 hv => ?_) _ ⟨fun a h1 h2 => mup_fn h1, fun j hj => mup_slot hj, mup_self _ _ _ _, fun x h0 h1 => by omega, fun x hx => mup_cell (by decide), zr_mup hR2 (by constructor <;> omega)⟩
  · skip
    refine e_iload_n q_X12_whole_109 (by decide) rfl ?_
    refine e_bipush q_X12_whole_110 (by decide) ?_
    refine e_icmp_ge q_X12_whole_112 (by constructor <;> omega) (by constructor <;> omega) (fun c112 => ?_) (fun c112 => ?_)
    · skip
      exact absurd c112 (by omega)
    · skip
      refine e_aload_n q_X12_whole_115 (by decide) rfl ?_
      refine i_getC (r := 73) q_X12_whole_116 fl_X12_115 (a39 hB) rfl (by decide) ?_
      refine e_iload_n q_X12_whole_119 (by decide) rfl ?_
      refine e_bipush q_X12_whole_120 (by decide) ?_
      refine i_iast q_X12_whole_122 (a73 hB) (cref0 (by decide)) (by first | omega | assumption) (by first | omega | assumption) (by decide) ?_
      refine e_iinc (ls' := [_, _, _, _]) q_X12_whole_123 (by decide) rfl rfl rfl ?_
      refine e_goto q_X12_whole_126 ?_
      obtain ⟨g1, g2, g3, g4, g5, g6⟩ := hv
      refine ih _ ⟨fun a h1 h2 => by rw [mup_fn h2]; exact g1 a h1 h2, fun j hj => by rw [mup_cell (by decide)]; exact g2 j hj, by rw [mup_cell (by decide)]; exact g3, fun x h0 h1 => ?_, fun x hx => by rw [mup_slot (by omega)]; exact g5 x (by omega), zr_mup g6 (by constructor <;> omega)⟩
      by_cases hx : x = (i : Int)
      · rw [hx, mup_self]
      · rw [mup_slot hx]; exact g4 x h0 (by omega)
  · skip
    refine e_iload_n q_X12_whole_109 (by decide) rfl ?_
    refine e_bipush q_X12_whole_110 (by decide) ?_
    refine e_icmp_ge q_X12_whole_112 (by constructor <;> omega) (by constructor <;> omega) (fun c112 => ?_) (fun c112 => ?_)
    · skip
      have hw3 : nwM N2 N3 := hv
      refine e_iconst q_X12_whole_129 ?_
      refine e_istore_n (ls' := [_, _, _, _]) q_X12_whole_130 (by decide) rfl rfl ?_
      refine zEe (ls := [.ref 39, vi d, vi r, vi ((0 : Nat) : Int)]) (σ := zI s (stM d (fun k : Nat => N2 67 k) (fun k : Nat => N2 69 k) N3 0)) ?_ rfl rfl
      refine z_for (P := fun j => ∀ (hh : True), (True) → zE X m_X12_whole 131 [.ref 39, vi d, vi r, vi (j : Int)] [] (zI s (stM d (fun k : Nat => N2 67 k) (fun k : Nat => N2 69 k) N3 j)) Q) K (fun j hij ihj hh hvj => ?_) (fun hh hvj => ?_) trivial trivial
      · skip
        obtain ⟨q1, q2, q3⟩ := stM_f (d := d) (w := fun k : Nat => N2 67 k) (f := fun k : Nat => N2 69 k) (M := N3) j
        have e41 : (stM d (fun k : Nat => N2 67 k) (fun k : Nat => N2 69 k) N3 j) 39 41 = K := (q2 41 (by decide)).trans ((hw3.2.1 41 (by decide)).trans hK)
        have e31 : N3 39 31 = N2 39 31 := hw3.2.1 31 (by decide)
        have e67 : (stM d (fun k : Nat => N2 67 k) (fun k : Nat => N2 69 k) N3 j) 67 = N2 67 := (q1 67 (by decide)).trans (hw3.1 67 (by decide) (by decide))
        have e69 : (stM d (fun k : Nat => N2 67 k) (fun k : Nat => N2 69 k) N3 j) 69 = N2 69 := (q1 69 (by decide)).trans (hw3.1 69 (by decide) (by decide))
        have hwj := hwh j hij
        refine e_iload_n q_X12_whole_131 (by decide) rfl ?_
        refine e_aload_n q_X12_whole_132 (by decide) rfl ?_
        refine i_getI (k' := 41) q_X12_whole_133 fl_X12_292 (a39 hB) rfl rfl rfl e41 ?_
        refine e_icmp_ge q_X12_whole_136 (by constructor <;> omega) (by constructor <;> omega) (fun c136 => ?_) (fun c136 => ?_)
        · skip
          exact absurd c136 (by omega)
        · skip
          refine e_aload_n q_X12_whole_139 (by decide) rfl ?_
          refine e_aload_n q_X12_whole_140 (by decide) rfl ?_
          refine i_getC (r := 67) q_X12_whole_141 fl_X12_97 (a39 hB) rfl (by decide) ?_
          refine e_iload_n q_X12_whole_144 (by decide) rfl ?_
          refine i_iald q_X12_whole_145 (a67 hB) (cref0 (by decide)) (by first | omega | assumption) (by first | omega | assumption) (by decide) (congrFun e67 _) ?_
          refine e_aload_n q_X12_whole_146 (by decide) rfl ?_
          refine i_getC (r := 69) q_X12_whole_147 fl_X12_103 (a39 hB) rfl (by decide) ?_
          refine e_iload_n q_X12_whole_150 (by decide) rfl ?_
          refine i_iald q_X12_whole_151 (a69 hB) (cref0 (by decide)) (by first | omega | assumption) (by first | omega | assumption) (by decide) (congrFun e69 _) ?_
          refine e_iload_n q_X12_whole_152 (by decide) rfl ?_
          refine iv_X12_begin q_X12_whole_153 lk_X12_270 (by decide) (a39 hB) (Nat.le_of_ble_eq_true rfl) ?_
          refine k_begin hB (by omega) (by omega) ?_
          refine e_aload_n q_X12_whole_156 (by decide) rfl ?_
          refine i_getC (r := 73) q_X12_whole_157 fl_X12_115 (a39 hB) rfl (by decide) ?_
          refine e_aload_n q_X12_whole_160 (by decide) rfl ?_
          refine i_getC (r := 67) q_X12_whole_161 fl_X12_97 (a39 hB) rfl (by decide) ?_
          refine e_iload_n q_X12_whole_164 (by decide) rfl ?_
          refine i_iald q_X12_whole_165 (a67 hB) (cref0 (by decide)) (by first | omega | assumption) (by first | omega | assumption) (by decide) ((congrFun (n_begin_c (by decide)) _).trans (congrFun e67 _)) ?_
          refine e_aload_n q_X12_whole_166 (by decide) rfl ?_
          refine i_getC (r := 69) q_X12_whole_167 fl_X12_103 (a39 hB) rfl (by decide) ?_
          refine e_iload_n q_X12_whole_170 (by decide) rfl ?_
          refine i_iald q_X12_whole_171 (a69 hB) (cref0 (by decide)) (by first | omega | assumption) (by first | omega | assumption) (by decide) ((congrFun (n_begin_c (by decide)) _).trans (congrFun e69 _)) ?_
          refine i_iast q_X12_whole_172 (a73 hB) (cref0 (by decide)) (by first | omega | assumption) (by first | omega | assumption) (by decide) ?_
          refine e_iinc (ls' := [_, _, _, _]) q_X12_whole_173 (by decide) rfl rfl rfl ?_
          refine e_goto q_X12_whole_176 ?_
          exact ihj trivial trivial
      · skip
        obtain ⟨q1, q2, q3⟩ := stM_f (d := d) (w := fun k : Nat => N2 67 k) (f := fun k : Nat => N2 69 k) (M := N3) K
        have e41 : (stM d (fun k : Nat => N2 67 k) (fun k : Nat => N2 69 k) N3 K) 39 41 = K := (q2 41 (by decide)).trans ((hw3.2.1 41 (by decide)).trans hK)
        have e31 : N3 39 31 = N2 39 31 := hw3.2.1 31 (by decide)
        have e67 : (stM d (fun k : Nat => N2 67 k) (fun k : Nat => N2 69 k) N3 K) 67 = N2 67 := (q1 67 (by decide)).trans (hw3.1 67 (by decide) (by decide))
        have e69 : (stM d (fun k : Nat => N2 67 k) (fun k : Nat => N2 69 k) N3 K) 69 = N2 69 := (q1 69 (by decide)).trans (hw3.1 69 (by decide) (by decide))
        refine e_iload_n q_X12_whole_131 (by decide) rfl ?_
        refine e_aload_n q_X12_whole_132 (by decide) rfl ?_
        refine i_getI (k' := 41) q_X12_whole_133 fl_X12_292 (a39 hB) rfl rfl rfl e41 ?_
        refine e_icmp_ge q_X12_whole_136 (by constructor <;> omega) (by constructor <;> omega) (fun c136 => ?_) (fun c136 => ?_)
        · skip
          refine e_iload_n q_X12_whole_179 (by decide) rfl ?_
          refine e_ireturn q_X12_whole_180 rfl rfl ?_
          exact h N3 hw3
        · skip
          exact absurd (by omega) c136
    · skip
      exact absurd (by omega) c112
set_option maxRecDepth 20000 in
set_option maxHeartbeats 2000000 in
theorem k_whole (hB : zB0 s) (hm : mI N) (hln : yLn N) {d : Int} (hd0 : zr d) (hs : N 39 31 + 6 ≤ 4000) (h1 : ¬ (0 ≤ d ∧ d ≤ 9999) → Q (some (vi (-1))) (zI s N)) (h2 : 0 ≤ d ∧ d ≤ 9999 → 6 < cK6 N d (N 39 2).toNat → ∀ N1, eW N N1 → N1 73 = N 73 → N1 39 49 = N 39 49 → Q (some (vi (-3))) (zI s N1)) (h3 : 0 ≤ d ∧ d ≤ 9999 → ∀ K : Nat, (K : Int) = cK6 N d (N 39 2).toNat → K ≤ 6 → (∀ f, ¬ goodOn (rmP N d) (riP N d) (poP N d) K (N 39 29) (tb (2 ^ K - 1)) f) → ∀ N1, eW N N1 → N1 73 = N 73 → N1 39 49 = N 39 49 → Q (some (vi (-4))) (zI s N1)) (h4 : 0 ≤ d ∧ d ≤ 9999 → ∀ K : Nat, (K : Int) = cK6 N d (N 39 2).toNat → K ≤ 6 → ∀ N1, eW N N1 → (∀ k : Nat, k < K → N1 67 k = whK N d k) → goodOn (rmP N d) (riP N d) (poP N d) K (N 39 29) (tb (2 ^ K - 1)) (fun k : Nat => N1 69 k) → (∀ f, goodOn (rmP N d) (riP N d) (poP N d) K (N 39 29) (tb (2 ^ K - 1)) f → wF (aQ N d) (fun k : Nat => N1 69 k) K ≤ wF (aQ N d) f K) → ∀ N3, nwM N1 N3 → Q (some (vi (cst (aQ N d) (fun k : Nat => N1 69 k) K))) (zI s (stM d (fun k : Nat => N1 67 k) (fun k : Nat => N1 69 k) N3 K))) : zC X m_X12_whole [.ref 39, vi d] (zI s N) Q := by
  have hC := hm.2.1
  unfold mCnt at hC
  show zE X m_X12_whole 0 [.ref 39, vi d, zU, zU] [] _ Q
  refine e_iload_n q_X12_whole_0 (by decide) rfl ?_
  refine iv_X12_isDay q_X12_whole_1 lk_X12_181 (by decide) (Nat.le_of_ble_eq_true rfl) ?_
  refine k_isDay hd0 ?_
  refine e_ifb_ne q_X12_whole_4 (fun c4 => ?_) (fun c4 => ?_)
  · skip
    refine e_aload_n q_X12_whole_9 (by decide) rfl ?_
    refine e_iconst q_X12_whole_10 ?_
    refine i_putI (k' := 41) q_X12_whole_11 fl_X12_292 (Or.inl rfl) (a39 hB) rfl rfl rfl rfl rfl ?_
    refine e_iconst q_X12_whole_14 ?_
    refine e_istore_n (ls' := [_, _, _, _]) q_X12_whole_15 (by decide) rfl rfl ?_
    have hd : 0 ≤ d ∧ d ≤ 9999 := c4
    refine zEe (ls := [.ref 39, vi d, vi ((0 : Nat) : Int), zU]) (σ := zI s (mup N 39 41 0)) ?_ rfl rfl
    refine z_for (P := fun i => ∀ (N1 : zN) (u2 : Value), ((∀ a : Nat, a ≠ 39 → a ≠ 67 → N1 a = N a) ∧ (∀ j : Int, j ≠ 41 → N1 39 j = N 39 j) ∧ (cK6 N d i ≤ 6 ∧ N1 39 41 = cK6 N d i) ∧ (∀ k : Nat, (k : Int) < cK6 N d i → N1 67 k = whK N d k) ∧ ∀ a x, zr (N1 a x)) → zE X m_X12_whole 16 [.ref 39, vi d, vi (i : Int), u2] [] (zI s N1) Q) (N 39 2).toNat (fun i hi ih N1 u2 hv => ?_) (fun N1 u2 hv => ?_) _ zU ⟨fun a h1 h2 => mup_fn h1, fun j hj => mup_slot hj, ⟨by show (0 : Int) ≤ 6; omega, mup_self _ _ _ _⟩, fun k hk => absurd hk (by show ¬ ((k : Int) < 0); omega), zr_mup hm.1 (by constructor <;> omega)⟩
    · skip
      obtain ⟨f1, f2, f3, f4, f5⟩ := id hv
      have w1 : eW N N1 := ⟨fun a h1 => f1 a h1.2 (by omega), fun j hj => f2 j hj.1, f5⟩
      have hm1 := w1.mI_ hm
      have e2 : N1 39 2 = N 39 2 := f2 2 (by decide)
      have hcb : 0 ≤ cK6 N d i ∧ cK6 N d i ≤ i := cnt_b (fun w : Nat => comer N w d) i
      refine e_iload_n q_X12_whole_16 (by decide) rfl ?_
      refine e_aload_n q_X12_whole_17 (by decide) rfl ?_
      refine i_getI (k' := 2) q_X12_whole_18 fl_X12_164 (a39 hB) rfl rfl rfl e2 ?_
      refine e_icmp_ge q_X12_whole_21 (by constructor <;> omega) (by constructor <;> omega) (fun c21 => ?_) (fun c21 => ?_)
      · skip
        exact absurd c21 (by omega)
      · skip
        refine e_aload_n q_X12_whole_24 (by decide) rfl ?_
        refine e_iload_n q_X12_whole_25 (by decide) rfl ?_
        refine e_iload_n q_X12_whole_26 (by decide) rfl ?_
        refine iv_X12_isComer q_X12_whole_27 lk_X12_302 (by decide) (a39 hB) (Nat.le_of_ble_eq_true rfl) ?_
        refine k_isComer hB hm1 (by omega) (by omega) hd ?_
        refine e_ifb_ne q_X12_whole_30 (fun c30 => ?_) (fun c30 => ?_)
        · skip
          refine e_aload_n q_X12_whole_36 (by decide) rfl ?_
          refine i_getI (k' := 41) q_X12_whole_37 fl_X12_292 (a39 hB) rfl rfl rfl f3.2 ?_
          refine e_bipush q_X12_whole_40 (by decide) ?_
          refine e_icmp_ne q_X12_whole_42 (by constructor <;> omega) (by constructor <;> omega) (fun c42 => ?_) (fun c42 => ?_)
          · skip
            refine e_aload_n q_X12_whole_48 (by decide) rfl ?_
            refine i_getC (r := 67) q_X12_whole_49 fl_X12_97 (a39 hB) rfl (by decide) ?_
            refine e_aload_n q_X12_whole_52 (by decide) rfl ?_
            refine i_getI (k' := 41) q_X12_whole_53 fl_X12_292 (a39 hB) rfl rfl rfl f3.2 ?_
            refine e_iload_n q_X12_whole_56 (by decide) rfl ?_
            refine i_iast q_X12_whole_57 (a67 hB) (cref0 (by decide)) (by first | omega | assumption) (by first | omega | assumption) (by decide) ?_
            refine e_aload_n q_X12_whole_58 (by decide) rfl ?_
            refine e_dup q_X12_whole_59 rfl ?_
            refine i_getI (k' := 41) q_X12_whole_60 fl_X12_292 (a39 hB) rfl rfl rfl ((mup_cell (by decide)).trans f3.2) ?_
            refine e_iconst q_X12_whole_63 ?_
            refine e_iadd q_X12_whole_64 ?_
            refine i_putI (k' := 41) q_X12_whole_65 fl_X12_292 (Or.inl rfl) (a39 hB) rfl rfl rfl rfl rfl ?_
            refine e_iinc (ls' := [_, _, _, _]) q_X12_whole_68 (by decide) rfl rfl rfl ?_
            refine e_goto q_X12_whole_71 ?_
            first
            | (have hcm : comer N i d := by rw [← w1.comer_]; exact c30
               have hk1 : cK6 N d (i + 1) = cK6 N d i + 1 := cnt_t (p := fun w : Nat => comer N w d) hcm
               have hwi : whK N d (cK6 N d i).toNat = i := whK_at (w := i) (by omega) hcm (by omega)
               refine ih _ u2 ⟨fun a h1 h2 => by rw [mup_fn h1, mup_fn h2]; exact f1 a h1 h2, fun j hj => by rw [mup_slot hj, mup_cell (by decide)]; exact f2 j hj, ⟨by omega, by rw [mup_self, hk1]⟩, fun k hk => ?_, zr_mup (zr_mup f5 (by constructor <;> omega)) (by constructor <;> omega)⟩
               rw [mup_cell (by decide)]
               by_cases hkk : (k : Int) = cK6 N d i
               · rw [hkk, mup_self, ← hwi, show (cK6 N d i).toNat = k by omega]
               · rw [mup_slot hkk]
                 exact f4 k (by omega))
            | (have hcm : ¬ comer N i d := by rw [← w1.comer_]; exact c30
               have hk1 : cK6 N d (i + 1) = cK6 N d i := cnt_f' (p := fun w : Nat => comer N w d) hcm
               exact ih N1 u2 ⟨f1, f2, by rw [hk1]; exact f3, by rw [hk1]; exact f4, f5⟩)
          · skip
            refine e_bipush q_X12_whole_45 (by decide) ?_
            refine e_ireturn q_X12_whole_47 rfl rfl ?_
            have hcm : comer N i d := by rw [← w1.comer_]; exact c30
            have hk1 : cK6 N d (i + 1) = cK6 N d i + 1 := cnt_t (p := fun w : Nat => comer N w d) hcm
            have hk2 : cK6 N d (i + 1) ≤ cK6 N d (N 39 2).toNat := cnt_mono (p := fun w : Nat => comer N w d) (show i + 1 ≤ (N 39 2).toNat by omega)
            exact h2 hd (by omega) N1 w1 (f1 73 (by decide) (by decide)) (f2 49 (by decide))
        · skip
          refine e_goto q_X12_whole_33 ?_
          refine e_iinc (ls' := [_, _, _, _]) q_X12_whole_68 (by decide) rfl rfl rfl ?_
          refine e_goto q_X12_whole_71 ?_
          first
          | (have hcm : comer N i d := by rw [← w1.comer_]; exact c30
             have hk1 : cK6 N d (i + 1) = cK6 N d i + 1 := cnt_t (p := fun w : Nat => comer N w d) hcm
             have hwi : whK N d (cK6 N d i).toNat = i := whK_at (w := i) (by omega) hcm (by omega)
             refine ih _ u2 ⟨fun a h1 h2 => by rw [mup_fn h1, mup_fn h2]; exact f1 a h1 h2, fun j hj => by rw [mup_slot hj, mup_cell (by decide)]; exact f2 j hj, ⟨by omega, by rw [mup_self, hk1]⟩, fun k hk => ?_, zr_mup (zr_mup f5 (by constructor <;> omega)) (by constructor <;> omega)⟩
             rw [mup_cell (by decide)]
             by_cases hkk : (k : Int) = cK6 N d i
             · rw [hkk, mup_self, ← hwi, show (cK6 N d i).toNat = k by omega]
             · rw [mup_slot hkk]
               exact f4 k (by omega))
          | (have hcm : ¬ comer N i d := by rw [← w1.comer_]; exact c30
             have hk1 : cK6 N d (i + 1) = cK6 N d i := cnt_f' (p := fun w : Nat => comer N w d) hcm
             exact ih N1 u2 ⟨f1, f2, by rw [hk1]; exact f3, by rw [hk1]; exact f4, f5⟩)
    · skip
      obtain ⟨f1, f2, f3, f4, f5⟩ := id hv
      have w1 : eW N N1 := ⟨fun a h1 => f1 a h1.2 (by omega), fun j hj => f2 j hj.1, f5⟩
      have hm1 := w1.mI_ hm
      have e2 : N1 39 2 = N 39 2 := f2 2 (by decide)
      have hcb : 0 ≤ cK6 N d (N 39 2).toNat ∧ cK6 N d (N 39 2).toNat ≤ (N 39 2).toNat := cnt_b (fun w : Nat => comer N w d) (N 39 2).toNat
      refine e_iload_n q_X12_whole_16 (by decide) rfl ?_
      refine e_aload_n q_X12_whole_17 (by decide) rfl ?_
      refine i_getI (k' := 2) q_X12_whole_18 fl_X12_164 (a39 hB) rfl rfl rfl e2 ?_
      refine e_icmp_ge q_X12_whole_21 (by constructor <;> omega) (by constructor <;> omega) (fun c21 => ?_) (fun c21 => ?_)
      · skip
        obtain ⟨K, hKc⟩ : ∃ K : Nat, (K : Int) = cK6 N d (N 39 2).toNat := ⟨(cK6 N d (N 39 2).toNat).toNat, by omega⟩
        have hK6 : K ≤ 6 := by omega
        refine e_iconst q_X12_whole_74 ?_
        refine e_istore_n (ls' := [_, _, _, _]) q_X12_whole_75 (by decide) rfl rfl ?_
        refine e_aload_n q_X12_whole_76 (by decide) rfl ?_
        refine i_getI (k' := 41) q_X12_whole_77 fl_X12_292 (a39 hB) rfl rfl rfl (f3.2.trans hKc.symm) ?_
        refine e_if_le q_X12_whole_80 (by constructor <;> omega) (fun c80 => ?_) (fun c80 => ?_)
        · skip
          have hK0 : K = 0 := by omega
          subst hK0
          have hg0 : ∀ f : Nat → Int, goodOn (rmP N d) (riP N d) (poP N d) 0 (N 39 29) (tb (2 ^ 0 - 1)) f := fun f => ⟨fun k hk => absurd hk (by omega), fun x _ _ hx => by obtain ⟨k, k1, _⟩ := hx; omega⟩
          exact k_wrest hB f5 (K := 0) (by rw [f3.2, ← hKc]) (by omega) (fun k hk => absurd hk (by omega)) (by rw [f2 31 (by decide)]; omega) (by rw [f2 31 (by decide)]; omega) (fun N4 hn => h4 hd 0 hKc (by omega) N1 w1 (fun k hk => absurd hk (by omega)) (hg0 _) (fun f _ => Int.le_refl _) N4 hn)
        · skip
          refine e_aload_n q_X12_whole_83 (by decide) rfl ?_
          refine e_iload_n q_X12_whole_84 (by decide) rfl ?_
          refine iv_X12_findAsked q_X12_whole_85 lk_X12_305 (by decide) (a39 hB) (Nat.le_of_ble_eq_true rfl) ?_
          refine k_findAsked hB hm hln w1 hd hKc hK6 (f3.2.trans hKc.symm) (fun k hk => f4 k (by omega)) (fun N2 w2 n2 at2 => ?_)
          have e29 : N2 39 29 = N 39 29 := w2.2.1 29 (by decide)
          have hwh2 : ∀ k : Nat, k < K → N2 67 k = whK N d k := fun k hk => by rw [n2 67 (by decide) (by decide) (by decide)]; exact f4 k (by omega)
          refine e_aload_n q_X12_whole_88 (by decide) rfl ?_
          refine iv_X12_findBest q_X12_whole_89 lk_X12_308 (by decide) (a39 hB) (Nat.le_of_ble_eq_true rfl) ?_
          refine k_findBest (a := aQ N d) (rm := rmP N d) (ri := riP N d) (po := poP N d) (K := K) hB w2.2.2 ((congrFun (n2 39 (by decide) (by decide) (by decide)) 41).trans (f3.2.trans hKc.symm)) hK6 (by rw [e29]; omega) (fun g h1 h2 => (at2 g h1 (by rw [← e29]; exact h2)).2.1) (fun g h1 h2 => by rw [(at2 g h1 (by rw [← e29]; exact h2)).1]; exact mems_r hm g d) (fun g h1 h2 => by rw [(at2 g h1 (by rw [← e29]; exact h2)).1]; rfl) (fun k hk => by rw [hwh2 k hk]; have := (whK_p (N := N) (d := d) (k := k) (by omega)).1; omega) (fun k hk => by rw [hwh2 k hk, w2.1 45 (by decide)]; exact Iff.rfl) (fun k g _ h2 _ => aQ_r hm hln k h2) (fun k hk g h1 h2 => by rw [(at2 g h1 (by rw [← e29]; exact h2)).2.2 k hk, aQ_t (by omega) (by rw [← e29]; exact h2)]) (by omega) (fun hno N3 b3 => ?_) (fun N3 b3 hgd hmin => ?_)
          · skip
            have w3 : eW N N3 := ⟨fun a h1 => by rw [b3.1 a (by omega) (by omega)]; exact w2.1 a h1, fun j hj => by rw [b3.1 39 (by decide) (by decide)]; exact w2.2.1 j hj, b3.2⟩
            have e73 : N3 73 = N 73 := by rw [b3.1 73 (by decide) (by decide), n2 73 (by decide) (by decide) (by decide)]; exact f1 73 (by decide) (by decide)
            have e49 : N3 39 49 = N 39 49 := by rw [b3.1 39 (by decide) (by decide), n2 39 (by decide) (by decide) (by decide)]; exact f2 49 (by decide)
            refine e_istore_n (ls' := [_, _, _, _]) q_X12_whole_92 (by decide) rfl rfl ?_
            refine e_iload_n q_X12_whole_93 (by decide) rfl ?_
            refine e_bipush q_X12_whole_94 (by decide) ?_
            refine e_icmp_ne q_X12_whole_96 (by constructor <;> omega) (by constructor <;> omega) (fun c96 => ?_) (fun c96 => ?_)
            · skip
              exact absurd rfl c96
            · skip
              refine e_bipush q_X12_whole_99 (by decide) ?_
              refine e_ireturn q_X12_whole_101 rfl rfl ?_
              exact h3 hd K hKc hK6 (by rw [e29] at hno; exact hno) N3 w3 e73 e49
          · skip
            have w3 : eW N N3 := ⟨fun a h1 => by rw [b3.1 a (by omega) (by omega)]; exact w2.1 a h1, fun j hj => by rw [b3.1 39 (by decide) (by decide)]; exact w2.2.1 j hj, b3.2⟩
            have e73 : N3 73 = N 73 := by rw [b3.1 73 (by decide) (by decide), n2 73 (by decide) (by decide) (by decide)]; exact f1 73 (by decide) (by decide)
            have e49 : N3 39 49 = N 39 49 := by rw [b3.1 39 (by decide) (by decide), n2 39 (by decide) (by decide) (by decide)]; exact f2 49 (by decide)
            have hcr := cst_b (a := aQ N d) (f := fun k : Nat => N3 69 k) K (fun k hk => aQ_r hm hln k (hgd.1 k hk (tb_all.mpr hk)).1)
            refine e_istore_n (ls' := [_, _, _, _]) q_X12_whole_92 (by decide) rfl rfl ?_
            refine e_iload_n q_X12_whole_93 (by decide) rfl ?_
            refine e_bipush q_X12_whole_94 (by decide) ?_
            refine e_icmp_ne q_X12_whole_96 (by constructor <;> omega) (by constructor <;> omega) (fun c96 => ?_) (fun c96 => ?_)
            · skip
              have hwh3 : ∀ k : Nat, k < K → N3 67 k = whK N d k := fun k hk => by rw [b3.1 67 (by decide) (by decide)]; exact hwh2 k hk
              have hK3 : N3 39 41 = K := by rw [b3.1 39 (by decide) (by decide), n2 39 (by decide) (by decide) (by decide)]; exact f3.2.trans hKc.symm
              have e31 : N3 39 31 = N 39 31 := w3.2.1 31 (by decide)
              rw [e29] at hgd hmin
              exact k_wrest hB w3.2.2 hK3 hK6 (fun k hk => by rw [hwh3 k hk]; have := (whK_p (N := N) (d := d) (k := k) (by omega)).1; omega) (by omega) (by omega) (fun N4 hn => h4 hd K hKc hK6 N3 w3 hwh3 hgd hmin N4 hn)
            · skip
              exact absurd c96 (by omega)
      · skip
        exact absurd (by omega) c21
  · skip
    refine e_iconst q_X12_whole_7 ?_
    refine e_ireturn q_X12_whole_8 rfl rfl ?_
    exact h1 c4
end FI13
