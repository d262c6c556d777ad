/-! rolls, both (printed by wip/whole/gen/r15.py) -/
section RT15
variable {X : zX} {s : zK} {N : zN} {σ : zS} {fa sa : Int → Int} {Q K : Option Value → zS → Prop} {c : Int}
/-- the reference's roll: what is done -/
def mrB (N : zN) (N2 : zN) : Prop := (∀ a : Nat, a ≠ 39 → a ≠ 85 → a ≠ 86 → a ≠ 87 → N2 a = N a) ∧ (∀ x : Int, x ≠ 63 → N2 39 x = N 39 x) ∧ N2 39 63 = 1 ∧ ∀ a x, zr (N2 a x)
noncomputable def nmP (N : zN) (g d n : Int) (k : Nat) : Int := cnt (fun w : Nat => (w : Int) < N 39 2 ∧ memb N w g d ∧ N 43 w = n) k
theorem nmP_48 (hm : mI N) (g d n : Int) : nmP N g d n 48 = nmK N g d n (N 39 2).toNat := by
  have hC := hm.2.1
  unfold mCnt at hC
  unfold nmP nmK
  rw [cnt_flat (m := (N 39 2).toNat) (n := 48) (by omega) (fun x h2 h3 q => by have := q.1; omega)]
  exact cnt_c (fun x hx => ⟨fun q => q.2, fun q => ⟨by omega, q⟩⟩)
theorem mrB.m {N2 : zN} (hm : mI N) (h : mrB N N2) : mI N2 := by
  have hs : ∀ L : List Nat, (∀ b ∈ L, b ≠ 39 ∧ b < 85) → sC N N2 L := fun L hL b hb => h.1 b (hL b hb).1 (by have := hL b hb; omega) (by have := hL b hb; omega) (by have := hL b hb; omega)
  have k : ∀ x : Int, x ≠ 63 → N2 39 x = N 39 x := h.2.1
  refine ⟨h.2.2.2, ?_, mPpl_k (hs _ (by decide)) (k _ (by decide)) (by rw [k 0 (by decide)]; exact Int.le_refl _) hm.2.2.1, mFlt_k (hs _ (by decide)) (k _ (by decide)) (by rw [k 2 (by decide)]; exact Int.le_refl _) hm.2.2.2.1, mSpl_k (hs _ (by decide)) (k _ (by decide)) (by rw [k 2 (by decide)]; exact Int.le_refl _) (by rw [k 29 (by decide)]; exact Int.le_refl _) hm.2.2.2.2.1, mSty_k (hs _ (by decide)) (k _ (by decide)) (by rw [k 2 (by decide)]; exact Int.le_refl _) (by rw [k 0 (by decide)]; exact Int.le_refl _) hm.2.2.2.2.2.1, mPle_k (hs _ (by decide)) (k _ (by decide)) (by rw [k 10 (by decide)]; exact Int.le_refl _) (by rw [k 29 (by decide)]; exact Int.le_refl _) hm.2.2.2.2.2.2⟩
  have := hm.2.1
  unfold mCnt at this ⊢
  rw [k 0 (by decide), k 2 (by decide), k 10 (by decide), k 15 (by decide), k 26 (by decide), k 29 (by decide), k 31 (by decide), k 36 (by decide), k 50 (by decide)]
  exact this
theorem mrB.memb_ {N2 : zN} (h : mrB N N2) (w g d : Int) : memb N2 w g d = memb N w g d := memb_k (fun b hb => h.1 b (by simp only [List.mem_cons, List.not_mem_nil, or_false] at hb; omega) (by simp only [List.mem_cons, List.not_mem_nil, or_false] at hb; omega) (by simp only [List.mem_cons, List.not_mem_nil, or_false] at hb; omega) (by simp only [List.mem_cons, List.not_mem_nil, or_false] at hb; omega)) (fun b hb => h.2.1 b (by simp only [List.mem_cons, List.not_mem_nil, or_false] at hb; omega)) w g d
theorem mrB.up {N2 : zN} {a : Nat} {i x : Int} (h : mrB N N2) (ha : a = 85 ∨ a = 86 ∨ a = 87) (hx : zr x) : mrB N (mup N2 a i x) := by
  refine ⟨fun b h1 h2 h3 h4 => ?_, fun y hy => ?_, ?_, zr_mup h.2.2.2 hx⟩
  · rw [mup_fn (by omega)]; exact h.1 b h1 h2 h3 h4
  · rw [mup_cell (by omega)]; exact h.2.1 y hy
  · rw [mup_cell (by omega)]; exact h.2.2.1
set_option maxRecDepth 20000 in
set_option maxHeartbeats 2000000 in
theorem k_roll (hB : zB0 s) (hm : mI N) (hsl : ∀ w : Int, 0 ≤ w → w ≤ 3 → 0 ≤ N 83 w ∧ N 83 w ≤ 20) {g d w l : Int} (hg0 : zr g) (hd0 : zr d) (hw0 : zr w) (hl0 : zr l) (h1 : ¬ ((0 ≤ g ∧ g < N 39 29) ∧ (0 ≤ d ∧ d ≤ 9999)) → Q (some (vi (-1))) (zI s N)) (h2 : ((0 ≤ g ∧ g < N 39 29) ∧ (0 ≤ d ∧ d ≤ 9999)) → refus N w l ≠ 0 → Q (some (vi (refus N w l))) (zI s N)) (h3 : ((0 ≤ g ∧ g < N 39 29) ∧ (0 ≤ d ∧ d ≤ 9999)) → refus N w l = 0 → ¬ (∀ i : Int, 0 ≤ i → i < N 83 w → 0 ≤ itm N w i ∧ itm N w i ≤ 39) → Q (some (vi (-2))) (zI s N)) (h4 : ((0 ≤ g ∧ g < N 39 29) ∧ (0 ≤ d ∧ d ≤ 9999)) → refus N w l = 0 → (∀ i : Int, 0 ≤ i → i < N 83 w → 0 ≤ itm N w i ∧ itm N w i ≤ 39) → ∀ N2, (mrB N N2 ∧ (∀ n : Int, 0 ≤ n → n < 40 → N2 85 n = nmK N g d n (N 39 2).toNat ∧ N2 86 n = rlK N w n (N 83 w).toNat) ∧ ∀ x : Int, 0 ≤ x → x < 48 → N2 87 x = bi (x < N 39 2 ∧ memb N x g d)) → Q (some (vi (sumK (fun n : Nat => loF (nmK N g d n (N 39 2).toNat) (rlK N w n (N 83 w).toNat)) 40))) (zI s N2)) : zC X m_X12_roll [.ref 39, vi g, vi d, vi w, vi l] (zI s N) Q := by
  have hR := hm.1
  have hC := hm.2.1
  unfold mCnt at hC
  have rv := refus_v (N := N) (w := w) (l := l)
  show zE X m_X12_roll 0 [.ref 39, vi g, vi d, vi w, vi l, zU, zU] [] _ Q
  refine e_aload_n q_X12_roll_0 (by decide) rfl ?_
  refine e_iload_n q_X12_roll_1 (by decide) rfl ?_
  refine iv_X12_isGroup q_X12_roll_2 lk_X12_261 (by decide) (a39 hB) (Nat.le_of_ble_eq_true rfl) ?_
  refine k_isGroup hB hm hg0 ?_
  refine e_ifb_eq q_X12_roll_5 (fun c5 => ?_) (fun c5 => ?_)
  · skip
    refine e_iconst q_X12_roll_30 ?_
    refine e_ireturn q_X12_roll_31 rfl rfl ?_
    first | exact h1 (fun q => c5 q.1) | exact h1 (fun q => c12 q.2) | exact zqI (h2 ⟨c5, c12⟩ (by rw [rv.1 (fun q => c19 q.1)]; omega)) (rv.1 (fun q => c19 q.1)) | exact zqI (h2 ⟨c5, c12⟩ (by rw [rv.1 (fun q => c27 q.2)]; omega)) (rv.1 (fun q => c27 q.2))
  · skip
    refine e_iload_n q_X12_roll_8 (by decide) rfl ?_
    refine iv_X12_isDay q_X12_roll_9 lk_X12_181 (by decide) (Nat.le_of_ble_eq_true rfl) ?_
    refine k_isDay hd0 ?_
    refine e_ifb_eq q_X12_roll_12 (fun c12 => ?_) (fun c12 => ?_)
    · skip
      refine e_iconst q_X12_roll_30 ?_
      refine e_ireturn q_X12_roll_31 rfl rfl ?_
      first | exact h1 (fun q => c5 q.1) | exact h1 (fun q => c12 q.2) | exact zqI (h2 ⟨c5, c12⟩ (by rw [rv.1 (fun q => c19 q.1)]; omega)) (rv.1 (fun q => c19 q.1)) | exact zqI (h2 ⟨c5, c12⟩ (by rw [rv.1 (fun q => c27 q.2)]; omega)) (rv.1 (fun q => c27 q.2))
    · skip
      refine e_iload_n q_X12_roll_15 (by decide) rfl ?_
      refine iv_X12_isSheet q_X12_roll_16 lk_X12_347 (by decide) (Nat.le_of_ble_eq_true rfl) ?_
      refine k_isSheet hw0 ?_
      refine e_ifb_eq q_X12_roll_19 (fun c19 => ?_) (fun c19 => ?_)
      · skip
        refine e_iconst q_X12_roll_30 ?_
        refine e_ireturn q_X12_roll_31 rfl rfl ?_
        first | exact h1 (fun q => c5 q.1) | exact h1 (fun q => c12 q.2) | exact zqI (h2 ⟨c5, c12⟩ (by rw [rv.1 (fun q => c19 q.1)]; omega)) (rv.1 (fun q => c19 q.1)) | exact zqI (h2 ⟨c5, c12⟩ (by rw [rv.1 (fun q => c27 q.2)]; omega)) (rv.1 (fun q => c27 q.2))
      · skip
        refine e_iload q_X12_roll_22 (by decide) rfl ?_
        refine iv_X12_isLane q_X12_roll_24 lk_X12_350 (by decide) (Nat.le_of_ble_eq_true rfl) ?_
        refine k_isLane hl0 ?_
        refine e_ifb_ne q_X12_roll_27 (fun c27 => ?_) (fun c27 => ?_)
        · skip
          refine e_aload_n q_X12_roll_32 (by decide) rfl ?_
          refine i_getC (r := 82) q_X12_roll_33 fl_X12_142 (a39 hB) rfl (by decide) ?_
          refine e_iload_n q_X12_roll_36 (by decide) rfl ?_
          refine i_iald q_X12_roll_37 (a82 hB) (cref0 (by decide)) (by first | omega | assumption) (by first | omega | assumption) (by decide) rfl ?_
          refine e_bipush q_X12_roll_38 (by decide) ?_
          refine e_icmp_ne q_X12_roll_40 (by first | exact hR _ _ | (constructor <;> omega) | assumption) (by first | exact hR _ _ | (constructor <;> omega) | assumption) (fun c40 => ?_) (fun c40 => ?_)
          · skip
            refine e_aload_n q_X12_roll_46 (by decide) rfl ?_
            refine i_getC (r := 82) q_X12_roll_47 fl_X12_142 (a39 hB) rfl (by decide) ?_
            refine e_iload_n q_X12_roll_50 (by decide) rfl ?_
            refine i_iald q_X12_roll_51 (a82 hB) (cref0 (by decide)) (by first | omega | assumption) (by first | omega | assumption) (by decide) rfl ?_
            refine e_iload q_X12_roll_52 (by decide) rfl ?_
            refine e_icmp_eq q_X12_roll_54 (hR _ _) hl0 (fun c54 => ?_) (fun c54 => ?_)
            · skip
              refine e_iconst q_X12_roll_60 ?_
              refine e_istore (ls' := [_, _, _, _, _, _, _]) q_X12_roll_61 (by decide) rfl rfl ?_
              have hg : ((0 ≤ g ∧ g < N 39 29) ∧ (0 ≤ d ∧ d ≤ 9999)) := ⟨c5, c12⟩
              have hok : refus N w l = 0 := rv.2.2.2 ⟨c19, c27⟩ (by omega) (by omega)
              have hs3 := hsl w (by omega) (by omega)
              refine zEe (ls := [.ref 39, vi g, vi d, vi w, vi l, vi ((0 : Nat) : Int), zU]) (σ := zI s N) ?_ rfl rfl
              refine z_for (P := fun i => ∀ (hh : True), (∀ j : Int, 0 ≤ j → j < i → 0 ≤ itm N w j ∧ itm N w j ≤ 39) → zE X m_X12_roll 63 [.ref 39, vi g, vi d, vi w, vi l, vi (i : Int), zU] [] (zI s N) Q) (N 83 w).toNat (fun i hi ih hh hv => ?_) (fun hh hv => ?_) trivial (fun j h0 h1 => by omega)
              · skip
                refine e_iload q_X12_roll_63 (by decide) rfl ?_
                refine e_aload_n q_X12_roll_65 (by decide) rfl ?_
                refine i_getC (r := 83) q_X12_roll_66 fl_X12_145 (a39 hB) rfl (by decide) ?_
                refine e_iload_n q_X12_roll_69 (by decide) rfl ?_
                refine i_iald q_X12_roll_70 (a83 hB) (cref0 (by decide)) (by first | omega | assumption) (by first | omega | assumption) (by decide) rfl ?_
                refine e_icmp_ge q_X12_roll_71 (by first | exact hR _ _ | (constructor <;> omega) | assumption) (by first | exact hR _ _ | (constructor <;> omega) | assumption) (fun c71 => ?_) (fun c71 => ?_)
                · skip
                  exact absurd c71 (by omega)
                · skip
                  refine e_aload_n q_X12_roll_74 (by decide) rfl ?_
                  refine i_getC (r := 84) q_X12_roll_75 fl_X12_148 (a39 hB) rfl (by decide) ?_
                  refine e_bipush q_X12_roll_78 (by decide) ?_
                  refine e_iload_n q_X12_roll_80 (by decide) rfl ?_
                  refine e_imul q_X12_roll_81 ?_
                  refine e_iload q_X12_roll_82 (by decide) rfl ?_
                  refine e_iadd q_X12_roll_84 ?_
                  refine i_iald q_X12_roll_85 (a84 hB) (cref0 (by decide)) (by first | omega | assumption) (by first | omega | assumption) (by decide) (show N 84 (20 * w + i) = itm N w i from rfl) ?_
                  refine e_iconst q_X12_roll_86 ?_
                  refine e_bipush q_X12_roll_87 (by decide) ?_
                  refine iv_X12_within q_X12_roll_89 lk_X12_160 (by decide) (Nat.le_of_ble_eq_true rfl) ?_
                  refine k_within (hR _ _) (by constructor <;> omega) (by constructor <;> omega) ?_
                  refine e_ifb_ne q_X12_roll_92 (fun c92 => ?_) (fun c92 => ?_)
                  · skip
                    refine e_iinc (ls' := [_, _, _, _, _, _, _]) q_X12_roll_98 (by decide) rfl rfl rfl ?_
                    refine e_goto q_X12_roll_101 ?_
                    exact ih trivial (fun j h0 h1 => by
                      by_cases hj : j = i
                      · rw [hj]; exact c92
                      · exact hv j h0 (by omega))
                  · skip
                    refine e_bipush q_X12_roll_95 (by decide) ?_
                    refine e_ireturn q_X12_roll_97 rfl rfl ?_
                    exact h3 hg hok (fun q => c92 (q i (by omega) (by omega)))
              · skip
                refine e_iload q_X12_roll_63 (by decide) rfl ?_
                refine e_aload_n q_X12_roll_65 (by decide) rfl ?_
                refine i_getC (r := 83) q_X12_roll_66 fl_X12_145 (a39 hB) rfl (by decide) ?_
                refine e_iload_n q_X12_roll_69 (by decide) rfl ?_
                refine i_iald q_X12_roll_70 (a83 hB) (cref0 (by decide)) (by first | omega | assumption) (by first | omega | assumption) (by decide) rfl ?_
                refine e_icmp_ge q_X12_roll_71 (by first | exact hR _ _ | (constructor <;> omega) | assumption) (by first | exact hR _ _ | (constructor <;> omega) | assumption) (fun c71 => ?_) (fun c71 => ?_)
                · skip
                  have hits : ∀ i : Int, 0 ≤ i → i < N 83 w → 0 ≤ itm N w i ∧ itm N w i ≤ 39 := fun j h0 h1 => hv j h0 (by omega)
                  refine e_aload_n q_X12_roll_104 (by decide) rfl ?_
                  refine e_iconst q_X12_roll_105 ?_
                  refine i_putI (k' := 63) q_X12_roll_106 fl_X12_353 (Or.inl rfl) (a39 hB) rfl rfl rfl rfl rfl ?_
                  refine e_iconst q_X12_roll_109 ?_
                  refine e_istore (ls' := [_, _, _, _, _, _, _]) q_X12_roll_110 (by decide) rfl rfl ?_
                  refine zEe (ls := [.ref 39, vi g, vi d, vi w, vi l, vi ((0 : Nat) : Int), zU]) (σ := zI s (mup N 39 63 1)) ?_ rfl rfl
                  refine z_for (P := fun i => ∀ (N2 : zN), (mrB N N2 ∧ (∀ n : Int, 0 ≤ n → n < i → N2 85 n = 0 ∧ N2 86 n = 0)) → zE X m_X12_roll 112 [.ref 39, vi g, vi d, vi w, vi l, vi (i : Int), zU] [] (zI s N2) Q) 40 (fun i hi ih N2 hv => ?_) (fun N2 hv => ?_) _ ⟨⟨fun b h1 _ _ _ => mup_fn h1, fun x hx => mup_slot hx, mup_self _ _ _ _, zr_mup hR (by constructor <;> omega)⟩, fun n h1 h2 => by omega⟩
                  · skip
                    refine e_iload q_X12_roll_112 (by decide) rfl ?_
                    refine e_bipush q_X12_roll_114 (by decide) ?_
                    refine e_icmp_ge q_X12_roll_116 (by constructor <;> omega) (by constructor <;> omega) (fun c116 => ?_) (fun c116 => ?_)
                    · skip
                      exact absurd c116 (by omega)
                    · skip
                      refine e_aload_n q_X12_roll_119 (by decide) rfl ?_
                      refine i_getC (r := 85) q_X12_roll_120 fl_X12_151 (a39 hB) rfl (by decide) ?_
                      refine e_iload q_X12_roll_123 (by decide) rfl ?_
                      refine e_iconst q_X12_roll_125 ?_
                      refine i_iast q_X12_roll_126 (a85 hB) (cref0 (by decide)) (by first | omega | assumption) (by first | omega | assumption) (by decide) ?_
                      refine e_aload_n q_X12_roll_127 (by decide) rfl ?_
                      refine i_getC (r := 86) q_X12_roll_128 fl_X12_154 (a39 hB) rfl (by decide) ?_
                      refine e_iload q_X12_roll_131 (by decide) rfl ?_
                      refine e_iconst q_X12_roll_133 ?_
                      refine i_iast q_X12_roll_134 (a86 hB) (cref0 (by decide)) (by first | omega | assumption) (by first | omega | assumption) (by decide) ?_
                      refine e_iinc (ls' := [_, _, _, _, _, _, _]) q_X12_roll_135 (by decide) rfl rfl rfl ?_
                      refine e_goto q_X12_roll_138 ?_
                      refine ih _ ⟨(hv.1.up (by omega) (by constructor <;> omega)).up (by omega) (by constructor <;> omega), fun n h1 h2 => ?_⟩
                      by_cases hn : n = i
                      · rw [hn, mup_cell (by decide), mup_self, mup_self]; exact ⟨rfl, rfl⟩
                      · rw [mup_cell (by decide), mup_slot hn, mup_slot hn, mup_cell (by decide)]; exact hv.2 n h1 (by omega)
                  · skip
                    refine e_iload q_X12_roll_112 (by decide) rfl ?_
                    refine e_bipush q_X12_roll_114 (by decide) ?_
                    refine e_icmp_ge q_X12_roll_116 (by constructor <;> omega) (by constructor <;> omega) (fun c116 => ?_) (fun c116 => ?_)
                    · skip
                      refine e_iconst q_X12_roll_141 ?_
                      refine e_istore (ls' := [_, _, _, _, _, _, _]) q_X12_roll_142 (by decide) rfl rfl ?_
                      refine zEe (ls := [.ref 39, vi g, vi d, vi w, vi l, vi ((0 : Nat) : Int), zU]) (σ := zI s N2) ?_ rfl rfl
                      refine z_for (P := fun i => ∀ (N2 : zN), (mrB N N2 ∧ (∀ n : Int, 0 ≤ n → n < 40 → N2 85 n = nmP N g d n i ∧ N2 86 n = 0) ∧ ∀ x : Int, 0 ≤ x → x < i → N2 87 x = bi (x < N 39 2 ∧ memb N x g d)) → zE X m_X12_roll 144 [.ref 39, vi g, vi d, vi w, vi l, vi (i : Int), zU] [] (zI s N2) Q) 48 (fun i hi ih N2 hv => ?_) (fun N2 hv => ?_) N2 ⟨hv.1, fun n h1 h2 => hv.2 n h1 (by omega), fun x h1 h2 => by omega⟩
                      · skip
                        have e2 : N2 39 2 = N 39 2 := hv.1.2.1 2 (by decide)
                        have hm2 := hv.1.m hm
                        have hR2 := hm2.1
                        have e43 : ∀ x, N2 43 x = N 43 x := fun x => congrFun (hv.1.1 43 (by decide) (by decide) (by decide) (by decide)) x
                        refine e_iload q_X12_roll_144 (by decide) rfl ?_
                        refine e_bipush q_X12_roll_146 (by decide) ?_
                        refine e_icmp_ge q_X12_roll_148 (by constructor <;> omega) (by constructor <;> omega) (fun c148 => ?_) (fun c148 => ?_)
                        · skip
                          exact absurd c148 (by omega)
                        · skip
                          refine e_aload_n q_X12_roll_151 (by decide) rfl ?_
                          refine i_getC (r := 87) q_X12_roll_152 fl_X12_157 (a39 hB) rfl (by decide) ?_
                          refine e_iload q_X12_roll_155 (by decide) rfl ?_
                          refine e_iload q_X12_roll_157 (by decide) rfl ?_
                          refine e_aload_n q_X12_roll_159 (by decide) rfl ?_
                          refine i_getI (k' := 2) q_X12_roll_160 fl_X12_164 (a39 hB) rfl rfl rfl e2 ?_
                          refine e_icmp_ge q_X12_roll_163 (by constructor <;> omega) (by constructor <;> omega) (fun c163 => ?_) (fun c163 => ?_)
                          · skip
                            refine e_iconst q_X12_roll_181 ?_
                            refine i_zast q_X12_roll_182 (a87 hB) (cref0 (by decide)) (by first | omega | assumption) (by first | omega | assumption) (by decide) rfl ?_
                            refine e_aload_n q_X12_roll_183 (by decide) rfl ?_
                            refine i_getC (r := 87) q_X12_roll_184 fl_X12_157 (a39 hB) rfl (by decide) ?_
                            refine e_iload q_X12_roll_187 (by decide) rfl ?_
                            refine i_zald q_X12_roll_189 (a87 hB) (cref0 (by decide)) (by first | omega | assumption) (by first | omega | assumption) (by decide) (mup_self _ _ _ _) ?_
                            refine e_if_eq q_X12_roll_190 (by constructor <;> omega) (fun c190 => ?_) (fun c190 => ?_)
                            · skip
                              refine e_iinc (ls' := [_, _, _, _, _, _, _]) q_X12_roll_209 (by decide) rfl rfl rfl ?_
                              refine e_goto q_X12_roll_212 ?_
                              have kk : ∀ v : Int, v = bi ((i : Int) < N 39 2 ∧ memb N i g d) → ∀ N3 : zN, (N3 = mup N2 87 i v ∨ N3 = mup (mup N2 87 i v) 85 (N 43 i) (N2 85 (N 43 i) + 1)) → (∀ n : Int, 0 ≤ n → n < 40 → N3 85 n = nmP N g d n (i + 1)) → mrB N N3 → zE X m_X12_roll 144 [.ref 39, vi g, vi d, vi w, vi l, vi ((i + 1 : Nat) : Int), zU] [] (zI s N3) Q := by
                                intro v hvv N3 hN3 h85 hmr
                                refine ih _ ⟨hmr, fun n h1 h2 => ⟨h85 n h1 h2, ?_⟩, fun x h1 h2 => ?_⟩
                                · rcases hN3 with rfl | rfl
                                  · rw [mup_cell (by decide)]; exact (hv.2.1 n h1 h2).2
                                  · rw [mup_cell (by decide), mup_cell (by decide)]; exact (hv.2.1 n h1 h2).2
                                · have e : N3 87 x = mup N2 87 i v 87 x := by
                                    rcases hN3 with rfl | rfl
                                    · rfl
                                    · exact mup_cell (by decide)
                                  rw [e]
                                  by_cases hx : x = i
                                  · rw [hx, mup_self, hvv]
                                  · rw [mup_slot hx]; exact hv.2.2 x h1 (by omega)
                              first
                              | exact absurd c190 (by omega)
                              | (have hmb : memb N i g d := by rw [← hv.1.memb_]; exact c174
                                 have hnn := hm.2.2.1 i (by omega) (by omega)
                                 refine zEe (kk 1 (by rw [bi_t ⟨by omega, hmb⟩]) _ (Or.inr rfl) (fun n h1 h2 => ?_) ((hv.1.up (by omega) (by constructor <;> omega)).up (by omega) ?_)) rfl rfl
                                 · by_cases hn : n = N 43 i
                                   · rw [hn, mup_self, (hv.2.1 (N 43 i) (by omega) (by omega)).1]
                                     exact (cnt_t (p := fun v : Nat => (v : Int) < N 39 2 ∧ memb N v g d ∧ N 43 v = N 43 i) ⟨by omega, hmb, rfl⟩).symm
                                   · rw [mup_slot hn, mup_cell (by decide), (hv.2.1 n h1 h2).1]
                                     exact (cnt_f' (p := fun v : Nat => (v : Int) < N 39 2 ∧ memb N v g d ∧ N 43 v = n) (fun q => hn q.2.2.symm)).symm
                                 · rw [(hv.2.1 (N 43 i) (by omega) (by omega)).1]
                                   have := cnt_b (fun v : Nat => (v : Int) < N 39 2 ∧ memb N v g d ∧ N 43 v = N 43 i) i
                                   have e : nmP N g d (N 43 i) i = cnt (fun v : Nat => (v : Int) < N 39 2 ∧ memb N v g d ∧ N 43 v = N 43 i) i := rfl
                                   constructor <;> omega)
                              | (have hno : ¬ ((i : Int) < N 39 2 ∧ memb N i g d) := fun q => by first | exact absurd q.1 (by omega) | exact c174 (by rw [hv.1.memb_]; exact q.2)
                                 refine zEe (kk 0 (by rw [bi_f hno]) _ (Or.inl rfl) (fun n h1 h2 => ?_) (hv.1.up (by omega) (by constructor <;> omega))) rfl rfl
                                 rw [mup_cell (by decide), (hv.2.1 n h1 h2).1]
                                 exact (cnt_f' (p := fun v : Nat => (v : Int) < N 39 2 ∧ memb N v g d ∧ N 43 v = n) (fun q => hno ⟨q.1, q.2.1⟩)).symm)
                            · skip
                              refine e_aload_n q_X12_roll_193 (by decide) rfl ?_
                              refine i_getC (r := 85) q_X12_roll_194 fl_X12_151 (a39 hB) rfl (by decide) ?_
                              refine e_aload_n q_X12_roll_197 (by decide) rfl ?_
                              refine i_getC (r := 43) q_X12_roll_198 fl_X12_19 (a39 hB) rfl (by decide) ?_
                              refine e_iload q_X12_roll_201 (by decide) rfl ?_
                              refine i_iald q_X12_roll_203 (a43 hB) (cref0 (by decide)) (by first | omega | assumption) (by first | omega | assumption) (by decide) ((mup_cell (by decide)).trans (e43 _)) ?_
                              refine e_dup2 q_X12_roll_204 rfl rfl ?_
                              refine i_iald q_X12_roll_205 (a85 hB) (cref0 (by decide)) (by have hnn := hm.2.2.1 i (by omega) (by omega); omega) (by have hnn := hm.2.2.1 i (by omega) (by omega); omega) (by decide) (mup_cell (by decide)) ?_
                              refine e_iconst q_X12_roll_206 ?_
                              refine e_iadd q_X12_roll_207 ?_
                              refine i_iast q_X12_roll_208 (a85 hB) (cref0 (by decide)) (by have hnn := hm.2.2.1 i (by omega) (by omega); omega) (by have hnn := hm.2.2.1 i (by omega) (by omega); omega) (by decide) ?_
                              refine e_iinc (ls' := [_, _, _, _, _, _, _]) q_X12_roll_209 (by decide) rfl rfl rfl ?_
                              refine e_goto q_X12_roll_212 ?_
                              have kk : ∀ v : Int, v = bi ((i : Int) < N 39 2 ∧ memb N i g d) → ∀ N3 : zN, (N3 = mup N2 87 i v ∨ N3 = mup (mup N2 87 i v) 85 (N 43 i) (N2 85 (N 43 i) + 1)) → (∀ n : Int, 0 ≤ n → n < 40 → N3 85 n = nmP N g d n (i + 1)) → mrB N N3 → zE X m_X12_roll 144 [.ref 39, vi g, vi d, vi w, vi l, vi ((i + 1 : Nat) : Int), zU] [] (zI s N3) Q := by
                                intro v hvv N3 hN3 h85 hmr
                                refine ih _ ⟨hmr, fun n h1 h2 => ⟨h85 n h1 h2, ?_⟩, fun x h1 h2 => ?_⟩
                                · rcases hN3 with rfl | rfl
                                  · rw [mup_cell (by decide)]; exact (hv.2.1 n h1 h2).2
                                  · rw [mup_cell (by decide), mup_cell (by decide)]; exact (hv.2.1 n h1 h2).2
                                · have e : N3 87 x = mup N2 87 i v 87 x := by
                                    rcases hN3 with rfl | rfl
                                    · rfl
                                    · exact mup_cell (by decide)
                                  rw [e]
                                  by_cases hx : x = i
                                  · rw [hx, mup_self, hvv]
                                  · rw [mup_slot hx]; exact hv.2.2 x h1 (by omega)
                              first
                              | exact absurd c190 (by omega)
                              | (have hmb : memb N i g d := by rw [← hv.1.memb_]; exact c174
                                 have hnn := hm.2.2.1 i (by omega) (by omega)
                                 refine zEe (kk 1 (by rw [bi_t ⟨by omega, hmb⟩]) _ (Or.inr rfl) (fun n h1 h2 => ?_) ((hv.1.up (by omega) (by constructor <;> omega)).up (by omega) ?_)) rfl rfl
                                 · by_cases hn : n = N 43 i
                                   · rw [hn, mup_self, (hv.2.1 (N 43 i) (by omega) (by omega)).1]
                                     exact (cnt_t (p := fun v : Nat => (v : Int) < N 39 2 ∧ memb N v g d ∧ N 43 v = N 43 i) ⟨by omega, hmb, rfl⟩).symm
                                   · rw [mup_slot hn, mup_cell (by decide), (hv.2.1 n h1 h2).1]
                                     exact (cnt_f' (p := fun v : Nat => (v : Int) < N 39 2 ∧ memb N v g d ∧ N 43 v = n) (fun q => hn q.2.2.symm)).symm
                                 · rw [(hv.2.1 (N 43 i) (by omega) (by omega)).1]
                                   have := cnt_b (fun v : Nat => (v : Int) < N 39 2 ∧ memb N v g d ∧ N 43 v = N 43 i) i
                                   have e : nmP N g d (N 43 i) i = cnt (fun v : Nat => (v : Int) < N 39 2 ∧ memb N v g d ∧ N 43 v = N 43 i) i := rfl
                                   constructor <;> omega)
                              | (have hno : ¬ ((i : Int) < N 39 2 ∧ memb N i g d) := fun q => by first | exact absurd q.1 (by omega) | exact c174 (by rw [hv.1.memb_]; exact q.2)
                                 refine zEe (kk 0 (by rw [bi_f hno]) _ (Or.inl rfl) (fun n h1 h2 => ?_) (hv.1.up (by omega) (by constructor <;> omega))) rfl rfl
                                 rw [mup_cell (by decide), (hv.2.1 n h1 h2).1]
                                 exact (cnt_f' (p := fun v : Nat => (v : Int) < N 39 2 ∧ memb N v g d ∧ N 43 v = n) (fun q => hno ⟨q.1, q.2.1⟩)).symm)
                          · skip
                            refine e_aload_n q_X12_roll_166 (by decide) rfl ?_
                            refine e_iload q_X12_roll_167 (by decide) rfl ?_
                            refine e_iload_n q_X12_roll_169 (by decide) rfl ?_
                            refine e_iload_n q_X12_roll_170 (by decide) rfl ?_
                            refine iv_X12_isMember q_X12_roll_171 lk_X12_258 (by decide) (a39 hB) (Nat.le_of_ble_eq_true rfl) ?_
                            refine k_isMember hB hm2 hg0 (by omega) (by omega) (by omega) ?_
                            refine e_ifb_eq q_X12_roll_174 (fun c174 => ?_) (fun c174 => ?_)
                            · skip
                              refine e_iconst q_X12_roll_181 ?_
                              refine i_zast q_X12_roll_182 (a87 hB) (cref0 (by decide)) (by first | omega | assumption) (by first | omega | assumption) (by decide) rfl ?_
                              refine e_aload_n q_X12_roll_183 (by decide) rfl ?_
                              refine i_getC (r := 87) q_X12_roll_184 fl_X12_157 (a39 hB) rfl (by decide) ?_
                              refine e_iload q_X12_roll_187 (by decide) rfl ?_
                              refine i_zald q_X12_roll_189 (a87 hB) (cref0 (by decide)) (by first | omega | assumption) (by first | omega | assumption) (by decide) (mup_self _ _ _ _) ?_
                              refine e_if_eq q_X12_roll_190 (by constructor <;> omega) (fun c190 => ?_) (fun c190 => ?_)
                              · skip
                                refine e_iinc (ls' := [_, _, _, _, _, _, _]) q_X12_roll_209 (by decide) rfl rfl rfl ?_
                                refine e_goto q_X12_roll_212 ?_
                                have kk : ∀ v : Int, v = bi ((i : Int) < N 39 2 ∧ memb N i g d) → ∀ N3 : zN, (N3 = mup N2 87 i v ∨ N3 = mup (mup N2 87 i v) 85 (N 43 i) (N2 85 (N 43 i) + 1)) → (∀ n : Int, 0 ≤ n → n < 40 → N3 85 n = nmP N g d n (i + 1)) → mrB N N3 → zE X m_X12_roll 144 [.ref 39, vi g, vi d, vi w, vi l, vi ((i + 1 : Nat) : Int), zU] [] (zI s N3) Q := by
                                  intro v hvv N3 hN3 h85 hmr
                                  refine ih _ ⟨hmr, fun n h1 h2 => ⟨h85 n h1 h2, ?_⟩, fun x h1 h2 => ?_⟩
                                  · rcases hN3 with rfl | rfl
                                    · rw [mup_cell (by decide)]; exact (hv.2.1 n h1 h2).2
                                    · rw [mup_cell (by decide), mup_cell (by decide)]; exact (hv.2.1 n h1 h2).2
                                  · have e : N3 87 x = mup N2 87 i v 87 x := by
                                      rcases hN3 with rfl | rfl
                                      · rfl
                                      · exact mup_cell (by decide)
                                    rw [e]
                                    by_cases hx : x = i
                                    · rw [hx, mup_self, hvv]
                                    · rw [mup_slot hx]; exact hv.2.2 x h1 (by omega)
                                first
                                | exact absurd c190 (by omega)
                                | (have hmb : memb N i g d := by rw [← hv.1.memb_]; exact c174
                                   have hnn := hm.2.2.1 i (by omega) (by omega)
                                   refine zEe (kk 1 (by rw [bi_t ⟨by omega, hmb⟩]) _ (Or.inr rfl) (fun n h1 h2 => ?_) ((hv.1.up (by omega) (by constructor <;> omega)).up (by omega) ?_)) rfl rfl
                                   · by_cases hn : n = N 43 i
                                     · rw [hn, mup_self, (hv.2.1 (N 43 i) (by omega) (by omega)).1]
                                       exact (cnt_t (p := fun v : Nat => (v : Int) < N 39 2 ∧ memb N v g d ∧ N 43 v = N 43 i) ⟨by omega, hmb, rfl⟩).symm
                                     · rw [mup_slot hn, mup_cell (by decide), (hv.2.1 n h1 h2).1]
                                       exact (cnt_f' (p := fun v : Nat => (v : Int) < N 39 2 ∧ memb N v g d ∧ N 43 v = n) (fun q => hn q.2.2.symm)).symm
                                   · rw [(hv.2.1 (N 43 i) (by omega) (by omega)).1]
                                     have := cnt_b (fun v : Nat => (v : Int) < N 39 2 ∧ memb N v g d ∧ N 43 v = N 43 i) i
                                     have e : nmP N g d (N 43 i) i = cnt (fun v : Nat => (v : Int) < N 39 2 ∧ memb N v g d ∧ N 43 v = N 43 i) i := rfl
                                     constructor <;> omega)
                                | (have hno : ¬ ((i : Int) < N 39 2 ∧ memb N i g d) := fun q => by first | exact absurd q.1 (by omega) | exact c174 (by rw [hv.1.memb_]; exact q.2)
                                   refine zEe (kk 0 (by rw [bi_f hno]) _ (Or.inl rfl) (fun n h1 h2 => ?_) (hv.1.up (by omega) (by constructor <;> omega))) rfl rfl
                                   rw [mup_cell (by decide), (hv.2.1 n h1 h2).1]
                                   exact (cnt_f' (p := fun v : Nat => (v : Int) < N 39 2 ∧ memb N v g d ∧ N 43 v = n) (fun q => hno ⟨q.1, q.2.1⟩)).symm)
                              · skip
                                refine e_aload_n q_X12_roll_193 (by decide) rfl ?_
                                refine i_getC (r := 85) q_X12_roll_194 fl_X12_151 (a39 hB) rfl (by decide) ?_
                                refine e_aload_n q_X12_roll_197 (by decide) rfl ?_
                                refine i_getC (r := 43) q_X12_roll_198 fl_X12_19 (a39 hB) rfl (by decide) ?_
                                refine e_iload q_X12_roll_201 (by decide) rfl ?_
                                refine i_iald q_X12_roll_203 (a43 hB) (cref0 (by decide)) (by first | omega | assumption) (by first | omega | assumption) (by decide) ((mup_cell (by decide)).trans (e43 _)) ?_
                                refine e_dup2 q_X12_roll_204 rfl rfl ?_
                                refine i_iald q_X12_roll_205 (a85 hB) (cref0 (by decide)) (by have hnn := hm.2.2.1 i (by omega) (by omega); omega) (by have hnn := hm.2.2.1 i (by omega) (by omega); omega) (by decide) (mup_cell (by decide)) ?_
                                refine e_iconst q_X12_roll_206 ?_
                                refine e_iadd q_X12_roll_207 ?_
                                refine i_iast q_X12_roll_208 (a85 hB) (cref0 (by decide)) (by have hnn := hm.2.2.1 i (by omega) (by omega); omega) (by have hnn := hm.2.2.1 i (by omega) (by omega); omega) (by decide) ?_
                                refine e_iinc (ls' := [_, _, _, _, _, _, _]) q_X12_roll_209 (by decide) rfl rfl rfl ?_
                                refine e_goto q_X12_roll_212 ?_
                                have kk : ∀ v : Int, v = bi ((i : Int) < N 39 2 ∧ memb N i g d) → ∀ N3 : zN, (N3 = mup N2 87 i v ∨ N3 = mup (mup N2 87 i v) 85 (N 43 i) (N2 85 (N 43 i) + 1)) → (∀ n : Int, 0 ≤ n → n < 40 → N3 85 n = nmP N g d n (i + 1)) → mrB N N3 → zE X m_X12_roll 144 [.ref 39, vi g, vi d, vi w, vi l, vi ((i + 1 : Nat) : Int), zU] [] (zI s N3) Q := by
                                  intro v hvv N3 hN3 h85 hmr
                                  refine ih _ ⟨hmr, fun n h1 h2 => ⟨h85 n h1 h2, ?_⟩, fun x h1 h2 => ?_⟩
                                  · rcases hN3 with rfl | rfl
                                    · rw [mup_cell (by decide)]; exact (hv.2.1 n h1 h2).2
                                    · rw [mup_cell (by decide), mup_cell (by decide)]; exact (hv.2.1 n h1 h2).2
                                  · have e : N3 87 x = mup N2 87 i v 87 x := by
                                      rcases hN3 with rfl | rfl
                                      · rfl
                                      · exact mup_cell (by decide)
                                    rw [e]
                                    by_cases hx : x = i
                                    · rw [hx, mup_self, hvv]
                                    · rw [mup_slot hx]; exact hv.2.2 x h1 (by omega)
                                first
                                | exact absurd c190 (by omega)
                                | (have hmb : memb N i g d := by rw [← hv.1.memb_]; exact c174
                                   have hnn := hm.2.2.1 i (by omega) (by omega)
                                   refine zEe (kk 1 (by rw [bi_t ⟨by omega, hmb⟩]) _ (Or.inr rfl) (fun n h1 h2 => ?_) ((hv.1.up (by omega) (by constructor <;> omega)).up (by omega) ?_)) rfl rfl
                                   · by_cases hn : n = N 43 i
                                     · rw [hn, mup_self, (hv.2.1 (N 43 i) (by omega) (by omega)).1]
                                       exact (cnt_t (p := fun v : Nat => (v : Int) < N 39 2 ∧ memb N v g d ∧ N 43 v = N 43 i) ⟨by omega, hmb, rfl⟩).symm
                                     · rw [mup_slot hn, mup_cell (by decide), (hv.2.1 n h1 h2).1]
                                       exact (cnt_f' (p := fun v : Nat => (v : Int) < N 39 2 ∧ memb N v g d ∧ N 43 v = n) (fun q => hn q.2.2.symm)).symm
                                   · rw [(hv.2.1 (N 43 i) (by omega) (by omega)).1]
                                     have := cnt_b (fun v : Nat => (v : Int) < N 39 2 ∧ memb N v g d ∧ N 43 v = N 43 i) i
                                     have e : nmP N g d (N 43 i) i = cnt (fun v : Nat => (v : Int) < N 39 2 ∧ memb N v g d ∧ N 43 v = N 43 i) i := rfl
                                     constructor <;> omega)
                                | (have hno : ¬ ((i : Int) < N 39 2 ∧ memb N i g d) := fun q => by first | exact absurd q.1 (by omega) | exact c174 (by rw [hv.1.memb_]; exact q.2)
                                   refine zEe (kk 0 (by rw [bi_f hno]) _ (Or.inl rfl) (fun n h1 h2 => ?_) (hv.1.up (by omega) (by constructor <;> omega))) rfl rfl
                                   rw [mup_cell (by decide), (hv.2.1 n h1 h2).1]
                                   exact (cnt_f' (p := fun v : Nat => (v : Int) < N 39 2 ∧ memb N v g d ∧ N 43 v = n) (fun q => hno ⟨q.1, q.2.1⟩)).symm)
                            · skip
                              refine e_iconst q_X12_roll_177 ?_
                              refine e_goto q_X12_roll_178 ?_
                              refine i_zast q_X12_roll_182 (a87 hB) (cref0 (by decide)) (by first | omega | assumption) (by first | omega | assumption) (by decide) rfl ?_
                              refine e_aload_n q_X12_roll_183 (by decide) rfl ?_
                              refine i_getC (r := 87) q_X12_roll_184 fl_X12_157 (a39 hB) rfl (by decide) ?_
                              refine e_iload q_X12_roll_187 (by decide) rfl ?_
                              refine i_zald q_X12_roll_189 (a87 hB) (cref0 (by decide)) (by first | omega | assumption) (by first | omega | assumption) (by decide) (mup_self _ _ _ _) ?_
                              refine e_if_eq q_X12_roll_190 (by constructor <;> omega) (fun c190 => ?_) (fun c190 => ?_)
                              · skip
                                refine e_iinc (ls' := [_, _, _, _, _, _, _]) q_X12_roll_209 (by decide) rfl rfl rfl ?_
                                refine e_goto q_X12_roll_212 ?_
                                have kk : ∀ v : Int, v = bi ((i : Int) < N 39 2 ∧ memb N i g d) → ∀ N3 : zN, (N3 = mup N2 87 i v ∨ N3 = mup (mup N2 87 i v) 85 (N 43 i) (N2 85 (N 43 i) + 1)) → (∀ n : Int, 0 ≤ n → n < 40 → N3 85 n = nmP N g d n (i + 1)) → mrB N N3 → zE X m_X12_roll 144 [.ref 39, vi g, vi d, vi w, vi l, vi ((i + 1 : Nat) : Int), zU] [] (zI s N3) Q := by
                                  intro v hvv N3 hN3 h85 hmr
                                  refine ih _ ⟨hmr, fun n h1 h2 => ⟨h85 n h1 h2, ?_⟩, fun x h1 h2 => ?_⟩
                                  · rcases hN3 with rfl | rfl
                                    · rw [mup_cell (by decide)]; exact (hv.2.1 n h1 h2).2
                                    · rw [mup_cell (by decide), mup_cell (by decide)]; exact (hv.2.1 n h1 h2).2
                                  · have e : N3 87 x = mup N2 87 i v 87 x := by
                                      rcases hN3 with rfl | rfl
                                      · rfl
                                      · exact mup_cell (by decide)
                                    rw [e]
                                    by_cases hx : x = i
                                    · rw [hx, mup_self, hvv]
                                    · rw [mup_slot hx]; exact hv.2.2 x h1 (by omega)
                                first
                                | exact absurd c190 (by omega)
                                | (have hmb : memb N i g d := by rw [← hv.1.memb_]; exact c174
                                   have hnn := hm.2.2.1 i (by omega) (by omega)
                                   refine zEe (kk 1 (by rw [bi_t ⟨by omega, hmb⟩]) _ (Or.inr rfl) (fun n h1 h2 => ?_) ((hv.1.up (by omega) (by constructor <;> omega)).up (by omega) ?_)) rfl rfl
                                   · by_cases hn : n = N 43 i
                                     · rw [hn, mup_self, (hv.2.1 (N 43 i) (by omega) (by omega)).1]
                                       exact (cnt_t (p := fun v : Nat => (v : Int) < N 39 2 ∧ memb N v g d ∧ N 43 v = N 43 i) ⟨by omega, hmb, rfl⟩).symm
                                     · rw [mup_slot hn, mup_cell (by decide), (hv.2.1 n h1 h2).1]
                                       exact (cnt_f' (p := fun v : Nat => (v : Int) < N 39 2 ∧ memb N v g d ∧ N 43 v = n) (fun q => hn q.2.2.symm)).symm
                                   · rw [(hv.2.1 (N 43 i) (by omega) (by omega)).1]
                                     have := cnt_b (fun v : Nat => (v : Int) < N 39 2 ∧ memb N v g d ∧ N 43 v = N 43 i) i
                                     have e : nmP N g d (N 43 i) i = cnt (fun v : Nat => (v : Int) < N 39 2 ∧ memb N v g d ∧ N 43 v = N 43 i) i := rfl
                                     constructor <;> omega)
                                | (have hno : ¬ ((i : Int) < N 39 2 ∧ memb N i g d) := fun q => by first | exact absurd q.1 (by omega) | exact c174 (by rw [hv.1.memb_]; exact q.2)
                                   refine zEe (kk 0 (by rw [bi_f hno]) _ (Or.inl rfl) (fun n h1 h2 => ?_) (hv.1.up (by omega) (by constructor <;> omega))) rfl rfl
                                   rw [mup_cell (by decide), (hv.2.1 n h1 h2).1]
                                   exact (cnt_f' (p := fun v : Nat => (v : Int) < N 39 2 ∧ memb N v g d ∧ N 43 v = n) (fun q => hno ⟨q.1, q.2.1⟩)).symm)
                              · skip
                                refine e_aload_n q_X12_roll_193 (by decide) rfl ?_
                                refine i_getC (r := 85) q_X12_roll_194 fl_X12_151 (a39 hB) rfl (by decide) ?_
                                refine e_aload_n q_X12_roll_197 (by decide) rfl ?_
                                refine i_getC (r := 43) q_X12_roll_198 fl_X12_19 (a39 hB) rfl (by decide) ?_
                                refine e_iload q_X12_roll_201 (by decide) rfl ?_
                                refine i_iald q_X12_roll_203 (a43 hB) (cref0 (by decide)) (by first | omega | assumption) (by first | omega | assumption) (by decide) ((mup_cell (by decide)).trans (e43 _)) ?_
                                refine e_dup2 q_X12_roll_204 rfl rfl ?_
                                refine i_iald q_X12_roll_205 (a85 hB) (cref0 (by decide)) (by have hnn := hm.2.2.1 i (by omega) (by omega); omega) (by have hnn := hm.2.2.1 i (by omega) (by omega); omega) (by decide) (mup_cell (by decide)) ?_
                                refine e_iconst q_X12_roll_206 ?_
                                refine e_iadd q_X12_roll_207 ?_
                                refine i_iast q_X12_roll_208 (a85 hB) (cref0 (by decide)) (by have hnn := hm.2.2.1 i (by omega) (by omega); omega) (by have hnn := hm.2.2.1 i (by omega) (by omega); omega) (by decide) ?_
                                refine e_iinc (ls' := [_, _, _, _, _, _, _]) q_X12_roll_209 (by decide) rfl rfl rfl ?_
                                refine e_goto q_X12_roll_212 ?_
                                have kk : ∀ v : Int, v = bi ((i : Int) < N 39 2 ∧ memb N i g d) → ∀ N3 : zN, (N3 = mup N2 87 i v ∨ N3 = mup (mup N2 87 i v) 85 (N 43 i) (N2 85 (N 43 i) + 1)) → (∀ n : Int, 0 ≤ n → n < 40 → N3 85 n = nmP N g d n (i + 1)) → mrB N N3 → zE X m_X12_roll 144 [.ref 39, vi g, vi d, vi w, vi l, vi ((i + 1 : Nat) : Int), zU] [] (zI s N3) Q := by
                                  intro v hvv N3 hN3 h85 hmr
                                  refine ih _ ⟨hmr, fun n h1 h2 => ⟨h85 n h1 h2, ?_⟩, fun x h1 h2 => ?_⟩
                                  · rcases hN3 with rfl | rfl
                                    · rw [mup_cell (by decide)]; exact (hv.2.1 n h1 h2).2
                                    · rw [mup_cell (by decide), mup_cell (by decide)]; exact (hv.2.1 n h1 h2).2
                                  · have e : N3 87 x = mup N2 87 i v 87 x := by
                                      rcases hN3 with rfl | rfl
                                      · rfl
                                      · exact mup_cell (by decide)
                                    rw [e]
                                    by_cases hx : x = i
                                    · rw [hx, mup_self, hvv]
                                    · rw [mup_slot hx]; exact hv.2.2 x h1 (by omega)
                                first
                                | exact absurd c190 (by omega)
                                | (have hmb : memb N i g d := by rw [← hv.1.memb_]; exact c174
                                   have hnn := hm.2.2.1 i (by omega) (by omega)
                                   refine zEe (kk 1 (by rw [bi_t ⟨by omega, hmb⟩]) _ (Or.inr rfl) (fun n h1 h2 => ?_) ((hv.1.up (by omega) (by constructor <;> omega)).up (by omega) ?_)) rfl rfl
                                   · by_cases hn : n = N 43 i
                                     · rw [hn, mup_self, (hv.2.1 (N 43 i) (by omega) (by omega)).1]
                                       exact (cnt_t (p := fun v : Nat => (v : Int) < N 39 2 ∧ memb N v g d ∧ N 43 v = N 43 i) ⟨by omega, hmb, rfl⟩).symm
                                     · rw [mup_slot hn, mup_cell (by decide), (hv.2.1 n h1 h2).1]
                                       exact (cnt_f' (p := fun v : Nat => (v : Int) < N 39 2 ∧ memb N v g d ∧ N 43 v = n) (fun q => hn q.2.2.symm)).symm
                                   · rw [(hv.2.1 (N 43 i) (by omega) (by omega)).1]
                                     have := cnt_b (fun v : Nat => (v : Int) < N 39 2 ∧ memb N v g d ∧ N 43 v = N 43 i) i
                                     have e : nmP N g d (N 43 i) i = cnt (fun v : Nat => (v : Int) < N 39 2 ∧ memb N v g d ∧ N 43 v = N 43 i) i := rfl
                                     constructor <;> omega)
                                | (have hno : ¬ ((i : Int) < N 39 2 ∧ memb N i g d) := fun q => by first | exact absurd q.1 (by omega) | exact c174 (by rw [hv.1.memb_]; exact q.2)
                                   refine zEe (kk 0 (by rw [bi_f hno]) _ (Or.inl rfl) (fun n h1 h2 => ?_) (hv.1.up (by omega) (by constructor <;> omega))) rfl rfl
                                   rw [mup_cell (by decide), (hv.2.1 n h1 h2).1]
                                   exact (cnt_f' (p := fun v : Nat => (v : Int) < N 39 2 ∧ memb N v g d ∧ N 43 v = n) (fun q => hno ⟨q.1, q.2.1⟩)).symm)
                      · skip
                        refine e_iload q_X12_roll_144 (by decide) rfl ?_
                        refine e_bipush q_X12_roll_146 (by decide) ?_
                        refine e_icmp_ge q_X12_roll_148 (by constructor <;> omega) (by constructor <;> omega) (fun c148 => ?_) (fun c148 => ?_)
                        · skip
                          refine e_iconst q_X12_roll_215 ?_
                          refine e_istore (ls' := [_, _, _, _, _, _, _]) q_X12_roll_216 (by decide) rfl rfl ?_
                          have hc3 : mrB N N2 ∧ (∀ n : Int, 0 ≤ n → n < 40 → N2 85 n = nmK N g d n (N 39 2).toNat ∧ N2 86 n = rlK N w n 0) ∧ ∀ x : Int, 0 ≤ x → x < 48 → N2 87 x = bi (x < N 39 2 ∧ memb N x g d) := ⟨hv.1, fun n h1 h2 => ⟨(hv.2.1 n h1 h2).1.trans (nmP_48 hm g d n), (hv.2.1 n h1 h2).2⟩, fun x h1 h2 => hv.2.2 x h1 (by omega)⟩
                          refine zEe (ls := [.ref 39, vi g, vi d, vi w, vi l, vi ((0 : Nat) : Int), zU]) (σ := zI s N2) ?_ rfl rfl
                          refine z_for (P := fun i => ∀ (N2 : zN), (mrB N N2 ∧ (∀ n : Int, 0 ≤ n → n < 40 → N2 85 n = nmK N g d n (N 39 2).toNat ∧ N2 86 n = rlK N w n i) ∧ ∀ x : Int, 0 ≤ x → x < 48 → N2 87 x = bi (x < N 39 2 ∧ memb N x g d)) → zE X m_X12_roll 218 [.ref 39, vi g, vi d, vi w, vi l, vi (i : Int), zU] [] (zI s N2) Q) (N 83 w).toNat (fun i hi ih N2 hv => ?_) (fun N2 hv => ?_) N2 hc3
                          · skip
                            have e83 : N2 83 w = N 83 w := congrFun (hv.1.1 83 (by decide) (by decide) (by decide) (by decide)) w
                            have hm2 := hv.1.m hm
                            have hR2 := hm2.1
                            have hit : 0 ≤ itm N w i ∧ itm N w i ≤ 39 := hits i (by omega) (by omega)
                            refine e_iload q_X12_roll_218 (by decide) rfl ?_
                            refine e_aload_n q_X12_roll_220 (by decide) rfl ?_
                            refine i_getC (r := 83) q_X12_roll_221 fl_X12_145 (a39 hB) rfl (by decide) ?_
                            refine e_iload_n q_X12_roll_224 (by decide) rfl ?_
                            refine i_iald q_X12_roll_225 (a83 hB) (cref0 (by decide)) (by first | omega | assumption) (by first | omega | assumption) (by decide) e83 ?_
                            refine e_icmp_ge q_X12_roll_226 (by first | exact hR _ _ | (constructor <;> omega) | assumption) (by first | exact hR _ _ | (constructor <;> omega) | assumption) (fun c226 => ?_) (fun c226 => ?_)
                            · skip
                              exact absurd c226 (by omega)
                            · skip
                              refine e_aload_n q_X12_roll_229 (by decide) rfl ?_
                              refine i_getC (r := 86) q_X12_roll_230 fl_X12_154 (a39 hB) rfl (by decide) ?_
                              refine e_aload_n q_X12_roll_233 (by decide) rfl ?_
                              refine i_getC (r := 84) q_X12_roll_234 fl_X12_148 (a39 hB) rfl (by decide) ?_
                              refine e_bipush q_X12_roll_237 (by decide) ?_
                              refine e_iload_n q_X12_roll_239 (by decide) rfl ?_
                              refine e_imul q_X12_roll_240 ?_
                              refine e_iload q_X12_roll_241 (by decide) rfl ?_
                              refine e_iadd q_X12_roll_243 ?_
                              refine i_iald q_X12_roll_244 (a84 hB) (cref0 (by decide)) (by first | omega | assumption) (by first | omega | assumption) (by decide) (show N2 84 (20 * w + i) = itm N w i from congrFun (hv.1.1 84 (by decide) (by decide) (by decide) (by decide)) _) ?_
                              refine e_dup2 q_X12_roll_245 rfl rfl ?_
                              refine i_iald q_X12_roll_246 (a86 hB) (cref0 (by decide)) (by first | omega | assumption) (by first | omega | assumption) (by decide) rfl ?_
                              refine e_iconst q_X12_roll_247 ?_
                              refine e_iadd q_X12_roll_248 ?_
                              refine i_iast q_X12_roll_249 (a86 hB) (cref0 (by decide)) (by first | omega | assumption) (by first | omega | assumption) (by decide) ?_
                              refine e_iinc (ls' := [_, _, _, _, _, _, _]) q_X12_roll_250 (by decide) rfl rfl rfl ?_
                              refine e_goto q_X12_roll_253 ?_
                              have hne : ∀ n : Int, n ≠ itm N w i → rlK N w n (i + 1) = rlK N w n i := fun n hn => cnt_f' (p := fun m : Nat => itm N w m = n) (fun q => hn q.symm)
                              refine ih _ ⟨hv.1.up (by omega) ?_, fun n h1 h2 => ?_, fun x h1 h2 => ?_⟩
                              · rw [(hv.2.1 _ hit.1 (by omega)).2]
                                have := rlK_b N w (itm N w i) i
                                constructor <;> omega
                              · rw [mup_cell (a := 86) (b := 85) (by decide)]
                                refine ⟨(hv.2.1 n h1 h2).1, ?_⟩
                                by_cases hn : n = itm N w i
                                · rw [hn, mup_self, (hv.2.1 _ hit.1 (by omega)).2]
                                  exact (cnt_t (p := fun m : Nat => itm N w m = itm N w i) rfl).symm
                                · rw [mup_slot hn, hne n hn]
                                  exact (hv.2.1 n h1 h2).2
                              · rw [mup_cell (by decide)]
                                exact hv.2.2 x h1 h2
                          · skip
                            have e83 : N2 83 w = N 83 w := congrFun (hv.1.1 83 (by decide) (by decide) (by decide) (by decide)) w
                            have hm2 := hv.1.m hm
                            have hR2 := hm2.1
                            refine e_iload q_X12_roll_218 (by decide) rfl ?_
                            refine e_aload_n q_X12_roll_220 (by decide) rfl ?_
                            refine i_getC (r := 83) q_X12_roll_221 fl_X12_145 (a39 hB) rfl (by decide) ?_
                            refine e_iload_n q_X12_roll_224 (by decide) rfl ?_
                            refine i_iald q_X12_roll_225 (a83 hB) (cref0 (by decide)) (by first | omega | assumption) (by first | omega | assumption) (by decide) e83 ?_
                            refine e_icmp_ge q_X12_roll_226 (by first | exact hR _ _ | (constructor <;> omega) | assumption) (by first | exact hR _ _ | (constructor <;> omega) | assumption) (fun c226 => ?_) (fun c226 => ?_)
                            · skip
                              refine e_iconst q_X12_roll_256 ?_
                              refine e_istore (ls' := [_, _, _, _, _, _, _]) q_X12_roll_257 (by decide) rfl rfl ?_
                              refine e_iconst q_X12_roll_259 ?_
                              refine e_istore (ls' := [_, _, _, _, _, _, _]) q_X12_roll_260 (by decide) rfl rfl ?_
                              refine zEe (ls := [.ref 39, vi g, vi d, vi w, vi l, vi (sumK (fun n : Nat => leftO N2 n) 0), vi ((0 : Nat) : Int)]) (σ := zI s N2) ?_ rfl rfl
                              refine z_for (P := fun k => ∀ (hh : True), (True) → zE X m_X12_roll 262 [.ref 39, vi g, vi d, vi w, vi l, vi (sumK (fun n : Nat => leftO N2 n) k), vi (k : Int)] [] (zI s N2) Q) 40 (fun k hik ihk hh hvk => ?_) (fun hh hvk => ?_) trivial trivial
                              · skip
                                refine e_iload q_X12_roll_262 (by decide) rfl ?_
                                refine e_bipush q_X12_roll_264 (by decide) ?_
                                refine e_icmp_ge q_X12_roll_266 (by constructor <;> omega) (by constructor <;> omega) (fun c266 => ?_) (fun c266 => ?_)
                                · skip
                                  exact absurd c266 (by omega)
                                · skip
                                  refine e_iload q_X12_roll_269 (by decide) rfl ?_
                                  refine e_aload_n q_X12_roll_271 (by decide) rfl ?_
                                  refine e_iload q_X12_roll_272 (by decide) rfl ?_
                                  refine iv_X12_leftOutOf q_X12_roll_274 lk_X12_356 (by decide) (a39 hB) (Nat.le_of_ble_eq_true rfl) ?_
                                  refine k_leftOutOf hB hm2 (by omega) (by omega) (by have q := hv.2.1 k (by omega) (by omega); rw [q.1, q.2]; have := nmK_b N g d k (N 39 2).toNat; have := rlK_b N w k (N 83 w).toNat; constructor <;> omega) ?_
                                  refine e_iadd q_X12_roll_277 ?_
                                  refine e_istore (ls' := [_, _, _, _, _, _, _]) q_X12_roll_278 (by decide) rfl rfl ?_
                                  refine e_iinc (ls' := [_, _, _, _, _, _, _]) q_X12_roll_280 (by decide) rfl rfl rfl ?_
                                  refine e_goto q_X12_roll_283 ?_
                                  exact zEe (ihk trivial trivial) rfl rfl
                              · skip
                                refine e_iload q_X12_roll_262 (by decide) rfl ?_
                                refine e_bipush q_X12_roll_264 (by decide) ?_
                                refine e_icmp_ge q_X12_roll_266 (by constructor <;> omega) (by constructor <;> omega) (fun c266 => ?_) (fun c266 => ?_)
                                · skip
                                  refine e_iload q_X12_roll_286 (by decide) rfl ?_
                                  refine e_ireturn q_X12_roll_288 rfl rfl ?_
                                  exact zqI (h4 hg hok hits N2 hv) (sumK_c (fun n hn => by unfold leftO loF; rw [(hv.2.1 n (by omega) (by omega)).1, (hv.2.1 n (by omega) (by omega)).2]))
                                · skip
                                  exact absurd (by omega) c266
                            · skip
                              exact absurd (by omega) c226
                        · skip
                          exact absurd (by omega) c148
                    · skip
                      exact absurd (by omega) c116
                · skip
                  exact absurd (by omega) c71
            · skip
              refine e_bipush q_X12_roll_57 (by decide) ?_
              refine e_ireturn q_X12_roll_59 rfl rfl ?_
              exact zqI (h2 ⟨c5, c12⟩ (by rw [rv.2.2.1 ⟨c19, c27⟩ (by omega) (by omega)]; omega)) (rv.2.2.1 ⟨c19, c27⟩ (by omega) (by omega))
          · skip
            refine e_bipush q_X12_roll_43 (by decide) ?_
            refine e_ireturn q_X12_roll_45 rfl rfl ?_
            exact zqI (h2 ⟨c5, c12⟩ (by rw [rv.2.1 ⟨c19, c27⟩ (by omega)]; omega)) (rv.2.1 ⟨c19, c27⟩ (by omega))
        · skip
          refine e_iconst q_X12_roll_30 ?_
          refine e_ireturn q_X12_roll_31 rfl rfl ?_
          first | exact h1 (fun q => c5 q.1) | exact h1 (fun q => c12 q.2) | exact zqI (h2 ⟨c5, c12⟩ (by rw [rv.1 (fun q => c19 q.1)]; omega)) (rv.1 (fun q => c19 q.1)) | exact zqI (h2 ⟨c5, c12⟩ (by rw [rv.1 (fun q => c27 q.2)]; omega)) (rv.1 (fun q => c27 q.2))
set_option maxRecDepth 20000 in
set_option maxHeartbeats 2000000 in
theorem jx_roll (hI : xI s N fa sa) (hy : yI N) {N2 : zN} (hs : sK s s) (hG : zG s N2) (hsm : ∀ a : Nat, (a < 88 ∧ a ≠ 21 ∧ a ≠ 22 ∧ a ≠ 23 ∧ a ≠ 24 ∧ a ≠ 85 ∧ a ≠ 86 ∧ a ≠ 87 ∧ a ≠ 39 ∧ a ≠ 3) → N2 a = N a) (h39 : ∀ j : Int, (j ≠ 63) → N2 39 j = N 39 j) (h3 : ∀ j : Int, (j ≠ 1000) → N2 3 j = N 3 j) (hdy : ∀ a : Nat, 88 ≤ a → a < s.1.1 → ((s.2 a).1 ≠ 1000) → N2 a = N a) (v39_63 : N2 39 63 = 1) (v21 : N2 21 3 = 1) (q22 : ∀ n : Int, 0 ≤ n → n < 40 → N2 22 n = N2 86 n) (q23 : ∀ n : Int, 0 ≤ n → n < 40 → N2 23 n = N2 85 n) (q24 : ∀ x : Int, 0 ≤ x → x < 48 → N2 24 x = N2 87 x) (hyr : yRo N2) : xI s N2 fa sa ∧ yI N2 ∧ bud N2 ≤ bud N + 1 := by
  have hB := hI.B
  have hR := hI.R
  have hC := hI.C
  unfold mCnt at hC
  have hm := hI.m
  have n88 := hB.1
  obtain ⟨e1, e5, e7, e8, e10, e11, e3, e12, eh, eg, ef, et⟩ := hI.hs
  have g0 : N2 39 0 = N 39 0 := h39 _ (by omega)
  have g2 : N2 39 2 = N 39 2 := h39 _ (by omega)
  have g10 : N2 39 10 = N 39 10 := h39 _ (by omega)
  have g15 : N2 39 15 = N 39 15 := h39 _ (by omega)
  have g18 : N2 39 18 = N 39 18 := h39 _ (by omega)
  have g26 : N2 39 26 = N 39 26 := h39 _ (by omega)
  have g29 : N2 39 29 = N 39 29 := h39 _ (by omega)
  have g31 : N2 39 31 = N 39 31 := h39 _ (by omega)
  have g36 : N2 39 36 = N 39 36 := h39 _ (by omega)
  have g49 : N2 39 49 = N 39 49 := h39 _ (by omega)
  have g50 : N2 39 50 = N 39 50 := h39 _ (by omega)
  have g58 : N2 39 58 = N 39 58 := h39 _ (by omega)
  have g63 := v39_63
  have kCnt : mCnt N2 := by unfold mCnt; omega
  have k_ord : mOrd N2 := mOrd_k (show sC N N2 [48, 49, 50, 59, 61, 62] from fun b hb => hsm b (by simp only [List.mem_cons, List.not_mem_nil, or_false] at hb; omega)) (show s9 N N2 [10, 31] from fun b hb => h39 b (by simp only [List.mem_cons, List.not_mem_nil, or_false] at hb; omega)) hI.ord
  have k_ppl : mPpl N2 := mPpl_k (show sC N N2 [41, 42, 43, 44, 45, 46, 47] from fun b hb => hsm b (by simp only [List.mem_cons, List.not_mem_nil, or_false] at hb; omega)) g2 (by omega) hm.2.2.1
  have k_flt : mFlt N2 := mFlt_k (show sC N N2 [48, 49, 50] from fun b hb => hsm b (by simp only [List.mem_cons, List.not_mem_nil, or_false] at hb; omega)) g10 (by omega) hm.2.2.2.1
  have k_spl : mSpl N2 := mSpl_k (show sC N N2 [59, 60, 61, 62] from fun b hb => hsm b (by simp only [List.mem_cons, List.not_mem_nil, or_false] at hb; omega)) g31 (by omega) (by omega) hm.2.2.2.2.1
  have k_sty : mSty N2 := mSty_k (show sC N N2 [63, 64, 65, 66] from fun b hb => hsm b (by simp only [List.mem_cons, List.not_mem_nil, or_false] at hb; omega)) g36 (by omega) (by omega) hm.2.2.2.2.2.1
  have k_ple : mPle N2 := mPle_k (show sC N N2 [74, 75, 76, 77, 78] from fun b hb => hsm b (by simp only [List.mem_cons, List.not_mem_nil, or_false] at hb; omega)) g50 (by omega) (by omega) hm.2.2.2.2.2.2
  have k_hs : xHs N2 := xHs_k (show s3 N N2 [1, 3, 5, 8, 10, 11] from fun b hb => h3 b (by simp only [List.mem_cons, List.not_mem_nil, or_false] at hb; omega)) (show s9 N N2 [0, 2, 15, 26, 29, 36, 50, 58] from fun b hb => h39 b (by simp only [List.mem_cons, List.not_mem_nil, or_false] at hb; omega)) (show sC N N2 [4, 6, 7, 8, 9, 12, 13, 40, 51, 56, 57, 58] from fun b hb => hsm b (by simp only [List.mem_cons, List.not_mem_nil, or_false] at hb; omega)) hI.hs
  have k_ps : xPs s N2 fa sa := xPs_k hs (show s8 s N N2 4 from fun b h1 h2 h3 => hdy b h1 h2 (by omega)) ((show sC N N2 [5] from fun b hb => hsm b (by simp only [List.mem_cons, List.not_mem_nil, or_false] at hb; omega)) 5 (by simp)) (show sC N N2 [41, 42, 43, 44, 45, 46, 47, 48, 59, 73] from fun b hb => hsm b (by simp only [List.mem_cons, List.not_mem_nil, or_false] at hb; omega)) (show s9 N N2 [2, 10, 31, 49] from fun b hb => h39 b (by simp only [List.mem_cons, List.not_mem_nil, or_false] at hb; omega)) hI.ps
  have k_fs : xFs s N2 fa := xFs_k hs (show s8 s N N2 2 from fun b h1 h2 h3 => hdy b h1 h2 (by omega)) (show sC N N2 [48, 49, 50] from fun b hb => hsm b (by simp only [List.mem_cons, List.not_mem_nil, or_false] at hb; omega)) g10 hI.fs
  have k_ss : xSs s N2 sa := xSs_k hs (show s8 s N N2 8 from fun b h1 h2 h3 => hdy b h1 h2 (by omega)) (show sC N N2 [59, 60, 61, 62] from fun b hb => hsm b (by simp only [List.mem_cons, List.not_mem_nil, or_false] at hb; omega)) g31 hI.ss
  have k_ys : xYs s N2 := xYs_k hs (show s8 s N N2 9 from fun b h1 h2 h3 => hdy b h1 h2 (by omega)) (show sC N N2 [10, 63, 64, 65, 66] from fun b hb => hsm b (by simp only [List.mem_cons, List.not_mem_nil, or_false] at hb; omega)) g36 hI.ys
  have k_ls : xLs s N2 fa := xLs_k hs (show s8 s N N2 5 from fun b h1 h2 h3 => hdy b h1 h2 (by omega)) (show s8 s N N2 20 from fun b h1 h2 h3 => hdy b h1 h2 (by omega)) (show s8 s N N2 21 from fun b h1 h2 h3 => hdy b h1 h2 (by omega)) (show sC N N2 [11, 48, 74, 75, 76, 77, 78, 79, 80] from fun b hb => hsm b (by simp only [List.mem_cons, List.not_mem_nil, or_false] at hb; omega)) g50 hI.ls
  have k_law : xLaw N2 := xLaw_k (show sC N N2 [14, 15, 16, 17, 18, 19, 52, 53] from fun b hb => hsm b (by simp only [List.mem_cons, List.not_mem_nil, or_false] at hb; omega)) ((show s3 N N2 [13] from fun b hb => h3 b (by simp only [List.mem_cons, List.not_mem_nil, or_false] at hb; omega)) 13 (by simp)) ((show s3 N N2 [14] from fun b hb => h3 b (by simp only [List.mem_cons, List.not_mem_nil, or_false] at hb; omega)) 14 (by simp)) g18 hI.law
  have k_sh : xSh N2 := xSh_k (show sC N N2 [20, 31, 32, 33, 34, 35, 36, 37, 38, 82, 83, 84] from fun b hb => hsm b (by simp only [List.mem_cons, List.not_mem_nil, or_false] at hb; omega)) hI.sh
  have k_ro : xRo N2 := by
    refine ⟨by omega, fun n h0 h1 => ?_, fun x h0 h1 => ?_⟩
    · rw [q22 n h0 h1, q23 n h0 h1]
      exact ⟨rfl, rfl⟩
    · exact q24 x h0 h1
  have k_kp : yKp N2 := yKp_k (show s3 N N2 [19] from fun b hb => h3 b (by simp only [List.mem_cons, List.not_mem_nil, or_false] at hb; omega)) (show s9 N N2 [10, 31] from fun b hb => h39 b (by simp only [List.mem_cons, List.not_mem_nil, or_false] at hb; omega)) hy.1
  have k_ow : yOw N2 := yOw_k (show sC N N2 [76, 77, 80] from fun b hb => hsm b (by simp only [List.mem_cons, List.not_mem_nil, or_false] at hb; omega)) (show s9 N N2 [50] from fun b hb => h39 b (by simp only [List.mem_cons, List.not_mem_nil, or_false] at hb; omega)) hy.2.1
  have k_tp : yTp N2 := yTp_k (show sC N N2 [51] from fun b hb => hsm b (by simp only [List.mem_cons, List.not_mem_nil, or_false] at hb; omega)) (show s9 N N2 [15] from fun b hb => h39 b (by simp only [List.mem_cons, List.not_mem_nil, or_false] at hb; omega)) hy.2.2.1
  have k_yro : yRo N2 := by
    exact hyr
  have k_ln : yLn N2 := yLn_k (show sC N N2 [40, 58] from fun b hb => hsm b (by simp only [List.mem_cons, List.not_mem_nil, or_false] at hb; omega)) (show s9 N N2 [0, 29] from fun b hb => h39 b (by simp only [List.mem_cons, List.not_mem_nil, or_false] at hb; omega)) hy.2.2.2.2.1
  have k_cm : yCm N2 := yCm_k (show sC N N2 [73] from fun b hb => hsm b (by simp only [List.mem_cons, List.not_mem_nil, or_false] at hb; omega)) (show s9 N N2 [2, 49] from fun b hb => h39 b (by simp only [List.mem_cons, List.not_mem_nil, or_false] at hb; omega)) hy.2.2.2.2.2.1
  have k_bf : yBf N2 := yBf_k (show sC N N2 [42, 48, 49] from fun b hb => hsm b (by simp only [List.mem_cons, List.not_mem_nil, or_false] at hb; omega)) (show s9 N N2 [10] from fun b hb => h39 b (by simp only [List.mem_cons, List.not_mem_nil, or_false] at hb; omega)) hy.2.2.2.2.2.2
  have k_bud : bud N2 ≤ bud N + 1 := by have := bud_k (show sC N N2 [59, 62] from fun b hb => hsm b (by simp only [List.mem_cons, List.not_mem_nil, or_false] at hb; omega)) (show s9 N N2 [2, 10, 31] from fun b hb => h39 b (by simp only [List.mem_cons, List.not_mem_nil, or_false] at hb; omega)); omega
  exact ⟨⟨hB.k hs, hG, ⟨hG.1, kCnt, k_ppl, k_flt, k_spl, k_sty, k_ple⟩, k_ord, k_hs, k_ps, k_fs, k_ss, k_ys, k_ls, k_law, k_sh, k_ro⟩, ⟨k_kp, k_ow, k_tp, k_yro, k_ln, k_cm, k_bf⟩, k_bud⟩
theorem eM.itm_ {N' : zN} (h : eM N N') (w i : Int) : itm N' w i = itm N w i := by unfold itm; rw [h 84 (by decide) (by decide)]
theorem eM.rlK_ {N' : zN} (h : eM N N') (w n : Int) (k : Nat) : rlK N' w n k = rlK N w n k := by
  unfold rlK
  simp only [h.itm_]
theorem eM.nmK_ {N' : zN} (h : eM N N') (g d n : Int) (k : Nat) : nmK N' g d n k = nmK N g d n k := by
  unfold nmK
  simp only [h.memb_, h 43 (by decide) (by decide)]
theorem eM.refus_ {N' : zN} (h : eM N N') (w l : Int) : refus N' w l = refus N w l := by
  unfold refus
  rw [h 82 (by decide) (by decide)]
set_option maxRecDepth 20000 in
set_option maxHeartbeats 2000000 in
theorem j_roll (hJ : xJ s N c) (hc : c < 512) {g d w l : Int} (hg : zr g) (hd : zr d) (hw : zr w) (hl : zr l) (h : jK X c m_X12_roll [.ref 39, vi g, vi d, vi w, vi l] K) : zC X m_X11_roll [.ref 3, vi g, vi d, vi w, vi l] (zI s N) K := by
  obtain ⟨fa, sa, hI, hy, hbud, hsz⟩ := id hJ
  have hk := bud_r hI hbud hc
  have hC := hI.C
  unfold mCnt at hC
  have n88 := hI.B.1
  have hR := hI.R
  have hkp : N 3 19 = N 39 10 + N 39 31 := hy.1
  have hsl : ∀ w : Int, 0 ≤ w → w ≤ 3 → 0 ≤ N 83 w ∧ N 83 w ≤ 20 := fun w h0 h1 => (hI.sh w h0 (by omega)).2.2.2.1
  refine x_roll hI hg hd hw hl (fun g1 => ?_) (fun g1 g2 => ?_) (fun g1 g2 g3 => ?_) (fun g1 g2 g3 N1 hv => ?_)
  · exact h _ _ _ (by first | exact hI.B | exact hI.B.k sK.ns | exact hI.B.k (sK.ns.trans (sK.ns.trans sK.ns))) (fun Q hq => k_roll hI.B hI.m hsl hg hd hw hl (fun _ => hq _ _ hJ.up) (fun q => absurd q g1) (fun q => absurd q g1) (fun q => absurd q g1))
  · exact h _ _ _ (by first | exact hI.B | exact hI.B.k sK.ns | exact hI.B.k (sK.ns.trans (sK.ns.trans sK.ns))) (fun Q hq => k_roll hI.B hI.m hsl hg hd hw hl (fun q => absurd g1 q) (fun _ _ => hq _ _ hJ.up) (fun _ q => absurd q g2) (fun _ q => absurd q g2))
  · exact h _ _ _ (by first | exact hI.B | exact hI.B.k sK.ns | exact hI.B.k (sK.ns.trans (sK.ns.trans sK.ns))) (fun Q hq => k_roll hI.B hI.m hsl hg hd hw hl (fun q => absurd g1 q) (fun _ q => absurd g2 q) (fun _ _ _ => hq _ _ hJ.up) (fun _ _ q => absurd q g3))
  · refine h _ _ _ (by first | exact hI.B | exact hI.B.k sK.ns | exact hI.B.k (sK.ns.trans (sK.ns.trans sK.ns))) (fun Q hq => ?_)
    obtain ⟨a1, a2, a3, a4, a5⟩ := hv
    have hE : eM N N1 := fun a h1 h2 => a1 a (by omega) (by omega) (by omega) (by omega)
    have hm1 : mI N1 := hE.mI_ a5 hI.m
    have hC1 := hm1.2.1
    unfold mCnt at hC1
    have hwj := (refus_0 g2).1.1
    have e83 : N1 83 = N 83 := hE 83 (by decide) (by decide)
    have e2 : N1 39 2 = N 39 2 := hE.at 39 (by decide) (by decide) 2
    refine k_roll hI.B hm1 (by rw [e83]; exact hsl) hg hd hw hl ?_ ?_ ?_ ?_
    all_goals
      rw [hE.at 39 (by decide) (by decide) 29]
      try rw [hE.refus_]
    · exact fun q => absurd g1 q
    · exact fun _ q => absurd g2 q
    · refine fun _ _ q => absurd ?_ q
      intro i h0 h1
      rw [hE.itm_]
      rw [e83] at h1
      exact g3 i h0 h1
    · intro _ _ _ N2 hv2
      obtain ⟨b1, b2, b3⟩ := hv2
      rw [e83, e2] at b2
      rw [e2] at b3
      have b2 : ∀ n : Int, 0 ≤ n → n < 40 → N2 85 n = nmK N g d n (N 39 2).toNat ∧ N2 86 n = rlK N w n (N 83 w).toNat := fun n h0 h1 => by
        have q := b2 n h0 h1
        rw [hE.nmK_, hE.rlK_] at q
        exact q
      have ean : sumK (fun n : Nat => loF (nmK N1 g d n (N1 39 2).toNat) (rlK N1 w n (N1 83 w).toNat)) 40 = sumK (fun n : Nat => loF (nmK N g d n (N 39 2).toNat) (rlK N w n (N 83 w).toNat)) 40 := sumK_c (fun n hn => by rw [hE.nmK_, hE.rlK_, e2, e83])
      have key : ∀ (a : Nat) (x : Int), a ≠ 21 → a ≠ 22 → a ≠ 23 → a ≠ 24 → a ≠ 85 → a ≠ 86 → a ≠ 87 → ¬ (a = 39 ∧ x = 63) → N2 a x = N a x := fun a x h1 h2 h3 h4 h5 h6 h7 h8 => by
        by_cases q : a = 39
        · rw [q, b1.2.1 x (by omega)]; exact hE.at 39 (by decide) (by decide) x
        · rw [b1.1 a q h5 h6 h7, a1 a h1 h2 h3 h4]
      have sys : ∀ (a : Nat) (x : Int), a < 39 → N2 a x = N1 a x := fun a x h1 => by rw [b1.1 a (by omega) (by omega) (by omega) (by omega)]
      have hG : zG s N2 := ⟨b1.2.2.2, fun a ha x => (key a x (by omega) (by omega) (by omega) (by omega) (by omega) (by omega) (by omega) (by omega)).trans (hI.2.1.2 a ha x)⟩
      have hs20 := hsl w hwj.1 hwj.2
      obtain ⟨x1, x2, x3⟩ := jx_roll (N2 := N2) hI hy sK.rf hG
        (fun a ha => funext fun x => key a x (by omega) (by omega) (by omega) (by omega) (by omega) (by omega) (by omega) (by omega))
        (fun x hx => key 39 x (by omega) (by omega) (by omega) (by omega) (by omega) (by omega) (by omega) (by omega))
        (fun x hx => key 3 x (by omega) (by omega) (by omega) (by omega) (by omega) (by omega) (by omega) (by omega))
        (fun a h1 h2 _ => funext fun x => key a x (by omega) (by omega) (by omega) (by omega) (by omega) (by omega) (by omega) (by omega))
        b1.2.2.1 (by rw [sys 21 3 (by omega)]; exact a2)
        (fun n h0 h1 => by rw [sys 22 n (by omega), (a3 n h0 h1).1, (b2 n h0 h1).2])
        (fun n h0 h1 => by rw [sys 23 n (by omega), (a3 n h0 h1).2, (b2 n h0 h1).1])
        (fun x h0 h1 => by
          rw [sys 24 x (by omega), a4 x h0 h1, b3 x h0 h1, hE.memb_]
          exact bi_c ⟨fun q => ⟨by have := q.1; omega, q.2⟩, fun q => ⟨by have := q.1; omega, q.2⟩⟩)
        (fun n h0 h1 => by
          rw [(b2 n h0 h1).1, (b2 n h0 h1).2]
          have k1 := nmK_b N g d n (N 39 2).toNat
          have k2 := rlK_b N w n (N 83 w).toNat
          omega)
      rw [ean]
      exact hq _ _ ⟨fa, sa, x1, x2, by omega, hsz.n0⟩
end RT15
