/-! the laws, the reference's (printed by wip/whole/gen/l7.py) -/
section LT7
variable {X : zX} {s : zK} {N : zN} {σ : zS} {fa sa : Int → Int} {Q K : Option Value → zS → Prop} {c : Int}
set_option maxRecDepth 20000 in
set_option maxHeartbeats 2000000 in
theorem k_lawsT (hB : zB0 s) {N1 : zN} {q : Int} {u3 : Value} (hw : zr (N1 39 20)) (h1 : 0 ≤ N1 39 20 → Q (some (vi (-20 - N1 39 20))) (zI s (mup N1 39 15 0))) (h2 : N1 39 20 < 0 → ∀ N2 : zN, (∀ (a : Nat) (x : Int), ¬ (a = 39 ∧ x = 15) → ¬ (a = 39 ∧ x = 18) → ¬ ((a = 52 ∨ a = 53) ∧ 0 ≤ x ∧ x < 3) → N2 a x = N1 a x) → N2 39 15 = 0 → (∀ k : Int, 0 ≤ k → k < 3 → N2 52 k = N1 54 k ∧ N2 53 k = N1 55 k) → N2 39 18 = N1 39 25 → Q (some (vi q)) (zI s N2)) : zE X m_X12_laws 128 [.ref 39, vi q, vi 0, u3] [] (zI s N1) Q := by
  refine e_aload_n q_X12_laws_128 (by decide) rfl ?_
  refine e_iconst q_X12_laws_129 ?_
  refine i_putI (k' := 15) q_X12_laws_130 fl_X12_205 (Or.inl rfl) (a39 hB) rfl rfl rfl rfl rfl ?_
  refine e_aload_n q_X12_laws_133 (by decide) rfl ?_
  refine i_getI (k' := 20) q_X12_laws_134 fl_X12_211 (a39 hB) rfl rfl rfl (mup_slot (by decide)) ?_
  refine e_if_lt q_X12_laws_137 hw (fun c137 => ?_) (fun c137 => ?_)
  · skip
    refine e_iconst q_X12_laws_148 ?_
    refine e_istore_n (ls' := [_, _, _, _]) q_X12_laws_149 (by decide) rfl rfl ?_
    refine zEe (ls := [.ref 39, vi q, vi 0, vi ((0 : Nat) : Int)]) (σ := zI s (mup N1 39 15 0)) ?_ rfl rfl
    refine z_for (P := fun i => ∀ (N2 : zN), ((∀ (a : Nat) (x : Int), ¬ (a = 39 ∧ x = 15) → ¬ ((a = 52 ∨ a = 53) ∧ 0 ≤ x ∧ x < i) → N2 a x = N1 a x) ∧ N2 39 15 = 0 ∧ ∀ k : Int, 0 ≤ k → k < i → N2 52 k = N1 54 k ∧ N2 53 k = N1 55 k) → zE X m_X12_laws 150 [.ref 39, vi q, vi 0, vi (i : Int)] [] (zI s N2) Q) 3 (fun i hi ih N2 hv => ?_) (fun N2 hv => ?_) _ ⟨fun a x h1 _ => mup_ne h1, mup_self _ _ _ _, fun k h3 h4 => by omega⟩
    · skip
      refine e_iload_n q_X12_laws_150 (by decide) rfl ?_
      refine e_iconst q_X12_laws_151 ?_
      refine e_icmp_ge q_X12_laws_152 (by constructor <;> omega) (by constructor <;> omega) (fun c152 => ?_) (fun c152 => ?_)
      · skip
        exact absurd c152 (by omega)
      · skip
        refine e_aload_n q_X12_laws_155 (by decide) rfl ?_
        refine i_getC (r := 52) q_X12_laws_156 fl_X12_48 (a39 hB) rfl (by decide) ?_
        refine e_iload_n q_X12_laws_159 (by decide) rfl ?_
        refine e_aload_n q_X12_laws_160 (by decide) rfl ?_
        refine i_getC (r := 54) q_X12_laws_161 fl_X12_58 (a39 hB) rfl (by decide) ?_
        refine e_iload_n q_X12_laws_164 (by decide) rfl ?_
        refine i_iald q_X12_laws_165 (a54 hB) (cref0 (by decide)) (by first | omega | assumption) (by first | omega | assumption) (by decide) (hv.1 54 _ (by omega) (by omega)) ?_
        refine i_iast q_X12_laws_166 (a52 hB) (cref0 (by decide)) (by first | omega | assumption) (by first | omega | assumption) (by decide) ?_
        refine e_aload_n q_X12_laws_167 (by decide) rfl ?_
        refine i_getC (r := 53) q_X12_laws_168 fl_X12_51 (a39 hB) rfl (by decide) ?_
        refine e_iload_n q_X12_laws_171 (by decide) rfl ?_
        refine e_aload_n q_X12_laws_172 (by decide) rfl ?_
        refine i_getC (r := 55) q_X12_laws_173 fl_X12_61 (a39 hB) rfl (by decide) ?_
        refine e_iload_n q_X12_laws_176 (by decide) rfl ?_
        refine i_iald q_X12_laws_177 (a55 hB) (cref0 (by decide)) (by first | omega | assumption) (by first | omega | assumption) (by decide) ((mup_cell (by decide)).trans (hv.1 55 _ (by omega) (by omega))) ?_
        refine i_iast q_X12_laws_178 (a53 hB) (cref0 (by decide)) (by first | omega | assumption) (by first | omega | assumption) (by decide) ?_
        refine e_iinc (ls' := [_, _, _, _]) q_X12_laws_179 (by decide) rfl rfl rfl ?_
        refine e_goto q_X12_laws_182 ?_
        refine ih _ ⟨fun a x h1 h3 => ?_, ?_, fun k h3 h4 => ?_⟩
        · rw [mup_ne (fun r => h3 ⟨Or.inr r.1, by omega, by omega⟩), mup_ne (fun r => h3 ⟨Or.inl r.1, by omega, by omega⟩)]; exact hv.1 a x h1 (fun r => h3 ⟨r.1, r.2.1, by omega⟩)
        · rw [mup_cell (by decide), mup_cell (by decide)]; exact hv.2.1
        · by_cases hk : k = i
          · rw [hk, mup_cell (by decide), mup_self, mup_self]; exact ⟨rfl, rfl⟩
          · rw [mup_cell (by decide), mup_slot hk, mup_slot hk, mup_cell (by decide)]; exact hv.2.2 k h3 (by omega)
    · skip
      refine e_iload_n q_X12_laws_150 (by decide) rfl ?_
      refine e_iconst q_X12_laws_151 ?_
      refine e_icmp_ge q_X12_laws_152 (by constructor <;> omega) (by constructor <;> omega) (fun c152 => ?_) (fun c152 => ?_)
      · skip
        refine e_aload_n q_X12_laws_185 (by decide) rfl ?_
        refine e_aload_n q_X12_laws_186 (by decide) rfl ?_
        refine i_getI (k' := 25) q_X12_laws_187 fl_X12_233 (a39 hB) rfl rfl rfl (hv.1 39 25 (by omega) (by omega)) ?_
        refine i_putI (k' := 18) q_X12_laws_190 fl_X12_54 (Or.inl rfl) (a39 hB) rfl rfl rfl rfl rfl ?_
        refine e_iload_n q_X12_laws_193 (by decide) rfl ?_
        refine e_ireturn q_X12_laws_194 rfl rfl ?_
        refine h2 c137 _ (fun a x g1 g2 g3 => ?_) ?_ (fun k g1 g2 => ?_) (mup_self _ _ _ _)
        · rw [mup_ne (fun r => g2 r)]; exact hv.1 a x g1 (by omega)
        · rw [mup_slot (by decide)]; exact hv.2.1
        · rw [mup_cell (by decide), mup_cell (by decide)]; exact hv.2.2 k g1 (by omega)
      · skip
        exact absurd (by omega) c152
  · skip
    refine e_bipush q_X12_laws_140 (by decide) ?_
    refine e_aload_n q_X12_laws_142 (by decide) rfl ?_
    refine i_getI (k' := 20) q_X12_laws_143 fl_X12_211 (a39 hB) rfl rfl rfl (mup_slot (by decide)) ?_
    refine e_isub q_X12_laws_146 ?_
    refine e_ireturn q_X12_laws_147 rfl rfl ?_
    exact h1 (by omega)
theorem frC.rf : frC N N := fun _ _ _ _ _ => rfl
def dMs (N : zN) (d : dT) : Prop := (∀ k : Int, 0 ≤ k → k < 3 → N 54 k = d.1 k ∧ N 55 k = d.2.1 k) ∧ N 39 25 = d.2.2
theorem dMs_up {N1 : zN} {T : Int → Int} {L p : Int} {d : dT} (hs : lwM N N1 (cK T L p) (clA T L p) (clB T L p) (clP T L p)) (h : dMs N d) : dMs N1 (upD T L p d) := by
  obtain ⟨s1, s2, s3, s4, s5⟩ := hs
  by_cases hk : cK T L p = 3
  · unfold upD
    rw [if_pos hk]
    obtain ⟨q1, q2, q3⟩ := s2 hk
    refine ⟨fun k k0 k1 => ?_, q1⟩
    rw [q2, q3]
    exact h.1 k k0 k1
  · unfold upD
    rw [if_neg hk]
    obtain ⟨q1, q2, q3, q4⟩ := s3 hk
    refine ⟨fun k k0 k1 => ?_, q1.trans h.2⟩
    by_cases hkk : k = cK T L p
    · rw [hkk]
      exact ⟨q3.trans (if_pos rfl).symm, q4.trans (if_pos rfl).symm⟩
    · rw [(q2 k hkk).1, (q2 k hkk).2]
      exact ⟨(h.1 k k0 k1).1.trans (if_neg hkk).symm, (h.1 k k0 k1).2.trans (if_neg hkk).symm⟩
set_option maxRecDepth 20000 in
set_option maxHeartbeats 2000000 in
theorem k_laws {T : Int → Int} {L : Int} (ht : tpM s N T L) (h1 : (lwN T L 4 0 0) ≤ 0 → ∀ N2 : zN, (∀ (a : Nat) (x : Int), ¬ (a = 39 ∧ (x = 15 ∨ (19 ≤ x ∧ x ≤ 22) ∨ x = 25)) → a ≠ 54 → a ≠ 55 → N2 a x = N a x) → N2 39 15 = 0 → Q (some (vi (lwN T L 4 0 0))) (zI s N2)) (h2 : 0 < (lwN T L 4 0 0) → ∀ N2 : zN, (∀ (a : Nat) (x : Int), ¬ (a = 39 ∧ (x = 15 ∨ x = 18 ∨ (19 ≤ x ∧ x ≤ 22) ∨ x = 25)) → a ≠ 54 → a ≠ 55 → ¬ ((a = 52 ∨ a = 53) ∧ 0 ≤ x ∧ x < 3) → N2 a x = N a x) → N2 39 15 = 0 → (∀ k : Int, 0 ≤ k → k < 3 → N2 52 k = (lwD T L 4 0 dT0).1 k ∧ N2 53 k = (lwD T L 4 0 dT0).2.1 k) → N2 39 18 = (lwD T L 4 0 dT0).2.2 → Q (some (vi (lwN T L 4 0 0))) (zI s N2)) : zC X m_X12_laws [.ref 39] (zI s N) Q := by
  obtain ⟨hB, hT, hL, hL2, hTr⟩ := id ht
  show zE X m_X12_laws 0 [.ref 39, zU, zU, zU] [] _ Q
  refine e_aload_n q_X12_laws_0 (by decide) rfl ?_
  refine e_iconst q_X12_laws_1 ?_
  refine i_putI (k' := 19) q_X12_laws_2 fl_X12_208 (Or.inl rfl) (a39 hB) rfl rfl rfl rfl rfl ?_
  refine e_aload_n q_X12_laws_5 (by decide) rfl ?_
  refine e_iconst q_X12_laws_6 ?_
  refine i_putI (k' := 20) q_X12_laws_7 fl_X12_211 (Or.inl rfl) (a39 hB) rfl rfl rfl rfl rfl ?_
  refine e_aload_n q_X12_laws_10 (by decide) rfl ?_
  refine e_ldc q_X12_laws_11 co_X12_47 ?_
  refine i_putI (k' := 25) q_X12_laws_13 fl_X12_233 (Or.inl rfl) (a39 hB) rfl rfl rfl rfl rfl ?_
  refine e_iconst q_X12_laws_16 ?_
  refine e_istore_n (ls' := [_, _, _, _]) q_X12_laws_17 (by decide) rfl rfl ?_
  refine zEe (ls := [.ref 39, vi ((0 : Nat) : Int), zU, zU]) (σ := zI s (mup (mup (mup N 39 19 0) 39 20 (-1)) 39 25 100000)) ?_ rfl rfl
  refine z_for (P := fun i => ∀ (N1 : zN), (frC N N1 ∧ N1 39 19 = 0 ∧ N1 39 20 = -1 ∧ N1 39 25 = 100000 ∧ ∀ k : Int, 0 ≤ k → k < i → N1 54 k = 100000 ∧ N1 55 k = -1) → zE X m_X12_laws 18 [.ref 39, vi (i : Int), zU, zU] [] (zI s N1) Q) 3 (fun i hi ih N1 hv => ?_) (fun N1 hv => ?_) _ ⟨((frC.rf.mu (by omega)).mu (by omega)).mu (by omega), (mup_slot (by decide)).trans ((mup_slot (by decide)).trans (mup_self _ _ _ _)), (mup_slot (by decide)).trans (mup_self _ _ _ _), mup_self _ _ _ _, fun k g1 g2 => by omega⟩
  · skip
    refine e_iload_n q_X12_laws_18 (by decide) rfl ?_
    refine e_iconst q_X12_laws_19 ?_
    refine e_icmp_ge q_X12_laws_20 (by constructor <;> omega) (by constructor <;> omega) (fun c20 => ?_) (fun c20 => ?_)
    · skip
      exact absurd c20 (by omega)
    · skip
      refine e_aload_n q_X12_laws_23 (by decide) rfl ?_
      refine i_getC (r := 54) q_X12_laws_24 fl_X12_58 (a39 hB) rfl (by decide) ?_
      refine e_iload_n q_X12_laws_27 (by decide) rfl ?_
      refine e_ldc q_X12_laws_28 co_X12_47 ?_
      refine i_iast q_X12_laws_30 (a54 hB) (cref0 (by decide)) (by first | omega | assumption) (by first | omega | assumption) (by decide) ?_
      refine e_aload_n q_X12_laws_31 (by decide) rfl ?_
      refine i_getC (r := 55) q_X12_laws_32 fl_X12_61 (a39 hB) rfl (by decide) ?_
      refine e_iload_n q_X12_laws_35 (by decide) rfl ?_
      refine e_iconst q_X12_laws_36 ?_
      refine i_iast q_X12_laws_37 (a55 hB) (cref0 (by decide)) (by first | omega | assumption) (by first | omega | assumption) (by decide) ?_
      refine e_iinc (ls' := [_, _, _, _]) q_X12_laws_38 (by decide) rfl rfl rfl ?_
      refine e_goto q_X12_laws_41 ?_
      refine ih _ ⟨(hv.1.mu (by omega)).mu (by omega), ?_, ?_, ?_, fun k g1 g2 => ?_⟩
      · rw [mup_cell (by decide), mup_cell (by decide)]; exact hv.2.1
      · rw [mup_cell (by decide), mup_cell (by decide)]; exact hv.2.2.1
      · rw [mup_cell (by decide), mup_cell (by decide)]; exact hv.2.2.2.1
      · by_cases hk : k = i
        · rw [hk, mup_cell (by decide), mup_self, mup_self]; exact ⟨rfl, rfl⟩
        · rw [mup_cell (by decide), mup_slot hk, mup_slot hk, mup_cell (by decide)]; exact hv.2.2.2.2 k g1 (by omega)
  · skip
    refine e_iload_n q_X12_laws_18 (by decide) rfl ?_
    refine e_iconst q_X12_laws_19 ?_
    refine e_icmp_ge q_X12_laws_20 (by constructor <;> omega) (by constructor <;> omega) (fun c20 => ?_) (fun c20 => ?_)
    · skip
      have hst : tpM s N1 T L ∧ N1 39 19 = 0 ∧ N1 39 20 = -1 ∧ frC N N1 ∧ dMs N1 dT0 := ⟨hv.1.tp ht, hv.2.1, hv.2.2.1, hv.1, ⟨fun k k0 k1 => hv.2.2.2.2 k k0 (by omega), hv.2.2.2.1⟩⟩
      refine e_iconst q_X12_laws_44 ?_
      refine e_istore_n (ls' := [_, _, _, _]) q_X12_laws_45 (by decide) rfl rfl ?_
      refine e_iconst q_X12_laws_46 ?_
      refine e_istore_n (ls' := [_, _, _, _]) q_X12_laws_47 (by decide) rfl rfl ?_
      refine zEe (ls := [.ref 39, vi ((0 : Nat) : Int), vi 1, zU]) (σ := zI s N1) ?_ rfl rfl
      refine z_for (P := fun i => ∀ (N1 : zN) (p : Int) (dd : dT), (i < 4 ∧ tpM s N1 T L ∧ N1 39 19 = p ∧ (0 ≤ p ∧ p ≤ L) ∧ N1 39 20 = -1 ∧ frC N N1 ∧ dMs N1 dd ∧ lwN T L (4 - i) i p = (lwN T L 4 0 0) ∧ lwD T L (4 - i) p dd = (lwD T L 4 0 dT0)) → zE X m_X12_laws 48 [.ref 39, vi (i : Int), vi 1, zU] [] (zI s N1) Q) 4 (fun i hi ih N1 p dd hv => ?_) (fun N1 p dd hv => ?_) _ 0 dT0 ⟨by omega, hst.1, hst.2.1, by omega, hst.2.2.1, hst.2.2.2.1, hst.2.2.2.2, rfl, rfl⟩
      · skip
        obtain ⟨hi4, ht1, hp, hp0, hw1, hf, hr, hn, hd⟩ := hv
        have e4 : 4 - i = (3 - i) + 1 := by omega
        rw [e4] at hn hd
        refine e_iload_n q_X12_laws_48 (by decide) rfl ?_
        refine e_if_eq q_X12_laws_49 (by constructor <;> omega) (fun c49 => ?_) (fun c49 => ?_)
        · skip
          exact absurd c49 (by omega)
        · skip
          refine e_aload_n q_X12_laws_52 (by decide) rfl ?_
          refine iv_X12_readClause q_X12_laws_53 lk_X12_239 (by decide) (a39 hB) (Nat.le_of_ble_eq_true rfl) ?_
          refine k_readClause ht1 hp hp0 hw1 (fun F N2 hb hf2 h20 => ?_) (fun hg N2 hs => ?_)
          · skip
            have hFb := clBad_b hp0.1 hp0.2 hL2.2 hb
            have hfin : (lwN T L 4 0 0) = -20 - F := by
              rw [← hn, lwN, if_pos (by rw [clF_bad hb]; omega), clF_bad hb]
            have hf3 : frC N N2 := hf.tr hf2
            refine e_iinc (ls' := [_, _, _, _]) q_X12_laws_56 (by decide) rfl rfl rfl ?_
            refine e_iconst q_X12_laws_59 ?_
            refine e_istore_n (ls' := [_, _, _, _]) q_X12_laws_60 (by decide) rfl rfl ?_
            refine e_aload_n q_X12_laws_61 (by decide) rfl ?_
            refine i_getI (k' := 20) q_X12_laws_62 fl_X12_211 (a39 hB) rfl rfl rfl h20 ?_
            refine e_if_ge q_X12_laws_65 (by constructor <;> omega) (fun c65 => ?_) (fun c65 => ?_)
            · skip
              refine e_iload_n q_X12_laws_48 (by decide) rfl ?_
              refine e_if_eq q_X12_laws_49 (by constructor <;> omega) (fun c49 => ?_) (fun c49 => absurd rfl c49)
              exact k_lawsT hB (by rw [h20]; constructor <;> omega) (fun _ => zqI (h1 (by omega) (mup N2 39 15 0) (fun a x g1 g2 g3 => by rw [mup_ne (by omega)]; exact hf3 a x (by omega) g2 g3) (mup_self _ _ _ _)) (by rw [hfin, h20])) (fun q => by omega)
            · skip
              exact absurd c65 (by omega)
          · skip
            have hgb := clGood_b hp0.1 hp0.2 hL2.2 hg
            have hge := clF_good hg
            have hf3 : frC N N2 := hf.tr hs.1
            have ht2 := hf3.tp ht
            have hr2 := dMs_up hs hr
            have h19 := hs.2.2.2.1
            have h20 := hs.2.2.2.2
            have hcb := nQ_b (T := T) (p := clP T L p) (by omega) (by omega) hL2.2
            have hcb2 : clP T L p ≤ spE T L (clP T L p) ∧ spE T L (clP T L p) ≤ L := hcb
            have hcb : clP T L p ≤ cE T L p ∧ cE T L p ≤ L := hcb
            rw [lwN, if_neg (by omega)] at hn
            rw [lwD, if_neg (by omega)] at hd
            refine e_iinc (ls' := [_, _, _, _]) q_X12_laws_56 (by decide) rfl rfl rfl ?_
            refine e_iconst q_X12_laws_59 ?_
            refine e_istore_n (ls' := [_, _, _, _]) q_X12_laws_60 (by decide) rfl rfl ?_
            refine e_aload_n q_X12_laws_61 (by decide) rfl ?_
            refine i_getI (k' := 20) q_X12_laws_62 fl_X12_211 (a39 hB) rfl rfl rfl h20 ?_
            refine e_if_ge q_X12_laws_65 (by constructor <;> omega) (fun c65 => ?_) (fun c65 => ?_)
            · skip
              first
              | (have hlt : cE T L p < L := by show spE T L (clP T L p) < L; omega
                 rw [zif_t hlt, zif_t ⟨c94, by omega⟩] at hn
                 rw [zif_t ⟨hlt, c94, by omega⟩] at hd
                 refine zEe (ls := [.ref 39, vi ((i + 1 : Nat) : Int), vi 1, zU]) (σ := zI s (mup N2 39 19 (cE T L p + 1))) (ih _ (cE T L p + 1) (upD T L p dd) ⟨by omega, ht2.mu (by decide) (by omega), mup_self _ _ _ _, by omega, (mup_slot (by decide)).trans h20, hf3.mu (by omega), ⟨fun k k0 k1 => ?_, ?_⟩, ?_, ?_⟩) rfl ?_
                 · rw [mup_cell (by decide), mup_cell (by decide)]; exact hr2.1 k k0 k1
                 · rw [mup_slot (by decide)]; exact hr2.2
                 · rw [show 4 - (i + 1) = 3 - i by omega]; exact hn
                 · rw [show 4 - (i + 1) = 3 - i by omega]; exact hd
                 · rw [mup_mup]; rfl)
              | (refine e_iload_n q_X12_laws_48 (by decide) rfl ?_
                 refine e_if_eq q_X12_laws_49 (by constructor <;> omega) (fun c49 => ?_) (fun c49 => absurd rfl c49)
                 have hlt : cE T L p < L := by show spE T L (clP T L p) < L; omega
                 have hfin : (lwN T L 4 0 0) = -20 - cE T L p := by rw [← hn, zif_t hlt, zif_f (fun q => c94 q.1)]
                 have h20' : mup (mup N2 39 19 (cE T L p)) 39 20 (cE T L p) 39 20 = cE T L p := mup_self _ _ _ _
                 refine k_lawsT hB (N1 := mup (mup N2 39 19 (cE T L p)) 39 20 (cE T L p)) (by rw [h20']; constructor <;> omega) (fun _ => zqI (h1 (by omega) (mup (mup (mup N2 39 19 (cE T L p)) 39 20 (cE T L p)) 39 15 0) (fun a x g1 g2 g3 => ?_) (mup_self _ _ _ _)) (by rw [hfin, h20'])) (fun q => by omega)
                 rw [mup_ne (by omega), mup_ne (by omega), mup_ne (by omega)]
                 exact hf3 a x (by omega) g2 g3)
              | (refine e_iload_n q_X12_laws_48 (by decide) rfl ?_
                 refine e_if_eq q_X12_laws_49 (by constructor <;> omega) (fun c49 => ?_) (fun c49 => absurd rfl c49)
                 have hlt : cE T L p < L := by show spE T L (clP T L p) < L; omega
                 have hfin : (lwN T L 4 0 0) = -20 - cE T L p := by rw [← hn, zif_t hlt, zif_f (fun q => q.2 (by omega))]
                 have h20' : mup (mup N2 39 19 (cE T L p)) 39 20 (cE T L p) 39 20 = cE T L p := mup_self _ _ _ _
                 refine k_lawsT hB (N1 := mup (mup N2 39 19 (cE T L p)) 39 20 (cE T L p)) (by rw [h20']; constructor <;> omega) (fun _ => zqI (h1 (by omega) (mup (mup (mup N2 39 19 (cE T L p)) 39 20 (cE T L p)) 39 15 0) (fun a x g1 g2 g3 => ?_) (mup_self _ _ _ _)) (by rw [hfin, h20'])) (fun q => by omega)
                 rw [mup_ne (by omega), mup_ne (by omega), mup_ne (by omega)]
                 exact hf3 a x (by omega) g2 g3)
              | exact absurd c65 (by omega)
              | (refine e_iload_n q_X12_laws_48 (by decide) rfl ?_
                 refine e_if_eq q_X12_laws_49 (by constructor <;> omega) (fun c49 => ?_) (fun c49 => absurd rfl c49)
                 have hne : ¬ cE T L p < L := (by show ¬ spE T L (clP T L p) < L; omega)
                 have hfin : (lwN T L 4 0 0) = (i : Int) + 1 := by rw [← hn, zif_f hne]
                 have hdf : (lwD T L 4 0 dT0) = upD T L p dd := by rw [← hd, zif_f (fun q => hne q.1)]
                 refine k_lawsT hB (by rw [mup_slot (by decide), h20]; constructor <;> omega) (fun q => absurd q (by rw [mup_slot (by decide), h20]; omega)) (fun _ N3 g1 g2 g3 g4 => zqI (h2 (by omega) N3 (fun a x k1 k2 k3 k4 => ?_) g2 (fun k k0 k1 => ?_) ?_) hfin)
                 · rw [g1 a x (by omega) (by omega) k4, mup_ne (by omega)]
                   exact hf3 a x (by omega) k2 k3
                 · rw [(g3 k k0 k1).1, (g3 k k0 k1).2, mup_cell (by decide), mup_cell (by decide), hdf]
                   exact hr2.1 k k0 k1
                 · rw [g4, mup_slot (by decide), hdf]
                   exact hr2.2)
            · skip
              refine e_aload_n q_X12_laws_68 (by decide) rfl ?_
              refine iv_X12_skip q_X12_laws_69 lk_X12_214 (by decide) (a39 hB) (Nat.le_of_ble_eq_true rfl) ?_
              refine k_skip ht2 h19 (by omega) ?_
              refine e_aload_n q_X12_laws_72 (by decide) rfl ?_
              refine i_getI (k' := 19) q_X12_laws_73 fl_X12_208 (a39 hB) rfl rfl rfl (mup_self _ _ _ _) ?_
              refine e_aload_n q_X12_laws_76 (by decide) rfl ?_
              refine i_getI (k' := 15) q_X12_laws_77 fl_X12_205 (a39 hB) rfl rfl rfl ((mup_slot (by decide)).trans ht2.2.2.1) ?_
              refine e_icmp_ge q_X12_laws_80 (by show zr (cE T L p); constructor <;> omega) (by constructor <;> omega) (fun c80 => ?_) (fun c80 => ?_)
              · skip
                first
                | (have hlt : cE T L p < L := by show spE T L (clP T L p) < L; omega
                   rw [zif_t hlt, zif_t ⟨c94, by omega⟩] at hn
                   rw [zif_t ⟨hlt, c94, by omega⟩] at hd
                   refine zEe (ls := [.ref 39, vi ((i + 1 : Nat) : Int), vi 1, zU]) (σ := zI s (mup N2 39 19 (cE T L p + 1))) (ih _ (cE T L p + 1) (upD T L p dd) ⟨by omega, ht2.mu (by decide) (by omega), mup_self _ _ _ _, by omega, (mup_slot (by decide)).trans h20, hf3.mu (by omega), ⟨fun k k0 k1 => ?_, ?_⟩, ?_, ?_⟩) rfl ?_
                   · rw [mup_cell (by decide), mup_cell (by decide)]; exact hr2.1 k k0 k1
                   · rw [mup_slot (by decide)]; exact hr2.2
                   · rw [show 4 - (i + 1) = 3 - i by omega]; exact hn
                   · rw [show 4 - (i + 1) = 3 - i by omega]; exact hd
                   · rw [mup_mup]; rfl)
                | (refine e_iload_n q_X12_laws_48 (by decide) rfl ?_
                   refine e_if_eq q_X12_laws_49 (by constructor <;> omega) (fun c49 => ?_) (fun c49 => absurd rfl c49)
                   have hlt : cE T L p < L := by show spE T L (clP T L p) < L; omega
                   have hfin : (lwN T L 4 0 0) = -20 - cE T L p := by rw [← hn, zif_t hlt, zif_f (fun q => c94 q.1)]
                   have h20' : mup (mup N2 39 19 (cE T L p)) 39 20 (cE T L p) 39 20 = cE T L p := mup_self _ _ _ _
                   refine k_lawsT hB (N1 := mup (mup N2 39 19 (cE T L p)) 39 20 (cE T L p)) (by rw [h20']; constructor <;> omega) (fun _ => zqI (h1 (by omega) (mup (mup (mup N2 39 19 (cE T L p)) 39 20 (cE T L p)) 39 15 0) (fun a x g1 g2 g3 => ?_) (mup_self _ _ _ _)) (by rw [hfin, h20'])) (fun q => by omega)
                   rw [mup_ne (by omega), mup_ne (by omega), mup_ne (by omega)]
                   exact hf3 a x (by omega) g2 g3)
                | (refine e_iload_n q_X12_laws_48 (by decide) rfl ?_
                   refine e_if_eq q_X12_laws_49 (by constructor <;> omega) (fun c49 => ?_) (fun c49 => absurd rfl c49)
                   have hlt : cE T L p < L := by show spE T L (clP T L p) < L; omega
                   have hfin : (lwN T L 4 0 0) = -20 - cE T L p := by rw [← hn, zif_t hlt, zif_f (fun q => q.2 (by omega))]
                   have h20' : mup (mup N2 39 19 (cE T L p)) 39 20 (cE T L p) 39 20 = cE T L p := mup_self _ _ _ _
                   refine k_lawsT hB (N1 := mup (mup N2 39 19 (cE T L p)) 39 20 (cE T L p)) (by rw [h20']; constructor <;> omega) (fun _ => zqI (h1 (by omega) (mup (mup (mup N2 39 19 (cE T L p)) 39 20 (cE T L p)) 39 15 0) (fun a x g1 g2 g3 => ?_) (mup_self _ _ _ _)) (by rw [hfin, h20'])) (fun q => by omega)
                   rw [mup_ne (by omega), mup_ne (by omega), mup_ne (by omega)]
                   exact hf3 a x (by omega) g2 g3)
                | exact absurd c65 (by omega)
                | (refine e_iload_n q_X12_laws_48 (by decide) rfl ?_
                   refine e_if_eq q_X12_laws_49 (by constructor <;> omega) (fun c49 => ?_) (fun c49 => absurd rfl c49)
                   have hne : ¬ cE T L p < L := (by show ¬ spE T L (clP T L p) < L; omega)
                   have hfin : (lwN T L 4 0 0) = (i : Int) + 1 := by rw [← hn, zif_f hne]
                   have hdf : (lwD T L 4 0 dT0) = upD T L p dd := by rw [← hd, zif_f (fun q => hne q.1)]
                   refine k_lawsT hB (by rw [mup_slot (by decide), h20]; constructor <;> omega) (fun q => absurd q (by rw [mup_slot (by decide), h20]; omega)) (fun _ N3 g1 g2 g3 g4 => zqI (h2 (by omega) N3 (fun a x k1 k2 k3 k4 => ?_) g2 (fun k k0 k1 => ?_) ?_) hfin)
                   · rw [g1 a x (by omega) (by omega) k4, mup_ne (by omega)]
                     exact hf3 a x (by omega) k2 k3
                   · rw [(g3 k k0 k1).1, (g3 k k0 k1).2, mup_cell (by decide), mup_cell (by decide), hdf]
                     exact hr2.1 k k0 k1
                   · rw [g4, mup_slot (by decide), hdf]
                     exact hr2.2)
              · skip
                refine e_aload_n q_X12_laws_83 (by decide) rfl ?_
                refine i_getC (r := 51) q_X12_laws_84 fl_X12_44 (a39 hB) rfl (by decide) ?_
                refine e_aload_n q_X12_laws_87 (by decide) rfl ?_
                refine i_getI (k' := 19) q_X12_laws_88 fl_X12_208 (a39 hB) rfl rfl rfl (mup_self _ _ _ _) ?_
                refine i_iald q_X12_laws_91 (a51 hB) (cref0 (by decide)) (by first | omega | assumption) (by first | omega | assumption) (by decide) (show _ = T (cE T L p) from (mup_cell (by decide)).trans (congrFun ht2.2.1 _)) ?_
                refine e_bipush q_X12_laws_92 (by decide) ?_
                refine e_icmp_ne q_X12_laws_94 (by have := hTr (cE T L p) (by omega) (by show spE T L (clP T L p) < L; omega); constructor <;> omega) (by constructor <;> omega) (fun c94 => ?_) (fun c94 => ?_)
                · skip
                  refine e_aload_n q_X12_laws_117 (by decide) rfl ?_
                  refine e_aload_n q_X12_laws_118 (by decide) rfl ?_
                  refine i_getI (k' := 19) q_X12_laws_119 fl_X12_208 (a39 hB) rfl rfl rfl (mup_self _ _ _ _) ?_
                  refine iv_X12_faultAt q_X12_laws_122 lk_X12_223 (by decide) (a39 hB) (Nat.le_of_ble_eq_true rfl) ?_
                  refine k_faultAt hB ((mup_slot (by decide)).trans h20) ?_
                  refine e_goto q_X12_laws_125 ?_
                  first
                  | (have hlt : cE T L p < L := by show spE T L (clP T L p) < L; omega
                     rw [zif_t hlt, zif_t ⟨c94, by omega⟩] at hn
                     rw [zif_t ⟨hlt, c94, by omega⟩] at hd
                     refine zEe (ls := [.ref 39, vi ((i + 1 : Nat) : Int), vi 1, zU]) (σ := zI s (mup N2 39 19 (cE T L p + 1))) (ih _ (cE T L p + 1) (upD T L p dd) ⟨by omega, ht2.mu (by decide) (by omega), mup_self _ _ _ _, by omega, (mup_slot (by decide)).trans h20, hf3.mu (by omega), ⟨fun k k0 k1 => ?_, ?_⟩, ?_, ?_⟩) rfl ?_
                     · rw [mup_cell (by decide), mup_cell (by decide)]; exact hr2.1 k k0 k1
                     · rw [mup_slot (by decide)]; exact hr2.2
                     · rw [show 4 - (i + 1) = 3 - i by omega]; exact hn
                     · rw [show 4 - (i + 1) = 3 - i by omega]; exact hd
                     · rw [mup_mup]; rfl)
                  | (refine e_iload_n q_X12_laws_48 (by decide) rfl ?_
                     refine e_if_eq q_X12_laws_49 (by constructor <;> omega) (fun c49 => ?_) (fun c49 => absurd rfl c49)
                     have hlt : cE T L p < L := by show spE T L (clP T L p) < L; omega
                     have hfin : (lwN T L 4 0 0) = -20 - cE T L p := by rw [← hn, zif_t hlt, zif_f (fun q => c94 q.1)]
                     have h20' : mup (mup N2 39 19 (cE T L p)) 39 20 (cE T L p) 39 20 = cE T L p := mup_self _ _ _ _
                     refine k_lawsT hB (N1 := mup (mup N2 39 19 (cE T L p)) 39 20 (cE T L p)) (by rw [h20']; constructor <;> omega) (fun _ => zqI (h1 (by omega) (mup (mup (mup N2 39 19 (cE T L p)) 39 20 (cE T L p)) 39 15 0) (fun a x g1 g2 g3 => ?_) (mup_self _ _ _ _)) (by rw [hfin, h20'])) (fun q => by omega)
                     rw [mup_ne (by omega), mup_ne (by omega), mup_ne (by omega)]
                     exact hf3 a x (by omega) g2 g3)
                  | (refine e_iload_n q_X12_laws_48 (by decide) rfl ?_
                     refine e_if_eq q_X12_laws_49 (by constructor <;> omega) (fun c49 => ?_) (fun c49 => absurd rfl c49)
                     have hlt : cE T L p < L := by show spE T L (clP T L p) < L; omega
                     have hfin : (lwN T L 4 0 0) = -20 - cE T L p := by rw [← hn, zif_t hlt, zif_f (fun q => q.2 (by omega))]
                     have h20' : mup (mup N2 39 19 (cE T L p)) 39 20 (cE T L p) 39 20 = cE T L p := mup_self _ _ _ _
                     refine k_lawsT hB (N1 := mup (mup N2 39 19 (cE T L p)) 39 20 (cE T L p)) (by rw [h20']; constructor <;> omega) (fun _ => zqI (h1 (by omega) (mup (mup (mup N2 39 19 (cE T L p)) 39 20 (cE T L p)) 39 15 0) (fun a x g1 g2 g3 => ?_) (mup_self _ _ _ _)) (by rw [hfin, h20'])) (fun q => by omega)
                     rw [mup_ne (by omega), mup_ne (by omega), mup_ne (by omega)]
                     exact hf3 a x (by omega) g2 g3)
                  | exact absurd c65 (by omega)
                  | (refine e_iload_n q_X12_laws_48 (by decide) rfl ?_
                     refine e_if_eq q_X12_laws_49 (by constructor <;> omega) (fun c49 => ?_) (fun c49 => absurd rfl c49)
                     have hne : ¬ cE T L p < L := (by show ¬ spE T L (clP T L p) < L; omega)
                     have hfin : (lwN T L 4 0 0) = (i : Int) + 1 := by rw [← hn, zif_f hne]
                     have hdf : (lwD T L 4 0 dT0) = upD T L p dd := by rw [← hd, zif_f (fun q => hne q.1)]
                     refine k_lawsT hB (by rw [mup_slot (by decide), h20]; constructor <;> omega) (fun q => absurd q (by rw [mup_slot (by decide), h20]; omega)) (fun _ N3 g1 g2 g3 g4 => zqI (h2 (by omega) N3 (fun a x k1 k2 k3 k4 => ?_) g2 (fun k k0 k1 => ?_) ?_) hfin)
                     · rw [g1 a x (by omega) (by omega) k4, mup_ne (by omega)]
                       exact hf3 a x (by omega) k2 k3
                     · rw [(g3 k k0 k1).1, (g3 k k0 k1).2, mup_cell (by decide), mup_cell (by decide), hdf]
                       exact hr2.1 k k0 k1
                     · rw [g4, mup_slot (by decide), hdf]
                       exact hr2.2)
                · skip
                  refine e_iload_n q_X12_laws_97 (by decide) rfl ?_
                  refine e_iconst q_X12_laws_98 ?_
                  refine e_icmp_ge q_X12_laws_99 (by constructor <;> omega) (by constructor <;> omega) (fun c99 => ?_) (fun c99 => ?_)
                  · skip
                    refine e_aload_n q_X12_laws_117 (by decide) rfl ?_
                    refine e_aload_n q_X12_laws_118 (by decide) rfl ?_
                    refine i_getI (k' := 19) q_X12_laws_119 fl_X12_208 (a39 hB) rfl rfl rfl (mup_self _ _ _ _) ?_
                    refine iv_X12_faultAt q_X12_laws_122 lk_X12_223 (by decide) (a39 hB) (Nat.le_of_ble_eq_true rfl) ?_
                    refine k_faultAt hB ((mup_slot (by decide)).trans h20) ?_
                    refine e_goto q_X12_laws_125 ?_
                    first
                    | (have hlt : cE T L p < L := by show spE T L (clP T L p) < L; omega
                       rw [zif_t hlt, zif_t ⟨c94, by omega⟩] at hn
                       rw [zif_t ⟨hlt, c94, by omega⟩] at hd
                       refine zEe (ls := [.ref 39, vi ((i + 1 : Nat) : Int), vi 1, zU]) (σ := zI s (mup N2 39 19 (cE T L p + 1))) (ih _ (cE T L p + 1) (upD T L p dd) ⟨by omega, ht2.mu (by decide) (by omega), mup_self _ _ _ _, by omega, (mup_slot (by decide)).trans h20, hf3.mu (by omega), ⟨fun k k0 k1 => ?_, ?_⟩, ?_, ?_⟩) rfl ?_
                       · rw [mup_cell (by decide), mup_cell (by decide)]; exact hr2.1 k k0 k1
                       · rw [mup_slot (by decide)]; exact hr2.2
                       · rw [show 4 - (i + 1) = 3 - i by omega]; exact hn
                       · rw [show 4 - (i + 1) = 3 - i by omega]; exact hd
                       · rw [mup_mup]; rfl)
                    | (refine e_iload_n q_X12_laws_48 (by decide) rfl ?_
                       refine e_if_eq q_X12_laws_49 (by constructor <;> omega) (fun c49 => ?_) (fun c49 => absurd rfl c49)
                       have hlt : cE T L p < L := by show spE T L (clP T L p) < L; omega
                       have hfin : (lwN T L 4 0 0) = -20 - cE T L p := by rw [← hn, zif_t hlt, zif_f (fun q => c94 q.1)]
                       have h20' : mup (mup N2 39 19 (cE T L p)) 39 20 (cE T L p) 39 20 = cE T L p := mup_self _ _ _ _
                       refine k_lawsT hB (N1 := mup (mup N2 39 19 (cE T L p)) 39 20 (cE T L p)) (by rw [h20']; constructor <;> omega) (fun _ => zqI (h1 (by omega) (mup (mup (mup N2 39 19 (cE T L p)) 39 20 (cE T L p)) 39 15 0) (fun a x g1 g2 g3 => ?_) (mup_self _ _ _ _)) (by rw [hfin, h20'])) (fun q => by omega)
                       rw [mup_ne (by omega), mup_ne (by omega), mup_ne (by omega)]
                       exact hf3 a x (by omega) g2 g3)
                    | (refine e_iload_n q_X12_laws_48 (by decide) rfl ?_
                       refine e_if_eq q_X12_laws_49 (by constructor <;> omega) (fun c49 => ?_) (fun c49 => absurd rfl c49)
                       have hlt : cE T L p < L := by show spE T L (clP T L p) < L; omega
                       have hfin : (lwN T L 4 0 0) = -20 - cE T L p := by rw [← hn, zif_t hlt, zif_f (fun q => q.2 (by omega))]
                       have h20' : mup (mup N2 39 19 (cE T L p)) 39 20 (cE T L p) 39 20 = cE T L p := mup_self _ _ _ _
                       refine k_lawsT hB (N1 := mup (mup N2 39 19 (cE T L p)) 39 20 (cE T L p)) (by rw [h20']; constructor <;> omega) (fun _ => zqI (h1 (by omega) (mup (mup (mup N2 39 19 (cE T L p)) 39 20 (cE T L p)) 39 15 0) (fun a x g1 g2 g3 => ?_) (mup_self _ _ _ _)) (by rw [hfin, h20'])) (fun q => by omega)
                       rw [mup_ne (by omega), mup_ne (by omega), mup_ne (by omega)]
                       exact hf3 a x (by omega) g2 g3)
                    | exact absurd c65 (by omega)
                    | (refine e_iload_n q_X12_laws_48 (by decide) rfl ?_
                       refine e_if_eq q_X12_laws_49 (by constructor <;> omega) (fun c49 => ?_) (fun c49 => absurd rfl c49)
                       have hne : ¬ cE T L p < L := (by show ¬ spE T L (clP T L p) < L; omega)
                       have hfin : (lwN T L 4 0 0) = (i : Int) + 1 := by rw [← hn, zif_f hne]
                       have hdf : (lwD T L 4 0 dT0) = upD T L p dd := by rw [← hd, zif_f (fun q => hne q.1)]
                       refine k_lawsT hB (by rw [mup_slot (by decide), h20]; constructor <;> omega) (fun q => absurd q (by rw [mup_slot (by decide), h20]; omega)) (fun _ N3 g1 g2 g3 g4 => zqI (h2 (by omega) N3 (fun a x k1 k2 k3 k4 => ?_) g2 (fun k k0 k1 => ?_) ?_) hfin)
                       · rw [g1 a x (by omega) (by omega) k4, mup_ne (by omega)]
                         exact hf3 a x (by omega) k2 k3
                       · rw [(g3 k k0 k1).1, (g3 k k0 k1).2, mup_cell (by decide), mup_cell (by decide), hdf]
                         exact hr2.1 k k0 k1
                       · rw [g4, mup_slot (by decide), hdf]
                         exact hr2.2)
                  · skip
                    refine e_aload_n q_X12_laws_102 (by decide) rfl ?_
                    refine e_dup q_X12_laws_103 rfl ?_
                    refine i_getI (k' := 19) q_X12_laws_104 fl_X12_208 (a39 hB) rfl rfl rfl (mup_self _ _ _ _) ?_
                    refine e_iconst q_X12_laws_107 ?_
                    refine e_iadd q_X12_laws_108 ?_
                    refine i_putI (k' := 19) q_X12_laws_109 fl_X12_208 (Or.inl rfl) (a39 hB) rfl rfl rfl rfl rfl ?_
                    refine e_iconst q_X12_laws_112 ?_
                    refine e_istore_n (ls' := [_, _, _, _]) q_X12_laws_113 (by decide) rfl rfl ?_
                    refine e_goto q_X12_laws_114 ?_
                    first
                    | (have hlt : cE T L p < L := by show spE T L (clP T L p) < L; omega
                       rw [zif_t hlt, zif_t ⟨c94, by omega⟩] at hn
                       rw [zif_t ⟨hlt, c94, by omega⟩] at hd
                       refine zEe (ls := [.ref 39, vi ((i + 1 : Nat) : Int), vi 1, zU]) (σ := zI s (mup N2 39 19 (cE T L p + 1))) (ih _ (cE T L p + 1) (upD T L p dd) ⟨by omega, ht2.mu (by decide) (by omega), mup_self _ _ _ _, by omega, (mup_slot (by decide)).trans h20, hf3.mu (by omega), ⟨fun k k0 k1 => ?_, ?_⟩, ?_, ?_⟩) rfl ?_
                       · rw [mup_cell (by decide), mup_cell (by decide)]; exact hr2.1 k k0 k1
                       · rw [mup_slot (by decide)]; exact hr2.2
                       · rw [show 4 - (i + 1) = 3 - i by omega]; exact hn
                       · rw [show 4 - (i + 1) = 3 - i by omega]; exact hd
                       · rw [mup_mup]; rfl)
                    | (refine e_iload_n q_X12_laws_48 (by decide) rfl ?_
                       refine e_if_eq q_X12_laws_49 (by constructor <;> omega) (fun c49 => ?_) (fun c49 => absurd rfl c49)
                       have hlt : cE T L p < L := by show spE T L (clP T L p) < L; omega
                       have hfin : (lwN T L 4 0 0) = -20 - cE T L p := by rw [← hn, zif_t hlt, zif_f (fun q => c94 q.1)]
                       have h20' : mup (mup N2 39 19 (cE T L p)) 39 20 (cE T L p) 39 20 = cE T L p := mup_self _ _ _ _
                       refine k_lawsT hB (N1 := mup (mup N2 39 19 (cE T L p)) 39 20 (cE T L p)) (by rw [h20']; constructor <;> omega) (fun _ => zqI (h1 (by omega) (mup (mup (mup N2 39 19 (cE T L p)) 39 20 (cE T L p)) 39 15 0) (fun a x g1 g2 g3 => ?_) (mup_self _ _ _ _)) (by rw [hfin, h20'])) (fun q => by omega)
                       rw [mup_ne (by omega), mup_ne (by omega), mup_ne (by omega)]
                       exact hf3 a x (by omega) g2 g3)
                    | (refine e_iload_n q_X12_laws_48 (by decide) rfl ?_
                       refine e_if_eq q_X12_laws_49 (by constructor <;> omega) (fun c49 => ?_) (fun c49 => absurd rfl c49)
                       have hlt : cE T L p < L := by show spE T L (clP T L p) < L; omega
                       have hfin : (lwN T L 4 0 0) = -20 - cE T L p := by rw [← hn, zif_t hlt, zif_f (fun q => q.2 (by omega))]
                       have h20' : mup (mup N2 39 19 (cE T L p)) 39 20 (cE T L p) 39 20 = cE T L p := mup_self _ _ _ _
                       refine k_lawsT hB (N1 := mup (mup N2 39 19 (cE T L p)) 39 20 (cE T L p)) (by rw [h20']; constructor <;> omega) (fun _ => zqI (h1 (by omega) (mup (mup (mup N2 39 19 (cE T L p)) 39 20 (cE T L p)) 39 15 0) (fun a x g1 g2 g3 => ?_) (mup_self _ _ _ _)) (by rw [hfin, h20'])) (fun q => by omega)
                       rw [mup_ne (by omega), mup_ne (by omega), mup_ne (by omega)]
                       exact hf3 a x (by omega) g2 g3)
                    | exact absurd c65 (by omega)
                    | (refine e_iload_n q_X12_laws_48 (by decide) rfl ?_
                       refine e_if_eq q_X12_laws_49 (by constructor <;> omega) (fun c49 => ?_) (fun c49 => absurd rfl c49)
                       have hne : ¬ cE T L p < L := (by show ¬ spE T L (clP T L p) < L; omega)
                       have hfin : (lwN T L 4 0 0) = (i : Int) + 1 := by rw [← hn, zif_f hne]
                       have hdf : (lwD T L 4 0 dT0) = upD T L p dd := by rw [← hd, zif_f (fun q => hne q.1)]
                       refine k_lawsT hB (by rw [mup_slot (by decide), h20]; constructor <;> omega) (fun q => absurd q (by rw [mup_slot (by decide), h20]; omega)) (fun _ N3 g1 g2 g3 g4 => zqI (h2 (by omega) N3 (fun a x k1 k2 k3 k4 => ?_) g2 (fun k k0 k1 => ?_) ?_) hfin)
                       · rw [g1 a x (by omega) (by omega) k4, mup_ne (by omega)]
                         exact hf3 a x (by omega) k2 k3
                       · rw [(g3 k k0 k1).1, (g3 k k0 k1).2, mup_cell (by decide), mup_cell (by decide), hdf]
                         exact hr2.1 k k0 k1
                       · rw [g4, mup_slot (by decide), hdf]
                         exact hr2.2)
      · skip
        exact absurd hv.1 (by omega)
    · skip
      exact absurd (by omega) c20
end LT7
