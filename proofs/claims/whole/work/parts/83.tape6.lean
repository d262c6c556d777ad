/-! the tape, 6 (printed by wip/whole/gen/l6.py) -/
section LT6
variable {X : zX} {s : zK} {N : zN} {σ : zS} {fa sa : Int → Int} {Q K : Option Value → zS → Prop} {c : Int}
def frC (N N1 : zN) : Prop := ∀ (a : Nat) (x : Int), ¬ (a = 39 ∧ ((19 ≤ x ∧ x ≤ 22) ∨ x = 25)) → a ≠ 54 → a ≠ 55 → N1 a x = N a x
theorem fr39.toC {N1 : zN} (h : fr39 N N1) : frC N N1 := fun a x h1 _ _ => h a x (by omega)
theorem frC.tr {N1 N2 : zN} (h : frC N N1) (h2 : frC N1 N2) : frC N N2 := fun a x h3 h4 h5 => (h2 a x h3 h4 h5).trans (h a x h3 h4 h5)
theorem frC.mu {N1 : zN} {a : Nat} {i x : Int} (h : frC N N1) (ha : a = 54 ∨ a = 55 ∨ (a = 39 ∧ ((19 ≤ i ∧ i ≤ 22) ∨ i = 25))) : frC N (mup N1 a i x) := fun b y h1 h2 h3 => by
  rw [mup_ne (fun q => by omega)]
  exact h b y h1 h2 h3
theorem frC.tp {N1 : zN} {T : Int → Int} {L : Int} (h : frC N N1) (ht : tpM s N T L) : tpM s N1 T L := ⟨ht.1, (funext fun x => h 51 x (by omega) (by omega) (by omega)).trans ht.2.1, (h 39 15 (by omega) (by omega) (by omega)).trans ht.2.2.1, ht.2.2.2⟩
def lwM (N N1 : zN) (k a b p : Int) : Prop := frC N N1 ∧ (k = 3 → N1 39 25 = a ∧ N1 54 = N 54 ∧ N1 55 = N 55) ∧ (k ≠ 3 → N1 39 25 = N 39 25 ∧ (∀ x, x ≠ k → N1 54 x = N 54 x ∧ N1 55 x = N 55 x) ∧ N1 54 k = a ∧ N1 55 k = b) ∧ N1 39 19 = p ∧ N1 39 20 = -1
set_option maxRecDepth 20000 in
set_option maxHeartbeats 2000000 in
theorem k_readClause {T : Int → Int} {L : Int} (ht : tpM s N T L){p : Int} (hp : N 39 19 = p) (hp0 : 0 ≤ p ∧ p ≤ L) (hw : N 39 20 = -1) (hF : ∀ (F : Int) (N1 : zN), clBad T L p F → frC N N1 → N1 39 20 = F → Q none (zI s N1)) (hO : clGood T L p → ∀ N1 : zN, lwM N N1 (cK T L p) (clA T L p) (clB T L p) (clP T L p) → Q none (zI s N1)) : zC X m_X12_readClause [.ref 39] (zI s N) Q := by
  obtain ⟨hB, hT, hL, hL2, hTr⟩ := id ht
  have hqb := nQ_b (T := T) hp0.1 hp0.2 hL2.2
  have hqb : p ≤ cQ T L p ∧ cQ T L p ≤ L := hqb
  have hqs : p ≤ spE T L p ∧ spE T L p ≤ L := hqb
  have hckb := cK_b T L p
  show zE X m_X12_readClause 0 [.ref 39, zU, zU] [] _ Q
  refine e_aload_n q_X12_readClause_0 (by decide) rfl ?_
  refine iv_X12_skip q_X12_readClause_1 lk_X12_214 (by decide) (a39 hB) (Nat.le_of_ble_eq_true rfl) ?_
  refine k_skip ht hp hp0 ?_
  refine e_aload_n q_X12_readClause_4 (by decide) rfl ?_
  refine i_getI (k' := 19) q_X12_readClause_5 fl_X12_208 (a39 hB) rfl rfl rfl (mup_self _ _ _ _) ?_
  refine e_aload_n q_X12_readClause_8 (by decide) rfl ?_
  refine i_getI (k' := 15) q_X12_readClause_9 fl_X12_205 (a39 hB) rfl rfl rfl ((mup_slot (by decide)).trans hL) ?_
  refine e_icmp_ge q_X12_readClause_12 (by constructor <;> omega) (by constructor <;> omega) (fun c12 => ?_) (fun c12 => ?_)
  · skip
    refine e_iconst q_X12_readClause_30 ?_
    refine e_istore_n (ls' := [_, _, _]) q_X12_readClause_31 (by decide) rfl rfl ?_
    first
    | (have hkk : cK T L p = -1 := zif_f (by show ¬ spE T L p < L; omega)
       rw [← hkk])
    | (have hkk : cK T L p = kndI (T (cQ T L p)) := zif_t (by show spE T L p < L; omega)
       rw [← hkk])
    refine e_iload_n q_X12_readClause_32 (by decide) rfl ?_
    refine e_if_ge q_X12_readClause_33 (by constructor <;> omega) (fun c33 => ?_) (fun c33 => ?_)
    · skip
      have hcK : 0 ≤ cK T L p := by omega
      have hlt := (cK_lt hcK).1
      have hb2 := (cl_b (T := T) hp0.1 hp0.2 hL2.2).2 hcK
      refine e_aload_n q_X12_readClause_45 (by decide) rfl ?_
      refine e_dup q_X12_readClause_46 rfl ?_
      refine i_getI (k' := 19) q_X12_readClause_47 fl_X12_208 (a39 hB) rfl rfl rfl (mup_self _ _ _ _) ?_
      refine e_iconst q_X12_readClause_50 ?_
      refine e_iadd q_X12_readClause_51 ?_
      refine i_putI (k' := 19) q_X12_readClause_52 fl_X12_208 (Or.inl rfl) (a39 hB) rfl rfl rfl rfl rfl ?_
      refine e_aload_n q_X12_readClause_55 (by decide) rfl ?_
      refine iv_X12_readNumber q_X12_readClause_56 lk_X12_230 (by decide) (a39 hB) (Nat.le_of_ble_eq_true rfl) ?_
      refine k_readNumber (p := cQ T L p + 1) ((ht.mu (by decide) (by omega)).mu (by decide) (by omega)) (mup_self _ _ _ _) (by omega) ((mup_slot (by decide)).trans ((mup_slot (by decide)).trans hw)) (fun hok N1 hf h20 h19 => ?_) (fun hok N1 hf h19 h20 h21 h22 => ?_)
      · skip
        refine e_aload_n q_X12_readClause_59 (by decide) rfl ?_
        refine i_getI (k' := 20) q_X12_readClause_60 fl_X12_211 (a39 hB) rfl rfl rfl h20 ?_
        refine e_if_lt q_X12_readClause_63 (by constructor <;> omega) (fun c63 => ?_) (fun c63 => ?_)
        · skip
          exact absurd c63 (by omega)
        · skip
          refine e_return q_X12_readClause_66 rfl ?_
          exact hF _ _ (Or.inr (Or.inl ⟨hcK, hok, rfl⟩)) (((fr39.rf.mu (by omega)).mu (by omega)).tr hf).toC h20
      · skip
        have hF1 : fr39 N N1 := ((fr39.rf.mu (by omega)).mu (by omega)).tr hf
        have hvb := nV_b (T := T) (p := cQ T L p + 1) (by omega) (by omega) hL2.2
        have htp := hF1.tp ht
        have hb2 := (cl_b (T := T) hp0.1 hp0.2 hL2.2).2 hcK
        refine e_aload_n q_X12_readClause_59 (by decide) rfl ?_
        refine i_getI (k' := 20) q_X12_readClause_60 fl_X12_211 (a39 hB) rfl rfl rfl h20 ?_
        refine e_if_lt q_X12_readClause_63 (by constructor <;> omega) (fun c63 => ?_) (fun c63 => ?_)
        · skip
          refine e_iload_n q_X12_readClause_67 (by decide) rfl ?_
          refine e_iconst q_X12_readClause_68 ?_
          refine e_icmp_ne q_X12_readClause_69 (by constructor <;> omega) (by constructor <;> omega) (fun c69 => ?_) (fun c69 => ?_)
          · skip
            refine e_aload_n q_X12_readClause_102 (by decide) rfl ?_
            refine i_getI (k' := 21) q_X12_readClause_103 fl_X12_220 (a39 hB) rfl rfl rfl h21 ?_
            refine e_istore_n (ls' := [_, _, _]) q_X12_readClause_106 (by decide) rfl rfl ?_
            refine e_iload_n q_X12_readClause_107 (by decide) rfl ?_
            refine e_iconst q_X12_readClause_108 ?_
            refine e_bipush q_X12_readClause_109 (by decide) ?_
            refine iv_X12_within q_X12_readClause_111 lk_X12_160 (by decide) (Nat.le_of_ble_eq_true rfl) ?_
            refine k_within (by constructor <;> omega) (by constructor <;> omega) (by constructor <;> omega) ?_
            refine e_ifb_ne q_X12_readClause_114 (fun c114 => ?_) (fun c114 => ?_)
            · skip
              refine e_aload_n q_X12_readClause_126 (by decide) rfl ?_
              refine e_bipush q_X12_readClause_127 (by decide) ?_
              refine iv_X12_readByte q_X12_readClause_129 lk_X12_236 (by decide) (a39 hB) (Nat.le_of_ble_eq_true rfl) ?_
              refine k_readByte (p := nE T L (cQ T L p + 1)) htp h19 (by omega) h20 (fun h45 N2 hf2 g20 g19 => ?_) (fun h45 N2 hf2 g19 g20 => ?_)
              · skip
                refine e_aload_n q_X12_readClause_132 (by decide) rfl ?_
                refine i_getI (k' := 20) q_X12_readClause_133 fl_X12_211 (a39 hB) rfl rfl rfl (by first | exact g20) ?_
                refine e_if_lt q_X12_readClause_136 (by constructor <;> omega) (fun c136 => ?_) (fun c136 => ?_)
                · skip
                  exact absurd c136 (by omega)
                · skip
                  refine e_return q_X12_readClause_139 rfl ?_
                  exact hF _ _ (Or.inr (Or.inr (Or.inr (Or.inr (Or.inl ⟨by omega, hok, by omega, h45, rfl⟩))))) (hF1.tr hf2).toC g20
              · skip
                have hF2 : fr39 N N2 := hF1.tr hf2
                have htp2 := hF2.tp ht
                have hb3 := hb2.2 h45.1
                refine e_aload_n q_X12_readClause_132 (by decide) rfl ?_
                refine i_getI (k' := 20) q_X12_readClause_133 fl_X12_211 (a39 hB) rfl rfl rfl (by first | exact g20) ?_
                refine e_if_lt q_X12_readClause_136 (by constructor <;> omega) (fun c136 => ?_) (fun c136 => ?_)
                · skip
                  refine e_aload_n q_X12_readClause_140 (by decide) rfl ?_
                  refine iv_X12_readNumber q_X12_readClause_141 lk_X12_230 (by decide) (a39 hB) (Nat.le_of_ble_eq_true rfl) ?_
                  refine k_readNumber (p := spE T L (nE T L (cQ T L p + 1)) + 1) htp2 g19 (by omega) g20 (fun hok2 N3 hf3 k20 k19 => ?_) (fun hok2 N3 hf3 k19 k20 k21 k22 => ?_)
                  · skip
                    have hF3 : fr39 N N3 := hF2.tr hf3
                    refine e_aload_n q_X12_readClause_144 (by decide) rfl ?_
                    refine i_getI (k' := 20) q_X12_readClause_145 fl_X12_211 (a39 hB) rfl rfl rfl k20 ?_
                    refine e_if_ge q_X12_readClause_148 (by constructor <;> omega) (fun c148 => ?_) (fun c148 => ?_)
                    · skip
                      refine e_aload_n q_X12_readClause_172 (by decide) rfl ?_
                      refine i_getC (r := 54) q_X12_readClause_173 fl_X12_58 (a39 hB) rfl (by decide) ?_
                      refine e_iload_n q_X12_readClause_176 (by decide) rfl ?_
                      refine e_iload_n q_X12_readClause_177 (by decide) rfl ?_
                      refine i_iast q_X12_readClause_178 (a54 hB) (cref0 (by decide)) (by omega) (by omega) (by decide) ?_
                      refine e_aload_n q_X12_readClause_179 (by decide) rfl ?_
                      refine i_getC (r := 55) q_X12_readClause_180 fl_X12_61 (a39 hB) rfl (by decide) ?_
                      refine e_iload_n q_X12_readClause_183 (by decide) rfl ?_
                      refine e_aload_n q_X12_readClause_184 (by decide) rfl ?_
                      refine i_getI (k' := 21) q_X12_readClause_185 fl_X12_220 (a39 hB) rfl rfl rfl rfl ?_
                      refine i_iast q_X12_readClause_188 (a55 hB) (cref0 (by decide)) (by omega) (by omega) (by decide) ?_
                      refine e_return q_X12_readClause_189 rfl ?_
                      first
                      | exact absurd c148 (by omega)
                      | (refine hF _ _ (Or.inr (Or.inr (Or.inr (Or.inr (Or.inr (Or.inl ⟨by omega, hok, by omega, h45, hok2, rfl⟩)))))) ((hF3.toC.mu (by omega)).mu (by omega)) ?_
                         · rw [mup_cell (by decide), mup_cell (by decide)]; exact k20)
                      | (refine hF _ _ (Or.inr (Or.inr (Or.inr (Or.inr (Or.inr (Or.inr ⟨by omega, hok, by omega, h45, hok2, c161, rfl⟩)))))) (((hF3.toC.mu (by omega)).mu (by omega)).mu (by omega)) ?_
                         · rw [mup_cell (by decide), mup_cell (by decide), mup_self])
                      | (refine hO (Or.inr ⟨by omega, hok, by omega, h45, hok2, c161⟩) _ ⟨(hF3.toC.mu (by omega)).mu (by omega), fun q => absurd q (by omega), fun _ => ⟨?_, fun x hx => ⟨?_, ?_⟩, ?_, ?_⟩, ?_, ?_⟩
                         · rw [mup_cell (by decide), mup_cell (by decide)]; exact hF3 39 25 (by omega)
                         · rw [mup_cell (by decide), mup_slot hx]; exact hF3 54 x (by omega)
                         · rw [mup_slot hx, mup_cell (by decide)]; exact hF3 55 x (by omega)
                         · rw [mup_cell (by decide), mup_self]; rfl
                         · rw [mup_self, mup_cell (by decide)]; exact k21
                         · rw [mup_cell (by decide), mup_cell (by decide), k19]; unfold clP; rw [if_neg (by omega)]
                         · rw [mup_cell (by decide), mup_cell (by decide)]; exact k20)
                    · skip
                      exact absurd c148 (by omega)
                  · skip
                    have hF3 : fr39 N N3 := hF2.tr hf3
                    have hvb2 := nV_b (T := T) (p := spE T L (nE T L (cQ T L p + 1)) + 1) (by omega) (by omega) hL2.2
                    refine e_aload_n q_X12_readClause_144 (by decide) rfl ?_
                    refine i_getI (k' := 20) q_X12_readClause_145 fl_X12_211 (a39 hB) rfl rfl rfl k20 ?_
                    refine e_if_ge q_X12_readClause_148 (by constructor <;> omega) (fun c148 => ?_) (fun c148 => ?_)
                    · skip
                      refine e_aload_n q_X12_readClause_172 (by decide) rfl ?_
                      refine i_getC (r := 54) q_X12_readClause_173 fl_X12_58 (a39 hB) rfl (by decide) ?_
                      refine e_iload_n q_X12_readClause_176 (by decide) rfl ?_
                      refine e_iload_n q_X12_readClause_177 (by decide) rfl ?_
                      refine i_iast q_X12_readClause_178 (a54 hB) (cref0 (by decide)) (by omega) (by omega) (by decide) ?_
                      refine e_aload_n q_X12_readClause_179 (by decide) rfl ?_
                      refine i_getC (r := 55) q_X12_readClause_180 fl_X12_61 (a39 hB) rfl (by decide) ?_
                      refine e_iload_n q_X12_readClause_183 (by decide) rfl ?_
                      refine e_aload_n q_X12_readClause_184 (by decide) rfl ?_
                      refine i_getI (k' := 21) q_X12_readClause_185 fl_X12_220 (a39 hB) rfl rfl rfl rfl ?_
                      refine i_iast q_X12_readClause_188 (a55 hB) (cref0 (by decide)) (by omega) (by omega) (by decide) ?_
                      refine e_return q_X12_readClause_189 rfl ?_
                      first
                      | exact absurd c148 (by omega)
                      | (refine hF _ _ (Or.inr (Or.inr (Or.inr (Or.inr (Or.inr (Or.inl ⟨by omega, hok, by omega, h45, hok2, rfl⟩)))))) ((hF3.toC.mu (by omega)).mu (by omega)) ?_
                         · rw [mup_cell (by decide), mup_cell (by decide)]; exact k20)
                      | (refine hF _ _ (Or.inr (Or.inr (Or.inr (Or.inr (Or.inr (Or.inr ⟨by omega, hok, by omega, h45, hok2, c161, rfl⟩)))))) (((hF3.toC.mu (by omega)).mu (by omega)).mu (by omega)) ?_
                         · rw [mup_cell (by decide), mup_cell (by decide), mup_self])
                      | (refine hO (Or.inr ⟨by omega, hok, by omega, h45, hok2, c161⟩) _ ⟨(hF3.toC.mu (by omega)).mu (by omega), fun q => absurd q (by omega), fun _ => ⟨?_, fun x hx => ⟨?_, ?_⟩, ?_, ?_⟩, ?_, ?_⟩
                         · rw [mup_cell (by decide), mup_cell (by decide)]; exact hF3 39 25 (by omega)
                         · rw [mup_cell (by decide), mup_slot hx]; exact hF3 54 x (by omega)
                         · rw [mup_slot hx, mup_cell (by decide)]; exact hF3 55 x (by omega)
                         · rw [mup_cell (by decide), mup_self]; rfl
                         · rw [mup_self, mup_cell (by decide)]; exact k21
                         · rw [mup_cell (by decide), mup_cell (by decide), k19]; unfold clP; rw [if_neg (by omega)]
                         · rw [mup_cell (by decide), mup_cell (by decide)]; exact k20)
                    · skip
                      refine e_aload_n q_X12_readClause_151 (by decide) rfl ?_
                      refine i_getI (k' := 21) q_X12_readClause_152 fl_X12_220 (a39 hB) rfl rfl rfl k21 ?_
                      refine e_iload_n q_X12_readClause_155 (by decide) rfl ?_
                      refine e_bipush q_X12_readClause_156 (by decide) ?_
                      refine iv_X12_within q_X12_readClause_158 lk_X12_160 (by decide) (Nat.le_of_ble_eq_true rfl) ?_
                      refine k_within (by constructor <;> omega) (by constructor <;> omega) (by constructor <;> omega) ?_
                      refine e_ifb_ne q_X12_readClause_161 (fun c161 => ?_) (fun c161 => ?_)
                      · skip
                        refine e_aload_n q_X12_readClause_172 (by decide) rfl ?_
                        refine i_getC (r := 54) q_X12_readClause_173 fl_X12_58 (a39 hB) rfl (by decide) ?_
                        refine e_iload_n q_X12_readClause_176 (by decide) rfl ?_
                        refine e_iload_n q_X12_readClause_177 (by decide) rfl ?_
                        refine i_iast q_X12_readClause_178 (a54 hB) (cref0 (by decide)) (by omega) (by omega) (by decide) ?_
                        refine e_aload_n q_X12_readClause_179 (by decide) rfl ?_
                        refine i_getC (r := 55) q_X12_readClause_180 fl_X12_61 (a39 hB) rfl (by decide) ?_
                        refine e_iload_n q_X12_readClause_183 (by decide) rfl ?_
                        refine e_aload_n q_X12_readClause_184 (by decide) rfl ?_
                        refine i_getI (k' := 21) q_X12_readClause_185 fl_X12_220 (a39 hB) rfl rfl rfl rfl ?_
                        refine i_iast q_X12_readClause_188 (a55 hB) (cref0 (by decide)) (by omega) (by omega) (by decide) ?_
                        refine e_return q_X12_readClause_189 rfl ?_
                        first
                        | exact absurd c148 (by omega)
                        | (refine hF _ _ (Or.inr (Or.inr (Or.inr (Or.inr (Or.inr (Or.inl ⟨by omega, hok, by omega, h45, hok2, rfl⟩)))))) ((hF3.toC.mu (by omega)).mu (by omega)) ?_
                           · rw [mup_cell (by decide), mup_cell (by decide)]; exact k20)
                        | (refine hF _ _ (Or.inr (Or.inr (Or.inr (Or.inr (Or.inr (Or.inr ⟨by omega, hok, by omega, h45, hok2, c161, rfl⟩)))))) (((hF3.toC.mu (by omega)).mu (by omega)).mu (by omega)) ?_
                           · rw [mup_cell (by decide), mup_cell (by decide), mup_self])
                        | (refine hO (Or.inr ⟨by omega, hok, by omega, h45, hok2, c161⟩) _ ⟨(hF3.toC.mu (by omega)).mu (by omega), fun q => absurd q (by omega), fun _ => ⟨?_, fun x hx => ⟨?_, ?_⟩, ?_, ?_⟩, ?_, ?_⟩
                           · rw [mup_cell (by decide), mup_cell (by decide)]; exact hF3 39 25 (by omega)
                           · rw [mup_cell (by decide), mup_slot hx]; exact hF3 54 x (by omega)
                           · rw [mup_slot hx, mup_cell (by decide)]; exact hF3 55 x (by omega)
                           · rw [mup_cell (by decide), mup_self]; rfl
                           · rw [mup_self, mup_cell (by decide)]; exact k21
                           · rw [mup_cell (by decide), mup_cell (by decide), k19]; unfold clP; rw [if_neg (by omega)]
                           · rw [mup_cell (by decide), mup_cell (by decide)]; exact k20)
                      · skip
                        refine e_aload_n q_X12_readClause_164 (by decide) rfl ?_
                        refine e_aload_n q_X12_readClause_165 (by decide) rfl ?_
                        refine i_getI (k' := 22) q_X12_readClause_166 fl_X12_217 (a39 hB) rfl rfl rfl k22 ?_
                        refine iv_X12_faultAt q_X12_readClause_169 lk_X12_223 (by decide) (a39 hB) (Nat.le_of_ble_eq_true rfl) ?_
                        refine k_faultAt hB k20 ?_
                        refine e_aload_n q_X12_readClause_172 (by decide) rfl ?_
                        refine i_getC (r := 54) q_X12_readClause_173 fl_X12_58 (a39 hB) rfl (by decide) ?_
                        refine e_iload_n q_X12_readClause_176 (by decide) rfl ?_
                        refine e_iload_n q_X12_readClause_177 (by decide) rfl ?_
                        refine i_iast q_X12_readClause_178 (a54 hB) (cref0 (by decide)) (by omega) (by omega) (by decide) ?_
                        refine e_aload_n q_X12_readClause_179 (by decide) rfl ?_
                        refine i_getC (r := 55) q_X12_readClause_180 fl_X12_61 (a39 hB) rfl (by decide) ?_
                        refine e_iload_n q_X12_readClause_183 (by decide) rfl ?_
                        refine e_aload_n q_X12_readClause_184 (by decide) rfl ?_
                        refine i_getI (k' := 21) q_X12_readClause_185 fl_X12_220 (a39 hB) rfl rfl rfl rfl ?_
                        refine i_iast q_X12_readClause_188 (a55 hB) (cref0 (by decide)) (by omega) (by omega) (by decide) ?_
                        refine e_return q_X12_readClause_189 rfl ?_
                        first
                        | exact absurd c148 (by omega)
                        | (refine hF _ _ (Or.inr (Or.inr (Or.inr (Or.inr (Or.inr (Or.inl ⟨by omega, hok, by omega, h45, hok2, rfl⟩)))))) ((hF3.toC.mu (by omega)).mu (by omega)) ?_
                           · rw [mup_cell (by decide), mup_cell (by decide)]; exact k20)
                        | (refine hF _ _ (Or.inr (Or.inr (Or.inr (Or.inr (Or.inr (Or.inr ⟨by omega, hok, by omega, h45, hok2, c161, rfl⟩)))))) (((hF3.toC.mu (by omega)).mu (by omega)).mu (by omega)) ?_
                           · rw [mup_cell (by decide), mup_cell (by decide), mup_self])
                        | (refine hO (Or.inr ⟨by omega, hok, by omega, h45, hok2, c161⟩) _ ⟨(hF3.toC.mu (by omega)).mu (by omega), fun q => absurd q (by omega), fun _ => ⟨?_, fun x hx => ⟨?_, ?_⟩, ?_, ?_⟩, ?_, ?_⟩
                           · rw [mup_cell (by decide), mup_cell (by decide)]; exact hF3 39 25 (by omega)
                           · rw [mup_cell (by decide), mup_slot hx]; exact hF3 54 x (by omega)
                           · rw [mup_slot hx, mup_cell (by decide)]; exact hF3 55 x (by omega)
                           · rw [mup_cell (by decide), mup_self]; rfl
                           · rw [mup_self, mup_cell (by decide)]; exact k21
                           · rw [mup_cell (by decide), mup_cell (by decide), k19]; unfold clP; rw [if_neg (by omega)]
                           · rw [mup_cell (by decide), mup_cell (by decide)]; exact k20)
                · skip
                  exact absurd c136 (by omega)
            · skip
              refine e_aload_n q_X12_readClause_117 (by decide) rfl ?_
              refine e_aload_n q_X12_readClause_118 (by decide) rfl ?_
              refine i_getI (k' := 22) q_X12_readClause_119 fl_X12_217 (a39 hB) rfl rfl rfl h22 ?_
              refine iv_X12_faultAt q_X12_readClause_122 lk_X12_223 (by decide) (a39 hB) (Nat.le_of_ble_eq_true rfl) ?_
              refine k_faultAt hB h20 ?_
              refine e_return q_X12_readClause_125 rfl ?_
              exact hF _ _ (Or.inr (Or.inr (Or.inr (Or.inl ⟨by omega, hok, fun q => c114 (by omega), rfl⟩)))) (hF1.toC.mu (by omega)) (mup_self _ _ _ _)
          · skip
            refine e_aload_n q_X12_readClause_72 (by decide) rfl ?_
            refine i_getI (k' := 21) q_X12_readClause_73 fl_X12_220 (a39 hB) rfl rfl rfl h21 ?_
            refine e_iconst q_X12_readClause_76 ?_
            refine e_bipush q_X12_readClause_77 (by decide) ?_
            refine iv_X12_within q_X12_readClause_79 lk_X12_160 (by decide) (Nat.le_of_ble_eq_true rfl) ?_
            refine k_within (by constructor <;> omega) (by constructor <;> omega) (by constructor <;> omega) ?_
            refine e_ifb_ne q_X12_readClause_82 (fun c82 => ?_) (fun c82 => ?_)
            · skip
              refine e_aload_n q_X12_readClause_93 (by decide) rfl ?_
              refine e_aload_n q_X12_readClause_94 (by decide) rfl ?_
              refine i_getI (k' := 21) q_X12_readClause_95 fl_X12_220 (a39 hB) rfl rfl rfl (by first | exact h21 | exact (mup_slot (by decide)).trans h21) ?_
              refine i_putI (k' := 25) q_X12_readClause_98 fl_X12_233 (Or.inl rfl) (a39 hB) rfl rfl rfl rfl rfl ?_
              refine e_return q_X12_readClause_101 rfl ?_
              first
              | (refine hO (Or.inl ⟨by omega, hok, c82⟩) _ ⟨hF1.toC.mu (by omega), fun _ => ⟨?_, ?_, ?_⟩, fun q => absurd (by omega) q, ?_, ?_⟩
                 · rw [mup_self]; rfl
                 · rw [mup_fn (by decide)]; exact funext fun x => hF1 54 x (by omega)
                 · rw [mup_fn (by decide)]; exact funext fun x => hF1 55 x (by omega)
                 · rw [mup_slot (by decide), h19]; unfold clP; rw [if_pos (by omega)]
                 · rw [mup_slot (by decide)]; exact h20)
              | (refine hF _ _ (Or.inr (Or.inr (Or.inl ⟨by omega, hok, c82, rfl⟩))) ((hF1.toC.mu (by omega)).mu (by omega)) ?_
                 · rw [mup_slot (by decide), mup_self])
            · skip
              refine e_aload_n q_X12_readClause_85 (by decide) rfl ?_
              refine e_aload_n q_X12_readClause_86 (by decide) rfl ?_
              refine i_getI (k' := 22) q_X12_readClause_87 fl_X12_217 (a39 hB) rfl rfl rfl h22 ?_
              refine iv_X12_faultAt q_X12_readClause_90 lk_X12_223 (by decide) (a39 hB) (Nat.le_of_ble_eq_true rfl) ?_
              refine k_faultAt hB h20 ?_
              refine e_aload_n q_X12_readClause_93 (by decide) rfl ?_
              refine e_aload_n q_X12_readClause_94 (by decide) rfl ?_
              refine i_getI (k' := 21) q_X12_readClause_95 fl_X12_220 (a39 hB) rfl rfl rfl (by first | exact h21 | exact (mup_slot (by decide)).trans h21) ?_
              refine i_putI (k' := 25) q_X12_readClause_98 fl_X12_233 (Or.inl rfl) (a39 hB) rfl rfl rfl rfl rfl ?_
              refine e_return q_X12_readClause_101 rfl ?_
              first
              | (refine hO (Or.inl ⟨by omega, hok, c82⟩) _ ⟨hF1.toC.mu (by omega), fun _ => ⟨?_, ?_, ?_⟩, fun q => absurd (by omega) q, ?_, ?_⟩
                 · rw [mup_self]; rfl
                 · rw [mup_fn (by decide)]; exact funext fun x => hF1 54 x (by omega)
                 · rw [mup_fn (by decide)]; exact funext fun x => hF1 55 x (by omega)
                 · rw [mup_slot (by decide), h19]; unfold clP; rw [if_pos (by omega)]
                 · rw [mup_slot (by decide)]; exact h20)
              | (refine hF _ _ (Or.inr (Or.inr (Or.inl ⟨by omega, hok, c82, rfl⟩))) ((hF1.toC.mu (by omega)).mu (by omega)) ?_
                 · rw [mup_slot (by decide), mup_self])
        · skip
          exact absurd c63 (by omega)
    · skip
      refine e_aload_n q_X12_readClause_36 (by decide) rfl ?_
      refine e_aload_n q_X12_readClause_37 (by decide) rfl ?_
      refine i_getI (k' := 19) q_X12_readClause_38 fl_X12_208 (a39 hB) rfl rfl rfl (mup_self _ _ _ _) ?_
      refine iv_X12_faultAt q_X12_readClause_41 lk_X12_223 (by decide) (a39 hB) (Nat.le_of_ble_eq_true rfl) ?_
      refine k_faultAt hB ((mup_slot (by decide)).trans hw) ?_
      refine e_return q_X12_readClause_44 rfl ?_
      exact hF _ _ (Or.inl ⟨by omega, rfl⟩) ((fr39.rf.mu (by omega)).mu (by omega)).toC (mup_self _ _ _ _)
  · skip
    refine e_aload_n q_X12_readClause_15 (by decide) rfl ?_
    refine i_getC (r := 51) q_X12_readClause_16 fl_X12_44 (a39 hB) rfl (by decide) ?_
    refine e_aload_n q_X12_readClause_19 (by decide) rfl ?_
    refine i_getI (k' := 19) q_X12_readClause_20 fl_X12_208 (a39 hB) rfl rfl rfl (mup_self _ _ _ _) ?_
    refine i_iald q_X12_readClause_23 (a51 hB) (cref0 (by decide)) (by first | omega | assumption) (by first | omega | assumption) (by decide) (show _ = T (cQ T L p) from (mup_cell (by decide)).trans (congrFun hT _)) ?_
    refine iv_X12_kindOf q_X12_readClause_24 lk_X12_227 (by decide) (Nat.le_of_ble_eq_true rfl) ?_
    refine k_kindOf (by have := hTr (cQ T L p) (by omega) (by show spE T L p < L; omega); show zr (T (cQ T L p)); constructor <;> omega) ?_
    refine e_goto q_X12_readClause_27 ?_
    refine e_istore_n (ls' := [_, _, _]) q_X12_readClause_31 (by decide) rfl rfl ?_
    first
    | (have hkk : cK T L p = -1 := zif_f (by show ¬ spE T L p < L; omega)
       rw [← hkk])
    | (have hkk : cK T L p = kndI (T (cQ T L p)) := zif_t (by show spE T L p < L; omega)
       rw [← hkk])
    refine e_iload_n q_X12_readClause_32 (by decide) rfl ?_
    refine e_if_ge q_X12_readClause_33 (by constructor <;> omega) (fun c33 => ?_) (fun c33 => ?_)
    · skip
      have hcK : 0 ≤ cK T L p := by omega
      have hlt := (cK_lt hcK).1
      have hb2 := (cl_b (T := T) hp0.1 hp0.2 hL2.2).2 hcK
      refine e_aload_n q_X12_readClause_45 (by decide) rfl ?_
      refine e_dup q_X12_readClause_46 rfl ?_
      refine i_getI (k' := 19) q_X12_readClause_47 fl_X12_208 (a39 hB) rfl rfl rfl (mup_self _ _ _ _) ?_
      refine e_iconst q_X12_readClause_50 ?_
      refine e_iadd q_X12_readClause_51 ?_
      refine i_putI (k' := 19) q_X12_readClause_52 fl_X12_208 (Or.inl rfl) (a39 hB) rfl rfl rfl rfl rfl ?_
      refine e_aload_n q_X12_readClause_55 (by decide) rfl ?_
      refine iv_X12_readNumber q_X12_readClause_56 lk_X12_230 (by decide) (a39 hB) (Nat.le_of_ble_eq_true rfl) ?_
      refine k_readNumber (p := cQ T L p + 1) ((ht.mu (by decide) (by omega)).mu (by decide) (by omega)) (mup_self _ _ _ _) (by omega) ((mup_slot (by decide)).trans ((mup_slot (by decide)).trans hw)) (fun hok N1 hf h20 h19 => ?_) (fun hok N1 hf h19 h20 h21 h22 => ?_)
      · skip
        refine e_aload_n q_X12_readClause_59 (by decide) rfl ?_
        refine i_getI (k' := 20) q_X12_readClause_60 fl_X12_211 (a39 hB) rfl rfl rfl h20 ?_
        refine e_if_lt q_X12_readClause_63 (by constructor <;> omega) (fun c63 => ?_) (fun c63 => ?_)
        · skip
          exact absurd c63 (by omega)
        · skip
          refine e_return q_X12_readClause_66 rfl ?_
          exact hF _ _ (Or.inr (Or.inl ⟨hcK, hok, rfl⟩)) (((fr39.rf.mu (by omega)).mu (by omega)).tr hf).toC h20
      · skip
        have hF1 : fr39 N N1 := ((fr39.rf.mu (by omega)).mu (by omega)).tr hf
        have hvb := nV_b (T := T) (p := cQ T L p + 1) (by omega) (by omega) hL2.2
        have htp := hF1.tp ht
        have hb2 := (cl_b (T := T) hp0.1 hp0.2 hL2.2).2 hcK
        refine e_aload_n q_X12_readClause_59 (by decide) rfl ?_
        refine i_getI (k' := 20) q_X12_readClause_60 fl_X12_211 (a39 hB) rfl rfl rfl h20 ?_
        refine e_if_lt q_X12_readClause_63 (by constructor <;> omega) (fun c63 => ?_) (fun c63 => ?_)
        · skip
          refine e_iload_n q_X12_readClause_67 (by decide) rfl ?_
          refine e_iconst q_X12_readClause_68 ?_
          refine e_icmp_ne q_X12_readClause_69 (by constructor <;> omega) (by constructor <;> omega) (fun c69 => ?_) (fun c69 => ?_)
          · skip
            refine e_aload_n q_X12_readClause_102 (by decide) rfl ?_
            refine i_getI (k' := 21) q_X12_readClause_103 fl_X12_220 (a39 hB) rfl rfl rfl h21 ?_
            refine e_istore_n (ls' := [_, _, _]) q_X12_readClause_106 (by decide) rfl rfl ?_
            refine e_iload_n q_X12_readClause_107 (by decide) rfl ?_
            refine e_iconst q_X12_readClause_108 ?_
            refine e_bipush q_X12_readClause_109 (by decide) ?_
            refine iv_X12_within q_X12_readClause_111 lk_X12_160 (by decide) (Nat.le_of_ble_eq_true rfl) ?_
            refine k_within (by constructor <;> omega) (by constructor <;> omega) (by constructor <;> omega) ?_
            refine e_ifb_ne q_X12_readClause_114 (fun c114 => ?_) (fun c114 => ?_)
            · skip
              refine e_aload_n q_X12_readClause_126 (by decide) rfl ?_
              refine e_bipush q_X12_readClause_127 (by decide) ?_
              refine iv_X12_readByte q_X12_readClause_129 lk_X12_236 (by decide) (a39 hB) (Nat.le_of_ble_eq_true rfl) ?_
              refine k_readByte (p := nE T L (cQ T L p + 1)) htp h19 (by omega) h20 (fun h45 N2 hf2 g20 g19 => ?_) (fun h45 N2 hf2 g19 g20 => ?_)
              · skip
                refine e_aload_n q_X12_readClause_132 (by decide) rfl ?_
                refine i_getI (k' := 20) q_X12_readClause_133 fl_X12_211 (a39 hB) rfl rfl rfl (by first | exact g20) ?_
                refine e_if_lt q_X12_readClause_136 (by constructor <;> omega) (fun c136 => ?_) (fun c136 => ?_)
                · skip
                  exact absurd c136 (by omega)
                · skip
                  refine e_return q_X12_readClause_139 rfl ?_
                  exact hF _ _ (Or.inr (Or.inr (Or.inr (Or.inr (Or.inl ⟨by omega, hok, by omega, h45, rfl⟩))))) (hF1.tr hf2).toC g20
              · skip
                have hF2 : fr39 N N2 := hF1.tr hf2
                have htp2 := hF2.tp ht
                have hb3 := hb2.2 h45.1
                refine e_aload_n q_X12_readClause_132 (by decide) rfl ?_
                refine i_getI (k' := 20) q_X12_readClause_133 fl_X12_211 (a39 hB) rfl rfl rfl (by first | exact g20) ?_
                refine e_if_lt q_X12_readClause_136 (by constructor <;> omega) (fun c136 => ?_) (fun c136 => ?_)
                · skip
                  refine e_aload_n q_X12_readClause_140 (by decide) rfl ?_
                  refine iv_X12_readNumber q_X12_readClause_141 lk_X12_230 (by decide) (a39 hB) (Nat.le_of_ble_eq_true rfl) ?_
                  refine k_readNumber (p := spE T L (nE T L (cQ T L p + 1)) + 1) htp2 g19 (by omega) g20 (fun hok2 N3 hf3 k20 k19 => ?_) (fun hok2 N3 hf3 k19 k20 k21 k22 => ?_)
                  · skip
                    have hF3 : fr39 N N3 := hF2.tr hf3
                    refine e_aload_n q_X12_readClause_144 (by decide) rfl ?_
                    refine i_getI (k' := 20) q_X12_readClause_145 fl_X12_211 (a39 hB) rfl rfl rfl k20 ?_
                    refine e_if_ge q_X12_readClause_148 (by constructor <;> omega) (fun c148 => ?_) (fun c148 => ?_)
                    · skip
                      refine e_aload_n q_X12_readClause_172 (by decide) rfl ?_
                      refine i_getC (r := 54) q_X12_readClause_173 fl_X12_58 (a39 hB) rfl (by decide) ?_
                      refine e_iload_n q_X12_readClause_176 (by decide) rfl ?_
                      refine e_iload_n q_X12_readClause_177 (by decide) rfl ?_
                      refine i_iast q_X12_readClause_178 (a54 hB) (cref0 (by decide)) (by omega) (by omega) (by decide) ?_
                      refine e_aload_n q_X12_readClause_179 (by decide) rfl ?_
                      refine i_getC (r := 55) q_X12_readClause_180 fl_X12_61 (a39 hB) rfl (by decide) ?_
                      refine e_iload_n q_X12_readClause_183 (by decide) rfl ?_
                      refine e_aload_n q_X12_readClause_184 (by decide) rfl ?_
                      refine i_getI (k' := 21) q_X12_readClause_185 fl_X12_220 (a39 hB) rfl rfl rfl rfl ?_
                      refine i_iast q_X12_readClause_188 (a55 hB) (cref0 (by decide)) (by omega) (by omega) (by decide) ?_
                      refine e_return q_X12_readClause_189 rfl ?_
                      first
                      | exact absurd c148 (by omega)
                      | (refine hF _ _ (Or.inr (Or.inr (Or.inr (Or.inr (Or.inr (Or.inl ⟨by omega, hok, by omega, h45, hok2, rfl⟩)))))) ((hF3.toC.mu (by omega)).mu (by omega)) ?_
                         · rw [mup_cell (by decide), mup_cell (by decide)]; exact k20)
                      | (refine hF _ _ (Or.inr (Or.inr (Or.inr (Or.inr (Or.inr (Or.inr ⟨by omega, hok, by omega, h45, hok2, c161, rfl⟩)))))) (((hF3.toC.mu (by omega)).mu (by omega)).mu (by omega)) ?_
                         · rw [mup_cell (by decide), mup_cell (by decide), mup_self])
                      | (refine hO (Or.inr ⟨by omega, hok, by omega, h45, hok2, c161⟩) _ ⟨(hF3.toC.mu (by omega)).mu (by omega), fun q => absurd q (by omega), fun _ => ⟨?_, fun x hx => ⟨?_, ?_⟩, ?_, ?_⟩, ?_, ?_⟩
                         · rw [mup_cell (by decide), mup_cell (by decide)]; exact hF3 39 25 (by omega)
                         · rw [mup_cell (by decide), mup_slot hx]; exact hF3 54 x (by omega)
                         · rw [mup_slot hx, mup_cell (by decide)]; exact hF3 55 x (by omega)
                         · rw [mup_cell (by decide), mup_self]; rfl
                         · rw [mup_self, mup_cell (by decide)]; exact k21
                         · rw [mup_cell (by decide), mup_cell (by decide), k19]; unfold clP; rw [if_neg (by omega)]
                         · rw [mup_cell (by decide), mup_cell (by decide)]; exact k20)
                    · skip
                      exact absurd c148 (by omega)
                  · skip
                    have hF3 : fr39 N N3 := hF2.tr hf3
                    have hvb2 := nV_b (T := T) (p := spE T L (nE T L (cQ T L p + 1)) + 1) (by omega) (by omega) hL2.2
                    refine e_aload_n q_X12_readClause_144 (by decide) rfl ?_
                    refine i_getI (k' := 20) q_X12_readClause_145 fl_X12_211 (a39 hB) rfl rfl rfl k20 ?_
                    refine e_if_ge q_X12_readClause_148 (by constructor <;> omega) (fun c148 => ?_) (fun c148 => ?_)
                    · skip
                      refine e_aload_n q_X12_readClause_172 (by decide) rfl ?_
                      refine i_getC (r := 54) q_X12_readClause_173 fl_X12_58 (a39 hB) rfl (by decide) ?_
                      refine e_iload_n q_X12_readClause_176 (by decide) rfl ?_
                      refine e_iload_n q_X12_readClause_177 (by decide) rfl ?_
                      refine i_iast q_X12_readClause_178 (a54 hB) (cref0 (by decide)) (by omega) (by omega) (by decide) ?_
                      refine e_aload_n q_X12_readClause_179 (by decide) rfl ?_
                      refine i_getC (r := 55) q_X12_readClause_180 fl_X12_61 (a39 hB) rfl (by decide) ?_
                      refine e_iload_n q_X12_readClause_183 (by decide) rfl ?_
                      refine e_aload_n q_X12_readClause_184 (by decide) rfl ?_
                      refine i_getI (k' := 21) q_X12_readClause_185 fl_X12_220 (a39 hB) rfl rfl rfl rfl ?_
                      refine i_iast q_X12_readClause_188 (a55 hB) (cref0 (by decide)) (by omega) (by omega) (by decide) ?_
                      refine e_return q_X12_readClause_189 rfl ?_
                      first
                      | exact absurd c148 (by omega)
                      | (refine hF _ _ (Or.inr (Or.inr (Or.inr (Or.inr (Or.inr (Or.inl ⟨by omega, hok, by omega, h45, hok2, rfl⟩)))))) ((hF3.toC.mu (by omega)).mu (by omega)) ?_
                         · rw [mup_cell (by decide), mup_cell (by decide)]; exact k20)
                      | (refine hF _ _ (Or.inr (Or.inr (Or.inr (Or.inr (Or.inr (Or.inr ⟨by omega, hok, by omega, h45, hok2, c161, rfl⟩)))))) (((hF3.toC.mu (by omega)).mu (by omega)).mu (by omega)) ?_
                         · rw [mup_cell (by decide), mup_cell (by decide), mup_self])
                      | (refine hO (Or.inr ⟨by omega, hok, by omega, h45, hok2, c161⟩) _ ⟨(hF3.toC.mu (by omega)).mu (by omega), fun q => absurd q (by omega), fun _ => ⟨?_, fun x hx => ⟨?_, ?_⟩, ?_, ?_⟩, ?_, ?_⟩
                         · rw [mup_cell (by decide), mup_cell (by decide)]; exact hF3 39 25 (by omega)
                         · rw [mup_cell (by decide), mup_slot hx]; exact hF3 54 x (by omega)
                         · rw [mup_slot hx, mup_cell (by decide)]; exact hF3 55 x (by omega)
                         · rw [mup_cell (by decide), mup_self]; rfl
                         · rw [mup_self, mup_cell (by decide)]; exact k21
                         · rw [mup_cell (by decide), mup_cell (by decide), k19]; unfold clP; rw [if_neg (by omega)]
                         · rw [mup_cell (by decide), mup_cell (by decide)]; exact k20)
                    · skip
                      refine e_aload_n q_X12_readClause_151 (by decide) rfl ?_
                      refine i_getI (k' := 21) q_X12_readClause_152 fl_X12_220 (a39 hB) rfl rfl rfl k21 ?_
                      refine e_iload_n q_X12_readClause_155 (by decide) rfl ?_
                      refine e_bipush q_X12_readClause_156 (by decide) ?_
                      refine iv_X12_within q_X12_readClause_158 lk_X12_160 (by decide) (Nat.le_of_ble_eq_true rfl) ?_
                      refine k_within (by constructor <;> omega) (by constructor <;> omega) (by constructor <;> omega) ?_
                      refine e_ifb_ne q_X12_readClause_161 (fun c161 => ?_) (fun c161 => ?_)
                      · skip
                        refine e_aload_n q_X12_readClause_172 (by decide) rfl ?_
                        refine i_getC (r := 54) q_X12_readClause_173 fl_X12_58 (a39 hB) rfl (by decide) ?_
                        refine e_iload_n q_X12_readClause_176 (by decide) rfl ?_
                        refine e_iload_n q_X12_readClause_177 (by decide) rfl ?_
                        refine i_iast q_X12_readClause_178 (a54 hB) (cref0 (by decide)) (by omega) (by omega) (by decide) ?_
                        refine e_aload_n q_X12_readClause_179 (by decide) rfl ?_
                        refine i_getC (r := 55) q_X12_readClause_180 fl_X12_61 (a39 hB) rfl (by decide) ?_
                        refine e_iload_n q_X12_readClause_183 (by decide) rfl ?_
                        refine e_aload_n q_X12_readClause_184 (by decide) rfl ?_
                        refine i_getI (k' := 21) q_X12_readClause_185 fl_X12_220 (a39 hB) rfl rfl rfl rfl ?_
                        refine i_iast q_X12_readClause_188 (a55 hB) (cref0 (by decide)) (by omega) (by omega) (by decide) ?_
                        refine e_return q_X12_readClause_189 rfl ?_
                        first
                        | exact absurd c148 (by omega)
                        | (refine hF _ _ (Or.inr (Or.inr (Or.inr (Or.inr (Or.inr (Or.inl ⟨by omega, hok, by omega, h45, hok2, rfl⟩)))))) ((hF3.toC.mu (by omega)).mu (by omega)) ?_
                           · rw [mup_cell (by decide), mup_cell (by decide)]; exact k20)
                        | (refine hF _ _ (Or.inr (Or.inr (Or.inr (Or.inr (Or.inr (Or.inr ⟨by omega, hok, by omega, h45, hok2, c161, rfl⟩)))))) (((hF3.toC.mu (by omega)).mu (by omega)).mu (by omega)) ?_
                           · rw [mup_cell (by decide), mup_cell (by decide), mup_self])
                        | (refine hO (Or.inr ⟨by omega, hok, by omega, h45, hok2, c161⟩) _ ⟨(hF3.toC.mu (by omega)).mu (by omega), fun q => absurd q (by omega), fun _ => ⟨?_, fun x hx => ⟨?_, ?_⟩, ?_, ?_⟩, ?_, ?_⟩
                           · rw [mup_cell (by decide), mup_cell (by decide)]; exact hF3 39 25 (by omega)
                           · rw [mup_cell (by decide), mup_slot hx]; exact hF3 54 x (by omega)
                           · rw [mup_slot hx, mup_cell (by decide)]; exact hF3 55 x (by omega)
                           · rw [mup_cell (by decide), mup_self]; rfl
                           · rw [mup_self, mup_cell (by decide)]; exact k21
                           · rw [mup_cell (by decide), mup_cell (by decide), k19]; unfold clP; rw [if_neg (by omega)]
                           · rw [mup_cell (by decide), mup_cell (by decide)]; exact k20)
                      · skip
                        refine e_aload_n q_X12_readClause_164 (by decide) rfl ?_
                        refine e_aload_n q_X12_readClause_165 (by decide) rfl ?_
                        refine i_getI (k' := 22) q_X12_readClause_166 fl_X12_217 (a39 hB) rfl rfl rfl k22 ?_
                        refine iv_X12_faultAt q_X12_readClause_169 lk_X12_223 (by decide) (a39 hB) (Nat.le_of_ble_eq_true rfl) ?_
                        refine k_faultAt hB k20 ?_
                        refine e_aload_n q_X12_readClause_172 (by decide) rfl ?_
                        refine i_getC (r := 54) q_X12_readClause_173 fl_X12_58 (a39 hB) rfl (by decide) ?_
                        refine e_iload_n q_X12_readClause_176 (by decide) rfl ?_
                        refine e_iload_n q_X12_readClause_177 (by decide) rfl ?_
                        refine i_iast q_X12_readClause_178 (a54 hB) (cref0 (by decide)) (by omega) (by omega) (by decide) ?_
                        refine e_aload_n q_X12_readClause_179 (by decide) rfl ?_
                        refine i_getC (r := 55) q_X12_readClause_180 fl_X12_61 (a39 hB) rfl (by decide) ?_
                        refine e_iload_n q_X12_readClause_183 (by decide) rfl ?_
                        refine e_aload_n q_X12_readClause_184 (by decide) rfl ?_
                        refine i_getI (k' := 21) q_X12_readClause_185 fl_X12_220 (a39 hB) rfl rfl rfl rfl ?_
                        refine i_iast q_X12_readClause_188 (a55 hB) (cref0 (by decide)) (by omega) (by omega) (by decide) ?_
                        refine e_return q_X12_readClause_189 rfl ?_
                        first
                        | exact absurd c148 (by omega)
                        | (refine hF _ _ (Or.inr (Or.inr (Or.inr (Or.inr (Or.inr (Or.inl ⟨by omega, hok, by omega, h45, hok2, rfl⟩)))))) ((hF3.toC.mu (by omega)).mu (by omega)) ?_
                           · rw [mup_cell (by decide), mup_cell (by decide)]; exact k20)
                        | (refine hF _ _ (Or.inr (Or.inr (Or.inr (Or.inr (Or.inr (Or.inr ⟨by omega, hok, by omega, h45, hok2, c161, rfl⟩)))))) (((hF3.toC.mu (by omega)).mu (by omega)).mu (by omega)) ?_
                           · rw [mup_cell (by decide), mup_cell (by decide), mup_self])
                        | (refine hO (Or.inr ⟨by omega, hok, by omega, h45, hok2, c161⟩) _ ⟨(hF3.toC.mu (by omega)).mu (by omega), fun q => absurd q (by omega), fun _ => ⟨?_, fun x hx => ⟨?_, ?_⟩, ?_, ?_⟩, ?_, ?_⟩
                           · rw [mup_cell (by decide), mup_cell (by decide)]; exact hF3 39 25 (by omega)
                           · rw [mup_cell (by decide), mup_slot hx]; exact hF3 54 x (by omega)
                           · rw [mup_slot hx, mup_cell (by decide)]; exact hF3 55 x (by omega)
                           · rw [mup_cell (by decide), mup_self]; rfl
                           · rw [mup_self, mup_cell (by decide)]; exact k21
                           · rw [mup_cell (by decide), mup_cell (by decide), k19]; unfold clP; rw [if_neg (by omega)]
                           · rw [mup_cell (by decide), mup_cell (by decide)]; exact k20)
                · skip
                  exact absurd c136 (by omega)
            · skip
              refine e_aload_n q_X12_readClause_117 (by decide) rfl ?_
              refine e_aload_n q_X12_readClause_118 (by decide) rfl ?_
              refine i_getI (k' := 22) q_X12_readClause_119 fl_X12_217 (a39 hB) rfl rfl rfl h22 ?_
              refine iv_X12_faultAt q_X12_readClause_122 lk_X12_223 (by decide) (a39 hB) (Nat.le_of_ble_eq_true rfl) ?_
              refine k_faultAt hB h20 ?_
              refine e_return q_X12_readClause_125 rfl ?_
              exact hF _ _ (Or.inr (Or.inr (Or.inr (Or.inl ⟨by omega, hok, fun q => c114 (by omega), rfl⟩)))) (hF1.toC.mu (by omega)) (mup_self _ _ _ _)
          · skip
            refine e_aload_n q_X12_readClause_72 (by decide) rfl ?_
            refine i_getI (k' := 21) q_X12_readClause_73 fl_X12_220 (a39 hB) rfl rfl rfl h21 ?_
            refine e_iconst q_X12_readClause_76 ?_
            refine e_bipush q_X12_readClause_77 (by decide) ?_
            refine iv_X12_within q_X12_readClause_79 lk_X12_160 (by decide) (Nat.le_of_ble_eq_true rfl) ?_
            refine k_within (by constructor <;> omega) (by constructor <;> omega) (by constructor <;> omega) ?_
            refine e_ifb_ne q_X12_readClause_82 (fun c82 => ?_) (fun c82 => ?_)
            · skip
              refine e_aload_n q_X12_readClause_93 (by decide) rfl ?_
              refine e_aload_n q_X12_readClause_94 (by decide) rfl ?_
              refine i_getI (k' := 21) q_X12_readClause_95 fl_X12_220 (a39 hB) rfl rfl rfl (by first | exact h21 | exact (mup_slot (by decide)).trans h21) ?_
              refine i_putI (k' := 25) q_X12_readClause_98 fl_X12_233 (Or.inl rfl) (a39 hB) rfl rfl rfl rfl rfl ?_
              refine e_return q_X12_readClause_101 rfl ?_
              first
              | (refine hO (Or.inl ⟨by omega, hok, c82⟩) _ ⟨hF1.toC.mu (by omega), fun _ => ⟨?_, ?_, ?_⟩, fun q => absurd (by omega) q, ?_, ?_⟩
                 · rw [mup_self]; rfl
                 · rw [mup_fn (by decide)]; exact funext fun x => hF1 54 x (by omega)
                 · rw [mup_fn (by decide)]; exact funext fun x => hF1 55 x (by omega)
                 · rw [mup_slot (by decide), h19]; unfold clP; rw [if_pos (by omega)]
                 · rw [mup_slot (by decide)]; exact h20)
              | (refine hF _ _ (Or.inr (Or.inr (Or.inl ⟨by omega, hok, c82, rfl⟩))) ((hF1.toC.mu (by omega)).mu (by omega)) ?_
                 · rw [mup_slot (by decide), mup_self])
            · skip
              refine e_aload_n q_X12_readClause_85 (by decide) rfl ?_
              refine e_aload_n q_X12_readClause_86 (by decide) rfl ?_
              refine i_getI (k' := 22) q_X12_readClause_87 fl_X12_217 (a39 hB) rfl rfl rfl h22 ?_
              refine iv_X12_faultAt q_X12_readClause_90 lk_X12_223 (by decide) (a39 hB) (Nat.le_of_ble_eq_true rfl) ?_
              refine k_faultAt hB h20 ?_
              refine e_aload_n q_X12_readClause_93 (by decide) rfl ?_
              refine e_aload_n q_X12_readClause_94 (by decide) rfl ?_
              refine i_getI (k' := 21) q_X12_readClause_95 fl_X12_220 (a39 hB) rfl rfl rfl (by first | exact h21 | exact (mup_slot (by decide)).trans h21) ?_
              refine i_putI (k' := 25) q_X12_readClause_98 fl_X12_233 (Or.inl rfl) (a39 hB) rfl rfl rfl rfl rfl ?_
              refine e_return q_X12_readClause_101 rfl ?_
              first
              | (refine hO (Or.inl ⟨by omega, hok, c82⟩) _ ⟨hF1.toC.mu (by omega), fun _ => ⟨?_, ?_, ?_⟩, fun q => absurd (by omega) q, ?_, ?_⟩
                 · rw [mup_self]; rfl
                 · rw [mup_fn (by decide)]; exact funext fun x => hF1 54 x (by omega)
                 · rw [mup_fn (by decide)]; exact funext fun x => hF1 55 x (by omega)
                 · rw [mup_slot (by decide), h19]; unfold clP; rw [if_pos (by omega)]
                 · rw [mup_slot (by decide)]; exact h20)
              | (refine hF _ _ (Or.inr (Or.inr (Or.inl ⟨by omega, hok, c82, rfl⟩))) ((hF1.toC.mu (by omega)).mu (by omega)) ?_
                 · rw [mup_slot (by decide), mup_self])
        · skip
          exact absurd c63 (by omega)
    · skip
      refine e_aload_n q_X12_readClause_36 (by decide) rfl ?_
      refine e_aload_n q_X12_readClause_37 (by decide) rfl ?_
      refine i_getI (k' := 19) q_X12_readClause_38 fl_X12_208 (a39 hB) rfl rfl rfl (mup_self _ _ _ _) ?_
      refine iv_X12_faultAt q_X12_readClause_41 lk_X12_223 (by decide) (a39 hB) (Nat.le_of_ble_eq_true rfl) ?_
      refine k_faultAt hB ((mup_slot (by decide)).trans hw) ?_
      refine e_return q_X12_readClause_44 rfl ?_
      exact hF _ _ (Or.inl ⟨by omega, rfl⟩) ((fr39.rf.mu (by omega)).mu (by omega)).toC (mup_self _ _ _ _)
end LT6
