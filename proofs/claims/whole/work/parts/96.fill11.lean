/-! making whole, 11 (printed by wip/whole/gen/f11.py) -/
section FI11
variable {X : zX} {s : zK} {N : zN} {σ : zS} {fa sa : Int → Int} {Q K : Option Value → zS → Prop} {c : Int}
def bsN (N N1 : zN) : Prop := (∀ c0 : Nat, c0 ≠ 68 → c0 ≠ 69 → N1 c0 = N c0) ∧ ∀ c0 x, zr (N1 c0 x)
theorem bsN.u {N N1 : zN} (h : bsN N N1) {c0 : Nat} {x v : Int} (hc : c0 = 68 ∨ c0 = 69) (hv : zr v) : bsN N (mup N1 c0 x v) := ⟨fun c h1 h2 => by rw [mup_fn (by omega)]; exact h.1 c h1 h2, zr_mup h.2 hv⟩
theorem goodOn_e {rm : Int → Int} {ri : Int → Prop} {po : Nat → Prop} {K : Nat} {g : Int} {S : Nat → Prop} (f f' : Nat → Int) (he : ∀ k, k < K → f k = f' k) (h : goodOn rm ri po K g S f) : goodOn rm ri po K g S f' := by
  refine ⟨fun k hk hs => by rw [← he k hk]; exact h.1 k hk hs, fun x h0 h1 hx => ?_⟩
  obtain ⟨k, k1, k2, k3⟩ := hx
  exact okP_c (fun k hk => by rw [he k hk]) (h.2 x h0 h1 ⟨k, k1, k2, (he k k1).trans k3⟩)
theorem cst_q {a : Nat → Int → Int} {f : Nat → Int} {d : Nat} {C x : Int} (h : C = cst a f d) (hx : f d = x) : cst a f (d + 1) = C + a d x := by rw [cst_s, hx, h]
set_option maxRecDepth 20000 in
set_option maxHeartbeats 2000000 in
theorem k_seek (hB : zB0 s) {a : Nat → Int → Int} {rm : Int → Int} {ri : Int → Prop} {po : Nat → Prop} {K : Nat} (hK : N 39 41 = K) (hK6 : K ≤ 6) (hG : 0 ≤ N 39 29 ∧ N 39 29 ≤ 8) (hri : ∀ g : Int, 0 ≤ g → g < N 39 29 → N 72 g = bi (ri g)) (hhad : ∀ g : Int, 0 ≤ g → g < N 39 29 → 0 ≤ N 71 g ∧ N 71 g ≤ 48) (hrm : ∀ g : Int, 0 ≤ g → g < N 39 29 → rm g = 10 - N 71 g) (hwh : ∀ k : Nat, k < K → 0 ≤ N 67 k ∧ N 67 k < 48) (hpo : ∀ k : Nat, k < K → (po k ↔ N 45 (N 67 k) ≠ 0)) (ha : ∀ (k : Nat) (g : Int), k < K → 0 ≤ g → g < N 39 29 → 0 ≤ a k g ∧ a k g ≤ 104) (hask : ∀ k : Nat, k < K → ∀ g : Int, 0 ≤ g → g < N 39 29 → N 70 (8 * (k : Int) + g) = a k g) : ∀ n d : Nat, d + n + 1 = K → ∀ (N1 : zN) (L cost : Int) (u4 : Value), bsN N N1 → (∀ k : Nat, k < d → 0 ≤ N1 68 k ∧ N1 68 k < N 39 29) → N1 68 d = -1 → cost = cst a (fun k : Nat => N1 68 k) d → 0 ≤ L ∧ L ≤ 100000 → (∀ (N2 : zN) (L2 : Int) (u : Value), bsN N N2 → (∀ k : Nat, k < d → N2 68 k = N1 68 k) → fnd a (goodOn rm ri po K (N 39 29) (tb (2 ^ K - 1))) K (fun k : Nat => N1 68 k) d (N 39 29) L (fun k : Nat => N1 69 k) L2 (fun k : Nat => N2 69 k) → 0 ≤ L2 ∧ L2 ≤ 100000 → zE X m_X12_findBest 14 [.ref 39, vi L2, vi ((d : Int) - 1), vi cost, u] [] (zI s N2) Q) → zE X m_X12_findBest 14 [.ref 39, vi L, vi d, vi cost, u4] [] (zI s N1) Q := by
  have hgG : ∀ f, (goodOn rm ri po K (N 39 29) (tb (2 ^ K - 1))) f → ∀ k, k < K → f k < N 39 29 := fun f hf k hk => (hf.1 k hk (tb_all.mpr hk)).2
  have hg8 : ∀ f, (goodOn rm ri po K (N 39 29) (tb (2 ^ K - 1))) f → ∀ k, k < K → 0 ≤ f k ∧ f k < 8 := fun f hf k hk => by have := hf.1 k hk (tb_all.mpr hk); omega
  have hga : ∀ f, (goodOn rm ri po K (N 39 29) (tb (2 ^ K - 1))) f → ∀ k, k < K → 0 ≤ a k (f k) := fun f hf k hk => (ha k _ hk (hg8 f hf k hk).1 (hgG f hf k hk)).1
  intro n
  induction n with
  | zero =>
    intro d hdK N1 L cost u4 hb hpre hm1 hco hL hcont
    refine z_for (P := fun g => ∀ (N2 : zN) (L2 C2 : Int) (u : Value), (bsN N N2 ∧ (∀ k : Nat, k < d → N2 68 k = N1 68 k) ∧ N2 68 d = (g : Int) - 1 ∧ C2 = cost + (if g = 0 then 0 else a d ((g : Int) - 1)) ∧ (0 ≤ L2 ∧ L2 ≤ 100000) ∧ fnd a (goodOn rm ri po K (N 39 29) (tb (2 ^ K - 1))) K (fun k : Nat => N1 68 k) d (g : Int) L (fun k : Nat => N1 69 k) L2 (fun k : Nat => N2 69 k)) → zE X m_X12_findBest 14 [.ref 39, vi L2, vi d, vi C2, u] [] (zI s N2) Q) (N 39 29).toNat (fun g hg ihg N2 L2 C2 u hv => ?_) (fun N2 L2 C2 u hv => ?_) N1 L cost u4 ⟨hb, fun _ _ => rfl, by rw [hm1]; rfl, by rw [if_pos rfl, Int.add_zero], hL, fnd_0 hg8 (by omega)⟩
    · skip
      obtain ⟨hb2, hp2, hd2, hC2, hL2, hfn⟩ := hv
      have e41 : N2 39 41 = K := (congrFun (hb2.1 39 (by decide) (by decide)) 41).trans hK
      have e29 : N2 39 29 = N 39 29 := congrFun (hb2.1 39 (by decide) (by decide)) 29
      have hR2 := hb2.2
      have hask2 : ∀ x : Int, 0 ≤ x → x < N 39 29 → N2 70 (8 * (d : Int) + x) = a d x := fun x h1 h2 => (congrFun (hb2.1 70 (by decide) (by decide)) _).trans (hask d (by omega) x h1 h2)
      have hco2 := cst_b (a := a) (f := fun k : Nat => N1 68 k) d (fun k hk => ha k _ (by omega) (hpre k hk).1 (hpre k hk).2)
      rw [← hco] at hco2
      have h3b : bsN N (mup N2 68 (d : Int) ((g : Int) - 1 + 1)) := hb2.u (Or.inl rfl) (by constructor <;> omega)
      have h3p : ∀ k : Nat, k < d → (mup N2 68 (d : Int) ((g : Int) - 1 + 1)) 68 k = N1 68 k := fun k hk => by rw [mup_slot (by omega)]; exact hp2 k hk
      have h369 : (mup N2 68 (d : Int) ((g : Int) - 1 + 1)) 69 = N2 69 := mup_fn (by decide)
      have h3d : (mup N2 68 (d : Int) ((g : Int) - 1 + 1)) 68 (d : Int) = (g : Int) := by rw [mup_self]; omega
      have hadg := ha d (g : Int) (by omega) (by omega) (by omega)
      have hask3 : N2 70 (8 * (d : Int) + ((g : Int) - 1 + 1)) = a d (g : Int) := by rw [show (g : Int) - 1 + 1 = (g : Int) by omega]; exact hask2 g (by omega) (by omega)
      have hcg : cst a (fun k : Nat => (mup N2 68 (d : Int) ((g : Int) - 1 + 1)) 68 k) (d + 1) = cost + a d (g : Int) := cst_q (hco.trans (cst_e (fun k hk => (h3p k hk).symm))) h3d
      have key : zE X m_X12_findBest 46 [.ref 39, vi L2, vi d, vi cost, u] [] (zI s N2) Q := by
        refine e_aload_n q_X12_findBest_46 (by decide) rfl ?_
        refine i_getC (r := 68) q_X12_findBest_47 fl_X12_100 (a39 hB) rfl (by decide) ?_
        refine e_iload_n q_X12_findBest_50 (by decide) rfl ?_
        refine e_dup2 q_X12_findBest_51 rfl rfl ?_
        refine i_iald q_X12_findBest_52 (a68 hB) (cref0 (by decide)) (by first | omega | assumption) (by first | omega | assumption) (by decide) hd2 ?_
        refine e_iconst q_X12_findBest_53 ?_
        refine e_iadd q_X12_findBest_54 ?_
        refine i_iast q_X12_findBest_55 (a68 hB) (cref0 (by decide)) (by first | omega | assumption) (by first | omega | assumption) (by decide) ?_
        refine e_aload_n q_X12_findBest_56 (by decide) rfl ?_
        refine i_getC (r := 68) q_X12_findBest_57 fl_X12_100 (a39 hB) rfl (by decide) ?_
        refine e_iload_n q_X12_findBest_60 (by decide) rfl ?_
        refine i_iald q_X12_findBest_61 (a68 hB) (cref0 (by decide)) (by first | omega | assumption) (by first | omega | assumption) (by decide) (mup_self _ _ _ _) ?_
        refine e_aload_n q_X12_findBest_62 (by decide) rfl ?_
        refine i_getI (k' := 29) q_X12_findBest_63 fl_X12_248 (a39 hB) rfl rfl rfl ((mup_cell (by decide)).trans e29) ?_
        refine e_icmp_ne q_X12_findBest_66 (by constructor <;> omega) (by constructor <;> omega) (fun c66 => ?_) (fun c66 => ?_)
        · skip
          refine e_iload_n q_X12_findBest_75 (by decide) rfl ?_
          refine e_aload_n q_X12_findBest_76 (by decide) rfl ?_
          refine i_getC (r := 70) q_X12_findBest_77 fl_X12_106 (a39 hB) rfl (by decide) ?_
          refine e_bipush q_X12_findBest_80 (by decide) ?_
          refine e_iload_n q_X12_findBest_82 (by decide) rfl ?_
          refine e_imul q_X12_findBest_83 ?_
          refine e_aload_n q_X12_findBest_84 (by decide) rfl ?_
          refine i_getC (r := 68) q_X12_findBest_85 fl_X12_100 (a39 hB) rfl (by decide) ?_
          refine e_iload_n q_X12_findBest_88 (by decide) rfl ?_
          refine i_iald q_X12_findBest_89 (a68 hB) (cref0 (by decide)) (by first | omega | assumption) (by first | omega | assumption) (by decide) (mup_self _ _ _ _) ?_
          refine e_iadd q_X12_findBest_90 ?_
          refine i_iald q_X12_findBest_91 (a70 hB) (cref0 (by decide)) (by first | omega | assumption) (by first | omega | assumption) (by decide) ((mup_cell (by decide)).trans hask3) ?_
          refine e_iadd q_X12_findBest_92 ?_
          refine e_istore_n (ls' := [_, _, _, _, _]) q_X12_findBest_93 (by decide) rfl rfl ?_
          refine e_iload_n q_X12_findBest_94 (by decide) rfl ?_
          refine e_iload_n q_X12_findBest_95 (by decide) rfl ?_
          refine e_icmp_lt q_X12_findBest_96 (by constructor <;> omega) (by constructor <;> omega) (fun c96 => ?_) (fun c96 => ?_)
          · skip
            refine e_iload_n q_X12_findBest_102 (by decide) rfl ?_
            refine e_iconst q_X12_findBest_103 ?_
            refine e_iadd q_X12_findBest_104 ?_
            refine e_aload_n q_X12_findBest_105 (by decide) rfl ?_
            refine i_getI (k' := 41) q_X12_findBest_106 fl_X12_292 (a39 hB) rfl rfl rfl ((mup_cell (by decide)).trans e41) ?_
            refine e_icmp_ge q_X12_findBest_109 (by constructor <;> omega) (by constructor <;> omega) (fun c109 => ?_) (fun c109 => ?_)
            · skip
              have e3G : (mup N2 68 (d : Int) ((g : Int) - 1 + 1)) 39 29 = N 39 29 := (mup_cell (by decide)).trans e29
              refine e_aload_n q_X12_findBest_125 (by decide) rfl ?_
              refine iv_X12_isGood q_X12_findBest_126 lk_X12_298 (by decide) (a39 hB) (Nat.le_of_ble_eq_true rfl) ?_
              refine k_isGood (rm := rm) (ri := ri) (po := po) (K := K) hB h3b.2 ((mup_cell (by decide)).trans e41) hK6 (by rw [e3G]; exact hG) (fun x h1 h2 => by rw [h3b.1 72 (by decide) (by decide)]; rw [e3G] at h2; exact hri x h1 h2) (fun x h1 h2 => by rw [h3b.1 71 (by decide) (by decide)]; rw [e3G] at h2; exact hhad x h1 h2) (fun x h1 h2 => by rw [h3b.1 71 (by decide) (by decide)]; rw [e3G] at h2; exact hrm x h1 h2) (fun k hk => by rw [h3b.1 67 (by decide) (by decide)]; exact hwh k hk) (fun k hk => by rw [h3b.1 67 (by decide) (by decide), h3b.1 45 (by decide) (by decide)]; exact hpo k hk) (fun k hk => by
                  rw [e3G]
                  by_cases hkd : k = d
                  · rw [hkd, h3d]; omega
                  · rw [h3p k (by omega)]; exact hpre k (by omega)) ?_
              refine e_ifb_eq q_X12_findBest_129 (fun c129 => ?_) (fun c129 => ?_)
              · skip
                refine ihg _ _ _ _ ⟨h3b, h3p, by rw [h3d]; omega, by rw [if_neg (by omega), show ((g + 1 : Nat) : Int) - 1 = (g : Int) by omega], hL2, ?_⟩
                refine fnd_s hK6 hg8 (by omega) hfn (Or.inl ⟨rfl, fun k _ => by rw [h369], fun f hf h1 h2 => ?_⟩) (fun f f' he => goodOn_e f f' he)
                refine absurd (goodOn_e f (fun k : Nat => (mup N2 68 (d : Int) ((g : Int) - 1 + 1)) 68 k) (fun k hk => ?_) hf) (by rw [← e3G]; exact c129)
                show f k = (mup N2 68 (d : Int) ((g : Int) - 1 + 1)) 68 (k : Int)
                by_cases hkd : k = d
                · rw [hkd, h3d, h2]
                · rw [h3p k (by omega), h1 k (by omega)]
              · skip
                have hgood : (goodOn rm ri po K (N 39 29) (tb (2 ^ K - 1))) (fun k : Nat => (mup N2 68 (d : Int) ((g : Int) - 1 + 1)) 68 k) := by rw [← e3G]; exact c129
                refine e_iload_n q_X12_findBest_132 (by decide) rfl ?_
                refine e_istore_n (ls' := [_, _, _, _, _]) q_X12_findBest_133 (by decide) rfl rfl ?_
                refine e_iconst q_X12_findBest_134 ?_
                refine e_istore (ls' := [_, _, _, _, _]) q_X12_findBest_135 (by decide) rfl rfl ?_
                refine zEe (ls := [.ref 39, vi (cost + a d (g : Int)), vi d, vi (cost + a d (g : Int)), vi ((0 : Nat) : Int)]) (σ := zI s (mup N2 68 (d : Int) ((g : Int) - 1 + 1))) ?_ rfl rfl
                refine z_for (P := fun j => ∀ (N5 : zN), ((∀ c0 : Nat, c0 ≠ 69 → N5 c0 = (mup N2 68 (d : Int) ((g : Int) - 1 + 1)) c0) ∧ (∀ k : Nat, k < j → N5 69 k = (mup N2 68 (d : Int) ((g : Int) - 1 + 1)) 68 k) ∧ ∀ c0 x, zr (N5 c0 x)) → zE X m_X12_findBest 137 [.ref 39, vi (cost + a d (g : Int)), vi d, vi (cost + a d (g : Int)), vi (j : Int)] [] (zI s N5) Q) K (fun j hij ihj N5 hvj => ?_) (fun N5 hvj => ?_) (mup N2 68 (d : Int) ((g : Int) - 1 + 1)) ⟨fun _ _ => rfl, fun k hk => by omega, h3b.2⟩
                · skip
                  refine e_iload q_X12_findBest_137 (by decide) rfl ?_
                  refine e_aload_n q_X12_findBest_139 (by decide) rfl ?_
                  refine i_getI (k' := 41) q_X12_findBest_140 fl_X12_292 (a39 hB) rfl rfl rfl ((congrFun (hvj.1 39 (by decide)) 41).trans ((mup_cell (by decide)).trans e41)) ?_
                  refine e_icmp_ge q_X12_findBest_143 (by constructor <;> omega) (by constructor <;> omega) (fun c143 => ?_) (fun c143 => ?_)
                  · skip
                    exact absurd c143 (by omega)
                  · skip
                    refine e_aload_n q_X12_findBest_146 (by decide) rfl ?_
                    refine i_getC (r := 69) q_X12_findBest_147 fl_X12_103 (a39 hB) rfl (by decide) ?_
                    refine e_iload q_X12_findBest_150 (by decide) rfl ?_
                    refine e_aload_n q_X12_findBest_152 (by decide) rfl ?_
                    refine i_getC (r := 68) q_X12_findBest_153 fl_X12_100 (a39 hB) rfl (by decide) ?_
                    refine e_iload q_X12_findBest_156 (by decide) rfl ?_
                    refine i_iald q_X12_findBest_158 (a68 hB) (cref0 (by decide)) (by first | omega | assumption) (by first | omega | assumption) (by decide) (congrFun (hvj.1 68 (by decide)) _) ?_
                    refine i_iast q_X12_findBest_159 (a69 hB) (cref0 (by decide)) (by first | omega | assumption) (by first | omega | assumption) (by decide) ?_
                    refine e_iinc (ls' := [_, _, _, _, _]) q_X12_findBest_160 (by decide) rfl rfl rfl ?_
                    refine e_goto q_X12_findBest_163 ?_
                    refine ihj _ ⟨fun c0 h1 => ?_, fun k hk => ?_, zr_mup hvj.2.2 (h3b.2 _ _)⟩
                    · rw [mup_fn h1]; exact hvj.1 c0 h1
                    · by_cases hkj : k = j
                      · rw [hkj, mup_self]
                      · rw [mup_slot (by omega)]; exact hvj.2.1 k (by omega)
                · skip
                  refine e_iload q_X12_findBest_137 (by decide) rfl ?_
                  refine e_aload_n q_X12_findBest_139 (by decide) rfl ?_
                  refine i_getI (k' := 41) q_X12_findBest_140 fl_X12_292 (a39 hB) rfl rfl rfl ((congrFun (hvj.1 39 (by decide)) 41).trans ((mup_cell (by decide)).trans e41)) ?_
                  refine e_icmp_ge q_X12_findBest_143 (by constructor <;> omega) (by constructor <;> omega) (fun c143 => ?_) (fun c143 => ?_)
                  · skip
                    refine e_goto q_X12_findBest_166 ?_
                    have b5 : bsN N N5 := ⟨fun c0 h1 h2 => (hvj.1 c0 h2).trans (h3b.1 c0 h1 h2), hvj.2.2⟩
                    have e68 : N5 68 = (mup N2 68 (d : Int) ((g : Int) - 1 + 1)) 68 := hvj.1 68 (by decide)
                    refine ihg N5 (cost + a d (g : Int)) (cost + a d (g : Int)) _ ⟨b5, fun k hk => by rw [e68]; exact h3p k hk, by rw [e68, h3d]; omega, by rw [if_neg (by omega), show ((g + 1 : Nat) : Int) - 1 = (g : Int) by omega], by omega, ?_⟩
                    have hB5 : (goodOn rm ri po K (N 39 29) (tb (2 ^ K - 1))) (fun k : Nat => N5 69 k) := goodOn_e _ _ (fun k hk => (hvj.2.1 k hk).symm) hgood
                    have ec : cst a (fun k : Nat => N5 69 k) K = cost + a d (g : Int) := by
                      rw [← hcg, show d + 1 = K by omega]
                      exact cst_e (fun k hk => hvj.2.1 k hk)
                    refine fnd_s hK6 hg8 (by omega) hfn (Or.inr ⟨by omega, hB5, fun k hk => (hvj.2.1 k (by omega)).trans (h3p k hk), (hvj.2.1 d (by omega)).trans h3d, ec.symm, fun f hf h1 h2 => ?_⟩) (fun f f' he => goodOn_e f f' he)
                    have he : ∀ k, k < K → (fun k : Nat => N5 69 k) k = f k := fun k hk => by
                      show N5 69 (k : Int) = f k
                      rw [hvj.2.1 k hk]
                      by_cases hkd : k = d
                      · rw [hkd, h3d, h2]
                      · rw [h3p k (by omega), h1 k (by omega)]
                    unfold wF
                    rw [cst_e he, cod_e he]
                    exact Int.le_refl _
                  · skip
                    exact absurd (by omega) c143
            · skip
              exact absurd c109 (by omega)
          · skip
            refine e_goto q_X12_findBest_99 ?_
            refine ihg _ _ _ _ ⟨h3b, h3p, by rw [h3d]; omega, by rw [if_neg (by omega), show ((g + 1 : Nat) : Int) - 1 = (g : Int) by omega], hL2, ?_⟩
            exact fnd_s hK6 hg8 (by omega) hfn (Or.inl ⟨rfl, fun k _ => by rw [h369], fnd_x (q := fun k : Nat => (mup N2 68 (d : Int) ((g : Int) - 1 + 1)) 68 k) h3p h3d (by omega) hga (by rw [hcg]; omega)⟩) (fun f f' he => goodOn_e f f' he)
        · skip
          exact absurd c66 (by omega)
      refine e_iload_n q_X12_findBest_14 (by decide) rfl ?_
      refine e_if_lt q_X12_findBest_15 (by constructor <;> omega) (fun c15 => ?_) (fun c15 => ?_)
      · skip
        exact absurd c15 (by omega)
      · skip
        refine e_aload_n q_X12_findBest_18 (by decide) rfl ?_
        refine i_getC (r := 68) q_X12_findBest_19 fl_X12_100 (a39 hB) rfl (by decide) ?_
        refine e_iload_n q_X12_findBest_22 (by decide) rfl ?_
        refine i_iald q_X12_findBest_23 (a68 hB) (cref0 (by decide)) (by first | omega | assumption) (by first | omega | assumption) (by decide) hd2 ?_
        refine e_if_lt q_X12_findBest_24 (by constructor <;> omega) (fun c24 => ?_) (fun c24 => ?_)
        · skip
          first
          | (have e : C2 = cost := by rw [hC2, if_pos (by omega), Int.add_zero]
             rw [e]
             exact key)
          | (have e : C2 - a d ((g : Int) - 1) = cost := by rw [hC2, if_neg (by omega)]; omega
             rw [e]
             exact key)
        · skip
          refine e_iload_n q_X12_findBest_27 (by decide) rfl ?_
          refine e_aload_n q_X12_findBest_28 (by decide) rfl ?_
          refine i_getC (r := 70) q_X12_findBest_29 fl_X12_106 (a39 hB) rfl (by decide) ?_
          refine e_bipush q_X12_findBest_32 (by decide) ?_
          refine e_iload_n q_X12_findBest_34 (by decide) rfl ?_
          refine e_imul q_X12_findBest_35 ?_
          refine e_aload_n q_X12_findBest_36 (by decide) rfl ?_
          refine i_getC (r := 68) q_X12_findBest_37 fl_X12_100 (a39 hB) rfl (by decide) ?_
          refine e_iload_n q_X12_findBest_40 (by decide) rfl ?_
          refine i_iald q_X12_findBest_41 (a68 hB) (cref0 (by decide)) (by first | omega | assumption) (by first | omega | assumption) (by decide) hd2 ?_
          refine e_iadd q_X12_findBest_42 ?_
          refine i_iald q_X12_findBest_43 (a70 hB) (cref0 (by decide)) (by first | omega | assumption) (by first | omega | assumption) (by decide) (hask2 _ (by omega) (by omega)) ?_
          refine e_isub q_X12_findBest_44 ?_
          refine e_istore_n (ls' := [_, _, _, _, _]) q_X12_findBest_45 (by decide) rfl rfl ?_
          first
          | (have e : C2 = cost := by rw [hC2, if_pos (by omega), Int.add_zero]
             rw [e]
             exact key)
          | (have e : C2 - a d ((g : Int) - 1) = cost := by rw [hC2, if_neg (by omega)]; omega
             rw [e]
             exact key)
    · skip
      obtain ⟨hb2, hp2, hd2, hC2, hL2, hfn⟩ := hv
      have e41 : N2 39 41 = K := (congrFun (hb2.1 39 (by decide) (by decide)) 41).trans hK
      have e29 : N2 39 29 = N 39 29 := congrFun (hb2.1 39 (by decide) (by decide)) 29
      have hR2 := hb2.2
      have hask2 : ∀ x : Int, 0 ≤ x → x < N 39 29 → N2 70 (8 * (d : Int) + x) = a d x := fun x h1 h2 => (congrFun (hb2.1 70 (by decide) (by decide)) _).trans (hask d (by omega) x h1 h2)
      have hco2 := cst_b (a := a) (f := fun k : Nat => N1 68 k) d (fun k hk => ha k _ (by omega) (hpre k hk).1 (hpre k hk).2)
      rw [← hco] at hco2
      have hGn : (((N 39 29).toNat : Nat) : Int) = N 39 29 := by omega
      have h3b : bsN N (mup N2 68 (d : Int) (((N 39 29).toNat : Int) - 1 + 1)) := hb2.u (Or.inl rfl) (by constructor <;> omega)
      have h3p : ∀ k : Nat, k < d → (mup N2 68 (d : Int) (((N 39 29).toNat : Int) - 1 + 1)) 68 k = N1 68 k := fun k hk => by rw [mup_slot (by omega)]; exact hp2 k hk
      have h369 : (mup N2 68 (d : Int) (((N 39 29).toNat : Int) - 1 + 1)) 69 = N2 69 := mup_fn (by decide)
      have key : zE X m_X12_findBest 46 [.ref 39, vi L2, vi d, vi cost, u] [] (zI s N2) Q := by
        refine e_aload_n q_X12_findBest_46 (by decide) rfl ?_
        refine i_getC (r := 68) q_X12_findBest_47 fl_X12_100 (a39 hB) rfl (by decide) ?_
        refine e_iload_n q_X12_findBest_50 (by decide) rfl ?_
        refine e_dup2 q_X12_findBest_51 rfl rfl ?_
        refine i_iald q_X12_findBest_52 (a68 hB) (cref0 (by decide)) (by first | omega | assumption) (by first | omega | assumption) (by decide) hd2 ?_
        refine e_iconst q_X12_findBest_53 ?_
        refine e_iadd q_X12_findBest_54 ?_
        refine i_iast q_X12_findBest_55 (a68 hB) (cref0 (by decide)) (by first | omega | assumption) (by first | omega | assumption) (by decide) ?_
        refine e_aload_n q_X12_findBest_56 (by decide) rfl ?_
        refine i_getC (r := 68) q_X12_findBest_57 fl_X12_100 (a39 hB) rfl (by decide) ?_
        refine e_iload_n q_X12_findBest_60 (by decide) rfl ?_
        refine i_iald q_X12_findBest_61 (a68 hB) (cref0 (by decide)) (by first | omega | assumption) (by first | omega | assumption) (by decide) (mup_self _ _ _ _) ?_
        refine e_aload_n q_X12_findBest_62 (by decide) rfl ?_
        refine i_getI (k' := 29) q_X12_findBest_63 fl_X12_248 (a39 hB) rfl rfl rfl ((mup_cell (by decide)).trans e29) ?_
        refine e_icmp_ne q_X12_findBest_66 (by constructor <;> omega) (by constructor <;> omega) (fun c66 => ?_) (fun c66 => ?_)
        · skip
          exact absurd (by omega) c66
        · skip
          refine e_iinc (ls' := [_, _, _, _, _]) q_X12_findBest_69 (by decide) rfl rfl rfl ?_
          refine e_goto q_X12_findBest_72 ?_
          refine zEe (hcont _ L2 u h3b h3p ?_ hL2) (by rw [show (d : Int) - 1 = (d : Int) + -1 by omega]) rfl
          have hfn2 := hfn
          rw [hGn] at hfn2
          rw [h369]
          exact hfn2
      refine e_iload_n q_X12_findBest_14 (by decide) rfl ?_
      refine e_if_lt q_X12_findBest_15 (by constructor <;> omega) (fun c15 => ?_) (fun c15 => ?_)
      · skip
        exact absurd c15 (by omega)
      · skip
        refine e_aload_n q_X12_findBest_18 (by decide) rfl ?_
        refine i_getC (r := 68) q_X12_findBest_19 fl_X12_100 (a39 hB) rfl (by decide) ?_
        refine e_iload_n q_X12_findBest_22 (by decide) rfl ?_
        refine i_iald q_X12_findBest_23 (a68 hB) (cref0 (by decide)) (by first | omega | assumption) (by first | omega | assumption) (by decide) hd2 ?_
        refine e_if_lt q_X12_findBest_24 (by constructor <;> omega) (fun c24 => ?_) (fun c24 => ?_)
        · skip
          first
          | (have e : C2 = cost := by rw [hC2, if_pos (by omega), Int.add_zero]
             rw [e]
             exact key)
          | (have e : C2 - a d (((N 39 29).toNat : Int) - 1) = cost := by rw [hC2, if_neg (by omega)]; omega
             rw [e]
             exact key)
        · skip
          refine e_iload_n q_X12_findBest_27 (by decide) rfl ?_
          refine e_aload_n q_X12_findBest_28 (by decide) rfl ?_
          refine i_getC (r := 70) q_X12_findBest_29 fl_X12_106 (a39 hB) rfl (by decide) ?_
          refine e_bipush q_X12_findBest_32 (by decide) ?_
          refine e_iload_n q_X12_findBest_34 (by decide) rfl ?_
          refine e_imul q_X12_findBest_35 ?_
          refine e_aload_n q_X12_findBest_36 (by decide) rfl ?_
          refine i_getC (r := 68) q_X12_findBest_37 fl_X12_100 (a39 hB) rfl (by decide) ?_
          refine e_iload_n q_X12_findBest_40 (by decide) rfl ?_
          refine i_iald q_X12_findBest_41 (a68 hB) (cref0 (by decide)) (by first | omega | assumption) (by first | omega | assumption) (by decide) hd2 ?_
          refine e_iadd q_X12_findBest_42 ?_
          refine i_iald q_X12_findBest_43 (a70 hB) (cref0 (by decide)) (by first | omega | assumption) (by first | omega | assumption) (by decide) (hask2 _ (by omega) (by omega)) ?_
          refine e_isub q_X12_findBest_44 ?_
          refine e_istore_n (ls' := [_, _, _, _, _]) q_X12_findBest_45 (by decide) rfl rfl ?_
          first
          | (have e : C2 = cost := by rw [hC2, if_pos (by omega), Int.add_zero]
             rw [e]
             exact key)
          | (have e : C2 - a d (((N 39 29).toNat : Int) - 1) = cost := by rw [hC2, if_neg (by omega)]; omega
             rw [e]
             exact key)
  | succ n ihn =>
    intro d hdK N1 L cost u4 hb hpre hm1 hco hL hcont
    refine z_for (P := fun g => ∀ (N2 : zN) (L2 C2 : Int) (u : Value), (bsN N N2 ∧ (∀ k : Nat, k < d → N2 68 k = N1 68 k) ∧ N2 68 d = (g : Int) - 1 ∧ C2 = cost + (if g = 0 then 0 else a d ((g : Int) - 1)) ∧ (0 ≤ L2 ∧ L2 ≤ 100000) ∧ fnd a (goodOn rm ri po K (N 39 29) (tb (2 ^ K - 1))) K (fun k : Nat => N1 68 k) d (g : Int) L (fun k : Nat => N1 69 k) L2 (fun k : Nat => N2 69 k)) → zE X m_X12_findBest 14 [.ref 39, vi L2, vi d, vi C2, u] [] (zI s N2) Q) (N 39 29).toNat (fun g hg ihg N2 L2 C2 u hv => ?_) (fun N2 L2 C2 u hv => ?_) N1 L cost u4 ⟨hb, fun _ _ => rfl, by rw [hm1]; rfl, by rw [if_pos rfl, Int.add_zero], hL, fnd_0 hg8 (by omega)⟩
    · skip
      obtain ⟨hb2, hp2, hd2, hC2, hL2, hfn⟩ := hv
      have e41 : N2 39 41 = K := (congrFun (hb2.1 39 (by decide) (by decide)) 41).trans hK
      have e29 : N2 39 29 = N 39 29 := congrFun (hb2.1 39 (by decide) (by decide)) 29
      have hR2 := hb2.2
      have hask2 : ∀ x : Int, 0 ≤ x → x < N 39 29 → N2 70 (8 * (d : Int) + x) = a d x := fun x h1 h2 => (congrFun (hb2.1 70 (by decide) (by decide)) _).trans (hask d (by omega) x h1 h2)
      have hco2 := cst_b (a := a) (f := fun k : Nat => N1 68 k) d (fun k hk => ha k _ (by omega) (hpre k hk).1 (hpre k hk).2)
      rw [← hco] at hco2
      have h3b : bsN N (mup N2 68 (d : Int) ((g : Int) - 1 + 1)) := hb2.u (Or.inl rfl) (by constructor <;> omega)
      have h3p : ∀ k : Nat, k < d → (mup N2 68 (d : Int) ((g : Int) - 1 + 1)) 68 k = N1 68 k := fun k hk => by rw [mup_slot (by omega)]; exact hp2 k hk
      have h369 : (mup N2 68 (d : Int) ((g : Int) - 1 + 1)) 69 = N2 69 := mup_fn (by decide)
      have h3d : (mup N2 68 (d : Int) ((g : Int) - 1 + 1)) 68 (d : Int) = (g : Int) := by rw [mup_self]; omega
      have hadg := ha d (g : Int) (by omega) (by omega) (by omega)
      have hask3 : N2 70 (8 * (d : Int) + ((g : Int) - 1 + 1)) = a d (g : Int) := by rw [show (g : Int) - 1 + 1 = (g : Int) by omega]; exact hask2 g (by omega) (by omega)
      have hcg : cst a (fun k : Nat => (mup N2 68 (d : Int) ((g : Int) - 1 + 1)) 68 k) (d + 1) = cost + a d (g : Int) := cst_q (hco.trans (cst_e (fun k hk => (h3p k hk).symm))) h3d
      have key : zE X m_X12_findBest 46 [.ref 39, vi L2, vi d, vi cost, u] [] (zI s N2) Q := by
        refine e_aload_n q_X12_findBest_46 (by decide) rfl ?_
        refine i_getC (r := 68) q_X12_findBest_47 fl_X12_100 (a39 hB) rfl (by decide) ?_
        refine e_iload_n q_X12_findBest_50 (by decide) rfl ?_
        refine e_dup2 q_X12_findBest_51 rfl rfl ?_
        refine i_iald q_X12_findBest_52 (a68 hB) (cref0 (by decide)) (by first | omega | assumption) (by first | omega | assumption) (by decide) hd2 ?_
        refine e_iconst q_X12_findBest_53 ?_
        refine e_iadd q_X12_findBest_54 ?_
        refine i_iast q_X12_findBest_55 (a68 hB) (cref0 (by decide)) (by first | omega | assumption) (by first | omega | assumption) (by decide) ?_
        refine e_aload_n q_X12_findBest_56 (by decide) rfl ?_
        refine i_getC (r := 68) q_X12_findBest_57 fl_X12_100 (a39 hB) rfl (by decide) ?_
        refine e_iload_n q_X12_findBest_60 (by decide) rfl ?_
        refine i_iald q_X12_findBest_61 (a68 hB) (cref0 (by decide)) (by first | omega | assumption) (by first | omega | assumption) (by decide) (mup_self _ _ _ _) ?_
        refine e_aload_n q_X12_findBest_62 (by decide) rfl ?_
        refine i_getI (k' := 29) q_X12_findBest_63 fl_X12_248 (a39 hB) rfl rfl rfl ((mup_cell (by decide)).trans e29) ?_
        refine e_icmp_ne q_X12_findBest_66 (by constructor <;> omega) (by constructor <;> omega) (fun c66 => ?_) (fun c66 => ?_)
        · skip
          refine e_iload_n q_X12_findBest_75 (by decide) rfl ?_
          refine e_aload_n q_X12_findBest_76 (by decide) rfl ?_
          refine i_getC (r := 70) q_X12_findBest_77 fl_X12_106 (a39 hB) rfl (by decide) ?_
          refine e_bipush q_X12_findBest_80 (by decide) ?_
          refine e_iload_n q_X12_findBest_82 (by decide) rfl ?_
          refine e_imul q_X12_findBest_83 ?_
          refine e_aload_n q_X12_findBest_84 (by decide) rfl ?_
          refine i_getC (r := 68) q_X12_findBest_85 fl_X12_100 (a39 hB) rfl (by decide) ?_
          refine e_iload_n q_X12_findBest_88 (by decide) rfl ?_
          refine i_iald q_X12_findBest_89 (a68 hB) (cref0 (by decide)) (by first | omega | assumption) (by first | omega | assumption) (by decide) (mup_self _ _ _ _) ?_
          refine e_iadd q_X12_findBest_90 ?_
          refine i_iald q_X12_findBest_91 (a70 hB) (cref0 (by decide)) (by first | omega | assumption) (by first | omega | assumption) (by decide) ((mup_cell (by decide)).trans hask3) ?_
          refine e_iadd q_X12_findBest_92 ?_
          refine e_istore_n (ls' := [_, _, _, _, _]) q_X12_findBest_93 (by decide) rfl rfl ?_
          refine e_iload_n q_X12_findBest_94 (by decide) rfl ?_
          refine e_iload_n q_X12_findBest_95 (by decide) rfl ?_
          refine e_icmp_lt q_X12_findBest_96 (by constructor <;> omega) (by constructor <;> omega) (fun c96 => ?_) (fun c96 => ?_)
          · skip
            refine e_iload_n q_X12_findBest_102 (by decide) rfl ?_
            refine e_iconst q_X12_findBest_103 ?_
            refine e_iadd q_X12_findBest_104 ?_
            refine e_aload_n q_X12_findBest_105 (by decide) rfl ?_
            refine i_getI (k' := 41) q_X12_findBest_106 fl_X12_292 (a39 hB) rfl rfl rfl ((mup_cell (by decide)).trans e41) ?_
            refine e_icmp_ge q_X12_findBest_109 (by constructor <;> omega) (by constructor <;> omega) (fun c109 => ?_) (fun c109 => ?_)
            · skip
              exact absurd c109 (by omega)
            · skip
              refine e_iinc (ls' := [_, _, _, _, _]) q_X12_findBest_112 (by decide) rfl rfl rfl ?_
              refine e_aload_n q_X12_findBest_115 (by decide) rfl ?_
              refine i_getC (r := 68) q_X12_findBest_116 fl_X12_100 (a39 hB) rfl (by decide) ?_
              refine e_iload_n q_X12_findBest_119 (by decide) rfl ?_
              refine e_iconst q_X12_findBest_120 ?_
              refine i_iast q_X12_findBest_121 (a68 hB) (cref0 (by decide)) (by first | omega | assumption) (by first | omega | assumption) (by decide) ?_
              refine e_goto q_X12_findBest_122 ?_
              refine zEe (ls := [.ref 39, vi L2, vi ((d + 1 : Nat) : Int), vi (cost + a d (g : Int)), u]) (σ := zI s (mup (mup N2 68 (d : Int) ((g : Int) - 1 + 1)) 68 ((d : Int) + 1) (-1))) ?_ rfl rfl
              have e69 : (mup (mup N2 68 (d : Int) ((g : Int) - 1 + 1)) 68 ((d : Int) + 1) (-1)) 69 = N2 69 := (mup_fn (by decide)).trans h369
              have h4p : ∀ k : Nat, k < d + 1 → (mup (mup N2 68 (d : Int) ((g : Int) - 1 + 1)) 68 ((d : Int) + 1) (-1)) 68 k = (mup N2 68 (d : Int) ((g : Int) - 1 + 1)) 68 k := fun k hk => mup_slot (by omega)
              refine ihn (d + 1) (by omega) (mup (mup N2 68 (d : Int) ((g : Int) - 1 + 1)) 68 ((d : Int) + 1) (-1)) L2 (cost + a d (g : Int)) u (h3b.u (Or.inl rfl) (by constructor <;> omega)) (fun k hk => ?_) (mup_self _ _ _ _) ?_ hL2 (fun N5 L5 u5 b5 p5 f5 l5 => ?_)
              · rw [h4p k hk]
                by_cases hkd : k = d
                · rw [hkd, h3d]; omega
                · rw [h3p k (by omega)]; exact hpre k (by omega)
              · rw [← hcg]
                exact cst_e (fun k hk => (h4p k hk).symm)
              · have f5' := f5
                rw [e69] at f5'
                refine zEe (ihg N5 L5 (cost + a d (g : Int)) u5 ⟨b5, fun k hk => by rw [p5 k (by omega), h4p k (by omega)]; exact h3p k hk, by rw [p5 d (by omega), h4p d (by omega), h3d]; omega, by rw [if_neg (by omega), show ((g + 1 : Nat) : Int) - 1 = (g : Int) by omega], l5, ?_⟩) (by rw [show ((d + 1 : Nat) : Int) - 1 = (d : Int) by omega]) rfl
                exact fnd_s hK6 hg8 (by omega) hfn (fnd_n (q := fun k : Nat => (mup (mup N2 68 (d : Int) ((g : Int) - 1 + 1)) 68 ((d : Int) + 1) (-1)) 68 k) (fun k hk => by show (mup (mup N2 68 (d : Int) ((g : Int) - 1 + 1)) 68 ((d : Int) + 1) (-1)) 68 (k : Int) = _; rw [h4p k (by omega)]; exact h3p k hk) (by show (mup (mup N2 68 (d : Int) ((g : Int) - 1 + 1)) 68 ((d : Int) + 1) (-1)) 68 (d : Int) = _; rw [h4p d (by omega)]; exact h3d) hgG (by omega) f5') (fun f f' he => goodOn_e f f' he)
          · skip
            refine e_goto q_X12_findBest_99 ?_
            refine ihg _ _ _ _ ⟨h3b, h3p, by rw [h3d]; omega, by rw [if_neg (by omega), show ((g + 1 : Nat) : Int) - 1 = (g : Int) by omega], hL2, ?_⟩
            exact fnd_s hK6 hg8 (by omega) hfn (Or.inl ⟨rfl, fun k _ => by rw [h369], fnd_x (q := fun k : Nat => (mup N2 68 (d : Int) ((g : Int) - 1 + 1)) 68 k) h3p h3d (by omega) hga (by rw [hcg]; omega)⟩) (fun f f' he => goodOn_e f f' he)
        · skip
          exact absurd c66 (by omega)
      refine e_iload_n q_X12_findBest_14 (by decide) rfl ?_
      refine e_if_lt q_X12_findBest_15 (by constructor <;> omega) (fun c15 => ?_) (fun c15 => ?_)
      · skip
        exact absurd c15 (by omega)
      · skip
        refine e_aload_n q_X12_findBest_18 (by decide) rfl ?_
        refine i_getC (r := 68) q_X12_findBest_19 fl_X12_100 (a39 hB) rfl (by decide) ?_
        refine e_iload_n q_X12_findBest_22 (by decide) rfl ?_
        refine i_iald q_X12_findBest_23 (a68 hB) (cref0 (by decide)) (by first | omega | assumption) (by first | omega | assumption) (by decide) hd2 ?_
        refine e_if_lt q_X12_findBest_24 (by constructor <;> omega) (fun c24 => ?_) (fun c24 => ?_)
        · skip
          first
          | (have e : C2 = cost := by rw [hC2, if_pos (by omega), Int.add_zero]
             rw [e]
             exact key)
          | (have e : C2 - a d ((g : Int) - 1) = cost := by rw [hC2, if_neg (by omega)]; omega
             rw [e]
             exact key)
        · skip
          refine e_iload_n q_X12_findBest_27 (by decide) rfl ?_
          refine e_aload_n q_X12_findBest_28 (by decide) rfl ?_
          refine i_getC (r := 70) q_X12_findBest_29 fl_X12_106 (a39 hB) rfl (by decide) ?_
          refine e_bipush q_X12_findBest_32 (by decide) ?_
          refine e_iload_n q_X12_findBest_34 (by decide) rfl ?_
          refine e_imul q_X12_findBest_35 ?_
          refine e_aload_n q_X12_findBest_36 (by decide) rfl ?_
          refine i_getC (r := 68) q_X12_findBest_37 fl_X12_100 (a39 hB) rfl (by decide) ?_
          refine e_iload_n q_X12_findBest_40 (by decide) rfl ?_
          refine i_iald q_X12_findBest_41 (a68 hB) (cref0 (by decide)) (by first | omega | assumption) (by first | omega | assumption) (by decide) hd2 ?_
          refine e_iadd q_X12_findBest_42 ?_
          refine i_iald q_X12_findBest_43 (a70 hB) (cref0 (by decide)) (by first | omega | assumption) (by first | omega | assumption) (by decide) (hask2 _ (by omega) (by omega)) ?_
          refine e_isub q_X12_findBest_44 ?_
          refine e_istore_n (ls' := [_, _, _, _, _]) q_X12_findBest_45 (by decide) rfl rfl ?_
          first
          | (have e : C2 = cost := by rw [hC2, if_pos (by omega), Int.add_zero]
             rw [e]
             exact key)
          | (have e : C2 - a d ((g : Int) - 1) = cost := by rw [hC2, if_neg (by omega)]; omega
             rw [e]
             exact key)
    · skip
      obtain ⟨hb2, hp2, hd2, hC2, hL2, hfn⟩ := hv
      have e41 : N2 39 41 = K := (congrFun (hb2.1 39 (by decide) (by decide)) 41).trans hK
      have e29 : N2 39 29 = N 39 29 := congrFun (hb2.1 39 (by decide) (by decide)) 29
      have hR2 := hb2.2
      have hask2 : ∀ x : Int, 0 ≤ x → x < N 39 29 → N2 70 (8 * (d : Int) + x) = a d x := fun x h1 h2 => (congrFun (hb2.1 70 (by decide) (by decide)) _).trans (hask d (by omega) x h1 h2)
      have hco2 := cst_b (a := a) (f := fun k : Nat => N1 68 k) d (fun k hk => ha k _ (by omega) (hpre k hk).1 (hpre k hk).2)
      rw [← hco] at hco2
      have hGn : (((N 39 29).toNat : Nat) : Int) = N 39 29 := by omega
      have h3b : bsN N (mup N2 68 (d : Int) (((N 39 29).toNat : Int) - 1 + 1)) := hb2.u (Or.inl rfl) (by constructor <;> omega)
      have h3p : ∀ k : Nat, k < d → (mup N2 68 (d : Int) (((N 39 29).toNat : Int) - 1 + 1)) 68 k = N1 68 k := fun k hk => by rw [mup_slot (by omega)]; exact hp2 k hk
      have h369 : (mup N2 68 (d : Int) (((N 39 29).toNat : Int) - 1 + 1)) 69 = N2 69 := mup_fn (by decide)
      have key : zE X m_X12_findBest 46 [.ref 39, vi L2, vi d, vi cost, u] [] (zI s N2) Q := by
        refine e_aload_n q_X12_findBest_46 (by decide) rfl ?_
        refine i_getC (r := 68) q_X12_findBest_47 fl_X12_100 (a39 hB) rfl (by decide) ?_
        refine e_iload_n q_X12_findBest_50 (by decide) rfl ?_
        refine e_dup2 q_X12_findBest_51 rfl rfl ?_
        refine i_iald q_X12_findBest_52 (a68 hB) (cref0 (by decide)) (by first | omega | assumption) (by first | omega | assumption) (by decide) hd2 ?_
        refine e_iconst q_X12_findBest_53 ?_
        refine e_iadd q_X12_findBest_54 ?_
        refine i_iast q_X12_findBest_55 (a68 hB) (cref0 (by decide)) (by first | omega | assumption) (by first | omega | assumption) (by decide) ?_
        refine e_aload_n q_X12_findBest_56 (by decide) rfl ?_
        refine i_getC (r := 68) q_X12_findBest_57 fl_X12_100 (a39 hB) rfl (by decide) ?_
        refine e_iload_n q_X12_findBest_60 (by decide) rfl ?_
        refine i_iald q_X12_findBest_61 (a68 hB) (cref0 (by decide)) (by first | omega | assumption) (by first | omega | assumption) (by decide) (mup_self _ _ _ _) ?_
        refine e_aload_n q_X12_findBest_62 (by decide) rfl ?_
        refine i_getI (k' := 29) q_X12_findBest_63 fl_X12_248 (a39 hB) rfl rfl rfl ((mup_cell (by decide)).trans e29) ?_
        refine e_icmp_ne q_X12_findBest_66 (by constructor <;> omega) (by constructor <;> omega) (fun c66 => ?_) (fun c66 => ?_)
        · skip
          exact absurd (by omega) c66
        · skip
          refine e_iinc (ls' := [_, _, _, _, _]) q_X12_findBest_69 (by decide) rfl rfl rfl ?_
          refine e_goto q_X12_findBest_72 ?_
          refine zEe (hcont _ L2 u h3b h3p ?_ hL2) (by rw [show (d : Int) - 1 = (d : Int) + -1 by omega]) rfl
          have hfn2 := hfn
          rw [hGn] at hfn2
          rw [h369]
          exact hfn2
      refine e_iload_n q_X12_findBest_14 (by decide) rfl ?_
      refine e_if_lt q_X12_findBest_15 (by constructor <;> omega) (fun c15 => ?_) (fun c15 => ?_)
      · skip
        exact absurd c15 (by omega)
      · skip
        refine e_aload_n q_X12_findBest_18 (by decide) rfl ?_
        refine i_getC (r := 68) q_X12_findBest_19 fl_X12_100 (a39 hB) rfl (by decide) ?_
        refine e_iload_n q_X12_findBest_22 (by decide) rfl ?_
        refine i_iald q_X12_findBest_23 (a68 hB) (cref0 (by decide)) (by first | omega | assumption) (by first | omega | assumption) (by decide) hd2 ?_
        refine e_if_lt q_X12_findBest_24 (by constructor <;> omega) (fun c24 => ?_) (fun c24 => ?_)
        · skip
          first
          | (have e : C2 = cost := by rw [hC2, if_pos (by omega), Int.add_zero]
             rw [e]
             exact key)
          | (have e : C2 - a d (((N 39 29).toNat : Int) - 1) = cost := by rw [hC2, if_neg (by omega)]; omega
             rw [e]
             exact key)
        · skip
          refine e_iload_n q_X12_findBest_27 (by decide) rfl ?_
          refine e_aload_n q_X12_findBest_28 (by decide) rfl ?_
          refine i_getC (r := 70) q_X12_findBest_29 fl_X12_106 (a39 hB) rfl (by decide) ?_
          refine e_bipush q_X12_findBest_32 (by decide) ?_
          refine e_iload_n q_X12_findBest_34 (by decide) rfl ?_
          refine e_imul q_X12_findBest_35 ?_
          refine e_aload_n q_X12_findBest_36 (by decide) rfl ?_
          refine i_getC (r := 68) q_X12_findBest_37 fl_X12_100 (a39 hB) rfl (by decide) ?_
          refine e_iload_n q_X12_findBest_40 (by decide) rfl ?_
          refine i_iald q_X12_findBest_41 (a68 hB) (cref0 (by decide)) (by first | omega | assumption) (by first | omega | assumption) (by decide) hd2 ?_
          refine e_iadd q_X12_findBest_42 ?_
          refine i_iald q_X12_findBest_43 (a70 hB) (cref0 (by decide)) (by first | omega | assumption) (by first | omega | assumption) (by decide) (hask2 _ (by omega) (by omega)) ?_
          refine e_isub q_X12_findBest_44 ?_
          refine e_istore_n (ls' := [_, _, _, _, _]) q_X12_findBest_45 (by decide) rfl rfl ?_
          first
          | (have e : C2 = cost := by rw [hC2, if_pos (by omega), Int.add_zero]
             rw [e]
             exact key)
          | (have e : C2 - a d (((N 39 29).toNat : Int) - 1) = cost := by rw [hC2, if_neg (by omega)]; omega
             rw [e]
             exact key)
set_option maxRecDepth 20000 in
set_option maxHeartbeats 2000000 in
theorem k_findBest (hB : zB0 s) (hR : ∀ c0 x, zr (N c0 x)) {a : Nat → Int → Int} {rm : Int → Int} {ri : Int → Prop} {po : Nat → Prop} {K : Nat} (hK : N 39 41 = K) (hK6 : K ≤ 6) (hG : 0 ≤ N 39 29 ∧ N 39 29 ≤ 8) (hri : ∀ g : Int, 0 ≤ g → g < N 39 29 → N 72 g = bi (ri g)) (hhad : ∀ g : Int, 0 ≤ g → g < N 39 29 → 0 ≤ N 71 g ∧ N 71 g ≤ 48) (hrm : ∀ g : Int, 0 ≤ g → g < N 39 29 → rm g = 10 - N 71 g) (hwh : ∀ k : Nat, k < K → 0 ≤ N 67 k ∧ N 67 k < 48) (hpo : ∀ k : Nat, k < K → (po k ↔ N 45 (N 67 k) ≠ 0)) (ha : ∀ (k : Nat) (g : Int), k < K → 0 ≤ g → g < N 39 29 → 0 ≤ a k g ∧ a k g ≤ 104) (hask : ∀ k : Nat, k < K → ∀ g : Int, 0 ≤ g → g < N 39 29 → N 70 (8 * (k : Int) + g) = a k g) (hK1 : 1 ≤ K) (h1 : (∀ f, ¬ (goodOn rm ri po K (N 39 29) (tb (2 ^ K - 1))) f) → ∀ N2, bsN N N2 → Q (some (vi (-4))) (zI s N2)) (h2 : ∀ N2, bsN N N2 → (goodOn rm ri po K (N 39 29) (tb (2 ^ K - 1))) (fun k : Nat => N2 69 k) → (∀ f, (goodOn rm ri po K (N 39 29) (tb (2 ^ K - 1))) f → wF a (fun k : Nat => N2 69 k) K ≤ wF a f K) → Q (some (vi (cst a (fun k : Nat => N2 69 k) K))) (zI s N2)) : zC X m_X12_findBest [.ref 39] (zI s N) Q := by
  show zE X m_X12_findBest 0 [.ref 39, zU, zU, zU, zU] [] _ Q
  refine e_ldc q_X12_findBest_0 co_X12_47 ?_
  refine e_istore_n (ls' := [_, _, _, _, _]) q_X12_findBest_2 (by decide) rfl rfl ?_
  refine e_iconst q_X12_findBest_3 ?_
  refine e_istore_n (ls' := [_, _, _, _, _]) q_X12_findBest_4 (by decide) rfl rfl ?_
  refine e_iconst q_X12_findBest_5 ?_
  refine e_istore_n (ls' := [_, _, _, _, _]) q_X12_findBest_6 (by decide) rfl rfl ?_
  refine e_aload_n q_X12_findBest_7 (by decide) rfl ?_
  refine i_getC (r := 68) q_X12_findBest_8 fl_X12_100 (a39 hB) rfl (by decide) ?_
  refine e_iconst q_X12_findBest_11 ?_
  refine e_iconst q_X12_findBest_12 ?_
  refine i_iast q_X12_findBest_13 (a68 hB) (cref0 (by decide)) (by first | omega | assumption) (by first | omega | assumption) (by decide) ?_
  refine zEe (ls := [.ref 39, vi 100000, vi ((0 : Nat) : Int), vi 0, zU]) (σ := zI s (mup N 68 0 (-1))) ?_ rfl rfl
  refine k_seek hB (a := a) (rm := rm) (ri := ri) (po := po) (K := K) hK hK6 hG hri hhad hrm hwh hpo ha hask (K - 1) 0 (by omega) _ _ _ _ (bsN.u ⟨fun _ _ _ => rfl, hR⟩ (Or.inl rfl) (by constructor <;> omega)) (fun k hk => absurd hk (by omega)) (mup_self _ _ _ _) rfl (by omega) (fun N2 L2 u b2 _ f2 l2 => ?_)
  have hg1 : ∀ f, (goodOn rm ri po K (N 39 29) (tb (2 ^ K - 1))) f → f 0 < N 39 29 := fun f hf => (hf.1 0 (by omega) (tb_all.mpr (by omega))).2
  have hgb : ∀ f, (goodOn rm ri po K (N 39 29) (tb (2 ^ K - 1))) f → cst a f K ≤ 624 := fun f hf => by
    have := (cst_b (a := a) (f := f) K (fun k hk => ha k _ hk (hf.1 k hk (tb_all.mpr hk)).1 (hf.1 k hk (tb_all.mpr hk)).2)).2
    omega
  refine e_iload_n q_X12_findBest_14 (by decide) rfl ?_
  refine e_if_lt q_X12_findBest_15 (by constructor <;> omega) (fun c15 => ?_) (fun c15 => ?_)
  · skip
    refine e_iload_n q_X12_findBest_169 (by decide) rfl ?_
    refine e_ldc q_X12_findBest_170 co_X12_47 ?_
    refine e_icmp_ne q_X12_findBest_172 (by constructor <;> omega) (by constructor <;> omega) (fun c172 => ?_) (fun c172 => ?_)
    · skip
      refine e_iload_n q_X12_findBest_180 (by decide) rfl ?_
      refine e_ireturn q_X12_findBest_181 rfl rfl ?_
      rcases f2 with ⟨k1, k2, k3⟩ | ⟨k1, k2, k3, k4, k5, k6⟩
      · first
        | exact absurd k1 (by omega)
        | exact h1 (fun f hf => by have h5 := k3 f hf (fun k hk => absurd hk (by omega)) (hg1 f hf); have h6 := hgb f hf; omega) N2 b2
      · first
        | exact absurd k1 (by omega)
        | (rw [k5]; exact h2 N2 b2 k2 (fun f hf => k6 f hf (fun k hk => absurd hk (by omega)) (hg1 f hf)))
    · skip
      refine e_bipush q_X12_findBest_175 (by decide) ?_
      refine e_goto q_X12_findBest_177 ?_
      refine e_ireturn q_X12_findBest_181 rfl rfl ?_
      rcases f2 with ⟨k1, k2, k3⟩ | ⟨k1, k2, k3, k4, k5, k6⟩
      · first
        | exact absurd k1 (by omega)
        | exact h1 (fun f hf => by have h5 := k3 f hf (fun k hk => absurd hk (by omega)) (hg1 f hf); have h6 := hgb f hf; omega) N2 b2
      · first
        | exact absurd k1 (by omega)
        | (rw [k5]; exact h2 N2 b2 k2 (fun f hf => k6 f hf (fun k hk => absurd hk (by omega)) (hg1 f hf)))
  · skip
    exact absurd (by omega) c15
end FI11
