/-! dying, both (printed by wip/whole/gen/r8.py) -/
section RT8
variable {X : zX} {s : zK} {N : zN} {σ : zS} {fa sa : Int → Int} {Q K : Option Value → zS → Prop} {c : Int}
set_option maxRecDepth 20000 in
set_option maxHeartbeats 2000000 in
theorem k_dies (hB : zB0 s) (hm : mI N) (hyo : yOw N) {w : Int} (hw : zr w) {d : Int} (hd : zr d) (h1 : ¬ ((0 ≤ w ∧ w < N 39 2) ∧ (0 ≤ d ∧ d ≤ 9999)) → Q (some (vi (-1))) (zI s N)) (h2 : ((0 ≤ w ∧ w < N 39 2) ∧ (0 ≤ d ∧ d ≤ 9999)) → ¬ (N 47 w = 100000 ∧ behind N w d) → Q (some (vi (-2))) (zI s N)) (h3 : ((0 ≤ w ∧ w < N 39 2) ∧ (0 ≤ d ∧ d ≤ 9999)) → N 47 w = 100000 ∧ behind N w d → ∀ N2, dM N w d N (N 39 50).toNat N2 → Q (some (vi (owesA N w))) (zI s N2)) : zC X m_X12_dies [.ref 39, vi w, vi d] (zI s N) Q := by
  have hR := hm.1
  have hC := hm.2.1
  unfold mCnt at hC
  show zE X m_X12_dies 0 [.ref 39, vi w, vi d, zU, zU, zU, zU] [] _ Q
  refine e_aload_n q_X12_dies_0 (by decide) rfl ?_
  refine e_iload_n q_X12_dies_1 (by decide) rfl ?_
  refine iv_X12_isOne q_X12_dies_2 lk_X12_170 (by decide) (a39 hB) (Nat.le_of_ble_eq_true rfl) ?_
  refine k_isOne hB hm hw ?_
  refine e_ifb_eq q_X12_dies_5 (fun c5 => ?_) (fun c5 => ?_)
  · skip
    refine e_iconst q_X12_dies_15 ?_
    refine e_ireturn q_X12_dies_16 rfl rfl ?_
    first | exact h1 (fun q => c5 q.1) | exact h1 (fun q => c12 q.2)
  · skip
    refine e_iload_n q_X12_dies_8 (by decide) rfl ?_
    refine iv_X12_isDay q_X12_dies_9 lk_X12_181 (by decide) (Nat.le_of_ble_eq_true rfl) ?_
    refine k_isDay hd ?_
    refine e_ifb_ne q_X12_dies_12 (fun c12 => ?_) (fun c12 => ?_)
    · skip
      refine e_aload_n q_X12_dies_17 (by decide) rfl ?_
      refine e_iload_n q_X12_dies_18 (by decide) rfl ?_
      refine iv_X12_isDead q_X12_dies_19 lk_X12_178 (by decide) (a39 hB) (Nat.le_of_ble_eq_true rfl) ?_
      refine k_isDead hB hm (by omega) (by omega) ?_
      refine e_ifb_ne q_X12_dies_22 (fun c22 => ?_) (fun c22 => ?_)
      · skip
        refine e_bipush q_X12_dies_34 (by decide) ?_
        refine e_ireturn q_X12_dies_36 rfl rfl ?_
        first | exact h2 ⟨c5, c12⟩ (fun q => c22 q.1) | exact h2 ⟨c5, c12⟩ (fun q => c31 q.2)
      · skip
        refine e_aload_n q_X12_dies_25 (by decide) rfl ?_
        refine e_iload_n q_X12_dies_26 (by decide) rfl ?_
        refine e_iload_n q_X12_dies_27 (by decide) rfl ?_
        refine iv_X12_isBehind q_X12_dies_28 lk_X12_194 (by decide) (a39 hB) (Nat.le_of_ble_eq_true rfl) ?_
        refine k_isBehind hB hm (by omega) (by omega) (by omega) ?_
        refine e_ifb_ne q_X12_dies_31 (fun c31 => ?_) (fun c31 => ?_)
        · skip
          refine e_aload_n q_X12_dies_37 (by decide) rfl ?_
          refine e_iload_n q_X12_dies_38 (by decide) rfl ?_
          refine iv_X12_owesAll q_X12_dies_39 lk_X12_337 (by decide) (a39 hB) (Nat.le_of_ble_eq_true rfl) ?_
          refine k_owesAll hB hm (by omega) (by omega) ?_
          refine e_istore_n (ls' := [_, _, _, _, _, _, _]) q_X12_dies_42 (by decide) rfl rfl ?_
          refine e_aload_n q_X12_dies_43 (by decide) rfl ?_
          refine i_getC (r := 47) q_X12_dies_44 fl_X12_32 (a39 hB) rfl (by decide) ?_
          refine e_iload_n q_X12_dies_47 (by decide) rfl ?_
          refine e_iload_n q_X12_dies_48 (by decide) rfl ?_
          refine i_iast q_X12_dies_49 (a47 hB) (cref0 (by decide)) (by first | omega | assumption) (by first | omega | assumption) (by decide) ?_
          refine e_iconst q_X12_dies_50 ?_
          refine e_istore (ls' := [_, _, _, _, _, _, _]) q_X12_dies_51 (by decide) rfl rfl ?_
          have hg : ((0 ≤ w ∧ w < N 39 2) ∧ (0 ≤ d ∧ d ≤ 9999)) := ⟨c5, c12⟩
          have hc1 : N 47 w = 100000 ∧ behind N w d := ⟨Classical.byContradiction c22, c31⟩
          refine zEe (ls := [.ref 39, vi w, vi d, vi (owesA N w), vi ((0 : Nat) : Int), zU, zU]) (σ := zI s (mup N 47 w d)) ?_ rfl rfl
          refine z_for (P := fun i => ∀ (N2 : zN) (u5 : Value) (u6 : Value), (dM N w d N i N2) → zE X m_X12_dies 53 [.ref 39, vi w, vi d, vi (owesA N w), vi (i : Int), u5, u6] [] (zI s N2) Q) (N 39 50).toNat (fun i hi ih N2 u5 u6 hv => ?_) (fun N2 u5 u6 hv => ?_) _ zU zU ⟨fun a x h1 h2 h3 _ => mup_ne h3, fun p hp => by omega, mup_self _ _ _ _, (mup_cell (by decide)), fun x => by rw [mup_cell (by decide)]; exact hR _ _⟩
          · skip
            have hov := yOw_v hyo hm (p := (i : Int)) (w := w) (by omega) (by omega) (by omega) (by omega)
            have key : ∀ (a : Nat) (x : Int), a ≠ 81 → a ≠ 80 → ¬ (a = 39 ∧ x = 58) → ¬ (a = 47 ∧ x = w) → N2 a x = N a x := fun a x h1 h2 h3 h4 => hv.1 a x h1 h3 h4 (fun p hp q => h2 q.1)
            have k80 : ∀ x : Int, 0 ≤ x → x < 48 → N2 80 (48 * (i : Int) + x) = N 80 (48 * (i : Int) + x) := fun x h0 h1 => hv.1 80 _ (by omega) (by omega) (by omega) (fun p hp => by omega)
            have k50c : N2 39 50 = N 39 50 := key 39 _ (by decide) (by decide) (by omega) (by omega)
            have k2c : N2 39 2 = N 39 2 := key 39 _ (by decide) (by decide) (by omega) (by omega)
            refine e_iload q_X12_dies_53 (by decide) rfl ?_
            refine e_aload_n q_X12_dies_55 (by decide) rfl ?_
            refine i_getI (k' := 50) q_X12_dies_56 fl_X12_316 (a39 hB) rfl rfl rfl k50c ?_
            refine e_icmp_ge q_X12_dies_59 (by first | exact hR _ _ | (constructor <;> omega) | assumption) (by first | exact hR _ _ | (constructor <;> omega) | assumption) (fun c59 => ?_) (fun c59 => ?_)
            · skip
              exact absurd c59 (by omega)
            · skip
              refine e_aload_n q_X12_dies_62 (by decide) rfl ?_
              refine i_getC (r := 80) q_X12_dies_63 fl_X12_136 (a39 hB) rfl (by decide) ?_
              refine e_bipush q_X12_dies_66 (by decide) ?_
              refine e_iload q_X12_dies_68 (by decide) rfl ?_
              refine e_imul q_X12_dies_70 ?_
              refine e_iload_n q_X12_dies_71 (by decide) rfl ?_
              refine e_iadd q_X12_dies_72 ?_
              refine i_iald q_X12_dies_73 (a80 hB) (cref0 (by decide)) (by first | omega | assumption) (by first | omega | assumption) (by decide) (k80 w (by omega) (by omega)) ?_
              refine e_istore (ls' := [_, _, _, _, _, _, _]) q_X12_dies_74 (by decide) rfl rfl ?_
              refine e_aload_n q_X12_dies_76 (by decide) rfl ?_
              refine i_getC (r := 80) q_X12_dies_77 fl_X12_136 (a39 hB) rfl (by decide) ?_
              refine e_bipush q_X12_dies_80 (by decide) ?_
              refine e_iload q_X12_dies_82 (by decide) rfl ?_
              refine e_imul q_X12_dies_84 ?_
              refine e_iload_n q_X12_dies_85 (by decide) rfl ?_
              refine e_iadd q_X12_dies_86 ?_
              refine e_iconst q_X12_dies_87 ?_
              refine i_iast q_X12_dies_88 (a80 hB) (cref0 (by decide)) (by first | omega | assumption) (by first | omega | assumption) (by decide) ?_
              refine e_iload q_X12_dies_89 (by decide) rfl ?_
              refine e_if_le q_X12_dies_91 (by constructor <;> omega) (fun c91 => ?_) (fun c91 => ?_)
              · skip
                refine e_iinc (ls' := [_, _, _, _, _, _, _]) q_X12_dies_104 (by decide) rfl rfl rfl ?_
                refine e_goto q_X12_dies_107 ?_
                first
                | (have h0v : N 80 (48 * (i : Int) + w) = 0 := by omega
                   refine zEe (ih _ _ _ (dM_st hv (fun a0 x0 h1 h2 h3 => ?_) (fun x h1 h2 => ?_) ?_ (fun x0 => ?_))) rfl rfl
                   · rw [mup_ne (fun q => h3 ⟨q.1, by omega, by omega⟩)]
                   · rw [dad, zif_f (by omega), Int.add_zero]
                     by_cases hx : x = w
                     · rw [if_pos hx, hx, mup_self]
                     · rw [if_neg hx, mup_slot (by omega), k80 x h1 h2]
                   · rw [mup_cell (by decide), lsD, zif_f (by omega)]
                     exact hv.2.2.2.1
                   · rw [mup_cell (by decide)]
                     exact hv.2.2.2.2 x0)
                | (refine zEe (ih _ _ _ (dM_st hv (fun a0 x0 h1 h2 h3 => ?_) (fun x h1 h2 => ?_) ?_ (fun x0 => ?_))) rfl rfl
                   · rw [mup_ne h2, mup_ne (fun q => h3 ⟨q.1, by omega, by omega⟩)]
                   · rw [mup_cell (by decide), dad, zif_f (by omega), Int.add_zero]
                     by_cases hx : x = w
                     · rw [if_pos hx, hx, mup_self]
                     · rw [if_neg hx, mup_slot (by omega), k80 x h1 h2]
                   · rw [mup_self, mup_cell (by decide), lsD, zif_t ⟨by omega, ha0⟩, hv.2.2.2.1]
                   · rw [mup_cell (by decide), mup_cell (by decide)]
                     exact hv.2.2.2.2 x0)
                | (refine zEe (ih _ _ _ (dM_st hv (fun a0 x0 h1 h2 h3 => ?_) (fun x h1 h2 => ?_) ?_ (fun x0 => ?_))) rfl rfl
                   · by_cases h80 : a0 = 80
                     · rw [h80, hv3.2.1 x0 (fun q => h3 ⟨h80, q⟩), mup_slot (fun q => h3 ⟨h80, by omega, by omega⟩)]
                     · rw [hv3.1 a0 h80 h1, mup_cell h80]
                   · rw [hv3.2.2.1 x h1 h2, dad, zif_t ⟨by omega, ha0⟩, nD_ad]
                     by_cases hx : x = w
                     · rw [if_pos hx, hx, mup_self]
                     · rw [if_neg hx, mup_slot (by omega), k80 x h1 h2]
                   · rw [hv3.1 39 (by decide) (by decide), mup_cell (by decide), lsD, zif_f (by omega)]
                     exact hv.2.2.2.1
                   · exact hv3.2.2.2 x0)
              · skip
                have eT : parts (mup N2 80 (48 * (i : Int) + w) 0) i = parts (nD N w d) i := by
                  funext x
                  unfold parts
                  rw [mup_cell (by decide), mup_cell (by decide), key 79 _ (by decide) (by decide) (by omega) (by omega), nD_o (by decide)]
                  by_cases hx : x = w
                  · rw [hx, hv.2.2.1, show nD N w d 47 w = d from mup_self _ _ _ _]
                  · rw [key 47 x (by decide) (by decide) (by omega) (by omega), show nD N w d 47 x = N 47 x from mup_slot hx]
                have eW : wgt (mup N2 80 (48 * (i : Int) + w) 0) = wgt N := by
                  funext x
                  unfold wgt
                  rw [mup_cell (by decide), key 45 _ (by decide) (by decide) (by omega) (by omega)]
                have hRM : ∀ (a : Nat) (j : Int), a ≠ 80 → a ≠ 81 → a ≠ 39 → zr (mup N2 80 (48 * (i : Int) + w) 0 a j) := fun a j h1 h2 h3 => by
                  rw [mup_cell h1]
                  by_cases hq : a = 47 ∧ j = w
                  · rw [hq.1, hq.2, hv.2.2.1]
                    constructor <;> omega
                  · rw [key a j h2 h1 (by omega) hq]
                    exact hR a j
                refine e_aload_n q_X12_dies_94 (by decide) rfl ?_
                refine e_iload q_X12_dies_95 (by decide) rfl ?_
                refine e_iload q_X12_dies_97 (by decide) rfl ?_
                refine iv_X12_isPartedAmong q_X12_dies_99 lk_X12_334 (by decide) (a39 hB) (Nat.le_of_ble_eq_true rfl) ?_
                refine kr_isPartedAmong hB hRM (p := (i : Int)) (by omega) (P := (N 39 2).toNat) (by omega) (by rw [mup_cell (by decide), k2c]; omega) (am := N 80 (48 * (i : Int) + w)) (by omega) (fun x => by rw [mup_cell (by decide)]; exact hv.2.2.2.2 x) (fun hall => ?_) (fun hall N3 hv3 => ?_)
                · skip
                  rw [eT, eW] at hall
                  have ha0 : aln (nD N w d) i = 0 := (nD_al w d i).trans hall
                  refine e_istore (ls' := [_, _, _, _, _, _, _]) q_X12_dies_102 (by decide) rfl rfl ?_
                  refine e_iinc (ls' := [_, _, _, _, _, _, _]) q_X12_dies_104 (by decide) rfl rfl rfl ?_
                  refine e_goto q_X12_dies_107 ?_
                  first
                  | (have h0v : N 80 (48 * (i : Int) + w) = 0 := by omega
                     refine zEe (ih _ _ _ (dM_st hv (fun a0 x0 h1 h2 h3 => ?_) (fun x h1 h2 => ?_) ?_ (fun x0 => ?_))) rfl rfl
                     · rw [mup_ne (fun q => h3 ⟨q.1, by omega, by omega⟩)]
                     · rw [dad, zif_f (by omega), Int.add_zero]
                       by_cases hx : x = w
                       · rw [if_pos hx, hx, mup_self]
                       · rw [if_neg hx, mup_slot (by omega), k80 x h1 h2]
                     · rw [mup_cell (by decide), lsD, zif_f (by omega)]
                       exact hv.2.2.2.1
                     · rw [mup_cell (by decide)]
                       exact hv.2.2.2.2 x0)
                  | (refine zEe (ih _ _ _ (dM_st hv (fun a0 x0 h1 h2 h3 => ?_) (fun x h1 h2 => ?_) ?_ (fun x0 => ?_))) rfl rfl
                     · rw [mup_ne h2, mup_ne (fun q => h3 ⟨q.1, by omega, by omega⟩)]
                     · rw [mup_cell (by decide), dad, zif_f (by omega), Int.add_zero]
                       by_cases hx : x = w
                       · rw [if_pos hx, hx, mup_self]
                       · rw [if_neg hx, mup_slot (by omega), k80 x h1 h2]
                     · rw [mup_self, mup_cell (by decide), lsD, zif_t ⟨by omega, ha0⟩, hv.2.2.2.1]
                     · rw [mup_cell (by decide), mup_cell (by decide)]
                       exact hv.2.2.2.2 x0)
                  | (refine zEe (ih _ _ _ (dM_st hv (fun a0 x0 h1 h2 h3 => ?_) (fun x h1 h2 => ?_) ?_ (fun x0 => ?_))) rfl rfl
                     · by_cases h80 : a0 = 80
                       · rw [h80, hv3.2.1 x0 (fun q => h3 ⟨h80, q⟩), mup_slot (fun q => h3 ⟨h80, by omega, by omega⟩)]
                       · rw [hv3.1 a0 h80 h1, mup_cell h80]
                     · rw [hv3.2.2.1 x h1 h2, dad, zif_t ⟨by omega, ha0⟩, nD_ad]
                       by_cases hx : x = w
                       · rw [if_pos hx, hx, mup_self]
                       · rw [if_neg hx, mup_slot (by omega), k80 x h1 h2]
                     · rw [hv3.1 39 (by decide) (by decide), mup_cell (by decide), lsD, zif_f (by omega)]
                       exact hv.2.2.2.1
                     · exact hv3.2.2.2 x0)
                · skip
                  rw [eT, eW] at hall hv3
                  have ha0 : 0 < aln (nD N w d) i := by rw [nD_al]; exact hall
                  refine e_istore (ls' := [_, _, _, _, _, _, _]) q_X12_dies_102 (by decide) rfl rfl ?_
                  refine e_iinc (ls' := [_, _, _, _, _, _, _]) q_X12_dies_104 (by decide) rfl rfl rfl ?_
                  refine e_goto q_X12_dies_107 ?_
                  first
                  | (have h0v : N 80 (48 * (i : Int) + w) = 0 := by omega
                     refine zEe (ih _ _ _ (dM_st hv (fun a0 x0 h1 h2 h3 => ?_) (fun x h1 h2 => ?_) ?_ (fun x0 => ?_))) rfl rfl
                     · rw [mup_ne (fun q => h3 ⟨q.1, by omega, by omega⟩)]
                     · rw [dad, zif_f (by omega), Int.add_zero]
                       by_cases hx : x = w
                       · rw [if_pos hx, hx, mup_self]
                       · rw [if_neg hx, mup_slot (by omega), k80 x h1 h2]
                     · rw [mup_cell (by decide), lsD, zif_f (by omega)]
                       exact hv.2.2.2.1
                     · rw [mup_cell (by decide)]
                       exact hv.2.2.2.2 x0)
                  | (refine zEe (ih _ _ _ (dM_st hv (fun a0 x0 h1 h2 h3 => ?_) (fun x h1 h2 => ?_) ?_ (fun x0 => ?_))) rfl rfl
                     · rw [mup_ne h2, mup_ne (fun q => h3 ⟨q.1, by omega, by omega⟩)]
                     · rw [mup_cell (by decide), dad, zif_f (by omega), Int.add_zero]
                       by_cases hx : x = w
                       · rw [if_pos hx, hx, mup_self]
                       · rw [if_neg hx, mup_slot (by omega), k80 x h1 h2]
                     · rw [mup_self, mup_cell (by decide), lsD, zif_t ⟨by omega, ha0⟩, hv.2.2.2.1]
                     · rw [mup_cell (by decide), mup_cell (by decide)]
                       exact hv.2.2.2.2 x0)
                  | (refine zEe (ih _ _ _ (dM_st hv (fun a0 x0 h1 h2 h3 => ?_) (fun x h1 h2 => ?_) ?_ (fun x0 => ?_))) rfl rfl
                     · by_cases h80 : a0 = 80
                       · rw [h80, hv3.2.1 x0 (fun q => h3 ⟨h80, q⟩), mup_slot (fun q => h3 ⟨h80, by omega, by omega⟩)]
                       · rw [hv3.1 a0 h80 h1, mup_cell h80]
                     · rw [hv3.2.2.1 x h1 h2, dad, zif_t ⟨by omega, ha0⟩, nD_ad]
                       by_cases hx : x = w
                       · rw [if_pos hx, hx, mup_self]
                       · rw [if_neg hx, mup_slot (by omega), k80 x h1 h2]
                     · rw [hv3.1 39 (by decide) (by decide), mup_cell (by decide), lsD, zif_f (by omega)]
                       exact hv.2.2.2.1
                     · exact hv3.2.2.2 x0)
          · skip
            have k50c : N2 39 50 = N 39 50 := hv.1 39 50 (by decide) (by omega) (by omega) (fun p hp => by omega)
            refine e_iload q_X12_dies_53 (by decide) rfl ?_
            refine e_aload_n q_X12_dies_55 (by decide) rfl ?_
            refine i_getI (k' := 50) q_X12_dies_56 fl_X12_316 (a39 hB) rfl rfl rfl k50c ?_
            refine e_icmp_ge q_X12_dies_59 (by first | exact hR _ _ | (constructor <;> omega) | assumption) (by first | exact hR _ _ | (constructor <;> omega) | assumption) (fun c59 => ?_) (fun c59 => ?_)
            · skip
              refine e_iload_n q_X12_dies_110 (by decide) rfl ?_
              refine e_ireturn q_X12_dies_111 rfl rfl ?_
              exact h3 hg hc1 N2 hv
            · skip
              exact absurd (by omega) c59
        · skip
          refine e_bipush q_X12_dies_34 (by decide) ?_
          refine e_ireturn q_X12_dies_36 rfl rfl ?_
          first | exact h2 ⟨c5, c12⟩ (fun q => c22 q.1) | exact h2 ⟨c5, c12⟩ (fun q => c31 q.2)
    · skip
      refine e_iconst q_X12_dies_15 ?_
      refine e_ireturn q_X12_dies_16 rfl rfl ?_
      first | exact h1 (fun q => c5 q.1) | exact h1 (fun q => c12 q.2)
theorem eM.parts_ {N' : zN} (h : eM N N') (w d p : Int) : parts (nD N' w d) p = parts (nD N w d) p := by
  funext x
  unfold parts
  rw [nD_o (N := N') (a := 79) (by decide), nD_o (N := N) (a := 79) (by decide), h 79 (by decide) (by decide)]
  by_cases hx : x = w
  · rw [hx, show nD N' w d 47 w = d from mup_self _ _ _ _, show nD N w d 47 w = d from mup_self _ _ _ _]
  · rw [show nD N' w d 47 x = N' 47 x from mup_slot hx, show nD N w d 47 x = N 47 x from mup_slot hx, h 47 (by decide) (by decide)]
theorem eM.wgt_ {N' : zN} (h : eM N N') : wgt N' = wgt N := by
  funext x
  unfold wgt
  rw [h 45 (by decide) (by decide)]
theorem eM.aln_ {N' : zN} (h : eM N N') (w d p : Int) : aln (nD N' w d) p = aln (nD N w d) p := by
  rw [nD_al, nD_al, h.parts_, h.wgt_, h.at 39 (by decide) (by decide)]
theorem eM.dad_ {N' : zN} (h : eM N N') (w d p x : Int) : dad N' w d p x = dad N w d p x := by
  unfold dad
  rw [h.aln_, nD_ad, nD_ad, h.parts_, h.wgt_, h.at 39 (by decide) (by decide), h.at 80 (by decide) (by decide)]
theorem eM.lsD_ {N' : zN} (h : eM N N') (w d : Int) : ∀ n : Nat, lsD N' w d n = lsD N w d n
  | 0 => h.at 39 (by decide) (by decide) 58
  | n + 1 => by rw [lsD, lsD, h.lsD_ w d n, h.aln_, h.at 80 (by decide) (by decide)]
theorem eM.owesA_ {N' : zN} (h : eM N N') (w : Int) : owesA N' w = owesA N w := by
  unfold owesA
  rw [h 80 (by decide) (by decide), h.at 39 (by decide) (by decide)]
theorem eM.yOw_ {N' : zN} (h : eM N N') (hy : yOw N) : yOw N' := yOw_k (h.sC (by decide)) h.s9 hy
theorem nD_48 {w d : Int} (h48 : N 39 2 ≤ 48) : nD N w d 39 2 ≤ 48 := by rw [nD_o (by decide)]; exact h48
/-- a row behind the parting: nonnegative, and no more in all -/
theorem dad_row (hyo : yOw N) (hm : mI N) {p w d : Int} (h0 : 0 ≤ p) (h1 : p < N 39 50) (hw0 : 0 ≤ w) (hw1 : w < 48) {f : Nat → Int} (hf : ∀ x : Nat, x < 48 → f x = (if (x : Int) = w then 0 else N 80 (48 * p + x)) + dad N w d p x) : (∀ x, x < 48 → 0 ≤ f x) ∧ sumK f 48 ≤ sumK (fun x : Nat => N 80 (48 * p + x)) 48 ∧ ∀ x : Int, 0 ≤ dad N w d p x ∧ dad N w d p x ≤ 9999 ∧ (x < 0 ∨ 48 ≤ x → dad N w d p x = 0) := by
  have hC := hm.2.1
  unfold mCnt at hC
  have hov := yOw_v hyo hm h0 h1 hw0 hw1
  have ho := (hyo p h0 h1).1
  have hz : ∀ x : Int, 0 ≤ dad N w d p x ∧ dad N w d p x ≤ 9999 ∧ (x < 0 ∨ 48 ≤ x → dad N w d p x = 0) := by
    intro x
    unfold dad
    by_cases ha : 0 < N 80 (48 * p + w) ∧ 0 < aln (nD N w d) p
    · rw [zif_t ha]
      have hs := adn_s (N := nD N w d) (p := p) (am := N 80 (48 * p + w)) hov.1 (nD_48 hC.2.1.2) ha.2
      have h1 := hs.1 x
      exact ⟨h1.1, by omega, hs.2.2 x⟩
    · rw [zif_f ha]
      exact ⟨by omega, by omega, fun _ => rfl⟩
  refine ⟨fun x hx => ?_, ?_, hz⟩
  · have := hz x
    have := ho x (by omega) (by omega)
    rw [hf x hx]
    split <;> omega
  · have e1 : sumK f 48 = sumK (fun x : Nat => if (x : Int) = w then 0 else N 80 (48 * p + x)) 48 + sumK (fun x : Nat => dad N w d p x) 48 := by
      rw [sumK_c hf]
      exact sumK_p 48
    have e2 : sumK (fun x : Nat => N 80 (48 * p + x)) 48 = sumK (fun x : Nat => if (x : Int) = w then 0 else N 80 (48 * p + x)) 48 + sumK (fun x : Nat => if (x : Int) = w then N 80 (48 * p + w) else 0) 48 := by
      rw [← sumK_p 48]
      refine sumK_c (fun i hi => ?_)
      by_cases hx : (i : Int) = w
      · rw [if_pos hx, if_pos hx, hx, Int.zero_add]
      · rw [if_neg hx, if_neg hx, Int.add_zero]
    have e3 : sumK (fun x : Nat => dad N w d p x) 48 ≤ sumK (fun x : Nat => if (x : Int) = w then N 80 (48 * p + w) else 0) 48 := by
      have e4 : sumK (fun x : Nat => if (x : Int) = w then N 80 (48 * p + w) else 0) 48 = N 80 (48 * p + w) := by
        have gen : ∀ n : Nat, sumK (fun x : Nat => if (x : Int) = w then N 80 (48 * p + w) else 0) n = if w < n then N 80 (48 * p + w) else 0 := by
          intro n
          induction n with
          | zero => rw [sumK, if_neg (by omega)]
          | succ n ih =>
            rw [sumK, ih]
            by_cases hx : (n : Int) = w
            · rw [if_pos hx, if_neg (by omega), if_pos (by omega), Int.zero_add]
            · rw [if_neg hx, Int.add_zero]
              by_cases h2 : w < n
              · rw [if_pos h2, if_pos (by omega)]
              · rw [if_neg h2, if_neg (by omega)]
        rw [gen 48, if_pos (by omega)]
      rw [e4]
      by_cases ha : 0 < N 80 (48 * p + w) ∧ 0 < aln (nD N w d) p
      · have hs := (adn_s (N := nD N w d) (p := p) (am := N 80 (48 * p + w)) hov.1 (nD_48 hC.2.1.2) ha.2).2.1
        rw [sumK_c (g := fun x : Nat => adn (nD N w d) p (N 80 (48 * p + w)) x) (fun i _ => by unfold dad; rw [zif_t ha]), hs]
        exact Int.le_refl _
      · rw [sumK_c (g := fun x : Nat => 0) (fun i _ => by unfold dad; rw [zif_f ha]), sumK_z (m := 0) 48 (by omega) (fun i _ _ => rfl)]
        exact hov.1
    omega
set_option maxRecDepth 20000 in
set_option maxHeartbeats 2000000 in
theorem j_dies (hJ : xJ s N c) (hc : c < 512) {w d : Int} (hw : zr w) (hd : zr d) (h : jK X c m_X12_dies [.ref 39, vi w, vi d] K) : zC X m_X11_dies [.ref 3, vi w, vi d] (zI s N) K := by
  obtain ⟨fa, sa, hI, hy, hbud, hsz⟩ := id hJ
  have hk := bud_r hI hbud hc
  have hC := hI.C
  unfold mCnt at hC
  have n88 := hI.B.1
  have hR := hI.R
  have hkp : N 3 19 = N 39 10 + N 39 31 := hy.1
  refine x_dies hI hy.2.1 hw hd (fun g1 => ?_) (fun g1 g2 => ?_) (fun A g1 g2 hp N1 hv => ?_)
  · exact h _ _ _ (by first | exact hI.B | exact hI.B.k sK.ns | exact hI.B.k (sK.ns.trans (sK.ns.trans sK.ns))) (fun Q hq => k_dies hI.B hI.m hy.2.1 hw hd (fun _ => hq _ _ hJ.up) (fun q => absurd q g1) (fun q => absurd q g1))
  · exact h _ _ _ (by first | exact hI.B | exact hI.B.k sK.ns | exact hI.B.k (sK.ns.trans (sK.ns.trans sK.ns))) (fun Q hq => k_dies hI.B hI.m hy.2.1 hw hd (fun q => absurd g1 q) (fun _ _ => hq _ _ hJ.up) (fun _ q => absurd q g2))
  · refine h _ _ _ (by first | exact hI.B | exact hI.B.k sK.ns | exact hI.B.k (sK.ns.trans (sK.ns.trans sK.ns))) (fun Q hq => ?_)
    have p88 := hp.1
    have pA := hp.2.1
    have plt := pA.2.1
    have had : ∀ p : Nat, p < (N 39 50).toNat → 88 ≤ lC N p ∧ lC N p < s.1.1 ∧ (s.2 (lC N p)).1 = 20 ∧ lC N p ≠ A ∧ ∀ x : Int, 0 ≤ x → x < 48 → N (lC N p) x = N 80 (48 * (p : Int) + x) := by
      intro p hp2
      obtain ⟨a, b, e, hl⟩ := hI.ls.1 (p : Int) (by omega) (by omega)
      obtain ⟨q1, q2⟩ := lA_p hl
      have k2 := hl.2.2.2.2.2.2.2.2.2.2.2.2.2.2.2.1
      rw [q2]
      exact ⟨hl.2.2.2.2.2.2.2.2.2.2.2.2.2.2.1, k2.2.1, by rw [k2.2.2], k2.ne pA (by decide), fun x h0 h1 => (hl.2.2.2.2.2.2.2.2.2.2.2.2.2.2.2.2 x h0 h1).2⟩
    have rowD : ∀ p : Nat, p < (N 39 50).toNat → ∀ x : Int, 0 ≤ dad N w d p x ∧ dad N w d p x ≤ 9999 ∧ (x < 0 ∨ 48 ≤ x → dad N w d p x = 0) := fun p hp2 => (dad_row hy.2.1 hI.m (p := (p : Int)) (w := w) (d := d) (by omega) (by omega) (by omega) (by omega) (f := fun x : Nat => (if (x : Int) = w then 0 else N 80 (48 * (p : Int) + x)) + dad N w d p x) (fun _ _ => rfl)).2.2
    have hE : eM N N1 := fun a h1 h2 => funext fun x => hv.1 a x (by omega) (by omega) (by omega) (fun p hp2 => by have := had p hp2; omega)
    have hG1 : zG s N1 := by
      refine ⟨fun a x => ?_, fun a ha x => ?_⟩
      · by_cases q1 : a = 30
        · rw [q1]; exact hv.2.2.2.2 x
        · by_cases q2 : a = 3 ∧ x = 11
          · rw [q2.1, q2.2, hv.2.2.2.1]; exact lsD_r (hR _ _) w d _
          · by_cases q3 : a = A ∧ x = 6
            · rw [q3.1, q3.2, hv.2.2.1]; constructor <;> omega
            · by_cases q4 : ∃ p : Nat, p < (N 39 50).toNat ∧ a = lC N p
              · obtain ⟨p, k1, k2⟩ := q4
                rw [k2, hv.2.1 p k1 x]
                have hr := rowD p k1 x
                by_cases hx : x < 0 ∨ 48 ≤ x
                · rw [hr.2.2 hx, if_neg (by omega), Int.add_zero]; exact hR _ _
                · have hov := yOw_v hy.2.1 hI.m (p := (p : Int)) (w := x) (by omega) (by omega) (by omega) (by omega)
                  rw [(had p k1).2.2.2.2 x (by omega) (by omega)]
                  split <;> constructor <;> omega
              · rw [hv.1 a x q1 q2 q3 (fun p hp2 q => q4 ⟨p, hp2, q⟩)]; exact hR _ _
      · rw [hv.1 a x (by omega) (by omega) (by omega) (fun p hp2 => by have := had p hp2; omega)]
        exact hI.2.1.2 a ha x
    have hm1 : mI N1 := hE.mI_ hG1.1 hI.m
    refine k_dies hI.B hm1 (hE.yOw_ hy.2.1) hw hd ?_ ?_ ?_
    all_goals
      rw [hE.at 39 (by decide) (by decide) 2]
      try rw [hE.at 47 (by decide) (by decide), hE.behind_]
    · exact fun q => absurd g1 q
    · exact fun _ q => absurd g2 q
    · intro _ _ N2 hv2
      rw [hE.owesA_]
      rw [hE.at 39 (by decide) (by decide) 50] at hv2
      obtain ⟨m1, m2, m3, m4, m5⟩ := hv2
      rw [hE.lsD_] at m4
      have m2 : ∀ p : Nat, p < (N 39 50).toNat → ∀ x : Int, 0 ≤ x → x < 48 → N2 80 (48 * (p : Int) + x) = (if x = w then 0 else N 80 (48 * (p : Int) + x)) + dad N w d p x := fun p hp2 x h0 h1 => by
        have := m2 p hp2 x h0 h1
        rw [hE.dad_, hE.at 80 (by decide) (by decide)] at this
        exact this
      have low : ∀ (a : Nat) (x : Int), a < 88 → a ≠ 30 → a ≠ 81 → a ≠ 80 → ¬ (a = 3 ∧ x = 11) → ¬ (a = 39 ∧ x = 58) → ¬ (a = 47 ∧ x = w) → N2 a x = N a x := fun a x h0 h1 h2 h3 h4 h5 h6 => (m1 a x h2 h5 h6 (fun p hp2 => by omega)).trans (hv.1 a x h1 h4 (by omega) (fun p hp2 => by have := had p hp2; omega))
      have up : ∀ (a : Nat) (x : Int), 88 ≤ a → N2 a x = N1 a x := fun a x h0 => m1 a x (by omega) (by omega) (by omega) (fun p hp2 => by omega)
      have rows80 : ∀ p : Nat, p < (N 39 50).toNat → ∀ x : Int, 0 ≤ x → x < 48 → 0 ≤ N2 80 (48 * (p : Int) + x) ∧ N2 80 (48 * (p : Int) + x) ≤ 99999 := by
        intro p hp2 x h0 h1
        rw [m2 p hp2 x h0 h1]
        have hr := rowD p hp2 x
        have hov := yOw_v hy.2.1 hI.m (p := (p : Int)) (w := x) (by omega) (by omega) (by omega) (by omega)
        split <;> omega
      have hG : zG s N2 := by
        refine ⟨fun a x => ?_, fun a ha x => (up a x (by have := hI.B.1; omega)).trans (hG1.2 a ha x)⟩
        by_cases q1 : a = 81
        · rw [q1]; exact m5 x
        · by_cases q2 : a = 39 ∧ x = 58
          · rw [q2.1, q2.2, m4]; exact lsD_r (hR _ _) w d _
          · by_cases q3 : a = 47 ∧ x = w
            · rw [q3.1, q3.2, m3]; constructor <;> omega
            · by_cases q4 : ∃ p : Nat, p < (N 39 50).toNat ∧ a = 80 ∧ 48 * (p : Int) ≤ x ∧ x < 48 * (p : Int) + 48
              · obtain ⟨p, k1, k2, k3, k4⟩ := q4
                have := rows80 p k1 (x - 48 * p) (by omega) (by omega)
                rw [show 48 * (p : Int) + (x - 48 * p) = x by omega] at this
                rw [k2]
                constructor <;> omega
              · rw [m1 a x q1 q2 q3 (fun p hp2 q => q4 ⟨p, hp2, q⟩)]; exact hG1.1 _ _
      have how : yOw N2 := by
        intro p h0 h1
        rw [low 39 50 (by omega) (by omega) (by omega) (by omega) (by omega) (by omega) (by omega)] at h1
        have ep : ((p.toNat : Nat) : Int) = p := z_cast h0
        have h76 : N2 76 p = N 76 p := low 76 p (by omega) (by omega) (by omega) (by omega) (by omega) (by omega) (by omega)
        have h77 : N2 77 p = N 77 p := low 77 p (by omega) (by omega) (by omega) (by omega) (by omega) (by omega) (by omega)
        rw [h76, h77]
        have hr := dad_row hy.2.1 hI.m (p := p) (w := w) (d := d) h0 h1 (by omega) (by omega) (f := fun x : Nat => N2 80 (48 * p + x)) (fun x hx => by
          have := m2 p.toNat (by omega) x (by omega) (by omega)
          rwa [ep] at this)
        refine ⟨fun v v0 v1 => ?_, Int.le_trans hr.2.1 (hy.2.1 p h0 h1).2⟩
        have := hr.1 v.toNat (by omega)
        have this : 0 ≤ N2 80 (48 * p + (v.toNat : Int)) := this
        rwa [z_cast v0] at this
      obtain ⟨x1, x2, x3⟩ := jx_owe (N2 := N2) hI hy sK.rf hG (fun a ha => funext fun x => low a x (by omega) (by omega) (by omega) (by omega) (by omega) (by omega) (by omega)) (fun j0 hj => low 39 j0 (by omega) (by omega) (by omega) (by omega) (by omega) (by omega) (by omega)) (fun j0 hj => low 3 j0 (by omega) (by omega) (by omega) (by omega) (by omega) (by omega) (by omega)) (fun a h1 h2 h3 => funext fun x => (up a x h1).trans (hv.1 a x (by omega) (by omega) (fun q => by rw [q.1, pA.2.2] at h3; exact h3.1 rfl) (fun p hp2 q => by
          have := had p hp2
          rw [q] at h3
          omega))) (by rw [m4, m1 3 11 (by omega) (by omega) (by omega) (fun p hp2 => by omega), hv.2.2.2.1]) rfl
        (fun i h0 h1 => by
          by_cases hi : i = w
          · rw [hi, m3]; omega
          · rw [low 47 i (by omega) (by omega) (by omega) (by omega) (by omega) (by omega) (by omega)]
            exact (hI.m.2.2.1 i h0 h1).2.2.2.2.2.2)
        (fun i a h0 h1 ha => by
          have h88 := ha.1
          have hkC : ∀ p : Nat, p < (N 39 50).toNat → a ≠ lC N p := fun p hp2 q => by
            have := (had p hp2).2.2.1
            rw [← q, ha.2.1.2.2] at this
            cases this
          have ea : ∀ x, ¬ (a = A ∧ x = 6) → N2 a x = N a x := fun x hx => (up a x h88).trans (hv.1 a x (by omega) (by omega) hx hkC)
          refine ⟨fun x hx => ea x (by omega), ?_⟩
          by_cases hi : i = w
          · have haA : a = A := by
              have h5 := ha.2.2.1
              rw [hi, hp.2.2.1] at h5
              omega
            rw [hi, m3, haA, up A 6 p88, hv.2.2.1]
            exact Or.inr ⟨by omega, rfl⟩
          · have hnA : a ≠ A := fun q => hi (hI.ps.2 i w h0 h1 (by omega) (by omega) (by rw [ha.2.2.1, hp.2.2.1, q]))
            rw [low 47 i (by omega) (by omega) (by omega) (by omega) (by omega) (by omega) (by omega), ea 6 (by omega)]
            exact ha.2.2.2.2.2.2.2.2.2.1)
        (fun p h0 h1 => by
          rw [low 77 p (by omega) (by omega) (by omega) (by omega) (by omega) (by omega) (by omega), low 78 p (by omega) (by omega) (by omega) (by omega) (by omega) (by omega) (by omega)]
          exact (hI.m.2.2.2.2.2.2 p h0 h1).2.2.2)
        (fun p a b e h0 h1 hl => by
          have ep : ((p.toNat : Nat) : Int) = p := z_cast h0
          obtain ⟨q1, q2⟩ := lA_p hl
          have h88 := hl.1
          have h88e := hl.2.2.2.2.2.2.2.2.2.2.2.2.2.2.1
          have lcA := hl.2.2.2.2.2.2.2.2.2.2.2.2.2.2.2.1
          have ea : ∀ x : Int, N2 a x = N a x := fun x => (up a x h88).trans (hv.1 a x (by omega) (by omega) (fun q => hl.2.1.ne pA (by decide) q.1) (fun p2 hp2 q => by
            have := (had p2 hp2).2.2.1
            rw [← q, hl.2.1.2.2] at this
            cases this))
          rw [low 77 p (by omega) (by omega) (by omega) (by omega) (by omega) (by omega) (by omega), low 78 p (by omega) (by omega) (by omega) (by omega) (by omega) (by omega) (by omega), ea 7, ea 8, hl.2.2.2.2.2.2.2.2.2.2.1, hl.2.2.2.2.2.2.2.2.2.2.2.1]
          refine ⟨fun x _ _ => ea x, rfl, rfl, fun x h2 h3 => ?_⟩
          have n := hv.2.1 p.toNat (by omega) x
          have m := m2 p.toNat (by omega) x h2 h3
          rw [ep] at n m
          rw [q2] at n
          rw [m, up e x h88e, n, (hl.2.2.2.2.2.2.2.2.2.2.2.2.2.2.2.2 x h2 h3).2]) how
      exact hq _ _ ⟨fa, sa, x1, x2, by omega, hsz.n0⟩
end RT8
