/-! rolls, 2 (printed by wip/whole/gen/r14.py) -/
section RT14
variable {X : zX} {s : zK} {N : zN} {σ : zS} {fa sa : Int → Int} {Q K : Option Value → zS → Prop} {c : Int}
theorem nmK_b (N : zN) (g d n : Int) (k : Nat) : 0 ≤ nmK N g d n k ∧ nmK N g d n k ≤ k := cnt_b _ k
theorem rlK_b (N : zN) (j n : Int) (k : Nat) : 0 ≤ rlK N j n k ∧ rlK N j n k ≤ k := cnt_b _ k
theorem xW.of {N1 : zN} (hI : xI s N fa sa) (h : ∀ a : Nat, a ≠ 21 → a ≠ 22 → a ≠ 23 → a ≠ 24 → N1 a = N a) (hR : ∀ a x, zr (N1 a x)) : xW s N1 fa sa := by
  have hE : eM N N1 := fun a h1 h2 => h a (by omega) (by omega) (by omega) (by omega)
  have h8 : ∀ k, s8 s N N1 k := fun k a h1 _ _ => h a (by omega) (by omega) (by omega) (by omega)
  exact ⟨hI.B, hR, hE.mI_ hR hI.m, mOrd_k (hE.sC (by decide)) hE.s9 hI.ord, xFs_k sK.rf (h8 2) (hE.sC (by decide)) (hE.at 39 (by decide) (by decide) 10) hI.fs, xSs_k sK.rf (h8 8) (hE.sC (by decide)) (hE.at 39 (by decide) (by decide) 31) hI.ss⟩
theorem xPs.of {N1 : zN} (hI : xI s N fa sa) (h : ∀ a : Nat, a ≠ 21 → a ≠ 22 → a ≠ 23 → a ≠ 24 → N1 a = N a) : xPs s N1 fa sa := by
  have hE : eM N N1 := fun a h1 h2 => h a (by omega) (by omega) (by omega) (by omega)
  have h8 : ∀ k, s8 s N N1 k := fun k a h1 _ _ => h a (by omega) (by omega) (by omega) (by omega)
  exact xPs_k sK.rf (h8 4) (h 5 (by omega) (by omega) (by omega) (by omega)) (hE.sC (by decide)) hE.s9 hI.ps
set_option maxRecDepth 20000 in
set_option maxHeartbeats 2000000 in
theorem x_roll (hI : xI s N fa sa) {g d w l : Int} (hg0 : zr g) (hd0 : zr d) (hw0 : zr w) (hl0 : zr l) (h1 : ¬ ((0 ≤ g ∧ g < N 39 29) ∧ (0 ≤ d ∧ d ≤ 9999)) → Q (some (vi (-1))) (zI s N)) (h2 : ((0 ≤ g ∧ g < N 39 29) ∧ (0 ≤ d ∧ d ≤ 9999)) → refus N w l ≠ 0 → Q (some (vi (refus N w l))) (zI s N)) (h3 : ((0 ≤ g ∧ g < N 39 29) ∧ (0 ≤ d ∧ d ≤ 9999)) → refus N w l = 0 → ¬ (∀ i : Int, 0 ≤ i → i < N 83 w → 0 ≤ itm N w i ∧ itm N w i ≤ 39) → Q (some (vi (-2))) (zI s N)) (h4 : ((0 ≤ g ∧ g < N 39 29) ∧ (0 ≤ d ∧ d ≤ 9999)) → refus N w l = 0 → (∀ i : Int, 0 ≤ i → i < N 83 w → 0 ≤ itm N w i ∧ itm N w i ≤ 39) → ∀ N1, rD N w g d (N 39 2).toNat N1 → Q (some (vi (sumK (fun n : Nat => loF (nmK N g d n (N 39 2).toNat) (rlK N w n (N 83 w).toNat)) 40))) (zI s N1)) : zC X m_X11_roll [.ref 3, vi g, vi d, vi w, vi l] (zI s N) Q := by
  have hB := hI.B
  have hR := hI.R
  have hC := hI.C
  unfold mCnt at hC
  have hm := hI.m
  obtain ⟨e1, e5, e7, e8, e10, e11, e3, e12, eh, eg, ef, et⟩ := hI.hs
  show zE X m_X11_roll 0 [.ref 3, vi g, vi d, vi w, vi l, zU, zU, zU] [] _ Q
  refine e_aload_n q_X11_roll_0 (by decide) rfl ?_
  refine e_iload_n q_X11_roll_1 (by decide) rfl ?_
  refine iv_X11_isGroup q_X11_roll_2 lk_X11_218 (by decide) (a3 hB) (Nat.le_of_ble_eq_true rfl) ?_
  refine x_isGroup hI hg0 ?_
  refine e_ifb_eq q_X11_roll_5 (fun c5 => ?_) (fun c5 => ?_)
  · skip
    refine e_iconst q_X11_roll_15 ?_
    refine e_ireturn q_X11_roll_16 rfl rfl ?_
    first | exact h1 (fun q => c5 q.1) | exact h1 (fun q => c12 q.2)
  · skip
    refine e_iload_n q_X11_roll_8 (by decide) rfl ?_
    refine iv_X11_isDay q_X11_roll_9 lk_X11_140 (by decide) (Nat.le_of_ble_eq_true rfl) ?_
    refine x_isDay hd0 ?_
    refine e_ifb_ne q_X11_roll_12 (fun c12 => ?_) (fun c12 => ?_)
    · skip
      refine e_aload_n q_X11_roll_17 (by decide) rfl ?_
      refine e_iload_n q_X11_roll_18 (by decide) rfl ?_
      refine e_iload q_X11_roll_19 (by decide) rfl ?_
      refine iv_X11_refusalOfSheet q_X11_roll_21 lk_X11_370 (by decide) (a3 hB) (Nat.le_of_ble_eq_true rfl) ?_
      refine x_refusal hI hw0 hl0 ?_
      refine e_istore (ls' := [_, _, _, _, _, _, _, _]) q_X11_roll_24 (by decide) rfl rfl ?_
      refine e_iload q_X11_roll_26 (by decide) rfl ?_
      refine e_if_eq q_X11_roll_28 (refus_r N w l) (fun c28 => ?_) (fun c28 => ?_)
      · skip
        have hg : ((0 ≤ g ∧ g < N 39 29) ∧ (0 ≤ d ∧ d ≤ 9999)) := ⟨c5, c12⟩
        have hok : refus N w l = 0 := c28
        have hwj := (refus_0 hok).1.1
        refine e_aload_n q_X11_roll_34 (by decide) rfl ?_
        refine i_getC (r := 20) q_X11_roll_35 fl_X11_60 (a3 hB) rfl (by decide) ?_
        refine e_iload_n q_X11_roll_38 (by decide) rfl ?_
        obtain ⟨a, hsh⟩ := xShA.of hI hwj.1 hwj.2
        obtain ⟨sa0, sA, sB, sc0, sc1, scB, s20, s1, s2, s3, s4⟩ := id hsh
        refine i_aald q_X11_roll_39 (a20 hB) (by decide) (fun _ => rfl) (by omega) (by omega) (by decide) s20 (by omega) ?_
        refine e_astore (ls' := [_, _, _, _, _, _, _, _]) q_X11_roll_40 (by decide) rfl rfl ?_
        refine e_iconst q_X11_roll_42 ?_
        refine e_istore (ls' := [_, _, _, _, _, _, _, _]) q_X11_roll_43 (by decide) rfl rfl ?_
        refine zEe (ls := [.ref 3, vi g, vi d, vi w, vi l, vi 0, .ref a, vi ((0 : Nat) : Int)]) (σ := zI s N) ?_ (by rw [hok]; rfl) rfl
        refine z_for (P := fun i => ∀ (hh : True), (∀ j : Int, 0 ≤ j → j < i → 0 ≤ itm N w j ∧ itm N w j ≤ 39) → zE X m_X11_roll 45 [.ref 3, vi g, vi d, vi w, vi l, vi 0, .ref a, vi (i : Int)] [] (zI s N) Q) (N 83 w).toNat (fun i hi ih hh hv => ?_) (fun hh hv => ?_) trivial (fun j h0 h1 => by omega)
        · skip
          refine e_iload q_X11_roll_45 (by decide) rfl ?_
          refine e_aload q_X11_roll_47 (by decide) rfl ?_
          refine i_getI (k' := 2) q_X11_roll_49 fl_X11_369 sA (sc1 _ (by decide)) rfl rfl s2 ?_
          refine e_icmp_ge q_X11_roll_52 (by first | exact hR _ _ | (constructor <;> omega) | assumption) (by first | exact hR _ _ | (constructor <;> omega) | assumption) (fun c52 => ?_) (fun c52 => ?_)
          · skip
            exact absurd c52 (by omega)
          · skip
            refine e_aload q_X11_roll_55 (by decide) rfl ?_
            refine i_getC (r := a + 1) q_X11_roll_57 fl_X11_374 sA sc0 (by omega) ?_
            refine e_iload q_X11_roll_60 (by decide) rfl ?_
            refine i_iald q_X11_roll_62 sB scB (by first | omega | assumption) (by first | omega | assumption) (by decide) (show N (a + 1) i = itm N w i from s4 i (by omega) (by omega)) ?_
            refine iv_X11_isName q_X11_roll_63 lk_X11_97 (by decide) (Nat.le_of_ble_eq_true rfl) ?_
            refine x_isName (hR _ _) ?_
            refine e_ifb_ne q_X11_roll_66 (fun c66 => ?_) (fun c66 => ?_)
            · skip
              refine e_iinc (ls' := [_, _, _, _, _, _, _, _]) q_X11_roll_72 (by decide) rfl rfl rfl ?_
              refine e_goto q_X11_roll_75 ?_
              exact ih trivial (fun j h0 h1 => by
                by_cases hj : j = i
                · rw [hj]; exact c66
                · exact hv j h0 (by omega))
            · skip
              refine e_bipush q_X11_roll_69 (by decide) ?_
              refine e_ireturn q_X11_roll_71 rfl rfl ?_
              exact h3 hg hok (fun q => c66 (q i (by omega) (by omega)))
        · skip
          refine e_iload q_X11_roll_45 (by decide) rfl ?_
          refine e_aload q_X11_roll_47 (by decide) rfl ?_
          refine i_getI (k' := 2) q_X11_roll_49 fl_X11_369 sA (sc1 _ (by decide)) rfl rfl s2 ?_
          refine e_icmp_ge q_X11_roll_52 (by first | exact hR _ _ | (constructor <;> omega) | assumption) (by first | exact hR _ _ | (constructor <;> omega) | assumption) (fun c52 => ?_) (fun c52 => ?_)
          · skip
            have hits : ∀ i : Int, 0 ≤ i → i < N 83 w → 0 ≤ itm N w i ∧ itm N w i ≤ 39 := fun j h0 h1 => hv j h0 (by omega)
            refine e_aload_n q_X11_roll_78 (by decide) rfl ?_
            refine i_getC (r := 21) q_X11_roll_79 fl_X11_67 (a3 hB) rfl (by decide) ?_
            refine e_aload q_X11_roll_82 (by decide) rfl ?_
            refine iv_X6_begin rfl q_X11_roll_84 lk_X11_377 (by decide) (a21 hB) (Nat.le_of_ble_eq_true rfl) ?_
            refine xr_rbegin hB hR hwj hsh hits (fun N2 hb => ?_)
            refine e_iconst q_X11_roll_87 ?_
            refine e_istore (ls' := [_, _, _, _, _, _, _, _]) q_X11_roll_88 (by decide) rfl rfl ?_
            refine zEe (ls := [.ref 3, vi g, vi d, vi w, vi l, vi 0, .ref a, vi ((0 : Nat) : Int)]) (σ := zI s N2) ?_ rfl rfl
            refine z_for (P := fun i => ∀ (N1 : zN), (rD N w g d i N1) → zE X m_X11_roll 90 [.ref 3, vi g, vi d, vi w, vi l, vi 0, .ref a, vi (i : Int)] [] (zI s N1) Q) (N 39 2).toNat (fun i hi ih N1 hv => ?_) (fun N1 hv => ?_) N2 ⟨hb.1, hb.2.1, fun n h1 h2 => hb.2.2.1 n h1 (by omega), fun x h1 h2 => by rw [hb.2.2.2.1 x h1 (by omega), bi_f (fun q => by have := q.1; omega)], hb.2.2.2.2⟩
            · skip
              have hW := xW.of hI hv.1 hv.2.2.2.2
              have hP1 := xPs.of hI hv.1
              have hE : eM N N1 := fun a0 h1 h2 => hv.1 a0 (by omega) (by omega) (by omega) (by omega)
              have e392 : N1 39 2 = N 39 2 := hE.at 39 (by decide) (by decide) 2
              have e33 : N1 3 3 = N 39 2 := (congrFun (hv.1 3 (by omega) (by omega) (by omega) (by omega)) 3).trans e3
              have hm1 := hW.m
              have hR1 := hW.R
              refine e_iload q_X11_roll_90 (by decide) rfl ?_
              refine e_aload_n q_X11_roll_92 (by decide) rfl ?_
              refine i_getI (k' := 3) q_X11_roll_93 fl_X11_107 (a3 hB) rfl rfl rfl e33 ?_
              refine e_icmp_ge q_X11_roll_96 (by constructor <;> omega) (by constructor <;> omega) (fun c96 => ?_) (fun c96 => ?_)
              · skip
                exact absurd c96 (by omega)
              · skip
                refine e_aload_n q_X11_roll_99 (by decide) rfl ?_
                refine i_getC (r := 5) q_X11_roll_100 fl_X11_15 (a3 hB) rfl (by decide) ?_
                refine e_iload q_X11_roll_103 (by decide) rfl ?_
                obtain ⟨a9, hp⟩ := hP1.1 (i : Int) (by omega) (by omega)
                obtain ⟨p88, pA, p5, p0, p1, p2, p3, p4, p5f, p6, p7, p8, p9⟩ := id hp
                refine i_aald q_X11_roll_105 (a5 hB) (by decide) (fun _ => rfl) (by omega) (by omega) (by decide) p5 (by omega) ?_
                refine e_iload_n q_X11_roll_106 (by decide) rfl ?_
                refine iv_X4_groupOn q_X11_roll_107 lk_X11_245 (by decide) pA (Nat.le_of_ble_eq_true rfl) ?_
                refine xw_groupOn hW (by omega) (by omega) hp (by omega) ?_
                have hgr := gOn_r hm1 i d
                refine e_iload_n q_X11_roll_110 (by decide) rfl ?_
                refine e_icmp_ne q_X11_roll_111 (by constructor <;> omega) (by constructor <;> omega) (fun c111 => ?_) (fun c111 => ?_)
                · skip
                  refine e_iinc (ls' := [_, _, _, _, _, _, _, _]) q_X11_roll_133 (by decide) rfl rfl rfl ?_
                  refine e_goto q_X11_roll_136 ?_
                  have hnn := hI.m.2.2.1 i (by omega) (by omega)
                  have e43 : N1 43 i = N 43 i := hE.at 43 (by decide) (by decide) i
                  first
                  | (have hmb : ¬ memb N i g d := fun q => c111 ((gOn_m hm1 (by omega)).mpr (by rw [hE.memb_]; exact q))
                     refine zEe (ls := [.ref 3, vi g, vi d, vi w, vi l, vi 0, .ref a, vi ((i + 1 : Nat) : Int)]) (ih _ ⟨hv.1, hv.2.1, fun n h1 h2 => ⟨(hv.2.2.1 n h1 h2).1, ?_⟩, fun x h1 h2 => ?_, hv.2.2.2.2⟩) rfl rfl
                     · rw [(hv.2.2.1 n h1 h2).2]
                       exact (cnt_f' (p := fun v : Nat => memb N v g d ∧ N 43 v = n) (fun q => hmb q.1)).symm
                     · rw [hv.2.2.2.1 x h1 h2]
                       refine bi_c ⟨fun q => ⟨by have := q.1; omega, q.2⟩, fun q => ⟨?_, q.2⟩⟩
                       have q1 := q.1
                       by_cases hx : x = i
                       · exact absurd (by rw [← hx]; exact q.2) hmb
                       · omega)
                  | (have hmb : memb N i g d := by rw [← hE.memb_]; exact (gOn_m hm1 (by omega)).mp c111
                     refine zEe (ls := [.ref 3, vi g, vi d, vi w, vi l, vi 0, .ref a, vi ((i + 1 : Nat) : Int)]) (ih _ ⟨fun a0 h1 h2 h3 h4 => ?_, ?_, fun n h1 h2 => ?_, fun x h1 h2 => ?_, zr_mup (zr_mup hv.2.2.2.2 (by constructor <;> omega)) ?_⟩) rfl rfl
                     · rw [mup_fn h3, mup_fn h4]; exact hv.1 a0 h1 h2 h3 h4
                     · rw [mup_cell (by decide), mup_cell (by decide)]; exact hv.2.1
                     · rw [mup_cell (a := 23) (b := 22) (by decide), mup_cell (a := 24) (b := 22) (by decide)]
                       refine ⟨(hv.2.2.1 n h1 h2).1, ?_⟩
                       by_cases hn : n = N1 43 i
                       · rw [hn, mup_self, (hv.2.2.1 (N1 43 i) (by omega) (by omega)).2]
                         exact (cnt_t (p := fun v : Nat => memb N v g d ∧ N 43 v = N1 43 i) ⟨hmb, e43.symm⟩).symm
                       · rw [mup_slot hn, mup_cell (by decide), (hv.2.2.1 n h1 h2).2]
                         exact (cnt_f' (p := fun v : Nat => memb N v g d ∧ N 43 v = n) (fun q => hn (by rw [e43]; exact q.2.symm))).symm
                     · rw [mup_cell (by decide)]
                       by_cases hx : x = i
                       · rw [hx, mup_self, bi_t ⟨by omega, hmb⟩]
                       · rw [mup_slot hx, hv.2.2.2.1 x h1 h2]
                         exact bi_c ⟨fun q => ⟨by have := q.1; omega, q.2⟩, fun q => ⟨by have := q.1; omega, q.2⟩⟩
                     · rw [(hv.2.2.1 (N1 43 i) (by omega) (by omega)).2]
                       have := nmK_b N g d (N1 43 i) i
                       constructor <;> omega)
                · skip
                  refine e_aload_n q_X11_roll_114 (by decide) rfl ?_
                  refine i_getC (r := 21) q_X11_roll_115 fl_X11_67 (a3 hB) rfl (by decide) ?_
                  refine e_iload q_X11_roll_118 (by decide) rfl ?_
                  refine e_aload_n q_X11_roll_120 (by decide) rfl ?_
                  refine i_getC (r := 5) q_X11_roll_121 fl_X11_15 (a3 hB) rfl (by decide) ?_
                  refine e_iload q_X11_roll_124 (by decide) rfl ?_
                  refine i_aald q_X11_roll_126 (a5 hB) (by decide) (fun _ => rfl) (by omega) (by omega) (by decide) p5 (by omega) ?_
                  refine i_getI (k' := 2) q_X11_roll_127 fl_X11_120 pA (cref0 (by omega) _) rfl rfl p2 ?_
                  refine iv_X6_putMember q_X11_roll_130 lk_X11_380 (by decide) (a21 hB) (Nat.le_of_ble_eq_true rfl) ?_
                  refine xr_putMember hB (by omega) (by have := hm1.2.2.1 i (by omega) (by omega); omega) ?_
                  refine e_iinc (ls' := [_, _, _, _, _, _, _, _]) q_X11_roll_133 (by decide) rfl rfl rfl ?_
                  refine e_goto q_X11_roll_136 ?_
                  have hnn := hI.m.2.2.1 i (by omega) (by omega)
                  have e43 : N1 43 i = N 43 i := hE.at 43 (by decide) (by decide) i
                  first
                  | (have hmb : ¬ memb N i g d := fun q => c111 ((gOn_m hm1 (by omega)).mpr (by rw [hE.memb_]; exact q))
                     refine zEe (ls := [.ref 3, vi g, vi d, vi w, vi l, vi 0, .ref a, vi ((i + 1 : Nat) : Int)]) (ih _ ⟨hv.1, hv.2.1, fun n h1 h2 => ⟨(hv.2.2.1 n h1 h2).1, ?_⟩, fun x h1 h2 => ?_, hv.2.2.2.2⟩) rfl rfl
                     · rw [(hv.2.2.1 n h1 h2).2]
                       exact (cnt_f' (p := fun v : Nat => memb N v g d ∧ N 43 v = n) (fun q => hmb q.1)).symm
                     · rw [hv.2.2.2.1 x h1 h2]
                       refine bi_c ⟨fun q => ⟨by have := q.1; omega, q.2⟩, fun q => ⟨?_, q.2⟩⟩
                       have q1 := q.1
                       by_cases hx : x = i
                       · exact absurd (by rw [← hx]; exact q.2) hmb
                       · omega)
                  | (have hmb : memb N i g d := by rw [← hE.memb_]; exact (gOn_m hm1 (by omega)).mp c111
                     refine zEe (ls := [.ref 3, vi g, vi d, vi w, vi l, vi 0, .ref a, vi ((i + 1 : Nat) : Int)]) (ih _ ⟨fun a0 h1 h2 h3 h4 => ?_, ?_, fun n h1 h2 => ?_, fun x h1 h2 => ?_, zr_mup (zr_mup hv.2.2.2.2 (by constructor <;> omega)) ?_⟩) rfl rfl
                     · rw [mup_fn h3, mup_fn h4]; exact hv.1 a0 h1 h2 h3 h4
                     · rw [mup_cell (by decide), mup_cell (by decide)]; exact hv.2.1
                     · rw [mup_cell (a := 23) (b := 22) (by decide), mup_cell (a := 24) (b := 22) (by decide)]
                       refine ⟨(hv.2.2.1 n h1 h2).1, ?_⟩
                       by_cases hn : n = N1 43 i
                       · rw [hn, mup_self, (hv.2.2.1 (N1 43 i) (by omega) (by omega)).2]
                         exact (cnt_t (p := fun v : Nat => memb N v g d ∧ N 43 v = N1 43 i) ⟨hmb, e43.symm⟩).symm
                       · rw [mup_slot hn, mup_cell (by decide), (hv.2.2.1 n h1 h2).2]
                         exact (cnt_f' (p := fun v : Nat => memb N v g d ∧ N 43 v = n) (fun q => hn (by rw [e43]; exact q.2.symm))).symm
                     · rw [mup_cell (by decide)]
                       by_cases hx : x = i
                       · rw [hx, mup_self, bi_t ⟨by omega, hmb⟩]
                       · rw [mup_slot hx, hv.2.2.2.1 x h1 h2]
                         exact bi_c ⟨fun q => ⟨by have := q.1; omega, q.2⟩, fun q => ⟨by have := q.1; omega, q.2⟩⟩
                     · rw [(hv.2.2.1 (N1 43 i) (by omega) (by omega)).2]
                       have := nmK_b N g d (N1 43 i) i
                       constructor <;> omega)
            · skip
              have hW := xW.of hI hv.1 hv.2.2.2.2
              have hP1 := xPs.of hI hv.1
              have hE : eM N N1 := fun a0 h1 h2 => hv.1 a0 (by omega) (by omega) (by omega) (by omega)
              have e392 : N1 39 2 = N 39 2 := hE.at 39 (by decide) (by decide) 2
              have e33 : N1 3 3 = N 39 2 := (congrFun (hv.1 3 (by omega) (by omega) (by omega) (by omega)) 3).trans e3
              have hm1 := hW.m
              have hR1 := hW.R
              refine e_iload q_X11_roll_90 (by decide) rfl ?_
              refine e_aload_n q_X11_roll_92 (by decide) rfl ?_
              refine i_getI (k' := 3) q_X11_roll_93 fl_X11_107 (a3 hB) rfl rfl rfl e33 ?_
              refine e_icmp_ge q_X11_roll_96 (by constructor <;> omega) (by constructor <;> omega) (fun c96 => ?_) (fun c96 => ?_)
              · skip
                refine e_aload_n q_X11_roll_139 (by decide) rfl ?_
                refine i_getC (r := 21) q_X11_roll_140 fl_X11_67 (a3 hB) rfl (by decide) ?_
                refine iv_X6_leftOutOfAll q_X11_roll_143 lk_X11_383 (by decide) (a21 hB) (Nat.le_of_ble_eq_true rfl) ?_
                refine xr_leftOutOfAll hB (fun n h1 h2 => by have q := hv.2.2.1 n h1 h2; rw [q.1, q.2]; have := nmK_b N g d n (N 39 2).toNat; have := rlK_b N w n (N 83 w).toNat; constructor <;> omega) ?_
                refine e_ireturn q_X11_roll_146 rfl rfl ?_
                exact zqI (h4 hg hok hits N1 hv) (sumK_c (fun n hn => by rw [(hv.2.2.1 n (by omega) (by omega)).1, (hv.2.2.1 n (by omega) (by omega)).2]))
              · skip
                exact absurd (by omega) c96
          · skip
            exact absurd (by omega) c52
      · skip
        refine e_iload q_X11_roll_31 (by decide) rfl ?_
        refine e_ireturn q_X11_roll_33 rfl rfl ?_
        exact h2 ⟨c5, c12⟩ c28
    · skip
      refine e_iconst q_X11_roll_15 ?_
      refine e_ireturn q_X11_roll_16 rfl rfl ?_
      first | exact h1 (fun q => c5 q.1) | exact h1 (fun q => c12 q.2)
end RT14
