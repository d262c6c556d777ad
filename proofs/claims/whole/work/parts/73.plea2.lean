/-! pleas, 2 (printed by wip/whole/gen/r11.py) -/
section RT11
variable {X : zX} {s : zK} {N : zN} {σ : zS} {fa sa : Int → Int} {Q K : Option Value → zS → Prop} {c : Int}
/-- what a plea leaves in the system's cells -/
def plS (s : zK) (N : zN) (w fi : Int) (f : Nat) (N4 : zN) : Prop :=
  (∀ a : Nat, a < s.1.1 → a ≠ 11 → a ≠ 3 → N4 a = N a) ∧ (∀ x : Int, x ≠ N 39 50 → N4 11 x = N 11 x) ∧ N4 11 (N 39 50) = (s.1.1 : Int) ∧ (∀ x : Int, x ≠ 10 → N4 3 x = N 3 x) ∧ N4 3 10 = N 39 50 + 1 ∧
  (N4 s.1.1 0 = w ∧ N4 s.1.1 1 = (f : Int) ∧ N4 s.1.1 2 = gAhead N (lastF N w) ∧ N4 s.1.1 3 = fi ∧ N4 s.1.1 4 = ((s.1.1 + 1 : Nat) : Int) ∧ N4 s.1.1 5 = ((s.1.1 + 2 : Nat) : Int) ∧ N4 s.1.1 6 = cnt (fun x : Nat => ansP N w (gAhead N (lastF N w)) (N 49 (lastF N w)) x) (N 39 2).toNat ∧ N4 s.1.1 7 = 0 ∧ N4 s.1.1 8 = 0) ∧
  (∀ x : Int, N4 (s.1.1 + 1) x = if 0 ≤ x ∧ x < (N 39 2).toNat then bi (ansP N w (gAhead N (lastF N w)) (N 49 (lastF N w)) x) else 0) ∧ (∀ x : Int, N4 (s.1.1 + 2) x = 0) ∧ zG (z_ns (z_ns (z_ns s (5, 0) 9) (21, 48) 48) (20, 48) 48) N4
set_option maxRecDepth 20000 in
set_option maxHeartbeats 2000000 in
theorem x_plea (hI : xI s N fa sa) (hy : yI N) (hadr : zr ((s.1.1 : Nat) : Int)) {w : Int} (hw : zr w) {fi : Int} (hfi : zr fi) (hadr2 : s.1.1 < 2000000) (h1 : ¬ ((0 ≤ w ∧ w < N 39 2) ∧ (1 ≤ fi ∧ fi ≤ 9999)) → Q (some (vi (-1))) (zI s N)) (h2 : ((0 ≤ w ∧ w < N 39 2) ∧ (1 ≤ fi ∧ fi ≤ 9999)) → ¬ (0 ≤ lastF N w ∧ (¬ ∃ p : Nat, (p : Int) < N 39 50 ∧ N 74 p = lastF N w) ∧ gAhead N (lastF N w) ≠ -4) → Q (some (vi (-2))) (zI s N)) (h3 : ((0 ≤ w ∧ w < N 39 2) ∧ (1 ≤ fi ∧ fi ≤ 9999)) → 0 ≤ lastF N w ∧ (¬ ∃ p : Nat, (p : Int) < N 39 50 ∧ N 74 p = lastF N w) ∧ gAhead N (lastF N w) ≠ -4 → N 39 50 = 20 → Q (some (vi (-3))) (zI s N)) (h4 : ∀ f : Nat, ((0 ≤ w ∧ w < N 39 2) ∧ (1 ≤ fi ∧ fi ≤ 9999)) → 0 ≤ lastF N w ∧ (¬ ∃ p : Nat, (p : Int) < N 39 50 ∧ N 74 p = lastF N w) ∧ gAhead N (lastF N w) ≠ -4 → N 39 50 < 20 → xFlt s N fa (lastF N w) f → ∀ N4, plS s N w fi f N4 → Q (some (vi (N 39 50))) (zI (z_ns (z_ns (z_ns s (5, 0) 9) (21, 48) 48) (20, 48) 48) N4)) : zC X m_X11_plea [.ref 3, vi w, vi fi] (zI s N) Q := by
  have hB := hI.B
  have hR := hI.R
  have hC := hI.C
  unfold mCnt at hC
  have hm := hI.m
  obtain ⟨e1, e5, e7, e8, e10, e11, e3, e12, eh, eg, ef, et⟩ := hI.hs
  have n88 := hI.B.1
  have hz := hI.2.1.2
  show zE X m_X11_plea 0 [.ref 3, vi w, vi fi, zU, zU, zU, zU, zU] [] _ Q
  refine e_aload_n q_X11_plea_0 (by decide) rfl ?_
  refine e_iload_n q_X11_plea_1 (by decide) rfl ?_
  refine iv_X11_personAt q_X11_plea_2 lk_X11_113 (by decide) (a3 hB) (Nat.le_of_ble_eq_true rfl) ?_
  refine x_personAt hI hw (fun hw1 => ?_) (fun a hw1 hp => ?_)
  · skip
    refine e_astore_nN (ls' := [_, _, _, _, _, _, _, _]) q_X11_plea_5 (by decide) rfl rfl ?_
    refine e_aload_nN q_X11_plea_6 (by decide) rfl ?_
    refine e_ifnullN q_X11_plea_7 ?_
    refine e_iconst q_X11_plea_22 ?_
    refine e_ireturn q_X11_plea_23 rfl rfl ?_
    first | exact h1 (fun q => hw1 q.1) | exact h1 (fun q => by have := q.2; omega)
  · skip
    obtain ⟨p88, pA, p5, p0, p1, p2, p3, p4, p5f, p6, p7, p8, p9⟩ := id hp
    refine e_astore_n (ls' := [_, _, _, _, _, _, _, _]) q_X11_plea_5 (by decide) rfl rfl ?_
    refine e_aload_n q_X11_plea_6 (by decide) rfl ?_
    refine e_ifnull q_X11_plea_7 ?_
    refine e_iload_n q_X11_plea_10 (by decide) rfl ?_
    refine e_iconst q_X11_plea_11 ?_
    refine e_icmp_lt q_X11_plea_12 (by constructor <;> omega) (by constructor <;> omega) (fun c12 => ?_) (fun c12 => ?_)
    · skip
      refine e_iconst q_X11_plea_22 ?_
      refine e_ireturn q_X11_plea_23 rfl rfl ?_
      first | exact h1 (fun q => hw1 q.1) | exact h1 (fun q => by have := q.2; omega)
    · skip
      refine e_iload_n q_X11_plea_15 (by decide) rfl ?_
      refine e_sipush q_X11_plea_16 (by decide) ?_
      refine e_icmp_le q_X11_plea_19 (by constructor <;> omega) (by constructor <;> omega) (fun c19 => ?_) (fun c19 => ?_)
      · skip
        have hg : ((0 ≤ w ∧ w < N 39 2) ∧ (1 ≤ fi ∧ fi ≤ 9999)) := ⟨hw1, by omega⟩
        have hlb := lastF_b N w
        by_cases hl : 0 ≤ lastF N w
        · skip
          refine e_aload_n q_X11_plea_24 (by decide) rfl ?_
          obtain ⟨f, hb⟩ := hI.fs.1 (lastF N w) (by omega) (by omega)
          obtain ⟨f88, fA, ff, f0, f1, f2⟩ := id hb
          have p8b : N a 8 = (f : Int) := by rw [p8, orZ_p (by omega)]; exact ff
          have hflt := hm.2.2.2.1 (lastF N w) hl (by omega)
          have hflt2 := fA.2.1
          refine i_getR (k' := 8) q_X11_plea_25 fl_X11_169 pA (cref0 (by omega) _) rfl rfl p8b (by omega) ?_
          refine e_astore (ls' := [_, _, _, _, _, _, _, _]) q_X11_plea_28 (by decide) rfl rfl ?_
          refine e_aload q_X11_plea_30 (by decide) rfl ?_
          refine e_ifnull q_X11_plea_32 ?_
          refine e_aload_n q_X11_plea_35 (by decide) rfl ?_
          refine e_iload_n q_X11_plea_36 (by decide) rfl ?_
          refine e_aload q_X11_plea_37 (by decide) rfl ?_
          refine i_getI (k' := 0) q_X11_plea_39 fl_X11_176 fA (cref0 (by omega) _) rfl rfl f0 ?_
          refine iv_X11_hasPlea q_X11_plea_42 lk_X11_291 (by decide) (a3 hB) (Nat.le_of_ble_eq_true rfl) ?_
          refine x_hasPlea hI hw (hR _ _) ?_
          refine e_ifb_eq q_X11_plea_45 (fun c45 => ?_) (fun c45 => ?_)
          · skip
            refine e_aload q_X11_plea_51 (by decide) rfl ?_
            refine i_getI (k' := 0) q_X11_plea_53 fl_X11_176 fA (cref0 (by omega) _) rfl rfl f0 ?_
            refine e_iconst q_X11_plea_56 ?_
            refine e_isub q_X11_plea_57 ?_
            refine e_istore (ls' := [_, _, _, _, _, _, _, _]) q_X11_plea_58 (by decide) rfl rfl ?_
            refine e_aload_n q_X11_plea_60 (by decide) rfl ?_
            refine i_getI (k' := 0) q_X11_plea_61 fl_X11_117 pA (cref0 (by omega) _) rfl rfl p0 ?_
            refine e_iconst q_X11_plea_64 ?_
            refine e_icmp_ne q_X11_plea_65 (by have := hm.2.2.1 w hw1.1 hw1.2; constructor <;> omega) (by have := hm.2.2.1 w hw1.1 hw1.2; constructor <;> omega) (fun c65 => ?_) (fun c65 => ?_)
            · skip
              refine e_aload_n q_X11_plea_79 (by decide) rfl ?_
              refine e_iload q_X11_plea_80 (by decide) rfl ?_
              refine iv_X4_groupOn q_X11_plea_82 lk_X11_245 (by decide) pA (Nat.le_of_ble_eq_true rfl) ?_
              refine x_groupOn hI hw1.1 hw1.2 hp (by omega) ?_
              have hge := gAh_e hm hl
              have hgg := gAh_g hm hl
              first | rw [if_pos (by omega)] at hge | rw [if_neg (by omega)] at hge
              rw [← hge]
              refine e_istore (ls' := [_, _, _, _, _, _, _, _]) q_X11_plea_85 (by decide) rfl rfl ?_
              refine e_iload q_X11_plea_87 (by decide) rfl ?_
              refine e_bipush q_X11_plea_89 (by decide) ?_
              refine e_icmp_ne q_X11_plea_91 (by constructor <;> omega) (by constructor <;> omega) (fun c91 => ?_) (fun c91 => ?_)
              · skip
                refine e_aload_n q_X11_plea_97 (by decide) rfl ?_
                refine i_getI (k' := 10) q_X11_plea_98 fl_X11_294 (a3 hB) rfl rfl rfl e10 ?_
                refine e_bipush q_X11_plea_101 (by decide) ?_
                refine e_icmp_lt q_X11_plea_103 (by constructor <;> omega) (by constructor <;> omega) (fun c103 => ?_) (fun c103 => ?_)
                · skip
                  refine i_new q_X11_plea_109 kd_5 cl_X11_35 inst_5 ini_X5 (by omega) (fun j => hz _ (Nat.le_refl _) j) df_5 ?_
                  have nA := zA_new (s := s) (sp := (5, 0)) (sl := 9) (by omega)
                  have hB := hB.k (sK.ns (sp := (5, 0)) (sl := 9))
                  refine e_dup q_X11_plea_112 rfl ?_
                  refine e_iload_n q_X11_plea_113 (by decide) rfl ?_
                  refine e_aload q_X11_plea_114 (by decide) rfl ?_
                  refine e_iload q_X11_plea_116 (by decide) rfl ?_
                  refine e_iload_n q_X11_plea_118 (by decide) rfl ?_
                  refine iv_X5_init rfl q_X11_plea_119 lk_X11_297 (by decide) (Nat.le_of_ble_eq_true rfl) ?_
                  refine x_init5 (f := f) n88 nA (fun a0 ha j => hz a0 (Nat.le_of_succ_le ha) j) (by omega) ?_
                  refine e_astore (ls' := [_, _, _, _, _, _, _, _]) q_X11_plea_122 (by decide) rfl rfl ?_
                  have hsK : sK s (z_ns (z_ns (z_ns s (5, 0) 9) (21, 48) 48) (20, 48) 48) := (sK.ns.trans sK.ns).trans sK.ns
                  have bA3 : zA (z_ns (z_ns (z_ns s (5, 0) 9) (21, 48) 48) (20, 48) 48) s.1.1 (5, 0) := (sK.ns.trans sK.ns).A nA
                  have e1A : zA (z_ns (z_ns (z_ns s (5, 0) 9) (21, 48) 48) (20, 48) 48) (s.1.1 + 1) (21, 48) := sK.ns.A (zA_new (s := z_ns s (5, 0) 9) (sp := (21, 48)) (sl := 48) (by show 40 ≤ s.1.1 + 1; omega))
                  have hB := hI.B.k hsK
                  have hx0 : ∀ a0 : Nat, a0 ≠ s.1.1 → (xn_pl N s.1.1 (s.1.1 + 1) (s.1.1 + 2) w f (gAhead N (lastF N w)) fi) a0 = N a0 := fun a0 h => funext fun x => by
                    unfold xn_pl
                    rw [mup_cell h, mup_cell h, mup_cell h, mup_cell h, mup_cell h, mup_cell h]
                  have hlt3 : (z_ns (z_ns (z_ns s (5, 0) 9) (21, 48) 48) (20, 48) 48).1.1 = s.1.1 + 3 := rfl
                  have hG2 : zG (z_ns (z_ns (z_ns s (5, 0) 9) (21, 48) 48) (20, 48) 48) (xn_pl N s.1.1 (s.1.1 + 1) (s.1.1 + 2) w f (gAhead N (lastF N w)) fi) := by
                    unfold xn_pl
                    refine zG_mup (zG_mup (zG_mup (zG_mup (zG_mup (zG_mup (zG_ns (zG_ns (zG_ns hI.2.1))) ?_ ?_) ?_ ?_) ?_ ?_) ?_ ?_) ?_ ?_) ?_ ?_
                    all_goals first | (show s.1.1 < s.1.1 + 1 + 1 + 1; omega) | (constructor <;> omega)
                  have hz1 := hz (s.1.1 + 1) (by omega)
                  have hz0 := hz s.1.1 (by omega)
                  have xb : ∀ x : Int, x ≠ 0 → x ≠ 1 → x ≠ 2 → x ≠ 3 → x ≠ 4 → x ≠ 5 → (xn_pl N s.1.1 (s.1.1 + 1) (s.1.1 + 2) w f (gAhead N (lastF N w)) fi) s.1.1 x = 0 := fun x h0 h1 h2 h3 h4 h5 => by
                    unfold xn_pl
                    rw [mup_slot h3, mup_slot h2, mup_slot h1, mup_slot h0, mup_slot h5, mup_slot h4, hz0]
                  have xb0 : (xn_pl N s.1.1 (s.1.1 + 1) (s.1.1 + 2) w f (gAhead N (lastF N w)) fi) s.1.1 0 = w := (mup_slot (by decide)).trans ((mup_slot (by decide)).trans ((mup_slot (by decide)).trans (mup_self _ _ _ _)))
                  have xb1 : (xn_pl N s.1.1 (s.1.1 + 1) (s.1.1 + 2) w f (gAhead N (lastF N w)) fi) s.1.1 1 = (f : Int) := (mup_slot (by decide)).trans ((mup_slot (by decide)).trans (mup_self _ _ _ _))
                  have xb2 : (xn_pl N s.1.1 (s.1.1 + 1) (s.1.1 + 2) w f (gAhead N (lastF N w)) fi) s.1.1 2 = gAhead N (lastF N w) := (mup_slot (by decide)).trans (mup_self _ _ _ _)
                  have xb3 : (xn_pl N s.1.1 (s.1.1 + 1) (s.1.1 + 2) w f (gAhead N (lastF N w)) fi) s.1.1 3 = fi := mup_self _ _ _ _
                  have xb4 : (xn_pl N s.1.1 (s.1.1 + 1) (s.1.1 + 2) w f (gAhead N (lastF N w)) fi) s.1.1 4 = ((s.1.1 + 1 : Nat) : Int) := (mup_slot (by decide)).trans ((mup_slot (by decide)).trans ((mup_slot (by decide)).trans ((mup_slot (by decide)).trans ((mup_slot (by decide)).trans (mup_self _ _ _ _)))))
                  have xb5 : (xn_pl N s.1.1 (s.1.1 + 1) (s.1.1 + 2) w f (gAhead N (lastF N w)) fi) s.1.1 5 = ((s.1.1 + 2 : Nat) : Int) := (mup_slot (by decide)).trans ((mup_slot (by decide)).trans ((mup_slot (by decide)).trans ((mup_slot (by decide)).trans (mup_self _ _ _ _))))
                  have e1z : ∀ x, (xn_pl N s.1.1 (s.1.1 + 1) (s.1.1 + 2) w f (gAhead N (lastF N w)) fi) (s.1.1 + 1) x = 0 := fun x => by rw [hx0 _ (by omega)]; exact hz1 x
                  refine e_aload_n q_X11_plea_124 (by decide) rfl ?_
                  refine e_aload q_X11_plea_125 (by decide) rfl ?_
                  refine iv_X11_callToAnswer rfl q_X11_plea_127 lk_X11_300 (by decide) (a3 hB) (Nat.le_of_ble_eq_true rfl) ?_
                  refine x_callToAnswer (s0 := s) (N2 := (xn_pl N s.1.1 (s.1.1 + 1) (s.1.1 + 2) w f (gAhead N (lastF N w)) fi)) (f := f) (b := s.1.1) (e1 := s.1.1 + 1) hI hy hsK (fun a0 h => hx0 a0 (by omega)) hG2 hw (by omega) (d := N 49 (lastF N w)) (by omega) (Nat.le_refl _) (Nat.le_succ _) (by omega) bA3 e1A f88 (by omega) (hsK.A fA) xb0 xb1 xb2 xb4 (xb 6 (by decide) (by decide) (by decide) (by decide) (by decide) (by decide)) e1z (by rw [hx0 f (by omega)]; exact f0) (fun N3 hv => ?_)
                  have e310 : N3 3 10 = N 39 50 := (congrFun ((hv.2.1 3 (by omega) (by omega)).trans (hx0 3 (by omega))) 10).trans e10
                  refine e_aload_n q_X11_plea_130 (by decide) rfl ?_
                  refine i_getC (r := 11) q_X11_plea_131 fl_X11_37 (a3 hB) rfl (by decide) ?_
                  refine e_aload_n q_X11_plea_134 (by decide) rfl ?_
                  refine i_getI (k' := 10) q_X11_plea_135 fl_X11_294 (a3 hB) rfl rfl rfl e310 ?_
                  refine e_aload q_X11_plea_138 (by decide) rfl ?_
                  refine i_aast q_X11_plea_140 (a11 hB) (by decide) bA3 kd_5 rfl (fun _ => rfl) (by omega) (by omega) (by decide) ?_
                  refine e_aload_n q_X11_plea_141 (by decide) rfl ?_
                  refine e_dup q_X11_plea_142 rfl ?_
                  refine i_getI (k' := 10) q_X11_plea_143 fl_X11_294 (a3 hB) rfl rfl rfl ((mup_cell (by decide)).trans e310) ?_
                  refine e_iconst q_X11_plea_146 ?_
                  refine e_iadd q_X11_plea_147 ?_
                  refine i_putI (k' := 10) q_X11_plea_148 fl_X11_294 (Or.inl rfl) (a3 hB) rfl rfl rfl rfl rfl ?_
                  refine e_aload_n q_X11_plea_151 (by decide) rfl ?_
                  refine i_getI (k' := 10) q_X11_plea_152 fl_X11_294 (a3 hB) rfl rfl rfl (mup_self _ _ _ _) ?_
                  refine e_iconst q_X11_plea_155 ?_
                  refine e_isub q_X11_plea_156 ?_
                  refine e_ireturn q_X11_plea_157 rfl rfl ?_
                  refine zqI (h4 f hg ⟨hl, fun q => c45 ((plea_e hm hI.ord hl).mpr q), by omega⟩ (by omega) hb _ ?_) (by omega)
                  have hlow : ∀ a0 : Nat, a0 < s.1.1 → N3 a0 = N a0 := fun a0 h1 => (hv.2.1 a0 (by omega) (by omega)).trans (hx0 a0 (by omega))
                  have hne : ∀ a0 : Nat, a0 ≠ 11 → a0 ≠ 3 → mup (mup N3 11 (N 39 50) (s.1.1 : Nat)) 3 10 (N 39 50 + 1) a0 = N3 a0 := fun a0 h1 h2 => by rw [mup_fn h2, mup_fn h1]
                  refine ⟨fun a0 h1 h2 h3 => (hne a0 h2 h3).trans (hlow a0 h1), fun x hx => ?_, ?_, fun x hx => ?_, mup_self _ _ _ _, ⟨?_, ?_, ?_, ?_, ?_, ?_, ?_, ?_, ?_⟩, fun x => ?_, fun x => ?_, ?_⟩
                  · rw [mup_cell (by decide), mup_slot hx, hlow 11 (by omega)]
                  · rw [mup_cell (by decide), mup_self]
                  · rw [mup_slot hx, mup_cell (by decide), hlow 3 (by omega)]
                  · rw [hne _ (by omega) (by omega), hv.2.2.1 0 (by decide)]; exact xb0
                  · rw [hne _ (by omega) (by omega), hv.2.2.1 1 (by decide)]; exact xb1
                  · rw [hne _ (by omega) (by omega), hv.2.2.1 2 (by decide)]; exact xb2
                  · rw [hne _ (by omega) (by omega), hv.2.2.1 3 (by decide)]; exact xb3
                  · rw [hne _ (by omega) (by omega), hv.2.2.1 4 (by decide)]; exact xb4
                  · rw [hne _ (by omega) (by omega), hv.2.2.1 5 (by decide)]; exact xb5
                  · rw [hne _ (by omega) (by omega)]; exact hv.2.2.2.1
                  · rw [hne _ (by omega) (by omega), hv.2.2.1 7 (by decide)]; exact xb 7 (by decide) (by decide) (by decide) (by decide) (by decide) (by decide)
                  · rw [hne _ (by omega) (by omega), hv.2.2.1 8 (by decide)]; exact xb 8 (by decide) (by decide) (by decide) (by decide) (by decide) (by decide)
                  · rw [hne _ (by omega) (by omega)]; exact hv.2.2.2.2 x
                  · rw [hne _ (by omega) (by omega), hv.2.1 _ (by omega) (by omega), hx0 _ (by omega)]; exact hz _ (by omega) x
                  · exact zG_mup (zG_mup hv.1 (by show 11 < s.1.1 + 1 + 1 + 1; omega) hadr) (by show 3 < s.1.1 + 1 + 1 + 1; omega) (by constructor <;> omega)
                · skip
                  refine e_bipush q_X11_plea_106 (by decide) ?_
                  refine e_ireturn q_X11_plea_108 rfl rfl ?_
                  exact h3 hg ⟨hl, fun q => c45 ((plea_e hm hI.ord hl).mpr q), by omega⟩ (by omega)
              · skip
                refine e_bipush q_X11_plea_94 (by decide) ?_
                refine e_ireturn q_X11_plea_96 rfl rfl ?_
                exact h2 hg (fun q => q.2.2 (by omega))
            · skip
              refine e_aload_n q_X11_plea_68 (by decide) rfl ?_
              refine e_iload_n q_X11_plea_69 (by decide) rfl ?_
              refine e_aload_n q_X11_plea_70 (by decide) rfl ?_
              refine e_iload q_X11_plea_71 (by decide) rfl ?_
              refine iv_X11_groupCharged rfl q_X11_plea_73 lk_X11_265 (by decide) (a3 hB) (Nat.le_of_ble_eq_true rfl) ?_
              refine x_groupCharged hI hw1.1 hw1.2 hp (by omega) ?_
              refine e_goto q_X11_plea_76 ?_
              have hge := gAh_e hm hl
              have hgg := gAh_g hm hl
              first | rw [if_pos (by omega)] at hge | rw [if_neg (by omega)] at hge
              rw [← hge]
              refine e_istore (ls' := [_, _, _, _, _, _, _, _]) q_X11_plea_85 (by decide) rfl rfl ?_
              refine e_iload q_X11_plea_87 (by decide) rfl ?_
              refine e_bipush q_X11_plea_89 (by decide) ?_
              refine e_icmp_ne q_X11_plea_91 (by constructor <;> omega) (by constructor <;> omega) (fun c91 => ?_) (fun c91 => ?_)
              · skip
                refine e_aload_n q_X11_plea_97 (by decide) rfl ?_
                refine i_getI (k' := 10) q_X11_plea_98 fl_X11_294 (a3 hB) rfl rfl rfl e10 ?_
                refine e_bipush q_X11_plea_101 (by decide) ?_
                refine e_icmp_lt q_X11_plea_103 (by constructor <;> omega) (by constructor <;> omega) (fun c103 => ?_) (fun c103 => ?_)
                · skip
                  refine i_new q_X11_plea_109 kd_5 cl_X11_35 inst_5 ini_X5 (by omega) (fun j => hz _ (Nat.le_refl _) j) df_5 ?_
                  have nA := zA_new (s := s) (sp := (5, 0)) (sl := 9) (by omega)
                  have hB := hB.k (sK.ns (sp := (5, 0)) (sl := 9))
                  refine e_dup q_X11_plea_112 rfl ?_
                  refine e_iload_n q_X11_plea_113 (by decide) rfl ?_
                  refine e_aload q_X11_plea_114 (by decide) rfl ?_
                  refine e_iload q_X11_plea_116 (by decide) rfl ?_
                  refine e_iload_n q_X11_plea_118 (by decide) rfl ?_
                  refine iv_X5_init rfl q_X11_plea_119 lk_X11_297 (by decide) (Nat.le_of_ble_eq_true rfl) ?_
                  refine x_init5 (f := f) n88 nA (fun a0 ha j => hz a0 (Nat.le_of_succ_le ha) j) (by omega) ?_
                  refine e_astore (ls' := [_, _, _, _, _, _, _, _]) q_X11_plea_122 (by decide) rfl rfl ?_
                  have hsK : sK s (z_ns (z_ns (z_ns s (5, 0) 9) (21, 48) 48) (20, 48) 48) := (sK.ns.trans sK.ns).trans sK.ns
                  have bA3 : zA (z_ns (z_ns (z_ns s (5, 0) 9) (21, 48) 48) (20, 48) 48) s.1.1 (5, 0) := (sK.ns.trans sK.ns).A nA
                  have e1A : zA (z_ns (z_ns (z_ns s (5, 0) 9) (21, 48) 48) (20, 48) 48) (s.1.1 + 1) (21, 48) := sK.ns.A (zA_new (s := z_ns s (5, 0) 9) (sp := (21, 48)) (sl := 48) (by show 40 ≤ s.1.1 + 1; omega))
                  have hB := hI.B.k hsK
                  have hx0 : ∀ a0 : Nat, a0 ≠ s.1.1 → (xn_pl N s.1.1 (s.1.1 + 1) (s.1.1 + 2) w f (gAhead N (lastF N w)) fi) a0 = N a0 := fun a0 h => funext fun x => by
                    unfold xn_pl
                    rw [mup_cell h, mup_cell h, mup_cell h, mup_cell h, mup_cell h, mup_cell h]
                  have hlt3 : (z_ns (z_ns (z_ns s (5, 0) 9) (21, 48) 48) (20, 48) 48).1.1 = s.1.1 + 3 := rfl
                  have hG2 : zG (z_ns (z_ns (z_ns s (5, 0) 9) (21, 48) 48) (20, 48) 48) (xn_pl N s.1.1 (s.1.1 + 1) (s.1.1 + 2) w f (gAhead N (lastF N w)) fi) := by
                    unfold xn_pl
                    refine zG_mup (zG_mup (zG_mup (zG_mup (zG_mup (zG_mup (zG_ns (zG_ns (zG_ns hI.2.1))) ?_ ?_) ?_ ?_) ?_ ?_) ?_ ?_) ?_ ?_) ?_ ?_
                    all_goals first | (show s.1.1 < s.1.1 + 1 + 1 + 1; omega) | (constructor <;> omega)
                  have hz1 := hz (s.1.1 + 1) (by omega)
                  have hz0 := hz s.1.1 (by omega)
                  have xb : ∀ x : Int, x ≠ 0 → x ≠ 1 → x ≠ 2 → x ≠ 3 → x ≠ 4 → x ≠ 5 → (xn_pl N s.1.1 (s.1.1 + 1) (s.1.1 + 2) w f (gAhead N (lastF N w)) fi) s.1.1 x = 0 := fun x h0 h1 h2 h3 h4 h5 => by
                    unfold xn_pl
                    rw [mup_slot h3, mup_slot h2, mup_slot h1, mup_slot h0, mup_slot h5, mup_slot h4, hz0]
                  have xb0 : (xn_pl N s.1.1 (s.1.1 + 1) (s.1.1 + 2) w f (gAhead N (lastF N w)) fi) s.1.1 0 = w := (mup_slot (by decide)).trans ((mup_slot (by decide)).trans ((mup_slot (by decide)).trans (mup_self _ _ _ _)))
                  have xb1 : (xn_pl N s.1.1 (s.1.1 + 1) (s.1.1 + 2) w f (gAhead N (lastF N w)) fi) s.1.1 1 = (f : Int) := (mup_slot (by decide)).trans ((mup_slot (by decide)).trans (mup_self _ _ _ _))
                  have xb2 : (xn_pl N s.1.1 (s.1.1 + 1) (s.1.1 + 2) w f (gAhead N (lastF N w)) fi) s.1.1 2 = gAhead N (lastF N w) := (mup_slot (by decide)).trans (mup_self _ _ _ _)
                  have xb3 : (xn_pl N s.1.1 (s.1.1 + 1) (s.1.1 + 2) w f (gAhead N (lastF N w)) fi) s.1.1 3 = fi := mup_self _ _ _ _
                  have xb4 : (xn_pl N s.1.1 (s.1.1 + 1) (s.1.1 + 2) w f (gAhead N (lastF N w)) fi) s.1.1 4 = ((s.1.1 + 1 : Nat) : Int) := (mup_slot (by decide)).trans ((mup_slot (by decide)).trans ((mup_slot (by decide)).trans ((mup_slot (by decide)).trans ((mup_slot (by decide)).trans (mup_self _ _ _ _)))))
                  have xb5 : (xn_pl N s.1.1 (s.1.1 + 1) (s.1.1 + 2) w f (gAhead N (lastF N w)) fi) s.1.1 5 = ((s.1.1 + 2 : Nat) : Int) := (mup_slot (by decide)).trans ((mup_slot (by decide)).trans ((mup_slot (by decide)).trans ((mup_slot (by decide)).trans (mup_self _ _ _ _))))
                  have e1z : ∀ x, (xn_pl N s.1.1 (s.1.1 + 1) (s.1.1 + 2) w f (gAhead N (lastF N w)) fi) (s.1.1 + 1) x = 0 := fun x => by rw [hx0 _ (by omega)]; exact hz1 x
                  refine e_aload_n q_X11_plea_124 (by decide) rfl ?_
                  refine e_aload q_X11_plea_125 (by decide) rfl ?_
                  refine iv_X11_callToAnswer rfl q_X11_plea_127 lk_X11_300 (by decide) (a3 hB) (Nat.le_of_ble_eq_true rfl) ?_
                  refine x_callToAnswer (s0 := s) (N2 := (xn_pl N s.1.1 (s.1.1 + 1) (s.1.1 + 2) w f (gAhead N (lastF N w)) fi)) (f := f) (b := s.1.1) (e1 := s.1.1 + 1) hI hy hsK (fun a0 h => hx0 a0 (by omega)) hG2 hw (by omega) (d := N 49 (lastF N w)) (by omega) (Nat.le_refl _) (Nat.le_succ _) (by omega) bA3 e1A f88 (by omega) (hsK.A fA) xb0 xb1 xb2 xb4 (xb 6 (by decide) (by decide) (by decide) (by decide) (by decide) (by decide)) e1z (by rw [hx0 f (by omega)]; exact f0) (fun N3 hv => ?_)
                  have e310 : N3 3 10 = N 39 50 := (congrFun ((hv.2.1 3 (by omega) (by omega)).trans (hx0 3 (by omega))) 10).trans e10
                  refine e_aload_n q_X11_plea_130 (by decide) rfl ?_
                  refine i_getC (r := 11) q_X11_plea_131 fl_X11_37 (a3 hB) rfl (by decide) ?_
                  refine e_aload_n q_X11_plea_134 (by decide) rfl ?_
                  refine i_getI (k' := 10) q_X11_plea_135 fl_X11_294 (a3 hB) rfl rfl rfl e310 ?_
                  refine e_aload q_X11_plea_138 (by decide) rfl ?_
                  refine i_aast q_X11_plea_140 (a11 hB) (by decide) bA3 kd_5 rfl (fun _ => rfl) (by omega) (by omega) (by decide) ?_
                  refine e_aload_n q_X11_plea_141 (by decide) rfl ?_
                  refine e_dup q_X11_plea_142 rfl ?_
                  refine i_getI (k' := 10) q_X11_plea_143 fl_X11_294 (a3 hB) rfl rfl rfl ((mup_cell (by decide)).trans e310) ?_
                  refine e_iconst q_X11_plea_146 ?_
                  refine e_iadd q_X11_plea_147 ?_
                  refine i_putI (k' := 10) q_X11_plea_148 fl_X11_294 (Or.inl rfl) (a3 hB) rfl rfl rfl rfl rfl ?_
                  refine e_aload_n q_X11_plea_151 (by decide) rfl ?_
                  refine i_getI (k' := 10) q_X11_plea_152 fl_X11_294 (a3 hB) rfl rfl rfl (mup_self _ _ _ _) ?_
                  refine e_iconst q_X11_plea_155 ?_
                  refine e_isub q_X11_plea_156 ?_
                  refine e_ireturn q_X11_plea_157 rfl rfl ?_
                  refine zqI (h4 f hg ⟨hl, fun q => c45 ((plea_e hm hI.ord hl).mpr q), by omega⟩ (by omega) hb _ ?_) (by omega)
                  have hlow : ∀ a0 : Nat, a0 < s.1.1 → N3 a0 = N a0 := fun a0 h1 => (hv.2.1 a0 (by omega) (by omega)).trans (hx0 a0 (by omega))
                  have hne : ∀ a0 : Nat, a0 ≠ 11 → a0 ≠ 3 → mup (mup N3 11 (N 39 50) (s.1.1 : Nat)) 3 10 (N 39 50 + 1) a0 = N3 a0 := fun a0 h1 h2 => by rw [mup_fn h2, mup_fn h1]
                  refine ⟨fun a0 h1 h2 h3 => (hne a0 h2 h3).trans (hlow a0 h1), fun x hx => ?_, ?_, fun x hx => ?_, mup_self _ _ _ _, ⟨?_, ?_, ?_, ?_, ?_, ?_, ?_, ?_, ?_⟩, fun x => ?_, fun x => ?_, ?_⟩
                  · rw [mup_cell (by decide), mup_slot hx, hlow 11 (by omega)]
                  · rw [mup_cell (by decide), mup_self]
                  · rw [mup_slot hx, mup_cell (by decide), hlow 3 (by omega)]
                  · rw [hne _ (by omega) (by omega), hv.2.2.1 0 (by decide)]; exact xb0
                  · rw [hne _ (by omega) (by omega), hv.2.2.1 1 (by decide)]; exact xb1
                  · rw [hne _ (by omega) (by omega), hv.2.2.1 2 (by decide)]; exact xb2
                  · rw [hne _ (by omega) (by omega), hv.2.2.1 3 (by decide)]; exact xb3
                  · rw [hne _ (by omega) (by omega), hv.2.2.1 4 (by decide)]; exact xb4
                  · rw [hne _ (by omega) (by omega), hv.2.2.1 5 (by decide)]; exact xb5
                  · rw [hne _ (by omega) (by omega)]; exact hv.2.2.2.1
                  · rw [hne _ (by omega) (by omega), hv.2.2.1 7 (by decide)]; exact xb 7 (by decide) (by decide) (by decide) (by decide) (by decide) (by decide)
                  · rw [hne _ (by omega) (by omega), hv.2.2.1 8 (by decide)]; exact xb 8 (by decide) (by decide) (by decide) (by decide) (by decide) (by decide)
                  · rw [hne _ (by omega) (by omega)]; exact hv.2.2.2.2 x
                  · rw [hne _ (by omega) (by omega), hv.2.1 _ (by omega) (by omega), hx0 _ (by omega)]; exact hz _ (by omega) x
                  · exact zG_mup (zG_mup hv.1 (by show 11 < s.1.1 + 1 + 1 + 1; omega) hadr) (by show 3 < s.1.1 + 1 + 1 + 1; omega) (by constructor <;> omega)
                · skip
                  refine e_bipush q_X11_plea_106 (by decide) ?_
                  refine e_ireturn q_X11_plea_108 rfl rfl ?_
                  exact h3 hg ⟨hl, fun q => c45 ((plea_e hm hI.ord hl).mpr q), by omega⟩ (by omega)
              · skip
                refine e_bipush q_X11_plea_94 (by decide) ?_
                refine e_ireturn q_X11_plea_96 rfl rfl ?_
                exact h2 hg (fun q => q.2.2 (by omega))
          · skip
            refine e_bipush q_X11_plea_48 (by decide) ?_
            refine e_ireturn q_X11_plea_50 rfl rfl ?_
            exact h2 hg (fun q => q.2.1 ((plea_e hm hI.ord hl).mp c45))
        · skip
          refine e_aload_n q_X11_plea_24 (by decide) rfl ?_
          refine i_getN (k' := 8) q_X11_plea_25 fl_X11_169 pA (cref0 (by omega) _) rfl rfl (by rw [p8, orZ_n (by omega)]; omega) ?_
          refine e_astoreN (ls' := [_, _, _, _, _, _, _, _]) q_X11_plea_28 (by decide) rfl rfl ?_
          refine e_aloadN q_X11_plea_30 (by decide) rfl ?_
          refine e_ifnullN q_X11_plea_32 ?_
          refine e_bipush q_X11_plea_48 (by decide) ?_
          refine e_ireturn q_X11_plea_50 rfl rfl ?_
          exact h2 hg (fun q => hl q.1)
      · skip
        refine e_iconst q_X11_plea_22 ?_
        refine e_ireturn q_X11_plea_23 rfl rfl ?_
        first | exact h1 (fun q => hw1 q.1) | exact h1 (fun q => by have := q.2; omega)
theorem memb_k {N' : zN} (hc : sC N N' [42, 47, 48, 49, 50, 59, 60, 61, 62]) (h9 : s9 N N' [10, 31]) (w g d : Int) : memb N' w g d = memb N w g d := by
  have ht : tHere N' w d = tHere N w d := by
    unfold tHere
    rw [hc 42 (by decide), hc 47 (by decide), hc 48 (by decide), hc 49 (by decide), hc 50 (by decide), h9 10 (by decide)]
  have hs : spA N' w d = spA N w d := by
    unfold spA
    rw [ht, hc 59 (by decide), hc 61 (by decide), hc 62 (by decide), h9 31 (by decide)]
  unfold memb
  rw [hs, hc 60 (by decide)]
/-- what a plea leaves in the reference's -/
def plM (N : zN) (w fi : Int) (i : Nat) (N2 : zN) : Prop :=
  (∀ a : Nat, a < 74 ∨ 80 < a → N2 a = N a) ∧ (∀ (a : Nat) (x : Int), 74 ≤ a → a ≤ 78 → x ≠ N 39 50 → N2 a x = N a x) ∧ N2 74 (N 39 50) = lastF N w ∧ N2 75 (N 39 50) = (gAhead N (lastF N w)) ∧ N2 76 (N 39 50) = fi ∧ N2 77 (N 39 50) = 0 ∧ N2 78 (N 39 50) = 0 ∧
  (∀ (a : Nat) (x : Int), (a = 79 ∨ a = 80) → ¬ (48 * N 39 50 ≤ x ∧ x < 48 * N 39 50 + i) → N2 a x = N a x) ∧ ∀ x : Int, 0 ≤ x → x < i → N2 79 (48 * N 39 50 + x) = bi (x < N 39 2 ∧ ansP N w (gAhead N (lastF N w)) (N 49 (lastF N w)) x) ∧ N2 80 (48 * N 39 50 + x) = 0
theorem plM_R {w fi : Int} {i : Nat} {N2 : zN} (hm : mI N) (hfi : zr fi) (h : plM N w fi i N2) : ∀ a j, zr (N2 a j) := by
  have hR := hm.1
  have hC := hm.2.1
  unfold mCnt at hC
  obtain ⟨h1, h2, h3, h4, h5, h6, h7, h8, h9⟩ := h
  intro a x
  by_cases q1 : a < 74 ∨ 80 < a
  · rw [h1 a q1]; exact hR _ _
  · by_cases q2 : a ≤ 78
    · by_cases q3 : x = N 39 50
      · rcases (show a = 74 ∨ a = 75 ∨ a = 76 ∨ a = 77 ∨ a = 78 by omega) with rfl | rfl | rfl | rfl | rfl
        · rw [q3, h3]
          have := lastF_b N w
          constructor <;> omega
        · rw [q3, h4]
          have := charg_g hm
          unfold gAhead
          split
          · constructor <;> omega
          · split
            · have := charg_g hm (N 48 (lastF N w)) (N 49 (lastF N w) - 1)
              constructor <;> omega
            · split
              · constructor <;> omega
              · exact hR _ _
        · rw [q3, h5]; exact hfi
        · rw [q3, h6]; constructor <;> omega
        · rw [q3, h7]; constructor <;> omega
      · rw [h2 a x (by omega) q2 q3]; exact hR _ _
    · by_cases q3 : 48 * N 39 50 ≤ x ∧ x < 48 * N 39 50 + i
      · have := h9 (x - 48 * N 39 50) (by omega) (by omega)
        rw [show 48 * N 39 50 + (x - 48 * N 39 50) = x by omega] at this
        rcases (show a = 79 ∨ a = 80 by omega) with rfl | rfl
        · rw [this.1]
          have := bi_r (x - 48 * N 39 50 < N 39 2 ∧ ansP N w (gAhead N (lastF N w)) (N 49 (lastF N w)) (x - 48 * N 39 50))
          constructor <;> omega
        · rw [this.2]; constructor <;> omega
      · rw [h8 a x (by omega) q3]; exact hR _ _
theorem plM_m {w fi : Int} {i : Nat} {N2 : zN} (hm : mI N) (hfi : zr fi) (h : plM N w fi i N2) : mI N2 := by
  have hs : ∀ L : List Nat, (∀ b ∈ L, b < 74 ∨ 80 < b) → sC N N2 L := fun L hL b hb => h.1 b (hL b hb)
  have h39 : N2 39 = N 39 := h.1 39 (by omega)
  refine ⟨plM_R hm hfi h, ?_, mPpl_k (hs _ (by decide)) (by rw [h39]) (by rw [h39]; exact Int.le_refl _) hm.2.2.1, mFlt_k (hs _ (by decide)) (by rw [h39]) (by rw [h39]; exact Int.le_refl _) hm.2.2.2.1, mSpl_k (hs _ (by decide)) (by rw [h39]) (by rw [h39]; exact Int.le_refl _) (by rw [h39]; exact Int.le_refl _) hm.2.2.2.2.1, mSty_k (hs _ (by decide)) (by rw [h39]) (by rw [h39]; exact Int.le_refl _) (by rw [h39]; exact Int.le_refl _) hm.2.2.2.2.2.1, ?_⟩
  · have := hm.2.1
    unfold mCnt at this ⊢
    rw [h39]
    exact this
  · intro p h0 h1
    rw [h39] at h1
    have k : ∀ a : Nat, 74 ≤ a → a ≤ 78 → N2 a p = N a p := fun a q1 q2 => h.2.1 a p q1 q2 (by omega)
    rw [k 74 (by omega) (by omega), k 75 (by omega) (by omega), k 76 (by omega) (by omega), k 77 (by omega) (by omega), k 78 (by omega) (by omega), h39]
    exact hm.2.2.2.2.2.2 p h0 h1
set_option maxRecDepth 20000 in
set_option maxHeartbeats 2000000 in
theorem k_plea (hB : zB0 s) (hm : mI N) {w : Int} (hw : zr w) {fi : Int} (hfi : zr fi) (h1 : ¬ ((0 ≤ w ∧ w < N 39 2) ∧ (1 ≤ fi ∧ fi ≤ 9999)) → Q (some (vi (-1))) (zI s N)) (h2 : ((0 ≤ w ∧ w < N 39 2) ∧ (1 ≤ fi ∧ fi ≤ 9999)) → ¬ (0 ≤ lastF N w ∧ (¬ ∃ p : Nat, (p : Int) < N 39 50 ∧ N 74 p = lastF N w) ∧ gAhead N (lastF N w) ≠ -4) → Q (some (vi (-2))) (zI s N)) (h3 : ((0 ≤ w ∧ w < N 39 2) ∧ (1 ≤ fi ∧ fi ≤ 9999)) → 0 ≤ lastF N w ∧ (¬ ∃ p : Nat, (p : Int) < N 39 50 ∧ N 74 p = lastF N w) ∧ gAhead N (lastF N w) ≠ -4 → N 39 50 = 20 → Q (some (vi (-3))) (zI s N)) (h4 : ((0 ≤ w ∧ w < N 39 2) ∧ (1 ≤ fi ∧ fi ≤ 9999)) → 0 ≤ lastF N w ∧ (¬ ∃ p : Nat, (p : Int) < N 39 50 ∧ N 74 p = lastF N w) ∧ gAhead N (lastF N w) ≠ -4 → N 39 50 < 20 → ∀ N2, plM N w fi 48 N2 → Q (some (vi (N 39 50))) (zI s (mup N2 39 50 (N 39 50 + 1)))) : zC X m_X12_plea [.ref 39, vi w, vi fi] (zI s N) Q := by
  have hR := hm.1
  have hC := hm.2.1
  unfold mCnt at hC
  show zE X m_X12_plea 0 [.ref 39, vi w, vi fi, zU, zU, zU] [] _ Q
  refine e_aload_n q_X12_plea_0 (by decide) rfl ?_
  refine e_iload_n q_X12_plea_1 (by decide) rfl ?_
  refine iv_X12_isOne q_X12_plea_2 lk_X12_170 (by decide) (a39 hB) (Nat.le_of_ble_eq_true rfl) ?_
  refine k_isOne hB hm hw ?_
  refine e_ifb_eq q_X12_plea_5 (fun c5 => ?_) (fun c5 => ?_)
  · skip
    refine e_iconst q_X12_plea_19 ?_
    refine e_ireturn q_X12_plea_20 rfl rfl ?_
    first | exact h1 (fun q => c5 q.1) | exact h1 (fun q => c16 q.2)
  · skip
    refine e_iload_n q_X12_plea_8 (by decide) rfl ?_
    refine e_iconst q_X12_plea_9 ?_
    refine e_sipush q_X12_plea_10 (by decide) ?_
    refine iv_X12_within q_X12_plea_13 lk_X12_160 (by decide) (Nat.le_of_ble_eq_true rfl) ?_
    refine k_within hfi (by constructor <;> omega) (by constructor <;> omega) ?_
    refine e_ifb_ne q_X12_plea_16 (fun c16 => ?_) (fun c16 => ?_)
    · skip
      refine e_aload_n q_X12_plea_21 (by decide) rfl ?_
      refine e_iload_n q_X12_plea_22 (by decide) rfl ?_
      refine iv_X12_lastFlight q_X12_plea_23 lk_X12_187 (by decide) (a39 hB) (Nat.le_of_ble_eq_true rfl) ?_
      refine k_lastFlight hB hm hw ?_
      refine e_istore_n (ls' := [_, _, _, _, _, _]) q_X12_plea_26 (by decide) rfl rfl ?_
      refine e_iload_n q_X12_plea_27 (by decide) rfl ?_
      refine e_if_ge q_X12_plea_28 (by have := lastF_b N w; constructor <;> omega) (fun c28 => ?_) (fun c28 => ?_)
      · skip
        refine e_iconst q_X12_plea_34 ?_
        refine e_istore (ls' := [_, _, _, _, _, _]) q_X12_plea_35 (by decide) rfl rfl ?_
        have hg : ((0 ≤ w ∧ w < N 39 2) ∧ (1 ≤ fi ∧ fi ≤ 9999)) := ⟨c5, c16⟩
        have hlb := lastF_b N w
        have hl : 0 ≤ lastF N w := c28
        refine zEe (ls := [.ref 39, vi w, vi fi, vi (lastF N w), vi ((0 : Nat) : Int), zU]) (σ := zI s N) ?_ rfl rfl
        refine z_for (P := fun i => ∀ (hh : True), (∀ j : Nat, j < i → ¬ N 74 j = lastF N w) → zE X m_X12_plea 37 [.ref 39, vi w, vi fi, vi (lastF N w), vi (i : Int), zU] [] (zI s N) Q) (N 39 50).toNat (fun i hi ih hh hv => ?_) (fun hh hv => ?_) trivial (fun j0 hj0 => by omega)
        · skip
          refine e_iload q_X12_plea_37 (by decide) rfl ?_
          refine e_aload_n q_X12_plea_39 (by decide) rfl ?_
          refine i_getI (k' := 50) q_X12_plea_40 fl_X12_316 (a39 hB) rfl rfl rfl rfl ?_
          refine e_icmp_ge q_X12_plea_43 (by first | exact hR _ _ | (constructor <;> omega) | assumption) (by first | exact hR _ _ | (constructor <;> omega) | assumption) (fun c43 => ?_) (fun c43 => ?_)
          · skip
            exact absurd c43 (by omega)
          · skip
            refine e_aload_n q_X12_plea_46 (by decide) rfl ?_
            refine i_getC (r := 74) q_X12_plea_47 fl_X12_118 (a39 hB) rfl (by decide) ?_
            refine e_iload q_X12_plea_50 (by decide) rfl ?_
            refine i_iald q_X12_plea_52 (a74 hB) (cref0 (by decide)) (by first | omega | assumption) (by first | omega | assumption) (by decide) rfl ?_
            refine e_iload_n q_X12_plea_53 (by decide) rfl ?_
            refine e_icmp_ne q_X12_plea_54 (by have := lastF_b N w; first | exact hR _ _ | (constructor <;> omega)) (by have := lastF_b N w; first | exact hR _ _ | (constructor <;> omega)) (fun c54 => ?_) (fun c54 => ?_)
            · skip
              refine e_iinc (ls' := [_, _, _, _, _, _]) q_X12_plea_60 (by decide) rfl rfl rfl ?_
              refine e_goto q_X12_plea_63 ?_
              exact ih trivial (fun j0 hj0 => by
                by_cases e : j0 = i
                · rw [e]; exact c54
                · exact hv j0 (by omega))
            · skip
              refine e_bipush q_X12_plea_57 (by decide) ?_
              refine e_ireturn q_X12_plea_59 rfl rfl ?_
              exact h2 hg (fun q => q.2.1 ⟨i, by omega, c54⟩)
        · skip
          refine e_iload q_X12_plea_37 (by decide) rfl ?_
          refine e_aload_n q_X12_plea_39 (by decide) rfl ?_
          refine i_getI (k' := 50) q_X12_plea_40 fl_X12_316 (a39 hB) rfl rfl rfl rfl ?_
          refine e_icmp_ge q_X12_plea_43 (by first | exact hR _ _ | (constructor <;> omega) | assumption) (by first | exact hR _ _ | (constructor <;> omega) | assumption) (fun c43 => ?_) (fun c43 => ?_)
          · skip
            have hnp : ¬ ∃ p : Nat, (p : Int) < N 39 50 ∧ N 74 p = lastF N w := fun q => by
              obtain ⟨p, q1, q2⟩ := q
              exact hv p (by omega) q2
            refine e_aload_n q_X12_plea_66 (by decide) rfl ?_
            refine e_iload_n q_X12_plea_67 (by decide) rfl ?_
            refine iv_X12_groupAhead q_X12_plea_68 lk_X12_319 (by decide) (a39 hB) (Nat.le_of_ble_eq_true rfl) ?_
            refine k_groupAhead hB hm hl (by omega) ?_
            refine e_istore (ls' := [_, _, _, _, _, _]) q_X12_plea_71 (by decide) rfl rfl ?_
            refine e_iload q_X12_plea_73 (by decide) rfl ?_
            refine e_bipush q_X12_plea_75 (by decide) ?_
            refine e_icmp_ne q_X12_plea_77 (by have := gAh_g hm hl; constructor <;> omega) (by have := gAh_g hm hl; constructor <;> omega) (fun c77 => ?_) (fun c77 => ?_)
            · skip
              refine e_aload_n q_X12_plea_83 (by decide) rfl ?_
              refine i_getI (k' := 50) q_X12_plea_84 fl_X12_316 (a39 hB) rfl rfl rfl rfl ?_
              refine e_bipush q_X12_plea_87 (by decide) ?_
              refine e_icmp_ne q_X12_plea_89 (by first | exact hR _ _ | (constructor <;> omega) | assumption) (by first | exact hR _ _ | (constructor <;> omega) | assumption) (fun c89 => ?_) (fun c89 => ?_)
              · skip
                refine e_aload_n q_X12_plea_95 (by decide) rfl ?_
                refine i_getC (r := 74) q_X12_plea_96 fl_X12_118 (a39 hB) rfl (by decide) ?_
                refine e_aload_n q_X12_plea_99 (by decide) rfl ?_
                refine i_getI (k' := 50) q_X12_plea_100 fl_X12_316 (a39 hB) rfl rfl rfl rfl ?_
                refine e_iload_n q_X12_plea_103 (by decide) rfl ?_
                refine i_iast q_X12_plea_104 (a74 hB) (cref0 (by decide)) (by first | omega | assumption) (by first | omega | assumption) (by decide) ?_
                refine e_aload_n q_X12_plea_105 (by decide) rfl ?_
                refine i_getC (r := 75) q_X12_plea_106 fl_X12_121 (a39 hB) rfl (by decide) ?_
                refine e_aload_n q_X12_plea_109 (by decide) rfl ?_
                refine i_getI (k' := 50) q_X12_plea_110 fl_X12_316 (a39 hB) rfl rfl rfl (mup_cell (by decide)) ?_
                refine e_iload q_X12_plea_113 (by decide) rfl ?_
                refine i_iast q_X12_plea_115 (a75 hB) (cref0 (by decide)) (by first | omega | assumption) (by first | omega | assumption) (by decide) ?_
                refine e_aload_n q_X12_plea_116 (by decide) rfl ?_
                refine i_getC (r := 76) q_X12_plea_117 fl_X12_124 (a39 hB) rfl (by decide) ?_
                refine e_aload_n q_X12_plea_120 (by decide) rfl ?_
                refine i_getI (k' := 50) q_X12_plea_121 fl_X12_316 (a39 hB) rfl rfl rfl ((mup_cell (by decide)).trans (mup_cell (by decide))) ?_
                refine e_iload_n q_X12_plea_124 (by decide) rfl ?_
                refine i_iast q_X12_plea_125 (a76 hB) (cref0 (by decide)) (by first | omega | assumption) (by first | omega | assumption) (by decide) ?_
                refine e_aload_n q_X12_plea_126 (by decide) rfl ?_
                refine i_getC (r := 77) q_X12_plea_127 fl_X12_127 (a39 hB) rfl (by decide) ?_
                refine e_aload_n q_X12_plea_130 (by decide) rfl ?_
                refine i_getI (k' := 50) q_X12_plea_131 fl_X12_316 (a39 hB) rfl rfl rfl ((mup_cell (by decide)).trans ((mup_cell (by decide)).trans (mup_cell (by decide)))) ?_
                refine e_iconst q_X12_plea_134 ?_
                refine i_zast q_X12_plea_135 (a77 hB) (cref0 (by decide)) (by first | omega | assumption) (by first | omega | assumption) (by decide) rfl ?_
                refine e_aload_n q_X12_plea_136 (by decide) rfl ?_
                refine i_getC (r := 78) q_X12_plea_137 fl_X12_130 (a39 hB) rfl (by decide) ?_
                refine e_aload_n q_X12_plea_140 (by decide) rfl ?_
                refine i_getI (k' := 50) q_X12_plea_141 fl_X12_316 (a39 hB) rfl rfl rfl ((mup_cell (by decide)).trans ((mup_cell (by decide)).trans ((mup_cell (by decide)).trans (mup_cell (by decide))))) ?_
                refine e_iconst q_X12_plea_144 ?_
                refine i_zast q_X12_plea_145 (a78 hB) (cref0 (by decide)) (by first | omega | assumption) (by first | omega | assumption) (by decide) rfl ?_
                refine e_iconst q_X12_plea_146 ?_
                refine e_istore (ls' := [_, _, _, _, _, _]) q_X12_plea_147 (by decide) rfl rfl ?_
                have hn : 0 ≤ lastF N w ∧ (¬ ∃ p : Nat, (p : Int) < N 39 50 ∧ N 74 p = lastF N w) ∧ gAhead N (lastF N w) ≠ -4 := ⟨hl, hnp, by omega⟩
                have hgg := gAh_g hm hl
                have hflt := hm.2.2.2.1 (lastF N w) hl (by omega)
                refine zEe (ls := [.ref 39, vi w, vi fi, vi (lastF N w), vi (gAhead N (lastF N w)), vi ((0 : Nat) : Int)]) (σ := zI s (mup (mup (mup (mup (mup N 74 (N 39 50) (lastF N w)) 75 (N 39 50) (gAhead N (lastF N w))) 76 (N 39 50) fi) 77 (N 39 50) 0) 78 (N 39 50) 0)) ?_ rfl rfl
                refine z_for (P := fun i => ∀ (N2 : zN), (plM N w fi i N2) → zE X m_X12_plea 149 [.ref 39, vi w, vi fi, vi (lastF N w), vi (gAhead N (lastF N w)), vi (i : Int)] [] (zI s N2) Q) 48 (fun i hi ih N2 hv => ?_) (fun N2 hv => ?_) _ ⟨fun a h => funext fun x => by rw [mup_cell (by omega), mup_cell (by omega), mup_cell (by omega), mup_cell (by omega), mup_cell (by omega)], fun a x h1 h2 h3 => by rw [mup_ne (fun q => h3 q.2), mup_ne (fun q => h3 q.2), mup_ne (fun q => h3 q.2), mup_ne (fun q => h3 q.2), mup_ne (fun q => h3 q.2)], (mup_cell (by decide)).trans ((mup_cell (by decide)).trans ((mup_cell (by decide)).trans ((mup_cell (by decide)).trans (mup_self _ _ _ _)))), (mup_cell (by decide)).trans ((mup_cell (by decide)).trans ((mup_cell (by decide)).trans (mup_self _ _ _ _))), (mup_cell (by decide)).trans ((mup_cell (by decide)).trans (mup_self _ _ _ _)), (mup_cell (by decide)).trans (mup_self _ _ _ _), mup_self _ _ _ _, fun a x h _ => by rw [mup_cell (by omega), mup_cell (by omega), mup_cell (by omega), mup_cell (by omega), mup_cell (by omega)], fun x h1 h2 => by omega⟩
                · skip
                  have h39 : N2 39 = N 39 := hv.1 39 (by omega)
                  have hm2 := plM_m hm hfi hv
                  have hR2 := hm2.1
                  have hmk : ∀ x, memb N2 x (gAhead N (lastF N w)) (N 49 (lastF N w)) = memb N x (gAhead N (lastF N w)) (N 49 (lastF N w)) := fun x => memb_k (fun b hb => hv.1 b (by simp only [List.mem_cons, List.not_mem_nil, or_false] at hb; omega)) (fun b _ => by rw [h39]) _ _ _
                  have e50 : N2 39 50 = N 39 50 := by rw [h39]
                  have e2 : N2 39 2 = N 39 2 := by rw [h39]
                  refine e_iload q_X12_plea_149 (by decide) rfl ?_
                  refine e_bipush q_X12_plea_151 (by decide) ?_
                  refine e_icmp_ge q_X12_plea_153 (by constructor <;> omega) (by constructor <;> omega) (fun c153 => ?_) (fun c153 => ?_)
                  · skip
                    exact absurd c153 (by omega)
                  · skip
                    refine e_aload_n q_X12_plea_156 (by decide) rfl ?_
                    refine i_getC (r := 79) q_X12_plea_157 fl_X12_133 (a39 hB) rfl (by decide) ?_
                    refine e_bipush q_X12_plea_160 (by decide) ?_
                    refine e_aload_n q_X12_plea_162 (by decide) rfl ?_
                    refine i_getI (k' := 50) q_X12_plea_163 fl_X12_316 (a39 hB) rfl rfl rfl e50 ?_
                    refine e_imul q_X12_plea_166 ?_
                    refine e_iload q_X12_plea_167 (by decide) rfl ?_
                    refine e_iadd q_X12_plea_169 ?_
                    refine e_iload q_X12_plea_170 (by decide) rfl ?_
                    refine e_aload_n q_X12_plea_172 (by decide) rfl ?_
                    refine i_getI (k' := 2) q_X12_plea_173 fl_X12_164 (a39 hB) rfl rfl rfl e2 ?_
                    refine e_icmp_ge q_X12_plea_176 (by constructor <;> omega) (by constructor <;> omega) (fun c176 => ?_) (fun c176 => ?_)
                    · skip
                      refine e_iconst q_X12_plea_206 ?_
                      refine i_zast q_X12_plea_207 (a79 hB) (cref0 (by decide)) (by first | omega | assumption) (by first | omega | assumption) (by decide) rfl ?_
                      refine e_aload_n q_X12_plea_208 (by decide) rfl ?_
                      refine i_getC (r := 80) q_X12_plea_209 fl_X12_136 (a39 hB) rfl (by decide) ?_
                      refine e_bipush q_X12_plea_212 (by decide) ?_
                      refine e_aload_n q_X12_plea_214 (by decide) rfl ?_
                      refine i_getI (k' := 50) q_X12_plea_215 fl_X12_316 (a39 hB) rfl rfl rfl e50 ?_
                      refine e_imul q_X12_plea_218 ?_
                      refine e_iload q_X12_plea_219 (by decide) rfl ?_
                      refine e_iadd q_X12_plea_221 ?_
                      refine e_iconst q_X12_plea_222 ?_
                      refine i_iast q_X12_plea_223 (a80 hB) (cref0 (by decide)) (by first | omega | assumption) (by first | omega | assumption) (by decide) ?_
                      refine e_iinc (ls' := [_, _, _, _, _, _]) q_X12_plea_224 (by decide) rfl rfl rfl ?_
                      refine e_goto q_X12_plea_227 ?_
                      have hbn : ∀ v : Int, (v = bi ((i : Int) < N 39 2 ∧ ansP N w (gAhead N (lastF N w)) (N 49 (lastF N w)) i)) → zE X m_X12_plea 149 [.ref 39, vi w, vi fi, vi (lastF N w), vi (gAhead N (lastF N w)), vi ((i + 1 : Nat) : Int)] [] (zI s (mup (mup N2 79 (48 * N 39 50 + i) v) 80 (48 * N 39 50 + i) 0)) Q := by
                        intro v hvv
                        obtain ⟨k1, k2, k3, k4, k5, k6, k7, k8, k9⟩ := hv
                        have ne : ∀ (a : Nat) (x : Int), ¬ ((a = 79 ∨ a = 80) ∧ x = 48 * N 39 50 + i) → mup (mup N2 79 (48 * N 39 50 + i) v) 80 (48 * N 39 50 + i) 0 a x = N2 a x := fun a x h => by rw [mup_ne (fun q => h ⟨Or.inr q.1, q.2⟩), mup_ne (fun q => h ⟨Or.inl q.1, q.2⟩)]
                        refine ih _ ⟨fun a h => funext fun x => ?_, fun a x h1 h2 h3 => ?_, ?_, ?_, ?_, ?_, ?_, fun a x h1 h2 => ?_, fun x h1 h2 => ?_⟩
                        · rw [ne a x (by omega), k1 a h]
                        · rw [ne a x (by omega)]; exact k2 a x h1 h2 h3
                        · rw [ne _ _ (by omega)]; exact k3
                        · rw [ne _ _ (by omega)]; exact k4
                        · rw [ne _ _ (by omega)]; exact k5
                        · rw [ne _ _ (by omega)]; exact k6
                        · rw [ne _ _ (by omega)]; exact k7
                        · rw [ne a x (by omega)]; exact k8 a x h1 (by omega)
                        · by_cases hx : x = i
                          · rw [hx, mup_cell (by decide), mup_self, mup_self, hvv]
                            exact ⟨rfl, rfl⟩
                          · rw [ne _ _ (by omega), ne _ _ (by omega)]
                            exact k9 x h1 (by omega)
                      first
                      | exact zEe (hbn 1 (by rw [bi_t]; exact ⟨by omega, c182, by rw [← hmk]; exact c199⟩)) rfl rfl
                      | exact zEe (hbn 0 (by rw [bi_f]; intro q; omega)) rfl rfl
                      | exact zEe (hbn 0 (by rw [bi_f]; exact fun q => q.2.1 c182)) rfl rfl
                      | exact zEe (hbn 0 (by rw [bi_f]; exact fun q => c199 (by rw [hmk]; exact q.2.2))) rfl rfl
                    · skip
                      refine e_iload q_X12_plea_179 (by decide) rfl ?_
                      refine e_iload_n q_X12_plea_181 (by decide) rfl ?_
                      refine e_icmp_eq q_X12_plea_182 (by constructor <;> omega) hw (fun c182 => ?_) (fun c182 => ?_)
                      · skip
                        refine e_iconst q_X12_plea_206 ?_
                        refine i_zast q_X12_plea_207 (a79 hB) (cref0 (by decide)) (by first | omega | assumption) (by first | omega | assumption) (by decide) rfl ?_
                        refine e_aload_n q_X12_plea_208 (by decide) rfl ?_
                        refine i_getC (r := 80) q_X12_plea_209 fl_X12_136 (a39 hB) rfl (by decide) ?_
                        refine e_bipush q_X12_plea_212 (by decide) ?_
                        refine e_aload_n q_X12_plea_214 (by decide) rfl ?_
                        refine i_getI (k' := 50) q_X12_plea_215 fl_X12_316 (a39 hB) rfl rfl rfl e50 ?_
                        refine e_imul q_X12_plea_218 ?_
                        refine e_iload q_X12_plea_219 (by decide) rfl ?_
                        refine e_iadd q_X12_plea_221 ?_
                        refine e_iconst q_X12_plea_222 ?_
                        refine i_iast q_X12_plea_223 (a80 hB) (cref0 (by decide)) (by first | omega | assumption) (by first | omega | assumption) (by decide) ?_
                        refine e_iinc (ls' := [_, _, _, _, _, _]) q_X12_plea_224 (by decide) rfl rfl rfl ?_
                        refine e_goto q_X12_plea_227 ?_
                        have hbn : ∀ v : Int, (v = bi ((i : Int) < N 39 2 ∧ ansP N w (gAhead N (lastF N w)) (N 49 (lastF N w)) i)) → zE X m_X12_plea 149 [.ref 39, vi w, vi fi, vi (lastF N w), vi (gAhead N (lastF N w)), vi ((i + 1 : Nat) : Int)] [] (zI s (mup (mup N2 79 (48 * N 39 50 + i) v) 80 (48 * N 39 50 + i) 0)) Q := by
                          intro v hvv
                          obtain ⟨k1, k2, k3, k4, k5, k6, k7, k8, k9⟩ := hv
                          have ne : ∀ (a : Nat) (x : Int), ¬ ((a = 79 ∨ a = 80) ∧ x = 48 * N 39 50 + i) → mup (mup N2 79 (48 * N 39 50 + i) v) 80 (48 * N 39 50 + i) 0 a x = N2 a x := fun a x h => by rw [mup_ne (fun q => h ⟨Or.inr q.1, q.2⟩), mup_ne (fun q => h ⟨Or.inl q.1, q.2⟩)]
                          refine ih _ ⟨fun a h => funext fun x => ?_, fun a x h1 h2 h3 => ?_, ?_, ?_, ?_, ?_, ?_, fun a x h1 h2 => ?_, fun x h1 h2 => ?_⟩
                          · rw [ne a x (by omega), k1 a h]
                          · rw [ne a x (by omega)]; exact k2 a x h1 h2 h3
                          · rw [ne _ _ (by omega)]; exact k3
                          · rw [ne _ _ (by omega)]; exact k4
                          · rw [ne _ _ (by omega)]; exact k5
                          · rw [ne _ _ (by omega)]; exact k6
                          · rw [ne _ _ (by omega)]; exact k7
                          · rw [ne a x (by omega)]; exact k8 a x h1 (by omega)
                          · by_cases hx : x = i
                            · rw [hx, mup_cell (by decide), mup_self, mup_self, hvv]
                              exact ⟨rfl, rfl⟩
                            · rw [ne _ _ (by omega), ne _ _ (by omega)]
                              exact k9 x h1 (by omega)
                        first
                        | exact zEe (hbn 1 (by rw [bi_t]; exact ⟨by omega, c182, by rw [← hmk]; exact c199⟩)) rfl rfl
                        | exact zEe (hbn 0 (by rw [bi_f]; intro q; omega)) rfl rfl
                        | exact zEe (hbn 0 (by rw [bi_f]; exact fun q => q.2.1 c182)) rfl rfl
                        | exact zEe (hbn 0 (by rw [bi_f]; exact fun q => c199 (by rw [hmk]; exact q.2.2))) rfl rfl
                      · skip
                        refine e_aload_n q_X12_plea_185 (by decide) rfl ?_
                        refine e_iload q_X12_plea_186 (by decide) rfl ?_
                        refine e_iload q_X12_plea_188 (by decide) rfl ?_
                        refine e_aload_n q_X12_plea_190 (by decide) rfl ?_
                        refine i_getC (r := 49) q_X12_plea_191 fl_X12_38 (a39 hB) rfl (by decide) ?_
                        refine e_iload_n q_X12_plea_194 (by decide) rfl ?_
                        refine i_iald q_X12_plea_195 (a49 hB) (cref0 (by decide)) (by first | omega | assumption) (by first | omega | assumption) (by decide) (congrFun (hv.1 49 (by omega)) _) ?_
                        refine iv_X12_isMember q_X12_plea_196 lk_X12_258 (by decide) (a39 hB) (Nat.le_of_ble_eq_true rfl) ?_
                        refine k_isMember hB hm2 (by have := gAh_g hm hl; constructor <;> omega) (by omega) (by omega) (by omega) ?_
                        refine e_ifb_eq q_X12_plea_199 (fun c199 => ?_) (fun c199 => ?_)
                        · skip
                          refine e_iconst q_X12_plea_206 ?_
                          refine i_zast q_X12_plea_207 (a79 hB) (cref0 (by decide)) (by first | omega | assumption) (by first | omega | assumption) (by decide) rfl ?_
                          refine e_aload_n q_X12_plea_208 (by decide) rfl ?_
                          refine i_getC (r := 80) q_X12_plea_209 fl_X12_136 (a39 hB) rfl (by decide) ?_
                          refine e_bipush q_X12_plea_212 (by decide) ?_
                          refine e_aload_n q_X12_plea_214 (by decide) rfl ?_
                          refine i_getI (k' := 50) q_X12_plea_215 fl_X12_316 (a39 hB) rfl rfl rfl e50 ?_
                          refine e_imul q_X12_plea_218 ?_
                          refine e_iload q_X12_plea_219 (by decide) rfl ?_
                          refine e_iadd q_X12_plea_221 ?_
                          refine e_iconst q_X12_plea_222 ?_
                          refine i_iast q_X12_plea_223 (a80 hB) (cref0 (by decide)) (by first | omega | assumption) (by first | omega | assumption) (by decide) ?_
                          refine e_iinc (ls' := [_, _, _, _, _, _]) q_X12_plea_224 (by decide) rfl rfl rfl ?_
                          refine e_goto q_X12_plea_227 ?_
                          have hbn : ∀ v : Int, (v = bi ((i : Int) < N 39 2 ∧ ansP N w (gAhead N (lastF N w)) (N 49 (lastF N w)) i)) → zE X m_X12_plea 149 [.ref 39, vi w, vi fi, vi (lastF N w), vi (gAhead N (lastF N w)), vi ((i + 1 : Nat) : Int)] [] (zI s (mup (mup N2 79 (48 * N 39 50 + i) v) 80 (48 * N 39 50 + i) 0)) Q := by
                            intro v hvv
                            obtain ⟨k1, k2, k3, k4, k5, k6, k7, k8, k9⟩ := hv
                            have ne : ∀ (a : Nat) (x : Int), ¬ ((a = 79 ∨ a = 80) ∧ x = 48 * N 39 50 + i) → mup (mup N2 79 (48 * N 39 50 + i) v) 80 (48 * N 39 50 + i) 0 a x = N2 a x := fun a x h => by rw [mup_ne (fun q => h ⟨Or.inr q.1, q.2⟩), mup_ne (fun q => h ⟨Or.inl q.1, q.2⟩)]
                            refine ih _ ⟨fun a h => funext fun x => ?_, fun a x h1 h2 h3 => ?_, ?_, ?_, ?_, ?_, ?_, fun a x h1 h2 => ?_, fun x h1 h2 => ?_⟩
                            · rw [ne a x (by omega), k1 a h]
                            · rw [ne a x (by omega)]; exact k2 a x h1 h2 h3
                            · rw [ne _ _ (by omega)]; exact k3
                            · rw [ne _ _ (by omega)]; exact k4
                            · rw [ne _ _ (by omega)]; exact k5
                            · rw [ne _ _ (by omega)]; exact k6
                            · rw [ne _ _ (by omega)]; exact k7
                            · rw [ne a x (by omega)]; exact k8 a x h1 (by omega)
                            · by_cases hx : x = i
                              · rw [hx, mup_cell (by decide), mup_self, mup_self, hvv]
                                exact ⟨rfl, rfl⟩
                              · rw [ne _ _ (by omega), ne _ _ (by omega)]
                                exact k9 x h1 (by omega)
                          first
                          | exact zEe (hbn 1 (by rw [bi_t]; exact ⟨by omega, c182, by rw [← hmk]; exact c199⟩)) rfl rfl
                          | exact zEe (hbn 0 (by rw [bi_f]; intro q; omega)) rfl rfl
                          | exact zEe (hbn 0 (by rw [bi_f]; exact fun q => q.2.1 c182)) rfl rfl
                          | exact zEe (hbn 0 (by rw [bi_f]; exact fun q => c199 (by rw [hmk]; exact q.2.2))) rfl rfl
                        · skip
                          refine e_iconst q_X12_plea_202 ?_
                          refine e_goto q_X12_plea_203 ?_
                          refine i_zast q_X12_plea_207 (a79 hB) (cref0 (by decide)) (by first | omega | assumption) (by first | omega | assumption) (by decide) rfl ?_
                          refine e_aload_n q_X12_plea_208 (by decide) rfl ?_
                          refine i_getC (r := 80) q_X12_plea_209 fl_X12_136 (a39 hB) rfl (by decide) ?_
                          refine e_bipush q_X12_plea_212 (by decide) ?_
                          refine e_aload_n q_X12_plea_214 (by decide) rfl ?_
                          refine i_getI (k' := 50) q_X12_plea_215 fl_X12_316 (a39 hB) rfl rfl rfl e50 ?_
                          refine e_imul q_X12_plea_218 ?_
                          refine e_iload q_X12_plea_219 (by decide) rfl ?_
                          refine e_iadd q_X12_plea_221 ?_
                          refine e_iconst q_X12_plea_222 ?_
                          refine i_iast q_X12_plea_223 (a80 hB) (cref0 (by decide)) (by first | omega | assumption) (by first | omega | assumption) (by decide) ?_
                          refine e_iinc (ls' := [_, _, _, _, _, _]) q_X12_plea_224 (by decide) rfl rfl rfl ?_
                          refine e_goto q_X12_plea_227 ?_
                          have hbn : ∀ v : Int, (v = bi ((i : Int) < N 39 2 ∧ ansP N w (gAhead N (lastF N w)) (N 49 (lastF N w)) i)) → zE X m_X12_plea 149 [.ref 39, vi w, vi fi, vi (lastF N w), vi (gAhead N (lastF N w)), vi ((i + 1 : Nat) : Int)] [] (zI s (mup (mup N2 79 (48 * N 39 50 + i) v) 80 (48 * N 39 50 + i) 0)) Q := by
                            intro v hvv
                            obtain ⟨k1, k2, k3, k4, k5, k6, k7, k8, k9⟩ := hv
                            have ne : ∀ (a : Nat) (x : Int), ¬ ((a = 79 ∨ a = 80) ∧ x = 48 * N 39 50 + i) → mup (mup N2 79 (48 * N 39 50 + i) v) 80 (48 * N 39 50 + i) 0 a x = N2 a x := fun a x h => by rw [mup_ne (fun q => h ⟨Or.inr q.1, q.2⟩), mup_ne (fun q => h ⟨Or.inl q.1, q.2⟩)]
                            refine ih _ ⟨fun a h => funext fun x => ?_, fun a x h1 h2 h3 => ?_, ?_, ?_, ?_, ?_, ?_, fun a x h1 h2 => ?_, fun x h1 h2 => ?_⟩
                            · rw [ne a x (by omega), k1 a h]
                            · rw [ne a x (by omega)]; exact k2 a x h1 h2 h3
                            · rw [ne _ _ (by omega)]; exact k3
                            · rw [ne _ _ (by omega)]; exact k4
                            · rw [ne _ _ (by omega)]; exact k5
                            · rw [ne _ _ (by omega)]; exact k6
                            · rw [ne _ _ (by omega)]; exact k7
                            · rw [ne a x (by omega)]; exact k8 a x h1 (by omega)
                            · by_cases hx : x = i
                              · rw [hx, mup_cell (by decide), mup_self, mup_self, hvv]
                                exact ⟨rfl, rfl⟩
                              · rw [ne _ _ (by omega), ne _ _ (by omega)]
                                exact k9 x h1 (by omega)
                          first
                          | exact zEe (hbn 1 (by rw [bi_t]; exact ⟨by omega, c182, by rw [← hmk]; exact c199⟩)) rfl rfl
                          | exact zEe (hbn 0 (by rw [bi_f]; intro q; omega)) rfl rfl
                          | exact zEe (hbn 0 (by rw [bi_f]; exact fun q => q.2.1 c182)) rfl rfl
                          | exact zEe (hbn 0 (by rw [bi_f]; exact fun q => c199 (by rw [hmk]; exact q.2.2))) rfl rfl
                · skip
                  have h39 : N2 39 = N 39 := hv.1 39 (by omega)
                  have hm2 := plM_m hm hfi hv
                  have hR2 := hm2.1
                  have hmk : ∀ x, memb N2 x (gAhead N (lastF N w)) (N 49 (lastF N w)) = memb N x (gAhead N (lastF N w)) (N 49 (lastF N w)) := fun x => memb_k (fun b hb => hv.1 b (by simp only [List.mem_cons, List.not_mem_nil, or_false] at hb; omega)) (fun b _ => by rw [h39]) _ _ _
                  have e50 : N2 39 50 = N 39 50 := by rw [h39]
                  have e2 : N2 39 2 = N 39 2 := by rw [h39]
                  refine e_iload q_X12_plea_149 (by decide) rfl ?_
                  refine e_bipush q_X12_plea_151 (by decide) ?_
                  refine e_icmp_ge q_X12_plea_153 (by constructor <;> omega) (by constructor <;> omega) (fun c153 => ?_) (fun c153 => ?_)
                  · skip
                    refine e_aload_n q_X12_plea_230 (by decide) rfl ?_
                    refine e_dup q_X12_plea_231 rfl ?_
                    refine i_getI (k' := 50) q_X12_plea_232 fl_X12_316 (a39 hB) rfl rfl rfl e50 ?_
                    refine e_iconst q_X12_plea_235 ?_
                    refine e_iadd q_X12_plea_236 ?_
                    refine i_putI (k' := 50) q_X12_plea_237 fl_X12_316 (Or.inl rfl) (a39 hB) rfl rfl rfl rfl rfl ?_
                    refine e_aload_n q_X12_plea_240 (by decide) rfl ?_
                    refine i_getI (k' := 50) q_X12_plea_241 fl_X12_316 (a39 hB) rfl rfl rfl (mup_self _ _ _ _) ?_
                    refine e_iconst q_X12_plea_244 ?_
                    refine e_isub q_X12_plea_245 ?_
                    refine e_ireturn q_X12_plea_246 rfl rfl ?_
                    exact zqI (h4 hg hn (by omega) N2 hv) (by omega)
                  · skip
                    exact absurd (by omega) c153
              · skip
                refine e_bipush q_X12_plea_92 (by decide) ?_
                refine e_ireturn q_X12_plea_94 rfl rfl ?_
                exact h3 hg ⟨hl, hnp, by omega⟩ (by omega)
            · skip
              refine e_bipush q_X12_plea_80 (by decide) ?_
              refine e_ireturn q_X12_plea_82 rfl rfl ?_
              exact h2 hg (fun q => q.2.2 (by omega))
          · skip
            exact absurd (by omega) c43
      · skip
        refine e_bipush q_X12_plea_31 (by decide) ?_
        refine e_ireturn q_X12_plea_33 rfl rfl ?_
        exact h2 ⟨c5, c16⟩ (fun q => c28 q.1)
    · skip
      refine e_iconst q_X12_plea_19 ?_
      refine e_ireturn q_X12_plea_20 rfl rfl ?_
      first | exact h1 (fun q => c5 q.1) | exact h1 (fun q => c16 q.2)
end RT11
