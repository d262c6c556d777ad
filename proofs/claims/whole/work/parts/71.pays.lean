/-! paying (printed by wip/whole/gen/r9.py) -/
section RT9
variable {X : zX} {s : zK} {N : zN} {σ : zS} {fa sa : Int → Int} {Q K : Option Value → zS → Prop} {c : Int}
/-! paying -/
def pyK (N : zN) (w am : Int) : Nat → Int
  | 0 => am
  | n + 1 => pyK N w am n - min (N 80 (48 * (n : Int) + w)) (pyK N w am n)
def payP (N : zN) (w am : Int) (p : Nat) : Int := min (N 80 (48 * (p : Int) + w)) (pyK N w am p)
theorem pyK_s (w am : Int) (n : Nat) : pyK N w am (n + 1) = pyK N w am n - payP N w am n := rfl
/-- what is left of what can be paid -/
theorem pyK_l {w am : Int} (ham : 0 ≤ am) {PL : Nat} (ho : ∀ p : Nat, p < PL → 0 ≤ N 80 (48 * (p : Int) + w)) {S : Int} (hS : S = sumK (fun p : Nat => N 80 (48 * (p : Int) + w)) PL) : ∀ n : Nat, n ≤ PL → 0 ≤ pyK N w am n ∧ 0 ≤ S - sumK (fun p : Nat => N 80 (48 * (p : Int) + w)) n ∧ pyK N w am n - (am - min am S) = min (pyK N w am n) (S - sumK (fun p : Nat => N 80 (48 * (p : Int) + w)) n)
  | 0, _ => by
    have h0 := sumK_0 (f := fun p : Nat => N 80 (48 * (p : Int) + w)) PL ho
    simp only [pyK, sumK]
    omega
  | n + 1, hn => by
    obtain ⟨h1, h2, h3⟩ := pyK_l ham ho hS n (by omega)
    have h4 := ho n (by omega)
    have h5 : ∀ m : Nat, n + 1 ≤ m → m ≤ PL → sumK (fun p : Nat => N 80 (48 * (p : Int) + w)) (n + 1) ≤ sumK (fun p : Nat => N 80 (48 * (p : Int) + w)) m := by
      intro m
      induction m with
      | zero => intro h; omega
      | succ m ih =>
        intro h6 h7
        by_cases h8 : n = m
        · rw [h8]; exact Int.le_refl _
        · have := ih (by omega) (by omega)
          have := ho m (by omega)
          rw [show sumK (fun p : Nat => N 80 (48 * (p : Int) + w)) (m + 1) = sumK (fun p : Nat => N 80 (48 * (p : Int) + w)) m + N 80 (48 * (m : Int) + w) from rfl]
          omega
    have h6 := h5 PL hn (Nat.le_refl _)
    have e : sumK (fun p : Nat => N 80 (48 * (p : Int) + w)) (n + 1) = sumK (fun p : Nat => N 80 (48 * (p : Int) + w)) n + N 80 (48 * (n : Int) + w) := rfl
    rw [e] at h6 ⊢
    rw [show pyK N w am (n + 1) = pyK N w am n - min (N 80 (48 * (n : Int) + w)) (pyK N w am n) from rfl]
    omega
theorem payP_0 {w am : Int} (ham : 0 ≤ am) {PL : Nat} (ho : ∀ p : Nat, p < PL → 0 ≤ N 80 (48 * (p : Int) + w)) {p : Nat} (hp : p < PL) : 0 ≤ payP N w am p ∧ payP N w am p ≤ N 80 (48 * (p : Int) + w) := by
  have h1 := (pyK_l ham ho rfl p (by omega)).1
  have h2 := ho p hp
  unfold payP
  omega
/-- nothing left: nothing more is paid -/
theorem payP_z {w am : Int} (ham : 0 ≤ am) {PL : Nat} (ho : ∀ p : Nat, p < PL → 0 ≤ N 80 (48 * (p : Int) + w)) {S : Int} (hS : S = sumK (fun p : Nat => N 80 (48 * (p : Int) + w)) PL) {n : Nat} (hn : n ≤ PL) (hl : pyK N w am n - (am - min am S) ≤ 0) : ∀ k : Nat, n ≤ k → k ≤ PL → pyK N w am k = pyK N w am n ∧ ∀ q : Nat, n ≤ q → q < k → payP N w am q = 0
  | 0, h, _ => ⟨by rw [show n = 0 by omega], fun q h1 h2 => by omega⟩
  | k + 1, h, h2 => by
    by_cases hk : n = k + 1
    · rw [hk]
      exact ⟨rfl, fun q h1 h2 => by omega⟩
    · obtain ⟨i1, i2⟩ := payP_z ham ho hS hn hl k (by omega) (by omega)
      have a1 := pyK_l ham ho hS k (by omega)
      have a2 := pyK_l ham ho hS (k + 1) h2
      have a3 := payP_0 ham ho (p := k) (by omega)
      have e := pyK_s (N := N) w am k
      have hz : payP N w am k = 0 := by
        rw [i1] at a1
        omega
      refine ⟨by rw [e, hz, i1, Int.sub_zero], fun q h3 h4 => ?_⟩
      by_cases hq : q = k
      · rw [hq]; exact hz
      · exact i2 q h3 (by omega)
def pS (N : zN) (w am : Int) (i : Nat) (N1 : zN) : Prop := (∀ (a : Nat) (x : Int), (∀ p : Nat, p < i → ¬ (a = lC N p ∧ x = w)) → N1 a x = N a x) ∧ ∀ p : Nat, p < i → N1 (lC N p) w = N (lC N p) w - payP N w am p
def pM (N : zN) (w am : Int) (i : Nat) (N2 : zN) : Prop := (∀ (a : Nat) (x : Int), (∀ p : Nat, p < i → ¬ (a = 80 ∧ x = 48 * (p : Int) + w)) → N2 a x = N a x) ∧ ∀ p : Nat, p < i → N2 80 (48 * (p : Int) + w) = N 80 (48 * (p : Int) + w) - payP N w am p
theorem owesA_r (hy : yOw N) (hm : mI N) {w : Int} (hw0 : 0 ≤ w) (hw1 : w < 48) : 0 ≤ owesA N w ∧ owesA N w ≤ 199980 := by
  have hC := hm.2.1
  unfold mCnt at hC
  have gen : ∀ n : Nat, (n : Int) ≤ N 39 50 → 0 ≤ sumK (fun p : Nat => N 80 (48 * (p : Int) + w)) n ∧ sumK (fun p : Nat => N 80 (48 * (p : Int) + w)) n ≤ 9999 * n := by
    intro n
    induction n with
    | zero => intro _; simp [sumK]
    | succ n ih =>
      intro hn
      have := ih (by omega)
      have := yOw_v hy hm (p := (n : Int)) (w := w) (by omega) (by omega) hw0 hw1
      rw [sumK]
      omega
  have := gen (N 39 50).toNat (by omega)
  unfold owesA
  omega
set_option maxRecDepth 20000 in
set_option maxHeartbeats 2000000 in
theorem x_pays (hI : xI s N fa sa) (hyo : yOw N) {w : Int} (hw : zr w) {am : Int} (ham : zr am) (h1 : ¬ ((0 ≤ w ∧ w < N 39 2) ∧ (1 ≤ am ∧ am ≤ 99999)) → Q (some (vi (-1))) (zI s N)) (h2 : ((0 ≤ w ∧ w < N 39 2) ∧ (1 ≤ am ∧ am ≤ 99999)) → ¬ (N 47 w = 100000 ∧ owesA N w ≠ 0) → Q (some (vi (-2))) (zI s N)) (h3 : ((0 ≤ w ∧ w < N 39 2) ∧ (1 ≤ am ∧ am ≤ 99999)) → N 47 w = 100000 ∧ owesA N w ≠ 0 → ∀ N1, pS N w am (N 39 50).toNat N1 → Q (some (vi (min am (owesA N w)))) (zI s N1)) : zC X m_X11_pays [.ref 3, vi w, vi am] (zI s N) Q := by
  have hB := hI.B
  have hR := hI.R
  have hC := hI.C
  unfold mCnt at hC
  have hm := hI.m
  obtain ⟨e1, e5, e7, e8, e10, e11, e3, e12, eh, eg, ef, et⟩ := hI.hs
  show zE X m_X11_pays 0 [.ref 3, vi w, vi am, zU, zU, zU, zU, zU] [] _ Q
  refine e_aload_n q_X11_pays_0 (by decide) rfl ?_
  refine e_iload_n q_X11_pays_1 (by decide) rfl ?_
  refine iv_X11_personAt q_X11_pays_2 lk_X11_113 (by decide) (a3 hB) (Nat.le_of_ble_eq_true rfl) ?_
  refine x_personAt hI hw (fun hw1 => ?_) (fun a hw1 hp => ?_)
  · skip
    refine e_astore_nN (ls' := [_, _, _, _, _, _, _, _]) q_X11_pays_5 (by decide) rfl rfl ?_
    refine e_aload_nN q_X11_pays_6 (by decide) rfl ?_
    refine e_ifnullN q_X11_pays_7 ?_
    refine e_iconst q_X11_pays_22 ?_
    refine e_ireturn q_X11_pays_23 rfl rfl ?_
    first | exact h1 (fun q => hw1 q.1) | exact h1 (fun q => by have := q.2; omega)
  · skip
    obtain ⟨p88, pA, p5, p0, p1, p2, p3, p4, p5f, p6, p7, p8, p9⟩ := id hp
    refine e_astore_n (ls' := [_, _, _, _, _, _, _, _]) q_X11_pays_5 (by decide) rfl rfl ?_
    refine e_aload_n q_X11_pays_6 (by decide) rfl ?_
    refine e_ifnull q_X11_pays_7 ?_
    refine e_iload_n q_X11_pays_10 (by decide) rfl ?_
    refine e_iconst q_X11_pays_11 ?_
    refine e_icmp_lt q_X11_pays_12 (by constructor <;> omega) (by constructor <;> omega) (fun c12 => ?_) (fun c12 => ?_)
    · skip
      refine e_iconst q_X11_pays_22 ?_
      refine e_ireturn q_X11_pays_23 rfl rfl ?_
      first | exact h1 (fun q => hw1 q.1) | exact h1 (fun q => by have := q.2; omega)
    · skip
      refine e_iload_n q_X11_pays_15 (by decide) rfl ?_
      refine e_ldcw q_X11_pays_16 co_X11_336 ?_
      refine e_icmp_le q_X11_pays_19 (by constructor <;> omega) (by constructor <;> omega) (fun c19 => ?_) (fun c19 => ?_)
      · skip
        have howr := owesA_r hyo hI.m (w := w) (by omega) (by omega)
        refine e_iload_n q_X11_pays_24 (by decide) rfl ?_
        refine e_aload_n q_X11_pays_25 (by decide) rfl ?_
        refine e_iload_n q_X11_pays_26 (by decide) rfl ?_
        refine iv_X11_owedOfAll q_X11_pays_27 lk_X11_154 (by decide) (a3 hB) (Nat.le_of_ble_eq_true rfl) ?_
        refine x_owedOfAll hI (by omega) (by omega) ?_
        refine e_min q_X11_pays_30 lk_X11_337 mm_min_s ini_J9 mm_min_c (by decide) (by decide) (Nat.le_of_ble_eq_true rfl) (by constructor <;> omega) (by constructor <;> omega) ?_
        refine e_istore (ls' := [_, _, _, _, _, _, _, _]) q_X11_pays_33 (by decide) rfl rfl ?_
        refine e_aload_n q_X11_pays_35 (by decide) rfl ?_
        refine iv_X4_isDead q_X11_pays_36 lk_X11_133 (by decide) pA (Nat.le_of_ble_eq_true rfl) ?_
        refine x_isDead hI (by omega) (by omega) hp ?_
        refine e_ifb_ne q_X11_pays_39 (fun c39 => ?_) (fun c39 => ?_)
        · skip
          refine e_bipush q_X11_pays_47 (by decide) ?_
          refine e_ireturn q_X11_pays_49 rfl rfl ?_
          first | exact h2 ⟨hw1, by omega⟩ (fun q => c39 q.1) | exact h2 ⟨hw1, by omega⟩ (fun q => by have := q.2; omega)
        · skip
          refine e_iload q_X11_pays_42 (by decide) rfl ?_
          refine e_if_ne q_X11_pays_44 (by constructor <;> omega) (fun c44 => ?_) (fun c44 => ?_)
          · skip
            refine e_iload q_X11_pays_50 (by decide) rfl ?_
            refine e_istore (ls' := [_, _, _, _, _, _, _, _]) q_X11_pays_52 (by decide) rfl rfl ?_
            refine e_iconst q_X11_pays_54 ?_
            refine e_istore (ls' := [_, _, _, _, _, _, _, _]) q_X11_pays_55 (by decide) rfl rfl ?_
            have hg : ((0 ≤ w ∧ w < N 39 2) ∧ (1 ≤ am ∧ am ≤ 99999)) := ⟨hw1, by omega⟩
            have hc1 : N 47 w = 100000 ∧ owesA N w ≠ 0 := ⟨Classical.byContradiction c39, by omega⟩
            have ho : ∀ p : Nat, p < (N 39 50).toNat → 0 ≤ N 80 (48 * (p : Int) + w) := fun p hp2 => (yOw_v hyo hI.m (p := (p : Int)) (w := w) (by omega) (by omega) (by omega) (by omega)).1
            refine zEe (ls := [.ref 3, vi w, vi am, .ref a, vi (min am (owesA N w)), vi (pyK N w am 0 - (am - (min am (owesA N w)))), vi ((0 : Nat) : Int), zU]) (σ := zI s N) ?_ (by rw [show pyK N w am 0 - (am - (min am (owesA N w))) = (min am (owesA N w)) by rw [pyK]; omega]; rfl) rfl
            refine z_for (P := fun i => ∀ (N1 : zN) (u7 : Value), (pS N w am i N1) → zE X m_X11_pays 57 [.ref 3, vi w, vi am, .ref a, vi (min am (owesA N w)), vi (pyK N w am i - (am - (min am (owesA N w)))), vi (i : Int), u7] [] (zI s N1) Q) (N 39 50).toNat (fun i hi ih N1 u7 hv => ?_) (fun N1 u7 hv => ?_) N zU ⟨fun _ _ _ => rfl, fun p hp => by omega⟩
            · skip
              have h310 : N1 3 10 = N 39 50 := (hv.1 3 10 (fun p hp => by
                obtain ⟨a2, b2, e2, hl2⟩ := hI.ls.1 (p : Int) (by omega) (by omega)
                rw [(lA_p hl2).2]
                have := hl2.2.2.2.2.2.2.2.2.2.2.2.2.2.2.1
                omega)).trans e10
              have hpk := pyK_l (N := N) (w := w) (am := am) (by omega) ho (S := owesA N w) rfl
              have hs0 := sumK_0 (f := fun p : Nat => N 80 (48 * (p : Int) + w)) i (fun p hp2 => ho p (by omega))
              refine e_iload q_X11_pays_57 (by decide) rfl ?_
              refine e_aload_n q_X11_pays_59 (by decide) rfl ?_
              refine i_getI (k' := 10) q_X11_pays_60 fl_X11_294 (a3 hB) rfl rfl rfl h310 ?_
              refine e_icmp_ge q_X11_pays_63 (by first | exact hR _ _ | (constructor <;> omega) | assumption) (by first | exact hR _ _ | (constructor <;> omega) | assumption) (fun c63 => ?_) (fun c63 => ?_)
              · skip
                first
                | exact absurd c63 (by omega)
                | (refine e_iload q_X11_pays_120 (by decide) rfl ?_
                   refine e_ireturn q_X11_pays_122 rfl rfl ?_
                   have hz := payP_z (N := N) (w := w) (am := am) (by omega) ho (S := owesA N w) rfl (n := i) (by omega) (by omega) (N 39 50).toNat (by omega) (Nat.le_refl _)
                   exact h3 hg hc1 N1 ⟨fun a0 x hh => hv.1 a0 x (fun p hp => hh p (by omega)), fun p hp => by
                     by_cases hpi : p < i
                     · exact hv.2 p hpi
                     · rw [hz.2 p (by omega) hp, Int.sub_zero]
                       exact hv.1 _ _ (fun p2 hp2 q => by
                         obtain ⟨a3, b3, e3', hl3⟩ := hI.ls.1 (p : Int) (by omega) (by omega)
                         obtain ⟨a4, b4, e4', hl4⟩ := hI.ls.1 (p2 : Int) (by omega) (by omega)
                         have k3 := lA_p hl3
                         have k4 := lA_p hl4
                         have q1 := q.1
                         have := hI.ls.2 p p2 (by omega) (by omega) (by omega) (by omega) (Or.inr (Or.inr (by
                           show N (lA N p) 5 = N (lA N p2) 5
                           rw [k3.1, k4.1, hl3.2.2.2.2.2.2.2.2.1, hl4.2.2.2.2.2.2.2.2.1, ← k3.2, ← k4.2, q1])))
                         omega)⟩)
              · skip
                refine e_iload q_X11_pays_66 (by decide) rfl ?_
                refine e_if_le q_X11_pays_68 (by have := hpk i (by omega); constructor <;> omega) (fun c68 => ?_) (fun c68 => ?_)
                · skip
                  first
                  | exact absurd c63 (by omega)
                  | (refine e_iload q_X11_pays_120 (by decide) rfl ?_
                     refine e_ireturn q_X11_pays_122 rfl rfl ?_
                     have hz := payP_z (N := N) (w := w) (am := am) (by omega) ho (S := owesA N w) rfl (n := i) (by omega) (by omega) (N 39 50).toNat (by omega) (Nat.le_refl _)
                     exact h3 hg hc1 N1 ⟨fun a0 x hh => hv.1 a0 x (fun p hp => hh p (by omega)), fun p hp => by
                       by_cases hpi : p < i
                       · exact hv.2 p hpi
                       · rw [hz.2 p (by omega) hp, Int.sub_zero]
                         exact hv.1 _ _ (fun p2 hp2 q => by
                           obtain ⟨a3, b3, e3', hl3⟩ := hI.ls.1 (p : Int) (by omega) (by omega)
                           obtain ⟨a4, b4, e4', hl4⟩ := hI.ls.1 (p2 : Int) (by omega) (by omega)
                           have k3 := lA_p hl3
                           have k4 := lA_p hl4
                           have q1 := q.1
                           have := hI.ls.2 p p2 (by omega) (by omega) (by omega) (by omega) (Or.inr (Or.inr (by
                             show N (lA N p) 5 = N (lA N p2) 5
                             rw [k3.1, k4.1, hl3.2.2.2.2.2.2.2.2.1, hl4.2.2.2.2.2.2.2.2.1, ← k3.2, ← k4.2, q1])))
                           omega)⟩)
                · skip
                  refine e_iload q_X11_pays_71 (by decide) rfl ?_
                  refine e_aload_n q_X11_pays_73 (by decide) rfl ?_
                  refine i_getC (r := 11) q_X11_pays_74 fl_X11_37 (a3 hB) rfl (by decide) ?_
                  refine e_iload q_X11_pays_77 (by decide) rfl ?_
                  obtain ⟨a2, b, e, hl⟩ := hI.ls.1 (i : Int) (by omega) (by omega)
                  have hAC := lA_p hl
                  obtain ⟨l88, lA', l11, l0, l1, l2, l3, l4, l5, l6, l7, l8, lb88, lbA, lc88, lcA, lrow⟩ := id hl
                  have hne : ∀ p : Nat, p < i → lC N p ≠ e ∧ 88 ≤ lC N p ∧ lC N p ≠ a2 := by
                    intro p hp
                    obtain ⟨a3, b3, e3', hl2⟩ := hI.ls.1 (p : Int) (by omega) (by omega)
                    have hAC2 := lA_p hl2
                    rw [hAC2.2]
                    have k2 := hl2.2.2.2.2.2.2.2.2.2.2.2.2.2.2.2.1
                    refine ⟨fun q => ?_, hl2.2.2.2.2.2.2.2.2.2.2.2.2.2.2.1, k2.ne lA' (by decide)⟩
                    have := hI.ls.2 p i (by omega) (by omega) (by omega) (by omega) (Or.inr (Or.inr (by
                      show N (lA N p) 5 = N (lA N i) 5
                      rw [hAC2.1, hAC.1, l5, hl2.2.2.2.2.2.2.2.2.1, q])))
                    omega
                  have ea : ∀ y0, N1 a2 y0 = N a2 y0 := fun y0 => hv.1 a2 y0 (fun p hp => by have := hne p hp; omega)
                  have ee : ∀ y0, N1 e y0 = N e y0 := fun y0 => hv.1 e y0 (fun p hp => by have := hne p hp; omega)
                  have e11i : N1 11 i = (a2 : Int) := (hv.1 11 i (fun p hp => by have := hne p hp; omega)).trans l11
                  have hew : N e w = N 80 (48 * (i : Int) + w) := (lrow w (by omega) (by omega)).2
                  have hov := yOw_v hyo hI.m (p := (i : Int)) (w := w) (by omega) (by omega) (by omega) (by omega)
                  have l88A : zA s a2 (5, 0) := lA'
                  have hpe : payP N w am i = min (N 80 (48 * (i : Int) + w)) (pyK N w am i) := rfl
                  refine i_aald q_X11_pays_79 (a11 hB) (by decide) (fun _ => rfl) (by omega) (by omega) (by decide) e11i (by omega) ?_
                  refine i_getR (k' := 5) q_X11_pays_80 fl_X11_333 l88A (cref0 (by omega) _) rfl rfl ((ea 5).trans l5) (by omega) ?_
                  refine e_iload_n q_X11_pays_83 (by decide) rfl ?_
                  refine i_iald q_X11_pays_84 lcA (cref0 (by omega)) (by first | omega | assumption) (by first | omega | assumption) (by decide) ((ee w).trans hew) ?_
                  refine e_min q_X11_pays_85 lk_X11_337 mm_min_s ini_J9 mm_min_c (by decide) (by decide) (Nat.le_of_ble_eq_true rfl) (by have := hpk i (by omega); constructor <;> omega) (by constructor <;> omega) ?_
                  refine e_istore (ls' := [_, _, _, _, _, _, _, _]) q_X11_pays_88 (by decide) rfl rfl ?_
                  refine e_aload_n q_X11_pays_90 (by decide) rfl ?_
                  refine i_getC (r := 11) q_X11_pays_91 fl_X11_37 (a3 hB) rfl (by decide) ?_
                  refine e_iload q_X11_pays_94 (by decide) rfl ?_
                  refine i_aald q_X11_pays_96 (a11 hB) (by decide) (fun _ => rfl) (by omega) (by omega) (by decide) e11i (by omega) ?_
                  refine i_getR (k' := 5) q_X11_pays_97 fl_X11_333 l88A (cref0 (by omega) _) rfl rfl ((ea 5).trans l5) (by omega) ?_
                  refine e_iload_n q_X11_pays_100 (by decide) rfl ?_
                  refine e_dup2 q_X11_pays_101 rfl rfl ?_
                  refine i_iald q_X11_pays_102 lcA (cref0 (by omega)) (by first | omega | assumption) (by first | omega | assumption) (by decide) ((ee w).trans hew) ?_
                  refine e_iload q_X11_pays_103 (by decide) rfl ?_
                  refine e_isub q_X11_pays_105 ?_
                  refine i_iast q_X11_pays_106 lcA (cref0 (by omega)) (by first | omega | assumption) (by first | omega | assumption) (by decide) ?_
                  refine e_iload q_X11_pays_107 (by decide) rfl ?_
                  refine e_iload q_X11_pays_109 (by decide) rfl ?_
                  refine e_isub q_X11_pays_111 ?_
                  refine e_istore (ls' := [_, _, _, _, _, _, _, _]) q_X11_pays_112 (by decide) rfl rfl ?_
                  refine e_iinc (ls' := [_, _, _, _, _, _, _, _]) q_X11_pays_114 (by decide) rfl rfl rfl ?_
                  refine e_goto q_X11_pays_117 ?_
                  have hmn : min (pyK N w am i - (am - (min am (owesA N w)))) (N 80 (48 * (i : Int) + w)) = payP N w am i := by
                    have h1 := hpk i (by omega)
                    have h2 := hpk (i + 1) (by omega)
                    have e := pyK_s (N := N) w am i
                    have e2 : sumK (fun p : Nat => N 80 (48 * (p : Int) + w)) (i + 1) = sumK (fun p : Nat => N 80 (48 * (p : Int) + w)) i + N 80 (48 * (i : Int) + w) := rfl
                    omega
                  refine zEe (ls := [.ref 3, vi w, vi am, .ref a, vi (min am (owesA N w)), vi (pyK N w am (i + 1) - (am - (min am (owesA N w)))), vi ((i + 1 : Nat) : Int), _]) (ih _ _ ⟨fun a0 x hh => ?_, fun p hp => ?_⟩) (by rw [hmn, pyK_s, show pyK N w am i - payP N w am i - (am - (min am (owesA N w))) = pyK N w am i - (am - (min am (owesA N w))) - payP N w am i by omega]; rfl) rfl
                  · have q := hh i (by omega)
                    rw [hAC.2] at q
                    rw [mup_ne q]
                    exact hv.1 a0 x (fun p hp => hh p (by omega))
                  · by_cases hpi : p = i
                    · rw [hpi, hAC.2, mup_self, hmn, hew]
                    · rw [mup_cell (hne p (by omega)).1]
                      exact hv.2 p (by omega)
            · skip
              have h310 : N1 3 10 = N 39 50 := (hv.1 3 10 (fun p hp => by
                obtain ⟨a2, b2, e2, hl2⟩ := hI.ls.1 (p : Int) (by omega) (by omega)
                rw [(lA_p hl2).2]
                have := hl2.2.2.2.2.2.2.2.2.2.2.2.2.2.2.1
                omega)).trans e10
              have hpk := pyK_l (N := N) (w := w) (am := am) (by omega) ho (S := owesA N w) rfl
              refine e_iload q_X11_pays_57 (by decide) rfl ?_
              refine e_aload_n q_X11_pays_59 (by decide) rfl ?_
              refine i_getI (k' := 10) q_X11_pays_60 fl_X11_294 (a3 hB) rfl rfl rfl h310 ?_
              refine e_icmp_ge q_X11_pays_63 (by first | exact hR _ _ | (constructor <;> omega) | assumption) (by first | exact hR _ _ | (constructor <;> omega) | assumption) (fun c63 => ?_) (fun c63 => ?_)
              · skip
                refine e_iload q_X11_pays_120 (by decide) rfl ?_
                refine e_ireturn q_X11_pays_122 rfl rfl ?_
                exact h3 hg hc1 N1 hv
              · skip
                exact absurd (by omega) c63
          · skip
            refine e_bipush q_X11_pays_47 (by decide) ?_
            refine e_ireturn q_X11_pays_49 rfl rfl ?_
            first | exact h2 ⟨hw1, by omega⟩ (fun q => c39 q.1) | exact h2 ⟨hw1, by omega⟩ (fun q => by have := q.2; omega)
      · skip
        refine e_iconst q_X11_pays_22 ?_
        refine e_ireturn q_X11_pays_23 rfl rfl ?_
        first | exact h1 (fun q => hw1 q.1) | exact h1 (fun q => by have := q.2; omega)
set_option maxRecDepth 20000 in
set_option maxHeartbeats 2000000 in
theorem k_pays (hB : zB0 s) (hm : mI N) (hyo : yOw N) {w : Int} (hw : zr w) {am : Int} (ham : zr am) (h1 : ¬ ((0 ≤ w ∧ w < N 39 2) ∧ (1 ≤ am ∧ am ≤ 99999)) → Q (some (vi (-1))) (zI s N)) (h2 : ((0 ≤ w ∧ w < N 39 2) ∧ (1 ≤ am ∧ am ≤ 99999)) → ¬ (N 47 w = 100000 ∧ owesA N w ≠ 0) → Q (some (vi (-2))) (zI s N)) (h3 : ((0 ≤ w ∧ w < N 39 2) ∧ (1 ≤ am ∧ am ≤ 99999)) → N 47 w = 100000 ∧ owesA N w ≠ 0 → ∀ N2, pM N w am (N 39 50).toNat N2 → Q (some (vi (min am (owesA N w)))) (zI s N2)) : zC X m_X12_pays [.ref 39, vi w, vi am] (zI s N) Q := by
  have hR := hm.1
  have hC := hm.2.1
  unfold mCnt at hC
  show zE X m_X12_pays 0 [.ref 39, vi w, vi am, zU, zU, zU] [] _ Q
  refine e_aload_n q_X12_pays_0 (by decide) rfl ?_
  refine e_iload_n q_X12_pays_1 (by decide) rfl ?_
  refine iv_X12_isOne q_X12_pays_2 lk_X12_170 (by decide) (a39 hB) (Nat.le_of_ble_eq_true rfl) ?_
  refine k_isOne hB hm hw ?_
  refine e_ifb_eq q_X12_pays_5 (fun c5 => ?_) (fun c5 => ?_)
  · skip
    refine e_iconst q_X12_pays_19 ?_
    refine e_ireturn q_X12_pays_20 rfl rfl ?_
    first | exact h1 (fun q => c5 q.1) | exact h1 (fun q => c16 q.2)
  · skip
    refine e_iload_n q_X12_pays_8 (by decide) rfl ?_
    refine e_iconst q_X12_pays_9 ?_
    refine e_ldcw q_X12_pays_10 co_X12_340 ?_
    refine iv_X12_within q_X12_pays_13 lk_X12_160 (by decide) (Nat.le_of_ble_eq_true rfl) ?_
    refine k_within ham (by constructor <;> omega) (by constructor <;> omega) ?_
    refine e_ifb_ne q_X12_pays_16 (fun c16 => ?_) (fun c16 => ?_)
    · skip
      refine e_aload_n q_X12_pays_21 (by decide) rfl ?_
      refine e_iload_n q_X12_pays_22 (by decide) rfl ?_
      refine iv_X12_isDead q_X12_pays_23 lk_X12_178 (by decide) (a39 hB) (Nat.le_of_ble_eq_true rfl) ?_
      refine k_isDead hB hm (by omega) (by omega) ?_
      refine e_ifb_ne q_X12_pays_26 (fun c26 => ?_) (fun c26 => ?_)
      · skip
        refine e_bipush q_X12_pays_37 (by decide) ?_
        refine e_ireturn q_X12_pays_39 rfl rfl ?_
        first | exact h2 ⟨c5, c16⟩ (fun q => c26 q.1) | exact h2 ⟨c5, c16⟩ (fun q => q.2 c34)
      · skip
        refine e_aload_n q_X12_pays_29 (by decide) rfl ?_
        refine e_iload_n q_X12_pays_30 (by decide) rfl ?_
        refine iv_X12_owesAll q_X12_pays_31 lk_X12_337 (by decide) (a39 hB) (Nat.le_of_ble_eq_true rfl) ?_
        refine k_owesAll hB hm (by omega) (by omega) ?_
        refine e_if_ne q_X12_pays_34 (by have := owesA_r hyo hm (w := w) (by omega) (by omega); constructor <;> omega) (fun c34 => ?_) (fun c34 => ?_)
        · skip
          refine e_iload_n q_X12_pays_40 (by decide) rfl ?_
          refine e_istore_n (ls' := [_, _, _, _, _, _]) q_X12_pays_41 (by decide) rfl rfl ?_
          refine e_iconst q_X12_pays_42 ?_
          refine e_istore (ls' := [_, _, _, _, _, _]) q_X12_pays_43 (by decide) rfl rfl ?_
          have hg : ((0 ≤ w ∧ w < N 39 2) ∧ (1 ≤ am ∧ am ≤ 99999)) := ⟨c5, by omega⟩
          have hc1 : N 47 w = 100000 ∧ owesA N w ≠ 0 := ⟨Classical.byContradiction c26, by omega⟩
          have ho : ∀ p : Nat, p < (N 39 50).toNat → 0 ≤ N 80 (48 * (p : Int) + w) := fun p hp2 => (yOw_v hyo hm (p := (p : Int)) (w := w) (by omega) (by omega) (by omega) (by omega)).1
          have hpm : ∀ n : Nat, n ≤ (N 39 50).toNat → pyK N w am n ≤ am := by
            intro n
            induction n with
            | zero => intro _; exact Int.le_refl _
            | succ n ih =>
              intro hn
              have h1 := ih (by omega)
              have h2 := (payP_0 (N := N) (w := w) (am := am) (by omega) ho (p := n) (by omega)).1
              rw [pyK_s]
              omega
          refine zEe (ls := [.ref 39, vi w, vi am, vi (pyK N w am 0), vi ((0 : Nat) : Int), zU]) (σ := zI s N) ?_ rfl rfl
          refine z_for (P := fun i => ∀ (N2 : zN) (u5 : Value), (pM N w am i N2) → zE X m_X12_pays 45 [.ref 39, vi w, vi am, vi (pyK N w am i), vi (i : Int), u5] [] (zI s N2) Q) (N 39 50).toNat (fun i hi ih N2 u5 hv => ?_) (fun N2 u5 hv => ?_) N zU ⟨fun _ _ _ => rfl, fun p hp => by omega⟩
          · skip
            have hov := yOw_v hyo hm (p := (i : Int)) (w := w) (by omega) (by omega) (by omega) (by omega)
            have hpk := pyK_l (N := N) (w := w) (am := am) (by omega) ho (S := owesA N w) rfl i (by omega)
            have k80 : N2 80 (48 * (i : Int) + w) = N 80 (48 * (i : Int) + w) := hv.1 80 _ (fun p hp => by omega)
            have k50c : N2 39 50 = N 39 50 := hv.1 39 _ (fun p hp => by omega)
            refine e_iload q_X12_pays_45 (by decide) rfl ?_
            refine e_aload_n q_X12_pays_47 (by decide) rfl ?_
            refine i_getI (k' := 50) q_X12_pays_48 fl_X12_316 (a39 hB) rfl rfl rfl k50c ?_
            refine e_icmp_ge q_X12_pays_51 (by first | exact hR _ _ | (constructor <;> omega) | assumption) (by first | exact hR _ _ | (constructor <;> omega) | assumption) (fun c51 => ?_) (fun c51 => ?_)
            · skip
              exact absurd c51 (by omega)
            · skip
              refine e_aload_n q_X12_pays_54 (by decide) rfl ?_
              refine i_getC (r := 80) q_X12_pays_55 fl_X12_136 (a39 hB) rfl (by decide) ?_
              refine e_bipush q_X12_pays_58 (by decide) ?_
              refine e_iload q_X12_pays_60 (by decide) rfl ?_
              refine e_imul q_X12_pays_62 ?_
              refine e_iload_n q_X12_pays_63 (by decide) rfl ?_
              refine e_iadd q_X12_pays_64 ?_
              refine i_iald q_X12_pays_65 (a80 hB) (cref0 (by decide)) (by first | omega | assumption) (by first | omega | assumption) (by decide) k80 ?_
              refine e_iload_n q_X12_pays_66 (by decide) rfl ?_
              refine e_icmp_ge q_X12_pays_67 (by constructor <;> omega) (by have := hpm i (by omega); constructor <;> omega) (fun c67 => ?_) (fun c67 => ?_)
              · skip
                refine e_iload_n q_X12_pays_85 (by decide) rfl ?_
                refine e_istore (ls' := [_, _, _, _, _, _]) q_X12_pays_86 (by decide) rfl rfl ?_
                refine e_aload_n q_X12_pays_88 (by decide) rfl ?_
                refine i_getC (r := 80) q_X12_pays_89 fl_X12_136 (a39 hB) rfl (by decide) ?_
                refine e_bipush q_X12_pays_92 (by decide) ?_
                refine e_iload q_X12_pays_94 (by decide) rfl ?_
                refine e_imul q_X12_pays_96 ?_
                refine e_iload_n q_X12_pays_97 (by decide) rfl ?_
                refine e_iadd q_X12_pays_98 ?_
                refine e_dup2 q_X12_pays_99 rfl rfl ?_
                refine i_iald q_X12_pays_100 (a80 hB) (cref0 (by decide)) (by first | omega | assumption) (by first | omega | assumption) (by decide) k80 ?_
                refine e_iload q_X12_pays_101 (by decide) rfl ?_
                refine e_isub q_X12_pays_103 ?_
                refine i_iast q_X12_pays_104 (a80 hB) (cref0 (by decide)) (by first | omega | assumption) (by first | omega | assumption) (by decide) ?_
                refine e_iload_n q_X12_pays_105 (by decide) rfl ?_
                refine e_iload q_X12_pays_106 (by decide) rfl ?_
                refine e_isub q_X12_pays_108 ?_
                refine e_istore_n (ls' := [_, _, _, _, _, _]) q_X12_pays_109 (by decide) rfl rfl ?_
                refine e_iinc (ls' := [_, _, _, _, _, _]) q_X12_pays_110 (by decide) rfl rfl rfl ?_
                refine e_goto q_X12_pays_113 ?_
                have hmn : payP N w am i = min (N 80 (48 * (i : Int) + w)) (pyK N w am i) := rfl
                first
                | (have e1 : payP N w am i = N 80 (48 * (i : Int) + w) := by omega
                   refine zEe (ls := [.ref 39, vi w, vi am, vi (pyK N w am (i + 1)), vi ((i + 1 : Nat) : Int), _]) (ih _ _ ⟨fun a0 x hh => ?_, fun p hp => ?_⟩) (by rw [pyK_s, e1]; rfl) rfl
                   · rw [mup_ne (hh i (by omega))]
                     exact hv.1 a0 x (fun p hp => hh p (by omega))
                   · by_cases hpi : p = i
                     · rw [hpi, mup_self, e1]
                     · rw [mup_slot (by omega)]
                       exact hv.2 p (by omega))
                | (have e1 : payP N w am i = pyK N w am i := by omega
                   refine zEe (ls := [.ref 39, vi w, vi am, vi (pyK N w am (i + 1)), vi ((i + 1 : Nat) : Int), _]) (ih _ _ ⟨fun a0 x hh => ?_, fun p hp => ?_⟩) (by rw [pyK_s, e1]; rfl) rfl
                   · rw [mup_ne (hh i (by omega))]
                     exact hv.1 a0 x (fun p hp => hh p (by omega))
                   · by_cases hpi : p = i
                     · rw [hpi, mup_self, e1]
                     · rw [mup_slot (by omega)]
                       exact hv.2 p (by omega))
              · skip
                refine e_aload_n q_X12_pays_70 (by decide) rfl ?_
                refine i_getC (r := 80) q_X12_pays_71 fl_X12_136 (a39 hB) rfl (by decide) ?_
                refine e_bipush q_X12_pays_74 (by decide) ?_
                refine e_iload q_X12_pays_76 (by decide) rfl ?_
                refine e_imul q_X12_pays_78 ?_
                refine e_iload_n q_X12_pays_79 (by decide) rfl ?_
                refine e_iadd q_X12_pays_80 ?_
                refine i_iald q_X12_pays_81 (a80 hB) (cref0 (by decide)) (by first | omega | assumption) (by first | omega | assumption) (by decide) k80 ?_
                refine e_goto q_X12_pays_82 ?_
                refine e_istore (ls' := [_, _, _, _, _, _]) q_X12_pays_86 (by decide) rfl rfl ?_
                refine e_aload_n q_X12_pays_88 (by decide) rfl ?_
                refine i_getC (r := 80) q_X12_pays_89 fl_X12_136 (a39 hB) rfl (by decide) ?_
                refine e_bipush q_X12_pays_92 (by decide) ?_
                refine e_iload q_X12_pays_94 (by decide) rfl ?_
                refine e_imul q_X12_pays_96 ?_
                refine e_iload_n q_X12_pays_97 (by decide) rfl ?_
                refine e_iadd q_X12_pays_98 ?_
                refine e_dup2 q_X12_pays_99 rfl rfl ?_
                refine i_iald q_X12_pays_100 (a80 hB) (cref0 (by decide)) (by first | omega | assumption) (by first | omega | assumption) (by decide) k80 ?_
                refine e_iload q_X12_pays_101 (by decide) rfl ?_
                refine e_isub q_X12_pays_103 ?_
                refine i_iast q_X12_pays_104 (a80 hB) (cref0 (by decide)) (by first | omega | assumption) (by first | omega | assumption) (by decide) ?_
                refine e_iload_n q_X12_pays_105 (by decide) rfl ?_
                refine e_iload q_X12_pays_106 (by decide) rfl ?_
                refine e_isub q_X12_pays_108 ?_
                refine e_istore_n (ls' := [_, _, _, _, _, _]) q_X12_pays_109 (by decide) rfl rfl ?_
                refine e_iinc (ls' := [_, _, _, _, _, _]) q_X12_pays_110 (by decide) rfl rfl rfl ?_
                refine e_goto q_X12_pays_113 ?_
                have hmn : payP N w am i = min (N 80 (48 * (i : Int) + w)) (pyK N w am i) := rfl
                first
                | (have e1 : payP N w am i = N 80 (48 * (i : Int) + w) := by omega
                   refine zEe (ls := [.ref 39, vi w, vi am, vi (pyK N w am (i + 1)), vi ((i + 1 : Nat) : Int), _]) (ih _ _ ⟨fun a0 x hh => ?_, fun p hp => ?_⟩) (by rw [pyK_s, e1]; rfl) rfl
                   · rw [mup_ne (hh i (by omega))]
                     exact hv.1 a0 x (fun p hp => hh p (by omega))
                   · by_cases hpi : p = i
                     · rw [hpi, mup_self, e1]
                     · rw [mup_slot (by omega)]
                       exact hv.2 p (by omega))
                | (have e1 : payP N w am i = pyK N w am i := by omega
                   refine zEe (ls := [.ref 39, vi w, vi am, vi (pyK N w am (i + 1)), vi ((i + 1 : Nat) : Int), _]) (ih _ _ ⟨fun a0 x hh => ?_, fun p hp => ?_⟩) (by rw [pyK_s, e1]; rfl) rfl
                   · rw [mup_ne (hh i (by omega))]
                     exact hv.1 a0 x (fun p hp => hh p (by omega))
                   · by_cases hpi : p = i
                     · rw [hpi, mup_self, e1]
                     · rw [mup_slot (by omega)]
                       exact hv.2 p (by omega))
          · skip
            have k50c : N2 39 50 = N 39 50 := hv.1 39 _ (fun p hp => by omega)
            have hpk := pyK_l (N := N) (w := w) (am := am) (by omega) ho (S := owesA N w) rfl (N 39 50).toNat (Nat.le_refl _)
            have hfin : am - pyK N w am (N 39 50).toNat = min am (owesA N w) := by
              have e : owesA N w = sumK (fun p : Nat => N 80 (48 * (p : Int) + w)) (N 39 50).toNat := rfl
              omega
            refine e_iload q_X12_pays_45 (by decide) rfl ?_
            refine e_aload_n q_X12_pays_47 (by decide) rfl ?_
            refine i_getI (k' := 50) q_X12_pays_48 fl_X12_316 (a39 hB) rfl rfl rfl k50c ?_
            refine e_icmp_ge q_X12_pays_51 (by first | exact hR _ _ | (constructor <;> omega) | assumption) (by first | exact hR _ _ | (constructor <;> omega) | assumption) (fun c51 => ?_) (fun c51 => ?_)
            · skip
              refine e_iload_n q_X12_pays_116 (by decide) rfl ?_
              refine e_iload_n q_X12_pays_117 (by decide) rfl ?_
              refine e_isub q_X12_pays_118 ?_
              refine e_ireturn q_X12_pays_119 rfl rfl ?_
              exact zqI (h3 hg hc1 N2 hv) hfin.symm
            · skip
              exact absurd (by omega) c51
        · skip
          refine e_bipush q_X12_pays_37 (by decide) ?_
          refine e_ireturn q_X12_pays_39 rfl rfl ?_
          first | exact h2 ⟨c5, c16⟩ (fun q => c26 q.1) | exact h2 ⟨c5, c16⟩ (fun q => q.2 c34)
    · skip
      refine e_iconst q_X12_pays_19 ?_
      refine e_ireturn q_X12_pays_20 rfl rfl ?_
      first | exact h1 (fun q => c5 q.1) | exact h1 (fun q => c16 q.2)
set_option maxRecDepth 20000 in
set_option maxHeartbeats 2000000 in
theorem eM.pyK_ {N' : zN} (h : eM N N') (w am : Int) : ∀ n : Nat, pyK N' w am n = pyK N w am n
  | 0 => rfl
  | n + 1 => by rw [pyK, pyK, h.pyK_ w am n, h.at 80 (by decide) (by decide)]
theorem eM.payP_ {N' : zN} (h : eM N N') (w am : Int) (n : Nat) : payP N' w am n = payP N w am n := by
  unfold payP
  rw [h.pyK_, h.at 80 (by decide) (by decide)]
theorem sumK_le {f g : Nat → Int} : ∀ n : Nat, (∀ i, i < n → f i ≤ g i) → sumK f n ≤ sumK g n
  | 0, _ => Int.le_refl _
  | n + 1, h => by
    have := sumK_le n (fun i hi => h i (by omega))
    have := h n (by omega)
    rw [sumK, sumK]
    omega
set_option maxRecDepth 20000 in
set_option maxHeartbeats 2000000 in
theorem j_pays (hJ : xJ s N c) (hc : c < 512) {w am : Int} (hw : zr w) (ham : zr am) (h : jK X c m_X12_pays [.ref 39, vi w, vi am] K) : zC X m_X11_pays [.ref 3, vi w, vi am] (zI s N) K := by
  obtain ⟨fa, sa, hI, hy, hbud, hsz⟩ := id hJ
  have hk := bud_r hI hbud hc
  have hC := hI.C
  unfold mCnt at hC
  have n88 := hI.B.1
  have hR := hI.R
  have hkp : N 3 19 = N 39 10 + N 39 31 := hy.1
  refine x_pays hI hy.2.1 hw ham (fun g1 => ?_) (fun g1 g2 => ?_) (fun g1 g2 N1 hv => ?_)
  · exact h _ _ _ (by first | exact hI.B | exact hI.B.k sK.ns | exact hI.B.k (sK.ns.trans (sK.ns.trans sK.ns))) (fun Q hq => k_pays hI.B hI.m hy.2.1 hw ham (fun _ => hq _ _ hJ.up) (fun q => absurd q g1) (fun q => absurd q g1))
  · exact h _ _ _ (by first | exact hI.B | exact hI.B.k sK.ns | exact hI.B.k (sK.ns.trans (sK.ns.trans sK.ns))) (fun Q hq => k_pays hI.B hI.m hy.2.1 hw ham (fun q => absurd g1 q) (fun _ _ => hq _ _ hJ.up) (fun _ q => absurd q g2))
  · refine h _ _ _ (by first | exact hI.B | exact hI.B.k sK.ns | exact hI.B.k (sK.ns.trans (sK.ns.trans sK.ns))) (fun Q hq => ?_)
    have had : ∀ p : Nat, p < (N 39 50).toNat → 88 ≤ lC N p ∧ lC N p < s.1.1 ∧ (s.2 (lC N p)).1 = 20 ∧ N (lC N p) w = N 80 (48 * (p : Int) + w) := by
      intro p hp2
      obtain ⟨a, b, e, hl⟩ := hI.ls.1 (p : Int) (by omega) (by omega)
      obtain ⟨q1, q2⟩ := lA_p hl
      have k2 := hl.2.2.2.2.2.2.2.2.2.2.2.2.2.2.2.1
      rw [q2]
      exact ⟨hl.2.2.2.2.2.2.2.2.2.2.2.2.2.2.1, k2.2.1, by rw [k2.2.2], (hl.2.2.2.2.2.2.2.2.2.2.2.2.2.2.2.2 w (by omega) (by omega)).2⟩
    have ho : ∀ p : Nat, p < (N 39 50).toNat → 0 ≤ N 80 (48 * (p : Int) + w) := fun p hp2 => (yOw_v hy.2.1 hI.m (p := (p : Int)) (w := w) (by omega) (by omega) (by omega) (by omega)).1
    have hpp : ∀ p : Nat, p < (N 39 50).toNat → 0 ≤ payP N w am p ∧ payP N w am p ≤ N 80 (48 * (p : Int) + w) := fun p hp2 => payP_0 (by omega) ho hp2
    have hE : eM N N1 := fun a h1 h2 => funext fun x => hv.1 a x (fun p hp2 => by have := had p hp2; omega)
    have hG1 : zG s N1 := by
      refine ⟨fun a x => ?_, fun a ha x => ?_⟩
      · by_cases q4 : ∃ p : Nat, p < (N 39 50).toNat ∧ a = lC N p ∧ x = w
        · obtain ⟨p, k1, k2, k3⟩ := q4
          rw [k2, k3, hv.2 p k1, (had p k1).2.2.2]
          have := hpp p k1
          have := yOw_v hy.2.1 hI.m (p := (p : Int)) (w := w) (by omega) (by omega) (by omega) (by omega)
          constructor <;> omega
        · rw [hv.1 a x (fun p hp2 q => q4 ⟨p, hp2, q⟩)]; exact hR _ _
      · rw [hv.1 a x (fun p hp2 => by have := had p hp2; omega)]
        exact hI.2.1.2 a ha x
    have hm1 : mI N1 := hE.mI_ hG1.1 hI.m
    refine k_pays hI.B hm1 (hE.yOw_ hy.2.1) hw ham ?_ ?_ ?_
    all_goals
      rw [hE.at 39 (by decide) (by decide) 2]
      try rw [hE.at 47 (by decide) (by decide), hE.owesA_]
    · exact fun q => absurd g1 q
    · exact fun _ q => absurd g2 q
    · intro _ _ N2 hv2
      rw [hE.at 39 (by decide) (by decide) 50] at hv2
      obtain ⟨m1, m2⟩ := hv2
      have m2 : ∀ p : Nat, p < (N 39 50).toNat → N2 80 (48 * (p : Int) + w) = N 80 (48 * (p : Int) + w) - payP N w am p := fun p hp2 => by
        have := m2 p hp2
        rw [hE.payP_, hE.at 80 (by decide) (by decide)] at this
        exact this
      have low : ∀ (a : Nat) (x : Int), a < 88 → a ≠ 80 → N2 a x = N a x := fun a x h0 h1 => (m1 a x (fun p hp2 => by omega)).trans (hv.1 a x (fun p hp2 => by have := had p hp2; omega))
      have up : ∀ (a : Nat) (x : Int), 88 ≤ a → N2 a x = N1 a x := fun a x h0 => m1 a x (fun p hp2 => by omega)
      have o80 : ∀ x : Int, (∀ p : Nat, p < (N 39 50).toNat → x ≠ 48 * (p : Int) + w) → N2 80 x = N 80 x := fun x hx => (m1 80 x (fun p hp2 q => hx p hp2 q.2)).trans (hE.at 80 (by decide) (by decide) x)
      have row : ∀ (p : Nat) (x : Int), p < (N 39 50).toNat → 0 ≤ x → x < 48 → 0 ≤ N2 80 (48 * (p : Int) + x) ∧ N2 80 (48 * (p : Int) + x) ≤ N 80 (48 * (p : Int) + x) := by
        intro p x hp2 h0 h1
        by_cases hx : x = w
        · rw [hx, m2 p hp2]
          have := hpp p hp2
          omega
        · rw [o80 _ (fun p2 hp3 => by omega)]
          have := yOw_v hy.2.1 hI.m (p := (p : Int)) (w := x) (by omega) (by omega) (by omega) (by omega)
          omega
      have hG : zG s N2 := by
        refine ⟨fun a x => ?_, fun a ha x => (up a x (by have := hI.B.1; omega)).trans (hG1.2 a ha x)⟩
        by_cases q4 : ∃ p : Nat, p < (N 39 50).toNat ∧ a = 80 ∧ x = 48 * (p : Int) + w
        · obtain ⟨p, k1, k2, k3⟩ := q4
          rw [k2, k3]
          have := row p w k1 (by omega) (by omega)
          have := yOw_v hy.2.1 hI.m (p := (p : Int)) (w := w) (by omega) (by omega) (by omega) (by omega)
          constructor <;> omega
        · rw [m1 a x (fun p hp2 q => q4 ⟨p, hp2, q⟩)]; exact hG1.1 _ _
      have how : yOw N2 := by
        intro p h0 h1
        rw [low 39 50 (by omega) (by omega)] at h1
        have ep : ((p.toNat : Nat) : Int) = p := z_cast h0
        rw [low 76 p (by omega) (by omega), low 77 p (by omega) (by omega)]
        have r := row p.toNat
        rw [ep] at r
        refine ⟨fun v v0 v1 => (r v (by omega) v0 v1).1, Int.le_trans (sumK_le 48 (fun i hi => (r i (by omega) (by omega) (by omega)).2)) (hy.2.1 p h0 h1).2⟩
      obtain ⟨x1, x2, x3⟩ := jx_owe (N2 := N2) hI hy sK.rf hG (fun a ha => funext fun x => low a x (by omega) (by omega)) (fun j0 hj => low 39 j0 (by omega) (by omega)) (fun j0 hj => low 3 j0 (by omega) (by omega)) (fun a h1 h2 h3 => funext fun x => (up a x h1).trans (hv.1 a x (fun p hp2 q => by
          have := had p hp2
          rw [q.1] at h3
          omega))) (by rw [low 3 11 (by omega) (by omega), low 39 58 (by omega) (by omega)]; exact hI.hs.2.2.2.2.2.1) rfl
        (fun i h0 h1 => by rw [low 47 i (by omega) (by omega)]; exact (hI.m.2.2.1 i h0 h1).2.2.2.2.2.2)
        (fun i a h0 h1 ha => by
          have ea : ∀ x, N2 a x = N a x := fun x => (up a x ha.1).trans (hv.1 a x (fun p hp2 q => by
            have := (had p hp2).2.2.1
            rw [← q.1, ha.2.1.2.2] at this
            cases this))
          rw [low 47 i (by omega) (by omega), ea 6]
          exact ⟨fun x _ => ea x, ha.2.2.2.2.2.2.2.2.2.1⟩)
        (fun p h0 h1 => by
          rw [low 77 p (by omega) (by omega), low 78 p (by omega) (by omega)]
          exact (hI.m.2.2.2.2.2.2 p h0 h1).2.2.2)
        (fun p a b e h0 h1 hl => by
          have ep : ((p.toNat : Nat) : Int) = p := z_cast h0
          obtain ⟨q1, q2⟩ := lA_p hl
          have h88e := hl.2.2.2.2.2.2.2.2.2.2.2.2.2.2.1
          have ea : ∀ x : Int, N2 a x = N a x := fun x => (up a x hl.1).trans (hv.1 a x (fun p2 hp2 q => by
            have := (had p2 hp2).2.2.1
            rw [← q.1, hl.2.1.2.2] at this
            cases this))
          rw [low 77 p (by omega) (by omega), low 78 p (by omega) (by omega), ea 7, ea 8, hl.2.2.2.2.2.2.2.2.2.2.1, hl.2.2.2.2.2.2.2.2.2.2.2.1]
          refine ⟨fun x _ _ => ea x, rfl, rfl, fun x h2 h3 => ?_⟩
          have lr := (hl.2.2.2.2.2.2.2.2.2.2.2.2.2.2.2.2 x h2 h3).2
          by_cases hx : x = w
          · have n := hv.2 p.toNat (by omega)
            have m := m2 p.toNat (by omega)
            rw [ep] at n m
            rw [q2] at n
            rw [hx] at lr ⊢
            rw [m, up e w h88e, n, lr]
          · rw [o80 _ (fun p2 hp3 => by omega), up e x h88e, hv.1 e x (fun p2 hp2 q => hx q.2), lr]) how
      exact hq _ _ ⟨fa, sa, x1, x2, by omega, hsz.n0⟩
end RT9
