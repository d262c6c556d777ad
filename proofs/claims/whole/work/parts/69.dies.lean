/-! dying, the system's side (printed by wip/whole/gen/r7.py) -/
section RT7
variable {X : zX} {s : zK} {N : zN} {σ : zS} {fa sa : Int → Int} {Q K : Option Value → zS → Prop} {c : Int}
/-! dying: debts parted anew -/
def nD (N : zN) (w d : Int) : zN := mup N 47 w d
noncomputable def dad (N : zN) (w d p x : Int) : Int := zif (0 < N 80 (48 * p + w) ∧ 0 < aln (nD N w d) p) (adn (nD N w d) p (N 80 (48 * p + w)) x) 0
noncomputable def lsD (N : zN) (w d : Int) : Nat → Int
  | 0 => N 39 58
  | n + 1 => zif (0 < N 80 (48 * (n : Int) + w) ∧ aln (nD N w d) n = 0) (w32 (lsD N w d n + N 80 (48 * (n : Int) + w))) (lsD N w d n)
theorem lsD_r (hR : zr (N 39 58)) (w d : Int) : ∀ n : Nat, zr (lsD N w d n)
  | 0 => hR
  | n + 1 => by
    rw [lsD]
    by_cases h : 0 < N 80 (48 * (n : Int) + w) ∧ aln (nD N w d) n = 0
    · rw [zif_t h]; exact w32_r _
    · rw [zif_f h]; exact lsD_r hR w d n
theorem nD_o {w d : Int} {a : Nat} (h : a ≠ 47) (x : Int) : nD N w d a x = N a x := mup_cell h
theorem nD_w (w d : Int) : wgt (nD N w d) = wgt N := by
  funext x
  unfold wgt
  rw [nD_o (by decide)]
theorem nD_al (w d p : Int) : aln (nD N w d) p = pallK (parts (nD N w d) p) (wgt N) (N 39 2).toNat := by
  unfold aln
  rw [nD_w, nD_o (by decide)]
theorem nD_ad (w d p am x : Int) : adn (nD N w d) p am x = padd (parts (nD N w d) p) (wgt N) (N 39 2).toNat am x := by
  unfold adn
  rw [nD_w, nD_o (by decide)]
def dS (N : zN) (w d : Int) (A : Nat) (i : Nat) (N1 : zN) : Prop :=
  (∀ (a : Nat) (x : Int), a ≠ 30 → ¬ (a = 3 ∧ x = 11) → ¬ (a = A ∧ x = 6) → (∀ p : Nat, p < i → a ≠ lC N p) → N1 a x = N a x) ∧
  (∀ p : Nat, p < i → ∀ x : Int, N1 (lC N p) x = (if x = w then 0 else N (lC N p) x) + dad N w d p x) ∧ N1 A 6 = d ∧ N1 3 11 = lsD N w d i ∧ ∀ x : Int, zr (N1 30 x)
def dM (N : zN) (w d : Int) (N1 : zN) (i : Nat) (N2 : zN) : Prop :=
  (∀ (a : Nat) (x : Int), a ≠ 81 → ¬ (a = 39 ∧ x = 58) → ¬ (a = 47 ∧ x = w) → (∀ p : Nat, p < i → ¬ (a = 80 ∧ 48 * (p : Int) ≤ x ∧ x < 48 * (p : Int) + 48)) → N2 a x = N1 a x) ∧
  (∀ p : Nat, p < i → ∀ x : Int, 0 ≤ x → x < 48 → N2 80 (48 * (p : Int) + x) = (if x = w then 0 else N 80 (48 * (p : Int) + x)) + dad N w d p x) ∧ N2 47 w = d ∧ N2 39 58 = lsD N w d i ∧ ∀ x : Int, zr (N2 81 x)
/-- what is owed of one plea -/
theorem yOw_v (hy : yOw N) (hm : mI N) {p w : Int} (h0 : 0 ≤ p) (h1 : p < N 39 50) (hw0 : 0 ≤ w) (hw1 : w < 48) : 0 ≤ N 80 (48 * p + w) ∧ N 80 (48 * p + w) ≤ 9999 := by
  obtain ⟨a1, a2⟩ := hy p h0 h1
  have hp := hm.2.2.2.2.2.2 p h0 h1
  have h := sumK_1 (f := fun x : Nat => N 80 (48 * p + x)) (k := w.toNat) 48 (fun i hi => a1 i (by omega) (by omega)) (by omega)
  have h2 := a1 w hw0 hw1
  have e : N 80 (48 * p + (w.toNat : Int)) = N 80 (48 * p + w) := by rw [z_cast hw0]
  have h : N 80 (48 * p + (w.toNat : Int)) ≤ sumK (fun x : Nat => N 80 (48 * p + x)) 48 := h
  split at a2 <;> omega
theorem dS_st {w d : Int} {A C : Nat} {i : Nat} {N1 N3 : zN} (hC : lC N i = C) (hAC : A ≠ C) (hC3 : 88 ≤ C) (hne : ∀ p : Nat, p < i → lC N p ≠ C ∧ 88 ≤ lC N p ∧ lC N p ≠ A) (h : dS N w d A i N1)
    (h1 : ∀ (a : Nat) (x : Int), a ≠ 30 → ¬ (a = 3 ∧ x = 11) → a ≠ C → N3 a x = N1 a x) (h4 : ∀ x : Int, N3 C x = (if x = w then 0 else N C x) + dad N w d i x) (h5 : N3 3 11 = lsD N w d (i + 1)) (h6 : ∀ x : Int, zr (N3 30 x)) (hA3 : 88 ≤ A) : dS N w d A (i + 1) N3 := by
  refine ⟨fun a x g1 g2 g3 g4 => ?_, fun p hp x => ?_, ?_, h5, h6⟩
  · have q := g4 i (by omega)
    rw [hC] at q
    rw [h1 a x g1 g2 q]
    exact h.1 a x g1 g2 g3 (fun p hp => g4 p (by omega))
  · by_cases e : p = i
    · rw [e, hC]
      exact h4 x
    · have hn := hne p (by omega)
      rw [h1 _ _ (by omega) (by omega) hn.1]
      exact h.2.1 p (by omega) x
  · rw [h1 A 6 (by omega) (by omega) hAC]
    exact h.2.2.1
theorem dM_st {w d : Int} {i : Nat} {N1 N2 N3 : zN} (h : dM N w d N1 i N2)
    (h1 : ∀ (a : Nat) (x : Int), a ≠ 81 → ¬ (a = 39 ∧ x = 58) → ¬ (a = 80 ∧ 48 * (i : Int) ≤ x ∧ x < 48 * (i : Int) + 48) → N3 a x = N2 a x) (h4 : ∀ x : Int, 0 ≤ x → x < 48 → N3 80 (48 * (i : Int) + x) = (if x = w then 0 else N 80 (48 * (i : Int) + x)) + dad N w d i x) (h5 : N3 39 58 = lsD N w d (i + 1)) (h6 : ∀ x : Int, zr (N3 81 x)) : dM N w d N1 (i + 1) N3 := by
  refine ⟨fun a x g1 g2 g3 g4 => ?_, fun p hp x x0 x1 => ?_, ?_, h5, h6⟩
  · rw [h1 a x g1 g2 (g4 i (by omega))]
    exact h.1 a x g1 g2 g3 (fun p hp => g4 p (by omega))
  · by_cases e : p = i
    · rw [e]
      exact h4 x x0 x1
    · rw [h1 80 _ (by omega) (by omega) (by omega)]
      exact h.2.1 p (by omega) x x0 x1
  · rw [h1 47 w (by omega) (by omega) (by omega)]
    exact h.2.2.1
set_option maxRecDepth 20000 in
set_option maxHeartbeats 2000000 in
theorem x_partDebtsOf (hI : xI s N fa sa) (hyo : yOw N) {w d : Int} {A : Nat} (hw : 0 ≤ w ∧ w < N 39 2) (hd : 0 ≤ d ∧ d ≤ 9999) (hp : xPer s N fa sa w A) (h : ∀ N1, dS N w d A (N 39 50).toNat N1 → Q none (zI s N1)) : zC X m_X11_partDebtsOf [.ref 3, vi w] (zI s (mup N A 6 d)) Q := by
  have hB := hI.B
  have hR := hI.R
  have hC := hI.C
  unfold mCnt at hC
  have hm := hI.m
  obtain ⟨e1, e5, e7, e8, e10, e11, e3, e12, eh, eg, ef, et⟩ := hI.hs
  have p88 := hp.1
  have pA := hp.2.1
  show zE X m_X11_partDebtsOf 0 [.ref 3, vi w, zU, zU] [] _ Q
  refine e_iconst q_X11_partDebtsOf_0 ?_
  refine e_istore_n (ls' := [_, _, _, _]) q_X11_partDebtsOf_1 (by decide) rfl rfl ?_
  refine zEe (ls := [.ref 3, vi w, vi ((0 : Nat) : Int), zU]) (σ := zI s (mup N A 6 d)) ?_ rfl rfl
  refine z_for (P := fun i => ∀ (N1 : zN) (u3 : Value), (dS N w d A i N1) → zE X m_X11_partDebtsOf 2 [.ref 3, vi w, vi (i : Int), u3] [] (zI s N1) Q) (N 39 50).toNat (fun i hi ih N1 u3 hv => ?_) (fun N1 u3 hv => ?_) _ zU ⟨fun a x h1 h2 h3 _ => mup_ne h3, fun p hp => by omega, mup_self _ _ _ _, (mup_cell (by omega)).trans e11, fun x => by rw [mup_cell (by omega)]; exact hR _ _⟩
  · skip
    have h310 : N1 3 10 = N 39 50 := (hv.1 3 10 (by decide) (by omega) (by omega) (fun p hp => by
      obtain ⟨a2, b2, e2, hl2⟩ := hI.ls.1 (p : Int) (by omega) (by omega)
      rw [(lA_p hl2).2]
      have := hl2.2.2.2.2.2.2.2.2.2.2.2.2.2.2.1
      omega)).trans e10
    refine e_iload_n q_X11_partDebtsOf_2 (by decide) rfl ?_
    refine e_aload_n q_X11_partDebtsOf_3 (by decide) rfl ?_
    refine i_getI (k' := 10) q_X11_partDebtsOf_4 fl_X11_294 (a3 hB) rfl rfl rfl h310 ?_
    refine e_icmp_ge q_X11_partDebtsOf_7 (by first | exact hR _ _ | (constructor <;> omega) | assumption) (by first | exact hR _ _ | (constructor <;> omega) | assumption) (fun c7 => ?_) (fun c7 => ?_)
    · skip
      exact absurd c7 (by omega)
    · skip
      refine e_aload_n q_X11_partDebtsOf_10 (by decide) rfl ?_
      refine i_getC (r := 11) q_X11_partDebtsOf_11 fl_X11_37 (a3 hB) rfl (by decide) ?_
      refine e_iload_n q_X11_partDebtsOf_14 (by decide) rfl ?_
      obtain ⟨a, b, e, hl⟩ := hI.ls.1 (i : Int) (by omega) (by omega)
      have hAC := lA_p hl
      have hvl := xPle_v hI.R hl
      obtain ⟨l88, lA', l11, l0, l1, l2, l3, l4, l5, l6, l7, l8, lb88, lbA, lc88, lcA, lrow⟩ := id hl
      have hne : ∀ p : Nat, p < i → lC N p ≠ e ∧ 88 ≤ lC N p ∧ lC N p ≠ A ∧ lC N p ≠ a ∧ lC N p ≠ b ∧ (s.2 (lC N p)).1 = 20 := by
        intro p hp
        obtain ⟨a2, b2, e2, hl2⟩ := hI.ls.1 (p : Int) (by omega) (by omega)
        have hAC2 := lA_p hl2
        rw [hAC2.2]
        have k2 := hl2.2.2.2.2.2.2.2.2.2.2.2.2.2.2.2.1
        refine ⟨fun q => ?_, hl2.2.2.2.2.2.2.2.2.2.2.2.2.2.2.1, k2.ne pA (by decide), k2.ne lA' (by decide), k2.ne lbA (by decide), by rw [k2.2.2]⟩
        have := hI.ls.2 p i (by omega) (by omega) (by omega) (by omega) (Or.inr (Or.inr (by
          show N (lA N p) 5 = N (lA N i) 5
          rw [hAC2.1, hAC.1, l5, hl2.2.2.2.2.2.2.2.2.1, q])))
        omega
      have hlow : ∀ (x0 : Nat) (y0 : Int), x0 < 88 → x0 ≠ 30 → ¬ (x0 = 3 ∧ y0 = 11) → N1 x0 y0 = N x0 y0 := fun x0 y0 h1 h2 h3 => hv.1 x0 y0 h2 h3 (by omega) (fun p hp => by have := hne p hp; omega)
      have hsm : ∀ (x0 : Nat) (y0 : Int), 88 ≤ x0 → x0 ≠ A → (∀ p : Nat, p < i → lC N p ≠ x0) → N1 x0 y0 = N x0 y0 := fun x0 y0 h1 h3 h2 => hv.1 x0 y0 (by omega) (by omega) (by omega) (fun p hp => fun q => h2 p hp q.symm)
      have ea : ∀ y0, N1 a y0 = N a y0 := fun y0 => hsm a y0 l88 (lA'.ne pA (by decide)) (fun p hp => by have := hne p hp; omega)
      have eb : ∀ y0, N1 b y0 = N b y0 := fun y0 => hsm b y0 lb88 (lbA.ne pA (by decide)) (fun p hp => by have := hne p hp; omega)
      have ee : ∀ y0, N1 e y0 = N e y0 := fun y0 => hsm e y0 lc88 (lcA.ne pA (by decide)) (fun p hp => by have := hne p hp; omega)
      have hov := yOw_v hyo hI.m (p := (i : Int)) (w := w) (by omega) (by omega) (by omega) (by omega)
      have hew : N e w = N 80 (48 * (i : Int) + w) := (lrow w (by omega) (by omega)).2
      have l88A : zA s a (5, 0) := lA'
      refine i_aald q_X11_partDebtsOf_15 (a11 hB) (by decide) (fun _ => rfl) (by omega) (by omega) (by decide) ((hlow 11 i (by omega) (by omega) (by omega)).trans l11) (by omega) ?_
      refine i_getR (k' := 5) q_X11_partDebtsOf_16 fl_X11_333 l88A (cref0 (by omega) _) rfl rfl ((ea 5).trans l5) (by omega) ?_
      refine e_iload_n q_X11_partDebtsOf_19 (by decide) rfl ?_
      refine i_iald q_X11_partDebtsOf_20 lcA (cref0 (by omega)) (by first | omega | assumption) (by first | omega | assumption) (by decide) ((ee w).trans hew) ?_
      refine e_istore_n (ls' := [_, _, _, _]) q_X11_partDebtsOf_21 (by decide) rfl rfl ?_
      refine e_iload_n q_X11_partDebtsOf_22 (by decide) rfl ?_
      refine e_if_le q_X11_partDebtsOf_23 (by constructor <;> omega) (fun c23 => ?_) (fun c23 => ?_)
      · skip
        refine e_iinc (ls' := [_, _, _, _]) q_X11_partDebtsOf_50 (by decide) rfl rfl rfl ?_
        refine e_goto q_X11_partDebtsOf_53 ?_
        have hne2 : ∀ p : Nat, p < i → lC N p ≠ e ∧ 88 ≤ lC N p ∧ lC N p ≠ A := fun p hp => ⟨(hne p hp).1, (hne p hp).2.1, (hne p hp).2.2.1⟩
        have hAe : A ≠ e := pA.ne lcA (by decide)
        first
        | (have h0v : N 80 (48 * (i : Int) + w) = 0 := by omega
           refine zEe (ih N1 _ (dS_st hAC.2 hAe lc88 hne2 hv (fun _ _ _ _ _ => rfl) (fun x => ?_) ?_ hv.2.2.2.2 p88)) rfl rfl
           · rw [ee, dad, zif_f (by omega), Int.add_zero]
             by_cases hx : x = w
             · rw [if_pos hx, hx, hew, h0v]
             · rw [if_neg hx]
           · rw [lsD, zif_f (by omega)]
             exact hv.2.2.2.1)
        | (refine zEe (ih _ _ (dS_st hAC.2 hAe lc88 hne2 hv (fun a0 x0 h1 h2 h3 => ?_) (fun x0 => ?_) ?_ (fun x0 => ?_) p88)) rfl rfl
           · rw [mup_ne h2, mup_cell h3]
           · rw [mup_cell (by omega), dad, zif_f (by omega), Int.add_zero]
             by_cases hx : x0 = w
             · rw [if_pos hx, hx, mup_self]
             · rw [if_neg hx, mup_slot hx, ee]
           · rw [mup_self, mup_cell (by omega), lsD, zif_t ⟨by omega, ha0⟩, hv.2.2.2.1]
           · rw [mup_cell (by omega), mup_cell (by omega)]
             exact hv.2.2.2.2 x0)
        | (refine zEe (ih _ _ (dS_st hAC.2 hAe lc88 hne2 hv (fun a0 x0 h1 h2 h3 => ?_) (fun x0 => ?_) ?_ (fun x0 => ?_) p88)) rfl rfl
           · rw [hv3.1 a0 h3 h1, mup_cell h3]
           · rw [hv3.2.1 x0, dad, zif_t ⟨by omega, ha0⟩, nD_ad]
             by_cases hx : x0 = w
             · rw [if_pos hx, hx, mup_self]
             · rw [if_neg hx, mup_slot hx, ee]
           · rw [hv3.1 3 (by omega) (by omega), mup_cell (by omega), lsD, zif_f (by omega)]
             exact hv.2.2.2.1
           · exact hv3.2.2 x0)
      · skip
        refine e_aload_n q_X11_partDebtsOf_26 (by decide) rfl ?_
        refine i_getC (r := 11) q_X11_partDebtsOf_27 fl_X11_37 (a3 hB) rfl (by decide) ?_
        refine e_iload_n q_X11_partDebtsOf_30 (by decide) rfl ?_
        refine i_aald q_X11_partDebtsOf_31 (a11 hB) (by decide) (fun _ => rfl) (by omega) (by omega) (by decide) ((hlow 11 i (by omega) (by omega) (by omega)).trans l11) (by omega) ?_
        refine i_getR (k' := 5) q_X11_partDebtsOf_32 fl_X11_333 l88A (cref0 (by omega) _) rfl rfl ((ea 5).trans l5) (by omega) ?_
        refine e_iload_n q_X11_partDebtsOf_35 (by decide) rfl ?_
        refine e_iconst q_X11_partDebtsOf_36 ?_
        refine i_iast q_X11_partDebtsOf_37 lcA (cref0 (by omega)) (by first | omega | assumption) (by first | omega | assumption) (by decide) ?_
        have hvM : pvw s (mup N1 e w 0) (N 39 2).toNat (wgt N) (fun x => nD N w d 47 x = 100000) := by
          intro j h0 h1
          obtain ⟨a2, p88, pA2, p5, p4, p6, pr⟩ := xPs_v hI j h0 h1
          have hk : a2 ≠ e := pA2.ne lcA (by decide)
          have hd4 : ∀ p : Nat, p < i → lC N p ≠ a2 := fun p hp q => by
            have h5 := (hne p hp).2.2.2.2.2
            rw [q, pA2.2.2] at h5
            cases h5
          have e5 : mup N1 e w 0 5 j = N 5 j := (mup_cell (by omega)).trans (hlow 5 j (by omega) (by omega) (by omega))
          refine ⟨a2, p88, pA2, by rw [e5]; exact p5, ?_⟩
          by_cases hj : j = w
          · have ha2 : a2 = A := by
              have := hp.2.2.1
              rw [hj] at p5
              omega
            have e4 : mup N1 e w 0 A 4 = N A 4 := (mup_cell (by omega)).trans (hv.1 A 4 (by omega) (by omega) (by omega) (fun p hp2 => by have := hne p hp2; omega))
            have e6 : mup N1 e w 0 A 6 = d := (mup_cell (by omega)).trans hv.2.2.1
            have ew : nD N w d 47 j = d := by rw [hj]; exact mup_self _ _ _ _
            rw [ha2] at p4 ⊢
            rw [e4, e6]
            show _ ∧ (d ≠ -1 ↔ ¬ nD N w d 47 j = 100000) ∧ _
            rw [ew]
            refine ⟨p4, ?_, by constructor <;> omega⟩
            constructor
            · intro q; omega
            · intro q; omega
          · have hn2 : a2 ≠ A := fun q => hj (hI.ps.2 j w h0 (by omega) (by omega) (by omega) (by rw [p5, hp.2.2.1, q]))
            have e2 : ∀ y0, mup N1 e w 0 a2 y0 = N a2 y0 := fun y0 => (mup_cell hk).trans (hsm a2 y0 p88 hn2 hd4)
            have ew : nD N w d 47 j = N 47 j := mup_slot hj
            rw [e2 4, e2 6]
            show _ ∧ (N a2 6 ≠ -1 ↔ ¬ nD N w d 47 j = 100000) ∧ _
            rw [ew]
            exact ⟨p4, p6, pr⟩
        have hlM : lvw s (mup N1 e w 0) a b e := by
          obtain ⟨k1, k2, k3, k4, k5, k6, k7, k8, k9⟩ := hvl
          refine ⟨k1, k2, ?_, ?_, k5, k6, k7, k8, fun x => ?_⟩
          · rw [mup_cell (k2.ne k8 (by decide)), ea]; exact k3
          · rw [mup_cell (k2.ne k8 (by decide)), ea]; exact k4
          · rw [mup_cell (k6.ne k8 (by decide)), eb]; exact k9 x
        have htkM : ∀ x : Int, 0 ≤ x → x < (N 39 2).toNat → (parts (nD N w d) i x ↔ (mup N1 e w 0 b x ≠ 0 ∧ nD N w d 47 x = 100000)) := fun x h0 h1 => by
          unfold parts
          rw [mup_cell (lbA.ne lcA (by decide)), eb, (lrow x h0 (by omega)).1, nD_o (by decide)]
        refine e_aload_n q_X11_partDebtsOf_38 (by decide) rfl ?_
        refine e_aload_n q_X11_partDebtsOf_39 (by decide) rfl ?_
        refine i_getC (r := 11) q_X11_partDebtsOf_40 fl_X11_37 (a3 hB) rfl (by decide) ?_
        refine e_iload_n q_X11_partDebtsOf_43 (by decide) rfl ?_
        refine i_aald q_X11_partDebtsOf_44 (a11 hB) (by decide) (fun _ => rfl) (by omega) (by omega) (by decide) ((mup_cell (by omega)).trans ((hlow 11 i (by omega) (by omega) (by omega)).trans l11)) (by omega) ?_
        refine e_iload_n q_X11_partDebtsOf_45 (by decide) rfl ?_
        refine iv_X11_part rfl q_X11_partDebtsOf_46 lk_X11_326 (by decide) (a3 hB) (Nat.le_of_ble_eq_true rfl) ?_
        refine xr_part hB (P := (N 39 2).toNat) (wg := wgt N) (al := fun x => nD N w d 47 x = 100000) (b := b) (e := e) (am := N 80 (48 * (i : Int) + w)) hvM hlM (by omega) (tk := parts (nD N w d) i) htkM (by rw [mup_cell (by omega), hlow 3 3 (by omega) (by omega) (by omega), e3]; omega) (wgt_w N) (by omega) (fun x => by rw [mup_cell (by omega)]; exact hv.2.2.2.2 x) (fun hall => ?_) (fun hall N3 hv3 => ?_)
        · skip
          have ha0 : aln (nD N w d) i = 0 := (nD_al w d i).trans hall
          refine e_pop q_X11_partDebtsOf_49 rfl ?_
          refine e_iinc (ls' := [_, _, _, _]) q_X11_partDebtsOf_50 (by decide) rfl rfl rfl ?_
          refine e_goto q_X11_partDebtsOf_53 ?_
          have hne2 : ∀ p : Nat, p < i → lC N p ≠ e ∧ 88 ≤ lC N p ∧ lC N p ≠ A := fun p hp => ⟨(hne p hp).1, (hne p hp).2.1, (hne p hp).2.2.1⟩
          have hAe : A ≠ e := pA.ne lcA (by decide)
          first
          | (have h0v : N 80 (48 * (i : Int) + w) = 0 := by omega
             refine zEe (ih N1 _ (dS_st hAC.2 hAe lc88 hne2 hv (fun _ _ _ _ _ => rfl) (fun x => ?_) ?_ hv.2.2.2.2 p88)) rfl rfl
             · rw [ee, dad, zif_f (by omega), Int.add_zero]
               by_cases hx : x = w
               · rw [if_pos hx, hx, hew, h0v]
               · rw [if_neg hx]
             · rw [lsD, zif_f (by omega)]
               exact hv.2.2.2.1)
          | (refine zEe (ih _ _ (dS_st hAC.2 hAe lc88 hne2 hv (fun a0 x0 h1 h2 h3 => ?_) (fun x0 => ?_) ?_ (fun x0 => ?_) p88)) rfl rfl
             · rw [mup_ne h2, mup_cell h3]
             · rw [mup_cell (by omega), dad, zif_f (by omega), Int.add_zero]
               by_cases hx : x0 = w
               · rw [if_pos hx, hx, mup_self]
               · rw [if_neg hx, mup_slot hx, ee]
             · rw [mup_self, mup_cell (by omega), lsD, zif_t ⟨by omega, ha0⟩, hv.2.2.2.1]
             · rw [mup_cell (by omega), mup_cell (by omega)]
               exact hv.2.2.2.2 x0)
          | (refine zEe (ih _ _ (dS_st hAC.2 hAe lc88 hne2 hv (fun a0 x0 h1 h2 h3 => ?_) (fun x0 => ?_) ?_ (fun x0 => ?_) p88)) rfl rfl
             · rw [hv3.1 a0 h3 h1, mup_cell h3]
             · rw [hv3.2.1 x0, dad, zif_t ⟨by omega, ha0⟩, nD_ad]
               by_cases hx : x0 = w
               · rw [if_pos hx, hx, mup_self]
               · rw [if_neg hx, mup_slot hx, ee]
             · rw [hv3.1 3 (by omega) (by omega), mup_cell (by omega), lsD, zif_f (by omega)]
               exact hv.2.2.2.1
             · exact hv3.2.2 x0)
        · skip
          have ha0 : 0 < aln (nD N w d) i := by rw [nD_al]; exact hall
          refine e_pop q_X11_partDebtsOf_49 rfl ?_
          refine e_iinc (ls' := [_, _, _, _]) q_X11_partDebtsOf_50 (by decide) rfl rfl rfl ?_
          refine e_goto q_X11_partDebtsOf_53 ?_
          have hne2 : ∀ p : Nat, p < i → lC N p ≠ e ∧ 88 ≤ lC N p ∧ lC N p ≠ A := fun p hp => ⟨(hne p hp).1, (hne p hp).2.1, (hne p hp).2.2.1⟩
          have hAe : A ≠ e := pA.ne lcA (by decide)
          first
          | (have h0v : N 80 (48 * (i : Int) + w) = 0 := by omega
             refine zEe (ih N1 _ (dS_st hAC.2 hAe lc88 hne2 hv (fun _ _ _ _ _ => rfl) (fun x => ?_) ?_ hv.2.2.2.2 p88)) rfl rfl
             · rw [ee, dad, zif_f (by omega), Int.add_zero]
               by_cases hx : x = w
               · rw [if_pos hx, hx, hew, h0v]
               · rw [if_neg hx]
             · rw [lsD, zif_f (by omega)]
               exact hv.2.2.2.1)
          | (refine zEe (ih _ _ (dS_st hAC.2 hAe lc88 hne2 hv (fun a0 x0 h1 h2 h3 => ?_) (fun x0 => ?_) ?_ (fun x0 => ?_) p88)) rfl rfl
             · rw [mup_ne h2, mup_cell h3]
             · rw [mup_cell (by omega), dad, zif_f (by omega), Int.add_zero]
               by_cases hx : x0 = w
               · rw [if_pos hx, hx, mup_self]
               · rw [if_neg hx, mup_slot hx, ee]
             · rw [mup_self, mup_cell (by omega), lsD, zif_t ⟨by omega, ha0⟩, hv.2.2.2.1]
             · rw [mup_cell (by omega), mup_cell (by omega)]
               exact hv.2.2.2.2 x0)
          | (refine zEe (ih _ _ (dS_st hAC.2 hAe lc88 hne2 hv (fun a0 x0 h1 h2 h3 => ?_) (fun x0 => ?_) ?_ (fun x0 => ?_) p88)) rfl rfl
             · rw [hv3.1 a0 h3 h1, mup_cell h3]
             · rw [hv3.2.1 x0, dad, zif_t ⟨by omega, ha0⟩, nD_ad]
               by_cases hx : x0 = w
               · rw [if_pos hx, hx, mup_self]
               · rw [if_neg hx, mup_slot hx, ee]
             · rw [hv3.1 3 (by omega) (by omega), mup_cell (by omega), lsD, zif_f (by omega)]
               exact hv.2.2.2.1
             · exact hv3.2.2 x0)
  · skip
    have h310 : N1 3 10 = N 39 50 := (hv.1 3 10 (by decide) (by omega) (by omega) (fun p hp => by
      obtain ⟨a2, b2, e2, hl2⟩ := hI.ls.1 (p : Int) (by omega) (by omega)
      rw [(lA_p hl2).2]
      have := hl2.2.2.2.2.2.2.2.2.2.2.2.2.2.2.1
      omega)).trans e10
    refine e_iload_n q_X11_partDebtsOf_2 (by decide) rfl ?_
    refine e_aload_n q_X11_partDebtsOf_3 (by decide) rfl ?_
    refine i_getI (k' := 10) q_X11_partDebtsOf_4 fl_X11_294 (a3 hB) rfl rfl rfl h310 ?_
    refine e_icmp_ge q_X11_partDebtsOf_7 (by first | exact hR _ _ | (constructor <;> omega) | assumption) (by first | exact hR _ _ | (constructor <;> omega) | assumption) (fun c7 => ?_) (fun c7 => ?_)
    · skip
      refine e_return q_X11_partDebtsOf_56 rfl ?_
      exact h N1 hv
    · skip
      exact absurd (by omega) c7
set_option maxRecDepth 20000 in
set_option maxHeartbeats 2000000 in
theorem x_dies (hI : xI s N fa sa) (hyo : yOw N) {w : Int} (hw : zr w) {d : Int} (hd : zr d) (h1 : ¬ ((0 ≤ w ∧ w < N 39 2) ∧ (0 ≤ d ∧ d ≤ 9999)) → Q (some (vi (-1))) (zI s N)) (h2 : ((0 ≤ w ∧ w < N 39 2) ∧ (0 ≤ d ∧ d ≤ 9999)) → ¬ (N 47 w = 100000 ∧ behind N w d) → Q (some (vi (-2))) (zI s N)) (h3 : ∀ a : Nat, ((0 ≤ w ∧ w < N 39 2) ∧ (0 ≤ d ∧ d ≤ 9999)) → N 47 w = 100000 ∧ behind N w d → xPer s N fa sa w a → ∀ N1, dS N w d a (N 39 50).toNat N1 → Q (some (vi (owesA N w))) (zI s N1)) : zC X m_X11_dies [.ref 3, vi w, vi d] (zI s N) Q := by
  have hB := hI.B
  have hR := hI.R
  have hC := hI.C
  unfold mCnt at hC
  have hm := hI.m
  obtain ⟨e1, e5, e7, e8, e10, e11, e3, e12, eh, eg, ef, et⟩ := hI.hs
  show zE X m_X11_dies 0 [.ref 3, vi w, vi d, zU, zU] [] _ Q
  refine e_aload_n q_X11_dies_0 (by decide) rfl ?_
  refine e_iload_n q_X11_dies_1 (by decide) rfl ?_
  refine iv_X11_personAt q_X11_dies_2 lk_X11_113 (by decide) (a3 hB) (Nat.le_of_ble_eq_true rfl) ?_
  refine x_personAt hI hw (fun hw1 => ?_) (fun a hw1 hp => ?_)
  · skip
    refine e_astore_nN (ls' := [_, _, _, _, _]) q_X11_dies_5 (by decide) rfl rfl ?_
    refine e_aload_nN q_X11_dies_6 (by decide) rfl ?_
    refine e_ifnullN q_X11_dies_7 ?_
    refine e_iconst q_X11_dies_17 ?_
    refine e_ireturn q_X11_dies_18 rfl rfl ?_
    first | exact h1 (fun q => hw1 q.1) | exact h1 (fun q => c14 q.2)
  · skip
    obtain ⟨p88, pA, p5, p0, p1, p2, p3, p4, p5f, p6, p7, p8, p9⟩ := id hp
    refine e_astore_n (ls' := [_, _, _, _, _]) q_X11_dies_5 (by decide) rfl rfl ?_
    refine e_aload_n q_X11_dies_6 (by decide) rfl ?_
    refine e_ifnull q_X11_dies_7 ?_
    refine e_iload_n q_X11_dies_10 (by decide) rfl ?_
    refine iv_X11_isDay q_X11_dies_11 lk_X11_140 (by decide) (Nat.le_of_ble_eq_true rfl) ?_
    refine x_isDay hd ?_
    refine e_ifb_ne q_X11_dies_14 (fun c14 => ?_) (fun c14 => ?_)
    · skip
      refine e_aload_n q_X11_dies_19 (by decide) rfl ?_
      refine iv_X4_isDead q_X11_dies_20 lk_X11_133 (by decide) pA (Nat.le_of_ble_eq_true rfl) ?_
      refine x_isDead hI (by omega) (by omega) hp ?_
      refine e_ifb_ne q_X11_dies_23 (fun c23 => ?_) (fun c23 => ?_)
      · skip
        refine e_bipush q_X11_dies_42 (by decide) ?_
        refine e_ireturn q_X11_dies_44 rfl rfl ?_
        first | exact h2 ⟨hw1, c14⟩ (fun q => c23 q.1) | exact h2 ⟨hw1, c14⟩ (fun q => by have := ((behind_l c14.1).mp q.2).2; omega) | exact h2 ⟨hw1, c14⟩ (fun q => by have := ((behind_l c14.1).mp q.2).1; omega)
      · skip
        have hlm := lmove_r hm w
        refine e_iload_n q_X11_dies_26 (by decide) rfl ?_
        refine e_aload_n q_X11_dies_27 (by decide) rfl ?_
        refine iv_X4_latestMove q_X11_dies_28 lk_X11_150 (by decide) pA (Nat.le_of_ble_eq_true rfl) ?_
        refine x_latestMove hI (by omega) (by omega) hp ?_
        refine e_icmp_le q_X11_dies_31 (by first | exact hR _ _ | (constructor <;> omega) | assumption) (by first | exact hR _ _ | (constructor <;> omega) | assumption) (fun c31 => ?_) (fun c31 => ?_)
        · skip
          refine e_bipush q_X11_dies_42 (by decide) ?_
          refine e_ireturn q_X11_dies_44 rfl rfl ?_
          first | exact h2 ⟨hw1, c14⟩ (fun q => c23 q.1) | exact h2 ⟨hw1, c14⟩ (fun q => by have := ((behind_l c14.1).mp q.2).2; omega) | exact h2 ⟨hw1, c14⟩ (fun q => by have := ((behind_l c14.1).mp q.2).1; omega)
        · skip
          refine e_iload_n q_X11_dies_34 (by decide) rfl ?_
          refine e_aload_n q_X11_dies_35 (by decide) rfl ?_
          refine i_getI (k' := 1) q_X11_dies_36 fl_X11_143 pA (cref0 (by omega) _) rfl rfl p1 ?_
          refine e_icmp_ge q_X11_dies_39 (by first | exact hR _ _ | (constructor <;> omega) | assumption) (by first | exact hR _ _ | (constructor <;> omega) | assumption) (fun c39 => ?_) (fun c39 => ?_)
          · skip
            refine e_aload_n q_X11_dies_45 (by decide) rfl ?_
            refine e_iload_n q_X11_dies_46 (by decide) rfl ?_
            refine iv_X11_owedOfAll q_X11_dies_47 lk_X11_154 (by decide) (a3 hB) (Nat.le_of_ble_eq_true rfl) ?_
            refine x_owedOfAll hI (by omega) (by omega) ?_
            refine e_istore (ls' := [_, _, _, _, _]) q_X11_dies_50 (by decide) rfl rfl ?_
            refine e_aload_n q_X11_dies_52 (by decide) rfl ?_
            refine e_iload_n q_X11_dies_53 (by decide) rfl ?_
            refine i_putI (k' := 6) q_X11_dies_54 fl_X11_137 (Or.inl rfl) pA (cref0 (by omega) _) rfl rfl rfl rfl ?_
            refine e_aload_n q_X11_dies_57 (by decide) rfl ?_
            refine e_iload_n q_X11_dies_58 (by decide) rfl ?_
            refine iv_X11_partDebtsOf q_X11_dies_59 lk_X11_157 (by decide) (a3 hB) (Nat.le_of_ble_eq_true rfl) ?_
            refine x_partDebtsOf hI hyo hw1 c14 hp (fun N1 hv => ?_)
            refine e_iload q_X11_dies_62 (by decide) rfl ?_
            refine e_ireturn q_X11_dies_64 rfl rfl ?_
            exact h3 a ⟨hw1, c14⟩ ⟨Classical.byContradiction c23, (behind_l c14.1).mpr ⟨by omega, by omega⟩⟩ hp N1 hv
          · skip
            refine e_bipush q_X11_dies_42 (by decide) ?_
            refine e_ireturn q_X11_dies_44 rfl rfl ?_
            first | exact h2 ⟨hw1, c14⟩ (fun q => c23 q.1) | exact h2 ⟨hw1, c14⟩ (fun q => by have := ((behind_l c14.1).mp q.2).2; omega) | exact h2 ⟨hw1, c14⟩ (fun q => by have := ((behind_l c14.1).mp q.2).1; omega)
    · skip
      refine e_iconst q_X11_dies_17 ?_
      refine e_ireturn q_X11_dies_18 rfl rfl ?_
      first | exact h1 (fun q => hw1 q.1) | exact h1 (fun q => c14 q.2)
end RT7
