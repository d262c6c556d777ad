/-! parting, the system's side (printed by wip/whole/gen/r2.py) -/
section RT2
variable {X : zX} {s : zK} {N : zN} {σ : zS} {fa sa : Int → Int} {Q K : Option Value → zS → Prop} {c : Int}
theorem gmx_1 (R : Int → Int) : gmx R (0 + 1) = 0 := if_neg (Int.lt_irrefl (R 0))
/-- the people as parting sees them: weights, who lives -/
def pvw (s : zK) (N : zN) (P : Nat) (wg : Int → Int) (al : Int → Prop) : Prop := ∀ i : Int, 0 ≤ i → i < P → ∃ a : Nat, 88 ≤ a ∧ zA s a (4, 0) ∧ N 5 i = a ∧ ((N a 4 = 0 ∧ wg i = 3) ∨ (N a 4 = 1 ∧ wg i = 1)) ∧ (N a 6 ≠ -1 ↔ ¬ al i) ∧ zr (N a 6)
/-- a plea as parting sees it -/
def lvw (s : zK) (N : zN) (a b e : Nat) : Prop := 88 ≤ a ∧ zA s a (5, 0) ∧ N a 4 = b ∧ N a 5 = e ∧ 88 ≤ b ∧ zA s b (21, 48) ∧ 88 ≤ e ∧ zA s e (20, 48) ∧ ∀ x : Int, zr (N b x)
theorem zA.ne {a b : Nat} {p q : Nat × Nat} (h : zA s a p) (h2 : zA s b q) (hn : p.1 ≠ q.1) : a ≠ b := fun e => hn (by rw [← h.2.2, ← h2.2.2, e])
theorem pvw.k {N1 : zN} {P : Nat} {wg : Int → Int} {al : Int → Prop} {e : Nat} (he : zA s e (20, 48)) (h1 : ∀ a : Nat, a ≠ e → a ≠ 30 → N1 a = N a) (e88 : 88 ≤ e) (h : pvw s N P wg al) : pvw s N1 P wg al := by
  intro i h0 h2
  obtain ⟨a, p88, pA, p5, p4, p6, pr⟩ := h i h0 h2
  refine ⟨a, p88, pA, ?_⟩
  rw [h1 a (pA.ne he (by decide)) (by omega), h1 5 (by omega) (by omega)]
  exact ⟨p5, p4, p6, pr⟩
theorem lvw.k {N1 : zN} {a b e : Nat} (h1 : ∀ a : Nat, a ≠ e → a ≠ 30 → N1 a = N a) (h : lvw s N a b e) : lvw s N1 a b e := by
  obtain ⟨l88, lA, l4, l5, lb88, lbA, lc88, lcA, lr⟩ := h
  refine ⟨l88, lA, ?_⟩
  rw [h1 a (lA.ne lcA (by decide)) (by omega), h1 b (lbA.ne lcA (by decide)) (by omega)]
  exact ⟨l4, l5, lb88, lbA, lc88, lcA, lr⟩
set_option maxRecDepth 20000 in
set_option maxHeartbeats 2000000 in
theorem xr_isDead {a : Nat} (p88 : 88 ≤ a) (pA : zA s a (4, 0)) (pr : zr (N a 6)) (h : Q (some (vi (bi (N a 6 ≠ -1)))) (zI s N)) : zC X m_X4_isDead [.ref a] (zI s N) Q := by
  show zE X m_X4_isDead 0 [.ref a] [] _ Q
  refine e_aload_n q_X4_isDead_0 (by decide) rfl ?_
  refine i_getI (k' := 6) q_X4_isDead_1 fl_X4_9 pA (cref0 (by omega) _) rfl rfl rfl ?_
  refine e_iconst q_X4_isDead_4 ?_
  refine e_icmp_eq q_X4_isDead_5 pr (by constructor <;> omega) (fun c5 => ?_) (fun c5 => ?_)
  · skip
    refine e_iconst q_X4_isDead_12 ?_
    refine e_ireturn q_X4_isDead_13 rfl rfl ?_
    first | exact zqT h (by assumption) | exact zqF h (fun q => q (by assumption)) | exact zqT h (by omega) | exact zqF h (by omega)
  · skip
    refine e_iconst q_X4_isDead_8 ?_
    refine e_goto q_X4_isDead_9 ?_
    refine e_ireturn q_X4_isDead_13 rfl rfl ?_
    first | exact zqT h (by assumption) | exact zqF h (fun q => q (by assumption)) | exact zqT h (by omega) | exact zqF h (by omega)
set_option maxRecDepth 20000 in
set_option maxHeartbeats 2000000 in
theorem xr_weight {a : Nat} {g : Int} (p88 : 88 ≤ a) (pA : zA s a (4, 0)) (p4 : (N a 4 = 0 ∧ g = 3) ∨ (N a 4 = 1 ∧ g = 1)) (h : Q (some (vi g)) (zI s N)) : zC X m_X4_weight [.ref a] (zI s N) Q := by
  show zE X m_X4_weight 0 [.ref a] [] _ Q
  refine e_aload_n q_X4_weight_0 (by decide) rfl ?_
  refine i_getI (k' := 4) q_X4_weight_1 fl_X4_30 pA (cref0 (by omega) _) rfl rfl rfl ?_
  refine e_if_eq q_X4_weight_4 (by first | exact hR _ _ | (constructor <;> omega) | assumption) (fun c4 => ?_) (fun c4 => ?_)
  · skip
    refine e_iconst q_X4_weight_11 ?_
    refine e_ireturn q_X4_weight_12 rfl rfl ?_
    first | exact zqI h (by omega) | exact absurd p4 (by omega)
  · skip
    refine e_iconst q_X4_weight_7 ?_
    refine e_goto q_X4_weight_8 ?_
    refine e_ireturn q_X4_weight_12 rfl rfl ?_
    first | exact zqI h (by omega) | exact absurd p4 (by omega)
set_option maxRecDepth 20000 in
set_option maxHeartbeats 2000000 in
theorem xr_mayBear (hB : zB0 s) {P : Nat} {wg : Int → Int} {al : Int → Prop} {a b e : Nat} (hv : pvw s N P wg al) (hl : lvw s N a b e) (hP : P ≤ 48) {i : Int} (h0 : 0 ≤ i) (h1 : i < P) (h : Q (some (vi (bi (N b i ≠ 0 ∧ al i)))) (zI s N)) : zC X m_X11_mayBear [.ref 3, .ref a, vi i] (zI s N) Q := by
  obtain ⟨l88, lA, l4, l5, lb88, lbA, lc88, lcA, lr⟩ := id hl
  show zE X m_X11_mayBear 0 [.ref 3, .ref a, vi i] [] _ Q
  refine e_aload_n q_X11_mayBear_0 (by decide) rfl ?_
  refine i_getR (k' := 4) q_X11_mayBear_1 fl_X11_461 lA (cref0 (by omega) _) rfl rfl l4 (by omega) ?_
  refine e_iload_n q_X11_mayBear_4 (by decide) rfl ?_
  refine i_zald q_X11_mayBear_5 lbA (cref0 (by omega)) (by first | omega | assumption) (by first | omega | assumption) (by decide) rfl ?_
  refine e_if_eq q_X11_mayBear_6 (lr i) (fun c6 => ?_) (fun c6 => ?_)
  · skip
    refine e_iconst q_X11_mayBear_25 ?_
    refine e_ireturn q_X11_mayBear_26 rfl rfl ?_
    first | exact zqT h ⟨c6, Classical.byContradiction fun q => c18 (p62.mpr q)⟩ | exact zqF h (fun q => q.1 c6) | exact zqF h (fun q => (p62.mp c18) q.2)
  · skip
    refine e_aload_n q_X11_mayBear_9 (by decide) rfl ?_
    refine i_getC (r := 5) q_X11_mayBear_10 fl_X11_15 (a3 hB) rfl (by decide) ?_
    refine e_iload_n q_X11_mayBear_13 (by decide) rfl ?_
    obtain ⟨a2, p882, pA2, p52, p42, p62, pr2⟩ := hv i (by omega) (by omega)
    refine i_aald q_X11_mayBear_14 (a5 hB) (by decide) (fun _ => rfl) (by omega) (by omega) (by decide) p52 (by omega) ?_
    refine iv_X4_isDead q_X11_mayBear_15 lk_X11_133 (by decide) pA2 (Nat.le_of_ble_eq_true rfl) ?_
    refine xr_isDead p882 pA2 pr2 ?_
    refine e_ifb_ne q_X11_mayBear_18 (fun c18 => ?_) (fun c18 => ?_)
    · skip
      refine e_iconst q_X11_mayBear_25 ?_
      refine e_ireturn q_X11_mayBear_26 rfl rfl ?_
      first | exact zqT h ⟨c6, Classical.byContradiction fun q => c18 (p62.mpr q)⟩ | exact zqF h (fun q => q.1 c6) | exact zqF h (fun q => (p62.mp c18) q.2)
    · skip
      refine e_iconst q_X11_mayBear_21 ?_
      refine e_goto q_X11_mayBear_22 ?_
      refine e_ireturn q_X11_mayBear_26 rfl rfl ?_
      first | exact zqT h ⟨c6, Classical.byContradiction fun q => c18 (p62.mpr q)⟩ | exact zqF h (fun q => q.1 c6) | exact zqF h (fun q => (p62.mp c18) q.2)
set_option maxRecDepth 20000 in
set_option maxHeartbeats 2000000 in
theorem xr_weightOfAll (hB : zB0 s) {P : Nat} {wg : Int → Int} {al : Int → Prop} {a b e : Nat} (hv : pvw s N P wg al) (hl : lvw s N a b e) (hP : P ≤ 48) {tk : Int → Prop} (htk : ∀ x : Int, 0 ≤ x → x < P → (tk x ↔ (N b x ≠ 0 ∧ al x))) (h33 : N 3 3 = P) (h : Q (some (vi (pallK tk wg P))) (zI s N)) : zC X m_X11_weightOfAll [.ref 3, .ref a] (zI s N) Q := by
  obtain ⟨l88, lA, l4, l5, lb88, lbA, lc88, lcA, lr⟩ := id hl
  show zE X m_X11_weightOfAll 0 [.ref 3, .ref a, zU, zU] [] _ Q
  refine e_iconst q_X11_weightOfAll_0 ?_
  refine e_istore_n (ls' := [_, _, _, _]) q_X11_weightOfAll_1 (by decide) rfl rfl ?_
  refine e_iconst q_X11_weightOfAll_2 ?_
  refine e_istore_n (ls' := [_, _, _, _]) q_X11_weightOfAll_3 (by decide) rfl rfl ?_
  refine zEe (ls := [.ref 3, .ref a, vi (pallK tk wg 0), vi ((0 : Nat) : Int)]) (σ := zI s N) ?_ rfl rfl
  refine z_for (P := fun i => ∀ (hh : True), (True) → zE X m_X11_weightOfAll 4 [.ref 3, .ref a, vi (pallK tk wg i), vi (i : Int)] [] (zI s N) Q) P (fun i hi ih hh hv0 => ?_) (fun hh hv0 => ?_) trivial trivial
  · skip
    refine e_iload_n q_X11_weightOfAll_4 (by decide) rfl ?_
    refine e_aload_n q_X11_weightOfAll_5 (by decide) rfl ?_
    refine i_getI (k' := 3) q_X11_weightOfAll_6 fl_X11_107 (a3 hB) rfl rfl rfl h33 ?_
    refine e_icmp_ge q_X11_weightOfAll_9 (by first | exact hR _ _ | (constructor <;> omega) | assumption) (by first | exact hR _ _ | (constructor <;> omega) | assumption) (fun c9 => ?_) (fun c9 => ?_)
    · skip
      exact absurd c9 (by omega)
    · skip
      refine e_aload_n q_X11_weightOfAll_12 (by decide) rfl ?_
      refine e_aload_n q_X11_weightOfAll_13 (by decide) rfl ?_
      refine e_iload_n q_X11_weightOfAll_14 (by decide) rfl ?_
      refine iv_X11_mayBear rfl q_X11_weightOfAll_15 lk_X11_464 (by decide) (a3 hB) (Nat.le_of_ble_eq_true rfl) ?_
      refine xr_mayBear hB hv hl hP (by omega) (by omega) ?_
      refine e_ifb_eq q_X11_weightOfAll_18 (fun c18 => ?_) (fun c18 => ?_)
      · skip
        refine e_iinc (ls' := [_, _, _, _]) q_X11_weightOfAll_33 (by decide) rfl rfl rfl ?_
        refine e_goto q_X11_weightOfAll_36 ?_
        first | exact zEe (ih trivial trivial) (by rw [pallK_s, zif_t ((htk i (by omega) (by omega)).mpr c18)]; rfl) rfl | exact zEe (ih trivial trivial) (by rw [pallK_s, zif_f (fun q => c18 ((htk i (by omega) (by omega)).mp q)), Int.add_zero]; rfl) rfl
      · skip
        refine e_iload_n q_X11_weightOfAll_21 (by decide) rfl ?_
        refine e_aload_n q_X11_weightOfAll_22 (by decide) rfl ?_
        refine i_getC (r := 5) q_X11_weightOfAll_23 fl_X11_15 (a3 hB) rfl (by decide) ?_
        refine e_iload_n q_X11_weightOfAll_26 (by decide) rfl ?_
        obtain ⟨a2, p882, pA2, p52, p42, p62, pr2⟩ := hv i (by omega) (by omega)
        refine i_aald q_X11_weightOfAll_27 (a5 hB) (by decide) (fun _ => rfl) (by omega) (by omega) (by decide) p52 (by omega) ?_
        refine iv_X4_weight q_X11_weightOfAll_28 lk_X11_467 (by decide) pA2 (Nat.le_of_ble_eq_true rfl) ?_
        refine xr_weight p882 pA2 p42 ?_
        refine e_iadd q_X11_weightOfAll_31 ?_
        refine e_istore_n (ls' := [_, _, _, _]) q_X11_weightOfAll_32 (by decide) rfl rfl ?_
        refine e_iinc (ls' := [_, _, _, _]) q_X11_weightOfAll_33 (by decide) rfl rfl rfl ?_
        refine e_goto q_X11_weightOfAll_36 ?_
        first | exact zEe (ih trivial trivial) (by rw [pallK_s, zif_t ((htk i (by omega) (by omega)).mpr c18)]; rfl) rfl | exact zEe (ih trivial trivial) (by rw [pallK_s, zif_f (fun q => c18 ((htk i (by omega) (by omega)).mp q)), Int.add_zero]; rfl) rfl
  · skip
    refine e_iload_n q_X11_weightOfAll_4 (by decide) rfl ?_
    refine e_aload_n q_X11_weightOfAll_5 (by decide) rfl ?_
    refine i_getI (k' := 3) q_X11_weightOfAll_6 fl_X11_107 (a3 hB) rfl rfl rfl h33 ?_
    refine e_icmp_ge q_X11_weightOfAll_9 (by first | exact hR _ _ | (constructor <;> omega) | assumption) (by first | exact hR _ _ | (constructor <;> omega) | assumption) (fun c9 => ?_) (fun c9 => ?_)
    · skip
      refine e_iload_n q_X11_weightOfAll_39 (by decide) rfl ?_
      refine e_ireturn q_X11_weightOfAll_40 rfl rfl ?_
      exact h
    · skip
      exact absurd (by omega) c9
set_option maxRecDepth 20000 in
set_option maxHeartbeats 2000000 in
theorem xr_giveOneMore (hB : zB0 s) {P : Nat} {a b e : Nat} (hl : lvw s N a b e) (hP : P ≤ 48) (hP1 : 1 ≤ P) (h33 : N 3 3 = P) (hr : ∀ x : Int, 0 ≤ x → x < P → zr (N 30 x)) (h : Q none (zI s (mup (mup N e (gmx (N 30) P) (N e (gmx (N 30) P) + 1)) 30 (gmx (N 30) P) (-1)))) : zC X m_X11_giveOneMore [.ref 3, .ref a] (zI s N) Q := by
  obtain ⟨l88, lA, l4, l5, lb88, lbA, lc88, lcA, lr⟩ := id hl
  show zE X m_X11_giveOneMore 0 [.ref 3, .ref a, zU, zU] [] _ Q
  refine e_iconst q_X11_giveOneMore_0 ?_
  refine e_istore_n (ls' := [_, _, _, _]) q_X11_giveOneMore_1 (by decide) rfl rfl ?_
  refine e_iconst q_X11_giveOneMore_2 ?_
  refine e_istore_n (ls' := [_, _, _, _]) q_X11_giveOneMore_3 (by decide) rfl rfl ?_
  refine zEe (ls := [.ref 3, .ref a, vi (gmx (N 30) (0 + 1)), vi ((0 + 1 : Nat) : Int)]) (σ := zI s N) ?_ (by rw [gmx_1]; rfl) rfl
  refine z_for (P := fun i => ∀ (hh : True), (True) → zE X m_X11_giveOneMore 4 [.ref 3, .ref a, vi (gmx (N 30) (i + 1)), vi ((i + 1 : Nat) : Int)] [] (zI s N) Q) (P - 1) (fun i hi ih hh hv0 => ?_) (fun hh hv0 => ?_) trivial trivial
  · skip
    have hb := gmx_b (N 30) (i + 1)
    refine e_iload_n q_X11_giveOneMore_4 (by decide) rfl ?_
    refine e_aload_n q_X11_giveOneMore_5 (by decide) rfl ?_
    refine i_getI (k' := 3) q_X11_giveOneMore_6 fl_X11_107 (a3 hB) rfl rfl rfl h33 ?_
    refine e_icmp_ge q_X11_giveOneMore_9 (by first | exact hR _ _ | (constructor <;> omega) | assumption) (by first | exact hR _ _ | (constructor <;> omega) | assumption) (fun c9 => ?_) (fun c9 => ?_)
    · skip
      exact absurd c9 (by omega)
    · skip
      refine e_aload_n q_X11_giveOneMore_12 (by decide) rfl ?_
      refine i_getC (r := 30) q_X11_giveOneMore_13 fl_X11_78 (a3 hB) rfl (by decide) ?_
      refine e_iload_n q_X11_giveOneMore_16 (by decide) rfl ?_
      refine i_iald q_X11_giveOneMore_17 (a30 hB) (fun _ => rfl) (by first | omega | assumption) (by first | omega | assumption) (by decide) rfl ?_
      refine e_aload_n q_X11_giveOneMore_18 (by decide) rfl ?_
      refine i_getC (r := 30) q_X11_giveOneMore_19 fl_X11_78 (a3 hB) rfl (by decide) ?_
      refine e_iload_n q_X11_giveOneMore_22 (by decide) rfl ?_
      refine i_iald q_X11_giveOneMore_23 (a30 hB) (fun _ => rfl) (by first | omega | assumption) (by first | omega | assumption) (by decide) rfl ?_
      refine e_icmp_le q_X11_giveOneMore_24 (hr _ (by omega) (by omega)) (hr _ (by omega) (by omega)) (fun c24 => ?_) (fun c24 => ?_)
      · skip
        refine e_iinc (ls' := [_, _, _, _]) q_X11_giveOneMore_29 (by decide) rfl rfl rfl ?_
        refine e_goto q_X11_giveOneMore_32 ?_
        first | exact zEe (ih trivial trivial) (by rw [gmx, if_pos (by omega)]; rfl) rfl | exact zEe (ih trivial trivial) (by rw [gmx, if_neg (by omega)]; rfl) rfl
      · skip
        refine e_iload_n q_X11_giveOneMore_27 (by decide) rfl ?_
        refine e_istore_n (ls' := [_, _, _, _]) q_X11_giveOneMore_28 (by decide) rfl rfl ?_
        refine e_iinc (ls' := [_, _, _, _]) q_X11_giveOneMore_29 (by decide) rfl rfl rfl ?_
        refine e_goto q_X11_giveOneMore_32 ?_
        first | exact zEe (ih trivial trivial) (by rw [gmx, if_pos (by omega)]; rfl) rfl | exact zEe (ih trivial trivial) (by rw [gmx, if_neg (by omega)]; rfl) rfl
  · skip
    have hb := gmx_b (N 30) (P - 1 + 1)
    have eP : P - 1 + 1 = P := by omega
    rw [eP] at hb ⊢
    refine e_iload_n q_X11_giveOneMore_4 (by decide) rfl ?_
    refine e_aload_n q_X11_giveOneMore_5 (by decide) rfl ?_
    refine i_getI (k' := 3) q_X11_giveOneMore_6 fl_X11_107 (a3 hB) rfl rfl rfl h33 ?_
    refine e_icmp_ge q_X11_giveOneMore_9 (by first | exact hR _ _ | (constructor <;> omega) | assumption) (by first | exact hR _ _ | (constructor <;> omega) | assumption) (fun c9 => ?_) (fun c9 => ?_)
    · skip
      refine e_aload_n q_X11_giveOneMore_35 (by decide) rfl ?_
      refine i_getR (k' := 5) q_X11_giveOneMore_36 fl_X11_333 lA (cref0 (by omega) _) rfl rfl l5 (by omega) ?_
      refine e_iload_n q_X11_giveOneMore_39 (by decide) rfl ?_
      refine e_dup2 q_X11_giveOneMore_40 rfl rfl ?_
      refine i_iald q_X11_giveOneMore_41 lcA (cref0 (by omega)) (by first | omega | assumption) (by first | omega | assumption) (by decide) rfl ?_
      refine e_iconst q_X11_giveOneMore_42 ?_
      refine e_iadd q_X11_giveOneMore_43 ?_
      refine i_iast q_X11_giveOneMore_44 lcA (cref0 (by omega)) (by first | omega | assumption) (by first | omega | assumption) (by decide) ?_
      refine e_aload_n q_X11_giveOneMore_45 (by decide) rfl ?_
      refine i_getC (r := 30) q_X11_giveOneMore_46 fl_X11_78 (a3 hB) rfl (by decide) ?_
      refine e_iload_n q_X11_giveOneMore_49 (by decide) rfl ?_
      refine e_iconst q_X11_giveOneMore_50 ?_
      refine i_iast q_X11_giveOneMore_51 (a30 hB) (fun _ => rfl) (by first | omega | assumption) (by first | omega | assumption) (by decide) ?_
      refine e_return q_X11_giveOneMore_52 rfl ?_
      first | exact h | exact zqS h rfl (by rw [eP])
    · skip
      exact absurd (by omega) c9
theorem z_pw {s : zK} {M : zN} {a k : Nat} {i x : Int} (hi : (k : Int) = i) (hr : z_isr (s.2 a) k = false) : zI s (mup M a i (w32 x)) = zI s (mup M a i x) := by
  unfold zI
  congr 2
  funext b j
  by_cases hb : b = a ∧ j = k
  · obtain ⟨rfl, rfl⟩ := hb
    rw [← hi, mup_self, mup_self, hr, vi_w]
    simp
  · have e1 : mup M a i (w32 x) b j = M b j := mup_ne (fun q => hb ⟨q.1, by have := q.2; omega⟩)
    have e2 : mup M a i x b j = M b j := mup_ne (fun q => hb ⟨q.1, by have := q.2; omega⟩)
    rw [e1, e2]
set_option maxRecDepth 20000 in
set_option maxHeartbeats 2000000 in
theorem xr_part (hB : zB0 s) {P : Nat} {wg : Int → Int} {al : Int → Prop} {a b e : Nat} (hv : pvw s N P wg al) (hl : lvw s N a b e) (hP : P ≤ 48) {tk : Int → Prop} (htk : ∀ x : Int, 0 ≤ x → x < P → (tk x ↔ (N b x ≠ 0 ∧ al x))) (h33 : N 3 3 = P) {am : Int} (hw : ∀ x : Int, wg x = 1 ∨ wg x = 3) (ham : 0 ≤ am ∧ am ≤ 9999) (hr30 : ∀ x : Int, zr (N 30 x)) (h1 : pallK tk wg P = 0 → Q (some (vi 0)) (zI s (mup N 3 11 (w32 (N 3 11 + am))))) (h2 : 0 < pallK tk wg P → ∀ N1, ((∀ a0 : Nat, a0 ≠ e → a0 ≠ 30 → N1 a0 = N a0) ∧ (∀ x : Int, N1 e x = N e x + padd tk wg P am x) ∧ ∀ x : Int, zr (N1 30 x)) → Q (some (vi 1)) (zI s N1)) : zC X m_X11_part [.ref 3, .ref a, vi am] (zI s N) Q := by
  obtain ⟨l88, lA, l4, l5, lb88, lbA, lc88, lcA, lr⟩ := id hl
  show zE X m_X11_part 0 [.ref 3, .ref a, vi am, zU, zU, zU, zU] [] _ Q
  refine e_aload_n q_X11_part_0 (by decide) rfl ?_
  refine e_aload_n q_X11_part_1 (by decide) rfl ?_
  refine iv_X11_weightOfAll rfl q_X11_part_2 lk_X11_470 (by decide) (a3 hB) (Nat.le_of_ble_eq_true rfl) ?_
  refine xr_weightOfAll hB hv hl hP htk h33 ?_
  refine e_istore_n (ls' := [_, _, _, _, _, _, _]) q_X11_part_5 (by decide) rfl rfl ?_
  refine e_iload_n q_X11_part_6 (by decide) rfl ?_
  refine e_if_gt q_X11_part_7 (by have := pallK_b (tk := tk) hw P; constructor <;> omega) (fun c7 => ?_) (fun c7 => ?_)
  · skip
    refine e_iload_n q_X11_part_22 (by decide) rfl ?_
    refine e_istore (ls' := [_, _, _, _, _, _, _]) q_X11_part_23 (by decide) rfl rfl ?_
    refine e_iconst q_X11_part_25 ?_
    refine e_istore (ls' := [_, _, _, _, _, _, _]) q_X11_part_26 (by decide) rfl rfl ?_
    have hall : 0 < pallK tk wg P := c7
    have hpb := pallK_b (tk := tk) hw P
    refine zEe (ls := [.ref 3, .ref a, vi am, vi (pallK tk wg P), vi (am - sumK (fun j => psh tk wg P am j) 0), vi ((0 : Nat) : Int), zU]) (σ := zI s N) ?_ (by simp [sumK]) rfl
    refine z_for (P := fun i => ∀ (N1 : zN) (u6 : Value), ((∀ a0 : Nat, a0 ≠ e → a0 ≠ 30 → N1 a0 = N a0) ∧ (∀ x : Int, N1 e x = N e x + (if x < i then psh tk wg P am x else 0)) ∧ (∀ x : Int, 0 ≤ x → x < i → N1 30 x = prs tk wg P am x) ∧ ∀ x : Int, zr (N1 30 x)) → zE X m_X11_part 28 [.ref 3, .ref a, vi am, vi (pallK tk wg P), vi (am - sumK (fun j => psh tk wg P am j) i), vi (i : Int), u6] [] (zI s N1) Q) P (fun i hi ih N1 u6 hv1 => ?_) (fun N1 u6 hv1 => ?_) N zU ⟨fun _ _ _ => rfl, fun x => by
        by_cases hx : x < ((0 : Nat) : Int)
        · rw [if_pos hx, psh, zif_f (by omega), Int.add_zero]
        · rw [if_neg hx, Int.add_zero], fun x h1 h2 => by omega, hr30⟩
    · skip
      have e3 : N1 3 = N 3 := hv1.1 3 (by omega) (by omega)
      refine e_iload q_X11_part_28 (by decide) rfl ?_
      refine e_aload_n q_X11_part_30 (by decide) rfl ?_
      refine i_getI (k' := 3) q_X11_part_31 fl_X11_107 (a3 hB) rfl rfl rfl ((congrFun e3 3).trans h33) ?_
      refine e_icmp_ge q_X11_part_34 (by first | exact hR _ _ | (constructor <;> omega) | assumption) (by first | exact hR _ _ | (constructor <;> omega) | assumption) (fun c34 => ?_) (fun c34 => ?_)
      · skip
        exact absurd c34 (by omega)
      · skip
        refine e_aload_n q_X11_part_37 (by decide) rfl ?_
        refine i_getC (r := 30) q_X11_part_38 fl_X11_78 (a3 hB) rfl (by decide) ?_
        refine e_iload q_X11_part_41 (by decide) rfl ?_
        refine e_iconst q_X11_part_43 ?_
        refine i_iast q_X11_part_44 (a30 hB) (fun _ => rfl) (by first | omega | assumption) (by first | omega | assumption) (by decide) ?_
        have hne0 : ∀ a0 : Nat, a0 ≠ e → a0 ≠ 30 → mup N1 30 i (-1) a0 = N a0 := fun a0 h1 h2 => by
          rw [mup_fn h2]; exact hv1.1 a0 h1 h2
        have hvM := hv.k (N1 := mup N1 30 i (-1)) lcA hne0 lc88
        have hlM := hl.k (N1 := mup N1 30 i (-1)) hne0
        refine e_aload_n q_X11_part_45 (by decide) rfl ?_
        refine e_aload_n q_X11_part_46 (by decide) rfl ?_
        refine e_iload q_X11_part_47 (by decide) rfl ?_
        refine iv_X11_mayBear rfl q_X11_part_49 lk_X11_464 (by decide) (a3 hB) (Nat.le_of_ble_eq_true rfl) ?_
        refine xr_mayBear hB hvM hlM hP (by omega) (by omega) ?_
        refine e_ifb_eq q_X11_part_52 (fun c52 => ?_) (fun c52 => ?_)
        · skip
          refine e_iinc (ls' := [_, _, _, _, _, _, _]) q_X11_part_103 (by decide) rfl rfl rfl ?_
          refine e_goto q_X11_part_106 ?_
          have hne : e ≠ 30 := by omega
          first
          | (have ht : tk i := (htk i (by omega) (by omega)).mpr (by rw [← hne0 b (lbA.ne lcA (by decide)) (by omega)]; exact c52)
             have es : psh tk wg P am i = am * wg i / pallK tk wg P := zif_t ⟨by omega, by omega, ht⟩
             have er : prs tk wg P am i = am * wg i % pallK tk wg P := zif_t ht
             refine zEe (ls := [.ref 3, .ref a, vi am, vi (pallK tk wg P), vi (am - sumK (fun j => psh tk wg P am j) (i + 1)), vi ((i + 1 : Nat) : Int), _]) (ih _ _ ⟨fun a0 h1 h2 => ?_, fun x => ?_, fun x h1 h2 => ?_, fun x => ?_⟩) (by rw [sumK, es, Int.sub_sub]; rfl) rfl
             · funext x
               rw [mup_cell h2, mup_cell h1, mup_cell h2, hv1.1 a0 h1 h2]
             · rw [mup_cell hne]
               by_cases hx : x = i
               · rw [hx, mup_self, mup_cell hne, hv1.2.1 i, if_neg (by omega), if_pos (by omega), es]
                 omega
               · rw [mup_slot hx, mup_cell hne, hv1.2.1 x]
                 by_cases hx2 : x < (i : Int)
                 · rw [if_pos hx2, if_pos (by omega)]
                 · rw [if_neg hx2, if_neg (by omega)]
             · by_cases hx : x = i
               · rw [hx, mup_self, er]
               · rw [mup_slot hx, mup_cell (by omega), mup_slot hx, hv1.2.2.1 x h1 (by omega)]
             · by_cases hx : x = i
               · rw [hx, mup_self]
                 have h1 := Int.emod_nonneg (am * wg i) (show pallK tk wg P ≠ 0 by omega)
                 have h2 := Int.emod_lt_of_pos (am * wg i) (show 0 < pallK tk wg P by omega)
                 constructor <;> omega
               · rw [mup_slot hx, mup_cell (by omega), mup_slot hx]
                 exact hv1.2.2.2 x)
          | (have ht : ¬ tk i := fun q => c52 (by rw [hne0 b (lbA.ne lcA (by decide)) (by omega)]; exact (htk i (by omega) (by omega)).mp q)
             have es : psh tk wg P am i = 0 := zif_f (fun q => ht q.2.2)
             have er : prs tk wg P am i = -1 := zif_f ht
             refine zEe (ls := [.ref 3, .ref a, vi am, vi (pallK tk wg P), vi (am - sumK (fun j => psh tk wg P am j) (i + 1)), vi ((i + 1 : Nat) : Int), _]) (ih _ _ ⟨fun a0 h1 h2 => ?_, fun x => ?_, fun x h1 h2 => ?_, fun x => ?_⟩) (by rw [sumK, es, Int.add_zero]; rfl) rfl
             · funext x
               rw [mup_cell h2, hv1.1 a0 h1 h2]
             · rw [mup_cell hne, hv1.2.1 x]
               by_cases hx : x = i
               · rw [hx, if_neg (by omega), if_pos (by omega), es]
               · by_cases hx2 : x < (i : Int)
                 · rw [if_pos hx2, if_pos (by omega)]
                 · rw [if_neg hx2, if_neg (by omega)]
             · by_cases hx : x = i
               · rw [hx, mup_self, er]
               · rw [mup_slot hx, hv1.2.2.1 x h1 (by omega)]
             · by_cases hx : x = i
               · rw [hx, mup_self]
                 constructor <;> omega
               · rw [mup_slot hx]
                 exact hv1.2.2.2 x)
        · skip
          refine e_iload_n q_X11_part_55 (by decide) rfl ?_
          refine e_aload_n q_X11_part_56 (by decide) rfl ?_
          refine i_getC (r := 5) q_X11_part_57 fl_X11_15 (a3 hB) rfl (by decide) ?_
          refine e_iload q_X11_part_60 (by decide) rfl ?_
          obtain ⟨a2, p882, pA2, p52, p42, p62, pr2⟩ := hvM i (by omega) (by omega)
          refine i_aald q_X11_part_62 (a5 hB) (by decide) (fun _ => rfl) (by omega) (by omega) (by decide) p52 (by omega) ?_
          refine iv_X4_weight q_X11_part_63 lk_X11_467 (by decide) pA2 (Nat.le_of_ble_eq_true rfl) ?_
          refine xr_weight p882 pA2 p42 ?_
          refine e_imul q_X11_part_66 ?_
          refine e_istore (ls' := [_, _, _, _, _, _, _]) q_X11_part_67 (by decide) rfl rfl ?_
          have hwg : 0 ≤ am * wg i ∧ am * wg i ≤ 29997 := by
            rcases hw i with q | q
            · rw [q]; omega
            · rw [q]; omega
          refine e_aload_n q_X11_part_69 (by decide) rfl ?_
          refine i_getR (k' := 5) q_X11_part_70 fl_X11_333 lA (cref0 (by omega) _) rfl rfl ((hlM.2.2.2.1)) (by omega) ?_
          refine e_iload q_X11_part_73 (by decide) rfl ?_
          refine e_dup2 q_X11_part_75 rfl rfl ?_
          refine i_iald q_X11_part_76 lcA (cref0 (by omega)) (by first | omega | assumption) (by first | omega | assumption) (by decide) rfl ?_
          refine e_iload q_X11_part_77 (by decide) rfl ?_
          refine e_iload_n q_X11_part_79 (by decide) rfl ?_
          refine e_idiv q_X11_part_80 (by omega) (by omega) ?_
          refine e_iadd q_X11_part_81 ?_
          refine i_iast q_X11_part_82 lcA (cref0 (by omega)) (by first | omega | assumption) (by first | omega | assumption) (by decide) ?_
          refine e_iload q_X11_part_83 (by decide) rfl ?_
          refine e_iload q_X11_part_85 (by decide) rfl ?_
          refine e_iload_n q_X11_part_87 (by decide) rfl ?_
          refine e_idiv q_X11_part_88 (by omega) (by omega) ?_
          refine e_isub q_X11_part_89 ?_
          refine e_istore (ls' := [_, _, _, _, _, _, _]) q_X11_part_90 (by decide) rfl rfl ?_
          refine e_aload_n q_X11_part_92 (by decide) rfl ?_
          refine i_getC (r := 30) q_X11_part_93 fl_X11_78 (a3 hB) rfl (by decide) ?_
          refine e_iload q_X11_part_96 (by decide) rfl ?_
          refine e_iload q_X11_part_98 (by decide) rfl ?_
          refine e_iload_n q_X11_part_100 (by decide) rfl ?_
          refine e_irem q_X11_part_101 (by omega) (by omega) ?_
          refine i_iast q_X11_part_102 (a30 hB) (fun _ => rfl) (by first | omega | assumption) (by first | omega | assumption) (by decide) ?_
          refine e_iinc (ls' := [_, _, _, _, _, _, _]) q_X11_part_103 (by decide) rfl rfl rfl ?_
          refine e_goto q_X11_part_106 ?_
          have hne : e ≠ 30 := by omega
          first
          | (have ht : tk i := (htk i (by omega) (by omega)).mpr (by rw [← hne0 b (lbA.ne lcA (by decide)) (by omega)]; exact c52)
             have es : psh tk wg P am i = am * wg i / pallK tk wg P := zif_t ⟨by omega, by omega, ht⟩
             have er : prs tk wg P am i = am * wg i % pallK tk wg P := zif_t ht
             refine zEe (ls := [.ref 3, .ref a, vi am, vi (pallK tk wg P), vi (am - sumK (fun j => psh tk wg P am j) (i + 1)), vi ((i + 1 : Nat) : Int), _]) (ih _ _ ⟨fun a0 h1 h2 => ?_, fun x => ?_, fun x h1 h2 => ?_, fun x => ?_⟩) (by rw [sumK, es, Int.sub_sub]; rfl) rfl
             · funext x
               rw [mup_cell h2, mup_cell h1, mup_cell h2, hv1.1 a0 h1 h2]
             · rw [mup_cell hne]
               by_cases hx : x = i
               · rw [hx, mup_self, mup_cell hne, hv1.2.1 i, if_neg (by omega), if_pos (by omega), es]
                 omega
               · rw [mup_slot hx, mup_cell hne, hv1.2.1 x]
                 by_cases hx2 : x < (i : Int)
                 · rw [if_pos hx2, if_pos (by omega)]
                 · rw [if_neg hx2, if_neg (by omega)]
             · by_cases hx : x = i
               · rw [hx, mup_self, er]
               · rw [mup_slot hx, mup_cell (by omega), mup_slot hx, hv1.2.2.1 x h1 (by omega)]
             · by_cases hx : x = i
               · rw [hx, mup_self]
                 have h1 := Int.emod_nonneg (am * wg i) (show pallK tk wg P ≠ 0 by omega)
                 have h2 := Int.emod_lt_of_pos (am * wg i) (show 0 < pallK tk wg P by omega)
                 constructor <;> omega
               · rw [mup_slot hx, mup_cell (by omega), mup_slot hx]
                 exact hv1.2.2.2 x)
          | (have ht : ¬ tk i := fun q => c52 (by rw [hne0 b (lbA.ne lcA (by decide)) (by omega)]; exact (htk i (by omega) (by omega)).mp q)
             have es : psh tk wg P am i = 0 := zif_f (fun q => ht q.2.2)
             have er : prs tk wg P am i = -1 := zif_f ht
             refine zEe (ls := [.ref 3, .ref a, vi am, vi (pallK tk wg P), vi (am - sumK (fun j => psh tk wg P am j) (i + 1)), vi ((i + 1 : Nat) : Int), _]) (ih _ _ ⟨fun a0 h1 h2 => ?_, fun x => ?_, fun x h1 h2 => ?_, fun x => ?_⟩) (by rw [sumK, es, Int.add_zero]; rfl) rfl
             · funext x
               rw [mup_cell h2, hv1.1 a0 h1 h2]
             · rw [mup_cell hne, hv1.2.1 x]
               by_cases hx : x = i
               · rw [hx, if_neg (by omega), if_pos (by omega), es]
               · by_cases hx2 : x < (i : Int)
                 · rw [if_pos hx2, if_pos (by omega)]
                 · rw [if_neg hx2, if_neg (by omega)]
             · by_cases hx : x = i
               · rw [hx, mup_self, er]
               · rw [mup_slot hx, hv1.2.2.1 x h1 (by omega)]
             · by_cases hx : x = i
               · rw [hx, mup_self]
                 constructor <;> omega
               · rw [mup_slot hx]
                 exact hv1.2.2.2 x)
    · skip
      have e3 : N1 3 = N 3 := hv1.1 3 (by omega) (by omega)
      refine e_iload q_X11_part_28 (by decide) rfl ?_
      refine e_aload_n q_X11_part_30 (by decide) rfl ?_
      refine i_getI (k' := 3) q_X11_part_31 fl_X11_107 (a3 hB) rfl rfl rfl ((congrFun e3 3).trans h33) ?_
      refine e_icmp_ge q_X11_part_34 (by first | exact hR _ _ | (constructor <;> omega) | assumption) (by first | exact hR _ _ | (constructor <;> omega) | assumption) (fun c34 => ?_) (fun c34 => ?_)
      · skip
        have hP1 := pall_P hall
        have hpv := pov_0 (tk := tk) (P := P) (am := am) hw (by omega) hall
        refine zEe (ls := [.ref 3, .ref a, vi am, vi (pallK tk wg P), vi (pov tk wg P am - ((0 : Nat) : Int)), vi P, u6]) (σ := zI s N1) ?_ (by rw [pov]; simp) rfl
        refine z_for (P := fun i => ∀ (N1 : zN), ((∀ a0 : Nat, a0 ≠ e → a0 ≠ 30 → N1 a0 = N a0) ∧ (∀ x : Int, N1 e x = N e x + gvA (prs tk wg P am) (psh tk wg P am) P i x) ∧ (∀ x : Int, 0 ≤ x → x < P → N1 30 x = gvR (prs tk wg P am) P i x) ∧ ∀ x : Int, zr (N1 30 x)) → zE X m_X11_part 109 [.ref 3, .ref a, vi am, vi (pallK tk wg P), vi (pov tk wg P am - i), vi P, u6] [] (zI s N1) Q) (pov tk wg P am).toNat (fun i hi ih N1 hv2 => ?_) (fun N1 hv2 => ?_) _ ⟨hv1.1, fun x => by
            rw [hv1.2.1 x]
            by_cases hx : x < (P : Int)
            · rw [if_pos hx]; rfl
            · rw [if_neg hx]
              show _ = N e x + psh tk wg P am x
              rw [psh, zif_f (by omega)], hv1.2.2.1, hv1.2.2.2⟩
        · skip
          refine e_iload q_X11_part_109 (by decide) rfl ?_
          refine e_if_le q_X11_part_111 (by constructor <;> omega) (fun c111 => ?_) (fun c111 => ?_)
          · skip
            exact absurd c111 (by omega)
          · skip
            refine e_aload_n q_X11_part_114 (by decide) rfl ?_
            refine e_aload_n q_X11_part_115 (by decide) rfl ?_
            refine iv_X11_giveOneMore rfl q_X11_part_116 lk_X11_474 (by decide) (a3 hB) (Nat.le_of_ble_eq_true rfl) ?_
            refine xr_giveOneMore hB (hl.k hv2.1) hP hP1 (by rw [hv2.1 3 (by omega) (by omega)]; exact h33) (fun x _ _ => hv2.2.2.2 x) ?_
            refine e_iinc (ls' := [_, _, _, _, _, _, _]) q_X11_part_119 (by decide) rfl rfl rfl ?_
            refine e_goto q_X11_part_122 ?_
            have hb := gmx_b (N1 30) P
            have eg : gmx (N1 30) P = gmx (gvR (prs tk wg P am) P i) P := gmx_c P hv2.2.2.1
            have hne : e ≠ 30 := by omega
            refine zEe (ls := [.ref 3, .ref a, vi am, vi (pallK tk wg P), vi (pov tk wg P am - ((i + 1 : Nat) : Int)), vi P, u6]) (ih _ ⟨fun a0 h1 h2 => ?_, fun x => ?_, fun x h1 h2 => ?_, fun x => ?_⟩) (by rw [show pov tk wg P am - ((i + 1 : Nat) : Int) = pov tk wg P am - (i : Int) + -1 by omega]) rfl
            · funext x
              rw [mup_cell h2, mup_cell h1, hv2.1 a0 h1 h2]
            · rw [mup_cell hne]
              show _ = N e x + (gvA (prs tk wg P am) (psh tk wg P am) P i x + (if x = gmx (gvR (prs tk wg P am) P i) P then 1 else 0))
              rw [eg]
              by_cases hx : x = gmx (gvR (prs tk wg P am) P i) P
              · rw [if_pos hx, ← hx, mup_self, hv2.2.1 x]
                omega
              · rw [if_neg hx, mup_slot hx, hv2.2.1 x]
                omega
            · show _ = if x = gmx (gvR (prs tk wg P am) P i) P then -1 else gvR (prs tk wg P am) P i x
              rw [eg]
              by_cases hx : x = gmx (gvR (prs tk wg P am) P i) P
              · rw [if_pos hx, ← hx, mup_self]
              · rw [if_neg hx, mup_slot hx, mup_cell (by omega), hv2.2.2.1 x h1 h2]
            · by_cases hx : x = gmx (N1 30) P
              · rw [← hx, mup_self]
                constructor <;> omega
              · rw [mup_slot hx, mup_cell (by omega)]
                exact hv2.2.2.2 x
        · skip
          refine e_iload q_X11_part_109 (by decide) rfl ?_
          refine e_if_le q_X11_part_111 (by constructor <;> omega) (fun c111 => ?_) (fun c111 => ?_)
          · skip
            refine e_iconst q_X11_part_125 ?_
            refine e_ireturn q_X11_part_126 rfl rfl ?_
            exact h2 hall N1 ⟨fun a0 h1 h2 => hv2.1 a0 h1 h2, hv2.2.1, hv2.2.2.2⟩
          · skip
            exact absurd (by omega) c111
      · skip
        exact absurd (by omega) c34
  · skip
    refine e_aload_n q_X11_part_10 (by decide) rfl ?_
    refine e_dup q_X11_part_11 rfl ?_
    refine i_getI (k' := 11) q_X11_part_12 fl_X11_351 (a3 hB) rfl rfl rfl rfl ?_
    refine e_iload_n q_X11_part_15 (by decide) rfl ?_
    refine e_iadd q_X11_part_16 ?_
    refine i_putI (k' := 11) q_X11_part_17 fl_X11_351 (Or.inl rfl) (a3 hB) rfl rfl rfl rfl rfl ?_
    refine e_iconst q_X11_part_20 ?_
    refine e_ireturn q_X11_part_21 rfl rfl ?_
    exact zqS (h1 (by have := pallK_b (tk := tk) hw P; omega)) rfl (z_pw (k := 11) rfl (by rw [(a3 hB).2.2]; rfl))
end RT2
