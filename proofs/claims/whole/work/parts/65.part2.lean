/-! parting, the reference's side (printed by wip/whole/gen/r3.py) -/
section RT3
variable {X : zX} {s : zK} {N : zN} {σ : zS} {fa sa : Int → Int} {Q K : Option Value → zS → Prop} {c : Int}
/-- a plea's flight, as the system holds it -/
def fvw (s : zK) (N : zN) (a f : Nat) : Prop := 88 ≤ a ∧ zA s a (5, 0) ∧ N a 1 = f ∧ 88 ≤ f ∧ zA s f (2, 0) ∧ (0 ≤ N f 0 ∧ N f 0 ≤ 9999) ∧ (N f 2 = -1 ∨ (0 ≤ N f 2 ∧ N f 2 ≤ 9999))
set_option maxRecDepth 20000 in
set_option maxHeartbeats 2000000 in
theorem xr_isBrought {a f : Nat} (hf : fvw s N a f) (h : Q (some (vi (bi (N f 2 ≠ -1 ∧ N f 2 - N f 0 ≤ 30)))) (zI s N)) : zC X m_X5_isBrought [.ref a] (zI s N) Q := by
  obtain ⟨l88, lA, l1, f88, fA, fr, fb⟩ := id hf
  show zE X m_X5_isBrought 0 [.ref a] [] _ Q
  refine e_aload_n q_X5_isBrought_0 (by decide) rfl ?_
  refine i_getR (k' := 1) q_X5_isBrought_1 fl_X5_23 lA (cref0 (by omega) _) rfl rfl l1 (by omega) ?_
  refine i_getI (k' := 2) q_X5_isBrought_4 fl_X5_33 fA (cref0 (by omega) _) rfl rfl rfl ?_
  refine e_iconst q_X5_isBrought_7 ?_
  refine e_icmp_eq q_X5_isBrought_8 (by first | exact hR _ _ | (constructor <;> omega) | assumption) (by first | exact hR _ _ | (constructor <;> omega) | assumption) (fun c8 => ?_) (fun c8 => ?_)
  · skip
    refine e_iconst q_X5_isBrought_35 ?_
    refine e_ireturn q_X5_isBrought_36 rfl rfl ?_
    first | exact zqT h ⟨by omega, by omega⟩ | exact zqF h (fun q => by have q1 := q.1; have q2 := q.2; omega)
  · skip
    refine e_aload_n q_X5_isBrought_11 (by decide) rfl ?_
    refine i_getR (k' := 1) q_X5_isBrought_12 fl_X5_23 lA (cref0 (by omega) _) rfl rfl l1 (by omega) ?_
    refine i_getI (k' := 2) q_X5_isBrought_15 fl_X5_33 fA (cref0 (by omega) _) rfl rfl rfl ?_
    refine e_aload_n q_X5_isBrought_18 (by decide) rfl ?_
    refine i_getR (k' := 1) q_X5_isBrought_19 fl_X5_23 lA (cref0 (by omega) _) rfl rfl l1 (by omega) ?_
    refine i_getI (k' := 0) q_X5_isBrought_22 fl_X5_38 fA (cref0 (by omega) _) rfl rfl rfl ?_
    refine e_isub q_X5_isBrought_25 ?_
    refine e_bipush q_X5_isBrought_26 (by decide) ?_
    refine e_icmp_gt q_X5_isBrought_28 (by first | exact hR _ _ | (constructor <;> omega) | assumption) (by first | exact hR _ _ | (constructor <;> omega) | assumption) (fun c28 => ?_) (fun c28 => ?_)
    · skip
      refine e_iconst q_X5_isBrought_35 ?_
      refine e_ireturn q_X5_isBrought_36 rfl rfl ?_
      first | exact zqT h ⟨by omega, by omega⟩ | exact zqF h (fun q => by have q1 := q.1; have q2 := q.2; omega)
    · skip
      refine e_iconst q_X5_isBrought_31 ?_
      refine e_goto q_X5_isBrought_32 ?_
      refine e_ireturn q_X5_isBrought_36 rfl rfl ?_
      first | exact zqT h ⟨by omega, by omega⟩ | exact zqF h (fun q => by have q1 := q.1; have q2 := q.2; omega)
set_option maxRecDepth 20000 in
set_option maxHeartbeats 2000000 in
theorem xr_isDueOn {a f : Nat} (hf : fvw s N a f) (h7 : N a 7 = 0 ∨ N a 7 = 1) {d : Int} (hd : 0 ≤ d ∧ d ≤ 9999) (h : Q (some (vi (bi (N a 7 = 0 ∧ ¬ (N f 2 ≠ -1 ∧ N f 2 - N f 0 ≤ 30) ∧ N f 0 + 30 < d)))) (zI s N)) : zC X m_X5_isDueOn [.ref a, vi d] (zI s N) Q := by
  obtain ⟨l88, lA, l1, f88, fA, fr, fb⟩ := id hf
  show zE X m_X5_isDueOn 0 [.ref a, vi d] [] _ Q
  refine e_aload_n q_X5_isDueOn_0 (by decide) rfl ?_
  refine i_getI (k' := 7) q_X5_isDueOn_1 fl_X5_41 lA (cref0 (by omega) _) rfl rfl rfl ?_
  refine e_if_ne q_X5_isDueOn_4 (by first | exact hR _ _ | (constructor <;> omega) | assumption) (fun c4 => ?_) (fun c4 => ?_)
  · skip
    refine e_iconst q_X5_isDueOn_32 ?_
    refine e_ireturn q_X5_isDueOn_33 rfl rfl ?_
    first | exact zqT h ⟨by omega, c11, by omega⟩ | exact zqF h (fun q => by have q1 := q.1; omega) | exact zqF h (fun q => q.2.1 c11) | exact zqF h (fun q => by have q1 := q.2.2; omega)
  · skip
    refine e_aload_n q_X5_isDueOn_7 (by decide) rfl ?_
    refine iv_X5_isBrought q_X5_isDueOn_8 lk_X5_45 (by decide) lA (Nat.le_of_ble_eq_true rfl) ?_
    refine xr_isBrought hf ?_
    refine e_ifb_ne q_X5_isDueOn_11 (fun c11 => ?_) (fun c11 => ?_)
    · skip
      refine e_iconst q_X5_isDueOn_32 ?_
      refine e_ireturn q_X5_isDueOn_33 rfl rfl ?_
      first | exact zqT h ⟨by omega, c11, by omega⟩ | exact zqF h (fun q => by have q1 := q.1; omega) | exact zqF h (fun q => q.2.1 c11) | exact zqF h (fun q => by have q1 := q.2.2; omega)
    · skip
      refine e_iload_n q_X5_isDueOn_14 (by decide) rfl ?_
      refine e_aload_n q_X5_isDueOn_15 (by decide) rfl ?_
      refine i_getR (k' := 1) q_X5_isDueOn_16 fl_X5_23 lA (cref0 (by omega) _) rfl rfl l1 (by omega) ?_
      refine i_getI (k' := 0) q_X5_isDueOn_19 fl_X5_38 fA (cref0 (by omega) _) rfl rfl rfl ?_
      refine e_isub q_X5_isDueOn_22 ?_
      refine e_bipush q_X5_isDueOn_23 (by decide) ?_
      refine e_icmp_le q_X5_isDueOn_25 (by first | exact hR _ _ | (constructor <;> omega) | assumption) (by first | exact hR _ _ | (constructor <;> omega) | assumption) (fun c25 => ?_) (fun c25 => ?_)
      · skip
        refine e_iconst q_X5_isDueOn_32 ?_
        refine e_ireturn q_X5_isDueOn_33 rfl rfl ?_
        first | exact zqT h ⟨by omega, c11, by omega⟩ | exact zqF h (fun q => by have q1 := q.1; omega) | exact zqF h (fun q => q.2.1 c11) | exact zqF h (fun q => by have q1 := q.2.2; omega)
      · skip
        refine e_iconst q_X5_isDueOn_28 ?_
        refine e_goto q_X5_isDueOn_29 ?_
        refine e_ireturn q_X5_isDueOn_33 rfl rfl ?_
        first | exact zqT h ⟨by omega, c11, by omega⟩ | exact zqF h (fun q => by have q1 := q.1; omega) | exact zqF h (fun q => q.2.1 c11) | exact zqF h (fun q => by have q1 := q.2.2; omega)
set_option maxRecDepth 20000 in
set_option maxHeartbeats 2000000 in
theorem kr_isDead (hB : zB0 s) (hR : ∀ (a : Nat) (j : Int), a ≠ 80 → a ≠ 81 → a ≠ 39 → zr (N a j)) {w : Int} (h0 : 0 ≤ w) (h1 : w < 48) (h : Q (some (vi (bi (N 47 w ≠ 100000)))) (zI s N)) : zC X m_X12_isDead [.ref 39, vi w] (zI s N) Q := by
  show zE X m_X12_isDead 0 [.ref 39, vi w] [] _ Q
  refine e_aload_n q_X12_isDead_0 (by decide) rfl ?_
  refine i_getC (r := 47) q_X12_isDead_1 fl_X12_32 (a39 hB) rfl (by decide) ?_
  refine e_iload_n q_X12_isDead_4 (by decide) rfl ?_
  refine i_iald q_X12_isDead_5 (a47 hB) (cref0 (by decide)) (by first | omega | assumption) (by first | omega | assumption) (by decide) rfl ?_
  refine e_ldc q_X12_isDead_6 co_X12_47 ?_
  refine e_icmp_eq q_X12_isDead_8 (by first | exact hR _ _ (by decide) (by decide) (by decide) | (constructor <;> omega) | assumption) (by first | exact hR _ _ (by decide) (by decide) (by decide) | (constructor <;> omega) | assumption) (fun c8 => ?_) (fun c8 => ?_)
  · skip
    refine e_iconst q_X12_isDead_15 ?_
    refine e_ireturn q_X12_isDead_16 rfl rfl ?_
    first | exact zqT h (by omega) | exact zqF h (by omega)
  · skip
    refine e_iconst q_X12_isDead_11 ?_
    refine e_goto q_X12_isDead_12 ?_
    refine e_ireturn q_X12_isDead_16 rfl rfl ?_
    first | exact zqT h (by omega) | exact zqF h (by omega)
set_option maxRecDepth 20000 in
set_option maxHeartbeats 2000000 in
theorem kr_weightOf (hB : zB0 s) (hR : ∀ (a : Nat) (j : Int), a ≠ 80 → a ≠ 81 → a ≠ 39 → zr (N a j)) {w : Int} (h0 : 0 ≤ w) (h1 : w < 48) (h : Q (some (vi (wgt N w))) (zI s N)) : zC X m_X12_weightOf [.ref 39, vi w] (zI s N) Q := by
  show zE X m_X12_weightOf 0 [.ref 39, vi w] [] _ Q
  refine e_aload_n q_X12_weightOf_0 (by decide) rfl ?_
  refine i_getC (r := 45) q_X12_weightOf_1 fl_X12_25 (a39 hB) rfl (by decide) ?_
  refine e_iload_n q_X12_weightOf_4 (by decide) rfl ?_
  refine i_zald q_X12_weightOf_5 (a45 hB) (cref0 (by decide)) (by first | omega | assumption) (by first | omega | assumption) (by decide) rfl ?_
  refine e_if_eq q_X12_weightOf_6 (by first | exact hR _ _ (by decide) (by decide) (by decide) | (constructor <;> omega) | assumption) (fun c6 => ?_) (fun c6 => ?_)
  · skip
    refine e_iconst q_X12_weightOf_13 ?_
    refine e_ireturn q_X12_weightOf_14 rfl rfl ?_
    first | exact zqI h (if_pos (by omega)) | exact zqI h (if_neg (by omega))
  · skip
    refine e_iconst q_X12_weightOf_9 ?_
    refine e_goto q_X12_weightOf_10 ?_
    refine e_ireturn q_X12_weightOf_14 rfl rfl ?_
    first | exact zqI h (if_pos (by omega)) | exact zqI h (if_neg (by omega))
set_option maxRecDepth 20000 in
set_option maxHeartbeats 2000000 in
theorem kr_takesPart (hB : zB0 s) (hR : ∀ (a : Nat) (j : Int), a ≠ 80 → a ≠ 81 → a ≠ 39 → zr (N a j)){p : Int} (hp : 0 ≤ p ∧ p < 20) {w : Int} (hw0 : 0 ≤ w) (hw1 : w < 48) (h : Q (some (vi (bi (parts N p w)))) (zI s N)) : zC X m_X12_takesPart [.ref 39, vi p, vi w] (zI s N) Q := by
  show zE X m_X12_takesPart 0 [.ref 39, vi p, vi w] [] _ Q
  refine e_aload_n q_X12_takesPart_0 (by decide) rfl ?_
  refine i_getC (r := 79) q_X12_takesPart_1 fl_X12_133 (a39 hB) rfl (by decide) ?_
  refine e_bipush q_X12_takesPart_4 (by decide) ?_
  refine e_iload_n q_X12_takesPart_6 (by decide) rfl ?_
  refine e_imul q_X12_takesPart_7 ?_
  refine e_iload_n q_X12_takesPart_8 (by decide) rfl ?_
  refine e_iadd q_X12_takesPart_9 ?_
  refine i_zald q_X12_takesPart_10 (a79 hB) (cref0 (by decide)) (by first | omega | assumption) (by first | omega | assumption) (by decide) rfl ?_
  refine e_if_eq q_X12_takesPart_11 (by first | exact hR _ _ (by decide) (by decide) (by decide) | (constructor <;> omega) | assumption) (fun c11 => ?_) (fun c11 => ?_)
  · skip
    refine e_iconst q_X12_takesPart_26 ?_
    refine e_ireturn q_X12_takesPart_27 rfl rfl ?_
    first | exact zqT h ⟨by omega, by omega⟩ | exact zqF h (fun q => by have q1 := q.1; have q2 := q.2; omega)
  · skip
    refine e_aload_n q_X12_takesPart_14 (by decide) rfl ?_
    refine e_iload_n q_X12_takesPart_15 (by decide) rfl ?_
    refine iv_X12_isDead q_X12_takesPart_16 lk_X12_178 (by decide) (a39 hB) (Nat.le_of_ble_eq_true rfl) ?_
    refine kr_isDead hB hR hw0 hw1 ?_
    refine e_ifb_ne q_X12_takesPart_19 (fun c19 => ?_) (fun c19 => ?_)
    · skip
      refine e_iconst q_X12_takesPart_26 ?_
      refine e_ireturn q_X12_takesPart_27 rfl rfl ?_
      first | exact zqT h ⟨by omega, by omega⟩ | exact zqF h (fun q => by have q1 := q.1; have q2 := q.2; omega)
    · skip
      refine e_iconst q_X12_takesPart_22 ?_
      refine e_goto q_X12_takesPart_23 ?_
      refine e_ireturn q_X12_takesPart_27 rfl rfl ?_
      first | exact zqT h ⟨by omega, by omega⟩ | exact zqF h (fun q => by have q1 := q.1; have q2 := q.2; omega)
theorem wgt_w (N : zN) (x : Int) : wgt N x = 1 ∨ wgt N x = 3 := by
  unfold wgt
  split <;> omega
theorem parts_k {N1 : zN} (h : ∀ a : Nat, a ≠ 80 → a ≠ 81 → N1 a = N a) (p w : Int) : parts N1 p w = parts N p w := by
  unfold parts
  rw [h 79 (by decide) (by decide), h 47 (by decide) (by decide)]
theorem wgt_k {N1 : zN} (h : ∀ a : Nat, a ≠ 80 → a ≠ 81 → N1 a = N a) (w : Int) : wgt N1 w = wgt N w := by
  unfold wgt
  rw [h 45 (by decide) (by decide)]
set_option maxRecDepth 20000 in
set_option maxHeartbeats 2000000 in
theorem kr_isPartedAmong (hB : zB0 s) (hR : ∀ (a : Nat) (j : Int), a ≠ 80 → a ≠ 81 → a ≠ 39 → zr (N a j)){p : Int} (hp : 0 ≤ p ∧ p < 20) {P : Nat} (hP : P ≤ 48) (h2P : N 39 2 = P) {am : Int} (ham : 0 ≤ am ∧ am ≤ 9999) (hr81 : ∀ x : Int, zr (N 81 x)) (h1 : pallK (parts N p) (wgt N) P = 0 → Q (some (vi 0)) (zI s (mup N 39 58 (w32 (N 39 58 + am))))) (h2 : 0 < pallK (parts N p) (wgt N) P → ∀ N1, ((∀ a0 : Nat, a0 ≠ 80 → a0 ≠ 81 → N1 a0 = N a0) ∧ (∀ x : Int, ¬ (48 * p ≤ x ∧ x < 48 * p + 48) → N1 80 x = N 80 x) ∧ (∀ x : Int, 0 ≤ x → x < 48 → N1 80 (48 * p + x) = N 80 (48 * p + x) + padd (parts N p) (wgt N) P am x) ∧ ∀ x : Int, zr (N1 81 x)) → Q (some (vi 1)) (zI s N1)) : zC X m_X12_isPartedAmong [.ref 39, vi p, vi am] (zI s N) Q := by
  show zE X m_X12_isPartedAmong 0 [.ref 39, vi p, vi am, zU, zU, zU, zU] [] _ Q
  refine e_iconst q_X12_isPartedAmong_0 ?_
  refine e_istore_n (ls' := [_, _, _, _, _, _, _]) q_X12_isPartedAmong_1 (by decide) rfl rfl ?_
  refine e_iconst q_X12_isPartedAmong_2 ?_
  refine e_istore (ls' := [_, _, _, _, _, _, _]) q_X12_isPartedAmong_3 (by decide) rfl rfl ?_
  refine zEe (ls := [.ref 39, vi p, vi am, vi (pallK (parts N p) (wgt N) 0), vi ((0 : Nat) : Int), zU, zU]) (σ := zI s N) ?_ rfl rfl
  refine z_for (P := fun i => ∀ (hh : True), (True) → zE X m_X12_isPartedAmong 5 [.ref 39, vi p, vi am, vi (pallK (parts N p) (wgt N) i), vi (i : Int), zU, zU] [] (zI s N) Q) P (fun i hi ih hh hv => ?_) (fun hh hv => ?_) trivial trivial
  · skip
    refine e_iload q_X12_isPartedAmong_5 (by decide) rfl ?_
    refine e_aload_n q_X12_isPartedAmong_7 (by decide) rfl ?_
    refine i_getI (k' := 2) q_X12_isPartedAmong_8 fl_X12_164 (a39 hB) rfl rfl rfl h2P ?_
    refine e_icmp_ge q_X12_isPartedAmong_11 (by first | exact hR _ _ | (constructor <;> omega) | assumption) (by first | exact hR _ _ | (constructor <;> omega) | assumption) (fun c11 => ?_) (fun c11 => ?_)
    · skip
      exact absurd c11 (by omega)
    · skip
      refine e_iload_n q_X12_isPartedAmong_14 (by decide) rfl ?_
      refine e_aload_n q_X12_isPartedAmong_15 (by decide) rfl ?_
      refine e_iload_n q_X12_isPartedAmong_16 (by decide) rfl ?_
      refine e_iload q_X12_isPartedAmong_17 (by decide) rfl ?_
      refine iv_X12_takesPart q_X12_isPartedAmong_19 lk_X12_325 (by decide) (a39 hB) (Nat.le_of_ble_eq_true rfl) ?_
      refine kr_takesPart hB hR hp (by omega) (by omega) ?_
      refine e_ifb_eq q_X12_isPartedAmong_22 (fun c22 => ?_) (fun c22 => ?_)
      · skip
        refine e_iconst q_X12_isPartedAmong_34 ?_
        refine e_iadd q_X12_isPartedAmong_35 ?_
        refine e_istore_n (ls' := [_, _, _, _, _, _, _]) q_X12_isPartedAmong_36 (by decide) rfl rfl ?_
        refine e_iinc (ls' := [_, _, _, _, _, _, _]) q_X12_isPartedAmong_37 (by decide) rfl rfl rfl ?_
        refine e_goto q_X12_isPartedAmong_40 ?_
        first | exact zEe (ih trivial trivial) (by rw [pallK_s, zif_t c22]; rfl) rfl | exact zEe (ih trivial trivial) (by rw [pallK_s, zif_f c22]; rfl) rfl
      · skip
        refine e_aload_n q_X12_isPartedAmong_25 (by decide) rfl ?_
        refine e_iload q_X12_isPartedAmong_26 (by decide) rfl ?_
        refine iv_X12_weightOf q_X12_isPartedAmong_28 lk_X12_328 (by decide) (a39 hB) (Nat.le_of_ble_eq_true rfl) ?_
        refine kr_weightOf hB hR (by omega) (by omega) ?_
        refine e_goto q_X12_isPartedAmong_31 ?_
        refine e_iadd q_X12_isPartedAmong_35 ?_
        refine e_istore_n (ls' := [_, _, _, _, _, _, _]) q_X12_isPartedAmong_36 (by decide) rfl rfl ?_
        refine e_iinc (ls' := [_, _, _, _, _, _, _]) q_X12_isPartedAmong_37 (by decide) rfl rfl rfl ?_
        refine e_goto q_X12_isPartedAmong_40 ?_
        first | exact zEe (ih trivial trivial) (by rw [pallK_s, zif_t c22]; rfl) rfl | exact zEe (ih trivial trivial) (by rw [pallK_s, zif_f c22]; rfl) rfl
  · skip
    refine e_iload q_X12_isPartedAmong_5 (by decide) rfl ?_
    refine e_aload_n q_X12_isPartedAmong_7 (by decide) rfl ?_
    refine i_getI (k' := 2) q_X12_isPartedAmong_8 fl_X12_164 (a39 hB) rfl rfl rfl h2P ?_
    refine e_icmp_ge q_X12_isPartedAmong_11 (by first | exact hR _ _ | (constructor <;> omega) | assumption) (by first | exact hR _ _ | (constructor <;> omega) | assumption) (fun c11 => ?_) (fun c11 => ?_)
    · skip
      refine e_iload_n q_X12_isPartedAmong_43 (by decide) rfl ?_
      refine e_if_ne q_X12_isPartedAmong_44 (by have := pallK_b (tk := (parts N p)) (wgt_w N) P; constructor <;> omega) (fun c44 => ?_) (fun c44 => ?_)
      · skip
        refine e_iload_n q_X12_isPartedAmong_59 (by decide) rfl ?_
        refine e_istore (ls' := [_, _, _, _, _, _, _]) q_X12_isPartedAmong_60 (by decide) rfl rfl ?_
        refine e_iconst q_X12_isPartedAmong_62 ?_
        refine e_istore (ls' := [_, _, _, _, _, _, _]) q_X12_isPartedAmong_63 (by decide) rfl rfl ?_
        have hpb := pallK_b (tk := (parts N p)) (wgt_w N) P
        have hall : 0 < pallK (parts N p) (wgt N) P := by omega
        refine zEe (ls := [.ref 39, vi p, vi am, vi (pallK (parts N p) (wgt N) P), vi (am - sumK (fun j => psh (parts N p) (wgt N) P am j) 0), vi ((0 : Nat) : Int), zU]) (σ := zI s N) ?_ (by simp [sumK]) rfl
        refine z_for (P := fun i => ∀ (N1 : zN) (u6 : Value), ((∀ a0 : Nat, a0 ≠ 80 → a0 ≠ 81 → N1 a0 = N a0) ∧ (∀ x : Int, ¬ (48 * p ≤ x ∧ x < 48 * p + 48) → N1 80 x = N 80 x) ∧ (∀ x : Int, 0 ≤ x → x < 48 → N1 80 (48 * p + x) = N 80 (48 * p + x) + (if x < i then psh (parts N p) (wgt N) P am x else 0)) ∧ (∀ x : Int, 0 ≤ x → x < i → N1 81 x = prs (parts N p) (wgt N) P am x) ∧ ∀ x : Int, zr (N1 81 x)) → zE X m_X12_isPartedAmong 65 [.ref 39, vi p, vi am, vi (pallK (parts N p) (wgt N) P), vi (am - sumK (fun j => psh (parts N p) (wgt N) P am j) i), vi (i : Int), u6] [] (zI s N1) Q) P (fun i hi ih N1 u6 hv1 => ?_) (fun N1 u6 hv1 => ?_) N zU ⟨fun _ _ _ => rfl, fun _ _ => rfl, fun x h0 h1 => by rw [if_neg (by omega), Int.add_zero], fun x h1 h2 => by omega, hr81⟩
        · skip
          refine e_iload q_X12_isPartedAmong_65 (by decide) rfl ?_
          refine e_aload_n q_X12_isPartedAmong_67 (by decide) rfl ?_
          refine i_getI (k' := 2) q_X12_isPartedAmong_68 fl_X12_164 (a39 hB) rfl rfl rfl ((congrFun (hv1.1 39 (by decide) (by decide)) 2).trans h2P) ?_
          refine e_icmp_ge q_X12_isPartedAmong_71 (by first | exact hR _ _ | (constructor <;> omega) | assumption) (by first | exact hR _ _ | (constructor <;> omega) | assumption) (fun c71 => ?_) (fun c71 => ?_)
          · skip
            exact absurd c71 (by omega)
          · skip
            refine e_aload_n q_X12_isPartedAmong_74 (by decide) rfl ?_
            refine i_getC (r := 81) q_X12_isPartedAmong_75 fl_X12_139 (a39 hB) rfl (by decide) ?_
            refine e_iload q_X12_isPartedAmong_78 (by decide) rfl ?_
            refine e_iconst q_X12_isPartedAmong_80 ?_
            refine i_iast q_X12_isPartedAmong_81 (a81 hB) (cref0 (by decide)) (by first | omega | assumption) (by first | omega | assumption) (by decide) ?_
            have hne0 : ∀ a0 : Nat, a0 ≠ 80 → a0 ≠ 81 → mup N1 81 i (-1) a0 = N a0 := fun a0 h1 h2 => by
              rw [mup_fn h2]; exact hv1.1 a0 h1 h2
            have hRM : ∀ (a : Nat) (j : Int), a ≠ 80 → a ≠ 81 → a ≠ 39 → zr (mup N1 81 i (-1) a j) := fun a j h1 h2 h3 => by
              rw [hne0 a h1 h2]; exact hR a j h1 h2 h3
            refine e_aload_n q_X12_isPartedAmong_82 (by decide) rfl ?_
            refine e_iload_n q_X12_isPartedAmong_83 (by decide) rfl ?_
            refine e_iload q_X12_isPartedAmong_84 (by decide) rfl ?_
            refine iv_X12_takesPart q_X12_isPartedAmong_86 lk_X12_325 (by decide) (a39 hB) (Nat.le_of_ble_eq_true rfl) ?_
            refine kr_takesPart hB hRM hp (by omega) (by omega) ?_
            refine e_ifb_eq q_X12_isPartedAmong_89 (fun c89 => ?_) (fun c89 => ?_)
            · skip
              refine e_iinc (ls' := [_, _, _, _, _, _, _]) q_X12_isPartedAmong_145 (by decide) rfl rfl rfl ?_
              refine e_goto q_X12_isPartedAmong_148 ?_
              first
              | (have ht : parts N p i := (parts_k hne0 p i) ▸ c89
                 have es : psh (parts N p) (wgt N) P am i = am * wgt N i / pallK (parts N p) (wgt N) P := zif_t ⟨by omega, by omega, ht⟩
                 have er : prs (parts N p) (wgt N) P am i = am * wgt N i % pallK (parts N p) (wgt N) P := zif_t ht
                 refine zEe (ls := [.ref 39, vi p, vi am, vi (pallK (parts N p) (wgt N) P), vi (am - sumK (fun j => psh (parts N p) (wgt N) P am j) (i + 1)), vi ((i + 1 : Nat) : Int), _]) (ih _ _ ⟨fun a0 h1 h2 => ?_, fun x hx => ?_, fun x h1 h2 => ?_, fun x h1 h2 => ?_, fun x => ?_⟩) (by rw [sumK, es, Int.sub_sub]; rfl) rfl
                 · funext x
                   rw [mup_cell h1, mup_cell h2, mup_cell h2, hv1.1 a0 h1 h2]
                 · rw [mup_slot (by omega), mup_cell (by decide), mup_cell (by decide), hv1.2.1 x hx]
                 · by_cases hx : x = i
                   · rw [hx, mup_self, mup_cell (by decide), mup_cell (by decide), hv1.2.2.1 i (by omega) (by omega), if_neg (by omega), if_pos (by omega), es]
                     omega
                   · rw [mup_slot (by omega), mup_cell (by decide), mup_cell (by decide), hv1.2.2.1 x h1 h2]
                     by_cases hx2 : x < (i : Int)
                     · rw [if_pos hx2, if_pos (by omega)]
                     · rw [if_neg hx2, if_neg (by omega)]
                 · rw [mup_cell (by decide)]
                   by_cases hx : x = i
                   · rw [hx, mup_self, er]
                   · rw [mup_slot hx, mup_slot hx, hv1.2.2.2.1 x h1 (by omega)]
                 · rw [mup_cell (by decide)]
                   by_cases hx : x = i
                   · rw [hx, mup_self]
                     have h1 := Int.emod_nonneg (am * wgt N i) (show pallK (parts N p) (wgt N) P ≠ 0 by omega)
                     have h2 := Int.emod_lt_of_pos (am * wgt N i) (show 0 < pallK (parts N p) (wgt N) P by omega)
                     constructor <;> omega
                   · rw [mup_slot hx, mup_slot hx]
                     exact hv1.2.2.2.2 x)
              | (have ht : ¬ parts N p i := fun q => c89 ((parts_k hne0 p i).symm ▸ q)
                 have es : psh (parts N p) (wgt N) P am i = 0 := zif_f (fun q => ht q.2.2)
                 have er : prs (parts N p) (wgt N) P am i = -1 := zif_f ht
                 refine zEe (ls := [.ref 39, vi p, vi am, vi (pallK (parts N p) (wgt N) P), vi (am - sumK (fun j => psh (parts N p) (wgt N) P am j) (i + 1)), vi ((i + 1 : Nat) : Int), _]) (ih _ _ ⟨fun a0 h1 h2 => ?_, fun x hx => ?_, fun x h1 h2 => ?_, fun x h1 h2 => ?_, fun x => ?_⟩) (by rw [sumK, es, Int.add_zero]; rfl) rfl
                 · funext x
                   rw [mup_cell h2, hv1.1 a0 h1 h2]
                 · rw [mup_cell (by decide), hv1.2.1 x hx]
                 · rw [mup_cell (by decide), hv1.2.2.1 x h1 h2]
                   by_cases hx : x = i
                   · rw [hx, if_neg (by omega), if_pos (by omega), es]
                   · by_cases hx2 : x < (i : Int)
                     · rw [if_pos hx2, if_pos (by omega)]
                     · rw [if_neg hx2, if_neg (by omega)]
                 · by_cases hx : x = i
                   · rw [hx, mup_self, er]
                   · rw [mup_slot hx, hv1.2.2.2.1 x h1 (by omega)]
                 · by_cases hx : x = i
                   · rw [hx, mup_self]
                     constructor <;> omega
                   · rw [mup_slot hx]
                     exact hv1.2.2.2.2 x)
            · skip
              refine e_iload_n q_X12_isPartedAmong_92 (by decide) rfl ?_
              refine e_aload_n q_X12_isPartedAmong_93 (by decide) rfl ?_
              refine e_iload q_X12_isPartedAmong_94 (by decide) rfl ?_
              refine iv_X12_weightOf q_X12_isPartedAmong_96 lk_X12_328 (by decide) (a39 hB) (Nat.le_of_ble_eq_true rfl) ?_
              refine kr_weightOf hB hRM (by omega) (by omega) ?_
              rw [wgt_k hne0]
              have hwg : 0 ≤ am * wgt N i ∧ am * wgt N i ≤ 29997 := by
                rcases wgt_w N i with q | q
                · rw [q]; omega
                · rw [q]; omega
              refine e_imul q_X12_isPartedAmong_99 ?_
              refine e_iload_n q_X12_isPartedAmong_100 (by decide) rfl ?_
              refine e_idiv q_X12_isPartedAmong_101 (by omega) (by omega) ?_
              refine e_istore (ls' := [_, _, _, _, _, _, _]) q_X12_isPartedAmong_102 (by decide) rfl rfl ?_
              refine e_aload_n q_X12_isPartedAmong_104 (by decide) rfl ?_
              refine i_getC (r := 81) q_X12_isPartedAmong_105 fl_X12_139 (a39 hB) rfl (by decide) ?_
              refine e_iload q_X12_isPartedAmong_108 (by decide) rfl ?_
              refine e_iload_n q_X12_isPartedAmong_110 (by decide) rfl ?_
              refine e_aload_n q_X12_isPartedAmong_111 (by decide) rfl ?_
              refine e_iload q_X12_isPartedAmong_112 (by decide) rfl ?_
              refine iv_X12_weightOf q_X12_isPartedAmong_114 lk_X12_328 (by decide) (a39 hB) (Nat.le_of_ble_eq_true rfl) ?_
              refine kr_weightOf hB hRM (by omega) (by omega) ?_
              rw [wgt_k hne0]
              refine e_imul q_X12_isPartedAmong_117 ?_
              refine e_iload_n q_X12_isPartedAmong_118 (by decide) rfl ?_
              refine e_irem q_X12_isPartedAmong_119 (by omega) (by omega) ?_
              refine i_iast q_X12_isPartedAmong_120 (a81 hB) (cref0 (by decide)) (by first | omega | assumption) (by first | omega | assumption) (by decide) ?_
              refine e_aload_n q_X12_isPartedAmong_121 (by decide) rfl ?_
              refine i_getC (r := 80) q_X12_isPartedAmong_122 fl_X12_136 (a39 hB) rfl (by decide) ?_
              refine e_bipush q_X12_isPartedAmong_125 (by decide) ?_
              refine e_iload_n q_X12_isPartedAmong_127 (by decide) rfl ?_
              refine e_imul q_X12_isPartedAmong_128 ?_
              refine e_iload q_X12_isPartedAmong_129 (by decide) rfl ?_
              refine e_iadd q_X12_isPartedAmong_131 ?_
              refine e_dup2 q_X12_isPartedAmong_132 rfl rfl ?_
              refine i_iald q_X12_isPartedAmong_133 (a80 hB) (cref0 (by decide)) (by first | omega | assumption) (by first | omega | assumption) (by decide) rfl ?_
              refine e_iload q_X12_isPartedAmong_134 (by decide) rfl ?_
              refine e_iadd q_X12_isPartedAmong_136 ?_
              refine i_iast q_X12_isPartedAmong_137 (a80 hB) (cref0 (by decide)) (by first | omega | assumption) (by first | omega | assumption) (by decide) ?_
              refine e_iload q_X12_isPartedAmong_138 (by decide) rfl ?_
              refine e_iload q_X12_isPartedAmong_140 (by decide) rfl ?_
              refine e_isub q_X12_isPartedAmong_142 ?_
              refine e_istore (ls' := [_, _, _, _, _, _, _]) q_X12_isPartedAmong_143 (by decide) rfl rfl ?_
              refine e_iinc (ls' := [_, _, _, _, _, _, _]) q_X12_isPartedAmong_145 (by decide) rfl rfl rfl ?_
              refine e_goto q_X12_isPartedAmong_148 ?_
              first
              | (have ht : parts N p i := (parts_k hne0 p i) ▸ c89
                 have es : psh (parts N p) (wgt N) P am i = am * wgt N i / pallK (parts N p) (wgt N) P := zif_t ⟨by omega, by omega, ht⟩
                 have er : prs (parts N p) (wgt N) P am i = am * wgt N i % pallK (parts N p) (wgt N) P := zif_t ht
                 refine zEe (ls := [.ref 39, vi p, vi am, vi (pallK (parts N p) (wgt N) P), vi (am - sumK (fun j => psh (parts N p) (wgt N) P am j) (i + 1)), vi ((i + 1 : Nat) : Int), _]) (ih _ _ ⟨fun a0 h1 h2 => ?_, fun x hx => ?_, fun x h1 h2 => ?_, fun x h1 h2 => ?_, fun x => ?_⟩) (by rw [sumK, es, Int.sub_sub]; rfl) rfl
                 · funext x
                   rw [mup_cell h1, mup_cell h2, mup_cell h2, hv1.1 a0 h1 h2]
                 · rw [mup_slot (by omega), mup_cell (by decide), mup_cell (by decide), hv1.2.1 x hx]
                 · by_cases hx : x = i
                   · rw [hx, mup_self, mup_cell (by decide), mup_cell (by decide), hv1.2.2.1 i (by omega) (by omega), if_neg (by omega), if_pos (by omega), es]
                     omega
                   · rw [mup_slot (by omega), mup_cell (by decide), mup_cell (by decide), hv1.2.2.1 x h1 h2]
                     by_cases hx2 : x < (i : Int)
                     · rw [if_pos hx2, if_pos (by omega)]
                     · rw [if_neg hx2, if_neg (by omega)]
                 · rw [mup_cell (by decide)]
                   by_cases hx : x = i
                   · rw [hx, mup_self, er]
                   · rw [mup_slot hx, mup_slot hx, hv1.2.2.2.1 x h1 (by omega)]
                 · rw [mup_cell (by decide)]
                   by_cases hx : x = i
                   · rw [hx, mup_self]
                     have h1 := Int.emod_nonneg (am * wgt N i) (show pallK (parts N p) (wgt N) P ≠ 0 by omega)
                     have h2 := Int.emod_lt_of_pos (am * wgt N i) (show 0 < pallK (parts N p) (wgt N) P by omega)
                     constructor <;> omega
                   · rw [mup_slot hx, mup_slot hx]
                     exact hv1.2.2.2.2 x)
              | (have ht : ¬ parts N p i := fun q => c89 ((parts_k hne0 p i).symm ▸ q)
                 have es : psh (parts N p) (wgt N) P am i = 0 := zif_f (fun q => ht q.2.2)
                 have er : prs (parts N p) (wgt N) P am i = -1 := zif_f ht
                 refine zEe (ls := [.ref 39, vi p, vi am, vi (pallK (parts N p) (wgt N) P), vi (am - sumK (fun j => psh (parts N p) (wgt N) P am j) (i + 1)), vi ((i + 1 : Nat) : Int), _]) (ih _ _ ⟨fun a0 h1 h2 => ?_, fun x hx => ?_, fun x h1 h2 => ?_, fun x h1 h2 => ?_, fun x => ?_⟩) (by rw [sumK, es, Int.add_zero]; rfl) rfl
                 · funext x
                   rw [mup_cell h2, hv1.1 a0 h1 h2]
                 · rw [mup_cell (by decide), hv1.2.1 x hx]
                 · rw [mup_cell (by decide), hv1.2.2.1 x h1 h2]
                   by_cases hx : x = i
                   · rw [hx, if_neg (by omega), if_pos (by omega), es]
                   · by_cases hx2 : x < (i : Int)
                     · rw [if_pos hx2, if_pos (by omega)]
                     · rw [if_neg hx2, if_neg (by omega)]
                 · by_cases hx : x = i
                   · rw [hx, mup_self, er]
                   · rw [mup_slot hx, hv1.2.2.2.1 x h1 (by omega)]
                 · by_cases hx : x = i
                   · rw [hx, mup_self]
                     constructor <;> omega
                   · rw [mup_slot hx]
                     exact hv1.2.2.2.2 x)
        · skip
          refine e_iload q_X12_isPartedAmong_65 (by decide) rfl ?_
          refine e_aload_n q_X12_isPartedAmong_67 (by decide) rfl ?_
          refine i_getI (k' := 2) q_X12_isPartedAmong_68 fl_X12_164 (a39 hB) rfl rfl rfl ((congrFun (hv1.1 39 (by decide) (by decide)) 2).trans h2P) ?_
          refine e_icmp_ge q_X12_isPartedAmong_71 (by first | exact hR _ _ | (constructor <;> omega) | assumption) (by first | exact hR _ _ | (constructor <;> omega) | assumption) (fun c71 => ?_) (fun c71 => ?_)
          · skip
            have hP1 := pall_P hall
            have hpv := pov_0 (tk := (parts N p)) (P := P) (wgt_w N) (show 0 ≤ am by omega) hall
            refine zEe (ls := [.ref 39, vi p, vi am, vi (pallK (parts N p) (wgt N) P), vi (pov (parts N p) (wgt N) P am - ((0 : Nat) : Int)), vi P, u6]) (σ := zI s N1) ?_ (by rw [pov]; simp) rfl
            refine z_for (P := fun i => ∀ (N1 : zN) (u5 : Value) (u6 : Value), ((∀ a0 : Nat, a0 ≠ 80 → a0 ≠ 81 → N1 a0 = N a0) ∧ (∀ x : Int, ¬ (48 * p ≤ x ∧ x < 48 * p + 48) → N1 80 x = N 80 x) ∧ (∀ x : Int, 0 ≤ x → x < 48 → N1 80 (48 * p + x) = N 80 (48 * p + x) + gvA (prs (parts N p) (wgt N) P am) (psh (parts N p) (wgt N) P am) P i x) ∧ (∀ x : Int, 0 ≤ x → x < P → N1 81 x = gvR (prs (parts N p) (wgt N) P am) P i x) ∧ ∀ x : Int, zr (N1 81 x)) → zE X m_X12_isPartedAmong 151 [.ref 39, vi p, vi am, vi (pallK (parts N p) (wgt N) P), vi (pov (parts N p) (wgt N) P am - i), u5, u6] [] (zI s N1) Q) (pov (parts N p) (wgt N) P am).toNat (fun i hi ih N1 u5 u6 hv2 => ?_) (fun N1 u5 u6 hv2 => ?_) _ _ _ ⟨hv1.1, hv1.2.1, fun x h0 h1 => by
                rw [hv1.2.2.1 x h0 h1]
                by_cases hx : x < (P : Int)
                · rw [if_pos hx]; rfl
                · rw [if_neg hx]
                  show _ = N 80 (48 * p + x) + psh (parts N p) (wgt N) P am x
                  rw [psh, zif_f (by omega)], hv1.2.2.2.1, hv1.2.2.2.2⟩
            · skip
              refine e_iload q_X12_isPartedAmong_151 (by decide) rfl ?_
              refine e_if_le q_X12_isPartedAmong_153 (by constructor <;> omega) (fun c153 => ?_) (fun c153 => ?_)
              · skip
                exact absurd c153 (by omega)
              · skip
                refine e_iconst q_X12_isPartedAmong_156 ?_
                refine e_istore (ls' := [_, _, _, _, _, _, _]) q_X12_isPartedAmong_157 (by decide) rfl rfl ?_
                refine e_iconst q_X12_isPartedAmong_159 ?_
                refine e_istore (ls' := [_, _, _, _, _, _, _]) q_X12_isPartedAmong_160 (by decide) rfl rfl ?_
                refine zEe (ls := [.ref 39, vi p, vi am, vi (pallK (parts N p) (wgt N) P), vi (pov (parts N p) (wgt N) P am - i), vi (gmx (N1 81) (0 + 1)), vi ((0 + 1 : Nat) : Int)]) (σ := zI s N1) ?_ (by rw [gmx_1]; rfl) rfl
                refine z_for (P := fun k => ∀ (hh : True), (True) → zE X m_X12_isPartedAmong 162 [.ref 39, vi p, vi am, vi (pallK (parts N p) (wgt N) P), vi (pov (parts N p) (wgt N) P am - i), vi (gmx (N1 81) (k + 1)), vi ((k + 1 : Nat) : Int)] [] (zI s N1) Q) (P - 1) (fun k hik ihk hh hvk => ?_) (fun hh hvk => ?_) trivial trivial
                · skip
                  have hb := gmx_b (N1 81) (k + 1)
                  refine e_iload q_X12_isPartedAmong_162 (by decide) rfl ?_
                  refine e_aload_n q_X12_isPartedAmong_164 (by decide) rfl ?_
                  refine i_getI (k' := 2) q_X12_isPartedAmong_165 fl_X12_164 (a39 hB) rfl rfl rfl ((congrFun (hv2.1 39 (by decide) (by decide)) 2).trans h2P) ?_
                  refine e_icmp_ge q_X12_isPartedAmong_168 (by first | exact hR _ _ | (constructor <;> omega) | assumption) (by first | exact hR _ _ | (constructor <;> omega) | assumption) (fun c168 => ?_) (fun c168 => ?_)
                  · skip
                    exact absurd c168 (by omega)
                  · skip
                    refine e_aload_n q_X12_isPartedAmong_171 (by decide) rfl ?_
                    refine i_getC (r := 81) q_X12_isPartedAmong_172 fl_X12_139 (a39 hB) rfl (by decide) ?_
                    refine e_iload q_X12_isPartedAmong_175 (by decide) rfl ?_
                    refine i_iald q_X12_isPartedAmong_177 (a81 hB) (cref0 (by decide)) (by first | omega | assumption) (by first | omega | assumption) (by decide) rfl ?_
                    refine e_aload_n q_X12_isPartedAmong_178 (by decide) rfl ?_
                    refine i_getC (r := 81) q_X12_isPartedAmong_179 fl_X12_139 (a39 hB) rfl (by decide) ?_
                    refine e_iload q_X12_isPartedAmong_182 (by decide) rfl ?_
                    refine i_iald q_X12_isPartedAmong_184 (a81 hB) (cref0 (by decide)) (by first | omega | assumption) (by first | omega | assumption) (by decide) rfl ?_
                    refine e_icmp_le q_X12_isPartedAmong_185 (hv2.2.2.2.2 _) (hv2.2.2.2.2 _) (fun c185 => ?_) (fun c185 => ?_)
                    · skip
                      refine e_iload q_X12_isPartedAmong_193 (by decide) rfl ?_
                      refine e_istore (ls' := [_, _, _, _, _, _, _]) q_X12_isPartedAmong_195 (by decide) rfl rfl ?_
                      refine e_iinc (ls' := [_, _, _, _, _, _, _]) q_X12_isPartedAmong_197 (by decide) rfl rfl rfl ?_
                      refine e_goto q_X12_isPartedAmong_200 ?_
                      first | exact zEe (ihk trivial trivial) (by rw [gmx, if_pos (by omega)]; rfl) rfl | exact zEe (ihk trivial trivial) (by rw [gmx, if_neg (by omega)]; rfl) rfl
                    · skip
                      refine e_iload q_X12_isPartedAmong_188 (by decide) rfl ?_
                      refine e_goto q_X12_isPartedAmong_190 ?_
                      refine e_istore (ls' := [_, _, _, _, _, _, _]) q_X12_isPartedAmong_195 (by decide) rfl rfl ?_
                      refine e_iinc (ls' := [_, _, _, _, _, _, _]) q_X12_isPartedAmong_197 (by decide) rfl rfl rfl ?_
                      refine e_goto q_X12_isPartedAmong_200 ?_
                      first | exact zEe (ihk trivial trivial) (by rw [gmx, if_pos (by omega)]; rfl) rfl | exact zEe (ihk trivial trivial) (by rw [gmx, if_neg (by omega)]; rfl) rfl
                · skip
                  have hb := gmx_b (N1 81) (P - 1 + 1)
                  have eP : P - 1 + 1 = P := by omega
                  rw [eP] at hb ⊢
                  refine e_iload q_X12_isPartedAmong_162 (by decide) rfl ?_
                  refine e_aload_n q_X12_isPartedAmong_164 (by decide) rfl ?_
                  refine i_getI (k' := 2) q_X12_isPartedAmong_165 fl_X12_164 (a39 hB) rfl rfl rfl ((congrFun (hv2.1 39 (by decide) (by decide)) 2).trans h2P) ?_
                  refine e_icmp_ge q_X12_isPartedAmong_168 (by first | exact hR _ _ | (constructor <;> omega) | assumption) (by first | exact hR _ _ | (constructor <;> omega) | assumption) (fun c168 => ?_) (fun c168 => ?_)
                  · skip
                    refine e_aload_n q_X12_isPartedAmong_203 (by decide) rfl ?_
                    refine i_getC (r := 81) q_X12_isPartedAmong_204 fl_X12_139 (a39 hB) rfl (by decide) ?_
                    refine e_iload q_X12_isPartedAmong_207 (by decide) rfl ?_
                    refine e_iconst q_X12_isPartedAmong_209 ?_
                    refine i_iast q_X12_isPartedAmong_210 (a81 hB) (cref0 (by decide)) (by first | omega | assumption) (by first | omega | assumption) (by decide) ?_
                    refine e_aload_n q_X12_isPartedAmong_211 (by decide) rfl ?_
                    refine i_getC (r := 80) q_X12_isPartedAmong_212 fl_X12_136 (a39 hB) rfl (by decide) ?_
                    refine e_bipush q_X12_isPartedAmong_215 (by decide) ?_
                    refine e_iload_n q_X12_isPartedAmong_217 (by decide) rfl ?_
                    refine e_imul q_X12_isPartedAmong_218 ?_
                    refine e_iload q_X12_isPartedAmong_219 (by decide) rfl ?_
                    refine e_iadd q_X12_isPartedAmong_221 ?_
                    refine e_dup2 q_X12_isPartedAmong_222 rfl rfl ?_
                    refine i_iald q_X12_isPartedAmong_223 (a80 hB) (cref0 (by decide)) (by first | omega | assumption) (by first | omega | assumption) (by decide) rfl ?_
                    refine e_iconst q_X12_isPartedAmong_224 ?_
                    refine e_iadd q_X12_isPartedAmong_225 ?_
                    refine i_iast q_X12_isPartedAmong_226 (a80 hB) (cref0 (by decide)) (by first | omega | assumption) (by first | omega | assumption) (by decide) ?_
                    refine e_iinc (ls' := [_, _, _, _, _, _, _]) q_X12_isPartedAmong_227 (by decide) rfl rfl rfl ?_
                    refine e_goto q_X12_isPartedAmong_230 ?_
                    have eg : gmx (N1 81) P = gmx (gvR (prs (parts N p) (wgt N) P am) P i) P := gmx_c P hv2.2.2.2.1
                    refine zEe (ls := [.ref 39, vi p, vi am, vi (pallK (parts N p) (wgt N) P), vi (pov (parts N p) (wgt N) P am - ((i + 1 : Nat) : Int)), _, _]) (ih _ _ _ ⟨fun a0 h1 h2 => ?_, fun x hx => ?_, fun x h1 h2 => ?_, fun x h1 h2 => ?_, fun x => ?_⟩) (by rw [show pov (parts N p) (wgt N) P am - ((i + 1 : Nat) : Int) = pov (parts N p) (wgt N) P am - (i : Int) + -1 by omega]) rfl
                    · funext x
                      rw [mup_cell h1, mup_cell h2, hv2.1 a0 h1 h2]
                    · rw [mup_slot (by omega), mup_cell (by decide), hv2.2.1 x hx]
                    · show _ = N 80 (48 * p + x) + (gvA (prs (parts N p) (wgt N) P am) (psh (parts N p) (wgt N) P am) P i x + (if x = gmx (gvR (prs (parts N p) (wgt N) P am) P i) P then 1 else 0))
                      by_cases hx : x = gmx (N1 81) P
                      · rw [← eg, if_pos hx, hx, mup_self, mup_cell (by decide), hv2.2.2.1 _ (by omega) (by omega)]
                        omega
                      · rw [← eg, if_neg hx, mup_slot (by omega), mup_cell (by decide), hv2.2.2.1 x h1 h2]
                        omega
                    · show _ = if x = gmx (gvR (prs (parts N p) (wgt N) P am) P i) P then -1 else gvR (prs (parts N p) (wgt N) P am) P i x
                      rw [mup_cell (by decide), ← eg]
                      by_cases hx : x = gmx (N1 81) P
                      · rw [if_pos hx, hx, mup_self]
                      · rw [if_neg hx, mup_slot hx, hv2.2.2.2.1 x h1 h2]
                    · rw [mup_cell (by decide)]
                      by_cases hx : x = gmx (N1 81) P
                      · rw [hx, mup_self]
                        constructor <;> omega
                      · rw [mup_slot hx]
                        exact hv2.2.2.2.2 x
                  · skip
                    exact absurd (by omega) c168
            · skip
              refine e_iload q_X12_isPartedAmong_151 (by decide) rfl ?_
              refine e_if_le q_X12_isPartedAmong_153 (by constructor <;> omega) (fun c153 => ?_) (fun c153 => ?_)
              · skip
                refine e_iconst q_X12_isPartedAmong_233 ?_
                refine e_ireturn q_X12_isPartedAmong_234 rfl rfl ?_
                exact h2 hall N1 ⟨hv2.1, hv2.2.1, hv2.2.2.1, hv2.2.2.2.2⟩
              · skip
                exact absurd (by omega) c153
          · skip
            exact absurd (by omega) c71
      · skip
        refine e_aload_n q_X12_isPartedAmong_47 (by decide) rfl ?_
        refine e_dup q_X12_isPartedAmong_48 rfl ?_
        refine i_getI (k' := 58) q_X12_isPartedAmong_49 fl_X12_331 (a39 hB) rfl rfl rfl rfl ?_
        refine e_iload_n q_X12_isPartedAmong_52 (by decide) rfl ?_
        refine e_iadd q_X12_isPartedAmong_53 ?_
        refine i_putI (k' := 58) q_X12_isPartedAmong_54 fl_X12_331 (Or.inl rfl) (a39 hB) rfl rfl rfl rfl rfl ?_
        refine e_iconst q_X12_isPartedAmong_57 ?_
        refine e_ireturn q_X12_isPartedAmong_58 rfl rfl ?_
        exact zqS (h1 (by omega)) rfl (z_pw (k := 58) rfl (by rw [(a39 hB).2.2]; rfl))
    · skip
      exact absurd (by omega) c11
end RT3
