/-! THE SYSTEM'S METHODS THAT CHANGE, 2 (printed by wip/whole/gen/x8.py) -/
section XS8
variable {X : zX} {s : zK} {N : zN} {fa sa : Int → Int} {σ : zS} {Q : Option Value → zS → Prop}
theorem df_2 (j : Nat) : z_df 2 j = if z_isr (2, 0) j = true then .null else vi 0 := by rcases j with _ | _ | j <;> rfl
theorem df_4 (j : Nat) : z_df 4 j = if z_isr (4, 0) j = true then .null else vi 0 := by rcases j with _ | _ | _ | _ | _ | _ | _ | _ | _ | j <;> rfl
theorem df_5 (j : Nat) : z_df 5 j = if z_isr (5, 0) j = true then .null else vi 0 := by rcases j with _ | _ | _ | _ | _ | _ | _ | _ | j <;> rfl
theorem df_8 (j : Nat) : z_df 8 j = if z_isr (8, 0) j = true then .null else vi 0 := by rcases j with _ | _ | _ | j <;> rfl
theorem df_9 (j : Nat) : z_df 9 j = if z_isr (9, 0) j = true then .null else vi 0 := by rcases j with _ | _ | _ | j <;> rfl
set_option maxRecDepth 20000 in
set_option maxHeartbeats 2000000 in
theorem x_init4 {b : Nat} (b88 : 88 ≤ b) (bA : zA s b (4, 0)) {k y n g p f : Int} (hp : p = 0 ∨ p = 1) (h : Q none (zI s (mup (mup (mup (mup (mup (mup (mup (mup N b 6 (-1)) b 7 (-4)) b 0 k) b 1 y) b 2 n) b 3 g) b 4 p) b 5 f))) : zC X m_X4_init [.ref b, vi k, vi y, vi n, vi g, vi p, vi f] (zI s N) Q := by
  show zE X m_X4_init 0 [.ref b, vi k, vi y, vi n, vi g, vi p, vi f] [] _ Q
  refine e_aload_n q_X4_init_0 (by decide) rfl ?_
  refine e_objInit q_X4_init_1 lk_X4_3 ob_inst ob_code (by decide) (by decide) ?_
  refine e_aload_n q_X4_init_4 (by decide) rfl ?_
  refine e_iconst q_X4_init_5 ?_
  refine i_putI (k' := 6) q_X4_init_6 fl_X4_9 (Or.inr ⟨rfl, _, _, rfl⟩) bA (cref0 (by omega) _) rfl rfl rfl rfl ?_
  refine e_aload_n q_X4_init_9 (by decide) rfl ?_
  refine e_bipush q_X4_init_10 (by decide) ?_
  refine i_putI (k' := 7) q_X4_init_12 fl_X4_15 (Or.inr ⟨rfl, _, _, rfl⟩) bA (cref0 (by omega) _) rfl rfl rfl rfl ?_
  refine e_aload_n q_X4_init_15 (by decide) rfl ?_
  refine e_iload_n q_X4_init_16 (by decide) rfl ?_
  refine i_putI (k' := 0) q_X4_init_17 fl_X4_18 (Or.inr ⟨rfl, _, _, rfl⟩) bA (cref0 (by omega) _) rfl rfl rfl rfl ?_
  refine e_aload_n q_X4_init_20 (by decide) rfl ?_
  refine e_iload_n q_X4_init_21 (by decide) rfl ?_
  refine i_putI (k' := 1) q_X4_init_22 fl_X4_21 (Or.inr ⟨rfl, _, _, rfl⟩) bA (cref0 (by omega) _) rfl rfl rfl rfl ?_
  refine e_aload_n q_X4_init_25 (by decide) rfl ?_
  refine e_iload_n q_X4_init_26 (by decide) rfl ?_
  refine i_putI (k' := 2) q_X4_init_27 fl_X4_24 (Or.inr ⟨rfl, _, _, rfl⟩) bA (cref0 (by omega) _) rfl rfl rfl rfl ?_
  refine e_aload_n q_X4_init_30 (by decide) rfl ?_
  refine e_iload q_X4_init_31 (by decide) rfl ?_
  refine i_putI (k' := 3) q_X4_init_33 fl_X4_27 (Or.inr ⟨rfl, _, _, rfl⟩) bA (cref0 (by omega) _) rfl rfl rfl rfl ?_
  refine e_aload_n q_X4_init_36 (by decide) rfl ?_
  refine e_iload q_X4_init_37 (by decide) rfl ?_
  refine i_putI (k' := 4) q_X4_init_39 fl_X4_30 (Or.inr ⟨rfl, _, _, rfl⟩) bA (cref0 (by omega) _) rfl rfl (by rcases hp with rfl | rfl <;> rfl) (by rcases hp with rfl | rfl <;> rfl) ?_
  refine e_aload_n q_X4_init_42 (by decide) rfl ?_
  refine e_iload q_X4_init_43 (by decide) rfl ?_
  refine i_putI (k' := 5) q_X4_init_45 fl_X4_34 (Or.inr ⟨rfl, _, _, rfl⟩) bA (cref0 (by omega) _) rfl rfl rfl rfl ?_
  refine e_return q_X4_init_48 rfl ?_
  exact h
set_option maxRecDepth 20000 in
set_option maxHeartbeats 2000000 in
theorem x_init2N {b : Nat} (b88 : 88 ≤ b) (bA : zA s b (2, 0)) {d : Int} (h : Q none (zI s (mup (mup (mup N b 2 (-1)) b 0 d) b 1 0))) : zC X m_X2_init [.ref b, vi d, .null] (zI s N) Q := by
  show zE X m_X2_init 0 [.ref b, vi d, .null] [] _ Q
  refine e_aload_n q_X2_init_0 (by decide) rfl ?_
  refine e_objInit q_X2_init_1 lk_X2_3 ob_inst ob_code (by decide) (by decide) ?_
  refine e_aload_n q_X2_init_4 (by decide) rfl ?_
  refine e_iconst q_X2_init_5 ?_
  refine i_putI (k' := 2) q_X2_init_6 fl_X2_9 (Or.inr ⟨rfl, _, _, rfl⟩) bA (cref0 (by omega) _) rfl rfl rfl rfl ?_
  refine e_aload_n q_X2_init_9 (by decide) rfl ?_
  refine e_iload_n q_X2_init_10 (by decide) rfl ?_
  refine i_putI (k' := 0) q_X2_init_11 fl_X2_15 (Or.inr ⟨rfl, _, _, rfl⟩) bA (cref0 (by omega) _) rfl rfl rfl rfl ?_
  refine e_aload_n q_X2_init_14 (by decide) rfl ?_
  refine e_aload_nN q_X2_init_15 (by decide) rfl ?_
  refine i_putN (k' := 1) q_X2_init_16 fl_X2_18 (Or.inr ⟨rfl, _, _, rfl⟩) bA (cref0 (by omega) _) rfl rfl rfl rfl ?_
  refine e_return q_X2_init_19 rfl ?_
  exact h
set_option maxRecDepth 20000 in
set_option maxHeartbeats 2000000 in
theorem x_init2R {b : Nat} (b88 : 88 ≤ b) (bA : zA s b (2, 0)) {d : Int} {r : Nat} (hr : r ≠ 0) (h : Q none (zI s (mup (mup (mup N b 2 (-1)) b 0 d) b 1 r))) : zC X m_X2_init [.ref b, vi d, .ref r] (zI s N) Q := by
  show zE X m_X2_init 0 [.ref b, vi d, .ref r] [] _ Q
  refine e_aload_n q_X2_init_0 (by decide) rfl ?_
  refine e_objInit q_X2_init_1 lk_X2_3 ob_inst ob_code (by decide) (by decide) ?_
  refine e_aload_n q_X2_init_4 (by decide) rfl ?_
  refine e_iconst q_X2_init_5 ?_
  refine i_putI (k' := 2) q_X2_init_6 fl_X2_9 (Or.inr ⟨rfl, _, _, rfl⟩) bA (cref0 (by omega) _) rfl rfl rfl rfl ?_
  refine e_aload_n q_X2_init_9 (by decide) rfl ?_
  refine e_iload_n q_X2_init_10 (by decide) rfl ?_
  refine i_putI (k' := 0) q_X2_init_11 fl_X2_15 (Or.inr ⟨rfl, _, _, rfl⟩) bA (cref0 (by omega) _) rfl rfl rfl rfl ?_
  refine e_aload_n q_X2_init_14 (by decide) rfl ?_
  refine e_aload_n q_X2_init_15 (by decide) rfl ?_
  refine i_putR (k' := 1) q_X2_init_16 fl_X2_18 (Or.inr ⟨rfl, _, _, rfl⟩) bA (cref0 (by omega) _) rfl rfl hr rfl rfl ?_
  refine e_return q_X2_init_19 rfl ?_
  exact h
set_option maxRecDepth 20000 in
set_option maxHeartbeats 2000000 in
theorem x_init8N {b : Nat} (b88 : 88 ≤ b) (bA : zA s b (8, 0)) {g d : Int} (h : Q none (zI s (mup (mup (mup (mup N b 3 (-1)) b 0 g) b 1 d) b 2 0))) : zC X m_X8_init [.ref b, vi g, vi d, .null] (zI s N) Q := by
  show zE X m_X8_init 0 [.ref b, vi g, vi d, .null] [] _ Q
  refine e_aload_n q_X8_init_0 (by decide) rfl ?_
  refine e_objInit q_X8_init_1 lk_X8_3 ob_inst ob_code (by decide) (by decide) ?_
  refine e_aload_n q_X8_init_4 (by decide) rfl ?_
  refine e_iconst q_X8_init_5 ?_
  refine i_putI (k' := 3) q_X8_init_6 fl_X8_9 (Or.inr ⟨rfl, _, _, rfl⟩) bA (cref0 (by omega) _) rfl rfl rfl rfl ?_
  refine e_aload_n q_X8_init_9 (by decide) rfl ?_
  refine e_iload_n q_X8_init_10 (by decide) rfl ?_
  refine i_putI (k' := 0) q_X8_init_11 fl_X8_15 (Or.inr ⟨rfl, _, _, rfl⟩) bA (cref0 (by omega) _) rfl rfl rfl rfl ?_
  refine e_aload_n q_X8_init_14 (by decide) rfl ?_
  refine e_iload_n q_X8_init_15 (by decide) rfl ?_
  refine i_putI (k' := 1) q_X8_init_16 fl_X8_18 (Or.inr ⟨rfl, _, _, rfl⟩) bA (cref0 (by omega) _) rfl rfl rfl rfl ?_
  refine e_aload_n q_X8_init_19 (by decide) rfl ?_
  refine e_aload_nN q_X8_init_20 (by decide) rfl ?_
  refine i_putN (k' := 2) q_X8_init_21 fl_X8_21 (Or.inr ⟨rfl, _, _, rfl⟩) bA (cref0 (by omega) _) rfl rfl rfl rfl ?_
  refine e_return q_X8_init_24 rfl ?_
  exact h
set_option maxRecDepth 20000 in
set_option maxHeartbeats 2000000 in
theorem x_init8R {b : Nat} (b88 : 88 ≤ b) (bA : zA s b (8, 0)) {g d : Int} {r : Nat} (hr : r ≠ 0) (h : Q none (zI s (mup (mup (mup (mup N b 3 (-1)) b 0 g) b 1 d) b 2 r))) : zC X m_X8_init [.ref b, vi g, vi d, .ref r] (zI s N) Q := by
  show zE X m_X8_init 0 [.ref b, vi g, vi d, .ref r] [] _ Q
  refine e_aload_n q_X8_init_0 (by decide) rfl ?_
  refine e_objInit q_X8_init_1 lk_X8_3 ob_inst ob_code (by decide) (by decide) ?_
  refine e_aload_n q_X8_init_4 (by decide) rfl ?_
  refine e_iconst q_X8_init_5 ?_
  refine i_putI (k' := 3) q_X8_init_6 fl_X8_9 (Or.inr ⟨rfl, _, _, rfl⟩) bA (cref0 (by omega) _) rfl rfl rfl rfl ?_
  refine e_aload_n q_X8_init_9 (by decide) rfl ?_
  refine e_iload_n q_X8_init_10 (by decide) rfl ?_
  refine i_putI (k' := 0) q_X8_init_11 fl_X8_15 (Or.inr ⟨rfl, _, _, rfl⟩) bA (cref0 (by omega) _) rfl rfl rfl rfl ?_
  refine e_aload_n q_X8_init_14 (by decide) rfl ?_
  refine e_iload_n q_X8_init_15 (by decide) rfl ?_
  refine i_putI (k' := 1) q_X8_init_16 fl_X8_18 (Or.inr ⟨rfl, _, _, rfl⟩) bA (cref0 (by omega) _) rfl rfl rfl rfl ?_
  refine e_aload_n q_X8_init_19 (by decide) rfl ?_
  refine e_aload_n q_X8_init_20 (by decide) rfl ?_
  refine i_putR (k' := 2) q_X8_init_21 fl_X8_21 (Or.inr ⟨rfl, _, _, rfl⟩) bA (cref0 (by omega) _) rfl rfl hr rfl rfl ?_
  refine e_return q_X8_init_24 rfl ?_
  exact h
set_option maxRecDepth 20000 in
set_option maxHeartbeats 2000000 in
theorem x_init9 {b : Nat} (b88 : 88 ≤ b) (bA : zA s b (9, 0)) {w g x y : Int} (h : Q none (zI s (mup (mup (mup (mup N b 0 w) b 1 g) b 2 x) b 3 y))) : zC X m_X9_init [.ref b, vi w, vi g, vi x, vi y] (zI s N) Q := by
  show zE X m_X9_init 0 [.ref b, vi w, vi g, vi x, vi y] [] _ Q
  refine e_aload_n q_X9_init_0 (by decide) rfl ?_
  refine e_objInit q_X9_init_1 lk_X9_1 ob_inst ob_code (by decide) (by decide) ?_
  refine e_aload_n q_X9_init_4 (by decide) rfl ?_
  refine e_iload_n q_X9_init_5 (by decide) rfl ?_
  refine i_putI (k' := 0) q_X9_init_6 fl_X9_7 (Or.inr ⟨rfl, _, _, rfl⟩) bA (cref0 (by omega) _) rfl rfl rfl rfl ?_
  refine e_aload_n q_X9_init_9 (by decide) rfl ?_
  refine e_iload_n q_X9_init_10 (by decide) rfl ?_
  refine i_putI (k' := 1) q_X9_init_11 fl_X9_13 (Or.inr ⟨rfl, _, _, rfl⟩) bA (cref0 (by omega) _) rfl rfl rfl rfl ?_
  refine e_aload_n q_X9_init_14 (by decide) rfl ?_
  refine e_iload_n q_X9_init_15 (by decide) rfl ?_
  refine i_putI (k' := 2) q_X9_init_16 fl_X9_16 (Or.inr ⟨rfl, _, _, rfl⟩) bA (cref0 (by omega) _) rfl rfl rfl rfl ?_
  refine e_aload_n q_X9_init_19 (by decide) rfl ?_
  refine e_iload q_X9_init_20 (by decide) rfl ?_
  refine i_putI (k' := 3) q_X9_init_22 fl_X9_19 (Or.inr ⟨rfl, _, _, rfl⟩) bA (cref0 (by omega) _) rfl rfl rfl rfl ?_
  refine e_return q_X9_init_25 rfl ?_
  exact h
set_option maxRecDepth 20000 in
set_option maxHeartbeats 2000000 in
theorem x_person (hI : xI s N fa sa){k b n h p f : Int} (hk : zr k) (hb : zr b) (hn : zr n) (hh : zr h) (hp : p = 0 ∨ p = 1) (hf : zr f) (h1 : ¬ ((0 ≤ k ∧ k ≤ 3) ∧ (-9999 ≤ b ∧ b ≤ 9999) ∧ (0 ≤ n ∧ n ≤ 39) ∧ (0 ≤ h ∧ h < N 39 0) ∧ (f = -1 ∨ (0 ≤ f ∧ f < N 39 2 ∧ N 41 f ≠ 3 ∧ N 42 f ≤ b - 1200))) → Q (some (vi (-1))) (zI s N)) (h2 : ((0 ≤ k ∧ k ≤ 3) ∧ (-9999 ≤ b ∧ b ≤ 9999) ∧ (0 ≤ n ∧ n ≤ 39) ∧ (0 ≤ h ∧ h < N 39 0) ∧ (f = -1 ∨ (0 ≤ f ∧ f < N 39 2 ∧ N 41 f ≠ 3 ∧ N 42 f ≤ b - 1200))) → N 39 2 = 48 → Q (some (vi (-3))) (zI s N)) (h3 : ((0 ≤ k ∧ k ≤ 3) ∧ (-9999 ≤ b ∧ b ≤ 9999) ∧ (0 ≤ n ∧ n ≤ 39) ∧ (0 ≤ h ∧ h < N 39 0) ∧ (f = -1 ∨ (0 ≤ f ∧ f < N 39 2 ∧ N 41 f ≠ 3 ∧ N 42 f ≤ b - 1200))) → N 39 2 < 48 → Q (some (vi (N 39 2))) (zI (z_ns s (4, 0) 10) (xn_person N s.1.1 k b n h p f))) : zC X m_X11_person [.ref 3, vi k, vi b, vi n, vi h, vi p, vi f] (zI s N) Q := by
  have hB := hI.B
  have hR := hI.R
  have hC := hI.C
  unfold mCnt at hC
  have hm := hI.m
  obtain ⟨e1, e5, e7, e8, e10, e11, e3, e12, eh, eg, ef, et⟩ := hI.hs
  have n88 := hI.B.1
  have hz := hI.2.1.2
  show zE X m_X11_person 0 [.ref 3, vi k, vi b, vi n, vi h, vi p, vi f] [] _ Q
  refine e_iload_n q_X11_person_0 (by decide) rfl ?_
  refine e_if_lt q_X11_person_1 hk (fun c1 => ?_) (fun c1 => ?_)
  · skip
    refine e_iconst q_X11_person_23 ?_
    refine e_ireturn q_X11_person_24 rfl rfl ?_
    exact h1 (fun q => by first | exact c29 q.2.2.1 | exact c38 q.2.2.2.1 | exact c48 q.2.2.2.2 | (obtain ⟨q1, q2, -⟩ := q; omega))
  · skip
    refine e_iload_n q_X11_person_4 (by decide) rfl ?_
    refine e_iconst q_X11_person_5 ?_
    refine e_icmp_gt q_X11_person_6 hk (by constructor <;> omega) (fun c6 => ?_) (fun c6 => ?_)
    · skip
      refine e_iconst q_X11_person_23 ?_
      refine e_ireturn q_X11_person_24 rfl rfl ?_
      exact h1 (fun q => by first | exact c29 q.2.2.1 | exact c38 q.2.2.2.1 | exact c48 q.2.2.2.2 | (obtain ⟨q1, q2, -⟩ := q; omega))
    · skip
      refine e_iload_n q_X11_person_9 (by decide) rfl ?_
      refine e_sipush q_X11_person_10 (by decide) ?_
      refine e_icmp_lt q_X11_person_13 hb (by constructor <;> omega) (fun c13 => ?_) (fun c13 => ?_)
      · skip
        refine e_iconst q_X11_person_23 ?_
        refine e_ireturn q_X11_person_24 rfl rfl ?_
        exact h1 (fun q => by first | exact c29 q.2.2.1 | exact c38 q.2.2.2.1 | exact c48 q.2.2.2.2 | (obtain ⟨q1, q2, -⟩ := q; omega))
      · skip
        refine e_iload_n q_X11_person_16 (by decide) rfl ?_
        refine e_sipush q_X11_person_17 (by decide) ?_
        refine e_icmp_le q_X11_person_20 hb (by constructor <;> omega) (fun c20 => ?_) (fun c20 => ?_)
        · skip
          refine e_iload_n q_X11_person_25 (by decide) rfl ?_
          refine iv_X11_isName q_X11_person_26 lk_X11_97 (by decide) (Nat.le_of_ble_eq_true rfl) ?_
          refine x_isName hn ?_
          refine e_ifb_eq q_X11_person_29 (fun c29 => ?_) (fun c29 => ?_)
          · skip
            refine e_iconst q_X11_person_51 ?_
            refine e_ireturn q_X11_person_52 rfl rfl ?_
            exact h1 (fun q => by first | exact c29 q.2.2.1 | exact c38 q.2.2.2.1 | exact c48 q.2.2.2.2 | (obtain ⟨q1, q2, -⟩ := q; omega))
          · skip
            refine e_aload_n q_X11_person_32 (by decide) rfl ?_
            refine e_iload q_X11_person_33 (by decide) rfl ?_
            refine iv_X11_isHouse q_X11_person_35 lk_X11_100 (by decide) (a3 hB) (Nat.le_of_ble_eq_true rfl) ?_
            refine x_isHouse hI hh ?_
            refine e_ifb_eq q_X11_person_38 (fun c38 => ?_) (fun c38 => ?_)
            · skip
              refine e_iconst q_X11_person_51 ?_
              refine e_ireturn q_X11_person_52 rfl rfl ?_
              exact h1 (fun q => by first | exact c29 q.2.2.1 | exact c38 q.2.2.2.1 | exact c48 q.2.2.2.2 | (obtain ⟨q1, q2, -⟩ := q; omega))
            · skip
              refine e_aload_n q_X11_person_41 (by decide) rfl ?_
              refine e_iload q_X11_person_42 (by decide) rfl ?_
              refine e_iload_n q_X11_person_44 (by decide) rfl ?_
              refine iv_X11_mayBeFather q_X11_person_45 lk_X11_103 (by decide) (a3 hB) (Nat.le_of_ble_eq_true rfl) ?_
              refine x_mayBeFather hI hf (by omega) ?_
              refine e_ifb_ne q_X11_person_48 (fun c48 => ?_) (fun c48 => ?_)
              · skip
                refine e_aload_n q_X11_person_53 (by decide) rfl ?_
                refine i_getI (k' := 3) q_X11_person_54 fl_X11_107 (a3 hB) rfl rfl rfl e3 ?_
                refine e_bipush q_X11_person_57 (by decide) ?_
                refine e_icmp_lt q_X11_person_59 (by first | exact hR _ _ | (constructor <;> omega) | assumption) (by first | exact hR _ _ | (constructor <;> omega) | assumption) (fun c59 => ?_) (fun c59 => ?_)
                · skip
                  refine e_aload_n q_X11_person_65 (by decide) rfl ?_
                  refine i_getC (r := 5) q_X11_person_66 fl_X11_15 (a3 hB) rfl (by decide) ?_
                  refine e_aload_n q_X11_person_69 (by decide) rfl ?_
                  refine i_getI (k' := 3) q_X11_person_70 fl_X11_107 (a3 hB) rfl rfl rfl e3 ?_
                  refine i_new q_X11_person_73 kd_4 cl_X11_13 inst_4 ini_X4 (by omega) (fun j => hz _ (Nat.le_refl _) j) df_4 ?_
                  have nA := zA_new (s := s) (sp := (4, 0)) (sl := 10) (by omega)
                  have hB := hB.k (sK.ns (sp := (4, 0)) (sl := 10))
                  refine e_dup q_X11_person_76 rfl ?_
                  refine e_iload_n q_X11_person_77 (by decide) rfl ?_
                  refine e_iload_n q_X11_person_78 (by decide) rfl ?_
                  refine e_iload_n q_X11_person_79 (by decide) rfl ?_
                  refine e_iload q_X11_person_80 (by decide) rfl ?_
                  refine e_iload q_X11_person_82 (by decide) rfl ?_
                  refine e_iload q_X11_person_84 (by decide) rfl ?_
                  refine iv_X4_init q_X11_person_86 lk_X11_110 (by decide) (Nat.le_of_ble_eq_true rfl) ?_
                  refine x_init4 n88 nA hp ?_
                  refine i_aast q_X11_person_89 (a5 hB) (by decide) nA kd_4 rfl (fun _ => rfl) (by omega) (by omega) (by decide) ?_
                  refine e_aload_n q_X11_person_90 (by decide) rfl ?_
                  refine e_dup q_X11_person_91 rfl ?_
                  refine i_getI (k' := 3) q_X11_person_92 fl_X11_107 (a3 hB) rfl rfl rfl ((mup_cell (by omega)).trans ((mup_cell (by omega)).trans ((mup_cell (by omega)).trans ((mup_cell (by omega)).trans ((mup_cell (by omega)).trans ((mup_cell (by omega)).trans ((mup_cell (by omega)).trans ((mup_cell (by omega)).trans ((mup_cell (by omega)).trans e3))))))))) ?_
                  refine e_iconst q_X11_person_95 ?_
                  refine e_iadd q_X11_person_96 ?_
                  refine i_putI (k' := 3) q_X11_person_97 fl_X11_107 (Or.inl rfl) (a3 hB) rfl rfl rfl rfl rfl ?_
                  refine e_aload_n q_X11_person_100 (by decide) rfl ?_
                  refine i_getI (k' := 3) q_X11_person_101 fl_X11_107 (a3 hB) rfl rfl rfl (mup_self _ _ _ _) ?_
                  refine e_iconst q_X11_person_104 ?_
                  refine e_isub q_X11_person_105 ?_
                  refine e_ireturn q_X11_person_106 rfl rfl ?_
                  exact zqI (h3 ⟨⟨by omega, by omega⟩, ⟨by omega, by omega⟩, c29, c38, c48⟩ (by omega)) (by omega)
                · skip
                  refine e_bipush q_X11_person_62 (by decide) ?_
                  refine e_ireturn q_X11_person_64 rfl rfl ?_
                  exact h2 ⟨⟨by omega, by omega⟩, ⟨by omega, by omega⟩, c29, c38, c48⟩ (by omega)
              · skip
                refine e_iconst q_X11_person_51 ?_
                refine e_ireturn q_X11_person_52 rfl rfl ?_
                exact h1 (fun q => by first | exact c29 q.2.2.1 | exact c38 q.2.2.2.1 | exact c48 q.2.2.2.2 | (obtain ⟨q1, q2, -⟩ := q; omega))
        · skip
          refine e_iconst q_X11_person_23 ?_
          refine e_ireturn q_X11_person_24 rfl rfl ?_
          exact h1 (fun q => by first | exact c29 q.2.2.1 | exact c38 q.2.2.2.1 | exact c48 q.2.2.2.2 | (obtain ⟨q1, q2, -⟩ := q; omega))
theorem behind_l {w d : Int} (hd : 0 ≤ d) : behind N w d ↔ N 42 w ≤ d ∧ lmove N w < d := by
  unfold behind lmove
  by_cases h : lastF N w < 0
  · rw [if_pos h]
    constructor
    · intro q; exact ⟨q.1, by omega⟩
    · intro q; exact ⟨q.1, Or.inl h⟩
  · rw [if_neg h]
    constructor
    · intro q
      rcases q.2 with q1 | q1
      · exact absurd q1 h
      · exact ⟨q.1, q1⟩
    · intro q; exact ⟨q.1, Or.inr q.2⟩
theorem lmove_r (hm : mI N) (w : Int) : -1 ≤ lmove N w ∧ lmove N w ≤ 9999 := by
  have hC := hm.2.1
  unfold mCnt at hC
  have hb := lastF_b N w
  unfold lmove
  by_cases h : lastF N w < 0
  · rw [if_pos h]; omega
  · rw [if_neg h]
    have := hm.2.2.2.1 (lastF N w) (by omega) (by omega)
    by_cases h2 : N 50 (lastF N w) = 100000
    · rw [if_pos h2]; omega
    · rw [if_neg h2]; omega
set_option maxRecDepth 20000 in
set_option maxHeartbeats 2000000 in
theorem x_flees (hI : xI s N fa sa){w : Int} (hw : zr w){d : Int} (hd : zr d)(hk : N 3 19 < 600) (h1 : ¬ ((0 ≤ w ∧ w < N 39 2) ∧ (0 ≤ d ∧ d ≤ 9999)) → Q (some (vi (-1))) (zI s N)) (h2 : ((0 ≤ w ∧ w < N 39 2) ∧ (0 ≤ d ∧ d ≤ 9999)) → ¬ (N 47 w = 100000 ∧ ¬ away N w ∧ behind N w d) → Q (some (vi (-2))) (zI s N)) (h4 : ∀ a : Nat, ((0 ≤ w ∧ w < N 39 2) ∧ (0 ≤ d ∧ d ≤ 9999)) → N 47 w = 100000 ∧ ¬ away N w ∧ behind N w d → xPer s N fa sa w a → Q (some (vi 1)) (zI (z_ns s (2, 0) 3) (xn_flees N a s.1.1 d))) : zC X m_X11_flees [.ref 3, vi w, vi d] (zI s N) Q := by
  have hB := hI.B
  have hR := hI.R
  have hC := hI.C
  unfold mCnt at hC
  have hm := hI.m
  obtain ⟨e1, e5, e7, e8, e10, e11, e3, e12, eh, eg, ef, et⟩ := hI.hs
  have n88 := hI.B.1
  have hz := hI.2.1.2
  show zE X m_X11_flees 0 [.ref 3, vi w, vi d, zU] [] _ Q
  refine e_aload_n q_X11_flees_0 (by decide) rfl ?_
  refine e_iload_n q_X11_flees_1 (by decide) rfl ?_
  refine iv_X11_personAt q_X11_flees_2 lk_X11_113 (by decide) (a3 hB) (Nat.le_of_ble_eq_true rfl) ?_
  refine x_personAt hI hw (fun hw1 => ?_) (fun a hw1 hp => ?_)
  · skip
    refine e_astore_nN (ls' := [_, _, _, _]) q_X11_flees_5 (by decide) rfl rfl ?_
    refine e_aload_nN q_X11_flees_6 (by decide) rfl ?_
    refine e_ifnullN q_X11_flees_7 ?_
    refine e_iconst q_X11_flees_17 ?_
    refine e_ireturn q_X11_flees_18 rfl rfl ?_
    exact h1 (fun q => by first | exact hw1 q.1 | exact c14 q.2)
  · skip
    obtain ⟨p88, pA, p5, p0, p1, p2, p3, p4, p5f, p6, p7, p8, p9⟩ := id hp
    refine e_astore_n (ls' := [_, _, _, _]) q_X11_flees_5 (by decide) rfl rfl ?_
    refine e_aload_n q_X11_flees_6 (by decide) rfl ?_
    refine e_ifnull q_X11_flees_7 ?_
    refine e_iload_n q_X11_flees_10 (by decide) rfl ?_
    refine iv_X11_isDay q_X11_flees_11 lk_X11_140 (by decide) (Nat.le_of_ble_eq_true rfl) ?_
    refine x_isDay hd ?_
    refine e_ifb_ne q_X11_flees_14 (fun c14 => ?_) (fun c14 => ?_)
    · skip
      refine e_aload_n q_X11_flees_19 (by decide) rfl ?_
      refine iv_X4_isDead q_X11_flees_20 lk_X11_133 (by decide) pA (Nat.le_of_ble_eq_true rfl) ?_
      refine x_isDead hI hw1.1 hw1.2 hp ?_
      refine e_ifb_ne q_X11_flees_23 (fun c23 => ?_) (fun c23 => ?_)
      · skip
        refine e_bipush q_X11_flees_49 (by decide) ?_
        refine e_ireturn q_X11_flees_51 rfl rfl ?_
        exact h2 ⟨hw1, c14⟩ (fun q => by have q3 := (behind_l c14.1).mp q.2.2; first | (have q1 := q.1; omega) | exact q.2.1 c30 | omega)
      · skip
        refine e_aload_n q_X11_flees_26 (by decide) rfl ?_
        refine iv_X4_isAway q_X11_flees_27 lk_X11_161 (by decide) pA (Nat.le_of_ble_eq_true rfl) ?_
        refine x_isAway hI hw1.1 hw1.2 hp ?_
        refine e_ifb_ne q_X11_flees_30 (fun c30 => ?_) (fun c30 => ?_)
        · skip
          refine e_bipush q_X11_flees_49 (by decide) ?_
          refine e_ireturn q_X11_flees_51 rfl rfl ?_
          exact h2 ⟨hw1, c14⟩ (fun q => by have q3 := (behind_l c14.1).mp q.2.2; first | (have q1 := q.1; omega) | exact q.2.1 c30 | omega)
        · skip
          refine e_iload_n q_X11_flees_33 (by decide) rfl ?_
          refine e_aload_n q_X11_flees_34 (by decide) rfl ?_
          refine iv_X4_latestMove q_X11_flees_35 lk_X11_150 (by decide) pA (Nat.le_of_ble_eq_true rfl) ?_
          refine x_latestMove hI hw1.1 hw1.2 hp ?_
          have hlm := lmove_r hm w
          refine e_icmp_le q_X11_flees_38 hd (by constructor <;> omega) (fun c38 => ?_) (fun c38 => ?_)
          · skip
            refine e_bipush q_X11_flees_49 (by decide) ?_
            refine e_ireturn q_X11_flees_51 rfl rfl ?_
            exact h2 ⟨hw1, c14⟩ (fun q => by have q3 := (behind_l c14.1).mp q.2.2; first | (have q1 := q.1; omega) | exact q.2.1 c30 | omega)
          · skip
            refine e_iload_n q_X11_flees_41 (by decide) rfl ?_
            refine e_aload_n q_X11_flees_42 (by decide) rfl ?_
            refine i_getI (k' := 1) q_X11_flees_43 fl_X11_143 pA (cref0 (by omega) _) rfl rfl p1 ?_
            refine e_icmp_ge q_X11_flees_46 (by first | exact hR _ _ | (constructor <;> omega) | assumption) (by first | exact hR _ _ | (constructor <;> omega) | assumption) (fun c46 => ?_) (fun c46 => ?_)
            · skip
              have hlb := lastF_b N w
              refine e_aload_n q_X11_flees_52 (by decide) rfl ?_
              refine i_getI (k' := 19) q_X11_flees_53 fl_X11_164 (a3 hB) rfl rfl rfl rfl ?_
              refine e_sipush q_X11_flees_56 (by decide) ?_
              refine e_icmp_lt q_X11_flees_59 (by first | exact hR _ _ | (constructor <;> omega) | assumption) (by first | exact hR _ _ | (constructor <;> omega) | assumption) (fun c59 => ?_) (fun c59 => ?_)
              · skip
                by_cases hl : lastF N w < 0
                · skip
                  refine e_aload_n q_X11_flees_65 (by decide) rfl ?_
                  refine e_dup q_X11_flees_66 rfl ?_
                  refine i_getI (k' := 19) q_X11_flees_67 fl_X11_164 (a3 hB) rfl rfl rfl rfl ?_
                  refine e_iconst q_X11_flees_70 ?_
                  refine e_iadd q_X11_flees_71 ?_
                  refine i_putI (k' := 19) q_X11_flees_72 fl_X11_164 (Or.inl rfl) (a3 hB) rfl rfl rfl rfl rfl ?_
                  refine e_aload_n q_X11_flees_75 (by decide) rfl ?_
                  refine i_new q_X11_flees_76 kd_2 cl_X11_167 inst_2 ini_X2 (by omega) (fun j => (mup_cell (by omega)).trans (hz _ (Nat.le_refl _) j)) df_2 ?_
                  have nA := zA_new (s := s) (sp := (2, 0)) (sl := 3) (by omega)
                  have hB := hB.k (sK.ns (sp := (2, 0)) (sl := 3))
                  have pA := (sK.ns (sp := (2, 0)) (sl := 3)).A pA
                  refine e_dup q_X11_flees_79 rfl ?_
                  refine e_iload_n q_X11_flees_80 (by decide) rfl ?_
                  refine e_aload_n q_X11_flees_81 (by decide) rfl ?_
                  refine i_getN (k' := 8) q_X11_flees_82 fl_X11_169 pA (cref0 (by omega) _) rfl rfl (by rw [mup_cell (by omega), p8, orZ_n hl]; omega) ?_
                  refine iv_X2_init rfl q_X11_flees_85 lk_X11_173 (by decide) (Nat.le_of_ble_eq_true rfl) ?_
                  refine x_init2N n88 nA ?_
                  refine i_putR (k' := 8) q_X11_flees_88 fl_X11_169 (Or.inl rfl) pA (cref0 (by omega) _) rfl rfl (by omega) rfl rfl ?_
                  refine e_iconst q_X11_flees_91 ?_
                  refine e_ireturn q_X11_flees_92 rfl rfl ?_
                  have e : N a 8 = 0 := by rw [p8, orZ_n hl]
                  have h4 := h4 a ⟨hw1, c14⟩ ⟨by omega, c30, (behind_l c14.1).mpr ⟨by omega, by omega⟩⟩ hp
                  unfold xn_flees at h4
                  rw [e] at h4
                  exact h4
                · skip
                  refine e_aload_n q_X11_flees_65 (by decide) rfl ?_
                  refine e_dup q_X11_flees_66 rfl ?_
                  refine i_getI (k' := 19) q_X11_flees_67 fl_X11_164 (a3 hB) rfl rfl rfl rfl ?_
                  refine e_iconst q_X11_flees_70 ?_
                  refine e_iadd q_X11_flees_71 ?_
                  refine i_putI (k' := 19) q_X11_flees_72 fl_X11_164 (Or.inl rfl) (a3 hB) rfl rfl rfl rfl rfl ?_
                  refine e_aload_n q_X11_flees_75 (by decide) rfl ?_
                  refine i_new q_X11_flees_76 kd_2 cl_X11_167 inst_2 ini_X2 (by omega) (fun j => (mup_cell (by omega)).trans (hz _ (Nat.le_refl _) j)) df_2 ?_
                  have nA := zA_new (s := s) (sp := (2, 0)) (sl := 3) (by omega)
                  have hB := hB.k (sK.ns (sp := (2, 0)) (sl := 3))
                  have pA := (sK.ns (sp := (2, 0)) (sl := 3)).A pA
                  refine e_dup q_X11_flees_79 rfl ?_
                  refine e_iload_n q_X11_flees_80 (by decide) rfl ?_
                  refine e_aload_n q_X11_flees_81 (by decide) rfl ?_
                  obtain ⟨b, hb⟩ := hI.fs.1 (lastF N w) (by omega) (by omega)
                  obtain ⟨b88, bA, bf, b0, b1, b2⟩ := hb
                  have p8b : N a 8 = (b : Int) := by rw [p8, orZ_p (by omega)]; exact bf
                  refine i_getR (k' := 8) q_X11_flees_82 fl_X11_169 pA (cref0 (by omega) _) rfl rfl ((mup_cell (by omega)).trans p8b) (by omega) ?_
                  refine iv_X2_init rfl q_X11_flees_85 lk_X11_173 (by decide) (Nat.le_of_ble_eq_true rfl) ?_
                  refine x_init2R n88 nA (by omega) ?_
                  refine i_putR (k' := 8) q_X11_flees_88 fl_X11_169 (Or.inl rfl) pA (cref0 (by omega) _) rfl rfl (by omega) rfl rfl ?_
                  refine e_iconst q_X11_flees_91 ?_
                  refine e_ireturn q_X11_flees_92 rfl rfl ?_
                  have h4 := h4 a ⟨hw1, c14⟩ ⟨by omega, c30, (behind_l c14.1).mpr ⟨by omega, by omega⟩⟩ hp
                  unfold xn_flees at h4
                  rw [p8b] at h4
                  exact h4
              · skip
                refine e_bipush q_X11_flees_62 (by decide) ?_
                refine e_ireturn q_X11_flees_64 rfl rfl ?_
                exact absurd c59 (by omega)
            · skip
              refine e_bipush q_X11_flees_49 (by decide) ?_
              refine e_ireturn q_X11_flees_51 rfl rfl ?_
              exact h2 ⟨hw1, c14⟩ (fun q => by have q3 := (behind_l c14.1).mp q.2.2; first | (have q1 := q.1; omega) | exact q.2.1 c30 | omega)
    · skip
      refine e_iconst q_X11_flees_17 ?_
      refine e_ireturn q_X11_flees_18 rfl rfl ?_
      exact h1 (fun q => by first | exact hw1 q.1 | exact c14 q.2)
set_option maxRecDepth 20000 in
set_option maxHeartbeats 2000000 in
theorem x_back (hI : xI s N fa sa)(hbf : ∀ k : Int, 0 ≤ k → k < N 39 10 → N 42 (N 48 k) ≤ N 49 k){w : Int} (hw : zr w){d : Int} (hd : zr d)(h1 : ¬ ((0 ≤ w ∧ w < N 39 2) ∧ (0 ≤ d ∧ d ≤ 9999)) → Q (some (vi (-1))) (zI s N)) (h2 : ((0 ≤ w ∧ w < N 39 2) ∧ (0 ≤ d ∧ d ≤ 9999)) → ¬ (N 47 w = 100000 ∧ away N w ∧ behind N w d) → Q (some (vi (-2))) (zI s N)) (h3 : ∀ b : Nat, ((0 ≤ w ∧ w < N 39 2) ∧ (0 ≤ d ∧ d ≤ 9999)) → N 47 w = 100000 ∧ away N w ∧ behind N w d → xFlt s N fa (lastF N w) b → Q (some (vi (d - N 49 (lastF N w)))) (zI s (mup N b 2 d))) : zC X m_X11_back [.ref 3, vi w, vi d] (zI s N) Q := by
  have hB := hI.B
  have hR := hI.R
  have hC := hI.C
  unfold mCnt at hC
  have hm := hI.m
  obtain ⟨e1, e5, e7, e8, e10, e11, e3, e12, eh, eg, ef, et⟩ := hI.hs
  show zE X m_X11_back 0 [.ref 3, vi w, vi d, zU, zU] [] _ Q
  refine e_aload_n q_X11_back_0 (by decide) rfl ?_
  refine e_iload_n q_X11_back_1 (by decide) rfl ?_
  refine iv_X11_personAt q_X11_back_2 lk_X11_113 (by decide) (a3 hB) (Nat.le_of_ble_eq_true rfl) ?_
  refine x_personAt hI hw (fun hw1 => ?_) (fun a hw1 hp => ?_)
  · skip
    refine e_astore_nN (ls' := [_, _, _, _, _]) q_X11_back_5 (by decide) rfl rfl ?_
    refine e_aload_nN q_X11_back_6 (by decide) rfl ?_
    refine e_ifnullN q_X11_back_7 ?_
    refine e_iconst q_X11_back_17 ?_
    refine e_ireturn q_X11_back_18 rfl rfl ?_
    exact h1 (fun q => by first | exact hw1 q.1 | exact c14 q.2)
  · skip
    obtain ⟨p88, pA, p5, p0, p1, p2, p3, p4, p5f, p6, p7, p8, p9⟩ := id hp
    refine e_astore_n (ls' := [_, _, _, _, _]) q_X11_back_5 (by decide) rfl rfl ?_
    refine e_aload_n q_X11_back_6 (by decide) rfl ?_
    refine e_ifnull q_X11_back_7 ?_
    refine e_iload_n q_X11_back_10 (by decide) rfl ?_
    refine iv_X11_isDay q_X11_back_11 lk_X11_140 (by decide) (Nat.le_of_ble_eq_true rfl) ?_
    refine x_isDay hd ?_
    refine e_ifb_ne q_X11_back_14 (fun c14 => ?_) (fun c14 => ?_)
    · skip
      have hlb := lastF_b N w
      by_cases hl : lastF N w < 0
      · skip
        refine e_aload_n q_X11_back_19 (by decide) rfl ?_
        refine i_getN (k' := 8) q_X11_back_20 fl_X11_169 pA (cref0 (by omega) _) rfl rfl (by rw [p8, orZ_n hl]; omega) ?_
        refine e_astoreN (ls' := [_, _, _, _, _]) q_X11_back_23 (by decide) rfl rfl ?_
        refine e_aloadN q_X11_back_25 (by decide) rfl ?_
        refine e_ifnullN q_X11_back_27 ?_
        refine e_bipush q_X11_back_53 (by decide) ?_
        refine e_ireturn q_X11_back_55 rfl rfl ?_
        exact h2 ⟨hw1, c14⟩ (fun q => by have q3 := (behind_l c14.1).mp q.2.2; have q4 := q.2.1; unfold away at q4; unfold lmove at q3; first | omega | (have q1 := q.1; omega) | exact c34 q4 | (rw [if_neg (by omega), if_pos q4.2] at q3; omega))
      · skip
        refine e_aload_n q_X11_back_19 (by decide) rfl ?_
        obtain ⟨b, hb⟩ := hI.fs.1 (lastF N w) (by omega) (by omega)
        obtain ⟨b88, bA, bf, b0, b1, b2⟩ := hb
        have p8b : N a 8 = (b : Int) := by rw [p8, orZ_p (by omega)]; exact bf
        have hfl := hm.2.2.2.1 (lastF N w) (by omega) (by omega)
        refine i_getR (k' := 8) q_X11_back_20 fl_X11_169 pA (cref0 (by omega) _) rfl rfl p8b (by omega) ?_
        refine e_astore (ls' := [_, _, _, _, _]) q_X11_back_23 (by decide) rfl rfl ?_
        refine e_aload q_X11_back_25 (by decide) rfl ?_
        refine e_ifnull q_X11_back_27 ?_
        refine e_aload_n q_X11_back_30 (by decide) rfl ?_
        refine iv_X4_isAway q_X11_back_31 lk_X11_161 (by decide) pA (Nat.le_of_ble_eq_true rfl) ?_
        refine x_isAway hI hw1.1 hw1.2 hp ?_
        refine e_ifb_eq q_X11_back_34 (fun c34 => ?_) (fun c34 => ?_)
        · skip
          refine e_bipush q_X11_back_53 (by decide) ?_
          refine e_ireturn q_X11_back_55 rfl rfl ?_
          exact h2 ⟨hw1, c14⟩ (fun q => by have q3 := (behind_l c14.1).mp q.2.2; have q4 := q.2.1; unfold away at q4; unfold lmove at q3; first | omega | (have q1 := q.1; omega) | exact c34 q4 | (rw [if_neg (by omega), if_pos q4.2] at q3; omega))
        · skip
          refine e_aload_n q_X11_back_37 (by decide) rfl ?_
          refine iv_X4_isDead q_X11_back_38 lk_X11_133 (by decide) pA (Nat.le_of_ble_eq_true rfl) ?_
          refine x_isDead hI hw1.1 hw1.2 hp ?_
          refine e_ifb_ne q_X11_back_41 (fun c41 => ?_) (fun c41 => ?_)
          · skip
            refine e_bipush q_X11_back_53 (by decide) ?_
            refine e_ireturn q_X11_back_55 rfl rfl ?_
            exact h2 ⟨hw1, c14⟩ (fun q => by have q3 := (behind_l c14.1).mp q.2.2; have q4 := q.2.1; unfold away at q4; unfold lmove at q3; first | omega | (have q1 := q.1; omega) | exact c34 q4 | (rw [if_neg (by omega), if_pos q4.2] at q3; omega))
          · skip
            refine e_iload_n q_X11_back_44 (by decide) rfl ?_
            refine e_aload q_X11_back_45 (by decide) rfl ?_
            refine i_getI (k' := 0) q_X11_back_47 fl_X11_176 bA (cref0 (by omega) _) rfl rfl b0 ?_
            refine e_icmp_gt q_X11_back_50 hd (by first | exact hR _ _ | (constructor <;> omega) | assumption) (fun c50 => ?_) (fun c50 => ?_)
            · skip
              refine e_aload q_X11_back_56 (by decide) rfl ?_
              refine e_iload_n q_X11_back_58 (by decide) rfl ?_
              refine i_putI (k' := 2) q_X11_back_59 fl_X11_179 (Or.inl rfl) bA (cref0 (by omega) _) rfl rfl rfl rfl ?_
              refine e_iload_n q_X11_back_62 (by decide) rfl ?_
              refine e_aload q_X11_back_63 (by decide) rfl ?_
              refine i_getI (k' := 0) q_X11_back_65 fl_X11_176 bA (cref0 (by omega) _) rfl rfl ((mup_slot (by decide)).trans b0) ?_
              refine e_isub q_X11_back_68 ?_
              refine e_ireturn q_X11_back_69 rfl rfl ?_
              have hbh : behind N w d := (behind_l c14.1).mpr ⟨by have hbn := hbf (lastF N w) (by omega) (by omega); rw [(lastF_p (N := N) (i := w) (by omega)).1] at hbn; omega, by unfold lmove; rw [if_neg (by omega), if_pos c34.2]; omega⟩
              exact h3 b ⟨hw1, c14⟩ ⟨by omega, c34, hbh⟩ ⟨b88, bA, bf, b0, b1, b2⟩
            · skip
              refine e_bipush q_X11_back_53 (by decide) ?_
              refine e_ireturn q_X11_back_55 rfl rfl ?_
              exact h2 ⟨hw1, c14⟩ (fun q => by have q3 := (behind_l c14.1).mp q.2.2; have q4 := q.2.1; unfold away at q4; unfold lmove at q3; first | omega | (have q1 := q.1; omega) | exact c34 q4 | (rw [if_neg (by omega), if_pos q4.2] at q3; omega))
    · skip
      refine e_iconst q_X11_back_17 ?_
      refine e_ireturn q_X11_back_18 rfl rfl ?_
      exact h1 (fun q => by first | exact hw1 q.1 | exact c14 q.2)
set_option maxRecDepth 20000 in
set_option maxHeartbeats 2000000 in
theorem x_beginSpell (hB : zB0 s) (hz : ∀ a, s.1.1 ≤ a → ∀ j, N a j = 0) {a r : Nat} (p88 : 88 ≤ a) (pA : zA s a (4, 0)) (hr : N a 9 = (r : Int)) {g d : Int} (h : Q none (zI (z_ns s (8, 0) 4) (xn_begin N a s.1.1 g d))) : zC X m_X11_beginSpell [.ref 3, .ref a, vi g, vi d] (zI s N) Q := by
  show zE X m_X11_beginSpell 0 [.ref 3, .ref a, vi g, vi d] [] _ Q
  have n88 := hB.1
  by_cases hr0 : r = 0
  · skip
    refine e_aload_n q_X11_beginSpell_0 (by decide) rfl ?_
    refine e_dup q_X11_beginSpell_1 rfl ?_
    refine i_getI (k' := 19) q_X11_beginSpell_2 fl_X11_164 (a3 hB) rfl rfl rfl rfl ?_
    refine e_iconst q_X11_beginSpell_5 ?_
    refine e_iadd q_X11_beginSpell_6 ?_
    refine i_putI (k' := 19) q_X11_beginSpell_7 fl_X11_164 (Or.inl rfl) (a3 hB) rfl rfl rfl rfl rfl ?_
    refine e_aload_n q_X11_beginSpell_10 (by decide) rfl ?_
    refine i_new q_X11_beginSpell_11 kd_8 cl_X11_237 inst_8 ini_X8 (by omega) (fun j => (mup_cell (by omega)).trans (hz _ (Nat.le_refl _) j)) df_8 ?_
    have nA := zA_new (s := s) (sp := (8, 0)) (sl := 4) (by omega)
    have hB := hB.k (sK.ns (sp := (8, 0)) (sl := 4))
    have pA := (sK.ns (sp := (8, 0)) (sl := 4)).A pA
    refine e_dup q_X11_beginSpell_14 rfl ?_
    refine e_iload_n q_X11_beginSpell_15 (by decide) rfl ?_
    refine e_iload_n q_X11_beginSpell_16 (by decide) rfl ?_
    refine e_aload_n q_X11_beginSpell_17 (by decide) rfl ?_
    refine i_getN (k' := 9) q_X11_beginSpell_18 fl_X11_232 pA (cref0 (by omega) _) rfl rfl (by rw [mup_cell (by omega), hr]; omega) ?_
    refine iv_X8_init rfl q_X11_beginSpell_21 lk_X11_408 (by decide) (Nat.le_of_ble_eq_true rfl) ?_
    refine x_init8N n88 nA ?_
    refine i_putR (k' := 9) q_X11_beginSpell_24 fl_X11_232 (Or.inl rfl) pA (cref0 (by omega) _) rfl rfl (by omega) rfl rfl ?_
    refine e_return q_X11_beginSpell_27 rfl ?_
    unfold xn_begin at h
    rw [hr] at h
    rw [hr0] at h
    exact h
  · skip
    refine e_aload_n q_X11_beginSpell_0 (by decide) rfl ?_
    refine e_dup q_X11_beginSpell_1 rfl ?_
    refine i_getI (k' := 19) q_X11_beginSpell_2 fl_X11_164 (a3 hB) rfl rfl rfl rfl ?_
    refine e_iconst q_X11_beginSpell_5 ?_
    refine e_iadd q_X11_beginSpell_6 ?_
    refine i_putI (k' := 19) q_X11_beginSpell_7 fl_X11_164 (Or.inl rfl) (a3 hB) rfl rfl rfl rfl rfl ?_
    refine e_aload_n q_X11_beginSpell_10 (by decide) rfl ?_
    refine i_new q_X11_beginSpell_11 kd_8 cl_X11_237 inst_8 ini_X8 (by omega) (fun j => (mup_cell (by omega)).trans (hz _ (Nat.le_refl _) j)) df_8 ?_
    have nA := zA_new (s := s) (sp := (8, 0)) (sl := 4) (by omega)
    have hB := hB.k (sK.ns (sp := (8, 0)) (sl := 4))
    have pA := (sK.ns (sp := (8, 0)) (sl := 4)).A pA
    refine e_dup q_X11_beginSpell_14 rfl ?_
    refine e_iload_n q_X11_beginSpell_15 (by decide) rfl ?_
    refine e_iload_n q_X11_beginSpell_16 (by decide) rfl ?_
    refine e_aload_n q_X11_beginSpell_17 (by decide) rfl ?_
    refine i_getR (k' := 9) q_X11_beginSpell_18 fl_X11_232 pA (cref0 (by omega) _) rfl rfl ((mup_cell (by omega)).trans hr) (by omega) ?_
    refine iv_X8_init rfl q_X11_beginSpell_21 lk_X11_408 (by decide) (Nat.le_of_ble_eq_true rfl) ?_
    refine x_init8R n88 nA (by omega) ?_
    refine i_putR (k' := 9) q_X11_beginSpell_24 fl_X11_232 (Or.inl rfl) pA (cref0 (by omega) _) rfl rfl (by omega) rfl rfl ?_
    refine e_return q_X11_beginSpell_27 rfl ?_
    unfold xn_begin at h
    rw [hr] at h
    exact h
set_option maxRecDepth 20000 in
set_option maxHeartbeats 2000000 in
theorem x_joins (hI : xI s N fa sa){w : Int} (hw : zr w){g : Int} (hg : zr g){d : Int} (hd : zr d)(hk : N 3 19 < 600) (h1 : ¬ ((0 ≤ w ∧ w < N 39 2) ∧ (0 ≤ g ∧ g < N 39 29) ∧ (0 ≤ d ∧ d ≤ 9999)) → Q (some (vi (-1))) (zI s N)) (h2 : ((0 ≤ w ∧ w < N 39 2) ∧ (0 ≤ g ∧ g < N 39 29) ∧ (0 ≤ d ∧ d ≤ 9999)) → N 41 w = 3 → Q (some (vi (-12))) (zI s N)) (h3 : ((0 ≤ w ∧ w < N 39 2) ∧ (0 ≤ g ∧ g < N 39 29) ∧ (0 ≤ d ∧ d ≤ 9999)) → N 41 w ≠ 3 → ¬ (tHere N w d ∧ ¬ boundS N w d) → Q (some (vi (-2))) (zI s N)) (h4 : ((0 ≤ w ∧ w < N 39 2) ∧ (0 ≤ g ∧ g < N 39 29) ∧ (0 ≤ d ∧ d ≤ 9999)) → N 41 w ≠ 3 → tHere N w d ∧ ¬ boundS N w d → 10 ≤ mems N g d → Q (some (vi (-3))) (zI s N)) (h5 : ∀ a : Nat, ((0 ≤ w ∧ w < N 39 2) ∧ (0 ≤ g ∧ g < N 39 29) ∧ (0 ≤ d ∧ d ≤ 9999)) → N 41 w ≠ 3 → tHere N w d ∧ ¬ boundS N w d → mems N g d < 10 → xPer s N fa sa w a → Q (some (vi (mems N g d + 1))) (zI (z_ns s (8, 0) 4) (xn_begin N a s.1.1 g d))) : zC X m_X11_joins [.ref 3, vi w, vi g, vi d] (zI s N) Q := by
  have hB := hI.B
  have hR := hI.R
  have hC := hI.C
  unfold mCnt at hC
  have hm := hI.m
  obtain ⟨e1, e5, e7, e8, e10, e11, e3, e12, eh, eg, ef, et⟩ := hI.hs
  have n88 := hI.B.1
  have hz := hI.2.1.2
  show zE X m_X11_joins 0 [.ref 3, vi w, vi g, vi d, zU, zU] [] _ Q
  refine e_aload_n q_X11_joins_0 (by decide) rfl ?_
  refine e_iload_n q_X11_joins_1 (by decide) rfl ?_
  refine iv_X11_personAt q_X11_joins_2 lk_X11_113 (by decide) (a3 hB) (Nat.le_of_ble_eq_true rfl) ?_
  refine x_personAt hI hw (fun hw1 => ?_) (fun a hw1 hp => ?_)
  · skip
    refine e_astoreN (ls' := [_, _, _, _, _, _]) q_X11_joins_5 (by decide) rfl rfl ?_
    refine e_aloadN q_X11_joins_7 (by decide) rfl ?_
    refine e_ifnullN q_X11_joins_9 ?_
    refine e_iconst q_X11_joins_27 ?_
    refine e_ireturn q_X11_joins_28 rfl rfl ?_
    exact h1 (fun q => by first | exact hw1 q.1 | exact c17 q.2.1 | exact c24 q.2.2)
  · skip
    obtain ⟨p88, pA, p5, p0, p1, p2, p3, p4, p5f, p6, p7, p8, p9⟩ := id hp
    refine e_astore (ls' := [_, _, _, _, _, _]) q_X11_joins_5 (by decide) rfl rfl ?_
    refine e_aload q_X11_joins_7 (by decide) rfl ?_
    refine e_ifnull q_X11_joins_9 ?_
    refine e_aload_n q_X11_joins_12 (by decide) rfl ?_
    refine e_iload_n q_X11_joins_13 (by decide) rfl ?_
    refine iv_X11_isGroup q_X11_joins_14 lk_X11_218 (by decide) (a3 hB) (Nat.le_of_ble_eq_true rfl) ?_
    refine x_isGroup hI hg ?_
    refine e_ifb_eq q_X11_joins_17 (fun c17 => ?_) (fun c17 => ?_)
    · skip
      refine e_iconst q_X11_joins_27 ?_
      refine e_ireturn q_X11_joins_28 rfl rfl ?_
      exact h1 (fun q => by first | exact hw1 q.1 | exact c17 q.2.1 | exact c24 q.2.2)
    · skip
      refine e_iload_n q_X11_joins_20 (by decide) rfl ?_
      refine iv_X11_isDay q_X11_joins_21 lk_X11_140 (by decide) (Nat.le_of_ble_eq_true rfl) ?_
      refine x_isDay hd ?_
      refine e_ifb_ne q_X11_joins_24 (fun c24 => ?_) (fun c24 => ?_)
      · skip
        refine e_aload q_X11_joins_29 (by decide) rfl ?_
        refine i_getI (k' := 0) q_X11_joins_31 fl_X11_117 pA (cref0 (by omega) _) rfl rfl p0 ?_
        refine e_iconst q_X11_joins_34 ?_
        refine e_icmp_ne q_X11_joins_35 (by first | exact hR _ _ | (constructor <;> omega) | assumption) (by first | exact hR _ _ | (constructor <;> omega) | assumption) (fun c35 => ?_) (fun c35 => ?_)
        · skip
          refine e_aload q_X11_joins_41 (by decide) rfl ?_
          refine e_iload_n q_X11_joins_43 (by decide) rfl ?_
          refine iv_X4_isThereOn q_X11_joins_44 lk_X11_182 (by decide) pA (Nat.le_of_ble_eq_true rfl) ?_
          refine x_isThereOn hI hw1.1 hw1.2 hp (by omega) ?_
          refine e_ifb_eq q_X11_joins_47 (fun c47 => ?_) (fun c47 => ?_)
          · skip
            refine e_bipush q_X11_joins_59 (by decide) ?_
            refine e_ireturn q_X11_joins_61 rfl rfl ?_
            exact h3 ⟨hw1, c17, c24⟩ (by omega) (fun q => by first | exact c47 q.1 | exact c56 q.2)
          · skip
            refine e_aload q_X11_joins_50 (by decide) rfl ?_
            refine e_iload_n q_X11_joins_52 (by decide) rfl ?_
            refine iv_X4_mayJoin q_X11_joins_53 lk_X11_221 (by decide) pA (Nat.le_of_ble_eq_true rfl) ?_
            refine x_mayJoin hI hw1.1 hw1.2 hp (by omega) ?_
            refine e_ifb_ne q_X11_joins_56 (fun c56 => ?_) (fun c56 => ?_)
            · skip
              refine e_aload_n q_X11_joins_62 (by decide) rfl ?_
              refine e_iload_n q_X11_joins_63 (by decide) rfl ?_
              refine e_iload_n q_X11_joins_64 (by decide) rfl ?_
              refine iv_X11_membersOf q_X11_joins_65 lk_X11_224 (by decide) (a3 hB) (Nat.le_of_ble_eq_true rfl) ?_
              refine x_membersOf hI (by omega) c24 ?_
              have hmr := mems_r hm g d
              refine e_istore (ls' := [_, _, _, _, _, _]) q_X11_joins_68 (by decide) rfl rfl ?_
              refine e_iload q_X11_joins_70 (by decide) rfl ?_
              refine e_bipush q_X11_joins_72 (by decide) ?_
              refine e_icmp_ge q_X11_joins_74 (by first | exact hR _ _ | (constructor <;> omega) | assumption) (by first | exact hR _ _ | (constructor <;> omega) | assumption) (fun c74 => ?_) (fun c74 => ?_)
              · skip
                refine e_bipush q_X11_joins_87 (by decide) ?_
                refine e_ireturn q_X11_joins_89 rfl rfl ?_
                first | exact h4 ⟨hw1, c17, c24⟩ (by omega) ⟨c47, c56⟩ (by omega) | exact absurd c84 (by omega)
              · skip
                refine e_aload_n q_X11_joins_77 (by decide) rfl ?_
                refine i_getI (k' := 19) q_X11_joins_78 fl_X11_164 (a3 hB) rfl rfl rfl rfl ?_
                refine e_sipush q_X11_joins_81 (by decide) ?_
                refine e_icmp_lt q_X11_joins_84 (by first | exact hR _ _ | (constructor <;> omega) | assumption) (by first | exact hR _ _ | (constructor <;> omega) | assumption) (fun c84 => ?_) (fun c84 => ?_)
                · skip
                  obtain ⟨r, hr⟩ : ∃ r : Nat, N a 9 = (r : Int) := by
                    by_cases hl : lastS N w < 0
                    · exact ⟨0, by rw [p9, orZ_n hl]; rfl⟩
                    · obtain ⟨b, hb⟩ := hI.ss.1 (lastS N w) (by omega) (by have := lastS_b N w; omega)
                      exact ⟨b, by rw [p9, orZ_p (by omega)]; exact hb.2.2.1⟩
                  refine e_aload_n q_X11_joins_90 (by decide) rfl ?_
                  refine e_aload q_X11_joins_91 (by decide) rfl ?_
                  refine e_iload_n q_X11_joins_93 (by decide) rfl ?_
                  refine e_iload_n q_X11_joins_94 (by decide) rfl ?_
                  refine iv_X11_beginSpell rfl q_X11_joins_95 lk_X11_228 (by decide) (a3 hB) (Nat.le_of_ble_eq_true rfl) ?_
                  refine x_beginSpell hB hz p88 pA hr ?_
                  refine e_iload q_X11_joins_98 (by decide) rfl ?_
                  refine e_iconst q_X11_joins_100 ?_
                  refine e_iadd q_X11_joins_101 ?_
                  refine e_ireturn q_X11_joins_102 rfl rfl ?_
                  exact h5 a ⟨hw1, c17, c24⟩ (by omega) ⟨c47, c56⟩ (by omega) hp
                · skip
                  refine e_bipush q_X11_joins_87 (by decide) ?_
                  refine e_ireturn q_X11_joins_89 rfl rfl ?_
                  first | exact h4 ⟨hw1, c17, c24⟩ (by omega) ⟨c47, c56⟩ (by omega) | exact absurd c84 (by omega)
            · skip
              refine e_bipush q_X11_joins_59 (by decide) ?_
              refine e_ireturn q_X11_joins_61 rfl rfl ?_
              exact h3 ⟨hw1, c17, c24⟩ (by omega) (fun q => by first | exact c47 q.1 | exact c56 q.2)
        · skip
          refine e_bipush q_X11_joins_38 (by decide) ?_
          refine e_ireturn q_X11_joins_40 rfl rfl ?_
          exact h2 ⟨hw1, c17, c24⟩ (by omega)
      · skip
        refine e_iconst q_X11_joins_27 ?_
        refine e_ireturn q_X11_joins_28 rfl rfl ?_
        exact h1 (fun q => by first | exact hw1 q.1 | exact c17 q.2.1 | exact c24 q.2.2)
set_option maxRecDepth 20000 in
set_option maxHeartbeats 2000000 in
theorem x_leaves (hI : xI s N fa sa){w : Int} (hw : zr w){d : Int} (hd : zr d)(h1 : ¬ ((0 ≤ w ∧ w < N 39 2) ∧ (0 ≤ d ∧ d ≤ 9999)) → Q (some (vi (-1))) (zI s N)) (h2 : ((0 ≤ w ∧ w < N 39 2) ∧ (0 ≤ d ∧ d ≤ 9999)) → ¬ (0 ≤ lastS N w ∧ N 62 (lastS N w) = 100000 ∧ N 61 (lastS N w) < d) → Q (some (vi (-2))) (zI s N)) (h3 : ∀ b : Nat, ((0 ≤ w ∧ w < N 39 2) ∧ (0 ≤ d ∧ d ≤ 9999)) → (0 ≤ lastS N w ∧ N 62 (lastS N w) = 100000 ∧ N 61 (lastS N w) < d) → xSpl s N sa (lastS N w) b → Q (some (vi (N 60 (lastS N w)))) (zI s (mup N b 3 d))) : zC X m_X11_leaves [.ref 3, vi w, vi d] (zI s N) Q := by
  have hB := hI.B
  have hR := hI.R
  have hC := hI.C
  unfold mCnt at hC
  have hm := hI.m
  obtain ⟨e1, e5, e7, e8, e10, e11, e3, e12, eh, eg, ef, et⟩ := hI.hs
  show zE X m_X11_leaves 0 [.ref 3, vi w, vi d, zU, zU] [] _ Q
  refine e_aload_n q_X11_leaves_0 (by decide) rfl ?_
  refine e_iload_n q_X11_leaves_1 (by decide) rfl ?_
  refine iv_X11_personAt q_X11_leaves_2 lk_X11_113 (by decide) (a3 hB) (Nat.le_of_ble_eq_true rfl) ?_
  refine x_personAt hI hw (fun hw1 => ?_) (fun a hw1 hp => ?_)
  · skip
    refine e_astore_nN (ls' := [_, _, _, _, _]) q_X11_leaves_5 (by decide) rfl rfl ?_
    refine e_aload_nN q_X11_leaves_6 (by decide) rfl ?_
    refine e_ifnullN q_X11_leaves_7 ?_
    refine e_iconst q_X11_leaves_17 ?_
    refine e_ireturn q_X11_leaves_18 rfl rfl ?_
    exact h1 (fun q => by first | exact hw1 q.1 | exact c14 q.2)
  · skip
    obtain ⟨p88, pA, p5, p0, p1, p2, p3, p4, p5f, p6, p7, p8, p9⟩ := id hp
    refine e_astore_n (ls' := [_, _, _, _, _]) q_X11_leaves_5 (by decide) rfl rfl ?_
    refine e_aload_n q_X11_leaves_6 (by decide) rfl ?_
    refine e_ifnull q_X11_leaves_7 ?_
    refine e_iload_n q_X11_leaves_10 (by decide) rfl ?_
    refine iv_X11_isDay q_X11_leaves_11 lk_X11_140 (by decide) (Nat.le_of_ble_eq_true rfl) ?_
    refine x_isDay hd ?_
    refine e_ifb_ne q_X11_leaves_14 (fun c14 => ?_) (fun c14 => ?_)
    · skip
      have hlb := lastS_b N w
      by_cases hl : lastS N w < 0
      · skip
        refine e_aload_n q_X11_leaves_19 (by decide) rfl ?_
        refine i_getN (k' := 9) q_X11_leaves_20 fl_X11_232 pA (cref0 (by omega) _) rfl rfl (by rw [p9, orZ_n hl]; omega) ?_
        refine e_astoreN (ls' := [_, _, _, _, _]) q_X11_leaves_23 (by decide) rfl rfl ?_
        refine e_aloadN q_X11_leaves_25 (by decide) rfl ?_
        refine e_ifnullN q_X11_leaves_27 ?_
        refine e_bipush q_X11_leaves_48 (by decide) ?_
        refine e_ireturn q_X11_leaves_50 rfl rfl ?_
        exact h2 ⟨hw1, c14⟩ (by omega)
      · skip
        refine e_aload_n q_X11_leaves_19 (by decide) rfl ?_
        obtain ⟨b, hb⟩ := hI.ss.1 (lastS N w) (by omega) (by omega)
        obtain ⟨b88, bA, bf, b0, b1, b2, b3⟩ := id hb
        have p9b : N a 9 = (b : Int) := by rw [p9, orZ_p (by omega)]; exact bf
        have hfl := hm.2.2.2.2.1 (lastS N w) (by omega) (by omega)
        refine i_getR (k' := 9) q_X11_leaves_20 fl_X11_232 pA (cref0 (by omega) _) rfl rfl p9b (by omega) ?_
        refine e_astore (ls' := [_, _, _, _, _]) q_X11_leaves_23 (by decide) rfl rfl ?_
        refine e_aload q_X11_leaves_25 (by decide) rfl ?_
        refine e_ifnull q_X11_leaves_27 ?_
        refine e_aload q_X11_leaves_30 (by decide) rfl ?_
        refine i_getI (k' := 3) q_X11_leaves_32 fl_X11_236 bA (cref0 (by omega) _) rfl rfl rfl ?_
        refine e_iconst q_X11_leaves_35 ?_
        refine e_icmp_ne q_X11_leaves_36 (by first | exact hR _ _ | (constructor <;> omega) | assumption) (by first | exact hR _ _ | (constructor <;> omega) | assumption) (fun c36 => ?_) (fun c36 => ?_)
        · skip
          refine e_bipush q_X11_leaves_48 (by decide) ?_
          refine e_ireturn q_X11_leaves_50 rfl rfl ?_
          exact h2 ⟨hw1, c14⟩ (by omega)
        · skip
          refine e_aload q_X11_leaves_39 (by decide) rfl ?_
          refine i_getI (k' := 1) q_X11_leaves_41 fl_X11_241 bA (cref0 (by omega) _) rfl rfl b1 ?_
          refine e_iload_n q_X11_leaves_44 (by decide) rfl ?_
          refine e_icmp_lt q_X11_leaves_45 (hR _ _) hd (fun c45 => ?_) (fun c45 => ?_)
          · skip
            refine e_aload q_X11_leaves_51 (by decide) rfl ?_
            refine e_iload_n q_X11_leaves_53 (by decide) rfl ?_
            refine i_putI (k' := 3) q_X11_leaves_54 fl_X11_236 (Or.inl rfl) bA (cref0 (by omega) _) rfl rfl rfl rfl ?_
            refine e_aload q_X11_leaves_57 (by decide) rfl ?_
            refine i_getI (k' := 0) q_X11_leaves_59 fl_X11_242 bA (cref0 (by omega) _) rfl rfl ((mup_slot (by decide)).trans b0) ?_
            refine e_ireturn q_X11_leaves_62 rfl rfl ?_
            exact h3 b ⟨hw1, c14⟩ ⟨by omega, by omega, by omega⟩ hb
          · skip
            refine e_bipush q_X11_leaves_48 (by decide) ?_
            refine e_ireturn q_X11_leaves_50 rfl rfl ?_
            exact h2 ⟨hw1, c14⟩ (by omega)
    · skip
      refine e_iconst q_X11_leaves_17 ?_
      refine e_ireturn q_X11_leaves_18 rfl rfl ?_
      exact h1 (fun q => by first | exact hw1 q.1 | exact c14 q.2)
set_option maxRecDepth 20000 in
set_option maxHeartbeats 2000000 in
theorem x_stay (hI : xI s N fa sa){w : Int} (hw : zr w){g x y : Int} (hg : zr g) (hx0 : zr x) (hy0 : zr y) (h1 : ¬ ((0 ≤ w ∧ w < N 39 2) ∧ (0 ≤ g ∧ g < N 39 0) ∧ (0 ≤ x ∧ x ≤ 9999) ∧ (0 ≤ y ∧ y ≤ 9999) ∧ x ≤ y) → Q (some (vi (-1))) (zI s N)) (h2 : ((0 ≤ w ∧ w < N 39 2) ∧ (0 ≤ g ∧ g < N 39 0) ∧ (0 ≤ x ∧ x ≤ 9999) ∧ (0 ≤ y ∧ y ≤ 9999) ∧ x ≤ y) → N 41 w ≠ 3 → Q (some (vi (-12))) (zI s N)) (h3 : ((0 ≤ w ∧ w < N 39 2) ∧ (0 ≤ g ∧ g < N 39 0) ∧ (0 ≤ x ∧ x ≤ 9999) ∧ (0 ≤ y ∧ y ≤ 9999) ∧ x ≤ y) → N 41 w = 3 → (∃ k : Nat, (k : Int) < N 39 36 ∧ N 63 k = w ∧ x ≤ N 66 k) → Q (some (vi (-2))) (zI s N)) (h4 : ((0 ≤ w ∧ w < N 39 2) ∧ (0 ≤ g ∧ g < N 39 0) ∧ (0 ≤ x ∧ x ≤ 9999) ∧ (0 ≤ y ∧ y ≤ 9999) ∧ x ≤ y) → N 41 w = 3 → ¬ (∃ k : Nat, (k : Int) < N 39 36 ∧ N 63 k = w ∧ x ≤ N 66 k) → N 39 36 = 20 → Q (some (vi (-3))) (zI s N)) (h5 : ((0 ≤ w ∧ w < N 39 2) ∧ (0 ≤ g ∧ g < N 39 0) ∧ (0 ≤ x ∧ x ≤ 9999) ∧ (0 ≤ y ∧ y ≤ 9999) ∧ x ≤ y) → N 41 w = 3 → ¬ (∃ k : Nat, (k : Int) < N 39 36 ∧ N 63 k = w ∧ x ≤ N 66 k) → N 39 36 < 20 → Q (some (vi (N 39 36))) (zI (z_ns s (9, 0) 4) (xn_stay N s.1.1 w g x y))) : zC X m_X11_stay [.ref 3, vi w, vi g, vi x, vi y] (zI s N) Q := by
  have hB := hI.B
  have hR := hI.R
  have hC := hI.C
  unfold mCnt at hC
  have hm := hI.m
  obtain ⟨e1, e5, e7, e8, e10, e11, e3, e12, eh, eg, ef, et⟩ := hI.hs
  have n88 := hI.B.1
  have hz := hI.2.1.2
  show zE X m_X11_stay 0 [.ref 3, vi w, vi g, vi x, vi y, zU] [] _ Q
  refine e_aload_n q_X11_stay_0 (by decide) rfl ?_
  refine e_iload_n q_X11_stay_1 (by decide) rfl ?_
  refine iv_X11_personAt q_X11_stay_2 lk_X11_113 (by decide) (a3 hB) (Nat.le_of_ble_eq_true rfl) ?_
  refine x_personAt hI hw (fun hw1 => ?_) (fun a hw1 hp => ?_)
  · skip
    refine e_astoreN (ls' := [_, _, _, _, _, _]) q_X11_stay_5 (by decide) rfl rfl ?_
    refine e_aloadN q_X11_stay_7 (by decide) rfl ?_
    refine e_ifnullN q_X11_stay_9 ?_
    refine e_iconst q_X11_stay_41 ?_
    refine e_ireturn q_X11_stay_42 rfl rfl ?_
    exact h1 (fun q => by first | exact hw1 q.1 | exact c17 q.2.1 | exact c24 q.2.2.1 | exact c32 q.2.2.2.1 | (have q1 := q.2.2.2.2; omega))
  · skip
    obtain ⟨p88, pA, p5, p0, p1, p2, p3, p4, p5f, p6, p7, p8, p9⟩ := id hp
    refine e_astore (ls' := [_, _, _, _, _, _]) q_X11_stay_5 (by decide) rfl rfl ?_
    refine e_aload q_X11_stay_7 (by decide) rfl ?_
    refine e_ifnull q_X11_stay_9 ?_
    refine e_aload_n q_X11_stay_12 (by decide) rfl ?_
    refine e_iload_n q_X11_stay_13 (by decide) rfl ?_
    refine iv_X11_isHouse q_X11_stay_14 lk_X11_100 (by decide) (a3 hB) (Nat.le_of_ble_eq_true rfl) ?_
    refine x_isHouse hI hg ?_
    refine e_ifb_eq q_X11_stay_17 (fun c17 => ?_) (fun c17 => ?_)
    · skip
      refine e_iconst q_X11_stay_41 ?_
      refine e_ireturn q_X11_stay_42 rfl rfl ?_
      exact h1 (fun q => by first | exact hw1 q.1 | exact c17 q.2.1 | exact c24 q.2.2.1 | exact c32 q.2.2.2.1 | (have q1 := q.2.2.2.2; omega))
    · skip
      refine e_iload_n q_X11_stay_20 (by decide) rfl ?_
      refine iv_X11_isDay q_X11_stay_21 lk_X11_140 (by decide) (Nat.le_of_ble_eq_true rfl) ?_
      refine x_isDay hx0 ?_
      refine e_ifb_eq q_X11_stay_24 (fun c24 => ?_) (fun c24 => ?_)
      · skip
        refine e_iconst q_X11_stay_41 ?_
        refine e_ireturn q_X11_stay_42 rfl rfl ?_
        exact h1 (fun q => by first | exact hw1 q.1 | exact c17 q.2.1 | exact c24 q.2.2.1 | exact c32 q.2.2.2.1 | (have q1 := q.2.2.2.2; omega))
      · skip
        refine e_iload q_X11_stay_27 (by decide) rfl ?_
        refine iv_X11_isDay q_X11_stay_29 lk_X11_140 (by decide) (Nat.le_of_ble_eq_true rfl) ?_
        refine x_isDay hy0 ?_
        refine e_ifb_eq q_X11_stay_32 (fun c32 => ?_) (fun c32 => ?_)
        · skip
          refine e_iconst q_X11_stay_41 ?_
          refine e_ireturn q_X11_stay_42 rfl rfl ?_
          exact h1 (fun q => by first | exact hw1 q.1 | exact c17 q.2.1 | exact c24 q.2.2.1 | exact c32 q.2.2.2.1 | (have q1 := q.2.2.2.2; omega))
        · skip
          refine e_iload q_X11_stay_35 (by decide) rfl ?_
          refine e_iload_n q_X11_stay_37 (by decide) rfl ?_
          refine e_icmp_ge q_X11_stay_38 hy0 hx0 (fun c38 => ?_) (fun c38 => ?_)
          · skip
            refine e_aload q_X11_stay_43 (by decide) rfl ?_
            refine i_getI (k' := 0) q_X11_stay_45 fl_X11_117 pA (cref0 (by omega) _) rfl rfl p0 ?_
            refine e_iconst q_X11_stay_48 ?_
            refine e_icmp_eq q_X11_stay_49 (by first | exact hR _ _ | (constructor <;> omega) | assumption) (by first | exact hR _ _ | (constructor <;> omega) | assumption) (fun c49 => ?_) (fun c49 => ?_)
            · skip
              refine e_aload_n q_X11_stay_55 (by decide) rfl ?_
              refine e_iload_n q_X11_stay_56 (by decide) rfl ?_
              refine e_iload_n q_X11_stay_57 (by decide) rfl ?_
              refine iv_X11_lodgesOnOrBehind q_X11_stay_58 lk_X11_256 (by decide) (a3 hB) (Nat.le_of_ble_eq_true rfl) ?_
              refine x_lodges hI hw c24 ?_
              refine e_ifb_eq q_X11_stay_61 (fun c61 => ?_) (fun c61 => ?_)
              · skip
                refine e_aload_n q_X11_stay_67 (by decide) rfl ?_
                refine i_getI (k' := 8) q_X11_stay_68 fl_X11_259 (a3 hB) rfl rfl rfl e8 ?_
                refine e_bipush q_X11_stay_71 (by decide) ?_
                refine e_icmp_lt q_X11_stay_73 (by first | exact hR _ _ | (constructor <;> omega) | assumption) (by first | exact hR _ _ | (constructor <;> omega) | assumption) (fun c73 => ?_) (fun c73 => ?_)
                · skip
                  refine e_aload_n q_X11_stay_79 (by decide) rfl ?_
                  refine i_getC (r := 10) q_X11_stay_80 fl_X11_31 (a3 hB) rfl (by decide) ?_
                  refine e_aload_n q_X11_stay_83 (by decide) rfl ?_
                  refine i_getI (k' := 8) q_X11_stay_84 fl_X11_259 (a3 hB) rfl rfl rfl e8 ?_
                  refine i_new q_X11_stay_87 kd_9 cl_X11_29 inst_9 ini_X9 (by omega) (fun j => hz _ (Nat.le_refl _) j) df_9 ?_
                  have nA := zA_new (s := s) (sp := (9, 0)) (sl := 4) (by omega)
                  have hB := hB.k (sK.ns (sp := (9, 0)) (sl := 4))
                  refine e_dup q_X11_stay_90 rfl ?_
                  refine e_iload_n q_X11_stay_91 (by decide) rfl ?_
                  refine e_iload_n q_X11_stay_92 (by decide) rfl ?_
                  refine e_iload_n q_X11_stay_93 (by decide) rfl ?_
                  refine e_iload q_X11_stay_94 (by decide) rfl ?_
                  refine iv_X9_init q_X11_stay_96 lk_X11_262 (by decide) (Nat.le_of_ble_eq_true rfl) ?_
                  refine x_init9 n88 nA ?_
                  refine i_aast q_X11_stay_99 (a10 hB) (by decide) nA kd_9 rfl (fun _ => rfl) (by omega) (by omega) (by decide) ?_
                  refine e_aload_n q_X11_stay_100 (by decide) rfl ?_
                  refine e_dup q_X11_stay_101 rfl ?_
                  refine i_getI (k' := 8) q_X11_stay_102 fl_X11_259 (a3 hB) rfl rfl rfl ((mup_cell (by omega)).trans ((mup_cell (by omega)).trans ((mup_cell (by omega)).trans ((mup_cell (by omega)).trans ((mup_cell (by omega)).trans e8))))) ?_
                  refine e_iconst q_X11_stay_105 ?_
                  refine e_iadd q_X11_stay_106 ?_
                  refine i_putI (k' := 8) q_X11_stay_107 fl_X11_259 (Or.inl rfl) (a3 hB) rfl rfl rfl rfl rfl ?_
                  refine e_aload_n q_X11_stay_110 (by decide) rfl ?_
                  refine i_getI (k' := 8) q_X11_stay_111 fl_X11_259 (a3 hB) rfl rfl rfl (mup_self _ _ _ _) ?_
                  refine e_iconst q_X11_stay_114 ?_
                  refine e_isub q_X11_stay_115 ?_
                  refine e_ireturn q_X11_stay_116 rfl rfl ?_
                  exact zqI (h5 ⟨hw1, c17, c24, c32, by omega⟩ (by omega) c61 (by omega)) (by omega)
                · skip
                  refine e_bipush q_X11_stay_76 (by decide) ?_
                  refine e_ireturn q_X11_stay_78 rfl rfl ?_
                  exact h4 ⟨hw1, c17, c24, c32, by omega⟩ (by omega) c61 (by omega)
              · skip
                refine e_bipush q_X11_stay_64 (by decide) ?_
                refine e_ireturn q_X11_stay_66 rfl rfl ?_
                exact h3 ⟨hw1, c17, c24, c32, by omega⟩ (by omega) c61
            · skip
              refine e_bipush q_X11_stay_52 (by decide) ?_
              refine e_ireturn q_X11_stay_54 rfl rfl ?_
              exact h2 ⟨hw1, c17, c24, c32, by omega⟩ (by omega)
          · skip
            refine e_iconst q_X11_stay_41 ?_
            refine e_ireturn q_X11_stay_42 rfl rfl ?_
            exact h1 (fun q => by first | exact hw1 q.1 | exact c17 q.2.1 | exact c24 q.2.2.1 | exact c32 q.2.2.2.1 | (have q1 := q.2.2.2.2; omega))
end XS8
