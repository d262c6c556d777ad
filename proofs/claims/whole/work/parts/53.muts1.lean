/-! THE SYSTEM'S METHODS THAT CHANGE, 1 (printed by wip/whole/gen/x7.py) -/
section XS7
variable {X : zX} {s : zK} {N : zN} {fa sa : Int → Int} {σ : zS} {Q : Option Value → zS → Prop}
theorem zA_new {sp : Nat × Nat} {sl : Nat} (h : 40 ≤ s.1.1) : zA (z_ns s sp sl) s.1.1 sp := ⟨by omega, Nat.lt_succ_self _, by show (if s.1.1 = s.1.1 then sp else s.2 s.1.1) = sp; rw [if_pos rfl]⟩
def xn_house (N : zN) (l : Int) : zN := mup (mup N 4 (N 39 0) l) 3 1 (N 39 0 + 1)
def xn_group (N : zN) (l : Int) : zN := mup (mup N 6 (N 39 29) l) 3 5 (N 39 29 + 1)
def xn_fair (N : zN) (a b : Int) : zN := mup (mup (mup N 8 (N 39 26) a) 9 (N 39 26) b) 7 2 (N 39 26 + 1)
def xn_person (N : zN) (a : Nat) (k b n h p f : Int) : zN := mup (mup (mup (mup (mup (mup (mup (mup (mup (mup N a 6 (-1)) a 7 (-4)) a 0 k) a 1 b) a 2 n) a 3 h) a 4 p) a 5 f) 5 (N 39 2) a) 3 3 (N 39 2 + 1)
def xn_flees (N : zN) (a b : Nat) (d : Int) : zN := mup (mup (mup (mup (mup N 3 19 (N 3 19 + 1)) b 2 (-1)) b 0 d) b 1 (N a 8)) a 8 b
def xn_begin (N : zN) (a b : Nat) (g d : Int) : zN := mup (mup (mup (mup (mup (mup N 3 19 (N 3 19 + 1)) b 3 (-1)) b 0 g) b 1 d) b 2 (N a 9)) a 9 b
def xn_stay (N : zN) (a : Nat) (w g x y : Int) : zN := mup (mup (mup (mup (mup (mup N a 0 w) a 1 g) a 2 x) a 3 y) 10 (N 39 36) a) 3 8 (N 39 36 + 1)
set_option maxRecDepth 20000 in
set_option maxHeartbeats 2000000 in
theorem x_house (hI : xI s N fa sa){l : Int} (hl : zr l) (h1 : ¬ (0 ≤ l ∧ l ≤ 99) → Q (some (vi (-1))) (zI s N)) (h2 : 0 ≤ l ∧ l ≤ 99 → N 39 0 = 20 → Q (some (vi (-3))) (zI s N)) (h3 : 0 ≤ l ∧ l ≤ 99 → N 39 0 < 20 → Q (some (vi (N 39 0))) (zI s (xn_house N l))) : zC X m_X11_house [.ref 3, vi l] (zI s N) Q := by
  have hB := hI.B
  have hR := hI.R
  have hC := hI.C
  unfold mCnt at hC
  have hm := hI.m
  obtain ⟨e1, e5, e7, e8, e10, e11, e3, e12, eh, eg, ef, et⟩ := hI.hs
  show zE X m_X11_house 0 [.ref 3, vi l] [] _ Q
  refine e_iload_n q_X11_house_0 (by decide) rfl ?_
  refine iv_X11_isLane q_X11_house_1 lk_X11_90 (by decide) (Nat.le_of_ble_eq_true rfl) ?_
  refine x_isLane hl ?_
  refine e_ifb_ne q_X11_house_4 (fun c4 => ?_) (fun c4 => ?_)
  · skip
    refine e_aload_n q_X11_house_9 (by decide) rfl ?_
    refine i_getI (k' := 1) q_X11_house_10 fl_X11_94 (a3 hB) rfl rfl rfl e1 ?_
    refine e_bipush q_X11_house_13 (by decide) ?_
    refine e_icmp_lt q_X11_house_15 (by first | exact hR _ _ | (constructor <;> omega) | assumption) (by first | exact hR _ _ | (constructor <;> omega) | assumption) (fun c15 => ?_) (fun c15 => ?_)
    · skip
      refine e_aload_n q_X11_house_21 (by decide) rfl ?_
      refine i_getC (r := 4) q_X11_house_22 fl_X11_9 (a3 hB) rfl (by decide) ?_
      refine e_aload_n q_X11_house_25 (by decide) rfl ?_
      refine i_getI (k' := 1) q_X11_house_26 fl_X11_94 (a3 hB) rfl rfl rfl e1 ?_
      refine e_iload_n q_X11_house_29 (by decide) rfl ?_
      refine i_iast q_X11_house_30 (a4 hB) (fun _ => rfl) (by first | omega | assumption) (by first | omega | assumption) (by decide) ?_
      refine e_aload_n q_X11_house_31 (by decide) rfl ?_
      refine e_dup q_X11_house_32 rfl ?_
      refine i_getI (k' := 1) q_X11_house_33 fl_X11_94 (a3 hB) rfl rfl rfl ((mup_cell (by decide)).trans e1) ?_
      refine e_iconst q_X11_house_36 ?_
      refine e_iadd q_X11_house_37 ?_
      refine i_putI (k' := 1) q_X11_house_38 fl_X11_94 (Or.inl rfl) (a3 hB) rfl rfl rfl rfl rfl ?_
      refine e_aload_n q_X11_house_41 (by decide) rfl ?_
      refine i_getI (k' := 1) q_X11_house_42 fl_X11_94 (a3 hB) rfl rfl rfl (mup_self _ _ _ _) ?_
      refine e_iconst q_X11_house_45 ?_
      refine e_isub q_X11_house_46 ?_
      refine e_ireturn q_X11_house_47 rfl rfl ?_
      exact zqI (h3 c4 (by omega)) (by omega)
    · skip
      refine e_bipush q_X11_house_18 (by decide) ?_
      refine e_ireturn q_X11_house_20 rfl rfl ?_
      exact h2 c4 (by omega)
  · skip
    refine e_iconst q_X11_house_7 ?_
    refine e_ireturn q_X11_house_8 rfl rfl ?_
    exact h1 c4
set_option maxRecDepth 20000 in
set_option maxHeartbeats 2000000 in
theorem x_group (hI : xI s N fa sa){l : Int} (hl : zr l) (h1 : ¬ (0 ≤ l ∧ l ≤ 99) → Q (some (vi (-1))) (zI s N)) (h2 : 0 ≤ l ∧ l ≤ 99 → N 39 29 = 8 → Q (some (vi (-3))) (zI s N)) (h3 : 0 ≤ l ∧ l ≤ 99 → N 39 29 < 8 → Q (some (vi (N 39 29))) (zI s (xn_group N l))) : zC X m_X11_group [.ref 3, vi l] (zI s N) Q := by
  have hB := hI.B
  have hR := hI.R
  have hC := hI.C
  unfold mCnt at hC
  have hm := hI.m
  obtain ⟨e1, e5, e7, e8, e10, e11, e3, e12, eh, eg, ef, et⟩ := hI.hs
  show zE X m_X11_group 0 [.ref 3, vi l] [] _ Q
  refine e_iload_n q_X11_group_0 (by decide) rfl ?_
  refine iv_X11_isLane q_X11_group_1 lk_X11_90 (by decide) (Nat.le_of_ble_eq_true rfl) ?_
  refine x_isLane hl ?_
  refine e_ifb_ne q_X11_group_4 (fun c4 => ?_) (fun c4 => ?_)
  · skip
    refine e_aload_n q_X11_group_9 (by decide) rfl ?_
    refine i_getI (k' := 5) q_X11_group_10 fl_X11_215 (a3 hB) rfl rfl rfl e5 ?_
    refine e_bipush q_X11_group_13 (by decide) ?_
    refine e_icmp_lt q_X11_group_15 (by first | exact hR _ _ | (constructor <;> omega) | assumption) (by first | exact hR _ _ | (constructor <;> omega) | assumption) (fun c15 => ?_) (fun c15 => ?_)
    · skip
      refine e_aload_n q_X11_group_21 (by decide) rfl ?_
      refine i_getC (r := 6) q_X11_group_22 fl_X11_19 (a3 hB) rfl (by decide) ?_
      refine e_aload_n q_X11_group_25 (by decide) rfl ?_
      refine i_getI (k' := 5) q_X11_group_26 fl_X11_215 (a3 hB) rfl rfl rfl e5 ?_
      refine e_iload_n q_X11_group_29 (by decide) rfl ?_
      refine i_iast q_X11_group_30 (a6 hB) (fun _ => rfl) (by first | omega | assumption) (by first | omega | assumption) (by decide) ?_
      refine e_aload_n q_X11_group_31 (by decide) rfl ?_
      refine e_dup q_X11_group_32 rfl ?_
      refine i_getI (k' := 5) q_X11_group_33 fl_X11_215 (a3 hB) rfl rfl rfl ((mup_cell (by decide)).trans e5) ?_
      refine e_iconst q_X11_group_36 ?_
      refine e_iadd q_X11_group_37 ?_
      refine i_putI (k' := 5) q_X11_group_38 fl_X11_215 (Or.inl rfl) (a3 hB) rfl rfl rfl rfl rfl ?_
      refine e_aload_n q_X11_group_41 (by decide) rfl ?_
      refine i_getI (k' := 5) q_X11_group_42 fl_X11_215 (a3 hB) rfl rfl rfl (mup_self _ _ _ _) ?_
      refine e_iconst q_X11_group_45 ?_
      refine e_isub q_X11_group_46 ?_
      refine e_ireturn q_X11_group_47 rfl rfl ?_
      exact zqI (h3 c4 (by omega)) (by omega)
    · skip
      refine e_bipush q_X11_group_18 (by decide) ?_
      refine e_ireturn q_X11_group_20 rfl rfl ?_
      exact h2 c4 (by omega)
  · skip
    refine e_iconst q_X11_group_7 ?_
    refine e_ireturn q_X11_group_8 rfl rfl ?_
    exact h1 c4
set_option maxRecDepth 20000 in
set_option maxHeartbeats 2000000 in
theorem x_fput (hI : xI s N fa sa){a b : Int} (hn : N 39 26 < 9) (h : Q none (zI s (xn_fair N a b))) : zC X m_X0_put [.ref 7, vi a, vi b] (zI s N) Q := by
  have hB := hI.B
  have hR := hI.R
  have hC := hI.C
  unfold mCnt at hC
  have hm := hI.m
  obtain ⟨e1, e5, e7, e8, e10, e11, e3, e12, eh, eg, ef, et⟩ := hI.hs
  show zE X m_X0_put 0 [.ref 7, vi a, vi b] [] _ Q
  refine e_aload_n q_X0_put_0 (by decide) rfl ?_
  refine i_getI (k' := 2) q_X0_put_1 fl_X0_18 (a7 hB) rfl rfl rfl e7 ?_
  refine e_bipush q_X0_put_4 (by decide) ?_
  refine e_icmp_ge q_X0_put_6 (by first | exact hR _ _ | (constructor <;> omega) | assumption) (by first | exact hR _ _ | (constructor <;> omega) | assumption) (fun c6 => ?_) (fun c6 => ?_)
  · skip
    refine e_return q_X0_put_39 rfl ?_
    first | exact h | exact absurd c6 (by omega)
  · skip
    refine e_aload_n q_X0_put_9 (by decide) rfl ?_
    refine i_getC (r := 8) q_X0_put_10 fl_X0_9 (a7 hB) rfl (by decide) ?_
    refine e_aload_n q_X0_put_13 (by decide) rfl ?_
    refine i_getI (k' := 2) q_X0_put_14 fl_X0_18 (a7 hB) rfl rfl rfl e7 ?_
    refine e_iload_n q_X0_put_17 (by decide) rfl ?_
    refine i_iast q_X0_put_18 (a8 hB) (fun _ => rfl) (by first | omega | assumption) (by first | omega | assumption) (by decide) ?_
    refine e_aload_n q_X0_put_19 (by decide) rfl ?_
    refine i_getC (r := 9) q_X0_put_20 fl_X0_15 (a7 hB) rfl (by decide) ?_
    refine e_aload_n q_X0_put_23 (by decide) rfl ?_
    refine i_getI (k' := 2) q_X0_put_24 fl_X0_18 (a7 hB) rfl rfl rfl ((mup_cell (by decide)).trans e7) ?_
    refine e_iload_n q_X0_put_27 (by decide) rfl ?_
    refine i_iast q_X0_put_28 (a9 hB) (fun _ => rfl) (by first | omega | assumption) (by first | omega | assumption) (by decide) ?_
    refine e_aload_n q_X0_put_29 (by decide) rfl ?_
    refine e_dup q_X0_put_30 rfl ?_
    refine i_getI (k' := 2) q_X0_put_31 fl_X0_18 (a7 hB) rfl rfl rfl ((mup_cell (by decide)).trans ((mup_cell (by decide)).trans e7)) ?_
    refine e_iconst q_X0_put_34 ?_
    refine e_iadd q_X0_put_35 ?_
    refine i_putI (k' := 2) q_X0_put_36 fl_X0_18 (Or.inl rfl) (a7 hB) rfl rfl rfl rfl rfl ?_
    refine e_return q_X0_put_39 rfl ?_
    first | exact h | exact absurd c6 (by omega)
set_option maxRecDepth 20000 in
set_option maxHeartbeats 2000000 in
theorem x_fair (hI : xI s N fa sa){a b : Int} (ha : zr a) (hb : zr b) (h1 : ¬ ((0 ≤ a ∧ a ≤ 9999) ∧ (0 ≤ b ∧ b ≤ 9999) ∧ a ≤ b) → Q (some (vi (-1))) (zI s N)) (h2 : ((0 ≤ a ∧ a ≤ 9999) ∧ (0 ≤ b ∧ b ≤ 9999) ∧ a ≤ b) → N 39 26 = 9 → Q (some (vi (-3))) (zI s N)) (h3 : ((0 ≤ a ∧ a ≤ 9999) ∧ (0 ≤ b ∧ b ≤ 9999) ∧ a ≤ b) → N 39 26 < 9 → Q (some (vi (N 39 26))) (zI s (xn_fair N a b))) : zC X m_X11_fair [.ref 3, vi a, vi b] (zI s N) Q := by
  have hB := hI.B
  have hR := hI.R
  have hC := hI.C
  unfold mCnt at hC
  have hm := hI.m
  obtain ⟨e1, e5, e7, e8, e10, e11, e3, e12, eh, eg, ef, et⟩ := hI.hs
  show zE X m_X11_fair 0 [.ref 3, vi a, vi b] [] _ Q
  refine e_iload_n q_X11_fair_0 (by decide) rfl ?_
  refine iv_X11_isDay q_X11_fair_1 lk_X11_140 (by decide) (Nat.le_of_ble_eq_true rfl) ?_
  refine x_isDay ha ?_
  refine e_ifb_eq q_X11_fair_4 (fun c4 => ?_) (fun c4 => ?_)
  · skip
    refine e_iconst q_X11_fair_19 ?_
    refine e_ireturn q_X11_fair_20 rfl rfl ?_
    exact h1 (fun q => by first | exact c4 q.1 | exact c11 q.2.1 | (have q1 := q.2.2; omega))
  · skip
    refine e_iload_n q_X11_fair_7 (by decide) rfl ?_
    refine iv_X11_isDay q_X11_fair_8 lk_X11_140 (by decide) (Nat.le_of_ble_eq_true rfl) ?_
    refine x_isDay hb ?_
    refine e_ifb_eq q_X11_fair_11 (fun c11 => ?_) (fun c11 => ?_)
    · skip
      refine e_iconst q_X11_fair_19 ?_
      refine e_ireturn q_X11_fair_20 rfl rfl ?_
      exact h1 (fun q => by first | exact c4 q.1 | exact c11 q.2.1 | (have q1 := q.2.2; omega))
    · skip
      refine e_iload_n q_X11_fair_14 (by decide) rfl ?_
      refine e_iload_n q_X11_fair_15 (by decide) rfl ?_
      refine e_icmp_ge q_X11_fair_16 hb ha (fun c16 => ?_) (fun c16 => ?_)
      · skip
        refine e_aload_n q_X11_fair_21 (by decide) rfl ?_
        refine i_getC (r := 7) q_X11_fair_22 fl_X11_25 (a3 hB) rfl (by decide) ?_
        refine i_getI (k' := 2) q_X11_fair_25 fl_X11_209 (a7 hB) rfl rfl rfl e7 ?_
        refine e_bipush q_X11_fair_28 (by decide) ?_
        refine e_icmp_lt q_X11_fair_30 (by first | exact hR _ _ | (constructor <;> omega) | assumption) (by first | exact hR _ _ | (constructor <;> omega) | assumption) (fun c30 => ?_) (fun c30 => ?_)
        · skip
          refine e_aload_n q_X11_fair_36 (by decide) rfl ?_
          refine i_getC (r := 7) q_X11_fair_37 fl_X11_25 (a3 hB) rfl (by decide) ?_
          refine e_iload_n q_X11_fair_40 (by decide) rfl ?_
          refine e_iload_n q_X11_fair_41 (by decide) rfl ?_
          refine iv_X0_put q_X11_fair_42 lk_X11_212 (by decide) (a7 hB) (Nat.le_of_ble_eq_true rfl) ?_
          refine x_fput hI (by omega) ?_
          refine e_aload_n q_X11_fair_45 (by decide) rfl ?_
          refine i_getC (r := 7) q_X11_fair_46 fl_X11_25 (a3 hB) rfl (by decide) ?_
          refine i_getI (k' := 2) q_X11_fair_49 fl_X11_209 (a7 hB) rfl rfl rfl (mup_self _ _ _ _) ?_
          refine e_iconst q_X11_fair_52 ?_
          refine e_isub q_X11_fair_53 ?_
          refine e_ireturn q_X11_fair_54 rfl rfl ?_
          exact zqI (h3 ⟨c4, c11, by omega⟩ (by omega)) (by omega)
        · skip
          refine e_bipush q_X11_fair_33 (by decide) ?_
          refine e_ireturn q_X11_fair_35 rfl rfl ?_
          exact h2 ⟨c4, c11, by omega⟩ (by omega)
      · skip
        refine e_iconst q_X11_fair_19 ?_
        refine e_ireturn q_X11_fair_20 rfl rfl ?_
        exact h1 (fun q => by first | exact c4 q.1 | exact c11 q.2.1 | (have q1 := q.2.2; omega))
/-- what is known of the sheet j, at a -/
def xShA (s : zK) (N : zN) (j : Int) (a : Nat) : Prop := (a : Int) = 31 + 2 * j ∧ zA s a (7, 0) ∧ zA s (a + 1) (20, 20) ∧ cref a 0 = a + 1 ∧ (∀ k, k ≠ 0 → cref a k = 0) ∧ (∀ k, cref (a + 1) k = 0) ∧ N 20 j = (a : Int) ∧ N a 1 = N 82 j ∧ N a 2 = N 83 j ∧ (0 ≤ N 83 j ∧ N 83 j ≤ 20) ∧ ∀ i : Int, 0 ≤ i → i < N 83 j → N (a + 1) i = N 84 (20 * j + i)
theorem crefS {a : Nat} (h : a = 31 ∨ a = 33 ∨ a = 35 ∨ a = 37) : cref a 0 = a + 1 ∧ (∀ k, k ≠ 0 → cref a k = 0) ∧ ∀ k, cref (a + 1) k = 0 := by
  rcases h with rfl | rfl | rfl | rfl
  all_goals
    refine ⟨rfl, fun k hk => ?_, fun k => rfl⟩
    rcases k with _ | _ | _ | k
    · exact absurd rfl hk
    · rfl
    · rfl
    · rfl
theorem xShA.of (hI : xI s N fa sa) {j : Int} (h0 : 0 ≤ j) (h1 : j ≤ 3) : ∃ a, xShA s N j a := by
  have hj := hI.sh j h0 (by omega)
  have hB := hI.B
  have hc := crefS (a := (31 + 2 * j).toNat) (by omega)
  have e2 : (32 + 2 * j).toNat = (31 + 2 * j).toNat + 1 := by omega
  have hA : zA s (31 + 2 * j).toNat (7, 0) := by
    have : j = 0 ∨ j = 1 ∨ j = 2 ∨ j = 3 := by omega
    rcases this with rfl | rfl | rfl | rfl
    · exact a31 hB
    · exact a33 hB
    · exact a35 hB
    · exact a37 hB
  have hA2 : zA s ((31 + 2 * j).toNat + 1) (20, 20) := by
    have : j = 0 ∨ j = 1 ∨ j = 2 ∨ j = 3 := by omega
    rcases this with rfl | rfl | rfl | rfl
    · exact a32 hB
    · exact a34 hB
    · exact a36 hB
    · exact a38 hB
  rw [e2] at hj
  exact ⟨(31 + 2 * j).toNat, by omega, hA, hA2, hc.1, hc.2.1, hc.2.2, by omega, hj.2.1, hj.2.2.1, hj.2.2.2.1, hj.2.2.2.2⟩
set_option maxRecDepth 20000 in
set_option maxHeartbeats 2000000 in
theorem x_isNothing (hI : xI s N fa sa) {j : Int} {a : Nat} (hs : xShA s N j a) (hj : 0 ≤ j ∧ j ≤ 3) (h : Q (some (vi (bi (N 82 j = -4)))) (zI s N)) : zC X m_X7_isNothing [.ref a] (zI s N) Q := by
  have hB := hI.B
  have hR := hI.R
  have hC := hI.C
  unfold mCnt at hC
  have hm := hI.m
  obtain ⟨e1, e5, e7, e8, e10, e11, e3, e12, eh, eg, ef, et⟩ := hI.hs
  obtain ⟨sa0, sA, sB, sc0, sc1, scB, s20, s1, s2, s3, s4⟩ := id hs
  show zE X m_X7_isNothing 0 [.ref a] [] _ Q
  refine e_aload_n q_X7_isNothing_0 (by decide) rfl ?_
  refine i_getI (k' := 1) q_X7_isNothing_1 fl_X7_15 sA (sc1 _ (by decide)) rfl rfl s1 ?_
  refine e_bipush q_X7_isNothing_4 (by decide) ?_
  refine e_icmp_ne q_X7_isNothing_6 (by first | exact hR _ _ | (constructor <;> omega) | assumption) (by first | exact hR _ _ | (constructor <;> omega) | assumption) (fun c6 => ?_) (fun c6 => ?_)
  · skip
    refine e_iconst q_X7_isNothing_13 ?_
    refine e_ireturn q_X7_isNothing_14 rfl rfl ?_
    first | exact zqT h (by omega) | exact zqF h (by omega)
  · skip
    refine e_iconst q_X7_isNothing_9 ?_
    refine e_goto q_X7_isNothing_10 ?_
    refine e_ireturn q_X7_isNothing_14 rfl rfl ?_
    first | exact zqT h (by omega) | exact zqF h (by omega)
def xn_drop (N : zN) (w : Int) : zN := mup N (31 + 2 * w).toNat 1 (-4)
set_option maxRecDepth 20000 in
set_option maxHeartbeats 2000000 in
theorem x_drop (hI : xI s N fa sa){w : Int} (hw : zr w)(h1 : ¬ (0 ≤ w ∧ w ≤ 3) → Q (some (vi (-1))) (zI s N)) (h2 : 0 ≤ w ∧ w ≤ 3 → N 82 w = -4 → Q (some (vi (-11))) (zI s N)) (h3 : 0 ≤ w ∧ w ≤ 3 → N 82 w ≠ -4 → Q (some (vi (N 83 w))) (zI s (xn_drop N w))) : zC X m_X11_drop [.ref 3, vi w] (zI s N) Q := by
  have hB := hI.B
  have hR := hI.R
  have hC := hI.C
  unfold mCnt at hC
  have hm := hI.m
  obtain ⟨e1, e5, e7, e8, e10, e11, e3, e12, eh, eg, ef, et⟩ := hI.hs
  show zE X m_X11_drop 0 [.ref 3, vi w, zU] [] _ Q
  refine e_iload_n q_X11_drop_0 (by decide) rfl ?_
  refine iv_X11_isSheet q_X11_drop_1 lk_X11_354 (by decide) (Nat.le_of_ble_eq_true rfl) ?_
  refine x_isSheet hw ?_
  refine e_ifb_ne q_X11_drop_4 (fun c4 => ?_) (fun c4 => ?_)
  · skip
    refine e_aload_n q_X11_drop_9 (by decide) rfl ?_
    refine i_getC (r := 20) q_X11_drop_10 fl_X11_60 (a3 hB) rfl (by decide) ?_
    refine e_iload_n q_X11_drop_13 (by decide) rfl ?_
    obtain ⟨a, hs⟩ := xShA.of hI (j := w) (by omega) (by omega)
    obtain ⟨sa0, sA, sB, sc0, sc1, scB, s20, s1, s2, s3, s4⟩ := id hs
    refine i_aald q_X11_drop_14 (a20 hB) (by decide) (fun _ => rfl) (by omega) (by omega) (by decide) s20 (by omega) ?_
    refine e_astore_n (ls' := [_, _, _]) q_X11_drop_15 (by decide) rfl rfl ?_
    refine e_aload_n q_X11_drop_16 (by decide) rfl ?_
    refine iv_X7_isNothing q_X11_drop_17 lk_X11_363 (by decide) sA (Nat.le_of_ble_eq_true rfl) ?_
    refine x_isNothing hI hs (by omega) ?_
    refine e_ifb_eq q_X11_drop_20 (fun c20 => ?_) (fun c20 => ?_)
    · skip
      refine e_aload_n q_X11_drop_26 (by decide) rfl ?_
      refine e_bipush q_X11_drop_27 (by decide) ?_
      refine i_putI (k' := 1) q_X11_drop_29 fl_X11_366 (Or.inl rfl) sA (sc1 _ (by decide)) rfl rfl rfl rfl ?_
      refine e_aload_n q_X11_drop_32 (by decide) rfl ?_
      refine i_getI (k' := 2) q_X11_drop_33 fl_X11_369 sA (sc1 _ (by decide)) rfl rfl ((mup_slot (by decide)).trans s2) ?_
      refine e_ireturn q_X11_drop_36 rfl rfl ?_
      have e : (31 + 2 * w).toNat = a := by omega
      have h3 := h3 c4 c20
      unfold xn_drop at h3
      rw [e] at h3
      exact h3
    · skip
      refine e_bipush q_X11_drop_23 (by decide) ?_
      refine e_ireturn q_X11_drop_25 rfl rfl ?_
      exact h2 c4 c20
  · skip
    refine e_iconst q_X11_drop_7 ?_
    refine e_ireturn q_X11_drop_8 rfl rfl ?_
    exact h1 c4
def xn_sheet (N : zN) (w l n : Int) : zN := mfil (mup (mup N (31 + 2 * w).toNat 1 l) (31 + 2 * w).toNat 2 n) (32 + 2 * w).toNat 0 n.toNat
theorem mfil_ne {N : zN} {a b : Nat} {i j : Int} {n : Nat} (h : b ≠ a) : mfil N a i n b j = N b j := by
  unfold mfil
  rw [if_neg (fun q => h q.1)]
set_option maxRecDepth 20000 in
set_option maxHeartbeats 2000000 in
theorem x_renew (hI : xI s N fa sa) {j : Int} {a : Nat} (hs : xShA s N j a) (hj : 0 ≤ j ∧ j ≤ 3){l n : Int} (hn : 0 ≤ n ∧ n ≤ 20) (h : Q none (zI s (mfil (mup (mup N a 1 l) a 2 n) (a + 1) 0 n.toNat))) : zC X m_X7_renew [.ref a, vi l, vi n] (zI s N) Q := by
  have hB := hI.B
  have hR := hI.R
  have hC := hI.C
  unfold mCnt at hC
  have hm := hI.m
  obtain ⟨e1, e5, e7, e8, e10, e11, e3, e12, eh, eg, ef, et⟩ := hI.hs
  obtain ⟨sa0, sA, sB, sc0, sc1, scB, s20, s1, s2, s3, s4⟩ := id hs
  show zE X m_X7_renew 0 [.ref a, vi l, vi n, zU] [] _ Q
  refine e_aload_n q_X7_renew_0 (by decide) rfl ?_
  refine e_iload_n q_X7_renew_1 (by decide) rfl ?_
  refine i_putI (k' := 1) q_X7_renew_2 fl_X7_15 (Or.inl rfl) sA (sc1 _ (by decide)) rfl rfl rfl rfl ?_
  refine e_aload_n q_X7_renew_5 (by decide) rfl ?_
  refine e_iconst q_X7_renew_6 ?_
  refine e_iload_n q_X7_renew_7 (by decide) rfl ?_
  refine e_bipush q_X7_renew_8 (by decide) ?_
  refine e_min q_X7_renew_10 lk_X7_19 mm_min_s ini_J9 mm_min_c (by decide) (by decide) (Nat.le_of_ble_eq_true rfl) (by constructor <;> omega) (by constructor <;> omega) ?_
  refine e_max q_X7_renew_13 lk_X7_25 mm_max_s ini_J9 mm_max_c (by decide) (by decide) (Nat.le_of_ble_eq_true rfl) (by constructor <;> omega) (by constructor <;> omega) ?_
  refine i_putI (k' := 2) q_X7_renew_16 fl_X7_28 (Or.inl rfl) sA (sc1 _ (by decide)) rfl rfl rfl rfl ?_
  refine e_iconst q_X7_renew_19 ?_
  refine e_istore_n (ls' := [_, _, _, _]) q_X7_renew_20 (by decide) rfl rfl ?_
  have en : max 0 (min n 20) = n := by omega
  refine zEe (ls := [.ref a, vi l, vi n, vi ((0 : Nat) : Int)]) (σ := (zI s (mfil (mup (mup N a 1 l) a 2 n) (a + 1) 0 0))) ?_ rfl (by rw [mfil_0, en])
  refine z_for (P := fun i => zE X m_X7_renew 21 [.ref a, vi l, vi n, vi (i : Int)] [] (zI s (mfil (mup (mup N a 1 l) a 2 n) (a + 1) 0 i)) Q) n.toNat (fun i hi ih => ?_) ?_
  · skip
    refine e_iload_n q_X7_renew_21 (by decide) rfl ?_
    refine e_aload_n q_X7_renew_22 (by decide) rfl ?_
    refine i_getI (k' := 2) q_X7_renew_23 fl_X7_28 sA (sc1 _ (by decide)) rfl rfl ((mfil_ne (by omega)).trans (mup_self _ _ _ _)) ?_
    refine e_icmp_ge q_X7_renew_26 (by constructor <;> omega) (by constructor <;> omega) (fun c26 => ?_) (fun c26 => ?_)
    · skip
      exact absurd c26 (by omega)
    · skip
      refine e_aload_n q_X7_renew_29 (by decide) rfl ?_
      refine i_getC (r := a + 1) q_X7_renew_30 fl_X7_9 sA sc0 (by omega) ?_
      refine e_iload_n q_X7_renew_33 (by decide) rfl ?_
      refine e_iconst q_X7_renew_34 ?_
      refine i_iast q_X7_renew_35 sB scB (by first | omega | assumption) (by first | omega | assumption) (by decide) ?_
      refine e_iinc (ls' := [_, _, _, _]) q_X7_renew_36 (by decide) rfl rfl rfl ?_
      refine e_goto q_X7_renew_39 ?_
      exact zEe ih rfl (by rw [← mfil_s]; simp)
  · skip
    refine e_iload_n q_X7_renew_21 (by decide) rfl ?_
    refine e_aload_n q_X7_renew_22 (by decide) rfl ?_
    refine i_getI (k' := 2) q_X7_renew_23 fl_X7_28 sA (sc1 _ (by decide)) rfl rfl ((mfil_ne (by omega)).trans (mup_self _ _ _ _)) ?_
    refine e_icmp_ge q_X7_renew_26 (by constructor <;> omega) (by constructor <;> omega) (fun c26 => ?_) (fun c26 => ?_)
    · skip
      refine e_return q_X7_renew_42 rfl ?_
      exact h
    · skip
      exact absurd (by omega) c26
set_option maxRecDepth 20000 in
set_option maxHeartbeats 2000000 in
theorem x_sheet (hI : xI s N fa sa){w : Int} (hw : zr w){l n : Int} (hl : zr l) (hn0 : zr n) (h1 : ¬ ((0 ≤ w ∧ w ≤ 3) ∧ (0 ≤ l ∧ l ≤ 2) ∧ n ≤ 20) → Q (some (vi (-1))) (zI s N)) (h2 : ((0 ≤ w ∧ w ≤ 3) ∧ (0 ≤ l ∧ l ≤ 2) ∧ n ≤ 20) → n < 0 → Q (some (vi (-14))) (zI s N)) (h3 : ((0 ≤ w ∧ w ≤ 3) ∧ (0 ≤ l ∧ l ≤ 2) ∧ n ≤ 20) → 0 ≤ n → Q (some (vi n)) (zI s (xn_sheet N w l n))) : zC X m_X11_sheet [.ref 3, vi w, vi l, vi n] (zI s N) Q := by
  have hB := hI.B
  have hR := hI.R
  have hC := hI.C
  unfold mCnt at hC
  have hm := hI.m
  obtain ⟨e1, e5, e7, e8, e10, e11, e3, e12, eh, eg, ef, et⟩ := hI.hs
  show zE X m_X11_sheet 0 [.ref 3, vi w, vi l, vi n] [] _ Q
  refine e_iload_n q_X11_sheet_0 (by decide) rfl ?_
  refine iv_X11_isSheet q_X11_sheet_1 lk_X11_354 (by decide) (Nat.le_of_ble_eq_true rfl) ?_
  refine x_isSheet hw ?_
  refine e_ifb_eq q_X11_sheet_4 (fun c4 => ?_) (fun c4 => ?_)
  · skip
    refine e_iconst q_X11_sheet_20 ?_
    refine e_ireturn q_X11_sheet_21 rfl rfl ?_
    exact h1 (fun q => by first | exact c4 q.1 | exact c11 q.2.1 | (have q1 := q.2.2; omega))
  · skip
    refine e_iload_n q_X11_sheet_7 (by decide) rfl ?_
    refine iv_X11_isSheetLane q_X11_sheet_8 lk_X11_357 (by decide) (Nat.le_of_ble_eq_true rfl) ?_
    refine x_isSheetLane hl ?_
    refine e_ifb_eq q_X11_sheet_11 (fun c11 => ?_) (fun c11 => ?_)
    · skip
      refine e_iconst q_X11_sheet_20 ?_
      refine e_ireturn q_X11_sheet_21 rfl rfl ?_
      exact h1 (fun q => by first | exact c4 q.1 | exact c11 q.2.1 | (have q1 := q.2.2; omega))
    · skip
      refine e_iload_n q_X11_sheet_14 (by decide) rfl ?_
      refine e_bipush q_X11_sheet_15 (by decide) ?_
      refine e_icmp_le q_X11_sheet_17 hn0 (by constructor <;> omega) (fun c17 => ?_) (fun c17 => ?_)
      · skip
        refine e_iload_n q_X11_sheet_22 (by decide) rfl ?_
        refine e_if_ge q_X11_sheet_23 hn0 (fun c23 => ?_) (fun c23 => ?_)
        · skip
          refine e_aload_n q_X11_sheet_29 (by decide) rfl ?_
          refine i_getC (r := 20) q_X11_sheet_30 fl_X11_60 (a3 hB) rfl (by decide) ?_
          refine e_iload_n q_X11_sheet_33 (by decide) rfl ?_
          obtain ⟨a, hs⟩ := xShA.of hI (j := w) (by omega) (by omega)
          obtain ⟨sa0, sA, sB, sc0, sc1, scB, s20, s1, s2, s3, s4⟩ := id hs
          refine i_aald q_X11_sheet_34 (a20 hB) (by decide) (fun _ => rfl) (by omega) (by omega) (by decide) s20 (by omega) ?_
          refine e_iload_n q_X11_sheet_35 (by decide) rfl ?_
          refine e_iload_n q_X11_sheet_36 (by decide) rfl ?_
          refine iv_X7_renew q_X11_sheet_37 lk_X11_360 (by decide) sA (Nat.le_of_ble_eq_true rfl) ?_
          refine x_renew hI hs (by omega) (by omega) ?_
          refine e_iload_n q_X11_sheet_40 (by decide) rfl ?_
          refine e_ireturn q_X11_sheet_41 rfl rfl ?_
          have e : (31 + 2 * w).toNat = a := by omega
          have e2 : (32 + 2 * w).toNat = a + 1 := by omega
          have h3 := h3 ⟨c4, c11, by omega⟩ (by omega)
          unfold xn_sheet at h3
          rw [e, e2] at h3
          exact h3
        · skip
          refine e_bipush q_X11_sheet_26 (by decide) ?_
          refine e_ireturn q_X11_sheet_28 rfl rfl ?_
          exact h2 ⟨c4, c11, by omega⟩ (by omega)
      · skip
        refine e_iconst q_X11_sheet_20 ?_
        refine e_ireturn q_X11_sheet_21 rfl rfl ?_
        exact h1 (fun q => by first | exact c4 q.1 | exact c11 q.2.1 | (have q1 := q.2.2; omega))
noncomputable def refus (N : zN) (w l : Int) : Int := zif ((0 ≤ w ∧ w ≤ 3) ∧ (0 ≤ l ∧ l ≤ 2)) (if N 82 w = -4 then -11 else if N 82 w = l then 0 else -12) (-1)
set_option maxRecDepth 20000 in
set_option maxHeartbeats 2000000 in
theorem x_refusal (hI : xI s N fa sa){w : Int} (hw : zr w){l : Int} (hl : zr l) (h : Q (some (vi (refus N w l))) (zI s N)) : zC X m_X11_refusalOfSheet [.ref 3, vi w, vi l] (zI s N) Q := by
  have hB := hI.B
  have hR := hI.R
  have hC := hI.C
  unfold mCnt at hC
  have hm := hI.m
  obtain ⟨e1, e5, e7, e8, e10, e11, e3, e12, eh, eg, ef, et⟩ := hI.hs
  show zE X m_X11_refusalOfSheet 0 [.ref 3, vi w, vi l] [] _ Q
  refine e_iload_n q_X11_refusalOfSheet_0 (by decide) rfl ?_
  refine iv_X11_isSheet q_X11_refusalOfSheet_1 lk_X11_354 (by decide) (Nat.le_of_ble_eq_true rfl) ?_
  refine x_isSheet hw ?_
  refine e_ifb_eq q_X11_refusalOfSheet_4 (fun c4 => ?_) (fun c4 => ?_)
  · skip
    refine e_iconst q_X11_refusalOfSheet_14 ?_
    refine e_ireturn q_X11_refusalOfSheet_15 rfl rfl ?_
    exact zqI h (zif_f (fun q => by first | exact c4 q.1 | exact c11 q.2))
  · skip
    refine e_iload_n q_X11_refusalOfSheet_7 (by decide) rfl ?_
    refine iv_X11_isSheetLane q_X11_refusalOfSheet_8 lk_X11_357 (by decide) (Nat.le_of_ble_eq_true rfl) ?_
    refine x_isSheetLane hl ?_
    refine e_ifb_ne q_X11_refusalOfSheet_11 (fun c11 => ?_) (fun c11 => ?_)
    · skip
      refine e_aload_n q_X11_refusalOfSheet_16 (by decide) rfl ?_
      refine i_getC (r := 20) q_X11_refusalOfSheet_17 fl_X11_60 (a3 hB) rfl (by decide) ?_
      refine e_iload_n q_X11_refusalOfSheet_20 (by decide) rfl ?_
      obtain ⟨a, hs⟩ := xShA.of hI (j := w) (by omega) (by omega)
      obtain ⟨sa0, sA, sB, sc0, sc1, scB, s20, s1, s2, s3, s4⟩ := id hs
      refine i_aald q_X11_refusalOfSheet_21 (a20 hB) (by decide) (fun _ => rfl) (by omega) (by omega) (by decide) s20 (by omega) ?_
      refine iv_X7_isNothing q_X11_refusalOfSheet_22 lk_X11_363 (by decide) sA (Nat.le_of_ble_eq_true rfl) ?_
      refine x_isNothing hI hs (by omega) ?_
      refine e_ifb_eq q_X11_refusalOfSheet_25 (fun c25 => ?_) (fun c25 => ?_)
      · skip
        refine e_aload_n q_X11_refusalOfSheet_31 (by decide) rfl ?_
        refine i_getC (r := 20) q_X11_refusalOfSheet_32 fl_X11_60 (a3 hB) rfl (by decide) ?_
        refine e_iload_n q_X11_refusalOfSheet_35 (by decide) rfl ?_
        refine i_aald q_X11_refusalOfSheet_36 (a20 hB) (by decide) (fun _ => rfl) (by omega) (by omega) (by decide) s20 (by omega) ?_
        refine i_getI (k' := 1) q_X11_refusalOfSheet_37 fl_X11_366 sA (sc1 _ (by decide)) rfl rfl s1 ?_
        refine e_iload_n q_X11_refusalOfSheet_40 (by decide) rfl ?_
        refine e_icmp_ne q_X11_refusalOfSheet_41 (hR _ _) hl (fun c41 => ?_) (fun c41 => ?_)
        · skip
          refine e_bipush q_X11_refusalOfSheet_48 (by decide) ?_
          refine e_ireturn q_X11_refusalOfSheet_50 rfl rfl ?_
          first | exact zqI h (by unfold refus; rw [zif_t ⟨c4, c11⟩, if_neg c25, if_pos (by omega)]) | exact zqI h (by unfold refus; rw [zif_t ⟨c4, c11⟩, if_neg c25, if_neg (by omega)])
        · skip
          refine e_iconst q_X11_refusalOfSheet_44 ?_
          refine e_goto q_X11_refusalOfSheet_45 ?_
          refine e_ireturn q_X11_refusalOfSheet_50 rfl rfl ?_
          first | exact zqI h (by unfold refus; rw [zif_t ⟨c4, c11⟩, if_neg c25, if_pos (by omega)]) | exact zqI h (by unfold refus; rw [zif_t ⟨c4, c11⟩, if_neg c25, if_neg (by omega)])
      · skip
        refine e_bipush q_X11_refusalOfSheet_28 (by decide) ?_
        refine e_ireturn q_X11_refusalOfSheet_30 rfl rfl ?_
        exact zqI h (by unfold refus; rw [zif_t ⟨c4, c11⟩, if_pos c25])
    · skip
      refine e_iconst q_X11_refusalOfSheet_14 ?_
      refine e_ireturn q_X11_refusalOfSheet_15 rfl rfl ?_
      exact zqI h (zif_f (fun q => by first | exact c4 q.1 | exact c11 q.2))
set_option maxRecDepth 20000 in
set_option maxHeartbeats 2000000 in
theorem x_sput (hI : xI s N fa sa) {j : Int} {a : Nat} (hs : xShA s N j a) (hj : 0 ≤ j ∧ j ≤ 3){i v l : Int} (hi : 0 ≤ i ∧ i < N 83 j) (hl : 0 ≤ l ∧ l ≤ 2) (he : N 82 j = l) (h : Q none (zI s (mup N (a + 1) i (nar l v)))) : zC X m_X7_put [.ref a, vi i, vi v] (zI s N) Q := by
  have hB := hI.B
  have hR := hI.R
  have hC := hI.C
  unfold mCnt at hC
  have hm := hI.m
  obtain ⟨e1, e5, e7, e8, e10, e11, e3, e12, eh, eg, ef, et⟩ := hI.hs
  obtain ⟨sa0, sA, sB, sc0, sc1, scB, s20, s1, s2, s3, s4⟩ := id hs
  show zE X m_X7_put 0 [.ref a, vi i, vi v] [] _ Q
  refine e_iload_n q_X7_put_0 (by decide) rfl ?_
  refine e_if_lt q_X7_put_1 (by first | exact hR _ _ | (constructor <;> omega) | assumption) (fun c1 => ?_) (fun c1 => ?_)
  · skip
    refine e_return q_X7_put_12 rfl ?_
    exact absurd hi (by omega)
  · skip
    refine e_iload_n q_X7_put_4 (by decide) rfl ?_
    refine e_aload_n q_X7_put_5 (by decide) rfl ?_
    refine i_getI (k' := 2) q_X7_put_6 fl_X7_28 sA (sc1 _ (by decide)) rfl rfl s2 ?_
    refine e_icmp_lt q_X7_put_9 (by first | exact hR _ _ | (constructor <;> omega) | assumption) (by first | exact hR _ _ | (constructor <;> omega) | assumption) (fun c9 => ?_) (fun c9 => ?_)
    · skip
      refine e_aload_n q_X7_put_13 (by decide) rfl ?_
      refine i_getI (k' := 1) q_X7_put_14 fl_X7_15 sA (sc1 _ (by decide)) rfl rfl (s1.trans he) ?_
      rcases (show l = 0 ∨ l = 1 ∨ l = 2 by omega) with rfl | rfl | rfl
      · skip
        refine e_lookup (off := 27) (tgt := 44) q_X7_put_17 (by constructor <;> omega) rfl rfl rfl ?_
        refine e_aload_n q_X7_put_44 (by decide) rfl ?_
        refine i_getC (r := a + 1) q_X7_put_45 fl_X7_9 sA sc0 (by omega) ?_
        refine e_iload_n q_X7_put_48 (by decide) rfl ?_
        refine e_iload_n q_X7_put_49 (by decide) rfl ?_
        refine e_i2b q_X7_put_50 (v := nar 0 v) (by unfold nar; rw [if_pos (by omega), z_of]) ?_
        refine i_iast q_X7_put_51 sB scB (by first | omega | assumption) (by first | omega | assumption) (by decide) ?_
        refine e_goto q_X7_put_52 ?_
        refine e_return q_X7_put_73 rfl ?_
        first | exact h | exact zqS h rfl (by have e : nar 2 v = v := (by unfold nar; rw [if_neg (by omega), if_neg (by omega)]); rw [e])
      · skip
        refine e_lookup (off := 38) (tgt := 55) q_X7_put_17 (by constructor <;> omega) rfl rfl rfl ?_
        refine e_aload_n q_X7_put_55 (by decide) rfl ?_
        refine i_getC (r := a + 1) q_X7_put_56 fl_X7_9 sA sc0 (by omega) ?_
        refine e_iload_n q_X7_put_59 (by decide) rfl ?_
        refine e_iload_n q_X7_put_60 (by decide) rfl ?_
        refine e_i2s q_X7_put_61 (v := nar 1 v) (by unfold nar; rw [if_neg (by omega), if_pos (by omega), z_of]) ?_
        refine i_iast q_X7_put_62 sB scB (by first | omega | assumption) (by first | omega | assumption) (by decide) ?_
        refine e_goto q_X7_put_63 ?_
        refine e_return q_X7_put_73 rfl ?_
        first | exact h | exact zqS h rfl (by have e : nar 2 v = v := (by unfold nar; rw [if_neg (by omega), if_neg (by omega)]); rw [e])
      · skip
        refine e_lookup (off := 49) (tgt := 66) q_X7_put_17 (by constructor <;> omega) rfl rfl rfl ?_
        refine e_aload_n q_X7_put_66 (by decide) rfl ?_
        refine i_getC (r := a + 1) q_X7_put_67 fl_X7_9 sA sc0 (by omega) ?_
        refine e_iload_n q_X7_put_70 (by decide) rfl ?_
        refine e_iload_n q_X7_put_71 (by decide) rfl ?_
        refine i_iast q_X7_put_72 sB scB (by first | omega | assumption) (by first | omega | assumption) (by decide) ?_
        refine e_return q_X7_put_73 rfl ?_
        first | exact h | exact zqS h rfl (by have e : nar 2 v = v := (by unfold nar; rw [if_neg (by omega), if_neg (by omega)]); rw [e])
    · skip
      refine e_return q_X7_put_12 rfl ?_
      exact absurd hi (by omega)
theorem refus_0 {w l : Int} (h : refus N w l = 0) : ((0 ≤ w ∧ w ≤ 3) ∧ (0 ≤ l ∧ l ≤ 2)) ∧ N 82 w ≠ -4 ∧ N 82 w = l := by
  unfold refus at h
  by_cases hg : ((0 ≤ w ∧ w ≤ 3) ∧ (0 ≤ l ∧ l ≤ 2))
  · rw [zif_t hg] at h
    by_cases h1 : N 82 w = -4
    · rw [if_pos h1] at h; omega
    · rw [if_neg h1] at h
      by_cases h2 : N 82 w = l
      · exact ⟨hg, h1, h2⟩
      · rw [if_neg h2] at h; omega
  · rw [zif_f hg] at h; omega
theorem refus_r (N : zN) (w l : Int) : zr (refus N w l) := by
  unfold refus
  by_cases hg : ((0 ≤ w ∧ w ≤ 3) ∧ (0 ≤ l ∧ l ≤ 2))
  · rw [zif_t hg]
    split
    · constructor <;> omega
    · split <;> constructor <;> omega
  · rw [zif_f hg]
    constructor <;> omega
set_option maxRecDepth 20000 in
set_option maxHeartbeats 2000000 in
theorem x_item (hI : xI s N fa sa){w : Int} (hw : zr w){l i v : Int} (hl : zr l) (hi0 : zr i) (h1 : refus N w l ≠ 0 → Q (some (vi (refus N w l))) (zI s N)) (h4 : ((0 ≤ w ∧ w ≤ 3) ∧ (0 ≤ l ∧ l ≤ 2)) → N 82 w ≠ -4 → N 82 w = l → ¬ (0 ≤ i ∧ i < N 83 w) → Q (some (vi (-13))) (zI s N)) (h5 : ((0 ≤ w ∧ w ≤ 3) ∧ (0 ≤ l ∧ l ≤ 2)) → N 82 w ≠ -4 → N 82 w = l → 0 ≤ i ∧ i < N 83 w → Q (some (vi 1)) (zI s (mup N (32 + 2 * w).toNat i (nar l v)))) : zC X m_X11_item [.ref 3, vi w, vi l, vi i, vi v] (zI s N) Q := by
  have hB := hI.B
  have hR := hI.R
  have hC := hI.C
  unfold mCnt at hC
  have hm := hI.m
  obtain ⟨e1, e5, e7, e8, e10, e11, e3, e12, eh, eg, ef, et⟩ := hI.hs
  show zE X m_X11_item 0 [.ref 3, vi w, vi l, vi i, vi v, zU] [] _ Q
  refine e_aload_n q_X11_item_0 (by decide) rfl ?_
  refine e_iload_n q_X11_item_1 (by decide) rfl ?_
  refine e_iload_n q_X11_item_2 (by decide) rfl ?_
  refine iv_X11_refusalOfSheet q_X11_item_3 lk_X11_370 (by decide) (a3 hB) (Nat.le_of_ble_eq_true rfl) ?_
  refine x_refusal hI hw hl ?_
  refine e_istore (ls' := [_, _, _, _, _, _]) q_X11_item_6 (by decide) rfl rfl ?_
  refine e_iload q_X11_item_8 (by decide) rfl ?_
  refine e_if_eq q_X11_item_10 (refus_r N w l) (fun c10 => ?_) (fun c10 => ?_)
  · skip
    refine e_iload_n q_X11_item_16 (by decide) rfl ?_
    refine e_if_lt q_X11_item_17 hi0 (fun c17 => ?_) (fun c17 => ?_)
    · skip
      refine e_bipush q_X11_item_33 (by decide) ?_
      refine e_ireturn q_X11_item_35 rfl rfl ?_
      first | (have hg := refus_0 c10; exact h4 hg.1 hg.2.1 hg.2.2 (by omega)) | exact h4 hg.1 hg.2.1 hg.2.2 (by omega)
    · skip
      refine e_iload_n q_X11_item_20 (by decide) rfl ?_
      refine e_aload_n q_X11_item_21 (by decide) rfl ?_
      refine i_getC (r := 20) q_X11_item_22 fl_X11_60 (a3 hB) rfl (by decide) ?_
      refine e_iload_n q_X11_item_25 (by decide) rfl ?_
      have hg := refus_0 c10
      obtain ⟨a, hs⟩ := xShA.of hI (j := w) (by omega) (by omega)
      obtain ⟨sa0, sA, sB, sc0, sc1, scB, s20, s1, s2, s3, s4⟩ := id hs
      refine i_aald q_X11_item_26 (a20 hB) (by decide) (fun _ => rfl) (by omega) (by omega) (by decide) s20 (by omega) ?_
      refine i_getI (k' := 2) q_X11_item_27 fl_X11_369 sA (sc1 _ (by decide)) rfl rfl s2 ?_
      refine e_icmp_lt q_X11_item_30 hi0 (hR _ _) (fun c30 => ?_) (fun c30 => ?_)
      · skip
        refine e_aload_n q_X11_item_36 (by decide) rfl ?_
        refine i_getC (r := 20) q_X11_item_37 fl_X11_60 (a3 hB) rfl (by decide) ?_
        refine e_iload_n q_X11_item_40 (by decide) rfl ?_
        refine i_aald q_X11_item_41 (a20 hB) (by decide) (fun _ => rfl) (by omega) (by omega) (by decide) s20 (by omega) ?_
        refine e_iload_n q_X11_item_42 (by decide) rfl ?_
        refine e_iload q_X11_item_43 (by decide) rfl ?_
        refine iv_X7_put q_X11_item_45 lk_X11_373 (by decide) sA (Nat.le_of_ble_eq_true rfl) ?_
        refine x_sput hI hs (by omega) (by omega) (by omega) hg.2.2 ?_
        refine e_iconst q_X11_item_48 ?_
        refine e_ireturn q_X11_item_49 rfl rfl ?_
        have e2 : (32 + 2 * w).toNat = a + 1 := by omega
        have h5 := h5 hg.1 hg.2.1 hg.2.2 (by omega)
        rw [e2] at h5
        exact h5
      · skip
        refine e_bipush q_X11_item_33 (by decide) ?_
        refine e_ireturn q_X11_item_35 rfl rfl ?_
        first | (have hg := refus_0 c10; exact h4 hg.1 hg.2.1 hg.2.2 (by omega)) | exact h4 hg.1 hg.2.1 hg.2.2 (by omega)
  · skip
    refine e_iload q_X11_item_13 (by decide) rfl ?_
    refine e_ireturn q_X11_item_15 rfl rfl ?_
    exact h1 c10
end XS7
