/-! THE REFERENCE'S METHODS, 4 (printed by wip/whole/gen/m4.py) -/
section MR4
variable {X : zX} {s : zK} {N : zN} {σ : zS} {Q : Option Value → zS → Prop}
theorem mup_fn {N : zN} {a b : Nat} {i x : Int} (h : b ≠ a) : mup N a i x b = N b := by
  funext j
  exact mup_cell h
def n_house (N : zN) (l : Int) : zN := mup (mup N 40 (N 39 0) l) 39 0 (N 39 0 + 1)
def n_group (N : zN) (l : Int) : zN := mup (mup N 58 (N 39 29) l) 39 29 (N 39 29 + 1)
def n_fair (N : zN) (a b : Int) : zN := mup (mup (mup N 56 (N 39 26) a) 57 (N 39 26) b) 39 26 (N 39 26 + 1)
def n_person (N : zN) (k b n h p f : Int) : zN := mup (mup (mup (mup (mup (mup (mup (mup N 41 (N 39 2) k) 42 (N 39 2) b) 43 (N 39 2) n) 44 (N 39 2) h) 45 (N 39 2) p) 46 (N 39 2) f) 47 (N 39 2) 100000) 39 2 (N 39 2 + 1)
def n_flees (N : zN) (w d : Int) : zN := mup (mup (mup (mup N 48 (N 39 10) w) 49 (N 39 10) d) 50 (N 39 10) 100000) 39 10 (N 39 10 + 1)
def n_begin (N : zN) (w g d : Int) : zN := mup (mup (mup (mup (mup N 59 (N 39 31) w) 60 (N 39 31) g) 61 (N 39 31) d) 62 (N 39 31) 100000) 39 31 (N 39 31 + 1)
def n_stay (N : zN) (w h a b : Int) : zN := mup (mup (mup (mup (mup N 63 (N 39 36) w) 64 (N 39 36) h) 65 (N 39 36) a) 66 (N 39 36) b) 39 36 (N 39 36 + 1)
def behind (N : zN) (w d : Int) : Prop := N 42 w ≤ d ∧ (lastF N w < 0 ∨ (if N 50 (lastF N w) = 100000 then N 49 (lastF N w) else N 50 (lastF N w)) < d)
def away (N : zN) (w : Int) : Prop := 0 ≤ lastF N w ∧ N 50 (lastF N w) = 100000
/-- a stretch of a row set to 0 -/
def mfil (N : zN) (a : Nat) (b : Int) (n : Nat) : zN := fun c j => if c = a ∧ b ≤ j ∧ j < b + n then 0 else N c j
theorem mfil_0 (N : zN) (a : Nat) (b : Int) : mfil N a b 0 = N := by
  funext c j
  unfold mfil
  rw [if_neg (by omega)]
theorem mfil_s (N : zN) (a : Nat) (b : Int) (n : Nat) : mup (mfil N a b n) a (b + n) 0 = mfil N a b (n + 1) := by
  funext c j
  unfold mup mfil
  by_cases h : c = a ∧ j = b + n
  · rw [if_pos h, if_pos (by omega)]
  · rw [if_neg h]
    by_cases h2 : c = a ∧ b ≤ j ∧ j < b + n
    · rw [if_pos h2, if_pos (by omega)]
    · rw [if_neg h2, if_neg (by omega)]
theorem mfil_fn {N : zN} {a b : Nat} {i : Int} {n : Nat} (h : b ≠ a) : mfil N a i n b = N b := by
  funext j
  unfold mfil
  rw [if_neg (fun q => h q.1)]
def n_sheet (N : zN) (s l n : Int) : zN := mfil (mup (mup N 82 s l) 83 s n) 84 (20 * s) 20
set_option maxRecDepth 20000 in
set_option maxHeartbeats 2000000 in
theorem k_house (hB : zB0 s) (hm : mI N){l : Int} (hl : zr l) (h1 : ¬ (0 ≤ l ∧ l ≤ 99) → Q (some (vi (-1))) (zI s N)) (h2 : 0 ≤ l ∧ l ≤ 99 → N 39 0 = 20 → Q (some (vi (-3))) (zI s N)) (h3 : 0 ≤ l ∧ l ≤ 99 → N 39 0 < 20 → Q (some (vi (N 39 0))) (zI s (n_house N l))) : zC X m_X12_house [.ref 39, vi l] (zI s N) Q := by
  have hR := hm.1
  have hC := hm.2.1
  unfold mCnt at hC
  show zE X m_X12_house 0 [.ref 39, vi l] [] _ Q
  refine e_iload_n q_X12_house_0 (by decide) rfl ?_
  refine e_iconst q_X12_house_1 ?_
  refine e_bipush q_X12_house_2 (by decide) ?_
  refine iv_X12_within q_X12_house_4 lk_X12_160 (by decide) (Nat.le_of_ble_eq_true rfl) ?_
  refine k_within hl (by constructor <;> omega) (by constructor <;> omega) ?_
  refine e_ifb_ne q_X12_house_7 (fun c7 => ?_) (fun c7 => ?_)
  · skip
    refine e_aload_n q_X12_house_12 (by decide) rfl ?_
    refine i_getI (k' := 0) q_X12_house_13 fl_X12_167 (a39 hB) rfl rfl rfl rfl ?_
    refine e_bipush q_X12_house_16 (by decide) ?_
    refine e_icmp_ne q_X12_house_18 (by first | exact hR _ _ | (constructor <;> omega) | assumption) (by first | exact hR _ _ | (constructor <;> omega) | assumption) (fun c18 => ?_) (fun c18 => ?_)
    · skip
      refine e_aload_n q_X12_house_24 (by decide) rfl ?_
      refine i_getC (r := 40) q_X12_house_25 fl_X12_7 (a39 hB) rfl (by decide) ?_
      refine e_aload_n q_X12_house_28 (by decide) rfl ?_
      refine i_getI (k' := 0) q_X12_house_29 fl_X12_167 (a39 hB) rfl rfl rfl rfl ?_
      refine e_iload_n q_X12_house_32 (by decide) rfl ?_
      refine i_iast q_X12_house_33 (a40 hB) (cref0 (by decide)) (by first | omega | assumption) (by first | omega | assumption) (by decide) ?_
      refine e_aload_n q_X12_house_34 (by decide) rfl ?_
      refine e_dup q_X12_house_35 rfl ?_
      refine i_getI (k' := 0) q_X12_house_36 fl_X12_167 (a39 hB) rfl rfl rfl (mup_cell (by decide)) ?_
      refine e_iconst q_X12_house_39 ?_
      refine e_iadd q_X12_house_40 ?_
      refine i_putI (k' := 0) q_X12_house_41 fl_X12_167 (Or.inl rfl) (a39 hB) rfl rfl rfl rfl rfl ?_
      refine e_aload_n q_X12_house_44 (by decide) rfl ?_
      refine i_getI (k' := 0) q_X12_house_45 fl_X12_167 (a39 hB) rfl rfl rfl (mup_self _ _ _ _) ?_
      refine e_iconst q_X12_house_48 ?_
      refine e_isub q_X12_house_49 ?_
      refine e_ireturn q_X12_house_50 rfl rfl ?_
      exact zqI (h3 c7 (by omega)) (by omega)
    · skip
      refine e_bipush q_X12_house_21 (by decide) ?_
      refine e_ireturn q_X12_house_23 rfl rfl ?_
      exact h2 c7 (by omega)
  · skip
    refine e_iconst q_X12_house_10 ?_
    refine e_ireturn q_X12_house_11 rfl rfl ?_
    exact h1 c7
set_option maxRecDepth 20000 in
set_option maxHeartbeats 2000000 in
theorem k_group (hB : zB0 s) (hm : mI N){l : Int} (hl : zr l) (h1 : ¬ (0 ≤ l ∧ l ≤ 99) → Q (some (vi (-1))) (zI s N)) (h2 : 0 ≤ l ∧ l ≤ 99 → N 39 29 = 8 → Q (some (vi (-3))) (zI s N)) (h3 : 0 ≤ l ∧ l ≤ 99 → N 39 29 < 8 → Q (some (vi (N 39 29))) (zI s (n_group N l))) : zC X m_X12_group [.ref 39, vi l] (zI s N) Q := by
  have hR := hm.1
  have hC := hm.2.1
  unfold mCnt at hC
  show zE X m_X12_group 0 [.ref 39, vi l] [] _ Q
  refine e_iload_n q_X12_group_0 (by decide) rfl ?_
  refine e_iconst q_X12_group_1 ?_
  refine e_bipush q_X12_group_2 (by decide) ?_
  refine iv_X12_within q_X12_group_4 lk_X12_160 (by decide) (Nat.le_of_ble_eq_true rfl) ?_
  refine k_within hl (by constructor <;> omega) (by constructor <;> omega) ?_
  refine e_ifb_ne q_X12_group_7 (fun c7 => ?_) (fun c7 => ?_)
  · skip
    refine e_aload_n q_X12_group_12 (by decide) rfl ?_
    refine i_getI (k' := 29) q_X12_group_13 fl_X12_248 (a39 hB) rfl rfl rfl rfl ?_
    refine e_bipush q_X12_group_16 (by decide) ?_
    refine e_icmp_ne q_X12_group_18 (by first | exact hR _ _ | (constructor <;> omega) | assumption) (by first | exact hR _ _ | (constructor <;> omega) | assumption) (fun c18 => ?_) (fun c18 => ?_)
    · skip
      refine e_aload_n q_X12_group_24 (by decide) rfl ?_
      refine i_getC (r := 58) q_X12_group_25 fl_X12_70 (a39 hB) rfl (by decide) ?_
      refine e_aload_n q_X12_group_28 (by decide) rfl ?_
      refine i_getI (k' := 29) q_X12_group_29 fl_X12_248 (a39 hB) rfl rfl rfl rfl ?_
      refine e_iload_n q_X12_group_32 (by decide) rfl ?_
      refine i_iast q_X12_group_33 (a58 hB) (cref0 (by decide)) (by first | omega | assumption) (by first | omega | assumption) (by decide) ?_
      refine e_aload_n q_X12_group_34 (by decide) rfl ?_
      refine e_dup q_X12_group_35 rfl ?_
      refine i_getI (k' := 29) q_X12_group_36 fl_X12_248 (a39 hB) rfl rfl rfl (mup_cell (by decide)) ?_
      refine e_iconst q_X12_group_39 ?_
      refine e_iadd q_X12_group_40 ?_
      refine i_putI (k' := 29) q_X12_group_41 fl_X12_248 (Or.inl rfl) (a39 hB) rfl rfl rfl rfl rfl ?_
      refine e_aload_n q_X12_group_44 (by decide) rfl ?_
      refine i_getI (k' := 29) q_X12_group_45 fl_X12_248 (a39 hB) rfl rfl rfl (mup_self _ _ _ _) ?_
      refine e_iconst q_X12_group_48 ?_
      refine e_isub q_X12_group_49 ?_
      refine e_ireturn q_X12_group_50 rfl rfl ?_
      exact zqI (h3 c7 (by omega)) (by omega)
    · skip
      refine e_bipush q_X12_group_21 (by decide) ?_
      refine e_ireturn q_X12_group_23 rfl rfl ?_
      exact h2 c7 (by omega)
  · skip
    refine e_iconst q_X12_group_10 ?_
    refine e_ireturn q_X12_group_11 rfl rfl ?_
    exact h1 c7
set_option maxRecDepth 20000 in
set_option maxHeartbeats 2000000 in
theorem k_fair (hB : zB0 s) (hm : mI N){a b : Int} (ha : zr a) (hb : zr b) (h1 : ¬ ((0 ≤ a ∧ a ≤ 9999) ∧ (0 ≤ b ∧ b ≤ 9999) ∧ a ≤ b) → Q (some (vi (-1))) (zI s N)) (h2 : (0 ≤ a ∧ a ≤ 9999) ∧ (0 ≤ b ∧ b ≤ 9999) ∧ a ≤ b → N 39 26 = 9 → Q (some (vi (-3))) (zI s N)) (h3 : (0 ≤ a ∧ a ≤ 9999) ∧ (0 ≤ b ∧ b ≤ 9999) ∧ a ≤ b → N 39 26 < 9 → Q (some (vi (N 39 26))) (zI s (n_fair N a b))) : zC X m_X12_fair [.ref 39, vi a, vi b] (zI s N) Q := by
  have hR := hm.1
  have hC := hm.2.1
  unfold mCnt at hC
  show zE X m_X12_fair 0 [.ref 39, vi a, vi b] [] _ Q
  refine e_iload_n q_X12_fair_0 (by decide) rfl ?_
  refine iv_X12_isDay q_X12_fair_1 lk_X12_181 (by decide) (Nat.le_of_ble_eq_true rfl) ?_
  refine k_isDay ha ?_
  refine e_ifb_eq q_X12_fair_4 (fun c4 => ?_) (fun c4 => ?_)
  · skip
    refine e_iconst q_X12_fair_19 ?_
    refine e_ireturn q_X12_fair_20 rfl rfl ?_
    exact h1 (by omega)
  · skip
    refine e_iload_n q_X12_fair_7 (by decide) rfl ?_
    refine iv_X12_isDay q_X12_fair_8 lk_X12_181 (by decide) (Nat.le_of_ble_eq_true rfl) ?_
    refine k_isDay hb ?_
    refine e_ifb_eq q_X12_fair_11 (fun c11 => ?_) (fun c11 => ?_)
    · skip
      refine e_iconst q_X12_fair_19 ?_
      refine e_ireturn q_X12_fair_20 rfl rfl ?_
      exact h1 (by omega)
    · skip
      refine e_iload_n q_X12_fair_14 (by decide) rfl ?_
      refine e_iload_n q_X12_fair_15 (by decide) rfl ?_
      refine e_icmp_ge q_X12_fair_16 hb ha (fun c16 => ?_) (fun c16 => ?_)
      · skip
        refine e_aload_n q_X12_fair_21 (by decide) rfl ?_
        refine i_getI (k' := 26) q_X12_fair_22 fl_X12_245 (a39 hB) rfl rfl rfl rfl ?_
        refine e_bipush q_X12_fair_25 (by decide) ?_
        refine e_icmp_ne q_X12_fair_27 (by first | exact hR _ _ | (constructor <;> omega) | assumption) (by first | exact hR _ _ | (constructor <;> omega) | assumption) (fun c27 => ?_) (fun c27 => ?_)
        · skip
          refine e_aload_n q_X12_fair_33 (by decide) rfl ?_
          refine i_getC (r := 56) q_X12_fair_34 fl_X12_64 (a39 hB) rfl (by decide) ?_
          refine e_aload_n q_X12_fair_37 (by decide) rfl ?_
          refine i_getI (k' := 26) q_X12_fair_38 fl_X12_245 (a39 hB) rfl rfl rfl rfl ?_
          refine e_iload_n q_X12_fair_41 (by decide) rfl ?_
          refine i_iast q_X12_fair_42 (a56 hB) (cref0 (by decide)) (by first | omega | assumption) (by first | omega | assumption) (by decide) ?_
          refine e_aload_n q_X12_fair_43 (by decide) rfl ?_
          refine i_getC (r := 57) q_X12_fair_44 fl_X12_67 (a39 hB) rfl (by decide) ?_
          refine e_aload_n q_X12_fair_47 (by decide) rfl ?_
          refine i_getI (k' := 26) q_X12_fair_48 fl_X12_245 (a39 hB) rfl rfl rfl (mup_cell (by decide)) ?_
          refine e_iload_n q_X12_fair_51 (by decide) rfl ?_
          refine i_iast q_X12_fair_52 (a57 hB) (cref0 (by decide)) (by first | omega | assumption) (by first | omega | assumption) (by decide) ?_
          refine e_aload_n q_X12_fair_53 (by decide) rfl ?_
          refine e_dup q_X12_fair_54 rfl ?_
          refine i_getI (k' := 26) q_X12_fair_55 fl_X12_245 (a39 hB) rfl rfl rfl ((mup_cell (by decide)).trans (mup_cell (by decide))) ?_
          refine e_iconst q_X12_fair_58 ?_
          refine e_iadd q_X12_fair_59 ?_
          refine i_putI (k' := 26) q_X12_fair_60 fl_X12_245 (Or.inl rfl) (a39 hB) rfl rfl rfl rfl rfl ?_
          refine e_aload_n q_X12_fair_63 (by decide) rfl ?_
          refine i_getI (k' := 26) q_X12_fair_64 fl_X12_245 (a39 hB) rfl rfl rfl (mup_self _ _ _ _) ?_
          refine e_iconst q_X12_fair_67 ?_
          refine e_isub q_X12_fair_68 ?_
          refine e_ireturn q_X12_fair_69 rfl rfl ?_
          exact zqI (h3 (by omega) (by omega)) (by omega)
        · skip
          refine e_bipush q_X12_fair_30 (by decide) ?_
          refine e_ireturn q_X12_fair_32 rfl rfl ?_
          exact h2 (by omega) (by omega)
      · skip
        refine e_iconst q_X12_fair_19 ?_
        refine e_ireturn q_X12_fair_20 rfl rfl ?_
        exact h1 (by omega)
set_option maxRecDepth 20000 in
set_option maxHeartbeats 2000000 in
theorem k_person (hB : zB0 s) (hm : mI N){k b n h p f : Int} (hk : zr k) (hb : zr b) (hn : zr n) (hh : zr h) (hp : p = 0 ∨ p = 1) (hf : zr f) (h1 : ¬ ((0 ≤ k ∧ k ≤ 3) ∧ (-9999 ≤ b ∧ b ≤ 9999) ∧ (0 ≤ n ∧ n ≤ 39) ∧ (0 ≤ h ∧ h < N 39 0) ∧ (f = -1 ∨ (0 ≤ f ∧ f < N 39 2 ∧ N 41 f ≠ 3 ∧ N 42 f ≤ b - 1200))) → Q (some (vi (-1))) (zI s N)) (h2 : ((0 ≤ k ∧ k ≤ 3) ∧ (-9999 ≤ b ∧ b ≤ 9999) ∧ (0 ≤ n ∧ n ≤ 39) ∧ (0 ≤ h ∧ h < N 39 0) ∧ (f = -1 ∨ (0 ≤ f ∧ f < N 39 2 ∧ N 41 f ≠ 3 ∧ N 42 f ≤ b - 1200))) → N 39 2 = 48 → Q (some (vi (-3))) (zI s N)) (h3 : ((0 ≤ k ∧ k ≤ 3) ∧ (-9999 ≤ b ∧ b ≤ 9999) ∧ (0 ≤ n ∧ n ≤ 39) ∧ (0 ≤ h ∧ h < N 39 0) ∧ (f = -1 ∨ (0 ≤ f ∧ f < N 39 2 ∧ N 41 f ≠ 3 ∧ N 42 f ≤ b - 1200))) → N 39 2 < 48 → Q (some (vi (N 39 2))) (zI s (n_person N k b n h p f))) : zC X m_X12_person [.ref 39, vi k, vi b, vi n, vi h, vi p, vi f] (zI s N) Q := by
  have hR := hm.1
  have hC := hm.2.1
  unfold mCnt at hC
  show zE X m_X12_person 0 [.ref 39, vi k, vi b, vi n, vi h, vi p, vi f] [] _ Q
  refine e_iload_n q_X12_person_0 (by decide) rfl ?_
  refine e_iconst q_X12_person_1 ?_
  refine e_iconst q_X12_person_2 ?_
  refine iv_X12_within q_X12_person_3 lk_X12_160 (by decide) (Nat.le_of_ble_eq_true rfl) ?_
  refine k_within hk (by constructor <;> omega) (by constructor <;> omega) ?_
  refine e_ifb_eq q_X12_person_6 (fun c6 => ?_) (fun c6 => ?_)
  · skip
    refine e_iconst q_X12_person_56 ?_
    refine e_ireturn q_X12_person_57 rfl rfl ?_
    exact h1 (fun q => by first | exact c6 q.1 | exact c19 q.2.1 | exact c29 q.2.2.1 | exact c53 q.2.2.2.2 | (have q1 := q.2.2.2.1; omega))
  · skip
    refine e_iload_n q_X12_person_9 (by decide) rfl ?_
    refine e_sipush q_X12_person_10 (by decide) ?_
    refine e_sipush q_X12_person_13 (by decide) ?_
    refine iv_X12_within q_X12_person_16 lk_X12_160 (by decide) (Nat.le_of_ble_eq_true rfl) ?_
    refine k_within hb (by constructor <;> omega) (by constructor <;> omega) ?_
    refine e_ifb_eq q_X12_person_19 (fun c19 => ?_) (fun c19 => ?_)
    · skip
      refine e_iconst q_X12_person_56 ?_
      refine e_ireturn q_X12_person_57 rfl rfl ?_
      exact h1 (fun q => by first | exact c6 q.1 | exact c19 q.2.1 | exact c29 q.2.2.1 | exact c53 q.2.2.2.2 | (have q1 := q.2.2.2.1; omega))
    · skip
      refine e_iload_n q_X12_person_22 (by decide) rfl ?_
      refine e_iconst q_X12_person_23 ?_
      refine e_bipush q_X12_person_24 (by decide) ?_
      refine iv_X12_within q_X12_person_26 lk_X12_160 (by decide) (Nat.le_of_ble_eq_true rfl) ?_
      refine k_within hn (by constructor <;> omega) (by constructor <;> omega) ?_
      refine e_ifb_eq q_X12_person_29 (fun c29 => ?_) (fun c29 => ?_)
      · skip
        refine e_iconst q_X12_person_56 ?_
        refine e_ireturn q_X12_person_57 rfl rfl ?_
        exact h1 (fun q => by first | exact c6 q.1 | exact c19 q.2.1 | exact c29 q.2.2.1 | exact c53 q.2.2.2.2 | (have q1 := q.2.2.2.1; omega))
      · skip
        refine e_iload q_X12_person_32 (by decide) rfl ?_
        refine e_if_lt q_X12_person_34 hh (fun c34 => ?_) (fun c34 => ?_)
        · skip
          refine e_iconst q_X12_person_56 ?_
          refine e_ireturn q_X12_person_57 rfl rfl ?_
          exact h1 (fun q => by first | exact c6 q.1 | exact c19 q.2.1 | exact c29 q.2.2.1 | exact c53 q.2.2.2.2 | (have q1 := q.2.2.2.1; omega))
        · skip
          refine e_iload q_X12_person_37 (by decide) rfl ?_
          refine e_aload_n q_X12_person_39 (by decide) rfl ?_
          refine i_getI (k' := 0) q_X12_person_40 fl_X12_167 (a39 hB) rfl rfl rfl rfl ?_
          refine e_icmp_ge q_X12_person_43 hh (hR _ _) (fun c43 => ?_) (fun c43 => ?_)
          · skip
            refine e_iconst q_X12_person_56 ?_
            refine e_ireturn q_X12_person_57 rfl rfl ?_
            exact h1 (fun q => by first | exact c6 q.1 | exact c19 q.2.1 | exact c29 q.2.2.1 | exact c53 q.2.2.2.2 | (have q1 := q.2.2.2.1; omega))
          · skip
            refine e_aload_n q_X12_person_46 (by decide) rfl ?_
            refine e_iload q_X12_person_47 (by decide) rfl ?_
            refine e_iload_n q_X12_person_49 (by decide) rfl ?_
            refine iv_X12_mayFather q_X12_person_50 lk_X12_174 (by decide) (a39 hB) (Nat.le_of_ble_eq_true rfl) ?_
            refine k_mayFather hB hm hf c19 ?_
            refine e_ifb_ne q_X12_person_53 (fun c53 => ?_) (fun c53 => ?_)
            · skip
              refine e_aload_n q_X12_person_58 (by decide) rfl ?_
              refine i_getI (k' := 2) q_X12_person_59 fl_X12_164 (a39 hB) rfl rfl rfl rfl ?_
              refine e_bipush q_X12_person_62 (by decide) ?_
              refine e_icmp_ne q_X12_person_64 (by first | exact hR _ _ | (constructor <;> omega) | assumption) (by first | exact hR _ _ | (constructor <;> omega) | assumption) (fun c64 => ?_) (fun c64 => ?_)
              · skip
                refine e_aload_n q_X12_person_70 (by decide) rfl ?_
                refine i_getC (r := 41) q_X12_person_71 fl_X12_13 (a39 hB) rfl (by decide) ?_
                refine e_aload_n q_X12_person_74 (by decide) rfl ?_
                refine i_getI (k' := 2) q_X12_person_75 fl_X12_164 (a39 hB) rfl rfl rfl rfl ?_
                refine e_iload_n q_X12_person_78 (by decide) rfl ?_
                refine i_iast q_X12_person_79 (a41 hB) (cref0 (by decide)) (by first | omega | assumption) (by first | omega | assumption) (by decide) ?_
                refine e_aload_n q_X12_person_80 (by decide) rfl ?_
                refine i_getC (r := 42) q_X12_person_81 fl_X12_16 (a39 hB) rfl (by decide) ?_
                refine e_aload_n q_X12_person_84 (by decide) rfl ?_
                refine i_getI (k' := 2) q_X12_person_85 fl_X12_164 (a39 hB) rfl rfl rfl (mup_cell (by decide)) ?_
                refine e_iload_n q_X12_person_88 (by decide) rfl ?_
                refine i_iast q_X12_person_89 (a42 hB) (cref0 (by decide)) (by first | omega | assumption) (by first | omega | assumption) (by decide) ?_
                refine e_aload_n q_X12_person_90 (by decide) rfl ?_
                refine i_getC (r := 43) q_X12_person_91 fl_X12_19 (a39 hB) rfl (by decide) ?_
                refine e_aload_n q_X12_person_94 (by decide) rfl ?_
                refine i_getI (k' := 2) q_X12_person_95 fl_X12_164 (a39 hB) rfl rfl rfl ((mup_cell (by decide)).trans (mup_cell (by decide))) ?_
                refine e_iload_n q_X12_person_98 (by decide) rfl ?_
                refine i_iast q_X12_person_99 (a43 hB) (cref0 (by decide)) (by first | omega | assumption) (by first | omega | assumption) (by decide) ?_
                refine e_aload_n q_X12_person_100 (by decide) rfl ?_
                refine i_getC (r := 44) q_X12_person_101 fl_X12_22 (a39 hB) rfl (by decide) ?_
                refine e_aload_n q_X12_person_104 (by decide) rfl ?_
                refine i_getI (k' := 2) q_X12_person_105 fl_X12_164 (a39 hB) rfl rfl rfl ((mup_cell (by decide)).trans ((mup_cell (by decide)).trans (mup_cell (by decide)))) ?_
                refine e_iload q_X12_person_108 (by decide) rfl ?_
                refine i_iast q_X12_person_110 (a44 hB) (cref0 (by decide)) (by first | omega | assumption) (by first | omega | assumption) (by decide) ?_
                refine e_aload_n q_X12_person_111 (by decide) rfl ?_
                refine i_getC (r := 45) q_X12_person_112 fl_X12_25 (a39 hB) rfl (by decide) ?_
                refine e_aload_n q_X12_person_115 (by decide) rfl ?_
                refine i_getI (k' := 2) q_X12_person_116 fl_X12_164 (a39 hB) rfl rfl rfl ((mup_cell (by decide)).trans ((mup_cell (by decide)).trans ((mup_cell (by decide)).trans (mup_cell (by decide))))) ?_
                refine e_iload q_X12_person_119 (by decide) rfl ?_
                refine i_zast q_X12_person_121 (a45 hB) (cref0 (by decide)) (by first | omega | assumption) (by first | omega | assumption) (by decide) (by rcases hp with rfl | rfl <;> rfl) ?_
                refine e_aload_n q_X12_person_122 (by decide) rfl ?_
                refine i_getC (r := 46) q_X12_person_123 fl_X12_29 (a39 hB) rfl (by decide) ?_
                refine e_aload_n q_X12_person_126 (by decide) rfl ?_
                refine i_getI (k' := 2) q_X12_person_127 fl_X12_164 (a39 hB) rfl rfl rfl ((mup_cell (by decide)).trans ((mup_cell (by decide)).trans ((mup_cell (by decide)).trans ((mup_cell (by decide)).trans (mup_cell (by decide)))))) ?_
                refine e_iload q_X12_person_130 (by decide) rfl ?_
                refine i_iast q_X12_person_132 (a46 hB) (cref0 (by decide)) (by first | omega | assumption) (by first | omega | assumption) (by decide) ?_
                refine e_aload_n q_X12_person_133 (by decide) rfl ?_
                refine i_getC (r := 47) q_X12_person_134 fl_X12_32 (a39 hB) rfl (by decide) ?_
                refine e_aload_n q_X12_person_137 (by decide) rfl ?_
                refine i_getI (k' := 2) q_X12_person_138 fl_X12_164 (a39 hB) rfl rfl rfl ((mup_cell (by decide)).trans ((mup_cell (by decide)).trans ((mup_cell (by decide)).trans ((mup_cell (by decide)).trans ((mup_cell (by decide)).trans (mup_cell (by decide))))))) ?_
                refine e_ldc q_X12_person_141 co_X12_47 ?_
                refine i_iast q_X12_person_143 (a47 hB) (cref0 (by decide)) (by first | omega | assumption) (by first | omega | assumption) (by decide) ?_
                refine e_aload_n q_X12_person_144 (by decide) rfl ?_
                refine e_dup q_X12_person_145 rfl ?_
                refine i_getI (k' := 2) q_X12_person_146 fl_X12_164 (a39 hB) rfl rfl rfl ((mup_cell (by decide)).trans ((mup_cell (by decide)).trans ((mup_cell (by decide)).trans ((mup_cell (by decide)).trans ((mup_cell (by decide)).trans ((mup_cell (by decide)).trans (mup_cell (by decide)))))))) ?_
                refine e_iconst q_X12_person_149 ?_
                refine e_iadd q_X12_person_150 ?_
                refine i_putI (k' := 2) q_X12_person_151 fl_X12_164 (Or.inl rfl) (a39 hB) rfl rfl rfl rfl rfl ?_
                refine e_aload_n q_X12_person_154 (by decide) rfl ?_
                refine i_getI (k' := 2) q_X12_person_155 fl_X12_164 (a39 hB) rfl rfl rfl (mup_self _ _ _ _) ?_
                refine e_iconst q_X12_person_158 ?_
                refine e_isub q_X12_person_159 ?_
                refine e_ireturn q_X12_person_160 rfl rfl ?_
                exact zqI (h3 ⟨c6, c19, c29, by omega, c53⟩ (by omega)) (by omega)
              · skip
                refine e_bipush q_X12_person_67 (by decide) ?_
                refine e_ireturn q_X12_person_69 rfl rfl ?_
                exact h2 ⟨c6, c19, c29, by omega, c53⟩ (by omega)
            · skip
              refine e_iconst q_X12_person_56 ?_
              refine e_ireturn q_X12_person_57 rfl rfl ?_
              exact h1 (fun q => by first | exact c6 q.1 | exact c19 q.2.1 | exact c29 q.2.2.1 | exact c53 q.2.2.2.2 | (have q1 := q.2.2.2.1; omega))
set_option maxRecDepth 20000 in
set_option maxHeartbeats 2000000 in
theorem k_flees (hB : zB0 s) (hm : mI N){w : Int} (hw : zr w){d : Int} (hd : zr d)(hfl : N 39 10 < 600) (h1 : ¬ ((0 ≤ w ∧ w < N 39 2) ∧ (0 ≤ d ∧ d ≤ 9999)) → Q (some (vi (-1))) (zI s N)) (h2 : ((0 ≤ w ∧ w < N 39 2) ∧ (0 ≤ d ∧ d ≤ 9999)) → ¬ (N 47 w = 100000 ∧ ¬ away N w ∧ behind N w d) → Q (some (vi (-2))) (zI s N)) (h3 : ((0 ≤ w ∧ w < N 39 2) ∧ (0 ≤ d ∧ d ≤ 9999)) → N 47 w = 100000 ∧ ¬ away N w ∧ behind N w d → Q (some (vi 1)) (zI s (n_flees N w d))) : zC X m_X12_flees [.ref 39, vi w, vi d] (zI s N) Q := by
  have hR := hm.1
  have hC := hm.2.1
  unfold mCnt at hC
  show zE X m_X12_flees 0 [.ref 39, vi w, vi d] [] _ Q
  refine e_aload_n q_X12_flees_0 (by decide) rfl ?_
  refine e_iload_n q_X12_flees_1 (by decide) rfl ?_
  refine iv_X12_isOne q_X12_flees_2 lk_X12_170 (by decide) (a39 hB) (Nat.le_of_ble_eq_true rfl) ?_
  refine k_isOne hB hm hw ?_
  refine e_ifb_eq q_X12_flees_5 (fun c5 => ?_) (fun c5 => ?_)
  · skip
    refine e_iconst q_X12_flees_15 ?_
    refine e_ireturn q_X12_flees_16 rfl rfl ?_
    exact h1 (fun q => by first | exact c5 q.1 | exact c12 q.2)
  · skip
    refine e_iload_n q_X12_flees_8 (by decide) rfl ?_
    refine iv_X12_isDay q_X12_flees_9 lk_X12_181 (by decide) (Nat.le_of_ble_eq_true rfl) ?_
    refine k_isDay hd ?_
    refine e_ifb_ne q_X12_flees_12 (fun c12 => ?_) (fun c12 => ?_)
    · skip
      refine e_aload_n q_X12_flees_17 (by decide) rfl ?_
      refine e_iload_n q_X12_flees_18 (by decide) rfl ?_
      refine iv_X12_isDead q_X12_flees_19 lk_X12_178 (by decide) (a39 hB) (Nat.le_of_ble_eq_true rfl) ?_
      refine k_isDead hB hm (by omega) (by omega) ?_
      refine e_ifb_ne q_X12_flees_22 (fun c22 => ?_) (fun c22 => ?_)
      · skip
        refine e_bipush q_X12_flees_42 (by decide) ?_
        refine e_ireturn q_X12_flees_44 rfl rfl ?_
        exact h2 ⟨c5, c12⟩ (fun q => by first | (have q1 := q.1; omega) | exact q.2.1 c30 | exact c39 q.2.2)
      · skip
        refine e_aload_n q_X12_flees_25 (by decide) rfl ?_
        refine e_iload_n q_X12_flees_26 (by decide) rfl ?_
        refine iv_X12_isAway q_X12_flees_27 lk_X12_191 (by decide) (a39 hB) (Nat.le_of_ble_eq_true rfl) ?_
        refine k_isAway hB hm (by omega) (by omega) ?_
        refine e_ifb_ne q_X12_flees_30 (fun c30 => ?_) (fun c30 => ?_)
        · skip
          refine e_bipush q_X12_flees_42 (by decide) ?_
          refine e_ireturn q_X12_flees_44 rfl rfl ?_
          exact h2 ⟨c5, c12⟩ (fun q => by first | (have q1 := q.1; omega) | exact q.2.1 c30 | exact c39 q.2.2)
        · skip
          refine e_aload_n q_X12_flees_33 (by decide) rfl ?_
          refine e_iload_n q_X12_flees_34 (by decide) rfl ?_
          refine e_iload_n q_X12_flees_35 (by decide) rfl ?_
          refine iv_X12_isBehind q_X12_flees_36 lk_X12_194 (by decide) (a39 hB) (Nat.le_of_ble_eq_true rfl) ?_
          refine k_isBehind hB hm (by omega) (by omega) c12 ?_
          refine e_ifb_ne q_X12_flees_39 (fun c39 => ?_) (fun c39 => ?_)
          · skip
            refine e_aload_n q_X12_flees_45 (by decide) rfl ?_
            refine i_getC (r := 48) q_X12_flees_46 fl_X12_35 (a39 hB) rfl (by decide) ?_
            refine e_aload_n q_X12_flees_49 (by decide) rfl ?_
            refine i_getI (k' := 10) q_X12_flees_50 fl_X12_184 (a39 hB) rfl rfl rfl rfl ?_
            refine e_iload_n q_X12_flees_53 (by decide) rfl ?_
            refine i_iast q_X12_flees_54 (a48 hB) (cref0 (by decide)) (by first | omega | assumption) (by first | omega | assumption) (by decide) ?_
            refine e_aload_n q_X12_flees_55 (by decide) rfl ?_
            refine i_getC (r := 49) q_X12_flees_56 fl_X12_38 (a39 hB) rfl (by decide) ?_
            refine e_aload_n q_X12_flees_59 (by decide) rfl ?_
            refine i_getI (k' := 10) q_X12_flees_60 fl_X12_184 (a39 hB) rfl rfl rfl (mup_cell (by decide)) ?_
            refine e_iload_n q_X12_flees_63 (by decide) rfl ?_
            refine i_iast q_X12_flees_64 (a49 hB) (cref0 (by decide)) (by first | omega | assumption) (by first | omega | assumption) (by decide) ?_
            refine e_aload_n q_X12_flees_65 (by decide) rfl ?_
            refine i_getC (r := 50) q_X12_flees_66 fl_X12_41 (a39 hB) rfl (by decide) ?_
            refine e_aload_n q_X12_flees_69 (by decide) rfl ?_
            refine i_getI (k' := 10) q_X12_flees_70 fl_X12_184 (a39 hB) rfl rfl rfl ((mup_cell (by decide)).trans (mup_cell (by decide))) ?_
            refine e_ldc q_X12_flees_73 co_X12_47 ?_
            refine i_iast q_X12_flees_75 (a50 hB) (cref0 (by decide)) (by first | omega | assumption) (by first | omega | assumption) (by decide) ?_
            refine e_aload_n q_X12_flees_76 (by decide) rfl ?_
            refine e_dup q_X12_flees_77 rfl ?_
            refine i_getI (k' := 10) q_X12_flees_78 fl_X12_184 (a39 hB) rfl rfl rfl ((mup_cell (by decide)).trans ((mup_cell (by decide)).trans (mup_cell (by decide)))) ?_
            refine e_iconst q_X12_flees_81 ?_
            refine e_iadd q_X12_flees_82 ?_
            refine i_putI (k' := 10) q_X12_flees_83 fl_X12_184 (Or.inl rfl) (a39 hB) rfl rfl rfl rfl rfl ?_
            refine e_iconst q_X12_flees_86 ?_
            refine e_ireturn q_X12_flees_87 rfl rfl ?_
            exact h3 ⟨c5, c12⟩ ⟨by omega, c30, c39⟩
          · skip
            refine e_bipush q_X12_flees_42 (by decide) ?_
            refine e_ireturn q_X12_flees_44 rfl rfl ?_
            exact h2 ⟨c5, c12⟩ (fun q => by first | (have q1 := q.1; omega) | exact q.2.1 c30 | exact c39 q.2.2)
    · skip
      refine e_iconst q_X12_flees_15 ?_
      refine e_ireturn q_X12_flees_16 rfl rfl ?_
      exact h1 (fun q => by first | exact c5 q.1 | exact c12 q.2)
set_option maxRecDepth 20000 in
set_option maxHeartbeats 2000000 in
theorem k_back (hB : zB0 s) (hm : mI N){w : Int} (hw : zr w){d : Int} (hd : zr d)(h1 : ¬ ((0 ≤ w ∧ w < N 39 2) ∧ (0 ≤ d ∧ d ≤ 9999)) → Q (some (vi (-1))) (zI s N)) (h2 : ((0 ≤ w ∧ w < N 39 2) ∧ (0 ≤ d ∧ d ≤ 9999)) → ¬ (N 47 w = 100000 ∧ away N w ∧ behind N w d) → Q (some (vi (-2))) (zI s N)) (h3 : ((0 ≤ w ∧ w < N 39 2) ∧ (0 ≤ d ∧ d ≤ 9999)) → N 47 w = 100000 ∧ away N w ∧ behind N w d → Q (some (vi (d - N 49 (lastF N w)))) (zI s (mup N 50 (lastF N w) d))) : zC X m_X12_back [.ref 39, vi w, vi d] (zI s N) Q := by
  have hR := hm.1
  have hC := hm.2.1
  unfold mCnt at hC
  show zE X m_X12_back 0 [.ref 39, vi w, vi d, zU] [] _ Q
  refine e_aload_n q_X12_back_0 (by decide) rfl ?_
  refine e_iload_n q_X12_back_1 (by decide) rfl ?_
  refine iv_X12_isOne q_X12_back_2 lk_X12_170 (by decide) (a39 hB) (Nat.le_of_ble_eq_true rfl) ?_
  refine k_isOne hB hm hw ?_
  refine e_ifb_eq q_X12_back_5 (fun c5 => ?_) (fun c5 => ?_)
  · skip
    refine e_iconst q_X12_back_15 ?_
    refine e_ireturn q_X12_back_16 rfl rfl ?_
    exact h1 (fun q => by first | exact c5 q.1 | exact c12 q.2)
  · skip
    refine e_iload_n q_X12_back_8 (by decide) rfl ?_
    refine iv_X12_isDay q_X12_back_9 lk_X12_181 (by decide) (Nat.le_of_ble_eq_true rfl) ?_
    refine k_isDay hd ?_
    refine e_ifb_ne q_X12_back_12 (fun c12 => ?_) (fun c12 => ?_)
    · skip
      refine e_aload_n q_X12_back_17 (by decide) rfl ?_
      refine e_iload_n q_X12_back_18 (by decide) rfl ?_
      refine iv_X12_isAway q_X12_back_19 lk_X12_191 (by decide) (a39 hB) (Nat.le_of_ble_eq_true rfl) ?_
      refine k_isAway hB hm (by omega) (by omega) ?_
      refine e_ifb_eq q_X12_back_22 (fun c22 => ?_) (fun c22 => ?_)
      · skip
        refine e_bipush q_X12_back_42 (by decide) ?_
        refine e_ireturn q_X12_back_44 rfl rfl ?_
        exact h2 ⟨c5, c12⟩ (fun q => by first | (have q1 := q.1; omega) | exact c22 q.2.1 | exact c39 q.2.2)
      · skip
        refine e_aload_n q_X12_back_25 (by decide) rfl ?_
        refine e_iload_n q_X12_back_26 (by decide) rfl ?_
        refine iv_X12_isDead q_X12_back_27 lk_X12_178 (by decide) (a39 hB) (Nat.le_of_ble_eq_true rfl) ?_
        refine k_isDead hB hm (by omega) (by omega) ?_
        refine e_ifb_ne q_X12_back_30 (fun c30 => ?_) (fun c30 => ?_)
        · skip
          refine e_bipush q_X12_back_42 (by decide) ?_
          refine e_ireturn q_X12_back_44 rfl rfl ?_
          exact h2 ⟨c5, c12⟩ (fun q => by first | (have q1 := q.1; omega) | exact c22 q.2.1 | exact c39 q.2.2)
        · skip
          refine e_aload_n q_X12_back_33 (by decide) rfl ?_
          refine e_iload_n q_X12_back_34 (by decide) rfl ?_
          refine e_iload_n q_X12_back_35 (by decide) rfl ?_
          refine iv_X12_isBehind q_X12_back_36 lk_X12_194 (by decide) (a39 hB) (Nat.le_of_ble_eq_true rfl) ?_
          refine k_isBehind hB hm (by omega) (by omega) c12 ?_
          refine e_ifb_ne q_X12_back_39 (fun c39 => ?_) (fun c39 => ?_)
          · skip
            refine e_aload_n q_X12_back_45 (by decide) rfl ?_
            refine e_iload_n q_X12_back_46 (by decide) rfl ?_
            refine iv_X12_lastFlight q_X12_back_47 lk_X12_187 (by decide) (a39 hB) (Nat.le_of_ble_eq_true rfl) ?_
            refine k_lastFlight hB hm hw ?_
            have hl := lastF_b N w
            have ha0 := c22.1
            refine e_istore_n (ls' := [_, _, _, _]) q_X12_back_50 (by decide) rfl rfl ?_
            refine e_aload_n q_X12_back_51 (by decide) rfl ?_
            refine i_getC (r := 50) q_X12_back_52 fl_X12_41 (a39 hB) rfl (by decide) ?_
            refine e_iload_n q_X12_back_55 (by decide) rfl ?_
            refine e_iload_n q_X12_back_56 (by decide) rfl ?_
            refine i_iast q_X12_back_57 (a50 hB) (cref0 (by decide)) (by first | omega | assumption) (by first | omega | assumption) (by decide) ?_
            refine e_iload_n q_X12_back_58 (by decide) rfl ?_
            refine e_aload_n q_X12_back_59 (by decide) rfl ?_
            refine i_getC (r := 49) q_X12_back_60 fl_X12_38 (a39 hB) rfl (by decide) ?_
            refine e_iload_n q_X12_back_63 (by decide) rfl ?_
            refine i_iald q_X12_back_64 (a49 hB) (cref0 (by decide)) (by first | omega | assumption) (by first | omega | assumption) (by decide) (mup_cell (by decide)) ?_
            refine e_isub q_X12_back_65 ?_
            refine e_ireturn q_X12_back_66 rfl rfl ?_
            exact h3 ⟨c5, c12⟩ ⟨by omega, c22, c39⟩
          · skip
            refine e_bipush q_X12_back_42 (by decide) ?_
            refine e_ireturn q_X12_back_44 rfl rfl ?_
            exact h2 ⟨c5, c12⟩ (fun q => by first | (have q1 := q.1; omega) | exact c22 q.2.1 | exact c39 q.2.2)
    · skip
      refine e_iconst q_X12_back_15 ?_
      refine e_ireturn q_X12_back_16 rfl rfl ?_
      exact h1 (fun q => by first | exact c5 q.1 | exact c12 q.2)
set_option maxRecDepth 20000 in
set_option maxHeartbeats 2000000 in
theorem k_begin (hB : zB0 s) {w g d : Int} (hc0 : 0 ≤ N 39 31) (hc1 : N 39 31 < 4000) (h : Q none (zI s (n_begin N w g d))) : zC X m_X12_begin [.ref 39, vi w, vi g, vi d] (zI s N) Q := by
  show zE X m_X12_begin 0 [.ref 39, vi w, vi g, vi d] [] _ Q
  refine e_aload_n q_X12_begin_0 (by decide) rfl ?_
  refine i_getC (r := 59) q_X12_begin_1 fl_X12_73 (a39 hB) rfl (by decide) ?_
  refine e_aload_n q_X12_begin_4 (by decide) rfl ?_
  refine i_getI (k' := 31) q_X12_begin_5 fl_X12_251 (a39 hB) rfl rfl rfl rfl ?_
  refine e_iload_n q_X12_begin_8 (by decide) rfl ?_
  refine i_iast q_X12_begin_9 (a59 hB) (cref0 (by decide)) (by first | omega | assumption) (by first | omega | assumption) (by decide) ?_
  refine e_aload_n q_X12_begin_10 (by decide) rfl ?_
  refine i_getC (r := 60) q_X12_begin_11 fl_X12_76 (a39 hB) rfl (by decide) ?_
  refine e_aload_n q_X12_begin_14 (by decide) rfl ?_
  refine i_getI (k' := 31) q_X12_begin_15 fl_X12_251 (a39 hB) rfl rfl rfl (mup_cell (by decide)) ?_
  refine e_iload_n q_X12_begin_18 (by decide) rfl ?_
  refine i_iast q_X12_begin_19 (a60 hB) (cref0 (by decide)) (by first | omega | assumption) (by first | omega | assumption) (by decide) ?_
  refine e_aload_n q_X12_begin_20 (by decide) rfl ?_
  refine i_getC (r := 61) q_X12_begin_21 fl_X12_79 (a39 hB) rfl (by decide) ?_
  refine e_aload_n q_X12_begin_24 (by decide) rfl ?_
  refine i_getI (k' := 31) q_X12_begin_25 fl_X12_251 (a39 hB) rfl rfl rfl ((mup_cell (by decide)).trans (mup_cell (by decide))) ?_
  refine e_iload_n q_X12_begin_28 (by decide) rfl ?_
  refine i_iast q_X12_begin_29 (a61 hB) (cref0 (by decide)) (by first | omega | assumption) (by first | omega | assumption) (by decide) ?_
  refine e_aload_n q_X12_begin_30 (by decide) rfl ?_
  refine i_getC (r := 62) q_X12_begin_31 fl_X12_82 (a39 hB) rfl (by decide) ?_
  refine e_aload_n q_X12_begin_34 (by decide) rfl ?_
  refine i_getI (k' := 31) q_X12_begin_35 fl_X12_251 (a39 hB) rfl rfl rfl ((mup_cell (by decide)).trans ((mup_cell (by decide)).trans (mup_cell (by decide)))) ?_
  refine e_ldc q_X12_begin_38 co_X12_47 ?_
  refine i_iast q_X12_begin_40 (a62 hB) (cref0 (by decide)) (by first | omega | assumption) (by first | omega | assumption) (by decide) ?_
  refine e_aload_n q_X12_begin_41 (by decide) rfl ?_
  refine e_dup q_X12_begin_42 rfl ?_
  refine i_getI (k' := 31) q_X12_begin_43 fl_X12_251 (a39 hB) rfl rfl rfl ((mup_cell (by decide)).trans ((mup_cell (by decide)).trans ((mup_cell (by decide)).trans (mup_cell (by decide))))) ?_
  refine e_iconst q_X12_begin_46 ?_
  refine e_iadd q_X12_begin_47 ?_
  refine i_putI (k' := 31) q_X12_begin_48 fl_X12_251 (Or.inl rfl) (a39 hB) rfl rfl rfl rfl rfl ?_
  refine e_return q_X12_begin_51 rfl ?_
  exact h
set_option maxRecDepth 20000 in
set_option maxHeartbeats 2000000 in
theorem k_joins (hB : zB0 s) (hm : mI N){w : Int} (hw : zr w){g : Int} (hg : zr g){d : Int} (hd : zr d)(hsp : N 39 31 < 4000) (h1 : ¬ ((0 ≤ w ∧ w < N 39 2) ∧ (0 ≤ g ∧ g < N 39 29) ∧ (0 ≤ d ∧ d ≤ 9999)) → Q (some (vi (-1))) (zI s N)) (h2 : ((0 ≤ w ∧ w < N 39 2) ∧ (0 ≤ g ∧ g < N 39 29) ∧ (0 ≤ d ∧ d ≤ 9999)) → N 41 w = 3 → Q (some (vi (-12))) (zI s N)) (h3 : ((0 ≤ w ∧ w < N 39 2) ∧ (0 ≤ g ∧ g < N 39 29) ∧ (0 ≤ d ∧ d ≤ 9999)) → N 41 w ≠ 3 → ¬ (tHere N w d ∧ ¬ boundS N w d) → Q (some (vi (-2))) (zI s N)) (h4 : ((0 ≤ w ∧ w < N 39 2) ∧ (0 ≤ g ∧ g < N 39 29) ∧ (0 ≤ d ∧ d ≤ 9999)) → N 41 w ≠ 3 → tHere N w d ∧ ¬ boundS N w d → 10 ≤ mems N g d → Q (some (vi (-3))) (zI s N)) (h5 : ((0 ≤ w ∧ w < N 39 2) ∧ (0 ≤ g ∧ g < N 39 29) ∧ (0 ≤ d ∧ d ≤ 9999)) → N 41 w ≠ 3 → tHere N w d ∧ ¬ boundS N w d → mems N g d < 10 → mI (n_begin N w g d) ∧ Q (some (vi (mems (n_begin N w g d) g d))) (zI s (n_begin N w g d))) : zC X m_X12_joins [.ref 39, vi w, vi g, vi d] (zI s N) Q := by
  have hR := hm.1
  have hC := hm.2.1
  unfold mCnt at hC
  show zE X m_X12_joins 0 [.ref 39, vi w, vi g, vi d] [] _ Q
  refine e_aload_n q_X12_joins_0 (by decide) rfl ?_
  refine e_iload_n q_X12_joins_1 (by decide) rfl ?_
  refine iv_X12_isOne q_X12_joins_2 lk_X12_170 (by decide) (a39 hB) (Nat.le_of_ble_eq_true rfl) ?_
  refine k_isOne hB hm hw ?_
  refine e_ifb_eq q_X12_joins_5 (fun c5 => ?_) (fun c5 => ?_)
  · skip
    refine e_iconst q_X12_joins_23 ?_
    refine e_ireturn q_X12_joins_24 rfl rfl ?_
    exact h1 (fun q => by first | exact c5 q.1 | exact c13 q.2.1 | exact c20 q.2.2)
  · skip
    refine e_aload_n q_X12_joins_8 (by decide) rfl ?_
    refine e_iload_n q_X12_joins_9 (by decide) rfl ?_
    refine iv_X12_isGroup q_X12_joins_10 lk_X12_261 (by decide) (a39 hB) (Nat.le_of_ble_eq_true rfl) ?_
    refine k_isGroup hB hm hg ?_
    refine e_ifb_eq q_X12_joins_13 (fun c13 => ?_) (fun c13 => ?_)
    · skip
      refine e_iconst q_X12_joins_23 ?_
      refine e_ireturn q_X12_joins_24 rfl rfl ?_
      exact h1 (fun q => by first | exact c5 q.1 | exact c13 q.2.1 | exact c20 q.2.2)
    · skip
      refine e_iload_n q_X12_joins_16 (by decide) rfl ?_
      refine iv_X12_isDay q_X12_joins_17 lk_X12_181 (by decide) (Nat.le_of_ble_eq_true rfl) ?_
      refine k_isDay hd ?_
      refine e_ifb_ne q_X12_joins_20 (fun c20 => ?_) (fun c20 => ?_)
      · skip
        refine e_aload_n q_X12_joins_25 (by decide) rfl ?_
        refine i_getC (r := 41) q_X12_joins_26 fl_X12_13 (a39 hB) rfl (by decide) ?_
        refine e_iload_n q_X12_joins_29 (by decide) rfl ?_
        refine i_iald q_X12_joins_30 (a41 hB) (cref0 (by decide)) (by first | omega | assumption) (by first | omega | assumption) (by decide) rfl ?_
        refine e_iconst q_X12_joins_31 ?_
        refine e_icmp_ne q_X12_joins_32 (by first | exact hR _ _ | (constructor <;> omega) | assumption) (by first | exact hR _ _ | (constructor <;> omega) | assumption) (fun c32 => ?_) (fun c32 => ?_)
        · skip
          refine e_aload_n q_X12_joins_38 (by decide) rfl ?_
          refine e_iload_n q_X12_joins_39 (by decide) rfl ?_
          refine e_iload_n q_X12_joins_40 (by decide) rfl ?_
          refine iv_X12_isThere q_X12_joins_41 lk_X12_197 (by decide) (a39 hB) (Nat.le_of_ble_eq_true rfl) ?_
          refine k_isThere hB hm (by omega) (by omega) c20 ?_
          refine e_ifb_eq q_X12_joins_44 (fun c44 => ?_) (fun c44 => ?_)
          · skip
            refine e_bipush q_X12_joins_56 (by decide) ?_
            refine e_ireturn q_X12_joins_58 rfl rfl ?_
            exact h3 ⟨c5, c13, c20⟩ c32 (fun q => by first | exact c44 q.1 | exact q.2 c53)
          · skip
            refine e_aload_n q_X12_joins_47 (by decide) rfl ?_
            refine e_iload_n q_X12_joins_48 (by decide) rfl ?_
            refine e_iload_n q_X12_joins_49 (by decide) rfl ?_
            refine iv_X12_isBound q_X12_joins_50 lk_X12_264 (by decide) (a39 hB) (Nat.le_of_ble_eq_true rfl) ?_
            refine k_isBound hB hm c5.1 c5.2 c20 ?_
            refine e_ifb_eq q_X12_joins_53 (fun c53 => ?_) (fun c53 => ?_)
            · skip
              refine e_aload_n q_X12_joins_59 (by decide) rfl ?_
              refine e_iload_n q_X12_joins_60 (by decide) rfl ?_
              refine e_iload_n q_X12_joins_61 (by decide) rfl ?_
              refine iv_X12_membersOf q_X12_joins_62 lk_X12_267 (by decide) (a39 hB) (Nat.le_of_ble_eq_true rfl) ?_
              refine k_membersOf hB hm hg c20 ?_
              have hmr := mems_r hm g d
              refine e_bipush q_X12_joins_65 (by decide) ?_
              refine e_icmp_lt q_X12_joins_67 (by first | exact hR _ _ | (constructor <;> omega) | assumption) (by first | exact hR _ _ | (constructor <;> omega) | assumption) (fun c67 => ?_) (fun c67 => ?_)
              · skip
                have h5 := h5 ⟨c5, c13, c20⟩ c32 ⟨c44, c53⟩ (by omega)
                refine e_aload_n q_X12_joins_73 (by decide) rfl ?_
                refine e_iload_n q_X12_joins_74 (by decide) rfl ?_
                refine e_iload_n q_X12_joins_75 (by decide) rfl ?_
                refine e_iload_n q_X12_joins_76 (by decide) rfl ?_
                refine iv_X12_begin q_X12_joins_77 lk_X12_270 (by decide) (a39 hB) (Nat.le_of_ble_eq_true rfl) ?_
                refine k_begin hB (by omega) hsp ?_
                refine e_aload_n q_X12_joins_80 (by decide) rfl ?_
                refine e_iload_n q_X12_joins_81 (by decide) rfl ?_
                refine e_iload_n q_X12_joins_82 (by decide) rfl ?_
                refine iv_X12_membersOf q_X12_joins_83 lk_X12_267 (by decide) (a39 hB) (Nat.le_of_ble_eq_true rfl) ?_
                refine k_membersOf hB h5.1 hg c20 ?_
                refine e_ireturn q_X12_joins_86 rfl rfl ?_
                exact h5.2
              · skip
                refine e_bipush q_X12_joins_70 (by decide) ?_
                refine e_ireturn q_X12_joins_72 rfl rfl ?_
                exact h4 ⟨c5, c13, c20⟩ c32 ⟨c44, c53⟩ (by omega)
            · skip
              refine e_bipush q_X12_joins_56 (by decide) ?_
              refine e_ireturn q_X12_joins_58 rfl rfl ?_
              exact h3 ⟨c5, c13, c20⟩ c32 (fun q => by first | exact c44 q.1 | exact q.2 c53)
        · skip
          refine e_bipush q_X12_joins_35 (by decide) ?_
          refine e_ireturn q_X12_joins_37 rfl rfl ?_
          exact h2 ⟨c5, c13, c20⟩ (by omega)
      · skip
        refine e_iconst q_X12_joins_23 ?_
        refine e_ireturn q_X12_joins_24 rfl rfl ?_
        exact h1 (fun q => by first | exact c5 q.1 | exact c13 q.2.1 | exact c20 q.2.2)
set_option maxRecDepth 20000 in
set_option maxHeartbeats 2000000 in
theorem k_leaves (hB : zB0 s) (hm : mI N){w : Int} (hw : zr w){d : Int} (hd : zr d)(h1 : ¬ ((0 ≤ w ∧ w < N 39 2) ∧ (0 ≤ d ∧ d ≤ 9999)) → Q (some (vi (-1))) (zI s N)) (h2 : ((0 ≤ w ∧ w < N 39 2) ∧ (0 ≤ d ∧ d ≤ 9999)) → (∀ j : Nat, (j : Int) < N 39 31 → ¬ (fun k : Nat => N 59 k = w ∧ N 62 k = 100000 ∧ N 61 k < d) j) → Q (some (vi (-2))) (zI s N)) (h3 : ((0 ≤ w ∧ w < N 39 2) ∧ (0 ≤ d ∧ d ≤ 9999)) → ∀ i : Nat, (i : Int) < N 39 31 → (fun k : Nat => N 59 k = w ∧ N 62 k = 100000 ∧ N 61 k < d) i → (∀ j, j < i → ¬ (fun k : Nat => N 59 k = w ∧ N 62 k = 100000 ∧ N 61 k < d) j) → Q (some (vi (N 60 i))) (zI s (mup N 62 i d))) : zC X m_X12_leaves [.ref 39, vi w, vi d] (zI s N) Q := by
  have hR := hm.1
  have hC := hm.2.1
  unfold mCnt at hC
  show zE X m_X12_leaves 0 [.ref 39, vi w, vi d, zU] [] _ Q
  refine e_aload_n q_X12_leaves_0 (by decide) rfl ?_
  refine e_iload_n q_X12_leaves_1 (by decide) rfl ?_
  refine iv_X12_isOne q_X12_leaves_2 lk_X12_170 (by decide) (a39 hB) (Nat.le_of_ble_eq_true rfl) ?_
  refine k_isOne hB hm hw ?_
  refine e_ifb_eq q_X12_leaves_5 (fun c5 => ?_) (fun c5 => ?_)
  · skip
    refine e_iconst q_X12_leaves_15 ?_
    refine e_ireturn q_X12_leaves_16 rfl rfl ?_
    exact h1 (fun q => by first | exact c5 q.1 | exact c12 q.2)
  · skip
    refine e_iload_n q_X12_leaves_8 (by decide) rfl ?_
    refine iv_X12_isDay q_X12_leaves_9 lk_X12_181 (by decide) (Nat.le_of_ble_eq_true rfl) ?_
    refine k_isDay hd ?_
    refine e_ifb_ne q_X12_leaves_12 (fun c12 => ?_) (fun c12 => ?_)
    · skip
      refine e_iconst q_X12_leaves_17 ?_
      refine e_istore_n (ls' := [_, _, _, _]) q_X12_leaves_18 (by decide) rfl rfl ?_
      refine zEe (ls := [.ref 39, vi w, vi d, vi ((0 : Nat) : Int)]) (σ := (zI s N)) ?_ rfl rfl
      refine z_for (P := fun i => (∀ j, j < i → ¬ (fun k : Nat => N 59 k = w ∧ N 62 k = 100000 ∧ N 61 k < d) j) → zE X m_X12_leaves 19 [.ref 39, vi w, vi d, vi (i : Int)] [] (zI s N) Q) (N 39 31).toNat (fun i hi ih hn => ?_) (fun hn => ?_) (by intro j hj; omega)
      · skip
        refine e_iload_n q_X12_leaves_19 (by decide) rfl ?_
        refine e_aload_n q_X12_leaves_20 (by decide) rfl ?_
        refine i_getI (k' := 31) q_X12_leaves_21 fl_X12_251 (a39 hB) rfl rfl rfl rfl ?_
        refine e_icmp_ge q_X12_leaves_24 (by first | exact hR _ _ | (constructor <;> omega) | assumption) (by first | exact hR _ _ | (constructor <;> omega) | assumption) (fun c24 => ?_) (fun c24 => ?_)
        · skip
          exact absurd c24 (by omega)
        · skip
          refine e_aload_n q_X12_leaves_27 (by decide) rfl ?_
          refine i_getC (r := 59) q_X12_leaves_28 fl_X12_73 (a39 hB) rfl (by decide) ?_
          refine e_iload_n q_X12_leaves_31 (by decide) rfl ?_
          refine i_iald q_X12_leaves_32 (a59 hB) (cref0 (by decide)) (by first | omega | assumption) (by first | omega | assumption) (by decide) rfl ?_
          refine e_iload_n q_X12_leaves_33 (by decide) rfl ?_
          refine e_icmp_ne q_X12_leaves_34 (by first | exact hR _ _ | (constructor <;> omega) | assumption) (by first | exact hR _ _ | (constructor <;> omega) | assumption) (fun c34 => ?_) (fun c34 => ?_)
          · skip
            refine e_iinc (ls' := [_, _, _, _]) q_X12_leaves_72 (by decide) rfl rfl rfl ?_
            refine e_goto q_X12_leaves_75 ?_
            exact ih (z_lt1 hn (by omega))
          · skip
            refine e_aload_n q_X12_leaves_37 (by decide) rfl ?_
            refine i_getC (r := 62) q_X12_leaves_38 fl_X12_82 (a39 hB) rfl (by decide) ?_
            refine e_iload_n q_X12_leaves_41 (by decide) rfl ?_
            refine i_iald q_X12_leaves_42 (a62 hB) (cref0 (by decide)) (by first | omega | assumption) (by first | omega | assumption) (by decide) rfl ?_
            refine e_ldc q_X12_leaves_43 co_X12_47 ?_
            refine e_icmp_ne q_X12_leaves_45 (by first | exact hR _ _ | (constructor <;> omega) | assumption) (by first | exact hR _ _ | (constructor <;> omega) | assumption) (fun c45 => ?_) (fun c45 => ?_)
            · skip
              refine e_iinc (ls' := [_, _, _, _]) q_X12_leaves_72 (by decide) rfl rfl rfl ?_
              refine e_goto q_X12_leaves_75 ?_
              exact ih (z_lt1 hn (by omega))
            · skip
              refine e_aload_n q_X12_leaves_48 (by decide) rfl ?_
              refine i_getC (r := 61) q_X12_leaves_49 fl_X12_79 (a39 hB) rfl (by decide) ?_
              refine e_iload_n q_X12_leaves_52 (by decide) rfl ?_
              refine i_iald q_X12_leaves_53 (a61 hB) (cref0 (by decide)) (by first | omega | assumption) (by first | omega | assumption) (by decide) rfl ?_
              refine e_iload_n q_X12_leaves_54 (by decide) rfl ?_
              refine e_icmp_ge q_X12_leaves_55 (by first | exact hR _ _ | (constructor <;> omega) | assumption) (by first | exact hR _ _ | (constructor <;> omega) | assumption) (fun c55 => ?_) (fun c55 => ?_)
              · skip
                refine e_iinc (ls' := [_, _, _, _]) q_X12_leaves_72 (by decide) rfl rfl rfl ?_
                refine e_goto q_X12_leaves_75 ?_
                exact ih (z_lt1 hn (by omega))
              · skip
                refine e_aload_n q_X12_leaves_58 (by decide) rfl ?_
                refine i_getC (r := 62) q_X12_leaves_59 fl_X12_82 (a39 hB) rfl (by decide) ?_
                refine e_iload_n q_X12_leaves_62 (by decide) rfl ?_
                refine e_iload_n q_X12_leaves_63 (by decide) rfl ?_
                refine i_iast q_X12_leaves_64 (a62 hB) (cref0 (by decide)) (by first | omega | assumption) (by first | omega | assumption) (by decide) ?_
                refine e_aload_n q_X12_leaves_65 (by decide) rfl ?_
                refine i_getC (r := 60) q_X12_leaves_66 fl_X12_76 (a39 hB) rfl (by decide) ?_
                refine e_iload_n q_X12_leaves_69 (by decide) rfl ?_
                refine i_iald q_X12_leaves_70 (a60 hB) (cref0 (by decide)) (by first | omega | assumption) (by first | omega | assumption) (by decide) (mup_cell (by decide)) ?_
                refine e_ireturn q_X12_leaves_71 rfl rfl ?_
                exact h3 ⟨c5, c12⟩ i (by omega) ⟨c34, c45, by omega⟩ hn
      · skip
        refine e_iload_n q_X12_leaves_19 (by decide) rfl ?_
        refine e_aload_n q_X12_leaves_20 (by decide) rfl ?_
        refine i_getI (k' := 31) q_X12_leaves_21 fl_X12_251 (a39 hB) rfl rfl rfl rfl ?_
        refine e_icmp_ge q_X12_leaves_24 (by first | exact hR _ _ | (constructor <;> omega) | assumption) (by first | exact hR _ _ | (constructor <;> omega) | assumption) (fun c24 => ?_) (fun c24 => ?_)
        · skip
          refine e_bipush q_X12_leaves_78 (by decide) ?_
          refine e_ireturn q_X12_leaves_80 rfl rfl ?_
          exact h2 ⟨c5, c12⟩ (fun j hj => hn j (by omega))
        · skip
          exact absurd (by omega) c24
    · skip
      refine e_iconst q_X12_leaves_15 ?_
      refine e_ireturn q_X12_leaves_16 rfl rfl ?_
      exact h1 (fun q => by first | exact c5 q.1 | exact c12 q.2)
set_option maxRecDepth 20000 in
set_option maxHeartbeats 2000000 in
theorem k_stay (hB : zB0 s) (hm : mI N){w : Int} (hw : zr w){g a b : Int} (hg : zr g) (ha : zr a) (hb : zr b) (h1 : ¬ ((0 ≤ w ∧ w < N 39 2) ∧ (0 ≤ g ∧ g < N 39 0) ∧ (0 ≤ a ∧ a ≤ 9999) ∧ (0 ≤ b ∧ b ≤ 9999) ∧ a ≤ b) → Q (some (vi (-1))) (zI s N)) (h2 : ((0 ≤ w ∧ w < N 39 2) ∧ (0 ≤ g ∧ g < N 39 0) ∧ (0 ≤ a ∧ a ≤ 9999) ∧ (0 ≤ b ∧ b ≤ 9999) ∧ a ≤ b) → N 41 w ≠ 3 → Q (some (vi (-12))) (zI s N)) (h3 : ((0 ≤ w ∧ w < N 39 2) ∧ (0 ≤ g ∧ g < N 39 0) ∧ (0 ≤ a ∧ a ≤ 9999) ∧ (0 ≤ b ∧ b ≤ 9999) ∧ a ≤ b) → N 41 w = 3 → (∃ k : Nat, (k : Int) < N 39 36 ∧ N 63 k = w ∧ a ≤ N 66 k) → Q (some (vi (-2))) (zI s N)) (h4 : ((0 ≤ w ∧ w < N 39 2) ∧ (0 ≤ g ∧ g < N 39 0) ∧ (0 ≤ a ∧ a ≤ 9999) ∧ (0 ≤ b ∧ b ≤ 9999) ∧ a ≤ b) → N 41 w = 3 → ¬ (∃ k : Nat, (k : Int) < N 39 36 ∧ N 63 k = w ∧ a ≤ N 66 k) → N 39 36 = 20 → Q (some (vi (-3))) (zI s N)) (h5 : ((0 ≤ w ∧ w < N 39 2) ∧ (0 ≤ g ∧ g < N 39 0) ∧ (0 ≤ a ∧ a ≤ 9999) ∧ (0 ≤ b ∧ b ≤ 9999) ∧ a ≤ b) → N 41 w = 3 → ¬ (∃ k : Nat, (k : Int) < N 39 36 ∧ N 63 k = w ∧ a ≤ N 66 k) → N 39 36 < 20 → Q (some (vi (N 39 36))) (zI s (n_stay N w g a b))) : zC X m_X12_stay [.ref 39, vi w, vi g, vi a, vi b] (zI s N) Q := by
  have hR := hm.1
  have hC := hm.2.1
  unfold mCnt at hC
  show zE X m_X12_stay 0 [.ref 39, vi w, vi g, vi a, vi b, zU] [] _ Q
  refine e_aload_n q_X12_stay_0 (by decide) rfl ?_
  refine e_iload_n q_X12_stay_1 (by decide) rfl ?_
  refine iv_X12_isOne q_X12_stay_2 lk_X12_170 (by decide) (a39 hB) (Nat.le_of_ble_eq_true rfl) ?_
  refine k_isOne hB hm hw ?_
  refine e_ifb_eq q_X12_stay_5 (fun c5 => ?_) (fun c5 => ?_)
  · skip
    refine e_iconst q_X12_stay_41 ?_
    refine e_ireturn q_X12_stay_42 rfl rfl ?_
    exact h1 (fun q => by first | exact c5 q.1 | exact c24 q.2.2.1 | exact c32 q.2.2.2.1 | omega)
  · skip
    refine e_iload_n q_X12_stay_8 (by decide) rfl ?_
    refine e_if_lt q_X12_stay_9 hg (fun c9 => ?_) (fun c9 => ?_)
    · skip
      refine e_iconst q_X12_stay_41 ?_
      refine e_ireturn q_X12_stay_42 rfl rfl ?_
      exact h1 (fun q => by first | exact c5 q.1 | exact c24 q.2.2.1 | exact c32 q.2.2.2.1 | omega)
    · skip
      refine e_iload_n q_X12_stay_12 (by decide) rfl ?_
      refine e_aload_n q_X12_stay_13 (by decide) rfl ?_
      refine i_getI (k' := 0) q_X12_stay_14 fl_X12_167 (a39 hB) rfl rfl rfl rfl ?_
      refine e_icmp_ge q_X12_stay_17 hg (hR _ _) (fun c17 => ?_) (fun c17 => ?_)
      · skip
        refine e_iconst q_X12_stay_41 ?_
        refine e_ireturn q_X12_stay_42 rfl rfl ?_
        exact h1 (fun q => by first | exact c5 q.1 | exact c24 q.2.2.1 | exact c32 q.2.2.2.1 | omega)
      · skip
        refine e_iload_n q_X12_stay_20 (by decide) rfl ?_
        refine iv_X12_isDay q_X12_stay_21 lk_X12_181 (by decide) (Nat.le_of_ble_eq_true rfl) ?_
        refine k_isDay ha ?_
        refine e_ifb_eq q_X12_stay_24 (fun c24 => ?_) (fun c24 => ?_)
        · skip
          refine e_iconst q_X12_stay_41 ?_
          refine e_ireturn q_X12_stay_42 rfl rfl ?_
          exact h1 (fun q => by first | exact c5 q.1 | exact c24 q.2.2.1 | exact c32 q.2.2.2.1 | omega)
        · skip
          refine e_iload q_X12_stay_27 (by decide) rfl ?_
          refine iv_X12_isDay q_X12_stay_29 lk_X12_181 (by decide) (Nat.le_of_ble_eq_true rfl) ?_
          refine k_isDay hb ?_
          refine e_ifb_eq q_X12_stay_32 (fun c32 => ?_) (fun c32 => ?_)
          · skip
            refine e_iconst q_X12_stay_41 ?_
            refine e_ireturn q_X12_stay_42 rfl rfl ?_
            exact h1 (fun q => by first | exact c5 q.1 | exact c24 q.2.2.1 | exact c32 q.2.2.2.1 | omega)
          · skip
            refine e_iload q_X12_stay_35 (by decide) rfl ?_
            refine e_iload_n q_X12_stay_37 (by decide) rfl ?_
            refine e_icmp_ge q_X12_stay_38 hb ha (fun c38 => ?_) (fun c38 => ?_)
            · skip
              refine e_aload_n q_X12_stay_43 (by decide) rfl ?_
              refine i_getC (r := 41) q_X12_stay_44 fl_X12_13 (a39 hB) rfl (by decide) ?_
              refine e_iload_n q_X12_stay_47 (by decide) rfl ?_
              refine i_iald q_X12_stay_48 (a41 hB) (cref0 (by decide)) (by first | omega | assumption) (by first | omega | assumption) (by decide) rfl ?_
              refine e_iconst q_X12_stay_49 ?_
              refine e_icmp_eq q_X12_stay_50 (by first | exact hR _ _ | (constructor <;> omega) | assumption) (by first | exact hR _ _ | (constructor <;> omega) | assumption) (fun c50 => ?_) (fun c50 => ?_)
              · skip
                refine e_iconst q_X12_stay_56 ?_
                refine e_istore (ls' := [_, _, _, _, _, _]) q_X12_stay_57 (by decide) rfl rfl ?_
                refine zEe (ls := [.ref 39, vi w, vi g, vi a, vi b, vi ((0 : Nat) : Int)]) (σ := (zI s N)) ?_ rfl rfl
                refine z_for (P := fun i => (∀ j, j < i → ¬ (fun k : Nat => N 63 k = w ∧ a ≤ N 66 k) j) → zE X m_X12_stay 59 [.ref 39, vi w, vi g, vi a, vi b, vi (i : Int)] [] (zI s N) Q) (N 39 36).toNat (fun i hi ih hn => ?_) (fun hn => ?_) (by intro j hj; omega)
                · skip
                  refine e_iload q_X12_stay_59 (by decide) rfl ?_
                  refine e_aload_n q_X12_stay_61 (by decide) rfl ?_
                  refine i_getI (k' := 36) q_X12_stay_62 fl_X12_277 (a39 hB) rfl rfl rfl rfl ?_
                  refine e_icmp_ge q_X12_stay_65 (by first | exact hR _ _ | (constructor <;> omega) | assumption) (by first | exact hR _ _ | (constructor <;> omega) | assumption) (fun c65 => ?_) (fun c65 => ?_)
                  · skip
                    exact absurd c65 (by omega)
                  · skip
                    refine e_aload_n q_X12_stay_68 (by decide) rfl ?_
                    refine i_getC (r := 63) q_X12_stay_69 fl_X12_85 (a39 hB) rfl (by decide) ?_
                    refine e_iload q_X12_stay_72 (by decide) rfl ?_
                    refine i_iald q_X12_stay_74 (a63 hB) (cref0 (by decide)) (by first | omega | assumption) (by first | omega | assumption) (by decide) rfl ?_
                    refine e_iload_n q_X12_stay_75 (by decide) rfl ?_
                    refine e_icmp_ne q_X12_stay_76 (by first | exact hR _ _ | (constructor <;> omega) | assumption) (by first | exact hR _ _ | (constructor <;> omega) | assumption) (fun c76 => ?_) (fun c76 => ?_)
                    · skip
                      refine e_iinc (ls' := [_, _, _, _, _, _]) q_X12_stay_93 (by decide) rfl rfl rfl ?_
                      refine e_goto q_X12_stay_96 ?_
                      exact ih (z_lt1 hn (by omega))
                    · skip
                      refine e_aload_n q_X12_stay_79 (by decide) rfl ?_
                      refine i_getC (r := 66) q_X12_stay_80 fl_X12_94 (a39 hB) rfl (by decide) ?_
                      refine e_iload q_X12_stay_83 (by decide) rfl ?_
                      refine i_iald q_X12_stay_85 (a66 hB) (cref0 (by decide)) (by first | omega | assumption) (by first | omega | assumption) (by decide) rfl ?_
                      refine e_iload_n q_X12_stay_86 (by decide) rfl ?_
                      refine e_icmp_lt q_X12_stay_87 (by first | exact hR _ _ | (constructor <;> omega) | assumption) (by first | exact hR _ _ | (constructor <;> omega) | assumption) (fun c87 => ?_) (fun c87 => ?_)
                      · skip
                        refine e_iinc (ls' := [_, _, _, _, _, _]) q_X12_stay_93 (by decide) rfl rfl rfl ?_
                        refine e_goto q_X12_stay_96 ?_
                        exact ih (z_lt1 hn (by omega))
                      · skip
                        refine e_bipush q_X12_stay_90 (by decide) ?_
                        refine e_ireturn q_X12_stay_92 rfl rfl ?_
                        exact h3 ⟨c5, by omega, c24, c32, by omega⟩ (by omega) ⟨i, by omega, c76, by omega⟩
                · skip
                  refine e_iload q_X12_stay_59 (by decide) rfl ?_
                  refine e_aload_n q_X12_stay_61 (by decide) rfl ?_
                  refine i_getI (k' := 36) q_X12_stay_62 fl_X12_277 (a39 hB) rfl rfl rfl rfl ?_
                  refine e_icmp_ge q_X12_stay_65 (by first | exact hR _ _ | (constructor <;> omega) | assumption) (by first | exact hR _ _ | (constructor <;> omega) | assumption) (fun c65 => ?_) (fun c65 => ?_)
                  · skip
                    refine e_aload_n q_X12_stay_99 (by decide) rfl ?_
                    refine i_getI (k' := 36) q_X12_stay_100 fl_X12_277 (a39 hB) rfl rfl rfl rfl ?_
                    refine e_bipush q_X12_stay_103 (by decide) ?_
                    refine e_icmp_ne q_X12_stay_105 (by first | exact hR _ _ | (constructor <;> omega) | assumption) (by first | exact hR _ _ | (constructor <;> omega) | assumption) (fun c105 => ?_) (fun c105 => ?_)
                    · skip
                      refine e_aload_n q_X12_stay_111 (by decide) rfl ?_
                      refine i_getC (r := 63) q_X12_stay_112 fl_X12_85 (a39 hB) rfl (by decide) ?_
                      refine e_aload_n q_X12_stay_115 (by decide) rfl ?_
                      refine i_getI (k' := 36) q_X12_stay_116 fl_X12_277 (a39 hB) rfl rfl rfl rfl ?_
                      refine e_iload_n q_X12_stay_119 (by decide) rfl ?_
                      refine i_iast q_X12_stay_120 (a63 hB) (cref0 (by decide)) (by first | omega | assumption) (by first | omega | assumption) (by decide) ?_
                      refine e_aload_n q_X12_stay_121 (by decide) rfl ?_
                      refine i_getC (r := 64) q_X12_stay_122 fl_X12_88 (a39 hB) rfl (by decide) ?_
                      refine e_aload_n q_X12_stay_125 (by decide) rfl ?_
                      refine i_getI (k' := 36) q_X12_stay_126 fl_X12_277 (a39 hB) rfl rfl rfl (mup_cell (by decide)) ?_
                      refine e_iload_n q_X12_stay_129 (by decide) rfl ?_
                      refine i_iast q_X12_stay_130 (a64 hB) (cref0 (by decide)) (by first | omega | assumption) (by first | omega | assumption) (by decide) ?_
                      refine e_aload_n q_X12_stay_131 (by decide) rfl ?_
                      refine i_getC (r := 65) q_X12_stay_132 fl_X12_91 (a39 hB) rfl (by decide) ?_
                      refine e_aload_n q_X12_stay_135 (by decide) rfl ?_
                      refine i_getI (k' := 36) q_X12_stay_136 fl_X12_277 (a39 hB) rfl rfl rfl ((mup_cell (by decide)).trans (mup_cell (by decide))) ?_
                      refine e_iload_n q_X12_stay_139 (by decide) rfl ?_
                      refine i_iast q_X12_stay_140 (a65 hB) (cref0 (by decide)) (by first | omega | assumption) (by first | omega | assumption) (by decide) ?_
                      refine e_aload_n q_X12_stay_141 (by decide) rfl ?_
                      refine i_getC (r := 66) q_X12_stay_142 fl_X12_94 (a39 hB) rfl (by decide) ?_
                      refine e_aload_n q_X12_stay_145 (by decide) rfl ?_
                      refine i_getI (k' := 36) q_X12_stay_146 fl_X12_277 (a39 hB) rfl rfl rfl ((mup_cell (by decide)).trans ((mup_cell (by decide)).trans (mup_cell (by decide)))) ?_
                      refine e_iload q_X12_stay_149 (by decide) rfl ?_
                      refine i_iast q_X12_stay_151 (a66 hB) (cref0 (by decide)) (by first | omega | assumption) (by first | omega | assumption) (by decide) ?_
                      refine e_aload_n q_X12_stay_152 (by decide) rfl ?_
                      refine e_dup q_X12_stay_153 rfl ?_
                      refine i_getI (k' := 36) q_X12_stay_154 fl_X12_277 (a39 hB) rfl rfl rfl ((mup_cell (by decide)).trans ((mup_cell (by decide)).trans ((mup_cell (by decide)).trans (mup_cell (by decide))))) ?_
                      refine e_iconst q_X12_stay_157 ?_
                      refine e_iadd q_X12_stay_158 ?_
                      refine i_putI (k' := 36) q_X12_stay_159 fl_X12_277 (Or.inl rfl) (a39 hB) rfl rfl rfl rfl rfl ?_
                      refine e_aload_n q_X12_stay_162 (by decide) rfl ?_
                      refine i_getI (k' := 36) q_X12_stay_163 fl_X12_277 (a39 hB) rfl rfl rfl (mup_self _ _ _ _) ?_
                      refine e_iconst q_X12_stay_166 ?_
                      refine e_isub q_X12_stay_167 ?_
                      refine e_ireturn q_X12_stay_168 rfl rfl ?_
                      exact zqI (h5 ⟨c5, by omega, c24, c32, by omega⟩ (by omega) (fun q => by obtain ⟨k, q1, q2⟩ := q; exact hn k (by omega) q2) (by omega)) (by omega)
                    · skip
                      refine e_bipush q_X12_stay_108 (by decide) ?_
                      refine e_ireturn q_X12_stay_110 rfl rfl ?_
                      exact h4 ⟨c5, by omega, c24, c32, by omega⟩ (by omega) (fun q => by obtain ⟨k, q1, q2⟩ := q; exact hn k (by omega) q2) (by omega)
                  · skip
                    exact absurd (by omega) c65
              · skip
                refine e_bipush q_X12_stay_53 (by decide) ?_
                refine e_ireturn q_X12_stay_55 rfl rfl ?_
                exact h2 ⟨c5, by omega, c24, c32, by omega⟩ (by omega)
            · skip
              refine e_iconst q_X12_stay_41 ?_
              refine e_ireturn q_X12_stay_42 rfl rfl ?_
              exact h1 (fun q => by first | exact c5 q.1 | exact c24 q.2.2.1 | exact c32 q.2.2.2.1 | omega)
set_option maxRecDepth 20000 in
set_option maxHeartbeats 2000000 in
theorem k_drop (hB : zB0 s) (hm : mI N){w : Int} (hw : zr w)(h1 : ¬ (0 ≤ w ∧ w ≤ 3) → Q (some (vi (-1))) (zI s N)) (h2 : 0 ≤ w ∧ w ≤ 3 → N 82 w = -4 → Q (some (vi (-11))) (zI s N)) (h3 : 0 ≤ w ∧ w ≤ 3 → N 82 w ≠ -4 → Q (some (vi (N 83 w))) (zI s (mup N 82 w (-4)))) : zC X m_X12_drop [.ref 39, vi w] (zI s N) Q := by
  have hR := hm.1
  have hC := hm.2.1
  unfold mCnt at hC
  show zE X m_X12_drop 0 [.ref 39, vi w] [] _ Q
  refine e_iload_n q_X12_drop_0 (by decide) rfl ?_
  refine iv_X12_isSheet q_X12_drop_1 lk_X12_347 (by decide) (Nat.le_of_ble_eq_true rfl) ?_
  refine k_isSheet hw ?_
  refine e_ifb_ne q_X12_drop_4 (fun c4 => ?_) (fun c4 => ?_)
  · skip
    refine e_aload_n q_X12_drop_9 (by decide) rfl ?_
    refine i_getC (r := 82) q_X12_drop_10 fl_X12_142 (a39 hB) rfl (by decide) ?_
    refine e_iload_n q_X12_drop_13 (by decide) rfl ?_
    refine i_iald q_X12_drop_14 (a82 hB) (cref0 (by decide)) (by first | omega | assumption) (by first | omega | assumption) (by decide) rfl ?_
    refine e_bipush q_X12_drop_15 (by decide) ?_
    refine e_icmp_ne q_X12_drop_17 (by first | exact hR _ _ | (constructor <;> omega) | assumption) (by first | exact hR _ _ | (constructor <;> omega) | assumption) (fun c17 => ?_) (fun c17 => ?_)
    · skip
      refine e_aload_n q_X12_drop_23 (by decide) rfl ?_
      refine i_getC (r := 82) q_X12_drop_24 fl_X12_142 (a39 hB) rfl (by decide) ?_
      refine e_iload_n q_X12_drop_27 (by decide) rfl ?_
      refine e_bipush q_X12_drop_28 (by decide) ?_
      refine i_iast q_X12_drop_30 (a82 hB) (cref0 (by decide)) (by first | omega | assumption) (by first | omega | assumption) (by decide) ?_
      refine e_aload_n q_X12_drop_31 (by decide) rfl ?_
      refine i_getC (r := 83) q_X12_drop_32 fl_X12_145 (a39 hB) rfl (by decide) ?_
      refine e_iload_n q_X12_drop_35 (by decide) rfl ?_
      refine i_iald q_X12_drop_36 (a83 hB) (cref0 (by decide)) (by first | omega | assumption) (by first | omega | assumption) (by decide) (mup_cell (by decide)) ?_
      refine e_ireturn q_X12_drop_37 rfl rfl ?_
      exact h3 c4 (by omega)
    · skip
      refine e_bipush q_X12_drop_20 (by decide) ?_
      refine e_ireturn q_X12_drop_22 rfl rfl ?_
      exact h2 c4 (by omega)
  · skip
    refine e_iconst q_X12_drop_7 ?_
    refine e_ireturn q_X12_drop_8 rfl rfl ?_
    exact h1 c4
set_option maxRecDepth 20000 in
set_option maxHeartbeats 2000000 in
theorem k_sheet (hB : zB0 s) (hm : mI N){w : Int} (hw : zr w){l n : Int} (hl : zr l) (hn0 : zr n) (h1 : ¬ ((0 ≤ w ∧ w ≤ 3) ∧ (0 ≤ l ∧ l ≤ 2) ∧ n ≤ 20) → Q (some (vi (-1))) (zI s N)) (h2 : ((0 ≤ w ∧ w ≤ 3) ∧ (0 ≤ l ∧ l ≤ 2) ∧ n ≤ 20) → n < 0 → Q (some (vi (-14))) (zI s N)) (h3 : ((0 ≤ w ∧ w ≤ 3) ∧ (0 ≤ l ∧ l ≤ 2) ∧ n ≤ 20) → 0 ≤ n → Q (some (vi n)) (zI s (n_sheet N w l n))) : zC X m_X12_sheet [.ref 39, vi w, vi l, vi n] (zI s N) Q := by
  have hR := hm.1
  have hC := hm.2.1
  unfold mCnt at hC
  show zE X m_X12_sheet 0 [.ref 39, vi w, vi l, vi n, zU] [] _ Q
  refine e_iload_n q_X12_sheet_0 (by decide) rfl ?_
  refine iv_X12_isSheet q_X12_sheet_1 lk_X12_347 (by decide) (Nat.le_of_ble_eq_true rfl) ?_
  refine k_isSheet hw ?_
  refine e_ifb_eq q_X12_sheet_4 (fun c4 => ?_) (fun c4 => ?_)
  · skip
    refine e_iconst q_X12_sheet_20 ?_
    refine e_ireturn q_X12_sheet_21 rfl rfl ?_
    exact h1 (fun q => by first | exact c4 q.1 | exact c11 q.2.1 | omega)
  · skip
    refine e_iload_n q_X12_sheet_7 (by decide) rfl ?_
    refine iv_X12_isLane q_X12_sheet_8 lk_X12_350 (by decide) (Nat.le_of_ble_eq_true rfl) ?_
    refine k_isLane hl ?_
    refine e_ifb_eq q_X12_sheet_11 (fun c11 => ?_) (fun c11 => ?_)
    · skip
      refine e_iconst q_X12_sheet_20 ?_
      refine e_ireturn q_X12_sheet_21 rfl rfl ?_
      exact h1 (fun q => by first | exact c4 q.1 | exact c11 q.2.1 | omega)
    · skip
      refine e_iload_n q_X12_sheet_14 (by decide) rfl ?_
      refine e_bipush q_X12_sheet_15 (by decide) ?_
      refine e_icmp_le q_X12_sheet_17 hn0 (by constructor <;> omega) (fun c17 => ?_) (fun c17 => ?_)
      · skip
        refine e_iload_n q_X12_sheet_22 (by decide) rfl ?_
        refine e_if_ge q_X12_sheet_23 hn0 (fun c23 => ?_) (fun c23 => ?_)
        · skip
          refine e_aload_n q_X12_sheet_29 (by decide) rfl ?_
          refine i_getC (r := 82) q_X12_sheet_30 fl_X12_142 (a39 hB) rfl (by decide) ?_
          refine e_iload_n q_X12_sheet_33 (by decide) rfl ?_
          refine e_iload_n q_X12_sheet_34 (by decide) rfl ?_
          refine i_iast q_X12_sheet_35 (a82 hB) (cref0 (by decide)) (by first | omega | assumption) (by first | omega | assumption) (by decide) ?_
          refine e_aload_n q_X12_sheet_36 (by decide) rfl ?_
          refine i_getC (r := 83) q_X12_sheet_37 fl_X12_145 (a39 hB) rfl (by decide) ?_
          refine e_iload_n q_X12_sheet_40 (by decide) rfl ?_
          refine e_iload_n q_X12_sheet_41 (by decide) rfl ?_
          refine i_iast q_X12_sheet_42 (a83 hB) (cref0 (by decide)) (by first | omega | assumption) (by first | omega | assumption) (by decide) ?_
          refine e_iconst q_X12_sheet_43 ?_
          refine e_istore (ls' := [_, _, _, _, _]) q_X12_sheet_44 (by decide) rfl rfl ?_
          refine zEe (ls := [.ref 39, vi w, vi l, vi n, vi ((0 : Nat) : Int)]) (σ := (zI s (mfil (mup (mup N 82 w l) 83 w n) 84 (20 * w) 0))) ?_ rfl (by rw [mfil_0])
          refine z_for (P := fun i => zE X m_X12_sheet 46 [.ref 39, vi w, vi l, vi n, vi (i : Int)] [] (zI s (mfil (mup (mup N 82 w l) 83 w n) 84 (20 * w) i)) Q) 20 (fun i hi ih => ?_) ?_
          · skip
            refine e_iload q_X12_sheet_46 (by decide) rfl ?_
            refine e_bipush q_X12_sheet_48 (by decide) ?_
            refine e_icmp_ge q_X12_sheet_50 (by first | exact hR _ _ | (constructor <;> omega) | assumption) (by first | exact hR _ _ | (constructor <;> omega) | assumption) (fun c50 => ?_) (fun c50 => ?_)
            · skip
              exact absurd c50 (by omega)
            · skip
              refine e_aload_n q_X12_sheet_53 (by decide) rfl ?_
              refine i_getC (r := 84) q_X12_sheet_54 fl_X12_148 (a39 hB) rfl (by decide) ?_
              refine e_bipush q_X12_sheet_57 (by decide) ?_
              refine e_iload_n q_X12_sheet_59 (by decide) rfl ?_
              refine e_imul q_X12_sheet_60 ?_
              refine e_iload q_X12_sheet_61 (by decide) rfl ?_
              refine e_iadd q_X12_sheet_63 ?_
              refine e_iconst q_X12_sheet_64 ?_
              refine i_iast q_X12_sheet_65 (a84 hB) (cref0 (by decide)) (by first | omega | assumption) (by first | omega | assumption) (by decide) ?_
              refine e_iinc (ls' := [_, _, _, _, _]) q_X12_sheet_66 (by decide) rfl rfl rfl ?_
              refine e_goto q_X12_sheet_69 ?_
              exact zEe ih rfl (by rw [mfil_s])
          · skip
            refine e_iload q_X12_sheet_46 (by decide) rfl ?_
            refine e_bipush q_X12_sheet_48 (by decide) ?_
            refine e_icmp_ge q_X12_sheet_50 (by first | exact hR _ _ | (constructor <;> omega) | assumption) (by first | exact hR _ _ | (constructor <;> omega) | assumption) (fun c50 => ?_) (fun c50 => ?_)
            · skip
              refine e_iload_n q_X12_sheet_72 (by decide) rfl ?_
              refine e_ireturn q_X12_sheet_73 rfl rfl ?_
              exact h3 ⟨c4, c11, by omega⟩ (by omega)
            · skip
              exact absurd (by omega) c50
        · skip
          refine e_bipush q_X12_sheet_26 (by decide) ?_
          refine e_ireturn q_X12_sheet_28 rfl rfl ?_
          exact h2 ⟨c4, c11, by omega⟩ (by omega)
      · skip
        refine e_iconst q_X12_sheet_20 ?_
        refine e_ireturn q_X12_sheet_21 rfl rfl ?_
        exact h1 (fun q => by first | exact c4 q.1 | exact c11 q.2.1 | omega)
def nar (l v : Int) : Int := if l = 0 then ((Int32.ofInt v).toInt8.toInt32).toInt else if l = 1 then ((Int32.ofInt v).toInt16.toInt32).toInt else v
set_option maxRecDepth 20000 in
set_option maxHeartbeats 2000000 in
theorem k_item (hB : zB0 s) (hm : mI N){w : Int} (hw : zr w){l i v : Int} (hl : zr l) (hi0 : zr i) (hsl : ∀ w : Int, 0 ≤ w → w ≤ 3 → 0 ≤ N 83 w ∧ N 83 w ≤ 20) (h1 : ¬ ((0 ≤ w ∧ w ≤ 3) ∧ (0 ≤ l ∧ l ≤ 2)) → Q (some (vi (-1))) (zI s N)) (h2 : ((0 ≤ w ∧ w ≤ 3) ∧ (0 ≤ l ∧ l ≤ 2)) → N 82 w = -4 → Q (some (vi (-11))) (zI s N)) (h3 : ((0 ≤ w ∧ w ≤ 3) ∧ (0 ≤ l ∧ l ≤ 2)) → N 82 w ≠ -4 → N 82 w ≠ l → Q (some (vi (-12))) (zI s N)) (h4 : ((0 ≤ w ∧ w ≤ 3) ∧ (0 ≤ l ∧ l ≤ 2)) → N 82 w ≠ -4 → N 82 w = l → ¬ (0 ≤ i ∧ i < N 83 w) → Q (some (vi (-13))) (zI s N)) (h5 : ((0 ≤ w ∧ w ≤ 3) ∧ (0 ≤ l ∧ l ≤ 2)) → N 82 w ≠ -4 → N 82 w = l → 0 ≤ i ∧ i < N 83 w → Q (some (vi 1)) (zI s (mup N 84 (20 * w + i) (nar l v)))) : zC X m_X12_item [.ref 39, vi w, vi l, vi i, vi v] (zI s N) Q := by
  have hR := hm.1
  have hC := hm.2.1
  unfold mCnt at hC
  show zE X m_X12_item 0 [.ref 39, vi w, vi l, vi i, vi v] [] _ Q
  refine e_iload_n q_X12_item_0 (by decide) rfl ?_
  refine iv_X12_isSheet q_X12_item_1 lk_X12_347 (by decide) (Nat.le_of_ble_eq_true rfl) ?_
  refine k_isSheet hw ?_
  refine e_ifb_eq q_X12_item_4 (fun c4 => ?_) (fun c4 => ?_)
  · skip
    refine e_iconst q_X12_item_14 ?_
    refine e_ireturn q_X12_item_15 rfl rfl ?_
    exact h1 (fun q => by first | exact c4 q.1 | exact c11 q.2)
  · skip
    refine e_iload_n q_X12_item_7 (by decide) rfl ?_
    refine iv_X12_isLane q_X12_item_8 lk_X12_350 (by decide) (Nat.le_of_ble_eq_true rfl) ?_
    refine k_isLane hl ?_
    refine e_ifb_ne q_X12_item_11 (fun c11 => ?_) (fun c11 => ?_)
    · skip
      refine e_aload_n q_X12_item_16 (by decide) rfl ?_
      refine i_getC (r := 82) q_X12_item_17 fl_X12_142 (a39 hB) rfl (by decide) ?_
      refine e_iload_n q_X12_item_20 (by decide) rfl ?_
      refine i_iald q_X12_item_21 (a82 hB) (cref0 (by decide)) (by first | omega | assumption) (by first | omega | assumption) (by decide) rfl ?_
      refine e_bipush q_X12_item_22 (by decide) ?_
      refine e_icmp_ne q_X12_item_24 (by first | exact hR _ _ | (constructor <;> omega) | assumption) (by first | exact hR _ _ | (constructor <;> omega) | assumption) (fun c24 => ?_) (fun c24 => ?_)
      · skip
        refine e_aload_n q_X12_item_30 (by decide) rfl ?_
        refine i_getC (r := 82) q_X12_item_31 fl_X12_142 (a39 hB) rfl (by decide) ?_
        refine e_iload_n q_X12_item_34 (by decide) rfl ?_
        refine i_iald q_X12_item_35 (a82 hB) (cref0 (by decide)) (by first | omega | assumption) (by first | omega | assumption) (by decide) rfl ?_
        refine e_iload_n q_X12_item_36 (by decide) rfl ?_
        refine e_icmp_eq q_X12_item_37 (hR _ _) hl (fun c37 => ?_) (fun c37 => ?_)
        · skip
          have hs1 := hsl w c4.1 c4.2
          refine e_iload_n q_X12_item_43 (by decide) rfl ?_
          refine e_iconst q_X12_item_44 ?_
          refine e_aload_n q_X12_item_45 (by decide) rfl ?_
          refine i_getC (r := 83) q_X12_item_46 fl_X12_145 (a39 hB) rfl (by decide) ?_
          refine e_iload_n q_X12_item_49 (by decide) rfl ?_
          refine i_iald q_X12_item_50 (a83 hB) (cref0 (by decide)) (by first | omega | assumption) (by first | omega | assumption) (by decide) rfl ?_
          refine e_iconst q_X12_item_51 ?_
          refine e_isub q_X12_item_52 ?_
          refine iv_X12_within q_X12_item_53 lk_X12_160 (by decide) (Nat.le_of_ble_eq_true rfl) ?_
          refine k_within hi0 (by constructor <;> omega) (by constructor <;> omega) ?_
          refine e_ifb_ne q_X12_item_56 (fun c56 => ?_) (fun c56 => ?_)
          · skip
            refine e_aload_n q_X12_item_62 (by decide) rfl ?_
            refine i_getC (r := 84) q_X12_item_63 fl_X12_148 (a39 hB) rfl (by decide) ?_
            refine e_bipush q_X12_item_66 (by decide) ?_
            refine e_iload_n q_X12_item_68 (by decide) rfl ?_
            refine e_imul q_X12_item_69 ?_
            refine e_iload_n q_X12_item_70 (by decide) rfl ?_
            refine e_iadd q_X12_item_71 ?_
            refine e_iload_n q_X12_item_72 (by decide) rfl ?_
            refine e_if_ne q_X12_item_73 hl (fun c73 => ?_) (fun c73 => ?_)
            · skip
              refine e_iload_n q_X12_item_82 (by decide) rfl ?_
              refine e_iconst q_X12_item_83 ?_
              refine e_icmp_ne q_X12_item_84 hl (by constructor <;> omega) (fun c84 => ?_) (fun c84 => ?_)
              · skip
                refine e_iload q_X12_item_93 (by decide) rfl ?_
                refine i_iast q_X12_item_95 (a84 hB) (cref0 (by decide)) (by first | omega | assumption) (by first | omega | assumption) (by decide) ?_
                refine e_iconst q_X12_item_96 ?_
                refine e_ireturn q_X12_item_97 rfl rfl ?_
                first | exact h5 ⟨c4, c11⟩ (by omega) (by omega) (by omega) | exact zqS (h5 ⟨c4, c11⟩ (by omega) (by omega) (by omega)) rfl (by have e : nar l v = v := (by unfold nar; rw [if_neg (by omega), if_neg (by omega)]); rw [e])
              · skip
                refine e_iload q_X12_item_87 (by decide) rfl ?_
                refine e_i2s q_X12_item_89 (v := nar l v) (by unfold nar; rw [if_neg (by omega), if_pos (by omega), z_of]) ?_
                refine e_goto q_X12_item_90 ?_
                refine i_iast q_X12_item_95 (a84 hB) (cref0 (by decide)) (by first | omega | assumption) (by first | omega | assumption) (by decide) ?_
                refine e_iconst q_X12_item_96 ?_
                refine e_ireturn q_X12_item_97 rfl rfl ?_
                first | exact h5 ⟨c4, c11⟩ (by omega) (by omega) (by omega) | exact zqS (h5 ⟨c4, c11⟩ (by omega) (by omega) (by omega)) rfl (by have e : nar l v = v := (by unfold nar; rw [if_neg (by omega), if_neg (by omega)]); rw [e])
            · skip
              refine e_iload q_X12_item_76 (by decide) rfl ?_
              refine e_i2b q_X12_item_78 (v := nar l v) (by unfold nar; rw [if_pos (by omega), z_of]) ?_
              refine e_goto q_X12_item_79 ?_
              refine i_iast q_X12_item_95 (a84 hB) (cref0 (by decide)) (by first | omega | assumption) (by first | omega | assumption) (by decide) ?_
              refine e_iconst q_X12_item_96 ?_
              refine e_ireturn q_X12_item_97 rfl rfl ?_
              first | exact h5 ⟨c4, c11⟩ (by omega) (by omega) (by omega) | exact zqS (h5 ⟨c4, c11⟩ (by omega) (by omega) (by omega)) rfl (by have e : nar l v = v := (by unfold nar; rw [if_neg (by omega), if_neg (by omega)]); rw [e])
          · skip
            refine e_bipush q_X12_item_59 (by decide) ?_
            refine e_ireturn q_X12_item_61 rfl rfl ?_
            exact h4 ⟨c4, c11⟩ (by omega) (by omega) (fun q => c56 (by omega))
        · skip
          refine e_bipush q_X12_item_40 (by decide) ?_
          refine e_ireturn q_X12_item_42 rfl rfl ?_
          exact h3 ⟨c4, c11⟩ (by omega) (by omega)
      · skip
        refine e_bipush q_X12_item_27 (by decide) ?_
        refine e_ireturn q_X12_item_29 rfl rfl ?_
        exact h2 ⟨c4, c11⟩ (by omega)
    · skip
      refine e_iconst q_X12_item_14 ?_
      refine e_ireturn q_X12_item_15 rfl rfl ?_
      exact h1 (fun q => by first | exact c4 q.1 | exact c11 q.2)
/-- the head among the first n: (who, since when) -/
noncomputable def headK (N : zN) (g d : Int) : Nat → Int × Int
  | 0 => (-4, 100000)
  | n + 1 => zif (memb N n g d ∧ N 61 (spA N n d) < (headK N g d n).2) ((n : Int), N 61 (spA N n d)) (headK N g d n)
theorem headK_r {N : zN} (hm : mI N) (g d : Int) : ∀ n : Nat, zr (headK N g d n).2
  | 0 => by constructor <;> simp [headK]
  | n + 1 => by
    rw [headK]
    by_cases h : memb N n g d ∧ N 61 (spA N n d) < (headK N g d n).2
    · rw [zif_t h]; exact hm.1 _ _
    · rw [zif_f h]; exact headK_r hm g d n
noncomputable def r_head (N : zN) (g d : Int) : Int := zif ((0 ≤ g ∧ g < N 39 29) ∧ (0 ≤ d ∧ d ≤ 9999)) (headK N g d (N 39 2).toNat).1 (-1)
set_option maxRecDepth 20000 in
set_option maxHeartbeats 2000000 in
theorem k_head (hB : zB0 s) (hm : mI N){g : Int} (hg : zr g){d : Int} (hd : zr d) (h : Q (some (vi (r_head N g d))) (zI s N)) : zC X m_X12_head [.ref 39, vi g, vi d] (zI s N) Q := by
  have hR := hm.1
  have hC := hm.2.1
  unfold mCnt at hC
  show zE X m_X12_head 0 [.ref 39, vi g, vi d, zU, zU, zU, zU] [] _ Q
  refine e_aload_n q_X12_head_0 (by decide) rfl ?_
  refine e_iload_n q_X12_head_1 (by decide) rfl ?_
  refine iv_X12_isGroup q_X12_head_2 lk_X12_261 (by decide) (a39 hB) (Nat.le_of_ble_eq_true rfl) ?_
  refine k_isGroup hB hm hg ?_
  refine e_ifb_eq q_X12_head_5 (fun c5 => ?_) (fun c5 => ?_)
  · skip
    refine e_iconst q_X12_head_15 ?_
    refine e_ireturn q_X12_head_16 rfl rfl ?_
    exact zqI h (by unfold r_head; exact zif_f (fun q => by first | exact c5 q.1 | exact c12 q.2))
  · skip
    refine e_iload_n q_X12_head_8 (by decide) rfl ?_
    refine iv_X12_isDay q_X12_head_9 lk_X12_181 (by decide) (Nat.le_of_ble_eq_true rfl) ?_
    refine k_isDay hd ?_
    refine e_ifb_ne q_X12_head_12 (fun c12 => ?_) (fun c12 => ?_)
    · skip
      refine e_bipush q_X12_head_17 (by decide) ?_
      refine e_istore_n (ls' := [_, _, _, _, _, _, _]) q_X12_head_19 (by decide) rfl rfl ?_
      refine e_ldc q_X12_head_20 co_X12_47 ?_
      refine e_istore (ls' := [_, _, _, _, _, _, _]) q_X12_head_22 (by decide) rfl rfl ?_
      refine e_iconst q_X12_head_24 ?_
      refine e_istore (ls' := [_, _, _, _, _, _, _]) q_X12_head_25 (by decide) rfl rfl ?_
      refine z_forE (P := fun i u => zE X m_X12_head 27 [.ref 39, vi g, vi d, vi (headK N g d i).1, vi (headK N g d i).2, vi (i : Int), u] [] (zI s N) Q) (N 39 2).toNat (fun i u hi ih => ?_) (fun u => ?_) _
      · skip
        refine e_iload q_X12_head_27 (by decide) rfl ?_
        refine e_aload_n q_X12_head_29 (by decide) rfl ?_
        refine i_getI (k' := 2) q_X12_head_30 fl_X12_164 (a39 hB) rfl rfl rfl rfl ?_
        refine e_icmp_ge q_X12_head_33 (by first | exact hR _ _ | (constructor <;> omega) | assumption) (by first | exact hR _ _ | (constructor <;> omega) | assumption) (fun c33 => ?_) (fun c33 => ?_)
        · skip
          exact absurd c33 (by omega)
        · skip
          refine e_aload_n q_X12_head_36 (by decide) rfl ?_
          refine e_iload q_X12_head_37 (by decide) rfl ?_
          refine e_iload_n q_X12_head_39 (by decide) rfl ?_
          refine iv_X12_spellAt q_X12_head_40 lk_X12_254 (by decide) (a39 hB) (Nat.le_of_ble_eq_true rfl) ?_
          refine k_spellAt hB hm (by omega) (by omega) c12 ?_
          have hs := spA_b N i d
          refine e_istore (ls' := [_, _, _, _, _, _, _]) q_X12_head_43 (by decide) rfl rfl ?_
          refine e_iload q_X12_head_45 (by decide) rfl ?_
          refine e_if_lt q_X12_head_47 (by first | exact hR _ _ | (constructor <;> omega) | assumption) (fun c47 => ?_) (fun c47 => ?_)
          · skip
            refine e_iinc (ls' := [_, _, _, _, _, _, _]) q_X12_head_85 (by decide) rfl rfl rfl ?_
            refine e_goto q_X12_head_88 ?_
            first | exact zEe (ih _) (by rw [headK, zif_t ⟨⟨by omega, c58⟩, by omega⟩]; rfl) rfl | exact zEe (ih _) (by rw [headK, zif_f (fun q => by have q1 := q.1.1; have q2 := q.1.2; have q3 := q.2; omega)]; rfl) rfl
          · skip
            refine e_aload_n q_X12_head_50 (by decide) rfl ?_
            refine i_getC (r := 60) q_X12_head_51 fl_X12_76 (a39 hB) rfl (by decide) ?_
            refine e_iload q_X12_head_54 (by decide) rfl ?_
            refine i_iald q_X12_head_56 (a60 hB) (cref0 (by decide)) (by first | omega | assumption) (by first | omega | assumption) (by decide) rfl ?_
            refine e_iload_n q_X12_head_57 (by decide) rfl ?_
            refine e_icmp_ne q_X12_head_58 (hR _ _) hg (fun c58 => ?_) (fun c58 => ?_)
            · skip
              refine e_iinc (ls' := [_, _, _, _, _, _, _]) q_X12_head_85 (by decide) rfl rfl rfl ?_
              refine e_goto q_X12_head_88 ?_
              first | exact zEe (ih _) (by rw [headK, zif_t ⟨⟨by omega, c58⟩, by omega⟩]; rfl) rfl | exact zEe (ih _) (by rw [headK, zif_f (fun q => by have q1 := q.1.1; have q2 := q.1.2; have q3 := q.2; omega)]; rfl) rfl
            · skip
              refine e_aload_n q_X12_head_61 (by decide) rfl ?_
              refine i_getC (r := 61) q_X12_head_62 fl_X12_79 (a39 hB) rfl (by decide) ?_
              refine e_iload q_X12_head_65 (by decide) rfl ?_
              refine i_iald q_X12_head_67 (a61 hB) (cref0 (by decide)) (by first | omega | assumption) (by first | omega | assumption) (by decide) rfl ?_
              have hhr := headK_r hm g d i
              refine e_iload q_X12_head_68 (by decide) rfl ?_
              refine e_icmp_ge q_X12_head_70 (hR _ _) hhr (fun c70 => ?_) (fun c70 => ?_)
              · skip
                refine e_iinc (ls' := [_, _, _, _, _, _, _]) q_X12_head_85 (by decide) rfl rfl rfl ?_
                refine e_goto q_X12_head_88 ?_
                first | exact zEe (ih _) (by rw [headK, zif_t ⟨⟨by omega, c58⟩, by omega⟩]; rfl) rfl | exact zEe (ih _) (by rw [headK, zif_f (fun q => by have q1 := q.1.1; have q2 := q.1.2; have q3 := q.2; omega)]; rfl) rfl
              · skip
                refine e_iload q_X12_head_73 (by decide) rfl ?_
                refine e_istore_n (ls' := [_, _, _, _, _, _, _]) q_X12_head_75 (by decide) rfl rfl ?_
                refine e_aload_n q_X12_head_76 (by decide) rfl ?_
                refine i_getC (r := 61) q_X12_head_77 fl_X12_79 (a39 hB) rfl (by decide) ?_
                refine e_iload q_X12_head_80 (by decide) rfl ?_
                refine i_iald q_X12_head_82 (a61 hB) (cref0 (by decide)) (by first | omega | assumption) (by first | omega | assumption) (by decide) rfl ?_
                refine e_istore (ls' := [_, _, _, _, _, _, _]) q_X12_head_83 (by decide) rfl rfl ?_
                refine e_iinc (ls' := [_, _, _, _, _, _, _]) q_X12_head_85 (by decide) rfl rfl rfl ?_
                refine e_goto q_X12_head_88 ?_
                first | exact zEe (ih _) (by rw [headK, zif_t ⟨⟨by omega, c58⟩, by omega⟩]; rfl) rfl | exact zEe (ih _) (by rw [headK, zif_f (fun q => by have q1 := q.1.1; have q2 := q.1.2; have q3 := q.2; omega)]; rfl) rfl
      · skip
        refine e_iload q_X12_head_27 (by decide) rfl ?_
        refine e_aload_n q_X12_head_29 (by decide) rfl ?_
        refine i_getI (k' := 2) q_X12_head_30 fl_X12_164 (a39 hB) rfl rfl rfl rfl ?_
        refine e_icmp_ge q_X12_head_33 (by first | exact hR _ _ | (constructor <;> omega) | assumption) (by first | exact hR _ _ | (constructor <;> omega) | assumption) (fun c33 => ?_) (fun c33 => ?_)
        · skip
          refine e_iload_n q_X12_head_91 (by decide) rfl ?_
          refine e_ireturn q_X12_head_92 rfl rfl ?_
          exact zqI h (by unfold r_head; exact zif_t ⟨c5, c12⟩)
        · skip
          exact absurd (by omega) c33
    · skip
      refine e_iconst q_X12_head_15 ?_
      refine e_ireturn q_X12_head_16 rfl rfl ?_
      exact zqI h (by unfold r_head; exact zif_f (fun q => by first | exact c5 q.1 | exact c12 q.2))
end MR4
