/-! the tape, 2 (printed by wip/whole/gen/l2.py) -/
section LT2
variable {X : zX} {s : zK} {N : zN} {σ : zS} {fa sa : Int → Int} {Q K : Option Value → zS → Prop} {c : Int}
/-- the system's tape -/
def tpS (s : zK) (N : zN) (T : Int → Int) (L : Int) : Prop := zB0 s ∧ N 13 = T ∧ N 12 1 = L ∧ (0 ≤ L ∧ L ≤ 40) ∧ ∀ x : Int, 0 ≤ x → x < L → 32 ≤ T x ∧ T x ≤ 126
theorem tpS.mu {T : Int → Int} {L : Int} {a : Nat} {i x : Int} (h : tpS s N T L) (ha : a ≠ 13) (hi : ¬ (a = 12 ∧ i = 1)) : tpS s (mup N a i x) T L := ⟨h.1, by rw [mup_fn (fun q => ha q.symm)]; exact h.2.1, by rw [mup_ne (fun q => hi ⟨q.1.symm, q.2.symm⟩)]; exact h.2.2.1, h.2.2.2⟩
theorem mup_mup (N : zN) (a : Nat) (i x y : Int) : mup (mup N a i x) a i y = mup N a i y := by
  funext b j
  by_cases q : b = a ∧ j = i
  · rw [q.1, q.2, mup_self, mup_self]
  · rw [mup_ne q, mup_ne q, mup_ne q]
theorem mup_id {a : Nat} {i x : Int} (h : N a i = x) : mup N a i x = N := by
  funext b j
  by_cases q : b = a ∧ j = i
  · rw [q.1, q.2, mup_self, h]
  · rw [mup_ne q]
noncomputable def sgE (T : Int → Int) (L p : Int) : Int := zif (spE T L p < L) (T (spE T L p)) (-1)
theorem sgE_r {T : Int → Int} {L p : Int} (hT : ∀ x : Int, 0 ≤ x → x < L → 32 ≤ T x ∧ T x ≤ 126) (h0 : 0 ≤ p) (h1 : p ≤ L) (h2 : L ≤ 40) : (sgE T L p = -1 ∧ ¬ spE T L p < L) ∨ (spE T L p < L ∧ sgE T L p = T (spE T L p) ∧ 32 ≤ T (spE T L p) ∧ T (spE T L p) ≤ 126) := by
  have hb := nQ_b (T := T) h0 h1 h2
  have hb : p ≤ spE T L p ∧ spE T L p ≤ L := hb
  unfold sgE
  by_cases h : spE T L p < L
  · rw [zif_t h]
    exact Or.inr ⟨h, rfl, hT _ (by omega) h⟩
  · rw [zif_f h]
    exact Or.inl ⟨rfl, h⟩
def lwA (s : zK) (D : Nat) : Prop := (D = 14 ∨ D = 17) ∧ zA s D (3, 0) ∧ zA s (D + 1) (20, 3) ∧ zA s (D + 2) (20, 3) ∧ cref D 0 = D + 1 ∧ cref D 1 = D + 2 ∧ cref D 2 = 0 ∧ (∀ k, cref (D + 1) k = 0) ∧ ∀ k, cref (D + 2) k = 0
theorem lwA.of (hB : zB0 s) {D : Nat} (h : D = 14 ∨ D = 17) : lwA s D := by
  rcases h with rfl | rfl
  · exact ⟨Or.inl rfl, a14 hB, a15 hB, a16 hB, rfl, rfl, rfl, fun _ => rfl, fun _ => rfl⟩
  · exact ⟨Or.inr rfl, a17 hB, a18 hB, a19 hB, rfl, rfl, rfl, fun _ => rfl, fun _ => rfl⟩
theorem i16_n : ∀ n : Nat, n < 128 → ((Int32.ofInt n).toUInt32 % 65536).toInt32 = Int32.ofInt n := by decide +kernel
theorem i16_i {x : Int} (h : 0 ≤ x ∧ x ≤ 127) : ((Int32.ofInt x).toUInt32 % 65536).toInt32 = Int32.ofInt x := by
  have := i16_n x.toNat (by omega)
  rwa [z_cast h.1] at this
set_option maxRecDepth 20000 in
set_option maxHeartbeats 2000000 in
theorem x_nextSign {T : Int → Int} {L : Int} (ht : tpS s N T L){p : Int} (hp : N 12 2 = p) (hp0 : 0 ≤ p ∧ p ≤ L) (h : Q (some (vi (sgE T L p))) (zI s (mup N 12 2 (spE T L p)))) : zC X m_X10_nextSign [.ref 12] (zI s N) Q := by
  obtain ⟨hB, hT, hL, hL2, hTr⟩ := id ht
  show zE X m_X10_nextSign 0 [.ref 12] [] _ Q
  refine zEe (ls := [.ref 12]) (σ := zI s (mup N 12 2 (p + ((0 : Nat) : Int)))) ?_ rfl (by rw [mup_id (by omega)])
  refine z_for (P := fun i => ∀ (hh : True), (∀ j : Nat, j < i → p + j < L ∧ T (p + j) = 32) → zE X m_X10_nextSign 0 [.ref 12] [] (zI s (mup N 12 2 (p + (i : Int)))) Q) (L - p).toNat (fun i hi ih hh hv => ?_) (fun hh hv => ?_) trivial (fun j hj => by omega)
  · skip
    refine e_aload_n q_X10_nextSign_0 (by decide) rfl ?_
    refine i_getI (k' := 2) q_X10_nextSign_1 fl_X10_19 (a12 hB) rfl rfl rfl (mup_self _ _ _ _) ?_
    refine e_aload_n q_X10_nextSign_4 (by decide) rfl ?_
    refine i_getI (k' := 1) q_X10_nextSign_5 fl_X10_15 (a12 hB) rfl rfl rfl ((mup_slot (by decide)).trans hL) ?_
    refine e_icmp_ge q_X10_nextSign_8 (by constructor <;> omega) (by constructor <;> omega) (fun c8 => ?_) (fun c8 => ?_)
    · skip
      exact absurd c8 (by omega)
    · skip
      refine e_aload_n q_X10_nextSign_11 (by decide) rfl ?_
      refine i_getC (r := 13) q_X10_nextSign_12 fl_X10_9 (a12 hB) rfl (by decide) ?_
      refine e_aload_n q_X10_nextSign_15 (by decide) rfl ?_
      refine i_getI (k' := 2) q_X10_nextSign_16 fl_X10_19 (a12 hB) rfl rfl rfl (mup_self _ _ _ _) ?_
      refine i_bald q_X10_nextSign_19 (a13 hB) (fun _ => rfl) (by first | omega | assumption) (by first | omega | assumption) (by decide) ((mup_cell (by decide)).trans (congrFun hT _)) ?_
      refine e_bipush q_X10_nextSign_20 (by decide) ?_
      refine e_icmp_eq q_X10_nextSign_22 (by have := hTr (p + i) (by omega) (by omega); constructor <;> omega) (by have := hTr (p + i) (by omega) (by omega); constructor <;> omega) (fun c22 => ?_) (fun c22 => ?_)
      · skip
        refine e_aload_n q_X10_nextSign_35 (by decide) rfl ?_
        refine e_dup q_X10_nextSign_36 rfl ?_
        refine i_getI (k' := 2) q_X10_nextSign_37 fl_X10_19 (a12 hB) rfl rfl rfl (mup_self _ _ _ _) ?_
        refine e_iconst q_X10_nextSign_40 ?_
        refine e_iadd q_X10_nextSign_41 ?_
        refine i_putI (k' := 2) q_X10_nextSign_42 fl_X10_19 (Or.inl rfl) (a12 hB) rfl rfl rfl rfl rfl ?_
        refine e_goto q_X10_nextSign_45 ?_
        refine zEe (σ := zI s (mup N 12 2 (p + ((i + 1 : Nat) : Int)))) (ih trivial (fun j hj => ?_)) rfl ?_
        · by_cases e : j = i
          · rw [e]; exact ⟨by omega, c22⟩
          · exact hv j (by omega)
        · rw [mup_mup, show p + ((i + 1 : Nat) : Int) = p + (i : Int) + 1 by omega]
      · skip
        refine e_aload_n q_X10_nextSign_25 (by decide) rfl ?_
        refine i_getC (r := 13) q_X10_nextSign_26 fl_X10_9 (a12 hB) rfl (by decide) ?_
        refine e_aload_n q_X10_nextSign_29 (by decide) rfl ?_
        refine i_getI (k' := 2) q_X10_nextSign_30 fl_X10_19 (a12 hB) rfl rfl rfl (mup_self _ _ _ _) ?_
        refine i_bald q_X10_nextSign_33 (a13 hB) (fun _ => rfl) (by first | omega | assumption) (by first | omega | assumption) (by decide) ((mup_cell (by decide)).trans (congrFun hT _)) ?_
        refine e_ireturn q_X10_nextSign_34 rfl rfl ?_
        have e : spE T L p = p + i := endR_at (P := fun x => T x = 32) (by omega) hv (fun q => c22 q.2)
        have h' := h
        unfold sgE at h'
        rw [e, zif_t (by omega)] at h'
        exact h'
  · skip
    refine e_aload_n q_X10_nextSign_0 (by decide) rfl ?_
    refine i_getI (k' := 2) q_X10_nextSign_1 fl_X10_19 (a12 hB) rfl rfl rfl (mup_self _ _ _ _) ?_
    refine e_aload_n q_X10_nextSign_4 (by decide) rfl ?_
    refine i_getI (k' := 1) q_X10_nextSign_5 fl_X10_15 (a12 hB) rfl rfl rfl ((mup_slot (by decide)).trans hL) ?_
    refine e_icmp_ge q_X10_nextSign_8 (by constructor <;> omega) (by constructor <;> omega) (fun c8 => ?_) (fun c8 => ?_)
    · skip
      refine e_iconst q_X10_nextSign_48 ?_
      refine e_ireturn q_X10_nextSign_49 rfl rfl ?_
      have e : spE T L p = p + ((L - p).toNat : Int) := endR_at (P := fun x => T x = 32) (by omega) hv (fun q => by have := q.1; omega)
      have h' := h
      unfold sgE at h'
      rw [e, zif_f (by omega)] at h'
      exact h'
    · skip
      exact absurd (by omega) c8
set_option maxRecDepth 20000 in
set_option maxHeartbeats 2000000 in
theorem x_isDigit {x : Int} (hx : zr x) (h : Q (some (vi (bi (isDg x)))) σ) : zC X m_X10_isDigit [vi x] σ Q := by
  show zE X m_X10_isDigit 0 [vi x] [] _ Q
  refine e_iload_n q_X10_isDigit_0 (by decide) rfl ?_
  refine e_bipush q_X10_isDigit_1 (by decide) ?_
  refine e_icmp_lt q_X10_isDigit_3 hx (by constructor <;> omega) (fun c3 => ?_) (fun c3 => ?_)
  · skip
    refine e_iconst q_X10_isDigit_16 ?_
    refine e_ireturn q_X10_isDigit_17 rfl rfl ?_
    first | exact zqT h ⟨by omega, by omega⟩ | exact zqF h (fun q => by have q1 := q.1; have q2 := q.2; omega)
  · skip
    refine e_iload_n q_X10_isDigit_6 (by decide) rfl ?_
    refine e_bipush q_X10_isDigit_7 (by decide) ?_
    refine e_icmp_gt q_X10_isDigit_9 hx (by constructor <;> omega) (fun c9 => ?_) (fun c9 => ?_)
    · skip
      refine e_iconst q_X10_isDigit_16 ?_
      refine e_ireturn q_X10_isDigit_17 rfl rfl ?_
      first | exact zqT h ⟨by omega, by omega⟩ | exact zqF h (fun q => by have q1 := q.1; have q2 := q.2; omega)
    · skip
      refine e_iconst q_X10_isDigit_12 ?_
      refine e_goto q_X10_isDigit_13 ?_
      refine e_ireturn q_X10_isDigit_17 rfl rfl ?_
      first | exact zqT h ⟨by omega, by omega⟩ | exact zqF h (fun q => by have q1 := q.1; have q2 := q.2; omega)
set_option maxRecDepth 20000 in
set_option maxHeartbeats 2000000 in
theorem x_fault (hB : zB0 s) {x : Int} (h : Q (some (vi 0)) (zI s (mup N 12 3 x))) : zC X m_X10_fault [.ref 12, vi x] (zI s N) Q := by
  show zE X m_X10_fault 0 [.ref 12, vi x] [] _ Q
  refine e_aload_n q_X10_fault_0 (by decide) rfl ?_
  refine e_iload_n q_X10_fault_1 (by decide) rfl ?_
  refine i_putI (k' := 3) q_X10_fault_2 fl_X10_26 (Or.inl rfl) (a12 hB) rfl rfl rfl rfl rfl ?_
  refine e_iconst q_X10_fault_5 ?_
  refine e_ireturn q_X10_fault_6 rfl rfl ?_
  exact h
set_option maxRecDepth 20000 in
set_option maxHeartbeats 2000000 in
theorem x_readNumber {T : Int → Int} {L : Int} (ht : tpS s N T L){p : Int} (hp : N 12 2 = p) (hp0 : 0 ≤ p ∧ p ≤ L) {a b : Int} (ha : 0 ≤ a ∧ a ≤ 99) (hb : 0 ≤ b ∧ b ≤ 99) (h1 : ¬ nOK T L p → Q (some (vi (-1))) (zI s (mup (mup N 12 2 (nQ T L p)) 12 3 (nQ T L p)))) (h2 : nOK T L p → ¬ (a ≤ nV T L p ∧ nV T L p ≤ b) → Q (some (vi (-1))) (zI s (mup (mup N 12 2 (nE T L p)) 12 3 (nQ T L p)))) (h3 : nOK T L p → a ≤ nV T L p ∧ nV T L p ≤ b → Q (some (vi (nV T L p))) (zI s (mup N 12 2 (nE T L p)))) : zC X m_X10_readNumber [.ref 12, vi a, vi b] (zI s N) Q := by
  obtain ⟨hB, hT, hL, hL2, hTr⟩ := id ht
  have hqb := nQ_b (T := T) hp0.1 hp0.2 hL2.2
  have heb := nE_b (T := T) hp0.1 hp0.2 hL2.2
  show zE X m_X10_readNumber 0 [.ref 12, vi a, vi b, zU, zU] [] _ Q
  refine e_aload_n q_X10_readNumber_0 (by decide) rfl ?_
  refine iv_X10_nextSign q_X10_readNumber_1 lk_X10_29 (by decide) (a12 hB) (Nat.le_of_ble_eq_true rfl) ?_
  refine x_nextSign ht hp hp0 ?_
  refine iv_X10_isDigit q_X10_readNumber_4 lk_X10_62 (by decide) (Nat.le_of_ble_eq_true rfl) ?_
  refine x_isDigit (by rcases sgE_r hTr hp0.1 hp0.2 hL2.2 with q | q <;> constructor <;> omega) ?_
  refine e_ifb_ne q_X10_readNumber_7 (fun c7 => ?_) (fun c7 => ?_)
  · skip
    refine e_aload_n q_X10_readNumber_21 (by decide) rfl ?_
    refine i_getI (k' := 2) q_X10_readNumber_22 fl_X10_19 (a12 hB) rfl rfl rfl (show _ = (nQ T L p) from mup_self _ _ _ _) ?_
    refine e_istore_n (ls' := [_, _, _, _, _]) q_X10_readNumber_25 (by decide) rfl rfl ?_
    refine e_iconst q_X10_readNumber_26 ?_
    refine e_istore (ls' := [_, _, _, _, _]) q_X10_readNumber_27 (by decide) rfl rfl ?_
    have hok : nOK T L p := by
      rcases sgE_r hTr hp0.1 hp0.2 hL2.2 with q | q
      · rw [q.1] at c7
        exact absurd c7.1 (by omega)
      · rw [q.2.1] at c7
        exact ⟨q.1, c7⟩
    refine zEe (ls := [.ref 12, vi a, vi b, vi (nQ T L p), vi (vSk T (nQ T L p) 0)]) (σ := zI s (mup N 12 2 ((nQ T L p) + ((0 : Nat) : Int)))) ?_ rfl (by rw [show (nQ T L p) + ((0 : Nat) : Int) = spE T L p from Int.add_zero _])
    refine z_for (P := fun i => ∀ (hh : True), (∀ j : Nat, j < i → (nQ T L p) + j < L ∧ isDg (T ((nQ T L p) + j))) → zE X m_X10_readNumber 29 [.ref 12, vi a, vi b, vi (nQ T L p), vi (vSk T (nQ T L p) i)] [] (zI s (mup N 12 2 ((nQ T L p) + (i : Int)))) Q) (L - (nQ T L p)).toNat (fun i hi ih hh hv => ?_) (fun hh hv => ?_) trivial (fun j hj => by omega)
    · skip
      have hsm := vSM (T := T) (p := (nQ T L p)) i (fun j hj => (hv j hj).2)
      have htr := hTr ((nQ T L p) + i) (by omega) (by omega)
      refine e_aload_n q_X10_readNumber_29 (by decide) rfl ?_
      refine i_getI (k' := 2) q_X10_readNumber_30 fl_X10_19 (a12 hB) rfl rfl rfl (mup_self _ _ _ _) ?_
      refine e_aload_n q_X10_readNumber_33 (by decide) rfl ?_
      refine i_getI (k' := 1) q_X10_readNumber_34 fl_X10_15 (a12 hB) rfl rfl rfl ((mup_slot (by decide)).trans hL) ?_
      refine e_icmp_ge q_X10_readNumber_37 (by constructor <;> omega) (by constructor <;> omega) (fun c37 => ?_) (fun c37 => ?_)
      · skip
        first
        | exact absurd c37 (by omega)
        | (have eE : nE T L p = (nQ T L p) + (i : Int) := endR_at (P := fun x => isDg (T x)) (by omega) hv (fun q => c52 q.2)
           have hvb := nV_b (T := T) (p := p) hp0.1 hp0.2 hL2.2
           rw [show (nE T L p - (nQ T L p)).toNat = i by omega] at hvb
           refine e_iload q_X10_readNumber_94 (by decide) rfl ?_
           refine e_iload_n q_X10_readNumber_96 (by decide) rfl ?_
           refine e_icmp_lt q_X10_readNumber_97 (by constructor <;> omega) (by constructor <;> omega) (fun c97 => ?_) (fun c97 => ?_)
           · skip
             refine e_aload_n q_X10_readNumber_106 (by decide) rfl ?_
             refine e_iload_n q_X10_readNumber_107 (by decide) rfl ?_
             refine iv_X10_fault q_X10_readNumber_108 lk_X10_41 (by decide) (a12 hB) (Nat.le_of_ble_eq_true rfl) ?_
             refine x_fault hB ?_
             refine e_pop q_X10_readNumber_111 rfl ?_
             refine e_iconst q_X10_readNumber_112 ?_
             refine e_ireturn q_X10_readNumber_113 rfl rfl ?_
             exact zqS (h2 hok (by omega)) rfl (by rw [eE])
           · skip
             refine e_iload q_X10_readNumber_100 (by decide) rfl ?_
             refine e_iload_n q_X10_readNumber_102 (by decide) rfl ?_
             refine e_icmp_le q_X10_readNumber_103 (by constructor <;> omega) (by constructor <;> omega) (fun c103 => ?_) (fun c103 => ?_)
             · skip
               refine e_iload q_X10_readNumber_114 (by decide) rfl ?_
               refine e_ireturn q_X10_readNumber_116 rfl rfl ?_
               exact zqS (h3 hok (by omega)) (by rw [show nV T L p = vSk T (nQ T L p) i by omega]) (by rw [eE])
             · skip
               refine e_aload_n q_X10_readNumber_106 (by decide) rfl ?_
               refine e_iload_n q_X10_readNumber_107 (by decide) rfl ?_
               refine iv_X10_fault q_X10_readNumber_108 lk_X10_41 (by decide) (a12 hB) (Nat.le_of_ble_eq_true rfl) ?_
               refine x_fault hB ?_
               refine e_pop q_X10_readNumber_111 rfl ?_
               refine e_iconst q_X10_readNumber_112 ?_
               refine e_ireturn q_X10_readNumber_113 rfl rfl ?_
               exact zqS (h2 hok (by omega)) rfl (by rw [eE]))
      · skip
        refine e_aload_n q_X10_readNumber_40 (by decide) rfl ?_
        refine i_getC (r := 13) q_X10_readNumber_41 fl_X10_9 (a12 hB) rfl (by decide) ?_
        refine e_aload_n q_X10_readNumber_44 (by decide) rfl ?_
        refine i_getI (k' := 2) q_X10_readNumber_45 fl_X10_19 (a12 hB) rfl rfl rfl (mup_self _ _ _ _) ?_
        refine i_bald q_X10_readNumber_48 (a13 hB) (fun _ => rfl) (by first | omega | assumption) (by first | omega | assumption) (by decide) ((mup_cell (by decide)).trans (congrFun hT _)) ?_
        refine iv_X10_isDigit q_X10_readNumber_49 lk_X10_62 (by decide) (Nat.le_of_ble_eq_true rfl) ?_
        refine x_isDigit (by have := hTr ((nQ T L p) + i) (by omega) (by omega); constructor <;> omega) ?_
        refine e_ifb_eq q_X10_readNumber_52 (fun c52 => ?_) (fun c52 => ?_)
        · skip
          first
          | exact absurd c37 (by omega)
          | (have eE : nE T L p = (nQ T L p) + (i : Int) := endR_at (P := fun x => isDg (T x)) (by omega) hv (fun q => c52 q.2)
             have hvb := nV_b (T := T) (p := p) hp0.1 hp0.2 hL2.2
             rw [show (nE T L p - (nQ T L p)).toNat = i by omega] at hvb
             refine e_iload q_X10_readNumber_94 (by decide) rfl ?_
             refine e_iload_n q_X10_readNumber_96 (by decide) rfl ?_
             refine e_icmp_lt q_X10_readNumber_97 (by constructor <;> omega) (by constructor <;> omega) (fun c97 => ?_) (fun c97 => ?_)
             · skip
               refine e_aload_n q_X10_readNumber_106 (by decide) rfl ?_
               refine e_iload_n q_X10_readNumber_107 (by decide) rfl ?_
               refine iv_X10_fault q_X10_readNumber_108 lk_X10_41 (by decide) (a12 hB) (Nat.le_of_ble_eq_true rfl) ?_
               refine x_fault hB ?_
               refine e_pop q_X10_readNumber_111 rfl ?_
               refine e_iconst q_X10_readNumber_112 ?_
               refine e_ireturn q_X10_readNumber_113 rfl rfl ?_
               exact zqS (h2 hok (by omega)) rfl (by rw [eE])
             · skip
               refine e_iload q_X10_readNumber_100 (by decide) rfl ?_
               refine e_iload_n q_X10_readNumber_102 (by decide) rfl ?_
               refine e_icmp_le q_X10_readNumber_103 (by constructor <;> omega) (by constructor <;> omega) (fun c103 => ?_) (fun c103 => ?_)
               · skip
                 refine e_iload q_X10_readNumber_114 (by decide) rfl ?_
                 refine e_ireturn q_X10_readNumber_116 rfl rfl ?_
                 exact zqS (h3 hok (by omega)) (by rw [show nV T L p = vSk T (nQ T L p) i by omega]) (by rw [eE])
               · skip
                 refine e_aload_n q_X10_readNumber_106 (by decide) rfl ?_
                 refine e_iload_n q_X10_readNumber_107 (by decide) rfl ?_
                 refine iv_X10_fault q_X10_readNumber_108 lk_X10_41 (by decide) (a12 hB) (Nat.le_of_ble_eq_true rfl) ?_
                 refine x_fault hB ?_
                 refine e_pop q_X10_readNumber_111 rfl ?_
                 refine e_iconst q_X10_readNumber_112 ?_
                 refine e_ireturn q_X10_readNumber_113 rfl rfl ?_
                 exact zqS (h2 hok (by omega)) rfl (by rw [eE]))
        · skip
          refine e_sipush q_X10_readNumber_55 (by decide) ?_
          refine e_iload q_X10_readNumber_58 (by decide) rfl ?_
          refine e_bipush q_X10_readNumber_60 (by decide) ?_
          refine e_imul q_X10_readNumber_62 ?_
          refine e_aload_n q_X10_readNumber_63 (by decide) rfl ?_
          refine i_getC (r := 13) q_X10_readNumber_64 fl_X10_9 (a12 hB) rfl (by decide) ?_
          refine e_aload_n q_X10_readNumber_67 (by decide) rfl ?_
          refine i_getI (k' := 2) q_X10_readNumber_68 fl_X10_19 (a12 hB) rfl rfl rfl (mup_self _ _ _ _) ?_
          refine i_bald q_X10_readNumber_71 (a13 hB) (fun _ => rfl) (by first | omega | assumption) (by first | omega | assumption) (by decide) ((mup_cell (by decide)).trans (congrFun hT _)) ?_
          refine e_iadd q_X10_readNumber_72 ?_
          refine e_bipush q_X10_readNumber_73 (by decide) ?_
          refine e_isub q_X10_readNumber_75 ?_
          refine e_min q_X10_readNumber_76 lk_X10_65 mm_min_s ini_J9 mm_min_c (by decide) (by decide) (Nat.le_of_ble_eq_true rfl) (by constructor <;> omega) (by constructor <;> omega) ?_
          refine e_istore (ls' := [_, _, _, _, _]) q_X10_readNumber_79 (by decide) rfl rfl ?_
          refine e_aload_n q_X10_readNumber_81 (by decide) rfl ?_
          refine e_dup q_X10_readNumber_82 rfl ?_
          refine i_getI (k' := 2) q_X10_readNumber_83 fl_X10_19 (a12 hB) rfl rfl rfl (mup_self _ _ _ _) ?_
          refine e_iconst q_X10_readNumber_86 ?_
          refine e_iadd q_X10_readNumber_87 ?_
          refine i_putI (k' := 2) q_X10_readNumber_88 fl_X10_19 (Or.inl rfl) (a12 hB) rfl rfl rfl rfl rfl ?_
          refine e_goto q_X10_readNumber_91 ?_
          refine zEe (ls := [.ref 12, vi a, vi b, vi (nQ T L p), vi (vSk T (nQ T L p) (i + 1))]) (σ := zI s (mup N 12 2 ((nQ T L p) + ((i + 1 : Nat) : Int)))) (ih trivial (fun j hj => ?_)) rfl ?_
          · by_cases e : j = i
            · rw [e]; exact ⟨by omega, c52⟩
            · exact hv j (by omega)
          · rw [mup_mup, show (nQ T L p) + ((i + 1 : Nat) : Int) = (nQ T L p) + (i : Int) + 1 by omega]
    · skip
      refine e_aload_n q_X10_readNumber_29 (by decide) rfl ?_
      refine i_getI (k' := 2) q_X10_readNumber_30 fl_X10_19 (a12 hB) rfl rfl rfl (mup_self _ _ _ _) ?_
      refine e_aload_n q_X10_readNumber_33 (by decide) rfl ?_
      refine i_getI (k' := 1) q_X10_readNumber_34 fl_X10_15 (a12 hB) rfl rfl rfl ((mup_slot (by decide)).trans hL) ?_
      refine e_icmp_ge q_X10_readNumber_37 (by constructor <;> omega) (by constructor <;> omega) (fun c37 => ?_) (fun c37 => ?_)
      · skip
        have eE : nE T L p = (nQ T L p) + ((L - (nQ T L p)).toNat : Int) := endR_at (P := fun x => isDg (T x)) (by omega) hv (fun q => by have := q.1; omega)
        have hvb := nV_b (T := T) (p := p) hp0.1 hp0.2 hL2.2
        rw [show (nE T L p - (nQ T L p)).toNat = (L - (nQ T L p)).toNat by omega] at hvb
        refine e_iload q_X10_readNumber_94 (by decide) rfl ?_
        refine e_iload_n q_X10_readNumber_96 (by decide) rfl ?_
        refine e_icmp_lt q_X10_readNumber_97 (by constructor <;> omega) (by constructor <;> omega) (fun c97 => ?_) (fun c97 => ?_)
        · skip
          refine e_aload_n q_X10_readNumber_106 (by decide) rfl ?_
          refine e_iload_n q_X10_readNumber_107 (by decide) rfl ?_
          refine iv_X10_fault q_X10_readNumber_108 lk_X10_41 (by decide) (a12 hB) (Nat.le_of_ble_eq_true rfl) ?_
          refine x_fault hB ?_
          refine e_pop q_X10_readNumber_111 rfl ?_
          refine e_iconst q_X10_readNumber_112 ?_
          refine e_ireturn q_X10_readNumber_113 rfl rfl ?_
          exact zqS (h2 hok (by omega)) rfl (by rw [eE])
        · skip
          refine e_iload q_X10_readNumber_100 (by decide) rfl ?_
          refine e_iload_n q_X10_readNumber_102 (by decide) rfl ?_
          refine e_icmp_le q_X10_readNumber_103 (by constructor <;> omega) (by constructor <;> omega) (fun c103 => ?_) (fun c103 => ?_)
          · skip
            refine e_iload q_X10_readNumber_114 (by decide) rfl ?_
            refine e_ireturn q_X10_readNumber_116 rfl rfl ?_
            exact zqS (h3 hok (by omega)) (by rw [show nV T L p = vSk T (nQ T L p) (L - (nQ T L p)).toNat by omega]) (by rw [eE])
          · skip
            refine e_aload_n q_X10_readNumber_106 (by decide) rfl ?_
            refine e_iload_n q_X10_readNumber_107 (by decide) rfl ?_
            refine iv_X10_fault q_X10_readNumber_108 lk_X10_41 (by decide) (a12 hB) (Nat.le_of_ble_eq_true rfl) ?_
            refine x_fault hB ?_
            refine e_pop q_X10_readNumber_111 rfl ?_
            refine e_iconst q_X10_readNumber_112 ?_
            refine e_ireturn q_X10_readNumber_113 rfl rfl ?_
            exact zqS (h2 hok (by omega)) rfl (by rw [eE])
      · skip
        exact absurd (by omega) c37
  · skip
    refine e_aload_n q_X10_readNumber_10 (by decide) rfl ?_
    refine e_aload_n q_X10_readNumber_11 (by decide) rfl ?_
    refine i_getI (k' := 2) q_X10_readNumber_12 fl_X10_19 (a12 hB) rfl rfl rfl (mup_self _ _ _ _) ?_
    refine iv_X10_fault q_X10_readNumber_15 lk_X10_41 (by decide) (a12 hB) (Nat.le_of_ble_eq_true rfl) ?_
    refine x_fault hB ?_
    refine e_pop q_X10_readNumber_18 rfl ?_
    refine e_iconst q_X10_readNumber_19 ?_
    refine e_ireturn q_X10_readNumber_20 rfl rfl ?_
    refine h1 (fun q => c7 ?_)
    rcases sgE_r hTr hp0.1 hp0.2 hL2.2 with r | r
    · exact absurd q.1 r.2
    · rw [r.2.1]; exact q.2
set_option maxRecDepth 20000 in
set_option maxHeartbeats 2000000 in
theorem x_setAges {D : Nat} (hD : lwA s D) {k a b : Int} (hk : 0 ≤ k ∧ k < 3) (h : Q none (zI s (mup (mup N (D + 1) k a) (D + 2) k b))) : zC X m_X3_setAges [.ref D, vi k, vi a, vi b] (zI s N) Q := by
  obtain ⟨dD, dA, dB, dC, dc0, dc1, dc2, dcB, dcC⟩ := id hD
  show zE X m_X3_setAges 0 [.ref D, vi k, vi a, vi b] [] _ Q
  refine e_iload_n q_X3_setAges_0 (by decide) rfl ?_
  refine e_if_lt q_X3_setAges_1 (by constructor <;> omega) (fun c1 => ?_) (fun c1 => ?_)
  · skip
    refine e_return q_X3_setAges_23 rfl ?_
    first | exact h | (exfalso; omega)
  · skip
    refine e_iload_n q_X3_setAges_4 (by decide) rfl ?_
    refine e_iconst q_X3_setAges_5 ?_
    refine e_icmp_ge q_X3_setAges_6 (by constructor <;> omega) (by constructor <;> omega) (fun c6 => ?_) (fun c6 => ?_)
    · skip
      refine e_return q_X3_setAges_23 rfl ?_
      first | exact h | (exfalso; omega)
    · skip
      refine e_aload_n q_X3_setAges_9 (by decide) rfl ?_
      refine i_getC (r := D + 1) q_X3_setAges_10 fl_X3_9 dA dc0 (by omega) ?_
      refine e_iload_n q_X3_setAges_13 (by decide) rfl ?_
      refine e_iload_n q_X3_setAges_14 (by decide) rfl ?_
      refine i_iast q_X3_setAges_15 dB dcB (by first | omega | assumption) (by first | omega | assumption) (by decide) ?_
      refine e_aload_n q_X3_setAges_16 (by decide) rfl ?_
      refine i_getC (r := D + 2) q_X3_setAges_17 fl_X3_15 dA dc1 (by omega) ?_
      refine e_iload_n q_X3_setAges_20 (by decide) rfl ?_
      refine e_iload_n q_X3_setAges_21 (by decide) rfl ?_
      refine i_iast q_X3_setAges_22 dC dcC (by first | omega | assumption) (by first | omega | assumption) (by decide) ?_
      refine e_return q_X3_setAges_23 rfl ?_
      first | exact h | (exfalso; omega)
end LT2
