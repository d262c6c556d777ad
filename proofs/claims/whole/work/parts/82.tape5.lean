/-! the tape, 5: the reference's (printed by wip/whole/gen/l5.py) -/
section LT5
variable {X : zX} {s : zK} {N : zN} {σ : zS} {fa sa : Int → Int} {Q K : Option Value → zS → Prop} {c : Int}
/-- the reference's tape -/
def tpM (s : zK) (N : zN) (T : Int → Int) (L : Int) : Prop := zB0 s ∧ N 51 = T ∧ N 39 15 = L ∧ (0 ≤ L ∧ L ≤ 40) ∧ ∀ x : Int, 0 ≤ x → x < L → 32 ≤ T x ∧ T x ≤ 126
theorem tpM.mu {T : Int → Int} {L : Int} {a : Nat} {i x : Int} (h : tpM s N T L) (ha : a ≠ 51) (hi : ¬ (a = 39 ∧ i = 15)) : tpM s (mup N a i x) T L := ⟨h.1, by rw [mup_fn (fun q => ha q.symm)]; exact h.2.1, by rw [mup_ne (fun q => hi ⟨q.1.symm, q.2.symm⟩)]; exact h.2.2.1, h.2.2.2⟩
/-- only the reader's own counts changed -/
def fr39 (N N1 : zN) : Prop := ∀ (a : Nat) (x : Int), ¬ (a = 39 ∧ 19 ≤ x ∧ x ≤ 22) → N1 a x = N a x
theorem fr39.tp {N1 : zN} {T : Int → Int} {L : Int} (h : fr39 N N1) (ht : tpM s N T L) : tpM s N1 T L := ⟨ht.1, (funext fun x => h 51 x (by omega)).trans ht.2.1, (h 39 15 (by omega)).trans ht.2.2.1, ht.2.2.2⟩
theorem fr39.rf : fr39 N N := fun _ _ _ => rfl
theorem fr39.mu {N1 : zN} {i x : Int} (h : fr39 N N1) (hi : 19 ≤ i ∧ i ≤ 22) : fr39 N (mup N1 39 i x) := fun a y hy => by
  rw [mup_ne (fun q => hy ⟨q.1, by omega⟩)]
  exact h a y hy
theorem fr39.tr {N1 N2 : zN} (h : fr39 N N1) (h2 : fr39 N1 N2) : fr39 N N2 := fun a x hx => (h2 a x hx).trans (h a x hx)
set_option maxRecDepth 20000 in
set_option maxHeartbeats 2000000 in
theorem k_skip {T : Int → Int} {L : Int} (ht : tpM s N T L){p : Int} (hp : N 39 19 = p) (hp0 : 0 ≤ p ∧ p ≤ L) (h : Q none (zI s (mup N 39 19 (spE T L p)))) : zC X m_X12_skip [.ref 39] (zI s N) Q := by
  obtain ⟨hB, hT, hL, hL2, hTr⟩ := id ht
  show zE X m_X12_skip 0 [.ref 39] [] _ Q
  refine zEe (ls := [.ref 39]) (σ := zI s (mup N 39 19 (p + ((0 : Nat) : Int)))) ?_ rfl (by rw [mup_id (by omega)])
  refine z_for (P := fun i => ∀ (hh : True), (∀ j : Nat, j < i → p + j < L ∧ T (p + j) = 32) → zE X m_X12_skip 0 [.ref 39] [] (zI s (mup N 39 19 (p + (i : Int)))) Q) (L - p).toNat (fun i hi ih hh hv => ?_) (fun hh hv => ?_) trivial (fun j hj => by omega)
  · skip
    refine e_aload_n q_X12_skip_0 (by decide) rfl ?_
    refine i_getI (k' := 19) q_X12_skip_1 fl_X12_208 (a39 hB) rfl rfl rfl (mup_self _ _ _ _) ?_
    refine e_aload_n q_X12_skip_4 (by decide) rfl ?_
    refine i_getI (k' := 15) q_X12_skip_5 fl_X12_205 (a39 hB) rfl rfl rfl ((mup_slot (by decide)).trans hL) ?_
    refine e_icmp_ge q_X12_skip_8 (by constructor <;> omega) (by constructor <;> omega) (fun c8 => ?_) (fun c8 => ?_)
    · skip
      first
      | exact absurd c8 (by omega)
      | (refine e_return q_X12_skip_38 rfl ?_
         have e : spE T L p = p + (i : Int) := endR_at (P := fun x => T x = 32) (by omega) hv (fun q => c22 q.2)
         rw [e] at h
         exact h)
    · skip
      refine e_aload_n q_X12_skip_11 (by decide) rfl ?_
      refine i_getC (r := 51) q_X12_skip_12 fl_X12_44 (a39 hB) rfl (by decide) ?_
      refine e_aload_n q_X12_skip_15 (by decide) rfl ?_
      refine i_getI (k' := 19) q_X12_skip_16 fl_X12_208 (a39 hB) rfl rfl rfl (mup_self _ _ _ _) ?_
      refine i_iald q_X12_skip_19 (a51 hB) (cref0 (by decide)) (by first | omega | assumption) (by first | omega | assumption) (by decide) ((mup_cell (by decide)).trans (congrFun hT _)) ?_
      refine e_bipush q_X12_skip_20 (by decide) ?_
      refine e_icmp_ne q_X12_skip_22 (by have := hTr (p + i) (by omega) (by omega); constructor <;> omega) (by have := hTr (p + i) (by omega) (by omega); constructor <;> omega) (fun c22 => ?_) (fun c22 => ?_)
      · skip
        first
        | exact absurd c8 (by omega)
        | (refine e_return q_X12_skip_38 rfl ?_
           have e : spE T L p = p + (i : Int) := endR_at (P := fun x => T x = 32) (by omega) hv (fun q => c22 q.2)
           rw [e] at h
           exact h)
      · skip
        refine e_aload_n q_X12_skip_25 (by decide) rfl ?_
        refine e_dup q_X12_skip_26 rfl ?_
        refine i_getI (k' := 19) q_X12_skip_27 fl_X12_208 (a39 hB) rfl rfl rfl (mup_self _ _ _ _) ?_
        refine e_iconst q_X12_skip_30 ?_
        refine e_iadd q_X12_skip_31 ?_
        refine i_putI (k' := 19) q_X12_skip_32 fl_X12_208 (Or.inl rfl) (a39 hB) rfl rfl rfl rfl rfl ?_
        refine e_goto q_X12_skip_35 ?_
        refine zEe (σ := zI s (mup N 39 19 (p + ((i + 1 : Nat) : Int)))) (ih trivial (fun j hj => ?_)) rfl ?_
        · by_cases e : j = i
          · rw [e]; exact ⟨by omega, c22⟩
          · exact hv j (by omega)
        · rw [mup_mup, show p + ((i + 1 : Nat) : Int) = p + (i : Int) + 1 by omega]
  · skip
    refine e_aload_n q_X12_skip_0 (by decide) rfl ?_
    refine i_getI (k' := 19) q_X12_skip_1 fl_X12_208 (a39 hB) rfl rfl rfl (mup_self _ _ _ _) ?_
    refine e_aload_n q_X12_skip_4 (by decide) rfl ?_
    refine i_getI (k' := 15) q_X12_skip_5 fl_X12_205 (a39 hB) rfl rfl rfl ((mup_slot (by decide)).trans hL) ?_
    refine e_icmp_ge q_X12_skip_8 (by constructor <;> omega) (by constructor <;> omega) (fun c8 => ?_) (fun c8 => ?_)
    · skip
      refine e_return q_X12_skip_38 rfl ?_
      have e : spE T L p = p + ((L - p).toNat : Int) := endR_at (P := fun x => T x = 32) (by omega) hv (fun q => by have := q.1; omega)
      rw [e] at h
      exact h
    · skip
      exact absurd (by omega) c8
set_option maxRecDepth 20000 in
set_option maxHeartbeats 2000000 in
theorem k_faultAt (hB : zB0 s) (hw : N 39 20 = -1) {x : Int} (h : Q none (zI s (mup N 39 20 x))) : zC X m_X12_faultAt [.ref 39, vi x] (zI s N) Q := by
  show zE X m_X12_faultAt 0 [.ref 39, vi x] [] _ Q
  refine e_aload_n q_X12_faultAt_0 (by decide) rfl ?_
  refine e_aload_n q_X12_faultAt_1 (by decide) rfl ?_
  refine i_getI (k' := 20) q_X12_faultAt_2 fl_X12_211 (a39 hB) rfl rfl rfl hw ?_
  refine e_if_ge q_X12_faultAt_5 (by constructor <;> omega) (fun c5 => ?_) (fun c5 => ?_)
  · skip
    refine e_aload_n q_X12_faultAt_12 (by decide) rfl ?_
    refine i_getI (k' := 20) q_X12_faultAt_13 fl_X12_211 (a39 hB) rfl rfl rfl hw ?_
    refine i_putI (k' := 20) q_X12_faultAt_16 fl_X12_211 (Or.inl rfl) (a39 hB) rfl rfl rfl rfl rfl ?_
    refine e_return q_X12_faultAt_19 rfl ?_
    first | exact h | (exfalso; omega)
  · skip
    refine e_iload_n q_X12_faultAt_8 (by decide) rfl ?_
    refine e_goto q_X12_faultAt_9 ?_
    refine i_putI (k' := 20) q_X12_faultAt_16 fl_X12_211 (Or.inl rfl) (a39 hB) rfl rfl rfl rfl rfl ?_
    refine e_return q_X12_faultAt_19 rfl ?_
    first | exact h | (exfalso; omega)
set_option maxRecDepth 20000 in
set_option maxHeartbeats 2000000 in
theorem k_kindOf {x : Int} (hx : zr x) (h : Q (some (vi (kndI x))) σ) : zC X m_X12_kindOf [vi x] σ Q := by
  show zE X m_X12_kindOf 0 [vi x] [] _ Q
  refine e_iload_n q_X12_kindOf_0 (by decide) rfl ?_
  rcases (show x = 99 ∨ x = 107 ∨ x = 109 ∨ x = 115 ∨ (x ≠ 99 ∧ x ≠ 107 ∧ x ≠ 109 ∧ x ≠ 115) by omega) with rfl | rfl | rfl | rfl | hk
  · skip
    refine e_lookup (off := 45) (tgt := 46) q_X12_kindOf_1 (by constructor <;> omega) rfl rfl rfl ?_
    refine e_iconst q_X12_kindOf_46 ?_
    refine e_ireturn q_X12_kindOf_47 rfl rfl ?_
    first | exact h | exact zqI h (by unfold kndI; rw [if_neg (by omega), if_neg (by omega), if_neg (by omega), if_neg (by omega)])
  · skip
    refine e_lookup (off := 47) (tgt := 48) q_X12_kindOf_1 (by constructor <;> omega) rfl rfl rfl ?_
    refine e_iconst q_X12_kindOf_48 ?_
    refine e_ireturn q_X12_kindOf_49 rfl rfl ?_
    first | exact h | exact zqI h (by unfold kndI; rw [if_neg (by omega), if_neg (by omega), if_neg (by omega), if_neg (by omega)])
  · skip
    refine e_lookup (off := 43) (tgt := 44) q_X12_kindOf_1 (by constructor <;> omega) rfl rfl rfl ?_
    refine e_iconst q_X12_kindOf_44 ?_
    refine e_ireturn q_X12_kindOf_45 rfl rfl ?_
    first | exact h | exact zqI h (by unfold kndI; rw [if_neg (by omega), if_neg (by omega), if_neg (by omega), if_neg (by omega)])
  · skip
    refine e_lookup (off := 49) (tgt := 50) q_X12_kindOf_1 (by constructor <;> omega) rfl rfl rfl ?_
    refine e_iconst q_X12_kindOf_50 ?_
    refine e_ireturn q_X12_kindOf_51 rfl rfl ?_
    first | exact h | exact zqI h (by unfold kndI; rw [if_neg (by omega), if_neg (by omega), if_neg (by omega), if_neg (by omega)])
  · skip
    refine e_lookup (off := 51) (tgt := 52) q_X12_kindOf_1 hx rfl ((if_neg (by omega)).trans ((if_neg (by omega)).trans ((if_neg (by omega)).trans (if_neg (by omega))))) rfl ?_
    refine e_iconst q_X12_kindOf_52 ?_
    refine e_ireturn q_X12_kindOf_53 rfl rfl ?_
    first | exact h | exact zqI h (by unfold kndI; rw [if_neg (by omega), if_neg (by omega), if_neg (by omega), if_neg (by omega)])
set_option maxRecDepth 20000 in
set_option maxHeartbeats 2000000 in
theorem k_readNumber {T : Int → Int} {L : Int} (ht : tpM s N T L){p : Int} (hp : N 39 19 = p) (hp0 : 0 ≤ p ∧ p ≤ L) (hw : N 39 20 = -1) (h1 : ¬ nOK T L p → ∀ N1, fr39 N N1 → N1 39 20 = (nQ T L p) → N1 39 19 = (nQ T L p) → Q none (zI s N1)) (h2 : nOK T L p → ∀ N1, fr39 N N1 → N1 39 19 = nE T L p → N1 39 20 = -1 → N1 39 21 = nV T L p → N1 39 22 = (nQ T L p) → Q none (zI s N1)) : zC X m_X12_readNumber [.ref 39] (zI s N) Q := by
  obtain ⟨hB, hT, hL, hL2, hTr⟩ := id ht
  have hqb := nQ_b (T := T) hp0.1 hp0.2 hL2.2
  have hqb2 : p ≤ spE T L p ∧ spE T L p ≤ L := hqb
  show zE X m_X12_readNumber 0 [.ref 39] [] _ Q
  refine e_aload_n q_X12_readNumber_0 (by decide) rfl ?_
  refine iv_X12_skip q_X12_readNumber_1 lk_X12_214 (by decide) (a39 hB) (Nat.le_of_ble_eq_true rfl) ?_
  refine k_skip ht hp hp0 ?_
  refine e_aload_n q_X12_readNumber_4 (by decide) rfl ?_
  refine e_aload_n q_X12_readNumber_5 (by decide) rfl ?_
  refine i_getI (k' := 19) q_X12_readNumber_6 fl_X12_208 (a39 hB) rfl rfl rfl (mup_self _ _ _ _) ?_
  refine i_putI (k' := 22) q_X12_readNumber_9 fl_X12_217 (Or.inl rfl) (a39 hB) rfl rfl rfl rfl rfl ?_
  refine e_aload_n q_X12_readNumber_12 (by decide) rfl ?_
  refine e_iconst q_X12_readNumber_13 ?_
  refine i_putI (k' := 21) q_X12_readNumber_14 fl_X12_220 (Or.inl rfl) (a39 hB) rfl rfl rfl rfl rfl ?_
  refine e_aload_n q_X12_readNumber_17 (by decide) rfl ?_
  refine i_getI (k' := 19) q_X12_readNumber_18 fl_X12_208 (a39 hB) rfl rfl rfl ((mup_slot (by decide)).trans ((mup_slot (by decide)).trans (mup_self _ _ _ _))) ?_
  refine e_aload_n q_X12_readNumber_21 (by decide) rfl ?_
  refine i_getI (k' := 15) q_X12_readNumber_22 fl_X12_205 (a39 hB) rfl rfl rfl ((mup_slot (by decide)).trans ((mup_slot (by decide)).trans ((mup_slot (by decide)).trans hL))) ?_
  refine e_icmp_eq q_X12_readNumber_25 (by constructor <;> omega) (by constructor <;> omega) (fun c25 => ?_) (fun c25 => ?_)
  · skip
    refine e_aload_n q_X12_readNumber_47 (by decide) rfl ?_
    refine e_aload_n q_X12_readNumber_48 (by decide) rfl ?_
    refine i_getI (k' := 19) q_X12_readNumber_49 fl_X12_208 (a39 hB) rfl rfl rfl ((mup_slot (by decide)).trans ((mup_slot (by decide)).trans (mup_self _ _ _ _))) ?_
    refine iv_X12_faultAt q_X12_readNumber_52 lk_X12_223 (by decide) (a39 hB) (Nat.le_of_ble_eq_true rfl) ?_
    refine k_faultAt hB ((mup_slot (by decide)).trans ((mup_slot (by decide)).trans ((mup_slot (by decide)).trans hw))) ?_
    refine e_return q_X12_readNumber_55 rfl ?_
    refine h1 (fun q => ?_) _ ((((fr39.rf.mu (by omega)).mu (by omega)).mu (by omega)).mu (by omega)) (mup_self _ _ _ _) ?_
    · first
      | exact c44 q.2
      | (have q1 : spE T L p < L := q.1
         omega)
    · rw [mup_slot (by decide), mup_slot (by decide), mup_slot (by decide), mup_self]
      rfl
  · skip
    refine e_aload_n q_X12_readNumber_28 (by decide) rfl ?_
    refine i_getC (r := 51) q_X12_readNumber_29 fl_X12_44 (a39 hB) rfl (by decide) ?_
    refine e_aload_n q_X12_readNumber_32 (by decide) rfl ?_
    refine i_getI (k' := 19) q_X12_readNumber_33 fl_X12_208 (a39 hB) rfl rfl rfl ((mup_slot (by decide)).trans ((mup_slot (by decide)).trans (mup_self _ _ _ _))) ?_
    refine i_iald q_X12_readNumber_36 (a51 hB) (cref0 (by decide)) (by first | omega | assumption) (by first | omega | assumption) (by decide) ((mup_cell (by decide)).trans ((mup_cell (by decide)).trans ((mup_cell (by decide)).trans (congrFun hT _)))) ?_
    refine e_bipush q_X12_readNumber_37 (by decide) ?_
    refine e_bipush q_X12_readNumber_39 (by decide) ?_
    refine iv_X12_within q_X12_readNumber_41 lk_X12_160 (by decide) (Nat.le_of_ble_eq_true rfl) ?_
    refine k_within (by have := hTr (spE T L p) (by omega) (by omega); constructor <;> omega) (by constructor <;> omega) (by constructor <;> omega) ?_
    refine e_ifb_ne q_X12_readNumber_44 (fun c44 => ?_) (fun c44 => ?_)
    · skip
      have hok : nOK T L p := ⟨by show spE T L p < L; omega, c44⟩
      have hst : fr39 N (mup (mup (mup N 39 19 (spE T L p)) 39 22 (spE T L p)) 39 21 0) ∧ (mup (mup (mup N 39 19 (spE T L p)) 39 22 (spE T L p)) 39 21 0) 39 19 = (nQ T L p) + ((0 : Nat) : Int) ∧ (mup (mup (mup N 39 19 (spE T L p)) 39 22 (spE T L p)) 39 21 0) 39 20 = -1 ∧ (mup (mup (mup N 39 19 (spE T L p)) 39 22 (spE T L p)) 39 21 0) 39 21 = vMk T (nQ T L p) 0 ∧ (mup (mup (mup N 39 19 (spE T L p)) 39 22 (spE T L p)) 39 21 0) 39 22 = (nQ T L p) ∧ ∀ j : Nat, j < 0 → (nQ T L p) + j < L ∧ isDg (T ((nQ T L p) + j)) := ⟨((fr39.rf.mu (by omega)).mu (by omega)).mu (by omega), (mup_slot (by decide)).trans ((mup_slot (by decide)).trans ((mup_self _ _ _ _).trans (Int.add_zero _).symm)), (mup_slot (by decide)).trans ((mup_slot (by decide)).trans ((mup_slot (by decide)).trans hw)), mup_self _ _ _ _, (mup_slot (by decide)).trans (mup_self _ _ _ _), fun j hj => absurd hj (by omega)⟩
      refine z_for (P := fun i => ∀ (N1 : zN), (fr39 N N1 ∧ N1 39 19 = (nQ T L p) + i ∧ N1 39 20 = -1 ∧ N1 39 21 = vMk T (nQ T L p) i ∧ N1 39 22 = (nQ T L p) ∧ ∀ j : Nat, j < i → (nQ T L p) + j < L ∧ isDg (T ((nQ T L p) + j))) → zE X m_X12_readNumber 56 [.ref 39] [] (zI s N1) Q) (L - (nQ T L p)).toNat (fun i hi ih N1 hv => ?_) (fun N1 hv => ?_) _ hst
      · skip
        have hT1 : N1 51 = T := (funext fun x => hv.1 51 x (by omega)).trans hT
        have hL1 : N1 39 15 = L := (hv.1 39 15 (by omega)).trans hL
        have hsm := vSM (T := T) (p := (nQ T L p)) i (fun j hj => (hv.2.2.2.2.2 j hj).2)
        have htr := hTr ((nQ T L p) + i) (by omega) (by omega)
        refine e_aload_n q_X12_readNumber_56 (by decide) rfl ?_
        refine i_getI (k' := 19) q_X12_readNumber_57 fl_X12_208 (a39 hB) rfl rfl rfl hv.2.1 ?_
        refine e_aload_n q_X12_readNumber_60 (by decide) rfl ?_
        refine i_getI (k' := 15) q_X12_readNumber_61 fl_X12_205 (a39 hB) rfl rfl rfl hL1 ?_
        refine e_icmp_ge q_X12_readNumber_64 (by constructor <;> omega) (by constructor <;> omega) (fun c64 => ?_) (fun c64 => ?_)
        · skip
          first
          | exact absurd c64 (by omega)
          | (refine e_return q_X12_readNumber_140 rfl ?_
             have eE : nE T L p = (nQ T L p) + (i : Int) := endR_at (P := fun x => isDg (T x)) (by omega) hv.2.2.2.2.2 (fun q => c83 q.2)
             have eV : nV T L p = vMk T (nQ T L p) i := by
               unfold nV
               rw [show (nE T L p - (nQ T L p)).toNat = i by omega]
             exact h2 hok N1 hv.1 (hv.2.1.trans eE.symm) hv.2.2.1 (hv.2.2.2.1.trans eV.symm) hv.2.2.2.2.1)
        · skip
          refine e_aload_n q_X12_readNumber_67 (by decide) rfl ?_
          refine i_getC (r := 51) q_X12_readNumber_68 fl_X12_44 (a39 hB) rfl (by decide) ?_
          refine e_aload_n q_X12_readNumber_71 (by decide) rfl ?_
          refine i_getI (k' := 19) q_X12_readNumber_72 fl_X12_208 (a39 hB) rfl rfl rfl hv.2.1 ?_
          refine i_iald q_X12_readNumber_75 (a51 hB) (cref0 (by decide)) (by first | omega | assumption) (by first | omega | assumption) (by decide) (congrFun hT1 _) ?_
          refine e_bipush q_X12_readNumber_76 (by decide) ?_
          refine e_bipush q_X12_readNumber_78 (by decide) ?_
          refine iv_X12_within q_X12_readNumber_80 lk_X12_160 (by decide) (Nat.le_of_ble_eq_true rfl) ?_
          refine k_within (by constructor <;> omega) (by constructor <;> omega) (by constructor <;> omega) ?_
          refine e_ifb_eq q_X12_readNumber_83 (fun c83 => ?_) (fun c83 => ?_)
          · skip
            first
            | exact absurd c64 (by omega)
            | (refine e_return q_X12_readNumber_140 rfl ?_
               have eE : nE T L p = (nQ T L p) + (i : Int) := endR_at (P := fun x => isDg (T x)) (by omega) hv.2.2.2.2.2 (fun q => c83 q.2)
               have eV : nV T L p = vMk T (nQ T L p) i := by
                 unfold nV
                 rw [show (nE T L p - (nQ T L p)).toNat = i by omega]
               exact h2 hok N1 hv.1 (hv.2.1.trans eE.symm) hv.2.2.1 (hv.2.2.2.1.trans eV.symm) hv.2.2.2.2.1)
          · skip
            refine e_aload_n q_X12_readNumber_86 (by decide) rfl ?_
            refine e_aload_n q_X12_readNumber_87 (by decide) rfl ?_
            refine i_getI (k' := 21) q_X12_readNumber_88 fl_X12_220 (a39 hB) rfl rfl rfl hv.2.2.2.1 ?_
            refine e_sipush q_X12_readNumber_91 (by decide) ?_
            refine e_icmp_ge q_X12_readNumber_94 (by constructor <;> omega) (by constructor <;> omega) (fun c94 => ?_) (fun c94 => ?_)
            · skip
              refine e_aload_n q_X12_readNumber_120 (by decide) rfl ?_
              refine i_getI (k' := 21) q_X12_readNumber_121 fl_X12_220 (a39 hB) rfl rfl rfl hv.2.2.2.1 ?_
              refine i_putI (k' := 21) q_X12_readNumber_124 fl_X12_220 (Or.inl rfl) (a39 hB) rfl rfl rfl rfl rfl ?_
              refine e_aload_n q_X12_readNumber_127 (by decide) rfl ?_
              refine e_dup q_X12_readNumber_128 rfl ?_
              refine i_getI (k' := 19) q_X12_readNumber_129 fl_X12_208 (a39 hB) rfl rfl rfl ((mup_slot (by decide)).trans hv.2.1) ?_
              refine e_iconst q_X12_readNumber_132 ?_
              refine e_iadd q_X12_readNumber_133 ?_
              refine i_putI (k' := 19) q_X12_readNumber_134 fl_X12_208 (Or.inl rfl) (a39 hB) rfl rfl rfl rfl rfl ?_
              refine e_goto q_X12_readNumber_137 ?_
              refine ih _ ⟨(hv.1.mu (by omega)).mu (by omega), ?_, ?_, ?_, ?_, fun j hj => ?_⟩
              · rw [mup_self]; omega
              · rw [mup_slot (by decide), mup_slot (by decide)]; exact hv.2.2.1
              · rw [mup_slot (by decide), mup_self, vMk]
                first | rw [if_pos (by omega)] | rw [if_neg (by omega)]
              · rw [mup_slot (by decide), mup_slot (by decide)]; exact hv.2.2.2.2.1
              · by_cases e : j = i
                · rw [e]; exact ⟨by omega, c83⟩
                · exact hv.2.2.2.2.2 j (by omega)
            · skip
              refine e_bipush q_X12_readNumber_97 (by decide) ?_
              refine e_aload_n q_X12_readNumber_99 (by decide) rfl ?_
              refine i_getI (k' := 21) q_X12_readNumber_100 fl_X12_220 (a39 hB) rfl rfl rfl hv.2.2.2.1 ?_
              refine e_imul q_X12_readNumber_103 ?_
              refine e_aload_n q_X12_readNumber_104 (by decide) rfl ?_
              refine i_getC (r := 51) q_X12_readNumber_105 fl_X12_44 (a39 hB) rfl (by decide) ?_
              refine e_aload_n q_X12_readNumber_108 (by decide) rfl ?_
              refine i_getI (k' := 19) q_X12_readNumber_109 fl_X12_208 (a39 hB) rfl rfl rfl hv.2.1 ?_
              refine i_iald q_X12_readNumber_112 (a51 hB) (cref0 (by decide)) (by first | omega | assumption) (by first | omega | assumption) (by decide) (congrFun hT1 _) ?_
              refine e_iadd q_X12_readNumber_113 ?_
              refine e_bipush q_X12_readNumber_114 (by decide) ?_
              refine e_isub q_X12_readNumber_116 ?_
              refine e_goto q_X12_readNumber_117 ?_
              refine i_putI (k' := 21) q_X12_readNumber_124 fl_X12_220 (Or.inl rfl) (a39 hB) rfl rfl rfl rfl rfl ?_
              refine e_aload_n q_X12_readNumber_127 (by decide) rfl ?_
              refine e_dup q_X12_readNumber_128 rfl ?_
              refine i_getI (k' := 19) q_X12_readNumber_129 fl_X12_208 (a39 hB) rfl rfl rfl ((mup_slot (by decide)).trans hv.2.1) ?_
              refine e_iconst q_X12_readNumber_132 ?_
              refine e_iadd q_X12_readNumber_133 ?_
              refine i_putI (k' := 19) q_X12_readNumber_134 fl_X12_208 (Or.inl rfl) (a39 hB) rfl rfl rfl rfl rfl ?_
              refine e_goto q_X12_readNumber_137 ?_
              refine ih _ ⟨(hv.1.mu (by omega)).mu (by omega), ?_, ?_, ?_, ?_, fun j hj => ?_⟩
              · rw [mup_self]; omega
              · rw [mup_slot (by decide), mup_slot (by decide)]; exact hv.2.2.1
              · rw [mup_slot (by decide), mup_self, vMk]
                first | rw [if_pos (by omega)] | rw [if_neg (by omega)]
              · rw [mup_slot (by decide), mup_slot (by decide)]; exact hv.2.2.2.2.1
              · by_cases e : j = i
                · rw [e]; exact ⟨by omega, c83⟩
                · exact hv.2.2.2.2.2 j (by omega)
      · skip
        have hT1 : N1 51 = T := (funext fun x => hv.1 51 x (by omega)).trans hT
        have hL1 : N1 39 15 = L := (hv.1 39 15 (by omega)).trans hL
        refine e_aload_n q_X12_readNumber_56 (by decide) rfl ?_
        refine i_getI (k' := 19) q_X12_readNumber_57 fl_X12_208 (a39 hB) rfl rfl rfl hv.2.1 ?_
        refine e_aload_n q_X12_readNumber_60 (by decide) rfl ?_
        refine i_getI (k' := 15) q_X12_readNumber_61 fl_X12_205 (a39 hB) rfl rfl rfl hL1 ?_
        refine e_icmp_ge q_X12_readNumber_64 (by constructor <;> omega) (by constructor <;> omega) (fun c64 => ?_) (fun c64 => ?_)
        · skip
          refine e_return q_X12_readNumber_140 rfl ?_
          have eE : nE T L p = (nQ T L p) + ((L - (nQ T L p)).toNat : Int) := endR_at (P := fun x => isDg (T x)) (by omega) hv.2.2.2.2.2 (fun q => by have := q.1; omega)
          have eV : nV T L p = vMk T (nQ T L p) (L - (nQ T L p)).toNat := by
            unfold nV
            rw [show (nE T L p - (nQ T L p)).toNat = (L - (nQ T L p)).toNat by omega]
          exact h2 hok N1 hv.1 (hv.2.1.trans eE.symm) hv.2.2.1 (hv.2.2.2.1.trans eV.symm) hv.2.2.2.2.1
        · skip
          exact absurd (by omega) c64
    · skip
      refine e_aload_n q_X12_readNumber_47 (by decide) rfl ?_
      refine e_aload_n q_X12_readNumber_48 (by decide) rfl ?_
      refine i_getI (k' := 19) q_X12_readNumber_49 fl_X12_208 (a39 hB) rfl rfl rfl ((mup_slot (by decide)).trans ((mup_slot (by decide)).trans (mup_self _ _ _ _))) ?_
      refine iv_X12_faultAt q_X12_readNumber_52 lk_X12_223 (by decide) (a39 hB) (Nat.le_of_ble_eq_true rfl) ?_
      refine k_faultAt hB ((mup_slot (by decide)).trans ((mup_slot (by decide)).trans ((mup_slot (by decide)).trans hw))) ?_
      refine e_return q_X12_readNumber_55 rfl ?_
      refine h1 (fun q => ?_) _ ((((fr39.rf.mu (by omega)).mu (by omega)).mu (by omega)).mu (by omega)) (mup_self _ _ _ _) ?_
      · first
        | exact c44 q.2
        | (have q1 : spE T L p < L := q.1
           omega)
      · rw [mup_slot (by decide), mup_slot (by decide), mup_slot (by decide), mup_self]
        rfl
set_option maxRecDepth 20000 in
set_option maxHeartbeats 2000000 in
theorem k_readByte {T : Int → Int} {L : Int} (ht : tpM s N T L){p : Int} (hp : N 39 19 = p) (hp0 : 0 ≤ p ∧ p ≤ L) (hw : N 39 20 = -1) (h1 : ¬ ((spE T L p) < L ∧ T (spE T L p) = 45) → ∀ N1, fr39 N N1 → N1 39 20 = (spE T L p) → N1 39 19 = (spE T L p) → Q none (zI s N1)) (h2 : ((spE T L p) < L ∧ T (spE T L p) = 45) → ∀ N1, fr39 N N1 → N1 39 19 = (spE T L p) + 1 → N1 39 20 = -1 → Q none (zI s N1)) : zC X m_X12_readByte [.ref 39, vi 45] (zI s N) Q := by
  obtain ⟨hB, hT, hL, hL2, hTr⟩ := id ht
  have hqb := nQ_b (T := T) hp0.1 hp0.2 hL2.2
  have hqb2 : p ≤ spE T L p ∧ spE T L p ≤ L := hqb
  show zE X m_X12_readByte 0 [.ref 39, vi 45] [] _ Q
  refine e_aload_n q_X12_readByte_0 (by decide) rfl ?_
  refine iv_X12_skip q_X12_readByte_1 lk_X12_214 (by decide) (a39 hB) (Nat.le_of_ble_eq_true rfl) ?_
  refine k_skip ht hp hp0 ?_
  refine e_aload_n q_X12_readByte_4 (by decide) rfl ?_
  refine i_getI (k' := 19) q_X12_readByte_5 fl_X12_208 (a39 hB) rfl rfl rfl (mup_self _ _ _ _) ?_
  refine e_aload_n q_X12_readByte_8 (by decide) rfl ?_
  refine i_getI (k' := 15) q_X12_readByte_9 fl_X12_205 (a39 hB) rfl rfl rfl ((mup_slot (by decide)).trans hL) ?_
  refine e_icmp_ge q_X12_readByte_12 (by constructor <;> omega) (by constructor <;> omega) (fun c12 => ?_) (fun c12 => ?_)
  · skip
    refine e_aload_n q_X12_readByte_41 (by decide) rfl ?_
    refine e_aload_n q_X12_readByte_42 (by decide) rfl ?_
    refine i_getI (k' := 19) q_X12_readByte_43 fl_X12_208 (a39 hB) rfl rfl rfl (mup_self _ _ _ _) ?_
    refine iv_X12_faultAt q_X12_readByte_46 lk_X12_223 (by decide) (a39 hB) (Nat.le_of_ble_eq_true rfl) ?_
    refine k_faultAt hB ((mup_slot (by decide)).trans hw) ?_
    refine e_return q_X12_readByte_49 rfl ?_
    first
    | exact h2 ⟨by omega, c25⟩ _ ((fr39.rf.mu (by omega)).mu (by omega)) (mup_self _ _ _ _) ((mup_slot (by decide)).trans ((mup_slot (by decide)).trans hw))
    | exact h1 (fun q => by first | exact c25 q.2 | omega) _ ((fr39.rf.mu (by omega)).mu (by omega)) (mup_self _ _ _ _) ((mup_slot (by decide)).trans (mup_self _ _ _ _))
  · skip
    refine e_aload_n q_X12_readByte_15 (by decide) rfl ?_
    refine i_getC (r := 51) q_X12_readByte_16 fl_X12_44 (a39 hB) rfl (by decide) ?_
    refine e_aload_n q_X12_readByte_19 (by decide) rfl ?_
    refine i_getI (k' := 19) q_X12_readByte_20 fl_X12_208 (a39 hB) rfl rfl rfl (mup_self _ _ _ _) ?_
    refine i_iald q_X12_readByte_23 (a51 hB) (cref0 (by decide)) (by first | omega | assumption) (by first | omega | assumption) (by decide) ((mup_cell (by decide)).trans (congrFun hT _)) ?_
    refine e_iload_n q_X12_readByte_24 (by decide) rfl ?_
    refine e_icmp_ne q_X12_readByte_25 (by have := hTr (spE T L p) (by omega) (by omega); constructor <;> omega) (by constructor <;> omega) (fun c25 => ?_) (fun c25 => ?_)
    · skip
      refine e_aload_n q_X12_readByte_41 (by decide) rfl ?_
      refine e_aload_n q_X12_readByte_42 (by decide) rfl ?_
      refine i_getI (k' := 19) q_X12_readByte_43 fl_X12_208 (a39 hB) rfl rfl rfl (mup_self _ _ _ _) ?_
      refine iv_X12_faultAt q_X12_readByte_46 lk_X12_223 (by decide) (a39 hB) (Nat.le_of_ble_eq_true rfl) ?_
      refine k_faultAt hB ((mup_slot (by decide)).trans hw) ?_
      refine e_return q_X12_readByte_49 rfl ?_
      first
      | exact h2 ⟨by omega, c25⟩ _ ((fr39.rf.mu (by omega)).mu (by omega)) (mup_self _ _ _ _) ((mup_slot (by decide)).trans ((mup_slot (by decide)).trans hw))
      | exact h1 (fun q => by first | exact c25 q.2 | omega) _ ((fr39.rf.mu (by omega)).mu (by omega)) (mup_self _ _ _ _) ((mup_slot (by decide)).trans (mup_self _ _ _ _))
    · skip
      refine e_aload_n q_X12_readByte_28 (by decide) rfl ?_
      refine e_dup q_X12_readByte_29 rfl ?_
      refine i_getI (k' := 19) q_X12_readByte_30 fl_X12_208 (a39 hB) rfl rfl rfl (mup_self _ _ _ _) ?_
      refine e_iconst q_X12_readByte_33 ?_
      refine e_iadd q_X12_readByte_34 ?_
      refine i_putI (k' := 19) q_X12_readByte_35 fl_X12_208 (Or.inl rfl) (a39 hB) rfl rfl rfl rfl rfl ?_
      refine e_goto q_X12_readByte_38 ?_
      refine e_return q_X12_readByte_49 rfl ?_
      first
      | exact h2 ⟨by omega, c25⟩ _ ((fr39.rf.mu (by omega)).mu (by omega)) (mup_self _ _ _ _) ((mup_slot (by decide)).trans ((mup_slot (by decide)).trans hw))
      | exact h1 (fun q => by first | exact c25 q.2 | omega) _ ((fr39.rf.mu (by omega)).mu (by omega)) (mup_self _ _ _ _) ((mup_slot (by decide)).trans (mup_self _ _ _ _))
end LT5
