/-! the tape, 4 (printed by wip/whole/gen/l4.py) -/
section LT4
variable {X : zX} {s : zK} {N : zN} {σ : zS} {fa sa : Int → Int} {Q K : Option Value → zS → Prop} {c : Int}
abbrev dT : Type := (Int → Int) × (Int → Int) × Int
noncomputable def upD (T : Int → Int) (L p : Int) (d : dT) : dT := if cK T L p = 3 then (d.1, d.2.1, clA T L p) else (fun x => if x = cK T L p then clA T L p else d.1 x, fun x => if x = cK T L p then clB T L p else d.2.1 x, d.2.2)
noncomputable def cE (T : Int → Int) (L p : Int) : Int := spE T L (clP T L p)
/-- what the laws answer; what they say -/
noncomputable def lwN (T : Int → Int) (L : Int) : Nat → Int → Int → Int
  | 0, _, p => -20 - p
  | n + 1, c, p => if 0 ≤ clF T L p then -20 - clF T L p else zif (cE T L p < L) (zif (T (cE T L p) = 59 ∧ n ≠ 0) (lwN T L n (c + 1) (cE T L p + 1)) (-20 - cE T L p)) (c + 1)
noncomputable def lwD (T : Int → Int) (L : Int) : Nat → Int → dT → dT
  | 0, _, d => d
  | n + 1, p, d => if 0 ≤ clF T L p then d else zif (cE T L p < L ∧ T (cE T L p) = 59 ∧ n ≠ 0) (lwD T L n (cE T L p + 1) (upD T L p d)) (upD T L p d)
def dT0 : dT := (fun _ => 100000, fun _ => -1, 100000)
/-- the draft at D says d -/
def lwR (N : zN) (D : Nat) (d : dT) : Prop := (∀ k : Int, 0 ≤ k → k < 3 → (N (D + 1) k = d.1 k ∧ N (D + 2) k = d.2.1 k) ∨ (N (D + 2) k = -1 ∧ d.2.1 k = -1)) ∧ ((N D 2 = d.2.2 ∧ 1 ≤ d.2.2 ∧ d.2.2 ≤ 9) ∨ (N D 2 = 0 ∧ d.2.2 = 100000))
def lwF (N N1 : zN) (D : Nat) : Prop := (∀ a : Nat, a ≠ 12 → a ≠ D → a ≠ D + 1 → a ≠ D + 2 → N1 a = N a) ∧ ∀ a x, zr (N1 a x)
theorem lwR_up {N1 : zN} {D : Nat} {T : Int → Int} {L p : Int} {d : dT} (hD : D = 14 ∨ D = 17) (h0 : 0 ≤ p) (h1 : p ≤ L) (h2 : L ≤ 40) (hg : clGood T L p) (hs : lwS N N1 D (cK T L p) (clA T L p) (clB T L p) (clP T L p)) (h : lwR N D d) : lwR N1 D (upD T L p d) := by
  obtain ⟨s1, s2, s3, s4⟩ := hs
  have hb := clGood_b h0 h1 h2 hg
  by_cases hk : cK T L p = 3
  · unfold upD
    rw [if_pos hk]
    refine ⟨fun k k0 k1 => ?_, Or.inl ⟨s3 hk, hb.2.2.1 hk⟩⟩
    rw [s1 (D + 1) k (by omega) (by omega) (by omega), s1 (D + 2) k (by omega) (by omega) (by omega)]
    exact h.1 k k0 k1
  · unfold upD
    rw [if_neg hk]
    refine ⟨fun k k0 k1 => ?_, ?_⟩
    · by_cases hkk : k = cK T L p
      · refine Or.inl ⟨?_, ?_⟩
        · rw [hkk]; exact (s4 hk).1.trans (if_pos rfl).symm
        · rw [hkk]; exact (s4 hk).2.trans (if_pos rfl).symm
      · rw [s1 (D + 1) k (by omega) (by omega) (by omega), s1 (D + 2) k (by omega) (by omega) (by omega)]
        show (_ = (if k = cK T L p then clA T L p else d.1 k) ∧ _ = (if k = cK T L p then clB T L p else d.2.1 k)) ∨ (_ ∧ (if k = cK T L p then clB T L p else d.2.1 k) = -1)
        rw [if_neg hkk, if_neg hkk]
        exact h.1 k k0 k1
    · rw [s1 D 2 (by omega) (by omega) (by omega)]
      exact h.2
theorem lwS_z {N1 : zN} {D : Nat} {k a b p : Int} (h : lwS N N1 D k a b p) (hR : ∀ a x, zr (N a x)) (ha : zr a) (hb : k ≠ 3 → zr b) (hp : zr p) : ∀ a x, zr (N1 a x) := by
  intro c x
  by_cases q1 : c = 12 ∧ x = 2
  · rw [q1.1, q1.2, h.2.1]; exact hp
  · by_cases q2 : c = D ∧ x = 2 ∧ k = 3
    · rw [q2.1, q2.2.1, h.2.2.1 q2.2.2]; exact ha
    · by_cases q3 : (c = D + 1 ∨ c = D + 2) ∧ x = k ∧ k ≠ 3
      · obtain ⟨q3, q4, q5⟩ := q3
        rcases q3 with q3 | q3
        · rw [q3, q4, (h.2.2.2 q5).1]; exact ha
        · rw [q3, q4, (h.2.2.2 q5).2]; exact hb q5
      · rw [h.1 c x q1 q2 q3]; exact hR c x
set_option maxRecDepth 20000 in
set_option maxHeartbeats 2000000 in
theorem x_clear {D : Nat} (hD : lwA s D) (hR : ∀ a x, zr (N a x)) (h : ∀ N1, ((∀ a : Nat, a ≠ D → a ≠ D + 1 → a ≠ D + 2 → N1 a = N a) ∧ N1 D 2 = 0 ∧ (∀ k : Int, 0 ≤ k → k < 3 → N1 (D + 1) k = 0 ∧ N1 (D + 2) k = -1) ∧ ∀ a x, zr (N1 a x)) → Q none (zI s N1)) : zC X m_X3_clear [.ref D] (zI s N) Q := by
  obtain ⟨dD, dA, dB, dC, dc0, dc1, dc2, dcB, dcC⟩ := id hD
  show zE X m_X3_clear 0 [.ref D, zU] [] _ Q
  refine e_aload_n q_X3_clear_0 (by decide) rfl ?_
  refine e_iconst q_X3_clear_1 ?_
  refine i_putI (k' := 2) q_X3_clear_2 fl_X3_21 (Or.inl rfl) dA dc2 rfl rfl rfl rfl ?_
  refine e_iconst q_X3_clear_5 ?_
  refine e_istore_n (ls' := [_, _]) q_X3_clear_6 (by decide) rfl rfl ?_
  refine zEe (ls := [.ref D, vi ((0 : Nat) : Int)]) (σ := zI s (mup N D 2 0)) ?_ rfl rfl
  refine z_for (P := fun i => ∀ (N1 : zN), ((∀ a : Nat, a ≠ D → a ≠ D + 1 → a ≠ D + 2 → N1 a = N a) ∧ N1 D 2 = 0 ∧ (∀ k : Int, 0 ≤ k → k < i → N1 (D + 1) k = 0 ∧ N1 (D + 2) k = -1) ∧ ∀ a x, zr (N1 a x)) → zE X m_X3_clear 7 [.ref D, vi (i : Int)] [] (zI s N1) Q) 3 (fun i hi ih N1 hv => ?_) (fun N1 hv => ?_) _ ⟨fun a0 h1 _ _ => mup_fn h1, mup_self _ _ _ _, fun k h1 h2 => by omega, zr_mup hR (by constructor <;> omega)⟩
  · skip
    refine e_iload_n q_X3_clear_7 (by decide) rfl ?_
    refine e_iconst q_X3_clear_8 ?_
    refine e_icmp_ge q_X3_clear_9 (by constructor <;> omega) (by constructor <;> omega) (fun c9 => ?_) (fun c9 => ?_)
    · skip
      exact absurd c9 (by omega)
    · skip
      refine e_aload_n q_X3_clear_12 (by decide) rfl ?_
      refine i_getC (r := D + 1) q_X3_clear_13 fl_X3_9 dA dc0 (by omega) ?_
      refine e_iload_n q_X3_clear_16 (by decide) rfl ?_
      refine e_iconst q_X3_clear_17 ?_
      refine i_iast q_X3_clear_18 dB dcB (by first | omega | assumption) (by first | omega | assumption) (by decide) ?_
      refine e_aload_n q_X3_clear_19 (by decide) rfl ?_
      refine i_getC (r := D + 2) q_X3_clear_20 fl_X3_15 dA dc1 (by omega) ?_
      refine e_iload_n q_X3_clear_23 (by decide) rfl ?_
      refine e_iconst q_X3_clear_24 ?_
      refine i_iast q_X3_clear_25 dC dcC (by first | omega | assumption) (by first | omega | assumption) (by decide) ?_
      refine e_iinc (ls' := [_, _]) q_X3_clear_26 (by decide) rfl rfl rfl ?_
      refine e_goto q_X3_clear_29 ?_
      refine ih _ ⟨fun a0 h1 h2 h3 => ?_, ?_, fun k h1 h2 => ?_, zr_mup (zr_mup hv.2.2.2 (by constructor <;> omega)) (by constructor <;> omega)⟩
      · rw [mup_fn h3, mup_fn h2]; exact hv.1 a0 h1 h2 h3
      · rw [mup_cell (by omega), mup_cell (by omega)]; exact hv.2.1
      · by_cases hk : k = i
        · rw [hk, mup_cell (by omega), mup_self, mup_self]; exact ⟨rfl, rfl⟩
        · rw [mup_cell (by omega), mup_slot hk, mup_slot hk, mup_cell (by omega)]; exact hv.2.2.1 k h1 (by omega)
  · skip
    refine e_iload_n q_X3_clear_7 (by decide) rfl ?_
    refine e_iconst q_X3_clear_8 ?_
    refine e_icmp_ge q_X3_clear_9 (by constructor <;> omega) (by constructor <;> omega) (fun c9 => ?_) (fun c9 => ?_)
    · skip
      refine e_return q_X3_clear_32 rfl ?_
      exact h N1 hv
    · skip
      exact absurd (by omega) c9
set_option maxRecDepth 20000 in
set_option maxHeartbeats 2000000 in
theorem x_readInto {T : Int → Int} {L : Int} (ht : tpS s N T L) {D : Nat} (hD : lwA s D) (hR : ∀ a x, zr (N a x)) (hc0 : N D 2 = 0 ∧ ∀ k : Int, 0 ≤ k → k < 3 → N (D + 1) k = 0 ∧ N (D + 2) k = -1) (h : ∀ N1, lwF N N1 D → N1 12 1 = L → (0 < (lwN T L 4 0 0) → lwR N1 D (lwD T L 4 0 dT0)) → Q (some (vi (lwN T L 4 0 0))) (zI s N1)) : zC X m_X10_readInto [.ref 12, .ref D] (zI s N) Q := by
  obtain ⟨hB, hT, hL, hL2, hTr⟩ := id ht
  obtain ⟨dD, dA, dB, dC, dc0, dc1, dc2, dcB, dcC⟩ := id hD
  show zE X m_X10_readInto 0 [.ref 12, .ref D, zU, zU] [] _ Q
  refine e_aload_n q_X10_readInto_0 (by decide) rfl ?_
  refine e_iconst q_X10_readInto_1 ?_
  refine i_putI (k' := 2) q_X10_readInto_2 fl_X10_19 (Or.inl rfl) (a12 hB) rfl rfl rfl rfl rfl ?_
  refine e_iconst q_X10_readInto_5 ?_
  refine e_istore_n (ls' := [_, _, _, _]) q_X10_readInto_6 (by decide) rfl rfl ?_
  refine zEe (ls := [.ref 12, .ref D, vi (((0 : Nat) : Int) + 1), zU]) (σ := zI s (mup N 12 2 0)) ?_ rfl rfl
  refine z_for (P := fun i => ∀ (N1 : zN) (p : Int) (dd : dT) (u3 : Value), (tpS s N1 T L ∧ N1 12 2 = p ∧ (0 ≤ p ∧ p ≤ L) ∧ lwF N N1 D ∧ lwR N1 D dd ∧ lwN T L (4 - i) i p = (lwN T L 4 0 0) ∧ lwD T L (4 - i) p dd = (lwD T L 4 0 dT0)) → zE X m_X10_readInto 7 [.ref 12, .ref D, vi ((i : Int) + 1), u3] [] (zI s N1) Q) 4 (fun i hi ih N1 p dd u3 hv => ?_) (fun N1 p dd u3 hv => ?_) _ 0 dT0 zU ⟨ht.mu (by decide) (by omega), mup_self _ _ _ _, by omega, ⟨fun a0 h1 _ _ _ => mup_fn h1, zr_mup hR (by constructor <;> omega)⟩, ⟨fun k k0 k1 => Or.inr ⟨(mup_cell (by omega)).trans (hc0.2 k k0 k1).2, rfl⟩, Or.inr ⟨by rw [mup_cell (by omega)]; exact hc0.1, rfl⟩⟩, rfl, rfl⟩
  · skip
    obtain ⟨ht1, hp, hp0, hf, hr, hn, hd⟩ := hv
    have e4 : 4 - i = (3 - i) + 1 := by omega
    rw [e4] at hn hd
    have hbs := cl_b (T := T) hp0.1 hp0.2 hL2.2
    refine e_iload_n q_X10_readInto_7 (by decide) rfl ?_
    refine e_iconst q_X10_readInto_8 ?_
    refine e_icmp_gt q_X10_readInto_9 (by constructor <;> omega) (by constructor <;> omega) (fun c9 => ?_) (fun c9 => ?_)
    · skip
      first
      | exact absurd c9 (by omega)
      | (refine e_bipush q_X10_readInto_70 (by decide) ?_
         refine e_aload_n q_X10_readInto_72 (by decide) rfl ?_
         refine i_getI (k' := 2) q_X10_readInto_73 fl_X10_19 (a12 hB) rfl rfl rfl (mup_self _ _ _ _) ?_
         refine e_isub q_X10_readInto_76 ?_
         refine e_ireturn q_X10_readInto_77 rfl rfl ?_
         have hfin : (lwN T L 4 0 0) = -20 - spE T L (clP T L p) := by
           rw [← hn]
           rcases hnx with r | r
           · exact absurd r.1 (by omega)
           · rw [zif_t r.1, zif_f (fun q => c43 (by omega))]
             rfl
         have hcb2 : 0 ≤ spE T L (clP T L p) := by show 0 ≤ cE T L p; omega
         exact zqI (h (mup N2 12 2 (spE T L (clP T L p))) ⟨fun a0 h1 h2 h3 h4 => by rw [mup_fn h1]; exact hf2.1 a0 h1 h2 h3 h4, zr_mup hz2 (by show zr (cE T L p); constructor <;> omega)⟩ ((mup_slot (by decide)).trans ht2.2.2.1) (fun q => by omega)) hfin)
      | (refine e_bipush q_X10_readInto_70 (by decide) ?_
         refine e_aload_n q_X10_readInto_72 (by decide) rfl ?_
         refine i_getI (k' := 2) q_X10_readInto_73 fl_X10_19 (a12 hB) rfl rfl rfl (mup_self _ _ _ _) ?_
         refine e_isub q_X10_readInto_76 ?_
         refine e_ireturn q_X10_readInto_77 rfl rfl ?_
         have hfin : (lwN T L 4 0 0) = -20 - spE T L (clP T L p) := by
           rw [← hn]
           rcases hnx with r | r
           · exact absurd r.1 (by omega)
           · rw [zif_t r.1, zif_f (fun q => q.2 (by omega))]
             rfl
         have hcb2 : 0 ≤ spE T L (clP T L p) := by show 0 ≤ cE T L p; omega
         exact zqI (h (mup N2 12 2 (spE T L (clP T L p))) ⟨fun a0 h1 h2 h3 h4 => by rw [mup_fn h1]; exact hf2.1 a0 h1 h2 h3 h4, zr_mup hz2 (by show zr (cE T L p); constructor <;> omega)⟩ ((mup_slot (by decide)).trans ht2.2.2.1) (fun q => by omega)) hfin)
    · skip
      refine e_aload_n q_X10_readInto_12 (by decide) rfl ?_
      refine e_aload_n q_X10_readInto_13 (by decide) rfl ?_
      refine iv_X10_readClause rfl q_X10_readInto_14 lk_X10_22 (by decide) (a12 hB) (Nat.le_of_ble_eq_true rfl) ?_
      refine x_readClause ht1 hp hp0 hD (fun F N2 hb hf2 h3 => ?_) (fun hg N2 hs => ?_)
      · skip
        have hFb := clBad_b hp0.1 hp0.2 hL2.2 hb
        have hFe := clF_bad hb
        have hfin : (lwN T L 4 0 0) = -20 - F := by
          rw [← hn, lwN, if_pos (by omega), hFe]
        refine e_if_ne q_X10_readInto_17 (by constructor <;> omega) (fun c17 => ?_) (fun c17 => ?_)
        · skip
          exact absurd c17 (by omega)
        · skip
          refine e_bipush q_X10_readInto_20 (by decide) ?_
          refine e_aload_n q_X10_readInto_22 (by decide) rfl ?_
          refine i_getI (k' := 3) q_X10_readInto_23 fl_X10_26 (a12 hB) rfl rfl rfl h3 ?_
          refine e_isub q_X10_readInto_26 ?_
          refine e_ireturn q_X10_readInto_27 rfl rfl ?_
          exact zqI (h N2 ⟨fun a0 h1 h2 h4 h5 => (funext fun x => hf2.1 a0 x (by omega)).trans (hf.1 a0 h1 h2 h4 h5), fun a0 x => by
            by_cases q : a0 = 12 ∧ (x = 2 ∨ x = 3)
            · rcases q.2 with r | r
              · have := hf2.2
                rw [q.1, r]; constructor <;> omega
              · rw [q.1, r, h3]; constructor <;> omega
            · rw [hf2.1 a0 x q]; exact hf.2 a0 x⟩ ((hf2.1 12 1 (by omega)).trans ht1.2.2.1) (fun q => by omega)) (by rw [hfin])
      · skip
        have hgb := clGood_b hp0.1 hp0.2 hL2.2 hg
        have hge := clF_good hg
        have hza : zr (clA T L p) := by
          by_cases q : cK T L p = 3
          · have := hgb.2.2.1 q
            constructor <;> omega
          · have := hgb.2.2.2 q
            constructor <;> omega
        have hz2 := lwS_z hs hf.2 hza (fun q => by have := hgb.2.2.2 q; constructor <;> omega) (by constructor <;> omega)
        have ht2 : tpS s N2 T L := ⟨ht1.1, by rw [← ht1.2.1]; exact funext fun x => hs.1 13 x (by omega) (by omega) (by omega), (hs.1 12 1 (by omega) (by omega) (by omega)).trans ht1.2.2.1, ht1.2.2.2⟩
        have hr2 := lwR_up dD hp0.1 hp0.2 hL2.2 hg hs hr
        have hf2 : lwF N N2 D := ⟨fun a0 h1 h2 h3 h4 => (funext fun x => hs.1 a0 x (by omega) (by omega) (by omega)).trans (hf.1 a0 h1 h2 h3 h4), hz2⟩
        have hcb := nQ_b (T := T) (p := clP T L p) (by omega) (by omega) hL2.2
        have hcb : clP T L p ≤ cE T L p ∧ cE T L p ≤ L := hcb
        rw [lwN, if_neg (by omega)] at hn
        rw [lwD, if_neg (by omega)] at hd
        refine e_if_ne q_X10_readInto_17 (by constructor <;> omega) (fun c17 => ?_) (fun c17 => ?_)
        · skip
          refine e_aload_n q_X10_readInto_28 (by decide) rfl ?_
          refine iv_X10_nextSign q_X10_readInto_29 lk_X10_29 (by decide) (a12 hB) (Nat.le_of_ble_eq_true rfl) ?_
          refine x_nextSign ht2 hs.2.1 (by omega) ?_
          have hnx : (sgE T L (clP T L p) = -1 ∧ ¬ cE T L p < L) ∨ (cE T L p < L ∧ sgE T L (clP T L p) = T (cE T L p) ∧ 32 ≤ T (cE T L p) ∧ T (cE T L p) ≤ 126) := sgE_r hTr (p := clP T L p) (by omega) (by omega) hL2.2
          refine e_istore_n (ls' := [_, _, _, _]) q_X10_readInto_32 (by decide) rfl rfl ?_
          refine e_iload_n q_X10_readInto_33 (by decide) rfl ?_
          refine e_iconst q_X10_readInto_34 ?_
          refine e_icmp_ne q_X10_readInto_35 (by rcases hnx with r | r <;> constructor <;> omega) (by constructor <;> omega) (fun c35 => ?_) (fun c35 => ?_)
          · skip
            refine e_iload_n q_X10_readInto_40 (by decide) rfl ?_
            refine e_bipush q_X10_readInto_41 (by decide) ?_
            refine e_icmp_ne q_X10_readInto_43 (by rcases hnx with r | r <;> constructor <;> omega) (by constructor <;> omega) (fun c43 => ?_) (fun c43 => ?_)
            · skip
              first
              | exact absurd c9 (by omega)
              | (refine e_bipush q_X10_readInto_70 (by decide) ?_
                 refine e_aload_n q_X10_readInto_72 (by decide) rfl ?_
                 refine i_getI (k' := 2) q_X10_readInto_73 fl_X10_19 (a12 hB) rfl rfl rfl (mup_self _ _ _ _) ?_
                 refine e_isub q_X10_readInto_76 ?_
                 refine e_ireturn q_X10_readInto_77 rfl rfl ?_
                 have hfin : (lwN T L 4 0 0) = -20 - spE T L (clP T L p) := by
                   rw [← hn]
                   rcases hnx with r | r
                   · exact absurd r.1 (by omega)
                   · rw [zif_t r.1, zif_f (fun q => c43 (by omega))]
                     rfl
                 have hcb2 : 0 ≤ spE T L (clP T L p) := by show 0 ≤ cE T L p; omega
                 exact zqI (h (mup N2 12 2 (spE T L (clP T L p))) ⟨fun a0 h1 h2 h3 h4 => by rw [mup_fn h1]; exact hf2.1 a0 h1 h2 h3 h4, zr_mup hz2 (by show zr (cE T L p); constructor <;> omega)⟩ ((mup_slot (by decide)).trans ht2.2.2.1) (fun q => by omega)) hfin)
              | (refine e_bipush q_X10_readInto_70 (by decide) ?_
                 refine e_aload_n q_X10_readInto_72 (by decide) rfl ?_
                 refine i_getI (k' := 2) q_X10_readInto_73 fl_X10_19 (a12 hB) rfl rfl rfl (mup_self _ _ _ _) ?_
                 refine e_isub q_X10_readInto_76 ?_
                 refine e_ireturn q_X10_readInto_77 rfl rfl ?_
                 have hfin : (lwN T L 4 0 0) = -20 - spE T L (clP T L p) := by
                   rw [← hn]
                   rcases hnx with r | r
                   · exact absurd r.1 (by omega)
                   · rw [zif_t r.1, zif_f (fun q => q.2 (by omega))]
                     rfl
                 have hcb2 : 0 ≤ spE T L (clP T L p) := by show 0 ≤ cE T L p; omega
                 exact zqI (h (mup N2 12 2 (spE T L (clP T L p))) ⟨fun a0 h1 h2 h3 h4 => by rw [mup_fn h1]; exact hf2.1 a0 h1 h2 h3 h4, zr_mup hz2 (by show zr (cE T L p); constructor <;> omega)⟩ ((mup_slot (by decide)).trans ht2.2.2.1) (fun q => by omega)) hfin)
            · skip
              refine e_iload_n q_X10_readInto_46 (by decide) rfl ?_
              refine e_iconst q_X10_readInto_47 ?_
              refine e_icmp_ne q_X10_readInto_48 (by constructor <;> omega) (by constructor <;> omega) (fun c48 => ?_) (fun c48 => ?_)
              · skip
                refine e_aload_n q_X10_readInto_54 (by decide) rfl ?_
                refine e_dup q_X10_readInto_55 rfl ?_
                refine i_getI (k' := 2) q_X10_readInto_56 fl_X10_19 (a12 hB) rfl rfl rfl (mup_self _ _ _ _) ?_
                refine e_iconst q_X10_readInto_59 ?_
                refine e_iadd q_X10_readInto_60 ?_
                refine i_putI (k' := 2) q_X10_readInto_61 fl_X10_19 (Or.inl rfl) (a12 hB) rfl rfl rfl rfl rfl ?_
                refine e_iinc (ls' := [_, _, _, _]) q_X10_readInto_64 (by decide) rfl rfl rfl ?_
                refine e_goto q_X10_readInto_67 ?_
                have h59 : T (cE T L p) = 59 ∧ cE T L p < L := by
                  rcases hnx with r | r
                  · exact absurd r.1 (by omega)
                  · exact ⟨by omega, r.1⟩
                rw [zif_t h59.2, zif_t ⟨h59.1, by omega⟩] at hn
                rw [zif_t ⟨h59.2, h59.1, by omega⟩] at hd
                refine zEe (ls := [.ref 12, .ref D, vi (((i + 1 : Nat) : Int) + 1), _]) (σ := zI s (mup N2 12 2 (cE T L p + 1))) (ih _ (cE T L p + 1) (upD T L p dd) _ ⟨ht2.mu (by decide) (by omega), mup_self _ _ _ _, by omega, ⟨fun a0 h1 h2 h3 h4 => by rw [mup_fn h1]; exact hf2.1 a0 h1 h2 h3 h4, zr_mup hz2 (by constructor <;> omega)⟩, ?_, ?_, ?_⟩) rfl ?_
                · refine ⟨fun k k0 k1 => ?_, ?_⟩
                  · rw [mup_cell (by omega), mup_cell (by omega)]; exact hr2.1 k k0 k1
                  · rw [mup_cell (by omega)]; exact hr2.2
                · rw [show 4 - (i + 1) = 3 - i by omega]
                  exact hn
                · rw [show 4 - (i + 1) = 3 - i by omega]
                  exact hd
                · rw [mup_mup]
                  rfl
              · skip
                refine e_goto q_X10_readInto_51 ?_
                first
                | exact absurd c9 (by omega)
                | (refine e_bipush q_X10_readInto_70 (by decide) ?_
                   refine e_aload_n q_X10_readInto_72 (by decide) rfl ?_
                   refine i_getI (k' := 2) q_X10_readInto_73 fl_X10_19 (a12 hB) rfl rfl rfl (mup_self _ _ _ _) ?_
                   refine e_isub q_X10_readInto_76 ?_
                   refine e_ireturn q_X10_readInto_77 rfl rfl ?_
                   have hfin : (lwN T L 4 0 0) = -20 - spE T L (clP T L p) := by
                     rw [← hn]
                     rcases hnx with r | r
                     · exact absurd r.1 (by omega)
                     · rw [zif_t r.1, zif_f (fun q => c43 (by omega))]
                       rfl
                   have hcb2 : 0 ≤ spE T L (clP T L p) := by show 0 ≤ cE T L p; omega
                   exact zqI (h (mup N2 12 2 (spE T L (clP T L p))) ⟨fun a0 h1 h2 h3 h4 => by rw [mup_fn h1]; exact hf2.1 a0 h1 h2 h3 h4, zr_mup hz2 (by show zr (cE T L p); constructor <;> omega)⟩ ((mup_slot (by decide)).trans ht2.2.2.1) (fun q => by omega)) hfin)
                | (refine e_bipush q_X10_readInto_70 (by decide) ?_
                   refine e_aload_n q_X10_readInto_72 (by decide) rfl ?_
                   refine i_getI (k' := 2) q_X10_readInto_73 fl_X10_19 (a12 hB) rfl rfl rfl (mup_self _ _ _ _) ?_
                   refine e_isub q_X10_readInto_76 ?_
                   refine e_ireturn q_X10_readInto_77 rfl rfl ?_
                   have hfin : (lwN T L 4 0 0) = -20 - spE T L (clP T L p) := by
                     rw [← hn]
                     rcases hnx with r | r
                     · exact absurd r.1 (by omega)
                     · rw [zif_t r.1, zif_f (fun q => q.2 (by omega))]
                       rfl
                   have hcb2 : 0 ≤ spE T L (clP T L p) := by show 0 ≤ cE T L p; omega
                   exact zqI (h (mup N2 12 2 (spE T L (clP T L p))) ⟨fun a0 h1 h2 h3 h4 => by rw [mup_fn h1]; exact hf2.1 a0 h1 h2 h3 h4, zr_mup hz2 (by show zr (cE T L p); constructor <;> omega)⟩ ((mup_slot (by decide)).trans ht2.2.2.1) (fun q => by omega)) hfin)
          · skip
            refine e_iload_n q_X10_readInto_38 (by decide) rfl ?_
            refine e_ireturn q_X10_readInto_39 rfl rfl ?_
            have hne : ¬ cE T L p < L := by
              rcases hnx with r | r
              · exact r.2
              · omega
            have hfin : (lwN T L 4 0 0) = (i : Int) + 1 := by rw [← hn, zif_f hne]
            have hdf : (lwD T L 4 0 dT0) = upD T L p dd := by rw [← hd, zif_f (fun q => hne q.1)]
            refine zqI (h (mup N2 12 2 (spE T L (clP T L p))) ⟨fun a0 h1 h2 h4 h5 => by rw [mup_fn h1]; exact hf2.1 a0 h1 h2 h4 h5, zr_mup hz2 (by show zr (cE T L p); constructor <;> omega)⟩ ((mup_slot (by decide)).trans ht2.2.2.1) (fun q => ?_)) hfin
            rw [hdf]
            refine ⟨fun k k0 k1 => ?_, ?_⟩
            · rw [mup_cell (by omega), mup_cell (by omega)]; exact hr2.1 k k0 k1
            · rw [mup_cell (by omega)]; exact hr2.2
        · skip
          exact absurd c17 (by omega)
  · skip
    obtain ⟨ht1, hp, hp0, hf, hr, hn, hd⟩ := hv
    refine e_iload_n q_X10_readInto_7 (by decide) rfl ?_
    refine e_iconst q_X10_readInto_8 ?_
    refine e_icmp_gt q_X10_readInto_9 (by constructor <;> omega) (by constructor <;> omega) (fun c9 => ?_) (fun c9 => ?_)
    · skip
      refine e_bipush q_X10_readInto_70 (by decide) ?_
      refine e_aload_n q_X10_readInto_72 (by decide) rfl ?_
      refine i_getI (k' := 2) q_X10_readInto_73 fl_X10_19 (a12 hB) rfl rfl rfl hp ?_
      refine e_isub q_X10_readInto_76 ?_
      refine e_ireturn q_X10_readInto_77 rfl rfl ?_
      have hfin : (lwN T L 4 0 0) = -20 - p := hn.symm
      exact zqI (h N1 hf ht1.2.2.1 (fun q => by omega)) hfin
    · skip
      exact absurd (by omega) c9
end LT4
