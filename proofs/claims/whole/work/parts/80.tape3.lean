/-! the tape, 3 (printed by wip/whole/gen/l3.py) -/
section LT3
variable {X : zX} {s : zK} {N : zN} {σ : zS} {fa sa : Int → Int} {Q K : Option Value → zS → Prop} {c : Int}
/-- a clause at fault at F; a good one -/
def clBad (T : Int → Int) (L p F : Int) : Prop := (cK T L p < 0 ∧ F = cQ T L p) ∨ (0 ≤ cK T L p ∧ ¬ nOK T L (cQ T L p + 1) ∧ F = nQ T L (cQ T L p + 1)) ∨ (cK T L p = 3 ∧ nOK T L (cQ T L p + 1) ∧ ¬ (1 ≤ nV T L (cQ T L p + 1) ∧ nV T L (cQ T L p + 1) ≤ 9) ∧ F = nQ T L (cQ T L p + 1)) ∨ ((0 ≤ cK T L p ∧ cK T L p < 3) ∧ nOK T L (cQ T L p + 1) ∧ ¬ nV T L (cQ T L p + 1) ≤ 99 ∧ F = nQ T L (cQ T L p + 1)) ∨ ((0 ≤ cK T L p ∧ cK T L p < 3) ∧ nOK T L (cQ T L p + 1) ∧ nV T L (cQ T L p + 1) ≤ 99 ∧ ¬ (spE T L (nE T L (cQ T L p + 1)) < L ∧ T (spE T L (nE T L (cQ T L p + 1))) = 45) ∧ F = spE T L (nE T L (cQ T L p + 1))) ∨ ((0 ≤ cK T L p ∧ cK T L p < 3) ∧ nOK T L (cQ T L p + 1) ∧ nV T L (cQ T L p + 1) ≤ 99 ∧ (spE T L (nE T L (cQ T L p + 1)) < L ∧ T (spE T L (nE T L (cQ T L p + 1))) = 45) ∧ ¬ nOK T L (spE T L (nE T L (cQ T L p + 1)) + 1) ∧ F = nQ T L (spE T L (nE T L (cQ T L p + 1)) + 1)) ∨ ((0 ≤ cK T L p ∧ cK T L p < 3) ∧ nOK T L (cQ T L p + 1) ∧ nV T L (cQ T L p + 1) ≤ 99 ∧ (spE T L (nE T L (cQ T L p + 1)) < L ∧ T (spE T L (nE T L (cQ T L p + 1))) = 45) ∧ nOK T L (spE T L (nE T L (cQ T L p + 1)) + 1) ∧ ¬ (nV T L (cQ T L p + 1) ≤ nV T L (spE T L (nE T L (cQ T L p + 1)) + 1) ∧ nV T L (spE T L (nE T L (cQ T L p + 1)) + 1) ≤ 99) ∧ F = nQ T L (spE T L (nE T L (cQ T L p + 1)) + 1))
def clGood (T : Int → Int) (L p : Int) : Prop := (cK T L p = 3 ∧ nOK T L (cQ T L p + 1) ∧ (1 ≤ nV T L (cQ T L p + 1) ∧ nV T L (cQ T L p + 1) ≤ 9)) ∨ ((0 ≤ cK T L p ∧ cK T L p < 3) ∧ nOK T L (cQ T L p + 1) ∧ nV T L (cQ T L p + 1) ≤ 99 ∧ (spE T L (nE T L (cQ T L p + 1)) < L ∧ T (spE T L (nE T L (cQ T L p + 1))) = 45) ∧ nOK T L (spE T L (nE T L (cQ T L p + 1)) + 1) ∧ (nV T L (cQ T L p + 1) ≤ nV T L (spE T L (nE T L (cQ T L p + 1)) + 1) ∧ nV T L (spE T L (nE T L (cQ T L p + 1)) + 1) ≤ 99))
theorem clF_bad {T : Int → Int} {L p F : Int} (h : clBad T L p F) : clF T L p = F := by
  rcases h with ⟨h1, h2⟩ | ⟨h1, h2, h3⟩ | ⟨h1, h2, h3, h4⟩ | ⟨h1, h2, h3, h4⟩ | ⟨h1, h2, h3, h4, h5⟩ | ⟨h1, h2, h3, h4, h5, h6⟩ | ⟨h1, h2, h3, h4, h5, h6, h7⟩
  · unfold clF; rw [if_pos h1, h2]
  · unfold clF; rw [if_neg (by omega), zif_f h2, h3]
  · unfold clF; rw [if_neg (by omega), zif_t h2, if_pos h1, if_neg h3, h4]
  · unfold clF; rw [if_neg (by omega), zif_t h2, if_neg (by omega), if_neg h3, h4]
  · unfold clF; rw [if_neg (by omega), zif_t h2, if_neg (by omega), if_pos h3, zif_f h4, h5]
  · unfold clF; rw [if_neg (by omega), zif_t h2, if_neg (by omega), if_pos h3, zif_t h4, zif_f h5, h6]
  · unfold clF; rw [if_neg (by omega), zif_t h2, if_neg (by omega), if_pos h3, zif_t h4, zif_t h5, if_neg h6, h7]
theorem clF_good {T : Int → Int} {L p : Int} (h : clGood T L p) : clF T L p = -1 := by
  rcases h with ⟨h1, h2, h3⟩ | ⟨h1, h2, h3, h4, h5, h6⟩
  · unfold clF; rw [if_neg (by omega), zif_t h2, if_pos h1, if_pos h3]
  · unfold clF; rw [if_neg (by omega), zif_t h2, if_neg (by omega), if_pos h3, zif_t h4, zif_t h5, if_pos h6]
/-- bounds of a clause's places -/
theorem cl_b {T : Int → Int} {L p : Int} (h0 : 0 ≤ p) (h1 : p ≤ L) (h2 : L ≤ 40) : (p ≤ cQ T L p ∧ cQ T L p ≤ L) ∧ (0 ≤ cK T L p → (cQ T L p < nQ T L (cQ T L p + 1) ∧ nQ T L (cQ T L p + 1) ≤ nE T L (cQ T L p + 1) ∧ nE T L (cQ T L p + 1) ≤ L ∧ nE T L (cQ T L p + 1) ≤ spE T L (nE T L (cQ T L p + 1)) ∧ spE T L (nE T L (cQ T L p + 1)) ≤ L) ∧ (spE T L (nE T L (cQ T L p + 1)) < L → spE T L (nE T L (cQ T L p + 1)) < nQ T L (spE T L (nE T L (cQ T L p + 1)) + 1) ∧ nQ T L (spE T L (nE T L (cQ T L p + 1)) + 1) ≤ nE T L (spE T L (nE T L (cQ T L p + 1)) + 1) ∧ nE T L (spE T L (nE T L (cQ T L p + 1)) + 1) ≤ L)) := by
  have hb := nQ_b (T := T) h0 h1 h2
  have hb : p ≤ cQ T L p ∧ cQ T L p ≤ L := hb
  refine ⟨hb, fun hk => ?_⟩
  have hk := cK_lt hk
  have b1 := nQ_b (T := T) (p := cQ T L p + 1) (by omega) (by omega) h2
  have b2 := nE_b (T := T) (p := cQ T L p + 1) (by omega) (by omega) h2
  have b3 := nQ_b (T := T) (p := nE T L (cQ T L p + 1)) (by omega) (by omega) h2
  have b3 : nE T L (cQ T L p + 1) ≤ spE T L (nE T L (cQ T L p + 1)) ∧ spE T L (nE T L (cQ T L p + 1)) ≤ L := b3
  refine ⟨by omega, fun hq => ?_⟩
  have b4 := nQ_b (T := T) (p := spE T L (nE T L (cQ T L p + 1)) + 1) (by omega) (by omega) h2
  have b5 := nE_b (T := T) (p := spE T L (nE T L (cQ T L p + 1)) + 1) (by omega) (by omega) h2
  omega
theorem clBad_b {T : Int → Int} {L p F : Int} (h0 : 0 ≤ p) (h1 : p ≤ L) (h2 : L ≤ 40) (h : clBad T L p F) : 0 ≤ F ∧ F ≤ L := by
  have hb := cl_b (T := T) h0 h1 h2
  rcases h with ⟨h1, h2⟩ | ⟨h1, h2, h3⟩ | ⟨h1, h2, h3, h4⟩ | ⟨h1, h2, h3, h4⟩ | ⟨h1, h2, h3, h4, h5⟩ | ⟨h1, h2, h3, h4, h5, h6⟩ | ⟨h1, h2, h3, h4, h5, h6, h7⟩
  · omega
  · have := hb.2 (by omega); omega
  · have := hb.2 (by omega); omega
  · have := hb.2 (by omega); omega
  · have := hb.2 (by omega); omega
  · have := hb.2 (by omega); have := this.2 h4.1; omega
  · have := hb.2 (by omega); have := this.2 h4.1; omega
theorem clGood_b {T : Int → Int} {L p : Int} (h0 : 0 ≤ p) (h1 : p ≤ L) (h2 : L ≤ 40) (h : clGood T L p) : (p < clP T L p ∧ clP T L p ≤ L) ∧ (0 ≤ cK T L p ∧ cK T L p ≤ 3) ∧ (cK T L p = 3 → 1 ≤ clA T L p ∧ clA T L p ≤ 9) ∧ (cK T L p ≠ 3 → 0 ≤ clA T L p ∧ clA T L p ≤ clB T L p ∧ clB T L p ≤ 99) := by
  have hb := cl_b (T := T) h0 h1 h2
  rcases h with ⟨k1, k2, k3⟩ | ⟨k1, k2, k3, k4, k5, k6⟩
  · have hb2 := hb.2 (by omega)
    refine ⟨?_, by omega, fun _ => k3, fun q => absurd k1 q⟩
    unfold clP
    rw [if_pos k1]
    omega
  · have hb2 := hb.2 (by omega)
    have hb3 := hb2.2 k4.1
    have hk := cK_lt (T := T) (L := L) (p := p) (by omega)
    have hv := nV_b (T := T) (p := cQ T L p + 1) (by omega) (by omega) h2
    refine ⟨?_, by omega, fun q => absurd q (by omega), fun _ => ⟨hv.1, k6.1, k6.2⟩⟩
    unfold clP
    rw [if_neg (by omega)]
    omega
def fr12 (N N1 : zN) : Prop := (∀ (a : Nat) (x : Int), ¬ (a = 12 ∧ (x = 2 ∨ x = 3)) → N1 a x = N a x) ∧ (0 ≤ N1 12 2 ∧ N1 12 2 ≤ 41)
/-- what a good clause does to the draft at D -/
def lwS (N N1 : zN) (D : Nat) (k a b p : Int) : Prop := (∀ (c : Nat) (x : Int), ¬ (c = 12 ∧ x = 2) → ¬ (c = D ∧ x = 2 ∧ k = 3) → ¬ ((c = D + 1 ∨ c = D + 2) ∧ x = k ∧ k ≠ 3) → N1 c x = N c x) ∧ N1 12 2 = p ∧ (k = 3 → N1 D 2 = a) ∧ (k ≠ 3 → N1 (D + 1) k = a ∧ N1 (D + 2) k = b)
theorem fr12_2 {x y : Int} (hx : 0 ≤ x ∧ x ≤ 41) : fr12 N (mup (mup N 12 2 x) 12 3 y) := ⟨fun a z hz => by rw [mup_ne (fun q => hz ⟨q.1, Or.inr q.2⟩), mup_ne (fun q => hz ⟨q.1, Or.inl q.2⟩)], by rw [mup_slot (by decide), mup_self]; exact hx⟩
def agBad (T : Int → Int) (L p F : Int) : Prop := (¬ nOK T L p ∧ F = nQ T L p) ∨ (nOK T L p ∧ ¬ nV T L p ≤ 99 ∧ F = nQ T L p) ∨ (nOK T L p ∧ nV T L p ≤ 99 ∧ ¬ (spE T L (nE T L p) < L ∧ T (spE T L (nE T L p)) = 45) ∧ F = spE T L (nE T L p)) ∨ (nOK T L p ∧ nV T L p ≤ 99 ∧ (spE T L (nE T L p) < L ∧ T (spE T L (nE T L p)) = 45) ∧ ¬ nOK T L (spE T L (nE T L p) + 1) ∧ F = nQ T L (spE T L (nE T L p) + 1)) ∨ (nOK T L p ∧ nV T L p ≤ 99 ∧ (spE T L (nE T L p) < L ∧ T (spE T L (nE T L p)) = 45) ∧ nOK T L (spE T L (nE T L p) + 1) ∧ ¬ (nV T L p ≤ nV T L (spE T L (nE T L p) + 1) ∧ nV T L (spE T L (nE T L p) + 1) ≤ 99) ∧ F = nQ T L (spE T L (nE T L p) + 1))
theorem agBad_c {T : Int → Int} {L p F : Int} (hk : 0 ≤ cK T L p ∧ cK T L p < 3) (h : agBad T L (cQ T L p + 1) F) : clBad T L p F := by
  rcases h with ⟨h1, h2⟩ | ⟨h1, h2, h3⟩ | ⟨h1, h2, h3, h4⟩ | ⟨h1, h2, h3, h4, h5⟩ | ⟨h1, h2, h3, h4, h5, h6⟩
  · exact Or.inr (Or.inl ⟨hk.1, h1, h2⟩)
  · exact Or.inr (Or.inr (Or.inr (Or.inl ⟨hk, h1, h2, h3⟩)))
  · exact Or.inr (Or.inr (Or.inr (Or.inr (Or.inl ⟨hk, h1, h2, h3, h4⟩))))
  · exact Or.inr (Or.inr (Or.inr (Or.inr (Or.inr (Or.inl ⟨hk, h1, h2, h3, h4, h5⟩)))))
  · exact Or.inr (Or.inr (Or.inr (Or.inr (Or.inr (Or.inr ⟨hk, h1, h2, h3, h4, h5, h6⟩)))))
set_option maxRecDepth 20000 in
set_option maxHeartbeats 2000000 in
theorem x_readAges {T : Int → Int} {L : Int} (ht : tpS s N T L){p : Int} (hp : N 12 2 = p) (hp0 : 0 ≤ p ∧ p ≤ L) {D : Nat} (hD : lwA s D) {k : Int} (hk : 0 ≤ k ∧ k < 3) (hF : ∀ (F : Int) (N1 : zN), agBad T L p F → fr12 N N1 → N1 12 3 = F → Q (some (vi 0)) (zI s N1)) (hO : nOK T L p → nV T L p ≤ 99 → (spE T L (nE T L p) < L ∧ T (spE T L (nE T L p)) = 45) → nOK T L (spE T L (nE T L p) + 1) → (nV T L p ≤ nV T L (spE T L (nE T L p) + 1) ∧ nV T L (spE T L (nE T L p) + 1) ≤ 99) → Q (some (vi 1)) (zI s (mup (mup (mup N 12 2 (nE T L (spE T L (nE T L p) + 1))) (D + 1) k (nV T L p)) (D + 2) k (nV T L (spE T L (nE T L p) + 1))))) : zC X m_X10_readAges [.ref 12, .ref D, vi k] (zI s N) Q := by
  obtain ⟨hB, hT, hL, hL2, hTr⟩ := id ht
  obtain ⟨dD, dA, dB, dC, dc0, dc1, dc2, dcB, dcC⟩ := id hD
  have hqb := nQ_b (T := T) hp0.1 hp0.2 hL2.2
  have heb := nE_b (T := T) hp0.1 hp0.2 hL2.2
  show zE X m_X10_readAges 0 [.ref 12, .ref D, vi k, zU, zU] [] _ Q
  refine e_aload_n q_X10_readAges_0 (by decide) rfl ?_
  refine e_iconst q_X10_readAges_1 ?_
  refine e_bipush q_X10_readAges_2 (by decide) ?_
  refine iv_X10_readNumber q_X10_readAges_4 lk_X10_49 (by decide) (a12 hB) (Nat.le_of_ble_eq_true rfl) ?_
  refine x_readNumber ht hp hp0 (by omega) (by omega) (fun hok => ?_) (fun hok hvn => ?_) (fun hok hvn => ?_)
  · skip
    refine e_istore_n (ls' := [_, _, _, _, _]) q_X10_readAges_7 (by decide) rfl rfl ?_
    refine e_iload_n q_X10_readAges_8 (by decide) rfl ?_
    have hvb := nV_b (T := T) (p := p) hp0.1 hp0.2 hL2.2
    refine e_if_ge q_X10_readAges_9 (by constructor <;> omega) (fun c9 => ?_) (fun c9 => ?_)
    · skip
      exact absurd c9 (by omega)
    · skip
      refine e_iconst q_X10_readAges_12 ?_
      refine e_ireturn q_X10_readAges_13 rfl rfl ?_
      first
      | (refine hF _ _ (Or.inl ⟨hok, rfl⟩) ⟨fun a0 z hz => ?_, ?_⟩ (mup_self _ _ _ _)
         · repeat rw [mup_ne (fun q => hz ⟨q.1, by omega⟩)]
         · rw [mup_slot (by decide), mup_self]; omega)
      | (refine hF _ _ (Or.inr (Or.inl ⟨hok, by omega, rfl⟩)) ⟨fun a0 z hz => ?_, ?_⟩ (mup_self _ _ _ _)
         · repeat rw [mup_ne (fun q => hz ⟨q.1, by omega⟩)]
         · rw [mup_slot (by decide), mup_self]; omega)
      | exact absurd c9 (by omega)
  · skip
    refine e_istore_n (ls' := [_, _, _, _, _]) q_X10_readAges_7 (by decide) rfl rfl ?_
    refine e_iload_n q_X10_readAges_8 (by decide) rfl ?_
    have hvb := nV_b (T := T) (p := p) hp0.1 hp0.2 hL2.2
    refine e_if_ge q_X10_readAges_9 (by constructor <;> omega) (fun c9 => ?_) (fun c9 => ?_)
    · skip
      exact absurd c9 (by omega)
    · skip
      refine e_iconst q_X10_readAges_12 ?_
      refine e_ireturn q_X10_readAges_13 rfl rfl ?_
      first
      | (refine hF _ _ (Or.inl ⟨hok, rfl⟩) ⟨fun a0 z hz => ?_, ?_⟩ (mup_self _ _ _ _)
         · repeat rw [mup_ne (fun q => hz ⟨q.1, by omega⟩)]
         · rw [mup_slot (by decide), mup_self]; omega)
      | (refine hF _ _ (Or.inr (Or.inl ⟨hok, by omega, rfl⟩)) ⟨fun a0 z hz => ?_, ?_⟩ (mup_self _ _ _ _)
         · repeat rw [mup_ne (fun q => hz ⟨q.1, by omega⟩)]
         · rw [mup_slot (by decide), mup_self]; omega)
      | exact absurd c9 (by omega)
  · skip
    refine e_istore_n (ls' := [_, _, _, _, _]) q_X10_readAges_7 (by decide) rfl rfl ?_
    refine e_iload_n q_X10_readAges_8 (by decide) rfl ?_
    have hvb := nV_b (T := T) (p := p) hp0.1 hp0.2 hL2.2
    refine e_if_ge q_X10_readAges_9 (by constructor <;> omega) (fun c9 => ?_) (fun c9 => ?_)
    · skip
      have hsg : sgE T L (nE T L p) = 45 ↔ (spE T L (nE T L p) < L ∧ T (spE T L (nE T L p)) = 45) := by
        rcases sgE_r hTr (p := nE T L p) (by omega) (by omega) hL2.2 with r | r
        · rw [r.1]
          exact ⟨fun q => absurd q (by omega), fun q => absurd q.1 r.2⟩
        · rw [r.2.1]
          exact ⟨fun q => ⟨r.1, q⟩, fun q => q.2⟩
      have hsr : zr (sgE T L (nE T L p)) := by
        rcases sgE_r hTr (p := nE T L p) (by omega) (by omega) hL2.2 with r | r
        · rw [r.1]; constructor <;> omega
        · rw [r.2.1]; constructor <;> omega
      have hq2 := nQ_b (T := T) (p := nE T L p) (by omega) (by omega) hL2.2
      have hq2 : nE T L p ≤ spE T L (nE T L p) ∧ spE T L (nE T L p) ≤ L := hq2
      refine e_aload_n q_X10_readAges_14 (by decide) rfl ?_
      refine iv_X10_nextSign q_X10_readAges_15 lk_X10_29 (by decide) (a12 hB) (Nat.le_of_ble_eq_true rfl) ?_
      refine x_nextSign (ht.mu (by decide) (by omega)) (mup_self _ _ _ _) (by omega) ?_
      refine e_bipush q_X10_readAges_18 (by decide) ?_
      refine e_icmp_eq q_X10_readAges_20 hsr (by constructor <;> omega) (fun c20 => ?_) (fun c20 => ?_)
      · skip
        have hs45 := hsg.mp c20
        refine e_aload_n q_X10_readAges_32 (by decide) rfl ?_
        refine e_dup q_X10_readAges_33 rfl ?_
        refine i_getI (k' := 2) q_X10_readAges_34 fl_X10_19 (a12 hB) rfl rfl rfl (mup_self _ _ _ _) ?_
        refine e_iconst q_X10_readAges_37 ?_
        refine e_iadd q_X10_readAges_38 ?_
        refine i_putI (k' := 2) q_X10_readAges_39 fl_X10_19 (Or.inl rfl) (a12 hB) rfl rfl rfl rfl rfl ?_
        refine e_aload_n q_X10_readAges_42 (by decide) rfl ?_
        refine e_iload_n q_X10_readAges_43 (by decide) rfl ?_
        refine e_bipush q_X10_readAges_44 (by decide) ?_
        refine iv_X10_readNumber q_X10_readAges_46 lk_X10_49 (by decide) (a12 hB) (Nat.le_of_ble_eq_true rfl) ?_
        refine x_readNumber (p := spE T L (nE T L p) + 1) (((ht.mu (by decide) (by omega)).mu (by decide) (by omega)).mu (by decide) (by omega)) (mup_self _ _ _ _) (by omega) (by omega) (by omega) (fun hok2 => ?_) (fun hok2 hvn2 => ?_) (fun hok2 hvn2 => ?_)
        · skip
          refine e_istore (ls' := [_, _, _, _, _]) q_X10_readAges_49 (by decide) rfl rfl ?_
          refine e_iload q_X10_readAges_51 (by decide) rfl ?_
          have hvb2 := nV_b (T := T) (p := spE T L (nE T L p) + 1) (by omega) (by omega) hL2.2
          have hqb3 := nQ_b (T := T) (p := spE T L (nE T L p) + 1) (by omega) (by omega) hL2.2
          have heb3 := nE_b (T := T) (p := spE T L (nE T L p) + 1) (by omega) (by omega) hL2.2
          refine e_if_ge q_X10_readAges_53 (by constructor <;> omega) (fun c53 => ?_) (fun c53 => ?_)
          · skip
            exact absurd c53 (by omega)
          · skip
            refine e_iconst q_X10_readAges_56 ?_
            refine e_ireturn q_X10_readAges_57 rfl rfl ?_
            first
            | (refine hF _ _ (Or.inr (Or.inr (Or.inr (Or.inl ⟨hok, by omega, hs45, hok2, rfl⟩)))) ⟨fun a0 z hz => ?_, ?_⟩ (mup_self _ _ _ _)
               · repeat rw [mup_ne (fun q => hz ⟨q.1, by omega⟩)]
               · rw [mup_slot (by decide), mup_self]; omega)
            | (refine hF _ _ (Or.inr (Or.inr (Or.inr (Or.inr ⟨hok, by omega, hs45, hok2, hvn2, rfl⟩)))) ⟨fun a0 z hz => ?_, ?_⟩ (mup_self _ _ _ _)
               · repeat rw [mup_ne (fun q => hz ⟨q.1, by omega⟩)]
               · rw [mup_slot (by decide), mup_self]; omega)
            | exact absurd c53 (by omega)
        · skip
          refine e_istore (ls' := [_, _, _, _, _]) q_X10_readAges_49 (by decide) rfl rfl ?_
          refine e_iload q_X10_readAges_51 (by decide) rfl ?_
          have hvb2 := nV_b (T := T) (p := spE T L (nE T L p) + 1) (by omega) (by omega) hL2.2
          have hqb3 := nQ_b (T := T) (p := spE T L (nE T L p) + 1) (by omega) (by omega) hL2.2
          have heb3 := nE_b (T := T) (p := spE T L (nE T L p) + 1) (by omega) (by omega) hL2.2
          refine e_if_ge q_X10_readAges_53 (by constructor <;> omega) (fun c53 => ?_) (fun c53 => ?_)
          · skip
            exact absurd c53 (by omega)
          · skip
            refine e_iconst q_X10_readAges_56 ?_
            refine e_ireturn q_X10_readAges_57 rfl rfl ?_
            first
            | (refine hF _ _ (Or.inr (Or.inr (Or.inr (Or.inl ⟨hok, by omega, hs45, hok2, rfl⟩)))) ⟨fun a0 z hz => ?_, ?_⟩ (mup_self _ _ _ _)
               · repeat rw [mup_ne (fun q => hz ⟨q.1, by omega⟩)]
               · rw [mup_slot (by decide), mup_self]; omega)
            | (refine hF _ _ (Or.inr (Or.inr (Or.inr (Or.inr ⟨hok, by omega, hs45, hok2, hvn2, rfl⟩)))) ⟨fun a0 z hz => ?_, ?_⟩ (mup_self _ _ _ _)
               · repeat rw [mup_ne (fun q => hz ⟨q.1, by omega⟩)]
               · rw [mup_slot (by decide), mup_self]; omega)
            | exact absurd c53 (by omega)
        · skip
          refine e_istore (ls' := [_, _, _, _, _]) q_X10_readAges_49 (by decide) rfl rfl ?_
          refine e_iload q_X10_readAges_51 (by decide) rfl ?_
          have hvb2 := nV_b (T := T) (p := spE T L (nE T L p) + 1) (by omega) (by omega) hL2.2
          have hqb3 := nQ_b (T := T) (p := spE T L (nE T L p) + 1) (by omega) (by omega) hL2.2
          have heb3 := nE_b (T := T) (p := spE T L (nE T L p) + 1) (by omega) (by omega) hL2.2
          refine e_if_ge q_X10_readAges_53 (by constructor <;> omega) (fun c53 => ?_) (fun c53 => ?_)
          · skip
            refine e_aload_n q_X10_readAges_58 (by decide) rfl ?_
            refine e_iload_n q_X10_readAges_59 (by decide) rfl ?_
            refine e_iload_n q_X10_readAges_60 (by decide) rfl ?_
            refine e_iload q_X10_readAges_61 (by decide) rfl ?_
            refine iv_X3_setAges q_X10_readAges_63 lk_X10_58 (by decide) dA (Nat.le_of_ble_eq_true rfl) ?_
            refine x_setAges hD (by omega) ?_
            refine e_iconst q_X10_readAges_66 ?_
            refine e_ireturn q_X10_readAges_67 rfl rfl ?_
            exact zqS (hO hok (by omega) hs45 hok2 hvn2) rfl (by rw [mup_mup, mup_mup, mup_mup])
          · skip
            refine e_iconst q_X10_readAges_56 ?_
            refine e_ireturn q_X10_readAges_57 rfl rfl ?_
            first
            | (refine hF _ _ (Or.inr (Or.inr (Or.inr (Or.inl ⟨hok, by omega, hs45, hok2, rfl⟩)))) ⟨fun a0 z hz => ?_, ?_⟩ (mup_self _ _ _ _)
               · repeat rw [mup_ne (fun q => hz ⟨q.1, by omega⟩)]
               · rw [mup_slot (by decide), mup_self]; omega)
            | (refine hF _ _ (Or.inr (Or.inr (Or.inr (Or.inr ⟨hok, by omega, hs45, hok2, hvn2, rfl⟩)))) ⟨fun a0 z hz => ?_, ?_⟩ (mup_self _ _ _ _)
               · repeat rw [mup_ne (fun q => hz ⟨q.1, by omega⟩)]
               · rw [mup_slot (by decide), mup_self]; omega)
            | exact absurd c53 (by omega)
      · skip
        refine e_aload_n q_X10_readAges_23 (by decide) rfl ?_
        refine e_aload_n q_X10_readAges_24 (by decide) rfl ?_
        refine i_getI (k' := 2) q_X10_readAges_25 fl_X10_19 (a12 hB) rfl rfl rfl (mup_self _ _ _ _) ?_
        refine iv_X10_fault q_X10_readAges_28 lk_X10_41 (by decide) (a12 hB) (Nat.le_of_ble_eq_true rfl) ?_
        refine x_fault hB ?_
        refine e_ireturn q_X10_readAges_31 rfl rfl ?_
        refine hF _ _ (Or.inr (Or.inr (Or.inl ⟨hok, by omega, fun q => c20 (hsg.mpr q), rfl⟩))) ⟨fun a0 z hz => ?_, ?_⟩ (mup_self _ _ _ _)
        · repeat rw [mup_ne (fun q => hz ⟨q.1, by omega⟩)]
        · rw [mup_slot (by decide), mup_self]; omega
    · skip
      refine e_iconst q_X10_readAges_12 ?_
      refine e_ireturn q_X10_readAges_13 rfl rfl ?_
      first
      | (refine hF _ _ (Or.inl ⟨hok, rfl⟩) ⟨fun a0 z hz => ?_, ?_⟩ (mup_self _ _ _ _)
         · repeat rw [mup_ne (fun q => hz ⟨q.1, by omega⟩)]
         · rw [mup_slot (by decide), mup_self]; omega)
      | (refine hF _ _ (Or.inr (Or.inl ⟨hok, by omega, rfl⟩)) ⟨fun a0 z hz => ?_, ?_⟩ (mup_self _ _ _ _)
         · repeat rw [mup_ne (fun q => hz ⟨q.1, by omega⟩)]
         · rw [mup_slot (by decide), mup_self]; omega)
      | exact absurd c9 (by omega)
set_option maxRecDepth 20000 in
set_option maxHeartbeats 2000000 in
theorem x_readClause {T : Int → Int} {L : Int} (ht : tpS s N T L){p : Int} (hp : N 12 2 = p) (hp0 : 0 ≤ p ∧ p ≤ L) {D : Nat} (hD : lwA s D) (hF : ∀ (F : Int) (N1 : zN), clBad T L p F → fr12 N N1 → N1 12 3 = F → Q (some (vi 0)) (zI s N1)) (hO : clGood T L p → ∀ N1 : zN, lwS N N1 D (cK T L p) (clA T L p) (clB T L p) (clP T L p) → Q (some (vi 1)) (zI s N1)) : zC X m_X10_readClause [.ref 12, .ref D] (zI s N) Q := by
  obtain ⟨hB, hT, hL, hL2, hTr⟩ := id ht
  obtain ⟨dD, dA, dB, dC, dc0, dc1, dc2, dcB, dcC⟩ := id hD
  have hqb := nQ_b (T := T) hp0.1 hp0.2 hL2.2
  have hqb : p ≤ cQ T L p ∧ cQ T L p ≤ L := hqb
  have hckb := cK_b T L p
  show zE X m_X10_readClause 0 [.ref 12, .ref D, zU, zU, zU] [] _ Q
  refine e_aload_n q_X10_readClause_0 (by decide) rfl ?_
  refine iv_X10_nextSign q_X10_readClause_1 lk_X10_29 (by decide) (a12 hB) (Nat.le_of_ble_eq_true rfl) ?_
  refine x_nextSign ht hp hp0 ?_
  have hck : (cK T L p = -1 ∧ ¬ cQ T L p < L) ∨ (cQ T L p < L ∧ cK T L p = kndI (T (cQ T L p)) ∧ sgE T L p = T (cQ T L p) ∧ 32 ≤ T (cQ T L p) ∧ T (cQ T L p) ≤ 126) := by
    rcases sgE_r hTr hp0.1 hp0.2 hL2.2 with r | r
    · exact Or.inl ⟨zif_f r.2, r.2⟩
    · exact Or.inr ⟨r.1, zif_t r.1, r.2.1, r.2.2⟩
  have hsr : sgE T L p = -1 ∨ (32 ≤ sgE T L p ∧ sgE T L p ≤ 126) := by
    rcases sgE_r hTr hp0.1 hp0.2 hL2.2 with r | r
    · exact Or.inl r.1
    · rw [r.2.1]; exact Or.inr r.2.2
  have hsl : sgE T L p ≠ -1 → cQ T L p < L := by
    rcases sgE_r hTr hp0.1 hp0.2 hL2.2 with r | r
    · exact fun q => absurd r.1 q
    · exact fun _ => r.1
  refine e_istore_n (ls' := [_, _, _, _, _]) q_X10_readClause_4 (by decide) rfl rfl ?_
  refine e_iload_n q_X10_readClause_5 (by decide) rfl ?_
  refine e_iconst q_X10_readClause_6 ?_
  refine e_icmp_ne q_X10_readClause_7 (by constructor <;> omega) (by constructor <;> omega) (fun c7 => ?_) (fun c7 => ?_)
  · skip
    refine e_ldcS q_X10_readClause_14 rfl ?_
    refine e_iload_n q_X10_readClause_16 (by decide) rfl ?_
    refine e_i2c q_X10_readClause_17 (v := sgE T L p) (i16_i (by omega)) ?_
    refine iv_J0_indexOf_0f7a4 q_X10_readClause_18 lk_X10_35 (by decide) (Nat.le_of_ble_eq_true rfl) ?_
    refine d_indexOf (by omega) ?_
    refine e_istore_n (ls' := [_, _, _, _, _]) q_X10_readClause_21 (by decide) rfl rfl ?_
    first
    | (have hkk : cK T L p = -1 := by
         rcases hck with r | r
         · exact r.1
         · omega
       rw [← hkk])
    | (have hkk : cK T L p = kndI (sgE T L p) := by
         rcases hck with r | r
         · exact absurd (hsl (by omega)) r.2
         · rw [r.2.1, r.2.2.1]
       rw [← hkk])
    refine e_iload_n q_X10_readClause_22 (by decide) rfl ?_
    refine e_if_ge q_X10_readClause_23 (by have := cK_b T L p; have := kndI_b (sgE T L p); constructor <;> omega) (fun c23 => ?_) (fun c23 => ?_)
    · skip
      have hcK : 0 ≤ cK T L p := by omega
      have hlt := (cK_lt hcK).1
      refine e_aload_n q_X10_readClause_35 (by decide) rfl ?_
      refine e_dup q_X10_readClause_36 rfl ?_
      refine i_getI (k' := 2) q_X10_readClause_37 fl_X10_19 (a12 hB) rfl rfl rfl (mup_self _ _ _ _) ?_
      refine e_iconst q_X10_readClause_40 ?_
      refine e_iadd q_X10_readClause_41 ?_
      refine i_putI (k' := 2) q_X10_readClause_42 fl_X10_19 (Or.inl rfl) (a12 hB) rfl rfl rfl rfl rfl ?_
      refine e_iload_n q_X10_readClause_45 (by decide) rfl ?_
      refine e_iconst q_X10_readClause_46 ?_
      refine e_icmp_eq q_X10_readClause_47 (by have := cK_b T L p; constructor <;> omega) (by have := cK_b T L p; constructor <;> omega) (fun c47 => ?_) (fun c47 => ?_)
      · skip
        refine e_aload_n q_X10_readClause_57 (by decide) rfl ?_
        refine e_iconst q_X10_readClause_58 ?_
        refine e_bipush q_X10_readClause_59 (by decide) ?_
        refine iv_X10_readNumber q_X10_readClause_61 lk_X10_49 (by decide) (a12 hB) (Nat.le_of_ble_eq_true rfl) ?_
        refine x_readNumber (p := cQ T L p + 1) ((ht.mu (by decide) (by omega)).mu (by decide) (by omega)) (mup_self _ _ _ _) (by omega) (by omega) (by omega) (fun hok => ?_) (fun hok hvn => ?_) (fun hok hvn => ?_)
        · skip
          refine e_istore (ls' := [_, _, _, _, _]) q_X10_readClause_64 (by decide) rfl rfl ?_
          refine e_iload q_X10_readClause_66 (by decide) rfl ?_
          refine e_if_ge q_X10_readClause_68 (by constructor <;> omega) (fun c68 => ?_) (fun c68 => ?_)
          · skip
            exact absurd c68 (by omega)
          · skip
            refine e_iconst q_X10_readClause_71 ?_
            refine e_ireturn q_X10_readClause_72 rfl rfl ?_
            first
            | exact absurd c68 (by omega)
            | (refine hF (nQ T L (cQ T L p + 1)) _ (Or.inr (Or.inl ⟨hcK, hok, rfl⟩)) ⟨fun a0 z hz => ?_, ?_⟩ (mup_self _ _ _ _)
               · repeat rw [mup_ne (fun q => hz ⟨q.1, by omega⟩)]
               · rw [mup_slot (by decide), mup_self]; have := (cl_b (T := T) hp0.1 hp0.2 hL2.2).2 hcK; omega)
            | (refine hF (nQ T L (cQ T L p + 1)) _ (Or.inr (Or.inr (Or.inl ⟨by omega, hok, hvn, rfl⟩))) ⟨fun a0 z hz => ?_, ?_⟩ (mup_self _ _ _ _)
               · repeat rw [mup_ne (fun q => hz ⟨q.1, by omega⟩)]
               · rw [mup_slot (by decide), mup_self]; have := (cl_b (T := T) hp0.1 hp0.2 hL2.2).2 hcK; omega)
        · skip
          refine e_istore (ls' := [_, _, _, _, _]) q_X10_readClause_64 (by decide) rfl rfl ?_
          refine e_iload q_X10_readClause_66 (by decide) rfl ?_
          refine e_if_ge q_X10_readClause_68 (by constructor <;> omega) (fun c68 => ?_) (fun c68 => ?_)
          · skip
            exact absurd c68 (by omega)
          · skip
            refine e_iconst q_X10_readClause_71 ?_
            refine e_ireturn q_X10_readClause_72 rfl rfl ?_
            first
            | exact absurd c68 (by omega)
            | (refine hF (nQ T L (cQ T L p + 1)) _ (Or.inr (Or.inl ⟨hcK, hok, rfl⟩)) ⟨fun a0 z hz => ?_, ?_⟩ (mup_self _ _ _ _)
               · repeat rw [mup_ne (fun q => hz ⟨q.1, by omega⟩)]
               · rw [mup_slot (by decide), mup_self]; have := (cl_b (T := T) hp0.1 hp0.2 hL2.2).2 hcK; omega)
            | (refine hF (nQ T L (cQ T L p + 1)) _ (Or.inr (Or.inr (Or.inl ⟨by omega, hok, hvn, rfl⟩))) ⟨fun a0 z hz => ?_, ?_⟩ (mup_self _ _ _ _)
               · repeat rw [mup_ne (fun q => hz ⟨q.1, by omega⟩)]
               · rw [mup_slot (by decide), mup_self]; have := (cl_b (T := T) hp0.1 hp0.2 hL2.2).2 hcK; omega)
        · skip
          have hvb := nV_b (T := T) (p := cQ T L p + 1) (by omega) (by omega) hL2.2
          refine e_istore (ls' := [_, _, _, _, _]) q_X10_readClause_64 (by decide) rfl rfl ?_
          refine e_iload q_X10_readClause_66 (by decide) rfl ?_
          refine e_if_ge q_X10_readClause_68 (by constructor <;> omega) (fun c68 => ?_) (fun c68 => ?_)
          · skip
            refine e_aload_n q_X10_readClause_73 (by decide) rfl ?_
            refine e_iload q_X10_readClause_74 (by decide) rfl ?_
            refine i_putI (k' := 2) q_X10_readClause_76 fl_X10_53 (Or.inl rfl) dA dc2 rfl rfl rfl rfl ?_
            refine e_iconst q_X10_readClause_79 ?_
            refine e_ireturn q_X10_readClause_80 rfl rfl ?_
            refine hO (Or.inl ⟨by omega, hok, hvn⟩) _ ⟨fun c0 x h1 h2 h3 => ?_, ?_, fun _ => ?_, fun q => absurd (by omega) q⟩
            · rw [mup_ne (fun q => h2 ⟨q.1, q.2, by omega⟩), mup_ne h1, mup_ne h1, mup_ne h1]
            · rw [mup_cell (by omega), mup_self]
              unfold clP
              rw [if_pos (by omega)]
            · rw [mup_self]; rfl
          · skip
            refine e_iconst q_X10_readClause_71 ?_
            refine e_ireturn q_X10_readClause_72 rfl rfl ?_
            first
            | exact absurd c68 (by omega)
            | (refine hF (nQ T L (cQ T L p + 1)) _ (Or.inr (Or.inl ⟨hcK, hok, rfl⟩)) ⟨fun a0 z hz => ?_, ?_⟩ (mup_self _ _ _ _)
               · repeat rw [mup_ne (fun q => hz ⟨q.1, by omega⟩)]
               · rw [mup_slot (by decide), mup_self]; have := (cl_b (T := T) hp0.1 hp0.2 hL2.2).2 hcK; omega)
            | (refine hF (nQ T L (cQ T L p + 1)) _ (Or.inr (Or.inr (Or.inl ⟨by omega, hok, hvn, rfl⟩))) ⟨fun a0 z hz => ?_, ?_⟩ (mup_self _ _ _ _)
               · repeat rw [mup_ne (fun q => hz ⟨q.1, by omega⟩)]
               · rw [mup_slot (by decide), mup_self]; have := (cl_b (T := T) hp0.1 hp0.2 hL2.2).2 hcK; omega)
      · skip
        refine e_aload_n q_X10_readClause_50 (by decide) rfl ?_
        refine e_aload_n q_X10_readClause_51 (by decide) rfl ?_
        refine e_iload_n q_X10_readClause_52 (by decide) rfl ?_
        refine iv_X10_readAges rfl q_X10_readClause_53 lk_X10_45 (by decide) (a12 hB) (Nat.le_of_ble_eq_true rfl) ?_
        refine x_readAges (p := cQ T L p + 1) ((ht.mu (by decide) (by omega)).mu (by decide) (by omega)) (mup_self _ _ _ _) (by omega) hD (by omega) (fun F N1 hb hf h3 => ?_) (fun k1 k2 k3 k4 k5 => ?_)
        · skip
          refine e_ireturn q_X10_readClause_56 rfl rfl ?_
          first
          | exact hF F N1 (agBad_c (by omega) hb) ⟨fun a0 z hz => by rw [hf.1 a0 z hz, mup_ne (fun q => hz ⟨q.1, Or.inl q.2⟩), mup_ne (fun q => hz ⟨q.1, Or.inl q.2⟩)], hf.2⟩ h3
          | (refine hO (Or.inr ⟨by omega, k1, k2, k3, k4, k5⟩) _ ⟨fun c0 x h1 h2 h3 => ?_, ?_, fun q => absurd q (by omega), fun _ => ⟨?_, ?_⟩⟩
             · rw [mup_ne (fun q => h3 ⟨Or.inr q.1, q.2, by omega⟩), mup_ne (fun q => h3 ⟨Or.inl q.1, q.2, by omega⟩), mup_ne h1, mup_ne h1, mup_ne h1]
             · rw [mup_cell (by omega), mup_cell (by omega), mup_self]
               unfold clP
               rw [if_neg (by omega)]
             · rw [mup_cell (by omega), mup_self]; rfl
             · rw [mup_self]; rfl)
        · skip
          refine e_ireturn q_X10_readClause_56 rfl rfl ?_
          first
          | exact hF F N1 (agBad_c (by omega) hb) ⟨fun a0 z hz => by rw [hf.1 a0 z hz, mup_ne (fun q => hz ⟨q.1, Or.inl q.2⟩), mup_ne (fun q => hz ⟨q.1, Or.inl q.2⟩)], hf.2⟩ h3
          | (refine hO (Or.inr ⟨by omega, k1, k2, k3, k4, k5⟩) _ ⟨fun c0 x h1 h2 h3 => ?_, ?_, fun q => absurd q (by omega), fun _ => ⟨?_, ?_⟩⟩
             · rw [mup_ne (fun q => h3 ⟨Or.inr q.1, q.2, by omega⟩), mup_ne (fun q => h3 ⟨Or.inl q.1, q.2, by omega⟩), mup_ne h1, mup_ne h1, mup_ne h1]
             · rw [mup_cell (by omega), mup_cell (by omega), mup_self]
               unfold clP
               rw [if_neg (by omega)]
             · rw [mup_cell (by omega), mup_self]; rfl
             · rw [mup_self]; rfl)
    · skip
      refine e_aload_n q_X10_readClause_26 (by decide) rfl ?_
      refine e_aload_n q_X10_readClause_27 (by decide) rfl ?_
      refine i_getI (k' := 2) q_X10_readClause_28 fl_X10_19 (a12 hB) rfl rfl rfl (mup_self _ _ _ _) ?_
      refine iv_X10_fault q_X10_readClause_31 lk_X10_41 (by decide) (a12 hB) (Nat.le_of_ble_eq_true rfl) ?_
      refine x_fault hB ?_
      
      refine e_ireturn q_X10_readClause_34 rfl rfl ?_
      exact hF (cQ T L p) _ (Or.inl ⟨by omega, rfl⟩) (fr12_2 (x := spE T L p) (by show 0 ≤ cQ T L p ∧ cQ T L p ≤ 41; omega)) (mup_self _ _ _ _)
  · skip
    refine e_iconst q_X10_readClause_10 ?_
    refine e_goto q_X10_readClause_11 ?_
    refine e_istore_n (ls' := [_, _, _, _, _]) q_X10_readClause_21 (by decide) rfl rfl ?_
    first
    | (have hkk : cK T L p = -1 := by
         rcases hck with r | r
         · exact r.1
         · omega
       rw [← hkk])
    | (have hkk : cK T L p = kndI (sgE T L p) := by
         rcases hck with r | r
         · exact absurd (hsl (by omega)) r.2
         · rw [r.2.1, r.2.2.1]
       rw [← hkk])
    refine e_iload_n q_X10_readClause_22 (by decide) rfl ?_
    refine e_if_ge q_X10_readClause_23 (by have := cK_b T L p; have := kndI_b (sgE T L p); constructor <;> omega) (fun c23 => ?_) (fun c23 => ?_)
    · skip
      have hcK : 0 ≤ cK T L p := by omega
      have hlt := (cK_lt hcK).1
      refine e_aload_n q_X10_readClause_35 (by decide) rfl ?_
      refine e_dup q_X10_readClause_36 rfl ?_
      refine i_getI (k' := 2) q_X10_readClause_37 fl_X10_19 (a12 hB) rfl rfl rfl (mup_self _ _ _ _) ?_
      refine e_iconst q_X10_readClause_40 ?_
      refine e_iadd q_X10_readClause_41 ?_
      refine i_putI (k' := 2) q_X10_readClause_42 fl_X10_19 (Or.inl rfl) (a12 hB) rfl rfl rfl rfl rfl ?_
      refine e_iload_n q_X10_readClause_45 (by decide) rfl ?_
      refine e_iconst q_X10_readClause_46 ?_
      refine e_icmp_eq q_X10_readClause_47 (by have := cK_b T L p; constructor <;> omega) (by have := cK_b T L p; constructor <;> omega) (fun c47 => ?_) (fun c47 => ?_)
      · skip
        refine e_aload_n q_X10_readClause_57 (by decide) rfl ?_
        refine e_iconst q_X10_readClause_58 ?_
        refine e_bipush q_X10_readClause_59 (by decide) ?_
        refine iv_X10_readNumber q_X10_readClause_61 lk_X10_49 (by decide) (a12 hB) (Nat.le_of_ble_eq_true rfl) ?_
        refine x_readNumber (p := cQ T L p + 1) ((ht.mu (by decide) (by omega)).mu (by decide) (by omega)) (mup_self _ _ _ _) (by omega) (by omega) (by omega) (fun hok => ?_) (fun hok hvn => ?_) (fun hok hvn => ?_)
        · skip
          refine e_istore (ls' := [_, _, _, _, _]) q_X10_readClause_64 (by decide) rfl rfl ?_
          refine e_iload q_X10_readClause_66 (by decide) rfl ?_
          refine e_if_ge q_X10_readClause_68 (by constructor <;> omega) (fun c68 => ?_) (fun c68 => ?_)
          · skip
            exact absurd c68 (by omega)
          · skip
            refine e_iconst q_X10_readClause_71 ?_
            refine e_ireturn q_X10_readClause_72 rfl rfl ?_
            first
            | exact absurd c68 (by omega)
            | (refine hF (nQ T L (cQ T L p + 1)) _ (Or.inr (Or.inl ⟨hcK, hok, rfl⟩)) ⟨fun a0 z hz => ?_, ?_⟩ (mup_self _ _ _ _)
               · repeat rw [mup_ne (fun q => hz ⟨q.1, by omega⟩)]
               · rw [mup_slot (by decide), mup_self]; have := (cl_b (T := T) hp0.1 hp0.2 hL2.2).2 hcK; omega)
            | (refine hF (nQ T L (cQ T L p + 1)) _ (Or.inr (Or.inr (Or.inl ⟨by omega, hok, hvn, rfl⟩))) ⟨fun a0 z hz => ?_, ?_⟩ (mup_self _ _ _ _)
               · repeat rw [mup_ne (fun q => hz ⟨q.1, by omega⟩)]
               · rw [mup_slot (by decide), mup_self]; have := (cl_b (T := T) hp0.1 hp0.2 hL2.2).2 hcK; omega)
        · skip
          refine e_istore (ls' := [_, _, _, _, _]) q_X10_readClause_64 (by decide) rfl rfl ?_
          refine e_iload q_X10_readClause_66 (by decide) rfl ?_
          refine e_if_ge q_X10_readClause_68 (by constructor <;> omega) (fun c68 => ?_) (fun c68 => ?_)
          · skip
            exact absurd c68 (by omega)
          · skip
            refine e_iconst q_X10_readClause_71 ?_
            refine e_ireturn q_X10_readClause_72 rfl rfl ?_
            first
            | exact absurd c68 (by omega)
            | (refine hF (nQ T L (cQ T L p + 1)) _ (Or.inr (Or.inl ⟨hcK, hok, rfl⟩)) ⟨fun a0 z hz => ?_, ?_⟩ (mup_self _ _ _ _)
               · repeat rw [mup_ne (fun q => hz ⟨q.1, by omega⟩)]
               · rw [mup_slot (by decide), mup_self]; have := (cl_b (T := T) hp0.1 hp0.2 hL2.2).2 hcK; omega)
            | (refine hF (nQ T L (cQ T L p + 1)) _ (Or.inr (Or.inr (Or.inl ⟨by omega, hok, hvn, rfl⟩))) ⟨fun a0 z hz => ?_, ?_⟩ (mup_self _ _ _ _)
               · repeat rw [mup_ne (fun q => hz ⟨q.1, by omega⟩)]
               · rw [mup_slot (by decide), mup_self]; have := (cl_b (T := T) hp0.1 hp0.2 hL2.2).2 hcK; omega)
        · skip
          have hvb := nV_b (T := T) (p := cQ T L p + 1) (by omega) (by omega) hL2.2
          refine e_istore (ls' := [_, _, _, _, _]) q_X10_readClause_64 (by decide) rfl rfl ?_
          refine e_iload q_X10_readClause_66 (by decide) rfl ?_
          refine e_if_ge q_X10_readClause_68 (by constructor <;> omega) (fun c68 => ?_) (fun c68 => ?_)
          · skip
            refine e_aload_n q_X10_readClause_73 (by decide) rfl ?_
            refine e_iload q_X10_readClause_74 (by decide) rfl ?_
            refine i_putI (k' := 2) q_X10_readClause_76 fl_X10_53 (Or.inl rfl) dA dc2 rfl rfl rfl rfl ?_
            refine e_iconst q_X10_readClause_79 ?_
            refine e_ireturn q_X10_readClause_80 rfl rfl ?_
            refine hO (Or.inl ⟨by omega, hok, hvn⟩) _ ⟨fun c0 x h1 h2 h3 => ?_, ?_, fun _ => ?_, fun q => absurd (by omega) q⟩
            · rw [mup_ne (fun q => h2 ⟨q.1, q.2, by omega⟩), mup_ne h1, mup_ne h1, mup_ne h1]
            · rw [mup_cell (by omega), mup_self]
              unfold clP
              rw [if_pos (by omega)]
            · rw [mup_self]; rfl
          · skip
            refine e_iconst q_X10_readClause_71 ?_
            refine e_ireturn q_X10_readClause_72 rfl rfl ?_
            first
            | exact absurd c68 (by omega)
            | (refine hF (nQ T L (cQ T L p + 1)) _ (Or.inr (Or.inl ⟨hcK, hok, rfl⟩)) ⟨fun a0 z hz => ?_, ?_⟩ (mup_self _ _ _ _)
               · repeat rw [mup_ne (fun q => hz ⟨q.1, by omega⟩)]
               · rw [mup_slot (by decide), mup_self]; have := (cl_b (T := T) hp0.1 hp0.2 hL2.2).2 hcK; omega)
            | (refine hF (nQ T L (cQ T L p + 1)) _ (Or.inr (Or.inr (Or.inl ⟨by omega, hok, hvn, rfl⟩))) ⟨fun a0 z hz => ?_, ?_⟩ (mup_self _ _ _ _)
               · repeat rw [mup_ne (fun q => hz ⟨q.1, by omega⟩)]
               · rw [mup_slot (by decide), mup_self]; have := (cl_b (T := T) hp0.1 hp0.2 hL2.2).2 hcK; omega)
      · skip
        refine e_aload_n q_X10_readClause_50 (by decide) rfl ?_
        refine e_aload_n q_X10_readClause_51 (by decide) rfl ?_
        refine e_iload_n q_X10_readClause_52 (by decide) rfl ?_
        refine iv_X10_readAges rfl q_X10_readClause_53 lk_X10_45 (by decide) (a12 hB) (Nat.le_of_ble_eq_true rfl) ?_
        refine x_readAges (p := cQ T L p + 1) ((ht.mu (by decide) (by omega)).mu (by decide) (by omega)) (mup_self _ _ _ _) (by omega) hD (by omega) (fun F N1 hb hf h3 => ?_) (fun k1 k2 k3 k4 k5 => ?_)
        · skip
          refine e_ireturn q_X10_readClause_56 rfl rfl ?_
          first
          | exact hF F N1 (agBad_c (by omega) hb) ⟨fun a0 z hz => by rw [hf.1 a0 z hz, mup_ne (fun q => hz ⟨q.1, Or.inl q.2⟩), mup_ne (fun q => hz ⟨q.1, Or.inl q.2⟩)], hf.2⟩ h3
          | (refine hO (Or.inr ⟨by omega, k1, k2, k3, k4, k5⟩) _ ⟨fun c0 x h1 h2 h3 => ?_, ?_, fun q => absurd q (by omega), fun _ => ⟨?_, ?_⟩⟩
             · rw [mup_ne (fun q => h3 ⟨Or.inr q.1, q.2, by omega⟩), mup_ne (fun q => h3 ⟨Or.inl q.1, q.2, by omega⟩), mup_ne h1, mup_ne h1, mup_ne h1]
             · rw [mup_cell (by omega), mup_cell (by omega), mup_self]
               unfold clP
               rw [if_neg (by omega)]
             · rw [mup_cell (by omega), mup_self]; rfl
             · rw [mup_self]; rfl)
        · skip
          refine e_ireturn q_X10_readClause_56 rfl rfl ?_
          first
          | exact hF F N1 (agBad_c (by omega) hb) ⟨fun a0 z hz => by rw [hf.1 a0 z hz, mup_ne (fun q => hz ⟨q.1, Or.inl q.2⟩), mup_ne (fun q => hz ⟨q.1, Or.inl q.2⟩)], hf.2⟩ h3
          | (refine hO (Or.inr ⟨by omega, k1, k2, k3, k4, k5⟩) _ ⟨fun c0 x h1 h2 h3 => ?_, ?_, fun q => absurd q (by omega), fun _ => ⟨?_, ?_⟩⟩
             · rw [mup_ne (fun q => h3 ⟨Or.inr q.1, q.2, by omega⟩), mup_ne (fun q => h3 ⟨Or.inl q.1, q.2, by omega⟩), mup_ne h1, mup_ne h1, mup_ne h1]
             · rw [mup_cell (by omega), mup_cell (by omega), mup_self]
               unfold clP
               rw [if_neg (by omega)]
             · rw [mup_cell (by omega), mup_self]; rfl
             · rw [mup_self]; rfl)
    · skip
      refine e_aload_n q_X10_readClause_26 (by decide) rfl ?_
      refine e_aload_n q_X10_readClause_27 (by decide) rfl ?_
      refine i_getI (k' := 2) q_X10_readClause_28 fl_X10_19 (a12 hB) rfl rfl rfl (mup_self _ _ _ _) ?_
      refine iv_X10_fault q_X10_readClause_31 lk_X10_41 (by decide) (a12 hB) (Nat.le_of_ble_eq_true rfl) ?_
      refine x_fault hB ?_
      
      refine e_ireturn q_X10_readClause_34 rfl rfl ?_
      exact hF (cQ T L p) _ (Or.inl ⟨by omega, rfl⟩) (fr12_2 (x := spE T L p) (by show 0 ≤ cQ T L p ∧ cQ T L p ≤ 41; omega)) (mup_self _ _ _ _)
end LT3
