/-! making whole, 4 (printed by wip/whole/gen/f4.py) -/
section FI4
variable {X : zX} {s : zK} {N : zN} {σ : zS} {fa sa : Int → Int} {Q K : Option Value → zS → Prop} {c : Int}
section FO
variable {a : Nat → Int → Int} {rm : Int → Int} {ri : Int → Prop} {po : Nat → Prop} {K : Nat}
theorem bOK_0 {g g' v : Int} (h : bOK a rm ri po K g 0 v) : bOK a rm ri po K g' 0 v := by
  have e : ∀ f, wSum a (tb 0) f K = 0 := fun f => by
    unfold wSum
    rw [sumK_c (g := fun _ => 0) (fun k _ => zif_f (by simp [tb]))]
    exact sumK_z (m := 0) K (Nat.zero_le K) (fun _ _ _ => rfl)
  have hg : ∀ (G : Int) (f : Nat → Int), goodOn rm ri po K G (tb 0) f := fun G f => ⟨fun k _ hs => absurd hs (by simp [tb]), fun x _ _ hx => by
    obtain ⟨k, -, hs, -⟩ := hx
    exact absurd hs (by simp [tb])⟩
  have h1 := h.1 (fun _ => 0) (hg g _)
  rw [e] at h1
  have hv : v = 0 := by
    rcases h.2 with r | ⟨f, -, r⟩
    · unfold IMP at r; omega
    · rw [e] at r; exact r
  exact ⟨fun f _ => by rw [e]; exact h1, Or.inr ⟨fun _ => 0, hg g' _, by rw [e]; exact hv⟩⟩
theorem bOK_r (ha : ∀ k g, k < K → 0 ≤ g → g < 8 → 0 ≤ a k g ∧ a k g ≤ 104) (hK : K ≤ 6) {g : Int} (hg : g ≤ 8) {m : Nat} {v : Int} (h : bOK a rm ri po K g m v) : v = IMP ∨ (0 ≤ v ∧ v ≤ 170000000) := by
  rcases h.2 with r | ⟨f, r1, r2⟩
  · exact Or.inl r
  · have := wSum_b ha hK (S := tb m) (f := f) (fun k hk hs => by have := r1.1 k hk hs; omega)
    rw [← r2] at this
    exact Or.inr this
theorem wI_wG {N : zN} {g : Int} (h : ∀ k : Nat, k < K → N 27 k = a k g) (m : Nat) : wI (fun k => N 27 k * 262144 + g * pw8 k) K m = wG a K g m := by
  unfold wI wG wSum wayK
  refine sumK_c (fun k hk => ?_)
  show zif (tb m k) (N 27 k * 262144 + g * pw8 k) 0 = zif (tb m k) (a k g * 262144 + g * pw8 k) 0
  rw [h k hk]
theorem bad_ok {g wl : Int} {ps m : Nat} (hK : K ≤ 6) (hm : m < 2 ^ K) (hwl : wl = 0 ↔ ¬ ri g) (hpo : ∀ k, k < K → (tb ps k ↔ po k)) (hps : ps < 2 ^ K) : (rm g < pcN m ∨ (wl = 0 ∧ m &&& ps = m)) ↔ ¬ okP rm ri po K (tb m) g := by
  have hsub : m &&& ps = m ↔ ∀ k, k < K → tb m k → po k := by
    constructor
    · intro r k hk hs
      exact (hpo k hk).mp (tb_sub r hs)
    · intro r
      exact and_of (fun k hk => (hpo k (tb_lt hm hk)).mpr (r k (tb_lt hm hk) hk))
  unfold okP
  rw [pcN_K hm hK, hwl, hsub]
  constructor
  · intro r q
    rcases r with r | ⟨r1, r2⟩
    · have := q.1; omega
    · rcases q.2 with q2 | ⟨k, k1, k2, k3⟩
      · exact r1 q2
      · exact k3 (r2 k k1 k2)
  · intro r
    by_cases q1 : pcN m ≤ rm g
    · refine Or.inr ⟨fun q2 => r ⟨q1, Or.inl q2⟩, fun k k1 k2 => Classical.byContradiction fun k3 => r ⟨q1, Or.inr ⟨k, k1, k2, k3⟩⟩⟩
    · exact Or.inl (by omega)
theorem xor_lt {p m : Nat} (hp : p &&& m = p) (hp0 : p ≠ 0) : m ^^^ p < m := by
  have h1 : (m ^^^ p) &&& m = m ^^^ p := and_of (fun k hk => ((tb_xor hp k).mp hk).1)
  have h2 : m ^^^ p ≤ m := by
    have := Nat.and_le_right (n := m ^^^ p) (m := m)
    rw [h1] at this
    exact this
  have h3 : m ^^^ p ≠ m := fun e => hp0 (by
    apply Nat.eq_of_testBit_eq
    intro k
    rw [Nat.zero_testBit]
    cases hk : p.testBit k
    · rfl
    · have hk : tb p k := hk
      have := (tb_xor hp k)
      rw [e] at this
      exact absurd hk (this.mp (tb_sub hp hk)).2)
  omega
end FO
set_option maxRecDepth 20000 in
set_option maxHeartbeats 2000000 in
theorem x_offer (hB : zB0 s) (hR : ∀ c0 x, zr (N c0 x)) {a : Nat → Int → Int} {rm : Int → Int} {ri : Int → Prop} {po : Nat → Prop} {K ps : Nat} (ha : ∀ k g, k < K → 0 ≤ g → g < 8 → 0 ≤ a k g ∧ a k g ≤ 104) (hK : N 25 2 = K) (hK6 : K ≤ 6) (hp : N 25 3 = ps) (hps : ps < 2 ^ K) (hpo : ∀ k, k < K → (tb ps k ↔ po k)) {g wl : Int} (hg : 0 ≤ g ∧ g < 8) (hask : ∀ k : Nat, k < K → N 27 k = a k g) (hrm : -100 ≤ rm g ∧ rm g ≤ 100) (hwl : wl = 0 ∨ wl = 1) (hwl2 : wl = 0 ↔ ¬ ri g) (hbest : ∀ m : Nat, m < 2 ^ K → bOK a rm ri po K g m (N 29 m)) (h : ∀ N1, (∀ c0 : Nat, c0 ≠ 28 → c0 ≠ 29 → N1 c0 = N c0) → (∀ m : Nat, m < 2 ^ K → bOK a rm ri po K (g + 1) m (N1 29 m)) → (∀ c0 x, zr (N1 c0 x)) → Q none (zI s N1)) : zC X m_X1_offer [.ref 25, vi g, vi (rm g), vi wl] (zI s N) Q := by
  have hp6 := pow6 (K := K) hK6
  show zE X m_X1_offer 0 [.ref 25, vi g, vi (rm g), vi wl, zU, zU] [] _ Q
  refine e_aload_n q_X1_offer_0 (by decide) rfl ?_
  refine e_iload_n q_X1_offer_1 (by decide) rfl ?_
  refine iv_X1_addUp q_X1_offer_2 lk_X1_32 (by decide) (a25 hB) (Nat.le_of_ble_eq_true rfl) ?_
  refine x_addUp hB hR hK hK6 hg (fun k hk => by rw [hask k hk]; exact ha k g hk hg.1 hg.2) (fun m => by rw [wI_wG hask m]; have := wSum_b ha hK6 (S := tb m) (f := fun _ => g) (fun k _ _ => ⟨hg.1, hg.2⟩); have e : wG a K g m = wSum a (tb m) (fun _ => g) K := rfl; constructor <;> omega) (fun N1 ha1 => ?_)
  refine e_aload_n q_X1_offer_5 (by decide) rfl ?_
  refine e_iload_n q_X1_offer_6 (by decide) rfl ?_
  refine e_iload_n q_X1_offer_7 (by decide) rfl ?_
  refine iv_X1_strikeOut q_X1_offer_8 lk_X1_36 (by decide) (a25 hB) (Nat.le_of_ble_eq_true rfl) ?_
  refine x_strikeOut hB ha1.2.2 ((congrFun (ha1.1 25 (by decide)) 2).trans hK) hK6 ((congrFun (ha1.1 25 (by decide)) 3).trans hp) hps hrm hwl (fun N2 hs0 => ?_)
  refine e_iconst q_X1_offer_11 ?_
  refine e_aload_n q_X1_offer_12 (by decide) rfl ?_
  refine i_getI (k' := 2) q_X1_offer_13 fl_X1_24 (a25 hB) rfl rfl rfl (((congrFun (hs0.1 25 (by decide)) 2).trans (congrFun (ha1.1 25 (by decide)) 2)).trans hK) ?_
  refine e_ishl q_X1_offer_16 (v := ((2 ^ K : Nat) : Int)) (bx_shl1 K (by omega)) ?_
  refine e_iconst q_X1_offer_17 ?_
  refine e_isub q_X1_offer_18 ?_
  refine e_istore (ls' := [_, _, _, _, _, _]) q_X1_offer_19 (by decide) rfl rfl ?_
  have hn2 : ∀ c0 : Nat, c0 ≠ 28 → N2 c0 = N c0 := fun c0 h1 => (hs0.1 c0 h1).trans (ha1.1 c0 h1)
  have hz2 := hs0.2.2.2
  have hs2 : ∀ q : Nat, 1 ≤ q → q < 2 ^ K → N2 28 q = zif (rm g < pcN q ∨ (wl = 0 ∧ q &&& ps = q)) IMP (wG a K g q) := fun q h1 h2 => by
    rw [hs0.2.1 q h1 h2, ha1.2.1 q h2, wI_wG hask q]
  refine zEe (ls := [.ref 25, vi g, vi (rm g), vi wl, vi ((2 ^ K - 1 - 0 : Nat) : Int), zU]) (σ := zI s N2) ?_ (by rw [show ((2 ^ K - 1 - 0 : Nat) : Int) = ((2 ^ K : Nat) : Int) - 1 by omega]) rfl
  refine z_for (P := fun i => ∀ (N3 : zN) (u5 : Value), ((∀ c0 : Nat, c0 ≠ 29 → N3 c0 = N2 c0) ∧ (∀ m : Nat, m < 2 ^ K → (2 ^ K - 1 - i < m → bOK a rm ri po K (g + 1) m (N3 29 m)) ∧ (m ≤ 2 ^ K - 1 - i → N3 29 m = N 29 m)) ∧ ∀ c0 x, zr (N3 c0 x)) → zE X m_X1_offer 21 [.ref 25, vi g, vi (rm g), vi wl, vi ((2 ^ K - 1 - i : Nat) : Int), u5] [] (zI s N3) Q) (2 ^ K - 1) (fun i hi ih N3 u5 hv => ?_) (fun N3 u5 hv => ?_) N2 zU ⟨fun _ _ => rfl, fun m2 h1 => ⟨fun h3 => by omega, fun _ => by rw [hn2 29 (by decide)]⟩, hz2⟩
  · skip
    refine e_iload q_X1_offer_21 (by decide) rfl ?_
    refine e_if_le q_X1_offer_23 (by constructor <;> omega) (fun c23 => ?_) (fun c23 => ?_)
    · skip
      exact absurd c23 (by omega)
    · skip
      refine e_iload q_X1_offer_26 (by decide) rfl ?_
      refine e_istore (ls' := [_, _, _, _, _, _]) q_X1_offer_28 (by decide) rfl rfl ?_
      generalize hmd : 2 ^ K - 1 - i = m at *
      obtain ⟨old, hold0⟩ : ∃ f : Nat → Int, ∀ q : Nat, f q = N 29 q := ⟨fun q => N 29 q, fun _ => rfl⟩
      obtain ⟨into, hinto0⟩ : ∃ f : Nat → Int, ∀ q : Nat, f q = N2 28 q := ⟨fun q => N2 28 q, fun _ => rfl⟩
      have hm2 : m < 2 ^ K := by omega
      have hm64 : m < 64 := by omega
      have hold : ∀ q, q &&& m = q → bOK a rm ri po K g q (old q) := fun q hq => by
        have : q ≤ m := by rw [← hq]; exact Nat.and_le_right
        rw [hold0]
        exact hbest q (by omega)
      have hinto : ∀ q, q &&& m = q → q ≠ 0 → (okP rm ri po K (tb q) g → into q = wG a K g q) ∧ (¬ okP rm ri po K (tb q) g → into q = IMP) := fun q hq hq0 => by
        have hqm : q ≤ m := by rw [← hq]; exact Nat.and_le_right
        have hb := bad_ok (rm := rm) (ri := ri) (po := po) (g := g) (wl := wl) (ps := ps) (m := q) hK6 (by omega) hwl2 hpo hps
        have hq2 := hs2 q (by omega) (by omega)
        refine ⟨fun r => ?_, fun r => ?_⟩
        · rw [zif_f (fun x => hb.mp x r)] at hq2
          rw [hinto0]; exact hq2
        · rw [zif_t (hb.mpr r)] at hq2
          rw [hinto0]; exact hq2
      have hstep : ∀ v, nBest old into m 0 v → bOK a rm ri po K (g + 1) m v := fun v hnb => dp_step ha hK6 hg hm2 hold hinto hnb
      have inner : ∀ n p : Nat, p ≤ n → p &&& m = p → ∀ v : Int, zr v → nBest old into m p v → zE X m_X1_offer 30 [.ref 25, vi g, vi (rm g), vi wl, vi ((m : Nat) : Int), vi ((p : Nat) : Int)] [] (zI s (mup N3 29 m v)) Q := by
        intro n
        induction n with
        | zero =>
          intro p hpn hpm v hzv hnb
          have hp0 : p = 0 := by omega
          subst hp0
          have hnb0 := hnb
          refine e_iload q_X1_offer_30 (by decide) rfl ?_
          refine e_if_le q_X1_offer_32 (by constructor <;> omega) (fun c32 => ?_) (fun c32 => ?_)
          · skip
            refine e_iinc (ls' := [_, _, _, _, _, _]) q_X1_offer_55 (by decide) rfl rfl rfl ?_
            refine e_goto q_X1_offer_58 ?_
            refine zEe (ls := [.ref 25, vi g, vi (rm g), vi wl, vi ((2 ^ K - 1 - (i + 1) : Nat) : Int), _]) (ih _ _ ⟨fun c0 h1 => by rw [mup_fn h1]; exact hv.1 c0 h1, fun m2 h1 => ⟨fun h3 => ?_, fun h3 => ?_⟩, zr_mup hv.2.2 hzv⟩) (by rw [show ((2 ^ K - 1 - (i + 1) : Nat) : Int) = ((m : Nat) : Int) + -1 by omega]) rfl
            · by_cases hq : m2 = m
              · rw [hq, mup_self]
                exact hstep v hnb0
              · rw [mup_slot (by omega)]
                exact (hv.2.1 m2 h1).1 (by omega)
            · rw [mup_slot (by omega)]
              exact (hv.2.1 m2 h1).2 (by omega)
          · skip
            exact absurd (by omega) c32
        | succ n ihn =>
          intro p hpn hpm v hzv hnb
          by_cases hp0 : p = 0
          · subst hp0
            have hnb0 := hnb
            refine e_iload q_X1_offer_30 (by decide) rfl ?_
            refine e_if_le q_X1_offer_32 (by constructor <;> omega) (fun c32 => ?_) (fun c32 => ?_)
            · skip
              refine e_iinc (ls' := [_, _, _, _, _, _]) q_X1_offer_55 (by decide) rfl rfl rfl ?_
              refine e_goto q_X1_offer_58 ?_
              refine zEe (ls := [.ref 25, vi g, vi (rm g), vi wl, vi ((2 ^ K - 1 - (i + 1) : Nat) : Int), _]) (ih _ _ ⟨fun c0 h1 => by rw [mup_fn h1]; exact hv.1 c0 h1, fun m2 h1 => ⟨fun h3 => ?_, fun h3 => ?_⟩, zr_mup hv.2.2 hzv⟩) (by rw [show ((2 ^ K - 1 - (i + 1) : Nat) : Int) = ((m : Nat) : Int) + -1 by omega]) rfl
              · by_cases hq : m2 = m
                · rw [hq, mup_self]
                  exact hstep v hnb0
                · rw [mup_slot (by omega)]
                  exact (hv.2.1 m2 h1).1 (by omega)
              · rw [mup_slot (by omega)]
                exact (hv.2.1 m2 h1).2 (by omega)
            · skip
              exact absurd (by omega) c32
          · have hxl := xor_lt hpm hp0
            have hpm2 : p ≤ m := by rw [← hpm]; exact Nat.and_le_right
            have hle : (p - 1) &&& m ≤ n := by
              have := Nat.and_le_left (n := p - 1) (m := m)
              omega
            have em : mup N3 29 m v 29 m = v := mup_self _ _ _ _
            have eo : mup N3 29 m v 29 ((m ^^^ p : Nat) : Int) = old (m ^^^ p) := by
              rw [mup_slot (by omega), hold0]
              exact (hv.2.1 (m ^^^ p) (by omega)).2 (by omega)
            have ei : mup N3 29 m v 28 p = into p := by
              rw [mup_cell (by decide), hv.1 28 (by decide), hinto0]
            have hsum : old (m ^^^ p) ≠ IMP → into p ≠ IMP → zr (old (m ^^^ p) + into p) := fun k1 k2 => by
              have h1 := (bOK_r ha hK6 (by omega) (hold (m ^^^ p) (and_of (fun k hk => ((tb_xor hpm k).mp hk).1)))).resolve_left k1
              have h2 : into p ≤ 170000000 ∧ 0 ≤ into p := by
                by_cases hok : okP rm ri po K (tb p) g
                · rw [(hinto p hpm hp0).1 hok]
                  have := wSum_b ha hK6 (S := tb p) (f := fun _ => g) (fun k _ _ => ⟨hg.1, hg.2⟩)
                  exact ⟨this.2, this.1⟩
                · exact absurd ((hinto p hpm hp0).2 hok) k2
              constructor <;> omega
            refine e_iload q_X1_offer_30 (by decide) rfl ?_
            refine e_if_le q_X1_offer_32 (by constructor <;> omega) (fun c32 => ?_) (fun c32 => ?_)
            · skip
              exact absurd c32 (by omega)
            · skip
              refine e_aload_n q_X1_offer_35 (by decide) rfl ?_
              refine e_iload q_X1_offer_36 (by decide) rfl ?_
              refine e_iload q_X1_offer_38 (by decide) rfl ?_
              refine iv_X1_improve q_X1_offer_40 lk_X1_40 (by decide) (a25 hB) (Nat.le_of_ble_eq_true rfl) ?_
              refine x_improve hB (N := mup N3 29 m v) (m := m) (q := p) (zr_mup hv.2.2 hzv) (by omega) (by omega) (by omega) (fun k1 k2 => by rw [eo, ei]; exact hsum (by rw [← eo]; exact k1) (by rw [← ei]; exact k2)) (fun k1 k2 => ?_) (fun k1 => ?_)
              · skip
                refine e_iload q_X1_offer_43 (by decide) rfl ?_
                refine e_iconst q_X1_offer_45 ?_
                refine e_isub q_X1_offer_46 ?_
                refine e_iload q_X1_offer_47 (by decide) rfl ?_
                refine e_iand q_X1_offer_49 (v := (((p - 1) &&& m : Nat) : Int)) (by rw [show (p : Int) - 1 = ((p - 1 : Nat) : Int) by omega]; exact bx_and (p - 1) m) ?_
                refine e_istore (ls' := [_, _, _, _, _, _]) q_X1_offer_50 (by decide) rfl rfl ?_
                refine e_goto q_X1_offer_52 ?_
                first
                | (have k1' : old (m ^^^ p) ≠ IMP := by rw [← eo]; exact k1
                   have k2' : into p ≠ IMP := by rw [← ei]; exact k2
                   refine zEe (ihn ((p - 1) &&& m) hle (sub_and _ _) (min v (old (m ^^^ p) + into p)) ?_ (nBest_s hm64 hpm hp0 hnb (fun _ _ => rfl) (fun q => absurd q (fun q => q.elim k1' k2')))) rfl ?_
                   · have := hsum k1' k2'
                     constructor <;> omega
                   · rw [mup_mup, em, eo, ei])
                | (have k1' : old (m ^^^ p) = IMP ∨ into p = IMP := by rw [← eo, ← ei]; exact k1
                   refine zEe (ihn ((p - 1) &&& m) hle (sub_and _ _) v hzv (nBest_s hm64 hpm hp0 hnb (fun q1 q2 => absurd k1' (fun q => q.elim q1 q2)) (fun _ => rfl))) rfl ?_
                   rw [mup_mup, em])
              · skip
                refine e_iload q_X1_offer_43 (by decide) rfl ?_
                refine e_iconst q_X1_offer_45 ?_
                refine e_isub q_X1_offer_46 ?_
                refine e_iload q_X1_offer_47 (by decide) rfl ?_
                refine e_iand q_X1_offer_49 (v := (((p - 1) &&& m : Nat) : Int)) (by rw [show (p : Int) - 1 = ((p - 1 : Nat) : Int) by omega]; exact bx_and (p - 1) m) ?_
                refine e_istore (ls' := [_, _, _, _, _, _]) q_X1_offer_50 (by decide) rfl rfl ?_
                refine e_goto q_X1_offer_52 ?_
                first
                | (have k1' : old (m ^^^ p) ≠ IMP := by rw [← eo]; exact k1
                   have k2' : into p ≠ IMP := by rw [← ei]; exact k2
                   refine zEe (ihn ((p - 1) &&& m) hle (sub_and _ _) (min v (old (m ^^^ p) + into p)) ?_ (nBest_s hm64 hpm hp0 hnb (fun _ _ => rfl) (fun q => absurd q (fun q => q.elim k1' k2')))) rfl ?_
                   · have := hsum k1' k2'
                     constructor <;> omega
                   · rw [mup_mup, em, eo, ei])
                | (have k1' : old (m ^^^ p) = IMP ∨ into p = IMP := by rw [← eo, ← ei]; exact k1
                   refine zEe (ihn ((p - 1) &&& m) hle (sub_and _ _) v hzv (nBest_s hm64 hpm hp0 hnb (fun q1 q2 => absurd k1' (fun q => q.elim q1 q2)) (fun _ => rfl))) rfl ?_
                   rw [mup_mup, em])
      exact zEe (inner m m (Nat.le_refl _) (Nat.and_self m) (old m) (by rw [hold0]; exact hR _ _) nBest_0) rfl (by rw [hold0, mup_id (by exact (hv.2.1 m hm2).2 (by omega))])
  · skip
    refine e_iload q_X1_offer_21 (by decide) rfl ?_
    refine e_if_le q_X1_offer_23 (by constructor <;> omega) (fun c23 => ?_) (fun c23 => ?_)
    · skip
      refine e_return q_X1_offer_61 rfl ?_
      refine h N3 (fun c0 h1 h2 => (hv.1 c0 h2).trans (hn2 c0 h1)) (fun m2 h1 => ?_) hv.2.2
      by_cases hq : m2 = 0
      · rw [hq, (hv.2.1 0 (by omega)).2 (by omega)]
        exact bOK_0 (hbest 0 (by omega))
      · exact (hv.2.1 m2 h1).1 (by omega)
    · skip
      exact absurd (by omega) c23
end FI4
