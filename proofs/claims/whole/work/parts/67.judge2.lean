/-! judging, the reference's side (printed by wip/whole/gen/r5.py) -/
section RT5
variable {X : zX} {s : zK} {N : zN} {σ : zS} {fa sa : Int → Int} {Q K : Option Value → zS → Prop} {c : Int}
set_option maxRecDepth 20000 in
set_option maxHeartbeats 2000000 in
theorem kr_isBrought (hB : zB0 s) (hR : ∀ (a : Nat) (j : Int), a ≠ 80 → a ≠ 81 → a ≠ 39 → zr (N a j)) {p : Int} (h0 : 0 ≤ p) (h1 : p < 20) (hp1 : 0 ≤ N 74 p ∧ N 74 p < 600) (hq : 0 ≤ N 49 (N 74 p) ∧ N 49 (N 74 p) ≤ 9999) (h : Q (some (vi (bi (brought N p)))) (zI s N)) : zC X m_X12_isBrought [.ref 39, vi p] (zI s N) Q := by
  show zE X m_X12_isBrought 0 [.ref 39, vi p, zU] [] _ Q
  refine e_aload_n q_X12_isBrought_0 (by decide) rfl ?_
  refine i_getC (r := 74) q_X12_isBrought_1 fl_X12_118 (a39 hB) rfl (by decide) ?_
  refine e_iload_n q_X12_isBrought_4 (by decide) rfl ?_
  refine i_iald q_X12_isBrought_5 (a74 hB) (cref0 (by decide)) (by first | omega | assumption) (by first | omega | assumption) (by decide) rfl ?_
  refine e_istore_n (ls' := [_, _, _]) q_X12_isBrought_6 (by decide) rfl rfl ?_
  refine e_aload_n q_X12_isBrought_7 (by decide) rfl ?_
  refine i_getC (r := 50) q_X12_isBrought_8 fl_X12_41 (a39 hB) rfl (by decide) ?_
  refine e_iload_n q_X12_isBrought_11 (by decide) rfl ?_
  refine i_iald q_X12_isBrought_12 (a50 hB) (cref0 (by decide)) (by first | omega | assumption) (by first | omega | assumption) (by decide) rfl ?_
  refine e_aload_n q_X12_isBrought_13 (by decide) rfl ?_
  refine i_getC (r := 49) q_X12_isBrought_14 fl_X12_38 (a39 hB) rfl (by decide) ?_
  refine e_iload_n q_X12_isBrought_17 (by decide) rfl ?_
  refine i_iald q_X12_isBrought_18 (a49 hB) (cref0 (by decide)) (by first | omega | assumption) (by first | omega | assumption) (by decide) rfl ?_
  refine e_bipush q_X12_isBrought_19 (by decide) ?_
  refine e_iadd q_X12_isBrought_21 ?_
  refine e_icmp_gt q_X12_isBrought_22 (by first | exact hR _ _ (by decide) (by decide) (by decide) | (constructor <;> omega) | assumption) (by first | exact hR _ _ (by decide) (by decide) (by decide) | (constructor <;> omega) | assumption) (fun c22 => ?_) (fun c22 => ?_)
  · skip
    refine e_iconst q_X12_isBrought_29 ?_
    refine e_ireturn q_X12_isBrought_30 rfl rfl ?_
    unfold brought at h
    first | exact zqT h (by omega) | exact zqF h (by omega)
  · skip
    refine e_iconst q_X12_isBrought_25 ?_
    refine e_goto q_X12_isBrought_26 ?_
    refine e_ireturn q_X12_isBrought_30 rfl rfl ?_
    unfold brought at h
    first | exact zqT h (by omega) | exact zqF h (by omega)
theorem jM_no {d : Int} {i : Nat} {N1 N2 : zN} (hd : ¬ duE N i d) (h : jM N d N1 i N2) : jM N d N1 (i + 1) N2 := by
  refine ⟨fun a x h1 h2 h3 => h.1 a x h1 h2 (fun p hp => h3 p (by omega)), fun p hp hq => ?_, ?_, h.2.2.2⟩
  · by_cases e : p = i
    · rw [e] at hq; exact absurd hq hd
    · exact h.2.1 p (by omega) hq
  · rw [lsJ, zif_f (fun q => hd q.1)]
    exact h.2.2.1
theorem jM_st {d : Int} {i : Nat} {N1 N2 N3 : zN} (hd : duE N i d) (h : jM N d N1 i N2)
    (h1 : ∀ (a : Nat) (x : Int), a ≠ 81 → ¬ (a = 39 ∧ x = 58) → ¬ ((a = 77 ∨ a = 78) ∧ x = i) → ¬ (a = 80 ∧ 48 * (i : Int) ≤ x ∧ x < 48 * (i : Int) + 48) → N3 a x = N2 a x) (h2 : N3 77 i = 1) (h3 : N3 78 i = bi (0 < aln N i)) (h4 : ∀ x : Int, 0 ≤ x → x < 48 → N3 80 (48 * (i : Int) + x) = N 80 (48 * (i : Int) + x) + zif (0 < aln N i) (adn N i (N 76 i) x) 0) (h5 : N3 39 58 = lsJ N d (i + 1)) (h6 : ∀ x : Int, zr (N3 81 x)) : jM N d N1 (i + 1) N3 := by
  refine ⟨fun a x g1 g2 g3 => ?_, fun p hp hq => ?_, h5, h6⟩
  · have q := g3 i (by omega) hd
    rw [h1 a x g1 g2 q.1 q.2]
    exact h.1 a x g1 g2 (fun p hp => g3 p (by omega))
  · by_cases e : p = i
    · rw [e]
      exact ⟨h2, h3, h4⟩
    · obtain ⟨q1, q2, q3⟩ := h.2.1 p (by omega) hq
      rw [h1 77 p (by omega) (by omega) (by omega) (by omega), h1 78 p (by omega) (by omega) (by omega) (by omega)]
      refine ⟨q1, q2, fun x x0 x1 => ?_⟩
      rw [h1 80 _ (by omega) (by omega) (by omega) (by omega)]
      exact q3 x x0 x1
theorem jM_R {d : Int} {i : Nat} {N1 N2 : zN} (hR : ∀ a j, zr (N1 a j)) (h : jM N d N1 i N2) : ∀ (a : Nat) (j : Int), a ≠ 80 → a ≠ 81 → a ≠ 39 → zr (N2 a j) := by
  intro a j h1 h2 h3
  by_cases hx : ∃ p : Nat, p < i ∧ duE N p d ∧ (a = 77 ∨ a = 78) ∧ j = p
  · obtain ⟨p, q1, q2, q3, q4⟩ := hx
    have := h.2.1 p q1 q2
    rw [q4]
    rcases q3 with q3 | q3
    · rw [q3, this.1]
      constructor <;> omega
    · rw [q3, this.2.1]
      have := bi_r (0 < aln N p)
      constructor <;> omega
  · rw [h.1 a j h2 (by omega) (fun p hp hq => ⟨fun q => hx ⟨p, hp, hq, q⟩, by omega⟩)]
    exact hR a j
set_option maxRecDepth 20000 in
set_option maxHeartbeats 2000000 in
theorem k_judge (hB : zB0 s) (hm : mI N) {N1 : zN} (hE : eM N N1) (hR1 : ∀ a j, zr (N1 a j)) {d : Int} (hd0 : zr d) (h1 : ¬ (0 ≤ d ∧ d ≤ 9999) → Q (some (vi (-1))) (zI s N1)) (h2 : 0 ≤ d ∧ d ≤ 9999 → ∀ N2, jM N d N1 (N 39 50).toNat N2 → Q (some (vi (cnt (fun p : Nat => duE N p d) (N 39 50).toNat))) (zI s N2)) : zC X m_X12_judge [.ref 39, vi d] (zI s N1) Q := by
  have hC := hm.2.1
  unfold mCnt at hC
  show zE X m_X12_judge 0 [.ref 39, vi d, zU, zU] [] _ Q
  refine e_iload_n q_X12_judge_0 (by decide) rfl ?_
  refine iv_X12_isDay q_X12_judge_1 lk_X12_181 (by decide) (Nat.le_of_ble_eq_true rfl) ?_
  refine k_isDay hd0 ?_
  refine e_ifb_ne q_X12_judge_4 (fun c4 => ?_) (fun c4 => ?_)
  · skip
    refine e_iconst q_X12_judge_9 ?_
    refine e_istore_n (ls' := [_, _, _, _]) q_X12_judge_10 (by decide) rfl rfl ?_
    refine e_iconst q_X12_judge_11 ?_
    refine e_istore_n (ls' := [_, _, _, _]) q_X12_judge_12 (by decide) rfl rfl ?_
    have hd : 0 ≤ d ∧ d ≤ 9999 := c4
    refine zEe (ls := [.ref 39, vi d, vi (cnt (fun p : Nat => duE N p d) 0), vi ((0 : Nat) : Int)]) (σ := zI s N1) ?_ rfl rfl
    refine z_for (P := fun i => ∀ (N2 : zN), (jM N d N1 i N2) → zE X m_X12_judge 13 [.ref 39, vi d, vi (cnt (fun p : Nat => duE N p d) i), vi (i : Int)] [] (zI s N2) Q) (N 39 50).toNat (fun i hi ih N2 hv => ?_) (fun N2 hv => ?_) N1 ⟨fun _ _ _ _ _ => rfl, fun p hp => by omega, hE.at 39 (by decide) (by decide) 58, fun x => hR1 _ _⟩
    · skip
      have hpl := hm.2.2.2.2.2.2 (i : Int) (by omega) (by omega)
      have hfl := hm.2.2.2.1 (N 74 i) hpl.1.1 hpl.1.2
      have hR2 := jM_R hR1 hv
      have key : ∀ (a : Nat) (x : Int), a ≠ 81 → a ≠ 80 → 39 ≤ a → a < 88 → ¬ (a = 39 ∧ x = 58) → ¬ (a = 77 ∨ a = 78) → N2 a x = N a x := fun a x h1 h2 h3 h4 h5 h6 => (hv.1 a x h1 h5 (fun p hp _ => ⟨fun q => h6 q.1, fun q => h2 q.1⟩)).trans (hE.at a h3 h4 x)
      have k77 : N2 77 i = N 77 i := (hv.1 77 i (by omega) (by omega) (fun p hp _ => ⟨by omega, by omega⟩)).trans (hE.at 77 (by decide) (by decide) _)
      have k74 : N2 74 i = N 74 i := key 74 _ (by decide) (by decide) (by decide) (by decide) (by omega) (by decide)
      have k49 : ∀ x, N2 49 x = N 49 x := fun x => key 49 _ (by decide) (by decide) (by decide) (by decide) (by omega) (by decide)
      have k50 : ∀ x, N2 50 x = N 50 x := fun x => key 50 _ (by decide) (by decide) (by decide) (by decide) (by omega) (by decide)
      have k76 : N2 76 i = N 76 i := key 76 _ (by decide) (by decide) (by decide) (by decide) (by omega) (by decide)
      have k50c : N2 39 50 = N 39 50 := key 39 _ (by decide) (by decide) (by decide) (by decide) (by omega) (by decide)
      have k2c : N2 39 2 = N 39 2 := key 39 _ (by decide) (by decide) (by decide) (by decide) (by omega) (by decide)
      have kbr : brought N2 i ↔ brought N i := by
        unfold brought
        rw [k74, k50, k49]
      refine e_iload_n q_X12_judge_13 (by decide) rfl ?_
      refine e_aload_n q_X12_judge_14 (by decide) rfl ?_
      refine i_getI (k' := 50) q_X12_judge_15 fl_X12_316 (a39 hB) rfl rfl rfl k50c ?_
      refine e_icmp_ge q_X12_judge_18 (by first | exact hR _ _ | (constructor <;> omega) | assumption) (by first | exact hR _ _ | (constructor <;> omega) | assumption) (fun c18 => ?_) (fun c18 => ?_)
      · skip
        exact absurd c18 (by omega)
      · skip
        refine e_aload_n q_X12_judge_21 (by decide) rfl ?_
        refine i_getC (r := 77) q_X12_judge_22 fl_X12_127 (a39 hB) rfl (by decide) ?_
        refine e_iload_n q_X12_judge_25 (by decide) rfl ?_
        refine i_zald q_X12_judge_26 (a77 hB) (cref0 (by decide)) (by first | omega | assumption) (by first | omega | assumption) (by decide) rfl ?_
        refine e_if_ne q_X12_judge_27 (hR2 _ _ (by decide) (by decide) (by decide)) (fun c27 => ?_) (fun c27 => ?_)
        · skip
          refine e_iinc (ls' := [_, _, _, _]) q_X12_judge_83 (by decide) rfl rfl rfl ?_
          refine e_goto q_X12_judge_86 ?_
          first
          | (have hn : ¬ duE N i d := fun q => by
               unfold duE at q
               first
               | (have q1 := q.1; rw [← k77] at q1; exact c27 q1) | exact q.2.1 (kbr.mp c35) | (have q3 := q.2.2; have q4 := c53; omega)
             refine zEe (ih N2 (jM_no hn hv)) (by rw [cnt_f' (p := fun p : Nat => duE N p d) hn]; rfl) rfl)
          | (have ha0 : aln N i = 0 := hall
             refine zEe (ih _ (jM_st hd1 hv (fun a0 x0 h1 h2 h3 h4 => ?_) ?_ ?_ (fun x0 h1 h2 => ?_) ?_ (fun x0 => ?_))) (by rw [cnt_t (p := fun p : Nat => duE N p d) hd1]; rfl) rfl
             · rw [mup_ne (fun q => h3 ⟨Or.inr q.1, q.2⟩), mup_ne h2, mup_ne (fun q => h3 ⟨Or.inl q.1, q.2⟩)]
             · rw [mup_cell (by decide), mup_cell (by decide), mup_self]
             · rw [mup_self, bi_f (by omega)]
             · rw [mup_cell (by decide), mup_cell (by decide), mup_cell (by decide), zif_f (by omega), Int.add_zero]
               exact (hv.1 80 _ (by decide) (by omega) (fun p hp _ => ⟨by omega, by omega⟩)).trans (hE.at 80 (by decide) (by decide) _)
             · rw [mup_cell (by decide), mup_self, mup_cell (by decide), lsJ, zif_t ⟨hd1, ha0⟩, hv.2.2.1]
             · rw [mup_cell (by decide), mup_cell (by decide), mup_cell (by decide)]
               exact hv.2.2.2 x0)
          | (have ha0 : 0 < aln N i := hall
             refine zEe (ih _ (jM_st hd1 hv (fun a0 x0 h1 h2 h3 h4 => ?_) ?_ ?_ (fun x0 h1 h2 => ?_) ?_ (fun x0 => ?_))) (by rw [cnt_t (p := fun p : Nat => duE N p d) hd1]; rfl) rfl
             · rw [mup_ne (fun q => h3 ⟨Or.inr q.1, q.2⟩)]
               by_cases h80 : a0 = 80
               · rw [h80, hv3.2.1 x0 (fun q => h4 ⟨h80, q⟩), mup_cell (by decide)]
               · rw [hv3.1 a0 h80 h1, mup_ne (fun q => h3 ⟨Or.inl q.1, q.2⟩)]
             · rw [mup_cell (by decide), hv3.1 77 (by decide) (by decide), mup_self]
             · rw [mup_self, bi_t ha0]
             · rw [mup_cell (by decide), hv3.2.2.1 x0 h1 h2, mup_cell (by decide), zif_t ha0, hv.1 80 _ (by decide) (by omega) (fun p hp _ => ⟨by omega, by omega⟩), hE.at 80 (by decide) (by decide)]
               rfl
             · rw [mup_cell (by decide), hv3.1 39 (by decide) (by decide), mup_cell (by decide), lsJ, zif_f (fun q => by have := q.2; omega)]
               exact hv.2.2.1
             · rw [mup_cell (by decide)]
               exact hv3.2.2.2 x0)
        · skip
          refine e_aload_n q_X12_judge_30 (by decide) rfl ?_
          refine e_iload_n q_X12_judge_31 (by decide) rfl ?_
          refine iv_X12_isBrought q_X12_judge_32 lk_X12_322 (by decide) (a39 hB) (Nat.le_of_ble_eq_true rfl) ?_
          refine kr_isBrought hB hR2 (by omega) (by omega) (by rw [k74]; omega) (by rw [k74, k49]; omega) ?_
          refine e_ifb_ne q_X12_judge_35 (fun c35 => ?_) (fun c35 => ?_)
          · skip
            refine e_iinc (ls' := [_, _, _, _]) q_X12_judge_83 (by decide) rfl rfl rfl ?_
            refine e_goto q_X12_judge_86 ?_
            first
            | (have hn : ¬ duE N i d := fun q => by
                 unfold duE at q
                 first
                 | (have q1 := q.1; rw [← k77] at q1; exact c27 q1) | exact q.2.1 (kbr.mp c35) | (have q3 := q.2.2; have q4 := c53; omega)
               refine zEe (ih N2 (jM_no hn hv)) (by rw [cnt_f' (p := fun p : Nat => duE N p d) hn]; rfl) rfl)
            | (have ha0 : aln N i = 0 := hall
               refine zEe (ih _ (jM_st hd1 hv (fun a0 x0 h1 h2 h3 h4 => ?_) ?_ ?_ (fun x0 h1 h2 => ?_) ?_ (fun x0 => ?_))) (by rw [cnt_t (p := fun p : Nat => duE N p d) hd1]; rfl) rfl
               · rw [mup_ne (fun q => h3 ⟨Or.inr q.1, q.2⟩), mup_ne h2, mup_ne (fun q => h3 ⟨Or.inl q.1, q.2⟩)]
               · rw [mup_cell (by decide), mup_cell (by decide), mup_self]
               · rw [mup_self, bi_f (by omega)]
               · rw [mup_cell (by decide), mup_cell (by decide), mup_cell (by decide), zif_f (by omega), Int.add_zero]
                 exact (hv.1 80 _ (by decide) (by omega) (fun p hp _ => ⟨by omega, by omega⟩)).trans (hE.at 80 (by decide) (by decide) _)
               · rw [mup_cell (by decide), mup_self, mup_cell (by decide), lsJ, zif_t ⟨hd1, ha0⟩, hv.2.2.1]
               · rw [mup_cell (by decide), mup_cell (by decide), mup_cell (by decide)]
                 exact hv.2.2.2 x0)
            | (have ha0 : 0 < aln N i := hall
               refine zEe (ih _ (jM_st hd1 hv (fun a0 x0 h1 h2 h3 h4 => ?_) ?_ ?_ (fun x0 h1 h2 => ?_) ?_ (fun x0 => ?_))) (by rw [cnt_t (p := fun p : Nat => duE N p d) hd1]; rfl) rfl
               · rw [mup_ne (fun q => h3 ⟨Or.inr q.1, q.2⟩)]
                 by_cases h80 : a0 = 80
                 · rw [h80, hv3.2.1 x0 (fun q => h4 ⟨h80, q⟩), mup_cell (by decide)]
                 · rw [hv3.1 a0 h80 h1, mup_ne (fun q => h3 ⟨Or.inl q.1, q.2⟩)]
               · rw [mup_cell (by decide), hv3.1 77 (by decide) (by decide), mup_self]
               · rw [mup_self, bi_t ha0]
               · rw [mup_cell (by decide), hv3.2.2.1 x0 h1 h2, mup_cell (by decide), zif_t ha0, hv.1 80 _ (by decide) (by omega) (fun p hp _ => ⟨by omega, by omega⟩), hE.at 80 (by decide) (by decide)]
                 rfl
               · rw [mup_cell (by decide), hv3.1 39 (by decide) (by decide), mup_cell (by decide), lsJ, zif_f (fun q => by have := q.2; omega)]
                 exact hv.2.2.1
               · rw [mup_cell (by decide)]
                 exact hv3.2.2.2 x0)
          · skip
            refine e_iload_n q_X12_judge_38 (by decide) rfl ?_
            refine e_aload_n q_X12_judge_39 (by decide) rfl ?_
            refine i_getC (r := 49) q_X12_judge_40 fl_X12_38 (a39 hB) rfl (by decide) ?_
            refine e_aload_n q_X12_judge_43 (by decide) rfl ?_
            refine i_getC (r := 74) q_X12_judge_44 fl_X12_118 (a39 hB) rfl (by decide) ?_
            refine e_iload_n q_X12_judge_47 (by decide) rfl ?_
            refine i_iald q_X12_judge_48 (a74 hB) (cref0 (by decide)) (by first | omega | assumption) (by first | omega | assumption) (by decide) k74 ?_
            refine i_iald q_X12_judge_49 (a49 hB) (cref0 (by decide)) (by first | omega | assumption) (by first | omega | assumption) (by decide) (k49 _) ?_
            refine e_bipush q_X12_judge_50 (by decide) ?_
            refine e_iadd q_X12_judge_52 ?_
            refine e_icmp_le q_X12_judge_53 (by first | exact hR _ _ | (constructor <;> omega) | assumption) (by first | exact hR _ _ | (constructor <;> omega) | assumption) (fun c53 => ?_) (fun c53 => ?_)
            · skip
              refine e_iinc (ls' := [_, _, _, _]) q_X12_judge_83 (by decide) rfl rfl rfl ?_
              refine e_goto q_X12_judge_86 ?_
              first
              | (have hn : ¬ duE N i d := fun q => by
                   unfold duE at q
                   first
                   | (have q1 := q.1; rw [← k77] at q1; exact c27 q1) | exact q.2.1 (kbr.mp c35) | (have q3 := q.2.2; have q4 := c53; omega)
                 refine zEe (ih N2 (jM_no hn hv)) (by rw [cnt_f' (p := fun p : Nat => duE N p d) hn]; rfl) rfl)
              | (have ha0 : aln N i = 0 := hall
                 refine zEe (ih _ (jM_st hd1 hv (fun a0 x0 h1 h2 h3 h4 => ?_) ?_ ?_ (fun x0 h1 h2 => ?_) ?_ (fun x0 => ?_))) (by rw [cnt_t (p := fun p : Nat => duE N p d) hd1]; rfl) rfl
                 · rw [mup_ne (fun q => h3 ⟨Or.inr q.1, q.2⟩), mup_ne h2, mup_ne (fun q => h3 ⟨Or.inl q.1, q.2⟩)]
                 · rw [mup_cell (by decide), mup_cell (by decide), mup_self]
                 · rw [mup_self, bi_f (by omega)]
                 · rw [mup_cell (by decide), mup_cell (by decide), mup_cell (by decide), zif_f (by omega), Int.add_zero]
                   exact (hv.1 80 _ (by decide) (by omega) (fun p hp _ => ⟨by omega, by omega⟩)).trans (hE.at 80 (by decide) (by decide) _)
                 · rw [mup_cell (by decide), mup_self, mup_cell (by decide), lsJ, zif_t ⟨hd1, ha0⟩, hv.2.2.1]
                 · rw [mup_cell (by decide), mup_cell (by decide), mup_cell (by decide)]
                   exact hv.2.2.2 x0)
              | (have ha0 : 0 < aln N i := hall
                 refine zEe (ih _ (jM_st hd1 hv (fun a0 x0 h1 h2 h3 h4 => ?_) ?_ ?_ (fun x0 h1 h2 => ?_) ?_ (fun x0 => ?_))) (by rw [cnt_t (p := fun p : Nat => duE N p d) hd1]; rfl) rfl
                 · rw [mup_ne (fun q => h3 ⟨Or.inr q.1, q.2⟩)]
                   by_cases h80 : a0 = 80
                   · rw [h80, hv3.2.1 x0 (fun q => h4 ⟨h80, q⟩), mup_cell (by decide)]
                   · rw [hv3.1 a0 h80 h1, mup_ne (fun q => h3 ⟨Or.inl q.1, q.2⟩)]
                 · rw [mup_cell (by decide), hv3.1 77 (by decide) (by decide), mup_self]
                 · rw [mup_self, bi_t ha0]
                 · rw [mup_cell (by decide), hv3.2.2.1 x0 h1 h2, mup_cell (by decide), zif_t ha0, hv.1 80 _ (by decide) (by omega) (fun p hp _ => ⟨by omega, by omega⟩), hE.at 80 (by decide) (by decide)]
                   rfl
                 · rw [mup_cell (by decide), hv3.1 39 (by decide) (by decide), mup_cell (by decide), lsJ, zif_f (fun q => by have := q.2; omega)]
                   exact hv.2.2.1
                 · rw [mup_cell (by decide)]
                   exact hv3.2.2.2 x0)
            · skip
              have c53 : N 49 (N 74 i) + 30 < d := by omega
              have c53 : N2 49 (N2 74 i) + 30 < d := by rw [k74, k49]; exact c53
              have eT : parts (mup N2 77 i 1) i = parts N i := by
                funext x
                unfold parts
                rw [mup_cell (by decide), mup_cell (by decide), key 79 _ (by decide) (by decide) (by decide) (by decide) (by omega) (by decide), key 47 _ (by decide) (by decide) (by decide) (by decide) (by omega) (by decide)]
              have eW : wgt (mup N2 77 i 1) = wgt N := by
                funext x
                unfold wgt
                rw [mup_cell (by decide), key 45 _ (by decide) (by decide) (by decide) (by decide) (by omega) (by decide)]
              have hRM : ∀ (a : Nat) (j : Int), a ≠ 80 → a ≠ 81 → a ≠ 39 → zr (mup N2 77 i 1 a j) := fun a j h1 h2 h3 => by
                by_cases hq : a = 77 ∧ j = i
                · rw [hq.1, hq.2, mup_self]
                  constructor <;> omega
                · rw [mup_ne hq]
                  exact hR2 a j h1 h2 h3
              have hd1 : duE N i d := ⟨by rw [← k77]; omega, fun q => c35 (kbr.mpr q), by have := c53; rw [k74, k49] at this; omega⟩
              refine e_aload_n q_X12_judge_56 (by decide) rfl ?_
              refine i_getC (r := 77) q_X12_judge_57 fl_X12_127 (a39 hB) rfl (by decide) ?_
              refine e_iload_n q_X12_judge_60 (by decide) rfl ?_
              refine e_iconst q_X12_judge_61 ?_
              refine i_zast q_X12_judge_62 (a77 hB) (cref0 (by decide)) (by first | omega | assumption) (by first | omega | assumption) (by decide) rfl ?_
              refine e_aload_n q_X12_judge_63 (by decide) rfl ?_
              refine i_getC (r := 78) q_X12_judge_64 fl_X12_130 (a39 hB) rfl (by decide) ?_
              refine e_iload_n q_X12_judge_67 (by decide) rfl ?_
              refine e_aload_n q_X12_judge_68 (by decide) rfl ?_
              refine e_iload_n q_X12_judge_69 (by decide) rfl ?_
              refine e_aload_n q_X12_judge_70 (by decide) rfl ?_
              refine i_getC (r := 76) q_X12_judge_71 fl_X12_124 (a39 hB) rfl (by decide) ?_
              refine e_iload_n q_X12_judge_74 (by decide) rfl ?_
              refine i_iald q_X12_judge_75 (a76 hB) (cref0 (by decide)) (by first | omega | assumption) (by first | omega | assumption) (by decide) ((mup_cell (by decide)).trans k76) ?_
              refine iv_X12_isPartedAmong q_X12_judge_76 lk_X12_334 (by decide) (a39 hB) (Nat.le_of_ble_eq_true rfl) ?_
              refine kr_isPartedAmong hB hRM (p := (i : Int)) (by omega) (P := (N 39 2).toNat) (by omega) (by rw [mup_cell (by decide), k2c]; omega) (am := N 76 i) (by omega) (fun x => by rw [mup_cell (by decide)]; exact hv.2.2.2 x) (fun hall => ?_) (fun hall N3 hv3 => ?_)
              · skip
                rw [eT, eW] at hall
                refine i_zast q_X12_judge_79 (a78 hB) (cref0 (by decide)) (by first | omega | assumption) (by first | omega | assumption) (by decide) rfl ?_
                refine e_iinc (ls' := [_, _, _, _]) q_X12_judge_80 (by decide) rfl rfl rfl ?_
                refine e_iinc (ls' := [_, _, _, _]) q_X12_judge_83 (by decide) rfl rfl rfl ?_
                refine e_goto q_X12_judge_86 ?_
                first
                | (have hn : ¬ duE N i d := fun q => by
                     unfold duE at q
                     first
                     | (have q1 := q.1; rw [← k77] at q1; exact c27 q1) | exact q.2.1 (kbr.mp c35) | (have q3 := q.2.2; have q4 := c53; omega)
                   refine zEe (ih N2 (jM_no hn hv)) (by rw [cnt_f' (p := fun p : Nat => duE N p d) hn]; rfl) rfl)
                | (have ha0 : aln N i = 0 := hall
                   refine zEe (ih _ (jM_st hd1 hv (fun a0 x0 h1 h2 h3 h4 => ?_) ?_ ?_ (fun x0 h1 h2 => ?_) ?_ (fun x0 => ?_))) (by rw [cnt_t (p := fun p : Nat => duE N p d) hd1]; rfl) rfl
                   · rw [mup_ne (fun q => h3 ⟨Or.inr q.1, q.2⟩), mup_ne h2, mup_ne (fun q => h3 ⟨Or.inl q.1, q.2⟩)]
                   · rw [mup_cell (by decide), mup_cell (by decide), mup_self]
                   · rw [mup_self, bi_f (by omega)]
                   · rw [mup_cell (by decide), mup_cell (by decide), mup_cell (by decide), zif_f (by omega), Int.add_zero]
                     exact (hv.1 80 _ (by decide) (by omega) (fun p hp _ => ⟨by omega, by omega⟩)).trans (hE.at 80 (by decide) (by decide) _)
                   · rw [mup_cell (by decide), mup_self, mup_cell (by decide), lsJ, zif_t ⟨hd1, ha0⟩, hv.2.2.1]
                   · rw [mup_cell (by decide), mup_cell (by decide), mup_cell (by decide)]
                     exact hv.2.2.2 x0)
                | (have ha0 : 0 < aln N i := hall
                   refine zEe (ih _ (jM_st hd1 hv (fun a0 x0 h1 h2 h3 h4 => ?_) ?_ ?_ (fun x0 h1 h2 => ?_) ?_ (fun x0 => ?_))) (by rw [cnt_t (p := fun p : Nat => duE N p d) hd1]; rfl) rfl
                   · rw [mup_ne (fun q => h3 ⟨Or.inr q.1, q.2⟩)]
                     by_cases h80 : a0 = 80
                     · rw [h80, hv3.2.1 x0 (fun q => h4 ⟨h80, q⟩), mup_cell (by decide)]
                     · rw [hv3.1 a0 h80 h1, mup_ne (fun q => h3 ⟨Or.inl q.1, q.2⟩)]
                   · rw [mup_cell (by decide), hv3.1 77 (by decide) (by decide), mup_self]
                   · rw [mup_self, bi_t ha0]
                   · rw [mup_cell (by decide), hv3.2.2.1 x0 h1 h2, mup_cell (by decide), zif_t ha0, hv.1 80 _ (by decide) (by omega) (fun p hp _ => ⟨by omega, by omega⟩), hE.at 80 (by decide) (by decide)]
                     rfl
                   · rw [mup_cell (by decide), hv3.1 39 (by decide) (by decide), mup_cell (by decide), lsJ, zif_f (fun q => by have := q.2; omega)]
                     exact hv.2.2.1
                   · rw [mup_cell (by decide)]
                     exact hv3.2.2.2 x0)
              · skip
                rw [eT, eW] at hall hv3
                refine i_zast q_X12_judge_79 (a78 hB) (cref0 (by decide)) (by first | omega | assumption) (by first | omega | assumption) (by decide) rfl ?_
                refine e_iinc (ls' := [_, _, _, _]) q_X12_judge_80 (by decide) rfl rfl rfl ?_
                refine e_iinc (ls' := [_, _, _, _]) q_X12_judge_83 (by decide) rfl rfl rfl ?_
                refine e_goto q_X12_judge_86 ?_
                first
                | (have hn : ¬ duE N i d := fun q => by
                     unfold duE at q
                     first
                     | (have q1 := q.1; rw [← k77] at q1; exact c27 q1) | exact q.2.1 (kbr.mp c35) | (have q3 := q.2.2; have q4 := c53; omega)
                   refine zEe (ih N2 (jM_no hn hv)) (by rw [cnt_f' (p := fun p : Nat => duE N p d) hn]; rfl) rfl)
                | (have ha0 : aln N i = 0 := hall
                   refine zEe (ih _ (jM_st hd1 hv (fun a0 x0 h1 h2 h3 h4 => ?_) ?_ ?_ (fun x0 h1 h2 => ?_) ?_ (fun x0 => ?_))) (by rw [cnt_t (p := fun p : Nat => duE N p d) hd1]; rfl) rfl
                   · rw [mup_ne (fun q => h3 ⟨Or.inr q.1, q.2⟩), mup_ne h2, mup_ne (fun q => h3 ⟨Or.inl q.1, q.2⟩)]
                   · rw [mup_cell (by decide), mup_cell (by decide), mup_self]
                   · rw [mup_self, bi_f (by omega)]
                   · rw [mup_cell (by decide), mup_cell (by decide), mup_cell (by decide), zif_f (by omega), Int.add_zero]
                     exact (hv.1 80 _ (by decide) (by omega) (fun p hp _ => ⟨by omega, by omega⟩)).trans (hE.at 80 (by decide) (by decide) _)
                   · rw [mup_cell (by decide), mup_self, mup_cell (by decide), lsJ, zif_t ⟨hd1, ha0⟩, hv.2.2.1]
                   · rw [mup_cell (by decide), mup_cell (by decide), mup_cell (by decide)]
                     exact hv.2.2.2 x0)
                | (have ha0 : 0 < aln N i := hall
                   refine zEe (ih _ (jM_st hd1 hv (fun a0 x0 h1 h2 h3 h4 => ?_) ?_ ?_ (fun x0 h1 h2 => ?_) ?_ (fun x0 => ?_))) (by rw [cnt_t (p := fun p : Nat => duE N p d) hd1]; rfl) rfl
                   · rw [mup_ne (fun q => h3 ⟨Or.inr q.1, q.2⟩)]
                     by_cases h80 : a0 = 80
                     · rw [h80, hv3.2.1 x0 (fun q => h4 ⟨h80, q⟩), mup_cell (by decide)]
                     · rw [hv3.1 a0 h80 h1, mup_ne (fun q => h3 ⟨Or.inl q.1, q.2⟩)]
                   · rw [mup_cell (by decide), hv3.1 77 (by decide) (by decide), mup_self]
                   · rw [mup_self, bi_t ha0]
                   · rw [mup_cell (by decide), hv3.2.2.1 x0 h1 h2, mup_cell (by decide), zif_t ha0, hv.1 80 _ (by decide) (by omega) (fun p hp _ => ⟨by omega, by omega⟩), hE.at 80 (by decide) (by decide)]
                     rfl
                   · rw [mup_cell (by decide), hv3.1 39 (by decide) (by decide), mup_cell (by decide), lsJ, zif_f (fun q => by have := q.2; omega)]
                     exact hv.2.2.1
                   · rw [mup_cell (by decide)]
                     exact hv3.2.2.2 x0)
    · skip
      have k50c : N2 39 50 = N 39 50 := (hv.1 39 50 (by decide) (by omega) (fun p hp _ => ⟨by omega, by omega⟩)).trans (hE.at 39 (by decide) (by decide) _)
      refine e_iload_n q_X12_judge_13 (by decide) rfl ?_
      refine e_aload_n q_X12_judge_14 (by decide) rfl ?_
      refine i_getI (k' := 50) q_X12_judge_15 fl_X12_316 (a39 hB) rfl rfl rfl k50c ?_
      refine e_icmp_ge q_X12_judge_18 (by first | exact hR _ _ | (constructor <;> omega) | assumption) (by first | exact hR _ _ | (constructor <;> omega) | assumption) (fun c18 => ?_) (fun c18 => ?_)
      · skip
        refine e_iload_n q_X12_judge_89 (by decide) rfl ?_
        refine e_ireturn q_X12_judge_90 rfl rfl ?_
        exact h2 hd N2 hv
      · skip
        exact absurd (by omega) c18
  · skip
    refine e_iconst q_X12_judge_7 ?_
    refine e_ireturn q_X12_judge_8 rfl rfl ?_
    exact h1 c4
end RT5
