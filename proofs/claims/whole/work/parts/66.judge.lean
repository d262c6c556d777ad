/-! judging, the system's side (printed by wip/whole/gen/r4.py) -/
section RT4
variable {X : zX} {s : zK} {N : zN} {σ : zS} {fa sa : Int → Int} {Q K : Option Value → zS → Prop} {c : Int}
/-! judging -/
def duE (N : zN) (p d : Int) : Prop := N 77 p = 0 ∧ ¬ brought N p ∧ N 49 (N 74 p) + 30 < d
noncomputable def aln (N : zN) (p : Int) : Int := pallK (parts N p) (wgt N) (N 39 2).toNat
noncomputable def adn (N : zN) (p am x : Int) : Int := padd (parts N p) (wgt N) (N 39 2).toNat am x
noncomputable def lsJ (N : zN) (d : Int) : Nat → Int
  | 0 => N 39 58
  | n + 1 => zif (duE N n d ∧ aln N n = 0) (w32 (lsJ N d n + N 76 n)) (lsJ N d n)
def lA (N : zN) (p : Int) : Nat := (N 11 p).toNat
def lC (N : zN) (p : Int) : Nat := (N (lA N p) 5).toNat
theorem aln_0 (N : zN) (p : Int) : 0 ≤ aln N p := (pallK_b (wgt_w N) _).1
def jS (N : zN) (d : Int) (i : Nat) (N1 : zN) : Prop :=
  (∀ (a : Nat) (x : Int), a ≠ 30 → ¬ (a = 3 ∧ x = 11) → (∀ p : Nat, p < i → duE N p d → ¬ (a = lA N p ∧ (x = 7 ∨ x = 8)) ∧ a ≠ lC N p) → N1 a x = N a x) ∧
  (∀ p : Nat, p < i → duE N p d → N1 (lA N p) 7 = 1 ∧ N1 (lA N p) 8 = bi (0 < aln N p) ∧ ∀ x : Int, N1 (lC N p) x = N (lC N p) x + zif (0 < aln N p) (adn N p (N 76 p) x) 0) ∧
  N1 3 11 = lsJ N d i ∧ ∀ x : Int, zr (N1 30 x)
def jM (N : zN) (d : Int) (N1 : zN) (i : Nat) (N2 : zN) : Prop :=
  (∀ (a : Nat) (x : Int), a ≠ 81 → ¬ (a = 39 ∧ x = 58) → (∀ p : Nat, p < i → duE N p d → ¬ ((a = 77 ∨ a = 78) ∧ x = p) ∧ ¬ (a = 80 ∧ 48 * (p : Int) ≤ x ∧ x < 48 * (p : Int) + 48)) → N2 a x = N1 a x) ∧
  (∀ p : Nat, p < i → duE N p d → N2 77 p = 1 ∧ N2 78 p = bi (0 < aln N p) ∧ ∀ x : Int, 0 ≤ x → x < 48 → N2 80 (48 * (p : Int) + x) = N 80 (48 * (p : Int) + x) + zif (0 < aln N p) (adn N p (N 76 p) x) 0) ∧
  N2 39 58 = lsJ N d i ∧ ∀ x : Int, zr (N2 81 x)
theorem lA_p {p : Int} {a b e : Nat} (h : xPle s N fa p a b e) : lA N p = a ∧ lC N p = e := by
  have e1 : lA N p = a := by unfold lA; rw [h.2.2.1]; rfl
  refine ⟨e1, ?_⟩
  unfold lC
  rw [e1, h.2.2.2.2.2.2.2.2.1]
  rfl
theorem xPle_v {p : Int} {a b e : Nat} (hR : ∀ a j, zr (N a j)) (h : xPle s N fa p a b e) : lvw s N a b e := ⟨h.1, h.2.1, h.2.2.2.2.2.2.2.1, h.2.2.2.2.2.2.2.2.1, h.2.2.2.2.2.2.2.2.2.2.2.2.1, h.2.2.2.2.2.2.2.2.2.2.2.2.2.1, h.2.2.2.2.2.2.2.2.2.2.2.2.2.2.1, h.2.2.2.2.2.2.2.2.2.2.2.2.2.2.2.1, fun x => hR _ _⟩
theorem xPs_v (hI : xI s N fa sa) : pvw s N (N 39 2).toNat (wgt N) (fun x => N 47 x = 100000) := by
  intro i h0 h1
  have hC := hI.C
  unfold mCnt at hC
  obtain ⟨a, ha⟩ := hI.ps.1 i h0 (by omega)
  have hpp := hI.m.2.2.1 i h0 (by omega)
  obtain ⟨p88, pA, p5, p0, p1, p2, p3, p4, p5f, p6, p7, p8, p9⟩ := ha
  refine ⟨a, p88, pA, p5, ?_, ?_, hI.R _ _⟩
  · rw [p4]
    unfold wgt
    rcases hpp.2.2.2.2.1 with q | q
    · rw [q, if_pos rfl]; omega
    · rw [q, if_neg (by omega)]; omega
  · constructor
    · intro q; omega
    · intro q; omega
theorem fvw_of (hI : xI s N fa sa) {p : Int} {a b e : Nat} (h0 : 0 ≤ p) (h1 : p < N 39 50) (h : xPle s N fa p a b e) : ∃ f : Nat, fvw s N a f ∧ N f 0 = N 49 (N 74 p) ∧ ((N 50 (N 74 p) = 100000 ∧ N f 2 = -1) ∨ (N 50 (N 74 p) ≠ 100000 ∧ N f 2 = N 50 (N 74 p))) ∧ (0 ≤ N 49 (N 74 p) ∧ N 49 (N 74 p) ≤ 9999) ∧ N 49 (N 74 p) < N 50 (N 74 p) := by
  have hp := hI.m.2.2.2.2.2.2 p h0 h1
  obtain ⟨f, hf⟩ := hI.fs.1 (N 74 p) hp.1.1 hp.1.2
  have hq := hI.m.2.2.2.1 (N 74 p) hp.1.1 hp.1.2
  obtain ⟨f88, fA, ff, f0, f1, f2⟩ := hf
  refine ⟨f, ⟨h.1, h.2.1, by rw [h.2.2.2.2.1]; exact ff, f88, fA, by omega, by omega⟩, f0, f2, by omega, by omega⟩
theorem jS_no {d : Int} {i : Nat} {N1 : zN} (hd : ¬ duE N i d) (h : jS N d i N1) : jS N d (i + 1) N1 := by
  refine ⟨fun a x h1 h2 h3 => h.1 a x h1 h2 (fun p hp => h3 p (by omega)), fun p hp hq => ?_, ?_, h.2.2.2⟩
  · by_cases e : p = i
    · rw [e] at hq; exact absurd hq hd
    · exact h.2.1 p (by omega) hq
  · rw [lsJ, zif_f (fun q => hd q.1)]
    exact h.2.2.1
/-- what a due plea gets -/
theorem jS_st {d : Int} {i : Nat} {N1 N3 : zN} {A C : Nat} (hA : lA N i = A) (hC : lC N i = C) (hAC : A ≠ C) (hA3 : 88 ≤ A) (hC3 : 88 ≤ C) (hne : ∀ p : Nat, p < i → lA N p ≠ A ∧ lC N p ≠ C ∧ lA N p ≠ C ∧ lC N p ≠ A) (hd : duE N i d) (h : jS N d i N1)
    (h1 : ∀ (a : Nat) (x : Int), a ≠ 30 → ¬ (a = 3 ∧ x = 11) → ¬ (a = A ∧ (x = 7 ∨ x = 8)) → a ≠ C → N3 a x = N1 a x) (h2 : N3 A 7 = 1) (h3 : N3 A 8 = bi (0 < aln N i)) (h4 : ∀ x : Int, N3 C x = N C x + zif (0 < aln N i) (adn N i (N 76 i) x) 0) (h5 : N3 3 11 = lsJ N d (i + 1)) (h6 : ∀ x : Int, zr (N3 30 x)) (h7 : ∀ p : Nat, p < i → 88 ≤ lA N p ∧ 88 ≤ lC N p) : jS N d (i + 1) N3 := by
  refine ⟨fun a x g1 g2 g3 => ?_, fun p hp hq => ?_, h5, h6⟩
  · have q := g3 i (by omega) hd
    rw [hA, hC] at q
    rw [h1 a x g1 g2 q.1 q.2]
    exact h.1 a x g1 g2 (fun p hp => g3 p (by omega))
  · by_cases e : p = i
    · rw [e, hA, hC]
      exact ⟨h2, h3, h4⟩
    · have hn := hne p (by omega)
      have h88 := h7 p (by omega)
      obtain ⟨q1, q2, q3⟩ := h.2.1 p (by omega) hq
      rw [h1 _ _ (by omega) (by omega) (fun q => hn.1 q.1) hn.2.2.1, h1 _ _ (by omega) (by omega) (fun q => hn.1 q.1) hn.2.2.1]
      refine ⟨q1, q2, fun x => ?_⟩
      rw [h1 _ _ (by omega) (by omega) (fun q => hn.2.2.2 q.1) hn.2.1]
      exact q3 x
set_option maxRecDepth 20000 in
set_option maxHeartbeats 2000000 in
theorem x_judge (hI : xI s N fa sa) {d : Int} (hd0 : zr d) (h1 : ¬ (0 ≤ d ∧ d ≤ 9999) → Q (some (vi (-1))) (zI s N)) (h2 : 0 ≤ d ∧ d ≤ 9999 → ∀ N1, jS N d (N 39 50).toNat N1 → Q (some (vi (cnt (fun p : Nat => duE N p d) (N 39 50).toNat))) (zI s N1)) : zC X m_X11_judge [.ref 3, vi d] (zI s N) Q := by
  have hB := hI.B
  have hR := hI.R
  have hC := hI.C
  unfold mCnt at hC
  have hm := hI.m
  obtain ⟨e1, e5, e7, e8, e10, e11, e3, e12, eh, eg, ef, et⟩ := hI.hs
  show zE X m_X11_judge 0 [.ref 3, vi d, zU, zU, zU] [] _ Q
  refine e_iload_n q_X11_judge_0 (by decide) rfl ?_
  refine iv_X11_isDay q_X11_judge_1 lk_X11_140 (by decide) (Nat.le_of_ble_eq_true rfl) ?_
  refine x_isDay hd0 ?_
  refine e_ifb_ne q_X11_judge_4 (fun c4 => ?_) (fun c4 => ?_)
  · skip
    refine e_iconst q_X11_judge_9 ?_
    refine e_istore_n (ls' := [_, _, _, _, _]) q_X11_judge_10 (by decide) rfl rfl ?_
    refine e_iconst q_X11_judge_11 ?_
    refine e_istore_n (ls' := [_, _, _, _, _]) q_X11_judge_12 (by decide) rfl rfl ?_
    have hd : 0 ≤ d ∧ d ≤ 9999 := c4
    refine zEe (ls := [.ref 3, vi d, vi (cnt (fun p : Nat => duE N p d) 0), vi ((0 : Nat) : Int), zU]) (σ := zI s N) ?_ rfl rfl
    refine z_for (P := fun i => ∀ (N1 : zN) (u4 : Value), (jS N d i N1) → zE X m_X11_judge 13 [.ref 3, vi d, vi (cnt (fun p : Nat => duE N p d) i), vi (i : Int), u4] [] (zI s N1) Q) (N 39 50).toNat (fun i hi ih N1 u4 hv => ?_) (fun N1 u4 hv => ?_) N zU ⟨fun _ _ _ _ _ => rfl, fun p hp => by omega, by rw [e11]; rfl, fun x => hR _ _⟩
    · skip
      have h310 : N1 3 10 = N 39 50 := (hv.1 3 10 (by decide) (by omega) (fun p hp _ => by
        obtain ⟨a2, b2, e2, hl2⟩ := hI.ls.1 (p : Int) (by omega) (by omega)
        rw [(lA_p hl2).1, (lA_p hl2).2]
        have := hl2.1
        have := hl2.2.2.2.2.2.2.2.2.2.2.2.2.2.2.1
        omega)).trans e10
      refine e_iload_n q_X11_judge_13 (by decide) rfl ?_
      refine e_aload_n q_X11_judge_14 (by decide) rfl ?_
      refine i_getI (k' := 10) q_X11_judge_15 fl_X11_294 (a3 hB) rfl rfl rfl h310 ?_
      refine e_icmp_ge q_X11_judge_18 (by first | exact hR _ _ | (constructor <;> omega) | assumption) (by first | exact hR _ _ | (constructor <;> omega) | assumption) (fun c18 => ?_) (fun c18 => ?_)
      · skip
        exact absurd c18 (by omega)
      · skip
        refine e_aload_n q_X11_judge_21 (by decide) rfl ?_
        refine i_getC (r := 11) q_X11_judge_22 fl_X11_37 (a3 hB) rfl (by decide) ?_
        refine e_iload_n q_X11_judge_25 (by decide) rfl ?_
        obtain ⟨a, b, e, hl⟩ := hI.ls.1 (i : Int) (by omega) (by omega)
        have hAC := lA_p hl
        have hvl := xPle_v hI.R hl
        obtain ⟨f, hfv, hf0, hf2, hf3, hf4⟩ := fvw_of hI (by omega) (by omega) hl
        obtain ⟨l88, lA', l11, l0, l1, l2, l3, l4, l5, l6, l7, l8, lb88, lbA, lc88, lcA, lrow⟩ := id hl
        have hpl := hI.m.2.2.2.2.2.2 (i : Int) (by omega) (by omega)
        have hne : ∀ p : Nat, p < i → (lA N p ≠ a ∧ lC N p ≠ e ∧ lA N p ≠ e ∧ lC N p ≠ a) ∧ 88 ≤ lA N p ∧ 88 ≤ lC N p ∧ lA N p ≠ f ∧ lC N p ≠ f ∧ lA N p ≠ b ∧ lC N p ≠ b ∧ (s.2 (lA N p)).1 = 5 ∧ (s.2 (lC N p)).1 = 20 := by
          intro p hp
          obtain ⟨a2, b2, e2, hl2⟩ := hI.ls.1 (p : Int) (by omega) (by omega)
          have hAC2 := lA_p hl2
          rw [hAC2.1, hAC2.2]
          have k1 := hl2.2.1
          have k2 := hl2.2.2.2.2.2.2.2.2.2.2.2.2.2.2.2.1
          refine ⟨⟨fun q => ?_, fun q => ?_, k1.ne lcA (by decide), k2.ne lA' (by decide)⟩, hl2.1, hl2.2.2.2.2.2.2.2.2.2.2.2.2.2.2.1, k1.ne hfv.2.2.2.2.1 (by decide), k2.ne hfv.2.2.2.2.1 (by decide), k1.ne lbA (by decide), k2.ne lbA (by decide), by rw [k1.2.2], by rw [k2.2.2]⟩
          · have := hI.ls.2 p i (by omega) (by omega) (by omega) (by omega) (Or.inl (by rw [hl2.2.2.1, l11, q]))
            omega
          · have := hI.ls.2 p i (by omega) (by omega) (by omega) (by omega) (Or.inr (Or.inr (by
              show N (lA N p) 5 = N (lA N i) 5
              rw [hAC2.1, hAC.1, l5, hl2.2.2.2.2.2.2.2.2.1, q])))
            omega
        have hlow : ∀ (x0 : Nat) (y0 : Int), x0 < 88 → x0 ≠ 30 → ¬ (x0 = 3 ∧ y0 = 11) → N1 x0 y0 = N x0 y0 := fun x0 y0 h1 h2 h3 => hv.1 x0 y0 h2 h3 (fun p hp _ => by have := hne p hp; omega)
        have hsm : ∀ (x0 : Nat) (y0 : Int), 88 ≤ x0 → (∀ p : Nat, p < i → lA N p ≠ x0 ∧ lC N p ≠ x0) → N1 x0 y0 = N x0 y0 := fun x0 y0 h1 h2 => hv.1 x0 y0 (by omega) (by omega) (fun p hp _ => by have := h2 p hp; omega)
        have ea : ∀ y0, N1 a y0 = N a y0 := fun y0 => hsm a y0 l88 (fun p hp => by have := hne p hp; omega)
        have eb : ∀ y0, N1 b y0 = N b y0 := fun y0 => hsm b y0 lb88 (fun p hp => by have := hne p hp; omega)
        have ee : ∀ y0, N1 e y0 = N e y0 := fun y0 => hsm e y0 lc88 (fun p hp => by have := hne p hp; omega)
        have ef : ∀ y0, N1 f y0 = N f y0 := fun y0 => hsm f y0 hfv.2.2.2.1 (fun p hp => by have := hne p hp; omega)
        have hfv1 : fvw s N1 a f := by
          unfold fvw
          rw [ea 1, ef 0, ef 2]
          exact hfv
        have hdue : (N1 a 7 = 0 ∧ ¬ (N1 f 2 ≠ -1 ∧ N1 f 2 - N1 f 0 ≤ 30) ∧ N1 f 0 + 30 < d) ↔ duE N i d := by
          unfold duE brought
          rw [ea 7, ef 0, ef 2, l7, hf0]
          constructor <;> intro q <;> refine ⟨q.1, ?_, q.2.2⟩ <;> intro q2 <;> apply q.2.1 <;> omega
        have l88A : zA s a (5, 0) := lA'
        refine i_aald q_X11_judge_26 (a11 hB) (by decide) (fun _ => rfl) (by omega) (by omega) (by decide) ((hlow 11 i (by omega) (by omega) (by omega)).trans l11) (by omega) ?_
        refine e_astore (ls' := [_, _, _, _, _]) q_X11_judge_27 (by decide) rfl rfl ?_
        refine e_aload q_X11_judge_29 (by decide) rfl ?_
        refine e_iload_n q_X11_judge_31 (by decide) rfl ?_
        refine iv_X5_isDueOn q_X11_judge_32 lk_X11_320 (by decide) l88A (Nat.le_of_ble_eq_true rfl) ?_
        refine xr_isDueOn hfv1 (by rw [ea 7, l7]; exact hpl.2.2.2.1) hd ?_
        refine e_ifb_eq q_X11_judge_35 (fun c35 => ?_) (fun c35 => ?_)
        · skip
          refine e_iinc (ls' := [_, _, _, _, _]) q_X11_judge_63 (by decide) rfl rfl rfl ?_
          refine e_goto q_X11_judge_66 ?_
          first
          | (refine zEe (ih N1 _ (jS_no (fun q => c35 (hdue.mpr q)) hv)) (by rw [cnt_f' (p := fun p : Nat => duE N p d) (fun q => c35 (hdue.mpr q))]; rfl) rfl)
          | (have hd1 := hdue.mp c35
             have hne2 : ∀ p : Nat, p < i → lA N p ≠ a ∧ lC N p ≠ e ∧ lA N p ≠ e ∧ lC N p ≠ a := fun p hp => (hne p hp).1
             have hae : a ≠ e := l88A.ne lcA (by decide)
             have ha0 : 0 < aln N i := hall
             refine zEe (ih _ _ (jS_st hAC.1 hAC.2 hae l88 lc88 hne2 hd1 hv (fun a0 x0 h1 h2 h3 h4 => ?_) ?_ ?_ (fun x0 => ?_) ?_ (fun x0 => ?_) (fun p hp => ⟨(hne p hp).2.1, (hne p hp).2.2.1⟩))) (by rw [cnt_t (p := fun p : Nat => duE N p d) hd1]; rfl) rfl
             · rw [mup_ne (fun q => h3 ⟨q.1, Or.inr q.2⟩), hv3.1 a0 h4 h1, mup_ne (fun q => h3 ⟨q.1, Or.inl q.2⟩)]
             · rw [mup_slot (by decide), hv3.1 a hae (by omega), mup_self]
             · rw [mup_self, bi_t ha0]
             · rw [mup_cell (by omega), hv3.2.1 x0, mup_cell (by omega), ee, zif_t ha0]
               rfl
             · rw [mup_cell (by omega), hv3.1 3 (by omega) (by omega), mup_cell (by omega), lsJ, zif_f (fun q => by have := q.2; omega)]
               exact hv.2.2.1
             · rw [mup_cell (by omega)]
               exact hv3.2.2 x0)
          | (have hd1 := hdue.mp c35
             have hne2 : ∀ p : Nat, p < i → lA N p ≠ a ∧ lC N p ≠ e ∧ lA N p ≠ e ∧ lC N p ≠ a := fun p hp => (hne p hp).1
             have hae : a ≠ e := l88A.ne lcA (by decide)
             have ha0 : aln N i = 0 := hall
             refine zEe (ih _ _ (jS_st hAC.1 hAC.2 hae l88 lc88 hne2 hd1 hv (fun a0 x0 h1 h2 h3 h4 => ?_) ?_ ?_ (fun x0 => ?_) ?_ (fun x0 => ?_) (fun p hp => ⟨(hne p hp).2.1, (hne p hp).2.2.1⟩))) (by rw [cnt_t (p := fun p : Nat => duE N p d) hd1]; rfl) rfl
             · rw [mup_ne (fun q => h3 ⟨q.1, Or.inr q.2⟩), mup_ne h2, mup_ne (fun q => h3 ⟨q.1, Or.inl q.2⟩)]
             · rw [mup_slot (by decide), mup_cell (by omega), mup_self]
             · rw [mup_self, bi_f (by omega)]
             · rw [mup_cell (by omega), mup_cell (by omega), mup_cell (by omega), ee, zif_f (by omega), Int.add_zero]
             · rw [mup_cell (by omega), mup_self, mup_cell (by omega), lsJ, zif_t ⟨hd1, ha0⟩, hv.2.2.1]
             · rw [mup_cell (by omega), mup_cell (by omega), mup_cell (by omega)]
               exact hv.2.2.2 x0)
        · skip
          refine e_aload q_X11_judge_38 (by decide) rfl ?_
          refine e_iconst q_X11_judge_40 ?_
          refine i_putI (k' := 7) q_X11_judge_41 fl_X11_323 (Or.inl rfl) l88A (cref0 (by omega) _) rfl rfl rfl rfl ?_
          have hMn : ∀ (x0 : Nat), x0 ≠ a → mup N1 a 7 1 x0 = N1 x0 := fun x0 h => mup_fn h
          have hvM : pvw s (mup N1 a 7 1) (N 39 2).toNat (wgt N) (fun x => N 47 x = 100000) := by
            intro j h0 h1
            obtain ⟨a2, p88, pA, p5, p4, p6, pr⟩ := xPs_v hI j h0 h1
            have e2 : ∀ y0, mup N1 a 7 1 a2 y0 = N a2 y0 := fun y0 => (mup_cell (pA.ne l88A (by decide))).trans (hsm a2 y0 p88 (fun p hp => by
              have := hne p hp
              have hk := pA.2.2
              refine ⟨fun q => ?_, fun q => ?_⟩
              · have h5 := this.2.2.2.2.2.2.2.1
                rw [q, hk] at h5
                cases h5
              · have h5 := this.2.2.2.2.2.2.2.2
                rw [q, hk] at h5
                cases h5))
            refine ⟨a2, p88, pA, ?_⟩
            rw [e2 4, e2 6, mup_cell (by omega), hlow 5 j (by omega) (by omega) (by omega)]
            exact ⟨p5, p4, p6, pr⟩
          have hlM : lvw s (mup N1 a 7 1) a b e := by
            obtain ⟨k1, k2, k3, k4, k5, k6, k7, k8, k9⟩ := hvl
            refine ⟨k1, k2, ?_, ?_, k5, k6, k7, k8, fun x => ?_⟩
            · rw [mup_slot (by decide), ea]; exact k3
            · rw [mup_slot (by decide), ea]; exact k4
            · rw [mup_cell (k6.ne k2 (by decide)), eb]; exact k9 x
          have htkM : ∀ x : Int, 0 ≤ x → x < (N 39 2).toNat → (parts N i x ↔ (mup N1 a 7 1 b x ≠ 0 ∧ N 47 x = 100000)) := fun x h0 h1 => by
            rw [mup_cell (lbA.ne l88A (by decide)), eb, (lrow x h0 (by omega)).1]
            exact Iff.rfl
          refine e_aload q_X11_judge_44 (by decide) rfl ?_
          refine e_aload_n q_X11_judge_46 (by decide) rfl ?_
          refine e_aload q_X11_judge_47 (by decide) rfl ?_
          refine e_aload q_X11_judge_49 (by decide) rfl ?_
          refine i_getI (k' := 3) q_X11_judge_51 fl_X11_311 l88A (cref0 (by omega) _) rfl rfl ((mup_slot (by decide)).trans ((ea 3).trans l3)) ?_
          refine iv_X11_part rfl q_X11_judge_54 lk_X11_326 (by decide) (a3 hB) (Nat.le_of_ble_eq_true rfl) ?_
          refine xr_part hB (P := (N 39 2).toNat) (wg := wgt N) (al := fun x => N 47 x = 100000) (b := b) (e := e) (am := N 76 i) hvM hlM (by omega) (tk := parts N i) htkM (by rw [mup_cell (by omega), hlow 3 3 (by omega) (by omega) (by omega), e3]; omega) (wgt_w N) (by omega) (fun x => by rw [mup_cell (by omega)]; exact hv.2.2.2 x) (fun hall => ?_) (fun hall N3 hv3 => ?_)
          · skip
            refine i_putI (k' := 8) q_X11_judge_57 fl_X11_330 (Or.inl rfl) l88A (cref0 (by omega) _) rfl rfl rfl rfl ?_
            refine e_iinc (ls' := [_, _, _, _, _]) q_X11_judge_60 (by decide) rfl rfl rfl ?_
            refine e_iinc (ls' := [_, _, _, _, _]) q_X11_judge_63 (by decide) rfl rfl rfl ?_
            refine e_goto q_X11_judge_66 ?_
            first
            | (refine zEe (ih N1 _ (jS_no (fun q => c35 (hdue.mpr q)) hv)) (by rw [cnt_f' (p := fun p : Nat => duE N p d) (fun q => c35 (hdue.mpr q))]; rfl) rfl)
            | (have hd1 := hdue.mp c35
               have hne2 : ∀ p : Nat, p < i → lA N p ≠ a ∧ lC N p ≠ e ∧ lA N p ≠ e ∧ lC N p ≠ a := fun p hp => (hne p hp).1
               have hae : a ≠ e := l88A.ne lcA (by decide)
               have ha0 : 0 < aln N i := hall
               refine zEe (ih _ _ (jS_st hAC.1 hAC.2 hae l88 lc88 hne2 hd1 hv (fun a0 x0 h1 h2 h3 h4 => ?_) ?_ ?_ (fun x0 => ?_) ?_ (fun x0 => ?_) (fun p hp => ⟨(hne p hp).2.1, (hne p hp).2.2.1⟩))) (by rw [cnt_t (p := fun p : Nat => duE N p d) hd1]; rfl) rfl
               · rw [mup_ne (fun q => h3 ⟨q.1, Or.inr q.2⟩), hv3.1 a0 h4 h1, mup_ne (fun q => h3 ⟨q.1, Or.inl q.2⟩)]
               · rw [mup_slot (by decide), hv3.1 a hae (by omega), mup_self]
               · rw [mup_self, bi_t ha0]
               · rw [mup_cell (by omega), hv3.2.1 x0, mup_cell (by omega), ee, zif_t ha0]
                 rfl
               · rw [mup_cell (by omega), hv3.1 3 (by omega) (by omega), mup_cell (by omega), lsJ, zif_f (fun q => by have := q.2; omega)]
                 exact hv.2.2.1
               · rw [mup_cell (by omega)]
                 exact hv3.2.2 x0)
            | (have hd1 := hdue.mp c35
               have hne2 : ∀ p : Nat, p < i → lA N p ≠ a ∧ lC N p ≠ e ∧ lA N p ≠ e ∧ lC N p ≠ a := fun p hp => (hne p hp).1
               have hae : a ≠ e := l88A.ne lcA (by decide)
               have ha0 : aln N i = 0 := hall
               refine zEe (ih _ _ (jS_st hAC.1 hAC.2 hae l88 lc88 hne2 hd1 hv (fun a0 x0 h1 h2 h3 h4 => ?_) ?_ ?_ (fun x0 => ?_) ?_ (fun x0 => ?_) (fun p hp => ⟨(hne p hp).2.1, (hne p hp).2.2.1⟩))) (by rw [cnt_t (p := fun p : Nat => duE N p d) hd1]; rfl) rfl
               · rw [mup_ne (fun q => h3 ⟨q.1, Or.inr q.2⟩), mup_ne h2, mup_ne (fun q => h3 ⟨q.1, Or.inl q.2⟩)]
               · rw [mup_slot (by decide), mup_cell (by omega), mup_self]
               · rw [mup_self, bi_f (by omega)]
               · rw [mup_cell (by omega), mup_cell (by omega), mup_cell (by omega), ee, zif_f (by omega), Int.add_zero]
               · rw [mup_cell (by omega), mup_self, mup_cell (by omega), lsJ, zif_t ⟨hd1, ha0⟩, hv.2.2.1]
               · rw [mup_cell (by omega), mup_cell (by omega), mup_cell (by omega)]
                 exact hv.2.2.2 x0)
          · skip
            refine i_putI (k' := 8) q_X11_judge_57 fl_X11_330 (Or.inl rfl) l88A (cref0 (by omega) _) rfl rfl rfl rfl ?_
            refine e_iinc (ls' := [_, _, _, _, _]) q_X11_judge_60 (by decide) rfl rfl rfl ?_
            refine e_iinc (ls' := [_, _, _, _, _]) q_X11_judge_63 (by decide) rfl rfl rfl ?_
            refine e_goto q_X11_judge_66 ?_
            first
            | (refine zEe (ih N1 _ (jS_no (fun q => c35 (hdue.mpr q)) hv)) (by rw [cnt_f' (p := fun p : Nat => duE N p d) (fun q => c35 (hdue.mpr q))]; rfl) rfl)
            | (have hd1 := hdue.mp c35
               have hne2 : ∀ p : Nat, p < i → lA N p ≠ a ∧ lC N p ≠ e ∧ lA N p ≠ e ∧ lC N p ≠ a := fun p hp => (hne p hp).1
               have hae : a ≠ e := l88A.ne lcA (by decide)
               have ha0 : 0 < aln N i := hall
               refine zEe (ih _ _ (jS_st hAC.1 hAC.2 hae l88 lc88 hne2 hd1 hv (fun a0 x0 h1 h2 h3 h4 => ?_) ?_ ?_ (fun x0 => ?_) ?_ (fun x0 => ?_) (fun p hp => ⟨(hne p hp).2.1, (hne p hp).2.2.1⟩))) (by rw [cnt_t (p := fun p : Nat => duE N p d) hd1]; rfl) rfl
               · rw [mup_ne (fun q => h3 ⟨q.1, Or.inr q.2⟩), hv3.1 a0 h4 h1, mup_ne (fun q => h3 ⟨q.1, Or.inl q.2⟩)]
               · rw [mup_slot (by decide), hv3.1 a hae (by omega), mup_self]
               · rw [mup_self, bi_t ha0]
               · rw [mup_cell (by omega), hv3.2.1 x0, mup_cell (by omega), ee, zif_t ha0]
                 rfl
               · rw [mup_cell (by omega), hv3.1 3 (by omega) (by omega), mup_cell (by omega), lsJ, zif_f (fun q => by have := q.2; omega)]
                 exact hv.2.2.1
               · rw [mup_cell (by omega)]
                 exact hv3.2.2 x0)
            | (have hd1 := hdue.mp c35
               have hne2 : ∀ p : Nat, p < i → lA N p ≠ a ∧ lC N p ≠ e ∧ lA N p ≠ e ∧ lC N p ≠ a := fun p hp => (hne p hp).1
               have hae : a ≠ e := l88A.ne lcA (by decide)
               have ha0 : aln N i = 0 := hall
               refine zEe (ih _ _ (jS_st hAC.1 hAC.2 hae l88 lc88 hne2 hd1 hv (fun a0 x0 h1 h2 h3 h4 => ?_) ?_ ?_ (fun x0 => ?_) ?_ (fun x0 => ?_) (fun p hp => ⟨(hne p hp).2.1, (hne p hp).2.2.1⟩))) (by rw [cnt_t (p := fun p : Nat => duE N p d) hd1]; rfl) rfl
               · rw [mup_ne (fun q => h3 ⟨q.1, Or.inr q.2⟩), mup_ne h2, mup_ne (fun q => h3 ⟨q.1, Or.inl q.2⟩)]
               · rw [mup_slot (by decide), mup_cell (by omega), mup_self]
               · rw [mup_self, bi_f (by omega)]
               · rw [mup_cell (by omega), mup_cell (by omega), mup_cell (by omega), ee, zif_f (by omega), Int.add_zero]
               · rw [mup_cell (by omega), mup_self, mup_cell (by omega), lsJ, zif_t ⟨hd1, ha0⟩, hv.2.2.1]
               · rw [mup_cell (by omega), mup_cell (by omega), mup_cell (by omega)]
                 exact hv.2.2.2 x0)
    · skip
      have h310 : N1 3 10 = N 39 50 := (hv.1 3 10 (by decide) (by omega) (fun p hp _ => by
        obtain ⟨a2, b2, e2, hl2⟩ := hI.ls.1 (p : Int) (by omega) (by omega)
        rw [(lA_p hl2).1, (lA_p hl2).2]
        have := hl2.1
        have := hl2.2.2.2.2.2.2.2.2.2.2.2.2.2.2.1
        omega)).trans e10
      refine e_iload_n q_X11_judge_13 (by decide) rfl ?_
      refine e_aload_n q_X11_judge_14 (by decide) rfl ?_
      refine i_getI (k' := 10) q_X11_judge_15 fl_X11_294 (a3 hB) rfl rfl rfl h310 ?_
      refine e_icmp_ge q_X11_judge_18 (by first | exact hR _ _ | (constructor <;> omega) | assumption) (by first | exact hR _ _ | (constructor <;> omega) | assumption) (fun c18 => ?_) (fun c18 => ?_)
      · skip
        refine e_iload_n q_X11_judge_69 (by decide) rfl ?_
        refine e_ireturn q_X11_judge_70 rfl rfl ?_
        exact h2 hd N1 hv
      · skip
        exact absurd (by omega) c18
  · skip
    refine e_iconst q_X11_judge_7 ?_
    refine e_ireturn q_X11_judge_8 rfl rfl ?_
    exact h1 c4
end RT4
