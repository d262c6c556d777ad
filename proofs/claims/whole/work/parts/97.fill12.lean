/-! making whole, 12 (printed by wip/whole/gen/f12.py) -/
section FI12
variable {X : zX} {s : zK} {N : zN} {σ : zS} {fa sa : Int → Int} {Q K : Option Value → zS → Prop} {c : Int}
/-- only the search's cells changed, in the reference's -/
def eW (N N1 : zN) : Prop := (∀ a : Nat, (a < 67 ∨ 73 < a) ∧ a ≠ 39 → N1 a = N a) ∧ (∀ j : Int, j ≠ 41 ∧ j ≠ 49 → N1 39 j = N 39 j) ∧ ∀ a x, zr (N1 a x)
section EW
variable {N N1 : zN}
theorem eW.rf (hR : ∀ a x, zr (N a x)) : eW N N := ⟨fun _ _ => rfl, fun _ _ => rfl, hR⟩
theorem eW.u (h : eW N N1) {c0 : Nat} {x v : Int} (hc : (67 ≤ c0 ∧ c0 ≤ 73) ∨ (c0 = 39 ∧ (x = 41 ∨ x = 49))) (hv : zr v) : eW N (mup N1 c0 x v) := by
  refine ⟨fun a ha => ?_, fun j hj => ?_, zr_mup h.2.2 hv⟩
  · rw [mup_fn (by omega)]; exact h.1 a ha
  · rw [show mup N1 c0 x v 39 j = N1 39 j from by
      by_cases hq : c0 = 39
      · subst hq; exact mup_slot (by omega)
      · exact mup_cell (by omega)]
    exact h.2.1 j hj
theorem eW.sC (h : eW N N1) {L : List Nat} (hL : ∀ b ∈ L, (b < 67 ∨ 73 < b) ∧ b ≠ 39) : sC N N1 L := fun b hb => h.1 b (hL b hb)
theorem eW.s9 (h : eW N N1) {L : List Int} (hL : ∀ j ∈ L, j ≠ 41 ∧ j ≠ 49) : s9 N N1 L := fun j hj => h.2.1 j (hL j hj)
theorem eW.mI_ (h : eW N N1) (hm : mI N) : mI N1 := by
  have c := fun j hj => h.2.1 j hj
  refine ⟨h.2.2, ?_, mPpl_k (h.sC (by decide)) (c 2 (by decide)) (by rw [c 0 (by decide)]; omega) hm.2.2.1, mFlt_k (h.sC (by decide)) (c 10 (by decide)) (by rw [c 2 (by decide)]; omega) hm.2.2.2.1, mSpl_k (h.sC (by decide)) (c 31 (by decide)) (by rw [c 2 (by decide)]; omega) (by rw [c 29 (by decide)]; omega) hm.2.2.2.2.1, mSty_k (h.sC (by decide)) (c 36 (by decide)) (by rw [c 2 (by decide)]; omega) (by rw [c 0 (by decide)]; omega) hm.2.2.2.2.2.1, mPle_k (h.sC (by decide)) (c 50 (by decide)) (by rw [c 10 (by decide)]; omega) (by rw [c 29 (by decide)]; omega) hm.2.2.2.2.2.2⟩
  have hC := hm.2.1
  unfold mCnt at hC ⊢
  rw [c 0 (by decide), c 2 (by decide), c 10 (by decide), c 15 (by decide), c 26 (by decide), c 29 (by decide), c 31 (by decide), c 36 (by decide), c 50 (by decide)]
  exact hC
theorem eW.memb_ (h : eW N N1) (w g d : Int) : memb N1 w g d = memb N w g d := memb_k (h.sC (by decide)) (h.s9 (by decide)) w g d
theorem eW.kinIn_ (h : eW N N1) (w g d : Int) : kinIn N1 w g d = kinIn N w g d := by
  unfold kinIn kinP
  rw [h.1 46 (by decide), h.2.1 2 (by decide)]
  simp only [h.memb_]
theorem eW.comer_ (h : eW N N1) (w d : Int) : comer N1 w d = comer N w d := by
  have ht : tHere N1 w d = tHere N w d := by
    unfold tHere
    rw [h.1 42 (by decide), h.1 47 (by decide), h.1 48 (by decide), h.1 49 (by decide), h.1 50 (by decide), h.2.1 10 (by decide)]
  have hs : spA N1 w d = spA N w d := by
    unfold spA
    rw [ht, h.1 59 (by decide), h.1 61 (by decide), h.1 62 (by decide), h.2.1 31 (by decide)]
  unfold comer want must
  rw [ht, hs, boundS_k (h.sC (by decide)) (h.s9 (by decide)), h.1 41 (by decide), h.1 42 (by decide), h.1 52 (by decide), h.1 53 (by decide)]
end EW
theorem ex_t {p : Nat → Prop} {j : Nat} (h : p j) : bi (∃ x : Nat, x < j + 1 ∧ p x) = 1 := bi_t ⟨j, by omega, h⟩
theorem ex_f {p : Nat → Prop} {j : Nat} (h : ¬ p j) : bi (∃ x : Nat, x < j + 1 ∧ p x) = bi (∃ x : Nat, x < j ∧ p x) := bi_c ⟨fun ⟨x, h1, h2⟩ => ⟨x, by
  by_cases hx : x = j
  · rw [hx] at h2; exact absurd h2 h
  · omega, h2⟩, fun ⟨x, h1, h2⟩ => ⟨x, by omega, h2⟩⟩
set_option maxRecDepth 20000 in
set_option maxHeartbeats 2000000 in
theorem k_findAsked (hB : zB0 s) (hm : mI N) (hln : yLn N) {N1 : zN} (hw : eW N N1) {d : Int} (hd : 0 ≤ d ∧ d ≤ 9999) {K : Nat} (hKc : (K : Int) = cK6 N d (N 39 2).toNat) (hK6 : K ≤ 6) (hK : N1 39 41 = K) (hwh : ∀ k : Nat, k < K → N1 67 k = whK N d k) (h : ∀ N2, eW N N2 → (∀ c0 : Nat, c0 ≠ 70 → c0 ≠ 71 → c0 ≠ 72 → N2 c0 = N1 c0) → (∀ g : Int, 0 ≤ g → g < N 39 29 → (N2 71 g = mems N g d ∧ N2 72 g = bi (riP N d g) ∧ ∀ k : Nat, k < K → N2 70 (8 * (k : Int) + g) = askV N (whK N d k) g d)) → Q none (zI s N2)) : zC X m_X12_findAsked [.ref 39, vi d] (zI s N1) Q := by
  have hC := hm.2.1
  unfold mCnt at hC
  show zE X m_X12_findAsked 0 [.ref 39, vi d, zU, zU, zU] [] _ Q
  refine e_iconst q_X12_findAsked_0 ?_
  refine e_istore_n (ls' := [_, _, _, _, _]) q_X12_findAsked_1 (by decide) rfl rfl ?_
  refine zEe (ls := [.ref 39, vi d, vi ((0 : Nat) : Int), zU, zU]) (σ := zI s N1) ?_ rfl rfl
  refine z_for (P := fun i => ∀ (N2 : zN) (u3 : Value) (u4 : Value), ((∀ c0 : Nat, c0 ≠ 70 → c0 ≠ 71 → c0 ≠ 72 → N2 c0 = N1 c0) ∧ (∀ c0 x, zr (N2 c0 x)) ∧ ∀ g : Nat, g < i → (N2 71 (g : Int) = mems N (g : Int) d ∧ N2 72 (g : Int) = bi (riP N d (g : Int)) ∧ ∀ k : Nat, k < K → N2 70 (8 * (k : Int) + (g : Int)) = askV N (whK N d k) (g : Int) d)) → zE X m_X12_findAsked 2 [.ref 39, vi d, vi (i : Int), u3, u4] [] (zI s N2) Q) (N 39 29).toNat (fun i hi ih N2 u3 u4 hv => ?_) (fun N2 u3 u4 hv => ?_) N1 zU zU ⟨fun _ _ _ _ => rfl, hw.2.2, fun g hg => by omega⟩
  · skip
    obtain ⟨f1, f2, f3⟩ := id hv
    have w2 : eW N N2 := ⟨fun a h1 => by rw [f1 a (by omega) (by omega) (by omega)]; exact hw.1 a h1, fun x hx => by rw [f1 39 (by decide) (by decide) (by decide)]; exact hw.2.1 x hx, f2⟩
    have e29 : N2 39 29 = N 39 29 := w2.2.1 29 (by decide)
    refine e_iload_n q_X12_findAsked_2 (by decide) rfl ?_
    refine e_aload_n q_X12_findAsked_3 (by decide) rfl ?_
    refine i_getI (k' := 29) q_X12_findAsked_4 fl_X12_248 (a39 hB) rfl rfl rfl e29 ?_
    refine e_icmp_ge q_X12_findAsked_7 (by constructor <;> omega) (by constructor <;> omega) (fun c7 => ?_) (fun c7 => ?_)
    · skip
      exact absurd c7 (by omega)
    · skip
      refine e_aload_n q_X12_findAsked_10 (by decide) rfl ?_
      refine i_getC (r := 71) q_X12_findAsked_11 fl_X12_109 (a39 hB) rfl (by decide) ?_
      refine e_iload_n q_X12_findAsked_14 (by decide) rfl ?_
      refine e_iconst q_X12_findAsked_15 ?_
      refine i_iast q_X12_findAsked_16 (a71 hB) (cref0 (by decide)) (by first | omega | assumption) (by first | omega | assumption) (by decide) ?_
      refine e_aload_n q_X12_findAsked_17 (by decide) rfl ?_
      refine i_getC (r := 72) q_X12_findAsked_18 fl_X12_112 (a39 hB) rfl (by decide) ?_
      refine e_iload_n q_X12_findAsked_21 (by decide) rfl ?_
      refine e_iconst q_X12_findAsked_22 ?_
      refine i_zast q_X12_findAsked_23 (a72 hB) (cref0 (by decide)) (by first | omega | assumption) (by first | omega | assumption) (by decide) rfl ?_
      refine e_iconst q_X12_findAsked_24 ?_
      refine e_istore_n (ls' := [_, _, _, _, _]) q_X12_findAsked_25 (by decide) rfl rfl ?_
      refine zEe (ls := [.ref 39, vi d, vi (i : Int), vi ((0 : Nat) : Int), u4]) (σ := zI s (mup (mup N2 71 (i : Int) 0) 72 (i : Int) 0)) ?_ rfl rfl
      refine z_for (P := fun j => ∀ (N3 : zN), ((∀ c0 : Nat, c0 ≠ 71 → c0 ≠ 72 → N3 c0 = N2 c0) ∧ (∀ x : Int, x ≠ (i : Int) → N3 71 x = N2 71 x ∧ N3 72 x = N2 72 x) ∧ N3 71 (i : Int) = cnt (fun x : Nat => memb N x (i : Int) d) j ∧ N3 72 (i : Int) = bi (∃ x : Nat, x < j ∧ N 45 x = 0 ∧ memb N x (i : Int) d) ∧ ∀ c0 x, zr (N3 c0 x)) → zE X m_X12_findAsked 26 [.ref 39, vi d, vi (i : Int), vi (j : Int), u4] [] (zI s N3) Q) (N 39 2).toNat (fun j hij ihj N3 hvj => ?_) (fun N3 hvj => ?_) _ ⟨fun c0 h1 h2 => by rw [mup_fn h2, mup_fn h1], fun x hx => ⟨by rw [mup_cell (by decide), mup_slot hx], by rw [mup_slot hx, mup_cell (by decide)]⟩, by rw [mup_cell (by decide), mup_self]; rfl, by rw [mup_self]; exact (bi_f (fun ⟨x, h1, _⟩ => absurd h1 (by omega))).symm, zr_mup (zr_mup w2.2.2 (by constructor <;> omega)) (by constructor <;> omega)⟩
      · skip
        obtain ⟨v1, v2, v3, v4, v5⟩ := id hvj
        have w3 : eW N N3 := ⟨fun a h1 => by rw [v1 a (by omega) (by omega)]; exact w2.1 a h1, fun x hx => by rw [v1 39 (by decide) (by decide)]; exact w2.2.1 x hx, v5⟩
        have hm3 := w3.mI_ hm
        have e2 : N3 39 2 = N 39 2 := w3.2.1 2 (by decide)
        refine e_iload_n q_X12_findAsked_26 (by decide) rfl ?_
        refine e_aload_n q_X12_findAsked_27 (by decide) rfl ?_
        refine i_getI (k' := 2) q_X12_findAsked_28 fl_X12_164 (a39 hB) rfl rfl rfl e2 ?_
        refine e_icmp_ge q_X12_findAsked_31 (by constructor <;> omega) (by constructor <;> omega) (fun c31 => ?_) (fun c31 => ?_)
        · skip
          exact absurd c31 (by omega)
        · skip
          refine e_aload_n q_X12_findAsked_34 (by decide) rfl ?_
          refine e_iload_n q_X12_findAsked_35 (by decide) rfl ?_
          refine e_iload_n q_X12_findAsked_36 (by decide) rfl ?_
          refine e_iload_n q_X12_findAsked_37 (by decide) rfl ?_
          refine iv_X12_isMember q_X12_findAsked_38 lk_X12_258 (by decide) (a39 hB) (Nat.le_of_ble_eq_true rfl) ?_
          refine k_isMember hB hm3 (by constructor <;> omega) (by omega) (by omega) hd ?_
          refine e_ifb_eq q_X12_findAsked_41 (fun c41 => ?_) (fun c41 => ?_)
          · skip
            refine e_iinc (ls' := [_, _, _, _, _]) q_X12_findAsked_77 (by decide) rfl rfl rfl ?_
            refine e_goto q_X12_findAsked_80 ?_
            first
            | (have hmj : memb N j (i : Int) d := by rw [← w3.memb_]; exact c41
               have q1 : cnt (fun x : Nat => memb N x (i : Int) d) (j + 1) = cnt (fun x : Nat => memb N x (i : Int) d) j + 1 := cnt_t (p := fun x : Nat => memb N x (i : Int) d) hmj
               have q2 : bi (∃ x : Nat, x < (j + 1) ∧ N 45 x = 0 ∧ memb N x (i : Int) d) = bi (∃ x : Nat, x < j ∧ N 45 x = 0 ∧ memb N x (i : Int) d) := ex_f (p := fun x : Nat => N 45 x = 0 ∧ memb N x (i : Int) d) (fun q => c67 q.1)
               have hz : zr (bi (∃ x : Nat, x < j ∧ N 45 x = 0 ∧ memb N x (i : Int) d)) := by have := bi_r (∃ x : Nat, x < j ∧ N 45 x = 0 ∧ memb N x (i : Int) d); constructor <;> omega
               have hcb := cnt_b (fun x : Nat => memb N x (i : Int) d) j
               exact zEe (ihj (mup (mup N3 71 (i : Int) (cnt (fun x : Nat => memb N x (i : Int) d) j + 1)) 72 (i : Int) (bi (∃ x : Nat, x < j ∧ N 45 x = 0 ∧ memb N x (i : Int) d))) ⟨fun c0 h1 h2 => by rw [mup_fn h2, mup_fn h1]; exact v1 c0 h1 h2, fun x hx => ⟨by rw [mup_cell (by decide), mup_slot hx]; exact (v2 x hx).1, by rw [mup_slot hx, mup_cell (by decide)]; exact (v2 x hx).2⟩, by rw [mup_cell (by decide), mup_self, q1], by rw [mup_self, q2], zr_mup (zr_mup v5 (by constructor <;> omega)) hz⟩) rfl rfl)
            | (have hmj : memb N j (i : Int) d := by rw [← w3.memb_]; exact c41
               have q1 : cnt (fun x : Nat => memb N x (i : Int) d) (j + 1) = cnt (fun x : Nat => memb N x (i : Int) d) j + 1 := cnt_t (p := fun x : Nat => memb N x (i : Int) d) hmj
               have q2 : bi (∃ x : Nat, x < (j + 1) ∧ N 45 x = 0 ∧ memb N x (i : Int) d) = 1 := ex_t (p := fun x : Nat => N 45 x = 0 ∧ memb N x (i : Int) d) ⟨c67, hmj⟩
               have hz : zr 1 := by constructor <;> omega
               have hcb := cnt_b (fun x : Nat => memb N x (i : Int) d) j
               exact zEe (ihj (mup (mup N3 71 (i : Int) (cnt (fun x : Nat => memb N x (i : Int) d) j + 1)) 72 (i : Int) 1) ⟨fun c0 h1 h2 => by rw [mup_fn h2, mup_fn h1]; exact v1 c0 h1 h2, fun x hx => ⟨by rw [mup_cell (by decide), mup_slot hx]; exact (v2 x hx).1, by rw [mup_slot hx, mup_cell (by decide)]; exact (v2 x hx).2⟩, by rw [mup_cell (by decide), mup_self, q1], by rw [mup_self, q2], zr_mup (zr_mup v5 (by constructor <;> omega)) hz⟩) rfl rfl)
            | (have hmj : ¬ memb N j (i : Int) d := by rw [← w3.memb_]; exact c41
               have q1 : cnt (fun x : Nat => memb N x (i : Int) d) (j + 1) = cnt (fun x : Nat => memb N x (i : Int) d) j := cnt_f' (p := fun x : Nat => memb N x (i : Int) d) hmj
               have q2 : bi (∃ x : Nat, x < (j + 1) ∧ N 45 x = 0 ∧ memb N x (i : Int) d) = bi (∃ x : Nat, x < j ∧ N 45 x = 0 ∧ memb N x (i : Int) d) := ex_f (p := fun x : Nat => N 45 x = 0 ∧ memb N x (i : Int) d) (fun q => hmj q.2)
               exact ihj N3 ⟨v1, v2, v3.trans q1.symm, v4.trans q2.symm, v5⟩)
          · skip
            refine e_aload_n q_X12_findAsked_44 (by decide) rfl ?_
            refine i_getC (r := 71) q_X12_findAsked_45 fl_X12_109 (a39 hB) rfl (by decide) ?_
            refine e_iload_n q_X12_findAsked_48 (by decide) rfl ?_
            refine e_dup2 q_X12_findAsked_49 rfl rfl ?_
            refine i_iald q_X12_findAsked_50 (a71 hB) (cref0 (by decide)) (by first | omega | assumption) (by first | omega | assumption) (by decide) v3 ?_
            refine e_iconst q_X12_findAsked_51 ?_
            refine e_iadd q_X12_findAsked_52 ?_
            refine i_iast q_X12_findAsked_53 (a71 hB) (cref0 (by decide)) (by first | omega | assumption) (by first | omega | assumption) (by decide) ?_
            refine e_aload_n q_X12_findAsked_54 (by decide) rfl ?_
            refine i_getC (r := 72) q_X12_findAsked_55 fl_X12_112 (a39 hB) rfl (by decide) ?_
            refine e_iload_n q_X12_findAsked_58 (by decide) rfl ?_
            refine e_dup2 q_X12_findAsked_59 rfl rfl ?_
            refine i_zald q_X12_findAsked_60 (a72 hB) (cref0 (by decide)) (by first | omega | assumption) (by first | omega | assumption) (by decide) ((mup_cell (by decide)).trans v4) ?_
            refine e_aload_n q_X12_findAsked_61 (by decide) rfl ?_
            refine i_getC (r := 45) q_X12_findAsked_62 fl_X12_25 (a39 hB) rfl (by decide) ?_
            refine e_iload_n q_X12_findAsked_65 (by decide) rfl ?_
            refine i_zald q_X12_findAsked_66 (a45 hB) (cref0 (by decide)) (by first | omega | assumption) (by first | omega | assumption) (by decide) ((mup_cell (by decide)).trans (congrFun (w3.1 45 (by decide)) _)) ?_
            refine e_if_ne q_X12_findAsked_67 (hm.1 _ _) (fun c67 => ?_) (fun c67 => ?_)
            · skip
              refine e_iconst q_X12_findAsked_74 ?_
              refine e_ior q_X12_findAsked_75 (v := bi (∃ x : Nat, x < j ∧ N 45 x = 0 ∧ memb N x (i : Int) d)) (bx_b0 _) ?_
              refine i_zast q_X12_findAsked_76 (a72 hB) (cref0 (by decide)) (by first | omega | assumption) (by first | omega | assumption) (by decide) (by first | exact bi_n _ | rfl) ?_
              refine e_iinc (ls' := [_, _, _, _, _]) q_X12_findAsked_77 (by decide) rfl rfl rfl ?_
              refine e_goto q_X12_findAsked_80 ?_
              first
              | (have hmj : memb N j (i : Int) d := by rw [← w3.memb_]; exact c41
                 have q1 : cnt (fun x : Nat => memb N x (i : Int) d) (j + 1) = cnt (fun x : Nat => memb N x (i : Int) d) j + 1 := cnt_t (p := fun x : Nat => memb N x (i : Int) d) hmj
                 have q2 : bi (∃ x : Nat, x < (j + 1) ∧ N 45 x = 0 ∧ memb N x (i : Int) d) = bi (∃ x : Nat, x < j ∧ N 45 x = 0 ∧ memb N x (i : Int) d) := ex_f (p := fun x : Nat => N 45 x = 0 ∧ memb N x (i : Int) d) (fun q => c67 q.1)
                 have hz : zr (bi (∃ x : Nat, x < j ∧ N 45 x = 0 ∧ memb N x (i : Int) d)) := by have := bi_r (∃ x : Nat, x < j ∧ N 45 x = 0 ∧ memb N x (i : Int) d); constructor <;> omega
                 have hcb := cnt_b (fun x : Nat => memb N x (i : Int) d) j
                 exact zEe (ihj (mup (mup N3 71 (i : Int) (cnt (fun x : Nat => memb N x (i : Int) d) j + 1)) 72 (i : Int) (bi (∃ x : Nat, x < j ∧ N 45 x = 0 ∧ memb N x (i : Int) d))) ⟨fun c0 h1 h2 => by rw [mup_fn h2, mup_fn h1]; exact v1 c0 h1 h2, fun x hx => ⟨by rw [mup_cell (by decide), mup_slot hx]; exact (v2 x hx).1, by rw [mup_slot hx, mup_cell (by decide)]; exact (v2 x hx).2⟩, by rw [mup_cell (by decide), mup_self, q1], by rw [mup_self, q2], zr_mup (zr_mup v5 (by constructor <;> omega)) hz⟩) rfl rfl)
              | (have hmj : memb N j (i : Int) d := by rw [← w3.memb_]; exact c41
                 have q1 : cnt (fun x : Nat => memb N x (i : Int) d) (j + 1) = cnt (fun x : Nat => memb N x (i : Int) d) j + 1 := cnt_t (p := fun x : Nat => memb N x (i : Int) d) hmj
                 have q2 : bi (∃ x : Nat, x < (j + 1) ∧ N 45 x = 0 ∧ memb N x (i : Int) d) = 1 := ex_t (p := fun x : Nat => N 45 x = 0 ∧ memb N x (i : Int) d) ⟨c67, hmj⟩
                 have hz : zr 1 := by constructor <;> omega
                 have hcb := cnt_b (fun x : Nat => memb N x (i : Int) d) j
                 exact zEe (ihj (mup (mup N3 71 (i : Int) (cnt (fun x : Nat => memb N x (i : Int) d) j + 1)) 72 (i : Int) 1) ⟨fun c0 h1 h2 => by rw [mup_fn h2, mup_fn h1]; exact v1 c0 h1 h2, fun x hx => ⟨by rw [mup_cell (by decide), mup_slot hx]; exact (v2 x hx).1, by rw [mup_slot hx, mup_cell (by decide)]; exact (v2 x hx).2⟩, by rw [mup_cell (by decide), mup_self, q1], by rw [mup_self, q2], zr_mup (zr_mup v5 (by constructor <;> omega)) hz⟩) rfl rfl)
              | (have hmj : ¬ memb N j (i : Int) d := by rw [← w3.memb_]; exact c41
                 have q1 : cnt (fun x : Nat => memb N x (i : Int) d) (j + 1) = cnt (fun x : Nat => memb N x (i : Int) d) j := cnt_f' (p := fun x : Nat => memb N x (i : Int) d) hmj
                 have q2 : bi (∃ x : Nat, x < (j + 1) ∧ N 45 x = 0 ∧ memb N x (i : Int) d) = bi (∃ x : Nat, x < j ∧ N 45 x = 0 ∧ memb N x (i : Int) d) := ex_f (p := fun x : Nat => N 45 x = 0 ∧ memb N x (i : Int) d) (fun q => hmj q.2)
                 exact ihj N3 ⟨v1, v2, v3.trans q1.symm, v4.trans q2.symm, v5⟩)
            · skip
              refine e_iconst q_X12_findAsked_70 ?_
              refine e_goto q_X12_findAsked_71 ?_
              refine e_ior q_X12_findAsked_75 (v := 1) (bx_b1 _) ?_
              refine i_zast q_X12_findAsked_76 (a72 hB) (cref0 (by decide)) (by first | omega | assumption) (by first | omega | assumption) (by decide) (by first | exact bi_n _ | rfl) ?_
              refine e_iinc (ls' := [_, _, _, _, _]) q_X12_findAsked_77 (by decide) rfl rfl rfl ?_
              refine e_goto q_X12_findAsked_80 ?_
              first
              | (have hmj : memb N j (i : Int) d := by rw [← w3.memb_]; exact c41
                 have q1 : cnt (fun x : Nat => memb N x (i : Int) d) (j + 1) = cnt (fun x : Nat => memb N x (i : Int) d) j + 1 := cnt_t (p := fun x : Nat => memb N x (i : Int) d) hmj
                 have q2 : bi (∃ x : Nat, x < (j + 1) ∧ N 45 x = 0 ∧ memb N x (i : Int) d) = bi (∃ x : Nat, x < j ∧ N 45 x = 0 ∧ memb N x (i : Int) d) := ex_f (p := fun x : Nat => N 45 x = 0 ∧ memb N x (i : Int) d) (fun q => c67 q.1)
                 have hz : zr (bi (∃ x : Nat, x < j ∧ N 45 x = 0 ∧ memb N x (i : Int) d)) := by have := bi_r (∃ x : Nat, x < j ∧ N 45 x = 0 ∧ memb N x (i : Int) d); constructor <;> omega
                 have hcb := cnt_b (fun x : Nat => memb N x (i : Int) d) j
                 exact zEe (ihj (mup (mup N3 71 (i : Int) (cnt (fun x : Nat => memb N x (i : Int) d) j + 1)) 72 (i : Int) (bi (∃ x : Nat, x < j ∧ N 45 x = 0 ∧ memb N x (i : Int) d))) ⟨fun c0 h1 h2 => by rw [mup_fn h2, mup_fn h1]; exact v1 c0 h1 h2, fun x hx => ⟨by rw [mup_cell (by decide), mup_slot hx]; exact (v2 x hx).1, by rw [mup_slot hx, mup_cell (by decide)]; exact (v2 x hx).2⟩, by rw [mup_cell (by decide), mup_self, q1], by rw [mup_self, q2], zr_mup (zr_mup v5 (by constructor <;> omega)) hz⟩) rfl rfl)
              | (have hmj : memb N j (i : Int) d := by rw [← w3.memb_]; exact c41
                 have q1 : cnt (fun x : Nat => memb N x (i : Int) d) (j + 1) = cnt (fun x : Nat => memb N x (i : Int) d) j + 1 := cnt_t (p := fun x : Nat => memb N x (i : Int) d) hmj
                 have q2 : bi (∃ x : Nat, x < (j + 1) ∧ N 45 x = 0 ∧ memb N x (i : Int) d) = 1 := ex_t (p := fun x : Nat => N 45 x = 0 ∧ memb N x (i : Int) d) ⟨c67, hmj⟩
                 have hz : zr 1 := by constructor <;> omega
                 have hcb := cnt_b (fun x : Nat => memb N x (i : Int) d) j
                 exact zEe (ihj (mup (mup N3 71 (i : Int) (cnt (fun x : Nat => memb N x (i : Int) d) j + 1)) 72 (i : Int) 1) ⟨fun c0 h1 h2 => by rw [mup_fn h2, mup_fn h1]; exact v1 c0 h1 h2, fun x hx => ⟨by rw [mup_cell (by decide), mup_slot hx]; exact (v2 x hx).1, by rw [mup_slot hx, mup_cell (by decide)]; exact (v2 x hx).2⟩, by rw [mup_cell (by decide), mup_self, q1], by rw [mup_self, q2], zr_mup (zr_mup v5 (by constructor <;> omega)) hz⟩) rfl rfl)
              | (have hmj : ¬ memb N j (i : Int) d := by rw [← w3.memb_]; exact c41
                 have q1 : cnt (fun x : Nat => memb N x (i : Int) d) (j + 1) = cnt (fun x : Nat => memb N x (i : Int) d) j := cnt_f' (p := fun x : Nat => memb N x (i : Int) d) hmj
                 have q2 : bi (∃ x : Nat, x < (j + 1) ∧ N 45 x = 0 ∧ memb N x (i : Int) d) = bi (∃ x : Nat, x < j ∧ N 45 x = 0 ∧ memb N x (i : Int) d) := ex_f (p := fun x : Nat => N 45 x = 0 ∧ memb N x (i : Int) d) (fun q => hmj q.2)
                 exact ihj N3 ⟨v1, v2, v3.trans q1.symm, v4.trans q2.symm, v5⟩)
      · skip
        obtain ⟨v1, v2, v3, v4, v5⟩ := id hvj
        have w3 : eW N N3 := ⟨fun a h1 => by rw [v1 a (by omega) (by omega)]; exact w2.1 a h1, fun x hx => by rw [v1 39 (by decide) (by decide)]; exact w2.2.1 x hx, v5⟩
        have hm3 := w3.mI_ hm
        have e2 : N3 39 2 = N 39 2 := w3.2.1 2 (by decide)
        refine e_iload_n q_X12_findAsked_26 (by decide) rfl ?_
        refine e_aload_n q_X12_findAsked_27 (by decide) rfl ?_
        refine i_getI (k' := 2) q_X12_findAsked_28 fl_X12_164 (a39 hB) rfl rfl rfl e2 ?_
        refine e_icmp_ge q_X12_findAsked_31 (by constructor <;> omega) (by constructor <;> omega) (fun c31 => ?_) (fun c31 => ?_)
        · skip
          refine e_iconst q_X12_findAsked_83 ?_
          refine e_istore_n (ls' := [_, _, _, _, _]) q_X12_findAsked_84 (by decide) rfl rfl ?_
          refine zEe (ls := [.ref 39, vi d, vi (i : Int), vi ((0 : Nat) : Int), u4]) (σ := zI s N3) ?_ rfl rfl
          refine z_for (P := fun j => ∀ (N5 : zN) (u5 : Value), ((∀ c0 : Nat, c0 ≠ 70 → N5 c0 = N3 c0) ∧ (∀ k : Nat, k < j → N5 70 (8 * (k : Int) + (i : Int)) = askV N (whK N d k) (i : Int) d) ∧ (∀ k g : Nat, k < K → g < i → N5 70 (8 * (k : Int) + (g : Int)) = N3 70 (8 * (k : Int) + (g : Int))) ∧ ∀ c0 x, zr (N5 c0 x)) → zE X m_X12_findAsked 85 [.ref 39, vi d, vi (i : Int), vi (j : Int), u5] [] (zI s N5) Q) K (fun j hjk ihk N5 u5 hvk => ?_) (fun N5 u5 hvk => ?_) N3 u4 ⟨fun _ _ => rfl, fun k hk => by omega, fun _ _ _ _ => rfl, v5⟩
          · skip
            obtain ⟨t1, t2, t3, t4⟩ := id hvk
            have w5 : eW N N5 := ⟨fun a h1 => by rw [t1 a (by omega)]; exact w3.1 a h1, fun x hx => by rw [t1 39 (by decide)]; exact w3.2.1 x hx, t4⟩
            have hm5 := w5.mI_ hm
            have e41 : N5 39 41 = K := by rw [t1 39 (by decide), v1 39 (by decide) (by decide), f1 39 (by decide) (by decide) (by decide)]; exact hK
            have e52 : N5 39 2 = N 39 2 := w5.2.1 2 (by decide)
            have hwj : N5 67 j = whK N d j := by rw [t1 67 (by decide), v1 67 (by decide) (by decide), f1 67 (by decide) (by decide) (by decide)]; exact hwh j (by omega)
            have hwk := whK_p (N := N) (d := d) (k := j) (by omega)
            have hpp := hm.2.2.1 (whK N d j) hwk.1.1 hwk.1.2
            have h40 := hln.1 (N 44 (whK N d j)) (by omega) (by omega)
            have h58 := hln.2 (i : Int) (by omega) (by omega)
            have har := askV_r hm hln (d := d) (w := whK N d j) (g := (i : Int)) hwk.1 (by omega)
            have a1 : 0 ≤ (N 40 (N 44 (whK N d j)) - N 58 (i : Int)) → kinIn N (whK N d j) i d → (N 40 (N 44 (whK N d j)) - N 58 (i : Int)) + 0 = askV N (whK N d j) i d := fun h1 h2 => by unfold askV; rw [if_pos h1, zif_t h2]
            have a2 : 0 ≤ (N 40 (N 44 (whK N d j)) - N 58 (i : Int)) → ¬ kinIn N (whK N d j) i d → (N 40 (N 44 (whK N d j)) - N 58 (i : Int)) + 5 = askV N (whK N d j) i d := fun h1 h2 => by unfold askV; rw [if_pos h1, zif_f h2]
            have a3 : ¬ 0 ≤ (N 40 (N 44 (whK N d j)) - N 58 (i : Int)) → kinIn N (whK N d j) i d → -(N 40 (N 44 (whK N d j)) - N 58 (i : Int)) + 0 = askV N (whK N d j) i d := fun h1 h2 => by unfold askV; rw [if_neg h1, zif_t h2]
            have a4 : ¬ 0 ≤ (N 40 (N 44 (whK N d j)) - N 58 (i : Int)) → ¬ kinIn N (whK N d j) i d → -(N 40 (N 44 (whK N d j)) - N 58 (i : Int)) + 5 = askV N (whK N d j) i d := fun h1 h2 => by unfold askV; rw [if_neg h1, zif_f h2]
            have hfin : zE X m_X12_findAsked 162 [.ref 39, vi d, vi (i : Int), vi (j : Int), vi (N 40 (N 44 (whK N d j)) - N 58 (i : Int))] [vi (askV N (whK N d j) i d), vi (8 * (j : Int) + (i : Int)), .ref 70] (zI s N5) Q := by
              refine i_iast q_X12_findAsked_162 (a70 hB) (cref0 (by decide)) (by omega) (by omega) (by decide) ?_
              refine e_iinc (ls' := [_, _, _, _, _]) q_X12_findAsked_163 (by decide) rfl rfl rfl ?_
              refine e_goto q_X12_findAsked_166 ?_
              refine ihk _ _ ⟨fun c0 h1 => by rw [mup_fn h1]; exact t1 c0 h1, fun k hk => ?_, fun k g hk hg => by rw [mup_slot (by omega)]; exact t3 k g hk hg, zr_mup t4 (by constructor <;> omega)⟩
              by_cases hkj : k = j
              · rw [hkj, mup_self]
              · rw [mup_slot (by omega)]; exact t2 k (by omega)
            refine e_iload_n q_X12_findAsked_85 (by decide) rfl ?_
            refine e_aload_n q_X12_findAsked_86 (by decide) rfl ?_
            refine i_getI (k' := 41) q_X12_findAsked_87 fl_X12_292 (a39 hB) rfl rfl rfl e41 ?_
            refine e_icmp_ge q_X12_findAsked_90 (by constructor <;> omega) (by constructor <;> omega) (fun c90 => ?_) (fun c90 => ?_)
            · skip
              exact absurd c90 (by omega)
            · skip
              refine e_aload_n q_X12_findAsked_93 (by decide) rfl ?_
              refine i_getC (r := 40) q_X12_findAsked_94 fl_X12_7 (a39 hB) rfl (by decide) ?_
              refine e_aload_n q_X12_findAsked_97 (by decide) rfl ?_
              refine i_getC (r := 44) q_X12_findAsked_98 fl_X12_22 (a39 hB) rfl (by decide) ?_
              refine e_aload_n q_X12_findAsked_101 (by decide) rfl ?_
              refine i_getC (r := 67) q_X12_findAsked_102 fl_X12_97 (a39 hB) rfl (by decide) ?_
              refine e_iload_n q_X12_findAsked_105 (by decide) rfl ?_
              refine i_iald q_X12_findAsked_106 (a67 hB) (cref0 (by decide)) (by first | omega | assumption) (by first | omega | assumption) (by decide) hwj ?_
              refine i_iald q_X12_findAsked_107 (a44 hB) (cref0 (by decide)) (by first | omega | assumption) (by first | omega | assumption) (by decide) (congrFun (w5.1 44 (by decide)) _) ?_
              refine i_iald q_X12_findAsked_108 (a40 hB) (cref0 (by decide)) (by first | omega | assumption) (by first | omega | assumption) (by decide) (congrFun (w5.1 40 (by decide)) _) ?_
              refine e_aload_n q_X12_findAsked_109 (by decide) rfl ?_
              refine i_getC (r := 58) q_X12_findAsked_110 fl_X12_70 (a39 hB) rfl (by decide) ?_
              refine e_iload_n q_X12_findAsked_113 (by decide) rfl ?_
              refine i_iald q_X12_findAsked_114 (a58 hB) (cref0 (by decide)) (by first | omega | assumption) (by first | omega | assumption) (by decide) (congrFun (w5.1 58 (by decide)) _) ?_
              refine e_isub q_X12_findAsked_115 ?_
              refine e_istore (ls' := [_, _, _, _, _]) q_X12_findAsked_116 (by decide) rfl rfl ?_
              refine e_aload_n q_X12_findAsked_118 (by decide) rfl ?_
              refine i_getC (r := 70) q_X12_findAsked_119 fl_X12_106 (a39 hB) rfl (by decide) ?_
              refine e_bipush q_X12_findAsked_122 (by decide) ?_
              refine e_iload_n q_X12_findAsked_124 (by decide) rfl ?_
              refine e_imul q_X12_findAsked_125 ?_
              refine e_iload_n q_X12_findAsked_126 (by decide) rfl ?_
              refine e_iadd q_X12_findAsked_127 ?_
              refine e_iload q_X12_findAsked_128 (by decide) rfl ?_
              refine e_if_ge q_X12_findAsked_130 (by constructor <;> omega) (fun c130 => ?_) (fun c130 => ?_)
              · skip
                refine e_iload q_X12_findAsked_139 (by decide) rfl ?_
                refine e_aload_n q_X12_findAsked_141 (by decide) rfl ?_
                refine e_aload_n q_X12_findAsked_142 (by decide) rfl ?_
                refine i_getC (r := 67) q_X12_findAsked_143 fl_X12_97 (a39 hB) rfl (by decide) ?_
                refine e_iload_n q_X12_findAsked_146 (by decide) rfl ?_
                refine i_iald q_X12_findAsked_147 (a67 hB) (cref0 (by decide)) (by first | omega | assumption) (by first | omega | assumption) (by decide) hwj ?_
                refine e_iload_n q_X12_findAsked_148 (by decide) rfl ?_
                refine e_iload_n q_X12_findAsked_149 (by decide) rfl ?_
                refine iv_X12_hasKin q_X12_findAsked_150 lk_X12_295 (by decide) (a39 hB) (Nat.le_of_ble_eq_true rfl) ?_
                refine k_hasKin hB hm5 (by constructor <;> omega) (by omega) (by omega) hd ?_
                refine e_ifb_eq q_X12_findAsked_153 (fun c153 => ?_) (fun c153 => ?_)
                · skip
                  refine e_iconst q_X12_findAsked_160 ?_
                  refine e_iadd q_X12_findAsked_161 ?_
                  first
                  | (rw [a1 c130 (w5.kinIn_ _ _ _ ▸ c153)]; exact hfin)
                  | (rw [a2 c130 (w5.kinIn_ _ _ _ ▸ c153)]; exact hfin)
                  | (rw [a3 (by omega) (w5.kinIn_ _ _ _ ▸ c153)]; exact hfin)
                  | (rw [a4 (by omega) (w5.kinIn_ _ _ _ ▸ c153)]; exact hfin)
                · skip
                  refine e_iconst q_X12_findAsked_156 ?_
                  refine e_goto q_X12_findAsked_157 ?_
                  refine e_iadd q_X12_findAsked_161 ?_
                  first
                  | (rw [a1 c130 (w5.kinIn_ _ _ _ ▸ c153)]; exact hfin)
                  | (rw [a2 c130 (w5.kinIn_ _ _ _ ▸ c153)]; exact hfin)
                  | (rw [a3 (by omega) (w5.kinIn_ _ _ _ ▸ c153)]; exact hfin)
                  | (rw [a4 (by omega) (w5.kinIn_ _ _ _ ▸ c153)]; exact hfin)
              · skip
                refine e_iload q_X12_findAsked_133 (by decide) rfl ?_
                refine e_ineg q_X12_findAsked_135 ?_
                refine e_goto q_X12_findAsked_136 ?_
                refine e_aload_n q_X12_findAsked_141 (by decide) rfl ?_
                refine e_aload_n q_X12_findAsked_142 (by decide) rfl ?_
                refine i_getC (r := 67) q_X12_findAsked_143 fl_X12_97 (a39 hB) rfl (by decide) ?_
                refine e_iload_n q_X12_findAsked_146 (by decide) rfl ?_
                refine i_iald q_X12_findAsked_147 (a67 hB) (cref0 (by decide)) (by first | omega | assumption) (by first | omega | assumption) (by decide) hwj ?_
                refine e_iload_n q_X12_findAsked_148 (by decide) rfl ?_
                refine e_iload_n q_X12_findAsked_149 (by decide) rfl ?_
                refine iv_X12_hasKin q_X12_findAsked_150 lk_X12_295 (by decide) (a39 hB) (Nat.le_of_ble_eq_true rfl) ?_
                refine k_hasKin hB hm5 (by constructor <;> omega) (by omega) (by omega) hd ?_
                refine e_ifb_eq q_X12_findAsked_153 (fun c153 => ?_) (fun c153 => ?_)
                · skip
                  refine e_iconst q_X12_findAsked_160 ?_
                  refine e_iadd q_X12_findAsked_161 ?_
                  first
                  | (rw [a1 c130 (w5.kinIn_ _ _ _ ▸ c153)]; exact hfin)
                  | (rw [a2 c130 (w5.kinIn_ _ _ _ ▸ c153)]; exact hfin)
                  | (rw [a3 (by omega) (w5.kinIn_ _ _ _ ▸ c153)]; exact hfin)
                  | (rw [a4 (by omega) (w5.kinIn_ _ _ _ ▸ c153)]; exact hfin)
                · skip
                  refine e_iconst q_X12_findAsked_156 ?_
                  refine e_goto q_X12_findAsked_157 ?_
                  refine e_iadd q_X12_findAsked_161 ?_
                  first
                  | (rw [a1 c130 (w5.kinIn_ _ _ _ ▸ c153)]; exact hfin)
                  | (rw [a2 c130 (w5.kinIn_ _ _ _ ▸ c153)]; exact hfin)
                  | (rw [a3 (by omega) (w5.kinIn_ _ _ _ ▸ c153)]; exact hfin)
                  | (rw [a4 (by omega) (w5.kinIn_ _ _ _ ▸ c153)]; exact hfin)
          · skip
            obtain ⟨t1, t2, t3, t4⟩ := id hvk
            have w5 : eW N N5 := ⟨fun a h1 => by rw [t1 a (by omega)]; exact w3.1 a h1, fun x hx => by rw [t1 39 (by decide)]; exact w3.2.1 x hx, t4⟩
            have hm5 := w5.mI_ hm
            have e41 : N5 39 41 = K := by rw [t1 39 (by decide), v1 39 (by decide) (by decide), f1 39 (by decide) (by decide) (by decide)]; exact hK
            have e52 : N5 39 2 = N 39 2 := w5.2.1 2 (by decide)
            refine e_iload_n q_X12_findAsked_85 (by decide) rfl ?_
            refine e_aload_n q_X12_findAsked_86 (by decide) rfl ?_
            refine i_getI (k' := 41) q_X12_findAsked_87 fl_X12_292 (a39 hB) rfl rfl rfl e41 ?_
            refine e_icmp_ge q_X12_findAsked_90 (by constructor <;> omega) (by constructor <;> omega) (fun c90 => ?_) (fun c90 => ?_)
            · skip
              refine e_iinc (ls' := [_, _, _, _, _]) q_X12_findAsked_169 (by decide) rfl rfl rfl ?_
              refine e_goto q_X12_findAsked_172 ?_
              refine ih _ _ _ ⟨fun c0 h1 h2 h3 => (t1 c0 h1).trans ((v1 c0 h2 h3).trans (f1 c0 h1 h2 h3)), t4, fun g hg => ?_⟩
              have e71 : N5 71 = N3 71 := t1 71 (by decide)
              have e72 : N5 72 = N3 72 := t1 72 (by decide)
              rw [e71, e72]
              by_cases hgi : g = i
              · subst hgi
                exact ⟨v3, v4.trans (bi_c ⟨fun ⟨x, h1, h2⟩ => ⟨x, by omega, h2⟩, fun ⟨x, h1, h2⟩ => ⟨x, by omega, h2⟩⟩), t2⟩
              · obtain ⟨g1, g2, g3⟩ := f3 g (by omega)
                have hne : (g : Int) ≠ (i : Int) := by omega
                exact ⟨(v2 g hne).1.trans g1, (v2 g hne).2.trans g2, fun k hk => (t3 k g hk (by omega)).trans ((congrFun (v1 70 (by decide) (by decide)) _).trans (g3 k hk))⟩
            · skip
              exact absurd (by omega) c90
        · skip
          exact absurd (by omega) c31
  · skip
    obtain ⟨f1, f2, f3⟩ := id hv
    have w2 : eW N N2 := ⟨fun a h1 => by rw [f1 a (by omega) (by omega) (by omega)]; exact hw.1 a h1, fun x hx => by rw [f1 39 (by decide) (by decide) (by decide)]; exact hw.2.1 x hx, f2⟩
    have e29 : N2 39 29 = N 39 29 := w2.2.1 29 (by decide)
    refine e_iload_n q_X12_findAsked_2 (by decide) rfl ?_
    refine e_aload_n q_X12_findAsked_3 (by decide) rfl ?_
    refine i_getI (k' := 29) q_X12_findAsked_4 fl_X12_248 (a39 hB) rfl rfl rfl e29 ?_
    refine e_icmp_ge q_X12_findAsked_7 (by constructor <;> omega) (by constructor <;> omega) (fun c7 => ?_) (fun c7 => ?_)
    · skip
      refine e_return q_X12_findAsked_175 rfl ?_
      refine h N2 w2 f1 (fun g h0 h1 => ?_)
      have hg := f3 g.toNat (by omega)
      rw [Int.toNat_of_nonneg h0] at hg
      exact hg
    · skip
      exact absurd (by omega) c7
end FI12
