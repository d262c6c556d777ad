/-! making whole, 8 (printed by wip/whole/gen/f8.py) -/
section FI8
variable {X : zX} {s : zK} {N : zN} {σ : zS} {fa sa : Int → Int} {Q K : Option Value → zS → Prop} {c : Int}
set_option maxRecDepth 20000 in
set_option maxHeartbeats 2000000 in
theorem x_whole (hI : xI s N fa sa) (hy : yI N) {d : Int} (hd0 : zr d) (hk0 : 0 ≤ N 3 19) (hkp : cK6 N d (N 39 2).toNat ≤ 6 → N 3 19 + cK6 N d (N 39 2).toNat ≤ 600) (h1 : ¬ (0 ≤ d ∧ d ≤ 9999) → Q (some (vi (-1))) (zI s N)) (h2 : 0 ≤ d ∧ d ≤ 9999 → 6 < cK6 N d (N 39 2).toNat → ∀ N1, flF N N1 → Q (some (vi (-3))) (zI s N1)) (h3 : 0 ≤ d ∧ d ≤ 9999 → ∀ K : Nat, (K : Int) = cK6 N d (N 39 2).toNat → K ≤ 6 → (∀ f, ¬ goodOn (rmP N d) (riP N d) (poP N d) K (N 39 29) (tb (2 ^ K - 1)) f) → ∀ N1, flF N N1 → Q (some (vi (-4))) (zI s N1)) (h4 : 0 ≤ d ∧ d ≤ 9999 → ∀ K : Nat, (K : Int) = cK6 N d (N 39 2).toNat → K ≤ 6 → ∀ w : Int, 0 ≤ w ∧ w ≤ 170000000 → bOK (aQ N d) (rmP N d) (riP N d) (poP N d) K (N 39 29) (2 ^ K - 1) w → ∀ N1, flF N N1 → (∀ k : Nat, k < K → N1 26 k = whK N d k) → ∀ N2, nwS N1 (N1 39 2).toNat N2 → Q (some (vi (w / 262144))) (zI (stS d (fun k : Nat => (N1 5 (N1 26 k)).toNat) (fun k : Nat => w / pw8 k % 8) (s, N2) K).1 (stS d (fun k : Nat => (N1 5 (N1 26 k)).toNat) (fun k : Nat => w / pw8 k % 8) (s, N2) K).2)) : zC X m_X11_whole [.ref 3, vi d] (zI s N) Q := by
  have hB := hI.B
  have hR := hI.R
  have hC := hI.C
  unfold mCnt at hC
  have hm := hI.m
  obtain ⟨e1, e5, e7, e8, e10, e11, e3, e12, eh, eg, ef, et⟩ := hI.hs
  have hln := hy.2.2.2.2.1
  show zE X m_X11_whole 0 [.ref 3, vi d, zU] [] _ Q
  refine e_iload_n q_X11_whole_0 (by decide) rfl ?_
  refine iv_X11_isDay q_X11_whole_1 lk_X11_140 (by decide) (Nat.le_of_ble_eq_true rfl) ?_
  refine x_isDay hd0 ?_
  refine e_ifb_ne q_X11_whole_4 (fun c4 => ?_) (fun c4 => ?_)
  · skip
    have hd : 0 ≤ d ∧ d ≤ 9999 := c4
    refine e_aload_n q_X11_whole_9 (by decide) rfl ?_
    refine e_iload_n q_X11_whole_10 (by decide) rfl ?_
    refine iv_X11_gatherUnsworn q_X11_whole_11 lk_X11_269 (by decide) (a3 hB) (Nat.le_of_ble_eq_true rfl) ?_
    refine x_gather hI hy hd (fun g6 N1 hf => ?_) (fun g6 N1 hf hK0 ps hp hps0 hpo0 hwh0 => ?_)
    · skip
      skip
      refine e_if_eq q_X11_whole_14 (by first | exact hR _ _ | (constructor <;> omega) | assumption) (fun c14 => ?_) (fun c14 => ?_)
      · skip
        refine e_bipush q_X11_whole_35 (by decide) ?_
        refine e_ireturn q_X11_whole_37 rfl rfl ?_
        exact h2 hd g6 N1 hf
      · skip
        exact absurd rfl c14
    · skip
      have hc0 : 0 ≤ cK6 N d (N 39 2).toNat := (cnt_b _ _).1
      obtain ⟨K, hKc⟩ : ∃ K : Nat, (K : Int) = cK6 N d (N 39 2).toNat := ⟨(cK6 N d (N 39 2).toNat).toNat, by omega⟩
      have eK : (cK6 N d (N 39 2).toNat).toNat = K := by omega
      rw [eK] at hps0
      have hK6 : K ≤ 6 := by omega
      have hp6 := pow6 hK6
      have hK : N1 25 2 = K := by omega
      have hpo : ∀ k : Nat, k < K → (tb ps k ↔ poP N d k) := fun k hk => hpo0 k (by omega)
      have hwh : ∀ k : Nat, k < K → N1 26 k = whK N d k := fun k hk => hwh0 k (by omega)
      have hI1 := (hI.fl hy hf).1
      have e319 : N1 3 19 = N 3 19 := congrFun (hf.1 3 (by omega)) 19
      have hkp2 := hkp g6
      refine e_if_eq q_X11_whole_14 (by first | exact hR _ _ | (constructor <;> omega) | assumption) (fun c14 => ?_) (fun c14 => ?_)
      · skip
        first
        | exact absurd c14 (by decide)
        | exact absurd hkp2 (by omega)
      · skip
        refine e_aload_n q_X11_whole_17 (by decide) rfl ?_
        refine i_getI (k' := 19) q_X11_whole_18 fl_X11_164 (a3 hB) rfl rfl rfl e319 ?_
        refine e_aload_n q_X11_whole_21 (by decide) rfl ?_
        refine i_getC (r := 25) q_X11_whole_22 fl_X11_74 (a3 hB) rfl (by decide) ?_
        refine i_getI (k' := 2) q_X11_whole_25 fl_X11_272 (a25 hB) rfl rfl rfl hK ?_
        refine e_iadd q_X11_whole_28 ?_
        refine e_sipush q_X11_whole_29 (by decide) ?_
        refine e_icmp_le q_X11_whole_32 (by constructor <;> omega) (by constructor <;> omega) (fun c32 => ?_) (fun c32 => ?_)
        · skip
          refine e_aload_n q_X11_whole_38 (by decide) rfl ?_
          refine i_getC (r := 25) q_X11_whole_39 fl_X11_74 (a3 hB) rfl (by decide) ?_
          refine iv_X1_begin q_X11_whole_42 lk_X11_273 (by decide) (a25 hB) (Nat.le_of_ble_eq_true rfl) ?_
          refine x_fbegin hB hf.2 (fun N2 hb => ?_)
          refine e_iconst q_X11_whole_45 ?_
          refine e_istore_n (ls' := [_, _, _]) q_X11_whole_46 (by decide) rfl rfl ?_
          have hf2 : flF N N2 := ⟨fun a0 h1 => (hb.1 a0 (by omega)).trans (hf.1 a0 h1), hb.2.2.2⟩
          refine zEe (ls := [.ref 3, vi d, vi ((0 : Nat) : Int)]) (σ := zI s N2) ?_ rfl rfl
          refine z_for (P := fun i => ∀ (N3 : zN), (flF N N3 ∧ N3 25 = N2 25 ∧ N3 26 = N2 26 ∧ ∀ m : Nat, m < 2 ^ K → bOK (aQ N d) (rmP N d) (riP N d) (poP N d) K (i : Int) m (N3 29 m)) → zE X m_X11_whole 47 [.ref 3, vi d, vi (i : Int)] [] (zI s N3) Q) (N 39 29).toNat (fun i hi ih N3 hv => ?_) (fun N3 hv => ?_) N2 ⟨hf2, rfl, rfl, fun m hm => bOK_init hm (fun q => by rw [q]; exact hb.2.1) (fun q => hb.2.2.1 m (by omega) (by omega))⟩
          · skip
            have hI3 := (hI.fl hy hv.1).1
            have e252 : N3 25 2 = K := by rw [hv.2.1, hb.1 25 (by decide)]; exact hK
            have e35 : N3 3 5 = N 39 29 := (congrFun (hv.1.1 3 (by omega)) 5).trans e5
            have hwh3 : ∀ k : Nat, k < K → N3 26 k = whK N d k := fun k hk => by rw [hv.2.2.1, hb.1 26 (by decide)]; exact hwh k hk
            have e392 : N3 39 2 = N 39 2 := hv.1.e.at 39 (by decide) (by decide) 2
            refine e_iload_n q_X11_whole_47 (by decide) rfl ?_
            refine e_aload_n q_X11_whole_48 (by decide) rfl ?_
            refine i_getI (k' := 5) q_X11_whole_49 fl_X11_215 (a3 hB) rfl rfl rfl e35 ?_
            refine e_icmp_ge q_X11_whole_52 (by constructor <;> omega) (by constructor <;> omega) (fun c52 => ?_) (fun c52 => ?_)
            · skip
              exact absurd c52 (by omega)
            · skip
              refine e_aload_n q_X11_whole_55 (by decide) rfl ?_
              refine e_iload_n q_X11_whole_56 (by decide) rfl ?_
              refine e_iload_n q_X11_whole_57 (by decide) rfl ?_
              refine iv_X11_offerGroup q_X11_whole_58 lk_X11_276 (by decide) (a3 hB) (Nat.le_of_ble_eq_true rfl) ?_
              refine x_offerGroup hI hy hv.1 hd hKc hK6 e252 (ps := ps) (by rw [hv.2.1, hb.1 25 (by decide)]; exact hp) hps0 hpo hwh3 (g := (i : Int)) (by omega) hv.2.2.2 (fun N4 k1 k2 k3 k4 => ?_)
              refine e_iinc (ls' := [_, _, _]) q_X11_whole_61 (by decide) rfl rfl rfl ?_
              refine e_goto q_X11_whole_64 ?_
              exact ih N4 ⟨k1, k2.trans hv.2.1, k3.trans hv.2.2.1, fun m hm => k4 m hm⟩
          · skip
            have hI3 := (hI.fl hy hv.1).1
            have e252 : N3 25 2 = K := by rw [hv.2.1, hb.1 25 (by decide)]; exact hK
            have e35 : N3 3 5 = N 39 29 := (congrFun (hv.1.1 3 (by omega)) 5).trans e5
            have hwh3 : ∀ k : Nat, k < K → N3 26 k = whK N d k := fun k hk => by rw [hv.2.2.1, hb.1 26 (by decide)]; exact hwh k hk
            have e392 : N3 39 2 = N 39 2 := hv.1.e.at 39 (by decide) (by decide) 2
            have hGn : (((N 39 29).toNat : Nat) : Int) = N 39 29 := by omega
            have hbM : bOK (aQ N d) (rmP N d) (riP N d) (poP N d) K (N 39 29) (2 ^ K - 1) (N3 29 ((2 ^ K - 1 : Nat) : Int)) := by have := hv.2.2.2 (2 ^ K - 1) (by omega); rwa [hGn] at this
            have hwr := bOK_r (fun k g2 _ h2 _ => aQ_r hI.m hln k h2) hK6 (by omega) hbM
            have hA3 : ∀ k : Nat, k < K → 88 ≤ (fun k : Nat => (N3 5 (N3 26 k)).toNat) k ∧ (fun k : Nat => (N3 5 (N3 26 k)).toNat) k < s.1.1 := fun k hk => by
              have h0 := (whK_p (N := N) (d := d) (k := k) (by omega)).1
              obtain ⟨b, hb⟩ := hI3.ps.1 (N3 26 k) (by rw [hwh3 k hk]; exact h0.1) (by rw [hwh3 k hk, e392]; exact h0.2)
              have h1 := hb.2.1.2.1
              have h2 := hb.2.2.1
              have h3 := hb.1
              show 88 ≤ (N3 5 (N3 26 k)).toNat ∧ (N3 5 (N3 26 k)).toNat < s.1.1
              omega
            have hA5 : ∀ p : Nat, p < (N3 39 2).toNat → 88 ≤ (N3 5 p).toNat := fun p hp => by
              obtain ⟨b, hb⟩ := hI3.ps.1 (p : Int) (by omega) (by omega)
              have h2 := hb.2.2.1
              have h3 := hb.1
              omega
            refine e_iload_n q_X11_whole_47 (by decide) rfl ?_
            refine e_aload_n q_X11_whole_48 (by decide) rfl ?_
            refine i_getI (k' := 5) q_X11_whole_49 fl_X11_215 (a3 hB) rfl rfl rfl e35 ?_
            refine e_icmp_ge q_X11_whole_52 (by constructor <;> omega) (by constructor <;> omega) (fun c52 => ?_) (fun c52 => ?_)
            · skip
              refine e_aload_n q_X11_whole_67 (by decide) rfl ?_
              refine i_getC (r := 25) q_X11_whole_68 fl_X11_74 (a3 hB) rfl (by decide) ?_
              refine iv_X1_isPossible q_X11_whole_71 lk_X11_279 (by decide) (a25 hB) (Nat.le_of_ble_eq_true rfl) ?_
              refine x_isPossible hB (K := K) e252 hK6 (hv.1.2 _ _) ?_
              refine e_ifb_ne q_X11_whole_74 (fun c74 => ?_) (fun c74 => ?_)
              · skip
                have hwr2 := hwr.resolve_left c74
                have hw0 : 0 ≤ N3 29 ((2 ^ K - 1 : Nat) : Int) ∧ N3 29 ((2 ^ K - 1 : Nat) : Int) < 2147483648 := by omega
                refine e_aload_n q_X11_whole_80 (by decide) rfl ?_
                refine e_iload_n q_X11_whole_81 (by decide) rfl ?_
                refine iv_X11_settle q_X11_whole_82 lk_X11_282 (by decide) (a3 hB) (Nat.le_of_ble_eq_true rfl) ?_
                refine x_settle hI3 (K := K) e252 hK6 (fun k hk => by rw [hwh3 k hk, e392]; exact (whK_p (by omega)).1) rfl hw0 (fun N4 hn => ?_)
                have hB0 := hB
                have hB := hB.k (stS_k (d := d) (A := fun k : Nat => (N3 5 (N3 26 k)).toNat) (f := fun k : Nat => N3 29 ((2 ^ K - 1 : Nat) : Int) / pw8 k % 8) (p := (s, N4)) K)
                refine e_aload_n q_X11_whole_85 (by decide) rfl ?_
                refine i_getC (r := 25) q_X11_whole_86 fl_X11_74 (a3 hB) rfl (by decide) ?_
                refine iv_X1_leastAsked q_X11_whole_89 lk_X11_285 (by decide) (a25 hB) (Nat.le_of_ble_eq_true rfl) ?_
                refine x_leastAsked hB (K := K) (w := N3 29 ((2 ^ K - 1 : Nat) : Int)) ((congrFun ((stS_c (p := (s, N4)) (K := K) hA3 hB0.1 (by decide) (by decide) K (Nat.le_refl _)).trans (hn.cl hA5 (by decide))) 2).trans e252) hK6 (congrFun ((stS_c (p := (s, N4)) (K := K) hA3 hB0.1 (by decide) (by decide) K (Nat.le_refl _)).trans (hn.cl hA5 (by decide))) _) hw0 ?_
                refine e_ireturn q_X11_whole_92 rfl rfl ?_
                exact h4 hd K hKc hK6 _ hwr2 hbM N3 hv.1 hwh3 N4 hn
              · skip
                refine e_bipush q_X11_whole_77 (by decide) ?_
                refine e_ireturn q_X11_whole_79 rfl rfl ?_
                refine h3 hd K hKc hK6 (fun f hf => ?_) N3 hv.1
                have h5 := hbM.1 f hf
                have h6 := (wSum_b (a := aQ N d) (fun k g2 _ h2 _ => aQ_r hI.m hln (d := d) k h2) hK6 (S := tb (2 ^ K - 1)) (f := f) (fun k hk hs => by have := hf.1 k hk hs; omega)).2
                have h7 : N3 29 ((2 ^ K - 1 : Nat) : Int) = IMP := Classical.byContradiction fun q => c74 q
                unfold IMP at h7
                omega
            · skip
              exact absurd (by omega) c52
        · skip
          first
          | exact absurd c14 (by decide)
          | exact absurd hkp2 (by omega)
  · skip
    refine e_iconst q_X11_whole_7 ?_
    refine e_ireturn q_X11_whole_8 rfl rfl ?_
    exact h1 c4
end FI8
