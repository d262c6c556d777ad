/-! making whole, 17 (printed by wip/whole/gen/f17.py) -/
section FI17
variable {X : zX} {s : zK} {N : zN} {σ : zS} {fa sa : Int → Int} {Q K : Option Value → zS → Prop} {c : Int}
theorem eM.cK6_ {N' : zN} (h : eM N N') (d : Int) (n : Nat) : cK6 N' d n = cK6 N d n := by
  unfold cK6
  simp only [h.comer_]
theorem eM.whK_ {N' : zN} (h : eM N N') (d : Int) (k : Nat) : whK N' d k = whK N d k := by
  unfold whK
  rw [h.at 39 (by decide) (by decide) 2]
  simp only [h.comer_, h.cK6_]
theorem eM.rmP_ {N' : zN} (h : eM N N') (d : Int) : rmP N' d = rmP N d := by
  funext g
  unfold rmP
  rw [h.mems_]
theorem eM.riQ_ {N' : zN} (h : eM N N') (d : Int) : riP N' d = riP N d := by
  funext g
  exact h.riP_ d g
theorem eM.poP_ {N' : zN} (h : eM N N') (d : Int) : poP N' d = poP N d := by
  funext k
  unfold poP
  rw [h.whK_, h 45 (by decide) (by decide)]
theorem eM.aQ_ {N' : zN} (h : eM N N') (d : Int) : aQ N' d = aQ N d := by
  funext k g
  unfold aQ
  rw [h.at 39 (by decide) (by decide) 2, h.at 39 (by decide) (by decide) 29, h.cK6_, h.whK_, h.askV_]
theorem xn_begin_r {P : zN} (hR : ∀ b x, zr (P b x)) {a n : Nat} {g d : Int} (hg : zr g) (hd : zr d) (hn : zr (n : Int)) (hk : zr (P 3 19 + 1)) : ∀ b x, zr (xn_begin P a n g d b x) := by
  unfold xn_begin
  exact zr_mup (zr_mup (zr_mup (zr_mup (zr_mup (zr_mup hR hk) (by constructor <;> omega)) hg) hd) (hR _ _)) hn
theorem stS_r {d : Int} {A : Nat → Nat} {f : Nat → Int} {p : zK × zN} {K : Nat} (hR : ∀ b x, zr (p.2 b x)) (hf : ∀ k, k < K → 0 ≤ f k ∧ f k < 8) (hd : zr d) (hK6 : K ≤ 6) (hA : ∀ k, k < K → 88 ≤ A k ∧ A k < p.1.1.1) (h88 : 88 ≤ p.1.1.1) (h19 : 0 ≤ p.2 3 19 ∧ p.2 3 19 + 6 ≤ 600) (ha : (p.1.1.1 : Int) + 6 ≤ 2147483647) : ∀ k : Nat, k ≤ K → ∀ b x, zr ((stS d A f p k).2 b x)
  | 0, _ => hR
  | k + 1, hk => by
    have ih := stS_r hR hf hd hK6 hA h88 h19 ha k (by omega)
    have q1 := stS_1 (d := d) (A := A) (f := f) (p := p) k
    have q2 := stS_19 (d := d) (A := A) (f := f) (p := p) hA h88 k (by omega)
    have hfk := hf k (by omega)
    have hak := hA k (by omega)
    have hz : zr (f k) := by constructor <;> omega
    refine xn_begin_r (zr_mup ih hz) hz hd (by constructor <;> omega) ?_
    rw [mup_cell (by omega), q2]
    constructor <;> omega
set_option maxRecDepth 20000 in
set_option maxHeartbeats 2000000 in
theorem j_whole (hJ : xJ s N c) (hc : c < 512) {d : Int} (hd0 : zr d) (h : jK X c m_X12_whole [.ref 39, vi d] K) : zC X m_X11_whole [.ref 3, vi d] (zI s N) K := by
  obtain ⟨fa, sa, hI, hy, hbud, hsz⟩ := id hJ
  have hk := bud_r hI hbud hc
  have hC := hI.C
  unfold mCnt at hC
  have n88 := hI.B.1
  have hR := hI.R
  have hkp : N 3 19 = N 39 10 + N 39 31 := hy.1
  have hm := hI.m
  have hln := hy.2.2.2.2.1
  have hsz1 := hsz.1
  have hsz2 := hsz.2
  have hcb : 0 ≤ cK6 N d (N 39 2).toNat ∧ cK6 N d (N 39 2).toNat ≤ (N 39 2).toNat := cnt_b (fun w : Nat => comer N w d) (N 39 2).toNat
  have n0 : 0 ≤ N 3 19 := by omega
  have srch : ∀ N1, flF N N1 → ∀ M1, eW N1 M1 → M1 73 = N1 73 → M1 39 49 = N1 39 49 → xJ s M1 (c + 1) := fun N1 hf M1 w1 w73 w49 => by
    have a1 : ∀ a : Nat, (a < 25 ∨ 29 < a) → ((a < 67 ∨ 73 < a) ∧ a ≠ 39) ∨ a = 73 → M1 a = N a := fun a q1 q2 => by
      rcases q2 with q2 | q2
      · rw [w1.1 a q2]; exact hf.1 a q1
      · rw [q2, w73]; exact hf.1 73 (by decide)
    obtain ⟨y1, y2, y3⟩ := jx_srch (s := s) (N2 := M1) hI hy sK.rf ⟨w1.2.2, fun a ha j => by rw [a1 a (by omega) (by omega)]; exact hI.2.1.2 a ha j⟩ (fun a ha => a1 a (by omega) (by omega)) (fun j hj => by
      by_cases h49 : j = 49
      · rw [h49, w49, hf.1 39 (by decide)]
      · rw [w1.2.1 j ⟨hj, h49⟩, hf.1 39 (by decide)]) (fun j _ => by rw [a1 3 (by decide) (by decide)]) (fun a h1 h2 _ => a1 a (by omega) (by omega)) rfl
    exact ⟨fa, sa, y1, y2, by omega, hsz.n0⟩
  refine x_whole hI hy hd0 n0 (fun q => by omega) (fun g1 => ?_) (fun hd g6 N1 hf => ?_) (fun hd k0 hKc hK6 hno N1 hf => ?_) (fun hd k0 hKc hK6 w hw hb N1 hf h26 N2 hn => ?_)
  · exact h _ _ _ (by first | exact hI.B | exact hI.B.k sK.ns | exact hI.B.k (sK.ns.trans (sK.ns.trans sK.ns))) (fun Q hq => k_whole hI.B hm hln hd0 (by omega) (fun _ => hq _ _ hJ.up) (fun q => absurd q g1) (fun q => absurd q g1) (fun q => absurd q g1))
  · refine h _ _ _ (by first | exact hI.B | exact hI.B.k sK.ns | exact hI.B.k (sK.ns.trans (sK.ns.trans sK.ns))) (fun Q hq => ?_)
    obtain ⟨x1, x2, x3⟩ := hI.fl hy hf
    have hE := hf.e
    have e2 : N1 39 2 = N 39 2 := hE.at 39 (by decide) (by decide) 2
    have e31 : N1 39 31 = N 39 31 := hE.at 39 (by decide) (by decide) 31
    refine k_whole x1.B x1.m x2.2.2.2.2.1 hd0 (by omega) (fun q => absurd hd q) (fun _ _ M1 w1 w73 w49 => hq _ _ (srch N1 hf M1 w1 w73 w49)) (fun _ k1 hk1 hk6 => ?_) (fun _ k1 hk1 hk6 => ?_)
    · rw [hE.cK6_, e2] at hk1
      omega
    · rw [hE.cK6_, e2] at hk1
      omega
  · refine h _ _ _ (by first | exact hI.B | exact hI.B.k sK.ns | exact hI.B.k (sK.ns.trans (sK.ns.trans sK.ns))) (fun Q hq => ?_)
    obtain ⟨x1, x2, x3⟩ := hI.fl hy hf
    have hE := hf.e
    have e2 : N1 39 2 = N 39 2 := hE.at 39 (by decide) (by decide) 2
    have e29 : N1 39 29 = N 39 29 := hE.at 39 (by decide) (by decide) 29
    have e31 : N1 39 31 = N 39 31 := hE.at 39 (by decide) (by decide) 31
    refine k_whole x1.B x1.m x2.2.2.2.2.1 hd0 (by omega) (fun q => absurd hd q) (fun _ g6 => ?_) (fun _ k1 hk1 hk6 _ M1 w1 w73 w49 => hq _ _ (srch N1 hf M1 w1 w73 w49)) (fun _ k1 hk1 hk6 M1 w1 w67 hgd => ?_)
    · rw [hE.cK6_, e2] at g6
      omega
    · rw [hE.cK6_, e2] at hk1
      have ek : k1 = k0 := by omega
      subst ek
      rw [hE.rmP_, hE.riQ_, hE.poP_, e29] at hgd
      exact absurd hgd (hno _)
  · refine h _ _ _ (hI.B.k (stS_k (p := (s, N2)) k0)) (fun Q hq => ?_)
    have h5 : N1 5 = N 5 := hf.1 5 (by decide)
    have e2' : N1 39 2 = N 39 2 := by rw [hf.1 39 (by decide)]
    have hP : ∀ i : Int, 0 ≤ i → i < N 39 2 → ∃ a : Nat, xPer s N fa sa i a ∧ (N1 5 i).toNat = a := fun i h1 h2 => by
      obtain ⟨a, ha⟩ := hI.ps.1 i h1 h2
      refine ⟨a, ha, ?_⟩
      rw [h5, ha.2.2.1]
      omega
    have hPp : ∀ p : Nat, p < (N1 39 2).toNat → 88 ≤ (N1 5 p).toNat ∧ (N1 5 p).toNat < s.1.1 ∧ (s.2 (N1 5 p).toNat).1 = 4 := fun p hp => by
      obtain ⟨a, ha, ea⟩ := hP p (by omega) (by omega)
      rw [ea]
      have q1 := ha.2.1.2.1
      have q2 := ha.2.1.2.2
      exact ⟨ha.1, q1, by rw [q2]⟩
    have n2c : ∀ a : Nat, a < 88 → N2 a = N1 a := fun a ha => hn.cl (fun p hp => (hPp p hp).1) ha
    have hkc : ∀ k : Nat, k < k0 → (0 ≤ whK N d k ∧ whK N d k < N 39 2) ∧ comer N (whK N d k) d := fun k hk => by
      obtain ⟨q1, q2, _⟩ := whK_p (N := N) (d := d) (k := k) (by omega)
      exact ⟨q1, q2⟩
    have hAb : ∀ k : Nat, k < k0 → 88 ≤ (N1 5 (N1 26 k)).toNat ∧ (N1 5 (N1 26 k)).toNat < s.1.1 := fun k hk => by
      obtain ⟨q1, q2⟩ := hkc k hk
      obtain ⟨a, ha, ea⟩ := hP (whK N d k) q1.1 q1.2
      rw [h26 k hk, ea]
      exact ⟨ha.1, ha.2.1.2.1⟩
    have hR2 : ∀ a x, zr (N2 a x) := fun a x => by
      by_cases q : ∃ p : Nat, p < (N1 39 2).toNat ∧ a = (N1 5 p).toNat ∧ x = 7
      · obtain ⟨p, p1, p2, p3⟩ := q
        rw [p2, p3, hn.2 p p1]
        constructor <;> omega
      · rw [hn.1 a x (fun p p1 p2 => q ⟨p, p1, p2⟩)]
        exact hf.2 a x
    have k19 : N2 3 19 = N 3 19 := by rw [n2c 3 (by decide), hf.1 3 (by decide)]
    have ha0 : (s.1.1 : Int) + 6 ≤ 2147483647 := by omega
    obtain ⟨hbm, hbe⟩ := hb
    obtain ⟨f0, hg0, hw0⟩ : ∃ f, goodOn (rmP N d) (riP N d) (poP N d) k0 (N 39 29) (tb (2 ^ k0 - 1)) f ∧ w = wSum (aQ N d) (tb (2 ^ k0 - 1)) f k0 := by
      rcases hbe with q | q
      · unfold IMP at q
        omega
      · exact q
    rw [wF_s] at hw0
    have hf0 : ∀ k, k < k0 → 0 ≤ f0 k ∧ f0 k < 8 := fun k hk => by
      have := hg0.1 k hk (tb_all.mpr hk)
      omega
    have hwd := wF_d (a := aQ N d) hK6 hf0
    rw [← hw0] at hwd
    have hS0 : stS d (fun k : Nat => (N1 5 (N1 26 k)).toNat) (fun k : Nat => w / pw8 k % 8) (s, N2) k0 = stS d (fun k : Nat => (N1 5 (N1 26 k)).toNat) f0 (s, N2) k0 := stS_e k0 (fun k hk => ⟨rfl, hwd.2 k hk⟩)
    rw [hS0]
    have hRS : ∀ b x, zr ((stS d (fun k : Nat => (N1 5 (N1 26 k)).toNat) f0 (s, N2) k0).2 b x) := stS_r (p := (s, N2)) hR2 hf0 hd0 hK6 hAb n88 (by show 0 ≤ N2 3 19 ∧ N2 3 19 + 6 ≤ 600; omega) ha0 k0 (Nat.le_refl _)
    have hE : eM N (stS d (fun k : Nat => (N1 5 (N1 26 k)).toNat) f0 (s, N2) k0).2 := fun a h1 h2 => by
      rw [stS_c (p := (s, N2)) hAb n88 h2 (by omega) k0 (Nat.le_refl _)]
      show N2 a = _
      rw [n2c a h2, hf.1 a (by omega)]
    have q1 : (stS d (fun k : Nat => (N1 5 (N1 26 k)).toNat) f0 (s, N2) k0).1.1.1 = s.1.1 + k0 := stS_1 k0
    have q2 : (stS d (fun k : Nat => (N1 5 (N1 26 k)).toNat) f0 (s, N2) k0).1.1.2 = s.1.2 + 4 * k0 := stS_2 k0
    have qk : sK s (stS d (fun k : Nat => (N1 5 (N1 26 k)).toNat) f0 (s, N2) k0).1 := stS_k (p := (s, N2)) k0
    have hall := fun (M : zN) (hI2 : xI s (mix N2 M) fa sa) (hy2 : yI (mix N2 M)) => jx_all (d := d) (K := k0) (A := fun k : Nat => (N1 5 (N1 26 k)).toNat) (w := fun k : Nat => whK N d k) (f := f0) hI2 hy2 hd hK6
    generalize hST : stS d (fun k : Nat => (N1 5 (N1 26 k)).toNat) f0 (s, N2) k0 = ST at *
    have e2 : ST.2 39 2 = N 39 2 := hE.at 39 (by decide) (by decide) 2
    have e29 : ST.2 39 29 = N 39 29 := hE.at 39 (by decide) (by decide) 29
    have e31 : ST.2 39 31 = N 39 31 := hE.at 39 (by decide) (by decide) 31
    refine k_whole (hI.B.k qk) (hE.mI_ hRS hm) (yLn_k (hE.sC (by decide)) hE.s9 hln) hd0 (by omega) (fun q => absurd hd q) (fun _ g6 => ?_) (fun _ k1 hk1 hk6 hno => ?_) (fun _ k1 hk1 hk6 M1 w1 w67 hgd hmin M hM => ?_)
    · rw [hE.cK6_, e2] at g6
      omega
    · rw [hE.cK6_, e2] at hk1
      have ek : k1 = k0 := by omega
      subst ek
      rw [hE.rmP_, hE.riQ_, hE.poP_, e29] at hno
      exact absurd hg0 (hno _)
    · rw [hE.cK6_, e2] at hk1
      have ek : k1 = k0 := by omega
      subst ek
      rw [hE.rmP_, hE.riQ_, hE.poP_, e29] at hgd hmin
      rw [hE.aQ_] at hmin
      rw [hE.aQ_]
      have hf1 : ∀ k, k < k1 → 0 ≤ M1 69 k ∧ M1 69 k < 8 := fun k hk => by
        have q0 : 0 ≤ M1 69 k ∧ M1 69 k < N 39 29 := hgd.1 k hk (tb_all.mpr hk)
        omega
      have ew : w = wF (aQ N d) (fun k : Nat => M1 69 k) k1 := by
        have r1 := hbm _ hgd
        rw [wF_s] at r1
        have r2 := hmin f0 hg0
        omega
      have hwe := wF_d (a := aQ N d) hK6 hf1
      rw [← ew] at hwe
      have ef : ∀ k, k < k1 → M1 69 k = f0 k := fun k hk => by rw [← hwe.2 k hk]; exact hwd.2 k hk
      have e67 : ∀ k : Nat, k < k1 → M1 67 k = whK N d k := fun k hk => by rw [w67 k hk]; exact hE.whK_ d k
      rw [← hwe.1, stM_e (w' := fun k : Nat => whK N d k) (f' := f0) k1 (fun k hk => ⟨e67 k hk, ef k hk⟩)]
      have mo : ∀ a : Nat, 39 < a → a < 88 → (a < 67 ∨ 73 < a) → M a = N a := fun a h1 h2 h3 => by
        rw [hM.1 a (by omega) (by omega), w1.1 a (by omega), hE a (by omega) h2]
      have m9 : ∀ j : Int, j ≠ 41 ∧ j ≠ 49 → M 39 j = N 39 j := fun j hj => by
        rw [hM.2.1 j hj.2, w1.2.1 j hj, hE 39 (by decide) (by decide)]
      have po : ∀ a : Nat, a < 39 → (a < 25 ∨ 29 < a) → N2 a = N a := fun a h1 h2 => by
        rw [n2c a (by omega), hf.1 a h2]
      have ph : ∀ (a : Nat) (x : Int), 88 ≤ a → (∀ p : Nat, p < (N1 39 2).toNat → ¬ (a = (N1 5 p).toNat ∧ x = 7)) → N2 a x = N a x := fun a x h1 h2 => by
        rw [hn.1 a x h2, hf.1 a (by omega)]
      obtain ⟨y1, y2, y3⟩ := jx_came (s := s) (N2 := mix N2 M) hI hy sK.rf ⟨fun a x => by
          by_cases q : 39 ≤ a ∧ a < 88
          · rw [mix_i q.1 q.2]; exact hM.2.2.2.2.2 a x
          · rw [mix_o (by omega)]; exact hR2 a x, fun a ha x => by
          rw [mix_o (by omega), ph a x (by omega) (fun p p1 p2 => by have := hPp p p1; omega)]
          exact hI.2.1.2 a ha x⟩ (fun a ha => by
          by_cases q : 39 ≤ a
          · rw [mix_i q (by omega)]; exact mo a (by omega) (by omega) (by omega)
          · rw [mix_o (by omega)]; exact po a (by omega) (by omega)) (fun j hj => by rw [mix_i (by decide) (by decide)]; exact m9 j hj) (fun j _ => by rw [mix_o (by decide), po 3 (by decide) (by decide)]) (fun a h1 h2 h3 => by
          rw [mix_o (by omega)]
          funext x
          refine ph a x h1 (fun p p1 p2 => ?_)
          have := (hPp p p1).2.2
          rw [← p2.1] at this
          exact h3 this) rfl (by rw [mix_i (by decide) (by decide)]; exact hM.2.2.1) (fun i a h1 h2 ha => by
          have hai : (N1 5 i).toNat = a := by rw [h5, ha.2.2.1]; omega
          have h88 := ha.1
          have hp7 := hn.2 i.toNat (by omega)
          rw [z_cast h1, hai] at hp7
          rw [mix_o (by omega), mix_i (by decide) (by decide)]
          refine ⟨fun x hx => ph a x h88 (fun p _ p2 => hx p2.2), ?_⟩
          rw [hp7, hM.2.2.2.1 i h1 (by omega)]) (fun i h1 h2 => by rw [mix_i (by decide) (by decide)]; exact hM.2.2.2.1 i (by omega) h2)
      obtain ⟨sa', z1, z2, z3, _⟩ := hall M y1 y2 (fun k hk => by
          rw [mix_i (by decide) (by decide), m9 2 (by decide)]; exact (hkc k hk).1) (fun k hk => by
          rw [mix_i (by decide) (by decide), m9 29 (by decide)]; exact hg0.1 k hk (tb_all.mpr hk)) (fun k hk => by
          show (N1 5 (N1 26 k)).toNat = _
          rw [n2c 5 (by decide), h26 k hk]) (fun k l hk hl he => whK_i (N := N) (d := d) (by omega) (by omega) he) (fun k hk => by
          rw [boundS_k (N := N) (fun b hb => by
            simp only [List.mem_cons, List.not_mem_nil, or_false] at hb
            rw [mix_i (by omega) (by omega)]
            exact mo b (by omega) (by omega) (by omega)) (fun x hx => by
            simp only [List.mem_cons, List.not_mem_nil, or_false] at hx
            rw [mix_i (by decide) (by decide)]
            exact m9 x (by omega))]
          exact (hkc k hk).2.2.2) hM.2.2.1 (by rw [m9 31 (by decide)]; omega) (by omega) ha0 k1 (Nat.le_refl _)
      rw [hST] at z1 z2 z3
      have hF : stM d (fun k : Nat => whK N d k) f0 M k1 = mix ST.2 (stM d (fun k : Nat => whK N d k) f0 M k1) := by
        funext a
        by_cases q : 39 ≤ a ∧ a < 88
        · rw [mix_i q.1 q.2]
        · rw [mix_o (by omega), (stM_f k1).1 a (by omega), hM.1 a (by omega) (by omega), w1.1 a (by omega)]
      rw [hF]
      exact hq _ _ ⟨fa, sa', z1, z2, by omega, by
        refine ⟨?_, ?_⟩
        · rw [q1]; omega
        · rw [q2]; omega⟩
end FI17
