/-! making whole, 6 (printed by wip/whole/gen/f6.py) -/
section FI6
variable {X : zX} {s : zK} {N : zN} {σ : zS} {fa sa : Int → Int} {Q K : Option Value → zS → Prop} {c : Int}
theorem eM.kinIn_ {N' : zN} (h : eM N N') (w g d : Int) : kinIn N' w g d = kinIn N w g d := by
  unfold kinIn kinP
  rw [h 46 (by decide) (by decide), h.at 39 (by decide) (by decide) 2]
  simp only [h.memb_]
theorem eM.askV_ {N' : zN} (h : eM N N') (w g d : Int) : askV N' w g d = askV N w g d := by
  unfold askV
  rw [h.kinIn_, h 40 (by decide) (by decide), h 44 (by decide) (by decide), h 58 (by decide) (by decide)]
theorem eM.riP_ {N' : zN} (h : eM N N') (d g : Int) : riP N' d g = riP N d g := by
  unfold riP
  rw [h 45 (by decide) (by decide), h.at 39 (by decide) (by decide) 2]
  simp only [h.memb_]
noncomputable def aQ (N : zN) (d : Int) (k : Nat) (g : Int) : Int := zif ((k : Int) < cK6 N d (N 39 2).toNat ∧ g < N 39 29) (askV N (whK N d k) g d) 0
theorem aQ_r (hm : mI N) (hln : yLn N) {d : Int} (k : Nat) {g : Int} (hg : 0 ≤ g) : 0 ≤ aQ N d k g ∧ aQ N d k g ≤ 104 := by
  unfold aQ
  by_cases hq : (k : Int) < cK6 N d (N 39 2).toNat ∧ g < N 39 29
  · rw [zif_t hq]
    exact askV_r hm hln (whK_p hq.1).1 ⟨hg, hq.2⟩
  · rw [zif_f hq]; omega
theorem aQ_t {d : Int} {k : Nat} {g : Int} (h : (k : Int) < cK6 N d (N 39 2).toNat) (hg : g < N 39 29) : aQ N d k g = askV N (whK N d k) g d := zif_t ⟨h, hg⟩
theorem bi_z {p : Prop} : bi p = 0 ↔ ¬ p := by
  by_cases h : p
  · rw [bi_t h]; exact ⟨fun q => by omega, fun q => absurd h q⟩
  · rw [bi_f h]; exact ⟨fun _ => h, fun _ => rfl⟩
theorem x_membersOfE (hI : xI s N fa sa) {g : Int} (hg : 0 ≤ g ∧ g < 8) {d v : Int} (hd : 0 ≤ d ∧ d ≤ 9999) (hv : mems N g d = v) (h : Q (some (vi v)) (zI s N)) : zC X m_X11_membersOf [.ref 3, vi g, vi d] (zI s N) Q := x_membersOf hI hg hd (by rw [hv]; exact h)
theorem bOK_init {a : Nat → Int → Int} {rm : Int → Int} {ri : Int → Prop} {po : Nat → Prop} {K m : Nat} (hm : m < 2 ^ K) {v : Int} (h0 : m = 0 → v = 0) (h1 : m ≠ 0 → v = IMP) : bOK a rm ri po K 0 m v := by
  by_cases h : m = 0
  · rw [h, h0 h]
    have e : ∀ f, wSum a (tb 0) f K = 0 := fun f => by
      unfold wSum
      rw [sumK_c (g := fun _ => 0) (fun k _ => zif_f (by simp [tb]))]
      exact sumK_z (m := 0) K (Nat.zero_le K) (fun _ _ _ => rfl)
    exact ⟨fun f _ => by rw [e]; exact Int.le_refl _, Or.inr ⟨fun _ => 0, ⟨fun k _ hs => absurd hs (by simp [tb]), fun x h2 h3 _ => by omega⟩, (e _).symm⟩⟩
  · refine ⟨fun f hf => ?_, Or.inl (h1 h)⟩
    obtain ⟨k, hk⟩ := Nat.exists_testBit_of_ne_zero h
    have := hf.1 k (tb_lt hm hk) hk
    omega
set_option maxRecDepth 20000 in
set_option maxHeartbeats 2000000 in
theorem x_offerGroup (hI : xI s N fa sa) (hy : yI N) {N1 : zN} (hf : flF N N1) {d : Int} (hd : 0 ≤ d ∧ d ≤ 9999) {K : Nat} (hKc : (K : Int) = cK6 N d (N 39 2).toNat) (hK6 : K ≤ 6) (hK : N1 25 2 = K) {ps : Nat} (hp : N1 25 3 = ps) (hps : ps < 2 ^ K) (hpo : ∀ k : Nat, k < K → (tb ps k ↔ poP N d k)) (hwh : ∀ k : Nat, k < K → N1 26 k = whK N d k) {g : Int} (hg : 0 ≤ g ∧ g < N 39 29) (hbest : ∀ m : Nat, m < 2 ^ K → bOK (aQ N d) (rmP N d) (riP N d) (poP N d) K g m (N1 29 m)) (h : ∀ N2, flF N N2 → N2 25 = N1 25 → N2 26 = N1 26 → (∀ m : Nat, m < 2 ^ K → bOK (aQ N d) (rmP N d) (riP N d) (poP N d) K (g + 1) m (N2 29 m)) → Q none (zI s N2)) : zC X m_X11_offerGroup [.ref 3, vi g, vi d] (zI s N1) Q := by
  have hB := hI.B
  have hR := hI.R
  have hC := hI.C
  unfold mCnt at hC
  have hm := hI.m
  obtain ⟨e1, e5, e7, e8, e10, e11, e3, e12, eh, eg, ef, et⟩ := hI.hs
  have hln := hy.2.2.2.2.1
  have hmr := mems_r hI.m g d
  have hrm : -100 ≤ rmP N d g ∧ rmP N d g ≤ 100 := by unfold rmP; omega
  have hg8' : N 39 29 ≤ 8 := by have := hI.m; omega
  show zE X m_X11_offerGroup 0 [.ref 3, vi g, vi d, zU] [] _ Q
  refine e_iconst q_X11_offerGroup_0 ?_
  refine e_istore_n (ls' := [_, _, _, _]) q_X11_offerGroup_1 (by decide) rfl rfl ?_
  refine zEe (ls := [.ref 3, vi g, vi d, vi ((0 : Nat) : Int)]) (σ := zI s N1) ?_ rfl rfl
  refine z_for (P := fun i => ∀ (N2 : zN), ((∀ c0 : Nat, c0 ≠ 27 → N2 c0 = N1 c0) ∧ (∀ k : Nat, k < i → N2 27 k = aQ N d k g) ∧ ∀ c0 x, zr (N2 c0 x)) → zE X m_X11_offerGroup 2 [.ref 3, vi g, vi d, vi (i : Int)] [] (zI s N2) Q) K (fun i hi ih N2 hv => ?_) (fun N2 hv => ?_) N1 ⟨fun _ _ => rfl, fun k hk => by omega, hf.2⟩
  · skip
    have hf2 : flF N N2 := ⟨fun a0 h1 => (hv.1 a0 (by omega)).trans (hf.1 a0 h1), hv.2.2⟩
    have hI2 := (hI.fl hy hf2).1
    have hy2 := (hI.fl hy hf2).2.1
    have hE2 := hf2.e
    have e2 : N2 25 2 = K := (congrFun (hv.1 25 (by decide)) 2).trans hK
    have e29 : N2 39 29 = N 39 29 := hE2.at 39 (by decide) (by decide) 29
    have e392 : N2 39 2 = N 39 2 := hE2.at 39 (by decide) (by decide) 2
    have hg8 : N 39 29 ≤ 8 := hg8'
    have hR2 := hv.2.2
    refine e_iload_n q_X11_offerGroup_2 (by decide) rfl ?_
    refine e_aload_n q_X11_offerGroup_3 (by decide) rfl ?_
    refine i_getC (r := 25) q_X11_offerGroup_4 fl_X11_74 (a3 hB) rfl (by decide) ?_
    refine i_getI (k' := 2) q_X11_offerGroup_7 fl_X11_272 (a25 hB) rfl rfl rfl e2 ?_
    refine e_icmp_ge q_X11_offerGroup_10 (by constructor <;> omega) (by constructor <;> omega) (fun c10 => ?_) (fun c10 => ?_)
    · skip
      exact absurd c10 (by omega)
    · skip
      refine e_aload_n q_X11_offerGroup_13 (by decide) rfl ?_
      refine i_getC (r := 25) q_X11_offerGroup_14 fl_X11_74 (a3 hB) rfl (by decide) ?_
      refine i_getC (r := 27) q_X11_offerGroup_17 fl_X11_435 (a25 hB) rfl (by decide) ?_
      refine e_iload_n q_X11_offerGroup_20 (by decide) rfl ?_
      refine e_aload_n q_X11_offerGroup_21 (by decide) rfl ?_
      refine e_aload_n q_X11_offerGroup_22 (by decide) rfl ?_
      refine i_getC (r := 25) q_X11_offerGroup_23 fl_X11_74 (a3 hB) rfl (by decide) ?_
      refine i_getC (r := 26) q_X11_offerGroup_26 fl_X11_438 (a25 hB) rfl (by decide) ?_
      refine e_iload_n q_X11_offerGroup_29 (by decide) rfl ?_
      refine i_iald q_X11_offerGroup_30 (a26 hB) (fun _ => rfl) (by first | omega | assumption) (by first | omega | assumption) (by decide) ((congrFun (hv.1 26 (by decide)) i).trans (hwh i (by omega))) ?_
      refine e_iload_n q_X11_offerGroup_31 (by decide) rfl ?_
      refine e_iload_n q_X11_offerGroup_32 (by decide) rfl ?_
      refine iv_X11_askedOf q_X11_offerGroup_33 lk_X11_440 (by decide) (a3 hB) (Nat.le_of_ble_eq_true rfl) ?_
      refine x_askedOf hI2 hy2.2.2.2.2.1 (by rw [e392]; exact (whK_p (by omega)).1) (by omega) hd ?_
      refine i_iast q_X11_offerGroup_36 (a27 hB) (fun _ => rfl) (by first | omega | assumption) (by first | omega | assumption) (by decide) ?_
      refine e_iinc (ls' := [_, _, _, _]) q_X11_offerGroup_37 (by decide) rfl rfl rfl ?_
      refine e_goto q_X11_offerGroup_40 ?_
      have hwk := whK_p (N := N) (d := d) (k := i) (by omega)
      refine ih _ ⟨fun c0 h1 => ?_, fun k hk => ?_, zr_mup hv.2.2 ?_⟩
      · rw [mup_fn h1]; exact hv.1 c0 h1
      · by_cases hki : k = i
        · rw [hki, mup_self, aQ_t (by omega) hg.2]
          exact hE2.askV_ _ _ _
        · rw [mup_slot (by omega)]
          exact hv.2.1 k (by omega)
      · have h5 := askV_r hI.m hln (d := d) (w := whK N d i) (g := g) hwk.1 hg
        rw [hE2.askV_]
        constructor <;> omega
  · skip
    have hf2 : flF N N2 := ⟨fun a0 h1 => (hv.1 a0 (by omega)).trans (hf.1 a0 h1), hv.2.2⟩
    have hI2 := (hI.fl hy hf2).1
    have hy2 := (hI.fl hy hf2).2.1
    have hE2 := hf2.e
    have e2 : N2 25 2 = K := (congrFun (hv.1 25 (by decide)) 2).trans hK
    have e29 : N2 39 29 = N 39 29 := hE2.at 39 (by decide) (by decide) 29
    have e392 : N2 39 2 = N 39 2 := hE2.at 39 (by decide) (by decide) 2
    have hg8 : N 39 29 ≤ 8 := hg8'
    have hR2 := hv.2.2
    refine e_iload_n q_X11_offerGroup_2 (by decide) rfl ?_
    refine e_aload_n q_X11_offerGroup_3 (by decide) rfl ?_
    refine i_getC (r := 25) q_X11_offerGroup_4 fl_X11_74 (a3 hB) rfl (by decide) ?_
    refine i_getI (k' := 2) q_X11_offerGroup_7 fl_X11_272 (a25 hB) rfl rfl rfl e2 ?_
    refine e_icmp_ge q_X11_offerGroup_10 (by constructor <;> omega) (by constructor <;> omega) (fun c10 => ?_) (fun c10 => ?_)
    · skip
      refine e_aload_n q_X11_offerGroup_43 (by decide) rfl ?_
      refine i_getC (r := 25) q_X11_offerGroup_44 fl_X11_74 (a3 hB) rfl (by decide) ?_
      refine e_iload_n q_X11_offerGroup_47 (by decide) rfl ?_
      refine e_bipush q_X11_offerGroup_48 (by decide) ?_
      refine e_aload_n q_X11_offerGroup_50 (by decide) rfl ?_
      refine e_iload_n q_X11_offerGroup_51 (by decide) rfl ?_
      refine e_iload_n q_X11_offerGroup_52 (by decide) rfl ?_
      refine iv_X11_membersOf q_X11_offerGroup_53 lk_X11_224 (by decide) (a3 hB) (Nat.le_of_ble_eq_true rfl) ?_
      refine x_membersOfE hI2 (by omega) hd (hE2.mems_ g d) ?_
      refine e_isub q_X11_offerGroup_56 ?_
      refine e_aload_n q_X11_offerGroup_57 (by decide) rfl ?_
      refine e_iload_n q_X11_offerGroup_58 (by decide) rfl ?_
      refine e_iload_n q_X11_offerGroup_59 (by decide) rfl ?_
      refine iv_X11_hasWealth q_X11_offerGroup_60 lk_X11_444 (by decide) (a3 hB) (Nat.le_of_ble_eq_true rfl) ?_
      refine x_hasWealth hI2 (by omega) hd ?_
      refine iv_X1_offer q_X11_offerGroup_63 lk_X11_447 (by decide) (a25 hB) (Nat.le_of_ble_eq_true rfl) ?_
      refine x_offer (a := aQ N d) (rm := rmP N d) (ri := riP N d) (po := poP N d) (K := K) (ps := ps) hB hR2 (fun k g2 _ h2 _ => aQ_r hI.m hln k h2) e2 hK6 ((congrFun (hv.1 25 (by decide)) 3).trans hp) hps hpo (by omega) hv.2.1 hrm (by have := bi_r (riP N2 d g); omega) (by rw [hE2.riP_]; exact bi_z) (fun m hm => by rw [hv.1 29 (by decide)]; exact hbest m hm) (fun N3 k1 k2 k3 => ?_)
      refine e_return q_X11_offerGroup_66 rfl ?_
      exact h N3 ⟨fun a0 h1 => (k1 a0 (by omega) (by omega)).trans (hf2.1 a0 h1), k3⟩ ((k1 25 (by decide) (by decide)).trans (hv.1 25 (by decide))) ((k1 26 (by decide) (by decide)).trans (hv.1 26 (by decide))) k2
    · skip
      exact absurd (by omega) c10
end FI6
