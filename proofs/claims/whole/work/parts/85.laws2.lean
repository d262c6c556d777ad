/-! the laws, both (printed by wip/whole/gen/l8.py) -/
section LT8
variable {X : zX} {s : zK} {N : zN} {σ : zS} {fa sa : Int → Int} {Q K : Option Value → zS → Prop} {c : Int}
theorem cl_or (T : Int → Int) (L p : Int) : clGood T L p ∨ ∃ F, clBad T L p F := by
  by_cases h1 : cK T L p < 0
  · exact Or.inr ⟨_, Or.inl ⟨h1, rfl⟩⟩
  · by_cases h2 : nOK T L (cQ T L p + 1)
    · by_cases h3 : cK T L p = 3
      · by_cases h4 : 1 ≤ nV T L (cQ T L p + 1) ∧ nV T L (cQ T L p + 1) ≤ 9
        · exact Or.inl (Or.inl ⟨h3, h2, h4⟩)
        · exact Or.inr ⟨_, Or.inr (Or.inr (Or.inl ⟨h3, h2, h4, rfl⟩))⟩
      · have hb := cK_b T L p
        have hk : 0 ≤ cK T L p ∧ cK T L p < 3 := by omega
        by_cases h4 : nV T L (cQ T L p + 1) ≤ 99
        · by_cases h5 : spE T L (nE T L (cQ T L p + 1)) < L ∧ T (spE T L (nE T L (cQ T L p + 1))) = 45
          · by_cases h6 : nOK T L (spE T L (nE T L (cQ T L p + 1)) + 1)
            · by_cases h7 : nV T L (cQ T L p + 1) ≤ nV T L (spE T L (nE T L (cQ T L p + 1)) + 1) ∧ nV T L (spE T L (nE T L (cQ T L p + 1)) + 1) ≤ 99
              · exact Or.inl (Or.inr ⟨hk, h2, h4, h5, h6, h7⟩)
              · exact Or.inr ⟨_, Or.inr (Or.inr (Or.inr (Or.inr (Or.inr (Or.inr ⟨hk, h2, h4, h5, h6, h7, rfl⟩)))))⟩
            · exact Or.inr ⟨_, Or.inr (Or.inr (Or.inr (Or.inr (Or.inr (Or.inl ⟨hk, h2, h4, h5, h6, rfl⟩)))))⟩
          · exact Or.inr ⟨_, Or.inr (Or.inr (Or.inr (Or.inr (Or.inl ⟨hk, h2, h4, h5, rfl⟩))))⟩
        · exact Or.inr ⟨_, Or.inr (Or.inr (Or.inr (Or.inl ⟨hk, h2, h4, rfl⟩)))⟩
    · exact Or.inr ⟨_, Or.inr (Or.inl ⟨by omega, h2, rfl⟩)⟩
theorem lwN_b {T : Int → Int} {L : Int} (h2 : L ≤ 40) : ∀ (n : Nat) (q p : Int), 0 ≤ p → p ≤ L → 0 ≤ q → -60 ≤ lwN T L n q p ∧ lwN T L n q p ≤ q + n
  | 0, q, p, h0, h1, hq => by
    rw [lwN]
    omega
  | n + 1, q, p, h0, h1, hq => by
    rw [lwN]
    rcases cl_or T L p with hg | ⟨F, hb⟩
    · have hgb := clGood_b h0 h1 h2 hg
      have hcb := nQ_b (T := T) (p := clP T L p) (by omega) (by omega) h2
      have hcb : clP T L p ≤ cE T L p ∧ cE T L p ≤ L := hcb
      rw [if_neg (by rw [clF_good hg]; omega)]
      by_cases h3 : cE T L p < L
      · rw [zif_t h3]
        by_cases h4 : T (cE T L p) = 59 ∧ n ≠ 0
        · rw [zif_t h4]
          have := lwN_b (T := T) h2 n (q + 1) (cE T L p + 1) (by omega) (by omega) (by omega)
          omega
        · rw [zif_f h4]
          omega
      · rw [zif_f h3]
        omega
    · have hFb := clBad_b h0 h1 h2 hb
      rw [clF_bad hb, if_pos hFb.1]
      omega
theorem lwD_z {T : Int → Int} {L : Int} (h2 : L ≤ 40) : ∀ (n : Nat) (p : Int) (d : dT), 0 ≤ p → p ≤ L → (∀ k, zr (d.1 k) ∧ zr (d.2.1 k)) → zr d.2.2 → (∀ k, zr ((lwD T L n p d).1 k) ∧ zr ((lwD T L n p d).2.1 k)) ∧ zr (lwD T L n p d).2.2
  | 0, p, d, _, _, hd, he => by
    rw [lwD]
    exact ⟨hd, he⟩
  | n + 1, p, d, h0, h1, hd, he => by
    rw [lwD]
    rcases cl_or T L p with hg | ⟨F, hb⟩
    · have hgb := clGood_b h0 h1 h2 hg
      have hcb := nQ_b (T := T) (p := clP T L p) (by omega) (by omega) h2
      have hcb : clP T L p ≤ cE T L p ∧ cE T L p ≤ L := hcb
      rw [if_neg (by rw [clF_good hg]; omega)]
      have hu : (∀ k, zr ((upD T L p d).1 k) ∧ zr ((upD T L p d).2.1 k)) ∧ zr (upD T L p d).2.2 := by
        unfold upD
        by_cases hk : cK T L p = 3
        · rw [if_pos hk]
          have := hgb.2.2.1 hk
          exact ⟨hd, by show zr (clA T L p); constructor <;> omega⟩
        · rw [if_neg hk]
          have := hgb.2.2.2 hk
          refine ⟨fun k => ?_, he⟩
          show zr (if k = cK T L p then clA T L p else d.1 k) ∧ zr (if k = cK T L p then clB T L p else d.2.1 k)
          by_cases hkk : k = cK T L p
          · rw [if_pos hkk, if_pos hkk]
            constructor <;> constructor <;> omega
          · rw [if_neg hkk, if_neg hkk]
            exact hd k
      by_cases h3 : cE T L p < L ∧ T (cE T L p) = 59 ∧ n ≠ 0
      · rw [zif_t h3]
        exact lwD_z h2 n _ _ (by omega) (by omega) hu.1 hu.2
      · rw [zif_f h3]
        exact hu
    · have hFb := clBad_b h0 h1 h2 hb
      rw [clF_bad hb, if_pos hFb.1]
      exact ⟨hd, he⟩
theorem endR_g {P : Int → Prop} {L p : Int} (h0 : 0 ≤ p) (h2 : L ≤ 40) : p ≤ endR P L p ∧ ∀ j : Int, p ≤ j → j < endR P L p → j < L ∧ P j := by
  have hex : ¬ fstK (fun k : Nat => ¬ (p + k < L ∧ P (p + k))) 41 < 0 := fun q => fstK_neg q (L - p).toNat (by omega) (fun r => by have := r.1; omega)
  have hp := fstK_p (p := fun k : Nat => ¬ (p + k < L ∧ P (p + k))) (n := 41) (by omega)
  unfold endR
  refine ⟨by omega, fun j hj hj2 => ?_⟩
  have h3 := hp.2 (j - p).toNat (by omega)
  have h4 : p + ((j - p).toNat : Int) < L ∧ P (p + ((j - p).toNat : Int)) := Classical.byContradiction h3
  rw [show p + ((j - p).toNat : Int) = j by omega] at h4
  exact h4
section TC
variable {T T' : Int → Int} {L : Int}
theorem spE_c (h : ∀ x : Int, 0 ≤ x → x < L → T x = T' x) {p : Int} (h0 : 0 ≤ p) : spE T L p = spE T' L p := by
  unfold spE
  exact endR_c (fun x a b => by rw [h x a b]) h0
theorem spE_0 {p : Int} (h2 : L ≤ 40) (h0 : 0 ≤ p) : 0 ≤ spE T L p := by
  have := (endR_g (P := fun x => T x = 32) (L := L) h0 h2).1
  unfold spE
  omega
theorem nQ_c (h : ∀ x : Int, 0 ≤ x → x < L → T x = T' x) {p : Int} (h0 : 0 ≤ p) : nQ T L p = nQ T' L p := spE_c h h0
theorem nOK_c (h : ∀ x : Int, 0 ≤ x → x < L → T x = T' x) (h2 : L ≤ 40) {p : Int} (h0 : 0 ≤ p) : nOK T L p = nOK T' L p := by
  unfold nOK
  rw [← nQ_c h h0]
  have this : 0 ≤ nQ T L p := spE_0 (T := T) h2 h0
  refine propext ⟨fun q => ⟨q.1, by rw [← h _ this q.1]; exact q.2⟩, fun q => ⟨q.1, by rw [h _ this q.1]; exact q.2⟩⟩
theorem nE_c (h : ∀ x : Int, 0 ≤ x → x < L → T x = T' x) (h2 : L ≤ 40) {p : Int} (h0 : 0 ≤ p) : nE T L p = nE T' L p := by
  unfold nE dgE
  rw [← nQ_c h h0]
  exact endR_c (fun x a b => by rw [h x a b]) (spE_0 (T := T) h2 h0)
theorem nE_0 (h2 : L ≤ 40) {p : Int} (h0 : 0 ≤ p) : 0 ≤ nE T L p := by
  have h1 := spE_0 (T := T) h2 h0
  have := (endR_g (P := fun x => isDg (T x)) (L := L) (p := nQ T L p) h1 h2).1
  unfold nE dgE
  have h1 : 0 ≤ nQ T L p := h1
  omega
theorem vMk_c {p : Int} : ∀ k : Nat, (∀ j : Nat, j < k → T (p + j) = T' (p + j)) → vMk T p k = vMk T' p k
  | 0, _ => rfl
  | k + 1, h => by rw [vMk, vMk, vMk_c k (fun j hj => h j (by omega)), h k (by omega)]
theorem nV_c (h : ∀ x : Int, 0 ≤ x → x < L → T x = T' x) (h2 : L ≤ 40) {p : Int} (h0 : 0 ≤ p) : nV T L p = nV T' L p := by
  unfold nV
  rw [← nQ_c h h0, ← nE_c h h2 h0]
  have h1 := spE_0 (T := T) h2 h0
  have h1 : 0 ≤ nQ T L p := h1
  refine vMk_c _ (fun j hj => ?_)
  have := (endR_g (P := fun x => isDg (T x)) (L := L) (p := nQ T L p) h1 h2).2 (nQ T L p + j) (by omega) (by show nQ T L p + (j : Int) < nE T L p; omega)
  exact h _ (by omega) this.1
theorem cQ_c (h : ∀ x : Int, 0 ≤ x → x < L → T x = T' x) {p : Int} (h0 : 0 ≤ p) : cQ T L p = cQ T' L p := spE_c h h0
theorem cK_c (h : ∀ x : Int, 0 ≤ x → x < L → T x = T' x) (h2 : L ≤ 40) {p : Int} (h0 : 0 ≤ p) : cK T L p = cK T' L p := by
  unfold cK
  rw [← cQ_c h h0]
  have h1 : 0 ≤ cQ T L p := spE_0 (T := T) h2 h0
  by_cases q : cQ T L p < L
  · rw [zif_t q, zif_t q, h _ h1 q]
  · rw [zif_f q, zif_f q]
theorem s45_c (h : ∀ x : Int, 0 ≤ x → x < L → T x = T' x) {q : Int} (hq : 0 ≤ q) : (q < L ∧ T q = 45) = (q < L ∧ T' q = 45) := propext ⟨fun r => ⟨r.1, by rw [← h q hq r.1]; exact r.2⟩, fun r => ⟨r.1, by rw [h q hq r.1]; exact r.2⟩⟩
theorem cl_c (h : ∀ x : Int, 0 ≤ x → x < L → T x = T' x) (h2 : L ≤ 40) {p : Int} (h0 : 0 ≤ p) : clF T L p = clF T' L p ∧ clA T L p = clA T' L p ∧ clB T L p = clB T' L p ∧ clP T L p = clP T' L p := by
  have k1 : 0 ≤ cQ T' L p := spE_0 (T := T') h2 h0
  have k2 : 0 ≤ nE T' L (cQ T' L p + 1) := nE_0 h2 (by omega)
  have k3 : 0 ≤ spE T' L (nE T' L (cQ T' L p + 1)) := spE_0 h2 k2
  have a1 := cQ_c h h0
  have a2 := cK_c h h2 h0
  have a3 : nOK T L (cQ T' L p + 1) = nOK T' L (cQ T' L p + 1) := nOK_c h h2 (by omega)
  have a4 : nV T L (cQ T' L p + 1) = nV T' L (cQ T' L p + 1) := nV_c h h2 (by omega)
  have a5 : nQ T L (cQ T' L p + 1) = nQ T' L (cQ T' L p + 1) := nQ_c h (by omega)
  have a6 : nE T L (cQ T' L p + 1) = nE T' L (cQ T' L p + 1) := nE_c h h2 (by omega)
  have a7 : spE T L (nE T' L (cQ T' L p + 1)) = spE T' L (nE T' L (cQ T' L p + 1)) := spE_c h k2
  have a8 : nOK T L (spE T' L (nE T' L (cQ T' L p + 1)) + 1) = nOK T' L (spE T' L (nE T' L (cQ T' L p + 1)) + 1) := nOK_c h h2 (by omega)
  have a9 : nV T L (spE T' L (nE T' L (cQ T' L p + 1)) + 1) = nV T' L (spE T' L (nE T' L (cQ T' L p + 1)) + 1) := nV_c h h2 (by omega)
  have a10 : nQ T L (spE T' L (nE T' L (cQ T' L p + 1)) + 1) = nQ T' L (spE T' L (nE T' L (cQ T' L p + 1)) + 1) := nQ_c h (by omega)
  have a11 : nE T L (spE T' L (nE T' L (cQ T' L p + 1)) + 1) = nE T' L (spE T' L (nE T' L (cQ T' L p + 1)) + 1) := nE_c h h2 (by omega)
  have a12 := s45_c h k3
  refine ⟨?_, ?_, ?_, ?_⟩
  · unfold clF
    rw [a1, a2, a3, a4, a5, a6, a7, a8, a9, a10, a12]
  · unfold clA
    rw [a1, a4]
  · unfold clB
    rw [a1, a6, a7, a9]
  · unfold clP
    rw [a1, a2, a6, a7, a11]
theorem tape_c (h : ∀ x : Int, 0 ≤ x → x < L → T x = T' x) (h2 : L ≤ 40) : (∀ (n : Nat) (q p : Int), 0 ≤ p → p ≤ L → lwN T L n q p = lwN T' L n q p) ∧ ∀ (n : Nat) (p : Int) (d : dT), 0 ≤ p → p ≤ L → lwD T L n p d = lwD T' L n p d := by
  have hE : ∀ p : Int, 0 ≤ p → p ≤ L → clF T' L p < 0 → cE T L p = cE T' L p ∧ 0 ≤ cE T' L p ∧ cE T' L p ≤ L := by
    intro p h0 h1 hf
    have e := (cl_c h h2 h0).2.2.2
    rcases cl_or T' L p with hg | ⟨F, hb⟩
    · have hgb := clGood_b h0 h1 h2 hg
      have hcb := nQ_b (T := T') (p := clP T' L p) (by omega) (by omega) h2
      have hcb : clP T' L p ≤ cE T' L p ∧ cE T' L p ≤ L := hcb
      refine ⟨?_, by omega, by omega⟩
      unfold cE
      rw [e]
      exact spE_c h (by omega)
    · have := clBad_b h0 h1 h2 hb
      rw [clF_bad hb] at hf
      omega
  have hs : ∀ q : Int, 0 ≤ q → ∀ n : Nat, (q < L ∧ T q = 59 ∧ n ≠ 0) = (q < L ∧ T' q = 59 ∧ n ≠ 0) := fun q hq n => propext ⟨fun r => ⟨r.1, by rw [← h q hq r.1]; exact r.2⟩, fun r => ⟨r.1, by rw [h q hq r.1]; exact r.2⟩⟩
  constructor
  · intro n
    induction n with
    | zero => intro q p _ _; rfl
    | succ n ih =>
      intro q p h0 h1
      rw [lwN, lwN, (cl_c h h2 h0).1]
      by_cases hf : 0 ≤ clF T' L p
      · rw [if_pos hf, if_pos hf]
      · rw [if_neg hf, if_neg hf]
        obtain ⟨e1, e2, e3⟩ := hE p h0 h1 (by omega)
        rw [e1]
        by_cases h3 : cE T' L p < L
        · rw [zif_t h3, zif_t h3, h _ e2 h3, ih (q + 1) (cE T' L p + 1) (by omega) (by omega)]
        · rw [zif_f h3, zif_f h3]
  · intro n
    induction n with
    | zero => intro p d _ _; rfl
    | succ n ih =>
      intro p d h0 h1
      have eu : upD T L p d = upD T' L p d := by
        unfold upD
        rw [cK_c h h2 h0, (cl_c h h2 h0).2.1, (cl_c h h2 h0).2.2.1]
      rw [lwD, lwD, (cl_c h h2 h0).1]
      by_cases hf : 0 ≤ clF T' L p
      · rw [if_pos hf, if_pos hf]
      · rw [if_neg hf, if_neg hf]
        obtain ⟨e1, e2, e3⟩ := hE p h0 h1 (by omega)
        rw [e1, eu, hs _ e2 n]
        by_cases h3 : cE T' L p < L ∧ T' (cE T' L p) = 59 ∧ n ≠ 0
        · rw [zif_t h3, zif_t h3, ih (cE T' L p + 1) _ (by omega) (by omega)]
        · rw [zif_f h3, zif_f h3]
end TC
set_option maxRecDepth 20000 in
set_option maxHeartbeats 2000000 in
theorem x_laws {T : Int → Int} {L : Int} (ht : tpS s N T L) (hR : ∀ a x, zr (N a x)) {D D' : Nat} (hDD : ((D = 14 ∧ D' = 17) ∨ (D = 17 ∧ D' = 14))) (hD : N 3 14 = D) (hD' : N 3 13 = D') (h1 : (lwN T L 4 0 0) ≤ 0 → ∀ N1 : zN, (∀ a : Nat, a ≠ 12 → a ≠ D → a ≠ D + 1 → a ≠ D + 2 → N1 a = N a) → N1 12 1 = 0 → (∀ a x, zr (N1 a x)) → Q (some (vi (lwN T L 4 0 0))) (zI s N1)) (h2 : 0 < (lwN T L 4 0 0) → ∀ N1 : zN, (∀ a : Nat, a ≠ 3 → a ≠ 12 → a ≠ D → a ≠ D + 1 → a ≠ D + 2 → N1 a = N a) → (∀ x : Int, x ≠ 13 → x ≠ 14 → N1 3 x = N 3 x) → N1 3 13 = D → N1 3 14 = D' → N1 12 1 = 0 → lwR N1 D (lwD T L 4 0 dT0) → (∀ a x, zr (N1 a x)) → Q (some (vi (lwN T L 4 0 0))) (zI s N1)) : zC X m_X11_laws [.ref 3] (zI s N) Q := by
  obtain ⟨hB, hT, hL, hL2, hTr⟩ := id ht
  have hDA := lwA.of hB (D := D) (by omega)
  obtain ⟨dD, dA, dB, dC, dc0, dc1, dc2, dcB, dcC⟩ := id hDA
  show zE X m_X11_laws 0 [.ref 3, zU, zU] [] _ Q
  refine e_aload_n q_X11_laws_0 (by decide) rfl ?_
  refine i_getR (k' := 14) q_X11_laws_1 fl_X11_55 (a3 hB) rfl rfl rfl hD (by omega) ?_
  refine iv_X3_clear q_X11_laws_4 lk_X11_198 (by decide) dA (Nat.le_of_ble_eq_true rfl) ?_
  refine x_clear hDA hR (fun N1 hc => ?_)
  refine e_aload_n q_X11_laws_7 (by decide) rfl ?_
  refine i_getC (r := 12) q_X11_laws_8 fl_X11_44 (a3 hB) rfl (by decide) ?_
  refine e_aload_n q_X11_laws_11 (by decide) rfl ?_
  refine i_getR (k' := 14) q_X11_laws_12 fl_X11_55 (a3 hB) rfl rfl rfl ((congrFun (hc.1 3 (by omega) (by omega) (by omega)) 14).trans hD) (by omega) ?_
  refine iv_X10_readInto rfl q_X11_laws_15 lk_X11_201 (by decide) (a12 hB) (Nat.le_of_ble_eq_true rfl) ?_
  refine x_readInto (T := T) (L := L) ⟨hB, (hc.1 13 (by omega) (by omega) (by omega)).trans hT, (congrFun (hc.1 12 (by omega) (by omega) (by omega)) 1).trans hL, hL2, hTr⟩ hDA hc.2.2.2 ⟨hc.2.1, fun k k0 k1 => hc.2.2.1 k k0 (by omega)⟩ (fun N2 hf h121 hr => ?_)
  refine e_istore_n (ls' := [_, _, _]) q_X11_laws_18 (by decide) rfl rfl ?_
  have hRb := lwN_b (T := T) (L := L) hL2.2 4 0 0 (by omega) hL2.1 (by omega)
  have hlow : ∀ a : Nat, a ≠ 12 → a ≠ D → a ≠ D + 1 → a ≠ D + 2 → mup N2 12 1 0 a = N a := fun a g1 g2 g3 g4 => by rw [mup_fn g1, hf.1 a g1 g2 g3 g4, hc.1 a g2 g3 g4]
  have e3 : mup N2 12 1 0 3 = N 3 := hlow 3 (by omega) (by omega) (by omega) (by omega)
  have hz : ∀ a x, zr (mup N2 12 1 0 a x) := zr_mup hf.2 (by constructor <;> omega)
  refine e_aload_n q_X11_laws_19 (by decide) rfl ?_
  refine i_getC (r := 12) q_X11_laws_20 fl_X11_44 (a3 hB) rfl (by decide) ?_
  refine e_iconst q_X11_laws_23 ?_
  refine i_putI (k' := 1) q_X11_laws_24 fl_X11_192 (Or.inl rfl) (a12 hB) rfl rfl rfl rfl rfl ?_
  refine e_iload_n q_X11_laws_27 (by decide) rfl ?_
  refine e_if_le q_X11_laws_28 (by constructor <;> omega) (fun c28 => ?_) (fun c28 => ?_)
  · skip
    refine e_iload_n q_X11_laws_49 (by decide) rfl ?_
    refine e_ireturn q_X11_laws_50 rfl rfl ?_
    first
    | exact h1 (by omega) _ hlow (mup_self _ _ _ _) hz
    | (refine h2 (by omega) _ (fun a g0 g1 g2 g3 g4 => ?_) (fun x g1 g2 => ?_) ?_ (mup_self _ _ _ _) ?_ ?_ (zr_mup (zr_mup hz (by constructor <;> omega)) (by constructor <;> omega))
       · rw [mup_fn g0, mup_fn g0]; exact hlow a g1 g2 g3 g4
       · rw [mup_slot g2, mup_slot g1, e3]
       · rw [mup_slot (by decide), mup_self]
       · rw [mup_cell (by decide), mup_cell (by decide), mup_self]
       · have hr := hr (by omega)
         refine ⟨fun k k0 k1 => ?_, ?_⟩
         · rw [mup_cell (by omega), mup_cell (by omega), mup_cell (by omega), mup_cell (by omega), mup_cell (by omega), mup_cell (by omega)]; exact hr.1 k k0 k1
         · rw [mup_cell (by omega), mup_cell (by omega), mup_cell (by omega)]; exact hr.2)
  · skip
    refine e_aload_n q_X11_laws_31 (by decide) rfl ?_
    refine i_getR (k' := 13) q_X11_laws_32 fl_X11_51 (a3 hB) rfl rfl rfl ((congrFun e3 13).trans hD') (by omega) ?_
    refine e_astore_n (ls' := [_, _, _]) q_X11_laws_35 (by decide) rfl rfl ?_
    refine e_aload_n q_X11_laws_36 (by decide) rfl ?_
    refine e_aload_n q_X11_laws_37 (by decide) rfl ?_
    refine i_getR (k' := 14) q_X11_laws_38 fl_X11_55 (a3 hB) rfl rfl rfl ((congrFun e3 14).trans hD) (by omega) ?_
    refine i_putR (k' := 13) q_X11_laws_41 fl_X11_51 (Or.inl rfl) (a3 hB) rfl rfl rfl (by omega) rfl rfl ?_
    refine e_aload_n q_X11_laws_44 (by decide) rfl ?_
    refine e_aload_n q_X11_laws_45 (by decide) rfl ?_
    refine i_putR (k' := 14) q_X11_laws_46 fl_X11_55 (Or.inl rfl) (a3 hB) rfl rfl rfl (by omega) rfl rfl ?_
    refine e_iload_n q_X11_laws_49 (by decide) rfl ?_
    refine e_ireturn q_X11_laws_50 rfl rfl ?_
    first
    | exact h1 (by omega) _ hlow (mup_self _ _ _ _) hz
    | (refine h2 (by omega) _ (fun a g0 g1 g2 g3 g4 => ?_) (fun x g1 g2 => ?_) ?_ (mup_self _ _ _ _) ?_ ?_ (zr_mup (zr_mup hz (by constructor <;> omega)) (by constructor <;> omega))
       · rw [mup_fn g0, mup_fn g0]; exact hlow a g1 g2 g3 g4
       · rw [mup_slot g2, mup_slot g1, e3]
       · rw [mup_slot (by decide), mup_self]
       · rw [mup_cell (by decide), mup_cell (by decide), mup_self]
       · have hr := hr (by omega)
         refine ⟨fun k k0 k1 => ?_, ?_⟩
         · rw [mup_cell (by omega), mup_cell (by omega), mup_cell (by omega), mup_cell (by omega), mup_cell (by omega), mup_cell (by omega)]; exact hr.1 k k0 k1
         · rw [mup_cell (by omega), mup_cell (by omega), mup_cell (by omega)]; exact hr.2)
def wlN (N : zN) : zN := fun a j => if (a = 39 ∧ ((19 ≤ j ∧ j ≤ 22) ∨ j = 25)) ∨ a = 54 ∨ a = 55 then w32 (N a j) else N a j
theorem wlN_o {a : Nat} {j : Int} (h : ¬ (a = 39 ∧ ((19 ≤ j ∧ j ≤ 22) ∨ j = 25))) (h4 : a ≠ 54) (h5 : a ≠ 55) : wlN N a j = N a j := if_neg (by omega)
theorem zI_wl (hB : zB0 s) : zI s (wlN N) = zI s N := by
  unfold zI
  congr 2
  funext b j
  by_cases h : (b = 39 ∧ ((19 ≤ (j : Int) ∧ (j : Int) ≤ 22) ∨ (j : Int) = 25)) ∨ b = 54 ∨ b = 55
  · have hr : z_isr (s.2 b) j = false := by
      rcases h with ⟨rfl, h⟩ | rfl | rfl
      · rw [(a39 hB).2.2]
        rcases (show j = 19 ∨ j = 20 ∨ j = 21 ∨ j = 22 ∨ j = 25 by omega) with rfl | rfl | rfl | rfl | rfl <;> rfl
      · rw [(a54 hB).2.2]; rfl
      · rw [(a55 hB).2.2]; rfl
    have e : wlN N b j = w32 (N b j) := if_pos h
    rw [e, hr, vi_w]
    simp
  · have e : wlN N b j = N b j := if_neg h
    rw [e]
set_option maxRecDepth 20000 in
set_option maxHeartbeats 2000000 in
theorem jx_laws (hI : xI s N fa sa) (hy : yI N) {N2 : zN} (hs : sK s s) (hG : zG s N2) (hsm : ∀ a : Nat, (a < 88 ∧ a ≠ 12 ∧ a ≠ 14 ∧ a ≠ 15 ∧ a ≠ 16 ∧ a ≠ 17 ∧ a ≠ 18 ∧ a ≠ 19 ∧ a ≠ 52 ∧ a ≠ 53 ∧ a ≠ 54 ∧ a ≠ 55 ∧ a ≠ 39 ∧ a ≠ 3) → N2 a = N a) (h39 : ∀ j : Int, (j ≠ 15 ∧ j ≠ 18 ∧ j ≠ 19 ∧ j ≠ 20 ∧ j ≠ 21 ∧ j ≠ 22 ∧ j ≠ 25) → N2 39 j = N 39 j) (h3 : ∀ j : Int, (j ≠ 13 ∧ j ≠ 14) → N2 3 j = N 3 j) (hdy : ∀ a : Nat, 88 ≤ a → a < s.1.1 → ((s.2 a).1 ≠ 1000) → N2 a = N a) (v39_15 : N2 39 15 = 0) (v39_18 : N2 39 18 = N2 39 18) (v12_1 : N2 12 1 = 0) (hlaw : xLaw N2) : xI s N2 fa sa ∧ yI N2 ∧ bud N2 ≤ bud N + 1 := by
  have hB := hI.B
  have hR := hI.R
  have hC := hI.C
  unfold mCnt at hC
  have hm := hI.m
  have n88 := hB.1
  obtain ⟨e1, e5, e7, e8, e10, e11, e3, e12, eh, eg, ef, et⟩ := hI.hs
  have g0 : N2 39 0 = N 39 0 := h39 _ (by omega)
  have g2 : N2 39 2 = N 39 2 := h39 _ (by omega)
  have g10 : N2 39 10 = N 39 10 := h39 _ (by omega)
  have g15 := v39_15
  have g18 := v39_18
  have g26 : N2 39 26 = N 39 26 := h39 _ (by omega)
  have g29 : N2 39 29 = N 39 29 := h39 _ (by omega)
  have g31 : N2 39 31 = N 39 31 := h39 _ (by omega)
  have g36 : N2 39 36 = N 39 36 := h39 _ (by omega)
  have g49 : N2 39 49 = N 39 49 := h39 _ (by omega)
  have g50 : N2 39 50 = N 39 50 := h39 _ (by omega)
  have g58 : N2 39 58 = N 39 58 := h39 _ (by omega)
  have g63 : N2 39 63 = N 39 63 := h39 _ (by omega)
  have kCnt : mCnt N2 := by unfold mCnt; omega
  have k_ord : mOrd N2 := mOrd_k (show sC N N2 [48, 49, 50, 59, 61, 62] from fun b hb => hsm b (by simp only [List.mem_cons, List.not_mem_nil, or_false] at hb; omega)) (show s9 N N2 [10, 31] from fun b hb => h39 b (by simp only [List.mem_cons, List.not_mem_nil, or_false] at hb; omega)) hI.ord
  have k_ppl : mPpl N2 := mPpl_k (show sC N N2 [41, 42, 43, 44, 45, 46, 47] from fun b hb => hsm b (by simp only [List.mem_cons, List.not_mem_nil, or_false] at hb; omega)) g2 (by omega) hm.2.2.1
  have k_flt : mFlt N2 := mFlt_k (show sC N N2 [48, 49, 50] from fun b hb => hsm b (by simp only [List.mem_cons, List.not_mem_nil, or_false] at hb; omega)) g10 (by omega) hm.2.2.2.1
  have k_spl : mSpl N2 := mSpl_k (show sC N N2 [59, 60, 61, 62] from fun b hb => hsm b (by simp only [List.mem_cons, List.not_mem_nil, or_false] at hb; omega)) g31 (by omega) (by omega) hm.2.2.2.2.1
  have k_sty : mSty N2 := mSty_k (show sC N N2 [63, 64, 65, 66] from fun b hb => hsm b (by simp only [List.mem_cons, List.not_mem_nil, or_false] at hb; omega)) g36 (by omega) (by omega) hm.2.2.2.2.2.1
  have k_ple : mPle N2 := mPle_k (show sC N N2 [74, 75, 76, 77, 78] from fun b hb => hsm b (by simp only [List.mem_cons, List.not_mem_nil, or_false] at hb; omega)) g50 (by omega) (by omega) hm.2.2.2.2.2.2
  have k_hs : xHs N2 := by
    have t1 : N2 3 1 = N 3 1 := h3 _ (by omega)
    have t3 : N2 3 3 = N 3 3 := h3 _ (by omega)
    have t5 : N2 3 5 = N 3 5 := h3 _ (by omega)
    have t8 : N2 3 8 = N 3 8 := h3 _ (by omega)
    have t10 : N2 3 10 = N 3 10 := h3 _ (by omega)
    have t11 : N2 3 11 = N 3 11 := h3 _ (by omega)
    have t7 : N2 7 2 = N 7 2 := by rw [hsm 7 (by omega)]
    have t12 := v12_1
    have r4 : N2 4 = N 4 := hsm 4 (by omega)
    have r40 : N2 40 = N 40 := hsm 40 (by omega)
    have r6 : N2 6 = N 6 := hsm 6 (by omega)
    have r58 : N2 58 = N 58 := hsm 58 (by omega)
    have r8 : N2 8 = N 8 := hsm 8 (by omega)
    have r9 : N2 9 = N 9 := hsm 9 (by omega)
    have r56 : N2 56 = N 56 := hsm 56 (by omega)
    have r57 : N2 57 = N 57 := hsm 57 (by omega)
    refine ⟨by omega, by omega, by omega, by omega, by omega, by omega, by omega, by omega, fun i h0 h1 => by rw [r4, r40]; exact eh i h0 h1, fun i h0 h1 => by rw [r6, r58]; exact eg i h0 h1, fun i h0 h1 => by rw [r8, r9, r56, r57, g26]; exact ef i h0 h1, fun i h0 h1 => by rw [g15] at h1; omega⟩
  have k_ps : xPs s N2 fa sa := xPs_k hs (show s8 s N N2 4 from fun b h1 h2 h3 => hdy b h1 h2 (by omega)) ((show sC N N2 [5] from fun b hb => hsm b (by simp only [List.mem_cons, List.not_mem_nil, or_false] at hb; omega)) 5 (by simp)) (show sC N N2 [41, 42, 43, 44, 45, 46, 47, 48, 59, 73] from fun b hb => hsm b (by simp only [List.mem_cons, List.not_mem_nil, or_false] at hb; omega)) (show s9 N N2 [2, 10, 31, 49] from fun b hb => h39 b (by simp only [List.mem_cons, List.not_mem_nil, or_false] at hb; omega)) hI.ps
  have k_fs : xFs s N2 fa := xFs_k hs (show s8 s N N2 2 from fun b h1 h2 h3 => hdy b h1 h2 (by omega)) (show sC N N2 [48, 49, 50] from fun b hb => hsm b (by simp only [List.mem_cons, List.not_mem_nil, or_false] at hb; omega)) g10 hI.fs
  have k_ss : xSs s N2 sa := xSs_k hs (show s8 s N N2 8 from fun b h1 h2 h3 => hdy b h1 h2 (by omega)) (show sC N N2 [59, 60, 61, 62] from fun b hb => hsm b (by simp only [List.mem_cons, List.not_mem_nil, or_false] at hb; omega)) g31 hI.ss
  have k_ys : xYs s N2 := xYs_k hs (show s8 s N N2 9 from fun b h1 h2 h3 => hdy b h1 h2 (by omega)) (show sC N N2 [10, 63, 64, 65, 66] from fun b hb => hsm b (by simp only [List.mem_cons, List.not_mem_nil, or_false] at hb; omega)) g36 hI.ys
  have k_ls : xLs s N2 fa := xLs_k hs (show s8 s N N2 5 from fun b h1 h2 h3 => hdy b h1 h2 (by omega)) (show s8 s N N2 20 from fun b h1 h2 h3 => hdy b h1 h2 (by omega)) (show s8 s N N2 21 from fun b h1 h2 h3 => hdy b h1 h2 (by omega)) (show sC N N2 [11, 48, 74, 75, 76, 77, 78, 79, 80] from fun b hb => hsm b (by simp only [List.mem_cons, List.not_mem_nil, or_false] at hb; omega)) g50 hI.ls
  have k_law : xLaw N2 := by
    exact hlaw
  have k_sh : xSh N2 := xSh_k (show sC N N2 [20, 31, 32, 33, 34, 35, 36, 37, 38, 82, 83, 84] from fun b hb => hsm b (by simp only [List.mem_cons, List.not_mem_nil, or_false] at hb; omega)) hI.sh
  have k_ro : xRo N2 := xRo_k (show sC N N2 [21, 22, 23, 24, 85, 86, 87] from fun b hb => hsm b (by simp only [List.mem_cons, List.not_mem_nil, or_false] at hb; omega)) g63 hI.ro
  have k_kp : yKp N2 := yKp_k (show s3 N N2 [19] from fun b hb => h3 b (by simp only [List.mem_cons, List.not_mem_nil, or_false] at hb; omega)) (show s9 N N2 [10, 31] from fun b hb => h39 b (by simp only [List.mem_cons, List.not_mem_nil, or_false] at hb; omega)) hy.1
  have k_ow : yOw N2 := yOw_k (show sC N N2 [76, 77, 80] from fun b hb => hsm b (by simp only [List.mem_cons, List.not_mem_nil, or_false] at hb; omega)) (show s9 N N2 [50] from fun b hb => h39 b (by simp only [List.mem_cons, List.not_mem_nil, or_false] at hb; omega)) hy.2.1
  have k_tp : yTp N2 := by
    intro i h0 h1
    rw [g15] at h1
    omega
  have k_yro : yRo N2 := yRo_k (show sC N N2 [85, 86] from fun b hb => hsm b (by simp only [List.mem_cons, List.not_mem_nil, or_false] at hb; omega)) hy.2.2.2.1
  have k_ln : yLn N2 := yLn_k (show sC N N2 [40, 58] from fun b hb => hsm b (by simp only [List.mem_cons, List.not_mem_nil, or_false] at hb; omega)) (show s9 N N2 [0, 29] from fun b hb => h39 b (by simp only [List.mem_cons, List.not_mem_nil, or_false] at hb; omega)) hy.2.2.2.2.1
  have k_cm : yCm N2 := yCm_k (show sC N N2 [73] from fun b hb => hsm b (by simp only [List.mem_cons, List.not_mem_nil, or_false] at hb; omega)) (show s9 N N2 [2, 49] from fun b hb => h39 b (by simp only [List.mem_cons, List.not_mem_nil, or_false] at hb; omega)) hy.2.2.2.2.2.1
  have k_bf : yBf N2 := yBf_k (show sC N N2 [42, 48, 49] from fun b hb => hsm b (by simp only [List.mem_cons, List.not_mem_nil, or_false] at hb; omega)) (show s9 N N2 [10] from fun b hb => h39 b (by simp only [List.mem_cons, List.not_mem_nil, or_false] at hb; omega)) hy.2.2.2.2.2.2
  have k_bud : bud N2 ≤ bud N + 1 := by have := bud_k (show sC N N2 [59, 62] from fun b hb => hsm b (by simp only [List.mem_cons, List.not_mem_nil, or_false] at hb; omega)) (show s9 N N2 [2, 10, 31] from fun b hb => h39 b (by simp only [List.mem_cons, List.not_mem_nil, or_false] at hb; omega)); omega
  exact ⟨⟨hB.k hs, hG, ⟨hG.1, kCnt, k_ppl, k_flt, k_spl, k_sty, k_ple⟩, k_ord, k_hs, k_ps, k_fs, k_ss, k_ys, k_ls, k_law, k_sh, k_ro⟩, ⟨k_kp, k_ow, k_tp, k_yro, k_ln, k_cm, k_bf⟩, k_bud⟩
set_option maxRecDepth 20000 in
set_option maxHeartbeats 2000000 in
theorem j_laws (hJ : xJ s N c) (hc : c < 512) (h : jK X c m_X12_laws [.ref 39] K) : zC X m_X11_laws [.ref 3] (zI s N) K := by
  obtain ⟨fa, sa, hI, hy, hbud, hsz⟩ := id hJ
  have hk := bud_r hI hbud hc
  have hC := hI.C
  unfold mCnt at hC
  have n88 := hI.B.1
  have hR := hI.R
  have hkp : N 3 19 = N 39 10 + N 39 31 := hy.1
  obtain ⟨e1, e5, e7, e8, e10, e11, e3, e12, eh, eg, ef, et⟩ := hI.hs
  have hTt : ∀ x : Int, 0 ≤ x → x < N 39 15 → 32 ≤ N 13 x ∧ N 13 x ≤ 126 := fun x h0 h1 => by rw [et x h0 h1]; exact hy.2.2.1 x h0 h1
  have hTS : tpS s N (N 13) (N 39 15) := ⟨hI.B, rfl, e12, by omega, hTt⟩
  obtain ⟨D, D', hDD, hD, hD'⟩ : ∃ D D' : Nat, ((D = 14 ∧ D' = 17) ∨ (D = 17 ∧ D' = 14)) ∧ N 3 14 = D ∧ N 3 13 = D' := by
    rcases hI.law.1 with ⟨q1, q2⟩ | ⟨q1, q2⟩
    · exact ⟨17, 14, Or.inr ⟨rfl, rfl⟩, q2, q1⟩
    · exact ⟨14, 17, Or.inl ⟨rfl, rfl⟩, q2, q1⟩
  have hsame : ∀ N1 : zN, N1 51 = N 51 → N1 39 15 = N 39 15 → ∃ T : Int → Int, tpM s N1 T (N 39 15) ∧ lwN T (N 39 15) 4 0 0 = lwN (N 13) (N 39 15) 4 0 0 ∧ lwD T (N 39 15) 4 0 dT0 = lwD (N 13) (N 39 15) 4 0 dT0 := by
    intro N1 q1 q2
    have hx := tape_c (T := N 51) (T' := N 13) (L := N 39 15) (fun x h0 h1 => (et x h0 h1).symm) (by omega)
    exact ⟨N 51, ⟨hI.B, q1, q2, by omega, fun x h0 h1 => hy.2.2.1 x h0 h1⟩, hx.1 4 0 0 (by omega) (by omega), hx.2 4 0 dT0 (by omega) (by omega)⟩
  refine x_laws hTS hR hDD hD hD' (fun g1 N1 v1 v2 v3 => ?_) (fun g1 N1 v1 v2 v3 v4 v5 v6 v7 => ?_)
  · refine h _ _ _ (by first | exact hI.B | exact hI.B.k sK.ns | exact hI.B.k (sK.ns.trans (sK.ns.trans sK.ns))) (fun Q hq => ?_)
    obtain ⟨T, hTM, eN, eD⟩ := hsame N1 (v1 51 (by omega) (by omega) (by omega) (by omega)) (by rw [v1 39 (by omega) (by omega) (by omega) (by omega)])
    refine k_laws hTM (fun q1 N2 w1 w2 => ?_) (fun q1 => absurd q1 (by rw [eN]; omega))
    have key : ∀ (a : Nat) (x : Int), a ≠ 12 → a ≠ D → a ≠ D + 1 → a ≠ D + 2 → ¬ (a = 39 ∧ (x = 15 ∨ (19 ≤ x ∧ x ≤ 22) ∨ x = 25)) → a ≠ 54 → a ≠ 55 → wlN N2 a x = N a x := fun a x h1 h2 h3 h4 h5 h6 h7 => by
      rw [wlN_o (by omega) h6 h7, w1 a x h5 h6 h7, v1 a h1 h2 h3 h4]
    have hG : zG s (wlN N2) := by
      refine ⟨fun a x => ?_, fun a ha x => (key a x (by omega) (by omega) (by omega) (by omega) (by omega) (by omega) (by omega)).trans (hI.2.1.2 a ha x)⟩
      by_cases q : (a = 39 ∧ ((19 ≤ x ∧ x ≤ 22) ∨ x = 25)) ∨ a = 54 ∨ a = 55
      · rw [show wlN N2 a x = w32 (N2 a x) from if_pos q]; exact w32_r _
      · rw [wlN_o (by omega) (by omega) (by omega)]
        by_cases q2 : a = 39 ∧ x = 15
        · rw [q2.1, q2.2, w2]; constructor <;> omega
        · rw [w1 a x (by omega) (by omega) (by omega)]; exact v3 a x
    have hlw : xLaw (wlN N2) := by
      obtain ⟨l1, l2, l3⟩ := hI.law
      have k : ∀ (a : Nat) (x : Int), (a = D' ∨ a = D' + 1 ∨ a = D' + 2 ∨ a = 3 ∨ a = 52 ∨ a = 53 ∨ (a = 39 ∧ x = 18)) → wlN N2 a x = N a x := fun a x ha => key a x (by omega) (by omega) (by omega) (by omega) (by omega) (by omega) (by omega)
      unfold xLaw
      rw [k 3 13 (by omega), k 3 14 (by omega), k 39 18 (by omega)]
      rw [hD'] at l2 l3 ⊢
      rw [hD'] at l1
      refine ⟨l1, fun kk k0 k1 => ?_, ?_⟩
      · have q := l2 kk k0 k1
        have e1 : ((D' : Nat) : Int).toNat = D' := rfl
        rw [e1] at q ⊢
        rw [k (D' + 1) kk (by omega), k (D' + 2) kk (by omega), k 52 kk (by omega), k 53 kk (by omega)]
        exact q
      · have e1 : ((D' : Nat) : Int).toNat = D' := rfl
        rw [e1] at l3 ⊢
        rw [k D' 2 (by omega)]
        exact l3
    obtain ⟨x1, x2, x3⟩ := jx_laws (N2 := wlN N2) hI hy sK.rf hG
      (fun a ha => funext fun x => key a x (by omega) (by omega) (by omega) (by omega) (by omega) (by omega) (by omega))
      (fun x hx => key 39 x (by omega) (by omega) (by omega) (by omega) (by omega) (by omega) (by omega))
      (fun x hx => key 3 x (by omega) (by omega) (by omega) (by omega) (by omega) (by omega) (by omega))
      (fun a h1 h2 _ => funext fun x => key a x (by omega) (by omega) (by omega) (by omega) (by omega) (by omega) (by omega))
      (by rw [wlN_o (by omega) (by omega) (by omega)]; exact w2) rfl
      (by rw [wlN_o (by omega) (by omega) (by omega), w1 12 1 (by omega) (by omega) (by omega)]; exact v2) hlw
    rw [eN]
    exact zqS (hq _ _ ⟨fa, sa, x1, x2, by omega, hsz.n0⟩) rfl (zI_wl hI.B)
  · refine h _ _ _ (by first | exact hI.B | exact hI.B.k sK.ns | exact hI.B.k (sK.ns.trans (sK.ns.trans sK.ns))) (fun Q hq => ?_)
    obtain ⟨T, hTM, eN, eD⟩ := hsame N1 (v1 51 (by omega) (by omega) (by omega) (by omega) (by omega)) (by rw [v1 39 (by omega) (by omega) (by omega) (by omega) (by omega)])
    refine k_laws hTM (fun q1 => absurd q1 (by rw [eN]; omega)) (fun q1 N2 w1 w2 w3 w4 => ?_)
    have hdz := lwD_z (T := N 13) (L := N 39 15) (by omega) 4 0 dT0 (by omega) (by omega) (fun k => ⟨by show zr 100000; constructor <;> omega, by show zr (-1); constructor <;> omega⟩) (by show zr 100000; constructor <;> omega)
    rw [eD] at w3 w4
    have key : ∀ (a : Nat) (x : Int), a ≠ 12 → a ≠ D → a ≠ D + 1 → a ≠ D + 2 → ¬ (a = 39 ∧ (x = 15 ∨ x = 18 ∨ (19 ≤ x ∧ x ≤ 22) ∨ x = 25)) → ¬ (a = 3 ∧ (x = 13 ∨ x = 14)) → a ≠ 52 → a ≠ 53 → a ≠ 54 → a ≠ 55 → wlN N2 a x = N a x := fun a x h1 h2 h3 h4 h5 h6 h7 h8 h9 h10 => by
      rw [wlN_o (by omega) h9 h10, w1 a x h5 h9 h10 (by omega)]
      by_cases q : a = 3
      · rw [q]; exact v2 x (by omega) (by omega)
      · rw [v1 a q h1 h2 h3 h4]
    have k1 : ∀ (a : Nat) (x : Int), a < 39 → wlN N2 a x = N1 a x := fun a x ha => by rw [wlN_o (by omega) (by omega) (by omega), w1 a x (by omega) (by omega) (by omega) (by omega)]
    have hG : zG s (wlN N2) := by
      refine ⟨fun a x => ?_, fun a ha x => (key a x (by omega) (by omega) (by omega) (by omega) (by omega) (by omega) (by omega) (by omega) (by omega) (by omega)).trans (hI.2.1.2 a ha x)⟩
      by_cases q : (a = 39 ∧ ((19 ≤ x ∧ x ≤ 22) ∨ x = 25)) ∨ a = 54 ∨ a = 55
      · rw [show wlN N2 a x = w32 (N2 a x) from if_pos q]; exact w32_r _
      · rw [wlN_o (by omega) (by omega) (by omega)]
        by_cases q2 : a = 39 ∧ x = 15
        · rw [q2.1, q2.2, w2]; constructor <;> omega
        · by_cases q3 : a = 39 ∧ x = 18
          · rw [q3.1, q3.2, w4]; exact hdz.2
          · by_cases q4 : (a = 52 ∨ a = 53) ∧ 0 ≤ x ∧ x < 3
            · obtain ⟨q4, q5⟩ := q4
              rcases q4 with q4 | q4
              · rw [q4, (w3 x q5.1 q5.2).1]; exact (hdz.1 x).1
              · rw [q4, (w3 x q5.1 q5.2).2]; exact (hdz.1 x).2
            · rw [w1 a x (by omega) (by omega) (by omega) q4]; exact v7 a x
    have hlw : xLaw (wlN N2) := by
      unfold xLaw
      rw [k1 3 13 (by omega), k1 3 14 (by omega), v3, v4]
      have eDt : ((D : Nat) : Int).toNat = D := rfl
      rw [eDt]
      refine ⟨by omega, fun kk k0 kk1 => ?_, ?_⟩
      · rw [k1 (D + 1) kk (by omega), k1 (D + 2) kk (by omega), wlN_o (a := 52) (by omega) (by omega) (by omega), wlN_o (a := 53) (by omega) (by omega) (by omega), (w3 kk k0 kk1).1, (w3 kk k0 kk1).2]
        exact v6.1 kk k0 kk1
      · rw [k1 D 2 (by omega), wlN_o (a := 39) (by omega) (by omega) (by omega), w4]
        exact v6.2
    obtain ⟨x1, x2, x3⟩ := jx_laws (N2 := wlN N2) hI hy sK.rf hG
      (fun a ha => funext fun x => key a x (by omega) (by omega) (by omega) (by omega) (by omega) (by omega) (by omega) (by omega) (by omega) (by omega))
      (fun x hx => key 39 x (by omega) (by omega) (by omega) (by omega) (by omega) (by omega) (by omega) (by omega) (by omega) (by omega))
      (fun x hx => key 3 x (by omega) (by omega) (by omega) (by omega) (by omega) (by omega) (by omega) (by omega) (by omega) (by omega))
      (fun a h1 h2 _ => funext fun x => key a x (by omega) (by omega) (by omega) (by omega) (by omega) (by omega) (by omega) (by omega) (by omega) (by omega))
      (by rw [wlN_o (by omega) (by omega) (by omega)]; exact w2) rfl
      (by rw [k1 12 1 (by omega)]; exact v5) hlw
    rw [eN]
    exact zqS (hq _ _ ⟨fa, sa, x1, x2, by omega, hsz.n0⟩) rfl (zI_wl hI.B)
end LT8
