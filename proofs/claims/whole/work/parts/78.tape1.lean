/-! the tape, 1 (printed by wip/whole/gen/l1.py) -/
section LT1
variable {X : zX} {s : zK} {N : zN} {σ : zS} {fa sa : Int → Int} {Q K : Option Value → zS → Prop} {c : Int}
/-! THE LAWS: what the tape says, as numbers -/
/-- from p on, the first place that isn't P's, or L -/
noncomputable def endR (P : Int → Prop) (L p : Int) : Int := p + fstK (fun k : Nat => ¬ (p + k < L ∧ P (p + k))) 41
theorem endR_at {P : Int → Prop} {L p : Int} {i : Nat} (hi : i < 41) (h : ∀ j : Nat, j < i → p + j < L ∧ P (p + j)) (hn : ¬ (p + i < L ∧ P (p + i))) : endR P L p = p + i := by
  unfold endR
  rw [fstK_at (p := fun k : Nat => ¬ (p + k < L ∧ P (p + k))) hi (fun j hj q => q (h j hj)) hn]
theorem endR_b {P : Int → Prop} {L p : Int} (h0 : 0 ≤ p) (h1 : p ≤ L) (h2 : L ≤ 40) : p ≤ endR P L p ∧ endR P L p ≤ L := by
  have hex : ¬ fstK (fun k : Nat => ¬ (p + k < L ∧ P (p + k))) 41 < 0 := fun q => fstK_neg q (L - p).toNat (by omega) (fun r => by have := r.1; omega)
  have hp := fstK_p (p := fun k : Nat => ¬ (p + k < L ∧ P (p + k))) (n := 41) (by omega)
  unfold endR
  refine ⟨by omega, ?_⟩
  by_cases hq : fstK (fun k : Nat => ¬ (p + k < L ∧ P (p + k))) 41 ≤ L - p
  · omega
  · exact absurd (fun r : p + ((L - p).toNat : Int) < L ∧ P (p + ((L - p).toNat : Int)) => by have := r.1; omega) (hp.2 (L - p).toNat (by omega))
theorem endR_p {P : Int → Prop} {L p : Int} (h0 : 0 ≤ p) (h1 : p ≤ L) (h2 : L ≤ 40) : (∀ j : Int, p ≤ j → j < endR P L p → j < L ∧ P j) ∧ ¬ (endR P L p < L ∧ P (endR P L p)) := by
  have hex : ¬ fstK (fun k : Nat => ¬ (p + k < L ∧ P (p + k))) 41 < 0 := fun q => fstK_neg q (L - p).toNat (by omega) (fun r => by have := r.1; omega)
  have hp := fstK_p (p := fun k : Nat => ¬ (p + k < L ∧ P (p + k))) (n := 41) (by omega)
  refine ⟨fun j hj hj2 => ?_, ?_⟩
  · unfold endR at hj2
    have h3 := hp.2 (j - p).toNat (by omega)
    have h4 : p + ((j - p).toNat : Int) < L ∧ P (p + ((j - p).toNat : Int)) := Classical.byContradiction h3
    rw [show p + ((j - p).toNat : Int) = j by omega] at h4
    exact h4
  · have h3 := hp.1
    rw [z_cast (by omega)] at h3
    exact h3
theorem endR_c {P P' : Int → Prop} {L p : Int} (h : ∀ x : Int, 0 ≤ x → x < L → (P x ↔ P' x)) (h0 : 0 ≤ p) : endR P L p = endR P' L p := by
  have e : (fun k : Nat => ¬ (p + k < L ∧ P (p + k))) = (fun k : Nat => ¬ (p + k < L ∧ P' (p + k))) := by
    funext k
    refine propext (not_congr ⟨fun q => ⟨q.1, (h _ (by omega) q.1).mp q.2⟩, fun q => ⟨q.1, (h _ (by omega) q.1).mpr q.2⟩⟩)
  unfold endR
  rw [e]
def isDg (x : Int) : Prop := 48 ≤ x ∧ x ≤ 57
noncomputable def spE (T : Int → Int) (L p : Int) : Int := endR (fun x => T x = 32) L p
noncomputable def dgE (T : Int → Int) (L p : Int) : Int := endR (fun x => isDg (T x)) L p
def vMk (T : Int → Int) (p : Int) : Nat → Int
  | 0 => 0
  | k + 1 => if vMk T p k < 1000 then 10 * vMk T p k + T (p + k) - 48 else vMk T p k
def vSk (T : Int → Int) (p : Int) : Nat → Int
  | 0 => 0
  | k + 1 => min 1000 (vSk T p k * 10 + T (p + k) - 48)
theorem vSM {T : Int → Int} {p : Int} : ∀ k : Nat, (∀ j : Nat, j < k → isDg (T (p + j))) → 0 ≤ vMk T p k ∧ vMk T p k ≤ 9999 ∧ ((vSk T p k = vMk T p k ∧ vMk T p k < 1000) ∨ (vSk T p k = 1000 ∧ 1000 ≤ vMk T p k))
  | 0, _ => by simp [vMk, vSk]
  | k + 1, h => by
    obtain ⟨h1, h2, h3⟩ := vSM k (fun j hj => h j (by omega))
    have hd : 48 ≤ T (p + k) ∧ T (p + k) ≤ 57 := h k (by omega)
    rw [vMk, vSk]
    split
    · omega
    · omega
/-- a number: where it begins, whether it is one, its end, its value -/
noncomputable def nQ (T : Int → Int) (L p : Int) : Int := spE T L p
def nOK (T : Int → Int) (L p : Int) : Prop := nQ T L p < L ∧ isDg (T (nQ T L p))
noncomputable def nE (T : Int → Int) (L p : Int) : Int := dgE T L (nQ T L p)
noncomputable def nV (T : Int → Int) (L p : Int) : Int := vMk T (nQ T L p) (nE T L p - nQ T L p).toNat
theorem nQ_b {T : Int → Int} {L p : Int} (h0 : 0 ≤ p) (h1 : p ≤ L) (h2 : L ≤ 40) : p ≤ nQ T L p ∧ nQ T L p ≤ L := by
  unfold nQ spE
  exact endR_b (P := fun x => T x = 32) h0 h1 h2
theorem nE_b {T : Int → Int} {L p : Int} (h0 : 0 ≤ p) (h1 : p ≤ L) (h2 : L ≤ 40) : nQ T L p ≤ nE T L p ∧ nE T L p ≤ L := by
  have := nQ_b (T := T) h0 h1 h2
  unfold nE dgE
  exact endR_b (P := fun x => isDg (T x)) (by omega) (by omega) h2
theorem nV_b {T : Int → Int} {L p : Int} (h0 : 0 ≤ p) (h1 : p ≤ L) (h2 : L ≤ 40) : 0 ≤ nV T L p ∧ nV T L p ≤ 9999 ∧ ((vSk T (nQ T L p) (nE T L p - nQ T L p).toNat = nV T L p ∧ nV T L p < 1000) ∨ (vSk T (nQ T L p) (nE T L p - nQ T L p).toNat = 1000 ∧ 1000 ≤ nV T L p)) := by
  have h3 := nQ_b (T := T) h0 h1 h2
  have h4 := nE_b (T := T) h0 h1 h2
  refine vSM _ (fun j hj => ?_)
  have h5 := (endR_p (P := fun x => isDg (T x)) (p := nQ T L p) (by omega) h3.2 h2).1 (nQ T L p + (j : Int)) (by omega)
  have e : endR (fun x => isDg (T x)) L (nQ T L p) = nE T L p := rfl
  rw [e] at h5
  exact (h5 (by omega)).2
/-- the letter's number -/
def kndI (x : Int) : Int := if x = 109 then 0 else if x = 99 then 1 else if x = 107 then 2 else if x = 115 then 3 else -1
theorem kndI_b (x : Int) : -1 ≤ kndI x ∧ kndI x ≤ 3 := by
  unfold kndI
  split
  · omega
  · split
    · omega
    · split
      · omega
      · split <;> omega
noncomputable def cQ (T : Int → Int) (L p : Int) : Int := spE T L p
noncomputable def cK (T : Int → Int) (L p : Int) : Int := zif (cQ T L p < L) (kndI (T (cQ T L p))) (-1)
/-- where a clause is at fault, else -1 -/
noncomputable def clF (T : Int → Int) (L p : Int) : Int :=
  if cK T L p < 0 then cQ T L p
  else zif (nOK T L (cQ T L p + 1)) (
    if cK T L p = 3 then (if 1 ≤ nV T L (cQ T L p + 1) ∧ nV T L (cQ T L p + 1) ≤ 9 then -1 else nQ T L (cQ T L p + 1))
    else if nV T L (cQ T L p + 1) ≤ 99 then
      zif (spE T L (nE T L (cQ T L p + 1)) < L ∧ T (spE T L (nE T L (cQ T L p + 1))) = 45) (
        zif (nOK T L (spE T L (nE T L (cQ T L p + 1)) + 1)) (
          if nV T L (cQ T L p + 1) ≤ nV T L (spE T L (nE T L (cQ T L p + 1)) + 1) ∧ nV T L (spE T L (nE T L (cQ T L p + 1)) + 1) ≤ 99 then -1 else nQ T L (spE T L (nE T L (cQ T L p + 1)) + 1))
          (nQ T L (spE T L (nE T L (cQ T L p + 1)) + 1)))
        (spE T L (nE T L (cQ T L p + 1)))
    else nQ T L (cQ T L p + 1))
    (nQ T L (cQ T L p + 1))
noncomputable def clA (T : Int → Int) (L p : Int) : Int := nV T L (cQ T L p + 1)
noncomputable def clB (T : Int → Int) (L p : Int) : Int := nV T L (spE T L (nE T L (cQ T L p + 1)) + 1)
noncomputable def clP (T : Int → Int) (L p : Int) : Int := if cK T L p = 3 then nE T L (cQ T L p + 1) else nE T L (spE T L (nE T L (cQ T L p + 1)) + 1)
theorem cK_b (T : Int → Int) (L p : Int) : -1 ≤ cK T L p ∧ cK T L p ≤ 3 := by
  unfold cK
  by_cases h : cQ T L p < L
  · rw [zif_t h]; exact kndI_b _
  · rw [zif_f h]; omega
theorem cK_lt {T : Int → Int} {L p : Int} (h : 0 ≤ cK T L p) : cQ T L p < L ∧ cK T L p = kndI (T (cQ T L p)) := by
  unfold cK at h ⊢
  by_cases h2 : cQ T L p < L
  · rw [zif_t h2]; exact ⟨h2, rfl⟩
  · rw [zif_f h2] at h; omega
theorem z_let_b {i : Nat} (h : i < 4) : 99 ≤ z_let.getD i 0 ∧ z_let.getD i 0 ≤ 115 := by
  rcases (show i = 0 ∨ i = 1 ∨ i = 2 ∨ i = 3 by omega) with rfl | rfl | rfl | rfl <;> decide
theorem kndI_at {i : Nat} {x : Int} (h : i < 4) (hx : z_let.getD i 0 = x) : kndI x = i := by
  rcases (show i = 0 ∨ i = 1 ∨ i = 2 ∨ i = 3 by omega) with rfl | rfl | rfl | rfl
  · rw [← hx]; rfl
  · rw [← hx]; rfl
  · rw [← hx]; rfl
  · rw [← hx]; rfl
theorem kndI_no {x : Int} (h : ∀ j : Nat, j < 4 → z_let.getD j 0 ≠ x) : kndI x = -1 := by
  have h0 : (109 : Int) ≠ x := h 0 (by omega)
  have h1 : (99 : Int) ≠ x := h 1 (by omega)
  have h2 : (107 : Int) ≠ x := h 2 (by omega)
  have h3 : (115 : Int) ≠ x := h 3 (by omega)
  unfold kndI
  rw [if_neg (by omega), if_neg (by omega), if_neg (by omega), if_neg (by omega)]
set_option maxRecDepth 20000 in
set_option maxHeartbeats 2000000 in
theorem d_coder (h : Q (some (vi 0)) σ) : zC X m_J0_coder_7d493 [.ref 1] σ Q := by
  show zE X m_J0_coder_7d493 0 [.ref 1] [] _ Q
  refine e_getsC q_J0_coder_7d493_0 fs_J0_38 ?_
  refine e_if_eq q_J0_coder_7d493_3 (by first | exact hR _ _ | (constructor <;> omega) | assumption) (fun c3 => ?_) (fun c3 => ?_)
  · skip
    refine e_iconst q_J0_coder_7d493_13 ?_
    refine e_ireturn q_J0_coder_7d493_14 rfl rfl ?_
    first | exact h | exact absurd c3 (by omega)
  · skip
    refine e_aload_n q_J0_coder_7d493_6 (by decide) rfl ?_
    refine e_getSc q_J0_coder_7d493_7 fs_J0_15 ?_
    refine e_goto q_J0_coder_7d493_10 ?_
    refine e_ireturn q_J0_coder_7d493_14 rfl rfl ?_
    first | exact h | exact absurd c3 (by omega)
set_option maxRecDepth 20000 in
set_option maxHeartbeats 2000000 in
theorem d_isLatin1 (h : Q (some (vi 1)) σ) : zC X m_J0_isLatin1_aae02 [.ref 1] σ Q := by
  show zE X m_J0_isLatin1_aae02 0 [.ref 1] [] _ Q
  refine e_getsC q_J0_isLatin1_aae02_0 fs_J0_38 ?_
  refine e_if_eq q_J0_isLatin1_aae02_3 (by first | exact hR _ _ | (constructor <;> omega) | assumption) (fun c3 => ?_) (fun c3 => ?_)
  · skip
    refine e_iconst q_J0_isLatin1_aae02_17 ?_
    refine e_ireturn q_J0_isLatin1_aae02_18 rfl rfl ?_
    first | exact h | exact absurd c3 (by omega) | exact absurd rfl c10
  · skip
    refine e_aload_n q_J0_isLatin1_aae02_6 (by decide) rfl ?_
    refine e_getSc q_J0_isLatin1_aae02_7 fs_J0_15 ?_
    refine e_if_ne q_J0_isLatin1_aae02_10 (by first | exact hR _ _ | (constructor <;> omega) | assumption) (fun c10 => ?_) (fun c10 => ?_)
    · skip
      refine e_iconst q_J0_isLatin1_aae02_17 ?_
      refine e_ireturn q_J0_isLatin1_aae02_18 rfl rfl ?_
      first | exact h | exact absurd c3 (by omega) | exact absurd rfl c10
    · skip
      refine e_iconst q_J0_isLatin1_aae02_13 ?_
      refine e_goto q_J0_isLatin1_aae02_14 ?_
      refine e_ireturn q_J0_isLatin1_aae02_18 rfl rfl ?_
      first | exact h | exact absurd c3 (by omega) | exact absurd rfl c10
set_option maxRecDepth 20000 in
set_option maxHeartbeats 2000000 in
theorem d_length (h : Q (some (vi 4)) σ) : zC X m_J0_length_8abf5 [.ref 1] σ Q := by
  show zE X m_J0_length_8abf5 0 [.ref 1] [] _ Q
  refine e_aload_n q_J0_length_8abf5_0 (by decide) rfl ?_
  refine e_getSv q_J0_length_8abf5_1 fs_J0_9 ?_
  refine e_alenS q_J0_length_8abf5_4 ?_
  refine e_aload_n q_J0_length_8abf5_5 (by decide) rfl ?_
  refine iv_J0_coder_7d493 q_J0_length_8abf5_6 lk_J0_335 (by decide) (Nat.le_of_ble_eq_true rfl) ?_
  refine d_coder ?_
  refine e_ishr q_J0_length_8abf5_9 (v := 4) rfl ?_
  refine e_ireturn q_J0_length_8abf5_10 rfl rfl ?_
  exact h
set_option maxRecDepth 20000 in
set_option maxHeartbeats 2000000 in
theorem d_canEncode {x : Int} (hx : 0 ≤ x ∧ x ≤ 255) (h : Q (some (vi 1)) σ) : zC X m_J1_canEncode_9a6ad [vi x] σ Q := by
  show zE X m_J1_canEncode_9a6ad 0 [vi x] [] _ Q
  refine e_iload_n q_J1_canEncode_9a6ad_0 (by decide) rfl ?_
  refine e_if_lt q_J1_canEncode_9a6ad_1 (by constructor <;> omega) (fun c1 => ?_) (fun c1 => ?_)
  · skip
    refine e_iconst q_J1_canEncode_9a6ad_15 ?_
    refine e_ireturn q_J1_canEncode_9a6ad_16 rfl rfl ?_
    first | exact h | (exfalso; omega)
  · skip
    refine e_iload_n q_J1_canEncode_9a6ad_4 (by decide) rfl ?_
    refine e_sipush q_J1_canEncode_9a6ad_5 (by decide) ?_
    refine e_icmp_gt q_J1_canEncode_9a6ad_8 (by constructor <;> omega) (by constructor <;> omega) (fun c8 => ?_) (fun c8 => ?_)
    · skip
      refine e_iconst q_J1_canEncode_9a6ad_15 ?_
      refine e_ireturn q_J1_canEncode_9a6ad_16 rfl rfl ?_
      first | exact h | (exfalso; omega)
    · skip
      refine e_iconst q_J1_canEncode_9a6ad_11 ?_
      refine e_goto q_J1_canEncode_9a6ad_12 ?_
      refine e_ireturn q_J1_canEncode_9a6ad_16 rfl rfl ?_
      first | exact h | (exfalso; omega)
set_option maxRecDepth 20000 in
set_option maxHeartbeats 2000000 in
theorem d_indexOfChar {x : Int} (hx : 0 ≤ x ∧ x ≤ 127) (h : Q (some (vi (kndI x))) σ) : zC X m_J1_indexOfChar_4cfef [.ref 2, vi x, vi 0, vi 4] σ Q := by
  show zE X m_J1_indexOfChar_4cfef 0 [.ref 2, vi x, vi 0, vi 4, zU, zU] [] _ Q
  refine e_iload_n q_J1_indexOfChar_4cfef_0 (by decide) rfl ?_
  refine e_i2b q_J1_indexOfChar_4cfef_1 (v := x) (i8_i (by omega)) ?_
  refine e_istore (ls' := [_, _, _, _, _, _]) q_J1_indexOfChar_4cfef_2 (by decide) rfl rfl ?_
  refine e_iload_n q_J1_indexOfChar_4cfef_4 (by decide) rfl ?_
  refine e_istore (ls' := [_, _, _, _, _, _]) q_J1_indexOfChar_4cfef_5 (by decide) rfl rfl ?_
  refine zEe (ls := [.ref 2, vi x, vi 0, vi 4, vi x, vi ((0 : Nat) : Int)]) (σ := σ) ?_ rfl rfl
  refine z_for (P := fun i => ∀ (hh : True), (∀ j : Nat, j < i → z_let.getD j 0 ≠ x) → zE X m_J1_indexOfChar_4cfef 7 [.ref 2, vi x, vi 0, vi 4, vi x, vi (i : Int)] [] σ Q) 4 (fun i hi ih hh hv => ?_) (fun hh hv => ?_) trivial (fun j0 hj0 => by omega)
  · skip
    refine e_iload q_J1_indexOfChar_4cfef_7 (by decide) rfl ?_
    refine e_iload_n q_J1_indexOfChar_4cfef_9 (by decide) rfl ?_
    refine e_icmp_ge q_J1_indexOfChar_4cfef_10 (by constructor <;> omega) (by constructor <;> omega) (fun c10 => ?_) (fun c10 => ?_)
    · skip
      exact absurd c10 (by omega)
    · skip
      refine e_aload_n q_J1_indexOfChar_4cfef_13 (by decide) rfl ?_
      refine e_iload q_J1_indexOfChar_4cfef_14 (by decide) rfl ?_
      refine e_baldS q_J1_indexOfChar_4cfef_16 (by first | omega | assumption) (by first | omega | assumption) ?_
      refine e_iload q_J1_indexOfChar_4cfef_17 (by decide) rfl ?_
      refine e_icmp_ne q_J1_indexOfChar_4cfef_19 (by have := z_let_b hi; show zr (z_let.getD i 0); constructor <;> omega) (by constructor <;> omega) (fun c19 => ?_) (fun c19 => ?_)
      · skip
        refine e_iinc (ls' := [_, _, _, _, _, _]) q_J1_indexOfChar_4cfef_25 (by decide) rfl rfl rfl ?_
        refine e_goto q_J1_indexOfChar_4cfef_28 ?_
        exact ih trivial (fun j0 hj0 => by
          by_cases e : j0 = i
          · rw [e]; exact c19
          · exact hv j0 (by omega))
      · skip
        refine e_iload q_J1_indexOfChar_4cfef_22 (by decide) rfl ?_
        refine e_ireturn q_J1_indexOfChar_4cfef_24 rfl rfl ?_
        exact zqI h (kndI_at hi c19)
  · skip
    refine e_iload q_J1_indexOfChar_4cfef_7 (by decide) rfl ?_
    refine e_iload_n q_J1_indexOfChar_4cfef_9 (by decide) rfl ?_
    refine e_icmp_ge q_J1_indexOfChar_4cfef_10 (by constructor <;> omega) (by constructor <;> omega) (fun c10 => ?_) (fun c10 => ?_)
    · skip
      refine e_iconst q_J1_indexOfChar_4cfef_31 ?_
      refine e_ireturn q_J1_indexOfChar_4cfef_32 rfl rfl ?_
      exact zqI h (kndI_no hv)
    · skip
      exact absurd (by omega) c10
set_option maxRecDepth 20000 in
set_option maxHeartbeats 2000000 in
theorem d_indexOf3 {x : Int} (hx : 0 ≤ x ∧ x ≤ 127) (h : Q (some (vi (kndI x))) σ) : zC X m_J1_indexOf_4cfef [.ref 2, vi x, vi 0, vi 4] σ Q := by
  show zE X m_J1_indexOf_4cfef 0 [.ref 2, vi x, vi 0, vi 4] [] _ Q
  refine e_iload_n q_J1_indexOf_4cfef_0 (by decide) rfl ?_
  refine iv_J1_canEncode_9a6ad q_J1_indexOf_4cfef_1 lk_J1_88 (by decide) (Nat.le_of_ble_eq_true rfl) ?_
  refine d_canEncode (by omega) ?_
  refine e_if_ne q_J1_indexOf_4cfef_4 (by constructor <;> omega) (fun c4 => ?_) (fun c4 => ?_)
  · skip
    refine e_iload_n q_J1_indexOf_4cfef_9 (by decide) rfl ?_
    refine e_iconst q_J1_indexOf_4cfef_10 ?_
    refine e_max q_J1_indexOf_4cfef_11 lk_J1_92 mm_max_s ini_J9 mm_max_c (by decide) (by decide) (Nat.le_of_ble_eq_true rfl) (by constructor <;> omega) (by constructor <;> omega) ?_
    refine e_istore_n (ls' := [_, _, _, _]) q_J1_indexOf_4cfef_14 (by decide) rfl rfl ?_
    refine e_iload_n q_J1_indexOf_4cfef_15 (by decide) rfl ?_
    refine e_aload_n q_J1_indexOf_4cfef_16 (by decide) rfl ?_
    refine e_alenS q_J1_indexOf_4cfef_17 ?_
    refine e_min q_J1_indexOf_4cfef_18 lk_J1_38 mm_min_s ini_J9 mm_min_c (by decide) (by decide) (Nat.le_of_ble_eq_true rfl) (by constructor <;> omega) (by constructor <;> omega) ?_
    refine e_istore_n (ls' := [_, _, _, _]) q_J1_indexOf_4cfef_21 (by decide) rfl rfl ?_
    rw [show max (0 : Int) 0 = 0 from rfl, show min (4 : Int) 4 = 4 from rfl]
    refine e_iload_n q_J1_indexOf_4cfef_22 (by decide) rfl ?_
    refine e_iload_n q_J1_indexOf_4cfef_23 (by decide) rfl ?_
    refine e_icmp_lt q_J1_indexOf_4cfef_24 (by constructor <;> omega) (by constructor <;> omega) (fun c24 => ?_) (fun c24 => ?_)
    · skip
      refine e_aload_n q_J1_indexOf_4cfef_29 (by decide) rfl ?_
      refine e_iload_n q_J1_indexOf_4cfef_30 (by decide) rfl ?_
      refine e_iload_n q_J1_indexOf_4cfef_31 (by decide) rfl ?_
      refine e_iload_n q_J1_indexOf_4cfef_32 (by decide) rfl ?_
      refine iv_J1_indexOfChar_4cfef rfl q_J1_indexOf_4cfef_33 lk_J1_95 (by decide) (Nat.le_of_ble_eq_true rfl) ?_
      refine d_indexOfChar hx ?_
      refine e_ireturn q_J1_indexOf_4cfef_36 rfl rfl ?_
      exact h
    · skip
      refine e_iconst q_J1_indexOf_4cfef_27 ?_
      refine e_ireturn q_J1_indexOf_4cfef_28 rfl rfl ?_
      exact absurd c24 (by omega)
  · skip
    refine e_iconst q_J1_indexOf_4cfef_7 ?_
    refine e_ireturn q_J1_indexOf_4cfef_8 rfl rfl ?_
    exact absurd c4 (by omega)
set_option maxRecDepth 20000 in
set_option maxHeartbeats 2000000 in
theorem d_indexOf2 {x : Int} (hx : 0 ≤ x ∧ x ≤ 127) (h : Q (some (vi (kndI x))) σ) : zC X m_J0_indexOf_7cf53 [.ref 1, vi x, vi 0] σ Q := by
  show zE X m_J0_indexOf_7cf53 0 [.ref 1, vi x, vi 0] [] _ Q
  refine e_aload_n q_J0_indexOf_7cf53_0 (by decide) rfl ?_
  refine iv_J0_isLatin1_aae02 q_J0_indexOf_7cf53_1 lk_J0_492 (by decide) (Nat.le_of_ble_eq_true rfl) ?_
  refine d_isLatin1 ?_
  refine e_if_eq q_J0_indexOf_7cf53_4 (by constructor <;> omega) (fun c4 => ?_) (fun c4 => ?_)
  · skip
    exact absurd c4 (by omega)
  · skip
    refine e_aload_n q_J0_indexOf_7cf53_7 (by decide) rfl ?_
    refine e_getSv q_J0_indexOf_7cf53_8 fs_J0_9 ?_
    refine e_iload_n q_J0_indexOf_7cf53_11 (by decide) rfl ?_
    refine e_iload_n q_J0_indexOf_7cf53_12 (by decide) rfl ?_
    refine e_aload_n q_J0_indexOf_7cf53_13 (by decide) rfl ?_
    refine iv_J0_length_8abf5 q_J0_indexOf_7cf53_14 lk_J0_505 (by decide) (Nat.le_of_ble_eq_true rfl) ?_
    refine d_length ?_
    refine iv_J1_indexOf_4cfef rfl q_J0_indexOf_7cf53_17 lk_J0_637 (by decide) (Nat.le_of_ble_eq_true rfl) ?_
    refine d_indexOf3 hx ?_
    refine e_goto q_J0_indexOf_7cf53_20 ?_
    refine e_ireturn q_J0_indexOf_7cf53_36 rfl rfl ?_
    exact h
set_option maxRecDepth 20000 in
set_option maxHeartbeats 2000000 in
theorem d_indexOf {x : Int} (hx : 0 ≤ x ∧ x ≤ 127) (h : Q (some (vi (kndI x))) σ) : zC X m_J0_indexOf_0f7a4 [.ref 1, vi x] σ Q := by
  show zE X m_J0_indexOf_0f7a4 0 [.ref 1, vi x] [] _ Q
  refine e_aload_n q_J0_indexOf_0f7a4_0 (by decide) rfl ?_
  refine e_iload_n q_J0_indexOf_0f7a4_1 (by decide) rfl ?_
  refine e_iconst q_J0_indexOf_0f7a4_2 ?_
  refine iv_J0_indexOf_7cf53 q_J0_indexOf_0f7a4_3 lk_J0_633 (by decide) (Nat.le_of_ble_eq_true rfl) ?_
  refine d_indexOf2 hx ?_
  refine e_ireturn q_J0_indexOf_0f7a4_6 rfl rfl ?_
  exact h
end LT1
