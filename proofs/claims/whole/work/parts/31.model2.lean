/-! THE REFERENCE'S METHODS, 2 (printed by wip/whole/gen/m2.py) -/
section MR2
variable {X : zX} {s : zK} {N : zN} {σ : zS} {Q : Option Value → zS → Prop}
theorem cnt_t {p : Nat → Prop} {n : Nat} (h : p n) : cnt p (n + 1) = cnt p n + 1 := by rw [cnt_s, bi_t h]
theorem cnt_f {p : Nat → Prop} {n : Nat} (h : ¬ p n) : cnt p (n + 1) = cnt p n + 0 := by rw [cnt_s, bi_f h]
theorem nightsC_r {N : zN} {k d : Int} (h : 0 ≤ N 65 k) (hd : d ≤ 9999) : 0 ≤ nightsC N k d ∧ nightsC N k d ≤ 10000 := by
  have := cnt_b (fun i => ¬ fairD N (N 65 k + i)) (d + 1 - N 65 k).toNat
  unfold nightsC
  omega
def comer (N : zN) (w d : Int) : Prop := N 41 w < 2 ∧ want N w d 0 ∧ ¬ boundS N w d
def kinP (N : zN) (a b : Int) : Prop := N 46 a = b ∨ N 46 b = a ∨ (0 ≤ N 46 a ∧ N 46 a = N 46 b)
def kinIn (N : zN) (w g d : Int) : Prop := ∃ k : Nat, (k : Int) < N 39 2 ∧ (k : Int) ≠ w ∧ kinP N w k ∧ memb N k g d
noncomputable def gAhead (N : zN) (f : Int) : Int := if N 49 f - 1 < 0 then -4 else if N 41 (N 48 f) = 3 then charg N (N 48 f) (N 49 f - 1) else if spA N (N 48 f) (N 49 f - 1) < 0 then -4 else N 60 (spA N (N 48 f) (N 49 f - 1))
def brought (N : zN) (p : Int) : Prop := N 50 (N 74 p) ≤ N 49 (N 74 p) + 30
def wgt (N : zN) (w : Int) : Int := if N 45 w = 0 then 3 else 1
def parts (N : zN) (p w : Int) : Prop := N 79 (48 * p + w) ≠ 0 ∧ N 47 w = 100000
def owesA (N : zN) (w : Int) : Int := sumK (fun p => N 80 (48 * p + w)) (N 39 50).toNat
def borneF (N : zN) (g : Int) (p : Nat) : Int := if N 78 p ≠ 0 ∧ N 75 p = g then N 76 p else 0
def borneB (N : zN) (g : Int) : Int := sumK (borneF N g) (N 39 50).toNat
theorem borneB_r {N : zN} (hm : mI N) (g : Int) : 0 ≤ borneB N g ∧ borneB N g ≤ 199980 := by
  have hC := hm.2.1
  unfold mCnt at hC
  have key : ∀ n : Nat, (n : Int) ≤ N 39 50 → 0 ≤ sumK (borneF N g) n ∧ sumK (borneF N g) n ≤ 9999 * n := by
    intro n
    induction n with
    | zero => intro _; simp [sumK]
    | succ n ih =>
      intro hn
      have ih := ih (by omega)
      have hp := (hm.2.2.2.2.2.2 n (by omega) (by omega)).2.2.1
      have hb : 0 ≤ borneF N g n ∧ borneF N g n ≤ 9999 := by
        unfold borneF
        split <;> omega
      rw [sumK]
      omega
  have := key (N 39 50).toNat (by omega)
  unfold borneB
  omega
noncomputable def byH (N : zN) (g d : Int) : Int := if mems N g d = 0 then borneB N g else borneB N g / mems N g d
theorem mems_r {N : zN} (hm : mI N) (g d : Int) : 0 ≤ mems N g d ∧ mems N g d ≤ 48 := by
  have hC := hm.2.1
  unfold mCnt at hC
  have := cnt_b (fun i => memb N i g d) (N 39 2).toNat
  unfold mems
  omega
def leftO (N : zN) (n : Int) : Int := if 0 < N 85 n - N 86 n then N 85 n - N 86 n else 0
set_option maxRecDepth 20000 in
set_option maxHeartbeats 2000000 in
theorem k_mustBe (hB : zB0 s) (hm : mI N) {w d : Int} (h0 : 0 ≤ w) (h1 : w < N 39 2)(hd : 0 ≤ d ∧ d ≤ 9999) (h : Q (some (vi (bi (must N w d)))) (zI s N)) : zC X m_X12_mustBe [.ref 39, vi w, vi d] (zI s N) Q := by
  have hR := hm.1
  have hC := hm.2.1
  unfold mCnt at hC
  have hp := hm.2.2.1 w h0 h1
  show zE X m_X12_mustBe 0 [.ref 39, vi w, vi d] [] _ Q
  refine e_aload_n q_X12_mustBe_0 (by decide) rfl ?_
  refine i_getC (r := 41) q_X12_mustBe_1 fl_X12_13 (a39 hB) rfl (by decide) ?_
  refine e_iload_n q_X12_mustBe_4 (by decide) rfl ?_
  refine i_iald q_X12_mustBe_5 (a41 hB) (cref0 (by decide)) (by first | omega | assumption) (by first | omega | assumption) (by decide) rfl ?_
  refine e_iconst q_X12_mustBe_6 ?_
  refine e_icmp_eq q_X12_mustBe_7 (by first | exact hR _ _ | (constructor <;> omega) | assumption) (by first | exact hR _ _ | (constructor <;> omega) | assumption) (fun c7 => ?_) (fun c7 => ?_)
  · skip
    refine e_iconst q_X12_mustBe_19 ?_
    refine e_ireturn q_X12_mustBe_20 rfl rfl ?_
    exact zqF h (fun q => by have q1 := q.1; first | omega | exact c16 q.2.1)
  · skip
    refine e_aload_n q_X12_mustBe_10 (by decide) rfl ?_
    refine e_iload_n q_X12_mustBe_11 (by decide) rfl ?_
    refine e_iload_n q_X12_mustBe_12 (by decide) rfl ?_
    refine iv_X12_isThere q_X12_mustBe_13 lk_X12_197 (by decide) (a39 hB) (Nat.le_of_ble_eq_true rfl) ?_
    refine k_isThere hB hm h0 (by omega) hd ?_
    refine e_ifb_ne q_X12_mustBe_16 (fun c16 => ?_) (fun c16 => ?_)
    · skip
      have ht : N 42 w ≤ d := c16.1
      refine e_iload_n q_X12_mustBe_21 (by decide) rfl ?_
      refine e_aload_n q_X12_mustBe_22 (by decide) rfl ?_
      refine i_getC (r := 42) q_X12_mustBe_23 fl_X12_16 (a39 hB) rfl (by decide) ?_
      refine e_iload_n q_X12_mustBe_26 (by decide) rfl ?_
      refine i_iald q_X12_mustBe_27 (a42 hB) (cref0 (by decide)) (by first | omega | assumption) (by first | omega | assumption) (by decide) rfl ?_
      refine e_isub q_X12_mustBe_28 ?_
      refine e_bipush q_X12_mustBe_29 (by decide) ?_
      refine e_idiv q_X12_mustBe_31 (by omega) (by omega) ?_
      refine e_aload_n q_X12_mustBe_32 (by decide) rfl ?_
      refine i_getC (r := 52) q_X12_mustBe_33 fl_X12_48 (a39 hB) rfl (by decide) ?_
      refine e_aload_n q_X12_mustBe_36 (by decide) rfl ?_
      refine i_getC (r := 41) q_X12_mustBe_37 fl_X12_13 (a39 hB) rfl (by decide) ?_
      refine e_iload_n q_X12_mustBe_40 (by decide) rfl ?_
      refine i_iald q_X12_mustBe_41 (a41 hB) (cref0 (by decide)) (by first | omega | assumption) (by first | omega | assumption) (by decide) rfl ?_
      refine i_iald q_X12_mustBe_42 (a52 hB) (cref0 (by decide)) (by first | omega | assumption) (by first | omega | assumption) (by decide) rfl ?_
      refine e_aload_n q_X12_mustBe_43 (by decide) rfl ?_
      refine i_getC (r := 53) q_X12_mustBe_44 fl_X12_51 (a39 hB) rfl (by decide) ?_
      refine e_aload_n q_X12_mustBe_47 (by decide) rfl ?_
      refine i_getC (r := 41) q_X12_mustBe_48 fl_X12_13 (a39 hB) rfl (by decide) ?_
      refine e_iload_n q_X12_mustBe_51 (by decide) rfl ?_
      refine i_iald q_X12_mustBe_52 (a41 hB) (cref0 (by decide)) (by first | omega | assumption) (by first | omega | assumption) (by decide) rfl ?_
      refine i_iald q_X12_mustBe_53 (a53 hB) (cref0 (by decide)) (by first | omega | assumption) (by first | omega | assumption) (by decide) rfl ?_
      refine iv_X12_within q_X12_mustBe_54 lk_X12_160 (by decide) (Nat.le_of_ble_eq_true rfl) ?_
      refine k_within (by constructor <;> omega) (hR _ _) (hR _ _) ?_
      refine e_ireturn q_X12_mustBe_57 rfl (bi_n _) ?_
      refine zqI h (bi_c ?_)
      unfold must
      constructor
      · intro q
        exact ⟨q.2.2.1, q.2.2.2⟩
      · intro q
        exact ⟨c7, c16, q.1, q.2⟩
    · skip
      refine e_iconst q_X12_mustBe_19 ?_
      refine e_ireturn q_X12_mustBe_20 rfl rfl ?_
      exact zqF h (fun q => by have q1 := q.1; first | omega | exact c16 q.2.1)
set_option maxRecDepth 20000 in
set_option maxHeartbeats 2000000 in
theorem k_isFair (hB : zB0 s) (hm : mI N) {d : Int} (hd : zr d) (h : Q (some (vi (bi (fairD N d)))) (zI s N)) : zC X m_X12_isFair [.ref 39, vi d] (zI s N) Q := by
  have hR := hm.1
  have hC := hm.2.1
  unfold mCnt at hC
  show zE X m_X12_isFair 0 [.ref 39, vi d, zU] [] _ Q
  refine e_iconst q_X12_isFair_0 ?_
  refine e_istore_n (ls' := [_, _, _]) q_X12_isFair_1 (by decide) rfl rfl ?_
  refine zEe (ls := [.ref 39, vi d, vi ((0 : Nat) : Int)]) (σ := (zI s N)) ?_ rfl rfl
  refine z_for (P := fun i => (∀ j, j < i → ¬ (fun k : Nat => N 56 k ≤ d ∧ d ≤ N 57 k) j) → zE X m_X12_isFair 2 [.ref 39, vi d, vi (i : Int)] [] (zI s N) Q) (N 39 26).toNat (fun i hi ih hn => ?_) (fun hn => ?_) (by intro j hj; omega)
  · skip
    refine e_iload_n q_X12_isFair_2 (by decide) rfl ?_
    refine e_aload_n q_X12_isFair_3 (by decide) rfl ?_
    refine i_getI (k' := 26) q_X12_isFair_4 fl_X12_245 (a39 hB) rfl rfl rfl rfl ?_
    refine e_icmp_ge q_X12_isFair_7 (by first | exact hR _ _ | (constructor <;> omega) | assumption) (by first | exact hR _ _ | (constructor <;> omega) | assumption) (fun c7 => ?_) (fun c7 => ?_)
    · skip
      exact absurd c7 (by omega)
    · skip
      refine e_iload_n q_X12_isFair_10 (by decide) rfl ?_
      refine e_aload_n q_X12_isFair_11 (by decide) rfl ?_
      refine i_getC (r := 56) q_X12_isFair_12 fl_X12_64 (a39 hB) rfl (by decide) ?_
      refine e_iload_n q_X12_isFair_15 (by decide) rfl ?_
      refine i_iald q_X12_isFair_16 (a56 hB) (cref0 (by decide)) (by first | omega | assumption) (by first | omega | assumption) (by decide) rfl ?_
      refine e_aload_n q_X12_isFair_17 (by decide) rfl ?_
      refine i_getC (r := 57) q_X12_isFair_18 fl_X12_67 (a39 hB) rfl (by decide) ?_
      refine e_iload_n q_X12_isFair_21 (by decide) rfl ?_
      refine i_iald q_X12_isFair_22 (a57 hB) (cref0 (by decide)) (by first | omega | assumption) (by first | omega | assumption) (by decide) rfl ?_
      refine iv_X12_within q_X12_isFair_23 lk_X12_160 (by decide) (Nat.le_of_ble_eq_true rfl) ?_
      refine k_within hd (hR _ _) (hR _ _) ?_
      refine e_ifb_eq q_X12_isFair_26 (fun c26 => ?_) (fun c26 => ?_)
      · skip
        refine e_iinc (ls' := [_, _, _]) q_X12_isFair_31 (by decide) rfl rfl rfl ?_
        refine e_goto q_X12_isFair_34 ?_
        exact ih (z_lt1 hn c26)
      · skip
        refine e_iconst q_X12_isFair_29 ?_
        refine e_ireturn q_X12_isFair_30 rfl rfl ?_
        exact zqT h ⟨i, by omega, c26.1, c26.2⟩
  · skip
    refine e_iload_n q_X12_isFair_2 (by decide) rfl ?_
    refine e_aload_n q_X12_isFair_3 (by decide) rfl ?_
    refine i_getI (k' := 26) q_X12_isFair_4 fl_X12_245 (a39 hB) rfl rfl rfl rfl ?_
    refine e_icmp_ge q_X12_isFair_7 (by first | exact hR _ _ | (constructor <;> omega) | assumption) (by first | exact hR _ _ | (constructor <;> omega) | assumption) (fun c7 => ?_) (fun c7 => ?_)
    · skip
      refine e_iconst q_X12_isFair_37 ?_
      refine e_ireturn q_X12_isFair_38 rfl rfl ?_
      exact zqF h (fun q => by obtain ⟨k, q1, q2⟩ := q; exact hn k (by omega) q2)
    · skip
      exact absurd (by omega) c7
set_option maxRecDepth 20000 in
set_option maxHeartbeats 2000000 in
theorem k_spellAt (hB : zB0 s) (hm : mI N) {w d : Int} (h0 : 0 ≤ w) (h1 : w < N 39 2)(hd : 0 ≤ d ∧ d ≤ 9999) (h : Q (some (vi (spA N w d))) (zI s N)) : zC X m_X12_spellAt [.ref 39, vi w, vi d] (zI s N) Q := by
  have hR := hm.1
  have hC := hm.2.1
  unfold mCnt at hC
  have hp := hm.2.2.1 w h0 h1
  show zE X m_X12_spellAt 0 [.ref 39, vi w, vi d, zU] [] _ Q
  refine e_aload_n q_X12_spellAt_0 (by decide) rfl ?_
  refine e_iload_n q_X12_spellAt_1 (by decide) rfl ?_
  refine e_iload_n q_X12_spellAt_2 (by decide) rfl ?_
  refine iv_X12_isThere q_X12_spellAt_3 lk_X12_197 (by decide) (a39 hB) (Nat.le_of_ble_eq_true rfl) ?_
  refine k_isThere hB hm h0 (by omega) hd ?_
  refine e_ifb_ne q_X12_spellAt_6 (fun c6 => ?_) (fun c6 => ?_)
  · skip
    refine e_iconst q_X12_spellAt_11 ?_
    refine e_istore_n (ls' := [_, _, _, _]) q_X12_spellAt_12 (by decide) rfl rfl ?_
    refine zEe (ls := [.ref 39, vi w, vi d, vi ((0 : Nat) : Int)]) (σ := (zI s N)) ?_ rfl rfl
    refine z_for (P := fun i => (∀ j, j < i → ¬ (fun k : Nat => N 59 k = w ∧ N 61 k ≤ d ∧ d < N 62 k) j) → zE X m_X12_spellAt 13 [.ref 39, vi w, vi d, vi (i : Int)] [] (zI s N) Q) (N 39 31).toNat (fun i hi ih hn => ?_) (fun hn => ?_) (by intro j hj; omega)
    · skip
      refine e_iload_n q_X12_spellAt_13 (by decide) rfl ?_
      refine e_aload_n q_X12_spellAt_14 (by decide) rfl ?_
      refine i_getI (k' := 31) q_X12_spellAt_15 fl_X12_251 (a39 hB) rfl rfl rfl rfl ?_
      refine e_icmp_ge q_X12_spellAt_18 (by first | exact hR _ _ | (constructor <;> omega) | assumption) (by first | exact hR _ _ | (constructor <;> omega) | assumption) (fun c18 => ?_) (fun c18 => ?_)
      · skip
        exact absurd c18 (by omega)
      · skip
        refine e_aload_n q_X12_spellAt_21 (by decide) rfl ?_
        refine i_getC (r := 59) q_X12_spellAt_22 fl_X12_73 (a39 hB) rfl (by decide) ?_
        refine e_iload_n q_X12_spellAt_25 (by decide) rfl ?_
        refine i_iald q_X12_spellAt_26 (a59 hB) (cref0 (by decide)) (by first | omega | assumption) (by first | omega | assumption) (by decide) rfl ?_
        refine e_iload_n q_X12_spellAt_27 (by decide) rfl ?_
        refine e_icmp_ne q_X12_spellAt_28 (by first | exact hR _ _ | (constructor <;> omega) | assumption) (by first | exact hR _ _ | (constructor <;> omega) | assumption) (fun c28 => ?_) (fun c28 => ?_)
        · skip
          refine e_iinc (ls' := [_, _, _, _]) q_X12_spellAt_53 (by decide) rfl rfl rfl ?_
          refine e_goto q_X12_spellAt_56 ?_
          exact ih (z_lt1 hn (by omega))
        · skip
          refine e_aload_n q_X12_spellAt_31 (by decide) rfl ?_
          refine i_getC (r := 61) q_X12_spellAt_32 fl_X12_79 (a39 hB) rfl (by decide) ?_
          refine e_iload_n q_X12_spellAt_35 (by decide) rfl ?_
          refine i_iald q_X12_spellAt_36 (a61 hB) (cref0 (by decide)) (by first | omega | assumption) (by first | omega | assumption) (by decide) rfl ?_
          refine e_iload_n q_X12_spellAt_37 (by decide) rfl ?_
          refine e_icmp_gt q_X12_spellAt_38 (by first | exact hR _ _ | (constructor <;> omega) | assumption) (by first | exact hR _ _ | (constructor <;> omega) | assumption) (fun c38 => ?_) (fun c38 => ?_)
          · skip
            refine e_iinc (ls' := [_, _, _, _]) q_X12_spellAt_53 (by decide) rfl rfl rfl ?_
            refine e_goto q_X12_spellAt_56 ?_
            exact ih (z_lt1 hn (by omega))
          · skip
            refine e_iload_n q_X12_spellAt_41 (by decide) rfl ?_
            refine e_aload_n q_X12_spellAt_42 (by decide) rfl ?_
            refine i_getC (r := 62) q_X12_spellAt_43 fl_X12_82 (a39 hB) rfl (by decide) ?_
            refine e_iload_n q_X12_spellAt_46 (by decide) rfl ?_
            refine i_iald q_X12_spellAt_47 (a62 hB) (cref0 (by decide)) (by first | omega | assumption) (by first | omega | assumption) (by decide) rfl ?_
            refine e_icmp_ge q_X12_spellAt_48 (by first | exact hR _ _ | (constructor <;> omega) | assumption) (by first | exact hR _ _ | (constructor <;> omega) | assumption) (fun c48 => ?_) (fun c48 => ?_)
            · skip
              refine e_iinc (ls' := [_, _, _, _]) q_X12_spellAt_53 (by decide) rfl rfl rfl ?_
              refine e_goto q_X12_spellAt_56 ?_
              exact ih (z_lt1 hn (by omega))
            · skip
              refine e_iload_n q_X12_spellAt_51 (by decide) rfl ?_
              refine e_ireturn q_X12_spellAt_52 rfl rfl ?_
              exact zqI h (by unfold spA; rw [zif_t c6]; exact fstK_at (by omega) hn ⟨c28, by omega, by omega⟩)
    · skip
      refine e_iload_n q_X12_spellAt_13 (by decide) rfl ?_
      refine e_aload_n q_X12_spellAt_14 (by decide) rfl ?_
      refine i_getI (k' := 31) q_X12_spellAt_15 fl_X12_251 (a39 hB) rfl rfl rfl rfl ?_
      refine e_icmp_ge q_X12_spellAt_18 (by first | exact hR _ _ | (constructor <;> omega) | assumption) (by first | exact hR _ _ | (constructor <;> omega) | assumption) (fun c18 => ?_) (fun c18 => ?_)
      · skip
        refine e_iconst q_X12_spellAt_59 ?_
        refine e_ireturn q_X12_spellAt_60 rfl rfl ?_
        exact zqI h (by unfold spA; rw [zif_t c6]; exact fstK_none (fun j hj => hn j (by omega)))
      · skip
        exact absurd (by omega) c18
  · skip
    refine e_iconst q_X12_spellAt_9 ?_
    refine e_ireturn q_X12_spellAt_10 rfl rfl ?_
    exact zqI h (by unfold spA; exact zif_f c6)
set_option maxRecDepth 20000 in
set_option maxHeartbeats 2000000 in
theorem k_isMember (hB : zB0 s) (hm : mI N) {w g d : Int} (hg : zr g) (h0 : 0 ≤ w) (h1 : w < N 39 2)(hd : 0 ≤ d ∧ d ≤ 9999) (h : Q (some (vi (bi (memb N w g d)))) (zI s N)) : zC X m_X12_isMember [.ref 39, vi w, vi g, vi d] (zI s N) Q := by
  have hR := hm.1
  have hC := hm.2.1
  unfold mCnt at hC
  have hp := hm.2.2.1 w h0 h1
  have hs := spA_b N w d
  show zE X m_X12_isMember 0 [.ref 39, vi w, vi g, vi d, zU] [] _ Q
  refine e_aload_n q_X12_isMember_0 (by decide) rfl ?_
  refine e_iload_n q_X12_isMember_1 (by decide) rfl ?_
  refine e_iload_n q_X12_isMember_2 (by decide) rfl ?_
  refine iv_X12_spellAt q_X12_isMember_3 lk_X12_254 (by decide) (a39 hB) (Nat.le_of_ble_eq_true rfl) ?_
  refine k_spellAt hB hm h0 h1 hd ?_
  refine e_istore (ls' := [_, _, _, _, _]) q_X12_isMember_6 (by decide) rfl rfl ?_
  refine e_iload q_X12_isMember_8 (by decide) rfl ?_
  refine e_if_lt q_X12_isMember_10 (by first | exact hR _ _ | (constructor <;> omega) | assumption) (fun c10 => ?_) (fun c10 => ?_)
  · skip
    refine e_iconst q_X12_isMember_28 ?_
    refine e_ireturn q_X12_isMember_29 rfl rfl ?_
    first | exact zqT h ⟨by omega, by omega⟩ | exact zqF h (fun q => by have q1 := q.1; have q2 := q.2; omega)
  · skip
    refine e_aload_n q_X12_isMember_13 (by decide) rfl ?_
    refine i_getC (r := 60) q_X12_isMember_14 fl_X12_76 (a39 hB) rfl (by decide) ?_
    refine e_iload q_X12_isMember_17 (by decide) rfl ?_
    refine i_iald q_X12_isMember_19 (a60 hB) (cref0 (by decide)) (by first | omega | assumption) (by first | omega | assumption) (by decide) rfl ?_
    refine e_iload_n q_X12_isMember_20 (by decide) rfl ?_
    refine e_icmp_ne q_X12_isMember_21 (hR _ _) hg (fun c21 => ?_) (fun c21 => ?_)
    · skip
      refine e_iconst q_X12_isMember_28 ?_
      refine e_ireturn q_X12_isMember_29 rfl rfl ?_
      first | exact zqT h ⟨by omega, by omega⟩ | exact zqF h (fun q => by have q1 := q.1; have q2 := q.2; omega)
    · skip
      refine e_iconst q_X12_isMember_24 ?_
      refine e_goto q_X12_isMember_25 ?_
      refine e_ireturn q_X12_isMember_29 rfl rfl ?_
      first | exact zqT h ⟨by omega, by omega⟩ | exact zqF h (fun q => by have q1 := q.1; have q2 := q.2; omega)
set_option maxRecDepth 20000 in
set_option maxHeartbeats 2000000 in
theorem k_membersOf (hB : zB0 s) (hm : mI N) {g d : Int} (hg : zr g) (hd : 0 ≤ d ∧ d ≤ 9999) (h : Q (some (vi (mems N g d))) (zI s N)) : zC X m_X12_membersOf [.ref 39, vi g, vi d] (zI s N) Q := by
  have hR := hm.1
  have hC := hm.2.1
  unfold mCnt at hC
  show zE X m_X12_membersOf 0 [.ref 39, vi g, vi d, zU, zU] [] _ Q
  refine e_iconst q_X12_membersOf_0 ?_
  refine e_istore_n (ls' := [_, _, _, _, _]) q_X12_membersOf_1 (by decide) rfl rfl ?_
  refine e_iconst q_X12_membersOf_2 ?_
  refine e_istore (ls' := [_, _, _, _, _]) q_X12_membersOf_3 (by decide) rfl rfl ?_
  refine zEe (ls := [.ref 39, vi g, vi d, vi (cnt (fun i : Nat => memb N i g d) 0), vi ((0 : Nat) : Int)]) (σ := (zI s N)) ?_ rfl rfl
  refine z_for (P := fun i => zE X m_X12_membersOf 5 [.ref 39, vi g, vi d, vi (cnt (fun i : Nat => memb N i g d) i), vi (i : Int)] [] (zI s N) Q) (N 39 2).toNat (fun i hi ih => ?_) ?_
  · skip
    refine e_iload q_X12_membersOf_5 (by decide) rfl ?_
    refine e_aload_n q_X12_membersOf_7 (by decide) rfl ?_
    refine i_getI (k' := 2) q_X12_membersOf_8 fl_X12_164 (a39 hB) rfl rfl rfl rfl ?_
    refine e_icmp_ge q_X12_membersOf_11 (by first | exact hR _ _ | (constructor <;> omega) | assumption) (by first | exact hR _ _ | (constructor <;> omega) | assumption) (fun c11 => ?_) (fun c11 => ?_)
    · skip
      exact absurd c11 (by omega)
    · skip
      refine e_iload_n q_X12_membersOf_14 (by decide) rfl ?_
      refine e_aload_n q_X12_membersOf_15 (by decide) rfl ?_
      refine e_iload q_X12_membersOf_16 (by decide) rfl ?_
      refine e_iload_n q_X12_membersOf_18 (by decide) rfl ?_
      refine e_iload_n q_X12_membersOf_19 (by decide) rfl ?_
      refine iv_X12_isMember q_X12_membersOf_20 lk_X12_258 (by decide) (a39 hB) (Nat.le_of_ble_eq_true rfl) ?_
      refine k_isMember hB hm hg (by omega) (by omega) hd ?_
      refine e_ifb_eq q_X12_membersOf_23 (fun c23 => ?_) (fun c23 => ?_)
      · skip
        refine e_iconst q_X12_membersOf_30 ?_
        refine e_iadd q_X12_membersOf_31 ?_
        refine e_istore_n (ls' := [_, _, _, _, _]) q_X12_membersOf_32 (by decide) rfl rfl ?_
        refine e_iinc (ls' := [_, _, _, _, _]) q_X12_membersOf_33 (by decide) rfl rfl rfl ?_
        refine e_goto q_X12_membersOf_36 ?_
        first | exact zEe ih (by rw [cnt_t (p := fun i : Nat => memb N i g d) c23]; rfl) rfl | exact zEe ih (by rw [cnt_f (p := fun i : Nat => memb N i g d) c23]; rfl) rfl
      · skip
        refine e_iconst q_X12_membersOf_26 ?_
        refine e_goto q_X12_membersOf_27 ?_
        refine e_iadd q_X12_membersOf_31 ?_
        refine e_istore_n (ls' := [_, _, _, _, _]) q_X12_membersOf_32 (by decide) rfl rfl ?_
        refine e_iinc (ls' := [_, _, _, _, _]) q_X12_membersOf_33 (by decide) rfl rfl rfl ?_
        refine e_goto q_X12_membersOf_36 ?_
        first | exact zEe ih (by rw [cnt_t (p := fun i : Nat => memb N i g d) c23]; rfl) rfl | exact zEe ih (by rw [cnt_f (p := fun i : Nat => memb N i g d) c23]; rfl) rfl
  · skip
    refine e_iload q_X12_membersOf_5 (by decide) rfl ?_
    refine e_aload_n q_X12_membersOf_7 (by decide) rfl ?_
    refine i_getI (k' := 2) q_X12_membersOf_8 fl_X12_164 (a39 hB) rfl rfl rfl rfl ?_
    refine e_icmp_ge q_X12_membersOf_11 (by first | exact hR _ _ | (constructor <;> omega) | assumption) (by first | exact hR _ _ | (constructor <;> omega) | assumption) (fun c11 => ?_) (fun c11 => ?_)
    · skip
      refine e_iload_n q_X12_membersOf_39 (by decide) rfl ?_
      refine e_ireturn q_X12_membersOf_40 rfl rfl ?_
      exact h
    · skip
      exact absurd (by omega) c11
set_option maxRecDepth 20000 in
set_option maxHeartbeats 2000000 in
theorem k_isBound (hB : zB0 s) (hm : mI N) {w d : Int} (h0 : 0 ≤ w) (h1 : w < N 39 2)(hd : 0 ≤ d ∧ d ≤ 9999) (h : Q (some (vi (bi (boundS N w d)))) (zI s N)) : zC X m_X12_isBound [.ref 39, vi w, vi d] (zI s N) Q := by
  have hR := hm.1
  have hC := hm.2.1
  unfold mCnt at hC
  show zE X m_X12_isBound 0 [.ref 39, vi w, vi d, zU] [] _ Q
  refine e_iconst q_X12_isBound_0 ?_
  refine e_istore_n (ls' := [_, _, _, _]) q_X12_isBound_1 (by decide) rfl rfl ?_
  refine zEe (ls := [.ref 39, vi w, vi d, vi ((0 : Nat) : Int)]) (σ := (zI s N)) ?_ rfl rfl
  refine z_for (P := fun i => (∀ j, j < i → ¬ (fun k : Nat => N 59 k = w ∧ d < N 62 k) j) → zE X m_X12_isBound 2 [.ref 39, vi w, vi d, vi (i : Int)] [] (zI s N) Q) (N 39 31).toNat (fun i hi ih hn => ?_) (fun hn => ?_) (by intro j hj; omega)
  · skip
    refine e_iload_n q_X12_isBound_2 (by decide) rfl ?_
    refine e_aload_n q_X12_isBound_3 (by decide) rfl ?_
    refine i_getI (k' := 31) q_X12_isBound_4 fl_X12_251 (a39 hB) rfl rfl rfl rfl ?_
    refine e_icmp_ge q_X12_isBound_7 (by first | exact hR _ _ | (constructor <;> omega) | assumption) (by first | exact hR _ _ | (constructor <;> omega) | assumption) (fun c7 => ?_) (fun c7 => ?_)
    · skip
      exact absurd c7 (by omega)
    · skip
      refine e_aload_n q_X12_isBound_10 (by decide) rfl ?_
      refine i_getC (r := 59) q_X12_isBound_11 fl_X12_73 (a39 hB) rfl (by decide) ?_
      refine e_iload_n q_X12_isBound_14 (by decide) rfl ?_
      refine i_iald q_X12_isBound_15 (a59 hB) (cref0 (by decide)) (by first | omega | assumption) (by first | omega | assumption) (by decide) rfl ?_
      refine e_iload_n q_X12_isBound_16 (by decide) rfl ?_
      refine e_icmp_ne q_X12_isBound_17 (by first | exact hR _ _ | (constructor <;> omega) | assumption) (by first | exact hR _ _ | (constructor <;> omega) | assumption) (fun c17 => ?_) (fun c17 => ?_)
      · skip
        refine e_iinc (ls' := [_, _, _, _]) q_X12_isBound_32 (by decide) rfl rfl rfl ?_
        refine e_goto q_X12_isBound_35 ?_
        exact ih (z_lt1 hn (by omega))
      · skip
        refine e_aload_n q_X12_isBound_20 (by decide) rfl ?_
        refine i_getC (r := 62) q_X12_isBound_21 fl_X12_82 (a39 hB) rfl (by decide) ?_
        refine e_iload_n q_X12_isBound_24 (by decide) rfl ?_
        refine i_iald q_X12_isBound_25 (a62 hB) (cref0 (by decide)) (by first | omega | assumption) (by first | omega | assumption) (by decide) rfl ?_
        refine e_iload_n q_X12_isBound_26 (by decide) rfl ?_
        refine e_icmp_le q_X12_isBound_27 (by first | exact hR _ _ | (constructor <;> omega) | assumption) (by first | exact hR _ _ | (constructor <;> omega) | assumption) (fun c27 => ?_) (fun c27 => ?_)
        · skip
          refine e_iinc (ls' := [_, _, _, _]) q_X12_isBound_32 (by decide) rfl rfl rfl ?_
          refine e_goto q_X12_isBound_35 ?_
          exact ih (z_lt1 hn (by omega))
        · skip
          refine e_iconst q_X12_isBound_30 ?_
          refine e_ireturn q_X12_isBound_31 rfl rfl ?_
          exact zqT h ⟨i, by omega, c17, by omega⟩
  · skip
    refine e_iload_n q_X12_isBound_2 (by decide) rfl ?_
    refine e_aload_n q_X12_isBound_3 (by decide) rfl ?_
    refine i_getI (k' := 31) q_X12_isBound_4 fl_X12_251 (a39 hB) rfl rfl rfl rfl ?_
    refine e_icmp_ge q_X12_isBound_7 (by first | exact hR _ _ | (constructor <;> omega) | assumption) (by first | exact hR _ _ | (constructor <;> omega) | assumption) (fun c7 => ?_) (fun c7 => ?_)
    · skip
      refine e_iconst q_X12_isBound_38 ?_
      refine e_ireturn q_X12_isBound_39 rfl rfl ?_
      exact zqF h (fun q => by obtain ⟨k, q1, q2⟩ := q; exact hn k (by omega) q2)
    · skip
      exact absurd (by omega) c7
set_option maxRecDepth 20000 in
set_option maxHeartbeats 2000000 in
theorem k_isWant (hB : zB0 s) (hm : mI N) {w d what : Int} (hwh : zr what) (h0 : 0 ≤ w) (h1 : w < N 39 2)(hd : 0 ≤ d ∧ d ≤ 9999) (h : Q (some (vi (bi (want N w d what)))) (zI s N)) : zC X m_X12_isWant [.ref 39, vi w, vi d, vi what] (zI s N) Q := by
  have hR := hm.1
  have hC := hm.2.1
  unfold mCnt at hC
  have hs := spA_b N w d
  show zE X m_X12_isWant 0 [.ref 39, vi w, vi d, vi what, zU] [] _ Q
  refine e_aload_n q_X12_isWant_0 (by decide) rfl ?_
  refine e_iload_n q_X12_isWant_1 (by decide) rfl ?_
  refine e_iload_n q_X12_isWant_2 (by decide) rfl ?_
  refine iv_X12_spellAt q_X12_isWant_3 lk_X12_254 (by decide) (a39 hB) (Nat.le_of_ble_eq_true rfl) ?_
  refine k_spellAt hB hm h0 h1 hd ?_
  refine e_if_lt q_X12_isWant_6 (by first | exact hR _ _ | (constructor <;> omega) | assumption) (fun c6 => ?_) (fun c6 => ?_)
  · skip
    refine e_iconst q_X12_isWant_13 ?_
    refine e_istore (ls' := [_, _, _, _, _]) q_X12_isWant_14 (by decide) rfl rfl ?_
    refine e_iload_n q_X12_isWant_16 (by decide) rfl ?_
    refine e_if_ne q_X12_isWant_17 hwh (fun c17 => ?_) (fun c17 => ?_)
    · skip
      refine e_iload q_X12_isWant_42 (by decide) rfl ?_
      refine e_if_eq q_X12_isWant_44 (by first | exact hR _ _ | (constructor <;> omega) | assumption) (fun c44 => ?_) (fun c44 => ?_)
      · skip
        refine e_iconst q_X12_isWant_60 ?_
        refine e_ireturn q_X12_isWant_61 rfl rfl ?_
        first | exact zqT h (Or.inl ⟨by omega, c26, by omega⟩) | exact zqT h (Or.inr ⟨by omega, by omega, c53⟩) | exact zqF h (fun q => by rcases q with ⟨q1, q2, q3⟩ | ⟨q1, q2, q3⟩ <;> first | omega | exact c26 q2 | exact q3 c53)
      · skip
        refine e_aload_n q_X12_isWant_47 (by decide) rfl ?_
        refine e_iload_n q_X12_isWant_48 (by decide) rfl ?_
        refine e_iload_n q_X12_isWant_49 (by decide) rfl ?_
        refine iv_X12_mustBe q_X12_isWant_50 lk_X12_242 (by decide) (a39 hB) (Nat.le_of_ble_eq_true rfl) ?_
        refine k_mustBe hB hm h0 h1 hd ?_
        refine e_ifb_ne q_X12_isWant_53 (fun c53 => ?_) (fun c53 => ?_)
        · skip
          refine e_iconst q_X12_isWant_60 ?_
          refine e_ireturn q_X12_isWant_61 rfl rfl ?_
          first | exact zqT h (Or.inl ⟨by omega, c26, by omega⟩) | exact zqT h (Or.inr ⟨by omega, by omega, c53⟩) | exact zqF h (fun q => by rcases q with ⟨q1, q2, q3⟩ | ⟨q1, q2, q3⟩ <;> first | omega | exact c26 q2 | exact q3 c53)
        · skip
          refine e_iconst q_X12_isWant_56 ?_
          refine e_goto q_X12_isWant_57 ?_
          refine e_ireturn q_X12_isWant_61 rfl rfl ?_
          first | exact zqT h (Or.inl ⟨by omega, c26, by omega⟩) | exact zqT h (Or.inr ⟨by omega, by omega, c53⟩) | exact zqF h (fun q => by rcases q with ⟨q1, q2, q3⟩ | ⟨q1, q2, q3⟩ <;> first | omega | exact c26 q2 | exact q3 c53)
    · skip
      refine e_aload_n q_X12_isWant_20 (by decide) rfl ?_
      refine e_iload_n q_X12_isWant_21 (by decide) rfl ?_
      refine e_iload_n q_X12_isWant_22 (by decide) rfl ?_
      refine iv_X12_mustBe q_X12_isWant_23 lk_X12_242 (by decide) (a39 hB) (Nat.le_of_ble_eq_true rfl) ?_
      refine k_mustBe hB hm h0 h1 hd ?_
      refine e_ifb_eq q_X12_isWant_26 (fun c26 => ?_) (fun c26 => ?_)
      · skip
        refine e_iconst q_X12_isWant_38 ?_
        refine e_goto q_X12_isWant_39 ?_
        refine e_ireturn q_X12_isWant_61 rfl rfl ?_
        first | exact zqT h (Or.inl ⟨by omega, c26, by omega⟩) | exact zqT h (Or.inr ⟨by omega, by omega, c53⟩) | exact zqF h (fun q => by rcases q with ⟨q1, q2, q3⟩ | ⟨q1, q2, q3⟩ <;> first | omega | exact c26 q2 | exact q3 c53)
      · skip
        refine e_iload q_X12_isWant_29 (by decide) rfl ?_
        refine e_if_ne q_X12_isWant_31 (by first | exact hR _ _ | (constructor <;> omega) | assumption) (fun c31 => ?_) (fun c31 => ?_)
        · skip
          refine e_iconst q_X12_isWant_38 ?_
          refine e_goto q_X12_isWant_39 ?_
          refine e_ireturn q_X12_isWant_61 rfl rfl ?_
          first | exact zqT h (Or.inl ⟨by omega, c26, by omega⟩) | exact zqT h (Or.inr ⟨by omega, by omega, c53⟩) | exact zqF h (fun q => by rcases q with ⟨q1, q2, q3⟩ | ⟨q1, q2, q3⟩ <;> first | omega | exact c26 q2 | exact q3 c53)
        · skip
          refine e_iconst q_X12_isWant_34 ?_
          refine e_goto q_X12_isWant_35 ?_
          refine e_ireturn q_X12_isWant_61 rfl rfl ?_
          first | exact zqT h (Or.inl ⟨by omega, c26, by omega⟩) | exact zqT h (Or.inr ⟨by omega, by omega, c53⟩) | exact zqF h (fun q => by rcases q with ⟨q1, q2, q3⟩ | ⟨q1, q2, q3⟩ <;> first | omega | exact c26 q2 | exact q3 c53)
  · skip
    refine e_iconst q_X12_isWant_9 ?_
    refine e_goto q_X12_isWant_10 ?_
    refine e_istore (ls' := [_, _, _, _, _]) q_X12_isWant_14 (by decide) rfl rfl ?_
    refine e_iload_n q_X12_isWant_16 (by decide) rfl ?_
    refine e_if_ne q_X12_isWant_17 hwh (fun c17 => ?_) (fun c17 => ?_)
    · skip
      refine e_iload q_X12_isWant_42 (by decide) rfl ?_
      refine e_if_eq q_X12_isWant_44 (by first | exact hR _ _ | (constructor <;> omega) | assumption) (fun c44 => ?_) (fun c44 => ?_)
      · skip
        refine e_iconst q_X12_isWant_60 ?_
        refine e_ireturn q_X12_isWant_61 rfl rfl ?_
        first | exact zqT h (Or.inl ⟨by omega, c26, by omega⟩) | exact zqT h (Or.inr ⟨by omega, by omega, c53⟩) | exact zqF h (fun q => by rcases q with ⟨q1, q2, q3⟩ | ⟨q1, q2, q3⟩ <;> first | omega | exact c26 q2 | exact q3 c53)
      · skip
        refine e_aload_n q_X12_isWant_47 (by decide) rfl ?_
        refine e_iload_n q_X12_isWant_48 (by decide) rfl ?_
        refine e_iload_n q_X12_isWant_49 (by decide) rfl ?_
        refine iv_X12_mustBe q_X12_isWant_50 lk_X12_242 (by decide) (a39 hB) (Nat.le_of_ble_eq_true rfl) ?_
        refine k_mustBe hB hm h0 h1 hd ?_
        refine e_ifb_ne q_X12_isWant_53 (fun c53 => ?_) (fun c53 => ?_)
        · skip
          refine e_iconst q_X12_isWant_60 ?_
          refine e_ireturn q_X12_isWant_61 rfl rfl ?_
          first | exact zqT h (Or.inl ⟨by omega, c26, by omega⟩) | exact zqT h (Or.inr ⟨by omega, by omega, c53⟩) | exact zqF h (fun q => by rcases q with ⟨q1, q2, q3⟩ | ⟨q1, q2, q3⟩ <;> first | omega | exact c26 q2 | exact q3 c53)
        · skip
          refine e_iconst q_X12_isWant_56 ?_
          refine e_goto q_X12_isWant_57 ?_
          refine e_ireturn q_X12_isWant_61 rfl rfl ?_
          first | exact zqT h (Or.inl ⟨by omega, c26, by omega⟩) | exact zqT h (Or.inr ⟨by omega, by omega, c53⟩) | exact zqF h (fun q => by rcases q with ⟨q1, q2, q3⟩ | ⟨q1, q2, q3⟩ <;> first | omega | exact c26 q2 | exact q3 c53)
    · skip
      refine e_aload_n q_X12_isWant_20 (by decide) rfl ?_
      refine e_iload_n q_X12_isWant_21 (by decide) rfl ?_
      refine e_iload_n q_X12_isWant_22 (by decide) rfl ?_
      refine iv_X12_mustBe q_X12_isWant_23 lk_X12_242 (by decide) (a39 hB) (Nat.le_of_ble_eq_true rfl) ?_
      refine k_mustBe hB hm h0 h1 hd ?_
      refine e_ifb_eq q_X12_isWant_26 (fun c26 => ?_) (fun c26 => ?_)
      · skip
        refine e_iconst q_X12_isWant_38 ?_
        refine e_goto q_X12_isWant_39 ?_
        refine e_ireturn q_X12_isWant_61 rfl rfl ?_
        first | exact zqT h (Or.inl ⟨by omega, c26, by omega⟩) | exact zqT h (Or.inr ⟨by omega, by omega, c53⟩) | exact zqF h (fun q => by rcases q with ⟨q1, q2, q3⟩ | ⟨q1, q2, q3⟩ <;> first | omega | exact c26 q2 | exact q3 c53)
      · skip
        refine e_iload q_X12_isWant_29 (by decide) rfl ?_
        refine e_if_ne q_X12_isWant_31 (by first | exact hR _ _ | (constructor <;> omega) | assumption) (fun c31 => ?_) (fun c31 => ?_)
        · skip
          refine e_iconst q_X12_isWant_38 ?_
          refine e_goto q_X12_isWant_39 ?_
          refine e_ireturn q_X12_isWant_61 rfl rfl ?_
          first | exact zqT h (Or.inl ⟨by omega, c26, by omega⟩) | exact zqT h (Or.inr ⟨by omega, by omega, c53⟩) | exact zqF h (fun q => by rcases q with ⟨q1, q2, q3⟩ | ⟨q1, q2, q3⟩ <;> first | omega | exact c26 q2 | exact q3 c53)
        · skip
          refine e_iconst q_X12_isWant_34 ?_
          refine e_goto q_X12_isWant_35 ?_
          refine e_ireturn q_X12_isWant_61 rfl rfl ?_
          first | exact zqT h (Or.inl ⟨by omega, c26, by omega⟩) | exact zqT h (Or.inr ⟨by omega, by omega, c53⟩) | exact zqF h (fun q => by rcases q with ⟨q1, q2, q3⟩ | ⟨q1, q2, q3⟩ <;> first | omega | exact c26 q2 | exact q3 c53)
set_option maxRecDepth 20000 in
set_option maxHeartbeats 2000000 in
theorem k_nightsOf (hB : zB0 s) (hm : mI N) {k d : Int} (h0 : 0 ≤ k) (h1 : k < N 39 36) (hd : 0 ≤ d ∧ d ≤ 9999) (h : Q (some (vi (nightsC N k d))) (zI s N)) : zC X m_X12_nightsOf [.ref 39, vi k, vi d] (zI s N) Q := by
  have hR := hm.1
  have hC := hm.2.1
  unfold mCnt at hC
  have hp := hm.2.2.2.2.2.1 k h0 h1
  show zE X m_X12_nightsOf 0 [.ref 39, vi k, vi d, zU, zU] [] _ Q
  refine e_iconst q_X12_nightsOf_0 ?_
  refine e_istore_n (ls' := [_, _, _, _, _]) q_X12_nightsOf_1 (by decide) rfl rfl ?_
  refine e_aload_n q_X12_nightsOf_2 (by decide) rfl ?_
  refine i_getC (r := 65) q_X12_nightsOf_3 fl_X12_91 (a39 hB) rfl (by decide) ?_
  refine e_iload_n q_X12_nightsOf_6 (by decide) rfl ?_
  refine i_iald q_X12_nightsOf_7 (a65 hB) (cref0 (by decide)) (by first | omega | assumption) (by first | omega | assumption) (by decide) rfl ?_
  refine e_istore (ls' := [_, _, _, _, _]) q_X12_nightsOf_8 (by decide) rfl rfl ?_
  refine zEe (ls := [.ref 39, vi k, vi d, vi (cnt (fun i : Nat => ¬ fairD N (N 65 k + i)) 0), vi (N 65 k + ((0 : Nat) : Int))]) (σ := (zI s N)) ?_ (by simp [cnt, sumK]) rfl
  refine z_for (P := fun i => zE X m_X12_nightsOf 10 [.ref 39, vi k, vi d, vi (cnt (fun i : Nat => ¬ fairD N (N 65 k + i)) i), vi (N 65 k + (i : Int))] [] (zI s N) Q) (d + 1 - N 65 k).toNat (fun i hi ih => ?_) ?_
  · skip
    refine e_iload q_X12_nightsOf_10 (by decide) rfl ?_
    refine e_iload_n q_X12_nightsOf_12 (by decide) rfl ?_
    refine e_icmp_gt q_X12_nightsOf_13 (by first | exact hR _ _ | (constructor <;> omega) | assumption) (by first | exact hR _ _ | (constructor <;> omega) | assumption) (fun c13 => ?_) (fun c13 => ?_)
    · skip
      exact absurd c13 (by omega)
    · skip
      refine e_iload_n q_X12_nightsOf_16 (by decide) rfl ?_
      refine e_aload_n q_X12_nightsOf_17 (by decide) rfl ?_
      refine e_iload q_X12_nightsOf_18 (by decide) rfl ?_
      refine iv_X12_isFair q_X12_nightsOf_20 lk_X12_280 (by decide) (a39 hB) (Nat.le_of_ble_eq_true rfl) ?_
      refine k_isFair hB hm (by constructor <;> omega) ?_
      refine e_ifb_eq q_X12_nightsOf_23 (fun c23 => ?_) (fun c23 => ?_)
      · skip
        refine e_iconst q_X12_nightsOf_30 ?_
        refine e_iadd q_X12_nightsOf_31 ?_
        refine e_istore_n (ls' := [_, _, _, _, _]) q_X12_nightsOf_32 (by decide) rfl rfl ?_
        refine e_iinc (ls' := [_, _, _, _, _]) q_X12_nightsOf_33 (by decide) rfl rfl rfl ?_
        refine e_goto q_X12_nightsOf_36 ?_
        have e : N 65 k + ((i + 1 : Nat) : Int) = N 65 k + (i : Int) + 1 := by omega
        first | exact zEe ih (by rw [cnt_t (p := fun i : Nat => ¬ fairD N (N 65 k + i)) c23, e]) rfl | exact zEe ih (by rw [cnt_f (p := fun i : Nat => ¬ fairD N (N 65 k + i)) (fun q => q c23), e]) rfl
      · skip
        refine e_iconst q_X12_nightsOf_26 ?_
        refine e_goto q_X12_nightsOf_27 ?_
        refine e_iadd q_X12_nightsOf_31 ?_
        refine e_istore_n (ls' := [_, _, _, _, _]) q_X12_nightsOf_32 (by decide) rfl rfl ?_
        refine e_iinc (ls' := [_, _, _, _, _]) q_X12_nightsOf_33 (by decide) rfl rfl rfl ?_
        refine e_goto q_X12_nightsOf_36 ?_
        have e : N 65 k + ((i + 1 : Nat) : Int) = N 65 k + (i : Int) + 1 := by omega
        first | exact zEe ih (by rw [cnt_t (p := fun i : Nat => ¬ fairD N (N 65 k + i)) c23, e]) rfl | exact zEe ih (by rw [cnt_f (p := fun i : Nat => ¬ fairD N (N 65 k + i)) (fun q => q c23), e]) rfl
  · skip
    refine e_iload q_X12_nightsOf_10 (by decide) rfl ?_
    refine e_iload_n q_X12_nightsOf_12 (by decide) rfl ?_
    refine e_icmp_gt q_X12_nightsOf_13 (by first | exact hR _ _ | (constructor <;> omega) | assumption) (by first | exact hR _ _ | (constructor <;> omega) | assumption) (fun c13 => ?_) (fun c13 => ?_)
    · skip
      refine e_iload_n q_X12_nightsOf_39 (by decide) rfl ?_
      refine e_ireturn q_X12_nightsOf_40 rfl rfl ?_
      exact h
    · skip
      exact absurd (by omega) c13
theorem z_forE {P : Nat → Value → Prop} (B : Nat) (hs : ∀ i u, i < B → (∀ u', P (i + 1) u') → P i u) (he : ∀ u, P B u) (u : Value) : P 0 u := by
  have key : ∀ n i u, i + n = B → P i u := by
    intro n
    induction n with
    | zero => intro i u hi; have : i = B := by omega
              subst this; exact he u
    | succ n ih => intro i u hi; exact hs i u (by omega) (fun u' => ih (i + 1) u' (by omega))
  exact key B 0 u (by omega)
set_option maxRecDepth 20000 in
set_option maxHeartbeats 2000000 in
theorem k_groupOfHouse (hB : zB0 s) (hm : mI N) {g d : Int} (hg : zr g) (hd : 0 ≤ d ∧ d ≤ 9999) (h : Q (some (vi (gHouse N g d))) (zI s N)) : zC X m_X12_groupOfHouse [.ref 39, vi g, vi d] (zI s N) Q := by
  have hR := hm.1
  have hC := hm.2.1
  unfold mCnt at hC
  show zE X m_X12_groupOfHouse 0 [.ref 39, vi g, vi d, zU, zU] [] _ Q
  refine e_iconst q_X12_groupOfHouse_0 ?_
  refine e_istore_n (ls' := [_, _, _, _, _]) q_X12_groupOfHouse_1 (by decide) rfl rfl ?_
  refine z_forE (P := fun i u => (∀ j, j < i → ¬ (fun i : Nat => 0 ≤ spA N i d ∧ N 44 i = g) j) → zE X m_X12_groupOfHouse 2 [.ref 39, vi g, vi d, vi (i : Int), u] [] (zI s N) Q) (N 39 2).toNat (fun i u hi ih hn => ?_) (fun u hn => ?_) _ (by intro j hj; omega)
  · skip
    refine e_iload_n q_X12_groupOfHouse_2 (by decide) rfl ?_
    refine e_aload_n q_X12_groupOfHouse_3 (by decide) rfl ?_
    refine i_getI (k' := 2) q_X12_groupOfHouse_4 fl_X12_164 (a39 hB) rfl rfl rfl rfl ?_
    refine e_icmp_ge q_X12_groupOfHouse_7 (by first | exact hR _ _ | (constructor <;> omega) | assumption) (by first | exact hR _ _ | (constructor <;> omega) | assumption) (fun c7 => ?_) (fun c7 => ?_)
    · skip
      exact absurd c7 (by omega)
    · skip
      refine e_aload_n q_X12_groupOfHouse_10 (by decide) rfl ?_
      refine e_iload_n q_X12_groupOfHouse_11 (by decide) rfl ?_
      refine e_iload_n q_X12_groupOfHouse_12 (by decide) rfl ?_
      refine iv_X12_spellAt q_X12_groupOfHouse_13 lk_X12_254 (by decide) (a39 hB) (Nat.le_of_ble_eq_true rfl) ?_
      refine k_spellAt hB hm (by omega) (by omega) hd ?_
      refine e_istore (ls' := [_, _, _, _, _]) q_X12_groupOfHouse_16 (by decide) rfl rfl ?_
      have hs := spA_b N i d
      refine e_iload q_X12_groupOfHouse_18 (by decide) rfl ?_
      refine e_if_lt q_X12_groupOfHouse_20 (by first | exact hR _ _ | (constructor <;> omega) | assumption) (fun c20 => ?_) (fun c20 => ?_)
      · skip
        refine e_iinc (ls' := [_, _, _, _, _]) q_X12_groupOfHouse_41 (by decide) rfl rfl rfl ?_
        refine e_goto q_X12_groupOfHouse_44 ?_
        exact ih _ (z_lt1 hn (by omega))
      · skip
        refine e_aload_n q_X12_groupOfHouse_23 (by decide) rfl ?_
        refine i_getC (r := 44) q_X12_groupOfHouse_24 fl_X12_22 (a39 hB) rfl (by decide) ?_
        refine e_iload_n q_X12_groupOfHouse_27 (by decide) rfl ?_
        refine i_iald q_X12_groupOfHouse_28 (a44 hB) (cref0 (by decide)) (by first | omega | assumption) (by first | omega | assumption) (by decide) rfl ?_
        refine e_iload_n q_X12_groupOfHouse_29 (by decide) rfl ?_
        refine e_icmp_ne q_X12_groupOfHouse_30 (hR _ _) hg (fun c30 => ?_) (fun c30 => ?_)
        · skip
          refine e_iinc (ls' := [_, _, _, _, _]) q_X12_groupOfHouse_41 (by decide) rfl rfl rfl ?_
          refine e_goto q_X12_groupOfHouse_44 ?_
          exact ih _ (z_lt1 hn (by omega))
        · skip
          refine e_aload_n q_X12_groupOfHouse_33 (by decide) rfl ?_
          refine i_getC (r := 60) q_X12_groupOfHouse_34 fl_X12_76 (a39 hB) rfl (by decide) ?_
          refine e_iload q_X12_groupOfHouse_37 (by decide) rfl ?_
          refine i_iald q_X12_groupOfHouse_39 (a60 hB) (cref0 (by decide)) (by first | omega | assumption) (by first | omega | assumption) (by decide) rfl ?_
          refine e_ireturn q_X12_groupOfHouse_40 rfl rfl ?_
          exact zqI h (by unfold gHouse; rw [fstK_at (p := fun i : Nat => 0 ≤ spA N i d ∧ N 44 i = g) (i := i) (by omega) hn ⟨by omega, c30⟩, zif_f (by omega)])
  · skip
    refine e_iload_n q_X12_groupOfHouse_2 (by decide) rfl ?_
    refine e_aload_n q_X12_groupOfHouse_3 (by decide) rfl ?_
    refine i_getI (k' := 2) q_X12_groupOfHouse_4 fl_X12_164 (a39 hB) rfl rfl rfl rfl ?_
    refine e_icmp_ge q_X12_groupOfHouse_7 (by first | exact hR _ _ | (constructor <;> omega) | assumption) (by first | exact hR _ _ | (constructor <;> omega) | assumption) (fun c7 => ?_) (fun c7 => ?_)
    · skip
      refine e_bipush q_X12_groupOfHouse_47 (by decide) ?_
      refine e_ireturn q_X12_groupOfHouse_49 rfl rfl ?_
      exact zqI h (by unfold gHouse; rw [fstK_none (p := fun i : Nat => 0 ≤ spA N i d ∧ N 44 i = g) (fun j hj => hn j (by omega)), zif_t (by omega)])
    · skip
      exact absurd (by omega) c7
set_option maxRecDepth 20000 in
set_option maxHeartbeats 2000000 in
theorem k_chargedFor (hB : zB0 s) (hm : mI N) {w d : Int} (h0 : 0 ≤ w) (h1 : w < N 39 2)(hd : 0 ≤ d ∧ d ≤ 9999) (h : Q (some (vi (charg N w d))) (zI s N)) : zC X m_X12_chargedFor [.ref 39, vi w, vi d] (zI s N) Q := by
  have hR := hm.1
  have hC := hm.2.1
  unfold mCnt at hC
  have hp := hm.2.2.1 w h0 h1
  show zE X m_X12_chargedFor 0 [.ref 39, vi w, vi d, zU] [] _ Q
  refine e_aload_n q_X12_chargedFor_0 (by decide) rfl ?_
  refine e_iload_n q_X12_chargedFor_1 (by decide) rfl ?_
  refine e_iload_n q_X12_chargedFor_2 (by decide) rfl ?_
  refine iv_X12_isThere q_X12_chargedFor_3 lk_X12_197 (by decide) (a39 hB) (Nat.le_of_ble_eq_true rfl) ?_
  refine k_isThere hB hm h0 (by omega) hd ?_
  refine e_ifb_ne q_X12_chargedFor_6 (fun c6 => ?_) (fun c6 => ?_)
  · skip
    refine e_iconst q_X12_chargedFor_12 ?_
    refine e_istore_n (ls' := [_, _, _, _]) q_X12_chargedFor_13 (by decide) rfl rfl ?_
    refine zEe (ls := [.ref 39, vi w, vi d, vi ((0 : Nat) : Int)]) (σ := (zI s N)) ?_ rfl rfl
    refine z_for (P := fun i => (∀ j, j < i → ¬ (fun k : Nat => N 63 k = w ∧ N 65 k ≤ d ∧ d ≤ N 66 k) j) → zE X m_X12_chargedFor 14 [.ref 39, vi w, vi d, vi (i : Int)] [] (zI s N) Q) (N 39 36).toNat (fun i hi ih hn => ?_) (fun hn => ?_) (by intro j hj; omega)
    · skip
      refine e_iload_n q_X12_chargedFor_14 (by decide) rfl ?_
      refine e_aload_n q_X12_chargedFor_15 (by decide) rfl ?_
      refine i_getI (k' := 36) q_X12_chargedFor_16 fl_X12_277 (a39 hB) rfl rfl rfl rfl ?_
      refine e_icmp_ge q_X12_chargedFor_19 (by first | exact hR _ _ | (constructor <;> omega) | assumption) (by first | exact hR _ _ | (constructor <;> omega) | assumption) (fun c19 => ?_) (fun c19 => ?_)
      · skip
        exact absurd c19 (by omega)
      · skip
        refine e_aload_n q_X12_chargedFor_22 (by decide) rfl ?_
        refine i_getC (r := 63) q_X12_chargedFor_23 fl_X12_85 (a39 hB) rfl (by decide) ?_
        refine e_iload_n q_X12_chargedFor_26 (by decide) rfl ?_
        refine i_iald q_X12_chargedFor_27 (a63 hB) (cref0 (by decide)) (by first | omega | assumption) (by first | omega | assumption) (by decide) rfl ?_
        refine e_iload_n q_X12_chargedFor_28 (by decide) rfl ?_
        refine e_icmp_ne q_X12_chargedFor_29 (by first | exact hR _ _ | (constructor <;> omega) | assumption) (by first | exact hR _ _ | (constructor <;> omega) | assumption) (fun c29 => ?_) (fun c29 => ?_)
        · skip
          refine e_iinc (ls' := [_, _, _, _]) q_X12_chargedFor_81 (by decide) rfl rfl rfl ?_
          refine e_goto q_X12_chargedFor_84 ?_
          exact ih (z_lt1 hn (fun q => by first | (have q1 := q.1; omega) | exact c48 q.2))
        · skip
          refine e_iload_n q_X12_chargedFor_32 (by decide) rfl ?_
          refine e_aload_n q_X12_chargedFor_33 (by decide) rfl ?_
          refine i_getC (r := 65) q_X12_chargedFor_34 fl_X12_91 (a39 hB) rfl (by decide) ?_
          refine e_iload_n q_X12_chargedFor_37 (by decide) rfl ?_
          refine i_iald q_X12_chargedFor_38 (a65 hB) (cref0 (by decide)) (by first | omega | assumption) (by first | omega | assumption) (by decide) rfl ?_
          refine e_aload_n q_X12_chargedFor_39 (by decide) rfl ?_
          refine i_getC (r := 66) q_X12_chargedFor_40 fl_X12_94 (a39 hB) rfl (by decide) ?_
          refine e_iload_n q_X12_chargedFor_43 (by decide) rfl ?_
          refine i_iald q_X12_chargedFor_44 (a66 hB) (cref0 (by decide)) (by first | omega | assumption) (by first | omega | assumption) (by decide) rfl ?_
          refine iv_X12_within q_X12_chargedFor_45 lk_X12_160 (by decide) (Nat.le_of_ble_eq_true rfl) ?_
          refine k_within (by constructor <;> omega) (hR _ _) (hR _ _) ?_
          refine e_ifb_eq q_X12_chargedFor_48 (fun c48 => ?_) (fun c48 => ?_)
          · skip
            refine e_iinc (ls' := [_, _, _, _]) q_X12_chargedFor_81 (by decide) rfl rfl rfl ?_
            refine e_goto q_X12_chargedFor_84 ?_
            exact ih (z_lt1 hn (fun q => by first | (have q1 := q.1; omega) | exact c48 q.2))
          · skip
            have e : stayK N w d = (i : Int) := fstK_at (p := fun k : Nat => N 63 k = w ∧ N 65 k ≤ d ∧ d ≤ N 66 k) (by omega) hn ⟨c29, c48.1, c48.2⟩
            have hnr := nightsC_r (N := N) (k := i) (d := d) (hm.2.2.2.2.2.1 i (by omega) (by omega)).2.2.1 hd.2
            refine e_aload_n q_X12_chargedFor_51 (by decide) rfl ?_
            refine e_iload_n q_X12_chargedFor_52 (by decide) rfl ?_
            refine e_iload_n q_X12_chargedFor_53 (by decide) rfl ?_
            refine iv_X12_nightsOf q_X12_chargedFor_54 lk_X12_283 (by decide) (a39 hB) (Nat.le_of_ble_eq_true rfl) ?_
            refine k_nightsOf hB hm (by omega) (by omega) hd ?_
            refine e_aload_n q_X12_chargedFor_57 (by decide) rfl ?_
            refine i_getI (k' := 18) q_X12_chargedFor_58 fl_X12_54 (a39 hB) rfl rfl rfl rfl ?_
            refine e_icmp_lt q_X12_chargedFor_61 (by constructor <;> omega) (hR _ _) (fun c61 => ?_) (fun c61 => ?_)
            · skip
              refine e_bipush q_X12_chargedFor_78 (by decide) ?_
              refine e_ireturn q_X12_chargedFor_80 rfl rfl ?_
              first | exact zqI h (by unfold charg; rw [e]; exact zif_t ⟨c6, by omega, by omega⟩) | exact zqI h (by unfold charg; rw [e]; exact zif_f (fun q => by have := q.2.2; omega))
            · skip
              refine e_aload_n q_X12_chargedFor_64 (by decide) rfl ?_
              refine e_aload_n q_X12_chargedFor_65 (by decide) rfl ?_
              refine i_getC (r := 64) q_X12_chargedFor_66 fl_X12_88 (a39 hB) rfl (by decide) ?_
              refine e_iload_n q_X12_chargedFor_69 (by decide) rfl ?_
              refine i_iald q_X12_chargedFor_70 (a64 hB) (cref0 (by decide)) (by first | omega | assumption) (by first | omega | assumption) (by decide) rfl ?_
              refine e_iload_n q_X12_chargedFor_71 (by decide) rfl ?_
              refine iv_X12_groupOfHouse q_X12_chargedFor_72 lk_X12_286 (by decide) (a39 hB) (Nat.le_of_ble_eq_true rfl) ?_
              refine k_groupOfHouse hB hm (hR _ _) hd ?_
              refine e_goto q_X12_chargedFor_75 ?_
              refine e_ireturn q_X12_chargedFor_80 rfl rfl ?_
              first | exact zqI h (by unfold charg; rw [e]; exact zif_t ⟨c6, by omega, by omega⟩) | exact zqI h (by unfold charg; rw [e]; exact zif_f (fun q => by have := q.2.2; omega))
    · skip
      refine e_iload_n q_X12_chargedFor_14 (by decide) rfl ?_
      refine e_aload_n q_X12_chargedFor_15 (by decide) rfl ?_
      refine i_getI (k' := 36) q_X12_chargedFor_16 fl_X12_277 (a39 hB) rfl rfl rfl rfl ?_
      refine e_icmp_ge q_X12_chargedFor_19 (by first | exact hR _ _ | (constructor <;> omega) | assumption) (by first | exact hR _ _ | (constructor <;> omega) | assumption) (fun c19 => ?_) (fun c19 => ?_)
      · skip
        refine e_bipush q_X12_chargedFor_87 (by decide) ?_
        refine e_ireturn q_X12_chargedFor_89 rfl rfl ?_
        exact zqI h (by unfold charg; exact zif_f (fun q => by have q1 := q.2.1; unfold stayK at q1; rw [fstK_none (p := fun k : Nat => N 63 k = w ∧ N 65 k ≤ d ∧ d ≤ N 66 k) (fun j hj => hn j (by omega))] at q1; omega))
      · skip
        exact absurd (by omega) c19
  · skip
    refine e_bipush q_X12_chargedFor_9 (by decide) ?_
    refine e_ireturn q_X12_chargedFor_11 rfl rfl ?_
    exact zqI h (by unfold charg; exact zif_f (fun q => c6 q.1))
set_option maxRecDepth 20000 in
set_option maxHeartbeats 2000000 in
theorem k_isComer (hB : zB0 s) (hm : mI N) {w d : Int} (h0 : 0 ≤ w) (h1 : w < N 39 2)(hd : 0 ≤ d ∧ d ≤ 9999) (h : Q (some (vi (bi (comer N w d)))) (zI s N)) : zC X m_X12_isComer [.ref 39, vi w, vi d] (zI s N) Q := by
  have hR := hm.1
  have hC := hm.2.1
  unfold mCnt at hC
  show zE X m_X12_isComer 0 [.ref 39, vi w, vi d] [] _ Q
  refine e_aload_n q_X12_isComer_0 (by decide) rfl ?_
  refine i_getC (r := 41) q_X12_isComer_1 fl_X12_13 (a39 hB) rfl (by decide) ?_
  refine e_iload_n q_X12_isComer_4 (by decide) rfl ?_
  refine i_iald q_X12_isComer_5 (a41 hB) (cref0 (by decide)) (by first | omega | assumption) (by first | omega | assumption) (by decide) rfl ?_
  refine e_iconst q_X12_isComer_6 ?_
  refine e_icmp_ge q_X12_isComer_7 (by first | exact hR _ _ | (constructor <;> omega) | assumption) (by first | exact hR _ _ | (constructor <;> omega) | assumption) (fun c7 => ?_) (fun c7 => ?_)
  · skip
    refine e_iconst q_X12_isComer_33 ?_
    refine e_ireturn q_X12_isComer_34 rfl rfl ?_
    first | exact zqT h ⟨by omega, c17, c26⟩ | exact zqF h (fun q => by first | (have q1 := q.1; omega) | exact c17 q.2.1 | exact q.2.2 c26)
  · skip
    refine e_aload_n q_X12_isComer_10 (by decide) rfl ?_
    refine e_iload_n q_X12_isComer_11 (by decide) rfl ?_
    refine e_iload_n q_X12_isComer_12 (by decide) rfl ?_
    refine e_iconst q_X12_isComer_13 ?_
    refine iv_X12_isWant q_X12_isComer_14 lk_X12_274 (by decide) (a39 hB) (Nat.le_of_ble_eq_true rfl) ?_
    refine k_isWant hB hm (by constructor <;> omega) h0 h1 hd ?_
    refine e_ifb_eq q_X12_isComer_17 (fun c17 => ?_) (fun c17 => ?_)
    · skip
      refine e_iconst q_X12_isComer_33 ?_
      refine e_ireturn q_X12_isComer_34 rfl rfl ?_
      first | exact zqT h ⟨by omega, c17, c26⟩ | exact zqF h (fun q => by first | (have q1 := q.1; omega) | exact c17 q.2.1 | exact q.2.2 c26)
    · skip
      refine e_aload_n q_X12_isComer_20 (by decide) rfl ?_
      refine e_iload_n q_X12_isComer_21 (by decide) rfl ?_
      refine e_iload_n q_X12_isComer_22 (by decide) rfl ?_
      refine iv_X12_isBound q_X12_isComer_23 lk_X12_264 (by decide) (a39 hB) (Nat.le_of_ble_eq_true rfl) ?_
      refine k_isBound hB hm h0 h1 hd ?_
      refine e_ifb_ne q_X12_isComer_26 (fun c26 => ?_) (fun c26 => ?_)
      · skip
        refine e_iconst q_X12_isComer_33 ?_
        refine e_ireturn q_X12_isComer_34 rfl rfl ?_
        first | exact zqT h ⟨by omega, c17, c26⟩ | exact zqF h (fun q => by first | (have q1 := q.1; omega) | exact c17 q.2.1 | exact q.2.2 c26)
      · skip
        refine e_iconst q_X12_isComer_29 ?_
        refine e_goto q_X12_isComer_30 ?_
        refine e_ireturn q_X12_isComer_34 rfl rfl ?_
        first | exact zqT h ⟨by omega, c17, c26⟩ | exact zqF h (fun q => by first | (have q1 := q.1; omega) | exact c17 q.2.1 | exact q.2.2 c26)
set_option maxRecDepth 20000 in
set_option maxHeartbeats 2000000 in
theorem k_hasKin (hB : zB0 s) (hm : mI N) {w g d : Int} (hg : zr g) (h0 : 0 ≤ w) (h1 : w < N 39 2)(hd : 0 ≤ d ∧ d ≤ 9999) (h : Q (some (vi (bi (kinIn N w g d)))) (zI s N)) : zC X m_X12_hasKin [.ref 39, vi w, vi g, vi d] (zI s N) Q := by
  have hR := hm.1
  have hC := hm.2.1
  unfold mCnt at hC
  show zE X m_X12_hasKin 0 [.ref 39, vi w, vi g, vi d, zU] [] _ Q
  refine e_iconst q_X12_hasKin_0 ?_
  refine e_istore (ls' := [_, _, _, _, _]) q_X12_hasKin_1 (by decide) rfl rfl ?_
  refine zEe (ls := [.ref 39, vi w, vi g, vi d, vi ((0 : Nat) : Int)]) (σ := (zI s N)) ?_ rfl rfl
  refine z_for (P := fun i => (∀ j, j < i → ¬ (fun k : Nat => (k : Int) ≠ w ∧ kinP N w k ∧ memb N k g d) j) → zE X m_X12_hasKin 3 [.ref 39, vi w, vi g, vi d, vi (i : Int)] [] (zI s N) Q) (N 39 2).toNat (fun i hi ih hn => ?_) (fun hn => ?_) (by intro j hj; omega)
  · skip
    refine e_iload q_X12_hasKin_3 (by decide) rfl ?_
    refine e_aload_n q_X12_hasKin_5 (by decide) rfl ?_
    refine i_getI (k' := 2) q_X12_hasKin_6 fl_X12_164 (a39 hB) rfl rfl rfl rfl ?_
    refine e_icmp_ge q_X12_hasKin_9 (by first | exact hR _ _ | (constructor <;> omega) | assumption) (by first | exact hR _ _ | (constructor <;> omega) | assumption) (fun c9 => ?_) (fun c9 => ?_)
    · skip
      exact absurd c9 (by omega)
    · skip
      refine e_iload q_X12_hasKin_12 (by decide) rfl ?_
      refine e_iload_n q_X12_hasKin_14 (by decide) rfl ?_
      refine e_icmp_eq q_X12_hasKin_15 (by first | exact hR _ _ | (constructor <;> omega) | assumption) (by first | exact hR _ _ | (constructor <;> omega) | assumption) (fun c15 => ?_) (fun c15 => ?_)
      · skip
        refine e_iinc (ls' := [_, _, _, _, _]) q_X12_hasKin_41 (by decide) rfl rfl rfl ?_
        refine e_goto q_X12_hasKin_44 ?_
        exact ih (z_lt1 hn (fun q => by first | exact q.1 c15 | exact c25 q.2.1 | exact c36 q.2.2))
      · skip
        refine e_aload_n q_X12_hasKin_18 (by decide) rfl ?_
        refine e_iload_n q_X12_hasKin_19 (by decide) rfl ?_
        refine e_iload q_X12_hasKin_20 (by decide) rfl ?_
        refine iv_X12_areKin q_X12_hasKin_22 lk_X12_200 (by decide) (a39 hB) (Nat.le_of_ble_eq_true rfl) ?_
        refine k_areKin hB hm h0 (by omega) (by omega) (by omega) ?_
        refine e_ifb_eq q_X12_hasKin_25 (fun c25 => ?_) (fun c25 => ?_)
        · skip
          refine e_iinc (ls' := [_, _, _, _, _]) q_X12_hasKin_41 (by decide) rfl rfl rfl ?_
          refine e_goto q_X12_hasKin_44 ?_
          exact ih (z_lt1 hn (fun q => by first | exact q.1 c15 | exact c25 q.2.1 | exact c36 q.2.2))
        · skip
          refine e_aload_n q_X12_hasKin_28 (by decide) rfl ?_
          refine e_iload q_X12_hasKin_29 (by decide) rfl ?_
          refine e_iload_n q_X12_hasKin_31 (by decide) rfl ?_
          refine e_iload_n q_X12_hasKin_32 (by decide) rfl ?_
          refine iv_X12_isMember q_X12_hasKin_33 lk_X12_258 (by decide) (a39 hB) (Nat.le_of_ble_eq_true rfl) ?_
          refine k_isMember hB hm hg (by omega) (by omega) hd ?_
          refine e_ifb_eq q_X12_hasKin_36 (fun c36 => ?_) (fun c36 => ?_)
          · skip
            refine e_iinc (ls' := [_, _, _, _, _]) q_X12_hasKin_41 (by decide) rfl rfl rfl ?_
            refine e_goto q_X12_hasKin_44 ?_
            exact ih (z_lt1 hn (fun q => by first | exact q.1 c15 | exact c25 q.2.1 | exact c36 q.2.2))
          · skip
            refine e_iconst q_X12_hasKin_39 ?_
            refine e_ireturn q_X12_hasKin_40 rfl rfl ?_
            exact zqT h ⟨i, by omega, c15, c25, c36⟩
  · skip
    refine e_iload q_X12_hasKin_3 (by decide) rfl ?_
    refine e_aload_n q_X12_hasKin_5 (by decide) rfl ?_
    refine i_getI (k' := 2) q_X12_hasKin_6 fl_X12_164 (a39 hB) rfl rfl rfl rfl ?_
    refine e_icmp_ge q_X12_hasKin_9 (by first | exact hR _ _ | (constructor <;> omega) | assumption) (by first | exact hR _ _ | (constructor <;> omega) | assumption) (fun c9 => ?_) (fun c9 => ?_)
    · skip
      refine e_iconst q_X12_hasKin_47 ?_
      refine e_ireturn q_X12_hasKin_48 rfl rfl ?_
      exact zqF h (fun q => by obtain ⟨k, q1, q2⟩ := q; exact hn k (by omega) q2)
    · skip
      exact absurd (by omega) c9
set_option maxRecDepth 20000 in
set_option maxHeartbeats 2000000 in
theorem k_groupAhead (hB : zB0 s) (hm : mI N) {f : Int} (h0 : 0 ≤ f) (h1 : f < N 39 10) (h : Q (some (vi (gAhead N f))) (zI s N)) : zC X m_X12_groupAhead [.ref 39, vi f] (zI s N) Q := by
  have hR := hm.1
  have hC := hm.2.1
  unfold mCnt at hC
  have hp := hm.2.2.2.1 f h0 h1
  have hq := hm.2.2.1 (N 48 f) hp.1.1 hp.1.2
  have hs := spA_b N (N 48 f) (N 49 f - 1)
  show zE X m_X12_groupAhead 0 [.ref 39, vi f, zU, zU, zU] [] _ Q
  refine e_aload_n q_X12_groupAhead_0 (by decide) rfl ?_
  refine i_getC (r := 48) q_X12_groupAhead_1 fl_X12_35 (a39 hB) rfl (by decide) ?_
  refine e_iload_n q_X12_groupAhead_4 (by decide) rfl ?_
  refine i_iald q_X12_groupAhead_5 (a48 hB) (cref0 (by decide)) (by first | omega | assumption) (by first | omega | assumption) (by decide) rfl ?_
  refine e_istore_n (ls' := [_, _, _, _, _]) q_X12_groupAhead_6 (by decide) rfl rfl ?_
  refine e_aload_n q_X12_groupAhead_7 (by decide) rfl ?_
  refine i_getC (r := 49) q_X12_groupAhead_8 fl_X12_38 (a39 hB) rfl (by decide) ?_
  refine e_iload_n q_X12_groupAhead_11 (by decide) rfl ?_
  refine i_iald q_X12_groupAhead_12 (a49 hB) (cref0 (by decide)) (by first | omega | assumption) (by first | omega | assumption) (by decide) rfl ?_
  refine e_iconst q_X12_groupAhead_13 ?_
  refine e_isub q_X12_groupAhead_14 ?_
  refine e_istore_n (ls' := [_, _, _, _, _]) q_X12_groupAhead_15 (by decide) rfl rfl ?_
  refine e_iload_n q_X12_groupAhead_16 (by decide) rfl ?_
  refine e_if_ge q_X12_groupAhead_17 (by first | exact hR _ _ | (constructor <;> omega) | assumption) (fun c17 => ?_) (fun c17 => ?_)
  · skip
    refine e_aload_n q_X12_groupAhead_23 (by decide) rfl ?_
    refine i_getC (r := 41) q_X12_groupAhead_24 fl_X12_13 (a39 hB) rfl (by decide) ?_
    refine e_iload_n q_X12_groupAhead_27 (by decide) rfl ?_
    refine i_iald q_X12_groupAhead_28 (a41 hB) (cref0 (by decide)) (by first | omega | assumption) (by first | omega | assumption) (by decide) rfl ?_
    refine e_iconst q_X12_groupAhead_29 ?_
    refine e_icmp_ne q_X12_groupAhead_30 (by first | exact hR _ _ | (constructor <;> omega) | assumption) (by first | exact hR _ _ | (constructor <;> omega) | assumption) (fun c30 => ?_) (fun c30 => ?_)
    · skip
      refine e_aload_n q_X12_groupAhead_40 (by decide) rfl ?_
      refine e_iload_n q_X12_groupAhead_41 (by decide) rfl ?_
      refine e_iload_n q_X12_groupAhead_42 (by decide) rfl ?_
      refine iv_X12_spellAt q_X12_groupAhead_43 lk_X12_254 (by decide) (a39 hB) (Nat.le_of_ble_eq_true rfl) ?_
      refine k_spellAt hB hm (by omega) (by omega) (by omega) ?_
      refine e_istore (ls' := [_, _, _, _, _]) q_X12_groupAhead_46 (by decide) rfl rfl ?_
      refine e_iload q_X12_groupAhead_48 (by decide) rfl ?_
      refine e_if_ge q_X12_groupAhead_50 (by first | exact hR _ _ | (constructor <;> omega) | assumption) (fun c50 => ?_) (fun c50 => ?_)
      · skip
        refine e_aload_n q_X12_groupAhead_58 (by decide) rfl ?_
        refine i_getC (r := 60) q_X12_groupAhead_59 fl_X12_76 (a39 hB) rfl (by decide) ?_
        refine e_iload q_X12_groupAhead_62 (by decide) rfl ?_
        refine i_iald q_X12_groupAhead_64 (a60 hB) (cref0 (by decide)) (by first | omega | assumption) (by first | omega | assumption) (by decide) rfl ?_
        refine e_ireturn q_X12_groupAhead_65 rfl rfl ?_
        first | exact zqI h (by unfold gAhead; rw [if_neg (by omega), if_neg c30, if_pos (by omega)]) | exact zqI h (by unfold gAhead; rw [if_neg (by omega), if_neg c30, if_neg (by omega)])
      · skip
        refine e_bipush q_X12_groupAhead_53 (by decide) ?_
        refine e_goto q_X12_groupAhead_55 ?_
        refine e_ireturn q_X12_groupAhead_65 rfl rfl ?_
        first | exact zqI h (by unfold gAhead; rw [if_neg (by omega), if_neg c30, if_pos (by omega)]) | exact zqI h (by unfold gAhead; rw [if_neg (by omega), if_neg c30, if_neg (by omega)])
    · skip
      refine e_aload_n q_X12_groupAhead_33 (by decide) rfl ?_
      refine e_iload_n q_X12_groupAhead_34 (by decide) rfl ?_
      refine e_iload_n q_X12_groupAhead_35 (by decide) rfl ?_
      refine iv_X12_chargedFor q_X12_groupAhead_36 lk_X12_289 (by decide) (a39 hB) (Nat.le_of_ble_eq_true rfl) ?_
      refine k_chargedFor hB hm (by omega) (by omega) (by omega) ?_
      refine e_ireturn q_X12_groupAhead_39 rfl rfl ?_
      exact zqI h (by unfold gAhead; rw [if_neg (by omega), if_pos c30])
  · skip
    refine e_bipush q_X12_groupAhead_20 (by decide) ?_
    refine e_ireturn q_X12_groupAhead_22 rfl rfl ?_
    exact zqI h (by unfold gAhead; rw [if_pos (by omega)])
set_option maxRecDepth 20000 in
set_option maxHeartbeats 2000000 in
theorem k_isBrought (hB : zB0 s) (hm : mI N){p : Int} (h0 : 0 ≤ p) (h1 : p < N 39 50) (h : Q (some (vi (bi (brought N p)))) (zI s N)) : zC X m_X12_isBrought [.ref 39, vi p] (zI s N) Q := by
  have hR := hm.1
  have hC := hm.2.1
  unfold mCnt at hC
  have hp := hm.2.2.2.2.2.2 p h0 h1
  have hq := hm.2.2.2.1 (N 74 p) hp.1.1 hp.1.2
  show zE X m_X12_isBrought 0 [.ref 39, vi p, zU] [] _ Q
  refine e_aload_n q_X12_isBrought_0 (by decide) rfl ?_
  refine i_getC (r := 74) q_X12_isBrought_1 fl_X12_118 (a39 hB) rfl (by decide) ?_
  refine e_iload_n q_X12_isBrought_4 (by decide) rfl ?_
  refine i_iald q_X12_isBrought_5 (a74 hB) (cref0 (by decide)) (by first | omega | assumption) (by first | omega | assumption) (by decide) rfl ?_
  refine e_istore_n (ls' := [_, _, _]) q_X12_isBrought_6 (by decide) rfl rfl ?_
  refine e_aload_n q_X12_isBrought_7 (by decide) rfl ?_
  refine i_getC (r := 50) q_X12_isBrought_8 fl_X12_41 (a39 hB) rfl (by decide) ?_
  refine e_iload_n q_X12_isBrought_11 (by decide) rfl ?_
  refine i_iald q_X12_isBrought_12 (a50 hB) (cref0 (by decide)) (by first | omega | assumption) (by first | omega | assumption) (by decide) rfl ?_
  refine e_aload_n q_X12_isBrought_13 (by decide) rfl ?_
  refine i_getC (r := 49) q_X12_isBrought_14 fl_X12_38 (a39 hB) rfl (by decide) ?_
  refine e_iload_n q_X12_isBrought_17 (by decide) rfl ?_
  refine i_iald q_X12_isBrought_18 (a49 hB) (cref0 (by decide)) (by first | omega | assumption) (by first | omega | assumption) (by decide) rfl ?_
  refine e_bipush q_X12_isBrought_19 (by decide) ?_
  refine e_iadd q_X12_isBrought_21 ?_
  refine e_icmp_gt q_X12_isBrought_22 (by first | exact hR _ _ | (constructor <;> omega) | assumption) (by first | exact hR _ _ | (constructor <;> omega) | assumption) (fun c22 => ?_) (fun c22 => ?_)
  · skip
    refine e_iconst q_X12_isBrought_29 ?_
    refine e_ireturn q_X12_isBrought_30 rfl rfl ?_
    unfold brought at h
    first | exact zqT h (by omega) | exact zqF h (by omega)
  · skip
    refine e_iconst q_X12_isBrought_25 ?_
    refine e_goto q_X12_isBrought_26 ?_
    refine e_ireturn q_X12_isBrought_30 rfl rfl ?_
    unfold brought at h
    first | exact zqT h (by omega) | exact zqF h (by omega)
set_option maxRecDepth 20000 in
set_option maxHeartbeats 2000000 in
theorem k_weightOf (hB : zB0 s) (hm : mI N) {w : Int} (h0 : 0 ≤ w) (h1 : w < 48) (h : Q (some (vi (wgt N w))) (zI s N)) : zC X m_X12_weightOf [.ref 39, vi w] (zI s N) Q := by
  have hR := hm.1
  have hC := hm.2.1
  unfold mCnt at hC
  show zE X m_X12_weightOf 0 [.ref 39, vi w] [] _ Q
  refine e_aload_n q_X12_weightOf_0 (by decide) rfl ?_
  refine i_getC (r := 45) q_X12_weightOf_1 fl_X12_25 (a39 hB) rfl (by decide) ?_
  refine e_iload_n q_X12_weightOf_4 (by decide) rfl ?_
  refine i_zald q_X12_weightOf_5 (a45 hB) (cref0 (by decide)) (by first | omega | assumption) (by first | omega | assumption) (by decide) rfl ?_
  refine e_if_eq q_X12_weightOf_6 (by first | exact hR _ _ | (constructor <;> omega) | assumption) (fun c6 => ?_) (fun c6 => ?_)
  · skip
    refine e_iconst q_X12_weightOf_13 ?_
    refine e_ireturn q_X12_weightOf_14 rfl rfl ?_
    first | exact zqI h (if_pos (by omega)) | exact zqI h (if_neg (by omega))
  · skip
    refine e_iconst q_X12_weightOf_9 ?_
    refine e_goto q_X12_weightOf_10 ?_
    refine e_ireturn q_X12_weightOf_14 rfl rfl ?_
    first | exact zqI h (if_pos (by omega)) | exact zqI h (if_neg (by omega))
set_option maxRecDepth 20000 in
set_option maxHeartbeats 2000000 in
theorem k_takesPart (hB : zB0 s) (hm : mI N){p : Int} (h0 : 0 ≤ p) (h1 : p < N 39 50) {w : Int} (hw0 : 0 ≤ w) (hw1 : w < 48) (h : Q (some (vi (bi (parts N p w)))) (zI s N)) : zC X m_X12_takesPart [.ref 39, vi p, vi w] (zI s N) Q := by
  have hR := hm.1
  have hC := hm.2.1
  unfold mCnt at hC
  show zE X m_X12_takesPart 0 [.ref 39, vi p, vi w] [] _ Q
  refine e_aload_n q_X12_takesPart_0 (by decide) rfl ?_
  refine i_getC (r := 79) q_X12_takesPart_1 fl_X12_133 (a39 hB) rfl (by decide) ?_
  refine e_bipush q_X12_takesPart_4 (by decide) ?_
  refine e_iload_n q_X12_takesPart_6 (by decide) rfl ?_
  refine e_imul q_X12_takesPart_7 ?_
  refine e_iload_n q_X12_takesPart_8 (by decide) rfl ?_
  refine e_iadd q_X12_takesPart_9 ?_
  refine i_zald q_X12_takesPart_10 (a79 hB) (cref0 (by decide)) (by first | omega | assumption) (by first | omega | assumption) (by decide) rfl ?_
  refine e_if_eq q_X12_takesPart_11 (by first | exact hR _ _ | (constructor <;> omega) | assumption) (fun c11 => ?_) (fun c11 => ?_)
  · skip
    refine e_iconst q_X12_takesPart_26 ?_
    refine e_ireturn q_X12_takesPart_27 rfl rfl ?_
    first | exact zqT h ⟨by omega, by omega⟩ | exact zqF h (fun q => by have q1 := q.1; have q2 := q.2; omega)
  · skip
    refine e_aload_n q_X12_takesPart_14 (by decide) rfl ?_
    refine e_iload_n q_X12_takesPart_15 (by decide) rfl ?_
    refine iv_X12_isDead q_X12_takesPart_16 lk_X12_178 (by decide) (a39 hB) (Nat.le_of_ble_eq_true rfl) ?_
    refine k_isDead hB hm hw0 hw1 ?_
    refine e_ifb_ne q_X12_takesPart_19 (fun c19 => ?_) (fun c19 => ?_)
    · skip
      refine e_iconst q_X12_takesPart_26 ?_
      refine e_ireturn q_X12_takesPart_27 rfl rfl ?_
      first | exact zqT h ⟨by omega, by omega⟩ | exact zqF h (fun q => by have q1 := q.1; have q2 := q.2; omega)
    · skip
      refine e_iconst q_X12_takesPart_22 ?_
      refine e_goto q_X12_takesPart_23 ?_
      refine e_ireturn q_X12_takesPart_27 rfl rfl ?_
      first | exact zqT h ⟨by omega, by omega⟩ | exact zqF h (fun q => by have q1 := q.1; have q2 := q.2; omega)
set_option maxRecDepth 20000 in
set_option maxHeartbeats 2000000 in
theorem k_owesAll (hB : zB0 s) (hm : mI N) {w : Int} (h0 : 0 ≤ w) (h1 : w < 48) (h : Q (some (vi (owesA N w))) (zI s N)) : zC X m_X12_owesAll [.ref 39, vi w] (zI s N) Q := by
  have hR := hm.1
  have hC := hm.2.1
  unfold mCnt at hC
  show zE X m_X12_owesAll 0 [.ref 39, vi w, zU, zU] [] _ Q
  refine e_iconst q_X12_owesAll_0 ?_
  refine e_istore_n (ls' := [_, _, _, _]) q_X12_owesAll_1 (by decide) rfl rfl ?_
  refine e_iconst q_X12_owesAll_2 ?_
  refine e_istore_n (ls' := [_, _, _, _]) q_X12_owesAll_3 (by decide) rfl rfl ?_
  refine zEe (ls := [.ref 39, vi w, vi (sumK (fun p => N 80 (48 * p + w)) 0), vi ((0 : Nat) : Int)]) (σ := (zI s N)) ?_ rfl rfl
  refine z_for (P := fun i => zE X m_X12_owesAll 4 [.ref 39, vi w, vi (sumK (fun p => N 80 (48 * p + w)) i), vi (i : Int)] [] (zI s N) Q) (N 39 50).toNat (fun i hi ih => ?_) ?_
  · skip
    refine e_iload_n q_X12_owesAll_4 (by decide) rfl ?_
    refine e_aload_n q_X12_owesAll_5 (by decide) rfl ?_
    refine i_getI (k' := 50) q_X12_owesAll_6 fl_X12_316 (a39 hB) rfl rfl rfl rfl ?_
    refine e_icmp_ge q_X12_owesAll_9 (by first | exact hR _ _ | (constructor <;> omega) | assumption) (by first | exact hR _ _ | (constructor <;> omega) | assumption) (fun c9 => ?_) (fun c9 => ?_)
    · skip
      exact absurd c9 (by omega)
    · skip
      refine e_iload_n q_X12_owesAll_12 (by decide) rfl ?_
      refine e_aload_n q_X12_owesAll_13 (by decide) rfl ?_
      refine i_getC (r := 80) q_X12_owesAll_14 fl_X12_136 (a39 hB) rfl (by decide) ?_
      refine e_bipush q_X12_owesAll_17 (by decide) ?_
      refine e_iload_n q_X12_owesAll_19 (by decide) rfl ?_
      refine e_imul q_X12_owesAll_20 ?_
      refine e_iload_n q_X12_owesAll_21 (by decide) rfl ?_
      refine e_iadd q_X12_owesAll_22 ?_
      refine i_iald q_X12_owesAll_23 (a80 hB) (cref0 (by decide)) (by first | omega | assumption) (by first | omega | assumption) (by decide) rfl ?_
      refine e_iadd q_X12_owesAll_24 ?_
      refine e_istore_n (ls' := [_, _, _, _]) q_X12_owesAll_25 (by decide) rfl rfl ?_
      refine e_iinc (ls' := [_, _, _, _]) q_X12_owesAll_26 (by decide) rfl rfl rfl ?_
      refine e_goto q_X12_owesAll_29 ?_
      exact zEe ih rfl rfl
  · skip
    refine e_iload_n q_X12_owesAll_4 (by decide) rfl ?_
    refine e_aload_n q_X12_owesAll_5 (by decide) rfl ?_
    refine i_getI (k' := 50) q_X12_owesAll_6 fl_X12_316 (a39 hB) rfl rfl rfl rfl ?_
    refine e_icmp_ge q_X12_owesAll_9 (by first | exact hR _ _ | (constructor <;> omega) | assumption) (by first | exact hR _ _ | (constructor <;> omega) | assumption) (fun c9 => ?_) (fun c9 => ?_)
    · skip
      refine e_iload_n q_X12_owesAll_32 (by decide) rfl ?_
      refine e_ireturn q_X12_owesAll_33 rfl rfl ?_
      exact h
    · skip
      exact absurd (by omega) c9
set_option maxRecDepth 20000 in
set_option maxHeartbeats 2000000 in
theorem k_borneBy (hB : zB0 s) (hm : mI N) {g : Int} (hg : zr g) (h : Q (some (vi (borneB N g))) (zI s N)) : zC X m_X12_borneBy [.ref 39, vi g] (zI s N) Q := by
  have hR := hm.1
  have hC := hm.2.1
  unfold mCnt at hC
  show zE X m_X12_borneBy 0 [.ref 39, vi g, zU, zU] [] _ Q
  refine e_iconst q_X12_borneBy_0 ?_
  refine e_istore_n (ls' := [_, _, _, _]) q_X12_borneBy_1 (by decide) rfl rfl ?_
  refine e_iconst q_X12_borneBy_2 ?_
  refine e_istore_n (ls' := [_, _, _, _]) q_X12_borneBy_3 (by decide) rfl rfl ?_
  refine zEe (ls := [.ref 39, vi g, vi (sumK (borneF N g) 0), vi ((0 : Nat) : Int)]) (σ := (zI s N)) ?_ rfl rfl
  refine z_for (P := fun i => zE X m_X12_borneBy 4 [.ref 39, vi g, vi (sumK (borneF N g) i), vi (i : Int)] [] (zI s N) Q) (N 39 50).toNat (fun i hi ih => ?_) ?_
  · skip
    refine e_iload_n q_X12_borneBy_4 (by decide) rfl ?_
    refine e_aload_n q_X12_borneBy_5 (by decide) rfl ?_
    refine i_getI (k' := 50) q_X12_borneBy_6 fl_X12_316 (a39 hB) rfl rfl rfl rfl ?_
    refine e_icmp_ge q_X12_borneBy_9 (by first | exact hR _ _ | (constructor <;> omega) | assumption) (by first | exact hR _ _ | (constructor <;> omega) | assumption) (fun c9 => ?_) (fun c9 => ?_)
    · skip
      exact absurd c9 (by omega)
    · skip
      refine e_iload_n q_X12_borneBy_12 (by decide) rfl ?_
      refine e_aload_n q_X12_borneBy_13 (by decide) rfl ?_
      refine i_getC (r := 78) q_X12_borneBy_14 fl_X12_130 (a39 hB) rfl (by decide) ?_
      refine e_iload_n q_X12_borneBy_17 (by decide) rfl ?_
      refine i_zald q_X12_borneBy_18 (a78 hB) (cref0 (by decide)) (by first | omega | assumption) (by first | omega | assumption) (by decide) rfl ?_
      refine e_if_eq q_X12_borneBy_19 (by first | exact hR _ _ | (constructor <;> omega) | assumption) (fun c19 => ?_) (fun c19 => ?_)
      · skip
        refine e_iconst q_X12_borneBy_41 ?_
        refine e_iadd q_X12_borneBy_42 ?_
        refine e_istore_n (ls' := [_, _, _, _]) q_X12_borneBy_43 (by decide) rfl rfl ?_
        refine e_iinc (ls' := [_, _, _, _]) q_X12_borneBy_44 (by decide) rfl rfl rfl ?_
        refine e_goto q_X12_borneBy_47 ?_
        first | exact zEe ih (by rw [sumK, borneF, if_pos ⟨by omega, c29⟩]; rfl) rfl | exact zEe ih (by rw [sumK, borneF, if_neg (fun q => by have q1 := q.1; have q2 := q.2; omega)]; rfl) rfl
      · skip
        refine e_aload_n q_X12_borneBy_22 (by decide) rfl ?_
        refine i_getC (r := 75) q_X12_borneBy_23 fl_X12_121 (a39 hB) rfl (by decide) ?_
        refine e_iload_n q_X12_borneBy_26 (by decide) rfl ?_
        refine i_iald q_X12_borneBy_27 (a75 hB) (cref0 (by decide)) (by first | omega | assumption) (by first | omega | assumption) (by decide) rfl ?_
        refine e_iload_n q_X12_borneBy_28 (by decide) rfl ?_
        refine e_icmp_ne q_X12_borneBy_29 (by first | exact hR _ _ | (constructor <;> omega) | assumption) (by first | exact hR _ _ | (constructor <;> omega) | assumption) (fun c29 => ?_) (fun c29 => ?_)
        · skip
          refine e_iconst q_X12_borneBy_41 ?_
          refine e_iadd q_X12_borneBy_42 ?_
          refine e_istore_n (ls' := [_, _, _, _]) q_X12_borneBy_43 (by decide) rfl rfl ?_
          refine e_iinc (ls' := [_, _, _, _]) q_X12_borneBy_44 (by decide) rfl rfl rfl ?_
          refine e_goto q_X12_borneBy_47 ?_
          first | exact zEe ih (by rw [sumK, borneF, if_pos ⟨by omega, c29⟩]; rfl) rfl | exact zEe ih (by rw [sumK, borneF, if_neg (fun q => by have q1 := q.1; have q2 := q.2; omega)]; rfl) rfl
        · skip
          refine e_aload_n q_X12_borneBy_32 (by decide) rfl ?_
          refine i_getC (r := 76) q_X12_borneBy_33 fl_X12_124 (a39 hB) rfl (by decide) ?_
          refine e_iload_n q_X12_borneBy_36 (by decide) rfl ?_
          refine i_iald q_X12_borneBy_37 (a76 hB) (cref0 (by decide)) (by first | omega | assumption) (by first | omega | assumption) (by decide) rfl ?_
          refine e_goto q_X12_borneBy_38 ?_
          refine e_iadd q_X12_borneBy_42 ?_
          refine e_istore_n (ls' := [_, _, _, _]) q_X12_borneBy_43 (by decide) rfl rfl ?_
          refine e_iinc (ls' := [_, _, _, _]) q_X12_borneBy_44 (by decide) rfl rfl rfl ?_
          refine e_goto q_X12_borneBy_47 ?_
          first | exact zEe ih (by rw [sumK, borneF, if_pos ⟨by omega, c29⟩]; rfl) rfl | exact zEe ih (by rw [sumK, borneF, if_neg (fun q => by have q1 := q.1; have q2 := q.2; omega)]; rfl) rfl
  · skip
    refine e_iload_n q_X12_borneBy_4 (by decide) rfl ?_
    refine e_aload_n q_X12_borneBy_5 (by decide) rfl ?_
    refine i_getI (k' := 50) q_X12_borneBy_6 fl_X12_316 (a39 hB) rfl rfl rfl rfl ?_
    refine e_icmp_ge q_X12_borneBy_9 (by first | exact hR _ _ | (constructor <;> omega) | assumption) (by first | exact hR _ _ | (constructor <;> omega) | assumption) (fun c9 => ?_) (fun c9 => ?_)
    · skip
      refine e_iload_n q_X12_borneBy_50 (by decide) rfl ?_
      refine e_ireturn q_X12_borneBy_51 rfl rfl ?_
      exact h
    · skip
      exact absurd (by omega) c9
set_option maxRecDepth 20000 in
set_option maxHeartbeats 2000000 in
theorem k_byHeads (hB : zB0 s) (hm : mI N) {g d : Int} (hg : zr g) (hd : 0 ≤ d ∧ d ≤ 9999) (h : Q (some (vi (byH N g d))) (zI s N)) : zC X m_X12_byHeads [.ref 39, vi g, vi d] (zI s N) Q := by
  have hR := hm.1
  have hC := hm.2.1
  unfold mCnt at hC
  have hmr := mems_r hm g d
  have hbr := borneB_r hm g
  show zE X m_X12_byHeads 0 [.ref 39, vi g, vi d, zU] [] _ Q
  refine e_aload_n q_X12_byHeads_0 (by decide) rfl ?_
  refine e_iload_n q_X12_byHeads_1 (by decide) rfl ?_
  refine e_iload_n q_X12_byHeads_2 (by decide) rfl ?_
  refine iv_X12_membersOf q_X12_byHeads_3 lk_X12_267 (by decide) (a39 hB) (Nat.le_of_ble_eq_true rfl) ?_
  refine k_membersOf hB hm hg hd ?_
  refine e_istore_n (ls' := [_, _, _, _]) q_X12_byHeads_6 (by decide) rfl rfl ?_
  refine e_iload_n q_X12_byHeads_7 (by decide) rfl ?_
  refine e_if_ne q_X12_byHeads_8 (by first | exact hR _ _ | (constructor <;> omega) | assumption) (fun c8 => ?_) (fun c8 => ?_)
  · skip
    refine e_aload_n q_X12_byHeads_19 (by decide) rfl ?_
    refine e_iload_n q_X12_byHeads_20 (by decide) rfl ?_
    refine iv_X12_borneBy q_X12_byHeads_21 lk_X12_341 (by decide) (a39 hB) (Nat.le_of_ble_eq_true rfl) ?_
    refine k_borneBy hB hm hg ?_
    refine e_iload_n q_X12_byHeads_24 (by decide) rfl ?_
    refine e_idiv q_X12_byHeads_25 (by omega) (by omega) ?_
    refine e_ireturn q_X12_byHeads_26 rfl rfl ?_
    first | exact zqI h (if_pos (by omega)) | exact zqI h (if_neg (by omega))
  · skip
    refine e_aload_n q_X12_byHeads_11 (by decide) rfl ?_
    refine e_iload_n q_X12_byHeads_12 (by decide) rfl ?_
    refine iv_X12_borneBy q_X12_byHeads_13 lk_X12_341 (by decide) (a39 hB) (Nat.le_of_ble_eq_true rfl) ?_
    refine k_borneBy hB hm hg ?_
    refine e_goto q_X12_byHeads_16 ?_
    refine e_ireturn q_X12_byHeads_26 rfl rfl ?_
    first | exact zqI h (if_pos (by omega)) | exact zqI h (if_neg (by omega))
set_option maxRecDepth 20000 in
set_option maxHeartbeats 2000000 in
theorem k_leftOutOf (hB : zB0 s) (hm : mI N) {n : Int} (h0 : 0 ≤ n) (h1 : n < 40) (hr1 : zr (N 85 n - N 86 n)) (h : Q (some (vi (leftO N n))) (zI s N)) : zC X m_X12_leftOutOf [.ref 39, vi n] (zI s N) Q := by
  have hR := hm.1
  have hC := hm.2.1
  unfold mCnt at hC
  show zE X m_X12_leftOutOf 0 [.ref 39, vi n, zU] [] _ Q
  refine e_aload_n q_X12_leftOutOf_0 (by decide) rfl ?_
  refine i_getC (r := 85) q_X12_leftOutOf_1 fl_X12_151 (a39 hB) rfl (by decide) ?_
  refine e_iload_n q_X12_leftOutOf_4 (by decide) rfl ?_
  refine i_iald q_X12_leftOutOf_5 (a85 hB) (cref0 (by decide)) (by first | omega | assumption) (by first | omega | assumption) (by decide) rfl ?_
  refine e_aload_n q_X12_leftOutOf_6 (by decide) rfl ?_
  refine i_getC (r := 86) q_X12_leftOutOf_7 fl_X12_154 (a39 hB) rfl (by decide) ?_
  refine e_iload_n q_X12_leftOutOf_10 (by decide) rfl ?_
  refine i_iald q_X12_leftOutOf_11 (a86 hB) (cref0 (by decide)) (by first | omega | assumption) (by first | omega | assumption) (by decide) rfl ?_
  refine e_isub q_X12_leftOutOf_12 ?_
  refine e_istore_n (ls' := [_, _, _]) q_X12_leftOutOf_13 (by decide) rfl rfl ?_
  refine e_iload_n q_X12_leftOutOf_14 (by decide) rfl ?_
  refine e_if_le q_X12_leftOutOf_15 hr1 (fun c15 => ?_) (fun c15 => ?_)
  · skip
    refine e_iconst q_X12_leftOutOf_22 ?_
    refine e_ireturn q_X12_leftOutOf_23 rfl rfl ?_
    first | exact zqI h (if_pos (by omega)) | exact zqI h (if_neg (by omega))
  · skip
    refine e_iload_n q_X12_leftOutOf_18 (by decide) rfl ?_
    refine e_goto q_X12_leftOutOf_19 ?_
    refine e_ireturn q_X12_leftOutOf_23 rfl rfl ?_
    first | exact zqI h (if_pos (by omega)) | exact zqI h (if_neg (by omega))
end MR2
