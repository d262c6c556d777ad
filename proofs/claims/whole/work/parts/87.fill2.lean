/-! making whole, 2 (printed by wip/whole/gen/f2.py) -/
section FI2
variable {X : zX} {s : zK} {N : zN} {σ : zS} {fa sa : Int → Int} {Q K : Option Value → zS → Prop} {c : Int}
theorem oN (n : Nat) : Int32.ofInt (n : Int) = nI n := by
  apply Int32.toBitVec_inj.1
  show BitVec.ofInt 32 n = BitVec.ofNat 32 n
  exact BitVec.ofInt_natCast 32 n
theorem fx_and (a b : Nat) : nI a &&& nI b = nI (a &&& b) := by
  apply Int32.toBitVec_inj.1
  show BitVec.ofNat 32 a &&& BitVec.ofNat 32 b = BitVec.ofNat 32 (a &&& b)
  apply BitVec.eq_of_getLsbD_eq
  intro i hi
  simp [hi]
theorem fx_or (a b : Nat) : nI a ||| nI b = nI (a ||| b) := by
  apply Int32.toBitVec_inj.1
  show BitVec.ofNat 32 a ||| BitVec.ofNat 32 b = BitVec.ofNat 32 (a ||| b)
  apply BitVec.eq_of_getLsbD_eq
  intro i hi
  simp [hi]
theorem fx_xor (a b : Nat) : nI a ^^^ nI b = nI (a ^^^ b) := by
  apply Int32.toBitVec_inj.1
  show BitVec.ofNat 32 a ^^^ BitVec.ofNat 32 b = BitVec.ofNat 32 (a ^^^ b)
  apply BitVec.eq_of_getLsbD_eq
  intro i hi
  simp [hi]
theorem bx_and (a b : Nat) : Int32.ofInt (a : Int) &&& Int32.ofInt (b : Int) = Int32.ofInt ((a &&& b : Nat) : Int) := by rw [oN, oN, oN, fx_and]
theorem bx_xor (a b : Nat) : Int32.ofInt (a : Int) ^^^ Int32.ofInt (b : Int) = Int32.ofInt ((a ^^^ b : Nat) : Int) := by rw [oN, oN, oN, fx_xor]
theorem bx_or {i : Nat} {a : Nat} (h : a < 2 ^ i) : Int32.ofInt (a : Int) ||| Int32.ofInt ((2 ^ i : Nat) : Int) = Int32.ofInt ((2 ^ i + a : Nat) : Int) := by
  rw [oN, oN, oN, fx_or, Nat.or_comm]
  have := Nat.two_pow_add_eq_or_of_lt h 1
  rw [Nat.mul_one] at this
  rw [this]
theorem bx_or0 (a : Nat) : Int32.ofInt (a : Int) ||| Int32.ofInt 0 = Int32.ofInt (a : Int) := by
  have : Int32.ofInt (0 : Int) = nI 0 := rfl
  rw [oN, this, fx_or, Nat.or_zero]
theorem bx_shl1 : ∀ i : Nat, i < 7 → Int32.ofInt 1 <<< (Int32.ofInt (i : Int) &&& 31) = Int32.ofInt ((2 ^ i : Nat) : Int) := by decide +kernel
theorem bx_shA : ∀ n : Nat, n < 128 → Int32.ofInt (n : Int) <<< (Int32.ofInt 18 &&& 31) = Int32.ofInt ((n : Int) * 262144) := by decide +kernel
theorem bx_shG : ∀ i : Nat, i < 6 → ∀ g : Nat, g < 8 → Int32.ofInt (g : Int) <<< (Int32.ofInt (3 * (5 - (i : Int))) &&& 31) = Int32.ofInt ((g : Int) * pw8 i) := by decide +kernel
theorem bx_poor : ∀ x : Nat, x < 64 → ∀ y : Nat, y < 64 → ((Int32.ofInt (x : Int) &&& Int32.ofInt (-1 - (y : Int))).toInt = 0 ↔ x &&& y = x) := by decide +kernel
theorem bx_not (y : Nat) (h : y < 64) : Int32.ofInt (y : Int) ^^^ Int32.ofInt (-1) = Int32.ofInt (-1 - (y : Int)) := by
  have key : ∀ y : Nat, y < 64 → Int32.ofInt (y : Int) ^^^ Int32.ofInt (-1) = Int32.ofInt (-1 - (y : Int)) := by decide +kernel
  exact key y h
theorem pow6 {K : Nat} (h : K ≤ 6) : 2 ^ K ≤ 64 ∧ 1 ≤ 2 ^ K := ⟨Nat.pow_le_pow_right (by omega) h, Nat.one_le_two_pow⟩
theorem tb_add {i a k : Nat} (h : a < 2 ^ i) : tb (2 ^ i + a) k ↔ (k = i ∨ tb a k) := by
  rcases Nat.lt_trichotomy k i with hk | hk | hk
  · have e : (2 ^ i + a).testBit k = a.testBit k := Nat.testBit_two_pow_add_gt hk a
    unfold tb
    rw [e]
    exact ⟨fun r => Or.inr r, fun r => by
      rcases r with r | r
      · omega
      · exact r⟩
  · subst hk
    have e : (2 ^ k + a).testBit k = !(a.testBit k) := Nat.testBit_two_pow_add_eq a k
    have e2 : a.testBit k = false := Nat.testBit_lt_two_pow h
    unfold tb
    rw [e, e2]
    exact ⟨fun _ => Or.inl rfl, fun _ => rfl⟩
  · refine ⟨fun r => ?_, fun r => ?_⟩
    · have := tb_lt (n := i + 1) (by rw [Nat.pow_succ]; omega) r
      omega
    · rcases r with r | r
      · omega
      · have := tb_lt h r
        omega
noncomputable def wI (w : Nat → Int) (K m : Nat) : Int := sumK (fun k => zif (tb m k) (w k) 0) K
theorem wI_0 (w : Nat → Int) (K : Nat) : wI w K 0 = 0 := by
  unfold wI
  rw [sumK_c (g := fun _ => 0) (fun k _ => zif_f (by simp [tb]))]
  exact sumK_z (m := 0) K (Nat.zero_le K) (fun _ _ _ => rfl)
theorem wI_add {w : Nat → Int} {K i a : Nat} (hi : i < K) (h : a < 2 ^ i) : wI w K (2 ^ i + a) = wI w K a + w i := by
  have e : wI w K (2 ^ i + a) = wI w K a + sumK (fun k => if (k : Int) = (i : Int) then w i else 0) K := by
    unfold wI
    rw [← sumK_p]
    refine sumK_c (fun k hk => ?_)
    have ht := tb_add (k := k) h
    by_cases hki : k = i
    · subst hki
      rw [zif_t (ht.mpr (Or.inl rfl)), if_pos rfl, zif_f (fun r => by have := tb_lt h r; omega), Int.zero_add]
    · rw [if_neg (by omega), Int.add_zero]
      by_cases ha : tb a k
      · rw [zif_t ha, zif_t (ht.mpr (Or.inr ha))]
      · rw [zif_f ha, zif_f (fun r => (ht.mp r).elim hki ha)]
  rw [e]
  have gen : ∀ n : Nat, sumK (fun k => if (k : Int) = (i : Int) then w i else 0) n = if i < n then w i else 0 := by
    intro n
    induction n with
    | zero => rw [sumK, if_neg (by omega)]
    | succ n ih =>
      rw [sumK, ih]
      by_cases hx : n = i
      · rw [if_neg (by omega), if_pos (by omega), if_pos (by omega), Int.zero_add]
      · rw [if_neg (c := (n : Int) = (i : Int)) (by omega), Int.add_zero]
        by_cases h2 : i < n
        · rw [if_pos h2, if_pos (by omega)]
        · rw [if_neg h2, if_neg (by omega)]
  rw [gen K, if_pos hi]
set_option maxRecDepth 20000 in
set_option maxHeartbeats 2000000 in
theorem x_shiftOf {x : Int} (h : Q (some (vi (3 * (5 - x)))) σ) : zC X m_X1_shiftOf [vi x] σ Q := by
  show zE X m_X1_shiftOf 0 [vi x] [] _ Q
  refine e_iconst q_X1_shiftOf_0 ?_
  refine e_iconst q_X1_shiftOf_1 ?_
  refine e_iload_n q_X1_shiftOf_2 (by decide) rfl ?_
  refine e_isub q_X1_shiftOf_3 ?_
  refine e_imul q_X1_shiftOf_4 ?_
  refine e_ireturn q_X1_shiftOf_5 rfl rfl ?_
  exact h
set_option maxRecDepth 20000 in
set_option maxHeartbeats 2000000 in
theorem x_fclear (hB : zB0 s) (h : Q none (zI s (mup (mup N 25 2 0) 25 3 0))) : zC X m_X1_clear [.ref 25] (zI s N) Q := by
  show zE X m_X1_clear 0 [.ref 25] [] _ Q
  refine e_aload_n q_X1_clear_0 (by decide) rfl ?_
  refine e_iconst q_X1_clear_1 ?_
  refine i_putI (k' := 2) q_X1_clear_2 fl_X1_24 (Or.inl rfl) (a25 hB) rfl rfl rfl rfl rfl ?_
  refine e_aload_n q_X1_clear_5 (by decide) rfl ?_
  refine e_iconst q_X1_clear_6 ?_
  refine i_putI (k' := 3) q_X1_clear_7 fl_X1_28 (Or.inl rfl) (a25 hB) rfl rfl rfl rfl rfl ?_
  refine e_return q_X1_clear_10 rfl ?_
  exact h
set_option maxRecDepth 20000 in
set_option maxHeartbeats 2000000 in
theorem xf_put (hB : zB0 s) {K ps : Nat} (hK : N 25 2 = K) (hK6 : K < 6) (hp : N 25 3 = ps) (hps : ps < 2 ^ K) {w v : Int} (hv : v = 0 ∨ v = 1) (h : Q none (zI s (mup (mup (mup N 26 (K : Int) w) 25 3 ((if v = 0 then ps else 2 ^ K + ps : Nat) : Int)) 25 2 ((K : Int) + 1)))) : zC X m_X1_put [.ref 25, vi w, vi v] (zI s N) Q := by
  show zE X m_X1_put 0 [.ref 25, vi w, vi v] [] _ Q
  refine e_aload_n q_X1_put_0 (by decide) rfl ?_
  refine i_getI (k' := 2) q_X1_put_1 fl_X1_24 (a25 hB) rfl rfl rfl hK ?_
  refine e_bipush q_X1_put_4 (by decide) ?_
  refine e_icmp_ge q_X1_put_6 (by constructor <;> omega) (by constructor <;> omega) (fun c6 => ?_) (fun c6 => ?_)
  · skip
    refine e_return q_X1_put_52 rfl ?_
    first | (exfalso; omega) | (rw [if_pos (by omega)] at h; exact h) | (rw [if_neg (by omega)] at h; exact h)
  · skip
    refine e_aload_n q_X1_put_9 (by decide) rfl ?_
    refine i_getC (r := 26) q_X1_put_10 fl_X1_11 (a25 hB) rfl (by decide) ?_
    refine e_aload_n q_X1_put_13 (by decide) rfl ?_
    refine i_getI (k' := 2) q_X1_put_14 fl_X1_24 (a25 hB) rfl rfl rfl hK ?_
    refine e_iload_n q_X1_put_17 (by decide) rfl ?_
    refine i_iast q_X1_put_18 (a26 hB) (fun _ => rfl) (by first | omega | assumption) (by first | omega | assumption) (by decide) ?_
    refine e_aload_n q_X1_put_19 (by decide) rfl ?_
    refine e_dup q_X1_put_20 rfl ?_
    refine i_getI (k' := 3) q_X1_put_21 fl_X1_28 (a25 hB) rfl rfl rfl ((mup_cell (by decide)).trans hp) ?_
    refine e_iload_n q_X1_put_24 (by decide) rfl ?_
    refine e_if_eq q_X1_put_25 (by constructor <;> omega) (fun c25 => ?_) (fun c25 => ?_)
    · skip
      refine e_iconst q_X1_put_37 ?_
      refine e_ior q_X1_put_38 (v := ((ps : Nat) : Int)) (bx_or0 ps) ?_
      refine i_putI (k' := 3) q_X1_put_39 fl_X1_28 (Or.inl rfl) (a25 hB) rfl rfl rfl rfl rfl ?_
      refine e_aload_n q_X1_put_42 (by decide) rfl ?_
      refine e_dup q_X1_put_43 rfl ?_
      refine i_getI (k' := 2) q_X1_put_44 fl_X1_24 (a25 hB) rfl rfl rfl ((mup_slot (by decide)).trans ((mup_cell (by decide)).trans hK)) ?_
      refine e_iconst q_X1_put_47 ?_
      refine e_iadd q_X1_put_48 ?_
      refine i_putI (k' := 2) q_X1_put_49 fl_X1_24 (Or.inl rfl) (a25 hB) rfl rfl rfl rfl rfl ?_
      refine e_return q_X1_put_52 rfl ?_
      first | (exfalso; omega) | (rw [if_pos (by omega)] at h; exact h) | (rw [if_neg (by omega)] at h; exact h)
    · skip
      refine e_iconst q_X1_put_28 ?_
      refine e_aload_n q_X1_put_29 (by decide) rfl ?_
      refine i_getI (k' := 2) q_X1_put_30 fl_X1_24 (a25 hB) rfl rfl rfl ((mup_cell (by decide)).trans hK) ?_
      refine e_ishl q_X1_put_33 (v := ((2 ^ K : Nat) : Int)) (bx_shl1 K (by omega)) ?_
      refine e_goto q_X1_put_34 ?_
      refine e_ior q_X1_put_38 (v := ((2 ^ K + ps : Nat) : Int)) (bx_or hps) ?_
      refine i_putI (k' := 3) q_X1_put_39 fl_X1_28 (Or.inl rfl) (a25 hB) rfl rfl rfl rfl rfl ?_
      refine e_aload_n q_X1_put_42 (by decide) rfl ?_
      refine e_dup q_X1_put_43 rfl ?_
      refine i_getI (k' := 2) q_X1_put_44 fl_X1_24 (a25 hB) rfl rfl rfl ((mup_slot (by decide)).trans ((mup_cell (by decide)).trans hK)) ?_
      refine e_iconst q_X1_put_47 ?_
      refine e_iadd q_X1_put_48 ?_
      refine i_putI (k' := 2) q_X1_put_49 fl_X1_24 (Or.inl rfl) (a25 hB) rfl rfl rfl rfl rfl ?_
      refine e_return q_X1_put_52 rfl ?_
      first | (exfalso; omega) | (rw [if_pos (by omega)] at h; exact h) | (rw [if_neg (by omega)] at h; exact h)
set_option maxRecDepth 20000 in
set_option maxHeartbeats 2000000 in
theorem x_fbegin (hB : zB0 s) (hR : ∀ a x, zr (N a x)) (h : ∀ N1, ((∀ a : Nat, a ≠ 29 → N1 a = N a) ∧ N1 29 0 = 0 ∧ (∀ m : Int, 1 ≤ m → m < 64 → N1 29 m = IMP) ∧ ∀ a x, zr (N1 a x)) → Q none (zI s N1)) : zC X m_X1_begin [.ref 25] (zI s N) Q := by
  show zE X m_X1_begin 0 [.ref 25, zU] [] _ Q
  refine e_aload_n q_X1_begin_0 (by decide) rfl ?_
  refine i_getC (r := 29) q_X1_begin_1 fl_X1_21 (a25 hB) rfl (by decide) ?_
  refine e_iconst q_X1_begin_4 ?_
  refine e_iconst q_X1_begin_5 ?_
  refine i_iast q_X1_begin_6 (a29 hB) (fun _ => rfl) (by first | omega | assumption) (by first | omega | assumption) (by decide) ?_
  refine e_iconst q_X1_begin_7 ?_
  refine e_istore_n (ls' := [_, _]) q_X1_begin_8 (by decide) rfl rfl ?_
  refine zEe (ls := [.ref 25, vi (((0 : Nat) : Int) + 1)]) (σ := zI s (mup N 29 0 0)) ?_ rfl rfl
  refine z_for (P := fun i => ∀ (N1 : zN), ((∀ a : Nat, a ≠ 29 → N1 a = N a) ∧ N1 29 0 = 0 ∧ (∀ m : Int, 1 ≤ m → m < (i : Int) + 1 → N1 29 m = IMP) ∧ ∀ a x, zr (N1 a x)) → zE X m_X1_begin 9 [.ref 25, vi ((i : Int) + 1)] [] (zI s N1) Q) 63 (fun i hi ih N1 hv => ?_) (fun N1 hv => ?_) _ ⟨fun a0 h1 => mup_fn h1, mup_self _ _ _ _, fun m h1 h2 => by omega, zr_mup hR (by constructor <;> omega)⟩
  · skip
    refine e_iload_n q_X1_begin_9 (by decide) rfl ?_
    refine e_bipush q_X1_begin_10 (by decide) ?_
    refine e_icmp_ge q_X1_begin_12 (by constructor <;> omega) (by constructor <;> omega) (fun c12 => ?_) (fun c12 => ?_)
    · skip
      exact absurd c12 (by omega)
    · skip
      refine e_aload_n q_X1_begin_15 (by decide) rfl ?_
      refine i_getC (r := 29) q_X1_begin_16 fl_X1_21 (a25 hB) rfl (by decide) ?_
      refine e_iload_n q_X1_begin_19 (by decide) rfl ?_
      refine e_ldc q_X1_begin_20 co_X1_31 ?_
      refine i_iast q_X1_begin_22 (a29 hB) (fun _ => rfl) (by first | omega | assumption) (by first | omega | assumption) (by decide) ?_
      refine e_iinc (ls' := [_, _]) q_X1_begin_23 (by decide) rfl rfl rfl ?_
      refine e_goto q_X1_begin_26 ?_
      refine ih _ ⟨fun a0 h1 => ?_, ?_, fun m h1 h2 => ?_, zr_mup hv.2.2.2 (by constructor <;> omega)⟩
      · rw [mup_fn h1]; exact hv.1 a0 h1
      · rw [mup_slot (by omega)]; exact hv.2.1
      · by_cases hm : m = (i : Int) + 1
        · rw [hm, mup_self]; rfl
        · rw [mup_slot hm]; exact hv.2.2.1 m h1 (by omega)
  · skip
    refine e_iload_n q_X1_begin_9 (by decide) rfl ?_
    refine e_bipush q_X1_begin_10 (by decide) ?_
    refine e_icmp_ge q_X1_begin_12 (by constructor <;> omega) (by constructor <;> omega) (fun c12 => ?_) (fun c12 => ?_)
    · skip
      refine e_return q_X1_begin_29 rfl ?_
      exact h N1 ⟨hv.1, hv.2.1, fun m h1 h2 => hv.2.2.1 m h1 (by omega), hv.2.2.2⟩
    · skip
      exact absurd (by omega) c12
set_option maxRecDepth 20000 in
set_option maxHeartbeats 2000000 in
theorem x_addUp (hB : zB0 s) (hR : ∀ a x, zr (N a x)) {K : Nat} (hK : N 25 2 = K) (hK6 : K ≤ 6) {g : Int} (hg : 0 ≤ g ∧ g < 8) (hask : ∀ k : Nat, k < K → 0 ≤ N 27 k ∧ N 27 k ≤ 104) (hwr : ∀ m, zr (wI (fun k => N 27 k * 262144 + g * pw8 k) K m)) (h : ∀ N1, ((∀ a : Nat, a ≠ 28 → N1 a = N a) ∧ (∀ m : Nat, m < 2 ^ K → N1 28 m = wI (fun k => N 27 k * 262144 + g * pw8 k) K m) ∧ ∀ a x, zr (N1 a x)) → Q none (zI s N1)) : zC X m_X1_addUp [.ref 25, vi g] (zI s N) Q := by
  show zE X m_X1_addUp 0 [.ref 25, vi g, zU, zU, zU] [] _ Q
  refine e_aload_n q_X1_addUp_0 (by decide) rfl ?_
  refine i_getC (r := 28) q_X1_addUp_1 fl_X1_18 (a25 hB) rfl (by decide) ?_
  refine e_iconst q_X1_addUp_4 ?_
  refine e_iconst q_X1_addUp_5 ?_
  refine i_iast q_X1_addUp_6 (a28 hB) (fun _ => rfl) (by first | omega | assumption) (by first | omega | assumption) (by decide) ?_
  refine e_iconst q_X1_addUp_7 ?_
  refine e_istore_n (ls' := [_, _, _, _, _]) q_X1_addUp_8 (by decide) rfl rfl ?_
  refine zEe (ls := [.ref 25, vi g, vi ((0 : Nat) : Int), zU, zU]) (σ := zI s (mup N 28 0 0)) ?_ rfl rfl
  refine z_for (P := fun i => ∀ (N1 : zN) (u3 : Value) (u4 : Value), ((∀ a : Nat, a ≠ 28 → N1 a = N a) ∧ (∀ m : Nat, m < 2 ^ i → N1 28 m = wI (fun k => N 27 k * 262144 + g * pw8 k) K m) ∧ ∀ a x, zr (N1 a x)) → zE X m_X1_addUp 9 [.ref 25, vi g, vi (i : Int), u3, u4] [] (zI s N1) Q) K (fun i hi ih N1 u3 u4 hv => ?_) (fun N1 u3 u4 hv => ?_) _ zU zU ⟨fun a0 h1 => mup_fn h1, fun m hm => by rw [show m = 0 by simp at hm; exact hm, wI_0]; exact mup_self _ _ _ _, zr_mup hR (by constructor <;> omega)⟩
  · skip
    refine e_iload_n q_X1_addUp_9 (by decide) rfl ?_
    refine e_aload_n q_X1_addUp_10 (by decide) rfl ?_
    refine i_getI (k' := 2) q_X1_addUp_11 fl_X1_24 (a25 hB) rfl rfl rfl ((congrFun (hv.1 25 (by decide)) 2).trans hK) ?_
    refine e_icmp_ge q_X1_addUp_14 (by constructor <;> omega) (by constructor <;> omega) (fun c14 => ?_) (fun c14 => ?_)
    · skip
      exact absurd c14 (by omega)
    · skip
      refine e_aload_n q_X1_addUp_17 (by decide) rfl ?_
      refine i_getC (r := 27) q_X1_addUp_18 fl_X1_15 (a25 hB) rfl (by decide) ?_
      refine e_iload_n q_X1_addUp_21 (by decide) rfl ?_
      refine i_iald q_X1_addUp_22 (a27 hB) (fun _ => rfl) (by first | omega | assumption) (by first | omega | assumption) (by decide) (congrFun (hv.1 27 (by decide)) i) ?_
      refine e_bipush q_X1_addUp_23 (by decide) ?_
      refine e_ishl q_X1_addUp_25 (v := N 27 i * 262144) (by have h5 := hask i (by omega); have := bx_shA (N 27 i).toNat (by omega); rwa [z_cast h5.1] at this) ?_
      refine e_iload_n q_X1_addUp_26 (by decide) rfl ?_
      refine e_iload_n q_X1_addUp_27 (by decide) rfl ?_
      refine iv_X1_shiftOf q_X1_addUp_28 lk_X1_44 (by decide) (Nat.le_of_ble_eq_true rfl) ?_
      refine x_shiftOf ?_
      refine e_ishl q_X1_addUp_31 (v := g * pw8 i) (by have := bx_shG i (by omega) g.toNat (by omega); rwa [z_cast hg.1] at this) ?_
      refine e_iadd q_X1_addUp_32 ?_
      refine e_istore_n (ls' := [_, _, _, _, _]) q_X1_addUp_33 (by decide) rfl rfl ?_
      refine e_iconst q_X1_addUp_34 ?_
      refine e_istore (ls' := [_, _, _, _, _]) q_X1_addUp_35 (by decide) rfl rfl ?_
      refine zEe (ls := [.ref 25, vi g, vi (i : Int), vi (N 27 i * 262144 + g * pw8 i), vi ((0 : Nat) : Int)]) (σ := zI s N1) ?_ rfl rfl
      refine z_for (P := fun j => ∀ (N2 : zN), ((∀ a : Nat, a ≠ 28 → N2 a = N a) ∧ (∀ m : Nat, m < 2 ^ i + j → N2 28 m = wI (fun k => N 27 k * 262144 + g * pw8 k) K m) ∧ ∀ a x, zr (N2 a x)) → zE X m_X1_addUp 37 [.ref 25, vi g, vi (i : Int), vi (N 27 i * 262144 + g * pw8 i), vi (j : Int)] [] (zI s N2) Q) (2 ^ i) (fun j hij ihj N2 hvj => ?_) (fun N2 hvj => ?_) N1 ⟨hv.1, fun m hm => hv.2.1 m (by omega), hv.2.2⟩
      · skip
        have hp6 := pow6 (K := i) (by omega)
        have hp7 := pow6 (K := i + 1) (by omega)
        have hp8 : 2 ^ (i + 1) = 2 * 2 ^ i := by rw [Nat.pow_succ]; omega
        refine e_iload q_X1_addUp_37 (by decide) rfl ?_
        refine e_iconst q_X1_addUp_39 ?_
        refine e_iload_n q_X1_addUp_40 (by decide) rfl ?_
        refine e_ishl q_X1_addUp_41 (v := ((2 ^ i : Nat) : Int)) (bx_shl1 i (by omega)) ?_
        refine e_icmp_ge q_X1_addUp_42 (by constructor <;> omega) (by constructor <;> omega) (fun c42 => ?_) (fun c42 => ?_)
        · skip
          exact absurd c42 (by omega)
        · skip
          refine e_aload_n q_X1_addUp_45 (by decide) rfl ?_
          refine i_getC (r := 28) q_X1_addUp_46 fl_X1_18 (a25 hB) rfl (by decide) ?_
          refine e_iload q_X1_addUp_49 (by decide) rfl ?_
          refine e_iconst q_X1_addUp_51 ?_
          refine e_iload_n q_X1_addUp_52 (by decide) rfl ?_
          refine e_ishl q_X1_addUp_53 (v := ((2 ^ i : Nat) : Int)) (bx_shl1 i (by omega)) ?_
          refine e_ior q_X1_addUp_54 (v := ((2 ^ i + j : Nat) : Int)) (bx_or hij) ?_
          refine e_aload_n q_X1_addUp_55 (by decide) rfl ?_
          refine i_getC (r := 28) q_X1_addUp_56 fl_X1_18 (a25 hB) rfl (by decide) ?_
          refine e_iload q_X1_addUp_59 (by decide) rfl ?_
          refine i_iald q_X1_addUp_61 (a28 hB) (fun _ => rfl) (by first | omega | assumption) (by first | omega | assumption) (by decide) rfl ?_
          refine e_iload_n q_X1_addUp_62 (by decide) rfl ?_
          refine e_iadd q_X1_addUp_63 ?_
          refine i_iast q_X1_addUp_64 (a28 hB) (fun _ => rfl) (by first | omega | assumption) (by first | omega | assumption) (by decide) ?_
          refine e_iinc (ls' := [_, _, _, _, _]) q_X1_addUp_65 (by decide) rfl rfl rfl ?_
          refine e_goto q_X1_addUp_68 ?_
          have ea := wI_add (w := (fun k => N 27 k * 262144 + g * pw8 k)) (K := K) (i := i) (a := j) hi hij
          refine ihj _ ⟨fun a0 h1 => ?_, fun m hm => ?_, zr_mup hvj.2.2 ?_⟩
          · rw [mup_fn h1]; exact hvj.1 a0 h1
          · by_cases hmm : m = 2 ^ i + j
            · rw [hmm, mup_self, ea, hvj.2.1 j (by omega)]
            · rw [mup_slot (by omega)]; exact hvj.2.1 m (by omega)
          · rw [hvj.2.1 j (by omega), ← ea]
            exact hwr _
      · skip
        have hp6 := pow6 (K := i) (by omega)
        refine e_iload q_X1_addUp_37 (by decide) rfl ?_
        refine e_iconst q_X1_addUp_39 ?_
        refine e_iload_n q_X1_addUp_40 (by decide) rfl ?_
        refine e_ishl q_X1_addUp_41 (v := ((2 ^ i : Nat) : Int)) (bx_shl1 i (by omega)) ?_
        refine e_icmp_ge q_X1_addUp_42 (by constructor <;> omega) (by constructor <;> omega) (fun c42 => ?_) (fun c42 => ?_)
        · skip
          refine e_iinc (ls' := [_, _, _, _, _]) q_X1_addUp_71 (by decide) rfl rfl rfl ?_
          refine e_goto q_X1_addUp_74 ?_
          exact ih _ _ _ ⟨hvj.1, fun m hm => hvj.2.1 m (by rw [Nat.pow_succ] at hm; omega), hvj.2.2⟩
        · skip
          exact absurd (by omega) c42
  · skip
    refine e_iload_n q_X1_addUp_9 (by decide) rfl ?_
    refine e_aload_n q_X1_addUp_10 (by decide) rfl ?_
    refine i_getI (k' := 2) q_X1_addUp_11 fl_X1_24 (a25 hB) rfl rfl rfl ((congrFun (hv.1 25 (by decide)) 2).trans hK) ?_
    refine e_icmp_ge q_X1_addUp_14 (by constructor <;> omega) (by constructor <;> omega) (fun c14 => ?_) (fun c14 => ?_)
    · skip
      refine e_return q_X1_addUp_77 rfl ?_
      exact h N1 hv
    · skip
      exact absurd (by omega) c14
end FI2
