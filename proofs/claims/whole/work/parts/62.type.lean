/-! type (printed by wip/whole/gen/r1.py) -/
section RT1
variable {X : zX} {s : zK} {N : zN} {σ : zS} {fa sa : Int → Int} {Q K : Option Value → zS → Prop} {c : Int}
/-- the k-th sign of w from the right -/
def sgn (w : Int64) (k : Int) : Int := ((w >>> ((Int32.ofInt (8 * k)).toInt64 &&& 63) &&& 255).toInt32).toInt
theorem sg_bits : ∀ i, i < 32 → (255#32).getLsbD i = (255#64).getLsbD i ∧ (8 ≤ i → (255#32).getLsbD i = false) := by decide +kernel
theorem sg_sh (x : BitVec 64) (n : Nat) (hn : n ≤ 56) : ((x >>> n).setWidth 32 &&& 255#32) = ((x.sshiftRight n) &&& 255#64).setWidth 32 := by
  apply BitVec.eq_of_getLsbD_eq
  intro i hi
  obtain ⟨h1, h2⟩ := sg_bits i hi
  rw [BitVec.getLsbD_and, BitVec.getLsbD_setWidth, BitVec.getLsbD_setWidth, BitVec.getLsbD_and, BitVec.getLsbD_ushiftRight, BitVec.getLsbD_sshiftRight, ← h1]
  by_cases h8 : 8 ≤ i
  · rw [h2 h8]
    simp
  · have e1 : decide (64 ≤ i) = false := by simp; omega
    have e2 : n + i < 64 := by omega
    simp [e1, e2, hi]
theorem sg_one (w : Int64) (n : Nat) (hn : n ≤ 56) {u : UInt64} {v : Int64} (hu : (u.toBitVec % 64).toNat = n) (hv : (v.toBitVec.smod 64).toNat = n) : ((w.toUInt64 >>> u).toInt64).toInt32 &&& Int32.ofInt 255 = ((w >>> v) &&& 255).toInt32 := by
  apply Int32.toBitVec_inj.mp
  have e1 : ((w.toUInt64 >>> u).toInt64).toBitVec = w.toBitVec >>> n := by
    show w.toBitVec >>> (u.toBitVec % 64).toNat = _
    rw [hu]
  have e2 : ((w >>> v) &&& 255).toBitVec = w.toBitVec.sshiftRight n &&& 255#64 := by
    show w.toBitVec.sshiftRight (v.toBitVec.smod 64).toNat &&& 255#64 = _
    rw [hv]
  show (BitVec.signExtend 32 ((w.toUInt64 >>> u).toInt64).toBitVec) &&& 255#32 = BitVec.signExtend 32 (((w >>> v) &&& 255).toBitVec)
  rw [e1, e2, BitVec.signExtend_eq_setWidth_of_le _ (by decide), BitVec.signExtend_eq_setWidth_of_le _ (by decide)]
  exact sg_sh w.toBitVec n hn
theorem sgn_s {w : Int64} {k : Int} (hk : 0 ≤ k ∧ k ≤ 7) : ((w.toUInt64 >>> ((Int32.ofInt (8 * k)).toInt64.toUInt64 &&& Int64.toUInt64 63)).toInt64).toInt32 &&& Int32.ofInt 255 = Int32.ofInt (sgn w k) := by
  unfold sgn
  rw [z_of]
  rcases (show k = 0 ∨ k = 1 ∨ k = 2 ∨ k = 3 ∨ k = 4 ∨ k = 5 ∨ k = 6 ∨ k = 7 by omega) with rfl | rfl | rfl | rfl | rfl | rfl | rfl | rfl
  · exact sg_one w 0 (by decide) (by decide +kernel) (by decide +kernel)
  · exact sg_one w 8 (by decide) (by decide +kernel) (by decide +kernel)
  · exact sg_one w 16 (by decide) (by decide +kernel) (by decide +kernel)
  · exact sg_one w 24 (by decide) (by decide +kernel) (by decide +kernel)
  · exact sg_one w 32 (by decide) (by decide +kernel) (by decide +kernel)
  · exact sg_one w 40 (by decide) (by decide +kernel) (by decide +kernel)
  · exact sg_one w 48 (by decide) (by decide +kernel) (by decide +kernel)
  · exact sg_one w 56 (by decide) (by decide +kernel) (by decide +kernel)
theorem sgn_r (w : Int64) (k : Int) : zr (sgn w k) := z_tr _
theorem i8_n : ∀ n : Nat, n < 128 → (Int32.ofInt n).toInt8.toInt32 = Int32.ofInt n := by decide +kernel
theorem i8_i {x : Int} (h : 0 ≤ x ∧ x ≤ 127) : (Int32.ofInt x).toInt8.toInt32 = Int32.ofInt x := by
  have := i8_n x.toNat (by omega)
  rwa [z_cast h.1] at this
theorem nar_b {x : Int} (h : 0 ≤ x ∧ x ≤ 127) : narrow .byte (vi x) = vi x := by
  show Value.int _ = Value.int _
  exact congrArg Value.int (i8_i h)
def sgAll (w : Int64) (n : Int) : Prop := ∀ j : Int, 0 ≤ j → j < n → 32 ≤ sgn w j ∧ sgn w j ≤ 126
set_option maxRecDepth 20000 in
set_option maxHeartbeats 2000000 in
theorem x_signAt {w : Int64} {k : Int} (hk : 0 ≤ k ∧ k ≤ 7) (h : Q (some (vi (sgn w k))) σ) : zC X m_X11_signAt [.long w, vi k] σ Q := by
  show zE X m_X11_signAt 0 [.long w, zU, vi k] [] _ Q
  refine e_lload_n q_X11_signAt_0 (by decide) rfl ?_
  refine e_bipush q_X11_signAt_1 (by decide) ?_
  refine e_iload_n q_X11_signAt_3 (by decide) rfl ?_
  refine e_imul q_X11_signAt_4 ?_
  refine e_lushr q_X11_signAt_5 rfl ?_
  refine e_l2i q_X11_signAt_6 (v := _) (z_of _).symm ?_
  refine e_sipush q_X11_signAt_7 (by decide) ?_
  refine e_iand q_X11_signAt_10 (v := sgn w k) (by rw [z_of]; exact sgn_s hk) ?_
  refine e_ireturn q_X11_signAt_11 rfl rfl ?_
  exact h
set_option maxRecDepth 20000 in
set_option maxHeartbeats 2000000 in
theorem x_tput (hB : zB0 s) {T x : Int} (hT : N 12 1 = T) (hT1 : 0 ≤ T ∧ T < 40) (hx : 0 ≤ x ∧ x ≤ 127) (h : Q none (zI s (mup (mup N 13 T x) 12 1 (T + 1)))) : zC X m_X10_put [.ref 12, vi x] (zI s N) Q := by
  show zE X m_X10_put 0 [.ref 12, vi x] [] _ Q
  refine e_aload_n q_X10_put_0 (by decide) rfl ?_
  refine i_getI (k' := 1) q_X10_put_1 fl_X10_15 (a12 hB) rfl rfl rfl hT ?_
  refine e_bipush q_X10_put_4 (by decide) ?_
  refine e_icmp_ge q_X10_put_6 (by first | exact hR _ _ | (constructor <;> omega) | assumption) (by first | exact hR _ _ | (constructor <;> omega) | assumption) (fun c6 => ?_) (fun c6 => ?_)
  · skip
    refine e_return q_X10_put_30 rfl ?_
    first | exact h | exact absurd c6 (by omega)
  · skip
    refine e_aload_n q_X10_put_9 (by decide) rfl ?_
    refine i_getC (r := 13) q_X10_put_10 fl_X10_9 (a12 hB) rfl (by decide) ?_
    refine e_aload_n q_X10_put_13 (by decide) rfl ?_
    refine i_getI (k' := 1) q_X10_put_14 fl_X10_15 (a12 hB) rfl rfl rfl hT ?_
    refine e_iload_n q_X10_put_17 (by decide) rfl ?_
    refine e_i2b q_X10_put_18 (v := x) (i8_i hx) ?_
    refine i_bast q_X10_put_19 (a13 hB) (fun _ => rfl) (by first | omega | assumption) (by first | omega | assumption) (by decide) (nar_b hx) ?_
    refine e_aload_n q_X10_put_20 (by decide) rfl ?_
    refine e_dup q_X10_put_21 rfl ?_
    refine i_getI (k' := 1) q_X10_put_22 fl_X10_15 (a12 hB) rfl rfl rfl ((mup_cell (by decide)).trans hT) ?_
    refine e_iconst q_X10_put_25 ?_
    refine e_iadd q_X10_put_26 ?_
    refine i_putI (k' := 1) q_X10_put_27 fl_X10_15 (Or.inl rfl) (a12 hB) rfl rfl rfl rfl rfl ?_
    refine e_return q_X10_put_30 rfl ?_
    first | exact h | exact absurd c6 (by omega)
set_option maxRecDepth 20000 in
set_option maxHeartbeats 2000000 in
theorem x_type (hB : zB0 s) {T : Int} (hT : N 12 1 = T) (hT1 : 0 ≤ T ∧ T ≤ 40) {w : Int64} {n : Int} (hn0 : zr n) (h1 : ¬ ((1 ≤ n ∧ n ≤ 8) ∧ sgAll w n) → Q (some (vi (-1))) (zI s N)) (h2 : ((1 ≤ n ∧ n ≤ 8) ∧ sgAll w n) → 40 < T + n → Q (some (vi (-3))) (zI s N)) (h3 : ((1 ≤ n ∧ n ≤ 8) ∧ sgAll w n) → T + n ≤ 40 → ∀ N1, ((∀ (a : Nat) (x : Int), ¬ (a = 13 ∧ T ≤ x ∧ x < T + n) → ¬ (a = 12 ∧ x = 1) → N1 a x = N a x) ∧ N1 12 1 = T + n ∧ ∀ x : Int, 0 ≤ x → x < n → N1 13 (T + x) = sgn w (n - 1 - x)) → Q (some (vi (T + n))) (zI s N1)) : zC X m_X11_type [.ref 3, .long w, vi n] (zI s N) Q := by
  show zE X m_X11_type 0 [.ref 3, .long w, zU, vi n, zU, zU] [] _ Q
  refine e_iload_n q_X11_type_0 (by decide) rfl ?_
  refine e_iconst q_X11_type_1 ?_
  refine e_icmp_lt q_X11_type_2 (by first | exact hR _ _ | (constructor <;> omega) | assumption) (by first | exact hR _ _ | (constructor <;> omega) | assumption) (fun c2 => ?_) (fun c2 => ?_)
  · skip
    refine e_iconst q_X11_type_11 ?_
    refine e_ireturn q_X11_type_12 rfl rfl ?_
    exact h1 (fun q => by have q1 := q.1; omega)
  · skip
    refine e_iload_n q_X11_type_5 (by decide) rfl ?_
    refine e_bipush q_X11_type_6 (by decide) ?_
    refine e_icmp_le q_X11_type_8 (by first | exact hR _ _ | (constructor <;> omega) | assumption) (by first | exact hR _ _ | (constructor <;> omega) | assumption) (fun c8 => ?_) (fun c8 => ?_)
    · skip
      refine e_iconst q_X11_type_13 ?_
      refine e_istore (ls' := [_, _, _, _, _, _]) q_X11_type_14 (by decide) rfl rfl ?_
      have hn : 1 ≤ n ∧ n ≤ 8 := by omega
      refine zEe (ls := [.ref 3, .long w, zU, vi n, vi ((0 : Nat) : Int), zU]) (σ := zI s N) ?_ (by simp) rfl
      refine z_for (P := fun i => ∀ (u5 : Value), (sgAll w i) → zE X m_X11_type 16 [.ref 3, .long w, zU, vi n, vi (i : Int), u5] [] (zI s N) Q) n.toNat (fun i hi ih u5 hv => ?_) (fun u5 hv => ?_) zU (fun j h0 h1 => by omega)
      · skip
        refine e_iload q_X11_type_16 (by decide) rfl ?_
        refine e_iload_n q_X11_type_18 (by decide) rfl ?_
        refine e_icmp_ge q_X11_type_19 (by first | exact hR _ _ | (constructor <;> omega) | assumption) (by first | exact hR _ _ | (constructor <;> omega) | assumption) (fun c19 => ?_) (fun c19 => ?_)
        · skip
          exact absurd c19 (by omega)
        · skip
          refine e_lload_n q_X11_type_22 (by decide) rfl ?_
          refine e_iload q_X11_type_23 (by decide) rfl ?_
          refine iv_X11_signAt q_X11_type_25 lk_X11_188 (by decide) (Nat.le_of_ble_eq_true rfl) ?_
          refine x_signAt (by omega) ?_
          refine e_istore (ls' := [_, _, _, _, _, _]) q_X11_type_28 (by decide) rfl rfl ?_
          refine e_iload q_X11_type_30 (by decide) rfl ?_
          refine e_bipush q_X11_type_32 (by decide) ?_
          refine e_icmp_lt q_X11_type_34 (sgn_r _ _) (by constructor <;> omega) (fun c34 => ?_) (fun c34 => ?_)
          · skip
            refine e_iconst q_X11_type_44 ?_
            refine e_ireturn q_X11_type_45 rfl rfl ?_
            exact h1 (fun q => by have q1 := q.2 i (by omega) (by omega); omega)
          · skip
            refine e_iload q_X11_type_37 (by decide) rfl ?_
            refine e_bipush q_X11_type_39 (by decide) ?_
            refine e_icmp_le q_X11_type_41 (sgn_r _ _) (by constructor <;> omega) (fun c41 => ?_) (fun c41 => ?_)
            · skip
              refine e_iinc (ls' := [_, _, _, _, _, _]) q_X11_type_46 (by decide) rfl rfl rfl ?_
              refine e_goto q_X11_type_49 ?_
              exact ih _ (fun j h0 h1 => by
                by_cases hj : j = i
                · rw [hj]; omega
                · exact hv j h0 (by omega))
            · skip
              refine e_iconst q_X11_type_44 ?_
              refine e_ireturn q_X11_type_45 rfl rfl ?_
              exact h1 (fun q => by have q1 := q.2 i (by omega) (by omega); omega)
      · skip
        refine e_iload q_X11_type_16 (by decide) rfl ?_
        refine e_iload_n q_X11_type_18 (by decide) rfl ?_
        refine e_icmp_ge q_X11_type_19 (by first | exact hR _ _ | (constructor <;> omega) | assumption) (by first | exact hR _ _ | (constructor <;> omega) | assumption) (fun c19 => ?_) (fun c19 => ?_)
        · skip
          have hA : sgAll w n := fun j h0 h1 => hv j h0 (by omega)
          refine e_aload_n q_X11_type_52 (by decide) rfl ?_
          refine i_getC (r := 12) q_X11_type_53 fl_X11_44 (a3 hB) rfl (by decide) ?_
          refine i_getI (k' := 1) q_X11_type_56 fl_X11_192 (a12 hB) rfl rfl rfl hT ?_
          refine e_iload_n q_X11_type_59 (by decide) rfl ?_
          refine e_iadd q_X11_type_60 ?_
          refine e_bipush q_X11_type_61 (by decide) ?_
          refine e_icmp_le q_X11_type_63 (by first | exact hR _ _ | (constructor <;> omega) | assumption) (by first | exact hR _ _ | (constructor <;> omega) | assumption) (fun c63 => ?_) (fun c63 => ?_)
          · skip
            refine e_iload_n q_X11_type_69 (by decide) rfl ?_
            refine e_iconst q_X11_type_70 ?_
            refine e_isub q_X11_type_71 ?_
            refine e_istore (ls' := [_, _, _, _, _, _]) q_X11_type_72 (by decide) rfl rfl ?_
            refine zEe (ls := [.ref 3, .long w, zU, vi n, vi (n - 1 - ((0 : Nat) : Int)), u5]) (σ := zI s N) ?_ (by simp) rfl
            refine z_for (P := fun i => ∀ (N1 : zN), ((∀ (a : Nat) (x : Int), ¬ (a = 13 ∧ T ≤ x ∧ x < T + i) → ¬ (a = 12 ∧ x = 1) → N1 a x = N a x) ∧ N1 12 1 = T + i ∧ ∀ x : Int, 0 ≤ x → x < i → N1 13 (T + x) = sgn w (n - 1 - x)) → zE X m_X11_type 74 [.ref 3, .long w, zU, vi n, vi (n - 1 - (i : Int)), u5] [] (zI s N1) Q) n.toNat (fun i hi ih N1 hv => ?_) (fun N1 hv => ?_) N ⟨fun a x _ _ => rfl, by omega, fun x h1 h2 => by omega⟩
            · skip
              refine e_iload q_X11_type_74 (by decide) rfl ?_
              refine e_if_lt q_X11_type_76 (by first | exact hR _ _ | (constructor <;> omega) | assumption) (fun c76 => ?_) (fun c76 => ?_)
              · skip
                exact absurd c76 (by omega)
              · skip
                refine e_aload_n q_X11_type_79 (by decide) rfl ?_
                refine i_getC (r := 12) q_X11_type_80 fl_X11_44 (a3 hB) rfl (by decide) ?_
                refine e_lload_n q_X11_type_83 (by decide) rfl ?_
                refine e_iload q_X11_type_84 (by decide) rfl ?_
                refine iv_X11_signAt q_X11_type_86 lk_X11_188 (by decide) (Nat.le_of_ble_eq_true rfl) ?_
                refine x_signAt (by omega) ?_
                refine iv_X10_put q_X11_type_89 lk_X11_195 (by decide) (a12 hB) (Nat.le_of_ble_eq_true rfl) ?_
                refine x_tput hB hv.2.1 (by omega) (by have := hA (n - 1 - i) (by omega) (by omega); omega) ?_
                refine e_iinc (ls' := [_, _, _, _, _, _]) q_X11_type_92 (by decide) rfl rfl rfl ?_
                refine e_goto q_X11_type_95 ?_
                refine zEe (ls := [.ref 3, .long w, zU, vi n, vi (n - 1 - ((i + 1 : Nat) : Int)), u5]) (ih _ ⟨fun a x h1 h2 => ?_, ?_, fun x h1 h2 => ?_⟩) ?_ rfl
                · rw [mup_ne h2, mup_ne (by omega)]
                  exact hv.1 a x (by omega) h2
                · rw [mup_self]
                  omega
                · rw [mup_cell (by decide)]
                  by_cases hx : x = i
                  · rw [hx, mup_self]
                  · rw [mup_slot (by omega)]
                    exact hv.2.2 x h1 (by omega)
                · rw [show n - 1 - ((i + 1 : Nat) : Int) = n - 1 - (i : Int) + -1 by omega]
            · skip
              refine e_iload q_X11_type_74 (by decide) rfl ?_
              refine e_if_lt q_X11_type_76 (by first | exact hR _ _ | (constructor <;> omega) | assumption) (fun c76 => ?_) (fun c76 => ?_)
              · skip
                refine e_aload_n q_X11_type_98 (by decide) rfl ?_
                refine i_getC (r := 12) q_X11_type_99 fl_X11_44 (a3 hB) rfl (by decide) ?_
                refine i_getI (k' := 1) q_X11_type_102 fl_X11_192 (a12 hB) rfl rfl rfl hv.2.1 ?_
                refine e_ireturn q_X11_type_105 rfl rfl ?_
                have h5 : Q (some (vi (T + n))) (zI s N1) := h3 ⟨hn, hA⟩ (by omega) N1 ⟨fun a x h1 h2 => hv.1 a x (by omega) h2, by omega, fun x h1 h2 => hv.2.2 x h1 (by omega)⟩
                exact zqI h5 (by omega)
              · skip
                exact absurd (by omega) c76
          · skip
            refine e_bipush q_X11_type_66 (by decide) ?_
            refine e_ireturn q_X11_type_68 rfl rfl ?_
            exact h2 ⟨hn, hA⟩ (by omega)
        · skip
          exact absurd (by omega) c19
    · skip
      refine e_iconst q_X11_type_11 ?_
      refine e_ireturn q_X11_type_12 rfl rfl ?_
      exact h1 (fun q => by have q1 := q.1; omega)
set_option maxRecDepth 20000 in
set_option maxHeartbeats 2000000 in
theorem k_type (hB : zB0 s) {T : Int} (hT : N 39 15 = T) (hT1 : 0 ≤ T ∧ T ≤ 40) {w : Int64} {n : Int} (hn0 : zr n) (h1 : ¬ ((1 ≤ n ∧ n ≤ 8) ∧ sgAll w n) → Q (some (vi (-1))) (zI s N)) (h2 : ((1 ≤ n ∧ n ≤ 8) ∧ sgAll w n) → 40 < T + n → Q (some (vi (-3))) (zI s N)) (h3 : ((1 ≤ n ∧ n ≤ 8) ∧ sgAll w n) → T + n ≤ 40 → ∀ N1, ((∀ (a : Nat) (x : Int), ¬ (a = 51 ∧ T ≤ x ∧ x < T + n) → ¬ (a = 39 ∧ x = 15) → N1 a x = N a x) ∧ N1 39 15 = T + n ∧ ∀ x : Int, 0 ≤ x → x < n → N1 51 (T + x) = sgn w (n - 1 - x)) → Q (some (vi (T + n))) (zI s N1)) : zC X m_X12_type [.ref 39, .long w, vi n] (zI s N) Q := by
  show zE X m_X12_type 0 [.ref 39, .long w, zU, vi n, zU] [] _ Q
  refine e_iload_n q_X12_type_0 (by decide) rfl ?_
  refine e_iconst q_X12_type_1 ?_
  refine e_bipush q_X12_type_2 (by decide) ?_
  refine iv_X12_within q_X12_type_4 lk_X12_160 (by decide) (Nat.le_of_ble_eq_true rfl) ?_
  refine k_within hn0 (by constructor <;> omega) (by constructor <;> omega) ?_
  refine e_ifb_ne q_X12_type_7 (fun c7 => ?_) (fun c7 => ?_)
  · skip
    refine e_iconst q_X12_type_12 ?_
    refine e_istore (ls' := [_, _, _, _, _]) q_X12_type_13 (by decide) rfl rfl ?_
    have hn : 1 ≤ n ∧ n ≤ 8 := by omega
    refine zEe (ls := [.ref 39, .long w, zU, vi n, vi ((0 : Nat) : Int)]) (σ := zI s N) ?_ (by simp) rfl
    refine z_for (P := fun i => ∀ (hh : True), (sgAll w i) → zE X m_X12_type 15 [.ref 39, .long w, zU, vi n, vi (i : Int)] [] (zI s N) Q) n.toNat (fun i hi ih hh hv => ?_) (fun hh hv => ?_) trivial (fun j h0 h1 => by omega)
    · skip
      refine e_iload q_X12_type_15 (by decide) rfl ?_
      refine e_iload_n q_X12_type_17 (by decide) rfl ?_
      refine e_icmp_ge q_X12_type_18 (by first | exact hR _ _ | (constructor <;> omega) | assumption) (by first | exact hR _ _ | (constructor <;> omega) | assumption) (fun c18 => ?_) (fun c18 => ?_)
      · skip
        exact absurd c18 (by omega)
      · skip
        refine e_lload_n q_X12_type_21 (by decide) rfl ?_
        refine e_bipush q_X12_type_22 (by decide) ?_
        refine e_iload q_X12_type_24 (by decide) rfl ?_
        refine e_imul q_X12_type_26 ?_
        refine e_lshr q_X12_type_27 rfl ?_
        refine e_ldc2 q_X12_type_28 col_X12_203 ?_
        refine e_land q_X12_type_31 ?_
        refine e_l2i q_X12_type_32 (v := sgn w (i : Int)) (z_of _).symm ?_
        refine e_bipush q_X12_type_33 (by decide) ?_
        refine e_bipush q_X12_type_35 (by decide) ?_
        refine iv_X12_within q_X12_type_37 lk_X12_160 (by decide) (Nat.le_of_ble_eq_true rfl) ?_
        refine k_within (sgn_r _ _) (by constructor <;> omega) (by constructor <;> omega) ?_
        refine e_ifb_ne q_X12_type_40 (fun c40 => ?_) (fun c40 => ?_)
        · skip
          refine e_iinc (ls' := [_, _, _, _, _]) q_X12_type_45 (by decide) rfl rfl rfl ?_
          refine e_goto q_X12_type_48 ?_
          exact ih trivial (fun j h0 h1 => by
            by_cases hj : j = i
            · rw [hj]; omega
            · exact hv j h0 (by omega))
        · skip
          refine e_iconst q_X12_type_43 ?_
          refine e_ireturn q_X12_type_44 rfl rfl ?_
          exact h1 (fun q => by have q1 := q.2 i (by omega) (by omega); omega)
    · skip
      refine e_iload q_X12_type_15 (by decide) rfl ?_
      refine e_iload_n q_X12_type_17 (by decide) rfl ?_
      refine e_icmp_ge q_X12_type_18 (by first | exact hR _ _ | (constructor <;> omega) | assumption) (by first | exact hR _ _ | (constructor <;> omega) | assumption) (fun c18 => ?_) (fun c18 => ?_)
      · skip
        have hA : sgAll w n := fun j h0 h1 => hv j h0 (by omega)
        refine e_aload_n q_X12_type_51 (by decide) rfl ?_
        refine i_getI (k' := 15) q_X12_type_52 fl_X12_205 (a39 hB) rfl rfl rfl hT ?_
        refine e_iload_n q_X12_type_55 (by decide) rfl ?_
        refine e_iadd q_X12_type_56 ?_
        refine e_bipush q_X12_type_57 (by decide) ?_
        refine e_icmp_le q_X12_type_59 (by first | exact hR _ _ | (constructor <;> omega) | assumption) (by first | exact hR _ _ | (constructor <;> omega) | assumption) (fun c59 => ?_) (fun c59 => ?_)
        · skip
          refine e_iload_n q_X12_type_65 (by decide) rfl ?_
          refine e_iconst q_X12_type_66 ?_
          refine e_isub q_X12_type_67 ?_
          refine e_istore (ls' := [_, _, _, _, _]) q_X12_type_68 (by decide) rfl rfl ?_
          refine zEe (ls := [.ref 39, .long w, zU, vi n, vi (n - 1 - ((0 : Nat) : Int))]) (σ := zI s N) ?_ (by simp) rfl
          refine z_for (P := fun i => ∀ (N1 : zN), ((∀ (a : Nat) (x : Int), ¬ (a = 51 ∧ T ≤ x ∧ x < T + i) → ¬ (a = 39 ∧ x = 15) → N1 a x = N a x) ∧ N1 39 15 = T + i ∧ ∀ x : Int, 0 ≤ x → x < i → N1 51 (T + x) = sgn w (n - 1 - x)) → zE X m_X12_type 70 [.ref 39, .long w, zU, vi n, vi (n - 1 - (i : Int))] [] (zI s N1) Q) n.toNat (fun i hi ih N1 hv => ?_) (fun N1 hv => ?_) N ⟨fun a x _ _ => rfl, by omega, fun x h1 h2 => by omega⟩
          · skip
            refine e_iload q_X12_type_70 (by decide) rfl ?_
            refine e_if_lt q_X12_type_72 (by first | exact hR _ _ | (constructor <;> omega) | assumption) (fun c72 => ?_) (fun c72 => ?_)
            · skip
              exact absurd c72 (by omega)
            · skip
              refine e_aload_n q_X12_type_75 (by decide) rfl ?_
              refine i_getC (r := 51) q_X12_type_76 fl_X12_44 (a39 hB) rfl (by decide) ?_
              refine e_aload_n q_X12_type_79 (by decide) rfl ?_
              refine i_getI (k' := 15) q_X12_type_80 fl_X12_205 (a39 hB) rfl rfl rfl hv.2.1 ?_
              refine e_lload_n q_X12_type_83 (by decide) rfl ?_
              refine e_bipush q_X12_type_84 (by decide) ?_
              refine e_iload q_X12_type_86 (by decide) rfl ?_
              refine e_imul q_X12_type_88 ?_
              refine e_lshr q_X12_type_89 rfl ?_
              refine e_ldc2 q_X12_type_90 col_X12_203 ?_
              refine e_land q_X12_type_93 ?_
              refine e_l2i q_X12_type_94 (v := sgn w (n - 1 - (i : Int))) (z_of _).symm ?_
              refine i_iast q_X12_type_95 (a51 hB) (cref0 (by decide)) (by first | omega | assumption) (by first | omega | assumption) (by decide) ?_
              refine e_aload_n q_X12_type_96 (by decide) rfl ?_
              refine e_dup q_X12_type_97 rfl ?_
              refine i_getI (k' := 15) q_X12_type_98 fl_X12_205 (a39 hB) rfl rfl rfl ((mup_cell (by decide)).trans hv.2.1) ?_
              refine e_iconst q_X12_type_101 ?_
              refine e_iadd q_X12_type_102 ?_
              refine i_putI (k' := 15) q_X12_type_103 fl_X12_205 (Or.inl rfl) (a39 hB) rfl rfl rfl rfl rfl ?_
              refine e_iinc (ls' := [_, _, _, _, _]) q_X12_type_106 (by decide) rfl rfl rfl ?_
              refine e_goto q_X12_type_109 ?_
              refine zEe (ls := [.ref 39, .long w, zU, vi n, vi (n - 1 - ((i + 1 : Nat) : Int))]) (ih _ ⟨fun a x h1 h2 => ?_, ?_, fun x h1 h2 => ?_⟩) ?_ rfl
              · rw [mup_ne h2, mup_ne (by omega)]
                exact hv.1 a x (by omega) h2
              · rw [mup_self]
                omega
              · rw [mup_cell (by decide)]
                by_cases hx : x = i
                · rw [hx, mup_self]
                · rw [mup_slot (by omega)]
                  exact hv.2.2 x h1 (by omega)
              · rw [show n - 1 - ((i + 1 : Nat) : Int) = n - 1 - (i : Int) + -1 by omega]
          · skip
            refine e_iload q_X12_type_70 (by decide) rfl ?_
            refine e_if_lt q_X12_type_72 (by first | exact hR _ _ | (constructor <;> omega) | assumption) (fun c72 => ?_) (fun c72 => ?_)
            · skip
              refine e_aload_n q_X12_type_112 (by decide) rfl ?_
              refine i_getI (k' := 15) q_X12_type_113 fl_X12_205 (a39 hB) rfl rfl rfl hv.2.1 ?_
              refine e_ireturn q_X12_type_116 rfl rfl ?_
              have h5 : Q (some (vi (T + n))) (zI s N1) := h3 ⟨hn, hA⟩ (by omega) N1 ⟨fun a x h1 h2 => hv.1 a x (by omega) h2, by omega, fun x h1 h2 => hv.2.2 x h1 (by omega)⟩
              exact zqI h5 (by omega)
            · skip
              exact absurd (by omega) c72
        · skip
          refine e_bipush q_X12_type_62 (by decide) ?_
          refine e_ireturn q_X12_type_64 rfl rfl ?_
          exact h2 ⟨hn, hA⟩ (by omega)
      · skip
        exact absurd (by omega) c18
  · skip
    refine e_iconst q_X12_type_10 ?_
    refine e_ireturn q_X12_type_11 rfl rfl ?_
    exact h1 (fun q => by have q1 := q.1; omega)
set_option maxRecDepth 20000 in
set_option maxHeartbeats 2000000 in
theorem jx_type (hI : xI s N fa sa) (hy : yI N) {N2 : zN} (hs : sK s s) (hG : zG s N2) (hsm : ∀ a : Nat, (a < 88 ∧ a ≠ 12 ∧ a ≠ 13 ∧ a ≠ 51 ∧ a ≠ 39 ∧ a ≠ 3) → N2 a = N a) (h39 : ∀ j : Int, (j ≠ 15) → N2 39 j = N 39 j) (h3 : ∀ j : Int, (j ≠ 1000) → N2 3 j = N 3 j) (hdy : ∀ a : Nat, 88 ≤ a → a < s.1.1 → ((s.2 a).1 ≠ 1000) → N2 a = N a) {w : Int64} {n : Int} (hn : 1 ≤ n ∧ n ≤ 8) (hA : sgAll w n) (hT : N 39 15 + n ≤ 40) (v39_15 : N2 39 15 = N 39 15 + n) (v12_1 : N2 12 1 = N 39 15 + n) (u13 : ∀ i : Int, i < N 39 15 → N2 13 i = N 13 i) (u51 : ∀ i : Int, i < N 39 15 → N2 51 i = N 51 i) (w13 : ∀ x : Int, 0 ≤ x → x < n → N2 13 (N 39 15 + x) = sgn w (n - 1 - x)) (w51 : ∀ x : Int, 0 ≤ x → x < n → N2 51 (N 39 15 + x) = sgn w (n - 1 - x)) : xI s N2 fa sa ∧ yI N2 ∧ bud N2 ≤ bud N + 1 := by
  have hB := hI.B
  have hR := hI.R
  have hC := hI.C
  unfold mCnt at hC
  have hm := hI.m
  have n88 := hB.1
  obtain ⟨e1, e5, e7, e8, e10, e11, e3, e12, eh, eg, ef, et⟩ := hI.hs
  have g0 : N2 39 0 = N 39 0 := h39 _ (by omega)
  have g2 : N2 39 2 = N 39 2 := h39 _ (by omega)
  have g10 : N2 39 10 = N 39 10 := h39 _ (by omega)
  have g15 := v39_15
  have g18 : N2 39 18 = N 39 18 := h39 _ (by omega)
  have g26 : N2 39 26 = N 39 26 := h39 _ (by omega)
  have g29 : N2 39 29 = N 39 29 := h39 _ (by omega)
  have g31 : N2 39 31 = N 39 31 := h39 _ (by omega)
  have g36 : N2 39 36 = N 39 36 := h39 _ (by omega)
  have g49 : N2 39 49 = N 39 49 := h39 _ (by omega)
  have g50 : N2 39 50 = N 39 50 := h39 _ (by omega)
  have g58 : N2 39 58 = N 39 58 := h39 _ (by omega)
  have g63 : N2 39 63 = N 39 63 := h39 _ (by omega)
  have kCnt : mCnt N2 := by unfold mCnt; omega
  have k_ord : mOrd N2 := mOrd_k (show sC N N2 [48, 49, 50, 59, 61, 62] from fun b hb => hsm b (by simp only [List.mem_cons, List.not_mem_nil, or_false] at hb; omega)) (show s9 N N2 [10, 31] from fun b hb => h39 b (by simp only [List.mem_cons, List.not_mem_nil, or_false] at hb; omega)) hI.ord
  have k_ppl : mPpl N2 := mPpl_k (show sC N N2 [41, 42, 43, 44, 45, 46, 47] from fun b hb => hsm b (by simp only [List.mem_cons, List.not_mem_nil, or_false] at hb; omega)) g2 (by omega) hm.2.2.1
  have k_flt : mFlt N2 := mFlt_k (show sC N N2 [48, 49, 50] from fun b hb => hsm b (by simp only [List.mem_cons, List.not_mem_nil, or_false] at hb; omega)) g10 (by omega) hm.2.2.2.1
  have k_spl : mSpl N2 := mSpl_k (show sC N N2 [59, 60, 61, 62] from fun b hb => hsm b (by simp only [List.mem_cons, List.not_mem_nil, or_false] at hb; omega)) g31 (by omega) (by omega) hm.2.2.2.2.1
  have k_sty : mSty N2 := mSty_k (show sC N N2 [63, 64, 65, 66] from fun b hb => hsm b (by simp only [List.mem_cons, List.not_mem_nil, or_false] at hb; omega)) g36 (by omega) (by omega) hm.2.2.2.2.2.1
  have k_ple : mPle N2 := mPle_k (show sC N N2 [74, 75, 76, 77, 78] from fun b hb => hsm b (by simp only [List.mem_cons, List.not_mem_nil, or_false] at hb; omega)) g50 (by omega) (by omega) hm.2.2.2.2.2.2
  have k_hs : xHs N2 := by
    have t12 : N2 12 1 = N 39 15 + n := v12_1
    have t1 : N2 3 1 = N 3 1 := h3 _ (by omega)
    have t3 : N2 3 3 = N 3 3 := h3 _ (by omega)
    have t5 : N2 3 5 = N 3 5 := h3 _ (by omega)
    have t8 : N2 3 8 = N 3 8 := h3 _ (by omega)
    have t10 : N2 3 10 = N 3 10 := h3 _ (by omega)
    have t11 : N2 3 11 = N 3 11 := h3 _ (by omega)
    have t7 : N2 7 2 = N 7 2 := by rw [hsm 7 (by omega)]
    have r4 : N2 4 = N 4 := hsm 4 (by omega)
    have r40 : N2 40 = N 40 := hsm 40 (by omega)
    have r6 : N2 6 = N 6 := hsm 6 (by omega)
    have r58 : N2 58 = N 58 := hsm 58 (by omega)
    have r8 : N2 8 = N 8 := hsm 8 (by omega)
    have r9 : N2 9 = N 9 := hsm 9 (by omega)
    have r56 : N2 56 = N 56 := hsm 56 (by omega)
    have r57 : N2 57 = N 57 := hsm 57 (by omega)
    refine ⟨by omega, by omega, by omega, by omega, by omega, by omega, by omega, by omega, fun i h0 h1 => by rw [r4, r40]; exact eh i h0 h1, fun i h0 h1 => by rw [r6, r58]; exact eg i h0 h1, fun i h0 h1 => by rw [r8, r9, r56, r57, g26]; exact ef i h0 h1, fun i h0 h1 => by
      rw [g15] at h1
      by_cases hi : i < N 39 15
      · rw [u13 i hi, u51 i hi]
        exact et i h0 hi
      · have hx := w13 (i - N 39 15) (by omega) (by omega)
        have hy2 := w51 (i - N 39 15) (by omega) (by omega)
        rw [show N 39 15 + (i - N 39 15) = i by omega] at hx hy2
        rw [hx, hy2]⟩
  have k_ps : xPs s N2 fa sa := xPs_k hs (show s8 s N N2 4 from fun b h1 h2 h3 => hdy b h1 h2 (by omega)) ((show sC N N2 [5] from fun b hb => hsm b (by simp only [List.mem_cons, List.not_mem_nil, or_false] at hb; omega)) 5 (by simp)) (show sC N N2 [41, 42, 43, 44, 45, 46, 47, 48, 59, 73] from fun b hb => hsm b (by simp only [List.mem_cons, List.not_mem_nil, or_false] at hb; omega)) (show s9 N N2 [2, 10, 31, 49] from fun b hb => h39 b (by simp only [List.mem_cons, List.not_mem_nil, or_false] at hb; omega)) hI.ps
  have k_fs : xFs s N2 fa := xFs_k hs (show s8 s N N2 2 from fun b h1 h2 h3 => hdy b h1 h2 (by omega)) (show sC N N2 [48, 49, 50] from fun b hb => hsm b (by simp only [List.mem_cons, List.not_mem_nil, or_false] at hb; omega)) g10 hI.fs
  have k_ss : xSs s N2 sa := xSs_k hs (show s8 s N N2 8 from fun b h1 h2 h3 => hdy b h1 h2 (by omega)) (show sC N N2 [59, 60, 61, 62] from fun b hb => hsm b (by simp only [List.mem_cons, List.not_mem_nil, or_false] at hb; omega)) g31 hI.ss
  have k_ys : xYs s N2 := xYs_k hs (show s8 s N N2 9 from fun b h1 h2 h3 => hdy b h1 h2 (by omega)) (show sC N N2 [10, 63, 64, 65, 66] from fun b hb => hsm b (by simp only [List.mem_cons, List.not_mem_nil, or_false] at hb; omega)) g36 hI.ys
  have k_ls : xLs s N2 fa := xLs_k hs (show s8 s N N2 5 from fun b h1 h2 h3 => hdy b h1 h2 (by omega)) (show s8 s N N2 20 from fun b h1 h2 h3 => hdy b h1 h2 (by omega)) (show s8 s N N2 21 from fun b h1 h2 h3 => hdy b h1 h2 (by omega)) (show sC N N2 [11, 48, 74, 75, 76, 77, 78, 79, 80] from fun b hb => hsm b (by simp only [List.mem_cons, List.not_mem_nil, or_false] at hb; omega)) g50 hI.ls
  have k_law : xLaw N2 := xLaw_k (show sC N N2 [14, 15, 16, 17, 18, 19, 52, 53] from fun b hb => hsm b (by simp only [List.mem_cons, List.not_mem_nil, or_false] at hb; omega)) ((show s3 N N2 [13] from fun b hb => h3 b (by simp only [List.mem_cons, List.not_mem_nil, or_false] at hb; omega)) 13 (by simp)) ((show s3 N N2 [14] from fun b hb => h3 b (by simp only [List.mem_cons, List.not_mem_nil, or_false] at hb; omega)) 14 (by simp)) g18 hI.law
  have k_sh : xSh N2 := xSh_k (show sC N N2 [20, 31, 32, 33, 34, 35, 36, 37, 38, 82, 83, 84] from fun b hb => hsm b (by simp only [List.mem_cons, List.not_mem_nil, or_false] at hb; omega)) hI.sh
  have k_ro : xRo N2 := xRo_k (show sC N N2 [21, 22, 23, 24, 85, 86, 87] from fun b hb => hsm b (by simp only [List.mem_cons, List.not_mem_nil, or_false] at hb; omega)) g63 hI.ro
  have k_kp : yKp N2 := yKp_k (show s3 N N2 [19] from fun b hb => h3 b (by simp only [List.mem_cons, List.not_mem_nil, or_false] at hb; omega)) (show s9 N N2 [10, 31] from fun b hb => h39 b (by simp only [List.mem_cons, List.not_mem_nil, or_false] at hb; omega)) hy.1
  have k_ow : yOw N2 := yOw_k (show sC N N2 [76, 77, 80] from fun b hb => hsm b (by simp only [List.mem_cons, List.not_mem_nil, or_false] at hb; omega)) (show s9 N N2 [50] from fun b hb => h39 b (by simp only [List.mem_cons, List.not_mem_nil, or_false] at hb; omega)) hy.2.1
  have k_tp : yTp N2 := by
    intro i h0 h1
    rw [g15] at h1
    by_cases hi : i < N 39 15
    · rw [u51 i hi]
      exact hy.2.2.1 i h0 hi
    · have hy2 := w51 (i - N 39 15) (by omega) (by omega)
      rw [show N 39 15 + (i - N 39 15) = i by omega] at hy2
      rw [hy2]
      exact hA _ (by omega) (by omega)
  have k_yro : yRo N2 := yRo_k (show sC N N2 [85, 86] from fun b hb => hsm b (by simp only [List.mem_cons, List.not_mem_nil, or_false] at hb; omega)) hy.2.2.2.1
  have k_ln : yLn N2 := yLn_k (show sC N N2 [40, 58] from fun b hb => hsm b (by simp only [List.mem_cons, List.not_mem_nil, or_false] at hb; omega)) (show s9 N N2 [0, 29] from fun b hb => h39 b (by simp only [List.mem_cons, List.not_mem_nil, or_false] at hb; omega)) hy.2.2.2.2.1
  have k_cm : yCm N2 := yCm_k (show sC N N2 [73] from fun b hb => hsm b (by simp only [List.mem_cons, List.not_mem_nil, or_false] at hb; omega)) (show s9 N N2 [2, 49] from fun b hb => h39 b (by simp only [List.mem_cons, List.not_mem_nil, or_false] at hb; omega)) hy.2.2.2.2.2.1
  have k_bf : yBf N2 := yBf_k (show sC N N2 [42, 48, 49] from fun b hb => hsm b (by simp only [List.mem_cons, List.not_mem_nil, or_false] at hb; omega)) (show s9 N N2 [10] from fun b hb => h39 b (by simp only [List.mem_cons, List.not_mem_nil, or_false] at hb; omega)) hy.2.2.2.2.2.2
  have k_bud : bud N2 ≤ bud N + 1 := by have := bud_k (show sC N N2 [59, 62] from fun b hb => hsm b (by simp only [List.mem_cons, List.not_mem_nil, or_false] at hb; omega)) (show s9 N N2 [2, 10, 31] from fun b hb => h39 b (by simp only [List.mem_cons, List.not_mem_nil, or_false] at hb; omega)); omega
  exact ⟨⟨hB.k hs, hG, ⟨hG.1, kCnt, k_ppl, k_flt, k_spl, k_sty, k_ple⟩, k_ord, k_hs, k_ps, k_fs, k_ss, k_ys, k_ls, k_law, k_sh, k_ro⟩, ⟨k_kp, k_ow, k_tp, k_yro, k_ln, k_cm, k_bf⟩, k_bud⟩
set_option maxRecDepth 20000 in
set_option maxHeartbeats 2000000 in
theorem j_type (hJ : xJ s N c) (hc : c < 512) {w : Int64} {n : Int} (hn : zr n) (h : jK X c m_X12_type [.ref 39, .long w, vi n] K) : zC X m_X11_type [.ref 3, .long w, vi n] (zI s N) K := by
  obtain ⟨fa, sa, hI, hy, hbud, hsz⟩ := id hJ
  have hk := bud_r hI hbud hc
  have hC := hI.C
  unfold mCnt at hC
  have n88 := hI.B.1
  have hR := hI.R
  have hkp : N 3 19 = N 39 10 + N 39 31 := hy.1
  obtain ⟨e1, e5, e7, e8, e10, e11, e3, e12, eh, eg, ef, et⟩ := hI.hs
  refine x_type hI.B e12 (by omega) hn (fun g1 => ?_) (fun g1 g2 => ?_) (fun g1 g2 N1 hv => ?_)
  · exact h _ _ _ (by first | exact hI.B | exact hI.B.k sK.ns | exact hI.B.k (sK.ns.trans (sK.ns.trans sK.ns))) (fun Q hq => k_type hI.B rfl (by omega) hn (fun _ => hq _ _ hJ.up) (fun q => absurd q g1) (fun q => absurd q g1))
  · exact h _ _ _ (by first | exact hI.B | exact hI.B.k sK.ns | exact hI.B.k (sK.ns.trans (sK.ns.trans sK.ns))) (fun Q hq => k_type hI.B rfl (by omega) hn (fun q => absurd g1 q) (fun _ _ => hq _ _ hJ.up) (fun _ q => absurd q (by omega)))
  · refine h _ _ _ (by first | exact hI.B | exact hI.B.k sK.ns | exact hI.B.k (sK.ns.trans (sK.ns.trans sK.ns))) (fun Q hq => ?_)
    have c0 : N1 39 15 = N 39 15 := hv.1 39 15 (by omega) (by omega)
    refine k_type hI.B c0 (by omega) hn (fun q => absurd g1 q) (fun _ q => absurd q (by omega)) (fun _ _ N2 hv2 => ?_)
    have key : ∀ (a : Nat) (x : Int), ¬ (a = 51 ∧ N 39 15 ≤ x ∧ x < N 39 15 + n) → ¬ (a = 39 ∧ x = 15) → ¬ (a = 13 ∧ N 39 15 ≤ x ∧ x < N 39 15 + n) → ¬ (a = 12 ∧ x = 1) → N2 a x = N a x := fun a x h1 h2 h3 h4 => (hv2.1 a x h1 h2).trans (hv.1 a x h3 h4)
    have w13 : ∀ x : Int, 0 ≤ x → x < n → N2 13 (N 39 15 + x) = sgn w (n - 1 - x) := fun x h1 h2 => (hv2.1 13 _ (by omega) (by omega)).trans (hv.2.2 x h1 h2)
    have v12 : N2 12 1 = N 39 15 + n := (hv2.1 12 1 (by omega) (by omega)).trans hv.2.1
    have hG : zG s N2 := by
      refine ⟨fun a x => ?_, fun a ha x => ?_⟩
      · by_cases q1 : a = 51 ∧ N 39 15 ≤ x ∧ x < N 39 15 + n
        · have := hv2.2.2 (x - N 39 15) (by omega) (by omega)
          rw [show N 39 15 + (x - N 39 15) = x by omega] at this
          rw [q1.1, this]
          exact sgn_r _ _
        · by_cases q2 : a = 13 ∧ N 39 15 ≤ x ∧ x < N 39 15 + n
          · have := w13 (x - N 39 15) (by omega) (by omega)
            rw [show N 39 15 + (x - N 39 15) = x by omega] at this
            rw [q2.1, this]
            exact sgn_r _ _
          · by_cases q3 : a = 39 ∧ x = 15
            · rw [q3.1, q3.2, hv2.2.1]; constructor <;> omega
            · by_cases q4 : a = 12 ∧ x = 1
              · rw [q4.1, q4.2, v12]; constructor <;> omega
              · rw [key a x q1 q3 q2 q4]; exact hR a x
      · rw [key a x (by omega) (by omega) (by omega) (by omega)]
        exact hI.2.1.2 a ha x
    obtain ⟨x1, x2, x3⟩ := jx_type hI hy sK.rf hG (fun a ha => funext fun x => key a x (by omega) (by omega) (by omega) (by omega)) (fun j hj => key 39 j (by omega) (by omega) (by omega) (by omega)) (fun j _ => key 3 j (by omega) (by omega) (by omega) (by omega)) (fun a h1 h2 _ => funext fun x => key a x (by omega) (by omega) (by omega) (by omega)) g1.1 g1.2 g2 hv2.2.1 v12 (fun i hi => key 13 i (by omega) (by omega) (by omega) (by omega)) (fun i hi => key 51 i (by omega) (by omega) (by omega) (by omega)) w13 hv2.2.2
    exact hq _ _ ⟨fa, sa, x1, x2, by omega, hsz.n0⟩
end RT1
