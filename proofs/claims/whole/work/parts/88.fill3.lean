/-! making whole, 3 (printed by wip/whole/gen/f3.py) -/
section FI3
variable {X : zX} {s : zK} {N : zN} {σ : zS} {fa sa : Int → Int} {Q K : Option Value → zS → Prop} {c : Int}
def pcN (m : Nat) : Int := ((m % 2 + m / 2 % 2 + m / 4 % 2 + m / 8 % 2 + m / 16 % 2 + m / 32 % 2 : Nat) : Int)
theorem bi_tb (m k : Nat) : bi (tb m k) = ((m / 2 ^ k % 2 : Nat) : Int) := by
  unfold tb
  rw [Nat.testBit_eq_decide_div_mod_eq]
  rcases Nat.mod_two_eq_zero_or_one (m / 2 ^ k) with h | h
  · rw [bi_f (by simp [h]), h]; rfl
  · rw [bi_t (by simp [h]), h]; rfl
theorem pcN_6 (m : Nat) : cnt (tb m) 6 = pcN m := by
  unfold cnt
  simp only [sumK, bi_tb]
  unfold pcN
  simp
theorem pcN_K {m K : Nat} (hm : m < 2 ^ K) (hK : K ≤ 6) : cnt (tb m) K = pcN m := by
  rw [← pcN_6, cnt_flat (m := K) (n := 6) hK (fun k h1 _ r => by have := tb_lt hm r; omega)]
theorem pcN_b (m : Nat) : 0 ≤ pcN m ∧ pcN m ≤ 6 := by
  unfold pcN
  omega
set_option maxRecDepth 20000 in
set_option maxHeartbeats 2000000 in
theorem d_bitCount {m : Nat} (hm : m < 64) (h : Q (some (vi (pcN m))) σ) : zC X m_J6_bitCount_0f7a4 [vi (m : Int)] σ Q := by
  show zE X m_J6_bitCount_0f7a4 0 [vi (m : Int)] [] _ Q
  refine e_iload_n q_J6_bitCount_0f7a4_0 (by decide) rfl ?_
  refine e_iload_n q_J6_bitCount_0f7a4_1 (by decide) rfl ?_
  refine e_iconst q_J6_bitCount_0f7a4_2 ?_
  refine e_iushr q_J6_bitCount_0f7a4_3 (v := _) (z_of _).symm ?_
  refine e_ldcw q_J6_bitCount_0f7a4_4 co_J6_265 ?_
  refine e_iand q_J6_bitCount_0f7a4_7 (v := _) (z_of _).symm ?_
  refine e_isub q_J6_bitCount_0f7a4_8 ?_
  refine e_istore_n (ls' := [_]) q_J6_bitCount_0f7a4_9 (by decide) rfl rfl ?_
  refine e_iload_n q_J6_bitCount_0f7a4_10 (by decide) rfl ?_
  refine e_ldcw q_J6_bitCount_0f7a4_11 co_J6_266 ?_
  refine e_iand q_J6_bitCount_0f7a4_14 (v := _) (z_of _).symm ?_
  refine e_iload_n q_J6_bitCount_0f7a4_15 (by decide) rfl ?_
  refine e_iconst q_J6_bitCount_0f7a4_16 ?_
  refine e_iushr q_J6_bitCount_0f7a4_17 (v := _) (z_of _).symm ?_
  refine e_ldcw q_J6_bitCount_0f7a4_18 co_J6_266 ?_
  refine e_iand q_J6_bitCount_0f7a4_21 (v := _) (z_of _).symm ?_
  refine e_iadd q_J6_bitCount_0f7a4_22 ?_
  refine e_istore_n (ls' := [_]) q_J6_bitCount_0f7a4_23 (by decide) rfl rfl ?_
  refine e_iload_n q_J6_bitCount_0f7a4_24 (by decide) rfl ?_
  refine e_iload_n q_J6_bitCount_0f7a4_25 (by decide) rfl ?_
  refine e_iconst q_J6_bitCount_0f7a4_26 ?_
  refine e_iushr q_J6_bitCount_0f7a4_27 (v := _) (z_of _).symm ?_
  refine e_iadd q_J6_bitCount_0f7a4_28 ?_
  refine e_ldcw q_J6_bitCount_0f7a4_29 co_J6_267 ?_
  refine e_iand q_J6_bitCount_0f7a4_32 (v := _) (z_of _).symm ?_
  refine e_istore_n (ls' := [_]) q_J6_bitCount_0f7a4_33 (by decide) rfl rfl ?_
  refine e_iload_n q_J6_bitCount_0f7a4_34 (by decide) rfl ?_
  refine e_iload_n q_J6_bitCount_0f7a4_35 (by decide) rfl ?_
  refine e_bipush q_J6_bitCount_0f7a4_36 (by decide) ?_
  refine e_iushr q_J6_bitCount_0f7a4_38 (v := _) (z_of _).symm ?_
  refine e_iadd q_J6_bitCount_0f7a4_39 ?_
  refine e_istore_n (ls' := [_]) q_J6_bitCount_0f7a4_40 (by decide) rfl rfl ?_
  refine e_iload_n q_J6_bitCount_0f7a4_41 (by decide) rfl ?_
  refine e_iload_n q_J6_bitCount_0f7a4_42 (by decide) rfl ?_
  refine e_bipush q_J6_bitCount_0f7a4_43 (by decide) ?_
  refine e_iushr q_J6_bitCount_0f7a4_45 (v := _) (z_of _).symm ?_
  refine e_iadd q_J6_bitCount_0f7a4_46 ?_
  refine e_istore_n (ls' := [_]) q_J6_bitCount_0f7a4_47 (by decide) rfl rfl ?_
  refine e_iload_n q_J6_bitCount_0f7a4_48 (by decide) rfl ?_
  refine e_bipush q_J6_bitCount_0f7a4_49 (by decide) ?_
  refine e_iand q_J6_bitCount_0f7a4_51 (v := _) (z_of _).symm ?_
  refine e_ireturn q_J6_bitCount_0f7a4_52 rfl rfl ?_
  exact zqI h (by clear h; revert hm; revert m; decide +kernel)
set_option maxRecDepth 20000 in
set_option maxHeartbeats 2000000 in
theorem x_strikeOut (hB : zB0 s) (hR : ∀ a x, zr (N a x)) {K ps : Nat} (hK : N 25 2 = K) (hK6 : K ≤ 6) (hp : N 25 3 = ps) (hps : ps < 2 ^ K) {rm wl : Int} (hrm : -100 ≤ rm ∧ rm ≤ 100) (hwl : wl = 0 ∨ wl = 1) (h : ∀ N1, ((∀ a : Nat, a ≠ 28 → N1 a = N a) ∧ (∀ m : Nat, 1 ≤ m → m < 2 ^ K → N1 28 m = zif (rm < pcN m ∨ (wl = 0 ∧ m &&& ps = m)) IMP (N 28 m)) ∧ N1 28 0 = N 28 0 ∧ ∀ a x, zr (N1 a x)) → Q none (zI s N1)) : zC X m_X1_strikeOut [.ref 25, vi rm, vi wl] (zI s N) Q := by
  have hp6 := pow6 (K := K) hK6
  show zE X m_X1_strikeOut 0 [.ref 25, vi rm, vi wl, zU, zU] [] _ Q
  refine e_iconst q_X1_strikeOut_0 ?_
  refine e_istore_n (ls' := [_, _, _, _, _]) q_X1_strikeOut_1 (by decide) rfl rfl ?_
  refine zEe (ls := [.ref 25, vi rm, vi wl, vi (((0 : Nat) : Int) + 1), zU]) (σ := zI s N) ?_ rfl rfl
  refine z_for (P := fun i => ∀ (N1 : zN) (u4 : Value), ((∀ a : Nat, a ≠ 28 → N1 a = N a) ∧ (∀ m : Nat, 1 ≤ m → m < i + 1 → N1 28 m = zif (rm < pcN m ∨ (wl = 0 ∧ m &&& ps = m)) IMP (N 28 m)) ∧ (∀ m : Nat, m = 0 ∨ i + 1 ≤ m → N1 28 m = N 28 m) ∧ ∀ a x, zr (N1 a x)) → zE X m_X1_strikeOut 2 [.ref 25, vi rm, vi wl, vi ((i : Int) + 1), u4] [] (zI s N1) Q) (2 ^ K - 1) (fun i hi ih N1 u4 hv => ?_) (fun N1 u4 hv => ?_) N zU ⟨fun _ _ => rfl, fun m h1 h2 => by omega, fun _ _ => rfl, hR⟩
  · skip
    refine e_iload_n q_X1_strikeOut_2 (by decide) rfl ?_
    refine e_iconst q_X1_strikeOut_3 ?_
    refine e_aload_n q_X1_strikeOut_4 (by decide) rfl ?_
    refine i_getI (k' := 2) q_X1_strikeOut_5 fl_X1_24 (a25 hB) rfl rfl rfl ((congrFun (hv.1 25 (by decide)) 2).trans hK) ?_
    refine e_ishl q_X1_strikeOut_8 (v := ((2 ^ K : Nat) : Int)) (bx_shl1 K (by omega)) ?_
    refine e_icmp_ge q_X1_strikeOut_9 (by constructor <;> omega) (by constructor <;> omega) (fun c9 => ?_) (fun c9 => ?_)
    · skip
      exact absurd c9 (by omega)
    · skip
      refine e_iload_n q_X1_strikeOut_12 (by decide) rfl ?_
      refine e_if_ne q_X1_strikeOut_13 (by constructor <;> omega) (fun c13 => ?_) (fun c13 => ?_)
      · skip
        refine e_iconst q_X1_strikeOut_31 ?_
        refine e_istore (ls' := [_, _, _, _, _]) q_X1_strikeOut_32 (by decide) rfl rfl ?_
        refine e_iload_n q_X1_strikeOut_34 (by decide) rfl ?_
        refine iv_J6_bitCount_0f7a4 q_X1_strikeOut_35 lk_X1_48 (by decide) (Nat.le_of_ble_eq_true rfl) ?_
        refine d_bitCount (m := i + 1) (by omega) ?_
        refine e_iload_n q_X1_strikeOut_38 (by decide) rfl ?_
        refine e_icmp_gt q_X1_strikeOut_39 (by have : 0 ≤ pcN (i + 1) ∧ pcN (i + 1) ≤ 6 := pcN_b _; constructor <;> omega) (by constructor <;> omega) (fun c39 => ?_) (fun c39 => ?_)
        · skip
          refine e_aload_n q_X1_strikeOut_47 (by decide) rfl ?_
          refine i_getC (r := 28) q_X1_strikeOut_48 fl_X1_18 (a25 hB) rfl (by decide) ?_
          refine e_iload_n q_X1_strikeOut_51 (by decide) rfl ?_
          refine e_ldc q_X1_strikeOut_52 co_X1_31 ?_
          refine i_iast q_X1_strikeOut_54 (a28 hB) (fun _ => rfl) (by first | omega | assumption) (by first | omega | assumption) (by decide) ?_
          refine e_iinc (ls' := [_, _, _, _, _]) q_X1_strikeOut_55 (by decide) rfl rfl rfl ?_
          refine e_goto q_X1_strikeOut_58 ?_
          have key : ∀ v : Int, v = zif (rm < pcN (i + 1) ∨ (wl = 0 ∧ (i + 1) &&& ps = i + 1)) IMP (N 28 ((i + 1 : Nat) : Int)) → ∀ N2 : zN, (N2 = N1 ∧ v = N 28 ((i + 1 : Nat) : Int)) ∨ (N2 = mup N1 28 ((i : Int) + 1) v ∧ v = IMP) → ∀ u, zE X m_X1_strikeOut 2 [.ref 25, vi rm, vi wl, vi (((i + 1 : Nat) : Int) + 1), u] [] (zI s N2) Q := by
            intro v hvv N2 hN2 u
            have hother : ∀ x : Int, x ≠ (i : Int) + 1 → N2 28 x = N1 28 x := fun x hx => by
              rcases hN2 with ⟨rfl, -⟩ | ⟨rfl, -⟩
              · rfl
              · exact mup_slot hx
            have hhere : N2 28 ((i + 1 : Nat) : Int) = v := by
              rcases hN2 with ⟨rfl, r⟩ | ⟨rfl, r⟩
              · rw [hv.2.2.1 (i + 1) (by omega), r]
              · rw [show ((i + 1 : Nat) : Int) = (i : Int) + 1 by omega, mup_self]
            refine ih N2 u ⟨fun a0 h1 => ?_, fun m h1 h2 => ?_, fun m h1 => ?_, ?_⟩
            · rcases hN2 with ⟨rfl, -⟩ | ⟨rfl, -⟩
              · exact hv.1 a0 h1
              · rw [mup_fn h1]; exact hv.1 a0 h1
            · by_cases hm : m = i + 1
              · rw [hm, hhere, hvv]
              · rw [hother m (by omega)]; exact hv.2.1 m h1 (by omega)
            · rw [hother m (by omega)]; exact hv.2.2.1 m (by omega)
            · rcases hN2 with ⟨rfl, -⟩ | ⟨rfl, r⟩
              · exact hv.2.2.2
              · exact zr_mup hv.2.2.2 (by rw [r]; unfold IMP; constructor <;> omega)
          first
          | exact absurd rfl c44
          | (have hb : rm < pcN (i + 1) ∨ (wl = 0 ∧ (i + 1) &&& ps = i + 1) := Or.inl c39
             exact zEe (key IMP (zif_t hb).symm _ (Or.inr ⟨rfl, rfl⟩) _) rfl rfl)
          | (have hq := (bx_poor (i + 1) (by omega) ps (by omega)).mp c24
             have hb : rm < pcN (i + 1) ∨ (wl = 0 ∧ (i + 1) &&& ps = i + 1) := Or.inr ⟨c13, hq⟩
             exact zEe (key IMP (zif_t hb).symm _ (Or.inr ⟨rfl, rfl⟩) _) rfl rfl)
          | (have hb : ¬ (rm < pcN (i + 1) ∨ (wl = 0 ∧ (i + 1) &&& ps = i + 1)) := fun r => r.elim c39 (fun r => c13 r.1)
             exact zEe (key (N 28 ((i + 1 : Nat) : Int)) (zif_f hb).symm N1 (Or.inl ⟨rfl, rfl⟩) _) rfl rfl)
          | (have hb : ¬ (rm < pcN (i + 1) ∨ (wl = 0 ∧ (i + 1) &&& ps = i + 1)) := fun r => r.elim c39 (fun r => c24 ((bx_poor (i + 1) (by omega) ps (by omega)).mpr r.2))
             exact zEe (key (N 28 ((i + 1 : Nat) : Int)) (zif_f hb).symm N1 (Or.inl ⟨rfl, rfl⟩) _) rfl rfl)
          | exact absurd c44 (by omega)
        · skip
          refine e_iload q_X1_strikeOut_42 (by decide) rfl ?_
          refine e_if_eq q_X1_strikeOut_44 (by constructor <;> omega) (fun c44 => ?_) (fun c44 => ?_)
          · skip
            refine e_iinc (ls' := [_, _, _, _, _]) q_X1_strikeOut_55 (by decide) rfl rfl rfl ?_
            refine e_goto q_X1_strikeOut_58 ?_
            have key : ∀ v : Int, v = zif (rm < pcN (i + 1) ∨ (wl = 0 ∧ (i + 1) &&& ps = i + 1)) IMP (N 28 ((i + 1 : Nat) : Int)) → ∀ N2 : zN, (N2 = N1 ∧ v = N 28 ((i + 1 : Nat) : Int)) ∨ (N2 = mup N1 28 ((i : Int) + 1) v ∧ v = IMP) → ∀ u, zE X m_X1_strikeOut 2 [.ref 25, vi rm, vi wl, vi (((i + 1 : Nat) : Int) + 1), u] [] (zI s N2) Q := by
              intro v hvv N2 hN2 u
              have hother : ∀ x : Int, x ≠ (i : Int) + 1 → N2 28 x = N1 28 x := fun x hx => by
                rcases hN2 with ⟨rfl, -⟩ | ⟨rfl, -⟩
                · rfl
                · exact mup_slot hx
              have hhere : N2 28 ((i + 1 : Nat) : Int) = v := by
                rcases hN2 with ⟨rfl, r⟩ | ⟨rfl, r⟩
                · rw [hv.2.2.1 (i + 1) (by omega), r]
                · rw [show ((i + 1 : Nat) : Int) = (i : Int) + 1 by omega, mup_self]
              refine ih N2 u ⟨fun a0 h1 => ?_, fun m h1 h2 => ?_, fun m h1 => ?_, ?_⟩
              · rcases hN2 with ⟨rfl, -⟩ | ⟨rfl, -⟩
                · exact hv.1 a0 h1
                · rw [mup_fn h1]; exact hv.1 a0 h1
              · by_cases hm : m = i + 1
                · rw [hm, hhere, hvv]
                · rw [hother m (by omega)]; exact hv.2.1 m h1 (by omega)
              · rw [hother m (by omega)]; exact hv.2.2.1 m (by omega)
              · rcases hN2 with ⟨rfl, -⟩ | ⟨rfl, r⟩
                · exact hv.2.2.2
                · exact zr_mup hv.2.2.2 (by rw [r]; unfold IMP; constructor <;> omega)
            first
            | exact absurd rfl c44
            | (have hb : rm < pcN (i + 1) ∨ (wl = 0 ∧ (i + 1) &&& ps = i + 1) := Or.inl c39
               exact zEe (key IMP (zif_t hb).symm _ (Or.inr ⟨rfl, rfl⟩) _) rfl rfl)
            | (have hq := (bx_poor (i + 1) (by omega) ps (by omega)).mp c24
               have hb : rm < pcN (i + 1) ∨ (wl = 0 ∧ (i + 1) &&& ps = i + 1) := Or.inr ⟨c13, hq⟩
               exact zEe (key IMP (zif_t hb).symm _ (Or.inr ⟨rfl, rfl⟩) _) rfl rfl)
            | (have hb : ¬ (rm < pcN (i + 1) ∨ (wl = 0 ∧ (i + 1) &&& ps = i + 1)) := fun r => r.elim c39 (fun r => c13 r.1)
               exact zEe (key (N 28 ((i + 1 : Nat) : Int)) (zif_f hb).symm N1 (Or.inl ⟨rfl, rfl⟩) _) rfl rfl)
            | (have hb : ¬ (rm < pcN (i + 1) ∨ (wl = 0 ∧ (i + 1) &&& ps = i + 1)) := fun r => r.elim c39 (fun r => c24 ((bx_poor (i + 1) (by omega) ps (by omega)).mpr r.2))
               exact zEe (key (N 28 ((i + 1 : Nat) : Int)) (zif_f hb).symm N1 (Or.inl ⟨rfl, rfl⟩) _) rfl rfl)
            | exact absurd c44 (by omega)
          · skip
            refine e_aload_n q_X1_strikeOut_47 (by decide) rfl ?_
            refine i_getC (r := 28) q_X1_strikeOut_48 fl_X1_18 (a25 hB) rfl (by decide) ?_
            refine e_iload_n q_X1_strikeOut_51 (by decide) rfl ?_
            refine e_ldc q_X1_strikeOut_52 co_X1_31 ?_
            refine i_iast q_X1_strikeOut_54 (a28 hB) (fun _ => rfl) (by first | omega | assumption) (by first | omega | assumption) (by decide) ?_
            refine e_iinc (ls' := [_, _, _, _, _]) q_X1_strikeOut_55 (by decide) rfl rfl rfl ?_
            refine e_goto q_X1_strikeOut_58 ?_
            have key : ∀ v : Int, v = zif (rm < pcN (i + 1) ∨ (wl = 0 ∧ (i + 1) &&& ps = i + 1)) IMP (N 28 ((i + 1 : Nat) : Int)) → ∀ N2 : zN, (N2 = N1 ∧ v = N 28 ((i + 1 : Nat) : Int)) ∨ (N2 = mup N1 28 ((i : Int) + 1) v ∧ v = IMP) → ∀ u, zE X m_X1_strikeOut 2 [.ref 25, vi rm, vi wl, vi (((i + 1 : Nat) : Int) + 1), u] [] (zI s N2) Q := by
              intro v hvv N2 hN2 u
              have hother : ∀ x : Int, x ≠ (i : Int) + 1 → N2 28 x = N1 28 x := fun x hx => by
                rcases hN2 with ⟨rfl, -⟩ | ⟨rfl, -⟩
                · rfl
                · exact mup_slot hx
              have hhere : N2 28 ((i + 1 : Nat) : Int) = v := by
                rcases hN2 with ⟨rfl, r⟩ | ⟨rfl, r⟩
                · rw [hv.2.2.1 (i + 1) (by omega), r]
                · rw [show ((i + 1 : Nat) : Int) = (i : Int) + 1 by omega, mup_self]
              refine ih N2 u ⟨fun a0 h1 => ?_, fun m h1 h2 => ?_, fun m h1 => ?_, ?_⟩
              · rcases hN2 with ⟨rfl, -⟩ | ⟨rfl, -⟩
                · exact hv.1 a0 h1
                · rw [mup_fn h1]; exact hv.1 a0 h1
              · by_cases hm : m = i + 1
                · rw [hm, hhere, hvv]
                · rw [hother m (by omega)]; exact hv.2.1 m h1 (by omega)
              · rw [hother m (by omega)]; exact hv.2.2.1 m (by omega)
              · rcases hN2 with ⟨rfl, -⟩ | ⟨rfl, r⟩
                · exact hv.2.2.2
                · exact zr_mup hv.2.2.2 (by rw [r]; unfold IMP; constructor <;> omega)
            first
            | exact absurd rfl c44
            | (have hb : rm < pcN (i + 1) ∨ (wl = 0 ∧ (i + 1) &&& ps = i + 1) := Or.inl c39
               exact zEe (key IMP (zif_t hb).symm _ (Or.inr ⟨rfl, rfl⟩) _) rfl rfl)
            | (have hq := (bx_poor (i + 1) (by omega) ps (by omega)).mp c24
               have hb : rm < pcN (i + 1) ∨ (wl = 0 ∧ (i + 1) &&& ps = i + 1) := Or.inr ⟨c13, hq⟩
               exact zEe (key IMP (zif_t hb).symm _ (Or.inr ⟨rfl, rfl⟩) _) rfl rfl)
            | (have hb : ¬ (rm < pcN (i + 1) ∨ (wl = 0 ∧ (i + 1) &&& ps = i + 1)) := fun r => r.elim c39 (fun r => c13 r.1)
               exact zEe (key (N 28 ((i + 1 : Nat) : Int)) (zif_f hb).symm N1 (Or.inl ⟨rfl, rfl⟩) _) rfl rfl)
            | (have hb : ¬ (rm < pcN (i + 1) ∨ (wl = 0 ∧ (i + 1) &&& ps = i + 1)) := fun r => r.elim c39 (fun r => c24 ((bx_poor (i + 1) (by omega) ps (by omega)).mpr r.2))
               exact zEe (key (N 28 ((i + 1 : Nat) : Int)) (zif_f hb).symm N1 (Or.inl ⟨rfl, rfl⟩) _) rfl rfl)
            | exact absurd c44 (by omega)
      · skip
        refine e_iload_n q_X1_strikeOut_16 (by decide) rfl ?_
        refine e_aload_n q_X1_strikeOut_17 (by decide) rfl ?_
        refine i_getI (k' := 3) q_X1_strikeOut_18 fl_X1_28 (a25 hB) rfl rfl rfl ((congrFun (hv.1 25 (by decide)) 3).trans hp) ?_
        refine e_iconst q_X1_strikeOut_21 ?_
        refine e_ixor q_X1_strikeOut_22 (v := (-1 - (ps : Int))) (bx_not ps (by omega)) ?_
        refine e_iand q_X1_strikeOut_23 (v := (Int32.ofInt ((i + 1 : Nat) : Int) &&& Int32.ofInt (-1 - (ps : Int))).toInt) (z_of _).symm ?_
        refine e_if_ne q_X1_strikeOut_24 (z_tr _) (fun c24 => ?_) (fun c24 => ?_)
        · skip
          refine e_iconst q_X1_strikeOut_31 ?_
          refine e_istore (ls' := [_, _, _, _, _]) q_X1_strikeOut_32 (by decide) rfl rfl ?_
          refine e_iload_n q_X1_strikeOut_34 (by decide) rfl ?_
          refine iv_J6_bitCount_0f7a4 q_X1_strikeOut_35 lk_X1_48 (by decide) (Nat.le_of_ble_eq_true rfl) ?_
          refine d_bitCount (m := i + 1) (by omega) ?_
          refine e_iload_n q_X1_strikeOut_38 (by decide) rfl ?_
          refine e_icmp_gt q_X1_strikeOut_39 (by have : 0 ≤ pcN (i + 1) ∧ pcN (i + 1) ≤ 6 := pcN_b _; constructor <;> omega) (by constructor <;> omega) (fun c39 => ?_) (fun c39 => ?_)
          · skip
            refine e_aload_n q_X1_strikeOut_47 (by decide) rfl ?_
            refine i_getC (r := 28) q_X1_strikeOut_48 fl_X1_18 (a25 hB) rfl (by decide) ?_
            refine e_iload_n q_X1_strikeOut_51 (by decide) rfl ?_
            refine e_ldc q_X1_strikeOut_52 co_X1_31 ?_
            refine i_iast q_X1_strikeOut_54 (a28 hB) (fun _ => rfl) (by first | omega | assumption) (by first | omega | assumption) (by decide) ?_
            refine e_iinc (ls' := [_, _, _, _, _]) q_X1_strikeOut_55 (by decide) rfl rfl rfl ?_
            refine e_goto q_X1_strikeOut_58 ?_
            have key : ∀ v : Int, v = zif (rm < pcN (i + 1) ∨ (wl = 0 ∧ (i + 1) &&& ps = i + 1)) IMP (N 28 ((i + 1 : Nat) : Int)) → ∀ N2 : zN, (N2 = N1 ∧ v = N 28 ((i + 1 : Nat) : Int)) ∨ (N2 = mup N1 28 ((i : Int) + 1) v ∧ v = IMP) → ∀ u, zE X m_X1_strikeOut 2 [.ref 25, vi rm, vi wl, vi (((i + 1 : Nat) : Int) + 1), u] [] (zI s N2) Q := by
              intro v hvv N2 hN2 u
              have hother : ∀ x : Int, x ≠ (i : Int) + 1 → N2 28 x = N1 28 x := fun x hx => by
                rcases hN2 with ⟨rfl, -⟩ | ⟨rfl, -⟩
                · rfl
                · exact mup_slot hx
              have hhere : N2 28 ((i + 1 : Nat) : Int) = v := by
                rcases hN2 with ⟨rfl, r⟩ | ⟨rfl, r⟩
                · rw [hv.2.2.1 (i + 1) (by omega), r]
                · rw [show ((i + 1 : Nat) : Int) = (i : Int) + 1 by omega, mup_self]
              refine ih N2 u ⟨fun a0 h1 => ?_, fun m h1 h2 => ?_, fun m h1 => ?_, ?_⟩
              · rcases hN2 with ⟨rfl, -⟩ | ⟨rfl, -⟩
                · exact hv.1 a0 h1
                · rw [mup_fn h1]; exact hv.1 a0 h1
              · by_cases hm : m = i + 1
                · rw [hm, hhere, hvv]
                · rw [hother m (by omega)]; exact hv.2.1 m h1 (by omega)
              · rw [hother m (by omega)]; exact hv.2.2.1 m (by omega)
              · rcases hN2 with ⟨rfl, -⟩ | ⟨rfl, r⟩
                · exact hv.2.2.2
                · exact zr_mup hv.2.2.2 (by rw [r]; unfold IMP; constructor <;> omega)
            first
            | exact absurd rfl c44
            | (have hb : rm < pcN (i + 1) ∨ (wl = 0 ∧ (i + 1) &&& ps = i + 1) := Or.inl c39
               exact zEe (key IMP (zif_t hb).symm _ (Or.inr ⟨rfl, rfl⟩) _) rfl rfl)
            | (have hq := (bx_poor (i + 1) (by omega) ps (by omega)).mp c24
               have hb : rm < pcN (i + 1) ∨ (wl = 0 ∧ (i + 1) &&& ps = i + 1) := Or.inr ⟨c13, hq⟩
               exact zEe (key IMP (zif_t hb).symm _ (Or.inr ⟨rfl, rfl⟩) _) rfl rfl)
            | (have hb : ¬ (rm < pcN (i + 1) ∨ (wl = 0 ∧ (i + 1) &&& ps = i + 1)) := fun r => r.elim c39 (fun r => c13 r.1)
               exact zEe (key (N 28 ((i + 1 : Nat) : Int)) (zif_f hb).symm N1 (Or.inl ⟨rfl, rfl⟩) _) rfl rfl)
            | (have hb : ¬ (rm < pcN (i + 1) ∨ (wl = 0 ∧ (i + 1) &&& ps = i + 1)) := fun r => r.elim c39 (fun r => c24 ((bx_poor (i + 1) (by omega) ps (by omega)).mpr r.2))
               exact zEe (key (N 28 ((i + 1 : Nat) : Int)) (zif_f hb).symm N1 (Or.inl ⟨rfl, rfl⟩) _) rfl rfl)
            | exact absurd c44 (by omega)
          · skip
            refine e_iload q_X1_strikeOut_42 (by decide) rfl ?_
            refine e_if_eq q_X1_strikeOut_44 (by constructor <;> omega) (fun c44 => ?_) (fun c44 => ?_)
            · skip
              refine e_iinc (ls' := [_, _, _, _, _]) q_X1_strikeOut_55 (by decide) rfl rfl rfl ?_
              refine e_goto q_X1_strikeOut_58 ?_
              have key : ∀ v : Int, v = zif (rm < pcN (i + 1) ∨ (wl = 0 ∧ (i + 1) &&& ps = i + 1)) IMP (N 28 ((i + 1 : Nat) : Int)) → ∀ N2 : zN, (N2 = N1 ∧ v = N 28 ((i + 1 : Nat) : Int)) ∨ (N2 = mup N1 28 ((i : Int) + 1) v ∧ v = IMP) → ∀ u, zE X m_X1_strikeOut 2 [.ref 25, vi rm, vi wl, vi (((i + 1 : Nat) : Int) + 1), u] [] (zI s N2) Q := by
                intro v hvv N2 hN2 u
                have hother : ∀ x : Int, x ≠ (i : Int) + 1 → N2 28 x = N1 28 x := fun x hx => by
                  rcases hN2 with ⟨rfl, -⟩ | ⟨rfl, -⟩
                  · rfl
                  · exact mup_slot hx
                have hhere : N2 28 ((i + 1 : Nat) : Int) = v := by
                  rcases hN2 with ⟨rfl, r⟩ | ⟨rfl, r⟩
                  · rw [hv.2.2.1 (i + 1) (by omega), r]
                  · rw [show ((i + 1 : Nat) : Int) = (i : Int) + 1 by omega, mup_self]
                refine ih N2 u ⟨fun a0 h1 => ?_, fun m h1 h2 => ?_, fun m h1 => ?_, ?_⟩
                · rcases hN2 with ⟨rfl, -⟩ | ⟨rfl, -⟩
                  · exact hv.1 a0 h1
                  · rw [mup_fn h1]; exact hv.1 a0 h1
                · by_cases hm : m = i + 1
                  · rw [hm, hhere, hvv]
                  · rw [hother m (by omega)]; exact hv.2.1 m h1 (by omega)
                · rw [hother m (by omega)]; exact hv.2.2.1 m (by omega)
                · rcases hN2 with ⟨rfl, -⟩ | ⟨rfl, r⟩
                  · exact hv.2.2.2
                  · exact zr_mup hv.2.2.2 (by rw [r]; unfold IMP; constructor <;> omega)
              first
              | exact absurd rfl c44
              | (have hb : rm < pcN (i + 1) ∨ (wl = 0 ∧ (i + 1) &&& ps = i + 1) := Or.inl c39
                 exact zEe (key IMP (zif_t hb).symm _ (Or.inr ⟨rfl, rfl⟩) _) rfl rfl)
              | (have hq := (bx_poor (i + 1) (by omega) ps (by omega)).mp c24
                 have hb : rm < pcN (i + 1) ∨ (wl = 0 ∧ (i + 1) &&& ps = i + 1) := Or.inr ⟨c13, hq⟩
                 exact zEe (key IMP (zif_t hb).symm _ (Or.inr ⟨rfl, rfl⟩) _) rfl rfl)
              | (have hb : ¬ (rm < pcN (i + 1) ∨ (wl = 0 ∧ (i + 1) &&& ps = i + 1)) := fun r => r.elim c39 (fun r => c13 r.1)
                 exact zEe (key (N 28 ((i + 1 : Nat) : Int)) (zif_f hb).symm N1 (Or.inl ⟨rfl, rfl⟩) _) rfl rfl)
              | (have hb : ¬ (rm < pcN (i + 1) ∨ (wl = 0 ∧ (i + 1) &&& ps = i + 1)) := fun r => r.elim c39 (fun r => c24 ((bx_poor (i + 1) (by omega) ps (by omega)).mpr r.2))
                 exact zEe (key (N 28 ((i + 1 : Nat) : Int)) (zif_f hb).symm N1 (Or.inl ⟨rfl, rfl⟩) _) rfl rfl)
              | exact absurd c44 (by omega)
            · skip
              refine e_aload_n q_X1_strikeOut_47 (by decide) rfl ?_
              refine i_getC (r := 28) q_X1_strikeOut_48 fl_X1_18 (a25 hB) rfl (by decide) ?_
              refine e_iload_n q_X1_strikeOut_51 (by decide) rfl ?_
              refine e_ldc q_X1_strikeOut_52 co_X1_31 ?_
              refine i_iast q_X1_strikeOut_54 (a28 hB) (fun _ => rfl) (by first | omega | assumption) (by first | omega | assumption) (by decide) ?_
              refine e_iinc (ls' := [_, _, _, _, _]) q_X1_strikeOut_55 (by decide) rfl rfl rfl ?_
              refine e_goto q_X1_strikeOut_58 ?_
              have key : ∀ v : Int, v = zif (rm < pcN (i + 1) ∨ (wl = 0 ∧ (i + 1) &&& ps = i + 1)) IMP (N 28 ((i + 1 : Nat) : Int)) → ∀ N2 : zN, (N2 = N1 ∧ v = N 28 ((i + 1 : Nat) : Int)) ∨ (N2 = mup N1 28 ((i : Int) + 1) v ∧ v = IMP) → ∀ u, zE X m_X1_strikeOut 2 [.ref 25, vi rm, vi wl, vi (((i + 1 : Nat) : Int) + 1), u] [] (zI s N2) Q := by
                intro v hvv N2 hN2 u
                have hother : ∀ x : Int, x ≠ (i : Int) + 1 → N2 28 x = N1 28 x := fun x hx => by
                  rcases hN2 with ⟨rfl, -⟩ | ⟨rfl, -⟩
                  · rfl
                  · exact mup_slot hx
                have hhere : N2 28 ((i + 1 : Nat) : Int) = v := by
                  rcases hN2 with ⟨rfl, r⟩ | ⟨rfl, r⟩
                  · rw [hv.2.2.1 (i + 1) (by omega), r]
                  · rw [show ((i + 1 : Nat) : Int) = (i : Int) + 1 by omega, mup_self]
                refine ih N2 u ⟨fun a0 h1 => ?_, fun m h1 h2 => ?_, fun m h1 => ?_, ?_⟩
                · rcases hN2 with ⟨rfl, -⟩ | ⟨rfl, -⟩
                  · exact hv.1 a0 h1
                  · rw [mup_fn h1]; exact hv.1 a0 h1
                · by_cases hm : m = i + 1
                  · rw [hm, hhere, hvv]
                  · rw [hother m (by omega)]; exact hv.2.1 m h1 (by omega)
                · rw [hother m (by omega)]; exact hv.2.2.1 m (by omega)
                · rcases hN2 with ⟨rfl, -⟩ | ⟨rfl, r⟩
                  · exact hv.2.2.2
                  · exact zr_mup hv.2.2.2 (by rw [r]; unfold IMP; constructor <;> omega)
              first
              | exact absurd rfl c44
              | (have hb : rm < pcN (i + 1) ∨ (wl = 0 ∧ (i + 1) &&& ps = i + 1) := Or.inl c39
                 exact zEe (key IMP (zif_t hb).symm _ (Or.inr ⟨rfl, rfl⟩) _) rfl rfl)
              | (have hq := (bx_poor (i + 1) (by omega) ps (by omega)).mp c24
                 have hb : rm < pcN (i + 1) ∨ (wl = 0 ∧ (i + 1) &&& ps = i + 1) := Or.inr ⟨c13, hq⟩
                 exact zEe (key IMP (zif_t hb).symm _ (Or.inr ⟨rfl, rfl⟩) _) rfl rfl)
              | (have hb : ¬ (rm < pcN (i + 1) ∨ (wl = 0 ∧ (i + 1) &&& ps = i + 1)) := fun r => r.elim c39 (fun r => c13 r.1)
                 exact zEe (key (N 28 ((i + 1 : Nat) : Int)) (zif_f hb).symm N1 (Or.inl ⟨rfl, rfl⟩) _) rfl rfl)
              | (have hb : ¬ (rm < pcN (i + 1) ∨ (wl = 0 ∧ (i + 1) &&& ps = i + 1)) := fun r => r.elim c39 (fun r => c24 ((bx_poor (i + 1) (by omega) ps (by omega)).mpr r.2))
                 exact zEe (key (N 28 ((i + 1 : Nat) : Int)) (zif_f hb).symm N1 (Or.inl ⟨rfl, rfl⟩) _) rfl rfl)
              | exact absurd c44 (by omega)
        · skip
          refine e_iconst q_X1_strikeOut_27 ?_
          refine e_goto q_X1_strikeOut_28 ?_
          refine e_istore (ls' := [_, _, _, _, _]) q_X1_strikeOut_32 (by decide) rfl rfl ?_
          refine e_iload_n q_X1_strikeOut_34 (by decide) rfl ?_
          refine iv_J6_bitCount_0f7a4 q_X1_strikeOut_35 lk_X1_48 (by decide) (Nat.le_of_ble_eq_true rfl) ?_
          refine d_bitCount (m := i + 1) (by omega) ?_
          refine e_iload_n q_X1_strikeOut_38 (by decide) rfl ?_
          refine e_icmp_gt q_X1_strikeOut_39 (by have : 0 ≤ pcN (i + 1) ∧ pcN (i + 1) ≤ 6 := pcN_b _; constructor <;> omega) (by constructor <;> omega) (fun c39 => ?_) (fun c39 => ?_)
          · skip
            refine e_aload_n q_X1_strikeOut_47 (by decide) rfl ?_
            refine i_getC (r := 28) q_X1_strikeOut_48 fl_X1_18 (a25 hB) rfl (by decide) ?_
            refine e_iload_n q_X1_strikeOut_51 (by decide) rfl ?_
            refine e_ldc q_X1_strikeOut_52 co_X1_31 ?_
            refine i_iast q_X1_strikeOut_54 (a28 hB) (fun _ => rfl) (by first | omega | assumption) (by first | omega | assumption) (by decide) ?_
            refine e_iinc (ls' := [_, _, _, _, _]) q_X1_strikeOut_55 (by decide) rfl rfl rfl ?_
            refine e_goto q_X1_strikeOut_58 ?_
            have key : ∀ v : Int, v = zif (rm < pcN (i + 1) ∨ (wl = 0 ∧ (i + 1) &&& ps = i + 1)) IMP (N 28 ((i + 1 : Nat) : Int)) → ∀ N2 : zN, (N2 = N1 ∧ v = N 28 ((i + 1 : Nat) : Int)) ∨ (N2 = mup N1 28 ((i : Int) + 1) v ∧ v = IMP) → ∀ u, zE X m_X1_strikeOut 2 [.ref 25, vi rm, vi wl, vi (((i + 1 : Nat) : Int) + 1), u] [] (zI s N2) Q := by
              intro v hvv N2 hN2 u
              have hother : ∀ x : Int, x ≠ (i : Int) + 1 → N2 28 x = N1 28 x := fun x hx => by
                rcases hN2 with ⟨rfl, -⟩ | ⟨rfl, -⟩
                · rfl
                · exact mup_slot hx
              have hhere : N2 28 ((i + 1 : Nat) : Int) = v := by
                rcases hN2 with ⟨rfl, r⟩ | ⟨rfl, r⟩
                · rw [hv.2.2.1 (i + 1) (by omega), r]
                · rw [show ((i + 1 : Nat) : Int) = (i : Int) + 1 by omega, mup_self]
              refine ih N2 u ⟨fun a0 h1 => ?_, fun m h1 h2 => ?_, fun m h1 => ?_, ?_⟩
              · rcases hN2 with ⟨rfl, -⟩ | ⟨rfl, -⟩
                · exact hv.1 a0 h1
                · rw [mup_fn h1]; exact hv.1 a0 h1
              · by_cases hm : m = i + 1
                · rw [hm, hhere, hvv]
                · rw [hother m (by omega)]; exact hv.2.1 m h1 (by omega)
              · rw [hother m (by omega)]; exact hv.2.2.1 m (by omega)
              · rcases hN2 with ⟨rfl, -⟩ | ⟨rfl, r⟩
                · exact hv.2.2.2
                · exact zr_mup hv.2.2.2 (by rw [r]; unfold IMP; constructor <;> omega)
            first
            | exact absurd rfl c44
            | (have hb : rm < pcN (i + 1) ∨ (wl = 0 ∧ (i + 1) &&& ps = i + 1) := Or.inl c39
               exact zEe (key IMP (zif_t hb).symm _ (Or.inr ⟨rfl, rfl⟩) _) rfl rfl)
            | (have hq := (bx_poor (i + 1) (by omega) ps (by omega)).mp c24
               have hb : rm < pcN (i + 1) ∨ (wl = 0 ∧ (i + 1) &&& ps = i + 1) := Or.inr ⟨c13, hq⟩
               exact zEe (key IMP (zif_t hb).symm _ (Or.inr ⟨rfl, rfl⟩) _) rfl rfl)
            | (have hb : ¬ (rm < pcN (i + 1) ∨ (wl = 0 ∧ (i + 1) &&& ps = i + 1)) := fun r => r.elim c39 (fun r => c13 r.1)
               exact zEe (key (N 28 ((i + 1 : Nat) : Int)) (zif_f hb).symm N1 (Or.inl ⟨rfl, rfl⟩) _) rfl rfl)
            | (have hb : ¬ (rm < pcN (i + 1) ∨ (wl = 0 ∧ (i + 1) &&& ps = i + 1)) := fun r => r.elim c39 (fun r => c24 ((bx_poor (i + 1) (by omega) ps (by omega)).mpr r.2))
               exact zEe (key (N 28 ((i + 1 : Nat) : Int)) (zif_f hb).symm N1 (Or.inl ⟨rfl, rfl⟩) _) rfl rfl)
            | exact absurd c44 (by omega)
          · skip
            refine e_iload q_X1_strikeOut_42 (by decide) rfl ?_
            refine e_if_eq q_X1_strikeOut_44 (by constructor <;> omega) (fun c44 => ?_) (fun c44 => ?_)
            · skip
              refine e_iinc (ls' := [_, _, _, _, _]) q_X1_strikeOut_55 (by decide) rfl rfl rfl ?_
              refine e_goto q_X1_strikeOut_58 ?_
              have key : ∀ v : Int, v = zif (rm < pcN (i + 1) ∨ (wl = 0 ∧ (i + 1) &&& ps = i + 1)) IMP (N 28 ((i + 1 : Nat) : Int)) → ∀ N2 : zN, (N2 = N1 ∧ v = N 28 ((i + 1 : Nat) : Int)) ∨ (N2 = mup N1 28 ((i : Int) + 1) v ∧ v = IMP) → ∀ u, zE X m_X1_strikeOut 2 [.ref 25, vi rm, vi wl, vi (((i + 1 : Nat) : Int) + 1), u] [] (zI s N2) Q := by
                intro v hvv N2 hN2 u
                have hother : ∀ x : Int, x ≠ (i : Int) + 1 → N2 28 x = N1 28 x := fun x hx => by
                  rcases hN2 with ⟨rfl, -⟩ | ⟨rfl, -⟩
                  · rfl
                  · exact mup_slot hx
                have hhere : N2 28 ((i + 1 : Nat) : Int) = v := by
                  rcases hN2 with ⟨rfl, r⟩ | ⟨rfl, r⟩
                  · rw [hv.2.2.1 (i + 1) (by omega), r]
                  · rw [show ((i + 1 : Nat) : Int) = (i : Int) + 1 by omega, mup_self]
                refine ih N2 u ⟨fun a0 h1 => ?_, fun m h1 h2 => ?_, fun m h1 => ?_, ?_⟩
                · rcases hN2 with ⟨rfl, -⟩ | ⟨rfl, -⟩
                  · exact hv.1 a0 h1
                  · rw [mup_fn h1]; exact hv.1 a0 h1
                · by_cases hm : m = i + 1
                  · rw [hm, hhere, hvv]
                  · rw [hother m (by omega)]; exact hv.2.1 m h1 (by omega)
                · rw [hother m (by omega)]; exact hv.2.2.1 m (by omega)
                · rcases hN2 with ⟨rfl, -⟩ | ⟨rfl, r⟩
                  · exact hv.2.2.2
                  · exact zr_mup hv.2.2.2 (by rw [r]; unfold IMP; constructor <;> omega)
              first
              | exact absurd rfl c44
              | (have hb : rm < pcN (i + 1) ∨ (wl = 0 ∧ (i + 1) &&& ps = i + 1) := Or.inl c39
                 exact zEe (key IMP (zif_t hb).symm _ (Or.inr ⟨rfl, rfl⟩) _) rfl rfl)
              | (have hq := (bx_poor (i + 1) (by omega) ps (by omega)).mp c24
                 have hb : rm < pcN (i + 1) ∨ (wl = 0 ∧ (i + 1) &&& ps = i + 1) := Or.inr ⟨c13, hq⟩
                 exact zEe (key IMP (zif_t hb).symm _ (Or.inr ⟨rfl, rfl⟩) _) rfl rfl)
              | (have hb : ¬ (rm < pcN (i + 1) ∨ (wl = 0 ∧ (i + 1) &&& ps = i + 1)) := fun r => r.elim c39 (fun r => c13 r.1)
                 exact zEe (key (N 28 ((i + 1 : Nat) : Int)) (zif_f hb).symm N1 (Or.inl ⟨rfl, rfl⟩) _) rfl rfl)
              | (have hb : ¬ (rm < pcN (i + 1) ∨ (wl = 0 ∧ (i + 1) &&& ps = i + 1)) := fun r => r.elim c39 (fun r => c24 ((bx_poor (i + 1) (by omega) ps (by omega)).mpr r.2))
                 exact zEe (key (N 28 ((i + 1 : Nat) : Int)) (zif_f hb).symm N1 (Or.inl ⟨rfl, rfl⟩) _) rfl rfl)
              | exact absurd c44 (by omega)
            · skip
              refine e_aload_n q_X1_strikeOut_47 (by decide) rfl ?_
              refine i_getC (r := 28) q_X1_strikeOut_48 fl_X1_18 (a25 hB) rfl (by decide) ?_
              refine e_iload_n q_X1_strikeOut_51 (by decide) rfl ?_
              refine e_ldc q_X1_strikeOut_52 co_X1_31 ?_
              refine i_iast q_X1_strikeOut_54 (a28 hB) (fun _ => rfl) (by first | omega | assumption) (by first | omega | assumption) (by decide) ?_
              refine e_iinc (ls' := [_, _, _, _, _]) q_X1_strikeOut_55 (by decide) rfl rfl rfl ?_
              refine e_goto q_X1_strikeOut_58 ?_
              have key : ∀ v : Int, v = zif (rm < pcN (i + 1) ∨ (wl = 0 ∧ (i + 1) &&& ps = i + 1)) IMP (N 28 ((i + 1 : Nat) : Int)) → ∀ N2 : zN, (N2 = N1 ∧ v = N 28 ((i + 1 : Nat) : Int)) ∨ (N2 = mup N1 28 ((i : Int) + 1) v ∧ v = IMP) → ∀ u, zE X m_X1_strikeOut 2 [.ref 25, vi rm, vi wl, vi (((i + 1 : Nat) : Int) + 1), u] [] (zI s N2) Q := by
                intro v hvv N2 hN2 u
                have hother : ∀ x : Int, x ≠ (i : Int) + 1 → N2 28 x = N1 28 x := fun x hx => by
                  rcases hN2 with ⟨rfl, -⟩ | ⟨rfl, -⟩
                  · rfl
                  · exact mup_slot hx
                have hhere : N2 28 ((i + 1 : Nat) : Int) = v := by
                  rcases hN2 with ⟨rfl, r⟩ | ⟨rfl, r⟩
                  · rw [hv.2.2.1 (i + 1) (by omega), r]
                  · rw [show ((i + 1 : Nat) : Int) = (i : Int) + 1 by omega, mup_self]
                refine ih N2 u ⟨fun a0 h1 => ?_, fun m h1 h2 => ?_, fun m h1 => ?_, ?_⟩
                · rcases hN2 with ⟨rfl, -⟩ | ⟨rfl, -⟩
                  · exact hv.1 a0 h1
                  · rw [mup_fn h1]; exact hv.1 a0 h1
                · by_cases hm : m = i + 1
                  · rw [hm, hhere, hvv]
                  · rw [hother m (by omega)]; exact hv.2.1 m h1 (by omega)
                · rw [hother m (by omega)]; exact hv.2.2.1 m (by omega)
                · rcases hN2 with ⟨rfl, -⟩ | ⟨rfl, r⟩
                  · exact hv.2.2.2
                  · exact zr_mup hv.2.2.2 (by rw [r]; unfold IMP; constructor <;> omega)
              first
              | exact absurd rfl c44
              | (have hb : rm < pcN (i + 1) ∨ (wl = 0 ∧ (i + 1) &&& ps = i + 1) := Or.inl c39
                 exact zEe (key IMP (zif_t hb).symm _ (Or.inr ⟨rfl, rfl⟩) _) rfl rfl)
              | (have hq := (bx_poor (i + 1) (by omega) ps (by omega)).mp c24
                 have hb : rm < pcN (i + 1) ∨ (wl = 0 ∧ (i + 1) &&& ps = i + 1) := Or.inr ⟨c13, hq⟩
                 exact zEe (key IMP (zif_t hb).symm _ (Or.inr ⟨rfl, rfl⟩) _) rfl rfl)
              | (have hb : ¬ (rm < pcN (i + 1) ∨ (wl = 0 ∧ (i + 1) &&& ps = i + 1)) := fun r => r.elim c39 (fun r => c13 r.1)
                 exact zEe (key (N 28 ((i + 1 : Nat) : Int)) (zif_f hb).symm N1 (Or.inl ⟨rfl, rfl⟩) _) rfl rfl)
              | (have hb : ¬ (rm < pcN (i + 1) ∨ (wl = 0 ∧ (i + 1) &&& ps = i + 1)) := fun r => r.elim c39 (fun r => c24 ((bx_poor (i + 1) (by omega) ps (by omega)).mpr r.2))
                 exact zEe (key (N 28 ((i + 1 : Nat) : Int)) (zif_f hb).symm N1 (Or.inl ⟨rfl, rfl⟩) _) rfl rfl)
              | exact absurd c44 (by omega)
  · skip
    refine e_iload_n q_X1_strikeOut_2 (by decide) rfl ?_
    refine e_iconst q_X1_strikeOut_3 ?_
    refine e_aload_n q_X1_strikeOut_4 (by decide) rfl ?_
    refine i_getI (k' := 2) q_X1_strikeOut_5 fl_X1_24 (a25 hB) rfl rfl rfl ((congrFun (hv.1 25 (by decide)) 2).trans hK) ?_
    refine e_ishl q_X1_strikeOut_8 (v := ((2 ^ K : Nat) : Int)) (bx_shl1 K (by omega)) ?_
    refine e_icmp_ge q_X1_strikeOut_9 (by constructor <;> omega) (by constructor <;> omega) (fun c9 => ?_) (fun c9 => ?_)
    · skip
      refine e_return q_X1_strikeOut_61 rfl ?_
      exact h N1 ⟨hv.1, fun m h1 h2 => hv.2.1 m h1 (by omega), hv.2.2.1 0 (Or.inl rfl), hv.2.2.2⟩
    · skip
      exact absurd (by omega) c9
set_option maxRecDepth 20000 in
set_option maxHeartbeats 2000000 in
theorem x_improve (hB : zB0 s) (hR : ∀ a x, zr (N a x)) {m q : Nat} (hm : m < 64) (hq : q < 64) (hmq : m ^^^ q < 64) (hrs0 : N 29 ((m ^^^ q : Nat) : Int) ≠ IMP → N 28 q ≠ IMP → zr (N 29 ((m ^^^ q : Nat) : Int) + N 28 q)) (h1 : N 29 ((m ^^^ q : Nat) : Int) ≠ IMP → N 28 q ≠ IMP → Q none (zI s (mup N 29 m (min (N 29 m) (N 29 ((m ^^^ q : Nat) : Int) + N 28 q))))) (h2 : (N 29 ((m ^^^ q : Nat) : Int) = IMP ∨ N 28 q = IMP) → Q none (zI s (mup N 29 m (N 29 m)))) : zC X m_X1_improve [.ref 25, vi (m : Int), vi (q : Int)] (zI s N) Q := by
  show zE X m_X1_improve 0 [.ref 25, vi (m : Int), vi (q : Int), zU] [] _ Q
  refine e_aload_n q_X1_improve_0 (by decide) rfl ?_
  refine i_getC (r := 29) q_X1_improve_1 fl_X1_21 (a25 hB) rfl (by decide) ?_
  refine e_iload_n q_X1_improve_4 (by decide) rfl ?_
  refine e_iload_n q_X1_improve_5 (by decide) rfl ?_
  refine e_ixor q_X1_improve_6 (v := ((m ^^^ q : Nat) : Int)) (bx_xor m q) ?_
  refine i_iald q_X1_improve_7 (a29 hB) (fun _ => rfl) (by have := hmq; omega) (by have := hmq; omega) (by decide) rfl ?_
  refine e_istore_n (ls' := [_, _, _, _]) q_X1_improve_8 (by decide) rfl rfl ?_
  refine e_iload_n q_X1_improve_9 (by decide) rfl ?_
  refine e_ldc q_X1_improve_10 co_X1_31 ?_
  refine e_icmp_eq q_X1_improve_12 (hR _ _) (by constructor <;> omega) (fun c12 => ?_) (fun c12 => ?_)
  · skip
    refine e_return q_X1_improve_49 rfl ?_
    first
    | exact zqS (h2 (Or.inl c12)) rfl (by rw [mup_id rfl])
    | exact zqS (h2 (Or.inr c23)) rfl (by rw [mup_id rfl])
    | exact h1 c12 c23
  · skip
    refine e_aload_n q_X1_improve_15 (by decide) rfl ?_
    refine i_getC (r := 28) q_X1_improve_16 fl_X1_18 (a25 hB) rfl (by decide) ?_
    refine e_iload_n q_X1_improve_19 (by decide) rfl ?_
    refine i_iald q_X1_improve_20 (a28 hB) (fun _ => rfl) (by first | omega | assumption) (by first | omega | assumption) (by decide) rfl ?_
    refine e_ldc q_X1_improve_21 co_X1_31 ?_
    refine e_icmp_eq q_X1_improve_23 (hR _ _) (by constructor <;> omega) (fun c23 => ?_) (fun c23 => ?_)
    · skip
      refine e_return q_X1_improve_49 rfl ?_
      first
      | exact zqS (h2 (Or.inl c12)) rfl (by rw [mup_id rfl])
      | exact zqS (h2 (Or.inr c23)) rfl (by rw [mup_id rfl])
      | exact h1 c12 c23
    · skip
      refine e_aload_n q_X1_improve_26 (by decide) rfl ?_
      refine i_getC (r := 29) q_X1_improve_27 fl_X1_21 (a25 hB) rfl (by decide) ?_
      refine e_iload_n q_X1_improve_30 (by decide) rfl ?_
      refine e_aload_n q_X1_improve_31 (by decide) rfl ?_
      refine i_getC (r := 29) q_X1_improve_32 fl_X1_21 (a25 hB) rfl (by decide) ?_
      refine e_iload_n q_X1_improve_35 (by decide) rfl ?_
      refine i_iald q_X1_improve_36 (a29 hB) (fun _ => rfl) (by first | omega | assumption) (by first | omega | assumption) (by decide) rfl ?_
      refine e_iload_n q_X1_improve_37 (by decide) rfl ?_
      refine e_aload_n q_X1_improve_38 (by decide) rfl ?_
      refine i_getC (r := 28) q_X1_improve_39 fl_X1_18 (a25 hB) rfl (by decide) ?_
      refine e_iload_n q_X1_improve_42 (by decide) rfl ?_
      refine i_iald q_X1_improve_43 (a28 hB) (fun _ => rfl) (by first | omega | assumption) (by first | omega | assumption) (by decide) rfl ?_
      refine e_iadd q_X1_improve_44 ?_
      refine e_min q_X1_improve_45 lk_X1_53 mm_min_s ini_J9 mm_min_c (by decide) (by decide) (Nat.le_of_ble_eq_true rfl) (hR _ _) (hrs0 c12 c23) ?_
      refine i_iast q_X1_improve_48 (a29 hB) (fun _ => rfl) (by first | omega | assumption) (by first | omega | assumption) (by decide) ?_
      refine e_return q_X1_improve_49 rfl ?_
      first
      | exact zqS (h2 (Or.inl c12)) rfl (by rw [mup_id rfl])
      | exact zqS (h2 (Or.inr c23)) rfl (by rw [mup_id rfl])
      | exact h1 c12 c23
set_option maxRecDepth 20000 in
set_option maxHeartbeats 2000000 in
theorem x_leastWay (hB : zB0 s) {K : Nat} (hK : N 25 2 = K) (hK6 : K ≤ 6) (h : Q (some (vi (N 29 ((2 ^ K - 1 : Nat) : Int)))) (zI s N)) : zC X m_X1_leastWay [.ref 25] (zI s N) Q := by
  have hp6 := pow6 (K := K) hK6
  show zE X m_X1_leastWay 0 [.ref 25] [] _ Q
  refine e_aload_n q_X1_leastWay_0 (by decide) rfl ?_
  refine i_getC (r := 29) q_X1_leastWay_1 fl_X1_21 (a25 hB) rfl (by decide) ?_
  refine e_iconst q_X1_leastWay_4 ?_
  refine e_aload_n q_X1_leastWay_5 (by decide) rfl ?_
  refine i_getI (k' := 2) q_X1_leastWay_6 fl_X1_24 (a25 hB) rfl rfl rfl hK ?_
  refine e_ishl q_X1_leastWay_9 (v := ((2 ^ K : Nat) : Int)) (bx_shl1 K (by omega)) ?_
  refine e_iconst q_X1_leastWay_10 ?_
  refine e_isub q_X1_leastWay_11 ?_
  refine i_iald q_X1_leastWay_12 (a29 hB) (fun _ => rfl) (by first | omega | assumption) (by first | omega | assumption) (by decide) rfl ?_
  refine e_ireturn q_X1_leastWay_13 rfl rfl ?_
  exact zqI h (by rw [show ((2 ^ K - 1 : Nat) : Int) = ((2 ^ K : Nat) : Int) - 1 by omega])
set_option maxRecDepth 20000 in
set_option maxHeartbeats 2000000 in
theorem x_isPossible (hB : zB0 s) {K : Nat} (hK : N 25 2 = K) (hK6 : K ≤ 6) (hr : zr (N 29 ((2 ^ K - 1 : Nat) : Int))) (h : Q (some (vi (bi (N 29 ((2 ^ K - 1 : Nat) : Int) ≠ IMP)))) (zI s N)) : zC X m_X1_isPossible [.ref 25] (zI s N) Q := by
  show zE X m_X1_isPossible 0 [.ref 25] [] _ Q
  refine e_aload_n q_X1_isPossible_0 (by decide) rfl ?_
  refine iv_X1_leastWay q_X1_isPossible_1 lk_X1_59 (by decide) (a25 hB) (Nat.le_of_ble_eq_true rfl) ?_
  refine x_leastWay hB hK hK6 ?_
  refine e_ldc q_X1_isPossible_4 co_X1_31 ?_
  refine e_icmp_eq q_X1_isPossible_6 hr (by constructor <;> omega) (fun c6 => ?_) (fun c6 => ?_)
  · skip
    refine e_iconst q_X1_isPossible_13 ?_
    refine e_ireturn q_X1_isPossible_14 rfl rfl ?_
    first | exact zqT h c6 | exact zqF h (fun r => r c6)
  · skip
    refine e_iconst q_X1_isPossible_9 ?_
    refine e_goto q_X1_isPossible_10 ?_
    refine e_ireturn q_X1_isPossible_14 rfl rfl ?_
    first | exact zqT h c6 | exact zqF h (fun r => r c6)
theorem bx_shr {w : Int} (h : 0 ≤ w ∧ w < 2147483648) (k : Nat) (hk : k < 19) : Int32.ofInt w >>> (Int32.ofInt (k : Int) &&& 31) = Int32.ofInt (w / 2 ^ k) := by
  have hs : ∀ k : Nat, k < 19 → ((Int32.ofInt (k : Int) &&& 31).toBitVec.smod 32).toNat = k := by decide +kernel
  obtain ⟨n, rfl⟩ := Int.eq_ofNat_of_zero_le h.1
  have e := pk_shrN (n := n) (by omega) (Int32.ofInt (k : Int) &&& 31) k (hs k hk)
  rw [← oN, ← oN] at e
  rw [e]
  congr 1
theorem bx_and7 {w : Int} (h : 0 ≤ w) : Int32.ofInt w &&& Int32.ofInt 7 = Int32.ofInt (w % 8) := by
  obtain ⟨n, rfl⟩ := Int.eq_ofNat_of_zero_le h
  have e := bx_and n 7
  have e2 : n &&& 7 = n % 8 := Nat.and_two_pow_sub_one_eq_mod n 3
  rw [e2] at e
  exact e
set_option maxRecDepth 20000 in
set_option maxHeartbeats 2000000 in
theorem x_leastAsked (hB : zB0 s) {K : Nat} (hK : N 25 2 = K) (hK6 : K ≤ 6) {w : Int} (hw : N 29 ((2 ^ K - 1 : Nat) : Int) = w) (hw0 : 0 ≤ w ∧ w < 2147483648) (h : Q (some (vi (w / 262144))) (zI s N)) : zC X m_X1_leastAsked [.ref 25] (zI s N) Q := by
  show zE X m_X1_leastAsked 0 [.ref 25] [] _ Q
  refine e_aload_n q_X1_leastAsked_0 (by decide) rfl ?_
  refine iv_X1_leastWay q_X1_leastAsked_1 lk_X1_59 (by decide) (a25 hB) (Nat.le_of_ble_eq_true rfl) ?_
  refine x_leastWay hB hK hK6 ?_
  refine e_bipush q_X1_leastAsked_4 (by decide) ?_
  refine e_ishr q_X1_leastAsked_6 (v := (w / 262144)) (by rw [hw]; exact bx_shr hw0 18 (by omega)) ?_
  refine e_ireturn q_X1_leastAsked_7 rfl rfl ?_
  exact h
theorem gf_sh {w : Int} (h : 0 ≤ w ∧ w < 2147483648) {k : Nat} (hk : k < 6) : Int32.ofInt w >>> (Int32.ofInt (3 * (5 - (k : Int))) &&& 31) = Int32.ofInt (w / pw8 k) := by
  rcases (show k = 0 ∨ k = 1 ∨ k = 2 ∨ k = 3 ∨ k = 4 ∨ k = 5 by omega) with rfl | rfl | rfl | rfl | rfl | rfl
  · exact bx_shr h 15 (by omega)
  · exact bx_shr h 12 (by omega)
  · exact bx_shr h 9 (by omega)
  · exact bx_shr h 6 (by omega)
  · exact bx_shr h 3 (by omega)
  · exact bx_shr h 0 (by omega)
set_option maxRecDepth 20000 in
set_option maxHeartbeats 2000000 in
theorem x_groupFor (hB : zB0 s) {K : Nat} (hK : N 25 2 = K) (hK6 : K ≤ 6) {w : Int} (hw : N 29 ((2 ^ K - 1 : Nat) : Int) = w) (hw0 : 0 ≤ w ∧ w < 2147483648) {k : Nat} (hk : k < 6) (h : Q (some (vi (w / pw8 k % 8))) (zI s N)) : zC X m_X1_groupFor [.ref 25, vi (k : Int)] (zI s N) Q := by
  show zE X m_X1_groupFor 0 [.ref 25, vi (k : Int)] [] _ Q
  refine e_aload_n q_X1_groupFor_0 (by decide) rfl ?_
  refine iv_X1_leastWay q_X1_groupFor_1 lk_X1_59 (by decide) (a25 hB) (Nat.le_of_ble_eq_true rfl) ?_
  refine x_leastWay hB hK hK6 ?_
  refine e_iload_n q_X1_groupFor_4 (by decide) rfl ?_
  refine iv_X1_shiftOf q_X1_groupFor_5 lk_X1_44 (by decide) (Nat.le_of_ble_eq_true rfl) ?_
  refine x_shiftOf ?_
  refine e_ishr q_X1_groupFor_8 (v := (w / pw8 k)) (by rw [hw]; exact gf_sh hw0 hk) ?_
  refine e_bipush q_X1_groupFor_9 (by decide) ?_
  refine e_iand q_X1_groupFor_11 (v := (w / pw8 k % 8)) (bx_and7 (Int.ediv_nonneg hw0.1 (by have := pw8_b k; omega))) ?_
  refine e_ireturn q_X1_groupFor_12 rfl rfl ?_
  exact h
end FI3
