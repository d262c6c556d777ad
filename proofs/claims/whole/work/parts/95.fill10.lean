/-! making whole, 10 (printed by wip/whole/gen/f10.py) -/
section FI10
variable {X : zX} {s : zK} {N : zN} {σ : zS} {fa sa : Int → Int} {Q K : Option Value → zS → Prop} {c : Int}
theorem bx_b0 (p : Prop) : Int32.ofInt (bi p) ||| Int32.ofInt 0 = Int32.ofInt (bi p) := by
  by_cases h : p
  · rw [bi_t h]; decide
  · rw [bi_f h]; decide
theorem bx_b1 (p : Prop) : Int32.ofInt (bi p) ||| Int32.ofInt 1 = Int32.ofInt 1 := by
  by_cases h : p
  · rw [bi_t h]; decide
  · rw [bi_f h]; decide
theorem cnt_0 {p : Nat → Prop} {K : Nat} (h : cnt p K ≤ 0) : ∀ k, k < K → ¬ p k := fun k hk hp => by
  have h1 := cnt_in (p := p) hk hp
  have h2 := cnt_b p k
  omega
theorem cnt_1 {p : Nat → Prop} {K : Nat} (h : 0 < cnt p K) : ∃ k, k < K ∧ p k := by
  obtain ⟨w, h1, h2, -⟩ := cnt_lt (p := p) (k := 0) K h
  exact ⟨w, h1, h2⟩
set_option maxRecDepth 20000 in
set_option maxHeartbeats 2000000 in
theorem k_isGood (hB : zB0 s) (hR : ∀ c0 x, zr (N c0 x)) {rm : Int → Int} {ri : Int → Prop} {po : Nat → Prop} {K : Nat} (hK : N 39 41 = K) (hK6 : K ≤ 6) (hG : 0 ≤ N 39 29 ∧ N 39 29 ≤ 8) (hri : ∀ g : Int, 0 ≤ g → g < N 39 29 → N 72 g = bi (ri g)) (hhad : ∀ g : Int, 0 ≤ g → g < N 39 29 → 0 ≤ N 71 g ∧ N 71 g ≤ 48) (hrm : ∀ g : Int, 0 ≤ g → g < N 39 29 → rm g = 10 - N 71 g) (hwh : ∀ k : Nat, k < K → 0 ≤ N 67 k ∧ N 67 k < 48) (hpo : ∀ k : Nat, k < K → (po k ↔ N 45 (N 67 k) ≠ 0)) (hfr : ∀ k : Nat, k < K → 0 ≤ N 68 k ∧ N 68 k < N 39 29) (h : Q (some (vi (bi (goodOn rm ri po K (N 39 29) (tb (2 ^ K - 1)) (fun k : Nat => N 68 k))))) (zI s N)) : zC X m_X12_isGood [.ref 39] (zI s N) Q := by
  show zE X m_X12_isGood 0 [.ref 39, zU, zU, zU, zU] [] _ Q
  refine e_iconst q_X12_isGood_0 ?_
  refine e_istore_n (ls' := [_, _, _, _, _]) q_X12_isGood_1 (by decide) rfl rfl ?_
  refine zEe (ls := [.ref 39, vi ((0 : Nat) : Int), zU, zU, zU]) (σ := zI s N) ?_ rfl rfl
  refine z_for (P := fun i => ∀ (u2 : Value) (u3 : Value) (u4 : Value), (∀ h : Nat, h < i → (∃ k, k < K ∧ N 68 k = (h : Int)) → okP rm ri po K (fun k : Nat => N 68 k = (h : Int)) h) → zE X m_X12_isGood 2 [.ref 39, vi (i : Int), u2, u3, u4] [] (zI s N) Q) (N 39 29).toNat (fun i hi ih u2 u3 u4 hv => ?_) (fun u2 u3 u4 hv => ?_) zU zU zU (fun _ h0 => by omega)
  · skip
    refine e_iload_n q_X12_isGood_2 (by decide) rfl ?_
    refine e_aload_n q_X12_isGood_3 (by decide) rfl ?_
    refine i_getI (k' := 29) q_X12_isGood_4 fl_X12_248 (a39 hB) rfl rfl rfl rfl ?_
    refine e_icmp_ge q_X12_isGood_7 (by constructor <;> omega) (by constructor <;> omega) (fun c7 => ?_) (fun c7 => ?_)
    · skip
      exact absurd c7 (by omega)
    · skip
      refine e_iconst q_X12_isGood_10 ?_
      refine e_istore_n (ls' := [_, _, _, _, _]) q_X12_isGood_11 (by decide) rfl rfl ?_
      refine e_aload_n q_X12_isGood_12 (by decide) rfl ?_
      refine i_getC (r := 72) q_X12_isGood_13 fl_X12_112 (a39 hB) rfl (by decide) ?_
      refine e_iload_n q_X12_isGood_16 (by decide) rfl ?_
      refine i_zald q_X12_isGood_17 (a72 hB) (cref0 (by decide)) (by first | omega | assumption) (by first | omega | assumption) (by decide) (hri i (by omega) (by omega)) ?_
      refine e_istore_n (ls' := [_, _, _, _, _]) q_X12_isGood_18 (by decide) rfl rfl ?_
      refine e_iconst q_X12_isGood_19 ?_
      refine e_istore (ls' := [_, _, _, _, _]) q_X12_isGood_20 (by decide) rfl rfl ?_
      refine zEe (ls := [.ref 39, vi (i : Int), vi (cnt (fun k : Nat => N 68 k = (i : Int)) 0), vi (bi (ri (i : Int) ∨ ∃ k : Nat, k < 0 ∧ N 68 k = (i : Int) ∧ ¬ po k)), vi ((0 : Nat) : Int)]) (σ := zI s N) ?_ (by rw [show bi (ri (i : Int) ∨ ∃ k : Nat, k < 0 ∧ N 68 k = (i : Int) ∧ ¬ po k) = bi (ri (i : Int)) from bi_c ⟨fun r => r.elim id (fun ⟨k, k1, _⟩ => absurd k1 (by omega)), Or.inl⟩]; rfl) rfl
      refine z_for (P := fun j => ∀ (hh : True), (True) → zE X m_X12_isGood 22 [.ref 39, vi (i : Int), vi (cnt (fun k : Nat => N 68 k = (i : Int)) j), vi (bi (ri (i : Int) ∨ ∃ k : Nat, k < j ∧ N 68 k = (i : Int) ∧ ¬ po k)), vi (j : Int)] [] (zI s N) Q) K (fun j hij ihj hh hvj => ?_) (fun hh hvj => ?_) trivial trivial
      · skip
        refine e_iload q_X12_isGood_22 (by decide) rfl ?_
        refine e_aload_n q_X12_isGood_24 (by decide) rfl ?_
        refine i_getI (k' := 41) q_X12_isGood_25 fl_X12_292 (a39 hB) rfl rfl rfl hK ?_
        refine e_icmp_ge q_X12_isGood_28 (by constructor <;> omega) (by constructor <;> omega) (fun c28 => ?_) (fun c28 => ?_)
        · skip
          exact absurd c28 (by omega)
        · skip
          refine e_aload_n q_X12_isGood_31 (by decide) rfl ?_
          refine i_getC (r := 68) q_X12_isGood_32 fl_X12_100 (a39 hB) rfl (by decide) ?_
          refine e_iload q_X12_isGood_35 (by decide) rfl ?_
          refine i_iald q_X12_isGood_37 (a68 hB) (cref0 (by decide)) (by first | omega | assumption) (by first | omega | assumption) (by decide) rfl ?_
          refine e_iload_n q_X12_isGood_38 (by decide) rfl ?_
          refine e_icmp_ne q_X12_isGood_39 (by first | exact hR _ _ | (constructor <;> omega)) (by first | exact hR _ _ | (constructor <;> omega)) (fun c39 => ?_) (fun c39 => ?_)
          · skip
            refine e_iinc (ls' := [_, _, _, _, _]) q_X12_isGood_68 (by decide) rfl rfl rfl ?_
            refine e_goto q_X12_isGood_71 ?_
            first
            | (have q1 : cnt (fun k : Nat => N 68 k = (i : Int)) (j + 1) = cnt (fun k : Nat => N 68 k = (i : Int)) j := cnt_f' (p := fun k : Nat => N 68 k = (i : Int)) c39
               have q2 : bi (ri (i : Int) ∨ ∃ k : Nat, k < (j + 1) ∧ N 68 k = (i : Int) ∧ ¬ po k) = bi (ri (i : Int) ∨ ∃ k : Nat, k < j ∧ N 68 k = (i : Int) ∧ ¬ po k) := bi_c ⟨fun r => r.elim Or.inl (fun ⟨k, k1, k2, k3⟩ => Or.inr ⟨k, by
                 by_cases hk : k = j
                 · rw [hk] at k2; exact absurd k2 c39
                 · omega, k2, k3⟩), fun r => r.elim Or.inl (fun ⟨k, k1, k2, k3⟩ => Or.inr ⟨k, by omega, k2, k3⟩)⟩
               exact zEe (ihj trivial trivial) (by rw [q1, q2]; rfl) rfl)
            | (have q1 : cnt (fun k : Nat => N 68 k = (i : Int)) (j + 1) = cnt (fun k : Nat => N 68 k = (i : Int)) j + 1 := cnt_t (p := fun k : Nat => N 68 k = (i : Int)) c39
               have hpj := (hpo j hij).mpr c58
               have q2 : bi (ri (i : Int) ∨ ∃ k : Nat, k < (j + 1) ∧ N 68 k = (i : Int) ∧ ¬ po k) = bi (ri (i : Int) ∨ ∃ k : Nat, k < j ∧ N 68 k = (i : Int) ∧ ¬ po k) := bi_c ⟨fun r => r.elim Or.inl (fun ⟨k, k1, k2, k3⟩ => Or.inr ⟨k, by
                 by_cases hk : k = j
                 · rw [hk] at k3; exact absurd hpj k3
                 · omega, k2, k3⟩), fun r => r.elim Or.inl (fun ⟨k, k1, k2, k3⟩ => Or.inr ⟨k, by omega, k2, k3⟩)⟩
               exact zEe (ihj trivial trivial) (by rw [q1, q2]; rfl) rfl)
            | (have q1 : cnt (fun k : Nat => N 68 k = (i : Int)) (j + 1) = cnt (fun k : Nat => N 68 k = (i : Int)) j + 1 := cnt_t (p := fun k : Nat => N 68 k = (i : Int)) c39
               have hpj : ¬ po j := fun r => (hpo j hij).mp r c58
               have q2 : bi (ri (i : Int) ∨ ∃ k : Nat, k < (j + 1) ∧ N 68 k = (i : Int) ∧ ¬ po k) = 1 := bi_t (Or.inr ⟨j, by omega, c39, hpj⟩)
               exact zEe (ihj trivial trivial) (by rw [q1, q2]; rfl) rfl)
          · skip
            refine e_iinc (ls' := [_, _, _, _, _]) q_X12_isGood_42 (by decide) rfl rfl rfl ?_
            refine e_iload_n q_X12_isGood_45 (by decide) rfl ?_
            refine e_aload_n q_X12_isGood_46 (by decide) rfl ?_
            refine i_getC (r := 45) q_X12_isGood_47 fl_X12_25 (a39 hB) rfl (by decide) ?_
            refine e_aload_n q_X12_isGood_50 (by decide) rfl ?_
            refine i_getC (r := 67) q_X12_isGood_51 fl_X12_97 (a39 hB) rfl (by decide) ?_
            refine e_iload q_X12_isGood_54 (by decide) rfl ?_
            refine i_iald q_X12_isGood_56 (a67 hB) (cref0 (by decide)) (by first | omega | assumption) (by first | omega | assumption) (by decide) rfl ?_
            refine i_zald q_X12_isGood_57 (a45 hB) (cref0 (by decide)) (by have := hwh j (by omega); omega) (by have := hwh j (by omega); omega) (by decide) rfl ?_
            refine e_if_ne q_X12_isGood_58 (hR _ _) (fun c58 => ?_) (fun c58 => ?_)
            · skip
              refine e_iconst q_X12_isGood_65 ?_
              refine e_ior q_X12_isGood_66 (v := bi (ri (i : Int) ∨ ∃ k : Nat, k < j ∧ N 68 k = (i : Int) ∧ ¬ po k)) (bx_b0 _) ?_
              refine e_istore_n (ls' := [_, _, _, _, _]) q_X12_isGood_67 (by decide) rfl rfl ?_
              refine e_iinc (ls' := [_, _, _, _, _]) q_X12_isGood_68 (by decide) rfl rfl rfl ?_
              refine e_goto q_X12_isGood_71 ?_
              first
              | (have q1 : cnt (fun k : Nat => N 68 k = (i : Int)) (j + 1) = cnt (fun k : Nat => N 68 k = (i : Int)) j := cnt_f' (p := fun k : Nat => N 68 k = (i : Int)) c39
                 have q2 : bi (ri (i : Int) ∨ ∃ k : Nat, k < (j + 1) ∧ N 68 k = (i : Int) ∧ ¬ po k) = bi (ri (i : Int) ∨ ∃ k : Nat, k < j ∧ N 68 k = (i : Int) ∧ ¬ po k) := bi_c ⟨fun r => r.elim Or.inl (fun ⟨k, k1, k2, k3⟩ => Or.inr ⟨k, by
                   by_cases hk : k = j
                   · rw [hk] at k2; exact absurd k2 c39
                   · omega, k2, k3⟩), fun r => r.elim Or.inl (fun ⟨k, k1, k2, k3⟩ => Or.inr ⟨k, by omega, k2, k3⟩)⟩
                 exact zEe (ihj trivial trivial) (by rw [q1, q2]; rfl) rfl)
              | (have q1 : cnt (fun k : Nat => N 68 k = (i : Int)) (j + 1) = cnt (fun k : Nat => N 68 k = (i : Int)) j + 1 := cnt_t (p := fun k : Nat => N 68 k = (i : Int)) c39
                 have hpj := (hpo j hij).mpr c58
                 have q2 : bi (ri (i : Int) ∨ ∃ k : Nat, k < (j + 1) ∧ N 68 k = (i : Int) ∧ ¬ po k) = bi (ri (i : Int) ∨ ∃ k : Nat, k < j ∧ N 68 k = (i : Int) ∧ ¬ po k) := bi_c ⟨fun r => r.elim Or.inl (fun ⟨k, k1, k2, k3⟩ => Or.inr ⟨k, by
                   by_cases hk : k = j
                   · rw [hk] at k3; exact absurd hpj k3
                   · omega, k2, k3⟩), fun r => r.elim Or.inl (fun ⟨k, k1, k2, k3⟩ => Or.inr ⟨k, by omega, k2, k3⟩)⟩
                 exact zEe (ihj trivial trivial) (by rw [q1, q2]; rfl) rfl)
              | (have q1 : cnt (fun k : Nat => N 68 k = (i : Int)) (j + 1) = cnt (fun k : Nat => N 68 k = (i : Int)) j + 1 := cnt_t (p := fun k : Nat => N 68 k = (i : Int)) c39
                 have hpj : ¬ po j := fun r => (hpo j hij).mp r c58
                 have q2 : bi (ri (i : Int) ∨ ∃ k : Nat, k < (j + 1) ∧ N 68 k = (i : Int) ∧ ¬ po k) = 1 := bi_t (Or.inr ⟨j, by omega, c39, hpj⟩)
                 exact zEe (ihj trivial trivial) (by rw [q1, q2]; rfl) rfl)
            · skip
              refine e_iconst q_X12_isGood_61 ?_
              refine e_goto q_X12_isGood_62 ?_
              refine e_ior q_X12_isGood_66 (v := 1) (bx_b1 _) ?_
              refine e_istore_n (ls' := [_, _, _, _, _]) q_X12_isGood_67 (by decide) rfl rfl ?_
              refine e_iinc (ls' := [_, _, _, _, _]) q_X12_isGood_68 (by decide) rfl rfl rfl ?_
              refine e_goto q_X12_isGood_71 ?_
              first
              | (have q1 : cnt (fun k : Nat => N 68 k = (i : Int)) (j + 1) = cnt (fun k : Nat => N 68 k = (i : Int)) j := cnt_f' (p := fun k : Nat => N 68 k = (i : Int)) c39
                 have q2 : bi (ri (i : Int) ∨ ∃ k : Nat, k < (j + 1) ∧ N 68 k = (i : Int) ∧ ¬ po k) = bi (ri (i : Int) ∨ ∃ k : Nat, k < j ∧ N 68 k = (i : Int) ∧ ¬ po k) := bi_c ⟨fun r => r.elim Or.inl (fun ⟨k, k1, k2, k3⟩ => Or.inr ⟨k, by
                   by_cases hk : k = j
                   · rw [hk] at k2; exact absurd k2 c39
                   · omega, k2, k3⟩), fun r => r.elim Or.inl (fun ⟨k, k1, k2, k3⟩ => Or.inr ⟨k, by omega, k2, k3⟩)⟩
                 exact zEe (ihj trivial trivial) (by rw [q1, q2]; rfl) rfl)
              | (have q1 : cnt (fun k : Nat => N 68 k = (i : Int)) (j + 1) = cnt (fun k : Nat => N 68 k = (i : Int)) j + 1 := cnt_t (p := fun k : Nat => N 68 k = (i : Int)) c39
                 have hpj := (hpo j hij).mpr c58
                 have q2 : bi (ri (i : Int) ∨ ∃ k : Nat, k < (j + 1) ∧ N 68 k = (i : Int) ∧ ¬ po k) = bi (ri (i : Int) ∨ ∃ k : Nat, k < j ∧ N 68 k = (i : Int) ∧ ¬ po k) := bi_c ⟨fun r => r.elim Or.inl (fun ⟨k, k1, k2, k3⟩ => Or.inr ⟨k, by
                   by_cases hk : k = j
                   · rw [hk] at k3; exact absurd hpj k3
                   · omega, k2, k3⟩), fun r => r.elim Or.inl (fun ⟨k, k1, k2, k3⟩ => Or.inr ⟨k, by omega, k2, k3⟩)⟩
                 exact zEe (ihj trivial trivial) (by rw [q1, q2]; rfl) rfl)
              | (have q1 : cnt (fun k : Nat => N 68 k = (i : Int)) (j + 1) = cnt (fun k : Nat => N 68 k = (i : Int)) j + 1 := cnt_t (p := fun k : Nat => N 68 k = (i : Int)) c39
                 have hpj : ¬ po j := fun r => (hpo j hij).mp r c58
                 have q2 : bi (ri (i : Int) ∨ ∃ k : Nat, k < (j + 1) ∧ N 68 k = (i : Int) ∧ ¬ po k) = 1 := bi_t (Or.inr ⟨j, by omega, c39, hpj⟩)
                 exact zEe (ihj trivial trivial) (by rw [q1, q2]; rfl) rfl)
      · skip
        refine e_iload q_X12_isGood_22 (by decide) rfl ?_
        refine e_aload_n q_X12_isGood_24 (by decide) rfl ?_
        refine i_getI (k' := 41) q_X12_isGood_25 fl_X12_292 (a39 hB) rfl rfl rfl hK ?_
        refine e_icmp_ge q_X12_isGood_28 (by constructor <;> omega) (by constructor <;> omega) (fun c28 => ?_) (fun c28 => ?_)
        · skip
          have hcb := cnt_b (fun k : Nat => N 68 k = (i : Int)) K
          refine e_iload_n q_X12_isGood_74 (by decide) rfl ?_
          refine e_if_le q_X12_isGood_75 (by constructor <;> omega) (fun c75 => ?_) (fun c75 => ?_)
          · skip
            refine e_iinc (ls' := [_, _, _, _, _]) q_X12_isGood_97 (by decide) rfl rfl rfl ?_
            refine e_goto q_X12_isGood_100 ?_
            exact ih _ _ _ (fun h0 h1 hx => by
              by_cases he : h0 = i
              · subst he
                first
                | exact absurd hx (fun ⟨k, k1, k2⟩ => cnt_0 c75 k k1 k2)
                | (refine ⟨by rw [hrm _ (by omega) (by omega)]; omega, ?_⟩
                   have hr1 : (ri (h0 : Int) ∨ ∃ k : Nat, k < K ∧ N 68 k = (h0 : Int) ∧ ¬ po k) := Classical.byContradiction fun r => c79 (bi_z.mpr r)
                   exact hr1.elim Or.inl (fun ⟨k, k1, k2, k3⟩ => Or.inr ⟨k, k1, k2, k3⟩))
              · exact hv h0 (by omega) hx)
          · skip
            refine e_iload_n q_X12_isGood_78 (by decide) rfl ?_
            refine e_if_eq q_X12_isGood_79 (by have := bi_r (ri (i : Int) ∨ ∃ k : Nat, k < K ∧ N 68 k = (i : Int) ∧ ¬ po k); constructor <;> omega) (fun c79 => ?_) (fun c79 => ?_)
            · skip
              refine e_iconst q_X12_isGood_95 ?_
              refine e_ireturn q_X12_isGood_96 rfl rfl ?_
              refine zqF h (fun q => ?_)
              have hx : ∃ k, k < K ∧ N 68 k = (i : Int) := cnt_1 (p := fun k : Nat => N 68 k = (i : Int)) (by omega)
              have hok := q.2 (i : Int) (by omega) (by omega) (by obtain ⟨k, k1, k2⟩ := hx; exact ⟨k, k1, tb_all.mpr k1, k2⟩)
              have hok := okP_c (S' := fun k : Nat => N 68 k = (i : Int)) (fun k hk => ⟨fun r => r.2, fun r => ⟨tb_all.mpr hk, r⟩⟩) hok
              first
              | (have c79' := bi_z.mp c79
                 exact c79' (hok.2.elim Or.inl (fun ⟨k, k1, k2, k3⟩ => Or.inr ⟨k, k1, k2, k3⟩)))
              | (have h5 := hok.1
                 rw [hrm _ (by omega) (by omega)] at h5
                 omega)
            · skip
              have hhd := hhad (i : Int) (by omega) (by omega)
              refine e_aload_n q_X12_isGood_82 (by decide) rfl ?_
              refine i_getC (r := 71) q_X12_isGood_83 fl_X12_109 (a39 hB) rfl (by decide) ?_
              refine e_iload_n q_X12_isGood_86 (by decide) rfl ?_
              refine i_iald q_X12_isGood_87 (a71 hB) (cref0 (by decide)) (by first | omega | assumption) (by first | omega | assumption) (by decide) rfl ?_
              refine e_iload_n q_X12_isGood_88 (by decide) rfl ?_
              refine e_iadd q_X12_isGood_89 ?_
              refine e_bipush q_X12_isGood_90 (by decide) ?_
              refine e_icmp_le q_X12_isGood_92 (by constructor <;> omega) (by constructor <;> omega) (fun c92 => ?_) (fun c92 => ?_)
              · skip
                refine e_iinc (ls' := [_, _, _, _, _]) q_X12_isGood_97 (by decide) rfl rfl rfl ?_
                refine e_goto q_X12_isGood_100 ?_
                exact ih _ _ _ (fun h0 h1 hx => by
                  by_cases he : h0 = i
                  · subst he
                    first
                    | exact absurd hx (fun ⟨k, k1, k2⟩ => cnt_0 c75 k k1 k2)
                    | (refine ⟨by rw [hrm _ (by omega) (by omega)]; omega, ?_⟩
                       have hr1 : (ri (h0 : Int) ∨ ∃ k : Nat, k < K ∧ N 68 k = (h0 : Int) ∧ ¬ po k) := Classical.byContradiction fun r => c79 (bi_z.mpr r)
                       exact hr1.elim Or.inl (fun ⟨k, k1, k2, k3⟩ => Or.inr ⟨k, k1, k2, k3⟩))
                  · exact hv h0 (by omega) hx)
              · skip
                refine e_iconst q_X12_isGood_95 ?_
                refine e_ireturn q_X12_isGood_96 rfl rfl ?_
                refine zqF h (fun q => ?_)
                have hx : ∃ k, k < K ∧ N 68 k = (i : Int) := cnt_1 (p := fun k : Nat => N 68 k = (i : Int)) (by omega)
                have hok := q.2 (i : Int) (by omega) (by omega) (by obtain ⟨k, k1, k2⟩ := hx; exact ⟨k, k1, tb_all.mpr k1, k2⟩)
                have hok := okP_c (S' := fun k : Nat => N 68 k = (i : Int)) (fun k hk => ⟨fun r => r.2, fun r => ⟨tb_all.mpr hk, r⟩⟩) hok
                first
                | (have c79' := bi_z.mp c79
                   exact c79' (hok.2.elim Or.inl (fun ⟨k, k1, k2, k3⟩ => Or.inr ⟨k, k1, k2, k3⟩)))
                | (have h5 := hok.1
                   rw [hrm _ (by omega) (by omega)] at h5
                   omega)
        · skip
          exact absurd (by omega) c28
  · skip
    refine e_iload_n q_X12_isGood_2 (by decide) rfl ?_
    refine e_aload_n q_X12_isGood_3 (by decide) rfl ?_
    refine i_getI (k' := 29) q_X12_isGood_4 fl_X12_248 (a39 hB) rfl rfl rfl rfl ?_
    refine e_icmp_ge q_X12_isGood_7 (by constructor <;> omega) (by constructor <;> omega) (fun c7 => ?_) (fun c7 => ?_)
    · skip
      refine e_iconst q_X12_isGood_103 ?_
      refine e_ireturn q_X12_isGood_104 rfl rfl ?_
      refine zqT h ⟨fun k hk _ => hfr k hk, fun x h0 h1 hx => ?_⟩
      have hok := hv x.toNat (by omega)
      rw [Int.toNat_of_nonneg h0] at hok
      exact okP_c (fun k hk => ⟨fun r => ⟨tb_all.mpr hk, r⟩, fun r => r.2⟩) (hok (by obtain ⟨k, k1, k2, k3⟩ := hx; exact ⟨k, k1, k3⟩))
    · skip
      exact absurd (by omega) c7
end FI10
