/-! making whole, 16 (printed by wip/whole/gen/f16.py) -/
section FI16
variable {X : zX} {s : zK} {N : zN} {σ : zS} {fa sa : Int → Int} {Q K : Option Value → zS → Prop} {c : Int}
theorem stS_e {d : Int} {A A' : Nat → Nat} {f f' : Nat → Int} {p : zK × zN} : ∀ n : Nat, (∀ k, k < n → A k = A' k ∧ f k = f' k) → stS d A f p n = stS d A' f' p n
  | 0, _ => rfl
  | n + 1, h => by
    have ih := stS_e (d := d) (p := p) n (fun k hk => h k (by omega))
    have hk := h n (by omega)
    show (z_ns (stS d A f p n).1 (8, 0) 4, xn_begin (mup (stS d A f p n).2 (A n) 7 (f n)) (A n) (stS d A f p n).1.1.1 (f n) d) = (z_ns (stS d A' f' p n).1 (8, 0) 4, xn_begin (mup (stS d A' f' p n).2 (A' n) 7 (f' n)) (A' n) (stS d A' f' p n).1.1.1 (f' n) d)
    rw [ih, hk.1, hk.2]
theorem stM_e {d : Int} {w w' f f' : Nat → Int} {M : zN} : ∀ n : Nat, (∀ k, k < n → w k = w' k ∧ f k = f' k) → stM d w f M n = stM d w' f' M n
  | 0, _ => rfl
  | n + 1, h => by
    have ih := stM_e (d := d) (M := M) n (fun k hk => h k (by omega))
    have hk := h n (by omega)
    show mup (n_begin (stM d w f M n) (w n) (f n) d) 73 (w n) (f n) = mup (n_begin (stM d w' f' M n) (w' n) (f' n) d) 73 (w' n) (f' n)
    rw [ih, hk.1, hk.2]
theorem stS_2 {d : Int} {A : Nat → Nat} {f : Nat → Int} {p : zK × zN} : ∀ k : Nat, (stS d A f p k).1.1.2 = p.1.1.2 + 4 * k
  | 0 => rfl
  | k + 1 => by
    show (stS d A f p k).1.1.2 + 4 = _
    rw [stS_2 k]; omega
theorem stS_19 {d : Int} {A : Nat → Nat} {f : Nat → Int} {p : zK × zN} {K : Nat} (hA : ∀ k, k < K → 88 ≤ A k ∧ A k < p.1.1.1) (h88 : 88 ≤ p.1.1.1) : ∀ k : Nat, k ≤ K → (stS d A f p k).2 3 19 = p.2 3 19 + k
  | 0, _ => by show p.2 3 19 = _; omega
  | k + 1, hk => by
    have h1 := hA k (by omega)
    have h2 := stS_1 (d := d) (A := A) (f := f) (p := p) k
    have ih := stS_19 (d := d) (A := A) (f := f) hA h88 k (by omega)
    show xn_begin _ _ _ _ _ 3 19 = _
    unfold xn_begin
    rw [mup_cell (by omega), mup_cell (by omega), mup_cell (by omega), mup_cell (by omega), mup_cell (by omega), mup_self, mup_cell (by omega), ih]
    omega
theorem boundS_mix {P M : zN} {w d : Int} : boundS (mix P M) w d = boundS M w d := boundS_k (fun b hb => by
  simp only [List.mem_cons, List.not_mem_nil, or_false] at hb
  exact mix_i (by omega) (by omega)) (fun x _ => by rw [mix_i (by decide) (by decide)]) w d
/-- all come: both -/
theorem jx_all {P M : zN} (hI : xI s (mix P M) fa sa) (hy : yI (mix P M)) {d : Int} (hd : 0 ≤ d ∧ d ≤ 9999) {K : Nat} (hK6 : K ≤ 6) {A : Nat → Nat} {w f : Nat → Int} (hw : ∀ k, k < K → 0 ≤ w k ∧ w k < mix P M 39 2) (hf : ∀ k, k < K → 0 ≤ f k ∧ f k < mix P M 39 29) (hA : ∀ k, k < K → A k = (P 5 (w k)).toNat) (hne : ∀ k l, k < K → l < K → w k = w l → k = l) (hnb : ∀ k, k < K → ¬ boundS (mix P M) (w k) d) (h49 : M 39 49 = 1) (h31 : M 39 31 + 6 ≤ 4000) (h19 : 0 ≤ P 3 19 ∧ P 3 19 + 6 ≤ 600) (ha0 : (s.1.1 : Int) + 6 ≤ 2147483647) : ∀ k : Nat, k ≤ K → ∃ sa', xI (stS d A f (s, P) k).1 (mix (stS d A f (s, P) k).2 (stM d w f M k)) fa sa' ∧ yI (mix (stS d A f (s, P) k).2 (stM d w f M k)) ∧ bud (mix (stS d A f (s, P) k).2 (stM d w f M k)) ≤ bud (mix P M) ∧ ∀ j, k ≤ j → j < K → ¬ boundS (mix (stS d A f (s, P) k).2 (stM d w f M k)) (w j) d
  | 0, _ => ⟨sa, hI, hy, Int.le_refl _, fun j _ hj => hnb j hj⟩
  | k + 1, hk => by
    obtain ⟨sa1, x1, x2, x3, x4⟩ := jx_all hI hy hd hK6 hw hf hA hne hnb h49 h31 h19 ha0 k (by omega)
    have n88 := hI.B.1
    have hAb : ∀ k, k < K → 88 ≤ A k ∧ A k < s.1.1 := fun l hl => by
      obtain ⟨b, hb⟩ := hI.ps.1 (w l) (hw l hl).1 (hw l hl).2
      have q1 := hb.2.2.1
      rw [mix_o (by omega)] at q1
      have q2 := hb.1
      have q3 := hb.2.1.2.1
      rw [hA l hl]
      omega
    have q1 : (stS d A f (s, P) k).1.1.1 = s.1.1 + k := stS_1 k
    have q5 : (stS d A f (s, P) k).2 5 = P 5 := stS_c (K := K) hAb n88 (by decide) (by decide) k (by omega)
    have q19 : (stS d A f (s, P) k).2 3 19 = P 3 19 + k := stS_19 (K := K) hAb n88 k (by omega)
    obtain ⟨m1, m2, m3⟩ := stM_f (d := d) (w := w) (f := f) (M := M) k
    have e39 : ∀ x, mix (stS d A f (s, P) k).2 (stM d w f M k) 39 x = stM d w f M k 39 x := fun x => by rw [mix_i (by decide) (by decide)]
    have e0 : ∀ x, mix P M 39 x = M 39 x := fun x => by rw [mix_i (by decide) (by decide)]
    have hwk := hw k (by omega)
    have hfk := hf k (by omega)
    rw [e0] at hwk hfk
    have hab := hAb k (by omega)
    have hC := x1.C
    unfold mCnt at hC
    have e31 := e39 31
    obtain ⟨sa2, y1, y2, y3⟩ := jx_one (s := (stS d A f (s, P) k).1) rfl x1 x2 (w := w k) (g := f k) (d := d) (a := A k) (by rw [e39, e39, m2 2 (by decide), m2 29 (by decide)]; exact ⟨hwk, hfk, hd⟩) (x4 k (Nat.le_refl _) (by omega)) (by
      rw [mix_o (by omega), q5, hA k (by omega)]
      have := hA k (by omega)
      omega) (by rw [e39, m2 49 (by decide)]; exact h49) (by rw [e39, m3]; omega) (by rw [mix_o (by omega), q19]; omega) (by constructor <;> omega)
    refine ⟨sa2, y1, y2, Int.le_trans y3 x3, fun j h1 h2 hb => ?_⟩
    have hb2 : boundS (mup (n_begin (stM d w f M k) (w k) (f k) d) 73 (w k) (f k)) (w j) d := by
      have hb3 := hb
      rw [boundS_mix] at hb3
      exact hb3
    rw [n_begin_73] at hb2
    rcases boundS_b (by rw [mup_cell (by decide)]; omega) hb2 with r | r
    · have := hne j k h2 (by omega) r
      omega
    · refine x4 j (by omega) h2 ?_
      rw [boundS_mix]
      rw [boundS_k (N := stM d w f M k) (N' := mup (stM d w f M k) 73 (w k) (f k)) (fun b hb => by
        simp only [List.mem_cons, List.not_mem_nil, or_false] at hb
        exact mup_fn (by omega)) (fun x _ => by rw [mup_fn (by decide)])] at r
      exact r
end FI16
