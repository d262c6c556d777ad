/-! making whole, 15 (printed by wip/whole/gen/f15.py) -/
section FI15
variable {X : zX} {s : zK} {N : zN} {σ : zS} {fa sa : Int → Int} {Q K : Option Value → zS → Prop} {c : Int}
theorem mix_xb {P M : zN} {a n : Nat} {g d : Int} (ha : 88 ≤ a) (hn : 88 ≤ n) : mix (xn_begin P a n g d) M = xn_begin (mix P M) a n g d := by
  unfold xn_begin
  rw [mix_up (by omega), mix_up (by omega), mix_up (by omega), mix_up (by omega), mix_up (by omega), mix_up (by omega), mix_o (a := 3) (by omega), mix_o (a := a) (by omega)]
theorem mix_nb {P M : zN} {w g d : Int} : mix P (n_begin M w g d) = n_begin (mix P M) w g d := by
  unfold n_begin
  rw [mix_um (by decide), mix_um (by decide), mix_um (by decide), mix_um (by decide), mix_um (by decide), mix_i (a := 39) (by decide) (by decide)]
/-- one comes: both -/
theorem jx_one {J P M : zN} (hJ : J = mix P M) (hI : xI s J fa sa) (hy : yI J) {w g d : Int} {a : Nat} (hg : (0 ≤ w ∧ w < J 39 2) ∧ (0 ≤ g ∧ g < J 39 29) ∧ (0 ≤ d ∧ d ≤ 9999)) (hc1 : ¬ boundS J w d) (h5 : J 5 w = (a : Int)) (h49 : J 39 49 = 1) (hn : J 39 31 < 4000) (hkr : 0 ≤ J 3 19 ∧ J 3 19 < 600) (ha0 : zr ((s.1.1 : Nat) : Int)) : ∃ sa', xI (z_ns s (8, 0) 4) (mix (xn_begin (mup P a 7 g) a s.1.1 g d) (mup (n_begin M w g d) 73 w g)) fa sa' ∧ yI (mix (xn_begin (mup P a 7 g) a s.1.1 g d) (mup (n_begin M w g d) 73 w g)) ∧ bud (mix (xn_begin (mup P a 7 g) a s.1.1 g d) (mup (n_begin M w g d) 73 w g)) ≤ bud J := by
  have hC := hI.C
  unfold mCnt at hC
  have n88 := hI.B.1
  have own : ∀ a' : Nat, xPer s J fa sa w a' → a' = a := fun a' hp => by have := hp.2.2.1; omega
  obtain ⟨a', hp⟩ := hI.ps.1 w hg.1.1 hg.1.2
  have ea := own a' hp
  subst ea
  have p88 := hp.1
  have pA := hp.2.1
  have hlt := pA.2.1
  obtain ⟨J1, hJ1⟩ : ∃ J1, J1 = mup (mup J a' 7 g) 73 w g := ⟨_, rfl⟩
  have hz : zr g := by constructor <;> omega
  have hG1 : zG s J1 := by rw [hJ1]; exact zG_mup (zG_mup hI.2.1 hlt hz) (by omega) hz
  have k39 : J1 39 = J 39 := by rw [hJ1, mup_fn (by decide), mup_fn (by omega)]
  have k5 : J1 5 = J 5 := by rw [hJ1, mup_fn (by decide), mup_fn (by omega)]
  have k3 : J1 3 = J 3 := by rw [hJ1, mup_fn (by decide), mup_fn (by omega)]
  have hdy : ∀ b : Nat, 88 ≤ b → b < s.1.1 → (s.2 b).1 ≠ 4 → J1 b = J b := fun b h1 h2 h3 => by
    have : b ≠ a' := fun e => h3 (by rw [e, pA.2.2])
    rw [hJ1, mup_fn (by omega), mup_fn this]
  have hper : ∀ (i : Int) (b : Nat), 0 ≤ i → i < J 39 2 → xPer s J fa sa i b → (∀ x : Int, x ≠ 7 → J1 b x = J b x) ∧ J1 b 7 = J1 73 i := fun i b h0 h1 hb => by
    have hb88 := hb.1
    refine ⟨fun x hx => ?_, ?_⟩
    · rw [hJ1, mup_cell (by omega)]
      by_cases hba : b = a'
      · rw [hba, mup_slot hx]
      · rw [mup_cell hba]
    · by_cases hiw : i = w
      · rw [hiw] at hb
        rw [hiw, own b hb, hJ1, mup_cell (by omega), mup_self, mup_self]
      · have hba : b ≠ a' := fun e => hiw (hI.ps.2 i w h0 h1 hg.1.1 hg.1.2 (by rw [hb.2.2.1, e, h5]))
        have h7 := hb.2.2.2.2.2.2.2.2.2.2.1
        have h7 : J b 7 = J 73 i := by
          rcases h7 with ⟨q, _⟩ | ⟨_, q⟩
          · omega
          · exact q
        rw [hJ1, mup_cell (by omega), mup_cell hba, mup_slot hiw, mup_cell (by omega)]
        exact h7
  have h73 : ∀ i : Int, J 39 2 ≤ i → i < 48 → J1 73 i = -4 := fun i h0 h1 => by
    rw [hJ1, mup_slot (by omega), mup_cell (by omega)]
    exact hy.2.2.2.2.2.1 (by omega) i h0 h1
  obtain ⟨x1, x2, -⟩ := jx_came (N2 := J1) hI hy sK.rf hG1 (fun b hb => by rw [hJ1, mup_fn (by omega), mup_fn (by omega)]) (fun x _ => by rw [k39]) (fun x _ => by rw [k3]) hdy rfl (by rw [k39]; exact h49) hper h73
  have x3 : bud J1 ≤ bud J := bud_k (fun b hb => by
    simp only [List.mem_cons, List.not_mem_nil, or_false] at hb
    rw [hJ1, mup_fn (by omega), mup_fn (by omega)]) (fun x _ => by rw [k39])
  obtain ⟨b, hp1⟩ := x1.ps.1 w hg.1.1 (by rw [k39]; exact hg.1.2)
  have eb : b = a' := by have := hp1.2.2.1; rw [k5] at this; omega
  rw [eb] at hp1
  have hb1 : ¬ boundS J1 w d := by
    rw [boundS_k (N := J) (fun b hb => by
      simp only [List.mem_cons, List.not_mem_nil, or_false] at hb
      rw [hJ1, mup_fn (by omega), mup_fn (by omega)]) (fun x _ => by rw [k39])]
    exact hc1
  have eN : mix (xn_begin (mup P a' 7 g) a' s.1.1 g d) (mup (n_begin M w g d) 73 w g) = n_begin (xn_begin J1 a' s.1.1 g d) w g d := by
    rw [n_begin_73, mix_nb, mix_xb p88 n88, mix_up (by omega), mix_um (by decide), ← hJ]
    rw [hJ1, mup_com (by omega)]
  rw [eN]
  have c0 : xn_begin J1 a' s.1.1 g d 39 31 = J1 39 31 := by
    unfold xn_begin
    rw [mup_cell (by omega), mup_cell (by omega), mup_cell (by omega), mup_cell (by omega), mup_cell (by omega), mup_cell (by omega)]
  obtain ⟨y1, y2, y3⟩ := jx_begin x1 x2 (w := w) (g := g) (d := d) (by rw [k39]; exact hg) hb1 p88 pA hp1 (by rw [k39]; exact hn) (by rw [k3]; exact hkr) ha0 (N2 := n_begin (xn_begin J1 a' s.1.1 g d) w g d) (by unfold n_begin; rw [c0]; rfl)
  exact ⟨_, y1, y2, Int.le_trans y3 x3⟩
end FI15
