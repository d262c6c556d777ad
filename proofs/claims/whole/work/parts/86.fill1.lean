/-! MAKING GROUPS WHOLE: which way asks least, as sets of those who come -/
section FIL
def tb (m k : Nat) : Prop := m.testBit k = true
def pw8 (k : Nat) : Int := if k = 0 then 32768 else if k = 1 then 4096 else if k = 2 then 512 else if k = 3 then 64 else if k = 4 then 8 else 1
theorem pw8_b (k : Nat) : 1 ≤ pw8 k ∧ pw8 k ≤ 32768 := by
  unfold pw8
  split
  · omega
  · split
    · omega
    · split
      · omega
      · split
        · omega
        · split <;> omega
def wayK (a : Nat → Int → Int) (k : Nat) (g : Int) : Int := a k g * 262144 + g * pw8 k
noncomputable def wSum (a : Nat → Int → Int) (S : Nat → Prop) (f : Nat → Int) (n : Nat) : Int := sumK (fun k => zif (S k) (wayK a k (f k)) 0) n
def okP (rm : Int → Int) (ri : Int → Prop) (po : Nat → Prop) (K : Nat) (S : Nat → Prop) (h : Int) : Prop := cnt S K ≤ rm h ∧ (ri h ∨ ∃ k, k < K ∧ S k ∧ ¬ po k)
def goodOn (rm : Int → Int) (ri : Int → Prop) (po : Nat → Prop) (K : Nat) (g : Int) (S : Nat → Prop) (f : Nat → Int) : Prop := (∀ k, k < K → S k → 0 ≤ f k ∧ f k < g) ∧ ∀ h : Int, 0 ≤ h → h < g → (∃ k, k < K ∧ S k ∧ f k = h) → okP rm ri po K (fun k => S k ∧ f k = h) h
theorem okP_c {rm : Int → Int} {ri : Int → Prop} {po : Nat → Prop} {K : Nat} {S S' : Nat → Prop} {h : Int} (hs : ∀ k, k < K → (S k ↔ S' k)) (hk : okP rm ri po K S h) : okP rm ri po K S' h := by
  refine ⟨by rw [← cnt_c hs]; exact hk.1, ?_⟩
  rcases hk.2 with q | ⟨k, q1, q2, q3⟩
  · exact Or.inl q
  · exact Or.inr ⟨k, q1, (hs k q1).mp q2, q3⟩
def IMP : Int := 2147483647
noncomputable def bOK (a : Nat → Int → Int) (rm : Int → Int) (ri : Int → Prop) (po : Nat → Prop) (K : Nat) (g : Int) (m : Nat) (v : Int) : Prop := (∀ f, goodOn rm ri po K g (tb m) f → v ≤ wSum a (tb m) f K) ∧ (v = IMP ∨ ∃ f, goodOn rm ri po K g (tb m) f ∧ v = wSum a (tb m) f K)
theorem sumK_e {f g : Nat → Int} (n : Nat) (h : ∀ i, i < n → f i = g i) : sumK f n = sumK g n := sumK_c h
theorem tb_lt {m k n : Nat} (h : m < 2 ^ n) (hk : tb m k) : k < n := by
  by_cases q : k < n
  · exact q
  · have h2 : m < 2 ^ k := Nat.lt_of_lt_of_le h (Nat.pow_le_pow_right (by omega) (by omega))
    have h3 := Nat.testBit_lt_two_pow h2
    unfold tb at hk
    rw [h3] at hk
    cases hk
theorem tb_sub {q m : Nat} (h : q &&& m = q) {k : Nat} (hk : tb q k) : tb m k := by
  unfold tb at hk ⊢
  rw [← h, Nat.testBit_and] at hk
  simp only [Bool.and_eq_true] at hk
  exact hk.2
theorem tb_xor {q m : Nat} (h : q &&& m = q) (k : Nat) : tb (m ^^^ q) k ↔ (tb m k ∧ ¬ tb q k) := by
  have hs := tb_sub h (k := k)
  unfold tb at hs ⊢
  rw [Nat.testBit_xor]
  cases h1 : m.testBit k <;> cases h2 : q.testBit k <;> simp_all
theorem mk_ex (S : Nat → Prop) : ∀ n : Nat, ∃ q, q < 2 ^ n ∧ ∀ k, tb q k ↔ (k < n ∧ S k)
  | 0 => ⟨0, by simp, fun k => by simp [tb]⟩
  | n + 1 => by
    obtain ⟨q, h1, h2⟩ := mk_ex S n
    by_cases hs : S n
    · refine ⟨2 ^ n + q, by rw [Nat.pow_succ]; omega, fun k => ?_⟩
      rcases Nat.lt_trichotomy k n with hk | hk | hk
      · have e : (2 ^ n + q).testBit k = q.testBit k := Nat.testBit_two_pow_add_gt hk q
        unfold tb
        rw [e]
        have := h2 k
        unfold tb at this
        rw [this]
        exact ⟨fun r => ⟨by omega, r.2⟩, fun r => ⟨hk, r.2⟩⟩
      · subst hk
        have e : (2 ^ k + q).testBit k = !(q.testBit k) := Nat.testBit_two_pow_add_eq q k
        have e2 : q.testBit k = false := Nat.testBit_lt_two_pow h1
        unfold tb
        rw [e, e2]
        exact ⟨fun _ => ⟨by omega, hs⟩, fun _ => rfl⟩
      · constructor
        · intro r
          have := tb_lt (n := n + 1) (by rw [Nat.pow_succ]; omega) r
          omega
        · intro r
          omega
    · refine ⟨q, by rw [Nat.pow_succ]; omega, fun k => ?_⟩
      rw [h2 k]
      refine ⟨fun r => ⟨by omega, r.2⟩, fun r => ⟨?_, r.2⟩⟩
      by_cases hk : k = n
      · exact absurd (hk ▸ r.2) hs
      · omega
theorem and_of {q m : Nat} (h : ∀ k, tb q k → tb m k) : q &&& m = q := by
  apply Nat.eq_of_testBit_eq
  intro k
  rw [Nat.testBit_and]
  have := h k
  unfold tb at this
  cases h1 : q.testBit k <;> simp_all
variable {a : Nat → Int → Int} {rm : Int → Int} {ri : Int → Prop} {po : Nat → Prop} {K : Nat}
/-- the way of all of q into g -/
noncomputable def wG (a : Nat → Int → Int) (K : Nat) (g : Int) (q : Nat) : Int := wSum a (tb q) (fun _ => g) K
theorem wSum_split {q m : Nat} (h : q &&& m = q) {f f' : Nat → Int} {g : Int} (h1 : ∀ k, k < K → tb q k → f k = g) (h2 : ∀ k, k < K → tb m k → ¬ tb q k → f k = f' k) : wSum a (tb m) f K = wSum a (tb (m ^^^ q)) f' K + wG a K g q := by
  unfold wG wSum
  rw [← sumK_p]
  refine sumK_c (fun k hk => ?_)
  have hx := tb_xor h k
  by_cases hm : tb m k
  · by_cases hq : tb q k
    · rw [zif_t hm, zif_t hq, zif_f (fun r => (hx.mp r).2 hq), h1 k hk hq, Int.zero_add]
    · rw [zif_t hm, zif_f hq, zif_t (hx.mpr ⟨hm, hq⟩), h2 k hk hm hq, Int.add_zero]
  · rw [zif_f hm, zif_f (fun r => hm (hx.mp r).1), zif_f (fun r => hm (tb_sub h r))]
    rfl
/-- ways are small -/
theorem wSum_b (ha : ∀ k g, k < K → 0 ≤ g → g < 8 → 0 ≤ a k g ∧ a k g ≤ 104) (hK : K ≤ 6) {S : Nat → Prop} {f : Nat → Int} (hf : ∀ k, k < K → S k → 0 ≤ f k ∧ f k < 8) : 0 ≤ wSum a S f K ∧ wSum a S f K ≤ 170000000 := by
  have gen : ∀ n : Nat, n ≤ K → 0 ≤ wSum a S f n ∧ wSum a S f n ≤ 28000000 * n := by
    intro n
    induction n with
    | zero => intro _; simp [wSum, sumK]
    | succ n ih =>
      intro hn
      have := ih (by omega)
      have e : wSum a S f (n + 1) = wSum a S f n + zif (S n) (wayK a n (f n)) 0 := rfl
      rw [e]
      by_cases hs : S n
      · rw [zif_t hs]
        have h1 := hf n (by omega) hs
        have h2 := ha n (f n) (by omega) h1.1 h1.2
        have h3 := pw8_b n
        have h4 : 0 ≤ f n * pw8 n := Int.mul_nonneg h1.1 (by omega)
        have h5 : f n * pw8 n ≤ 7 * 32768 := Int.mul_le_mul (by omega) h3.2 (by omega) (by omega)
        unfold wayK
        omega
      · rw [zif_f hs]
        omega
  have := gen K (Nat.le_refl K)
  omega
/-- what a group's turn makes of a set's best -/
def nBest (old into : Nat → Int) (m : Nat) (p : Nat) (v : Int) : Prop := v ≤ old m ∧ (∀ q, q &&& m = q → q ≠ 0 → p < q → old (m ^^^ q) ≠ IMP → into q ≠ IMP → v ≤ old (m ^^^ q) + into q) ∧ (v = old m ∨ ∃ q, q &&& m = q ∧ q ≠ 0 ∧ old (m ^^^ q) ≠ IMP ∧ into q ≠ IMP ∧ v = old (m ^^^ q) + into q)
theorem dp_step (ha : ∀ k g, k < K → 0 ≤ g → g < 8 → 0 ≤ a k g ∧ a k g ≤ 104) (hK : K ≤ 6) {g : Int} (hg : 0 ≤ g ∧ g < 8) {old into : Nat → Int} {m : Nat} {v : Int} (hm : m < 2 ^ K)
    (hold : ∀ q, q &&& m = q → bOK a rm ri po K g q (old q)) (hinto : ∀ q, q &&& m = q → q ≠ 0 → (okP rm ri po K (tb q) g → into q = wG a K g q) ∧ (¬ okP rm ri po K (tb q) g → into q = IMP)) (hv : nBest old into m 0 v) : bOK a rm ri po K (g + 1) m v := by
  have hmm : m &&& m = m := Nat.and_self m
  have hsub : ∀ q, q &&& m = q → (m ^^^ q) &&& m = m ^^^ q := fun q hq => and_of (fun k hk => ((tb_xor hq k).mp hk).1)
  have hwg : ∀ q, wG a K g q ≤ 170000000 := fun q => (wSum_b ha hK (S := tb q) (f := fun _ => g) (fun k _ _ => ⟨hg.1, hg.2⟩)).2
  have hnI : ∀ x : Int, x ≤ 170000000 → x ≠ IMP := fun x hx q => by unfold IMP at q; omega
  refine ⟨fun f hf => ?_, ?_⟩
  · by_cases hex : ∃ k, k < K ∧ tb m k ∧ f k = g
    · obtain ⟨q, q1, q2⟩ := mk_ex (fun k => tb m k ∧ f k = g) K
      have hq : q &&& m = q := and_of (fun k hk => ((q2 k).mp hk).2.1)
      have hq0 : q ≠ 0 := fun e => by
        obtain ⟨k, k1, k2, k3⟩ := hex
        have := (q2 k).mpr ⟨k1, k2, k3⟩
        rw [e] at this
        simp [tb] at this
      have hok : okP rm ri po K (tb q) g := okP_c (fun k hk => ⟨fun r => (q2 k).mpr ⟨hk, r⟩, fun r => ((q2 k).mp r).2⟩) (hf.2 g hg.1 (by omega) hex)
      have hin := (hinto q hq hq0).1 hok
      have hgo : goodOn rm ri po K g (tb (m ^^^ q)) f := by
        refine ⟨fun k hk hs => ?_, fun h h0 h1 hx => ?_⟩
        · have hr := (tb_xor hq k).mp hs
          have := hf.1 k hk hr.1
          have : f k ≠ g := fun e => hr.2 ((q2 k).mpr ⟨hk, hr.1, e⟩)
          omega
        · obtain ⟨k, k1, k2, k3⟩ := hx
          refine okP_c (fun k hk => ⟨fun r => ⟨(tb_xor hq k).mpr ⟨r.1, fun r2 => ?_⟩, r.2⟩, fun r => ⟨((tb_xor hq k).mp r.1).1, r.2⟩⟩) (hf.2 h h0 (by omega) ⟨k, k1, ((tb_xor hq k).mp k2).1, k3⟩)
          have := ((q2 k).mp r2).2.2
          have := r.2
          omega
      have ho := (hold _ (hsub q hq)).1 f hgo
      have hwb := (wSum_b ha hK (S := tb (m ^^^ q)) (f := f) (fun k hk hs => by have := hgo.1 k hk hs; omega)).2
      have := hv.2.1 q hq hq0 (by omega) (hnI _ (by omega)) (by rw [hin]; exact hnI _ (hwg q))
      have e := wSum_split (a := a) (K := K) hq (f := f) (f' := f) (g := g) (fun k hk r => ((q2 k).mp r).2.2) (fun k _ _ _ => rfl)
      rw [e]
      omega
    · have hgo : goodOn rm ri po K g (tb m) f := by
        refine ⟨fun k hk hs => ?_, fun h h0 h1 hx => hf.2 h h0 (by omega) hx⟩
        have := hf.1 k hk hs
        have : f k ≠ g := fun e => hex ⟨k, hk, hs, e⟩
        omega
      exact Int.le_trans hv.1 ((hold m hmm).1 f hgo)
  · rcases hv.2.2 with e | ⟨q, hq, hq0, h1, h2, e⟩
    · rcases (hold m hmm).2 with r | ⟨f, r1, r2⟩
      · exact Or.inl (e.trans r)
      · refine Or.inr ⟨f, ⟨fun k hk hs => ?_, fun h h0 h1 hx => ?_⟩, e.trans r2⟩
        · have := r1.1 k hk hs
          omega
        · by_cases hh : h = g
          · obtain ⟨k, k1, k2, k3⟩ := hx
            have := r1.1 k k1 k2
            omega
          · exact r1.2 h h0 (by omega) hx
    · have hok : okP rm ri po K (tb q) g := Classical.byContradiction fun r => h2 ((hinto q hq hq0).2 r)
      have hin := (hinto q hq hq0).1 hok
      rcases (hold _ (hsub q hq)).2 with r | ⟨f', r1, r2⟩
      · exact absurd r h1
      · refine Or.inr ⟨fun k => zif (tb q k) g (f' k), ⟨fun k hk hs => ?_, fun h h0 h1 hx => ?_⟩, ?_⟩
        · show 0 ≤ zif (tb q k) g (f' k) ∧ zif (tb q k) g (f' k) < g + 1
          by_cases hqk : tb q k
          · rw [zif_t hqk]; omega
          · rw [zif_f hqk]
            have := r1.1 k hk ((tb_xor hq k).mpr ⟨hs, hqk⟩)
            omega
        · by_cases hh : h = g
          · refine okP_c (fun k hk => ⟨fun r => ⟨tb_sub hq r, ?_⟩, fun r => ?_⟩) (hh ▸ hok)
            · show zif (tb q k) g (f' k) = h
              rw [zif_t r, hh]
            · by_cases hqk : tb q k
              · exact hqk
              · have r3 : zif (tb q k) g (f' k) = h := r.2
                rw [zif_f hqk] at r3
                have := r1.1 k hk ((tb_xor hq k).mpr ⟨r.1, hqk⟩)
                omega
          · obtain ⟨k, k1, k2, k3⟩ := hx
            have key : ∀ k, k < K → ((tb (m ^^^ q) k ∧ f' k = h) ↔ (tb m k ∧ zif (tb q k) g (f' k) = h)) := fun k hk => by
              by_cases hqk : tb q k
              · rw [zif_t hqk]
                exact ⟨fun r => absurd hqk ((tb_xor hq k).mp r.1).2, fun r => absurd r.2.symm hh⟩
              · rw [zif_f hqk]
                exact ⟨fun r => ⟨((tb_xor hq k).mp r.1).1, r.2⟩, fun r => ⟨(tb_xor hq k).mpr ⟨r.1, hqk⟩, r.2⟩⟩
            have h3 := (key k k1).mpr ⟨k2, k3⟩
            exact okP_c key (r1.2 h h0 (by omega) ⟨k, k1, h3.1, h3.2⟩)
        · rw [e, r2, hin]
          exact (wSum_split hq (fun k _ r => zif_t r) (fun k _ _ r => zif_f r)).symm
theorem sub_chk : (List.range 64).all (fun m => (List.range 64).all (fun p => (List.range 64).all (fun q => !(decide (p &&& m = p) && decide (p ≠ 0) && decide (q < p) && decide (q &&& m = q)) || decide (q ≤ (p - 1) &&& m)))) = true := by decide +kernel
theorem sub_le (m : Nat) (hm : m < 64) (p : Nat) (hp : p < 64) (h1 : p &&& m = p) (h2 : p ≠ 0) (q : Nat) (h3 : q < p) (h4 : q &&& m = q) : q ≤ (p - 1) &&& m := by
  have h := sub_chk
  have h := List.all_eq_true.mp h m (List.mem_range.mpr hm)
  have h := List.all_eq_true.mp h p (List.mem_range.mpr hp)
  have h := List.all_eq_true.mp h q (List.mem_range.mpr (by omega))
  rw [decide_eq_true h1, decide_eq_true h2, decide_eq_true h3, decide_eq_true h4] at h
  simpa using h
theorem sub_and (x m : Nat) : (x &&& m) &&& m = x &&& m := by rw [Nat.and_assoc, Nat.and_self]
/-- on to the next smaller part -/
theorem nBest_s {old into : Nat → Int} {m p : Nat} {v v' : Int} (hm : m < 64) (hp : p &&& m = p) (hp0 : p ≠ 0) (h : nBest old into m p v) (h1 : old (m ^^^ p) ≠ IMP → into p ≠ IMP → v' = min v (old (m ^^^ p) + into p)) (h2 : (old (m ^^^ p) = IMP ∨ into p = IMP) → v' = v) : nBest old into m ((p - 1) &&& m) v' := by
  have hpm : p ≤ m := by rw [← hp]; exact Nat.and_le_right
  have hle : v' ≤ v := by
    by_cases q1 : old (m ^^^ p) = IMP
    · rw [h2 (Or.inl q1)]; exact Int.le_refl _
    · by_cases q2 : into p = IMP
      · rw [h2 (Or.inr q2)]; exact Int.le_refl _
      · rw [h1 q1 q2]; omega
  refine ⟨Int.le_trans hle h.1, fun q k1 k2 k3 k4 k5 => ?_, ?_⟩
  · by_cases hq : q = p
    · rw [hq] at k4 k5 ⊢
      rw [h1 k4 k5]
      omega
    · by_cases hlt : q < p
      · have := sub_le m hm p (by omega) hp hp0 q hlt k1
        omega
      · exact Int.le_trans hle (h.2.1 q k1 k2 (by omega) k4 k5)
  · by_cases q1 : old (m ^^^ p) = IMP
    · rw [h2 (Or.inl q1)]; exact h.2.2
    · by_cases q2 : into p = IMP
      · rw [h2 (Or.inr q2)]; exact h.2.2
      · rw [h1 q1 q2]
        by_cases hmn : v ≤ old (m ^^^ p) + into p
        · rw [Int.min_eq_left hmn]; exact h.2.2
        · rw [Int.min_eq_right (by omega)]
          exact Or.inr ⟨p, hp, hp0, q1, q2, rfl⟩
theorem nBest_0 {old into : Nat → Int} {m : Nat} : nBest old into m m (old m) := ⟨Int.le_refl _, fun q k1 _ k3 _ _ => by
  have : q ≤ m := by rw [← k1]; exact Nat.and_le_right
  omega, Or.inl rfl⟩
end FIL
