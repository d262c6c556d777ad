/-! MAKING GROUPS WHOLE: the first way that asks least, sought one by one -/
section FI9
/-- what a way asks, of the first n; its groups as one number; both -/
def cst (a : Nat → Int → Int) (f : Nat → Int) (n : Nat) : Int := sumK (fun k => a k (f k)) n
def cod (f : Nat → Int) (n : Nat) : Int := sumK (fun k => f k * pw8 k) n
def wF (a : Nat → Int → Int) (f : Nat → Int) (K : Nat) : Int := cst a f K * 262144 + cod f K
theorem tb_all {K k : Nat} : tb (2 ^ K - 1) k ↔ k < K := by
  unfold tb
  rw [Nat.testBit_two_pow_sub_one]
  exact decide_eq_true_iff
theorem cst_s {a : Nat → Int → Int} {f : Nat → Int} {n : Nat} : cst a f (n + 1) = cst a f n + a n (f n) := rfl
theorem cod_s {f : Nat → Int} {n : Nat} : cod f (n + 1) = cod f n + f n * pw8 n := rfl
theorem wF_s (a : Nat → Int → Int) (f : Nat → Int) (K : Nat) : wSum a (tb (2 ^ K - 1)) f K = wF a f K := by
  unfold wSum
  rw [sumK_c (g := fun k => wayK a k (f k)) (fun k hk => zif_t (tb_all.mpr hk))]
  have gen : ∀ n : Nat, sumK (fun k => wayK a k (f k)) n = wF a f n := by
    intro n
    induction n with
    | zero => simp [wF, cst, cod, sumK]
    | succ n ih =>
      rw [show sumK (fun k => wayK a k (f k)) (n + 1) = sumK (fun k => wayK a k (f k)) n + wayK a n (f n) from rfl, ih]
      unfold wF wayK
      rw [cst_s, cod_s]
      omega
  exact gen K
theorem cst_e {a : Nat → Int → Int} {f f' : Nat → Int} {n : Nat} (h : ∀ k, k < n → f k = f' k) : cst a f n = cst a f' n := sumK_c (fun k hk => by rw [h k hk])
theorem cod_e {f f' : Nat → Int} {n : Nat} (h : ∀ k, k < n → f k = f' k) : cod f n = cod f' n := sumK_c (fun k hk => by rw [h k hk])
theorem cst_m {a : Nat → Int → Int} {f : Nat → Int} {m : Nat} : ∀ n : Nat, m ≤ n → (∀ k, k < n → 0 ≤ a k (f k)) → cst a f m ≤ cst a f n
  | 0, h, _ => by rw [show m = 0 by omega]; exact Int.le_refl _
  | n + 1, h, h0 => by
    by_cases hm : m = n + 1
    · rw [hm]; exact Int.le_refl _
    · have h1 := cst_m (m := m) n (by omega) (fun k hk => h0 k (by omega))
      have h2 := h0 n (by omega)
      rw [cst_s]
      omega
theorem cst_b {a : Nat → Int → Int} {f : Nat → Int} : ∀ n : Nat, (∀ k, k < n → 0 ≤ a k (f k) ∧ a k (f k) ≤ 104) → 0 ≤ cst a f n ∧ cst a f n ≤ 104 * n
  | 0, _ => by simp [cst, sumK]
  | n + 1, h => by
    have h1 := cst_b n (fun k hk => h k (by omega))
    have h2 := h n (by omega)
    rw [cst_s]
    omega
theorem pw8_s {n : Nat} (h : n < 5) : pw8 n = 8 * pw8 (n + 1) := by
  have : n = 0 ∨ n = 1 ∨ n = 2 ∨ n = 3 ∨ n = 4 := by omega
  rcases this with r | r | r | r | r <;> subst r <;> decide
/-- what stands behind a place is less than the place -/
theorem cod_t {f : Nat → Int} {d : Nat} : ∀ n : Nat, d + 1 ≤ n → n ≤ 6 → (∀ k, k < n → 0 ≤ f k ∧ f k < 8) → cod f (d + 1) ≤ cod f n ∧ cod f n + pw8 (n - 1) ≤ cod f (d + 1) + pw8 d
  | 0, h, _, _ => by omega
  | n + 1, h, h6, hf => by
    by_cases hd : d = n
    · subst hd
      exact ⟨Int.le_refl _, Int.le_refl _⟩
    · obtain ⟨h1, h2⟩ := cod_t (d := d) n (by omega) (by omega) (fun k hk => hf k (by omega))
      have h3 := hf n (by omega)
      have h4 := pw8_s (n := n - 1) (by omega)
      rw [show n - 1 + 1 = n by omega] at h4
      have h5 := pw8_b n
      have h6 : 0 ≤ f n * pw8 n := Int.mul_nonneg h3.1 (by omega)
      have h7 : f n * pw8 n ≤ 7 * pw8 n := Int.mul_le_mul_of_nonneg_right (by omega) (by omega)
      rw [cod_s (n := n), show n + 1 - 1 = n by omega]
      omega
/-- earlier in order: a smaller number -/
theorem cod_l {f f' : Nat → Int} {d K : Nat} (hd : d < K) (hK : K ≤ 6) (hf : ∀ k, k < K → 0 ≤ f k ∧ f k < 8) (hf' : ∀ k, k < K → 0 ≤ f' k ∧ f' k < 8) (he : ∀ k, k < d → f k = f' k) (hl : f d < f' d) : cod f K < cod f' K := by
  have h1 := (cod_t (d := d) K (by omega) hK hf).2
  have h2 := (cod_t (d := d) K (by omega) hK hf').1
  have h3 := pw8_b (K - 1)
  have h4 := pw8_b d
  have e := cod_e he
  rw [cod_s] at h1 h2
  have h5 : f d * pw8 d + pw8 d ≤ f' d * pw8 d := by
    have : (f d + 1) * pw8 d ≤ f' d * pw8 d := Int.mul_le_mul_of_nonneg_right (by omega) (by omega)
    rw [Int.add_mul, Int.one_mul] at this
    exact this
  omega
theorem cod_b {f : Nat → Int} {K : Nat} (hK : K ≤ 6) (hf : ∀ k, k < K → 0 ≤ f k ∧ f k < 8) : 0 ≤ cod f K ∧ cod f K < 262144 := by
  by_cases h0 : K = 0
  · subst h0; simp [cod, sumK]
  · have h1 := cod_t (d := 0) K (by omega) hK hf
    have h2 := hf 0 (by omega)
    have h3 := pw8_b (K - 1)
    have e : cod f (0 + 1) = 0 + f 0 * 32768 := rfl
    have e2 : pw8 0 = 32768 := rfl
    omega
theorem wF_lt {a : Nat → Int → Int} {f f' : Nat → Int} {K : Nat} (hK : K ≤ 6) (hf : ∀ k, k < K → 0 ≤ f k ∧ f k < 8) (hf' : ∀ k, k < K → 0 ≤ f' k ∧ f' k < 8) (h : cst a f K < cst a f' K ∨ (cst a f K ≤ cst a f' K ∧ cod f K ≤ cod f' K)) : wF a f K ≤ wF a f' K := by
  have h1 := cod_b hK hf
  have h2 := cod_b hK hf'
  unfold wF
  omega
/-- the groups, out of the number -/
theorem wF_d {a : Nat → Int → Int} {f : Nat → Int} {K : Nat} (hK : K ≤ 6) (hf : ∀ k, k < K → 0 ≤ f k ∧ f k < 8) : wF a f K / 262144 = cst a f K ∧ ∀ k, k < K → wF a f K / pw8 k % 8 = f k := by
  have hb := cod_b hK hf
  refine ⟨by unfold wF; omega, fun k hk => ?_⟩
  obtain ⟨C, hC⟩ : ∃ C, C = cst a f K := ⟨_, rfl⟩
  have p0 : pw8 0 = 32768 := rfl
  have p1 : pw8 1 = 4096 := rfl
  have p2 : pw8 2 = 512 := rfl
  have p3 : pw8 3 = 64 := rfl
  have p4 : pw8 4 = 8 := rfl
  have p5 : pw8 5 = 1 := rfl
  unfold wF
  rw [← hC]
  have f0 := hf 0
  have f1 := hf 1
  have f2 := hf 2
  have f3 := hf 3
  have f4 := hf 4
  have f5 := hf 5
  have : K = 1 ∨ K = 2 ∨ K = 3 ∨ K = 4 ∨ K = 5 ∨ K = 6 := by omega
  have hk6 : k = 0 ∨ k = 1 ∨ k = 2 ∨ k = 3 ∨ k = 4 ∨ k = 5 := by omega
  have c0 : cod f 0 = 0 := rfl
  have c1 : cod f 1 = cod f 0 + f 0 * 32768 := rfl
  have c2 : cod f 2 = cod f 1 + f 1 * 4096 := rfl
  have c3 : cod f 3 = cod f 2 + f 2 * 512 := rfl
  have c4 : cod f 4 = cod f 3 + f 3 * 64 := rfl
  have c5 : cod f 5 = cod f 4 + f 4 * 8 := rfl
  have c6 : cod f 6 = cod f 5 + f 5 * 1 := rfl
  rcases hk6 with r | r | r | r | r | r <;> subst r <;> simp only [p0, p1, p2, p3, p4, p5] <;> rcases this with q | q | q | q | q | q <;> subst q <;> omega
/-- what the search has found below a beginning p of d, where the d-th goes below g: nothing better, or the best -/
def fnd (a : Nat → Int → Int) (gd : (Nat → Int) → Prop) (K : Nat) (p : Nat → Int) (d : Nat) (g : Int) (L : Int) (B : Nat → Int) (L2 : Int) (B2 : Nat → Int) : Prop :=
  (L2 = L ∧ (∀ k, k < K → B2 k = B k) ∧ ∀ f, gd f → (∀ k, k < d → f k = p k) → f d < g → L ≤ cst a f K) ∨
  (L2 < L ∧ gd B2 ∧ (∀ k, k < d → B2 k = p k) ∧ B2 d < g ∧ L2 = cst a B2 K ∧ ∀ f, gd f → (∀ k, k < d → f k = p k) → f d < g → wF a B2 K ≤ wF a f K)
section FND
variable {a : Nat → Int → Int} {gd : (Nat → Int) → Prop} {K d : Nat} {p : Nat → Int} {g L L2 L3 G : Int} {B B2 B3 : Nat → Int}
theorem fnd_0 (hg : ∀ f, gd f → ∀ k, k < K → 0 ≤ f k ∧ f k < 8) (hd : d < K) : fnd a gd K p d 0 L B L B := Or.inl ⟨rfl, fun _ _ => rfl, fun f hf _ h => by
  have := hg f hf d hd
  omega⟩
/-- one group more -/
theorem fnd_s (hK : K ≤ 6) (hg : ∀ f, gd f → ∀ k, k < K → 0 ≤ f k ∧ f k < 8) (hd : d < K) (h : fnd a gd K p d g L B L2 B2)
    (h2 : (L3 = L2 ∧ (∀ k, k < K → B3 k = B2 k) ∧ ∀ f, gd f → (∀ k, k < d → f k = p k) → f d = g → L2 ≤ cst a f K) ∨
      (L3 < L2 ∧ gd B3 ∧ (∀ k, k < d → B3 k = p k) ∧ B3 d = g ∧ L3 = cst a B3 K ∧ ∀ f, gd f → (∀ k, k < d → f k = p k) → f d = g → wF a B3 K ≤ wF a f K))
    (hge : ∀ f f', (∀ k, k < K → f k = f' k) → gd f → gd f') : fnd a gd K p d (g + 1) L B L3 B3 := by
  rcases h2 with ⟨e1, e2, e3⟩ | ⟨e1, e2, e3, e4, e5, e6⟩
  · rcases h with ⟨k1, k2, k3⟩ | ⟨k1, k2, k3, k4, k5, k6⟩
    · refine Or.inl ⟨by omega, fun k hk => (e2 k hk).trans (k2 k hk), fun f hf hp hl => ?_⟩
      by_cases hq : f d = g
      · have := e3 f hf hp hq
        omega
      · exact k3 f hf hp (by omega)
    · have hB3 : gd B3 := hge B2 B3 (fun k hk => (e2 k hk).symm) k2
      have ec : cst a B3 K = cst a B2 K := cst_e e2
      have eo : cod B3 K = cod B2 K := cod_e e2
      refine Or.inr ⟨by omega, hB3, fun k hk => (e2 k (by omega)).trans (k3 k hk), by rw [e2 d hd]; omega, by omega, fun f hf hp hl => ?_⟩
      by_cases hq : f d = g
      · have h5 := e3 f hf hp hq
        refine wF_lt hK (hg _ hB3) (hg f hf) (Or.inr ⟨by omega, ?_⟩)
        rw [eo]
        exact Int.le_of_lt (cod_l hd hK (hg _ k2) (hg f hf) (fun k hk => (k3 k hk).trans (hp k hk).symm) (by omega))
      · have h5 := k6 f hf hp (by omega)
        unfold wF at h5 ⊢
        omega
  · refine Or.inr ⟨?_, e2, e3, by omega, e5, fun f hf hp hl => ?_⟩
    · rcases h with ⟨k1, -, -⟩ | ⟨k1, -⟩ <;> omega
    · by_cases hq : f d = g
      · exact e6 f hf hp hq
      · rcases h with ⟨k1, k2, k3⟩ | ⟨k1, k2, k3, k4, k5, k6⟩
        · have := k3 f hf hp (by omega)
          exact wF_lt hK (hg _ e2) (hg f hf) (Or.inl (by omega))
        · have h5 := k6 f hf hp (by omega)
          have h6 := cod_b hK (hg _ k2)
          have h7 := cod_b hK (hg f hf)
          have h8 := cod_b hK (hg _ e2)
          unfold wF at h5 ⊢
          omega
/-- all that lies below the next one's beginning -/
theorem fnd_n {q : Nat → Int} (hq : ∀ k, k < d → q k = p k) (hqd : q d = g) (hG : ∀ f, gd f → ∀ k, k < K → f k < G) (hd : d + 1 < K) (h : fnd a gd K q (d + 1) G L2 B2 L3 B3) : (L3 = L2 ∧ (∀ k, k < K → B3 k = B2 k) ∧ ∀ f, gd f → (∀ k, k < d → f k = p k) → f d = g → L2 ≤ cst a f K) ∨
      (L3 < L2 ∧ gd B3 ∧ (∀ k, k < d → B3 k = p k) ∧ B3 d = g ∧ L3 = cst a B3 K ∧ ∀ f, gd f → (∀ k, k < d → f k = p k) → f d = g → wF a B3 K ≤ wF a f K) := by
  have key : ∀ f : Nat → Int, (∀ k, k < d → f k = p k) → f d = g → ∀ k, k < d + 1 → f k = q k := fun f h1 h2 k hk => by
    by_cases hkd : k = d
    · rw [hkd, h2, hqd]
    · rw [h1 k (by omega), hq k (by omega)]
  rcases h with ⟨e1, e2, e3⟩ | ⟨e1, e2, e3, e4, e5, e6⟩
  · exact Or.inl ⟨e1, e2, fun f hf h1 h2 => e3 f hf (key f h1 h2) (hG f hf _ hd)⟩
  · exact Or.inr ⟨e1, e2, fun k hk => (e3 k (by omega)).trans (hq k hk), (e3 d (by omega)).trans hqd, e5, fun f hf h1 h2 => e6 f hf (key f h1 h2) (hG f hf _ hd)⟩
/-- too much asked by now -/
theorem fnd_x {q : Nat → Int} (hq : ∀ k, k < d → q k = p k) (hqd : q d = g) (hd : d < K) (ha : ∀ f, gd f → ∀ k, k < K → 0 ≤ a k (f k)) (hx : L2 ≤ cst a q (d + 1)) : ∀ f, gd f → (∀ k, k < d → f k = p k) → f d = g → L2 ≤ cst a f K := fun f hf h1 h2 => by
  have e : cst a f (d + 1) = cst a q (d + 1) := cst_e (fun k hk => by
    by_cases hkd : k = d
    · rw [hkd, h2, hqd]
    · rw [h1 k (by omega), hq k (by omega)])
  have := cst_m (m := d + 1) K (by omega) (ha f hf)
  omega
end FND
end FI9
