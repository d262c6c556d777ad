/-! WHAT THE REFERENCE'S NUMBERS SAY. Cell 39: its counts; 40 .. 87: its rows (wip/whole/gen/mem.py has their names) -/
/-- the last place below n where p holds, else -1 -/
noncomputable def lastK (p : Nat → Prop) : Nat → Int
  | 0 => -1
  | n + 1 => if bi (p n) = 1 then n else lastK p n
theorem lastK_t {p : Nat → Prop} {n : Nat} (h : p n) : lastK p (n + 1) = n := by simp [lastK, bi_t h]
theorem lastK_f {p : Nat → Prop} {n : Nat} (h : ¬ p n) : lastK p (n + 1) = lastK p n := by simp [lastK, bi_f h]
theorem lastK_b (p : Nat → Prop) : ∀ n : Nat, -1 ≤ lastK p n ∧ lastK p n < n
  | 0 => by simp [lastK]
  | n + 1 => by
    have ih := lastK_b p n
    by_cases h : p n
    · rw [lastK_t h]; omega
    · rw [lastK_f h]; omega
theorem lastK_p {p : Nat → Prop} : ∀ {n : Nat} {k : Nat}, lastK p n = k → p k ∧ ∀ j, k < j → j < n → ¬ p j
  | 0, k, h => by simp only [lastK] at h; omega
  | n + 1, k, h => by
    by_cases hp : p n
    · rw [lastK_t hp] at h
      have : n = k := by omega
      subst this
      exact ⟨hp, fun j h1 h2 => by omega⟩
    · rw [lastK_f hp] at h
      obtain ⟨h1, h2⟩ := lastK_p h
      refine ⟨h1, fun j h3 h4 => ?_⟩
      by_cases hj : j = n
      · rw [hj]; exact hp
      · exact h2 j h3 (by omega)
theorem lastK_n {p : Nat → Prop} : ∀ {n : Nat}, lastK p n = -1 → ∀ j, j < n → ¬ p j
  | 0, _, j, hj => by omega
  | n + 1, h, j, hj => by
    by_cases hp : p n
    · rw [lastK_t hp] at h; omega
    · rw [lastK_f hp] at h
      by_cases hjn : j = n
      · rw [hjn]; exact hp
      · exact lastK_n h j (by omega)
/-- the first place below n where p holds, else -1 -/
noncomputable def fstK (p : Nat → Prop) : Nat → Int
  | 0 => -1
  | n + 1 => if fstK p n = -1 then (if bi (p n) = 1 then n else -1) else fstK p n
theorem fstK_none {p : Nat → Prop} : ∀ {n : Nat}, (∀ j, j < n → ¬ p j) → fstK p n = -1
  | 0, _ => rfl
  | n + 1, h => by
    have e := fstK_none (p := p) (n := n) (fun j hj => h j (by omega))
    rw [fstK, if_pos e, if_neg (by rw [bi_f (h n (by omega))]; omega)]
theorem fstK_at {p : Nat → Prop} : ∀ {n i : Nat}, i < n → (∀ j, j < i → ¬ p j) → p i → fstK p n = i
  | n + 1, i, hi, h, hp => by
    by_cases hn : i = n
    · subst hn
      simp [fstK, fstK_none h, bi_t hp]
    · have e := fstK_at (show i < n by omega) h hp
      rw [fstK, e, if_neg (by omega)]
theorem fstK_b (p : Nat → Prop) : ∀ n : Nat, -1 ≤ fstK p n ∧ fstK p n < n
  | 0 => by simp [fstK]
  | n + 1 => by
    have ih := fstK_b p n
    rw [fstK]
    by_cases h1 : fstK p n = -1
    · rw [if_pos h1]
      by_cases h2 : bi (p n) = 1
      · rw [if_pos h2]; omega
      · rw [if_neg h2]; omega
    · rw [if_neg h1]; omega
theorem fstK_p {p : Nat → Prop} : ∀ {n : Nat}, 0 ≤ fstK p n → p (fstK p n).toNat ∧ ∀ j, j < (fstK p n).toNat → ¬ p j
  | 0, h => by simp [fstK] at h
  | n + 1, h => by
    by_cases hex : ∃ i, i < n + 1 ∧ p i
    · by_cases h1 : fstK p n = -1
      · by_cases h2 : p n
        · have e : fstK p (n + 1) = n := by simp [fstK, h1, bi_t h2]
          rw [e]
          refine ⟨by simpa using h2, fun j hj => ?_⟩
          intro hpj
          have hj : j < n := by omega
          have : ∀ (m : Nat), fstK p m = -1 → ∀ j, j < m → ¬ p j := by
            intro m
            induction m with
            | zero => intro _ j hj; omega
            | succ m ih =>
              intro hm j hj
              rw [fstK] at hm
              by_cases a1 : fstK p m = -1
              · rw [if_pos a1] at hm
                by_cases a2 : p m
                · rw [if_pos (bi_t a2)] at hm; omega
                · by_cases a3 : j = m
                  · rw [a3]; exact a2
                  · exact ih a1 j (by omega)
              · rw [if_neg a1] at hm; exact absurd hm a1
          exact this n h1 j hj hpj
        · have e : fstK p (n + 1) = -1 := by simp [fstK, h1, bi_f h2]
          rw [e] at h; omega
      · have e : fstK p (n + 1) = fstK p n := by simp [fstK, h1]
        have b := fstK_b p n
        rw [e]
        exact fstK_p (by omega)
    · rw [fstK_none (fun j hj hp => hex ⟨j, hj, hp⟩)] at h; omega
theorem fstK_neg {p : Nat → Prop} {n : Nat} (h : fstK p n < 0) : ∀ j, j < n → ¬ p j := by
  intro j hj hp
  have key : ∀ m, m ≤ n → (∀ i, i < m → ¬ p i) ∨ ∃ i, i < m ∧ p i ∧ ∀ k, k < i → ¬ p k := by
    intro m
    induction m with
    | zero => intro _; exact Or.inl (fun i hi => by omega)
    | succ m ih =>
      intro hm
      rcases ih (by omega) with h1 | ⟨i, h1, h2, h3⟩
      · by_cases hpm : p m
        · exact Or.inr ⟨m, by omega, hpm, h1⟩
        · exact Or.inl (fun i hi => by
            by_cases him : i = m
            · rw [him]; exact hpm
            · exact h1 i (by omega))
      · exact Or.inr ⟨i, by omega, h2, h3⟩
  rcases key n (Nat.le_refl n) with h1 | ⟨i, h1, h2, h3⟩
  · exact h1 j hj hp
  · rw [fstK_at h1 h3 h2] at h; omega
theorem z_lt1 {p : Nat → Prop} {i : Nat} (h : ∀ j, j < i → ¬ p j) (hi : ¬ p i) : ∀ j, j < i + 1 → ¬ p j := by
  intro j hj
  by_cases e : j = i
  · rw [e]; exact hi
  · exact h j (by omega)
/-- sums and counts -/
def sumK (f : Nat → Int) : Nat → Int
  | 0 => 0
  | n + 1 => sumK f n + f n
noncomputable def cnt (p : Nat → Prop) (n : Nat) : Int := sumK (fun i => bi (p i)) n
theorem cnt_s (p : Nat → Prop) (n : Nat) : cnt p (n + 1) = cnt p n + bi (p n) := rfl
theorem cnt_b (p : Nat → Prop) : ∀ n : Nat, 0 ≤ cnt p n ∧ cnt p n ≤ n
  | 0 => by simp [cnt, sumK]
  | n + 1 => by
    have ih := cnt_b p n
    have hb := bi_r (p n)
    rw [cnt_s]
    omega
theorem sumK_c {f g : Nat → Int} : ∀ {n : Nat}, (∀ i, i < n → f i = g i) → sumK f n = sumK g n
  | 0, _ => rfl
  | n + 1, h => by rw [sumK, sumK, sumK_c (fun i hi => h i (by omega)), h n (by omega)]
theorem cnt_c {p q : Nat → Prop} {n : Nat} (h : ∀ i, i < n → (p i ↔ q i)) : cnt p n = cnt q n := sumK_c (fun i hi => bi_c (h i hi))
noncomputable def zif {α : Type} (p : Prop) (a b : α) : α := @ite α p (Classical.propDecidable p) a b
theorem zif_t {α : Type} {p : Prop} {a b : α} (h : p) : zif p a b = a := by unfold zif; exact if_pos h
theorem zif_f {α : Type} {p : Prop} {a b : α} (h : ¬ p) : zif p a b = b := by unfold zif; exact if_neg h
/-! what holds of the reference's numbers, always -/
def mR (N : zN) : Prop := ∀ a j, zr (N a j)
def mCnt (N : zN) : Prop := (0 ≤ N 39 0 ∧ N 39 0 ≤ 20) ∧ (0 ≤ N 39 2 ∧ N 39 2 ≤ 48) ∧ (0 ≤ N 39 10 ∧ N 39 10 ≤ 600) ∧ (0 ≤ N 39 15 ∧ N 39 15 ≤ 40) ∧ (0 ≤ N 39 26 ∧ N 39 26 ≤ 9) ∧ (0 ≤ N 39 29 ∧ N 39 29 ≤ 8) ∧ (0 ≤ N 39 31 ∧ N 39 31 ≤ 4000) ∧ (0 ≤ N 39 36 ∧ N 39 36 ≤ 20) ∧ (0 ≤ N 39 50 ∧ N 39 50 ≤ 20)
def mPpl (N : zN) : Prop := ∀ i : Int, 0 ≤ i → i < N 39 2 → (0 ≤ N 41 i ∧ N 41 i ≤ 3) ∧ (-9999 ≤ N 42 i ∧ N 42 i ≤ 9999) ∧ (0 ≤ N 43 i ∧ N 43 i < 40) ∧ (0 ≤ N 44 i ∧ N 44 i < N 39 0) ∧ (N 45 i = 0 ∨ N 45 i = 1) ∧ (-1 ≤ N 46 i ∧ N 46 i < N 39 2) ∧ ((0 ≤ N 47 i ∧ N 47 i ≤ 9999) ∨ N 47 i = 100000)
def mFlt (N : zN) : Prop := ∀ k : Int, 0 ≤ k → k < N 39 10 → (0 ≤ N 48 k ∧ N 48 k < N 39 2) ∧ (0 ≤ N 49 k ∧ N 49 k ≤ 9999) ∧ N 49 k < N 50 k ∧ (N 50 k ≤ 9999 ∨ N 50 k = 100000)
def mSpl (N : zN) : Prop := ∀ k : Int, 0 ≤ k → k < N 39 31 → (0 ≤ N 59 k ∧ N 59 k < N 39 2) ∧ (0 ≤ N 60 k ∧ N 60 k < N 39 29) ∧ (0 ≤ N 61 k ∧ N 61 k ≤ 9999) ∧ N 61 k < N 62 k ∧ (N 62 k ≤ 9999 ∨ N 62 k = 100000)
def mSty (N : zN) : Prop := ∀ k : Int, 0 ≤ k → k < N 39 36 → (0 ≤ N 63 k ∧ N 63 k < N 39 2) ∧ (0 ≤ N 64 k ∧ N 64 k < N 39 0) ∧ 0 ≤ N 65 k ∧ N 65 k ≤ N 66 k ∧ N 66 k ≤ 9999
def mPle (N : zN) : Prop := ∀ p : Int, 0 ≤ p → p < N 39 50 → (0 ≤ N 74 p ∧ N 74 p < N 39 10) ∧ (0 ≤ N 75 p ∧ N 75 p < N 39 29) ∧ (1 ≤ N 76 p ∧ N 76 p ≤ 9999) ∧ (N 77 p = 0 ∨ N 77 p = 1) ∧ (N 78 p = 0 ∨ N 78 p = 1)
def mI (N : zN) : Prop := mR N ∧ mCnt N ∧ mPpl N ∧ mFlt N ∧ mSpl N ∧ mSty N ∧ mPle N
/-! what the rows tell of people, groups, lodgers -/
noncomputable def lastF (N : zN) (w : Int) : Int := lastK (fun k => N 48 k = w) (N 39 10).toNat
def tHere (N : zN) (w d : Int) : Prop := N 42 w ≤ d ∧ d ≤ N 47 w ∧ ∀ k : Nat, (k : Int) < N 39 10 → ¬ (N 48 k = w ∧ N 49 k ≤ d ∧ d < N 50 k)
noncomputable def spA (N : zN) (w d : Int) : Int := zif (tHere N w d) (fstK (fun k => N 59 k = w ∧ N 61 k ≤ d ∧ d < N 62 k) (N 39 31).toNat) (-1)
def memb (N : zN) (w g d : Int) : Prop := 0 ≤ spA N w d ∧ N 60 (spA N w d) = g
noncomputable def mems (N : zN) (g d : Int) : Int := cnt (fun i => memb N i g d) (N 39 2).toNat
def boundS (N : zN) (w d : Int) : Prop := ∃ k : Nat, (k : Int) < N 39 31 ∧ N 59 k = w ∧ d < N 62 k
def must (N : zN) (w d : Int) : Prop := N 41 w ≠ 3 ∧ tHere N w d ∧ N 52 (N 41 w) ≤ (d - N 42 w) / 100 ∧ (d - N 42 w) / 100 ≤ N 53 (N 41 w)
def want (N : zN) (w d what : Int) : Prop := (what = 0 ∧ must N w d ∧ ¬ 0 ≤ spA N w d) ∨ (what ≠ 0 ∧ 0 ≤ spA N w d ∧ ¬ must N w d)
def fairD (N : zN) (d : Int) : Prop := ∃ k : Nat, (k : Int) < N 39 26 ∧ N 56 k ≤ d ∧ d ≤ N 57 k
noncomputable def nightsC (N : zN) (k d : Int) : Int := cnt (fun i => ¬ fairD N (N 65 k + i)) (d + 1 - N 65 k).toNat
noncomputable def gHouse (N : zN) (h d : Int) : Int := zif (fstK (fun i => 0 ≤ spA N i d ∧ N 44 i = h) (N 39 2).toNat < 0) (-4) (N 60 (spA N (fstK (fun i => 0 ≤ spA N i d ∧ N 44 i = h) (N 39 2).toNat) d))
noncomputable def stayK (N : zN) (w d : Int) : Int := fstK (fun k => N 63 k = w ∧ N 65 k ≤ d ∧ d ≤ N 66 k) (N 39 36).toNat
noncomputable def charg (N : zN) (w d : Int) : Int := zif (tHere N w d ∧ 0 ≤ stayK N w d ∧ N 39 18 ≤ nightsC N (stayK N w d) d) (gHouse N (N 64 (stayK N w d)) d) (-4)
theorem spA_b (N : zN) (w d : Int) : -1 ≤ spA N w d ∧ spA N w d < max 0 (N 39 31) := by
  by_cases h : tHere N w d
  · unfold spA
    rw [zif_t h]
    have := fstK_b (fun k => N 59 k = w ∧ N 61 k ≤ d ∧ d < N 62 k) (N 39 31).toNat
    omega
  · unfold spA
    rw [zif_f h]
    omega
theorem lastF_b (N : zN) (w : Int) : -1 ≤ lastF N w ∧ lastF N w < max 0 (N 39 10) := by
  have := lastK_b (fun k => N 48 k = w) (N 39 10).toNat
  unfold lastF
  omega
