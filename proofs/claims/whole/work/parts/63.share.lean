/-! HOW A SUM IS PARTED: shares, what is left over, one more to the greatest rest -/
section SHR
/-- the first of the greatest below n -/
def gmx (R : Int → Int) : Nat → Int
  | 0 => 0
  | n + 1 => if R (gmx R n) < R n then (n : Int) else gmx R n
theorem gmx_b (R : Int → Int) : ∀ n : Nat, 0 ≤ gmx R n ∧ (1 ≤ n → gmx R n < n) ∧ gmx R n ≤ n
  | 0 => by simp [gmx]
  | n + 1 => by
    have ih := gmx_b R n
    rw [gmx]
    split
    · omega
    · by_cases hn : n = 0
      · subst hn
        simp [gmx]
      · omega
theorem gmx_c {R R' : Int → Int} : ∀ n : Nat, (∀ x : Int, 0 ≤ x → x < n → R x = R' x) → gmx R n = gmx R' n
  | 0, _ => rfl
  | n + 1, h => by
    have ih := gmx_c n (fun x h0 h1 => h x h0 (by omega))
    have hb := gmx_b R' n
    rw [gmx, gmx, ih, h n (by omega) (by omega), h (gmx R' n) (by omega) (by omega)]
def gvR (R : Int → Int) (P : Nat) : Nat → Int → Int
  | 0 => R
  | m + 1 => fun x => if x = gmx (gvR R P m) P then -1 else gvR R P m x
def gvA (R A : Int → Int) (P : Nat) : Nat → Int → Int
  | 0 => A
  | m + 1 => fun x => gvA R A P m x + (if x = gmx (gvR R P m) P then 1 else 0)
noncomputable def pallK (tk : Int → Prop) (wg : Int → Int) (n : Nat) : Int := sumK (fun i => zif (tk i) (wg i) 0) n
noncomputable def psh (tk : Int → Prop) (wg : Int → Int) (P : Nat) (am x : Int) : Int := zif (0 ≤ x ∧ x < P ∧ tk x) (am * wg x / pallK tk wg P) 0
noncomputable def prs (tk : Int → Prop) (wg : Int → Int) (P : Nat) (am x : Int) : Int := zif (tk x) (am * wg x % pallK tk wg P) (-1)
noncomputable def pov (tk : Int → Prop) (wg : Int → Int) (P : Nat) (am : Int) : Int := am - sumK (fun i => psh tk wg P am i) P
noncomputable def padd (tk : Int → Prop) (wg : Int → Int) (P : Nat) (am : Int) : Int → Int := gvA (prs tk wg P am) (psh tk wg P am) P (pov tk wg P am).toNat
variable {tk : Int → Prop} {wg : Int → Int} {P : Nat} {am : Int}
theorem pallK_s (n : Nat) : pallK tk wg (n + 1) = pallK tk wg n + zif (tk n) (wg n) 0 := rfl
theorem pallK_b (hw : ∀ x : Int, wg x = 1 ∨ wg x = 3) : ∀ n : Nat, 0 ≤ pallK tk wg n ∧ pallK tk wg n ≤ 3 * n
  | 0 => by simp [pallK, sumK]
  | n + 1 => by
    have ih := pallK_b hw n
    rw [pallK_s]
    have := hw n
    by_cases h : tk n
    · rw [zif_t h]; omega
    · rw [zif_f h]; omega
theorem sumK_0 {f : Nat → Int} : ∀ n : Nat, (∀ i, i < n → 0 ≤ f i) → 0 ≤ sumK f n
  | 0, _ => Int.le_refl 0
  | n + 1, h => by
    have := sumK_0 n (fun i hi => h i (by omega))
    have := h n (by omega)
    rw [sumK]
    omega
theorem sumK_1 {f : Nat → Int} {k : Nat} : ∀ n : Nat, (∀ i, i < n → 0 ≤ f i) → k < n → f k ≤ sumK f n
  | 0, _, hk => by omega
  | n + 1, h, hk => by
    have h0 := sumK_0 n (fun i hi => h i (by omega))
    have h1 := h n (by omega)
    rw [sumK]
    by_cases hkn : k = n
    · rw [hkn]; omega
    · have := sumK_1 n (fun i hi => h i (by omega)) (show k < n by omega)
      omega
theorem sumK_p {f g : Nat → Int} : ∀ n : Nat, sumK (fun i => f i + g i) n = sumK f n + sumK g n
  | 0 => rfl
  | n + 1 => by
    rw [sumK, sumK, sumK, sumK_p n]
    omega
theorem sumK_z {f : Nat → Int} {m : Nat} : ∀ n : Nat, m ≤ n → (∀ i, m ≤ i → i < n → f i = 0) → sumK f n = sumK f m
  | 0, h, _ => by rw [show m = 0 by omega]
  | n + 1, h, hf => by
    by_cases hm : m = n + 1
    · rw [hm]
    · rw [sumK, sumK_z n (by omega) (fun i h1 h2 => hf i h1 (by omega)), hf n (by omega) (by omega)]
      omega
theorem sumK_at {g : Int} : ∀ n : Nat, 0 ≤ g → sumK (fun i => if (i : Int) = g then 1 else 0) n = if g < n then 1 else 0
  | 0, h => by rw [sumK, if_neg (by omega)]
  | n + 1, h => by
    rw [sumK, sumK_at n h]
    by_cases hg : (n : Int) = g
    · rw [if_pos hg, if_neg (by omega), if_pos (by omega)]; rfl
    · rw [if_neg hg]
      by_cases h2 : g < n
      · rw [if_pos h2, if_pos (by omega)]; rfl
      · rw [if_neg h2, if_neg (by omega)]; rfl
theorem psh_0 (hw : ∀ x : Int, wg x = 1 ∨ wg x = 3) (ha : 0 ≤ am) (x : Int) : 0 ≤ psh tk wg P am x := by
  unfold psh
  by_cases h : 0 ≤ x ∧ x < P ∧ tk x
  · rw [zif_t h]
    refine Int.ediv_nonneg ?_ (pallK_b hw P).1
    rcases hw x with q | q
    · rw [q]; omega
    · rw [q]; omega
  · rw [zif_f h]
    exact Int.le_refl 0
theorem psh_s (hw : ∀ x : Int, wg x = 1 ∨ wg x = 3) (ha : 0 ≤ am) (hp : 0 < pallK tk wg P) : sumK (fun i => psh tk wg P am i) P ≤ am := by
  have key : ∀ n : Nat, n ≤ P → pallK tk wg P * sumK (fun i => psh tk wg P am i) n ≤ am * pallK tk wg n := by
    intro n
    induction n with
    | zero => intro _; simp [sumK, pallK]
    | succ n ih =>
      intro hn
      have ih := ih (by omega)
      rw [sumK, pallK_s, Int.mul_add, Int.mul_add]
      have h1 : pallK tk wg P * psh tk wg P am n ≤ am * zif (tk n) (wg n) 0 := by
        unfold psh
        by_cases h : tk n
        · rw [zif_t h, zif_t ⟨by omega, by omega, h⟩]
          exact Int.mul_ediv_self_le (by omega)
        · rw [zif_f h, zif_f (fun q => h q.2.2)]
          simp
      exact Int.add_le_add ih h1
  have h := key P (Nat.le_refl P)
  rw [Int.mul_comm am] at h
  exact Int.le_of_mul_le_mul_left h hp
theorem gvA_0 {R A : Int → Int} (hA : ∀ x, 0 ≤ A x) : ∀ (m : Nat) (x : Int), 0 ≤ gvA R A P m x
  | 0, x => hA x
  | m + 1, x => by
    have := gvA_0 (R := R) hA m x
    show 0 ≤ gvA R A P m x + (if x = gmx (gvR R P m) P then 1 else 0)
    split <;> omega
theorem gvA_s {R A : Int → Int} (hP : 1 ≤ P) : ∀ (m : Nat), sumK (fun i => gvA R A P m i) P = sumK (fun i => A i) P + m
  | 0 => by simp [gvA]
  | m + 1 => by
    have ih := gvA_s (R := R) (A := A) hP m
    have hb := gmx_b (gvR R P m) P
    have e : sumK (fun i => gvA R A P (m + 1) i) P = sumK (fun i => gvA R A P m i) P + sumK (fun i => if (i : Int) = gmx (gvR R P m) P then 1 else 0) P := sumK_p P
    rw [e, ih, sumK_at P hb.1, if_pos (hb.2.1 hP)]
    omega
theorem gvA_z {R A : Int → Int} (hP : 1 ≤ P) {x : Int} (hx : x < 0 ∨ (P : Int) ≤ x) : ∀ (m : Nat), gvA R A P m x = A x
  | 0 => rfl
  | m + 1 => by
    have hb := gmx_b (gvR R P m) P
    have := hb.2.1 hP
    show gvA R A P m x + (if x = gmx (gvR R P m) P then 1 else 0) = A x
    rw [if_neg (by omega), gvA_z hP hx m]
    omega
theorem gvR_c {R R' : Int → Int} (hP : 1 ≤ P) (h : ∀ x : Int, 0 ≤ x → x < P → R x = R' x) : ∀ (m : Nat) (x : Int), 0 ≤ x → x < P → gvR R P m x = gvR R' P m x
  | 0, x, h0, h1 => h x h0 h1
  | m + 1, x, h0, h1 => by
    have ih := gvR_c hP h m
    show (if x = gmx (gvR R P m) P then -1 else gvR R P m x) = (if x = gmx (gvR R' P m) P then -1 else gvR R' P m x)
    rw [gmx_c P ih, ih x h0 h1]
theorem pall_P (hp : 0 < pallK tk wg P) : 1 ≤ P := by
  by_cases h : P = 0
  · subst h
    simp [pallK, sumK] at hp
  · omega
theorem pov_0 (hw : ∀ x : Int, wg x = 1 ∨ wg x = 3) (ha : 0 ≤ am) (hp : 0 < pallK tk wg P) : 0 ≤ pov tk wg P am ∧ pov tk wg P am ≤ am := by
  have h1 := psh_s (P := P) hw ha hp
  have h2 := sumK_0 (f := fun i => psh tk wg P am i) P (fun i _ => psh_0 hw ha _)
  unfold pov
  omega
theorem padd_0 (hw : ∀ x : Int, wg x = 1 ∨ wg x = 3) (ha : 0 ≤ am) (x : Int) : 0 ≤ padd tk wg P am x := gvA_0 (fun x => psh_0 hw ha x) _ x
theorem padd_z (hp : 0 < pallK tk wg P) {x : Int} (hx : x < 0 ∨ (P : Int) ≤ x) : padd tk wg P am x = 0 := by
  unfold padd
  rw [gvA_z (pall_P hp) hx, psh, zif_f (by omega)]
theorem padd_s (hw : ∀ x : Int, wg x = 1 ∨ wg x = 3) (ha : 0 ≤ am) (hp : 0 < pallK tk wg P) {n : Nat} (hn : P ≤ n) : sumK (fun i => padd tk wg P am i) n = am := by
  rw [sumK_z n hn (fun i h1 _ => padd_z hp (by omega))]
  have h := pov_0 hw ha hp
  have e := gvA_s (R := prs tk wg P am) (A := psh tk wg P am) (pall_P hp) (pov tk wg P am).toNat
  have e2 : sumK (fun i => padd tk wg P am i) P = sumK (fun i => psh tk wg P am i) P + ((pov tk wg P am).toNat : Int) := e
  rw [e2, Int.toNat_of_nonneg h.1]
  unfold pov
  omega
theorem padd_r (hw : ∀ x : Int, wg x = 1 ∨ wg x = 3) (ha : 0 ≤ am) (hp : 0 < pallK tk wg P) (x : Int) : 0 ≤ padd tk wg P am x ∧ padd tk wg P am x ≤ am := by
  refine ⟨padd_0 hw ha x, ?_⟩
  by_cases hx : x < 0 ∨ (P : Int) ≤ x
  · rw [padd_z hp hx]; exact ha
  · have := sumK_1 (f := fun i => padd tk wg P am i) (k := x.toNat) P (fun i _ => padd_0 hw ha _) (by omega)
    rw [padd_s hw ha hp (Nat.le_refl P)] at this
    have e : ((x.toNat : Nat) : Int) = x := by omega
    rw [e] at this
    exact this
theorem pall_c {tk' : Int → Prop} {wg' : Int → Int} : ∀ n : Nat, (∀ x : Int, 0 ≤ x → x < n → (tk x ↔ tk' x) ∧ wg x = wg' x) → pallK tk wg n = pallK tk' wg' n
  | 0, _ => rfl
  | n + 1, h => by
    rw [pallK_s, pallK_s, pall_c n (fun x h0 h1 => h x h0 (by omega)), (h n (by omega) (by omega)).2, propext (h n (by omega) (by omega)).1]
/-- what wraps -/
def w32 (x : Int) : Int := (Int32.ofInt x).toInt
theorem vi_w (x : Int) : vi (w32 x) = vi x := by
  show Value.int _ = Value.int _
  rw [w32, z_of]
theorem w32_r (x : Int) : zr (w32 x) := z_tr _
end SHR
