/-! THE CELLS AS NUMBERS (printed by wip/whole/gen/mem.py): 3 .. 38 the system's own, 39 .. 87 the reference's, from 88 on what comes later -/
/-- the references that never change -/
def cref (a j : Nat) : Nat := if a = 3 then [4, 0, 5, 0, 6, 0, 7, 10, 0, 11, 0, 0, 12, 0, 0, 20, 21, 25, 30, 0].getD j 0 else if a = 7 then [8, 9, 0].getD j 0 else if a = 12 then [13, 0, 0, 0].getD j 0 else if a = 14 then [15, 16, 0].getD j 0 else if a = 17 then [18, 19, 0].getD j 0 else if a = 21 then [22, 23, 24, 0].getD j 0 else if a = 25 then [26, 27, 0, 0, 28, 29].getD j 0 else if a = 31 then [32, 0, 0].getD j 0 else if a = 33 then [34, 0, 0].getD j 0 else if a = 35 then [36, 0, 0].getD j 0 else if a = 37 then [38, 0, 0].getD j 0 else if a = 39 then [0, 40, 0, 41, 42, 43, 44, 45, 46, 47, 0, 48, 49, 50, 51, 0, 52, 53, 0, 0, 0, 0, 0, 54, 55, 0, 0, 56, 57, 0, 58, 0, 59, 60, 61, 62, 0, 63, 64, 65, 66, 0, 67, 68, 69, 70, 71, 72, 73, 0, 0, 74, 75, 76, 77, 78, 79, 80, 0, 81, 82, 83, 84, 0, 85, 86, 87].getD j 0 else 0
theorem cref0 {a : Nat} (h : 40 ≤ a) (j : Nat) : cref a j = 0 := by
  unfold cref
  rw [if_neg (by omega), if_neg (by omega), if_neg (by omega), if_neg (by omega), if_neg (by omega), if_neg (by omega), if_neg (by omega), if_neg (by omega), if_neg (by omega), if_neg (by omega), if_neg (by omega), if_neg (by omega)]
abbrev zK : Type := (Nat × Nat) × (Nat → Nat × Nat)
abbrev zN : Type := Nat → Int → Int
def rf (z : Int) : Value := if z ≤ 0 then .null else .ref z.toNat
def z_isr (sp : Nat × Nat) (j : Nat) : Bool := if sp.1 < 13 then (match z_tyf sp.1 j with | .object _ => true | .array _ => true | _ => false) else decide (23 ≤ sp.1)
def zI (s : zK) (N : zN) : zS := (s.1, s.2, fun a j => if cref a j = 0 then (if z_isr (s.2 a) j = true then rf (N a j) else vi (N a j)) else .ref (cref a j))
def mup (N : zN) (a : Nat) (i x : Int) : zN := fun b j => if b = a ∧ j = i then x else N b j
def zA (s : zK) (a : Nat) (sp : Nat × Nat) : Prop := 3 ≤ a ∧ a < s.1.1 ∧ s.2 a = sp
def z_ns (s : zK) (sp : Nat × Nat) (sl : Nat) : zK := ((s.1.1 + 1, s.1.2 + sl), fun b => if b = s.1.1 then sp else s.2 b)
theorem zA.is {s : zK} {N : zN} {a : Nat} {sp : Nat × Nat} (h : zA s a sp) : zIs (zI s N) a sp := h
theorem zA.ns {s : zK} {a : Nat} {sp sp' : Nat × Nat} {sl : Nat} (h : zA s a sp) : zA (z_ns s sp' sl) a sp := ⟨h.1, Nat.lt_succ_of_lt h.2.1, by show (if a = s.1.1 then sp' else s.2 a) = sp; rw [if_neg (Nat.ne_of_lt h.2.1)]; exact h.2.2⟩
theorem mup_self (N : zN) (a : Nat) (i x : Int) : mup N a i x a i = x := by simp [mup]
theorem mup_ne {N : zN} {a b : Nat} {i j x : Int} (h : ¬ (b = a ∧ j = i)) : mup N a i x b j = N b j := by simp only [mup, if_neg h]
theorem mup_cell {N : zN} {a b : Nat} {i j x : Int} (h : b ≠ a) : mup N a i x b j = N b j := mup_ne (fun q => h q.1)
theorem mup_slot {N : zN} {a : Nat} {i j x : Int} (h : j ≠ i) : mup N a i x a j = N a j := mup_ne (fun q => h q.2)
theorem z_pI {s : zK} {N : zN} {a k : Nat} {i x : Int} {v : Value} (hi : (k : Int) = i) (hc : cref a k = 0) (hv : (if z_isr (s.2 a) k = true then rf x else vi x) = v) : z_put (zI s N) a k v = zI s (mup N a i x) := by
  unfold z_put zI
  congr 2
  funext b j
  by_cases hb : b = a ∧ j = k
  · obtain ⟨rfl, rfl⟩ := hb
    rw [if_pos ⟨rfl, rfl⟩, if_pos hc, ← hi, mup_self, hv]
  · rw [if_neg hb]
    have e : mup N a i x b j = N b j := mup_ne (fun q => hb ⟨q.1, by have := q.2; omega⟩)
    rw [e]
section ZI
variable {X : zX} {mt : zM} {pc pc' : Nat} {ls st : List Value} {s : zK} {N : zN} {Q : Option Value → zS → Prop}
theorem i_getI {ci k idx a : Nat} {k' x : Int} {fin : Bool} {ty : FieldType} (hd : zD mt.1.2 pc (.getfield idx) 3 pc') (hf : z_fld mt.1.1.cls idx ci k fin ty) (ha : zA s a (ci, 0)) (hc : cref a k = 0) (hr : z_isr (ci, 0) k = false) (hk : (k : Int) = k') (hx : N a k' = x) (h : zE X mt pc' ls (vi x :: st) (zI s N) Q) : zE X mt pc ls (.ref a :: st) (zI s N) Q :=
  e_getf hd hf ha.is (by
    show (if cref a k = 0 then (if z_isr (s.2 a) k = true then rf (N a k) else vi (N a k)) else .ref (cref a k)) = vi x
    rw [if_pos hc, ha.2.2, hr, if_neg (by decide), hk, hx]) h
theorem i_getC {ci k idx a r : Nat} {fin : Bool} {ty : FieldType} (hd : zD mt.1.2 pc (.getfield idx) 3 pc') (hf : z_fld mt.1.1.cls idx ci k fin ty) (ha : zA s a (ci, 0)) (hc : cref a k = r) (hr : r ≠ 0) (h : zE X mt pc' ls (.ref r :: st) (zI s N) Q) : zE X mt pc ls (.ref a :: st) (zI s N) Q :=
  e_getf hd hf ha.is (by
    show (if cref a k = 0 then (if z_isr (s.2 a) k = true then rf (N a k) else vi (N a k)) else .ref (cref a k)) = .ref r
    rw [if_neg (by rw [hc]; exact hr), hc]) h
theorem i_getR {ci k idx a r : Nat} {k' : Int} {fin : Bool} {ty : FieldType} (hd : zD mt.1.2 pc (.getfield idx) 3 pc') (hf : z_fld mt.1.1.cls idx ci k fin ty) (ha : zA s a (ci, 0)) (hc : cref a k = 0) (hr : z_isr (ci, 0) k = true) (hk : (k : Int) = k') (hx : N a k' = (r : Int)) (h0 : r ≠ 0) (h : zE X mt pc' ls (.ref r :: st) (zI s N) Q) : zE X mt pc ls (.ref a :: st) (zI s N) Q :=
  e_getf hd hf ha.is (by
    show (if cref a k = 0 then (if z_isr (s.2 a) k = true then rf (N a k) else vi (N a k)) else .ref (cref a k)) = .ref r
    rw [if_pos hc, ha.2.2, hr, if_pos rfl, hk, hx, rf, if_neg (by omega)]
    rfl) h
theorem i_getN {ci k idx a : Nat} {k' : Int} {fin : Bool} {ty : FieldType} (hd : zD mt.1.2 pc (.getfield idx) 3 pc') (hf : z_fld mt.1.1.cls idx ci k fin ty) (ha : zA s a (ci, 0)) (hc : cref a k = 0) (hr : z_isr (ci, 0) k = true) (hk : (k : Int) = k') (hx : N a k' ≤ 0) (h : zE X mt pc' ls (.null :: st) (zI s N) Q) : zE X mt pc ls (.ref a :: st) (zI s N) Q :=
  e_getf hd hf ha.is (by
    show (if cref a k = 0 then (if z_isr (s.2 a) k = true then rf (N a k) else vi (N a k)) else .ref (cref a k)) = .null
    rw [if_pos hc, ha.2.2, hr, if_pos rfl, hk, rf, if_pos hx]) h
theorem i_putI {ci k idx a : Nat} {k' x : Int} {fin : Bool} {ty : FieldType} (hd : zD mt.1.2 pc (.putfield idx) 3 pc') (hf : z_fld mt.1.1.cls idx ci k fin ty) (hfin : fin = false ∨ (mt.1.1.name = "<init>" ∧ ∃ N T, vwCl[ci]? = some (mt.1.1.cls, T, N))) (ha : zA s a (ci, 0)) (hc : cref a k = 0) (hr : z_isr (ci, 0) k = false) (hk : (k : Int) = k') (hn : narrow ty (vi x) = vi x) (hfit : fits ty (vi x) = true) (h : zE X mt pc' ls st (zI s (mup N a k' x)) Q) : zE X mt pc ls (vi x :: .ref a :: st) (zI s N) Q :=
  e_putf hd hf hfin ha.is hn hfit (by rw [z_pI (x := x) hk hc (by rw [ha.2.2, hr, if_neg (by decide)])]; exact h)
theorem i_putR {ci k idx a r : Nat} {k' : Int} {fin : Bool} {ty : FieldType} (hd : zD mt.1.2 pc (.putfield idx) 3 pc') (hf : z_fld mt.1.1.cls idx ci k fin ty) (hfin : fin = false ∨ (mt.1.1.name = "<init>" ∧ ∃ N T, vwCl[ci]? = some (mt.1.1.cls, T, N))) (ha : zA s a (ci, 0)) (hc : cref a k = 0) (hr : z_isr (ci, 0) k = true) (hk : (k : Int) = k') (h0 : r ≠ 0) (hn : narrow ty (.ref r) = .ref r) (hfit : fits ty (.ref r) = true) (h : zE X mt pc' ls st (zI s (mup N a k' r)) Q) : zE X mt pc ls (.ref r :: .ref a :: st) (zI s N) Q :=
  e_putf hd hf hfin ha.is hn hfit (by rw [z_pI (x := (r : Int)) hk hc (by rw [ha.2.2, hr, if_pos rfl, rf, if_neg (by omega)]; rfl)]; exact h)
theorem i_putN {ci k idx a : Nat} {k' : Int} {fin : Bool} {ty : FieldType} (hd : zD mt.1.2 pc (.putfield idx) 3 pc') (hf : z_fld mt.1.1.cls idx ci k fin ty) (hfin : fin = false ∨ (mt.1.1.name = "<init>" ∧ ∃ N T, vwCl[ci]? = some (mt.1.1.cls, T, N))) (ha : zA s a (ci, 0)) (hc : cref a k = 0) (hr : z_isr (ci, 0) k = true) (hk : (k : Int) = k') (hn : narrow ty .null = .null) (hfit : fits ty .null = true) (h : zE X mt pc' ls st (zI s (mup N a k' 0)) Q) : zE X mt pc ls (.null :: .ref a :: st) (zI s N) Q :=
  e_putf hd hf hfin ha.is hn hfit (by rw [z_pI (x := 0) hk hc (by rw [ha.2.2, hr, if_pos rfl]; rfl)]; exact h)
theorem z_rd {a k len : Nat} {i : Int} (ha : zA s a (k, len)) (hc : ∀ j, cref a j = 0) (h0 : 0 ≤ i) (hk : z_isr (k, len) i.toNat = false) : (zI s N).2.2 a i.toNat = vi (N a i) := by
  show (if cref a i.toNat = 0 then (if z_isr (s.2 a) i.toNat = true then rf (N a i.toNat) else vi (N a i.toNat)) else .ref (cref a i.toNat)) = vi (N a i)
  rw [if_pos (hc _), ha.2.2, hk, if_neg (by decide), Int.toNat_of_nonneg h0]
theorem i_iald {a len : Nat} {i x : Int} (hd : zD mt.1.2 pc .iaload 1 pc') (ha : zA s a (20, len)) (hc : ∀ j, cref a j = 0) (h0 : 0 ≤ i) (h1 : i < len) (hl : len ≤ 2147483647) (hx : N a i = x) (h : zE X mt pc' ls (vi x :: st) (zI s N) Q) : zE X mt pc ls (vi i :: .ref a :: st) (zI s N) Q :=
  e_iald hd ha.is h0 h1 hl ((z_rd ha hc h0 rfl).trans (by rw [hx])) h
theorem i_zald {a len : Nat} {i x : Int} (hd : zD mt.1.2 pc .baload 1 pc') (ha : zA s a (21, len)) (hc : ∀ j, cref a j = 0) (h0 : 0 ≤ i) (h1 : i < len) (hl : len ≤ 2147483647) (hx : N a i = x) (h : zE X mt pc' ls (vi x :: st) (zI s N) Q) : zE X mt pc ls (vi i :: .ref a :: st) (zI s N) Q :=
  e_zald hd ha.is h0 h1 hl ((z_rd ha hc h0 rfl).trans (by rw [hx])) h
theorem i_bald {a len : Nat} {i x : Int} (hd : zD mt.1.2 pc .baload 1 pc') (ha : zA s a (22, len)) (hc : ∀ j, cref a j = 0) (h0 : 0 ≤ i) (h1 : i < len) (hl : len ≤ 2147483647) (hx : N a i = x) (h : zE X mt pc' ls (vi x :: st) (zI s N) Q) : zE X mt pc ls (vi i :: .ref a :: st) (zI s N) Q :=
  e_bald hd ha.is h0 h1 hl ((z_rd ha hc h0 rfl).trans (by rw [hx])) h
theorem i_aald {a k len r : Nat} {i : Int} (hd : zD mt.1.2 pc .aaload 1 pc') (ha : zA s a (k, len)) (hk : 23 ≤ k) (hc : ∀ j, cref a j = 0) (h0 : 0 ≤ i) (h1 : i < len) (hl : len ≤ 2147483647) (hx : N a i = (r : Int)) (hr : r ≠ 0) (h : zE X mt pc' ls (.ref r :: st) (zI s N) Q) : zE X mt pc ls (vi i :: .ref a :: st) (zI s N) Q := by
  refine e_aald hd ha.is hk h0 h1 hl ?_ h
  show (if cref a i.toNat = 0 then (if z_isr (s.2 a) i.toNat = true then rf (N a i.toNat) else vi (N a i.toNat)) else .ref (cref a i.toNat)) = .ref r
  have e : z_isr (k, len) i.toNat = true := by
    unfold z_isr
    rw [if_neg (by show ¬ k < 13; omega)]
    simpa using hk
  rw [if_pos (hc _), ha.2.2, e, if_pos rfl, Int.toNat_of_nonneg h0, hx, rf, if_neg (by omega)]
  rfl
theorem z_cast {i : Int} (h : 0 ≤ i) : ((i.toNat : Nat) : Int) = i := Int.toNat_of_nonneg h
theorem i_iast {a len : Nat} {i x : Int} (hd : zD mt.1.2 pc .iastore 1 pc') (ha : zA s a (20, len)) (hc : ∀ j, cref a j = 0) (h0 : 0 ≤ i) (h1 : i < len) (hl : len ≤ 2147483647) (h : zE X mt pc' ls st (zI s (mup N a i x)) Q) : zE X mt pc ls (vi x :: vi i :: .ref a :: st) (zI s N) Q :=
  e_iast hd ha.is h0 h1 hl (by rw [z_pI (x := x) (z_cast h0) (hc _) (by rw [ha.2.2]; rfl)]; exact h)
theorem i_zast {a len : Nat} {i x : Int} (hd : zD mt.1.2 pc .bastore 1 pc') (ha : zA s a (21, len)) (hc : ∀ j, cref a j = 0) (h0 : 0 ≤ i) (h1 : i < len) (hl : len ≤ 2147483647) (hx : narrow .boolean (vi x) = vi x) (h : zE X mt pc' ls st (zI s (mup N a i x)) Q) : zE X mt pc ls (vi x :: vi i :: .ref a :: st) (zI s N) Q :=
  e_zast hd ha.is h0 h1 hl hx (by rw [z_pI (x := x) (z_cast h0) (hc _) (by rw [ha.2.2]; rfl)]; exact h)
theorem i_bast {a len : Nat} {i x : Int} (hd : zD mt.1.2 pc .bastore 1 pc') (ha : zA s a (22, len)) (hc : ∀ j, cref a j = 0) (h0 : 0 ≤ i) (h1 : i < len) (hl : len ≤ 2147483647) (hx : narrow .byte (vi x) = vi x) (h : zE X mt pc' ls st (zI s (mup N a i x)) Q) : zE X mt pc ls (vi x :: vi i :: .ref a :: st) (zI s N) Q :=
  e_bast hd ha.is h0 h1 hl hx (by rw [z_pI (x := x) (z_cast h0) (hc _) (by rw [ha.2.2]; rfl)]; exact h)
theorem i_aast {a b k ci N0 len : Nat} {C : String} {T : u_T} {i : Int} (hd : zD mt.1.2 pc .aastore 1 pc') (ha : zA s a (k, len)) (hk : 23 ≤ k) (hb : zA s b (ci, 0)) (hkd : z_kd ci N0 C T) (hty : z_ty k = .object C) (hc : ∀ j, cref a j = 0) (h0 : 0 ≤ i) (h1 : i < len) (hl : len ≤ 2147483647) (h : zE X mt pc' ls st (zI s (mup N a i b)) Q) : zE X mt pc ls (.ref b :: vi i :: .ref a :: st) (zI s N) Q := by
  refine e_aast hd ha.is hk hb.is hkd hty h0 h1 hl ?_
  have e : z_isr (k, len) i.toNat = true := by
    unfold z_isr
    rw [if_neg (by show ¬ k < 13; omega)]
    simpa using hk
  have hb3 := hb.1
  rw [z_pI (x := (b : Int)) (z_cast h0) (hc _) (by rw [ha.2.2, e, if_pos rfl, rf, if_neg (by omega)]; rfl)]
  exact h
theorem i_alen {a k len : Nat} (hd : zD mt.1.2 pc .arraylength 1 pc') (ha : zA s a (k, len)) (hk : 20 ≤ k) (h : zE X mt pc' ls (vi len :: st) (zI s N) Q) : zE X mt pc ls (.ref a :: st) (zI s N) Q := e_alen hd ha.is hk h
theorem z_nI {sp : Nat × Nat} {sl : Nat} {f : Nat → Value} (hc : 40 ≤ s.1.1) (hz : ∀ j, N s.1.1 j = 0) (hf : ∀ j, f j = if z_isr sp j = true then .null else vi 0) : z_new (zI s N) sp sl f = zI (z_ns s sp sl) N := by
  unfold z_new zI z_ns
  congr 2
  funext b
  by_cases hb : b = s.1.1
  · funext j
    show (if b = s.1.1 then f else _) j = _
    subst hb
    rw [if_pos rfl, if_pos (cref0 hc j)]
    show f j = if z_isr (if s.1.1 = s.1.1 then sp else s.2 s.1.1) j = true then rf (N s.1.1 j) else vi (N s.1.1 j)
    rw [if_pos rfl, hz, hf]
    rfl
  · show (if b = s.1.1 then f else _) = _
    rw [if_neg hb]
    funext j
    show _ = if cref b j = 0 then (if z_isr (if b = s.1.1 then sp else s.2 b) j = true then rf (N b j) else vi (N b j)) else .ref (cref b j)
    rw [if_neg hb]
theorem i_new {ci N0 idx : Nat} {C : String} {T : u_T} (hd : zD mt.1.2 pc (.new idx) 3 pc') (hkd : z_kd ci N0 C T) (hcl : Cond.classLink mt.1.1.cls idx C ∈ zTB) (hinst : Cond.instantiable C N0 ∈ zTB) (hini : Cond.initialized C ∈ zTB) (hc : 40 ≤ s.1.1) (hz : ∀ j, N s.1.1 j = 0) (hf : ∀ j, z_df ci j = if z_isr (ci, 0) j = true then .null else vi 0) (h : zE X mt pc' ls (.ref s.1.1 :: st) (zI (z_ns s (ci, 0) N0) N) Q) : zE X mt pc ls st (zI s N) Q :=
  e_new hd hkd hcl hinst hini (by rw [z_nI hc hz hf]; exact h)
theorem i_newa {k : Nat} {n : Int} {at0 : ArrayType} (hd : zD mt.1.2 pc (.newarray at0) 2 pc') (hty : newarray.typeOf at0 = z_ty k) (hk : 20 ≤ k ∧ k ≤ 22) (harr : Cond.arrayClass (newarray.typeOf at0) ∈ zTB) (h0 : 0 ≤ n) (h1 : n ≤ 65536) (hc : 40 ≤ s.1.1) (hz : ∀ j, N s.1.1 j = 0) (h : zE X mt pc' ls (.ref s.1.1 :: st) (zI (z_ns s (k, n.toNat) n.toNat) N) Q) : zE X mt pc ls (vi n :: st) (zI s N) Q :=
  e_newa hd hty hk harr h0 h1 (by
    rw [z_nI hc hz (fun j => by
      have e : z_isr (k, n.toNat) j = false := by
        unfold z_isr
        rw [if_neg (by show ¬ k < 13; omega)]
        simp
        omega
      rw [e]
      rfl)]
    exact h)
end ZI
/-! truth values -/
noncomputable def bi (p : Prop) : Int := by
  classical
  exact if p then 1 else 0
theorem bi_t {p : Prop} (h : p) : bi p = 1 := by simp [bi, h]
theorem bi_f {p : Prop} (h : ¬ p) : bi p = 0 := by simp [bi, h]
theorem bi_r (p : Prop) : 0 ≤ bi p ∧ bi p ≤ 1 := by
  by_cases h : p
  · rw [bi_t h]; omega
  · rw [bi_f h]; omega
theorem bi_n (p : Prop) : narrow .boolean (vi (bi p)) = vi (bi p) := by
  by_cases h : p
  · rw [bi_t h]; rfl
  · rw [bi_f h]; rfl
theorem bi_c {p q : Prop} (h : p ↔ q) : bi p = bi q := by
  by_cases hp : p
  · rw [bi_t hp, bi_t (h.mp hp)]
  · rw [bi_f hp, bi_f (fun z => hp (h.mpr z))]
section ZT
variable {X : zX} {mt : zM} {pc pc' tgt : Nat} {ls ls' st st' : List Value} {σ σ' : zS} {Q : Option Value → zS → Prop} {p : Prop}
theorem e_ifb_eq {off : Int} (hd : zJ mt.1.2 pc (.ifCond .eq off) off pc' tgt) (ht : ¬ p → zE X mt tgt ls st σ Q) (hf : p → zE X mt pc' ls st σ Q) : zE X mt pc ls (vi (bi p) :: st) σ Q := by
  by_cases hp : p
  · rw [bi_t hp]
    exact e_if_eq hd (by constructor <;> omega) (fun h => absurd h (by omega)) (fun _ => hf hp)
  · rw [bi_f hp]
    exact e_if_eq hd (by constructor <;> omega) (fun _ => ht hp) (fun h => absurd rfl h)
theorem e_ifb_ne {off : Int} (hd : zJ mt.1.2 pc (.ifCond .ne off) off pc' tgt) (ht : p → zE X mt tgt ls st σ Q) (hf : ¬ p → zE X mt pc' ls st σ Q) : zE X mt pc ls (vi (bi p) :: st) σ Q := by
  by_cases hp : p
  · rw [bi_t hp]
    exact e_if_ne hd (by constructor <;> omega) (fun _ => ht hp) (fun h => absurd h (by omega))
  · rw [bi_f hp]
    exact e_if_ne hd (by constructor <;> omega) (fun h => absurd rfl h) (fun _ => hf hp)
theorem zqT (h : Q (some (vi (bi p))) σ) (hp : p) : Q (some (vi 1)) σ := by rw [bi_t hp] at h; exact h
theorem zqF (h : Q (some (vi (bi p))) σ) (hp : ¬ p) : Q (some (vi 0)) σ := by rw [bi_f hp] at h; exact h
theorem zqI {x y : Int} (h : Q (some (vi x)) σ) (e : x = y) : Q (some (vi y)) σ := e ▸ h
theorem zqS {r r' : Option Value} (h : Q r σ) (e : r = r') (e' : σ = σ') : Q r' σ' := e ▸ e' ▸ h
theorem zEe (h : zE X mt pc ls st σ Q) (e : ls = ls') (e' : σ = σ') : zE X mt pc ls' st σ' Q := e ▸ e' ▸ h
/-- a loop that counts up -/
theorem z_for {P : Nat → Prop} (B : Nat) (hs : ∀ i, i < B → P (i + 1) → P i) (he : P B) : P 0 := by
  have key : ∀ n i, i + n = B → P i := by
    intro n
    induction n with
    | zero => intro i hi; have : i = B := by omega
              subst this; exact he
    | succ n ih => intro i hi; exact hs i (by omega) (ih (i + 1) (by omega))
  exact key B 0 (by omega)
end ZT
/-- what the cells below 88 are -/
def shp (a : Nat) : Nat × Nat := [(0, 0), (0, 0), (0, 0), (11, 0), (20, 20), (23, 48), (20, 8), (0, 0), (20, 9), (20, 9), (26, 20), (24, 20), (10, 0), (22, 40), (3, 0), (20, 3), (20, 3), (3, 0), (20, 3), (20, 3), (25, 4), (6, 0), (20, 40), (20, 40), (21, 48), (1, 0), (20, 6), (20, 6), (20, 64), (20, 64), (20, 48), (7, 0), (20, 20), (7, 0), (20, 20), (7, 0), (20, 20), (7, 0), (20, 20), (12, 0), (20, 20), (20, 48), (20, 48), (20, 48), (20, 48), (21, 48), (20, 48), (20, 48), (20, 600), (20, 600), (20, 600), (20, 40), (20, 3), (20, 3), (20, 3), (20, 3), (20, 9), (20, 9), (20, 8), (20, 4000), (20, 4000), (20, 4000), (20, 4000), (20, 20), (20, 20), (20, 20), (20, 20), (20, 6), (20, 6), (20, 6), (20, 48), (20, 8), (21, 8), (20, 48), (20, 20), (20, 20), (20, 20), (21, 20), (21, 20), (21, 960), (20, 960), (20, 48), (20, 4), (20, 4), (20, 80), (20, 40), (20, 40), (21, 48)].getD a (0, 0)
/-- the cells that the two objects begin with stand -/
def zB0 (s : zK) : Prop := 88 ≤ s.1.1 ∧ ∀ a, 3 ≤ a → a < 88 → s.2 a = shp a
theorem zB0.at {s : zK} (h : zB0 s) (a : Nat) (h1 : 3 ≤ a) (h2 : a < 88) {sp : Nat × Nat} (h3 : shp a = sp) : zA s a sp := ⟨h1, Nat.lt_of_lt_of_le h2 h.1, (h.2 a h1 h2).trans h3⟩
