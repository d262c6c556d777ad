/-! Math.max, min, abs of ints -/
section ZM
variable {X : zX} {mt : zM} {pc pc' : Nat} {ls ls' st st' : List Value} {σ : zS} {Q : Option Value → zS → Prop}
theorem z_pure2
    (row : ∀ {ω : zW} {p : Program} {l : Launch} {e : Env} {R : Room} {s : State} {m : MethodId} {args : Array Value} {below : List Frame} {meth : Method} {c : Code} {H : Heap} {locs : List Loc} {cells slots : Nat} {Qf : State → Prop} (lsR : Array Slot),
      z_In mt p R s m args meth c → z_L ω mt.2.1 ls lsR → cells ≤ R.cells → slots ≤ R.slots → W p l e R s m args below meth c H locs cells slots Qf (F0 m pc' lsR (st'.map (z_e ω))) → W p l e R s m args below meth c H locs cells slots Qf (F0 m pc lsR (st.map (z_e ω))))
    (h : zE X mt pc' ls st' σ Q) : zE X mt pc ls st σ Q := by
  obtain ⟨r, σ', hQ, h1, h2, h3⟩ := h
  refine ⟨r, σ', hQ, h1, h2, ?_⟩
  intro ω p l e R s m args below meth c H locs cells slots Qf lsR hI hK1 hK2 hH hL hlo hc hs k
  exact row lsR hI hL (by omega) (by omega) (h3 ω p l e R s m args below meth c H locs cells slots Qf lsR hI hK1 hK2 hH hL hlo hc hs k)
theorem e_max {idx : Nat} {a b : Int} (hd : zD mt.1.2 pc (.invokestatic idx) 3 pc') (hlink : Cond.methodLink mt.1.1.cls idx Lib.Math.max.name ∈ zTB) (hst : Cond.static Lib.Math.max.name ∈ zTB) (hini : Cond.initialized "java/lang/Math" ∈ zTB) (hco : Cond.code Lib.Math.max.name Lib.Math.max.code 2 (some .int) ∈ zTB)
    (hfr : 1 ≤ mt.2.2.2.1) (hlo : 21 ≤ mt.2.2.2.2) (hrest : (st.map fun v => v.category).sum ≤ 8) (ha : zr a) (hb : zr b) (h : zE X mt pc' ls (vi (max a b) :: st) σ Q) : zE X mt pc ls (vi b :: vi a :: st) σ Q := by
  obtain ⟨hd, rfl⟩ := hd
  refine z_pure2 (@fun ω p l e R s m args below meth c H locs cells slots Qf lsR hI hL hc hs k => ?_) h
  have hts := hI.2.2.2.2.1
  refine va_mmax hI.1 hI.2.1 (by rw [hI.2.2.1]; exact hL.1.symm) hI.2.2.2.1 (hts _ hlink) (hts _ hst) (hts _ hini) (hts _ hco) (Nat.le_trans hfr hI.2.2.2.2.2.1) (by have := hI.2.2.2.2.2.2.1; rw [z_cats]; omega) hc hs hd ?_
  have e : (if Int32.ofInt a < Int32.ofInt b then Int32.ofInt b else Int32.ofInt a) = Int32.ofInt (max a b) := by
    by_cases hab : a < b
    · rw [if_pos ((zr_lt ha hb).mpr hab), Int.max_eq_right (by omega)]
    · rw [if_neg (fun q => hab ((zr_lt ha hb).mp q)), Int.max_eq_left (by omega)]
  rw [e]
  exact k
theorem e_min {idx : Nat} {a b : Int} (hd : zD mt.1.2 pc (.invokestatic idx) 3 pc') (hlink : Cond.methodLink mt.1.1.cls idx Lib.Math.min.name ∈ zTB) (hst : Cond.static Lib.Math.min.name ∈ zTB) (hini : Cond.initialized "java/lang/Math" ∈ zTB) (hco : Cond.code Lib.Math.min.name Lib.Math.min.code 2 (some .int) ∈ zTB)
    (hfr : 1 ≤ mt.2.2.2.1) (hlo : 21 ≤ mt.2.2.2.2) (hrest : (st.map fun v => v.category).sum ≤ 8) (ha : zr a) (hb : zr b) (h : zE X mt pc' ls (vi (min a b) :: st) σ Q) : zE X mt pc ls (vi b :: vi a :: st) σ Q := by
  obtain ⟨hd, rfl⟩ := hd
  refine z_pure2 (@fun ω p l e R s m args below meth c H locs cells slots Qf lsR hI hL hc hs k => ?_) h
  have hts := hI.2.2.2.2.1
  refine va_mmin hI.1 hI.2.1 (by rw [hI.2.2.1]; exact hL.1.symm) hI.2.2.2.1 (hts _ hlink) (hts _ hst) (hts _ hini) (hts _ hco) (Nat.le_trans hfr hI.2.2.2.2.2.1) (by have := hI.2.2.2.2.2.2.1; rw [z_cats]; omega) hc hs hd ?_
  have e : (if Int32.ofInt b < Int32.ofInt a then Int32.ofInt b else Int32.ofInt a) = Int32.ofInt (min a b) := by
    by_cases hab : b < a
    · rw [if_pos ((zr_lt hb ha).mpr hab), Int.min_eq_right (by omega)]
    · rw [if_neg (fun q => hab ((zr_lt hb ha).mp q)), Int.min_eq_left (by omega)]
  rw [e]
  exact k
theorem e_abs {idx : Nat} {a : Int} (hd : zD mt.1.2 pc (.invokestatic idx) 3 pc') (hlink : Cond.methodLink mt.1.1.cls idx Lib.Math.abs.name ∈ zTB) (hst : Cond.static Lib.Math.abs.name ∈ zTB) (hini : Cond.initialized "java/lang/Math" ∈ zTB) (hco : Cond.code Lib.Math.abs.name Lib.Math.abs.code 1 (some .int) ∈ zTB)
    (hfr : 1 ≤ mt.2.2.2.1) (hlo : 21 ≤ mt.2.2.2.2) (hrest : (st.map fun v => v.category).sum ≤ 8) (ha : zr a) (h : zE X mt pc' ls (vi (if 0 ≤ a then a else -a) :: st) σ Q) : zE X mt pc ls (vi a :: st) σ Q := by
  obtain ⟨hd, rfl⟩ := hd
  refine z_pure2 (@fun ω p l e R s m args below meth c H locs cells slots Qf lsR hI hL hc hs k => ?_) h
  have hts := hI.2.2.2.2.1
  refine va_mabs hI.1 hI.2.1 (by rw [hI.2.2.1]; exact hL.1.symm) hI.2.2.2.1 (hts _ hlink) (hts _ hst) (hts _ hini) (hts _ hco) (Nat.le_trans hfr hI.2.2.2.2.2.1) (by have := hI.2.2.2.2.2.2.1; rw [z_cats]; omega) hc hs hd ?_
  have hz : zr 0 := by constructor <;> omega
  have e : (if 0 ≤ Int32.ofInt a then Int32.ofInt a else 0 - Int32.ofInt a) = Int32.ofInt (if 0 ≤ a then a else -a) := by
    by_cases hab : 0 ≤ a
    · rw [if_pos (show (0 : Int32) ≤ Int32.ofInt a from (zr_le hz ha).mpr hab), if_pos hab]
    · rw [if_neg (fun q : (0 : Int32) ≤ Int32.ofInt a => hab ((zr_le hz ha).mp q)), if_neg hab, show (0 : Int32) = Int32.ofInt 0 from rfl, ← Int32.ofInt_sub, Int.zero_sub]
  rw [e]
  exact k
end ZM
