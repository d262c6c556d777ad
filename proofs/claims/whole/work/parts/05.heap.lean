/-! ROWS THAT READ AND WRITE CELLS -/
def zIs (σ : zS) (a : Nat) (sp : Nat × Nat) : Prop := 3 ≤ a ∧ a < σ.1.1 ∧ σ.2.1 a = sp
def z_put (σ : zS) (a k : Nat) (v : Value) : zS := (σ.1, σ.2.1, fun b j => if b = a ∧ j = k then v else σ.2.2 b j)
def z_new (σ : zS) (sp : Nat × Nat) (sl : Nat) (f : Nat → Value) : zS := ((σ.1.1 + 1, σ.1.2 + sl), (fun b => if b = σ.1.1 then sp else σ.2.1 b), fun b => if b = σ.1.1 then f else σ.2.2 b)
def z_tyf (ci : Nat) : Nat → FieldType := if ci = 0 then tyX0 else if ci = 1 then tyX1 else if ci = 2 then tyX2 else if ci = 3 then tyX3 else if ci = 4 then tyX4 else if ci = 5 then tyX5 else if ci = 6 then tyX6 else if ci = 7 then tyX7 else if ci = 8 then tyX8 else if ci = 9 then tyX9 else if ci = 10 then tyX10 else if ci = 11 then tyX11 else tyX12
def z_df (ci : Nat) : Nat → Value := fun j => defaultValue (z_tyf ci j)
/-- what is known of a kind of object -/
def z_kd (ci N : Nat) (C : String) (T : u_T) : Prop := vwCl[ci]? = some (C, T, N) ∧ ci < 13 ∧ (∀ w ∈ u_ws C T N, w ∈ zTB) ∧ (∀ k, k < N → parseFieldDescriptor (T k).2.2.1 = some (z_tyf ci k)) ∧ (∀ a, a < N → ∀ b, b < N → a ≠ b → (T a).2.1 ≠ (T b).2.1)
/-- entry idx of own's pool names field k of kind ci -/
def z_fld (own : String) (idx ci k : Nat) (fin : Bool) (ty : FieldType) : Prop := ∃ (N : Nat) (C : String) (T : u_T), z_kd ci N C T ∧ k < N ∧ Cond.fieldLink own idx (T k).1 (T k).2.1 (T k).2.2.1 ∈ zTB ∧ (T k).2.2.2 = fin ∧ z_tyf ci k = ty ∧ (T k).1 = C
theorem z_ad3 {ω : zW} {a : Nat} (h : 3 ≤ a) : z_ad ω a = z_B ω + (a - 3) := by
  unfold z_ad
  rw [if_neg (by omega), if_neg (by omega), if_neg (by omega)]
theorem z_below {ω : zW} {a q : Nat} (h : 3 ≤ a) (hq : q < z_B ω) : q ≠ z_ad ω a := by
  rw [z_ad3 h]
  omega
theorem z_at_get {ω : zW} {σ : zS} {H : Heap} {a : Nat} {sp : Nat × Nat} (hH : z_H ω σ H) (ha : zIs σ a sp) : z_at ω (z_B ω + (a - 3)) sp (σ.2.2 a) H := by
  obtain ⟨h1, h2, rfl⟩ := ha
  exact hH.2.2 a h1 h2
theorem z_K2.kept {ω : zW} {X : zX} {U : State} {H H1 : Heap} (h : z_K2 ω X U H) (hq : ∀ q, q < z_B ω → H1[q]? = H[q]?) : z_K2 ω X U H1 := by
  obtain ⟨h1, h2, h3, h4⟩ := h
  exact ⟨h1.kept (fun a _ ha => hq a (by omega)), h2.kept (fun a _ ha => hq a (by omega)), h3.kept (hq _ h4), h4⟩
theorem z_at.kept {ω : zW} {q : Nat} {sp : Nat × Nat} {h : Nat → Value} {H H1 : Heap} (z : z_at ω q sp h H) (hq : H1[q]? = H[q]?) : z_at ω q sp h H1 := by
  refine ⟨fun hs => ?_, fun hs => ?_⟩
  · obtain ⟨r, h1, h2⟩ := z.1 hs
    exact ⟨r, h1, h2.kept hq⟩
  · obtain ⟨h1, h2, h3⟩ := z.2 hs
    exact ⟨h1, h2, hq.trans h3⟩
theorem z_H_put {ω : zW} {σ : zS} {H H1 : Heap} {a k : Nat} {v : Value} (hH : z_H ω σ H) (ha : 3 ≤ a) (han : a < σ.1.1) (hat : z_at ω (z_B ω + (a - 3)) (σ.2.1 a) (fun j => if j = k then v else σ.2.2 a j) H1) (hsz : H1.size = H.size) (hoff : ∀ q, q ≠ z_B ω + (a - 3) → H1[q]? = H[q]?) : z_H ω (z_put σ a k v) H1 := by
  refine ⟨hH.1, by rw [hsz]; exact hH.2.1, fun b hb hbn => ?_⟩
  by_cases hba : b = a
  · subst hba
    have e : (z_put σ b k v).2.2 b = (fun j => if j = k then v else σ.2.2 b j) := by
      funext j
      simp [z_put]
    rw [e]
    exact hat
  · have e : (z_put σ a k v).2.2 b = σ.2.2 b := by
      funext j
      simp [z_put, hba]
    rw [e]
    exact (hH.2.2 b hb hbn).kept (hoff _ (by omega))
theorem z_H_new {ω : zW} {σ : zS} {H H1 : Heap} {sp : Nat × Nat} {sl : Nat} {f : Nat → Value} (hH : z_H ω σ H) (hat : z_at ω H.size sp f H1) (hsz : H1.size = H.size + 1) (hoff : ∀ q, q < H.size → H1[q]? = H[q]?) : z_H ω (z_new σ sp sl f) H1 := by
  obtain ⟨h1, h2, h3⟩ := hH
  refine ⟨by show 3 ≤ σ.1.1 + 1; omega, by show _ = z_B ω + (σ.1.1 + 1); omega, fun b hb hbn => ?_⟩
  have hbn : b < σ.1.1 + 1 := hbn
  by_cases hba : b = σ.1.1
  · subst hba
    have e1 : (z_new σ sp sl f).2.2 σ.1.1 = f := by simp [z_new]
    have e2 : (z_new σ sp sl f).2.1 σ.1.1 = sp := by simp [z_new]
    rw [e1, e2, show z_B ω + (σ.1.1 - 3) = H.size by omega]
    exact hat
  · have e1 : (z_new σ sp sl f).2.2 b = σ.2.2 b := by simp [z_new, hba]
    have e2 : (z_new σ sp sl f).2.1 b = σ.2.1 b := by simp [z_new, hba]
    rw [e1, e2]
    exact (h3 b hb (by omega)).kept (hoff _ (by omega))
theorem z_narrow {ω : zW} {ty : FieldType} {v : Value} (h : narrow ty v = v) : narrow ty (z_e ω v) = z_e ω v := by
  cases v <;> first | exact h | (cases ty <;> rfl)
theorem z_fits {ω : zW} {ty : FieldType} {v : Value} (h : fits ty v = true) : fits ty (z_e ω v) = true := by
  cases v <;> first | exact h | (cases ty <;> first | exact h | (simp [fits] at h))
theorem z_nat {i : Int} (h0 : 0 ≤ i) (h1 : i ≤ 2147483647) : (Int32.ofInt i).toNatClampNeg = i.toNat := by
  show (Int32.ofInt i).toInt.toNat = i.toNat
  rw [z32 (by omega) h1]
theorem z_inn {i : Int} {len : Nat} (h0 : 0 ≤ i) (h1 : i < len) (hl : len ≤ 2147483647) : ¬ (Int32.ofInt i < 0 ∨ len ≤ (Int32.ofInt i).toNatClampNeg) := by
  rw [z_nat h0 (by omega)]
  rintro (h | h)
  · rw [show (0 : Int32) = Int32.ofInt 0 from rfl, zr_lt (by constructor <;> omega) (by constructor <;> omega)] at h
    omega
  · omega
theorem z_arrOf {ω : zW} {s : State} (hK : z_K1 ω s) {k : Nat} (h1 : 20 ≤ k) (h2 : k ≤ 26) : ArrOfT s (ω.2.1 k) (z_ty k) ∧ va_RA s (ω.2.1 k) (z_ty k) := by
  have h := hK.1.2 (k - 20) (ω.2.1 k, z_ty k) (by
    have hk : k = 20 ∨ k = 21 ∨ k = 22 ∨ k = 23 ∨ k = 24 ∨ k = 25 ∨ k = 26 := by omega
    rcases hk with rfl | rfl | rfl | rfl | rfl | rfl | rfl <;> rfl)
  exact h
theorem z_isref {k : Nat} (h1 : 23 ≤ k) (h2 : k ≤ 26) : (z_ty k).isReference = true := by
  have h : k = 23 ∨ k = 24 ∨ k = 25 ∨ k = 26 := by omega
  rcases h with rfl | rfl | rfl | rfl <;> rfl
section ZH
variable {X : zX} {mt : zM} {pc pc' tgt : Nat} {ls ls' st st' : List Value} {σ σ2 : zS} {Q : Option Value → zS → Prop}
/-- an instruction that changes cells -/
theorem z_step {dc ds : Nat} (hdc : σ2.1.1 = σ.1.1 + dc) (hds : σ2.1.2 = σ.1.2 + ds)
    (row : ∀ {ω : zW} {p : Program} {l : Launch} {e : Env} {R : Room} {s : State} {m : MethodId} {args : Array Value} {below : List Frame} {meth : Method} {c : Code} {H : Heap} {locs : List Loc} {cells slots : Nat} {Qf : State → Prop} (lsR : Array Slot),
      z_In mt p R s m args meth c → z_K1 ω s → z_K2 ω X s H → z_H ω σ H → (∀ q ∈ locs, z_B ω ≤ q.base) → cells + dc ≤ R.cells → slots + ds ≤ R.slots →
      (∀ (H2 : Heap) (locs2 : List Loc), z_K2 ω X s H2 → z_H ω σ2 H2 → (∀ q ∈ locs2, z_B ω ≤ q.base) → W p l e R s m args below meth c H2 locs2 (cells + dc) (slots + ds) Qf (F0 m pc' lsR (st'.map (z_e ω)))) →
      W p l e R s m args below meth c H locs cells slots Qf (F0 m pc lsR (st.map (z_e ω))))
    (h : zE X mt pc' ls st' σ2 Q) : zE X mt pc ls st σ Q := by
  obtain ⟨r, σ', hQ, h1, h2, h3⟩ := h
  refine ⟨r, σ', hQ, by omega, by omega, ?_⟩
  intro ω p l e R s m args below meth c H locs cells slots Qf lsR hI hK1 hK2 hH hL hlo hc hs k
  have e1 : cells + dc + (σ'.1.1 - σ2.1.1) = cells + (σ'.1.1 - σ.1.1) := by omega
  have e2 : slots + ds + (σ'.1.2 - σ2.1.2) = slots + (σ'.1.2 - σ.1.2) := by omega
  refine row lsR hI hK1 hK2 hH hlo (by omega) (by omega) (fun H2 locs2 hK2' hH2 hlo2 => ?_)
  refine h3 ω p l e R s m args below meth c H2 locs2 (cells + dc) (slots + ds) Qf lsR hI hK1 hK2' hH2 hL hlo2 (by omega) (by omega) ?_
  rw [e1, e2]
  exact k
theorem e_getf {ci k idx a : Nat} {fin : Bool} {ty : FieldType} {v : Value} (hd : zD mt.1.2 pc (.getfield idx) 3 pc') (hf : z_fld mt.1.1.cls idx ci k fin ty) (ha : zIs σ a (ci, 0)) (hv : σ.2.2 a k = v) (h : zE X mt pc' ls (v :: st) σ Q) : zE X mt pc ls (.ref a :: st) σ Q := by
  obtain ⟨hd, rfl⟩ := hd
  obtain ⟨N, C, T, ⟨hc, hci, hin, hty, hnm⟩, hk, hlink, -⟩ := hf
  refine z_pure (@fun ω p l e R s m args below meth c H locs cells slots Qf lsR hI hK1 hK2 hH hL kk => ?_) h
  obtain ⟨r, h1, cell, q1, q2, q3, q4⟩ := (z_at_get hH ha).1 hci
  have hr : r = (C, T, N) := Option.some.inj (h1.symm.trans hc)
  subst hr
  obtain ⟨hS, hfc, kC, hkC, hkind⟩ := hK1.1.1 ci _ hc
  obtain ⟨cf, kf, fi, f, hi, hsl⟩ := hS k hk
  refine W.getf (g := F0 m pc lsR (.ref (z_ad ω a) :: st.map (z_e ω))) hI.1 hI.2.1 hI.2.2.2.1 (hI.2.2.2.2.1 _ hlink) hi (u_facts hfc hkC (u_lays hI.2.2.2.2.1 hin hk) hi).1 (a := z_ad ω a) (cell := cell) (v := z_e ω v) (by rw [z_ad3 ha.1]; exact q1) (by rw [q3]; exact fun h => by cases h) ?_ rfl rfl hd (kk lsR hL)
  rw [hsl, q4 k hk]
  exact congrArg (fun w => some (z_e ω w)) hv
theorem e_putf {ci k idx a : Nat} {fin : Bool} {ty : FieldType} {v : Value} (hd : zD mt.1.2 pc (.putfield idx) 3 pc') (hf : z_fld mt.1.1.cls idx ci k fin ty) (hfin : fin = false ∨ (mt.1.1.name = "<init>" ∧ ∃ N T, vwCl[ci]? = some (mt.1.1.cls, T, N))) (ha : zIs σ a (ci, 0)) (hn : narrow ty v = v) (hfit : fits ty v = true) (h : zE X mt pc' ls st (z_put σ a k v) Q) : zE X mt pc ls (v :: .ref a :: st) σ Q := by
  obtain ⟨hd, rfl⟩ := hd
  obtain ⟨N, C, T, ⟨hc, hci, hin, hty, hnm⟩, hk, hlink, hfl, htk, hown⟩ := hf
  refine z_step (σ2 := z_put σ a k v) (dc := 0) (ds := 0) rfl rfl (@fun ω p l e R s m args below meth c H locs cells slots Qf lsR hI hK1 hK2 hH hlo _ _ kk => ?_) h
  have hts := hI.2.2.2.2.1
  have hap := va_apart (own := C) hts hin (z_tyf ci) hty hnm hK1.1 hc
  obtain ⟨r, h1, cell, q1, q2, q3, q4⟩ := (z_at_get hH ha).1 hci
  have hr : r = (C, T, N) := Option.some.inj (h1.symm.trans hc)
  subst hr
  obtain ⟨hS, hfc, kC, hkC, hkind⟩ := hK1.1.1 ci _ hc
  obtain ⟨cf, kf, fi, f, hi, hsl⟩ := hS k hk
  have hlay := hts _ (hin _ (u_in_lay hk))
  unfold u_lay at hlay
  have hst := (u_facts hfc hkC (u_lays hts hin hk) hi).1
  have hd9 : parseFieldDescriptor (T k).2.2.1 = some ty := by rw [hty k hk, htk]
  have fin1 : ∀ H' : Heap, H'[z_ad ω a]? = some (cell.setSlot f.slot (z_e ω v)) → H'.size = H.size → (∀ q, q ≠ z_ad ω a → H'[q]? = H[q]?) → W p l e R s m args below meth c H' (locs ++ [⟨z_ad ω a, f.slot⟩]) cells slots Qf (F0 m (pc + 3) lsR (st.map (z_e ω))) := by
    intro H' e1 e2 e3
    rw [z_ad3 ha.1] at e1 e3
    refine kk H' _ (hK2.kept (fun q hq => e3 q (by omega))) (z_H_put hH ha.1 ha.2.1 ?_ e2 e3) ?_
    · rw [ha.2.2]
      refine ⟨fun _ => ⟨_, hc, ?_⟩, fun h13 => absurd hci (Nat.not_lt.mpr h13)⟩
      rw [hsl] at e1
      refine t_OB.to (V := updV (fun j => z_e ω (σ.2.2 a j)) k (z_e ω v)) ⟨_, e1, q2, q3, t_set q4 hap hk (z_e ω v)⟩ (fun j _ => ?_)
      by_cases hj : j = k
      · simp [updV, hj]
      · simp [updV, hj]
    · intro q hq
      rcases List.mem_append.mp hq with h | h
      · exact hlo q h
      · rw [List.mem_singleton.mp h]
        show z_B ω ≤ z_ad ω a
        rw [z_ad3 ha.1]
        omega
  rcases hfin with hff | ⟨hnm0, N2, T2, hT2⟩
  · rw [hff] at hfl
    rw [if_neg (by rw [hfl]; decide)] at hlay
    have h6 := u_store hfc hkC hkind hlay hi hd9 (z_narrow (ω := ω) hn) (z_fits hfit)
    exact W.putK (g := F0 m pc lsR (z_e ω v :: .ref (z_ad ω a) :: st.map (z_e ω))) hI.1 hI.2.1 (f := f) ⟨hI.2.2.2.1, hts _ hlink, ⟨_, _, _, hi⟩, hst⟩ (by rw [q2]; exact h6) (by rw [z_ad3 ha.1]; exact q1) q3 (by rw [hsl]; exact k2_hasslot (q4 k hk)) rfl rfl hd fin1
  · by_cases hff : (T k).2.2.2 = true
    · rw [if_pos hff] at hlay
      have hCown : C = mt.1.1.cls := by
        have := Option.some.inj (hc.symm.trans hT2)
        exact congrArg Prod.fst this
      have hcf : m.cls = cf := by
        obtain ⟨_, _, c', _, _, _, -, -, hf', -, -, -, hown2, -⟩ := Cond.laysFinal_spec hlay
        have e1 : c' = cf := by have := hi.symm.trans hf'; simp at this; exact this.1.symm
        rw [hown, hCown] at hown2
        rw [← e1]; exact Option.some.inj (hI.2.2.2.1.symm.trans hown2)
      have h6 := u_fits hfc hkC hkind (Or.inr hlay) hi hd9 (z_narrow (ω := ω) hn) (z_fits hfit)
      exact W.putFinK (g := F0 m pc lsR (z_e ω v :: .ref (z_ad ω a) :: st.map (z_e ω))) hI.1 hI.2.1 hI.2.2.2.1 (hts _ hlink) hi hst hcf (hI.2.2.2.2.2.2.2 hnm0) (by rw [q2]; exact h6) (by rw [z_ad3 ha.1]; exact q1) q3 (by rw [hsl]; exact k2_hasslot (q4 k hk)) rfl rfl hd fin1
    · rw [if_neg hff] at hlay
      have h6 := u_store hfc hkC hkind hlay hi hd9 (z_narrow (ω := ω) hn) (z_fits hfit)
      exact W.putK (g := F0 m pc lsR (z_e ω v :: .ref (z_ad ω a) :: st.map (z_e ω))) hI.1 hI.2.1 (f := f) ⟨hI.2.2.2.1, hts _ hlink, ⟨_, _, _, hi⟩, hst⟩ (by rw [q2]; exact h6) (by rw [z_ad3 ha.1]; exact q1) q3 (by rw [hsl]; exact k2_hasslot (q4 k hk)) rfl rfl hd fin1
theorem z_row {ω : zW} {H : Heap} {a k len : Nat} (hH : z_H ω σ H) (ha : zIs σ a (k, len)) (hk : 20 ≤ k) : k ≤ 26 ∧ H[z_ad ω a]? = some (arrV (ω.2.1 k) len (fun j => z_e ω (σ.2.2 a j))) := by
  obtain ⟨-, h1, h2⟩ := (z_at_get hH ha).2 (show 13 ≤ k by omega)
  rw [z_ad3 ha.1]
  exact ⟨h1, h2⟩
theorem e_iald {a len : Nat} {i : Int} {v : Value} (hd : zD mt.1.2 pc .iaload 1 pc') (ha : zIs σ a (20, len)) (h0 : 0 ≤ i) (h1 : i < len) (hl : len ≤ 2147483647) (hv : σ.2.2 a i.toNat = v) (h : zE X mt pc' ls (v :: st) σ Q) : zE X mt pc ls (vi i :: .ref a :: st) σ Q := by
  obtain ⟨hd, rfl⟩ := hd
  refine z_pure (@fun ω p l e R s m args below meth c H locs cells slots Qf lsR hI hK1 hK2 hH hL kk => ?_) h
  obtain ⟨-, hr⟩ := z_row hH ha (by omega)
  refine W.iald (g := F0 m pc lsR (vi i :: .ref (z_ad ω a) :: st.map (z_e ω))) hI.1 hI.2.1 hr ((z_arrOf hK1 (k := 20) (by omega) (by omega)).1 len _) (fun q => by cases q) (by rw [arrV_size]; exact z_inn h0 h1 hl) (v := z_e ω v) ?_ rfl rfl hd (kk lsR hL)
  rw [z_nat h0 (by omega), arrV_read _ _ (by omega)]
  exact congrArg (fun w => some (z_e ω w)) hv
theorem e_zald {a len : Nat} {i : Int} {v : Value} (hd : zD mt.1.2 pc .baload 1 pc') (ha : zIs σ a (21, len)) (h0 : 0 ≤ i) (h1 : i < len) (hl : len ≤ 2147483647) (hv : σ.2.2 a i.toNat = v) (h : zE X mt pc' ls (v :: st) σ Q) : zE X mt pc ls (vi i :: .ref a :: st) σ Q := by
  obtain ⟨hd, rfl⟩ := hd
  refine z_pure (@fun ω p l e R s m args below meth c H locs cells slots Qf lsR hI hK1 hK2 hH hL kk => ?_) h
  obtain ⟨-, hr⟩ := z_row hH ha (by omega)
  refine W.zald (g := F0 m pc lsR (vi i :: .ref (z_ad ω a) :: st.map (z_e ω))) hI.1 hI.2.1 hr ((z_arrOf hK1 (k := 21) (by omega) (by omega)).1 len _) (fun q => by cases q) (by rw [arrV_size]; exact z_inn h0 h1 hl) (v := z_e ω v) ?_ rfl rfl hd (kk lsR hL)
  rw [z_nat h0 (by omega), arrV_read _ _ (by omega)]
  exact congrArg (fun w => some (z_e ω w)) hv
theorem e_bald {a len : Nat} {i : Int} {v : Value} (hd : zD mt.1.2 pc .baload 1 pc') (ha : zIs σ a (22, len)) (h0 : 0 ≤ i) (h1 : i < len) (hl : len ≤ 2147483647) (hv : σ.2.2 a i.toNat = v) (h : zE X mt pc' ls (v :: st) σ Q) : zE X mt pc ls (vi i :: .ref a :: st) σ Q := by
  obtain ⟨hd, rfl⟩ := hd
  refine z_pure (@fun ω p l e R s m args below meth c H locs cells slots Qf lsR hI hK1 hK2 hH hL kk => ?_) h
  obtain ⟨-, hr⟩ := z_row hH ha (by omega)
  refine W.bald (g := F0 m pc lsR (vi i :: .ref (z_ad ω a) :: st.map (z_e ω))) hI.1 hI.2.1 hr ((z_arrOf hK1 (k := 22) (by omega) (by omega)).1 len _) (fun q => by cases q) (by rw [arrV_size]; exact z_inn h0 h1 hl) (v := z_e ω v) ?_ rfl rfl hd (kk lsR hL)
  rw [z_nat h0 (by omega), arrV_read _ _ (by omega)]
  exact congrArg (fun w => some (z_e ω w)) hv
theorem e_aald {a k len : Nat} {i : Int} {v : Value} (hd : zD mt.1.2 pc .aaload 1 pc') (ha : zIs σ a (k, len)) (hk : 23 ≤ k) (h0 : 0 ≤ i) (h1 : i < len) (hl : len ≤ 2147483647) (hv : σ.2.2 a i.toNat = v) (h : zE X mt pc' ls (v :: st) σ Q) : zE X mt pc ls (vi i :: .ref a :: st) σ Q := by
  obtain ⟨hd, rfl⟩ := hd
  refine z_pure (@fun ω p l e R s m args below meth c H locs cells slots Qf lsR hI hK1 hK2 hH hL kk => ?_) h
  obtain ⟨hk2, hr⟩ := z_row hH ha (by omega)
  refine W.aald (g := F0 m pc lsR (vi i :: .ref (z_ad ω a) :: st.map (z_e ω))) hI.1 hI.2.1 hr ((z_arrOf hK1 (k := k) (by omega) (by omega)).1 len _) (z_isref (by omega) hk2) (fun q => by cases q) (by rw [arrV_size]; exact z_inn h0 h1 hl) (v := z_e ω v) ?_ rfl rfl hd (kk lsR hL)
  rw [z_nat h0 (by omega), arrV_read _ _ (by omega)]
  exact congrArg (fun w => some (z_e ω w)) hv
theorem e_alen {a k len : Nat} (hd : zD mt.1.2 pc .arraylength 1 pc') (ha : zIs σ a (k, len)) (hk : 20 ≤ k) (h : zE X mt pc' ls (vi len :: st) σ Q) : zE X mt pc ls (.ref a :: st) σ Q := by
  obtain ⟨hd, rfl⟩ := hd
  refine z_pure (@fun ω p l e R s m args below meth c H locs cells slots Qf lsR hI hK1 hK2 hH hL kk => ?_) h
  obtain ⟨hk2, hr⟩ := z_row hH ha (by omega)
  exact W.alen (g := F0 m pc lsR (.ref (z_ad ω a) :: st.map (z_e ω))) hI.1 hI.2.1 hr ((z_arrOf hK1 (k := k) (by omega) (by omega)).1 len _) (by rw [arrV_size]; rfl) rfl rfl hd (kk lsR hL)
/-- behind a store into a row -/
theorem z_stored {ω : zW} {H H' : Heap} {a k len j : Nat} {v : Value} (hH : z_H ω σ H) (ha : zIs σ a (k, len)) (hk : 20 ≤ k) (e1 : H'[z_ad ω a]? = some ((arrV (ω.2.1 k) len (fun j => z_e ω (σ.2.2 a j))).setSlot j (z_e ω v))) (e2 : H'.size = H.size) (e3 : ∀ q, q ≠ z_ad ω a → H'[q]? = H[q]?) : z_H ω (z_put σ a j v) H' := by
  obtain ⟨hk2, -⟩ := z_row hH ha hk
  rw [z_ad3 ha.1] at e1 e3
  refine z_H_put hH ha.1 ha.2.1 ?_ e2 e3
  rw [ha.2.2]
  refine ⟨fun h13 => absurd h13 (by show ¬ k < 13; omega), fun _ => ⟨hk, hk2, ?_⟩⟩
  rw [e1, arrV_store]
  congr 2
  funext q
  by_cases hq : q = j
  · simp [updV, hq]
  · simp [updV, hq]
theorem z_locs {ω : zW} {locs : List Loc} {a j : Nat} (hlo : ∀ q ∈ locs, z_B ω ≤ q.base) (ha : 3 ≤ a) : ∀ q ∈ locs ++ [⟨z_ad ω a, j⟩], z_B ω ≤ q.base := by
  intro q hq
  rcases List.mem_append.mp hq with h | h
  · exact hlo q h
  · rw [List.mem_singleton.mp h]
    show z_B ω ≤ z_ad ω a
    rw [z_ad3 ha]
    omega
theorem e_iast {a len : Nat} {i x : Int} (hd : zD mt.1.2 pc .iastore 1 pc') (ha : zIs σ a (20, len)) (h0 : 0 ≤ i) (h1 : i < len) (hl : len ≤ 2147483647) (h : zE X mt pc' ls st (z_put σ a i.toNat (vi x)) Q) : zE X mt pc ls (vi x :: vi i :: .ref a :: st) σ Q := by
  obtain ⟨hd, rfl⟩ := hd
  refine z_step (σ2 := z_put σ a i.toNat (vi x)) (dc := 0) (ds := 0) rfl rfl (@fun ω p l e R s m args below meth c H locs cells slots Qf lsR hI hK1 hK2 hH hlo _ _ kk => ?_) h
  obtain ⟨hk2, hr⟩ := z_row hH ha (by omega)
  refine W.iast (g := F0 m pc lsR (vi x :: vi i :: .ref (z_ad ω a) :: st.map (z_e ω))) hI.1 hI.2.1 hr ((z_arrOf hK1 (k := 20) (by omega) (by omega)).1 len _) (fun q => by cases q) (by rw [arrV_size]; exact z_inn h0 h1 hl) rfl rfl hd fun H' e1 e2 e3 => ?_
  rw [z_nat h0 (by omega)] at e1
  exact kk H' _ (hK2.kept (fun q hq => e3 q (z_below ha.1 hq))) (z_stored (v := vi x) hH ha (by omega) e1 e2 e3) (z_locs hlo ha.1)
theorem e_zast {a len : Nat} {i x : Int} (hd : zD mt.1.2 pc .bastore 1 pc') (ha : zIs σ a (21, len)) (h0 : 0 ≤ i) (h1 : i < len) (hl : len ≤ 2147483647) (hx : narrow .boolean (vi x) = vi x) (h : zE X mt pc' ls st (z_put σ a i.toNat (vi x)) Q) : zE X mt pc ls (vi x :: vi i :: .ref a :: st) σ Q := by
  obtain ⟨hd, rfl⟩ := hd
  refine z_step (σ2 := z_put σ a i.toNat (vi x)) (dc := 0) (ds := 0) rfl rfl (@fun ω p l e R s m args below meth c H locs cells slots Qf lsR hI hK1 hK2 hH hlo _ _ kk => ?_) h
  obtain ⟨hk2, hr⟩ := z_row hH ha (by omega)
  refine W.zast (g := F0 m pc lsR (vi x :: vi i :: .ref (z_ad ω a) :: st.map (z_e ω))) hI.1 hI.2.1 hr ((z_arrOf hK1 (k := 21) (by omega) (by omega)).1 len _) (fun q => by cases q) (by rw [arrV_size]; exact z_inn h0 h1 hl) rfl rfl hd fun H' e1 e2 e3 => ?_
  rw [z_nat h0 (by omega), hx] at e1
  exact kk H' _ (hK2.kept (fun q hq => e3 q (z_below ha.1 hq))) (z_stored (v := vi x) hH ha (by omega) e1 e2 e3) (z_locs hlo ha.1)
theorem e_bast {a len : Nat} {i x : Int} (hd : zD mt.1.2 pc .bastore 1 pc') (ha : zIs σ a (22, len)) (h0 : 0 ≤ i) (h1 : i < len) (hl : len ≤ 2147483647) (hx : narrow .byte (vi x) = vi x) (h : zE X mt pc' ls st (z_put σ a i.toNat (vi x)) Q) : zE X mt pc ls (vi x :: vi i :: .ref a :: st) σ Q := by
  obtain ⟨hd, rfl⟩ := hd
  refine z_step (σ2 := z_put σ a i.toNat (vi x)) (dc := 0) (ds := 0) rfl rfl (@fun ω p l e R s m args below meth c H locs cells slots Qf lsR hI hK1 hK2 hH hlo _ _ kk => ?_) h
  obtain ⟨hk2, hr⟩ := z_row hH ha (by omega)
  refine W.bast (g := F0 m pc lsR (vi x :: vi i :: .ref (z_ad ω a) :: st.map (z_e ω))) hI.1 hI.2.1 hr ((z_arrOf hK1 (k := 22) (by omega) (by omega)).1 len _) (fun q => by cases q) (by rw [arrV_size]; exact z_inn h0 h1 hl) rfl rfl hd fun H' e1 e2 e3 => ?_
  rw [z_nat h0 (by omega), hx] at e1
  exact kk H' _ (hK2.kept (fun q hq => e3 q (z_below ha.1 hq))) (z_stored (v := vi x) hH ha (by omega) e1 e2 e3) (z_locs hlo ha.1)
theorem e_aast {a b k ci N len : Nat} {C : String} {T : u_T} {i : Int} (hd : zD mt.1.2 pc .aastore 1 pc') (ha : zIs σ a (k, len)) (hk : 23 ≤ k) (hb : zIs σ b (ci, 0)) (hc : z_kd ci N C T) (hty : z_ty k = .object C) (h0 : 0 ≤ i) (h1 : i < len) (hl : len ≤ 2147483647) (h : zE X mt pc' ls st (z_put σ a i.toNat (.ref b)) Q) : zE X mt pc ls (.ref b :: vi i :: .ref a :: st) σ Q := by
  obtain ⟨hd, rfl⟩ := hd
  refine z_step (σ2 := z_put σ a i.toNat (.ref b)) (dc := 0) (ds := 0) rfl rfl (@fun ω p l e R s m args below meth c H locs cells slots Qf lsR hI hK1 hK2 hH hlo _ _ kk => ?_) h
  obtain ⟨hk2, hr⟩ := z_row hH ha (by omega)
  obtain ⟨r, hr', cellV, g1, g2, g3, -⟩ := (z_at_get hH hb).1 hc.2.1
  have hrr : r = (C, T, N) := Option.some.inj (hr'.symm.trans hc.1)
  subst hrr
  have hcls := (hK1.1.1 ci _ hc.1).2
  have hRA := (z_arrOf hK1 (k := k) (by omega) hk2).2
  rw [hty] at hRA
  obtain ⟨kA, comp, k1, k2, k3, -⟩ := hRA
  have hcomp : comp = ω.1.1 ci := Option.some.inj (k3.symm.trans hcls.1)
  subst hcomp
  obtain ⟨kC, hkC, -⟩ := hcls.2
  refine W.aast (g := F0 m pc lsR (.ref (z_ad ω b) :: vi i :: .ref (z_ad ω a) :: st.map (z_e ω))) hI.1 hI.2.1 hr (fun q h => by cases h) (fun h => by cases h) k1 k2 rfl hkC (by
    have := z_inn h0 h1 hl
    rw [arrV_size]
    exact ⟨fun q => this (Or.inl q), Nat.not_le.mp fun q => this (Or.inr q)⟩) (v := z_ad ω b) (by rw [z_ad3 hb.1]; exact g1) (fun q h => by rw [g3] at h; cases h) (by rw [g2]; exact hkC) (by rw [g2]; exact va_asg _ _) rfl rfl hd fun H' e1 e2 e3 => ?_
  rw [z_nat h0 (by omega)] at e1
  exact kk H' _ (hK2.kept (fun q hq => e3 q (z_below ha.1 hq))) (z_stored (v := .ref b) hH ha (by omega) e1 e2 e3) (z_locs hlo ha.1)
theorem z_push {ω : zW} {s : State} {H H1 : Heap} (hK2 : z_K2 ω X s H) (hH : z_H ω σ H) (o1 : ∀ q, q < H.size → H1[q]? = H[q]?) : z_K2 ω X s H1 := hK2.kept (fun q hq => o1 q (by have := hH.1; have := hH.2.1; omega))
theorem z_ref {ω : zW} {H : Heap} (hH : z_H ω σ H) : Value.ref H.size = z_e ω (.ref σ.1.1) := by
  show Value.ref H.size = .ref (z_ad ω σ.1.1)
  have h1 := hH.1
  have h2 := hH.2.1
  have e : H.size = z_B ω + (σ.1.1 - 3) := by omega
  rw [z_ad3 hH.1, ← e]
theorem e_new {ci N idx : Nat} {C : String} {T : u_T} (hd : zD mt.1.2 pc (.new idx) 3 pc') (hc : z_kd ci N C T) (hcl : Cond.classLink mt.1.1.cls idx C ∈ zTB) (hinst : Cond.instantiable C N ∈ zTB) (hini : Cond.initialized C ∈ zTB) (h : zE X mt pc' ls (.ref σ.1.1 :: st) (z_new σ (ci, 0) N (z_df ci)) Q) : zE X mt pc ls st σ Q := by
  obtain ⟨hd, rfl⟩ := hd
  refine z_step (σ2 := z_new σ (ci, 0) N (z_df ci)) (dc := 1) (ds := N) rfl rfl (@fun ω p l e R s m args below meth c H locs cells slots Qf lsR hI hK1 hK2 hH hlo hce hsl kk => ?_) h
  have hts := hI.2.2.2.2.1
  have hKn := hK1.1.1 ci _ hc.1
  refine W.newcK (g := F0 m pc lsR (st.map (z_e ω))) hI.1 hI.2.1 hI.2.2.2.1 (hts _ hcl) (hts _ hinst) (hts _ hini) rfl hd hce hsl hKn.2.1 rfl fun H1 kC hkC e1 z1 o1 => ?_
  have k := kk H1 locs (z_push hK2 hH o1) (z_H_new hH ⟨fun _ => ⟨_, hc.1, ?_⟩, fun h13 => absurd hc.2.1 (Nat.not_lt.mpr h13)⟩ z1 o1) hlo
  · rw [show (Value.ref σ.1.1 :: st).map (z_e ω) = Value.ref H.size :: st.map (z_e ω) by rw [List.map_cons, ← z_ref hH]] at k
    exact k
  · refine (u_born (z_tyf ci) hts hc.2.2.1 hKn hkC e1 hc.2.2.2.1).to (fun j _ => ?_)
    show defaultValue (z_tyf ci j) = z_e ω (defaultValue (z_tyf ci j))
    cases z_tyf ci j <;> rfl
theorem e_newa {k : Nat} {n : Int} {at0 : ArrayType} (hd : zD mt.1.2 pc (.newarray at0) 2 pc') (hty : newarray.typeOf at0 = z_ty k) (hk : 20 ≤ k ∧ k ≤ 22) (harr : Cond.arrayClass (newarray.typeOf at0) ∈ zTB) (h0 : 0 ≤ n) (h1 : n ≤ 65536) (h : zE X mt pc' ls (.ref σ.1.1 :: st) (z_new σ (k, n.toNat) n.toNat (fun _ => vi 0)) Q) : zE X mt pc ls (vi n :: st) σ Q := by
  obtain ⟨hd, rfl⟩ := hd
  refine z_step (σ2 := z_new σ (k, n.toNat) n.toNat (fun _ => vi 0)) (dc := 1) (ds := n.toNat) rfl rfl (@fun ω p l e R s m args below meth c H locs cells slots Qf lsR hI hK1 hK2 hH hlo hce hsl kk => ?_) h
  have hk3 : k = 20 ∨ k = 21 ∨ k = 22 := by omega
  have hcb : componentBytes (newarray.typeOf at0) ≤ 8 := by cases at0 <;> decide
  refine va_newaK (g := F0 m pc lsR (vi n :: st.map (z_e ω))) hI.1 hI.2.1 (hI.2.2.2.2.1 _ harr) rfl hd rfl (fun h => by
    rw [show (0 : Int32) = Int32.ofInt 0 from rfl, zr_lt (by constructor <;> omega) (by constructor <;> omega)] at h
    omega) (z_nat h0 (by omega)) (by
    have h2 : n.toNat ≤ 65536 := by omega
    calc n.toNat * componentBytes (newarray.typeOf at0) ≤ 65536 * 8 := Nat.mul_le_mul h2 hcb
      _ ≤ 536870912 := by decide) hce hsl rfl fun H1 cA e1 z1 o1 hAr hNm => ?_
  have hcA : cA = ω.2.1 k := by
    have hRA := (z_arrOf hK1 (k := k) (by omega) (by omega)).2
    rw [hty] at hNm
    rcases hk3 with rfl | rfl | rfl <;> exact Option.some.inj (hNm.symm.trans hRA)
  have hdv : defaultValue (newarray.typeOf at0) = vi 0 := by
    rw [hty]
    rcases hk3 with rfl | rfl | rfl <;> rfl
  rw [hdv, hcA] at e1
  have k9 := kk H1 locs (z_push hK2 hH o1) (z_H_new hH ⟨fun h13 => absurd h13 (by show ¬ k < 13; omega), fun _ => ⟨by show 20 ≤ k; omega, by show k ≤ 26; omega, e1⟩⟩ z1 o1) hlo
  rw [show (Value.ref σ.1.1 :: st).map (z_e ω) = Value.ref H.size :: st.map (z_e ω) by rw [List.map_cons, ← z_ref hH]] at k9
  exact k9
theorem e_anewa {k idx : Nat} {n : Int} {C : String} (hd : zD mt.1.2 pc (.anewarray idx) 3 pc') (hty : z_ty k = .object C) (hk : 23 ≤ k ∧ k ≤ 26) (hcl : Cond.classLink mt.1.1.cls idx C ∈ zTB) (hC : C ∈ zAO) (h0 : 0 ≤ n) (h1 : n ≤ 65536) (h : zE X mt pc' ls (.ref σ.1.1 :: st) (z_new σ (k, n.toNat) n.toNat (fun _ => .null)) Q) : zE X mt pc ls (vi n :: st) σ Q := by
  obtain ⟨hd, rfl⟩ := hd
  refine z_step (σ2 := z_new σ (k, n.toNat) n.toNat (fun _ => .null)) (dc := 1) (ds := n.toNat) rfl rfl (@fun ω p l e R s m args below meth c H locs cells slots Qf lsR hI hK1 hK2 hH hlo hce hsl kk => ?_) h
  have en : (Int32.ofInt n).toNatClampNeg = n.toNat := z_nat h0 (by omega)
  refine W.anew (g := F0 m pc lsR (vi n :: st.map (z_e ω))) hI.1 hI.2.1 hI.2.2.2.1 (hI.2.2.2.2.1 _ hcl) (va_AO.use (hK1.2.2.1 C hC)) rfl hd rfl (fun h => by
    rw [show (0 : Int32) = Int32.ofInt 0 from rfl, zr_lt (by constructor <;> omega) (by constructor <;> omega)] at h
    omega) (by rw [en]; omega) hce (by rw [en]; exact hsl) fun cA kA comp f1 f2 f3 f4 => ?_
  rw [en]
  generalize hH1 : H.push ({ cls := cA, slots := Array.replicate n.toNat .null, vm := .none } : Cell) = H1
  have z1 : H1.size = H.size + 1 := by rw [← hH1, Array.size_push]
  have e1 : H1[H.size]? = some (arrV cA n.toNat (fun _ => .null)) := by rw [← hH1, Array.getElem?_push_size, ← arrV_new]
  have o1 : ∀ q : Nat, q < H.size → H1[q]? = H[q]? := fun q hq => by rw [← hH1, Array.getElem?_push, if_neg (Nat.ne_of_lt hq)]
  have hRA := (z_arrOf hK1 (k := k) (by omega) (by omega)).2
  rw [hty] at hRA
  obtain ⟨kA2, comp2, -, -, -, g4⟩ := hRA
  have hcA : cA = ω.2.1 k := Option.some.inj (f1.symm.trans g4)
  rw [hcA] at e1
  have k9 := kk H1 locs (z_push hK2 hH o1) (z_H_new hH ⟨fun h13 => absurd h13 (by show ¬ k < 13; omega), fun _ => ⟨by show 20 ≤ k; omega, by show k ≤ 26; omega, e1⟩⟩ z1 o1) hlo
  rw [show (Value.ref σ.1.1 :: st).map (z_e ω) = Value.ref H.size :: st.map (z_e ω) by rw [List.map_cons, ← z_ref hH]] at k9
  exact k9
end ZH
