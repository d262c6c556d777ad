/-! ENDS, CALLS, THE SCRIPT, THE LETTERS -/
section ZC1
variable {X : zX} {mt mz : zM} {pc pc' tgt : Nat} {ls ls' st st' rest As : List Value} {σ σ2 : zS} {Q : Option Value → zS → Prop}
theorem z_end0 {r : Option Value} (hr : z_Ret mt pc st r) (hq : Q r σ) : zE X mt pc ls st σ Q := by
  refine ⟨r, σ, hq, Nat.le_refl _, Nat.le_refl _, ?_⟩
  intro ω p l e R s m args below meth c H locs cells slots Qf lsR hI hK1 hK2 hH hL hlo hc hs k
  have h := k H locs pc lsR st hr hK2 hH hlo
  rw [Nat.sub_self, Nat.sub_self, Nat.add_zero, Nat.add_zero] at h
  exact h
theorem e_return (hd : zD mt.1.2 pc .return_ 1 pc') (hret : mt.2.2.1 = none) (hq : Q none σ) : zE X mt pc ls [] σ Q := z_end0 (Or.inl ⟨rfl, rfl, hret, hd.1⟩) hq
theorem e_ireturn {x : Int} {ty : FieldType} (hd : zD mt.1.2 pc .ireturn 1 pc') (hret : mt.2.2.1 = some ty) (hn : narrow ty (vi x) = vi x) (hq : Q (some (vi x)) σ) : zE X mt pc ls [vi x] σ Q := z_end0 (Or.inr (Or.inl ⟨_, ty, rfl, rfl, hret, hn, hd.1⟩)) hq
theorem e_areturn {v : Value} {rt : FieldType} (hd : zD mt.1.2 pc .areturn 1 pc') (hret : mt.2.2.1 = some rt) (hrt : (∃ n, rt = .object n) ∨ ∃ t, rt = .array t) (hv : v = .null ∨ ∃ a, v = .ref a) (hq : Q (some v) σ) : zE X mt pc ls [v] σ Q := z_end0 (Or.inr (Or.inr ⟨v, rt, rfl, rfl, hret, hrt, hv, hd.1⟩)) hq
/-! the script -/
theorem e_sld {i : Int} (hd : zD mt.1.2 pc .iaload 1 pc') (h0 : 0 ≤ i) (h1 : i < X.1) (hl : X.1 ≤ 2147483647) (h : zE X mt pc' ls (vi (X.2 i.toNat).toInt :: st) σ Q) : zE X mt pc ls (vi i :: .ref 0 :: st) σ Q := by
  obtain ⟨hd, rfl⟩ := hd
  refine z_pure (@fun ω p l e R s m args below meth c H locs cells slots Qf lsR hI hK1 hK2 hH hL kk => ?_) h
  obtain ⟨-, -, ⟨scr, g1, g2, g3, g4, g5⟩, -⟩ := hK2
  refine W.iald (g := F0 m pc lsR (vi i :: .ref (z_ad ω 0) :: st.map (z_e ω))) hI.1 hI.2.1 g1 g2 g3 (by rw [g4]; exact z_inn h0 h1 hl) (v := vi (X.2 i.toNat).toInt) ?_ rfl rfl hd (kk lsR hL)
  rw [z_nat h0 (by omega), g5 _ (by omega)]
  show some (Value.int _) = some (Value.int (Int32.ofInt (X.2 i.toNat).toInt))
  rw [z_of]
theorem e_slen (hd : zD mt.1.2 pc .arraylength 1 pc') (h : zE X mt pc' ls (vi X.1 :: st) σ Q) : zE X mt pc ls (.ref 0 :: st) σ Q := by
  obtain ⟨hd, rfl⟩ := hd
  refine z_pure (@fun ω p l e R s m args below meth c H locs cells slots Qf lsR hI hK1 hK2 hH hL kk => ?_) h
  obtain ⟨-, -, ⟨scr, g1, g2, g3, g4, g5⟩, -⟩ := hK2
  exact W.alen (g := F0 m pc lsR (.ref (z_ad ω 0) :: st.map (z_e ω))) hI.1 hI.2.1 g1 g2 (by rw [g4]; rfl) rfl rfl hd (kk lsR hL)
/-! the letters: a text of four bytes -/
theorem e_ldcS (hd : zD mt.1.2 pc (.ldc 33) 2 pc') (ho : mt.1.1.cls = "TenForOne$Tape") (h : zE X mt pc' ls (.ref 1 :: st) σ Q) : zE X mt pc ls st σ Q := by
  obtain ⟨hd, rfl⟩ := hd
  refine z_pure (@fun ω p l e R s m args below meth c H locs cells slots Qf lsR hI hK1 hK2 hH hL kk => ?_) h
  exact va_ldcS hI.1 hI.2.1 (own := "TenForOne$Tape") (by rw [← ho]; exact hI.2.2.2.1) hK1.2.2.2 hd (kk lsR hL)
theorem e_getSv {idx : Nat} (hd : zD mt.1.2 pc (.getfield idx) 3 pc') (hlink : Cond.fieldLink mt.1.1.cls idx "java/lang/String" "value" "[B" ∈ zTB) (h : zE X mt pc' ls (.ref 2 :: st) σ Q) : zE X mt pc ls (.ref 1 :: st) σ Q := by
  obtain ⟨hd, rfl⟩ := hd
  refine z_pure (@fun ω p l e R s m args below meth c H locs cells slots Qf lsR hI hK1 hK2 hH hL kk => ?_) h
  obtain ⟨cf, k, fi, f, cell, h1, h2, h3, h4, h5, h6⟩ := (hK2.2.1.1 0 (by decide)).2.2.1
  exact W.getf (g := F0 m pc lsR (.ref (z_ad ω 1) :: st.map (z_e ω))) hI.1 hI.2.1 hI.2.2.2.1 (hI.2.2.2.2.1 _ hlink) h1 h2 h3 h4 (v := .ref (z_ad ω 2)) h5 rfl rfl hd (kk lsR hL)
theorem e_getSc {idx : Nat} (hd : zD mt.1.2 pc (.getfield idx) 3 pc') (hlink : Cond.fieldLink mt.1.1.cls idx "java/lang/String" "coder" "B" ∈ zTB) (h : zE X mt pc' ls (vi 0 :: st) σ Q) : zE X mt pc ls (.ref 1 :: st) σ Q := by
  obtain ⟨hd, rfl⟩ := hd
  refine z_pure (@fun ω p l e R s m args below meth c H locs cells slots Qf lsR hI hK1 hK2 hH hL kk => ?_) h
  obtain ⟨cf, k, fi, f, cell, h1, h2, h3, h4, h5, h6⟩ := (hK2.2.1.1 0 (by decide)).2.1
  exact W.getf (g := F0 m pc lsR (.ref (z_ad ω 1) :: st.map (z_e ω))) hI.1 hI.2.1 hI.2.2.2.1 (hI.2.2.2.2.1 _ hlink) h1 h2 h3 h4 (v := vi 0) h5 rfl rfl hd (kk lsR hL)
theorem e_getsC {idx : Nat} (hd : zD mt.1.2 pc (.getstatic idx) 3 pc') (hlink : Cond.fieldLink mt.1.1.cls idx "java/lang/String" "COMPACT_STRINGS" "Z" ∈ zTB) (h : zE X mt pc' ls (vi 1 :: st) σ Q) : zE X mt pc ls st σ Q := by
  obtain ⟨hd, rfl⟩ := hd
  refine z_pure (@fun ω p l e R s m args below meth c H locs cells slots Qf lsR hI hK1 hK2 hH hL kk => ?_) h
  obtain ⟨cf, kf, fi, f, a, cell, h1, h2, h3, h4, h5, h6, h7, h8⟩ := hK2.1
  exact W.gets (g := F0 m pc lsR (st.map (z_e ω))) hI.1 hI.2.1 hI.2.2.2.1 (hI.2.2.2.2.1 _ hlink) h1 h2 h3 h4 h5 (fun h => by rw [h] at h6; cases h6) h7 rfl hd (kk lsR hL)
def z_let : List Int := [109, 99, 107, 115]
theorem e_baldS {i : Int} (hd : zD mt.1.2 pc .baload 1 pc') (h0 : 0 ≤ i) (h1 : i < 4) (h : zE X mt pc' ls (vi (z_let.getD i.toNat 0) :: st) σ Q) : zE X mt pc ls (vi i :: .ref 2 :: st) σ Q := by
  obtain ⟨hd, rfl⟩ := hd
  refine z_pure (@fun ω p l e R s m args below meth c H locs cells slots Qf lsR hI hK1 hK2 hH hL kk => ?_) h
  obtain ⟨cell, g1, g2, g3, g4, g5, g6, -⟩ := (hK2.2.1.1 0 (by decide)).2.2.2
  have g4 : 4 ≤ cell.slots.size := g4
  refine W.bald (g := F0 m pc lsR (vi i :: .ref (z_ad ω 2) :: st.map (z_e ω))) hI.1 hI.2.1 g1 g2 g3 ?_ (v := vi (z_let.getD i.toNat 0)) ?_ rfl rfl hd (kk lsR hL)
  · have := z_inn (len := 4) h0 h1 (by decide)
    rintro (q | q)
    · exact this (Or.inl q)
    · exact this (Or.inr (Nat.le_trans g4 q))
  · rw [z_nat h0 (by omega), g6 _ (by show i.toNat < 4; omega)]
    have hi : i.toNat = 0 ∨ i.toNat = 1 ∨ i.toNat = 2 ∨ i.toNat = 3 := by omega
    rcases hi with e | e | e | e <;> rw [e] <;> rfl
theorem e_alenS (hd : zD mt.1.2 pc .arraylength 1 pc') (h : zE X mt pc' ls (vi 4 :: st) σ Q) : zE X mt pc ls (.ref 2 :: st) σ Q := by
  obtain ⟨hd, rfl⟩ := hd
  refine z_pure (@fun ω p l e R s m args below meth c H locs cells slots Qf lsR hI hK1 hK2 hH hL kk => ?_) h
  obtain ⟨cell, g1, g2, g3, g4, g5, g6, -⟩ := (hK2.2.1.1 0 (by decide)).2.2.2
  exact W.alen (g := F0 m pc lsR (.ref (z_ad ω 2) :: st.map (z_e ω))) hI.1 hI.2.1 g1 g2 (n := Int32.ofInt 4) g5 rfl rfl hd (kk lsR hL)
/-! the beginning of Object -/
theorem e_objInit {a : Nat} {idx : Nat} (hd : zD mt.1.2 pc (.invokespecial idx) 3 pc') (hlink : Cond.methodLink mt.1.1.cls idx Lib.objectInit ∈ zTB) (hinst : Cond.instanceMethod Lib.objectInit ∈ zTB) (hcode : Cond.code Lib.objectInit ⟨#[0xb1]⟩ 1 none ∈ zTB) (hfr : 1 ≤ mt.2.2.2.1) (hlo : 12 ≤ mt.2.2.2.2) (h : zE X mt pc' ls [] σ Q) : zE X mt pc ls [.ref a] σ Q := by
  obtain ⟨hd, rfl⟩ := hd
  refine z_pure (@fun ω p l e R s m args below meth c H locs cells slots Qf lsR hI hK1 hK2 hH hL kk => ?_) h
  exact W.objInit (g := F0 m pc lsR [.ref (z_ad ω a)]) hI.1 hI.2.1 hI.2.2.2.1 (hI.2.2.2.2.1 _ hlink) (hI.2.2.2.2.1 _ hinst) (hI.2.2.2.2.1 _ hcode) rfl (by rw [hI.2.2.1]; exact hL.1) rfl hd (Nat.le_trans hfr hI.2.2.2.2.2.1) (Nat.le_trans hlo hI.2.2.2.2.2.2.1) (kk lsR hL)
end ZC1
/-! a method's beginning -/
def z_sl (v : Value) : List Value := match v with
  | .long x => [.long x, zU]
  | v => [v]
def z_pad : Nat → List Value → List Value
  | 0, l => l
  | n + 1, [] => zU :: z_pad n []
  | n + 1, v :: l => v :: z_pad n l
def z_ent (nL : Nat) (As : List Value) : List Value := z_pad nL (As.flatMap z_sl)
def z_okA (v : Value) : Bool := match v with
  | .int _ => true
  | .long _ => true
  | .ref _ => true
  | .null => true
  | _ => false
theorem z_nth_pad : ∀ (n : Nat) (l : List Value) (i : Nat), z_nth (z_pad n l) i = z_nth l i
  | 0, _, _ => rfl
  | n + 1, [], 0 => rfl
  | n + 1, [], i + 1 => by
    show z_nth (z_pad n []) i = zU
    rw [z_nth_pad n [] i]
    rfl
  | n + 1, _ :: _, 0 => rfl
  | n + 1, _ :: l, i + 1 => z_nth_pad n l i
theorem z_ent_args (ω : zW) : ∀ (As : List Value) (j i : Nat), (∀ v ∈ As, z_okA v = true) → z_isU (z_nth (As.flatMap z_sl) i) = false → (i + j, z_e ω (z_nth (As.flatMap z_sl) i)) ∈ lv_args j (As.map (z_e ω))
  | [], _, i, _, h => by cases h
  | v :: As, j, i, hok, h => by
    have hv := hok v List.mem_cons_self
    have hok' : ∀ w ∈ As, z_okA w = true := fun w hw => hok w (List.mem_cons_of_mem _ hw)
    rw [List.flatMap_cons] at h ⊢
    rw [List.map_cons]
    cases v with
    | long x =>
      match i, h with
      | 0, h => simp [z_sl, z_nth, lv_args]
      | 1, h => cases h
      | i + 2, h =>
        have := z_ent_args ω As (j + 2) i hok' h
        refine List.mem_cons_of_mem _ ?_
        rw [show i + 2 + j = i + (j + 2) by omega]
        exact this
    | float x => cases hv
    | double x => cases hv
    | int x =>
      match i, h with
      | 0, h => simp [z_sl, z_nth, lv_args]
      | i + 1, h =>
        have := z_ent_args ω As (j + 1) i hok' h
        refine List.mem_cons_of_mem _ ?_
        rw [show i + 1 + j = i + (j + 1) by omega]
        exact this
    | ref x =>
      match i, h with
      | 0, h => simp [z_sl, z_nth, lv_args]
      | i + 1, h =>
        have := z_ent_args ω As (j + 1) i hok' h
        refine List.mem_cons_of_mem _ ?_
        rw [show i + 1 + j = i + (j + 1) by omega]
        exact this
    | null =>
      match i, h with
      | 0, h => simp [z_sl, z_nth, lv_args]
      | i + 1, h =>
        have := z_ent_args ω As (j + 1) i hok' h
        refine List.mem_cons_of_mem _ ?_
        rw [show i + 1 + j = i + (j + 1) by omega]
        exact this
    | retAddr x => cases hv
theorem z_ent_L {ω : zW} {nL : Nat} {As : List Value} {lsR : Array Slot} (hok : ∀ v ∈ As, z_okA v = true) (h : lv_has lsR nL (lv_args 0 (As.map (z_e ω)))) : z_L ω nL (z_ent nL As) lsR := by
  refine ⟨h.1, h.2.1, fun q hq => h.2.2 q ?_⟩
  obtain ⟨h1, h2, h3⟩ := z_al_mem.mp hq
  unfold z_ent at h2 h3
  rw [z_nth_pad] at h2 h3
  have := z_ent_args ω As 0 q.1 hok h2
  rw [← h3] at this
  exact this

/-! contracts of methods, out of their runs -/
theorem z_K1.warm {ω : zW} {s U : State} (hW : s.WarmedH U.vm) (h : z_K1 ω s) : z_K1 ω U := by
  obtain ⟨h1, h2, h3, h4⟩ := h
  refine ⟨va_K.moved hW.alike h1, fun w hw => ?_, fun C hC => va_AO.moved hW.alike (h3 C hC), h4.warm hW⟩
  have hw2 := (List.mem_filter.mp hw).2
  have hz := h2 w hw
  cases w <;> first | (exact va_Nw.warmM hW hz) | (cases hw2)
theorem z_K1.same {ω : zW} {s U : State} (hv : U.vm = s.vm) (h : z_K1 ω s) : z_K1 ω U := by
  obtain ⟨h1, h2, h3, h4⟩ := h
  have ha : s.vm.Alike U.vm := by rw [hv]; exact Vm.Alike.refl _
  refine ⟨va_K.moved ha h1, fun w hw => ?_, fun C hC => va_AO.moved ha (h3 C hC), h4.same hv⟩
  have hw2 := (List.mem_filter.mp hw).2
  have hz := h2 w hw
  cases w <;> first | (exact va_Nw.same rfl hv.symm hz) | (cases hw2)
theorem z_K2.moved {ω : zW} {X : zX} {u U : State} {H : Heap} (hvm : u.vm.Alike U.vm) (h : z_K2 ω X u H) : z_K2 ω X U H := ⟨h.1.moved hvm, h.2.1.moved hvm, h.2.2.1.moved hvm, h.2.2.2⟩
def z_Pc (ω : zW) (X : zX) (As : List Value) (σ : zS) : Array Value → State → Prop := fun a U => a = (As.map (z_e ω)).toArray ∧ z_K1 ω U ∧ z_K2 ω X U U.heap ∧ z_H ω σ U.heap
def z_Qc (ω : zW) (X : zX) (r : Option Value) (σ' : zS) : Array Value → State → Outcome → State → Prop := fun _ _ o t => o = .returned (r.map (z_e ω)) ∧ z_K2 ω X t t.heap ∧ z_H ω σ' t.heap
def z_ws (mt : zM) : List Cond := Cond.code mt.1.1 mt.1.2 mt.2.1 mt.2.2.1 :: zTB
def z_rm (mt : zM) (mc ms : Nat) : Room := { frames := mt.2.2.2.1, cells := mc, slots := ms, locals := mt.2.2.2.2 }
theorem z_blind {ω : zW} {X : zX} {As : List Value} {σ : zS} : FrameBlind (z_Pc ω X As σ) := by
  intro a U g mk h
  obtain ⟨h1, h2, h3, h4⟩ := h
  exact ⟨h1, z_K1.same (s := U) (U := U.calling g mk a) rfl h2, z_K2.moved (Vm.Alike.refl U.vm) h3, h4⟩
theorem z_lgl (ω : zW) : ∀ (As : List Value), (lg_sl (As.map (z_e ω))).length = (lg_sl As).length
  | [] => rfl
  | v :: t => by
    have ih := z_lgl ω t
    unfold lg_sl at ih ⊢
    rw [List.map_cons, List.flatMap_cons, List.flatMap_cons, List.length_append, List.length_append, ih, z_e_cat]
    by_cases hc : v.category = 2
    · rw [if_pos hc, if_pos hc]
      rfl
    · rw [if_neg hc, if_neg hc]
      rfl
theorem z_met {l : Launch} {X : zX} {mt : zM} {As : List Value} {σ σ' : zS} {r : Option Value} (ω : zW) (hy : plainName mt.1.1.cls = true) (hok : ∀ v ∈ As, z_okA v = true) (hlen : (lg_sl As).length ≤ mt.2.1) (h : z_Sem X mt 0 (z_ent mt.2.1 As) [] σ r σ') :
    Met l mt.1.1 (z_ws mt) (z_rm mt (σ'.1.1 - σ.1.1) (σ'.1.2 - σ.1.2)) (z_Pc ω X As σ) (z_Qc ω X r σ') (σ'.1.1 - σ.1.1) (σ'.1.2 - σ.1.2) (fun q => z_B ω ≤ q) := by
  refine Met.ofW (cc := mt.1.2) (maxL := mt.2.1) (ret := mt.2.2.1) hy rfl ?_
  intro p e s m args below meth c s₁ B hml hv
  obtain ⟨rfl, hK1, hK2, hH⟩ := hv
  have hx := B.exec
  have hb := B.bytes
  have hr := B.returns
  have hlocks := B.notSynchronized
  have hts : ∀ w ∈ z_ws mt, w.before (As.map (z_e ω)).toArray s = true := atoms_spec (ws := z_ws mt) B.pre
  have hown : s.vm.findClass mt.1.1.cls = some m.cls := findClass_of_methodNamed B.named
  have hnm : meth.name = mt.1.1.name := (name_of_methodNamed B.named B.method).1
  have hl2 : (lg_sl (As.map (z_e ω))).length ≤ mt.2.1 := by rw [z_lgl]; exact hlen
  have hl := lv_entry (As.map (z_e ω)) (n := mt.2.1) hl2
  rw [lg_entry_eq]
  generalize (lg_sl (As.map (z_e ω)) ++ List.replicate (mt.2.1 - (lg_sl (As.map (z_e ω))).length) Slot.unset).toArray = lsR at hl ⊢
  refine h.2.2 ω p l e (z_rm mt (σ'.1.1 - σ.1.1) (σ'.1.2 - σ.1.2)) s m _ below meth c s.heap [] 0 0 _ lsR ⟨hx, hb, hml, hown, fun w hw => hts w (List.mem_cons_of_mem _ hw), Nat.le_refl _, Nat.le_refl _, fun h => hnm.trans h⟩ hK1 hK2 hH (z_ent_L hok hl) (fun q hq => by cases hq) (by show 0 + _ ≤ (σ'.1.1 - σ.1.1); omega) (by show 0 + _ ≤ (σ'.1.2 - σ.1.2); omega) ?_
  intro H' locs' pc' lsR' st' hret hK2' hH' hlo'
  rw [Nat.zero_add, Nat.zero_add]
  have hq : ∀ (t : State), t.heap = H' → s.WarmedH t.vm → z_Qc ω X r σ' (As.map (z_e ω)).toArray s (.returned (r.map (z_e ω))) t := fun t ht hW => ⟨rfl, by rw [ht]; exact hK2'.moved hW.alike, by rw [ht]; exact hH'⟩
  rcases hret with ⟨rfl, rfl, h3, hd⟩ | ⟨x, ty, rfl, rfl, h3, h4, hd⟩ | ⟨v, rt, rfl, rfl, h3, h4, h5, hd⟩
  · exact W.vret hx hb (hr.trans h3) hq hlo' hd
  · exact W.zret hx hb (hr.trans h3) h4 hq hlo' hd
  · refine W.aret (v := z_e ω v) hx hb (hr.trans h3) h4 ?_ hq hlo' hd
    rcases h5 with rfl | ⟨a, rfl⟩
    · exact Or.inl rfl
    · exact Or.inr ⟨_, rfl⟩

/-- a method called with As -/
def zC (X : zX) (mz : zM) (As : List Value) (σ : zS) (Q : Option Value → zS → Prop) : Prop := zE X mz 0 (z_ent mz.2.1 As) [] σ Q
theorem zC.mono {X : zX} {mz : zM} {As : List Value} {σ : zS} {Q Q' : Option Value → zS → Prop} (h : zC X mz As σ Q) (hq : ∀ r σ', Q r σ' → Q' r σ') : zC X mz As σ Q' := zE.mono h hq
/-- what a call asks of its method, whoever calls -/
def z_okM (mz : zM) (n : Nat) : Prop := plainName mz.1.1.cls = true ∧ Cond.code mz.1.1 mz.1.2 mz.2.1 mz.2.2.1 ∈ zTB ∧ Cond.initialized mz.1.1.cls ∈ zTB ∧ (mz.1.1.cls ≠ "java/lang/invoke/MethodHandle" ∧ mz.1.1.cls ≠ "java/lang/invoke/VarHandle" ∧ (parseMethodDescriptor mz.1.1.desc).map (fun d => d.parameters.length) = some n)
section ZC2
variable {X : zX} {mt mz : zM} {pc pc' tgt : Nat} {ls ls' st st' rest As : List Value} {σ σ2 : zS} {Q : Option Value → zS → Prop}
theorem z_call (hok : ∀ v ∈ As, z_okA v = true) (hy : plainName mz.1.1.cls = true) (hlen : (lg_sl As).length ≤ mz.2.1)
    (hrun : ∀ {ω : zW} {p : Program} {l : Launch} {e : Env} {R : Room} {s : State} {m : MethodId} {args : Array Value} {below : List Frame} {meth : Method} {c : Code} {H : Heap} {locs : List Loc} {cells slots mc ms : Nat} {Qc : Array Value → State → Outcome → State → Prop} (lsR : Array Slot),
      z_In mt p R s m args meth c → z_K1 ω s → z_K2 ω X s H → z_H ω σ H → z_L ω mt.2.1 ls lsR → Met l mz.1.1 (z_ws mz) (z_rm mz mc ms) (z_Pc ω X As σ) Qc mc ms (fun q => z_B ω ≤ q) → cells + mc ≤ R.cells → slots + ms ≤ R.slots →
      va_Run p l e R s m args below meth c H locs cells slots mc ms (F0 m pc lsR (st.map (z_e ω))) (rest.map (z_e ω)) (Qc (As.map (z_e ω)).toArray) (fun q => z_B ω ≤ q))
    (h : zC X mz As σ (fun r σ1 => zE X mt (pc + 3) ls (r.toList ++ rest) σ1 Q)) : zE X mt pc ls st σ Q := by
  obtain ⟨r1, σ1, ⟨r, σ', hQ, h1, h2, h3⟩, hS⟩ := h
  have g1 := hS.1
  have g2 := hS.2.1
  refine ⟨r, σ', hQ, by omega, by omega, ?_⟩
  intro ω p l e R s m args below meth c H locs cells slots Qf lsR hI hK1 hK2 hH hL hlo hc hs k
  have M := z_met (l := l) ω hy hok hlen hS
  have run := hrun (ω := ω) (p := p) (e := e) (R := R) (s := s) (m := m) (args := args) (below := below) (meth := meth) (c := c) (H := H) (locs := locs) (cells := cells) (slots := slots) lsR hI hK1 hK2 hH hL M (by omega) (by omega)
  intro T hT Xs
  obtain ⟨v, st₀, t, T', L, h0, X', hL', e1, e2, ⟨hv, hK2t, hHt⟩, step⟩ := run T hT Xs
  have hv : v = r1.map (z_e ω) := Outcome.returned.inj hv
  have a1 : cells + (σ1.1.1 - σ.1.1) + (σ'.1.1 - σ1.1.1) = cells + (σ'.1.1 - σ.1.1) := by omega
  have a2 : slots + (σ1.1.2 - σ.1.2) + (σ'.1.2 - σ1.1.2) = slots + (σ'.1.2 - σ.1.2) := by omega
  have hal : t.vm.Alike s.vm := by rw [← e2]; exact X'.warmed.alike.symm
  obtain ⟨t2, b1, b2⟩ := h3 ω p l e R s m args below meth c T'.heap (locs ++ L) (cells + (σ1.1.1 - σ.1.1)) (slots + (σ1.1.2 - σ.1.2)) Qf lsR hI hK1 (by rw [e1]; exact hK2t.moved hal) (by rw [e1]; exact hHt) hL (fun q hq => by
    rcases List.mem_append.mp hq with h | h
    · exact hlo q h
    · exact hL' q h) (by omega) (by omega) (by rw [a1, a2]; exact k) T' rfl X'
  refine ⟨t2, step t2 ?_, b2⟩
  have es : v.toList ++ rest.map (z_e ω) = (r1.toList ++ rest).map (z_e ω) := by
    rw [hv]
    cases r1 <;> rfl
  rw [es]
  exact b1
theorem z_goodIn (hc : Cond.code mz.1.1 mz.1.2 mz.2.1 mz.2.2.1 ∈ zTB) : GoodIn zTB (z_ws mz) := by
  intro w hw
  rcases List.mem_cons.mp hw with rfl | h
  · exact ⟨hc, zTB_good hc⟩
  · exact ⟨h, zTB_good h⟩
theorem z_cats (ω : zW) : ∀ (l : List Value), ((l.map (z_e ω)).map fun v => v.category).sum = (l.map fun v => v.category).sum
  | [] => rfl
  | v :: t => by
    rw [List.map_cons, List.map_cons, List.map_cons, List.sum_cons, List.sum_cons, z_cats ω t, z_e_cat]
theorem z_callB {ω : zW} {p : Program} {R : Room} {s : State} {m : MethodId} {args : Array Value} {meth : Method} {c : Code} {mc ms n idx : Nat} (hI : z_In mt p R s m args meth c) (hok : z_okM mz n) (hlink : Cond.methodLink mt.1.1.cls idx mz.1.1 ∈ zTB) (hroom : mz.2.2.2.1 + 1 ≤ mt.2.2.2.1 ∧ 8 + (mz.2.1 + 11) + mz.2.2.2.2 ≤ mt.2.2.2.2) :
    CallB R s args mt.1.1.cls idx mz.1.1 mz.1.2 mz.2.1 mz.2.2.1 (z_ws mz) (z_rm mz mc ms) mc ms n := by
  obtain ⟨-, hc, hini, hd⟩ := hok
  have hts := hI.2.2.2.2.1
  exact callB_of n hts (z_goodIn hc) rfl rfl rfl (hts _ hini) (hts _ hlink) hd ⟨Nat.le_trans hroom.1 hI.2.2.2.2.2.1, Nat.le_trans hroom.2 hI.2.2.2.2.2.2.1⟩
theorem e_invS {idx n : Nat} (hd : zD mt.1.2 pc (.invokestatic idx) 3 pc') (hok : z_okM mz n) (hst0 : Cond.static mz.1.1 ∈ zTB) (hlink : Cond.methodLink mt.1.1.cls idx mz.1.1 ∈ zTB) (hroom : mz.2.2.2.1 + 1 ≤ mt.2.2.2.1 ∧ 8 + (mz.2.1 + 11) + mz.2.2.2.2 ≤ mt.2.2.2.2)
    (hn : As.length = n) (hA : ∀ v ∈ As, z_okA v = true) (hlen : (lg_sl As).length ≤ mz.2.1) (hrest : (rest.map fun v => v.category).sum ≤ 8) (hst : st = As.reverse ++ rest)
    (h : zC X mz As σ (fun r σ1 => zE X mt pc' ls (r.toList ++ rest) σ1 Q)) : zE X mt pc ls st σ Q := by
  obtain ⟨hd, rfl⟩ := hd
  refine z_call hA hok.1 hlen (@fun ω p l e R s m args below meth c H locs cells slots mc ms Qc lsR hI hK1 hK2 hH hL M hc hs => ?_) h
  have hts := hI.2.2.2.2.1
  refine va_runS (g := F0 m pc lsR (st.map (z_e ω))) (cc := mt.1.2) (nL := mt.2.1) (As := As.map (z_e ω)) (rest := rest.map (z_e ω)) ⟨hI.1, hI.2.1, hI.2.2.1, hI.2.2.2.1, hts⟩ M ⟨z_callB (ω := ω) hI hok hlink hroom, hts _ hst0⟩ ⟨z_blind, fun U hU hW => ⟨rfl, hK1.warm hW, by rw [hU]; exact hK2.moved hW.alike, by rw [hU]; exact hH⟩⟩ rfl (by rw [List.length_map]; exact hn) hL.1 ?_ (lv_room (by rw [z_cats]; exact hrest)) hd ⟨hc, hs⟩
  show st.map (z_e ω) = _
  rw [hst, List.map_append, List.map_reverse]
theorem e_invV {idx n b ci N : Nat} {C : String} {T : u_T} (hd : zD mt.1.2 pc (.invokevirtual idx) 3 pc') (hok : z_okM mz n) (hin : Cond.instanceMethod mz.1.1 ∈ zTB) (hsel : Cond.selects mz.1.1.cls mz.1.1 mz.1.1 ∈ zTB) (hlink : Cond.methodLink mt.1.1.cls idx mz.1.1 ∈ zTB) (hroom : mz.2.2.2.1 + 1 ≤ mt.2.2.2.1 ∧ 8 + (mz.2.1 + 11) + mz.2.2.2.2 ≤ mt.2.2.2.2)
    (hb : zIs σ b (ci, 0)) (hkd : z_kd ci N C T) (hC : mz.1.1.cls = C) (hn : As.length = n) (hA : ∀ v ∈ As, z_okA v = true) (hlen : (lg_sl (.ref b :: As)).length ≤ mz.2.1) (hrest : (rest.map fun v => v.category).sum ≤ 8) (hst : st = As.reverse ++ .ref b :: rest)
    (h : zC X mz (.ref b :: As) σ (fun r σ1 => zE X mt pc' ls (r.toList ++ rest) σ1 Q)) : zE X mt pc ls st σ Q := by
  obtain ⟨hd, rfl⟩ := hd
  refine z_call (fun v hv => by
    rcases List.mem_cons.mp hv with rfl | hv
    · rfl
    · exact hA v hv) hok.1 hlen (@fun ω p l e R s m args below meth c H locs cells slots mc ms Qc lsR hI hK1 hK2 hH hL M hc hs => ?_) h
  have hts := hI.2.2.2.2.1
  have hcell : ∃ cellB : Cell, H[z_ad ω b]? = some cellB ∧ cellB.vm.isStatics = false ∧ s.vm.findClass mz.1.1.cls = some cellB.cls := by
    obtain ⟨r, h1, cell, q1, q2, q3, q4⟩ := (z_at_get hH hb).1 hkd.2.1
    refine ⟨cell, by rw [z_ad3 hb.1]; exact q1, by rw [q3]; rfl, ?_⟩
    rw [q2, hC]
    exact (hK1.1.1 ci _ hkd.1).2.1
  refine va_runV (g := F0 m pc lsR (st.map (z_e ω))) (cc := mt.1.2) (nL := mt.2.1) (C := mz.1.1.cls) (b := z_ad ω b) (As := As.map (z_e ω)) (rest := rest.map (z_e ω)) ⟨hI.1, hI.2.1, hI.2.2.1, hI.2.2.2.1, hts⟩ M ⟨z_callB (ω := ω) hI hok hlink hroom, hts _ hin, hts _ hsel⟩ ⟨z_blind, hcell, fun U hU hW => ⟨rfl, hK1.warm hW, by rw [hU]; exact hK2.moved hW.alike, by rw [hU]; exact hH⟩⟩ rfl (by rw [List.length_map]; exact hn) hL.1 ?_ (lv_room (by rw [z_cats]; exact hrest)) hd ⟨hc, hs⟩
  show st.map (z_e ω) = _
  rw [hst, List.map_append, List.map_reverse]
  rfl
/-- a call on the text of the letters -/
theorem e_invVs {idx n : Nat} (hd : zD mt.1.2 pc (.invokevirtual idx) 3 pc') (hok : z_okM mz n) (hin : Cond.instanceMethod mz.1.1 ∈ zTB) (hsel : Cond.selects mz.1.1.cls mz.1.1 mz.1.1 ∈ zTB) (hlink : Cond.methodLink mt.1.1.cls idx mz.1.1 ∈ zTB) (hroom : mz.2.2.2.1 + 1 ≤ mt.2.2.2.1 ∧ 8 + (mz.2.1 + 11) + mz.2.2.2.2 ≤ mt.2.2.2.2)
    (hC : mz.1.1.cls = "java/lang/String") (hn : As.length = n) (hA : ∀ v ∈ As, z_okA v = true) (hlen : (lg_sl (.ref 1 :: As)).length ≤ mz.2.1) (hrest : (rest.map fun v => v.category).sum ≤ 8) (hst : st = As.reverse ++ .ref 1 :: rest)
    (h : zC X mz (.ref 1 :: As) σ (fun r σ1 => zE X mt pc' ls (r.toList ++ rest) σ1 Q)) : zE X mt pc ls st σ Q := by
  obtain ⟨hd, rfl⟩ := hd
  refine z_call (fun v hv => by
    rcases List.mem_cons.mp hv with rfl | hv
    · rfl
    · exact hA v hv) hok.1 hlen (@fun ω p l e R s m args below meth c H locs cells slots mc ms Qc lsR hI hK1 hK2 hH hL M hc hs => ?_) h
  have hts := hI.2.2.2.2.1
  have hcell : ∃ cellB : Cell, H[z_ad ω 1]? = some cellB ∧ cellB.vm.isStatics = false ∧ s.vm.findClass mz.1.1.cls = some cellB.cls := by
    obtain ⟨cell, q1, q2, q3, -⟩ := (hK2.2.1.1 0 (by decide)).1
    exact ⟨cell, q1, q2, by rw [hC]; exact q3⟩
  refine va_runV (g := F0 m pc lsR (st.map (z_e ω))) (cc := mt.1.2) (nL := mt.2.1) (C := mz.1.1.cls) (b := z_ad ω 1) (As := As.map (z_e ω)) (rest := rest.map (z_e ω)) ⟨hI.1, hI.2.1, hI.2.2.1, hI.2.2.2.1, hts⟩ M ⟨z_callB (ω := ω) hI hok hlink hroom, hts _ hin, hts _ hsel⟩ ⟨z_blind, hcell, fun U hU hW => ⟨rfl, hK1.warm hW, by rw [hU]; exact hK2.moved hW.alike, by rw [hU]; exact hH⟩⟩ rfl (by rw [List.length_map]; exact hn) hL.1 ?_ (lv_room (by rw [z_cats]; exact hrest)) hd ⟨hc, hs⟩
  show st.map (z_e ω) = _
  rw [hst, List.map_append, List.map_reverse]
  rfl
theorem e_invI {idx n b : Nat} (hd : zD mt.1.2 pc (.invokespecial idx) 3 pc') (hok : z_okM mz n) (hin : Cond.instanceMethod mz.1.1 ∈ zTB) (hnm : mz.1.1.name = "<init>") (hret : mz.2.2.1 = none) (hlink : Cond.methodLink mt.1.1.cls idx mz.1.1 ∈ zTB) (hroom : mz.2.2.2.1 + 1 ≤ mt.2.2.2.1 ∧ 8 + (mz.2.1 + 11) + mz.2.2.2.2 ≤ mt.2.2.2.2)
    (hn : As.length = n) (hA : ∀ v ∈ As, z_okA v = true) (hlen : (lg_sl (.ref b :: As)).length ≤ mz.2.1) (hrest : (rest.map fun v => v.category).sum ≤ 8) (hst : st = As.reverse ++ .ref b :: rest)
    (h : zC X mz (.ref b :: As) σ (fun r σ1 => zE X mt pc' ls (r.toList ++ rest) σ1 Q)) : zE X mt pc ls st σ Q := by
  obtain ⟨hd, rfl⟩ := hd
  refine z_call (fun v hv => by
    rcases List.mem_cons.mp hv with rfl | hv
    · rfl
    · exact hA v hv) hok.1 hlen (@fun ω p l e R s m args below meth c H locs cells slots mc ms Qc lsR hI hK1 hK2 hH hL M hc hs => ?_) h
  have hts := hI.2.2.2.2.1
  have hB := z_callB (ω := ω) (mc := mc) (ms := ms) hI hok hlink hroom
  rw [hret] at hB
  refine va_runI (g := F0 m pc lsR (st.map (z_e ω))) (cc := mt.1.2) (nL := mt.2.1) (b := z_ad ω b) (As := As.map (z_e ω)) (rest := rest.map (z_e ω)) ⟨hI.1, hI.2.1, hI.2.2.1, hI.2.2.2.1, hts⟩ M ⟨hB, hnm, hts _ hin⟩ ⟨z_blind, fun U hU hW => ⟨rfl, hK1.warm hW, by rw [hU]; exact hK2.moved hW.alike, by rw [hU]; exact hH⟩⟩ rfl (by rw [List.length_map]; exact hn) hL.1 ?_ (lv_room (by rw [z_cats]; exact hrest)) hd ⟨hc, hs⟩
  show st.map (z_e ω) = _
  rw [hst, List.map_append, List.map_reverse]
  rfl
theorem z_callN {ω : zW} {p : Program} {R : Room} {s : State} {m : MethodId} {args : Array Value} {meth : Method} {c : Code} {mc ms n idx : Nat} {host : String} (hI : z_In mt p R s m args meth c) (hK1 : z_K1 ω s) (hok : z_okM mz n) (hlink : Cond.methodLinkNest mt.1.1.cls idx mz.1.1 host ∈ zNW) (hroom : mz.2.2.2.1 + 1 ≤ mt.2.2.2.1 ∧ 8 + (mz.2.1 + 11) + mz.2.2.2.2 ≤ mt.2.2.2.2) :
    va_CN R s args mt.1.1.cls idx mz.1.1 host mz.1.2 mz.2.1 mz.2.2.1 (z_ws mz) (z_rm mz mc ms) mc ms n := by
  obtain ⟨-, hc, hini, hd⟩ := hok
  have hts := hI.2.2.2.2.1
  exact va_cnB n hts (z_goodIn hc) rfl rfl rfl (hK1.2.1 _ hlink) (hts _ hini) hd ⟨Nat.le_trans hroom.1 hI.2.2.2.2.2.1, Nat.le_trans hroom.2 hI.2.2.2.2.2.2.1⟩
theorem e_invIN {idx n b : Nat} {host : String} (hd : zD mt.1.2 pc (.invokespecial idx) 3 pc') (hok : z_okM mz n) (hin : Cond.instanceMethod mz.1.1 ∈ zTB) (hnm : mz.1.1.name = "<init>") (hret : mz.2.2.1 = none) (hlink : Cond.methodLinkNest mt.1.1.cls idx mz.1.1 host ∈ zNW) (hroom : mz.2.2.2.1 + 1 ≤ mt.2.2.2.1 ∧ 8 + (mz.2.1 + 11) + mz.2.2.2.2 ≤ mt.2.2.2.2)
    (hn : As.length = n) (hA : ∀ v ∈ As, z_okA v = true) (hlen : (lg_sl (.ref b :: As)).length ≤ mz.2.1) (hrest : (rest.map fun v => v.category).sum ≤ 8) (hst : st = As.reverse ++ .ref b :: rest)
    (h : zC X mz (.ref b :: As) σ (fun r σ1 => zE X mt pc' ls (r.toList ++ rest) σ1 Q)) : zE X mt pc ls st σ Q := by
  obtain ⟨hd, rfl⟩ := hd
  refine z_call (fun v hv => by
    rcases List.mem_cons.mp hv with rfl | hv
    · rfl
    · exact hA v hv) hok.1 hlen (@fun ω p l e R s m args below meth c H locs cells slots mc ms Qc lsR hI hK1 hK2 hH hL M hc hs => ?_) h
  have hts := hI.2.2.2.2.1
  have hB := z_callN (ω := ω) (mc := mc) (ms := ms) hI hK1 hok hlink hroom
  rw [hret] at hB
  refine va_runIN (g := F0 m pc lsR (st.map (z_e ω))) (cc := mt.1.2) (nL := mt.2.1) (b := z_ad ω b) (As := As.map (z_e ω)) (rest := rest.map (z_e ω)) ⟨hI.1, hI.2.1, hI.2.2.1, hI.2.2.2.1, hts⟩ M ⟨hB, hnm, hts _ hin⟩ ⟨z_blind, fun U hU hW => ⟨rfl, hK1.warm hW, by rw [hU]; exact hK2.moved hW.alike, by rw [hU]; exact hH⟩⟩ rfl (by rw [List.length_map]; exact hn) hL.1 ?_ (lv_room (by rw [z_cats]; exact hrest)) hd ⟨hc, hs⟩
  show st.map (z_e ω) = _
  rw [hst, List.map_append, List.map_reverse]
  rfl
theorem e_invSN {idx n : Nat} {host : String} (hd : zD mt.1.2 pc (.invokestatic idx) 3 pc') (hok : z_okM mz n) (hst0 : Cond.static mz.1.1 ∈ zTB) (hlink : Cond.methodLinkNest mt.1.1.cls idx mz.1.1 host ∈ zNW) (hroom : mz.2.2.2.1 + 1 ≤ mt.2.2.2.1 ∧ 8 + (mz.2.1 + 11) + mz.2.2.2.2 ≤ mt.2.2.2.2)
    (hn : As.length = n) (hA : ∀ v ∈ As, z_okA v = true) (hlen : (lg_sl As).length ≤ mz.2.1) (hrest : (rest.map fun v => v.category).sum ≤ 8) (hst : st = As.reverse ++ rest)
    (h : zC X mz As σ (fun r σ1 => zE X mt pc' ls (r.toList ++ rest) σ1 Q)) : zE X mt pc ls st σ Q := by
  obtain ⟨hd, rfl⟩ := hd
  refine z_call hA hok.1 hlen (@fun ω p l e R s m args below meth c H locs cells slots mc ms Qc lsR hI hK1 hK2 hH hL M hc hs => ?_) h
  have hts := hI.2.2.2.2.1
  refine va_runSN (g := F0 m pc lsR (st.map (z_e ω))) (cc := mt.1.2) (nL := mt.2.1) (As := As.map (z_e ω)) (rest := rest.map (z_e ω)) ⟨hI.1, hI.2.1, hI.2.2.1, hI.2.2.2.1, hts⟩ M ⟨z_callN (ω := ω) hI hK1 hok hlink hroom, hts _ hst0, trivial⟩ ⟨z_blind, fun U hU hW => ⟨rfl, hK1.warm hW, by rw [hU]; exact hK2.moved hW.alike, by rw [hU]; exact hH⟩⟩ rfl (by rw [List.length_map]; exact hn) hL.1 ?_ (lv_room (by rw [z_cats]; exact hrest)) hd ⟨hc, hs⟩
  show st.map (z_e ω) = _
  rw [hst, List.map_append, List.map_reverse]
end ZC2
