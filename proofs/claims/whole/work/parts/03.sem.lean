/-! THE MACHINE AS A SCRIPT'S RUN SEES IT. Addresses: 0 the script, 1 the text of the letters, 2 its bytes, from 3 on the cells that were made since.
zS: (next address, slots made), what a cell is (kind, length), what it holds. zM: a method: name, code, how many words of locals, what it answers, frames and words below it. -/
abbrev zS : Type := (Nat × Nat) × (Nat → Nat × Nat) × (Nat → Nat → Value)
abbrev zM : Type := (MethodName × ByteArray) × Nat × Option FieldType × Nat × Nat
/-- the machine's side: (kinds' numbers, slots), numbers of the rows' kinds, where the script, the text, its bytes lie, where the new cells begin -/
abbrev zW : Type := va_G × (Nat → ClassId) × Nat × Nat × Nat × Nat
abbrev z_B (ω : zW) : Nat := ω.2.2.2.2.2
def zU : Value := .float 0
abbrev vi (z : Int) : Value := .int (Int32.ofInt z)
def z_ad (ω : zW) (a : Nat) : Nat := if a = 0 then ω.2.2.1 else if a = 1 then ω.2.2.2.1 else if a = 2 then ω.2.2.2.2.1 else z_B ω + (a - 3)
def z_e (ω : zW) (v : Value) : Value := match v with
  | .ref a => .ref (z_ad ω a)
  | v => v
theorem z_e_cat (ω : zW) (v : Value) : (z_e ω v).category = v.category := by cases v <;> rfl
def z_isU (v : Value) : Bool := match v with
  | .float _ => true
  | _ => false
def z_nth : List Value → Nat → Value
  | [], _ => zU
  | v :: _, 0 => v
  | _ :: l, n + 1 => z_nth l n
def z_set : List Value → Nat → Value → List Value
  | [], _, _ => []
  | _ :: l, 0, w => w :: l
  | v :: l, n + 1, w => v :: z_set l n w
theorem z_nth_set : ∀ (l : List Value) (k : Nat) (w : Value) (i : Nat), z_nth (z_set l k w) i = z_nth l i ∨ (i = k ∧ z_nth (z_set l k w) i = w)
  | [], _, _, _ => Or.inl rfl
  | _ :: _, 0, _, 0 => Or.inr ⟨rfl, rfl⟩
  | _ :: _, 0, _, _ + 1 => Or.inl rfl
  | _ :: _, _ + 1, _, 0 => Or.inl rfl
  | _ :: l, k + 1, w, i + 1 => by
    rcases z_nth_set l k w i with h | ⟨h1, h2⟩
    · exact Or.inl h
    · exact Or.inr ⟨by rw [h1], h2⟩
theorem z_nth_self : ∀ (l : List Value) (k : Nat) (w : Value), z_nth (z_set l k w) k = w ∨ z_nth (z_set l k w) k = zU
  | [], _, _ => Or.inr rfl
  | _ :: _, 0, _ => Or.inl rfl
  | _ :: l, k + 1, w => z_nth_self l k w
/-- the locals as a list of places -/
def z_al (ω : zW) (nL : Nat) (ls : List Value) : List (Nat × Value) := (List.range nL).filterMap (fun i => if z_isU (z_nth ls i) = true then none else some (i, z_e ω (z_nth ls i)))
theorem z_al_mem {ω : zW} {nL : Nat} {ls : List Value} {q : Nat × Value} : q ∈ z_al ω nL ls ↔ q.1 < nL ∧ z_isU (z_nth ls q.1) = false ∧ q.2 = z_e ω (z_nth ls q.1) := by
  unfold z_al
  rw [List.mem_filterMap]
  constructor
  · rintro ⟨i, hi, h⟩
    by_cases hu : z_isU (z_nth ls i) = true
    · rw [if_pos hu] at h; cases h
    · rw [if_neg hu] at h
      cases h
      exact ⟨List.mem_range.mp hi, by simpa using hu, rfl⟩
  · rintro ⟨h1, h2, h3⟩
    refine ⟨q.1, List.mem_range.mpr h1, ?_⟩
    rw [if_neg (by rw [h2]; decide), ← h3]
def z_L (ω : zW) (nL : Nat) (ls : List Value) (lsR : Array Slot) : Prop := lv_has lsR nL (z_al ω nL ls)
theorem z_L_at {ω : zW} {nL : Nat} {ls : List Value} {lsR : Array Slot} (h : z_L ω nL ls lsR) {k : Nat} {v : Value} (hk : k < nL) (hv : z_nth ls k = v) (hu : z_isU v = false) : lsR[k]? = some (.val (z_e ω v)) := by
  subst hv
  exact h.2.2 (k, z_e ω (z_nth ls k)) (z_al_mem.mpr ⟨hk, hu, rfl⟩)
def z_okset (ls : List Value) (k : Nat) : Bool := (z_nth ls (k - 1)).category != 2
theorem z_L_set {ω : zW} {nL : Nat} {ls : List Value} {lsR : Array Slot} {k : Nat} {v : Value} (hok : z_okset ls k = true) (h : lv_has lsR nL ((k, z_e ω v) :: (z_al ω nL ls).filter (fun q => !(q.1 == k) && !(q.1 + 1 == k && q.2.category == 2)))) : z_L ω nL (z_set ls k v) lsR := by
  refine ⟨h.1, h.2.1, fun q hq => h.2.2 q ?_⟩
  obtain ⟨h1, h2, h3⟩ := z_al_mem.mp hq
  by_cases hqk : q.1 = k
  · rcases z_nth_self ls k v with e | e
    · rw [hqk, e] at h3
      rw [List.mem_cons]
      exact Or.inl (Prod.ext hqk h3)
    · rw [hqk, e] at h2
      cases h2
  · rcases z_nth_set ls k v q.1 with e | ⟨e, -⟩
    · rw [e] at h2 h3
      refine List.mem_cons_of_mem _ (List.mem_filter.mpr ⟨z_al_mem.mpr ⟨h1, h2, h3⟩, ?_⟩)
      have n1 : (q.1 == k) = false := by simpa using hqk
      rw [n1]
      by_cases hk1 : q.1 + 1 = k
      · have : (q.2.category == 2) = false := by
          rw [h3, z_e_cat]
          have h0 : q.1 = k - 1 := by omega
          rw [h0]
          unfold z_okset at hok
          simpa using hok
        rw [this]
        simp
      · have : (q.1 + 1 == k) = false := by simpa using hk1
        rw [this]
        simp
    · exact absurd e hqk
/-! what a run knows of the tables -/
def zTB : List Cond := lw_tbl.filter goodWord
theorem zTB_good {w : Cond} (h : w ∈ zTB) : (w.onTables && w.keeps) = true ∨ ∃ ty, w = .arrayClass ty := good_of_word (List.mem_filter.mp h).2
theorem zTB_of {w : Cond} (h : w ∈ lw_tbl) (hg : goodWord w = true) : w ∈ zTB := List.mem_filter.mpr ⟨h, hg⟩
def zNW : List Cond := tables_1.filter (fun w => match w with | .methodLinkNest _ _ _ _ => true | _ => false)
def zAO : List String := [RX4, RX5, RX7, RX9]
/-- the rows' kinds: 20 int, 21 boolean, 22 byte, 23.. references -/
def z_ty (k : Nat) : FieldType := if k = 20 then .int else if k = 21 then .boolean else if k = 22 then .byte else if k = 23 then .object RX4 else if k = 24 then .object RX5 else if k = 25 then .object RX7 else .object RX9
def z_tys (ω : zW) : List (ClassId × FieldType) := [20, 21, 22, 23, 24, 25, 26].map (fun k => (ω.2.1 k, z_ty k))
def z_K1 (ω : zW) (U : State) : Prop := va_K ω.1 vwCl (z_tys ω) U ∧ (∀ w ∈ zNW, va_Nw w U) ∧ (∀ C ∈ zAO, va_AO C U) ∧ vk_R "TenForOne$Tape" 33 "mcks" ω.2.2.2.1 U
abbrev zX : Type := Nat × (Nat → Int32)
def z_K2 (ω : zW) (X : zX) (U : State) (H : Heap) : Prop := va_Z "java/lang/String" "COMPACT_STRINGS" "Z" (.int 1) (fun q => z_B ω ≤ q) U H ∧ vk_S 1 [4] [[109, 99, 107, 115]] (fun _ => ω.2.2.2.1) (fun _ => ω.2.2.2.2.1) (fun q => z_B ω ≤ q) U H ∧ va_X ω.2.2.1 X.1 X.2 U H ∧ ω.2.2.1 < z_B ω
/-- a cell of the run, in the machine's heap -/
def z_at (ω : zW) (q : Nat) (sp : Nat × Nat) (h : Nat → Value) (H : Heap) : Prop :=
  (sp.1 < 13 → ∃ r : vw_C, vwCl[sp.1]? = some r ∧ t_OB q (ω.1.1 sp.1) r.2.2 (ω.1.2 sp.1) H (fun j => z_e ω (h j))) ∧ (13 ≤ sp.1 → 20 ≤ sp.1 ∧ sp.1 ≤ 26 ∧ H[q]? = some (arrV (ω.2.1 sp.1) sp.2 (fun j => z_e ω (h j))))
def z_H (ω : zW) (σ : zS) (H : Heap) : Prop := 3 ≤ σ.1.1 ∧ H.size + 3 = z_B ω + σ.1.1 ∧ ∀ a, 3 ≤ a → a < σ.1.1 → z_at ω (z_B ω + (a - 3)) (σ.2.1 a) (σ.2.2 a) H
def z_In (mt : zM) (p : Program) (R : Room) (s : State) (m : MethodId) (args : Array Value) (meth : Method) (c : Code) : Prop :=
  p.tables.exec = Jvm.exec ∧ c.code = mt.1.2 ∧ c.maxLocals = mt.2.1 ∧ s.vm.findClass mt.1.1.cls = some m.cls ∧ (∀ w ∈ zTB, w.before args s = true) ∧ mt.2.2.2.1 ≤ R.frames ∧ mt.2.2.2.2 ≤ R.locals ∧ (mt.1.1.name = "<init>" → meth.name = "<init>")
/-- a method's end, with its answer -/
def z_Ret (mt : zM) (pc : Nat) (st : List Value) (r : Option Value) : Prop :=
  (r = none ∧ st = [] ∧ mt.2.2.1 = none ∧ decode mt.1.2 pc = .ok (.return_, 1)) ∨
  (∃ (x : Int32) (ty : FieldType), r = some (.int x) ∧ st = [.int x] ∧ mt.2.2.1 = some ty ∧ narrow ty (.int x) = .int x ∧ decode mt.1.2 pc = .ok (.ireturn, 1)) ∨
  (∃ (v : Value) (rt : FieldType), r = some v ∧ st = [v] ∧ mt.2.2.1 = some rt ∧ ((∃ n, rt = .object n) ∨ ∃ t, rt = .array t) ∧ (v = .null ∨ ∃ a, v = .ref a) ∧ decode mt.1.2 pc = .ok (.areturn, 1))
/-- from pc the method comes to its end with r and the cells of σ' -/
def z_Sem (X : zX) (mt : zM) (pc : Nat) (ls st : List Value) (σ : zS) (r : Option Value) (σ' : zS) : Prop :=
  σ.1.1 ≤ σ'.1.1 ∧ σ.1.2 ≤ σ'.1.2 ∧
  ∀ (ω : zW) (p : Program) (l : Launch) (e : Env) (R : Room) (s : State) (m : MethodId) (args : Array Value) (below : List Frame) (meth : Method) (c : Code) (H : Heap) (locs : List Loc) (cells slots : Nat) (Qf : State → Prop) (lsR : Array Slot),
    z_In mt p R s m args meth c → z_K1 ω s → z_K2 ω X s H → z_H ω σ H → z_L ω mt.2.1 ls lsR → (∀ q ∈ locs, z_B ω ≤ q.base) →
    cells + (σ'.1.1 - σ.1.1) ≤ R.cells → slots + (σ'.1.2 - σ.1.2) ≤ R.slots →
    (∀ (H' : Heap) (locs' : List Loc) (pc' : Nat) (lsR' : Array Slot) (st' : List Value), z_Ret mt pc' st' r → z_K2 ω X s H' → z_H ω σ' H' → (∀ q ∈ locs', z_B ω ≤ q.base) →
      W p l e R s m args below meth c H' locs' (cells + (σ'.1.1 - σ.1.1)) (slots + (σ'.1.2 - σ.1.2)) Qf (F0 m pc' lsR' (st'.map (z_e ω)))) →
    W p l e R s m args below meth c H locs cells slots Qf (F0 m pc lsR (st.map (z_e ω)))
/-- from pc the method comes to its end, and then Q -/
def zE (X : zX) (mt : zM) (pc : Nat) (ls st : List Value) (σ : zS) (Q : Option Value → zS → Prop) : Prop := ∃ (r : Option Value) (σ' : zS), Q r σ' ∧ z_Sem X mt pc ls st σ r σ'
theorem zE.mono {X : zX} {mt : zM} {pc : Nat} {ls st : List Value} {σ : zS} {Q Q' : Option Value → zS → Prop} (h : zE X mt pc ls st σ Q) (hq : ∀ r σ', Q r σ' → Q' r σ') : zE X mt pc ls st σ Q' := by
  obtain ⟨r, σ', h1, h2⟩ := h
  exact ⟨r, σ', hq _ _ h1, h2⟩
/-- an instruction that leaves the cells as they are -/
theorem z_pure {X : zX} {mt : zM} {pc pc' : Nat} {ls ls' st st' : List Value} {σ : zS} {Q : Option Value → zS → Prop}
    (row : ∀ {ω : zW} {p : Program} {l : Launch} {e : Env} {R : Room} {s : State} {m : MethodId} {args : Array Value} {below : List Frame} {meth : Method} {c : Code} {H : Heap} {locs : List Loc} {cells slots : Nat} {Qf : State → Prop} (lsR : Array Slot),
      z_In mt p R s m args meth c → z_K1 ω s → z_K2 ω X s H → z_H ω σ H → z_L ω mt.2.1 ls lsR → (∀ lsR', z_L ω mt.2.1 ls' lsR' → W p l e R s m args below meth c H locs cells slots Qf (F0 m pc' lsR' (st'.map (z_e ω)))) → W p l e R s m args below meth c H locs cells slots Qf (F0 m pc lsR (st.map (z_e ω))))
    (h : zE X mt pc' ls' st' σ Q) : zE X mt pc ls st σ Q := by
  obtain ⟨r, σ', hQ, h1, h2, h3⟩ := h
  refine ⟨r, σ', hQ, h1, h2, ?_⟩
  intro ω p l e R s m args below meth c H locs cells slots Qf lsR hI hK1 hK2 hH hL hlo hc hs k
  exact row lsR hI hK1 hK2 hH hL (fun lsR' hL' => h3 ω p l e R s m args below meth c H locs cells slots Qf lsR' hI hK1 hK2 hH hL' hlo hc hs k)
/-! a decoded instruction, the next place; a jump's goal -/
def zD (cc : ByteArray) (pc : Nat) (i : Instr) (len pc' : Nat) : Prop := decode cc pc = .ok (i, len) ∧ pc + len = pc'
def zJ (cc : ByteArray) (pc : Nat) (i : Instr) (off : Int) (pc' tgt : Nat) : Prop := decode cc pc = .ok (i, 3) ∧ pc + 3 = pc' ∧ (pc : Int) + off = (tgt : Int)
