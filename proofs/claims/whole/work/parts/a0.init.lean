/-! THE TWO OBJECTS ARE MADE (printed by wip/whole/gen/g1.py): the numbers as a list of what was put -/
section GI0
variable {X : zX} {mt : zM} {pc pc' : Nat} {ls st : List Value} {Q : Option Value → zS → Prop}
def ml : List (Nat × Int × Int) → zN
  | [] => fun _ _ => 0
  | t :: L => mup (ml L) t.1 t.2.1 t.2.2
theorem ml_0 {a : Nat} : ∀ {L : List (Nat × Int × Int)}, (L.all fun t => t.1 != a) = true → ∀ j, ml L a j = 0
  | [], _, _ => rfl
  | t :: L, h, j => by
    rw [List.all_cons, Bool.and_eq_true] at h
    have ht : a ≠ t.1 := fun q => by
      have := h.1
      rw [q] at this
      simp at this
    show mup (ml L) t.1 t.2.1 t.2.2 a j = 0
    rw [mup_cell ht]
    exact ml_0 h.2 j
theorem ml_r : ∀ {L : List (Nat × Int × Int)}, (L.all fun t => decide (-2147483648 ≤ t.2.2 ∧ t.2.2 ≤ 2147483647)) = true → ∀ a j, zr (ml L a j)
  | [], _, _, _ => by
    show zr 0
    constructor <;> omega
  | t :: L, h, a, j => by
    rw [List.all_cons, Bool.and_eq_true] at h
    exact zr_mup (ml_r h.2) (of_decide_eq_true h.1) a j
theorem ml_hi {n : Nat} : ∀ {L : List (Nat × Int × Int)}, (L.all fun t => decide (t.1 < n)) = true → ∀ a, n ≤ a → ∀ j, ml L a j = 0
  | [], _, _, _, _ => rfl
  | t :: L, h, a, ha, j => by
    rw [List.all_cons, Bool.and_eq_true] at h
    have h1 : t.1 < n := of_decide_eq_true h.1
    show mup (ml L) t.1 t.2.1 t.2.2 a j = 0
    rw [mup_cell (by omega)]
    exact ml_hi h.2 a ha j
/-- cells below n stand, of the shapes that they have at last -/
def zP (n k : Nat) (L : List (Nat × Int × Int)) : zS := ((n, k), shp, fun a j => if z_isr (shp a) j = true then rf (ml L a j) else vi (ml L a j))
theorem zE_agree {σ τ : zS} (h : zE X mt pc ls st τ Q) (e1 : σ.1 = τ.1) (e2 : ∀ a, 3 ≤ a → a < τ.1.1 → σ.2.1 a = τ.2.1 a ∧ σ.2.2 a = τ.2.2 a) : zE X mt pc ls st σ Q := by
  obtain ⟨r, σ', hQ, h1, h2, h3⟩ := h
  refine ⟨r, σ', hQ, by rw [e1]; exact h1, by rw [e1]; exact h2, ?_⟩
  intro ω p l e R s m args below meth c H locs cells slots Qf lsR hI hK1 hK2 hH hL hlo hc hs k
  rw [e1] at hc hs k
  refine h3 ω p l e R s m args below meth c H locs cells slots Qf lsR hI hK1 hK2 ?_ hL hlo hc hs k
  obtain ⟨g1, g2, g3⟩ := hH
  rw [e1] at g1 g2 g3
  exact ⟨g1, g2, fun a ha hb => by rw [← (e2 a ha hb).1, ← (e2 a ha hb).2]; exact g3 a ha hb⟩
variable {n k n' k' : Nat} {L : List (Nat × Int × Int)}
theorem zP_nw {sp : Nat × Nat} {sl : Nat} {f : Nat → Value} (hs : shp n = sp) (hz : (L.all fun t => t.1 != n) = true) (hf : ∀ j, f j = if z_isr sp j = true then .null else vi 0) (hn : n + 1 = n') (hk : k + sl = k') (h : zE X mt pc ls st (zP n' k' L) Q) : zE X mt pc ls st (z_new (zP n k L) sp sl f) Q := by
  subst hn hk
  refine zE_agree h rfl (fun a h1 h2 => ?_)
  by_cases ha : a = n
  · subst ha
    refine ⟨?_, ?_⟩
    · show (if a = a then sp else shp a) = shp a
      rw [if_pos rfl, hs]
    · show (if a = a then f else _) = _
      rw [if_pos rfl]
      funext j
      show f j = if z_isr (shp a) j = true then rf (ml L a j) else vi (ml L a j)
      rw [hf j, hs, ml_0 hz]
      rfl
  · refine ⟨?_, ?_⟩
    · show (if a = n then sp else shp a) = shp a
      rw [if_neg ha]
    · show (if a = n then f else _) = _
      rw [if_neg ha]
      rfl
theorem p_new {ci N0 idx : Nat} {C : String} {T : u_T} (hd : zD mt.1.2 pc (.new idx) 3 pc') (hkd : z_kd ci N0 C T) (hcl : Cond.classLink mt.1.1.cls idx C ∈ zTB) (hinst : Cond.instantiable C N0 ∈ zTB) (hini : Cond.initialized C ∈ zTB) (hf : ∀ j, z_df ci j = if z_isr (ci, 0) j = true then .null else vi 0) (hs : shp n = (ci, 0)) (hz : (L.all fun t => t.1 != n) = true) (hn : n + 1 = n') (hk : k + N0 = k') (h : zE X mt pc' ls (.ref n :: st) (zP n' k' L) Q) : zE X mt pc ls st (zP n k L) Q := e_new hd hkd hcl hinst hini (zP_nw hs hz hf hn hk h)
theorem p_newa {q len : Nat} {m : Int} {at0 : ArrayType} (hd : zD mt.1.2 pc (.newarray at0) 2 pc') (hty : newarray.typeOf at0 = z_ty q) (hq : 20 ≤ q ∧ q ≤ 22) (harr : Cond.arrayClass (newarray.typeOf at0) ∈ zTB) (hm : (len : Int) = m) (hl : len ≤ 65536) (hs : shp n = (q, len)) (hz : (L.all fun t => t.1 != n) = true) (hn : n + 1 = n') (hk : k + len = k') (h : zE X mt pc' ls (.ref n :: st) (zP n' k' L) Q) : zE X mt pc ls (vi m :: st) (zP n k L) Q := by
  subst hm
  refine e_newa hd hty hq harr (by omega) (by omega) ?_
  rw [show ((len : Int)).toNat = len from Int.toNat_natCast len]
  refine zP_nw hs hz (fun j => ?_) hn hk h
  unfold z_isr
  rw [if_neg (show ¬ (q, len).1 < 13 by show ¬ q < 13; omega), if_neg (by show ¬ decide (23 ≤ q) = true; simp; omega)]
theorem p_anewa {q len idx : Nat} {m : Int} {C : String} (hd : zD mt.1.2 pc (.anewarray idx) 3 pc') (hty : z_ty q = .object C) (hq : 23 ≤ q ∧ q ≤ 26) (hcl : Cond.classLink mt.1.1.cls idx C ∈ zTB) (hC : C ∈ zAO) (hm : (len : Int) = m) (hl : len ≤ 65536) (hs : shp n = (q, len)) (hz : (L.all fun t => t.1 != n) = true) (hn : n + 1 = n') (hk : k + len = k') (h : zE X mt pc' ls (.ref n :: st) (zP n' k' L) Q) : zE X mt pc ls (vi m :: st) (zP n k L) Q := by
  subst hm
  refine e_anewa hd hty hq hcl hC (by omega) (by omega) ?_
  rw [show ((len : Int)).toNat = len from Int.toNat_natCast len]
  refine zP_nw hs hz (fun j => ?_) hn hk h
  unfold z_isr
  rw [if_neg (show ¬ (q, len).1 < 13 by show ¬ q < 13; omega), if_pos (by show decide (23 ≤ q) = true; simp; omega)]
theorem zP_put {a j : Nat} {i x : Int} {v : Value} (hi : (j : Int) = i) (hv : (if z_isr (shp a) j = true then rf x else vi x) = v) : z_put (zP n k L) a j v = zP n k ((a, i, x) :: L) := by
  unfold z_put zP
  congr 2
  funext b l
  show (if b = a ∧ l = j then v else if z_isr (shp b) l = true then rf (ml L b l) else vi (ml L b l)) = if z_isr (shp b) l = true then rf (mup (ml L) a i x b l) else vi (mup (ml L) a i x b l)
  by_cases hb : b = a ∧ l = j
  · obtain ⟨rfl, rfl⟩ := hb
    rw [if_pos ⟨rfl, rfl⟩, ← hi, mup_self, hv]
  · rw [if_neg hb, mup_ne (fun q => hb ⟨q.1, by have := q.2; omega⟩)]
theorem p_putI {ci f idx a : Nat} {i x : Int} {fin : Bool} {ty : FieldType} (hd : zD mt.1.2 pc (.putfield idx) 3 pc') (hf : z_fld mt.1.1.cls idx ci f fin ty) (hfin : fin = false ∨ (mt.1.1.name = "<init>" ∧ ∃ N T, vwCl[ci]? = some (mt.1.1.cls, T, N))) (h3 : 3 ≤ a) (hn : a < n) (hs : shp a = (ci, 0)) (hr : z_isr (ci, 0) f = false) (hi : (f : Int) = i) (hw : narrow ty (vi x) = vi x) (hfit : fits ty (vi x) = true) (h : zE X mt pc' ls st (zP n k ((a, i, x) :: L)) Q) : zE X mt pc ls (vi x :: .ref a :: st) (zP n k L) Q :=
  e_putf hd hf hfin ⟨h3, hn, hs⟩ hw hfit (by rw [zP_put (x := x) hi (by rw [hs, hr, if_neg (by decide)])]; exact h)
theorem p_putR {ci f idx a r : Nat} {i x : Int} {fin : Bool} {ty : FieldType} (hd : zD mt.1.2 pc (.putfield idx) 3 pc') (hf : z_fld mt.1.1.cls idx ci f fin ty) (hfin : fin = false ∨ (mt.1.1.name = "<init>" ∧ ∃ N T, vwCl[ci]? = some (mt.1.1.cls, T, N))) (h3 : 3 ≤ a) (hn : a < n) (hs : shp a = (ci, 0)) (hr : z_isr (ci, 0) f = true) (hi : (f : Int) = i) (h0 : r ≠ 0) (hx : (r : Int) = x) (hw : narrow ty (.ref r) = .ref r) (hfit : fits ty (.ref r) = true) (h : zE X mt pc' ls st (zP n k ((a, i, x) :: L)) Q) : zE X mt pc ls (.ref r :: .ref a :: st) (zP n k L) Q :=
  e_putf hd hf hfin ⟨h3, hn, hs⟩ hw hfit (by rw [zP_put (x := x) hi (by rw [hs, hr, if_pos rfl, rf, if_neg (by omega), ← hx]; rfl)]; exact h)
theorem p_getR {ci f idx a r : Nat} {fin : Bool} {ty : FieldType} (hd : zD mt.1.2 pc (.getfield idx) 3 pc') (hf : z_fld mt.1.1.cls idx ci f fin ty) (h3 : 3 ≤ a) (hn : a < n) (hs : shp a = (ci, 0)) (hr : z_isr (ci, 0) f = true) (h0 : r ≠ 0) (hx : ml L a f = r) (h : zE X mt pc' ls (.ref r :: st) (zP n k L) Q) : zE X mt pc ls (.ref a :: st) (zP n k L) Q :=
  e_getf hd hf ⟨h3, hn, hs⟩ (by
    show (if z_isr (shp a) f = true then rf (ml L a f) else vi (ml L a f)) = .ref r
    rw [hs, hr, if_pos rfl, hx, rf, if_neg (by omega)]
    rfl) h
theorem p_iast {a len : Nat} {i x : Int} (hd : zD mt.1.2 pc .iastore 1 pc') (h3 : 3 ≤ a) (hn : a < n) (hs : shp a = (20, len)) (h0 : 0 ≤ i) (h1 : i < len) (hl : len ≤ 2147483647) (h : zE X mt pc' ls st (zP n k ((a, i, x) :: L)) Q) : zE X mt pc ls (vi x :: vi i :: .ref a :: st) (zP n k L) Q :=
  e_iast hd ⟨h3, hn, hs⟩ h0 h1 hl (by rw [zP_put (x := x) (z_cast h0) (by rw [hs]; rfl)]; exact h)
theorem p_aast {a b q ci N0 len : Nat} {C : String} {T : u_T} {i x : Int} (hd : zD mt.1.2 pc .aastore 1 pc') (h3 : 3 ≤ a) (hn : a < n) (hs : shp a = (q, len)) (hq : 23 ≤ q) (h3b : 3 ≤ b) (hnb : b < n) (hsb : shp b = (ci, 0)) (hkd : z_kd ci N0 C T) (hty : z_ty q = .object C) (hx : (b : Int) = x) (h0 : 0 ≤ i) (h1 : i < len) (hl : len ≤ 2147483647) (h : zE X mt pc' ls st (zP n k ((a, i, x) :: L)) Q) : zE X mt pc ls (.ref b :: vi i :: .ref a :: st) (zP n k L) Q :=
  e_aast hd ⟨h3, hn, hs⟩ hq ⟨h3b, hnb, hsb⟩ hkd hty h0 h1 hl (by
    have e : z_isr (q, len) i.toNat = true := by
      unfold z_isr
      rw [if_neg (by show ¬ q < 13; omega)]
      simpa using hq
    rw [zP_put (x := x) (z_cast h0) (by rw [hs, e, if_pos rfl, rf, if_neg (by omega), ← hx]; rfl)]
    exact h)
end GI0
section GI1
variable {X : zX} {Q : Option Value → zS → Prop}
theorem dg_0 (j : Nat) : z_df 0 j = if z_isr (0, 0) j = true then .null else vi 0 := by rcases j with _ | _ | _ | j <;> rfl
theorem dg_1 (j : Nat) : z_df 1 j = if z_isr (1, 0) j = true then .null else vi 0 := by rcases j with _ | _ | _ | _ | _ | _ | j <;> rfl
theorem dg_3 (j : Nat) : z_df 3 j = if z_isr (3, 0) j = true then .null else vi 0 := by rcases j with _ | _ | _ | j <;> rfl
theorem dg_6 (j : Nat) : z_df 6 j = if z_isr (6, 0) j = true then .null else vi 0 := by rcases j with _ | _ | _ | _ | j <;> rfl
theorem dg_7 (j : Nat) : z_df 7 j = if z_isr (7, 0) j = true then .null else vi 0 := by rcases j with _ | _ | _ | j <;> rfl
theorem dg_10 (j : Nat) : z_df 10 j = if z_isr (10, 0) j = true then .null else vi 0 := by rcases j with _ | _ | _ | _ | j <;> rfl
theorem dg_11 (j : Nat) : z_df 11 j = if z_isr (11, 0) j = true then .null else vi 0 := by rcases j with _ | _ | _ | _ | _ | _ | _ | _ | _ | _ | _ | _ | _ | _ | _ | _ | _ | _ | _ | _ | j <;> rfl
theorem dg_12 (j : Nat) : z_df 12 j = if z_isr (12, 0) j = true then .null else vi 0 := by rcases j with _ | _ | _ | _ | _ | _ | _ | _ | _ | _ | _ | _ | _ | _ | _ | _ | _ | _ | _ | _ | _ | _ | _ | _ | _ | _ | _ | _ | _ | _ | _ | _ | _ | _ | _ | _ | _ | _ | _ | _ | _ | _ | _ | _ | _ | _ | _ | _ | _ | _ | _ | _ | _ | _ | _ | _ | _ | _ | _ | _ | _ | _ | _ | _ | _ | _ | _ | j <;> rfl
def L11 : List (Nat × Int × Int) := [(20, 3, 37), (37, 1, -4), (37, 0, 38), (20, 2, 35), (35, 1, -4), (35, 0, 36), (20, 1, 33), (33, 1, -4), (33, 0, 34), (20, 0, 31), (31, 1, -4), (31, 0, 32), (14, 2, 3), (16, 2, 60), (15, 2, 12), (16, 0, 60), (15, 0, 12), (3, 18, 30), (3, 17, 25), (25, 5, 29), (25, 4, 28), (25, 1, 27), (25, 0, 26), (3, 16, 21), (21, 2, 24), (21, 1, 23), (21, 0, 22), (3, 15, 20), (3, 14, 17), (19, 2, -1), (18, 2, 0), (19, 1, -1), (18, 1, 0), (19, 0, -1), (18, 0, 0), (17, 2, 0), (17, 1, 19), (17, 0, 18), (3, 13, 14), (16, 2, -1), (15, 2, 0), (16, 1, -1), (15, 1, 0), (16, 0, -1), (15, 0, 0), (14, 2, 0), (14, 1, 16), (14, 0, 15), (3, 12, 12), (12, 0, 13), (3, 9, 11), (3, 7, 10), (3, 6, 7), (7, 1, 9), (7, 0, 8), (3, 4, 6), (3, 2, 5), (3, 0, 4)]
set_option maxRecDepth 20000 in
set_option maxHeartbeats 4000000 in
theorem k_init11 (h : Q none (zP 39 641 L11)) : zC X m_X11_init [.ref 3] (zP 4 20 []) Q := by
  show zE X m_X11_init 0 [.ref 3, zU] [] _ _
  refine e_aload_n q_X11_init_0 (by decide) rfl ?_
  refine e_objInit q_X11_init_1 lk_X11_1 ob_inst ob_code (by decide) (by decide) ?_
  refine e_aload_n q_X11_init_4 (by decide) rfl ?_
  refine e_bipush q_X11_init_5 (by decide) ?_
  refine p_newa (q := 20) (len := 20) (n' := 5) (k' := 40) q_X11_init_7 rfl (by decide) ac_int rfl (by decide) rfl (by decide +kernel) rfl rfl ?_
  refine p_putR (i := 0) (x := 4) q_X11_init_9 fl_X11_9 (Or.inr ⟨rfl, _, _, rfl⟩) (by decide) (by decide) rfl rfl rfl (by decide) rfl rfl rfl ?_
  refine e_aload_n q_X11_init_12 (by decide) rfl ?_
  refine e_bipush q_X11_init_13 (by decide) ?_
  refine p_anewa (q := 23) (len := 48) (n' := 6) (k' := 88) q_X11_init_15 rfl (by decide) cl_X11_13 (by decide) rfl (by decide) rfl (by decide +kernel) rfl rfl ?_
  refine p_putR (i := 2) (x := 5) q_X11_init_18 fl_X11_15 (Or.inr ⟨rfl, _, _, rfl⟩) (by decide) (by decide) rfl rfl rfl (by decide) rfl rfl rfl ?_
  refine e_aload_n q_X11_init_21 (by decide) rfl ?_
  refine e_bipush q_X11_init_22 (by decide) ?_
  refine p_newa (q := 20) (len := 8) (n' := 7) (k' := 96) q_X11_init_24 rfl (by decide) ac_int rfl (by decide) rfl (by decide +kernel) rfl rfl ?_
  refine p_putR (i := 4) (x := 6) q_X11_init_26 fl_X11_19 (Or.inr ⟨rfl, _, _, rfl⟩) (by decide) (by decide) rfl rfl rfl (by decide) rfl rfl rfl ?_
  refine e_aload_n q_X11_init_29 (by decide) rfl ?_
  refine p_new (n' := 8) (k' := 99) q_X11_init_30 kd_0 cl_X11_22 inst_0 ini_X0 dg_0 rfl (by decide +kernel) rfl rfl ?_
  refine e_dup q_X11_init_33 rfl ?_
  refine iv_X0_init q_X11_init_34 ln_X11_24 (by decide) (Nat.le_of_ble_eq_true rfl) ?_
  show zE X m_X0_init 0 [.ref 7] [] _ _
  refine e_aload_n q_X0_init_0 (by decide) rfl ?_
  refine e_objInit q_X0_init_1 lk_X0_3 ob_inst ob_code (by decide) (by decide) ?_
  refine e_aload_n q_X0_init_4 (by decide) rfl ?_
  refine e_bipush q_X0_init_5 (by decide) ?_
  refine p_newa (q := 20) (len := 9) (n' := 9) (k' := 108) q_X0_init_7 rfl (by decide) ac_int rfl (by decide) rfl (by decide +kernel) rfl rfl ?_
  refine p_putR (i := 0) (x := 8) q_X0_init_9 fl_X0_9 (Or.inr ⟨rfl, _, _, rfl⟩) (by decide) (by decide) rfl rfl rfl (by decide) rfl rfl rfl ?_
  refine e_aload_n q_X0_init_12 (by decide) rfl ?_
  refine e_bipush q_X0_init_13 (by decide) ?_
  refine p_newa (q := 20) (len := 9) (n' := 10) (k' := 117) q_X0_init_15 rfl (by decide) ac_int rfl (by decide) rfl (by decide +kernel) rfl rfl ?_
  refine p_putR (i := 1) (x := 9) q_X0_init_17 fl_X0_15 (Or.inr ⟨rfl, _, _, rfl⟩) (by decide) (by decide) rfl rfl rfl (by decide) rfl rfl rfl ?_
  refine e_return q_X0_init_20 rfl ?_
  show zE X m_X11_init 37 _ _ _ _
  refine p_putR (i := 6) (x := 7) q_X11_init_37 fl_X11_25 (Or.inr ⟨rfl, _, _, rfl⟩) (by decide) (by decide) rfl rfl rfl (by decide) rfl rfl rfl ?_
  refine e_aload_n q_X11_init_40 (by decide) rfl ?_
  refine e_bipush q_X11_init_41 (by decide) ?_
  refine p_anewa (q := 26) (len := 20) (n' := 11) (k' := 137) q_X11_init_43 rfl (by decide) cl_X11_29 (by decide) rfl (by decide) rfl (by decide +kernel) rfl rfl ?_
  refine p_putR (i := 7) (x := 10) q_X11_init_46 fl_X11_31 (Or.inr ⟨rfl, _, _, rfl⟩) (by decide) (by decide) rfl rfl rfl (by decide) rfl rfl rfl ?_
  refine e_aload_n q_X11_init_49 (by decide) rfl ?_
  refine e_bipush q_X11_init_50 (by decide) ?_
  refine p_anewa (q := 24) (len := 20) (n' := 12) (k' := 157) q_X11_init_52 rfl (by decide) cl_X11_35 (by decide) rfl (by decide) rfl (by decide +kernel) rfl rfl ?_
  refine p_putR (i := 9) (x := 11) q_X11_init_55 fl_X11_37 (Or.inr ⟨rfl, _, _, rfl⟩) (by decide) (by decide) rfl rfl rfl (by decide) rfl rfl rfl ?_
  refine e_aload_n q_X11_init_58 (by decide) rfl ?_
  refine p_new (n' := 13) (k' := 161) q_X11_init_59 kd_10 cl_X11_41 inst_10 ini_X10 dg_10 rfl (by decide +kernel) rfl rfl ?_
  refine e_dup q_X11_init_62 rfl ?_
  refine iv_X10_init q_X11_init_63 ln_X11_43 (by decide) (Nat.le_of_ble_eq_true rfl) ?_
  show zE X m_X10_init 0 [.ref 12] [] _ _
  refine e_aload_n q_X10_init_0 (by decide) rfl ?_
  refine e_objInit q_X10_init_1 lk_X10_3 ob_inst ob_code (by decide) (by decide) ?_
  refine e_aload_n q_X10_init_4 (by decide) rfl ?_
  refine e_bipush q_X10_init_5 (by decide) ?_
  refine p_newa (q := 22) (len := 40) (n' := 14) (k' := 201) q_X10_init_7 rfl (by decide) ac_byte rfl (by decide) rfl (by decide +kernel) rfl rfl ?_
  refine p_putR (i := 0) (x := 13) q_X10_init_9 fl_X10_9 (Or.inr ⟨rfl, _, _, rfl⟩) (by decide) (by decide) rfl rfl rfl (by decide) rfl rfl rfl ?_
  refine e_return q_X10_init_12 rfl ?_
  show zE X m_X11_init 66 _ _ _ _
  refine p_putR (i := 12) (x := 12) q_X11_init_66 fl_X11_44 (Or.inr ⟨rfl, _, _, rfl⟩) (by decide) (by decide) rfl rfl rfl (by decide) rfl rfl rfl ?_
  refine e_aload_n q_X11_init_69 (by decide) rfl ?_
  refine p_new (n' := 15) (k' := 204) q_X11_init_70 kd_3 cl_X11_48 inst_3 ini_X3 dg_3 rfl (by decide +kernel) rfl rfl ?_
  refine e_dup q_X11_init_73 rfl ?_
  refine iv_X3_init q_X11_init_74 lk_X11_50 (by decide) (Nat.le_of_ble_eq_true rfl) ?_
  show zE X m_X3_init 0 [.ref 14] [] _ _
  refine e_aload_n q_X3_init_0 (by decide) rfl ?_
  refine e_objInit q_X3_init_1 lk_X3_3 ob_inst ob_code (by decide) (by decide) ?_
  refine e_aload_n q_X3_init_4 (by decide) rfl ?_
  refine e_iconst q_X3_init_5 ?_
  refine p_newa (q := 20) (len := 3) (n' := 16) (k' := 207) q_X3_init_6 rfl (by decide) ac_int rfl (by decide) rfl (by decide +kernel) rfl rfl ?_
  refine p_putR (i := 0) (x := 15) q_X3_init_8 fl_X3_9 (Or.inr ⟨rfl, _, _, rfl⟩) (by decide) (by decide) rfl rfl rfl (by decide) rfl rfl rfl ?_
  refine e_aload_n q_X3_init_11 (by decide) rfl ?_
  refine e_iconst q_X3_init_12 ?_
  refine p_newa (q := 20) (len := 3) (n' := 17) (k' := 210) q_X3_init_13 rfl (by decide) ac_int rfl (by decide) rfl (by decide +kernel) rfl rfl ?_
  refine p_putR (i := 1) (x := 16) q_X3_init_15 fl_X3_15 (Or.inr ⟨rfl, _, _, rfl⟩) (by decide) (by decide) rfl rfl rfl (by decide) rfl rfl rfl ?_
  refine e_aload_n q_X3_init_18 (by decide) rfl ?_
  refine iv_X3_clear q_X3_init_19 lk_X3_18 (by decide) ⟨by decide, by decide, rfl⟩ (Nat.le_of_ble_eq_true rfl) ?_
  show zE X m_X3_clear 0 [.ref 14, zU] [] _ _
  refine e_aload_n q_X3_clear_0 (by decide) rfl ?_
  refine e_iconst q_X3_clear_1 ?_
  refine p_putI (i := 2) q_X3_clear_2 fl_X3_21 (Or.inl rfl) (by decide) (by decide) rfl rfl rfl rfl rfl ?_
  refine e_iconst q_X3_clear_5 ?_
  refine e_istore_n (ls' := [_, _]) q_X3_clear_6 (by decide) rfl rfl ?_
  refine e_iload_n q_X3_clear_7 (by decide) rfl ?_
  refine e_iconst q_X3_clear_8 ?_
  refine e_icmp_ge q_X3_clear_9 (by constructor <;> omega) (by constructor <;> omega) (fun c0 => absurd c0 (by decide)) (fun c0 => ?_)
  refine e_aload_n q_X3_clear_12 (by decide) rfl ?_
  refine p_getR (r := 15) q_X3_clear_13 fl_X3_9 (by decide) (by decide) rfl rfl (by decide) (by decide +kernel) ?_
  refine e_iload_n q_X3_clear_16 (by decide) rfl ?_
  refine e_iconst q_X3_clear_17 ?_
  refine p_iast q_X3_clear_18 (by decide) (by decide) rfl (by decide) (by decide) (by decide) ?_
  refine e_aload_n q_X3_clear_19 (by decide) rfl ?_
  refine p_getR (r := 16) q_X3_clear_20 fl_X3_15 (by decide) (by decide) rfl rfl (by decide) (by decide +kernel) ?_
  refine e_iload_n q_X3_clear_23 (by decide) rfl ?_
  refine e_iconst q_X3_clear_24 ?_
  refine p_iast q_X3_clear_25 (by decide) (by decide) rfl (by decide) (by decide) (by decide) ?_
  refine e_iinc (ls' := [_, _]) q_X3_clear_26 (by decide) rfl rfl rfl ?_
  refine zEe (ls := [.ref 14, vi 1]) (σ := zP 17 210 ([(16, 0, -1), (15, 0, 0), (14, 2, 0), (14, 1, 16), (14, 0, 15), (3, 12, 12), (12, 0, 13), (3, 9, 11), (3, 7, 10), (3, 6, 7), (7, 1, 9), (7, 0, 8), (3, 4, 6), (3, 2, 5), (3, 0, 4)])) ?_ rfl rfl
  refine e_goto q_X3_clear_29 ?_
  refine e_iload_n q_X3_clear_7 (by decide) rfl ?_
  refine e_iconst q_X3_clear_8 ?_
  refine e_icmp_ge q_X3_clear_9 (by constructor <;> omega) (by constructor <;> omega) (fun c0 => absurd c0 (by decide)) (fun c0 => ?_)
  refine e_aload_n q_X3_clear_12 (by decide) rfl ?_
  refine p_getR (r := 15) q_X3_clear_13 fl_X3_9 (by decide) (by decide) rfl rfl (by decide) (by decide +kernel) ?_
  refine e_iload_n q_X3_clear_16 (by decide) rfl ?_
  refine e_iconst q_X3_clear_17 ?_
  refine p_iast q_X3_clear_18 (by decide) (by decide) rfl (by decide) (by decide) (by decide) ?_
  refine e_aload_n q_X3_clear_19 (by decide) rfl ?_
  refine p_getR (r := 16) q_X3_clear_20 fl_X3_15 (by decide) (by decide) rfl rfl (by decide) (by decide +kernel) ?_
  refine e_iload_n q_X3_clear_23 (by decide) rfl ?_
  refine e_iconst q_X3_clear_24 ?_
  refine p_iast q_X3_clear_25 (by decide) (by decide) rfl (by decide) (by decide) (by decide) ?_
  refine e_iinc (ls' := [_, _]) q_X3_clear_26 (by decide) rfl rfl rfl ?_
  refine zEe (ls := [.ref 14, vi 2]) (σ := zP 17 210 ([(16, 1, -1), (15, 1, 0), (16, 0, -1), (15, 0, 0), (14, 2, 0), (14, 1, 16), (14, 0, 15), (3, 12, 12), (12, 0, 13), (3, 9, 11), (3, 7, 10), (3, 6, 7), (7, 1, 9), (7, 0, 8), (3, 4, 6), (3, 2, 5), (3, 0, 4)])) ?_ rfl rfl
  refine e_goto q_X3_clear_29 ?_
  refine e_iload_n q_X3_clear_7 (by decide) rfl ?_
  refine e_iconst q_X3_clear_8 ?_
  refine e_icmp_ge q_X3_clear_9 (by constructor <;> omega) (by constructor <;> omega) (fun c0 => absurd c0 (by decide)) (fun c0 => ?_)
  refine e_aload_n q_X3_clear_12 (by decide) rfl ?_
  refine p_getR (r := 15) q_X3_clear_13 fl_X3_9 (by decide) (by decide) rfl rfl (by decide) (by decide +kernel) ?_
  refine e_iload_n q_X3_clear_16 (by decide) rfl ?_
  refine e_iconst q_X3_clear_17 ?_
  refine p_iast q_X3_clear_18 (by decide) (by decide) rfl (by decide) (by decide) (by decide) ?_
  refine e_aload_n q_X3_clear_19 (by decide) rfl ?_
  refine p_getR (r := 16) q_X3_clear_20 fl_X3_15 (by decide) (by decide) rfl rfl (by decide) (by decide +kernel) ?_
  refine e_iload_n q_X3_clear_23 (by decide) rfl ?_
  refine e_iconst q_X3_clear_24 ?_
  refine p_iast q_X3_clear_25 (by decide) (by decide) rfl (by decide) (by decide) (by decide) ?_
  refine e_iinc (ls' := [_, _]) q_X3_clear_26 (by decide) rfl rfl rfl ?_
  refine zEe (ls := [.ref 14, vi 3]) (σ := zP 17 210 ([(16, 2, -1), (15, 2, 0), (16, 1, -1), (15, 1, 0), (16, 0, -1), (15, 0, 0), (14, 2, 0), (14, 1, 16), (14, 0, 15), (3, 12, 12), (12, 0, 13), (3, 9, 11), (3, 7, 10), (3, 6, 7), (7, 1, 9), (7, 0, 8), (3, 4, 6), (3, 2, 5), (3, 0, 4)])) ?_ rfl rfl
  refine e_goto q_X3_clear_29 ?_
  refine e_iload_n q_X3_clear_7 (by decide) rfl ?_
  refine e_iconst q_X3_clear_8 ?_
  refine e_icmp_ge q_X3_clear_9 (by constructor <;> omega) (by constructor <;> omega) (fun c0 => ?_) (fun c0 => absurd (by decide) c0)
  refine e_return q_X3_clear_32 rfl ?_
  show zE X m_X3_init 22 _ _ _ _
  refine e_return q_X3_init_22 rfl ?_
  show zE X m_X11_init 77 _ _ _ _
  refine p_putR (i := 13) (x := 14) q_X11_init_77 fl_X11_51 (Or.inl rfl) (by decide) (by decide) rfl rfl rfl (by decide) rfl rfl rfl ?_
  refine e_aload_n q_X11_init_80 (by decide) rfl ?_
  refine p_new (n' := 18) (k' := 213) q_X11_init_81 kd_3 cl_X11_48 inst_3 ini_X3 dg_3 rfl (by decide +kernel) rfl rfl ?_
  refine e_dup q_X11_init_84 rfl ?_
  refine iv_X3_init q_X11_init_85 lk_X11_50 (by decide) (Nat.le_of_ble_eq_true rfl) ?_
  show zE X m_X3_init 0 [.ref 17] [] _ _
  refine e_aload_n q_X3_init_0 (by decide) rfl ?_
  refine e_objInit q_X3_init_1 lk_X3_3 ob_inst ob_code (by decide) (by decide) ?_
  refine e_aload_n q_X3_init_4 (by decide) rfl ?_
  refine e_iconst q_X3_init_5 ?_
  refine p_newa (q := 20) (len := 3) (n' := 19) (k' := 216) q_X3_init_6 rfl (by decide) ac_int rfl (by decide) rfl (by decide +kernel) rfl rfl ?_
  refine p_putR (i := 0) (x := 18) q_X3_init_8 fl_X3_9 (Or.inr ⟨rfl, _, _, rfl⟩) (by decide) (by decide) rfl rfl rfl (by decide) rfl rfl rfl ?_
  refine e_aload_n q_X3_init_11 (by decide) rfl ?_
  refine e_iconst q_X3_init_12 ?_
  refine p_newa (q := 20) (len := 3) (n' := 20) (k' := 219) q_X3_init_13 rfl (by decide) ac_int rfl (by decide) rfl (by decide +kernel) rfl rfl ?_
  refine p_putR (i := 1) (x := 19) q_X3_init_15 fl_X3_15 (Or.inr ⟨rfl, _, _, rfl⟩) (by decide) (by decide) rfl rfl rfl (by decide) rfl rfl rfl ?_
  refine e_aload_n q_X3_init_18 (by decide) rfl ?_
  refine iv_X3_clear q_X3_init_19 lk_X3_18 (by decide) ⟨by decide, by decide, rfl⟩ (Nat.le_of_ble_eq_true rfl) ?_
  show zE X m_X3_clear 0 [.ref 17, zU] [] _ _
  refine e_aload_n q_X3_clear_0 (by decide) rfl ?_
  refine e_iconst q_X3_clear_1 ?_
  refine p_putI (i := 2) q_X3_clear_2 fl_X3_21 (Or.inl rfl) (by decide) (by decide) rfl rfl rfl rfl rfl ?_
  refine e_iconst q_X3_clear_5 ?_
  refine e_istore_n (ls' := [_, _]) q_X3_clear_6 (by decide) rfl rfl ?_
  refine e_iload_n q_X3_clear_7 (by decide) rfl ?_
  refine e_iconst q_X3_clear_8 ?_
  refine e_icmp_ge q_X3_clear_9 (by constructor <;> omega) (by constructor <;> omega) (fun c0 => absurd c0 (by decide)) (fun c0 => ?_)
  refine e_aload_n q_X3_clear_12 (by decide) rfl ?_
  refine p_getR (r := 18) q_X3_clear_13 fl_X3_9 (by decide) (by decide) rfl rfl (by decide) (by decide +kernel) ?_
  refine e_iload_n q_X3_clear_16 (by decide) rfl ?_
  refine e_iconst q_X3_clear_17 ?_
  refine p_iast q_X3_clear_18 (by decide) (by decide) rfl (by decide) (by decide) (by decide) ?_
  refine e_aload_n q_X3_clear_19 (by decide) rfl ?_
  refine p_getR (r := 19) q_X3_clear_20 fl_X3_15 (by decide) (by decide) rfl rfl (by decide) (by decide +kernel) ?_
  refine e_iload_n q_X3_clear_23 (by decide) rfl ?_
  refine e_iconst q_X3_clear_24 ?_
  refine p_iast q_X3_clear_25 (by decide) (by decide) rfl (by decide) (by decide) (by decide) ?_
  refine e_iinc (ls' := [_, _]) q_X3_clear_26 (by decide) rfl rfl rfl ?_
  refine zEe (ls := [.ref 17, vi 1]) (σ := zP 20 219 ([(19, 0, -1), (18, 0, 0), (17, 2, 0), (17, 1, 19), (17, 0, 18), (3, 13, 14), (16, 2, -1), (15, 2, 0), (16, 1, -1), (15, 1, 0), (16, 0, -1), (15, 0, 0), (14, 2, 0), (14, 1, 16), (14, 0, 15), (3, 12, 12), (12, 0, 13), (3, 9, 11), (3, 7, 10), (3, 6, 7), (7, 1, 9), (7, 0, 8), (3, 4, 6), (3, 2, 5), (3, 0, 4)])) ?_ rfl rfl
  refine e_goto q_X3_clear_29 ?_
  refine e_iload_n q_X3_clear_7 (by decide) rfl ?_
  refine e_iconst q_X3_clear_8 ?_
  refine e_icmp_ge q_X3_clear_9 (by constructor <;> omega) (by constructor <;> omega) (fun c0 => absurd c0 (by decide)) (fun c0 => ?_)
  refine e_aload_n q_X3_clear_12 (by decide) rfl ?_
  refine p_getR (r := 18) q_X3_clear_13 fl_X3_9 (by decide) (by decide) rfl rfl (by decide) (by decide +kernel) ?_
  refine e_iload_n q_X3_clear_16 (by decide) rfl ?_
  refine e_iconst q_X3_clear_17 ?_
  refine p_iast q_X3_clear_18 (by decide) (by decide) rfl (by decide) (by decide) (by decide) ?_
  refine e_aload_n q_X3_clear_19 (by decide) rfl ?_
  refine p_getR (r := 19) q_X3_clear_20 fl_X3_15 (by decide) (by decide) rfl rfl (by decide) (by decide +kernel) ?_
  refine e_iload_n q_X3_clear_23 (by decide) rfl ?_
  refine e_iconst q_X3_clear_24 ?_
  refine p_iast q_X3_clear_25 (by decide) (by decide) rfl (by decide) (by decide) (by decide) ?_
  refine e_iinc (ls' := [_, _]) q_X3_clear_26 (by decide) rfl rfl rfl ?_
  refine zEe (ls := [.ref 17, vi 2]) (σ := zP 20 219 ([(19, 1, -1), (18, 1, 0), (19, 0, -1), (18, 0, 0), (17, 2, 0), (17, 1, 19), (17, 0, 18), (3, 13, 14), (16, 2, -1), (15, 2, 0), (16, 1, -1), (15, 1, 0), (16, 0, -1), (15, 0, 0), (14, 2, 0), (14, 1, 16), (14, 0, 15), (3, 12, 12), (12, 0, 13), (3, 9, 11), (3, 7, 10), (3, 6, 7), (7, 1, 9), (7, 0, 8), (3, 4, 6), (3, 2, 5), (3, 0, 4)])) ?_ rfl rfl
  refine e_goto q_X3_clear_29 ?_
  refine e_iload_n q_X3_clear_7 (by decide) rfl ?_
  refine e_iconst q_X3_clear_8 ?_
  refine e_icmp_ge q_X3_clear_9 (by constructor <;> omega) (by constructor <;> omega) (fun c0 => absurd c0 (by decide)) (fun c0 => ?_)
  refine e_aload_n q_X3_clear_12 (by decide) rfl ?_
  refine p_getR (r := 18) q_X3_clear_13 fl_X3_9 (by decide) (by decide) rfl rfl (by decide) (by decide +kernel) ?_
  refine e_iload_n q_X3_clear_16 (by decide) rfl ?_
  refine e_iconst q_X3_clear_17 ?_
  refine p_iast q_X3_clear_18 (by decide) (by decide) rfl (by decide) (by decide) (by decide) ?_
  refine e_aload_n q_X3_clear_19 (by decide) rfl ?_
  refine p_getR (r := 19) q_X3_clear_20 fl_X3_15 (by decide) (by decide) rfl rfl (by decide) (by decide +kernel) ?_
  refine e_iload_n q_X3_clear_23 (by decide) rfl ?_
  refine e_iconst q_X3_clear_24 ?_
  refine p_iast q_X3_clear_25 (by decide) (by decide) rfl (by decide) (by decide) (by decide) ?_
  refine e_iinc (ls' := [_, _]) q_X3_clear_26 (by decide) rfl rfl rfl ?_
  refine zEe (ls := [.ref 17, vi 3]) (σ := zP 20 219 ([(19, 2, -1), (18, 2, 0), (19, 1, -1), (18, 1, 0), (19, 0, -1), (18, 0, 0), (17, 2, 0), (17, 1, 19), (17, 0, 18), (3, 13, 14), (16, 2, -1), (15, 2, 0), (16, 1, -1), (15, 1, 0), (16, 0, -1), (15, 0, 0), (14, 2, 0), (14, 1, 16), (14, 0, 15), (3, 12, 12), (12, 0, 13), (3, 9, 11), (3, 7, 10), (3, 6, 7), (7, 1, 9), (7, 0, 8), (3, 4, 6), (3, 2, 5), (3, 0, 4)])) ?_ rfl rfl
  refine e_goto q_X3_clear_29 ?_
  refine e_iload_n q_X3_clear_7 (by decide) rfl ?_
  refine e_iconst q_X3_clear_8 ?_
  refine e_icmp_ge q_X3_clear_9 (by constructor <;> omega) (by constructor <;> omega) (fun c0 => ?_) (fun c0 => absurd (by decide) c0)
  refine e_return q_X3_clear_32 rfl ?_
  show zE X m_X3_init 22 _ _ _ _
  refine e_return q_X3_init_22 rfl ?_
  show zE X m_X11_init 88 _ _ _ _
  refine p_putR (i := 14) (x := 17) q_X11_init_88 fl_X11_55 (Or.inl rfl) (by decide) (by decide) rfl rfl rfl (by decide) rfl rfl rfl ?_
  refine e_aload_n q_X11_init_91 (by decide) rfl ?_
  refine e_iconst q_X11_init_92 ?_
  refine p_anewa (q := 25) (len := 4) (n' := 21) (k' := 223) q_X11_init_93 rfl (by decide) cl_X11_58 (by decide) rfl (by decide) rfl (by decide +kernel) rfl rfl ?_
  refine p_putR (i := 15) (x := 20) q_X11_init_96 fl_X11_60 (Or.inr ⟨rfl, _, _, rfl⟩) (by decide) (by decide) rfl rfl rfl (by decide) rfl rfl rfl ?_
  refine e_aload_n q_X11_init_99 (by decide) rfl ?_
  refine p_new (n' := 22) (k' := 227) q_X11_init_100 kd_6 cl_X11_64 inst_6 ini_X6 dg_6 rfl (by decide +kernel) rfl rfl ?_
  refine e_dup q_X11_init_103 rfl ?_
  refine iv_X6_init q_X11_init_104 ln_X11_66 (by decide) (Nat.le_of_ble_eq_true rfl) ?_
  show zE X m_X6_init 0 [.ref 21] [] _ _
  refine e_aload_n q_X6_init_0 (by decide) rfl ?_
  refine e_objInit q_X6_init_1 lk_X6_3 ob_inst ob_code (by decide) (by decide) ?_
  refine e_aload_n q_X6_init_4 (by decide) rfl ?_
  refine e_bipush q_X6_init_5 (by decide) ?_
  refine p_newa (q := 20) (len := 40) (n' := 23) (k' := 267) q_X6_init_7 rfl (by decide) ac_int rfl (by decide) rfl (by decide +kernel) rfl rfl ?_
  refine p_putR (i := 0) (x := 22) q_X6_init_9 fl_X6_9 (Or.inr ⟨rfl, _, _, rfl⟩) (by decide) (by decide) rfl rfl rfl (by decide) rfl rfl rfl ?_
  refine e_aload_n q_X6_init_12 (by decide) rfl ?_
  refine e_bipush q_X6_init_13 (by decide) ?_
  refine p_newa (q := 20) (len := 40) (n' := 24) (k' := 307) q_X6_init_15 rfl (by decide) ac_int rfl (by decide) rfl (by decide +kernel) rfl rfl ?_
  refine p_putR (i := 1) (x := 23) q_X6_init_17 fl_X6_15 (Or.inr ⟨rfl, _, _, rfl⟩) (by decide) (by decide) rfl rfl rfl (by decide) rfl rfl rfl ?_
  refine e_aload_n q_X6_init_20 (by decide) rfl ?_
  refine e_bipush q_X6_init_21 (by decide) ?_
  refine p_newa (q := 21) (len := 48) (n' := 25) (k' := 355) q_X6_init_23 rfl (by decide) ac_boolean rfl (by decide) rfl (by decide +kernel) rfl rfl ?_
  refine p_putR (i := 2) (x := 24) q_X6_init_25 fl_X6_18 (Or.inr ⟨rfl, _, _, rfl⟩) (by decide) (by decide) rfl rfl rfl (by decide) rfl rfl rfl ?_
  refine e_return q_X6_init_28 rfl ?_
  show zE X m_X11_init 107 _ _ _ _
  refine p_putR (i := 16) (x := 21) q_X11_init_107 fl_X11_67 (Or.inr ⟨rfl, _, _, rfl⟩) (by decide) (by decide) rfl rfl rfl (by decide) rfl rfl rfl ?_
  refine e_aload_n q_X11_init_110 (by decide) rfl ?_
  refine p_new (n' := 26) (k' := 361) q_X11_init_111 kd_1 cl_X11_71 inst_1 ini_X1 dg_1 rfl (by decide +kernel) rfl rfl ?_
  refine e_dup q_X11_init_114 rfl ?_
  refine iv_X1_init q_X11_init_115 ln_X11_73 (by decide) (Nat.le_of_ble_eq_true rfl) ?_
  show zE X m_X1_init 0 [.ref 25] [] _ _
  refine e_aload_n q_X1_init_0 (by decide) rfl ?_
  refine e_objInit q_X1_init_1 lk_X1_5 ob_inst ob_code (by decide) (by decide) ?_
  refine e_aload_n q_X1_init_4 (by decide) rfl ?_
  refine e_bipush q_X1_init_5 (by decide) ?_
  refine p_newa (q := 20) (len := 6) (n' := 27) (k' := 367) q_X1_init_7 rfl (by decide) ac_int rfl (by decide) rfl (by decide +kernel) rfl rfl ?_
  refine p_putR (i := 0) (x := 26) q_X1_init_9 fl_X1_11 (Or.inr ⟨rfl, _, _, rfl⟩) (by decide) (by decide) rfl rfl rfl (by decide) rfl rfl rfl ?_
  refine e_aload_n q_X1_init_12 (by decide) rfl ?_
  refine e_bipush q_X1_init_13 (by decide) ?_
  refine p_newa (q := 20) (len := 6) (n' := 28) (k' := 373) q_X1_init_15 rfl (by decide) ac_int rfl (by decide) rfl (by decide +kernel) rfl rfl ?_
  refine p_putR (i := 1) (x := 27) q_X1_init_17 fl_X1_15 (Or.inr ⟨rfl, _, _, rfl⟩) (by decide) (by decide) rfl rfl rfl (by decide) rfl rfl rfl ?_
  refine e_aload_n q_X1_init_20 (by decide) rfl ?_
  refine e_bipush q_X1_init_21 (by decide) ?_
  refine p_newa (q := 20) (len := 64) (n' := 29) (k' := 437) q_X1_init_23 rfl (by decide) ac_int rfl (by decide) rfl (by decide +kernel) rfl rfl ?_
  refine p_putR (i := 4) (x := 28) q_X1_init_25 fl_X1_18 (Or.inr ⟨rfl, _, _, rfl⟩) (by decide) (by decide) rfl rfl rfl (by decide) rfl rfl rfl ?_
  refine e_aload_n q_X1_init_28 (by decide) rfl ?_
  refine e_bipush q_X1_init_29 (by decide) ?_
  refine p_newa (q := 20) (len := 64) (n' := 30) (k' := 501) q_X1_init_31 rfl (by decide) ac_int rfl (by decide) rfl (by decide +kernel) rfl rfl ?_
  refine p_putR (i := 5) (x := 29) q_X1_init_33 fl_X1_21 (Or.inr ⟨rfl, _, _, rfl⟩) (by decide) (by decide) rfl rfl rfl (by decide) rfl rfl rfl ?_
  refine e_return q_X1_init_36 rfl ?_
  show zE X m_X11_init 118 _ _ _ _
  refine p_putR (i := 17) (x := 25) q_X11_init_118 fl_X11_74 (Or.inr ⟨rfl, _, _, rfl⟩) (by decide) (by decide) rfl rfl rfl (by decide) rfl rfl rfl ?_
  refine e_aload_n q_X11_init_121 (by decide) rfl ?_
  refine e_bipush q_X11_init_122 (by decide) ?_
  refine p_newa (q := 20) (len := 48) (n' := 31) (k' := 549) q_X11_init_124 rfl (by decide) ac_int rfl (by decide) rfl (by decide +kernel) rfl rfl ?_
  refine p_putR (i := 18) (x := 30) q_X11_init_126 fl_X11_78 (Or.inr ⟨rfl, _, _, rfl⟩) (by decide) (by decide) rfl rfl rfl (by decide) rfl rfl rfl ?_
  refine e_aload_n q_X11_init_129 (by decide) rfl ?_
  refine p_getR (r := 14) q_X11_init_130 fl_X11_51 (by decide) (by decide) rfl rfl (by decide) (by decide +kernel) ?_
  refine e_iconst q_X11_init_133 ?_
  refine e_bipush q_X11_init_134 (by decide) ?_
  refine e_bipush q_X11_init_136 (by decide) ?_
  refine iv_X3_setAges q_X11_init_138 lk_X11_81 (by decide) ⟨by decide, by decide, rfl⟩ (Nat.le_of_ble_eq_true rfl) ?_
  show zE X m_X3_setAges 0 [.ref 14, vi 0, vi 12, vi 60] [] _ _
  refine e_iload_n q_X3_setAges_0 (by decide) rfl ?_
  refine e_if_lt q_X3_setAges_1 (by constructor <;> omega) (fun c0 => absurd c0 (by decide)) (fun c0 => ?_)
  refine e_iload_n q_X3_setAges_4 (by decide) rfl ?_
  refine e_iconst q_X3_setAges_5 ?_
  refine e_icmp_ge q_X3_setAges_6 (by constructor <;> omega) (by constructor <;> omega) (fun c0 => absurd c0 (by decide)) (fun c0 => ?_)
  refine e_aload_n q_X3_setAges_9 (by decide) rfl ?_
  refine p_getR (r := 15) q_X3_setAges_10 fl_X3_9 (by decide) (by decide) rfl rfl (by decide) (by decide +kernel) ?_
  refine e_iload_n q_X3_setAges_13 (by decide) rfl ?_
  refine e_iload_n q_X3_setAges_14 (by decide) rfl ?_
  refine p_iast q_X3_setAges_15 (by decide) (by decide) rfl (by decide) (by decide) (by decide) ?_
  refine e_aload_n q_X3_setAges_16 (by decide) rfl ?_
  refine p_getR (r := 16) q_X3_setAges_17 fl_X3_15 (by decide) (by decide) rfl rfl (by decide) (by decide +kernel) ?_
  refine e_iload_n q_X3_setAges_20 (by decide) rfl ?_
  refine e_iload_n q_X3_setAges_21 (by decide) rfl ?_
  refine p_iast q_X3_setAges_22 (by decide) (by decide) rfl (by decide) (by decide) (by decide) ?_
  refine e_return q_X3_setAges_23 rfl ?_
  show zE X m_X11_init 141 _ _ _ _
  refine e_aload_n q_X11_init_141 (by decide) rfl ?_
  refine p_getR (r := 14) q_X11_init_142 fl_X11_51 (by decide) (by decide) rfl rfl (by decide) (by decide +kernel) ?_
  refine e_iconst q_X11_init_145 ?_
  refine e_bipush q_X11_init_146 (by decide) ?_
  refine e_bipush q_X11_init_148 (by decide) ?_
  refine iv_X3_setAges q_X11_init_150 lk_X11_81 (by decide) ⟨by decide, by decide, rfl⟩ (Nat.le_of_ble_eq_true rfl) ?_
  show zE X m_X3_setAges 0 [.ref 14, vi 2, vi 12, vi 60] [] _ _
  refine e_iload_n q_X3_setAges_0 (by decide) rfl ?_
  refine e_if_lt q_X3_setAges_1 (by constructor <;> omega) (fun c0 => absurd c0 (by decide)) (fun c0 => ?_)
  refine e_iload_n q_X3_setAges_4 (by decide) rfl ?_
  refine e_iconst q_X3_setAges_5 ?_
  refine e_icmp_ge q_X3_setAges_6 (by constructor <;> omega) (by constructor <;> omega) (fun c0 => absurd c0 (by decide)) (fun c0 => ?_)
  refine e_aload_n q_X3_setAges_9 (by decide) rfl ?_
  refine p_getR (r := 15) q_X3_setAges_10 fl_X3_9 (by decide) (by decide) rfl rfl (by decide) (by decide +kernel) ?_
  refine e_iload_n q_X3_setAges_13 (by decide) rfl ?_
  refine e_iload_n q_X3_setAges_14 (by decide) rfl ?_
  refine p_iast q_X3_setAges_15 (by decide) (by decide) rfl (by decide) (by decide) (by decide) ?_
  refine e_aload_n q_X3_setAges_16 (by decide) rfl ?_
  refine p_getR (r := 16) q_X3_setAges_17 fl_X3_15 (by decide) (by decide) rfl rfl (by decide) (by decide +kernel) ?_
  refine e_iload_n q_X3_setAges_20 (by decide) rfl ?_
  refine e_iload_n q_X3_setAges_21 (by decide) rfl ?_
  refine p_iast q_X3_setAges_22 (by decide) (by decide) rfl (by decide) (by decide) (by decide) ?_
  refine e_return q_X3_setAges_23 rfl ?_
  show zE X m_X11_init 153 _ _ _ _
  refine e_aload_n q_X11_init_153 (by decide) rfl ?_
  refine p_getR (r := 14) q_X11_init_154 fl_X11_51 (by decide) (by decide) rfl rfl (by decide) (by decide +kernel) ?_
  refine e_iconst q_X11_init_157 ?_
  refine p_putI (i := 2) q_X11_init_158 fl_X11_85 (Or.inl rfl) (by decide) (by decide) rfl rfl rfl rfl rfl ?_
  refine e_iconst q_X11_init_161 ?_
  refine e_istore_n (ls' := [_, _]) q_X11_init_162 (by decide) rfl rfl ?_
  refine e_iload_n q_X11_init_163 (by decide) rfl ?_
  refine e_iconst q_X11_init_164 ?_
  refine e_icmp_ge q_X11_init_165 (by constructor <;> omega) (by constructor <;> omega) (fun c0 => absurd c0 (by decide)) (fun c0 => ?_)
  refine e_aload_n q_X11_init_168 (by decide) rfl ?_
  refine p_getR (r := 20) q_X11_init_169 fl_X11_60 (by decide) (by decide) rfl rfl (by decide) (by decide +kernel) ?_
  refine e_iload_n q_X11_init_172 (by decide) rfl ?_
  refine p_new (n' := 32) (k' := 552) q_X11_init_173 kd_7 cl_X11_58 inst_7 ini_X7 dg_7 rfl (by decide +kernel) rfl rfl ?_
  refine e_dup q_X11_init_176 rfl ?_
  refine iv_X7_init q_X11_init_177 ln_X11_89 (by decide) (Nat.le_of_ble_eq_true rfl) ?_
  show zE X m_X7_init 0 [.ref 31] [] _ _
  refine e_aload_n q_X7_init_0 (by decide) rfl ?_
  refine e_objInit q_X7_init_1 lk_X7_3 ob_inst ob_code (by decide) (by decide) ?_
  refine e_aload_n q_X7_init_4 (by decide) rfl ?_
  refine e_bipush q_X7_init_5 (by decide) ?_
  refine p_newa (q := 20) (len := 20) (n' := 33) (k' := 572) q_X7_init_7 rfl (by decide) ac_int rfl (by decide) rfl (by decide +kernel) rfl rfl ?_
  refine p_putR (i := 0) (x := 32) q_X7_init_9 fl_X7_9 (Or.inr ⟨rfl, _, _, rfl⟩) (by decide) (by decide) rfl rfl rfl (by decide) rfl rfl rfl ?_
  refine e_aload_n q_X7_init_12 (by decide) rfl ?_
  refine e_bipush q_X7_init_13 (by decide) ?_
  refine p_putI (i := 1) q_X7_init_15 fl_X7_15 (Or.inl rfl) (by decide) (by decide) rfl rfl rfl rfl rfl ?_
  refine e_return q_X7_init_18 rfl ?_
  show zE X m_X11_init 180 _ _ _ _
  refine p_aast (x := 31) q_X11_init_180 (by decide) (by decide) rfl (by decide) (by decide) (by decide) rfl kd_7 rfl rfl (by decide) (by decide) (by decide) ?_
  refine e_iinc (ls' := [_, _]) q_X11_init_181 (by decide) rfl rfl rfl ?_
  refine zEe (ls := [.ref 3, vi 1]) (σ := zP 33 572 ([(20, 0, 31), (31, 1, -4), (31, 0, 32), (14, 2, 3), (16, 2, 60), (15, 2, 12), (16, 0, 60), (15, 0, 12), (3, 18, 30), (3, 17, 25), (25, 5, 29), (25, 4, 28), (25, 1, 27), (25, 0, 26), (3, 16, 21), (21, 2, 24), (21, 1, 23), (21, 0, 22), (3, 15, 20), (3, 14, 17), (19, 2, -1), (18, 2, 0), (19, 1, -1), (18, 1, 0), (19, 0, -1), (18, 0, 0), (17, 2, 0), (17, 1, 19), (17, 0, 18), (3, 13, 14), (16, 2, -1), (15, 2, 0), (16, 1, -1), (15, 1, 0), (16, 0, -1), (15, 0, 0), (14, 2, 0), (14, 1, 16), (14, 0, 15), (3, 12, 12), (12, 0, 13), (3, 9, 11), (3, 7, 10), (3, 6, 7), (7, 1, 9), (7, 0, 8), (3, 4, 6), (3, 2, 5), (3, 0, 4)])) ?_ rfl rfl
  refine e_goto q_X11_init_184 ?_
  refine e_iload_n q_X11_init_163 (by decide) rfl ?_
  refine e_iconst q_X11_init_164 ?_
  refine e_icmp_ge q_X11_init_165 (by constructor <;> omega) (by constructor <;> omega) (fun c0 => absurd c0 (by decide)) (fun c0 => ?_)
  refine e_aload_n q_X11_init_168 (by decide) rfl ?_
  refine p_getR (r := 20) q_X11_init_169 fl_X11_60 (by decide) (by decide) rfl rfl (by decide) (by decide +kernel) ?_
  refine e_iload_n q_X11_init_172 (by decide) rfl ?_
  refine p_new (n' := 34) (k' := 575) q_X11_init_173 kd_7 cl_X11_58 inst_7 ini_X7 dg_7 rfl (by decide +kernel) rfl rfl ?_
  refine e_dup q_X11_init_176 rfl ?_
  refine iv_X7_init q_X11_init_177 ln_X11_89 (by decide) (Nat.le_of_ble_eq_true rfl) ?_
  show zE X m_X7_init 0 [.ref 33] [] _ _
  refine e_aload_n q_X7_init_0 (by decide) rfl ?_
  refine e_objInit q_X7_init_1 lk_X7_3 ob_inst ob_code (by decide) (by decide) ?_
  refine e_aload_n q_X7_init_4 (by decide) rfl ?_
  refine e_bipush q_X7_init_5 (by decide) ?_
  refine p_newa (q := 20) (len := 20) (n' := 35) (k' := 595) q_X7_init_7 rfl (by decide) ac_int rfl (by decide) rfl (by decide +kernel) rfl rfl ?_
  refine p_putR (i := 0) (x := 34) q_X7_init_9 fl_X7_9 (Or.inr ⟨rfl, _, _, rfl⟩) (by decide) (by decide) rfl rfl rfl (by decide) rfl rfl rfl ?_
  refine e_aload_n q_X7_init_12 (by decide) rfl ?_
  refine e_bipush q_X7_init_13 (by decide) ?_
  refine p_putI (i := 1) q_X7_init_15 fl_X7_15 (Or.inl rfl) (by decide) (by decide) rfl rfl rfl rfl rfl ?_
  refine e_return q_X7_init_18 rfl ?_
  show zE X m_X11_init 180 _ _ _ _
  refine p_aast (x := 33) q_X11_init_180 (by decide) (by decide) rfl (by decide) (by decide) (by decide) rfl kd_7 rfl rfl (by decide) (by decide) (by decide) ?_
  refine e_iinc (ls' := [_, _]) q_X11_init_181 (by decide) rfl rfl rfl ?_
  refine zEe (ls := [.ref 3, vi 2]) (σ := zP 35 595 ([(20, 1, 33), (33, 1, -4), (33, 0, 34), (20, 0, 31), (31, 1, -4), (31, 0, 32), (14, 2, 3), (16, 2, 60), (15, 2, 12), (16, 0, 60), (15, 0, 12), (3, 18, 30), (3, 17, 25), (25, 5, 29), (25, 4, 28), (25, 1, 27), (25, 0, 26), (3, 16, 21), (21, 2, 24), (21, 1, 23), (21, 0, 22), (3, 15, 20), (3, 14, 17), (19, 2, -1), (18, 2, 0), (19, 1, -1), (18, 1, 0), (19, 0, -1), (18, 0, 0), (17, 2, 0), (17, 1, 19), (17, 0, 18), (3, 13, 14), (16, 2, -1), (15, 2, 0), (16, 1, -1), (15, 1, 0), (16, 0, -1), (15, 0, 0), (14, 2, 0), (14, 1, 16), (14, 0, 15), (3, 12, 12), (12, 0, 13), (3, 9, 11), (3, 7, 10), (3, 6, 7), (7, 1, 9), (7, 0, 8), (3, 4, 6), (3, 2, 5), (3, 0, 4)])) ?_ rfl rfl
  refine e_goto q_X11_init_184 ?_
  refine e_iload_n q_X11_init_163 (by decide) rfl ?_
  refine e_iconst q_X11_init_164 ?_
  refine e_icmp_ge q_X11_init_165 (by constructor <;> omega) (by constructor <;> omega) (fun c0 => absurd c0 (by decide)) (fun c0 => ?_)
  refine e_aload_n q_X11_init_168 (by decide) rfl ?_
  refine p_getR (r := 20) q_X11_init_169 fl_X11_60 (by decide) (by decide) rfl rfl (by decide) (by decide +kernel) ?_
  refine e_iload_n q_X11_init_172 (by decide) rfl ?_
  refine p_new (n' := 36) (k' := 598) q_X11_init_173 kd_7 cl_X11_58 inst_7 ini_X7 dg_7 rfl (by decide +kernel) rfl rfl ?_
  refine e_dup q_X11_init_176 rfl ?_
  refine iv_X7_init q_X11_init_177 ln_X11_89 (by decide) (Nat.le_of_ble_eq_true rfl) ?_
  show zE X m_X7_init 0 [.ref 35] [] _ _
  refine e_aload_n q_X7_init_0 (by decide) rfl ?_
  refine e_objInit q_X7_init_1 lk_X7_3 ob_inst ob_code (by decide) (by decide) ?_
  refine e_aload_n q_X7_init_4 (by decide) rfl ?_
  refine e_bipush q_X7_init_5 (by decide) ?_
  refine p_newa (q := 20) (len := 20) (n' := 37) (k' := 618) q_X7_init_7 rfl (by decide) ac_int rfl (by decide) rfl (by decide +kernel) rfl rfl ?_
  refine p_putR (i := 0) (x := 36) q_X7_init_9 fl_X7_9 (Or.inr ⟨rfl, _, _, rfl⟩) (by decide) (by decide) rfl rfl rfl (by decide) rfl rfl rfl ?_
  refine e_aload_n q_X7_init_12 (by decide) rfl ?_
  refine e_bipush q_X7_init_13 (by decide) ?_
  refine p_putI (i := 1) q_X7_init_15 fl_X7_15 (Or.inl rfl) (by decide) (by decide) rfl rfl rfl rfl rfl ?_
  refine e_return q_X7_init_18 rfl ?_
  show zE X m_X11_init 180 _ _ _ _
  refine p_aast (x := 35) q_X11_init_180 (by decide) (by decide) rfl (by decide) (by decide) (by decide) rfl kd_7 rfl rfl (by decide) (by decide) (by decide) ?_
  refine e_iinc (ls' := [_, _]) q_X11_init_181 (by decide) rfl rfl rfl ?_
  refine zEe (ls := [.ref 3, vi 3]) (σ := zP 37 618 ([(20, 2, 35), (35, 1, -4), (35, 0, 36), (20, 1, 33), (33, 1, -4), (33, 0, 34), (20, 0, 31), (31, 1, -4), (31, 0, 32), (14, 2, 3), (16, 2, 60), (15, 2, 12), (16, 0, 60), (15, 0, 12), (3, 18, 30), (3, 17, 25), (25, 5, 29), (25, 4, 28), (25, 1, 27), (25, 0, 26), (3, 16, 21), (21, 2, 24), (21, 1, 23), (21, 0, 22), (3, 15, 20), (3, 14, 17), (19, 2, -1), (18, 2, 0), (19, 1, -1), (18, 1, 0), (19, 0, -1), (18, 0, 0), (17, 2, 0), (17, 1, 19), (17, 0, 18), (3, 13, 14), (16, 2, -1), (15, 2, 0), (16, 1, -1), (15, 1, 0), (16, 0, -1), (15, 0, 0), (14, 2, 0), (14, 1, 16), (14, 0, 15), (3, 12, 12), (12, 0, 13), (3, 9, 11), (3, 7, 10), (3, 6, 7), (7, 1, 9), (7, 0, 8), (3, 4, 6), (3, 2, 5), (3, 0, 4)])) ?_ rfl rfl
  refine e_goto q_X11_init_184 ?_
  refine e_iload_n q_X11_init_163 (by decide) rfl ?_
  refine e_iconst q_X11_init_164 ?_
  refine e_icmp_ge q_X11_init_165 (by constructor <;> omega) (by constructor <;> omega) (fun c0 => absurd c0 (by decide)) (fun c0 => ?_)
  refine e_aload_n q_X11_init_168 (by decide) rfl ?_
  refine p_getR (r := 20) q_X11_init_169 fl_X11_60 (by decide) (by decide) rfl rfl (by decide) (by decide +kernel) ?_
  refine e_iload_n q_X11_init_172 (by decide) rfl ?_
  refine p_new (n' := 38) (k' := 621) q_X11_init_173 kd_7 cl_X11_58 inst_7 ini_X7 dg_7 rfl (by decide +kernel) rfl rfl ?_
  refine e_dup q_X11_init_176 rfl ?_
  refine iv_X7_init q_X11_init_177 ln_X11_89 (by decide) (Nat.le_of_ble_eq_true rfl) ?_
  show zE X m_X7_init 0 [.ref 37] [] _ _
  refine e_aload_n q_X7_init_0 (by decide) rfl ?_
  refine e_objInit q_X7_init_1 lk_X7_3 ob_inst ob_code (by decide) (by decide) ?_
  refine e_aload_n q_X7_init_4 (by decide) rfl ?_
  refine e_bipush q_X7_init_5 (by decide) ?_
  refine p_newa (q := 20) (len := 20) (n' := 39) (k' := 641) q_X7_init_7 rfl (by decide) ac_int rfl (by decide) rfl (by decide +kernel) rfl rfl ?_
  refine p_putR (i := 0) (x := 38) q_X7_init_9 fl_X7_9 (Or.inr ⟨rfl, _, _, rfl⟩) (by decide) (by decide) rfl rfl rfl (by decide) rfl rfl rfl ?_
  refine e_aload_n q_X7_init_12 (by decide) rfl ?_
  refine e_bipush q_X7_init_13 (by decide) ?_
  refine p_putI (i := 1) q_X7_init_15 fl_X7_15 (Or.inl rfl) (by decide) (by decide) rfl rfl rfl rfl rfl ?_
  refine e_return q_X7_init_18 rfl ?_
  show zE X m_X11_init 180 _ _ _ _
  refine p_aast (x := 37) q_X11_init_180 (by decide) (by decide) rfl (by decide) (by decide) (by decide) rfl kd_7 rfl rfl (by decide) (by decide) (by decide) ?_
  refine e_iinc (ls' := [_, _]) q_X11_init_181 (by decide) rfl rfl rfl ?_
  refine zEe (ls := [.ref 3, vi 4]) (σ := zP 39 641 ([(20, 3, 37), (37, 1, -4), (37, 0, 38), (20, 2, 35), (35, 1, -4), (35, 0, 36), (20, 1, 33), (33, 1, -4), (33, 0, 34), (20, 0, 31), (31, 1, -4), (31, 0, 32), (14, 2, 3), (16, 2, 60), (15, 2, 12), (16, 0, 60), (15, 0, 12), (3, 18, 30), (3, 17, 25), (25, 5, 29), (25, 4, 28), (25, 1, 27), (25, 0, 26), (3, 16, 21), (21, 2, 24), (21, 1, 23), (21, 0, 22), (3, 15, 20), (3, 14, 17), (19, 2, -1), (18, 2, 0), (19, 1, -1), (18, 1, 0), (19, 0, -1), (18, 0, 0), (17, 2, 0), (17, 1, 19), (17, 0, 18), (3, 13, 14), (16, 2, -1), (15, 2, 0), (16, 1, -1), (15, 1, 0), (16, 0, -1), (15, 0, 0), (14, 2, 0), (14, 1, 16), (14, 0, 15), (3, 12, 12), (12, 0, 13), (3, 9, 11), (3, 7, 10), (3, 6, 7), (7, 1, 9), (7, 0, 8), (3, 4, 6), (3, 2, 5), (3, 0, 4)])) ?_ rfl rfl
  refine e_goto q_X11_init_184 ?_
  refine e_iload_n q_X11_init_163 (by decide) rfl ?_
  refine e_iconst q_X11_init_164 ?_
  refine e_icmp_ge q_X11_init_165 (by constructor <;> omega) (by constructor <;> omega) (fun c0 => ?_) (fun c0 => absurd (by decide) c0)
  refine e_return q_X11_init_187 rfl ?_
  exact h
def L12 : List (Nat × Int × Int) := (39, 66, 87) :: (39, 65, 86) :: (39, 64, 85) :: (39, 62, 84) :: (39, 61, 83) :: (39, 60, 82) :: (82, 3, -4) :: (82, 2, -4) :: (82, 1, -4) :: (82, 0, -4) :: (39, 59, 81) :: (39, 57, 80) :: (39, 56, 79) :: (39, 55, 78) :: (39, 54, 77) :: (39, 53, 76) :: (39, 52, 75) :: (39, 51, 74) :: (39, 48, 73) :: (39, 47, 72) :: (39, 46, 71) :: (39, 45, 70) :: (39, 44, 69) :: (39, 43, 68) :: (39, 42, 67) :: (39, 40, 66) :: (39, 39, 65) :: (39, 38, 64) :: (39, 37, 63) :: (39, 35, 62) :: (39, 34, 61) :: (39, 33, 60) :: (39, 32, 59) :: (39, 30, 58) :: (39, 28, 57) :: (39, 27, 56) :: (39, 24, 55) :: (39, 23, 54) :: (39, 18, 3) :: (39, 17, 53) :: (53, 2, 60) :: (53, 1, -1) :: (53, 0, 60) :: (39, 16, 52) :: (52, 2, 12) :: (52, 1, 100000) :: (52, 0, 12) :: (39, 14, 51) :: (39, 13, 50) :: (39, 12, 49) :: (39, 11, 48) :: (39, 9, 47) :: (39, 8, 46) :: (39, 7, 45) :: (39, 6, 44) :: (39, 5, 43) :: (39, 4, 42) :: (39, 3, 41) :: (39, 1, 40) :: L11
set_option maxRecDepth 20000 in
set_option maxHeartbeats 4000000 in
theorem k_init12 (h : Q none (zP 88 21436 L12)) : zC X m_X12_init [.ref 39] (zP 40 708 L11) Q := by
  show zE X m_X12_init 0 [.ref 39] [] _ _
  refine e_aload_n q_X12_init_0 (by decide) rfl ?_
  refine e_objInit q_X12_init_1 lk_X12_1 ob_inst ob_code (by decide) (by decide) ?_
  refine e_aload_n q_X12_init_4 (by decide) rfl ?_
  refine e_bipush q_X12_init_5 (by decide) ?_
  refine p_newa (q := 20) (len := 20) (n' := 41) (k' := 728) q_X12_init_7 rfl (by decide) ac_int rfl (by decide) rfl (by decide +kernel) rfl rfl ?_
  refine p_putR (i := 1) (x := 40) q_X12_init_9 fl_X12_7 (Or.inr ⟨rfl, _, _, rfl⟩) (by decide) (by decide) rfl rfl rfl (by decide) rfl rfl rfl ?_
  refine e_aload_n q_X12_init_12 (by decide) rfl ?_
  refine e_bipush q_X12_init_13 (by decide) ?_
  refine p_newa (q := 20) (len := 48) (n' := 42) (k' := 776) q_X12_init_15 rfl (by decide) ac_int rfl (by decide) rfl (by decide +kernel) rfl rfl ?_
  refine p_putR (i := 3) (x := 41) q_X12_init_17 fl_X12_13 (Or.inr ⟨rfl, _, _, rfl⟩) (by decide) (by decide) rfl rfl rfl (by decide) rfl rfl rfl ?_
  refine e_aload_n q_X12_init_20 (by decide) rfl ?_
  refine e_bipush q_X12_init_21 (by decide) ?_
  refine p_newa (q := 20) (len := 48) (n' := 43) (k' := 824) q_X12_init_23 rfl (by decide) ac_int rfl (by decide) rfl (by decide +kernel) rfl rfl ?_
  refine p_putR (i := 4) (x := 42) q_X12_init_25 fl_X12_16 (Or.inr ⟨rfl, _, _, rfl⟩) (by decide) (by decide) rfl rfl rfl (by decide) rfl rfl rfl ?_
  refine e_aload_n q_X12_init_28 (by decide) rfl ?_
  refine e_bipush q_X12_init_29 (by decide) ?_
  refine p_newa (q := 20) (len := 48) (n' := 44) (k' := 872) q_X12_init_31 rfl (by decide) ac_int rfl (by decide) rfl (by decide +kernel) rfl rfl ?_
  refine p_putR (i := 5) (x := 43) q_X12_init_33 fl_X12_19 (Or.inr ⟨rfl, _, _, rfl⟩) (by decide) (by decide) rfl rfl rfl (by decide) rfl rfl rfl ?_
  refine e_aload_n q_X12_init_36 (by decide) rfl ?_
  refine e_bipush q_X12_init_37 (by decide) ?_
  refine p_newa (q := 20) (len := 48) (n' := 45) (k' := 920) q_X12_init_39 rfl (by decide) ac_int rfl (by decide) rfl (by decide +kernel) rfl rfl ?_
  refine p_putR (i := 6) (x := 44) q_X12_init_41 fl_X12_22 (Or.inr ⟨rfl, _, _, rfl⟩) (by decide) (by decide) rfl rfl rfl (by decide) rfl rfl rfl ?_
  refine e_aload_n q_X12_init_44 (by decide) rfl ?_
  refine e_bipush q_X12_init_45 (by decide) ?_
  refine p_newa (q := 21) (len := 48) (n' := 46) (k' := 968) q_X12_init_47 rfl (by decide) ac_boolean rfl (by decide) rfl (by decide +kernel) rfl rfl ?_
  refine p_putR (i := 7) (x := 45) q_X12_init_49 fl_X12_25 (Or.inr ⟨rfl, _, _, rfl⟩) (by decide) (by decide) rfl rfl rfl (by decide) rfl rfl rfl ?_
  refine e_aload_n q_X12_init_52 (by decide) rfl ?_
  refine e_bipush q_X12_init_53 (by decide) ?_
  refine p_newa (q := 20) (len := 48) (n' := 47) (k' := 1016) q_X12_init_55 rfl (by decide) ac_int rfl (by decide) rfl (by decide +kernel) rfl rfl ?_
  refine p_putR (i := 8) (x := 46) q_X12_init_57 fl_X12_29 (Or.inr ⟨rfl, _, _, rfl⟩) (by decide) (by decide) rfl rfl rfl (by decide) rfl rfl rfl ?_
  refine e_aload_n q_X12_init_60 (by decide) rfl ?_
  refine e_bipush q_X12_init_61 (by decide) ?_
  refine p_newa (q := 20) (len := 48) (n' := 48) (k' := 1064) q_X12_init_63 rfl (by decide) ac_int rfl (by decide) rfl (by decide +kernel) rfl rfl ?_
  refine p_putR (i := 9) (x := 47) q_X12_init_65 fl_X12_32 (Or.inr ⟨rfl, _, _, rfl⟩) (by decide) (by decide) rfl rfl rfl (by decide) rfl rfl rfl ?_
  refine e_aload_n q_X12_init_68 (by decide) rfl ?_
  refine e_sipush q_X12_init_69 (by decide) ?_
  refine p_newa (q := 20) (len := 600) (n' := 49) (k' := 1664) q_X12_init_72 rfl (by decide) ac_int rfl (by decide) rfl (by decide +kernel) rfl rfl ?_
  refine p_putR (i := 11) (x := 48) q_X12_init_74 fl_X12_35 (Or.inr ⟨rfl, _, _, rfl⟩) (by decide) (by decide) rfl rfl rfl (by decide) rfl rfl rfl ?_
  refine e_aload_n q_X12_init_77 (by decide) rfl ?_
  refine e_sipush q_X12_init_78 (by decide) ?_
  refine p_newa (q := 20) (len := 600) (n' := 50) (k' := 2264) q_X12_init_81 rfl (by decide) ac_int rfl (by decide) rfl (by decide +kernel) rfl rfl ?_
  refine p_putR (i := 12) (x := 49) q_X12_init_83 fl_X12_38 (Or.inr ⟨rfl, _, _, rfl⟩) (by decide) (by decide) rfl rfl rfl (by decide) rfl rfl rfl ?_
  refine e_aload_n q_X12_init_86 (by decide) rfl ?_
  refine e_sipush q_X12_init_87 (by decide) ?_
  refine p_newa (q := 20) (len := 600) (n' := 51) (k' := 2864) q_X12_init_90 rfl (by decide) ac_int rfl (by decide) rfl (by decide +kernel) rfl rfl ?_
  refine p_putR (i := 13) (x := 50) q_X12_init_92 fl_X12_41 (Or.inr ⟨rfl, _, _, rfl⟩) (by decide) (by decide) rfl rfl rfl (by decide) rfl rfl rfl ?_
  refine e_aload_n q_X12_init_95 (by decide) rfl ?_
  refine e_bipush q_X12_init_96 (by decide) ?_
  refine p_newa (q := 20) (len := 40) (n' := 52) (k' := 2904) q_X12_init_98 rfl (by decide) ac_int rfl (by decide) rfl (by decide +kernel) rfl rfl ?_
  refine p_putR (i := 14) (x := 51) q_X12_init_100 fl_X12_44 (Or.inr ⟨rfl, _, _, rfl⟩) (by decide) (by decide) rfl rfl rfl (by decide) rfl rfl rfl ?_
  refine e_aload_n q_X12_init_103 (by decide) rfl ?_
  refine e_iconst q_X12_init_104 ?_
  refine p_newa (q := 20) (len := 3) (n' := 53) (k' := 2907) q_X12_init_105 rfl (by decide) ac_int rfl (by decide) rfl (by decide +kernel) rfl rfl ?_
  refine e_dup q_X12_init_107 rfl ?_
  refine e_iconst q_X12_init_108 ?_
  refine e_bipush q_X12_init_109 (by decide) ?_
  refine p_iast q_X12_init_111 (by decide) (by decide) rfl (by decide) (by decide) (by decide) ?_
  refine e_dup q_X12_init_112 rfl ?_
  refine e_iconst q_X12_init_113 ?_
  refine e_ldc q_X12_init_114 co_X12_47 ?_
  refine p_iast q_X12_init_116 (by decide) (by decide) rfl (by decide) (by decide) (by decide) ?_
  refine e_dup q_X12_init_117 rfl ?_
  refine e_iconst q_X12_init_118 ?_
  refine e_bipush q_X12_init_119 (by decide) ?_
  refine p_iast q_X12_init_121 (by decide) (by decide) rfl (by decide) (by decide) (by decide) ?_
  refine p_putR (i := 16) (x := 52) q_X12_init_122 fl_X12_48 (Or.inr ⟨rfl, _, _, rfl⟩) (by decide) (by decide) rfl rfl rfl (by decide) rfl rfl rfl ?_
  refine e_aload_n q_X12_init_125 (by decide) rfl ?_
  refine e_iconst q_X12_init_126 ?_
  refine p_newa (q := 20) (len := 3) (n' := 54) (k' := 2910) q_X12_init_127 rfl (by decide) ac_int rfl (by decide) rfl (by decide +kernel) rfl rfl ?_
  refine e_dup q_X12_init_129 rfl ?_
  refine e_iconst q_X12_init_130 ?_
  refine e_bipush q_X12_init_131 (by decide) ?_
  refine p_iast q_X12_init_133 (by decide) (by decide) rfl (by decide) (by decide) (by decide) ?_
  refine e_dup q_X12_init_134 rfl ?_
  refine e_iconst q_X12_init_135 ?_
  refine e_iconst q_X12_init_136 ?_
  refine p_iast q_X12_init_137 (by decide) (by decide) rfl (by decide) (by decide) (by decide) ?_
  refine e_dup q_X12_init_138 rfl ?_
  refine e_iconst q_X12_init_139 ?_
  refine e_bipush q_X12_init_140 (by decide) ?_
  refine p_iast q_X12_init_142 (by decide) (by decide) rfl (by decide) (by decide) (by decide) ?_
  refine p_putR (i := 17) (x := 53) q_X12_init_143 fl_X12_51 (Or.inr ⟨rfl, _, _, rfl⟩) (by decide) (by decide) rfl rfl rfl (by decide) rfl rfl rfl ?_
  refine e_aload_n q_X12_init_146 (by decide) rfl ?_
  refine e_iconst q_X12_init_147 ?_
  refine p_putI (i := 18) q_X12_init_148 fl_X12_54 (Or.inl rfl) (by decide) (by decide) rfl rfl rfl rfl rfl ?_
  refine e_aload_n q_X12_init_151 (by decide) rfl ?_
  refine e_iconst q_X12_init_152 ?_
  refine p_newa (q := 20) (len := 3) (n' := 55) (k' := 2913) q_X12_init_153 rfl (by decide) ac_int rfl (by decide) rfl (by decide +kernel) rfl rfl ?_
  refine p_putR (i := 23) (x := 54) q_X12_init_155 fl_X12_58 (Or.inr ⟨rfl, _, _, rfl⟩) (by decide) (by decide) rfl rfl rfl (by decide) rfl rfl rfl ?_
  refine e_aload_n q_X12_init_158 (by decide) rfl ?_
  refine e_iconst q_X12_init_159 ?_
  refine p_newa (q := 20) (len := 3) (n' := 56) (k' := 2916) q_X12_init_160 rfl (by decide) ac_int rfl (by decide) rfl (by decide +kernel) rfl rfl ?_
  refine p_putR (i := 24) (x := 55) q_X12_init_162 fl_X12_61 (Or.inr ⟨rfl, _, _, rfl⟩) (by decide) (by decide) rfl rfl rfl (by decide) rfl rfl rfl ?_
  refine e_aload_n q_X12_init_165 (by decide) rfl ?_
  refine e_bipush q_X12_init_166 (by decide) ?_
  refine p_newa (q := 20) (len := 9) (n' := 57) (k' := 2925) q_X12_init_168 rfl (by decide) ac_int rfl (by decide) rfl (by decide +kernel) rfl rfl ?_
  refine p_putR (i := 27) (x := 56) q_X12_init_170 fl_X12_64 (Or.inr ⟨rfl, _, _, rfl⟩) (by decide) (by decide) rfl rfl rfl (by decide) rfl rfl rfl ?_
  refine e_aload_n q_X12_init_173 (by decide) rfl ?_
  refine e_bipush q_X12_init_174 (by decide) ?_
  refine p_newa (q := 20) (len := 9) (n' := 58) (k' := 2934) q_X12_init_176 rfl (by decide) ac_int rfl (by decide) rfl (by decide +kernel) rfl rfl ?_
  refine p_putR (i := 28) (x := 57) q_X12_init_178 fl_X12_67 (Or.inr ⟨rfl, _, _, rfl⟩) (by decide) (by decide) rfl rfl rfl (by decide) rfl rfl rfl ?_
  refine e_aload_n q_X12_init_181 (by decide) rfl ?_
  refine e_bipush q_X12_init_182 (by decide) ?_
  refine p_newa (q := 20) (len := 8) (n' := 59) (k' := 2942) q_X12_init_184 rfl (by decide) ac_int rfl (by decide) rfl (by decide +kernel) rfl rfl ?_
  refine p_putR (i := 30) (x := 58) q_X12_init_186 fl_X12_70 (Or.inr ⟨rfl, _, _, rfl⟩) (by decide) (by decide) rfl rfl rfl (by decide) rfl rfl rfl ?_
  refine e_aload_n q_X12_init_189 (by decide) rfl ?_
  refine e_sipush q_X12_init_190 (by decide) ?_
  refine p_newa (q := 20) (len := 4000) (n' := 60) (k' := 6942) q_X12_init_193 rfl (by decide) ac_int rfl (by decide) rfl (by decide +kernel) rfl rfl ?_
  refine p_putR (i := 32) (x := 59) q_X12_init_195 fl_X12_73 (Or.inr ⟨rfl, _, _, rfl⟩) (by decide) (by decide) rfl rfl rfl (by decide) rfl rfl rfl ?_
  refine e_aload_n q_X12_init_198 (by decide) rfl ?_
  refine e_sipush q_X12_init_199 (by decide) ?_
  refine p_newa (q := 20) (len := 4000) (n' := 61) (k' := 10942) q_X12_init_202 rfl (by decide) ac_int rfl (by decide) rfl (by decide +kernel) rfl rfl ?_
  refine p_putR (i := 33) (x := 60) q_X12_init_204 fl_X12_76 (Or.inr ⟨rfl, _, _, rfl⟩) (by decide) (by decide) rfl rfl rfl (by decide) rfl rfl rfl ?_
  refine e_aload_n q_X12_init_207 (by decide) rfl ?_
  refine e_sipush q_X12_init_208 (by decide) ?_
  refine p_newa (q := 20) (len := 4000) (n' := 62) (k' := 14942) q_X12_init_211 rfl (by decide) ac_int rfl (by decide) rfl (by decide +kernel) rfl rfl ?_
  refine p_putR (i := 34) (x := 61) q_X12_init_213 fl_X12_79 (Or.inr ⟨rfl, _, _, rfl⟩) (by decide) (by decide) rfl rfl rfl (by decide) rfl rfl rfl ?_
  refine e_aload_n q_X12_init_216 (by decide) rfl ?_
  refine e_sipush q_X12_init_217 (by decide) ?_
  refine p_newa (q := 20) (len := 4000) (n' := 63) (k' := 18942) q_X12_init_220 rfl (by decide) ac_int rfl (by decide) rfl (by decide +kernel) rfl rfl ?_
  refine p_putR (i := 35) (x := 62) q_X12_init_222 fl_X12_82 (Or.inr ⟨rfl, _, _, rfl⟩) (by decide) (by decide) rfl rfl rfl (by decide) rfl rfl rfl ?_
  refine e_aload_n q_X12_init_225 (by decide) rfl ?_
  refine e_bipush q_X12_init_226 (by decide) ?_
  refine p_newa (q := 20) (len := 20) (n' := 64) (k' := 18962) q_X12_init_228 rfl (by decide) ac_int rfl (by decide) rfl (by decide +kernel) rfl rfl ?_
  refine p_putR (i := 37) (x := 63) q_X12_init_230 fl_X12_85 (Or.inr ⟨rfl, _, _, rfl⟩) (by decide) (by decide) rfl rfl rfl (by decide) rfl rfl rfl ?_
  refine e_aload_n q_X12_init_233 (by decide) rfl ?_
  refine e_bipush q_X12_init_234 (by decide) ?_
  refine p_newa (q := 20) (len := 20) (n' := 65) (k' := 18982) q_X12_init_236 rfl (by decide) ac_int rfl (by decide) rfl (by decide +kernel) rfl rfl ?_
  refine p_putR (i := 38) (x := 64) q_X12_init_238 fl_X12_88 (Or.inr ⟨rfl, _, _, rfl⟩) (by decide) (by decide) rfl rfl rfl (by decide) rfl rfl rfl ?_
  refine e_aload_n q_X12_init_241 (by decide) rfl ?_
  refine e_bipush q_X12_init_242 (by decide) ?_
  refine p_newa (q := 20) (len := 20) (n' := 66) (k' := 19002) q_X12_init_244 rfl (by decide) ac_int rfl (by decide) rfl (by decide +kernel) rfl rfl ?_
  refine p_putR (i := 39) (x := 65) q_X12_init_246 fl_X12_91 (Or.inr ⟨rfl, _, _, rfl⟩) (by decide) (by decide) rfl rfl rfl (by decide) rfl rfl rfl ?_
  refine e_aload_n q_X12_init_249 (by decide) rfl ?_
  refine e_bipush q_X12_init_250 (by decide) ?_
  refine p_newa (q := 20) (len := 20) (n' := 67) (k' := 19022) q_X12_init_252 rfl (by decide) ac_int rfl (by decide) rfl (by decide +kernel) rfl rfl ?_
  refine p_putR (i := 40) (x := 66) q_X12_init_254 fl_X12_94 (Or.inr ⟨rfl, _, _, rfl⟩) (by decide) (by decide) rfl rfl rfl (by decide) rfl rfl rfl ?_
  refine e_aload_n q_X12_init_257 (by decide) rfl ?_
  refine e_bipush q_X12_init_258 (by decide) ?_
  refine p_newa (q := 20) (len := 6) (n' := 68) (k' := 19028) q_X12_init_260 rfl (by decide) ac_int rfl (by decide) rfl (by decide +kernel) rfl rfl ?_
  refine p_putR (i := 42) (x := 67) q_X12_init_262 fl_X12_97 (Or.inr ⟨rfl, _, _, rfl⟩) (by decide) (by decide) rfl rfl rfl (by decide) rfl rfl rfl ?_
  refine e_aload_n q_X12_init_265 (by decide) rfl ?_
  refine e_bipush q_X12_init_266 (by decide) ?_
  refine p_newa (q := 20) (len := 6) (n' := 69) (k' := 19034) q_X12_init_268 rfl (by decide) ac_int rfl (by decide) rfl (by decide +kernel) rfl rfl ?_
  refine p_putR (i := 43) (x := 68) q_X12_init_270 fl_X12_100 (Or.inr ⟨rfl, _, _, rfl⟩) (by decide) (by decide) rfl rfl rfl (by decide) rfl rfl rfl ?_
  refine e_aload_n q_X12_init_273 (by decide) rfl ?_
  refine e_bipush q_X12_init_274 (by decide) ?_
  refine p_newa (q := 20) (len := 6) (n' := 70) (k' := 19040) q_X12_init_276 rfl (by decide) ac_int rfl (by decide) rfl (by decide +kernel) rfl rfl ?_
  refine p_putR (i := 44) (x := 69) q_X12_init_278 fl_X12_103 (Or.inr ⟨rfl, _, _, rfl⟩) (by decide) (by decide) rfl rfl rfl (by decide) rfl rfl rfl ?_
  refine e_aload_n q_X12_init_281 (by decide) rfl ?_
  refine e_bipush q_X12_init_282 (by decide) ?_
  refine p_newa (q := 20) (len := 48) (n' := 71) (k' := 19088) q_X12_init_284 rfl (by decide) ac_int rfl (by decide) rfl (by decide +kernel) rfl rfl ?_
  refine p_putR (i := 45) (x := 70) q_X12_init_286 fl_X12_106 (Or.inr ⟨rfl, _, _, rfl⟩) (by decide) (by decide) rfl rfl rfl (by decide) rfl rfl rfl ?_
  refine e_aload_n q_X12_init_289 (by decide) rfl ?_
  refine e_bipush q_X12_init_290 (by decide) ?_
  refine p_newa (q := 20) (len := 8) (n' := 72) (k' := 19096) q_X12_init_292 rfl (by decide) ac_int rfl (by decide) rfl (by decide +kernel) rfl rfl ?_
  refine p_putR (i := 46) (x := 71) q_X12_init_294 fl_X12_109 (Or.inr ⟨rfl, _, _, rfl⟩) (by decide) (by decide) rfl rfl rfl (by decide) rfl rfl rfl ?_
  refine e_aload_n q_X12_init_297 (by decide) rfl ?_
  refine e_bipush q_X12_init_298 (by decide) ?_
  refine p_newa (q := 21) (len := 8) (n' := 73) (k' := 19104) q_X12_init_300 rfl (by decide) ac_boolean rfl (by decide) rfl (by decide +kernel) rfl rfl ?_
  refine p_putR (i := 47) (x := 72) q_X12_init_302 fl_X12_112 (Or.inr ⟨rfl, _, _, rfl⟩) (by decide) (by decide) rfl rfl rfl (by decide) rfl rfl rfl ?_
  refine e_aload_n q_X12_init_305 (by decide) rfl ?_
  refine e_bipush q_X12_init_306 (by decide) ?_
  refine p_newa (q := 20) (len := 48) (n' := 74) (k' := 19152) q_X12_init_308 rfl (by decide) ac_int rfl (by decide) rfl (by decide +kernel) rfl rfl ?_
  refine p_putR (i := 48) (x := 73) q_X12_init_310 fl_X12_115 (Or.inr ⟨rfl, _, _, rfl⟩) (by decide) (by decide) rfl rfl rfl (by decide) rfl rfl rfl ?_
  refine e_aload_n q_X12_init_313 (by decide) rfl ?_
  refine e_bipush q_X12_init_314 (by decide) ?_
  refine p_newa (q := 20) (len := 20) (n' := 75) (k' := 19172) q_X12_init_316 rfl (by decide) ac_int rfl (by decide) rfl (by decide +kernel) rfl rfl ?_
  refine p_putR (i := 51) (x := 74) q_X12_init_318 fl_X12_118 (Or.inr ⟨rfl, _, _, rfl⟩) (by decide) (by decide) rfl rfl rfl (by decide) rfl rfl rfl ?_
  refine e_aload_n q_X12_init_321 (by decide) rfl ?_
  refine e_bipush q_X12_init_322 (by decide) ?_
  refine p_newa (q := 20) (len := 20) (n' := 76) (k' := 19192) q_X12_init_324 rfl (by decide) ac_int rfl (by decide) rfl (by decide +kernel) rfl rfl ?_
  refine p_putR (i := 52) (x := 75) q_X12_init_326 fl_X12_121 (Or.inr ⟨rfl, _, _, rfl⟩) (by decide) (by decide) rfl rfl rfl (by decide) rfl rfl rfl ?_
  refine e_aload_n q_X12_init_329 (by decide) rfl ?_
  refine e_bipush q_X12_init_330 (by decide) ?_
  refine p_newa (q := 20) (len := 20) (n' := 77) (k' := 19212) q_X12_init_332 rfl (by decide) ac_int rfl (by decide) rfl (by decide +kernel) rfl rfl ?_
  refine p_putR (i := 53) (x := 76) q_X12_init_334 fl_X12_124 (Or.inr ⟨rfl, _, _, rfl⟩) (by decide) (by decide) rfl rfl rfl (by decide) rfl rfl rfl ?_
  refine e_aload_n q_X12_init_337 (by decide) rfl ?_
  refine e_bipush q_X12_init_338 (by decide) ?_
  refine p_newa (q := 21) (len := 20) (n' := 78) (k' := 19232) q_X12_init_340 rfl (by decide) ac_boolean rfl (by decide) rfl (by decide +kernel) rfl rfl ?_
  refine p_putR (i := 54) (x := 77) q_X12_init_342 fl_X12_127 (Or.inr ⟨rfl, _, _, rfl⟩) (by decide) (by decide) rfl rfl rfl (by decide) rfl rfl rfl ?_
  refine e_aload_n q_X12_init_345 (by decide) rfl ?_
  refine e_bipush q_X12_init_346 (by decide) ?_
  refine p_newa (q := 21) (len := 20) (n' := 79) (k' := 19252) q_X12_init_348 rfl (by decide) ac_boolean rfl (by decide) rfl (by decide +kernel) rfl rfl ?_
  refine p_putR (i := 55) (x := 78) q_X12_init_350 fl_X12_130 (Or.inr ⟨rfl, _, _, rfl⟩) (by decide) (by decide) rfl rfl rfl (by decide) rfl rfl rfl ?_
  refine e_aload_n q_X12_init_353 (by decide) rfl ?_
  refine e_sipush q_X12_init_354 (by decide) ?_
  refine p_newa (q := 21) (len := 960) (n' := 80) (k' := 20212) q_X12_init_357 rfl (by decide) ac_boolean rfl (by decide) rfl (by decide +kernel) rfl rfl ?_
  refine p_putR (i := 56) (x := 79) q_X12_init_359 fl_X12_133 (Or.inr ⟨rfl, _, _, rfl⟩) (by decide) (by decide) rfl rfl rfl (by decide) rfl rfl rfl ?_
  refine e_aload_n q_X12_init_362 (by decide) rfl ?_
  refine e_sipush q_X12_init_363 (by decide) ?_
  refine p_newa (q := 20) (len := 960) (n' := 81) (k' := 21172) q_X12_init_366 rfl (by decide) ac_int rfl (by decide) rfl (by decide +kernel) rfl rfl ?_
  refine p_putR (i := 57) (x := 80) q_X12_init_368 fl_X12_136 (Or.inr ⟨rfl, _, _, rfl⟩) (by decide) (by decide) rfl rfl rfl (by decide) rfl rfl rfl ?_
  refine e_aload_n q_X12_init_371 (by decide) rfl ?_
  refine e_bipush q_X12_init_372 (by decide) ?_
  refine p_newa (q := 20) (len := 48) (n' := 82) (k' := 21220) q_X12_init_374 rfl (by decide) ac_int rfl (by decide) rfl (by decide +kernel) rfl rfl ?_
  refine p_putR (i := 59) (x := 81) q_X12_init_376 fl_X12_139 (Or.inr ⟨rfl, _, _, rfl⟩) (by decide) (by decide) rfl rfl rfl (by decide) rfl rfl rfl ?_
  refine e_aload_n q_X12_init_379 (by decide) rfl ?_
  refine e_iconst q_X12_init_380 ?_
  refine p_newa (q := 20) (len := 4) (n' := 83) (k' := 21224) q_X12_init_381 rfl (by decide) ac_int rfl (by decide) rfl (by decide +kernel) rfl rfl ?_
  refine e_dup q_X12_init_383 rfl ?_
  refine e_iconst q_X12_init_384 ?_
  refine e_bipush q_X12_init_385 (by decide) ?_
  refine p_iast q_X12_init_387 (by decide) (by decide) rfl (by decide) (by decide) (by decide) ?_
  refine e_dup q_X12_init_388 rfl ?_
  refine e_iconst q_X12_init_389 ?_
  refine e_bipush q_X12_init_390 (by decide) ?_
  refine p_iast q_X12_init_392 (by decide) (by decide) rfl (by decide) (by decide) (by decide) ?_
  refine e_dup q_X12_init_393 rfl ?_
  refine e_iconst q_X12_init_394 ?_
  refine e_bipush q_X12_init_395 (by decide) ?_
  refine p_iast q_X12_init_397 (by decide) (by decide) rfl (by decide) (by decide) (by decide) ?_
  refine e_dup q_X12_init_398 rfl ?_
  refine e_iconst q_X12_init_399 ?_
  refine e_bipush q_X12_init_400 (by decide) ?_
  refine p_iast q_X12_init_402 (by decide) (by decide) rfl (by decide) (by decide) (by decide) ?_
  refine p_putR (i := 60) (x := 82) q_X12_init_403 fl_X12_142 (Or.inr ⟨rfl, _, _, rfl⟩) (by decide) (by decide) rfl rfl rfl (by decide) rfl rfl rfl ?_
  refine e_aload_n q_X12_init_406 (by decide) rfl ?_
  refine e_iconst q_X12_init_407 ?_
  refine p_newa (q := 20) (len := 4) (n' := 84) (k' := 21228) q_X12_init_408 rfl (by decide) ac_int rfl (by decide) rfl (by decide +kernel) rfl rfl ?_
  refine p_putR (i := 61) (x := 83) q_X12_init_410 fl_X12_145 (Or.inr ⟨rfl, _, _, rfl⟩) (by decide) (by decide) rfl rfl rfl (by decide) rfl rfl rfl ?_
  refine e_aload_n q_X12_init_413 (by decide) rfl ?_
  refine e_bipush q_X12_init_414 (by decide) ?_
  refine p_newa (q := 20) (len := 80) (n' := 85) (k' := 21308) q_X12_init_416 rfl (by decide) ac_int rfl (by decide) rfl (by decide +kernel) rfl rfl ?_
  refine p_putR (i := 62) (x := 84) q_X12_init_418 fl_X12_148 (Or.inr ⟨rfl, _, _, rfl⟩) (by decide) (by decide) rfl rfl rfl (by decide) rfl rfl rfl ?_
  refine e_aload_n q_X12_init_421 (by decide) rfl ?_
  refine e_bipush q_X12_init_422 (by decide) ?_
  refine p_newa (q := 20) (len := 40) (n' := 86) (k' := 21348) q_X12_init_424 rfl (by decide) ac_int rfl (by decide) rfl (by decide +kernel) rfl rfl ?_
  refine p_putR (i := 64) (x := 85) q_X12_init_426 fl_X12_151 (Or.inr ⟨rfl, _, _, rfl⟩) (by decide) (by decide) rfl rfl rfl (by decide) rfl rfl rfl ?_
  refine e_aload_n q_X12_init_429 (by decide) rfl ?_
  refine e_bipush q_X12_init_430 (by decide) ?_
  refine p_newa (q := 20) (len := 40) (n' := 87) (k' := 21388) q_X12_init_432 rfl (by decide) ac_int rfl (by decide) rfl (by decide +kernel) rfl rfl ?_
  refine p_putR (i := 65) (x := 86) q_X12_init_434 fl_X12_154 (Or.inr ⟨rfl, _, _, rfl⟩) (by decide) (by decide) rfl rfl rfl (by decide) rfl rfl rfl ?_
  refine e_aload_n q_X12_init_437 (by decide) rfl ?_
  refine e_bipush q_X12_init_438 (by decide) ?_
  refine p_newa (q := 21) (len := 48) (n' := 88) (k' := 21436) q_X12_init_440 rfl (by decide) ac_boolean rfl (by decide) rfl (by decide +kernel) rfl rfl ?_
  refine p_putR (i := 66) (x := 87) q_X12_init_442 fl_X12_157 (Or.inr ⟨rfl, _, _, rfl⟩) (by decide) (by decide) rfl rfl rfl (by decide) rfl rfl rfl ?_
  refine e_return q_X12_init_445 rfl ?_
  exact h
end GI1
