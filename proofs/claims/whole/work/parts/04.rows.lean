/-! ROWS OF SINGLE INSTRUCTIONS: nothing of the cells changes -/
theorem z32 {a : Int} (h1 : -2147483648 ≤ a) (h2 : a ≤ 2147483647) : (Int32.ofInt a).toInt = a := Int32.toInt_ofInt_of_le (by omega) (by omega)
abbrev zr (a : Int) : Prop := -2147483648 ≤ a ∧ a ≤ 2147483647
theorem zr_lt {a b : Int} (ha : zr a) (hb : zr b) : Int32.ofInt a < Int32.ofInt b ↔ a < b := by rw [Int32.lt_iff_toInt_lt, z32 ha.1 ha.2, z32 hb.1 hb.2]
theorem zr_le {a b : Int} (ha : zr a) (hb : zr b) : Int32.ofInt a ≤ Int32.ofInt b ↔ a ≤ b := by rw [Int32.le_iff_toInt_le, z32 ha.1 ha.2, z32 hb.1 hb.2]
theorem zr_eq {a b : Int} (ha : zr a) (hb : zr b) : Int32.ofInt a = Int32.ofInt b ↔ a = b := by rw [← Int32.toInt_inj, z32 ha.1 ha.2, z32 hb.1 hb.2]
theorem z_of (x : Int32) : Int32.ofInt x.toInt = x := Int32.ofInt_toInt x
theorem z_tr (x : Int32) : zr x.toInt := ⟨Int32.le_toInt x, by have := Int32.toInt_lt x; omega⟩
section ZR
variable {X : zX} {mt : zM} {pc pc' tgt : Nat} {ls ls' st : List Value} {σ : zS} {Q : Option Value → zS → Prop}
theorem e_iconst {n : Int} (hd : zD mt.1.2 pc (.iconst n) 1 pc') (h : zE X mt pc' ls (vi n :: st) σ Q) : zE X mt pc ls st σ Q := by
  obtain ⟨hd, rfl⟩ := hd
  exact z_pure (fun lsR hI _ _ _ hL k => lv_iconst hI.1 hI.2.1 hd rfl (k lsR hL)) h
theorem e_bipush {n : Int} (hd : zD mt.1.2 pc (.bipush n) 2 pc') (hn : (Int8.ofInt n).toInt32 = Int32.ofInt n) (h : zE X mt pc' ls (vi n :: st) σ Q) : zE X mt pc ls st σ Q := by
  obtain ⟨hd, rfl⟩ := hd
  exact z_pure (fun lsR hI _ _ _ hL k => lv_bipush hI.1 hI.2.1 hd hn (k lsR hL)) h
theorem e_sipush {n : Int} (hd : zD mt.1.2 pc (.sipush n) 3 pc') (hn : (Int16.ofInt n).toInt32 = Int32.ofInt n) (h : zE X mt pc' ls (vi n :: st) σ Q) : zE X mt pc ls st σ Q := by
  obtain ⟨hd, rfl⟩ := hd
  exact z_pure (fun lsR hI _ _ _ hL k => lv_sipush hI.1 hI.2.1 hd hn (k lsR hL)) h
theorem e_ldc {i : Nat} {n : Int} (hd : zD mt.1.2 pc (.ldc i) 2 pc') (hc : Cond.constant mt.1.1.cls i (Int32.ofInt n) ∈ zTB) (h : zE X mt pc' ls (vi n :: st) σ Q) : zE X mt pc ls st σ Q := by
  obtain ⟨hd, rfl⟩ := hd
  exact z_pure (fun lsR hI _ _ _ hL k => lv_ldc hI.1 hI.2.1 hI.2.2.2.1 (hI.2.2.2.2.1 _ hc) hd (k lsR hL)) h
theorem e_ldcw {i : Nat} {n : Int} (hd : zD mt.1.2 pc (.ldc_w i) 3 pc') (hc : Cond.constant mt.1.1.cls i (Int32.ofInt n) ∈ zTB) (h : zE X mt pc' ls (vi n :: st) σ Q) : zE X mt pc ls st σ Q := by
  obtain ⟨hd, rfl⟩ := hd
  exact z_pure (fun lsR hI _ _ _ hL k => lv_ldcw hI.1 hI.2.1 hI.2.2.2.1 (hI.2.2.2.2.1 _ hc) hd (k lsR hL)) h
theorem e_ldc2 {i : Nat} {v : Int64} (hd : zD mt.1.2 pc (.ldc2_w i) 3 pc') (hc : Cond.constantLong mt.1.1.cls i v ∈ zTB) (h : zE X mt pc' ls (.long v :: st) σ Q) : zE X mt pc ls st σ Q := by
  obtain ⟨hd, rfl⟩ := hd
  exact z_pure (fun lsR hI _ _ _ hL k => lv_ldc2 hI.1 hI.2.1 hI.2.2.2.1 (hI.2.2.2.2.1 _ hc) hd (k lsR hL)) h
theorem e_null (hd : zD mt.1.2 pc .aconst_null 1 pc') (h : zE X mt pc' ls (.null :: st) σ Q) : zE X mt pc ls st σ Q := by
  obtain ⟨hd, rfl⟩ := hd
  exact z_pure (fun lsR hI _ _ _ hL k => lv_null hI.1 hI.2.1 hd (k lsR hL)) h
theorem e_iload_n {k : Fin 4} {x : Int} (hd : zD mt.1.2 pc (.iload_n k) 1 pc') (hk : k.val < mt.2.1) (hl : z_nth ls k.val = vi x) (h : zE X mt pc' ls (vi x :: st) σ Q) : zE X mt pc ls st σ Q := by
  obtain ⟨hd, rfl⟩ := hd
  exact z_pure (fun lsR hI _ _ _ hL kk => lv_iload_n hI.1 hI.2.1 hd rfl (z_L_at hL hk hl rfl) (kk lsR hL)) h
theorem e_iload {k : Nat} {x : Int} (hd : zD mt.1.2 pc (.iload k) 2 pc') (hk : k < mt.2.1) (hl : z_nth ls k = vi x) (h : zE X mt pc' ls (vi x :: st) σ Q) : zE X mt pc ls st σ Q := by
  obtain ⟨hd, rfl⟩ := hd
  exact z_pure (fun lsR hI _ _ _ hL kk => lv_iload hI.1 hI.2.1 hd (z_L_at hL hk hl rfl) (kk lsR hL)) h
theorem e_lload_n {k : Fin 4} {x : Int64} (hd : zD mt.1.2 pc (.lload_n k) 1 pc') (hk : k.val < mt.2.1) (hl : z_nth ls k.val = .long x) (h : zE X mt pc' ls (.long x :: st) σ Q) : zE X mt pc ls st σ Q := by
  obtain ⟨hd, rfl⟩ := hd
  exact z_pure (fun lsR hI _ _ _ hL kk => lv_lload_n hI.1 hI.2.1 hd rfl (z_L_at hL hk hl rfl) (kk lsR hL)) h
theorem e_aload_n {k : Fin 4} {x : Nat} (hd : zD mt.1.2 pc (.aload_n k) 1 pc') (hk : k.val < mt.2.1) (hl : z_nth ls k.val = .ref x) (h : zE X mt pc' ls (.ref x :: st) σ Q) : zE X mt pc ls st σ Q := by
  obtain ⟨hd, rfl⟩ := hd
  exact z_pure (fun lsR hI _ _ _ hL kk => lv_aload_n hI.1 hI.2.1 hd rfl (z_L_at hL hk hl rfl) (kk lsR hL)) h
theorem e_aload {k : Nat} {x : Nat} (hd : zD mt.1.2 pc (.aload k) 2 pc') (hk : k < mt.2.1) (hl : z_nth ls k = .ref x) (h : zE X mt pc' ls (.ref x :: st) σ Q) : zE X mt pc ls st σ Q := by
  obtain ⟨hd, rfl⟩ := hd
  exact z_pure (fun lsR hI _ _ _ hL kk => lv_aload hI.1 hI.2.1 hd (z_L_at hL hk hl rfl) (kk lsR hL)) h
theorem e_aload_nN {k : Fin 4} (hd : zD mt.1.2 pc (.aload_n k) 1 pc') (hk : k.val < mt.2.1) (hl : z_nth ls k.val = .null) (h : zE X mt pc' ls (.null :: st) σ Q) : zE X mt pc ls st σ Q := by
  obtain ⟨hd, rfl⟩ := hd
  exact z_pure (fun lsR hI _ _ _ hL kk => lv_aload_nN hI.1 hI.2.1 hd rfl (z_L_at hL hk hl rfl) (kk lsR hL)) h
theorem e_aloadN {k : Nat} (hd : zD mt.1.2 pc (.aload k) 2 pc') (hk : k < mt.2.1) (hl : z_nth ls k = .null) (h : zE X mt pc' ls (.null :: st) σ Q) : zE X mt pc ls st σ Q := by
  obtain ⟨hd, rfl⟩ := hd
  exact z_pure (fun lsR hI _ _ _ hL kk => lv_aloadN hI.1 hI.2.1 hd (z_L_at hL hk hl rfl) (kk lsR hL)) h
theorem e_istore_n {k : Fin 4} {x : Int} (hd : zD mt.1.2 pc (.istore_n k) 1 pc') (hk : k.val < mt.2.1) (hok : z_okset ls k.val = true) (hs : z_set ls k.val (vi x) = ls') (h : zE X mt pc' ls' st σ Q) : zE X mt pc ls (vi x :: st) σ Q := by
  obtain ⟨hd, rfl⟩ := hd
  subst hs
  exact z_pure (fun lsR hI _ _ _ hL kk => lv_istore_n hI.1 hI.2.1 hd rfl hL hk rfl (fun lsR' h' => kk lsR' (z_L_set (v := vi x) hok h'))) h
theorem e_istore {k : Nat} {x : Int} (hd : zD mt.1.2 pc (.istore k) 2 pc') (hk : k < mt.2.1) (hok : z_okset ls k = true) (hs : z_set ls k (vi x) = ls') (h : zE X mt pc' ls' st σ Q) : zE X mt pc ls (vi x :: st) σ Q := by
  obtain ⟨hd, rfl⟩ := hd
  subst hs
  exact z_pure (fun lsR hI _ _ _ hL kk => lv_istore hI.1 hI.2.1 hd hL hk rfl (fun lsR' h' => kk lsR' (z_L_set (v := vi x) hok h'))) h
theorem e_astore_n {k : Fin 4} {x : Nat} (hd : zD mt.1.2 pc (.astore_n k) 1 pc') (hk : k.val < mt.2.1) (hok : z_okset ls k.val = true) (hs : z_set ls k.val (.ref x) = ls') (h : zE X mt pc' ls' st σ Q) : zE X mt pc ls (.ref x :: st) σ Q := by
  obtain ⟨hd, rfl⟩ := hd
  subst hs
  exact z_pure (fun lsR hI _ _ _ hL kk => lv_astore_n hI.1 hI.2.1 hd rfl hL hk rfl (fun lsR' h' => kk lsR' (z_L_set (v := .ref x) hok h'))) h
theorem e_astore {k : Nat} {x : Nat} (hd : zD mt.1.2 pc (.astore k) 2 pc') (hk : k < mt.2.1) (hok : z_okset ls k = true) (hs : z_set ls k (.ref x) = ls') (h : zE X mt pc' ls' st σ Q) : zE X mt pc ls (.ref x :: st) σ Q := by
  obtain ⟨hd, rfl⟩ := hd
  subst hs
  exact z_pure (fun lsR hI _ _ _ hL kk => lv_astore hI.1 hI.2.1 hd hL hk rfl (fun lsR' h' => kk lsR' (z_L_set (v := .ref x) hok h'))) h
theorem e_astore_nN {k : Fin 4} (hd : zD mt.1.2 pc (.astore_n k) 1 pc') (hk : k.val < mt.2.1) (hok : z_okset ls k.val = true) (hs : z_set ls k.val .null = ls') (h : zE X mt pc' ls' st σ Q) : zE X mt pc ls (.null :: st) σ Q := by
  obtain ⟨hd, rfl⟩ := hd
  subst hs
  exact z_pure (fun lsR hI _ _ _ hL kk => lv_astore_nN hI.1 hI.2.1 hd rfl hL hk rfl (fun lsR' h' => kk lsR' (z_L_set (v := .null) hok h'))) h
theorem e_astoreN {k : Nat} (hd : zD mt.1.2 pc (.astore k) 2 pc') (hk : k < mt.2.1) (hok : z_okset ls k = true) (hs : z_set ls k .null = ls') (h : zE X mt pc' ls' st σ Q) : zE X mt pc ls (.null :: st) σ Q := by
  obtain ⟨hd, rfl⟩ := hd
  subst hs
  exact z_pure (fun lsR hI _ _ _ hL kk => lv_astoreN hI.1 hI.2.1 hd hL hk rfl (fun lsR' h' => kk lsR' (z_L_set (v := .null) hok h'))) h
theorem e_iinc {k : Nat} {n x : Int} (hd : zD mt.1.2 pc (.iinc k n) 3 pc') (hk : k < mt.2.1) (hok : z_okset ls k = true) (hl : z_nth ls k = vi x) (hs : z_set ls k (vi (x + n)) = ls') (h : zE X mt pc' ls' st σ Q) : zE X mt pc ls st σ Q := by
  obtain ⟨hd, rfl⟩ := hd
  subst hs
  refine z_pure (@fun ω p l e R s m args below meth c H locs cells slots Qf lsR hI _ _ _ hL kk => ?_) h
  obtain ⟨j, hj⟩ := List.getElem?_of_mem (z_al_mem (ω := ω) (q := (k, vi x)) (nL := mt.2.1) (ls := ls) |>.mpr ⟨hk, by rw [show z_nth ls (k, vi x).1 = vi x from hl]; rfl, by rw [show z_nth ls (k, vi x).1 = vi x from hl]; rfl⟩)
  exact lv_iinc (v := Int32.ofInt (x + n)) hI.1 hI.2.1 hd hL hj (by rw [Int32.ofInt_add]) hk rfl (fun lsR' h' => kk lsR' (z_L_set (v := vi (x + n)) hok h'))
theorem e_iadd {a b : Int} (hd : zD mt.1.2 pc .iadd 1 pc') (h : zE X mt pc' ls (vi (a + b) :: st) σ Q) : zE X mt pc ls (vi b :: vi a :: st) σ Q := by
  obtain ⟨hd, rfl⟩ := hd
  exact z_pure (fun lsR hI _ _ _ hL k => lv_iadd hI.1 hI.2.1 hd (by rw [← Int32.ofInt_add]; exact k lsR hL)) h
theorem e_isub {a b : Int} (hd : zD mt.1.2 pc .isub 1 pc') (h : zE X mt pc' ls (vi (a - b) :: st) σ Q) : zE X mt pc ls (vi b :: vi a :: st) σ Q := by
  obtain ⟨hd, rfl⟩ := hd
  exact z_pure (fun lsR hI _ _ _ hL k => lv_isub hI.1 hI.2.1 hd (by rw [← Int32.ofInt_sub]; exact k lsR hL)) h
theorem e_imul {a b : Int} (hd : zD mt.1.2 pc .imul 1 pc') (h : zE X mt pc' ls (vi (a * b) :: st) σ Q) : zE X mt pc ls (vi b :: vi a :: st) σ Q := by
  obtain ⟨hd, rfl⟩ := hd
  exact z_pure (fun lsR hI _ _ _ hL k => lv_imul hI.1 hI.2.1 hd (by rw [← Int32.ofInt_mul]; exact k lsR hL)) h
theorem e_ineg {a : Int} (hd : zD mt.1.2 pc .ineg 1 pc') (h : zE X mt pc' ls (vi (-a) :: st) σ Q) : zE X mt pc ls (vi a :: st) σ Q := by
  obtain ⟨hd, rfl⟩ := hd
  exact z_pure (fun lsR hI _ _ _ hL k => lv_ineg hI.1 hI.2.1 hd (by rw [← Int32.ofInt_neg]; exact k lsR hL)) h
theorem e_idiv {a b : Int} (hd : zD mt.1.2 pc .idiv 1 pc') (ha : 0 ≤ a ∧ a ≤ 2147483647) (hb : 0 < b ∧ b ≤ 2147483647) (h : zE X mt pc' ls (vi (a / b) :: st) σ Q) : zE X mt pc ls (vi b :: vi a :: st) σ Q := by
  obtain ⟨hd, rfl⟩ := hd
  have e : Int32.ofInt a / Int32.ofInt b = Int32.ofInt (a / b) := by
    apply Int32.toInt_inj.mp
    have h1 : 0 ≤ a / b := Int.ediv_nonneg ha.1 (by omega)
    have h2 : a / b ≤ a := Int.ediv_le_self b ha.1
    rw [Int32.toInt_div, z32 (by omega) ha.2, z32 (by omega) hb.2, z32 (by omega) (by omega), Int.tdiv_eq_ediv_of_nonneg ha.1]
    exact Int.bmod_eq_of_le (by omega) (by omega)
  exact z_pure (fun lsR hI _ _ _ hL k => lv_idiv hI.1 hI.2.1 hd (fun h0 => by rw [show (0 : Int32) = Int32.ofInt 0 from rfl, zr_eq (by constructor <;> omega) (by constructor <;> omega)] at h0; omega) (by rw [e]; exact k lsR hL)) h
theorem e_irem {a b : Int} (hd : zD mt.1.2 pc .irem 1 pc') (ha : 0 ≤ a ∧ a ≤ 2147483647) (hb : 0 < b ∧ b ≤ 2147483647) (h : zE X mt pc' ls (vi (a % b) :: st) σ Q) : zE X mt pc ls (vi b :: vi a :: st) σ Q := by
  obtain ⟨hd, rfl⟩ := hd
  have e : Int32.ofInt a - Int32.ofInt a / Int32.ofInt b * Int32.ofInt b = Int32.ofInt (a % b) := by
    apply Int32.toInt_inj.mp
    have h1 : 0 ≤ a % b := Int.emod_nonneg a (by omega)
    have h2 : a % b < b := Int.emod_lt_of_pos a hb.1
    rw [rem_toInt, z32 (by omega) ha.2, z32 (by omega) hb.2, z32 (by omega) (by omega), Int.tmod_eq_emod_of_nonneg ha.1]
  exact z_pure (fun lsR hI _ _ _ hL k => lv_irem hI.1 hI.2.1 hd (fun h0 => by rw [show (0 : Int32) = Int32.ofInt 0 from rfl, zr_eq (by constructor <;> omega) (by constructor <;> omega)] at h0; omega) (by rw [e]; exact k lsR hL)) h
theorem e_iand {a b : Int} (hd : zD mt.1.2 pc .iand 1 pc') {v : Int} (hv : Int32.ofInt a &&& Int32.ofInt b = Int32.ofInt v) (h : zE X mt pc' ls (vi v :: st) σ Q) : zE X mt pc ls (vi b :: vi a :: st) σ Q := by
  obtain ⟨hd, rfl⟩ := hd
  exact z_pure (fun lsR hI _ _ _ hL k => lv_iand hI.1 hI.2.1 hd (by rw [hv]; exact k lsR hL)) h
theorem e_ior {a b : Int} (hd : zD mt.1.2 pc .ior 1 pc') {v : Int} (hv : Int32.ofInt a ||| Int32.ofInt b = Int32.ofInt v) (h : zE X mt pc' ls (vi v :: st) σ Q) : zE X mt pc ls (vi b :: vi a :: st) σ Q := by
  obtain ⟨hd, rfl⟩ := hd
  exact z_pure (fun lsR hI _ _ _ hL k => lv_ior hI.1 hI.2.1 hd (by rw [hv]; exact k lsR hL)) h
theorem e_ixor {a b : Int} (hd : zD mt.1.2 pc .ixor 1 pc') {v : Int} (hv : Int32.ofInt a ^^^ Int32.ofInt b = Int32.ofInt v) (h : zE X mt pc' ls (vi v :: st) σ Q) : zE X mt pc ls (vi b :: vi a :: st) σ Q := by
  obtain ⟨hd, rfl⟩ := hd
  exact z_pure (fun lsR hI _ _ _ hL k => lv_ixor hI.1 hI.2.1 hd (by rw [hv]; exact k lsR hL)) h
theorem e_ishl {a b : Int} (hd : zD mt.1.2 pc .ishl 1 pc') {v : Int} (hv : Int32.ofInt a <<< (Int32.ofInt b &&& 31) = Int32.ofInt v) (h : zE X mt pc' ls (vi v :: st) σ Q) : zE X mt pc ls (vi b :: vi a :: st) σ Q := by
  obtain ⟨hd, rfl⟩ := hd
  exact z_pure (fun lsR hI _ _ _ hL k => lv_ishl hI.1 hI.2.1 hd (by rw [hv]; exact k lsR hL)) h
theorem e_ishr {a b : Int} (hd : zD mt.1.2 pc .ishr 1 pc') {v : Int} (hv : Int32.ofInt a >>> (Int32.ofInt b &&& 31) = Int32.ofInt v) (h : zE X mt pc' ls (vi v :: st) σ Q) : zE X mt pc ls (vi b :: vi a :: st) σ Q := by
  obtain ⟨hd, rfl⟩ := hd
  exact z_pure (fun lsR hI _ _ _ hL k => lv_ishr hI.1 hI.2.1 hd (by rw [hv]; exact k lsR hL)) h
theorem e_iushr {a b : Int} (hd : zD mt.1.2 pc .iushr 1 pc') {v : Int} (hv : ((Int32.ofInt a).toUInt32 >>> ((Int32.ofInt b).toUInt32 &&& Int32.toUInt32 31)).toInt32 = Int32.ofInt v) (h : zE X mt pc' ls (vi v :: st) σ Q) : zE X mt pc ls (vi b :: vi a :: st) σ Q := by
  obtain ⟨hd, rfl⟩ := hd
  exact z_pure (fun lsR hI _ _ _ hL k => lv_iushr hI.1 hI.2.1 hd hv (k lsR hL)) h
theorem e_i2b {a v : Int} (hd : zD mt.1.2 pc .i2b 1 pc') (hv : (Int32.ofInt a).toInt8.toInt32 = Int32.ofInt v) (h : zE X mt pc' ls (vi v :: st) σ Q) : zE X mt pc ls (vi a :: st) σ Q := by
  obtain ⟨hd, rfl⟩ := hd
  exact z_pure (fun lsR hI _ _ _ hL k => lv_i2b hI.1 hI.2.1 hd hv (k lsR hL)) h
theorem e_i2s {a v : Int} (hd : zD mt.1.2 pc .i2s 1 pc') (hv : (Int32.ofInt a).toInt16.toInt32 = Int32.ofInt v) (h : zE X mt pc' ls (vi v :: st) σ Q) : zE X mt pc ls (vi a :: st) σ Q := by
  obtain ⟨hd, rfl⟩ := hd
  exact z_pure (fun lsR hI _ _ _ hL k => lv_i2s hI.1 hI.2.1 hd hv (k lsR hL)) h
theorem e_i2c {a v : Int} (hd : zD mt.1.2 pc .i2c 1 pc') (hv : ((Int32.ofInt a).toUInt32 % 65536).toInt32 = Int32.ofInt v) (h : zE X mt pc' ls (vi v :: st) σ Q) : zE X mt pc ls (vi a :: st) σ Q := by
  obtain ⟨hd, rfl⟩ := hd
  exact z_pure (fun lsR hI _ _ _ hL k => lv_i2c hI.1 hI.2.1 hd hv (k lsR hL)) h
theorem e_i2l {a : Int} {v : Int64} (hd : zD mt.1.2 pc .i2l 1 pc') (hv : (Int32.ofInt a).toInt64 = v) (h : zE X mt pc' ls (.long v :: st) σ Q) : zE X mt pc ls (vi a :: st) σ Q := by
  obtain ⟨hd, rfl⟩ := hd
  exact z_pure (fun lsR hI _ _ _ hL k => lv_i2l hI.1 hI.2.1 hd hv (k lsR hL)) h
theorem e_l2i {a : Int64} {v : Int} (hd : zD mt.1.2 pc .l2i 1 pc') (hv : a.toInt32 = Int32.ofInt v) (h : zE X mt pc' ls (vi v :: st) σ Q) : zE X mt pc ls (.long a :: st) σ Q := by
  obtain ⟨hd, rfl⟩ := hd
  exact z_pure (fun lsR hI _ _ _ hL k => lv_l2i hI.1 hI.2.1 hd hv (k lsR hL)) h
theorem e_lushr {a v : Int64} {b : Int} (hd : zD mt.1.2 pc .lushr 1 pc') (hv : (a.toUInt64 >>> ((Int32.ofInt b).toInt64.toUInt64 &&& Int64.toUInt64 63)).toInt64 = v) (h : zE X mt pc' ls (.long v :: st) σ Q) : zE X mt pc ls (vi b :: .long a :: st) σ Q := by
  obtain ⟨hd, rfl⟩ := hd
  exact z_pure (fun lsR hI _ _ _ hL k => lv_lushr hI.1 hI.2.1 hd hv (k lsR hL)) h
theorem e_lshr {a v : Int64} {b : Int} (hd : zD mt.1.2 pc .lshr 1 pc') (hv : a >>> ((Int32.ofInt b).toInt64 &&& 63) = v) (h : zE X mt pc' ls (.long v :: st) σ Q) : zE X mt pc ls (vi b :: .long a :: st) σ Q := by
  obtain ⟨hd, rfl⟩ := hd
  exact z_pure (fun lsR hI _ _ _ hL k => lv_lshr hI.1 hI.2.1 hd hv (k lsR hL)) h
theorem e_lshl {a v : Int64} {b : Int} (hd : zD mt.1.2 pc .lshl 1 pc') (hv : a <<< ((Int32.ofInt b).toInt64 &&& 63) = v) (h : zE X mt pc' ls (.long v :: st) σ Q) : zE X mt pc ls (vi b :: .long a :: st) σ Q := by
  obtain ⟨hd, rfl⟩ := hd
  exact z_pure (fun lsR hI _ _ _ hL k => lv_lshl hI.1 hI.2.1 hd hv (k lsR hL)) h
theorem e_land {a b : Int64} (hd : zD mt.1.2 pc .land 1 pc') (h : zE X mt pc' ls (.long (a &&& b) :: st) σ Q) : zE X mt pc ls (.long b :: .long a :: st) σ Q := by
  obtain ⟨hd, rfl⟩ := hd
  exact z_pure (fun lsR hI _ _ _ hL k => lv_land hI.1 hI.2.1 hd (k lsR hL)) h
theorem e_lor {a b : Int64} (hd : zD mt.1.2 pc .lor 1 pc') (h : zE X mt pc' ls (.long (a ||| b) :: st) σ Q) : zE X mt pc ls (.long b :: .long a :: st) σ Q := by
  obtain ⟨hd, rfl⟩ := hd
  exact z_pure (fun lsR hI _ _ _ hL k => lv_lor hI.1 hI.2.1 hd (k lsR hL)) h
theorem e_dup {v : Value} (hd : zD mt.1.2 pc .dup 1 pc') (hv : v.category = 1) (h : zE X mt pc' ls (v :: v :: st) σ Q) : zE X mt pc ls (v :: st) σ Q := by
  obtain ⟨hd, rfl⟩ := hd
  exact z_pure (fun lsR hI _ _ _ hL k => lv_dup hI.1 hI.2.1 hd ((z_e_cat _ v).trans hv) (k lsR hL)) h
theorem e_dup2 {v w : Value} (hd : zD mt.1.2 pc .dup2 1 pc') (hv : v.category = 1) (hw : w.category = 1) (h : zE X mt pc' ls (v :: w :: v :: w :: st) σ Q) : zE X mt pc ls (v :: w :: st) σ Q := by
  obtain ⟨hd, rfl⟩ := hd
  exact z_pure (fun lsR hI _ _ _ hL k => lv_dup2_11 hI.1 hI.2.1 hd ((z_e_cat _ v).trans hv) ((z_e_cat _ w).trans hw) (k lsR hL)) h
theorem e_pop {v : Value} (hd : zD mt.1.2 pc .pop 1 pc') (hv : v.category = 1) (h : zE X mt pc' ls st σ Q) : zE X mt pc ls (v :: st) σ Q := by
  obtain ⟨hd, rfl⟩ := hd
  exact z_pure (fun lsR hI _ _ _ hL k => lv_pop hI.1 hI.2.1 hd ((z_e_cat _ v).trans hv) (k lsR hL)) h
theorem e_goto {off : Int} (hd : zJ mt.1.2 pc (.goto off) off pc' tgt) (h : zE X mt tgt ls st σ Q) : zE X mt pc ls st σ Q :=
  z_pure (fun lsR hI _ _ _ hL k => lv_goto hI.1 hI.2.1 hd.1 hd.2.2 (k lsR hL)) h
theorem e_ifnull {a : Nat} {off : Int} (hd : zJ mt.1.2 pc (.ifnull off) off pc' tgt) (h : zE X mt pc' ls st σ Q) : zE X mt pc ls (.ref a :: st) σ Q := by
  obtain ⟨hd, rfl, -⟩ := hd
  exact z_pure (fun lsR hI _ _ _ hL k => lv_ifnull hI.1 hI.2.1 hd (k lsR hL)) h
theorem e_ifnullN {off : Int} (hd : zJ mt.1.2 pc (.ifnull off) off pc' tgt) (h : zE X mt tgt ls st σ Q) : zE X mt pc ls (.null :: st) σ Q :=
  z_pure (fun lsR hI _ _ _ hL k => lv_ifnullN hI.1 hI.2.1 hd.1 hd.2.2 (k lsR hL)) h
theorem e_ifnonnull {a : Nat} {off : Int} (hd : zJ mt.1.2 pc (.ifnonnull off) off pc' tgt) (h : zE X mt tgt ls st σ Q) : zE X mt pc ls (.ref a :: st) σ Q :=
  z_pure (fun lsR hI _ _ _ hL k => lv_ifnonnull hI.1 hI.2.1 hd.1 hd.2.2 (k lsR hL)) h
theorem e_ifnonnullN {off : Int} (hd : zJ mt.1.2 pc (.ifnonnull off) off pc' tgt) (h : zE X mt pc' ls st σ Q) : zE X mt pc ls (.null :: st) σ Q := by
  obtain ⟨hd, rfl, -⟩ := hd
  exact z_pure (fun lsR hI _ _ _ hL k => lv_ifnonnullN hI.1 hI.2.1 hd (k lsR hL)) h
theorem e_icmp_eq {a b : Int} {off : Int} (hd : zJ mt.1.2 pc (.if_icmp .eq off) off pc' tgt) (ha : zr a) (hb : zr b) (ht : a = b → zE X mt tgt ls st σ Q) (hf : ¬ (a = b) → zE X mt pc' ls st σ Q) : zE X mt pc ls (vi b :: vi a :: st) σ Q := by
  obtain ⟨hd, rfl, hj⟩ := hd
  by_cases hc : a = b
  · exact z_pure (fun lsR hI _ _ _ hL k => lv_icmp_eq hI.1 hI.2.1 hd hj (fun _ => k lsR hL) (fun h => absurd ((zr_eq ha hb).mpr hc) h)) (ht hc)
  · exact z_pure (fun lsR hI _ _ _ hL k => lv_icmp_eq hI.1 hI.2.1 hd hj (fun h => absurd ((zr_eq ha hb).mp h) hc) (fun _ => k lsR hL)) (hf hc)
theorem e_if_eq {a : Int} {off : Int} (hd : zJ mt.1.2 pc (.ifCond .eq off) off pc' tgt) (ha : zr a) (ht : a = 0 → zE X mt tgt ls st σ Q) (hf : ¬ (a = 0) → zE X mt pc' ls st σ Q) : zE X mt pc ls (vi a :: st) σ Q := by
  obtain ⟨hd, rfl, hj⟩ := hd
  have hb : zr 0 := by constructor <;> omega
  by_cases hc : a = 0
  · exact z_pure (fun lsR hI _ _ _ hL k => lv_if_eq hI.1 hI.2.1 hd hj (fun _ => k lsR hL) (fun h => absurd ((zr_eq ha hb).mpr hc) h)) (ht hc)
  · exact z_pure (fun lsR hI _ _ _ hL k => lv_if_eq hI.1 hI.2.1 hd hj (fun h => absurd ((zr_eq ha hb).mp h) hc) (fun _ => k lsR hL)) (hf hc)
theorem e_icmp_ne {a b : Int} {off : Int} (hd : zJ mt.1.2 pc (.if_icmp .ne off) off pc' tgt) (ha : zr a) (hb : zr b) (ht : ¬ a = b → zE X mt tgt ls st σ Q) (hf : a = b → zE X mt pc' ls st σ Q) : zE X mt pc ls (vi b :: vi a :: st) σ Q := by
  obtain ⟨hd, rfl, hj⟩ := hd
  by_cases hc : ¬ a = b
  · exact z_pure (fun lsR hI _ _ _ hL k => lv_icmp_ne hI.1 hI.2.1 hd hj (fun _ => k lsR hL) (fun h => absurd h ((not_congr (zr_eq ha hb)).mpr hc))) (ht hc)
  · exact z_pure (fun lsR hI _ _ _ hL k => lv_icmp_ne hI.1 hI.2.1 hd hj (fun h => absurd ((not_congr (zr_eq ha hb)).mp h) hc) (fun _ => k lsR hL)) (hf (Classical.not_not.mp hc))
theorem e_if_ne {a : Int} {off : Int} (hd : zJ mt.1.2 pc (.ifCond .ne off) off pc' tgt) (ha : zr a) (ht : ¬ a = 0 → zE X mt tgt ls st σ Q) (hf : a = 0 → zE X mt pc' ls st σ Q) : zE X mt pc ls (vi a :: st) σ Q := by
  obtain ⟨hd, rfl, hj⟩ := hd
  have hb : zr 0 := by constructor <;> omega
  by_cases hc : ¬ a = 0
  · exact z_pure (fun lsR hI _ _ _ hL k => lv_if_ne hI.1 hI.2.1 hd hj (fun _ => k lsR hL) (fun h => absurd h ((not_congr (zr_eq ha hb)).mpr hc))) (ht hc)
  · exact z_pure (fun lsR hI _ _ _ hL k => lv_if_ne hI.1 hI.2.1 hd hj (fun h => absurd ((not_congr (zr_eq ha hb)).mp h) hc) (fun _ => k lsR hL)) (hf (Classical.not_not.mp hc))
theorem e_icmp_lt {a b : Int} {off : Int} (hd : zJ mt.1.2 pc (.if_icmp .lt off) off pc' tgt) (ha : zr a) (hb : zr b) (ht : a < b → zE X mt tgt ls st σ Q) (hf : ¬ (a < b) → zE X mt pc' ls st σ Q) : zE X mt pc ls (vi b :: vi a :: st) σ Q := by
  obtain ⟨hd, rfl, hj⟩ := hd
  by_cases hc : a < b
  · exact z_pure (fun lsR hI _ _ _ hL k => lv_icmp_lt hI.1 hI.2.1 hd hj (fun _ => k lsR hL) (fun h => absurd ((zr_lt ha hb).mpr hc) h)) (ht hc)
  · exact z_pure (fun lsR hI _ _ _ hL k => lv_icmp_lt hI.1 hI.2.1 hd hj (fun h => absurd ((zr_lt ha hb).mp h) hc) (fun _ => k lsR hL)) (hf hc)
theorem e_if_lt {a : Int} {off : Int} (hd : zJ mt.1.2 pc (.ifCond .lt off) off pc' tgt) (ha : zr a) (ht : a < 0 → zE X mt tgt ls st σ Q) (hf : ¬ (a < 0) → zE X mt pc' ls st σ Q) : zE X mt pc ls (vi a :: st) σ Q := by
  obtain ⟨hd, rfl, hj⟩ := hd
  have hb : zr 0 := by constructor <;> omega
  by_cases hc : a < 0
  · exact z_pure (fun lsR hI _ _ _ hL k => lv_if_lt hI.1 hI.2.1 hd hj (fun _ => k lsR hL) (fun h => absurd ((zr_lt ha hb).mpr hc) h)) (ht hc)
  · exact z_pure (fun lsR hI _ _ _ hL k => lv_if_lt hI.1 hI.2.1 hd hj (fun h => absurd ((zr_lt ha hb).mp h) hc) (fun _ => k lsR hL)) (hf hc)
theorem e_icmp_ge {a b : Int} {off : Int} (hd : zJ mt.1.2 pc (.if_icmp .ge off) off pc' tgt) (ha : zr a) (hb : zr b) (ht : b ≤ a → zE X mt tgt ls st σ Q) (hf : ¬ (b ≤ a) → zE X mt pc' ls st σ Q) : zE X mt pc ls (vi b :: vi a :: st) σ Q := by
  obtain ⟨hd, rfl, hj⟩ := hd
  by_cases hc : b ≤ a
  · exact z_pure (fun lsR hI _ _ _ hL k => lv_icmp_ge hI.1 hI.2.1 hd hj (fun _ => k lsR hL) (fun h => absurd ((zr_le hb ha).mpr hc) h)) (ht hc)
  · exact z_pure (fun lsR hI _ _ _ hL k => lv_icmp_ge hI.1 hI.2.1 hd hj (fun h => absurd ((zr_le hb ha).mp h) hc) (fun _ => k lsR hL)) (hf hc)
theorem e_if_ge {a : Int} {off : Int} (hd : zJ mt.1.2 pc (.ifCond .ge off) off pc' tgt) (ha : zr a) (ht : 0 ≤ a → zE X mt tgt ls st σ Q) (hf : ¬ (0 ≤ a) → zE X mt pc' ls st σ Q) : zE X mt pc ls (vi a :: st) σ Q := by
  obtain ⟨hd, rfl, hj⟩ := hd
  have hb : zr 0 := by constructor <;> omega
  by_cases hc : 0 ≤ a
  · exact z_pure (fun lsR hI _ _ _ hL k => lv_if_ge hI.1 hI.2.1 hd hj (fun _ => k lsR hL) (fun h => absurd ((zr_le hb ha).mpr hc) h)) (ht hc)
  · exact z_pure (fun lsR hI _ _ _ hL k => lv_if_ge hI.1 hI.2.1 hd hj (fun h => absurd ((zr_le hb ha).mp h) hc) (fun _ => k lsR hL)) (hf hc)
theorem e_icmp_gt {a b : Int} {off : Int} (hd : zJ mt.1.2 pc (.if_icmp .gt off) off pc' tgt) (ha : zr a) (hb : zr b) (ht : b < a → zE X mt tgt ls st σ Q) (hf : ¬ (b < a) → zE X mt pc' ls st σ Q) : zE X mt pc ls (vi b :: vi a :: st) σ Q := by
  obtain ⟨hd, rfl, hj⟩ := hd
  by_cases hc : b < a
  · exact z_pure (fun lsR hI _ _ _ hL k => lv_icmp_gt hI.1 hI.2.1 hd hj (fun _ => k lsR hL) (fun h => absurd ((zr_lt hb ha).mpr hc) h)) (ht hc)
  · exact z_pure (fun lsR hI _ _ _ hL k => lv_icmp_gt hI.1 hI.2.1 hd hj (fun h => absurd ((zr_lt hb ha).mp h) hc) (fun _ => k lsR hL)) (hf hc)
theorem e_if_gt {a : Int} {off : Int} (hd : zJ mt.1.2 pc (.ifCond .gt off) off pc' tgt) (ha : zr a) (ht : 0 < a → zE X mt tgt ls st σ Q) (hf : ¬ (0 < a) → zE X mt pc' ls st σ Q) : zE X mt pc ls (vi a :: st) σ Q := by
  obtain ⟨hd, rfl, hj⟩ := hd
  have hb : zr 0 := by constructor <;> omega
  by_cases hc : 0 < a
  · exact z_pure (fun lsR hI _ _ _ hL k => lv_if_gt hI.1 hI.2.1 hd hj (fun _ => k lsR hL) (fun h => absurd ((zr_lt hb ha).mpr hc) h)) (ht hc)
  · exact z_pure (fun lsR hI _ _ _ hL k => lv_if_gt hI.1 hI.2.1 hd hj (fun h => absurd ((zr_lt hb ha).mp h) hc) (fun _ => k lsR hL)) (hf hc)
theorem e_icmp_le {a b : Int} {off : Int} (hd : zJ mt.1.2 pc (.if_icmp .le off) off pc' tgt) (ha : zr a) (hb : zr b) (ht : a ≤ b → zE X mt tgt ls st σ Q) (hf : ¬ (a ≤ b) → zE X mt pc' ls st σ Q) : zE X mt pc ls (vi b :: vi a :: st) σ Q := by
  obtain ⟨hd, rfl, hj⟩ := hd
  by_cases hc : a ≤ b
  · exact z_pure (fun lsR hI _ _ _ hL k => lv_icmp_le hI.1 hI.2.1 hd hj (fun _ => k lsR hL) (fun h => absurd ((zr_le ha hb).mpr hc) h)) (ht hc)
  · exact z_pure (fun lsR hI _ _ _ hL k => lv_icmp_le hI.1 hI.2.1 hd hj (fun h => absurd ((zr_le ha hb).mp h) hc) (fun _ => k lsR hL)) (hf hc)
theorem e_if_le {a : Int} {off : Int} (hd : zJ mt.1.2 pc (.ifCond .le off) off pc' tgt) (ha : zr a) (ht : a ≤ 0 → zE X mt tgt ls st σ Q) (hf : ¬ (a ≤ 0) → zE X mt pc' ls st σ Q) : zE X mt pc ls (vi a :: st) σ Q := by
  obtain ⟨hd, rfl, hj⟩ := hd
  have hb : zr 0 := by constructor <;> omega
  by_cases hc : a ≤ 0
  · exact z_pure (fun lsR hI _ _ _ hL k => lv_if_le hI.1 hI.2.1 hd hj (fun _ => k lsR hL) (fun h => absurd ((zr_le ha hb).mpr hc) h)) (ht hc)
  · exact z_pure (fun lsR hI _ _ _ hL k => lv_if_le hI.1 hI.2.1 hd hj (fun h => absurd ((zr_le ha hb).mp h) hc) (fun _ => k lsR hL)) (hf hc)
theorem e_tableIn {dflt lo hi off : Int} {offs : Array Int} {len : Nat} {a : Int} (hd : decode mt.1.2 pc = .ok (.tableswitch dflt lo hi offs, len)) (ha : zr a) (h1 : lo ≤ a) (h2 : a ≤ hi) (ho : offs[(a - lo).toNat]? = some off) (hj : (pc : Int) + off = (tgt : Int)) (h : zE X mt tgt ls st σ Q) : zE X mt pc ls (vi a :: st) σ Q :=
  z_pure (fun lsR hI _ _ _ hL k => lv_tableIn hI.1 hI.2.1 hd (by rw [z32 ha.1 ha.2]; omega) (by rw [z32 ha.1 ha.2]; omega) (by rw [z32 ha.1 ha.2]; exact ho) hj (k lsR hL)) h
theorem e_tableOut {dflt lo hi : Int} {offs : Array Int} {len : Nat} {a : Int} (hd : decode mt.1.2 pc = .ok (.tableswitch dflt lo hi offs, len)) (ha : zr a) (h1 : a < lo ∨ hi < a) (hj : (pc : Int) + dflt = (tgt : Int)) (h : zE X mt tgt ls st σ Q) : zE X mt pc ls (vi a :: st) σ Q :=
  z_pure (fun lsR hI _ _ _ hL k => lv_tableOut hI.1 hI.2.1 hd (by rw [z32 ha.1 ha.2]; exact h1) hj (k lsR hL)) h
theorem e_lookup {dflt off : Int} {ps : Array (Int × Int)} {len : Nat} {a : Int} (hd : decode mt.1.2 pc = .ok (.lookupswitch dflt ps, len)) (ha : zr a) (hp : (ps.toList.zip (ps.toList.drop 1)).all (fun (a, next) => a.1 < next.1) = true) (ho : Op.lookupswitch.offset ps.toList dflt a = off) (hj : (pc : Int) + off = (tgt : Int)) (h : zE X mt tgt ls st σ Q) : zE X mt pc ls (vi a :: st) σ Q :=
  z_pure (fun lsR hI _ _ _ hL k => lv_lookup hI.1 hI.2.1 hd hp (by rw [z32 ha.1 ha.2]; exact ho) hj (k lsR hL)) h
end ZR
