/-! THE LAW (printed by wip/whole/gen/g2.py): both objects stand, the cases, the loop -/
section LW0
variable {X : zX} {s : zK} {N : zN} {Q : Option Value → zS → Prop}
theorem cref_hi {a j : Nat} (h : 70 ≤ j) : cref a j = 0 := by
  have g : ∀ l : List Nat, l.length ≤ 70 → l.getD j 0 = 0 := fun l hl => by
    rw [List.getD_eq_getElem?_getD, List.getElem?_eq_none (by omega)]
    rfl
  have w : ∀ (p : Prop) [Decidable p] (x y : Nat), x = 0 → y = 0 → (if p then x else y) = 0 := fun p _ x y hx hy => by
    by_cases h : p
    · rw [if_pos h]; exact hx
    · rw [if_neg h]; exact hy
  unfold cref
  repeat (refine w _ _ _ (g _ (Nat.le_of_ble_eq_true rfl)) ?_)
  rfl
theorem cr_chk : ((List.range 40).all fun a => (List.range 70).all fun j => decide (cref a j = 0) || (z_isr (shp a) j && decide (ml L12 a j = (cref a j : Int)))) = true := by decide +kernel
theorem cr_in {a j : Nat} (h : cref a j ≠ 0) : z_isr (shp a) j = true ∧ ml L12 a j = (cref a j : Int) := by
  have ha : a < 40 := by
    by_cases q : a < 40
    · exact q
    · exact absurd (cref0 (by omega) j) h
  have hj : j < 70 := by
    by_cases q : j < 70
    · exact q
    · exact absurd (cref_hi (by omega)) h
  have h1 := List.all_eq_true.mp (List.all_eq_true.mp cr_chk a (List.mem_range.mpr ha)) j (List.mem_range.mpr hj)
  rw [Bool.or_eq_true] at h1
  rcases h1 with h1 | h1
  · exact absurd (of_decide_eq_true h1) h
  · rw [Bool.and_eq_true] at h1
    exact ⟨h1.1, of_decide_eq_true h1.2⟩
theorem z_init : zP 88 21436 L12 = zI ((88, 21436), shp) (ml L12) := by
  unfold zP zI
  congr 2
  funext a j
  by_cases h : cref a j = 0
  · rw [if_pos h]
  · rw [if_neg h]
    obtain ⟨h1, h2⟩ := cr_in h
    rw [if_pos h1, h2, rf, if_neg (by omega)]
    rfl
theorem xJ_init : xJ ((88, 21436), shp) (ml L12) 0 := by
  have c0 : ml L12 39 0 = 0 := by decide +kernel
  have c2 : ml L12 39 2 = 0 := by decide +kernel
  have c10 : ml L12 39 10 = 0 := by decide +kernel
  have c15 : ml L12 39 15 = 0 := by decide +kernel
  have c26 : ml L12 39 26 = 0 := by decide +kernel
  have c29 : ml L12 39 29 = 0 := by decide +kernel
  have c31 : ml L12 39 31 = 0 := by decide +kernel
  have c36 : ml L12 39 36 = 0 := by decide +kernel
  have c49 : ml L12 39 49 = 0 := by decide +kernel
  have c50 : ml L12 39 50 = 0 := by decide +kernel
  have c58 : ml L12 39 58 = 0 := by decide +kernel
  have c63 : ml L12 39 63 = 0 := by decide +kernel
  have c19 : ml L12 3 19 = 0 := by decide +kernel
  have hR : ∀ a j, zr (ml L12 a j) := ml_r (by decide +kernel)
  have hG : zG ((88, 21436), shp) (ml L12) := ⟨hR, fun a ha j => ml_hi (n := 88) (by decide +kernel) a ha j⟩
  have r22 : ∀ j, ml L12 22 j = 0 := ml_0 (by decide +kernel)
  have r23 : ∀ j, ml L12 23 j = 0 := ml_0 (by decide +kernel)
  have r24 : ∀ j, ml L12 24 j = 0 := ml_0 (by decide +kernel)
  have r85 : ∀ j, ml L12 85 j = 0 := ml_0 (by decide +kernel)
  have r86 : ∀ j, ml L12 86 j = 0 := ml_0 (by decide +kernel)
  have r87 : ∀ j, ml L12 87 j = 0 := ml_0 (by decide +kernel)
  have r83 : ∀ j, ml L12 83 j = 0 := ml_0 (by decide +kernel)
  have hm : mI (ml L12) := by
    refine ⟨hR, ?_, fun i h0 h1 => ?_, fun i h0 h1 => ?_, fun i h0 h1 => ?_, fun i h0 h1 => ?_, fun i h0 h1 => ?_⟩
    · unfold mCnt
      omega
    all_goals exact absurd h1 (by omega)
  have hlaw : xLaw (ml L12) := by
    refine ⟨Or.inl ⟨by decide +kernel, by decide +kernel⟩, fun k h0 h1 => ?_, Or.inl (by decide +kernel)⟩
    have hk : k = 0 ∨ k = 1 ∨ k = 2 := by omega
    rcases hk with rfl | rfl | rfl
    · decide +kernel
    · decide +kernel
    · decide +kernel
  have hsh : xSh (ml L12) := by
    intro j h0 h1
    have hj : j = 0 ∨ j = 1 ∨ j = 2 ∨ j = 3 := by omega
    refine ⟨?_, ?_, ?_, by rw [r83]; omega, fun i h2 h3 => absurd h3 (by rw [r83]; omega)⟩
    all_goals (rcases hj with rfl | rfl | rfl | rfl <;> decide +kernel)
  have hro : xRo (ml L12) := ⟨by decide +kernel, fun n _ _ => ⟨by rw [r22, r86], by rw [r23, r85]⟩, fun w _ _ => by rw [r24, r87]⟩
  refine ⟨fun _ => 0, fun _ => 0, ⟨⟨Nat.le_refl _, fun a _ _ => rfl⟩, hG, hm, ⟨fun j k h0 h1 h2 => absurd h2 (by omega), fun j k h0 h1 h2 => absurd h2 (by omega)⟩, ?_, ⟨fun i h0 h1 => absurd h1 (by omega), fun i j h0 h1 => absurd h1 (by omega)⟩, ⟨fun i h0 h1 => absurd h1 (by omega), fun i j h0 h1 => absurd h1 (by omega)⟩, ⟨fun i h0 h1 => absurd h1 (by omega), fun i j h0 h1 => absurd h1 (by omega)⟩, fun i h0 h1 => absurd h1 (by omega), ⟨fun i h0 h1 => absurd h1 (by omega), fun i j h0 h1 => absurd h1 (by omega)⟩, hlaw, hsh, hro⟩, ⟨?_, fun p h0 h1 => absurd h1 (by omega), fun i h0 h1 => absurd h1 (by omega), fun n _ _ => ?_, ⟨fun i h0 h1 => absurd h1 (by omega), fun i h0 h1 => absurd h1 (by omega)⟩, fun q => absurd c49 q, fun k h0 h1 => absurd h1 (by omega)⟩, ?_, ?_⟩
  · refine ⟨by decide +kernel, by decide +kernel, by decide +kernel, by decide +kernel, by decide +kernel, by decide +kernel, by decide +kernel, by decide +kernel, ?_, ?_, ?_, ?_⟩
    · exact fun i h0 h1 => (ml_0 (by decide +kernel) i).trans (ml_0 (by decide +kernel) i).symm
    · exact fun i h0 h1 => (ml_0 (by decide +kernel) i).trans (ml_0 (by decide +kernel) i).symm
    · exact fun i h0 h1 => ⟨(ml_0 (by decide +kernel) i).trans (ml_0 (by decide +kernel) i).symm, (ml_0 (by decide +kernel) i).trans (ml_0 (by decide +kernel) i).symm, fun h2 => absurd h2 (by omega)⟩
    · exact fun i h0 h1 => absurd h1 (by omega)
  · show ml L12 3 19 = _
    omega
  · rw [r85, r86]
    omega
  · unfold bud
    rw [c10, c31, c2]
    exact Int.le_refl 0
  · exact ⟨by decide, by decide⟩
theorem xJ.B {c : Int} (h : xJ s N c) : zB0 s := by
  obtain ⟨fa, sa, hI, _⟩ := h
  exact hI.B
theorem xJ.sz {c : Int} (h : xJ s N c) : sz s c := by
  obtain ⟨fa, sa, _, _, _, hz⟩ := h
  exact hz
theorem e_icS {mt : zM} {pc pc' tgt : Nat} {ls st : List Value} {σ : zS} {a : Int} {off : Int} (hd : zJ mt.1.2 pc (.if_icmp .eq off) off pc' tgt) (h : zE X mt tgt ls st σ Q) : zE X mt pc ls (vi a :: vi a :: st) σ Q := by
  rw [show vi a = vi (Int32.ofInt a).toInt from congrArg Value.int (z_of _).symm]
  exact e_icmp_eq hd (z_tr _) (z_tr _) (fun _ => h) (fun q => absurd rfl q)
theorem lc_0 (hX : X.1 ≤ 3584) {c : Int} (h0 : 0 ≤ c) (hc : c < 512) (hi : 7 * c + 7 ≤ X.1) (hJ : xJ s N c) (next : ∀ s N, xJ s N (c + 1) → zE X m_L_law 1532 [.ref 0, .ref 3, .ref 39, vi (7 * c)] [] (zI s N) Q) : zE X m_L_law 200 [.ref 0, .ref 3, .ref 39, vi (7 * c)] [] (zI s N) Q := by
  have hXL : X.1 ≤ 2147483647 := by omega
  have hB : zB0 s := hJ.B
  refine e_aload_n q_L_law_200 (by decide) rfl ?_
  refine e_aload_n q_L_law_201 (by decide) rfl ?_
  refine e_iload_n q_L_law_202 (by decide) rfl ?_
  refine e_iconst q_L_law_203 ?_
  refine e_iadd q_L_law_204 ?_
  refine e_sld q_L_law_205 (by first | omega | assumption) (by first | omega | assumption) hXL ?_
  refine iv_X11_house q_L_law_206 lk_L_13 (by decide) (a3 hB) (Nat.le_of_ble_eq_true rfl) ?_
  refine j_house hJ hc (z_tr _) (fun r s1 N1 hB hm => ?_)
  refine e_aload_n q_L_law_209 (by decide) rfl ?_
  refine e_aload_n q_L_law_210 (by decide) rfl ?_
  refine e_iload_n q_L_law_211 (by decide) rfl ?_
  refine e_iconst q_L_law_212 ?_
  refine e_iadd q_L_law_213 ?_
  refine e_sld q_L_law_214 (by first | omega | assumption) (by first | omega | assumption) hXL ?_
  refine iv_X12_house q_L_law_215 lk_L_17 (by decide) (a39 hB) (Nat.le_of_ble_eq_true rfl) ?_
  refine hm _ (fun s2 N2 hJ2 => ?_)
  exact e_icS q_L_law_218 (next _ _ hJ2)
theorem lc_1a (hX : X.1 ≤ 3584) {c : Int} (h0 : 0 ≤ c) (hc : c < 512) (hi : 7 * c + 7 ≤ X.1) (hJ : xJ s N c) (hx : (X.2 (7 * c + 5).toNat).toInt = 0) (next : ∀ s N, xJ s N (c + 1) → zE X m_L_law 1532 [.ref 0, .ref 3, .ref 39, vi (7 * c)] [] (zI s N) Q) : zE X m_L_law 223 [.ref 0, .ref 3, .ref 39, vi (7 * c)] [] (zI s N) Q := by
  have hXL : X.1 ≤ 2147483647 := by omega
  have hB : zB0 s := hJ.B
  refine e_aload_n q_L_law_223 (by decide) rfl ?_
  refine e_aload_n q_L_law_224 (by decide) rfl ?_
  refine e_iload_n q_L_law_225 (by decide) rfl ?_
  refine e_iconst q_L_law_226 ?_
  refine e_iadd q_L_law_227 ?_
  refine e_sld q_L_law_228 (by first | omega | assumption) (by first | omega | assumption) hXL ?_
  refine e_aload_n q_L_law_229 (by decide) rfl ?_
  refine e_iload_n q_L_law_230 (by decide) rfl ?_
  refine e_iconst q_L_law_231 ?_
  refine e_iadd q_L_law_232 ?_
  refine e_sld q_L_law_233 (by first | omega | assumption) (by first | omega | assumption) hXL ?_
  refine e_aload_n q_L_law_234 (by decide) rfl ?_
  refine e_iload_n q_L_law_235 (by decide) rfl ?_
  refine e_iconst q_L_law_236 ?_
  refine e_iadd q_L_law_237 ?_
  refine e_sld q_L_law_238 (by first | omega | assumption) (by first | omega | assumption) hXL ?_
  refine e_aload_n q_L_law_239 (by decide) rfl ?_
  refine e_iload_n q_L_law_240 (by decide) rfl ?_
  refine e_iconst q_L_law_241 ?_
  refine e_iadd q_L_law_242 ?_
  refine e_sld q_L_law_243 (by first | omega | assumption) (by first | omega | assumption) hXL ?_
  refine e_aload_n q_L_law_244 (by decide) rfl ?_
  refine e_iload_n q_L_law_245 (by decide) rfl ?_
  refine e_iconst q_L_law_246 ?_
  refine e_iadd q_L_law_247 ?_
  refine e_sld q_L_law_248 (by first | omega | assumption) (by first | omega | assumption) hXL ?_
  refine e_if_eq q_L_law_249 (z_tr _) (fun c249 => ?_) (fun c249 => ?_)
  · skip
    refine e_iconst q_L_law_256 ?_
    refine e_aload_n q_L_law_257 (by decide) rfl ?_
    refine e_iload_n q_L_law_258 (by decide) rfl ?_
    refine e_bipush q_L_law_259 (by decide) ?_
    refine e_iadd q_L_law_261 ?_
    refine e_sld q_L_law_262 (by first | omega | assumption) (by first | omega | assumption) hXL ?_
    refine iv_X11_person q_L_law_263 lk_L_18 (by decide) (a3 hB) (Nat.le_of_ble_eq_true rfl) ?_
    refine j_person hJ hc (z_tr _) (z_tr _) (z_tr _) (z_tr _) (by first | exact Or.inl rfl | exact Or.inr rfl) (z_tr _) (fun r s1 N1 hB hm => ?_)
    refine e_aload_n q_L_law_266 (by decide) rfl ?_
    refine e_aload_n q_L_law_267 (by decide) rfl ?_
    refine e_iload_n q_L_law_268 (by decide) rfl ?_
    refine e_iconst q_L_law_269 ?_
    refine e_iadd q_L_law_270 ?_
    refine e_sld q_L_law_271 (by first | omega | assumption) (by first | omega | assumption) hXL ?_
    refine e_aload_n q_L_law_272 (by decide) rfl ?_
    refine e_iload_n q_L_law_273 (by decide) rfl ?_
    refine e_iconst q_L_law_274 ?_
    refine e_iadd q_L_law_275 ?_
    refine e_sld q_L_law_276 (by first | omega | assumption) (by first | omega | assumption) hXL ?_
    refine e_aload_n q_L_law_277 (by decide) rfl ?_
    refine e_iload_n q_L_law_278 (by decide) rfl ?_
    refine e_iconst q_L_law_279 ?_
    refine e_iadd q_L_law_280 ?_
    refine e_sld q_L_law_281 (by first | omega | assumption) (by first | omega | assumption) hXL ?_
    refine e_aload_n q_L_law_282 (by decide) rfl ?_
    refine e_iload_n q_L_law_283 (by decide) rfl ?_
    refine e_iconst q_L_law_284 ?_
    refine e_iadd q_L_law_285 ?_
    refine e_sld q_L_law_286 (by first | omega | assumption) (by first | omega | assumption) hXL ?_
    refine e_aload_n q_L_law_287 (by decide) rfl ?_
    refine e_iload_n q_L_law_288 (by decide) rfl ?_
    refine e_iconst q_L_law_289 ?_
    refine e_iadd q_L_law_290 ?_
    refine e_sld q_L_law_291 (by first | omega | assumption) (by first | omega | assumption) hXL ?_
    refine e_if_eq q_L_law_292 (z_tr _) (fun c292 => ?_) (fun c292 => ?_)
    · skip
      refine e_iconst q_L_law_299 ?_
      refine e_aload_n q_L_law_300 (by decide) rfl ?_
      refine e_iload_n q_L_law_301 (by decide) rfl ?_
      refine e_bipush q_L_law_302 (by decide) ?_
      refine e_iadd q_L_law_304 ?_
      refine e_sld q_L_law_305 (by first | omega | assumption) (by first | omega | assumption) hXL ?_
      refine iv_X12_person q_L_law_306 lk_L_22 (by decide) (a39 hB) (Nat.le_of_ble_eq_true rfl) ?_
      refine hm _ (fun s2 N2 hJ2 => ?_)
      exact e_icS q_L_law_309 (next _ _ hJ2)
    · skip
      exact absurd hx c292
  · skip
    exact absurd hx c249
theorem lc_1b (hX : X.1 ≤ 3584) {c : Int} (h0 : 0 ≤ c) (hc : c < 512) (hi : 7 * c + 7 ≤ X.1) (hJ : xJ s N c) (hx : ¬ (X.2 (7 * c + 5).toNat).toInt = 0) (next : ∀ s N, xJ s N (c + 1) → zE X m_L_law 1532 [.ref 0, .ref 3, .ref 39, vi (7 * c)] [] (zI s N) Q) : zE X m_L_law 223 [.ref 0, .ref 3, .ref 39, vi (7 * c)] [] (zI s N) Q := by
  have hXL : X.1 ≤ 2147483647 := by omega
  have hB : zB0 s := hJ.B
  refine e_aload_n q_L_law_223 (by decide) rfl ?_
  refine e_aload_n q_L_law_224 (by decide) rfl ?_
  refine e_iload_n q_L_law_225 (by decide) rfl ?_
  refine e_iconst q_L_law_226 ?_
  refine e_iadd q_L_law_227 ?_
  refine e_sld q_L_law_228 (by first | omega | assumption) (by first | omega | assumption) hXL ?_
  refine e_aload_n q_L_law_229 (by decide) rfl ?_
  refine e_iload_n q_L_law_230 (by decide) rfl ?_
  refine e_iconst q_L_law_231 ?_
  refine e_iadd q_L_law_232 ?_
  refine e_sld q_L_law_233 (by first | omega | assumption) (by first | omega | assumption) hXL ?_
  refine e_aload_n q_L_law_234 (by decide) rfl ?_
  refine e_iload_n q_L_law_235 (by decide) rfl ?_
  refine e_iconst q_L_law_236 ?_
  refine e_iadd q_L_law_237 ?_
  refine e_sld q_L_law_238 (by first | omega | assumption) (by first | omega | assumption) hXL ?_
  refine e_aload_n q_L_law_239 (by decide) rfl ?_
  refine e_iload_n q_L_law_240 (by decide) rfl ?_
  refine e_iconst q_L_law_241 ?_
  refine e_iadd q_L_law_242 ?_
  refine e_sld q_L_law_243 (by first | omega | assumption) (by first | omega | assumption) hXL ?_
  refine e_aload_n q_L_law_244 (by decide) rfl ?_
  refine e_iload_n q_L_law_245 (by decide) rfl ?_
  refine e_iconst q_L_law_246 ?_
  refine e_iadd q_L_law_247 ?_
  refine e_sld q_L_law_248 (by first | omega | assumption) (by first | omega | assumption) hXL ?_
  refine e_if_eq q_L_law_249 (z_tr _) (fun c249 => ?_) (fun c249 => ?_)
  · skip
    exact absurd c249 hx
  · skip
    refine e_iconst q_L_law_252 ?_
    refine e_goto q_L_law_253 ?_
    refine e_aload_n q_L_law_257 (by decide) rfl ?_
    refine e_iload_n q_L_law_258 (by decide) rfl ?_
    refine e_bipush q_L_law_259 (by decide) ?_
    refine e_iadd q_L_law_261 ?_
    refine e_sld q_L_law_262 (by first | omega | assumption) (by first | omega | assumption) hXL ?_
    refine iv_X11_person q_L_law_263 lk_L_18 (by decide) (a3 hB) (Nat.le_of_ble_eq_true rfl) ?_
    refine j_person hJ hc (z_tr _) (z_tr _) (z_tr _) (z_tr _) (by first | exact Or.inl rfl | exact Or.inr rfl) (z_tr _) (fun r s1 N1 hB hm => ?_)
    refine e_aload_n q_L_law_266 (by decide) rfl ?_
    refine e_aload_n q_L_law_267 (by decide) rfl ?_
    refine e_iload_n q_L_law_268 (by decide) rfl ?_
    refine e_iconst q_L_law_269 ?_
    refine e_iadd q_L_law_270 ?_
    refine e_sld q_L_law_271 (by first | omega | assumption) (by first | omega | assumption) hXL ?_
    refine e_aload_n q_L_law_272 (by decide) rfl ?_
    refine e_iload_n q_L_law_273 (by decide) rfl ?_
    refine e_iconst q_L_law_274 ?_
    refine e_iadd q_L_law_275 ?_
    refine e_sld q_L_law_276 (by first | omega | assumption) (by first | omega | assumption) hXL ?_
    refine e_aload_n q_L_law_277 (by decide) rfl ?_
    refine e_iload_n q_L_law_278 (by decide) rfl ?_
    refine e_iconst q_L_law_279 ?_
    refine e_iadd q_L_law_280 ?_
    refine e_sld q_L_law_281 (by first | omega | assumption) (by first | omega | assumption) hXL ?_
    refine e_aload_n q_L_law_282 (by decide) rfl ?_
    refine e_iload_n q_L_law_283 (by decide) rfl ?_
    refine e_iconst q_L_law_284 ?_
    refine e_iadd q_L_law_285 ?_
    refine e_sld q_L_law_286 (by first | omega | assumption) (by first | omega | assumption) hXL ?_
    refine e_aload_n q_L_law_287 (by decide) rfl ?_
    refine e_iload_n q_L_law_288 (by decide) rfl ?_
    refine e_iconst q_L_law_289 ?_
    refine e_iadd q_L_law_290 ?_
    refine e_sld q_L_law_291 (by first | omega | assumption) (by first | omega | assumption) hXL ?_
    refine e_if_eq q_L_law_292 (z_tr _) (fun c292 => ?_) (fun c292 => ?_)
    · skip
      exact absurd c292 hx
    · skip
      refine e_iconst q_L_law_295 ?_
      refine e_goto q_L_law_296 ?_
      refine e_aload_n q_L_law_300 (by decide) rfl ?_
      refine e_iload_n q_L_law_301 (by decide) rfl ?_
      refine e_bipush q_L_law_302 (by decide) ?_
      refine e_iadd q_L_law_304 ?_
      refine e_sld q_L_law_305 (by first | omega | assumption) (by first | omega | assumption) hXL ?_
      refine iv_X12_person q_L_law_306 lk_L_22 (by decide) (a39 hB) (Nat.le_of_ble_eq_true rfl) ?_
      refine hm _ (fun s2 N2 hJ2 => ?_)
      exact e_icS q_L_law_309 (next _ _ hJ2)
theorem lc_1 (hX : X.1 ≤ 3584) {c : Int} (h0 : 0 ≤ c) (hc : c < 512) (hi : 7 * c + 7 ≤ X.1) (hJ : xJ s N c) (next : ∀ s N, xJ s N (c + 1) → zE X m_L_law 1532 [.ref 0, .ref 3, .ref 39, vi (7 * c)] [] (zI s N) Q) : zE X m_L_law 223 [.ref 0, .ref 3, .ref 39, vi (7 * c)] [] (zI s N) Q := by
  by_cases hx : (X.2 (7 * c + 5).toNat).toInt = 0
  · exact lc_1a hX h0 hc hi hJ hx next
  · exact lc_1b hX h0 hc hi hJ hx next
theorem lc_2 (hX : X.1 ≤ 3584) {c : Int} (h0 : 0 ≤ c) (hc : c < 512) (hi : 7 * c + 7 ≤ X.1) (hJ : xJ s N c) (next : ∀ s N, xJ s N (c + 1) → zE X m_L_law 1532 [.ref 0, .ref 3, .ref 39, vi (7 * c)] [] (zI s N) Q) : zE X m_L_law 314 [.ref 0, .ref 3, .ref 39, vi (7 * c)] [] (zI s N) Q := by
  have hXL : X.1 ≤ 2147483647 := by omega
  have hB : zB0 s := hJ.B
  refine e_aload_n q_L_law_314 (by decide) rfl ?_
  refine e_aload_n q_L_law_315 (by decide) rfl ?_
  refine e_iload_n q_L_law_316 (by decide) rfl ?_
  refine e_iconst q_L_law_317 ?_
  refine e_iadd q_L_law_318 ?_
  refine e_sld q_L_law_319 (by first | omega | assumption) (by first | omega | assumption) hXL ?_
  refine e_aload_n q_L_law_320 (by decide) rfl ?_
  refine e_iload_n q_L_law_321 (by decide) rfl ?_
  refine e_iconst q_L_law_322 ?_
  refine e_iadd q_L_law_323 ?_
  refine e_sld q_L_law_324 (by first | omega | assumption) (by first | omega | assumption) hXL ?_
  refine iv_X11_told q_L_law_325 lk_L_23 (by decide) (a3 hB) (Nat.le_of_ble_eq_true rfl) ?_
  refine j_told hJ (z_tr _) (z_tr _) (fun r s1 N1 hB hm => ?_)
  refine e_aload_n q_L_law_328 (by decide) rfl ?_
  refine e_aload_n q_L_law_329 (by decide) rfl ?_
  refine e_iload_n q_L_law_330 (by decide) rfl ?_
  refine e_iconst q_L_law_331 ?_
  refine e_iadd q_L_law_332 ?_
  refine e_sld q_L_law_333 (by first | omega | assumption) (by first | omega | assumption) hXL ?_
  refine e_aload_n q_L_law_334 (by decide) rfl ?_
  refine e_iload_n q_L_law_335 (by decide) rfl ?_
  refine e_iconst q_L_law_336 ?_
  refine e_iadd q_L_law_337 ?_
  refine e_sld q_L_law_338 (by first | omega | assumption) (by first | omega | assumption) hXL ?_
  refine iv_X12_told q_L_law_339 lk_L_27 (by decide) (a39 hB) (Nat.le_of_ble_eq_true rfl) ?_
  refine hm _ (fun s2 N2 hJ2 => ?_)
  exact e_icS q_L_law_342 (next _ _ hJ2)
theorem lc_3 (hX : X.1 ≤ 3584) {c : Int} (h0 : 0 ≤ c) (hc : c < 512) (hi : 7 * c + 7 ≤ X.1) (hJ : xJ s N c) (next : ∀ s N, xJ s N (c + 1) → zE X m_L_law 1532 [.ref 0, .ref 3, .ref 39, vi (7 * c)] [] (zI s N) Q) : zE X m_L_law 347 [.ref 0, .ref 3, .ref 39, vi (7 * c)] [] (zI s N) Q := by
  have hXL : X.1 ≤ 2147483647 := by omega
  have hB : zB0 s := hJ.B
  refine e_aload_n q_L_law_347 (by decide) rfl ?_
  refine e_aload_n q_L_law_348 (by decide) rfl ?_
  refine e_iload_n q_L_law_349 (by decide) rfl ?_
  refine e_iconst q_L_law_350 ?_
  refine e_iadd q_L_law_351 ?_
  refine e_sld q_L_law_352 (by first | omega | assumption) (by first | omega | assumption) hXL ?_
  refine e_aload_n q_L_law_353 (by decide) rfl ?_
  refine e_iload_n q_L_law_354 (by decide) rfl ?_
  refine e_iconst q_L_law_355 ?_
  refine e_iadd q_L_law_356 ?_
  refine e_sld q_L_law_357 (by first | omega | assumption) (by first | omega | assumption) hXL ?_
  refine iv_X11_age q_L_law_358 lk_L_28 (by decide) (a3 hB) (Nat.le_of_ble_eq_true rfl) ?_
  refine j_age hJ (z_tr _) (z_tr _) (fun r s1 N1 hB hm => ?_)
  refine e_aload_n q_L_law_361 (by decide) rfl ?_
  refine e_aload_n q_L_law_362 (by decide) rfl ?_
  refine e_iload_n q_L_law_363 (by decide) rfl ?_
  refine e_iconst q_L_law_364 ?_
  refine e_iadd q_L_law_365 ?_
  refine e_sld q_L_law_366 (by first | omega | assumption) (by first | omega | assumption) hXL ?_
  refine e_aload_n q_L_law_367 (by decide) rfl ?_
  refine e_iload_n q_L_law_368 (by decide) rfl ?_
  refine e_iconst q_L_law_369 ?_
  refine e_iadd q_L_law_370 ?_
  refine e_sld q_L_law_371 (by first | omega | assumption) (by first | omega | assumption) hXL ?_
  refine iv_X12_age q_L_law_372 lk_L_31 (by decide) (a39 hB) (Nat.le_of_ble_eq_true rfl) ?_
  refine hm _ (fun s2 N2 hJ2 => ?_)
  exact e_icS q_L_law_375 (next _ _ hJ2)
theorem lc_4 (hX : X.1 ≤ 3584) {c : Int} (h0 : 0 ≤ c) (hc : c < 512) (hi : 7 * c + 7 ≤ X.1) (hJ : xJ s N c) (next : ∀ s N, xJ s N (c + 1) → zE X m_L_law 1532 [.ref 0, .ref 3, .ref 39, vi (7 * c)] [] (zI s N) Q) : zE X m_L_law 380 [.ref 0, .ref 3, .ref 39, vi (7 * c)] [] (zI s N) Q := by
  have hXL : X.1 ≤ 2147483647 := by omega
  have hB : zB0 s := hJ.B
  refine e_aload_n q_L_law_380 (by decide) rfl ?_
  refine e_aload_n q_L_law_381 (by decide) rfl ?_
  refine e_iload_n q_L_law_382 (by decide) rfl ?_
  refine e_iconst q_L_law_383 ?_
  refine e_iadd q_L_law_384 ?_
  refine e_sld q_L_law_385 (by first | omega | assumption) (by first | omega | assumption) hXL ?_
  refine e_aload_n q_L_law_386 (by decide) rfl ?_
  refine e_iload_n q_L_law_387 (by decide) rfl ?_
  refine e_iconst q_L_law_388 ?_
  refine e_iadd q_L_law_389 ?_
  refine e_sld q_L_law_390 (by first | omega | assumption) (by first | omega | assumption) hXL ?_
  refine iv_X11_dies q_L_law_391 lk_L_32 (by decide) (a3 hB) (Nat.le_of_ble_eq_true rfl) ?_
  refine j_dies hJ hc (z_tr _) (z_tr _) (fun r s1 N1 hB hm => ?_)
  refine e_aload_n q_L_law_394 (by decide) rfl ?_
  refine e_aload_n q_L_law_395 (by decide) rfl ?_
  refine e_iload_n q_L_law_396 (by decide) rfl ?_
  refine e_iconst q_L_law_397 ?_
  refine e_iadd q_L_law_398 ?_
  refine e_sld q_L_law_399 (by first | omega | assumption) (by first | omega | assumption) hXL ?_
  refine e_aload_n q_L_law_400 (by decide) rfl ?_
  refine e_iload_n q_L_law_401 (by decide) rfl ?_
  refine e_iconst q_L_law_402 ?_
  refine e_iadd q_L_law_403 ?_
  refine e_sld q_L_law_404 (by first | omega | assumption) (by first | omega | assumption) hXL ?_
  refine iv_X12_dies q_L_law_405 lk_L_35 (by decide) (a39 hB) (Nat.le_of_ble_eq_true rfl) ?_
  refine hm _ (fun s2 N2 hJ2 => ?_)
  exact e_icS q_L_law_408 (next _ _ hJ2)
theorem lc_5 (hX : X.1 ≤ 3584) {c : Int} (h0 : 0 ≤ c) (hc : c < 512) (hi : 7 * c + 7 ≤ X.1) (hJ : xJ s N c) (next : ∀ s N, xJ s N (c + 1) → zE X m_L_law 1532 [.ref 0, .ref 3, .ref 39, vi (7 * c)] [] (zI s N) Q) : zE X m_L_law 413 [.ref 0, .ref 3, .ref 39, vi (7 * c)] [] (zI s N) Q := by
  have hXL : X.1 ≤ 2147483647 := by omega
  have hB : zB0 s := hJ.B
  refine e_aload_n q_L_law_413 (by decide) rfl ?_
  refine e_aload_n q_L_law_414 (by decide) rfl ?_
  refine e_iload_n q_L_law_415 (by decide) rfl ?_
  refine e_iconst q_L_law_416 ?_
  refine e_iadd q_L_law_417 ?_
  refine e_sld q_L_law_418 (by first | omega | assumption) (by first | omega | assumption) hXL ?_
  refine e_aload_n q_L_law_419 (by decide) rfl ?_
  refine e_iload_n q_L_law_420 (by decide) rfl ?_
  refine e_iconst q_L_law_421 ?_
  refine e_iadd q_L_law_422 ?_
  refine e_sld q_L_law_423 (by first | omega | assumption) (by first | omega | assumption) hXL ?_
  refine iv_X11_flees q_L_law_424 lk_L_36 (by decide) (a3 hB) (Nat.le_of_ble_eq_true rfl) ?_
  refine j_flees hJ hc (z_tr _) (z_tr _) (fun r s1 N1 hB hm => ?_)
  refine e_aload_n q_L_law_427 (by decide) rfl ?_
  refine e_aload_n q_L_law_428 (by decide) rfl ?_
  refine e_iload_n q_L_law_429 (by decide) rfl ?_
  refine e_iconst q_L_law_430 ?_
  refine e_iadd q_L_law_431 ?_
  refine e_sld q_L_law_432 (by first | omega | assumption) (by first | omega | assumption) hXL ?_
  refine e_aload_n q_L_law_433 (by decide) rfl ?_
  refine e_iload_n q_L_law_434 (by decide) rfl ?_
  refine e_iconst q_L_law_435 ?_
  refine e_iadd q_L_law_436 ?_
  refine e_sld q_L_law_437 (by first | omega | assumption) (by first | omega | assumption) hXL ?_
  refine iv_X12_flees q_L_law_438 lk_L_39 (by decide) (a39 hB) (Nat.le_of_ble_eq_true rfl) ?_
  refine hm _ (fun s2 N2 hJ2 => ?_)
  exact e_icS q_L_law_441 (next _ _ hJ2)
theorem lc_6 (hX : X.1 ≤ 3584) {c : Int} (h0 : 0 ≤ c) (hc : c < 512) (hi : 7 * c + 7 ≤ X.1) (hJ : xJ s N c) (next : ∀ s N, xJ s N (c + 1) → zE X m_L_law 1532 [.ref 0, .ref 3, .ref 39, vi (7 * c)] [] (zI s N) Q) : zE X m_L_law 446 [.ref 0, .ref 3, .ref 39, vi (7 * c)] [] (zI s N) Q := by
  have hXL : X.1 ≤ 2147483647 := by omega
  have hB : zB0 s := hJ.B
  refine e_aload_n q_L_law_446 (by decide) rfl ?_
  refine e_aload_n q_L_law_447 (by decide) rfl ?_
  refine e_iload_n q_L_law_448 (by decide) rfl ?_
  refine e_iconst q_L_law_449 ?_
  refine e_iadd q_L_law_450 ?_
  refine e_sld q_L_law_451 (by first | omega | assumption) (by first | omega | assumption) hXL ?_
  refine e_aload_n q_L_law_452 (by decide) rfl ?_
  refine e_iload_n q_L_law_453 (by decide) rfl ?_
  refine e_iconst q_L_law_454 ?_
  refine e_iadd q_L_law_455 ?_
  refine e_sld q_L_law_456 (by first | omega | assumption) (by first | omega | assumption) hXL ?_
  refine iv_X11_back q_L_law_457 lk_L_40 (by decide) (a3 hB) (Nat.le_of_ble_eq_true rfl) ?_
  refine j_back hJ hc (z_tr _) (z_tr _) (fun r s1 N1 hB hm => ?_)
  refine e_aload_n q_L_law_460 (by decide) rfl ?_
  refine e_aload_n q_L_law_461 (by decide) rfl ?_
  refine e_iload_n q_L_law_462 (by decide) rfl ?_
  refine e_iconst q_L_law_463 ?_
  refine e_iadd q_L_law_464 ?_
  refine e_sld q_L_law_465 (by first | omega | assumption) (by first | omega | assumption) hXL ?_
  refine e_aload_n q_L_law_466 (by decide) rfl ?_
  refine e_iload_n q_L_law_467 (by decide) rfl ?_
  refine e_iconst q_L_law_468 ?_
  refine e_iadd q_L_law_469 ?_
  refine e_sld q_L_law_470 (by first | omega | assumption) (by first | omega | assumption) hXL ?_
  refine iv_X12_back q_L_law_471 lk_L_43 (by decide) (a39 hB) (Nat.le_of_ble_eq_true rfl) ?_
  refine hm _ (fun s2 N2 hJ2 => ?_)
  exact e_icS q_L_law_474 (next _ _ hJ2)
theorem lc_7 (hX : X.1 ≤ 3584) {c : Int} (h0 : 0 ≤ c) (hc : c < 512) (hi : 7 * c + 7 ≤ X.1) (hJ : xJ s N c) (next : ∀ s N, xJ s N (c + 1) → zE X m_L_law 1532 [.ref 0, .ref 3, .ref 39, vi (7 * c)] [] (zI s N) Q) : zE X m_L_law 479 [.ref 0, .ref 3, .ref 39, vi (7 * c)] [] (zI s N) Q := by
  have hXL : X.1 ≤ 2147483647 := by omega
  have hB : zB0 s := hJ.B
  refine e_aload_n q_L_law_479 (by decide) rfl ?_
  refine e_aload_n q_L_law_480 (by decide) rfl ?_
  refine e_iload_n q_L_law_481 (by decide) rfl ?_
  refine e_iconst q_L_law_482 ?_
  refine e_iadd q_L_law_483 ?_
  refine e_sld q_L_law_484 (by first | omega | assumption) (by first | omega | assumption) hXL ?_
  refine e_aload_n q_L_law_485 (by decide) rfl ?_
  refine e_iload_n q_L_law_486 (by decide) rfl ?_
  refine e_iconst q_L_law_487 ?_
  refine e_iadd q_L_law_488 ?_
  refine e_sld q_L_law_489 (by first | omega | assumption) (by first | omega | assumption) hXL ?_
  refine iv_X11_there q_L_law_490 lk_L_44 (by decide) (a3 hB) (Nat.le_of_ble_eq_true rfl) ?_
  refine j_there hJ (z_tr _) (z_tr _) (fun r s1 N1 hB hm => ?_)
  refine e_aload_n q_L_law_493 (by decide) rfl ?_
  refine e_aload_n q_L_law_494 (by decide) rfl ?_
  refine e_iload_n q_L_law_495 (by decide) rfl ?_
  refine e_iconst q_L_law_496 ?_
  refine e_iadd q_L_law_497 ?_
  refine e_sld q_L_law_498 (by first | omega | assumption) (by first | omega | assumption) hXL ?_
  refine e_aload_n q_L_law_499 (by decide) rfl ?_
  refine e_iload_n q_L_law_500 (by decide) rfl ?_
  refine e_iconst q_L_law_501 ?_
  refine e_iadd q_L_law_502 ?_
  refine e_sld q_L_law_503 (by first | omega | assumption) (by first | omega | assumption) hXL ?_
  refine iv_X12_there q_L_law_504 lk_L_47 (by decide) (a39 hB) (Nat.le_of_ble_eq_true rfl) ?_
  refine hm _ (fun s2 N2 hJ2 => ?_)
  exact e_icS q_L_law_507 (next _ _ hJ2)
theorem lc_8 (hX : X.1 ≤ 3584) {c : Int} (h0 : 0 ≤ c) (hc : c < 512) (hi : 7 * c + 7 ≤ X.1) (hJ : xJ s N c) (next : ∀ s N, xJ s N (c + 1) → zE X m_L_law 1532 [.ref 0, .ref 3, .ref 39, vi (7 * c)] [] (zI s N) Q) : zE X m_L_law 512 [.ref 0, .ref 3, .ref 39, vi (7 * c)] [] (zI s N) Q := by
  have hXL : X.1 ≤ 2147483647 := by omega
  have hB : zB0 s := hJ.B
  refine e_aload_n q_L_law_512 (by decide) rfl ?_
  refine e_aload_n q_L_law_513 (by decide) rfl ?_
  refine e_iload_n q_L_law_514 (by decide) rfl ?_
  refine e_iconst q_L_law_515 ?_
  refine e_iadd q_L_law_516 ?_
  refine e_sld q_L_law_517 (by first | omega | assumption) (by first | omega | assumption) hXL ?_
  refine e_aload_n q_L_law_518 (by decide) rfl ?_
  refine e_iload_n q_L_law_519 (by decide) rfl ?_
  refine e_iconst q_L_law_520 ?_
  refine e_iadd q_L_law_521 ?_
  refine e_sld q_L_law_522 (by first | omega | assumption) (by first | omega | assumption) hXL ?_
  refine iv_X11_kin q_L_law_523 lk_L_48 (by decide) (a3 hB) (Nat.le_of_ble_eq_true rfl) ?_
  refine j_kin hJ (z_tr _) (z_tr _) (fun r s1 N1 hB hm => ?_)
  refine e_aload_n q_L_law_526 (by decide) rfl ?_
  refine e_aload_n q_L_law_527 (by decide) rfl ?_
  refine e_iload_n q_L_law_528 (by decide) rfl ?_
  refine e_iconst q_L_law_529 ?_
  refine e_iadd q_L_law_530 ?_
  refine e_sld q_L_law_531 (by first | omega | assumption) (by first | omega | assumption) hXL ?_
  refine e_aload_n q_L_law_532 (by decide) rfl ?_
  refine e_iload_n q_L_law_533 (by decide) rfl ?_
  refine e_iconst q_L_law_534 ?_
  refine e_iadd q_L_law_535 ?_
  refine e_sld q_L_law_536 (by first | omega | assumption) (by first | omega | assumption) hXL ?_
  refine iv_X12_kin q_L_law_537 lk_L_51 (by decide) (a39 hB) (Nat.le_of_ble_eq_true rfl) ?_
  refine hm _ (fun s2 N2 hJ2 => ?_)
  exact e_icS q_L_law_540 (next _ _ hJ2)
theorem lc_9 (hX : X.1 ≤ 3584) {c : Int} (h0 : 0 ≤ c) (hc : c < 512) (hi : 7 * c + 7 ≤ X.1) (hJ : xJ s N c) (next : ∀ s N, xJ s N (c + 1) → zE X m_L_law 1532 [.ref 0, .ref 3, .ref 39, vi (7 * c)] [] (zI s N) Q) : zE X m_L_law 545 [.ref 0, .ref 3, .ref 39, vi (7 * c)] [] (zI s N) Q := by
  have hXL : X.1 ≤ 2147483647 := by omega
  have hB : zB0 s := hJ.B
  refine e_aload_n q_L_law_545 (by decide) rfl ?_
  refine e_aload_n q_L_law_546 (by decide) rfl ?_
  refine e_iload_n q_L_law_547 (by decide) rfl ?_
  refine e_iconst q_L_law_548 ?_
  refine e_iadd q_L_law_549 ?_
  refine e_sld q_L_law_550 (by first | omega | assumption) (by first | omega | assumption) hXL ?_
  refine e_i2l q_L_law_551 rfl ?_
  refine e_bipush q_L_law_552 (by decide) ?_
  refine e_lshl q_L_law_554 rfl ?_
  refine e_aload_n q_L_law_555 (by decide) rfl ?_
  refine e_iload_n q_L_law_556 (by decide) rfl ?_
  refine e_iconst q_L_law_557 ?_
  refine e_iadd q_L_law_558 ?_
  refine e_sld q_L_law_559 (by first | omega | assumption) (by first | omega | assumption) hXL ?_
  refine e_i2l q_L_law_560 rfl ?_
  refine e_ldc2 q_L_law_561 col_L_52 ?_
  refine e_land q_L_law_564 ?_
  refine e_lor q_L_law_565 ?_
  refine e_aload_n q_L_law_566 (by decide) rfl ?_
  refine e_iload_n q_L_law_567 (by decide) rfl ?_
  refine e_iconst q_L_law_568 ?_
  refine e_iadd q_L_law_569 ?_
  refine e_sld q_L_law_570 (by first | omega | assumption) (by first | omega | assumption) hXL ?_
  refine iv_X11_type q_L_law_571 lk_L_54 (by decide) (a3 hB) (Nat.le_of_ble_eq_true rfl) ?_
  refine j_type hJ hc (z_tr _) (fun r s1 N1 hB hm => ?_)
  refine e_aload_n q_L_law_574 (by decide) rfl ?_
  refine e_aload_n q_L_law_575 (by decide) rfl ?_
  refine e_iload_n q_L_law_576 (by decide) rfl ?_
  refine e_iconst q_L_law_577 ?_
  refine e_iadd q_L_law_578 ?_
  refine e_sld q_L_law_579 (by first | omega | assumption) (by first | omega | assumption) hXL ?_
  refine e_i2l q_L_law_580 rfl ?_
  refine e_bipush q_L_law_581 (by decide) ?_
  refine e_lshl q_L_law_583 rfl ?_
  refine e_aload_n q_L_law_584 (by decide) rfl ?_
  refine e_iload_n q_L_law_585 (by decide) rfl ?_
  refine e_iconst q_L_law_586 ?_
  refine e_iadd q_L_law_587 ?_
  refine e_sld q_L_law_588 (by first | omega | assumption) (by first | omega | assumption) hXL ?_
  refine e_i2l q_L_law_589 rfl ?_
  refine e_ldc2 q_L_law_590 col_L_52 ?_
  refine e_land q_L_law_593 ?_
  refine e_lor q_L_law_594 ?_
  refine e_aload_n q_L_law_595 (by decide) rfl ?_
  refine e_iload_n q_L_law_596 (by decide) rfl ?_
  refine e_iconst q_L_law_597 ?_
  refine e_iadd q_L_law_598 ?_
  refine e_sld q_L_law_599 (by first | omega | assumption) (by first | omega | assumption) hXL ?_
  refine iv_X12_type q_L_law_600 lk_L_58 (by decide) (a39 hB) (Nat.le_of_ble_eq_true rfl) ?_
  refine hm _ (fun s2 N2 hJ2 => ?_)
  exact e_icS q_L_law_603 (next _ _ hJ2)
theorem lc_10 (hX : X.1 ≤ 3584) {c : Int} (h0 : 0 ≤ c) (hc : c < 512) (hi : 7 * c + 7 ≤ X.1) (hJ : xJ s N c) (next : ∀ s N, xJ s N (c + 1) → zE X m_L_law 1532 [.ref 0, .ref 3, .ref 39, vi (7 * c)] [] (zI s N) Q) : zE X m_L_law 608 [.ref 0, .ref 3, .ref 39, vi (7 * c)] [] (zI s N) Q := by
  have hXL : X.1 ≤ 2147483647 := by omega
  have hB : zB0 s := hJ.B
  refine e_aload_n q_L_law_608 (by decide) rfl ?_
  refine iv_X11_laws q_L_law_609 lk_L_59 (by decide) (a3 hB) (Nat.le_of_ble_eq_true rfl) ?_
  refine j_laws hJ hc  (fun r s1 N1 hB hm => ?_)
  refine e_aload_n q_L_law_612 (by decide) rfl ?_
  refine iv_X12_laws q_L_law_613 lk_L_63 (by decide) (a39 hB) (Nat.le_of_ble_eq_true rfl) ?_
  refine hm _ (fun s2 N2 hJ2 => ?_)
  exact e_icS q_L_law_616 (next _ _ hJ2)
theorem lc_11 (hX : X.1 ≤ 3584) {c : Int} (h0 : 0 ≤ c) (hc : c < 512) (hi : 7 * c + 7 ≤ X.1) (hJ : xJ s N c) (next : ∀ s N, xJ s N (c + 1) → zE X m_L_law 1532 [.ref 0, .ref 3, .ref 39, vi (7 * c)] [] (zI s N) Q) : zE X m_L_law 621 [.ref 0, .ref 3, .ref 39, vi (7 * c)] [] (zI s N) Q := by
  have hXL : X.1 ≤ 2147483647 := by omega
  have hB : zB0 s := hJ.B
  refine e_aload_n q_L_law_621 (by decide) rfl ?_
  refine e_aload_n q_L_law_622 (by decide) rfl ?_
  refine e_iload_n q_L_law_623 (by decide) rfl ?_
  refine e_iconst q_L_law_624 ?_
  refine e_iadd q_L_law_625 ?_
  refine e_sld q_L_law_626 (by first | omega | assumption) (by first | omega | assumption) hXL ?_
  refine e_aload_n q_L_law_627 (by decide) rfl ?_
  refine e_iload_n q_L_law_628 (by decide) rfl ?_
  refine e_iconst q_L_law_629 ?_
  refine e_iadd q_L_law_630 ?_
  refine e_sld q_L_law_631 (by first | omega | assumption) (by first | omega | assumption) hXL ?_
  refine iv_X11_must q_L_law_632 lk_L_64 (by decide) (a3 hB) (Nat.le_of_ble_eq_true rfl) ?_
  refine j_must hJ (z_tr _) (z_tr _) (fun r s1 N1 hB hm => ?_)
  refine e_aload_n q_L_law_635 (by decide) rfl ?_
  refine e_aload_n q_L_law_636 (by decide) rfl ?_
  refine e_iload_n q_L_law_637 (by decide) rfl ?_
  refine e_iconst q_L_law_638 ?_
  refine e_iadd q_L_law_639 ?_
  refine e_sld q_L_law_640 (by first | omega | assumption) (by first | omega | assumption) hXL ?_
  refine e_aload_n q_L_law_641 (by decide) rfl ?_
  refine e_iload_n q_L_law_642 (by decide) rfl ?_
  refine e_iconst q_L_law_643 ?_
  refine e_iadd q_L_law_644 ?_
  refine e_sld q_L_law_645 (by first | omega | assumption) (by first | omega | assumption) hXL ?_
  refine iv_X12_must q_L_law_646 lk_L_67 (by decide) (a39 hB) (Nat.le_of_ble_eq_true rfl) ?_
  refine hm _ (fun s2 N2 hJ2 => ?_)
  exact e_icS q_L_law_649 (next _ _ hJ2)
theorem lc_12 (hX : X.1 ≤ 3584) {c : Int} (h0 : 0 ≤ c) (hc : c < 512) (hi : 7 * c + 7 ≤ X.1) (hJ : xJ s N c) (next : ∀ s N, xJ s N (c + 1) → zE X m_L_law 1532 [.ref 0, .ref 3, .ref 39, vi (7 * c)] [] (zI s N) Q) : zE X m_L_law 654 [.ref 0, .ref 3, .ref 39, vi (7 * c)] [] (zI s N) Q := by
  have hXL : X.1 ≤ 2147483647 := by omega
  have hB : zB0 s := hJ.B
  refine e_aload_n q_L_law_654 (by decide) rfl ?_
  refine e_aload_n q_L_law_655 (by decide) rfl ?_
  refine e_iload_n q_L_law_656 (by decide) rfl ?_
  refine e_iconst q_L_law_657 ?_
  refine e_iadd q_L_law_658 ?_
  refine e_sld q_L_law_659 (by first | omega | assumption) (by first | omega | assumption) hXL ?_
  refine e_aload_n q_L_law_660 (by decide) rfl ?_
  refine e_iload_n q_L_law_661 (by decide) rfl ?_
  refine e_iconst q_L_law_662 ?_
  refine e_iadd q_L_law_663 ?_
  refine e_sld q_L_law_664 (by first | omega | assumption) (by first | omega | assumption) hXL ?_
  refine iv_X11_fair q_L_law_665 lk_L_68 (by decide) (a3 hB) (Nat.le_of_ble_eq_true rfl) ?_
  refine j_fair hJ hc (z_tr _) (z_tr _) (fun r s1 N1 hB hm => ?_)
  refine e_aload_n q_L_law_668 (by decide) rfl ?_
  refine e_aload_n q_L_law_669 (by decide) rfl ?_
  refine e_iload_n q_L_law_670 (by decide) rfl ?_
  refine e_iconst q_L_law_671 ?_
  refine e_iadd q_L_law_672 ?_
  refine e_sld q_L_law_673 (by first | omega | assumption) (by first | omega | assumption) hXL ?_
  refine e_aload_n q_L_law_674 (by decide) rfl ?_
  refine e_iload_n q_L_law_675 (by decide) rfl ?_
  refine e_iconst q_L_law_676 ?_
  refine e_iadd q_L_law_677 ?_
  refine e_sld q_L_law_678 (by first | omega | assumption) (by first | omega | assumption) hXL ?_
  refine iv_X12_fair q_L_law_679 lk_L_71 (by decide) (a39 hB) (Nat.le_of_ble_eq_true rfl) ?_
  refine hm _ (fun s2 N2 hJ2 => ?_)
  exact e_icS q_L_law_682 (next _ _ hJ2)
theorem lc_13 (hX : X.1 ≤ 3584) {c : Int} (h0 : 0 ≤ c) (hc : c < 512) (hi : 7 * c + 7 ≤ X.1) (hJ : xJ s N c) (next : ∀ s N, xJ s N (c + 1) → zE X m_L_law 1532 [.ref 0, .ref 3, .ref 39, vi (7 * c)] [] (zI s N) Q) : zE X m_L_law 687 [.ref 0, .ref 3, .ref 39, vi (7 * c)] [] (zI s N) Q := by
  have hXL : X.1 ≤ 2147483647 := by omega
  have hB : zB0 s := hJ.B
  refine e_aload_n q_L_law_687 (by decide) rfl ?_
  refine e_aload_n q_L_law_688 (by decide) rfl ?_
  refine e_iload_n q_L_law_689 (by decide) rfl ?_
  refine e_iconst q_L_law_690 ?_
  refine e_iadd q_L_law_691 ?_
  refine e_sld q_L_law_692 (by first | omega | assumption) (by first | omega | assumption) hXL ?_
  refine iv_X11_group q_L_law_693 lk_L_72 (by decide) (a3 hB) (Nat.le_of_ble_eq_true rfl) ?_
  refine j_group hJ hc (z_tr _) (fun r s1 N1 hB hm => ?_)
  refine e_aload_n q_L_law_696 (by decide) rfl ?_
  refine e_aload_n q_L_law_697 (by decide) rfl ?_
  refine e_iload_n q_L_law_698 (by decide) rfl ?_
  refine e_iconst q_L_law_699 ?_
  refine e_iadd q_L_law_700 ?_
  refine e_sld q_L_law_701 (by first | omega | assumption) (by first | omega | assumption) hXL ?_
  refine iv_X12_group q_L_law_702 lk_L_75 (by decide) (a39 hB) (Nat.le_of_ble_eq_true rfl) ?_
  refine hm _ (fun s2 N2 hJ2 => ?_)
  exact e_icS q_L_law_705 (next _ _ hJ2)
theorem lc_14 (hX : X.1 ≤ 3584) {c : Int} (h0 : 0 ≤ c) (hc : c < 512) (hi : 7 * c + 7 ≤ X.1) (hJ : xJ s N c) (next : ∀ s N, xJ s N (c + 1) → zE X m_L_law 1532 [.ref 0, .ref 3, .ref 39, vi (7 * c)] [] (zI s N) Q) : zE X m_L_law 710 [.ref 0, .ref 3, .ref 39, vi (7 * c)] [] (zI s N) Q := by
  have hXL : X.1 ≤ 2147483647 := by omega
  have hB : zB0 s := hJ.B
  refine e_aload_n q_L_law_710 (by decide) rfl ?_
  refine e_aload_n q_L_law_711 (by decide) rfl ?_
  refine e_iload_n q_L_law_712 (by decide) rfl ?_
  refine e_iconst q_L_law_713 ?_
  refine e_iadd q_L_law_714 ?_
  refine e_sld q_L_law_715 (by first | omega | assumption) (by first | omega | assumption) hXL ?_
  refine e_aload_n q_L_law_716 (by decide) rfl ?_
  refine e_iload_n q_L_law_717 (by decide) rfl ?_
  refine e_iconst q_L_law_718 ?_
  refine e_iadd q_L_law_719 ?_
  refine e_sld q_L_law_720 (by first | omega | assumption) (by first | omega | assumption) hXL ?_
  refine e_aload_n q_L_law_721 (by decide) rfl ?_
  refine e_iload_n q_L_law_722 (by decide) rfl ?_
  refine e_iconst q_L_law_723 ?_
  refine e_iadd q_L_law_724 ?_
  refine e_sld q_L_law_725 (by first | omega | assumption) (by first | omega | assumption) hXL ?_
  refine iv_X11_joins q_L_law_726 lk_L_76 (by decide) (a3 hB) (Nat.le_of_ble_eq_true rfl) ?_
  refine j_joins hJ hc (z_tr _) (z_tr _) (z_tr _) (fun r s1 N1 hB hm => ?_)
  refine e_aload_n q_L_law_729 (by decide) rfl ?_
  refine e_aload_n q_L_law_730 (by decide) rfl ?_
  refine e_iload_n q_L_law_731 (by decide) rfl ?_
  refine e_iconst q_L_law_732 ?_
  refine e_iadd q_L_law_733 ?_
  refine e_sld q_L_law_734 (by first | omega | assumption) (by first | omega | assumption) hXL ?_
  refine e_aload_n q_L_law_735 (by decide) rfl ?_
  refine e_iload_n q_L_law_736 (by decide) rfl ?_
  refine e_iconst q_L_law_737 ?_
  refine e_iadd q_L_law_738 ?_
  refine e_sld q_L_law_739 (by first | omega | assumption) (by first | omega | assumption) hXL ?_
  refine e_aload_n q_L_law_740 (by decide) rfl ?_
  refine e_iload_n q_L_law_741 (by decide) rfl ?_
  refine e_iconst q_L_law_742 ?_
  refine e_iadd q_L_law_743 ?_
  refine e_sld q_L_law_744 (by first | omega | assumption) (by first | omega | assumption) hXL ?_
  refine iv_X12_joins q_L_law_745 lk_L_80 (by decide) (a39 hB) (Nat.le_of_ble_eq_true rfl) ?_
  refine hm _ (fun s2 N2 hJ2 => ?_)
  exact e_icS q_L_law_748 (next _ _ hJ2)
theorem lc_15 (hX : X.1 ≤ 3584) {c : Int} (h0 : 0 ≤ c) (hc : c < 512) (hi : 7 * c + 7 ≤ X.1) (hJ : xJ s N c) (next : ∀ s N, xJ s N (c + 1) → zE X m_L_law 1532 [.ref 0, .ref 3, .ref 39, vi (7 * c)] [] (zI s N) Q) : zE X m_L_law 753 [.ref 0, .ref 3, .ref 39, vi (7 * c)] [] (zI s N) Q := by
  have hXL : X.1 ≤ 2147483647 := by omega
  have hB : zB0 s := hJ.B
  refine e_aload_n q_L_law_753 (by decide) rfl ?_
  refine e_aload_n q_L_law_754 (by decide) rfl ?_
  refine e_iload_n q_L_law_755 (by decide) rfl ?_
  refine e_iconst q_L_law_756 ?_
  refine e_iadd q_L_law_757 ?_
  refine e_sld q_L_law_758 (by first | omega | assumption) (by first | omega | assumption) hXL ?_
  refine e_aload_n q_L_law_759 (by decide) rfl ?_
  refine e_iload_n q_L_law_760 (by decide) rfl ?_
  refine e_iconst q_L_law_761 ?_
  refine e_iadd q_L_law_762 ?_
  refine e_sld q_L_law_763 (by first | omega | assumption) (by first | omega | assumption) hXL ?_
  refine iv_X11_leaves q_L_law_764 lk_L_81 (by decide) (a3 hB) (Nat.le_of_ble_eq_true rfl) ?_
  refine j_leaves hJ hc (z_tr _) (z_tr _) (fun r s1 N1 hB hm => ?_)
  refine e_aload_n q_L_law_767 (by decide) rfl ?_
  refine e_aload_n q_L_law_768 (by decide) rfl ?_
  refine e_iload_n q_L_law_769 (by decide) rfl ?_
  refine e_iconst q_L_law_770 ?_
  refine e_iadd q_L_law_771 ?_
  refine e_sld q_L_law_772 (by first | omega | assumption) (by first | omega | assumption) hXL ?_
  refine e_aload_n q_L_law_773 (by decide) rfl ?_
  refine e_iload_n q_L_law_774 (by decide) rfl ?_
  refine e_iconst q_L_law_775 ?_
  refine e_iadd q_L_law_776 ?_
  refine e_sld q_L_law_777 (by first | omega | assumption) (by first | omega | assumption) hXL ?_
  refine iv_X12_leaves q_L_law_778 lk_L_84 (by decide) (a39 hB) (Nat.le_of_ble_eq_true rfl) ?_
  refine hm _ (fun s2 N2 hJ2 => ?_)
  exact e_icS q_L_law_781 (next _ _ hJ2)
theorem lc_16 (hX : X.1 ≤ 3584) {c : Int} (h0 : 0 ≤ c) (hc : c < 512) (hi : 7 * c + 7 ≤ X.1) (hJ : xJ s N c) (next : ∀ s N, xJ s N (c + 1) → zE X m_L_law 1532 [.ref 0, .ref 3, .ref 39, vi (7 * c)] [] (zI s N) Q) : zE X m_L_law 786 [.ref 0, .ref 3, .ref 39, vi (7 * c)] [] (zI s N) Q := by
  have hXL : X.1 ≤ 2147483647 := by omega
  have hB : zB0 s := hJ.B
  refine e_aload_n q_L_law_786 (by decide) rfl ?_
  refine e_aload_n q_L_law_787 (by decide) rfl ?_
  refine e_iload_n q_L_law_788 (by decide) rfl ?_
  refine e_iconst q_L_law_789 ?_
  refine e_iadd q_L_law_790 ?_
  refine e_sld q_L_law_791 (by first | omega | assumption) (by first | omega | assumption) hXL ?_
  refine e_aload_n q_L_law_792 (by decide) rfl ?_
  refine e_iload_n q_L_law_793 (by decide) rfl ?_
  refine e_iconst q_L_law_794 ?_
  refine e_iadd q_L_law_795 ?_
  refine e_sld q_L_law_796 (by first | omega | assumption) (by first | omega | assumption) hXL ?_
  refine iv_X11_groupOf q_L_law_797 lk_L_85 (by decide) (a3 hB) (Nat.le_of_ble_eq_true rfl) ?_
  refine j_groupOf hJ (z_tr _) (z_tr _) (fun r s1 N1 hB hm => ?_)
  refine e_aload_n q_L_law_800 (by decide) rfl ?_
  refine e_aload_n q_L_law_801 (by decide) rfl ?_
  refine e_iload_n q_L_law_802 (by decide) rfl ?_
  refine e_iconst q_L_law_803 ?_
  refine e_iadd q_L_law_804 ?_
  refine e_sld q_L_law_805 (by first | omega | assumption) (by first | omega | assumption) hXL ?_
  refine e_aload_n q_L_law_806 (by decide) rfl ?_
  refine e_iload_n q_L_law_807 (by decide) rfl ?_
  refine e_iconst q_L_law_808 ?_
  refine e_iadd q_L_law_809 ?_
  refine e_sld q_L_law_810 (by first | omega | assumption) (by first | omega | assumption) hXL ?_
  refine iv_X12_groupOf q_L_law_811 lk_L_88 (by decide) (a39 hB) (Nat.le_of_ble_eq_true rfl) ?_
  refine hm _ (fun s2 N2 hJ2 => ?_)
  exact e_icS q_L_law_814 (next _ _ hJ2)
theorem lc_17 (hX : X.1 ≤ 3584) {c : Int} (h0 : 0 ≤ c) (hc : c < 512) (hi : 7 * c + 7 ≤ X.1) (hJ : xJ s N c) (next : ∀ s N, xJ s N (c + 1) → zE X m_L_law 1532 [.ref 0, .ref 3, .ref 39, vi (7 * c)] [] (zI s N) Q) : zE X m_L_law 819 [.ref 0, .ref 3, .ref 39, vi (7 * c)] [] (zI s N) Q := by
  have hXL : X.1 ≤ 2147483647 := by omega
  have hB : zB0 s := hJ.B
  refine e_aload_n q_L_law_819 (by decide) rfl ?_
  refine e_aload_n q_L_law_820 (by decide) rfl ?_
  refine e_iload_n q_L_law_821 (by decide) rfl ?_
  refine e_iconst q_L_law_822 ?_
  refine e_iadd q_L_law_823 ?_
  refine e_sld q_L_law_824 (by first | omega | assumption) (by first | omega | assumption) hXL ?_
  refine e_aload_n q_L_law_825 (by decide) rfl ?_
  refine e_iload_n q_L_law_826 (by decide) rfl ?_
  refine e_iconst q_L_law_827 ?_
  refine e_iadd q_L_law_828 ?_
  refine e_sld q_L_law_829 (by first | omega | assumption) (by first | omega | assumption) hXL ?_
  refine iv_X11_members q_L_law_830 lk_L_89 (by decide) (a3 hB) (Nat.le_of_ble_eq_true rfl) ?_
  refine j_members hJ (z_tr _) (z_tr _) (fun r s1 N1 hB hm => ?_)
  refine e_aload_n q_L_law_833 (by decide) rfl ?_
  refine e_aload_n q_L_law_834 (by decide) rfl ?_
  refine e_iload_n q_L_law_835 (by decide) rfl ?_
  refine e_iconst q_L_law_836 ?_
  refine e_iadd q_L_law_837 ?_
  refine e_sld q_L_law_838 (by first | omega | assumption) (by first | omega | assumption) hXL ?_
  refine e_aload_n q_L_law_839 (by decide) rfl ?_
  refine e_iload_n q_L_law_840 (by decide) rfl ?_
  refine e_iconst q_L_law_841 ?_
  refine e_iadd q_L_law_842 ?_
  refine e_sld q_L_law_843 (by first | omega | assumption) (by first | omega | assumption) hXL ?_
  refine iv_X12_members q_L_law_844 lk_L_92 (by decide) (a39 hB) (Nat.le_of_ble_eq_true rfl) ?_
  refine hm _ (fun s2 N2 hJ2 => ?_)
  exact e_icS q_L_law_847 (next _ _ hJ2)
theorem lc_18 (hX : X.1 ≤ 3584) {c : Int} (h0 : 0 ≤ c) (hc : c < 512) (hi : 7 * c + 7 ≤ X.1) (hJ : xJ s N c) (next : ∀ s N, xJ s N (c + 1) → zE X m_L_law 1532 [.ref 0, .ref 3, .ref 39, vi (7 * c)] [] (zI s N) Q) : zE X m_L_law 852 [.ref 0, .ref 3, .ref 39, vi (7 * c)] [] (zI s N) Q := by
  have hXL : X.1 ≤ 2147483647 := by omega
  have hB : zB0 s := hJ.B
  refine e_aload_n q_L_law_852 (by decide) rfl ?_
  refine e_aload_n q_L_law_853 (by decide) rfl ?_
  refine e_iload_n q_L_law_854 (by decide) rfl ?_
  refine e_iconst q_L_law_855 ?_
  refine e_iadd q_L_law_856 ?_
  refine e_sld q_L_law_857 (by first | omega | assumption) (by first | omega | assumption) hXL ?_
  refine e_aload_n q_L_law_858 (by decide) rfl ?_
  refine e_iload_n q_L_law_859 (by decide) rfl ?_
  refine e_iconst q_L_law_860 ?_
  refine e_iadd q_L_law_861 ?_
  refine e_sld q_L_law_862 (by first | omega | assumption) (by first | omega | assumption) hXL ?_
  refine iv_X11_head q_L_law_863 lk_L_93 (by decide) (a3 hB) (Nat.le_of_ble_eq_true rfl) ?_
  refine j_head hJ (z_tr _) (z_tr _) (fun r s1 N1 hB hm => ?_)
  refine e_aload_n q_L_law_866 (by decide) rfl ?_
  refine e_aload_n q_L_law_867 (by decide) rfl ?_
  refine e_iload_n q_L_law_868 (by decide) rfl ?_
  refine e_iconst q_L_law_869 ?_
  refine e_iadd q_L_law_870 ?_
  refine e_sld q_L_law_871 (by first | omega | assumption) (by first | omega | assumption) hXL ?_
  refine e_aload_n q_L_law_872 (by decide) rfl ?_
  refine e_iload_n q_L_law_873 (by decide) rfl ?_
  refine e_iconst q_L_law_874 ?_
  refine e_iadd q_L_law_875 ?_
  refine e_sld q_L_law_876 (by first | omega | assumption) (by first | omega | assumption) hXL ?_
  refine iv_X12_head q_L_law_877 lk_L_96 (by decide) (a39 hB) (Nat.le_of_ble_eq_true rfl) ?_
  refine hm _ (fun s2 N2 hJ2 => ?_)
  exact e_icS q_L_law_880 (next _ _ hJ2)
theorem lc_19 (hX : X.1 ≤ 3584) {c : Int} (h0 : 0 ≤ c) (hc : c < 512) (hi : 7 * c + 7 ≤ X.1) (hJ : xJ s N c) (next : ∀ s N, xJ s N (c + 1) → zE X m_L_law 1532 [.ref 0, .ref 3, .ref 39, vi (7 * c)] [] (zI s N) Q) : zE X m_L_law 885 [.ref 0, .ref 3, .ref 39, vi (7 * c)] [] (zI s N) Q := by
  have hXL : X.1 ≤ 2147483647 := by omega
  have hB : zB0 s := hJ.B
  refine e_aload_n q_L_law_885 (by decide) rfl ?_
  refine e_aload_n q_L_law_886 (by decide) rfl ?_
  refine e_iload_n q_L_law_887 (by decide) rfl ?_
  refine e_iconst q_L_law_888 ?_
  refine e_iadd q_L_law_889 ?_
  refine e_sld q_L_law_890 (by first | omega | assumption) (by first | omega | assumption) hXL ?_
  refine e_aload_n q_L_law_891 (by decide) rfl ?_
  refine e_iload_n q_L_law_892 (by decide) rfl ?_
  refine e_iconst q_L_law_893 ?_
  refine e_iadd q_L_law_894 ?_
  refine e_sld q_L_law_895 (by first | omega | assumption) (by first | omega | assumption) hXL ?_
  refine iv_X11_wants q_L_law_896 lk_L_97 (by decide) (a3 hB) (Nat.le_of_ble_eq_true rfl) ?_
  refine j_wants hJ (z_tr _) (z_tr _) (fun r s1 N1 hB hm => ?_)
  refine e_aload_n q_L_law_899 (by decide) rfl ?_
  refine e_aload_n q_L_law_900 (by decide) rfl ?_
  refine e_iload_n q_L_law_901 (by decide) rfl ?_
  refine e_iconst q_L_law_902 ?_
  refine e_iadd q_L_law_903 ?_
  refine e_sld q_L_law_904 (by first | omega | assumption) (by first | omega | assumption) hXL ?_
  refine e_aload_n q_L_law_905 (by decide) rfl ?_
  refine e_iload_n q_L_law_906 (by decide) rfl ?_
  refine e_iconst q_L_law_907 ?_
  refine e_iadd q_L_law_908 ?_
  refine e_sld q_L_law_909 (by first | omega | assumption) (by first | omega | assumption) hXL ?_
  refine iv_X12_wants q_L_law_910 lk_L_100 (by decide) (a39 hB) (Nat.le_of_ble_eq_true rfl) ?_
  refine hm _ (fun s2 N2 hJ2 => ?_)
  exact e_icS q_L_law_913 (next _ _ hJ2)
theorem lc_20 (hX : X.1 ≤ 3584) {c : Int} (h0 : 0 ≤ c) (hc : c < 512) (hi : 7 * c + 7 ≤ X.1) (hJ : xJ s N c) (next : ∀ s N, xJ s N (c + 1) → zE X m_L_law 1532 [.ref 0, .ref 3, .ref 39, vi (7 * c)] [] (zI s N) Q) : zE X m_L_law 918 [.ref 0, .ref 3, .ref 39, vi (7 * c)] [] (zI s N) Q := by
  have hXL : X.1 ≤ 2147483647 := by omega
  have hB : zB0 s := hJ.B
  refine e_aload_n q_L_law_918 (by decide) rfl ?_
  refine e_aload_n q_L_law_919 (by decide) rfl ?_
  refine e_iload_n q_L_law_920 (by decide) rfl ?_
  refine e_iconst q_L_law_921 ?_
  refine e_iadd q_L_law_922 ?_
  refine e_sld q_L_law_923 (by first | omega | assumption) (by first | omega | assumption) hXL ?_
  refine e_aload_n q_L_law_924 (by decide) rfl ?_
  refine e_iload_n q_L_law_925 (by decide) rfl ?_
  refine e_iconst q_L_law_926 ?_
  refine e_iadd q_L_law_927 ?_
  refine e_sld q_L_law_928 (by first | omega | assumption) (by first | omega | assumption) hXL ?_
  refine e_aload_n q_L_law_929 (by decide) rfl ?_
  refine e_iload_n q_L_law_930 (by decide) rfl ?_
  refine e_iconst q_L_law_931 ?_
  refine e_iadd q_L_law_932 ?_
  refine e_sld q_L_law_933 (by first | omega | assumption) (by first | omega | assumption) hXL ?_
  refine iv_X11_wantsAt q_L_law_934 lk_L_101 (by decide) (a3 hB) (Nat.le_of_ble_eq_true rfl) ?_
  refine j_wantsAt hJ (z_tr _) (z_tr _) (z_tr _) (fun r s1 N1 hB hm => ?_)
  refine e_aload_n q_L_law_937 (by decide) rfl ?_
  refine e_aload_n q_L_law_938 (by decide) rfl ?_
  refine e_iload_n q_L_law_939 (by decide) rfl ?_
  refine e_iconst q_L_law_940 ?_
  refine e_iadd q_L_law_941 ?_
  refine e_sld q_L_law_942 (by first | omega | assumption) (by first | omega | assumption) hXL ?_
  refine e_aload_n q_L_law_943 (by decide) rfl ?_
  refine e_iload_n q_L_law_944 (by decide) rfl ?_
  refine e_iconst q_L_law_945 ?_
  refine e_iadd q_L_law_946 ?_
  refine e_sld q_L_law_947 (by first | omega | assumption) (by first | omega | assumption) hXL ?_
  refine e_aload_n q_L_law_948 (by decide) rfl ?_
  refine e_iload_n q_L_law_949 (by decide) rfl ?_
  refine e_iconst q_L_law_950 ?_
  refine e_iadd q_L_law_951 ?_
  refine e_sld q_L_law_952 (by first | omega | assumption) (by first | omega | assumption) hXL ?_
  refine iv_X12_wantsAt q_L_law_953 lk_L_104 (by decide) (a39 hB) (Nat.le_of_ble_eq_true rfl) ?_
  refine hm _ (fun s2 N2 hJ2 => ?_)
  exact e_icS q_L_law_956 (next _ _ hJ2)
theorem lc_21 (hX : X.1 ≤ 3584) {c : Int} (h0 : 0 ≤ c) (hc : c < 512) (hi : 7 * c + 7 ≤ X.1) (hJ : xJ s N c) (next : ∀ s N, xJ s N (c + 1) → zE X m_L_law 1532 [.ref 0, .ref 3, .ref 39, vi (7 * c)] [] (zI s N) Q) : zE X m_L_law 961 [.ref 0, .ref 3, .ref 39, vi (7 * c)] [] (zI s N) Q := by
  have hXL : X.1 ≤ 2147483647 := by omega
  have hB : zB0 s := hJ.B
  refine e_aload_n q_L_law_961 (by decide) rfl ?_
  refine e_aload_n q_L_law_962 (by decide) rfl ?_
  refine e_iload_n q_L_law_963 (by decide) rfl ?_
  refine e_iconst q_L_law_964 ?_
  refine e_iadd q_L_law_965 ?_
  refine e_sld q_L_law_966 (by first | omega | assumption) (by first | omega | assumption) hXL ?_
  refine e_aload_n q_L_law_967 (by decide) rfl ?_
  refine e_iload_n q_L_law_968 (by decide) rfl ?_
  refine e_iconst q_L_law_969 ?_
  refine e_iadd q_L_law_970 ?_
  refine e_sld q_L_law_971 (by first | omega | assumption) (by first | omega | assumption) hXL ?_
  refine e_aload_n q_L_law_972 (by decide) rfl ?_
  refine e_iload_n q_L_law_973 (by decide) rfl ?_
  refine e_iconst q_L_law_974 ?_
  refine e_iadd q_L_law_975 ?_
  refine e_sld q_L_law_976 (by first | omega | assumption) (by first | omega | assumption) hXL ?_
  refine e_aload_n q_L_law_977 (by decide) rfl ?_
  refine e_iload_n q_L_law_978 (by decide) rfl ?_
  refine e_iconst q_L_law_979 ?_
  refine e_iadd q_L_law_980 ?_
  refine e_sld q_L_law_981 (by first | omega | assumption) (by first | omega | assumption) hXL ?_
  refine iv_X11_stay q_L_law_982 lk_L_105 (by decide) (a3 hB) (Nat.le_of_ble_eq_true rfl) ?_
  refine j_stay hJ hc (z_tr _) (z_tr _) (z_tr _) (z_tr _) (fun r s1 N1 hB hm => ?_)
  refine e_aload_n q_L_law_985 (by decide) rfl ?_
  refine e_aload_n q_L_law_986 (by decide) rfl ?_
  refine e_iload_n q_L_law_987 (by decide) rfl ?_
  refine e_iconst q_L_law_988 ?_
  refine e_iadd q_L_law_989 ?_
  refine e_sld q_L_law_990 (by first | omega | assumption) (by first | omega | assumption) hXL ?_
  refine e_aload_n q_L_law_991 (by decide) rfl ?_
  refine e_iload_n q_L_law_992 (by decide) rfl ?_
  refine e_iconst q_L_law_993 ?_
  refine e_iadd q_L_law_994 ?_
  refine e_sld q_L_law_995 (by first | omega | assumption) (by first | omega | assumption) hXL ?_
  refine e_aload_n q_L_law_996 (by decide) rfl ?_
  refine e_iload_n q_L_law_997 (by decide) rfl ?_
  refine e_iconst q_L_law_998 ?_
  refine e_iadd q_L_law_999 ?_
  refine e_sld q_L_law_1000 (by first | omega | assumption) (by first | omega | assumption) hXL ?_
  refine e_aload_n q_L_law_1001 (by decide) rfl ?_
  refine e_iload_n q_L_law_1002 (by decide) rfl ?_
  refine e_iconst q_L_law_1003 ?_
  refine e_iadd q_L_law_1004 ?_
  refine e_sld q_L_law_1005 (by first | omega | assumption) (by first | omega | assumption) hXL ?_
  refine iv_X12_stay q_L_law_1006 lk_L_109 (by decide) (a39 hB) (Nat.le_of_ble_eq_true rfl) ?_
  refine hm _ (fun s2 N2 hJ2 => ?_)
  exact e_icS q_L_law_1009 (next _ _ hJ2)
theorem lc_22 (hX : X.1 ≤ 3584) {c : Int} (h0 : 0 ≤ c) (hc : c < 512) (hi : 7 * c + 7 ≤ X.1) (hJ : xJ s N c) (next : ∀ s N, xJ s N (c + 1) → zE X m_L_law 1532 [.ref 0, .ref 3, .ref 39, vi (7 * c)] [] (zI s N) Q) : zE X m_L_law 1014 [.ref 0, .ref 3, .ref 39, vi (7 * c)] [] (zI s N) Q := by
  have hXL : X.1 ≤ 2147483647 := by omega
  have hB : zB0 s := hJ.B
  refine e_aload_n q_L_law_1014 (by decide) rfl ?_
  refine e_aload_n q_L_law_1015 (by decide) rfl ?_
  refine e_iload_n q_L_law_1016 (by decide) rfl ?_
  refine e_iconst q_L_law_1017 ?_
  refine e_iadd q_L_law_1018 ?_
  refine e_sld q_L_law_1019 (by first | omega | assumption) (by first | omega | assumption) hXL ?_
  refine e_aload_n q_L_law_1020 (by decide) rfl ?_
  refine e_iload_n q_L_law_1021 (by decide) rfl ?_
  refine e_iconst q_L_law_1022 ?_
  refine e_iadd q_L_law_1023 ?_
  refine e_sld q_L_law_1024 (by first | omega | assumption) (by first | omega | assumption) hXL ?_
  refine iv_X11_charged q_L_law_1025 lk_L_110 (by decide) (a3 hB) (Nat.le_of_ble_eq_true rfl) ?_
  refine j_charged hJ (z_tr _) (z_tr _) (fun r s1 N1 hB hm => ?_)
  refine e_aload_n q_L_law_1028 (by decide) rfl ?_
  refine e_aload_n q_L_law_1029 (by decide) rfl ?_
  refine e_iload_n q_L_law_1030 (by decide) rfl ?_
  refine e_iconst q_L_law_1031 ?_
  refine e_iadd q_L_law_1032 ?_
  refine e_sld q_L_law_1033 (by first | omega | assumption) (by first | omega | assumption) hXL ?_
  refine e_aload_n q_L_law_1034 (by decide) rfl ?_
  refine e_iload_n q_L_law_1035 (by decide) rfl ?_
  refine e_iconst q_L_law_1036 ?_
  refine e_iadd q_L_law_1037 ?_
  refine e_sld q_L_law_1038 (by first | omega | assumption) (by first | omega | assumption) hXL ?_
  refine iv_X12_charged q_L_law_1039 lk_L_113 (by decide) (a39 hB) (Nat.le_of_ble_eq_true rfl) ?_
  refine hm _ (fun s2 N2 hJ2 => ?_)
  exact e_icS q_L_law_1042 (next _ _ hJ2)
theorem lc_23 (hX : X.1 ≤ 3584) {c : Int} (h0 : 0 ≤ c) (hc : c < 512) (hi : 7 * c + 7 ≤ X.1) (hJ : xJ s N c) (next : ∀ s N, xJ s N (c + 1) → zE X m_L_law 1532 [.ref 0, .ref 3, .ref 39, vi (7 * c)] [] (zI s N) Q) : zE X m_L_law 1047 [.ref 0, .ref 3, .ref 39, vi (7 * c)] [] (zI s N) Q := by
  have hXL : X.1 ≤ 2147483647 := by omega
  have hB : zB0 s := hJ.B
  refine e_aload_n q_L_law_1047 (by decide) rfl ?_
  refine e_aload_n q_L_law_1048 (by decide) rfl ?_
  refine e_iload_n q_L_law_1049 (by decide) rfl ?_
  refine e_iconst q_L_law_1050 ?_
  refine e_iadd q_L_law_1051 ?_
  refine e_sld q_L_law_1052 (by first | omega | assumption) (by first | omega | assumption) hXL ?_
  refine iv_X11_whole q_L_law_1053 lk_L_114 (by decide) (a3 hB) (Nat.le_of_ble_eq_true rfl) ?_
  refine j_whole hJ hc (z_tr _) (fun r s1 N1 hB hm => ?_)
  refine e_aload_n q_L_law_1056 (by decide) rfl ?_
  refine e_aload_n q_L_law_1057 (by decide) rfl ?_
  refine e_iload_n q_L_law_1058 (by decide) rfl ?_
  refine e_iconst q_L_law_1059 ?_
  refine e_iadd q_L_law_1060 ?_
  refine e_sld q_L_law_1061 (by first | omega | assumption) (by first | omega | assumption) hXL ?_
  refine iv_X12_whole q_L_law_1062 lk_L_117 (by decide) (a39 hB) (Nat.le_of_ble_eq_true rfl) ?_
  refine hm _ (fun s2 N2 hJ2 => ?_)
  exact e_icS q_L_law_1065 (next _ _ hJ2)
theorem lc_24 (hX : X.1 ≤ 3584) {c : Int} (h0 : 0 ≤ c) (hc : c < 512) (hi : 7 * c + 7 ≤ X.1) (hJ : xJ s N c) (next : ∀ s N, xJ s N (c + 1) → zE X m_L_law 1532 [.ref 0, .ref 3, .ref 39, vi (7 * c)] [] (zI s N) Q) : zE X m_L_law 1070 [.ref 0, .ref 3, .ref 39, vi (7 * c)] [] (zI s N) Q := by
  have hXL : X.1 ≤ 2147483647 := by omega
  have hB : zB0 s := hJ.B
  refine e_aload_n q_L_law_1070 (by decide) rfl ?_
  refine e_aload_n q_L_law_1071 (by decide) rfl ?_
  refine e_iload_n q_L_law_1072 (by decide) rfl ?_
  refine e_iconst q_L_law_1073 ?_
  refine e_iadd q_L_law_1074 ?_
  refine e_sld q_L_law_1075 (by first | omega | assumption) (by first | omega | assumption) hXL ?_
  refine iv_X11_came q_L_law_1076 lk_L_118 (by decide) (a3 hB) (Nat.le_of_ble_eq_true rfl) ?_
  refine j_came hJ (z_tr _) (fun r s1 N1 hB hm => ?_)
  refine e_aload_n q_L_law_1079 (by decide) rfl ?_
  refine e_aload_n q_L_law_1080 (by decide) rfl ?_
  refine e_iload_n q_L_law_1081 (by decide) rfl ?_
  refine e_iconst q_L_law_1082 ?_
  refine e_iadd q_L_law_1083 ?_
  refine e_sld q_L_law_1084 (by first | omega | assumption) (by first | omega | assumption) hXL ?_
  refine iv_X12_came q_L_law_1085 lk_L_121 (by decide) (a39 hB) (Nat.le_of_ble_eq_true rfl) ?_
  refine hm _ (fun s2 N2 hJ2 => ?_)
  exact e_icS q_L_law_1088 (next _ _ hJ2)
theorem lc_25 (hX : X.1 ≤ 3584) {c : Int} (h0 : 0 ≤ c) (hc : c < 512) (hi : 7 * c + 7 ≤ X.1) (hJ : xJ s N c) (next : ∀ s N, xJ s N (c + 1) → zE X m_L_law 1532 [.ref 0, .ref 3, .ref 39, vi (7 * c)] [] (zI s N) Q) : zE X m_L_law 1093 [.ref 0, .ref 3, .ref 39, vi (7 * c)] [] (zI s N) Q := by
  have hXL : X.1 ≤ 2147483647 := by omega
  have hB : zB0 s := hJ.B
  refine e_aload_n q_L_law_1093 (by decide) rfl ?_
  refine e_aload_n q_L_law_1094 (by decide) rfl ?_
  refine e_iload_n q_L_law_1095 (by decide) rfl ?_
  refine e_iconst q_L_law_1096 ?_
  refine e_iadd q_L_law_1097 ?_
  refine e_sld q_L_law_1098 (by first | omega | assumption) (by first | omega | assumption) hXL ?_
  refine e_aload_n q_L_law_1099 (by decide) rfl ?_
  refine e_iload_n q_L_law_1100 (by decide) rfl ?_
  refine e_iconst q_L_law_1101 ?_
  refine e_iadd q_L_law_1102 ?_
  refine e_sld q_L_law_1103 (by first | omega | assumption) (by first | omega | assumption) hXL ?_
  refine iv_X11_plea q_L_law_1104 lk_L_122 (by decide) (a3 hB) (Nat.le_of_ble_eq_true rfl) ?_
  refine j_plea hJ hc (z_tr _) (z_tr _) (fun r s1 N1 hB hm => ?_)
  refine e_aload_n q_L_law_1107 (by decide) rfl ?_
  refine e_aload_n q_L_law_1108 (by decide) rfl ?_
  refine e_iload_n q_L_law_1109 (by decide) rfl ?_
  refine e_iconst q_L_law_1110 ?_
  refine e_iadd q_L_law_1111 ?_
  refine e_sld q_L_law_1112 (by first | omega | assumption) (by first | omega | assumption) hXL ?_
  refine e_aload_n q_L_law_1113 (by decide) rfl ?_
  refine e_iload_n q_L_law_1114 (by decide) rfl ?_
  refine e_iconst q_L_law_1115 ?_
  refine e_iadd q_L_law_1116 ?_
  refine e_sld q_L_law_1117 (by first | omega | assumption) (by first | omega | assumption) hXL ?_
  refine iv_X12_plea q_L_law_1118 lk_L_125 (by decide) (a39 hB) (Nat.le_of_ble_eq_true rfl) ?_
  refine hm _ (fun s2 N2 hJ2 => ?_)
  exact e_icS q_L_law_1121 (next _ _ hJ2)
theorem lc_26 (hX : X.1 ≤ 3584) {c : Int} (h0 : 0 ≤ c) (hc : c < 512) (hi : 7 * c + 7 ≤ X.1) (hJ : xJ s N c) (next : ∀ s N, xJ s N (c + 1) → zE X m_L_law 1532 [.ref 0, .ref 3, .ref 39, vi (7 * c)] [] (zI s N) Q) : zE X m_L_law 1126 [.ref 0, .ref 3, .ref 39, vi (7 * c)] [] (zI s N) Q := by
  have hXL : X.1 ≤ 2147483647 := by omega
  have hB : zB0 s := hJ.B
  refine e_aload_n q_L_law_1126 (by decide) rfl ?_
  refine e_aload_n q_L_law_1127 (by decide) rfl ?_
  refine e_iload_n q_L_law_1128 (by decide) rfl ?_
  refine e_iconst q_L_law_1129 ?_
  refine e_iadd q_L_law_1130 ?_
  refine e_sld q_L_law_1131 (by first | omega | assumption) (by first | omega | assumption) hXL ?_
  refine e_aload_n q_L_law_1132 (by decide) rfl ?_
  refine e_iload_n q_L_law_1133 (by decide) rfl ?_
  refine e_iconst q_L_law_1134 ?_
  refine e_iadd q_L_law_1135 ?_
  refine e_sld q_L_law_1136 (by first | omega | assumption) (by first | omega | assumption) hXL ?_
  refine iv_X11_about q_L_law_1137 lk_L_126 (by decide) (a3 hB) (Nat.le_of_ble_eq_true rfl) ?_
  refine j_about hJ (z_tr _) (z_tr _) (fun r s1 N1 hB hm => ?_)
  refine e_aload_n q_L_law_1140 (by decide) rfl ?_
  refine e_aload_n q_L_law_1141 (by decide) rfl ?_
  refine e_iload_n q_L_law_1142 (by decide) rfl ?_
  refine e_iconst q_L_law_1143 ?_
  refine e_iadd q_L_law_1144 ?_
  refine e_sld q_L_law_1145 (by first | omega | assumption) (by first | omega | assumption) hXL ?_
  refine e_aload_n q_L_law_1146 (by decide) rfl ?_
  refine e_iload_n q_L_law_1147 (by decide) rfl ?_
  refine e_iconst q_L_law_1148 ?_
  refine e_iadd q_L_law_1149 ?_
  refine e_sld q_L_law_1150 (by first | omega | assumption) (by first | omega | assumption) hXL ?_
  refine iv_X12_about q_L_law_1151 lk_L_129 (by decide) (a39 hB) (Nat.le_of_ble_eq_true rfl) ?_
  refine hm _ (fun s2 N2 hJ2 => ?_)
  exact e_icS q_L_law_1154 (next _ _ hJ2)
theorem lc_27 (hX : X.1 ≤ 3584) {c : Int} (h0 : 0 ≤ c) (hc : c < 512) (hi : 7 * c + 7 ≤ X.1) (hJ : xJ s N c) (next : ∀ s N, xJ s N (c + 1) → zE X m_L_law 1532 [.ref 0, .ref 3, .ref 39, vi (7 * c)] [] (zI s N) Q) : zE X m_L_law 1159 [.ref 0, .ref 3, .ref 39, vi (7 * c)] [] (zI s N) Q := by
  have hXL : X.1 ≤ 2147483647 := by omega
  have hB : zB0 s := hJ.B
  refine e_aload_n q_L_law_1159 (by decide) rfl ?_
  refine e_aload_n q_L_law_1160 (by decide) rfl ?_
  refine e_iload_n q_L_law_1161 (by decide) rfl ?_
  refine e_iconst q_L_law_1162 ?_
  refine e_iadd q_L_law_1163 ?_
  refine e_sld q_L_law_1164 (by first | omega | assumption) (by first | omega | assumption) hXL ?_
  refine iv_X11_judge q_L_law_1165 lk_L_130 (by decide) (a3 hB) (Nat.le_of_ble_eq_true rfl) ?_
  refine j_judge hJ hc (z_tr _) (fun r s1 N1 hB hm => ?_)
  refine e_aload_n q_L_law_1168 (by decide) rfl ?_
  refine e_aload_n q_L_law_1169 (by decide) rfl ?_
  refine e_iload_n q_L_law_1170 (by decide) rfl ?_
  refine e_iconst q_L_law_1171 ?_
  refine e_iadd q_L_law_1172 ?_
  refine e_sld q_L_law_1173 (by first | omega | assumption) (by first | omega | assumption) hXL ?_
  refine iv_X12_judge q_L_law_1174 lk_L_133 (by decide) (a39 hB) (Nat.le_of_ble_eq_true rfl) ?_
  refine hm _ (fun s2 N2 hJ2 => ?_)
  exact e_icS q_L_law_1177 (next _ _ hJ2)
theorem lc_28 (hX : X.1 ≤ 3584) {c : Int} (h0 : 0 ≤ c) (hc : c < 512) (hi : 7 * c + 7 ≤ X.1) (hJ : xJ s N c) (next : ∀ s N, xJ s N (c + 1) → zE X m_L_law 1532 [.ref 0, .ref 3, .ref 39, vi (7 * c)] [] (zI s N) Q) : zE X m_L_law 1182 [.ref 0, .ref 3, .ref 39, vi (7 * c)] [] (zI s N) Q := by
  have hXL : X.1 ≤ 2147483647 := by omega
  have hB : zB0 s := hJ.B
  refine e_aload_n q_L_law_1182 (by decide) rfl ?_
  refine e_aload_n q_L_law_1183 (by decide) rfl ?_
  refine e_iload_n q_L_law_1184 (by decide) rfl ?_
  refine e_iconst q_L_law_1185 ?_
  refine e_iadd q_L_law_1186 ?_
  refine e_sld q_L_law_1187 (by first | omega | assumption) (by first | omega | assumption) hXL ?_
  refine e_aload_n q_L_law_1188 (by decide) rfl ?_
  refine e_iload_n q_L_law_1189 (by decide) rfl ?_
  refine e_iconst q_L_law_1190 ?_
  refine e_iadd q_L_law_1191 ?_
  refine e_sld q_L_law_1192 (by first | omega | assumption) (by first | omega | assumption) hXL ?_
  refine iv_X11_owes q_L_law_1193 lk_L_134 (by decide) (a3 hB) (Nat.le_of_ble_eq_true rfl) ?_
  refine j_owes hJ (z_tr _) (z_tr _) (fun r s1 N1 hB hm => ?_)
  refine e_aload_n q_L_law_1196 (by decide) rfl ?_
  refine e_aload_n q_L_law_1197 (by decide) rfl ?_
  refine e_iload_n q_L_law_1198 (by decide) rfl ?_
  refine e_iconst q_L_law_1199 ?_
  refine e_iadd q_L_law_1200 ?_
  refine e_sld q_L_law_1201 (by first | omega | assumption) (by first | omega | assumption) hXL ?_
  refine e_aload_n q_L_law_1202 (by decide) rfl ?_
  refine e_iload_n q_L_law_1203 (by decide) rfl ?_
  refine e_iconst q_L_law_1204 ?_
  refine e_iadd q_L_law_1205 ?_
  refine e_sld q_L_law_1206 (by first | omega | assumption) (by first | omega | assumption) hXL ?_
  refine iv_X12_owes q_L_law_1207 lk_L_137 (by decide) (a39 hB) (Nat.le_of_ble_eq_true rfl) ?_
  refine hm _ (fun s2 N2 hJ2 => ?_)
  exact e_icS q_L_law_1210 (next _ _ hJ2)
theorem lc_29 (hX : X.1 ≤ 3584) {c : Int} (h0 : 0 ≤ c) (hc : c < 512) (hi : 7 * c + 7 ≤ X.1) (hJ : xJ s N c) (next : ∀ s N, xJ s N (c + 1) → zE X m_L_law 1532 [.ref 0, .ref 3, .ref 39, vi (7 * c)] [] (zI s N) Q) : zE X m_L_law 1215 [.ref 0, .ref 3, .ref 39, vi (7 * c)] [] (zI s N) Q := by
  have hXL : X.1 ≤ 2147483647 := by omega
  have hB : zB0 s := hJ.B
  refine e_aload_n q_L_law_1215 (by decide) rfl ?_
  refine e_aload_n q_L_law_1216 (by decide) rfl ?_
  refine e_iload_n q_L_law_1217 (by decide) rfl ?_
  refine e_iconst q_L_law_1218 ?_
  refine e_iadd q_L_law_1219 ?_
  refine e_sld q_L_law_1220 (by first | omega | assumption) (by first | omega | assumption) hXL ?_
  refine e_aload_n q_L_law_1221 (by decide) rfl ?_
  refine e_iload_n q_L_law_1222 (by decide) rfl ?_
  refine e_iconst q_L_law_1223 ?_
  refine e_iadd q_L_law_1224 ?_
  refine e_sld q_L_law_1225 (by first | omega | assumption) (by first | omega | assumption) hXL ?_
  refine iv_X11_pays q_L_law_1226 lk_L_138 (by decide) (a3 hB) (Nat.le_of_ble_eq_true rfl) ?_
  refine j_pays hJ hc (z_tr _) (z_tr _) (fun r s1 N1 hB hm => ?_)
  refine e_aload_n q_L_law_1229 (by decide) rfl ?_
  refine e_aload_n q_L_law_1230 (by decide) rfl ?_
  refine e_iload_n q_L_law_1231 (by decide) rfl ?_
  refine e_iconst q_L_law_1232 ?_
  refine e_iadd q_L_law_1233 ?_
  refine e_sld q_L_law_1234 (by first | omega | assumption) (by first | omega | assumption) hXL ?_
  refine e_aload_n q_L_law_1235 (by decide) rfl ?_
  refine e_iload_n q_L_law_1236 (by decide) rfl ?_
  refine e_iconst q_L_law_1237 ?_
  refine e_iadd q_L_law_1238 ?_
  refine e_sld q_L_law_1239 (by first | omega | assumption) (by first | omega | assumption) hXL ?_
  refine iv_X12_pays q_L_law_1240 lk_L_141 (by decide) (a39 hB) (Nat.le_of_ble_eq_true rfl) ?_
  refine hm _ (fun s2 N2 hJ2 => ?_)
  exact e_icS q_L_law_1243 (next _ _ hJ2)
theorem lc_30 (hX : X.1 ≤ 3584) {c : Int} (h0 : 0 ≤ c) (hc : c < 512) (hi : 7 * c + 7 ≤ X.1) (hJ : xJ s N c) (next : ∀ s N, xJ s N (c + 1) → zE X m_L_law 1532 [.ref 0, .ref 3, .ref 39, vi (7 * c)] [] (zI s N) Q) : zE X m_L_law 1248 [.ref 0, .ref 3, .ref 39, vi (7 * c)] [] (zI s N) Q := by
  have hXL : X.1 ≤ 2147483647 := by omega
  have hB : zB0 s := hJ.B
  refine e_aload_n q_L_law_1248 (by decide) rfl ?_
  refine e_aload_n q_L_law_1249 (by decide) rfl ?_
  refine e_iload_n q_L_law_1250 (by decide) rfl ?_
  refine e_iconst q_L_law_1251 ?_
  refine e_iadd q_L_law_1252 ?_
  refine e_sld q_L_law_1253 (by first | omega | assumption) (by first | omega | assumption) hXL ?_
  refine e_aload_n q_L_law_1254 (by decide) rfl ?_
  refine e_iload_n q_L_law_1255 (by decide) rfl ?_
  refine e_iconst q_L_law_1256 ?_
  refine e_iadd q_L_law_1257 ?_
  refine e_sld q_L_law_1258 (by first | omega | assumption) (by first | omega | assumption) hXL ?_
  refine e_aload_n q_L_law_1259 (by decide) rfl ?_
  refine e_iload_n q_L_law_1260 (by decide) rfl ?_
  refine e_iconst q_L_law_1261 ?_
  refine e_iadd q_L_law_1262 ?_
  refine e_sld q_L_law_1263 (by first | omega | assumption) (by first | omega | assumption) hXL ?_
  refine iv_X11_borne q_L_law_1264 lk_L_142 (by decide) (a3 hB) (Nat.le_of_ble_eq_true rfl) ?_
  refine j_borne hJ (z_tr _) (z_tr _) (z_tr _) (fun r s1 N1 hB hm => ?_)
  refine e_aload_n q_L_law_1267 (by decide) rfl ?_
  refine e_aload_n q_L_law_1268 (by decide) rfl ?_
  refine e_iload_n q_L_law_1269 (by decide) rfl ?_
  refine e_iconst q_L_law_1270 ?_
  refine e_iadd q_L_law_1271 ?_
  refine e_sld q_L_law_1272 (by first | omega | assumption) (by first | omega | assumption) hXL ?_
  refine e_aload_n q_L_law_1273 (by decide) rfl ?_
  refine e_iload_n q_L_law_1274 (by decide) rfl ?_
  refine e_iconst q_L_law_1275 ?_
  refine e_iadd q_L_law_1276 ?_
  refine e_sld q_L_law_1277 (by first | omega | assumption) (by first | omega | assumption) hXL ?_
  refine e_aload_n q_L_law_1278 (by decide) rfl ?_
  refine e_iload_n q_L_law_1279 (by decide) rfl ?_
  refine e_iconst q_L_law_1280 ?_
  refine e_iadd q_L_law_1281 ?_
  refine e_sld q_L_law_1282 (by first | omega | assumption) (by first | omega | assumption) hXL ?_
  refine iv_X12_borne q_L_law_1283 lk_L_145 (by decide) (a39 hB) (Nat.le_of_ble_eq_true rfl) ?_
  refine hm _ (fun s2 N2 hJ2 => ?_)
  exact e_icS q_L_law_1286 (next _ _ hJ2)
theorem lc_31 (hX : X.1 ≤ 3584) {c : Int} (h0 : 0 ≤ c) (hc : c < 512) (hi : 7 * c + 7 ≤ X.1) (hJ : xJ s N c) (next : ∀ s N, xJ s N (c + 1) → zE X m_L_law 1532 [.ref 0, .ref 3, .ref 39, vi (7 * c)] [] (zI s N) Q) : zE X m_L_law 1291 [.ref 0, .ref 3, .ref 39, vi (7 * c)] [] (zI s N) Q := by
  have hXL : X.1 ≤ 2147483647 := by omega
  have hB : zB0 s := hJ.B
  refine e_aload_n q_L_law_1291 (by decide) rfl ?_
  refine e_aload_n q_L_law_1292 (by decide) rfl ?_
  refine e_iload_n q_L_law_1293 (by decide) rfl ?_
  refine e_iconst q_L_law_1294 ?_
  refine e_iadd q_L_law_1295 ?_
  refine e_sld q_L_law_1296 (by first | omega | assumption) (by first | omega | assumption) hXL ?_
  refine iv_X11_count q_L_law_1297 lk_L_146 (by decide) (a3 hB) (Nat.le_of_ble_eq_true rfl) ?_
  refine j_count hJ (z_tr _) (fun r s1 N1 hB hm => ?_)
  refine e_aload_n q_L_law_1300 (by decide) rfl ?_
  refine e_aload_n q_L_law_1301 (by decide) rfl ?_
  refine e_iload_n q_L_law_1302 (by decide) rfl ?_
  refine e_iconst q_L_law_1303 ?_
  refine e_iadd q_L_law_1304 ?_
  refine e_sld q_L_law_1305 (by first | omega | assumption) (by first | omega | assumption) hXL ?_
  refine iv_X12_count q_L_law_1306 lk_L_149 (by decide) (a39 hB) (Nat.le_of_ble_eq_true rfl) ?_
  refine hm _ (fun s2 N2 hJ2 => ?_)
  exact e_icS q_L_law_1309 (next _ _ hJ2)
theorem lc_32 (hX : X.1 ≤ 3584) {c : Int} (h0 : 0 ≤ c) (hc : c < 512) (hi : 7 * c + 7 ≤ X.1) (hJ : xJ s N c) (next : ∀ s N, xJ s N (c + 1) → zE X m_L_law 1532 [.ref 0, .ref 3, .ref 39, vi (7 * c)] [] (zI s N) Q) : zE X m_L_law 1314 [.ref 0, .ref 3, .ref 39, vi (7 * c)] [] (zI s N) Q := by
  have hXL : X.1 ≤ 2147483647 := by omega
  have hB : zB0 s := hJ.B
  refine e_aload_n q_L_law_1314 (by decide) rfl ?_
  refine e_aload_n q_L_law_1315 (by decide) rfl ?_
  refine e_iload_n q_L_law_1316 (by decide) rfl ?_
  refine e_iconst q_L_law_1317 ?_
  refine e_iadd q_L_law_1318 ?_
  refine e_sld q_L_law_1319 (by first | omega | assumption) (by first | omega | assumption) hXL ?_
  refine e_aload_n q_L_law_1320 (by decide) rfl ?_
  refine e_iload_n q_L_law_1321 (by decide) rfl ?_
  refine e_iconst q_L_law_1322 ?_
  refine e_iadd q_L_law_1323 ?_
  refine e_sld q_L_law_1324 (by first | omega | assumption) (by first | omega | assumption) hXL ?_
  refine e_aload_n q_L_law_1325 (by decide) rfl ?_
  refine e_iload_n q_L_law_1326 (by decide) rfl ?_
  refine e_iconst q_L_law_1327 ?_
  refine e_iadd q_L_law_1328 ?_
  refine e_sld q_L_law_1329 (by first | omega | assumption) (by first | omega | assumption) hXL ?_
  refine iv_X11_sheet q_L_law_1330 lk_L_150 (by decide) (a3 hB) (Nat.le_of_ble_eq_true rfl) ?_
  refine j_sheet hJ hc (z_tr _) (z_tr _) (z_tr _) (fun r s1 N1 hB hm => ?_)
  refine e_aload_n q_L_law_1333 (by decide) rfl ?_
  refine e_aload_n q_L_law_1334 (by decide) rfl ?_
  refine e_iload_n q_L_law_1335 (by decide) rfl ?_
  refine e_iconst q_L_law_1336 ?_
  refine e_iadd q_L_law_1337 ?_
  refine e_sld q_L_law_1338 (by first | omega | assumption) (by first | omega | assumption) hXL ?_
  refine e_aload_n q_L_law_1339 (by decide) rfl ?_
  refine e_iload_n q_L_law_1340 (by decide) rfl ?_
  refine e_iconst q_L_law_1341 ?_
  refine e_iadd q_L_law_1342 ?_
  refine e_sld q_L_law_1343 (by first | omega | assumption) (by first | omega | assumption) hXL ?_
  refine e_aload_n q_L_law_1344 (by decide) rfl ?_
  refine e_iload_n q_L_law_1345 (by decide) rfl ?_
  refine e_iconst q_L_law_1346 ?_
  refine e_iadd q_L_law_1347 ?_
  refine e_sld q_L_law_1348 (by first | omega | assumption) (by first | omega | assumption) hXL ?_
  refine iv_X12_sheet q_L_law_1349 lk_L_153 (by decide) (a39 hB) (Nat.le_of_ble_eq_true rfl) ?_
  refine hm _ (fun s2 N2 hJ2 => ?_)
  exact e_icS q_L_law_1352 (next _ _ hJ2)
theorem lc_33 (hX : X.1 ≤ 3584) {c : Int} (h0 : 0 ≤ c) (hc : c < 512) (hi : 7 * c + 7 ≤ X.1) (hJ : xJ s N c) (next : ∀ s N, xJ s N (c + 1) → zE X m_L_law 1532 [.ref 0, .ref 3, .ref 39, vi (7 * c)] [] (zI s N) Q) : zE X m_L_law 1357 [.ref 0, .ref 3, .ref 39, vi (7 * c)] [] (zI s N) Q := by
  have hXL : X.1 ≤ 2147483647 := by omega
  have hB : zB0 s := hJ.B
  refine e_aload_n q_L_law_1357 (by decide) rfl ?_
  refine e_aload_n q_L_law_1358 (by decide) rfl ?_
  refine e_iload_n q_L_law_1359 (by decide) rfl ?_
  refine e_iconst q_L_law_1360 ?_
  refine e_iadd q_L_law_1361 ?_
  refine e_sld q_L_law_1362 (by first | omega | assumption) (by first | omega | assumption) hXL ?_
  refine iv_X11_drop q_L_law_1363 lk_L_154 (by decide) (a3 hB) (Nat.le_of_ble_eq_true rfl) ?_
  refine j_drop hJ hc (z_tr _) (fun r s1 N1 hB hm => ?_)
  refine e_aload_n q_L_law_1366 (by decide) rfl ?_
  refine e_aload_n q_L_law_1367 (by decide) rfl ?_
  refine e_iload_n q_L_law_1368 (by decide) rfl ?_
  refine e_iconst q_L_law_1369 ?_
  refine e_iadd q_L_law_1370 ?_
  refine e_sld q_L_law_1371 (by first | omega | assumption) (by first | omega | assumption) hXL ?_
  refine iv_X12_drop q_L_law_1372 lk_L_157 (by decide) (a39 hB) (Nat.le_of_ble_eq_true rfl) ?_
  refine hm _ (fun s2 N2 hJ2 => ?_)
  exact e_icS q_L_law_1375 (next _ _ hJ2)
theorem lc_34 (hX : X.1 ≤ 3584) {c : Int} (h0 : 0 ≤ c) (hc : c < 512) (hi : 7 * c + 7 ≤ X.1) (hJ : xJ s N c) (next : ∀ s N, xJ s N (c + 1) → zE X m_L_law 1532 [.ref 0, .ref 3, .ref 39, vi (7 * c)] [] (zI s N) Q) : zE X m_L_law 1380 [.ref 0, .ref 3, .ref 39, vi (7 * c)] [] (zI s N) Q := by
  have hXL : X.1 ≤ 2147483647 := by omega
  have hB : zB0 s := hJ.B
  refine e_aload_n q_L_law_1380 (by decide) rfl ?_
  refine e_aload_n q_L_law_1381 (by decide) rfl ?_
  refine e_iload_n q_L_law_1382 (by decide) rfl ?_
  refine e_iconst q_L_law_1383 ?_
  refine e_iadd q_L_law_1384 ?_
  refine e_sld q_L_law_1385 (by first | omega | assumption) (by first | omega | assumption) hXL ?_
  refine e_aload_n q_L_law_1386 (by decide) rfl ?_
  refine e_iload_n q_L_law_1387 (by decide) rfl ?_
  refine e_iconst q_L_law_1388 ?_
  refine e_iadd q_L_law_1389 ?_
  refine e_sld q_L_law_1390 (by first | omega | assumption) (by first | omega | assumption) hXL ?_
  refine e_aload_n q_L_law_1391 (by decide) rfl ?_
  refine e_iload_n q_L_law_1392 (by decide) rfl ?_
  refine e_iconst q_L_law_1393 ?_
  refine e_iadd q_L_law_1394 ?_
  refine e_sld q_L_law_1395 (by first | omega | assumption) (by first | omega | assumption) hXL ?_
  refine e_aload_n q_L_law_1396 (by decide) rfl ?_
  refine e_iload_n q_L_law_1397 (by decide) rfl ?_
  refine e_iconst q_L_law_1398 ?_
  refine e_iadd q_L_law_1399 ?_
  refine e_sld q_L_law_1400 (by first | omega | assumption) (by first | omega | assumption) hXL ?_
  refine iv_X11_item q_L_law_1401 lk_L_158 (by decide) (a3 hB) (Nat.le_of_ble_eq_true rfl) ?_
  refine j_item hJ hc (z_tr _) (z_tr _) (z_tr _) (z_tr _) (fun r s1 N1 hB hm => ?_)
  refine e_aload_n q_L_law_1404 (by decide) rfl ?_
  refine e_aload_n q_L_law_1405 (by decide) rfl ?_
  refine e_iload_n q_L_law_1406 (by decide) rfl ?_
  refine e_iconst q_L_law_1407 ?_
  refine e_iadd q_L_law_1408 ?_
  refine e_sld q_L_law_1409 (by first | omega | assumption) (by first | omega | assumption) hXL ?_
  refine e_aload_n q_L_law_1410 (by decide) rfl ?_
  refine e_iload_n q_L_law_1411 (by decide) rfl ?_
  refine e_iconst q_L_law_1412 ?_
  refine e_iadd q_L_law_1413 ?_
  refine e_sld q_L_law_1414 (by first | omega | assumption) (by first | omega | assumption) hXL ?_
  refine e_aload_n q_L_law_1415 (by decide) rfl ?_
  refine e_iload_n q_L_law_1416 (by decide) rfl ?_
  refine e_iconst q_L_law_1417 ?_
  refine e_iadd q_L_law_1418 ?_
  refine e_sld q_L_law_1419 (by first | omega | assumption) (by first | omega | assumption) hXL ?_
  refine e_aload_n q_L_law_1420 (by decide) rfl ?_
  refine e_iload_n q_L_law_1421 (by decide) rfl ?_
  refine e_iconst q_L_law_1422 ?_
  refine e_iadd q_L_law_1423 ?_
  refine e_sld q_L_law_1424 (by first | omega | assumption) (by first | omega | assumption) hXL ?_
  refine iv_X12_item q_L_law_1425 lk_L_161 (by decide) (a39 hB) (Nat.le_of_ble_eq_true rfl) ?_
  refine hm _ (fun s2 N2 hJ2 => ?_)
  exact e_icS q_L_law_1428 (next _ _ hJ2)
theorem lc_35 (hX : X.1 ≤ 3584) {c : Int} (h0 : 0 ≤ c) (hc : c < 512) (hi : 7 * c + 7 ≤ X.1) (hJ : xJ s N c) (next : ∀ s N, xJ s N (c + 1) → zE X m_L_law 1532 [.ref 0, .ref 3, .ref 39, vi (7 * c)] [] (zI s N) Q) : zE X m_L_law 1433 [.ref 0, .ref 3, .ref 39, vi (7 * c)] [] (zI s N) Q := by
  have hXL : X.1 ≤ 2147483647 := by omega
  have hB : zB0 s := hJ.B
  refine e_aload_n q_L_law_1433 (by decide) rfl ?_
  refine e_aload_n q_L_law_1434 (by decide) rfl ?_
  refine e_iload_n q_L_law_1435 (by decide) rfl ?_
  refine e_iconst q_L_law_1436 ?_
  refine e_iadd q_L_law_1437 ?_
  refine e_sld q_L_law_1438 (by first | omega | assumption) (by first | omega | assumption) hXL ?_
  refine e_aload_n q_L_law_1439 (by decide) rfl ?_
  refine e_iload_n q_L_law_1440 (by decide) rfl ?_
  refine e_iconst q_L_law_1441 ?_
  refine e_iadd q_L_law_1442 ?_
  refine e_sld q_L_law_1443 (by first | omega | assumption) (by first | omega | assumption) hXL ?_
  refine e_aload_n q_L_law_1444 (by decide) rfl ?_
  refine e_iload_n q_L_law_1445 (by decide) rfl ?_
  refine e_iconst q_L_law_1446 ?_
  refine e_iadd q_L_law_1447 ?_
  refine e_sld q_L_law_1448 (by first | omega | assumption) (by first | omega | assumption) hXL ?_
  refine e_aload_n q_L_law_1449 (by decide) rfl ?_
  refine e_iload_n q_L_law_1450 (by decide) rfl ?_
  refine e_iconst q_L_law_1451 ?_
  refine e_iadd q_L_law_1452 ?_
  refine e_sld q_L_law_1453 (by first | omega | assumption) (by first | omega | assumption) hXL ?_
  refine iv_X11_roll q_L_law_1454 lk_L_162 (by decide) (a3 hB) (Nat.le_of_ble_eq_true rfl) ?_
  refine j_roll hJ hc (z_tr _) (z_tr _) (z_tr _) (z_tr _) (fun r s1 N1 hB hm => ?_)
  refine e_aload_n q_L_law_1457 (by decide) rfl ?_
  refine e_aload_n q_L_law_1458 (by decide) rfl ?_
  refine e_iload_n q_L_law_1459 (by decide) rfl ?_
  refine e_iconst q_L_law_1460 ?_
  refine e_iadd q_L_law_1461 ?_
  refine e_sld q_L_law_1462 (by first | omega | assumption) (by first | omega | assumption) hXL ?_
  refine e_aload_n q_L_law_1463 (by decide) rfl ?_
  refine e_iload_n q_L_law_1464 (by decide) rfl ?_
  refine e_iconst q_L_law_1465 ?_
  refine e_iadd q_L_law_1466 ?_
  refine e_sld q_L_law_1467 (by first | omega | assumption) (by first | omega | assumption) hXL ?_
  refine e_aload_n q_L_law_1468 (by decide) rfl ?_
  refine e_iload_n q_L_law_1469 (by decide) rfl ?_
  refine e_iconst q_L_law_1470 ?_
  refine e_iadd q_L_law_1471 ?_
  refine e_sld q_L_law_1472 (by first | omega | assumption) (by first | omega | assumption) hXL ?_
  refine e_aload_n q_L_law_1473 (by decide) rfl ?_
  refine e_iload_n q_L_law_1474 (by decide) rfl ?_
  refine e_iconst q_L_law_1475 ?_
  refine e_iadd q_L_law_1476 ?_
  refine e_sld q_L_law_1477 (by first | omega | assumption) (by first | omega | assumption) hXL ?_
  refine iv_X12_roll q_L_law_1478 lk_L_165 (by decide) (a39 hB) (Nat.le_of_ble_eq_true rfl) ?_
  refine hm _ (fun s2 N2 hJ2 => ?_)
  exact e_icS q_L_law_1481 (next _ _ hJ2)
theorem lc_36 (hX : X.1 ≤ 3584) {c : Int} (h0 : 0 ≤ c) (hc : c < 512) (hi : 7 * c + 7 ≤ X.1) (hJ : xJ s N c) (next : ∀ s N, xJ s N (c + 1) → zE X m_L_law 1532 [.ref 0, .ref 3, .ref 39, vi (7 * c)] [] (zI s N) Q) : zE X m_L_law 1486 [.ref 0, .ref 3, .ref 39, vi (7 * c)] [] (zI s N) Q := by
  have hXL : X.1 ≤ 2147483647 := by omega
  have hB : zB0 s := hJ.B
  refine e_aload_n q_L_law_1486 (by decide) rfl ?_
  refine e_aload_n q_L_law_1487 (by decide) rfl ?_
  refine e_iload_n q_L_law_1488 (by decide) rfl ?_
  refine e_iconst q_L_law_1489 ?_
  refine e_iadd q_L_law_1490 ?_
  refine e_sld q_L_law_1491 (by first | omega | assumption) (by first | omega | assumption) hXL ?_
  refine iv_X11_leftOut q_L_law_1492 lk_L_166 (by decide) (a3 hB) (Nat.le_of_ble_eq_true rfl) ?_
  refine j_leftOut hJ (z_tr _) (fun r s1 N1 hB hm => ?_)
  refine e_aload_n q_L_law_1495 (by decide) rfl ?_
  refine e_aload_n q_L_law_1496 (by decide) rfl ?_
  refine e_iload_n q_L_law_1497 (by decide) rfl ?_
  refine e_iconst q_L_law_1498 ?_
  refine e_iadd q_L_law_1499 ?_
  refine e_sld q_L_law_1500 (by first | omega | assumption) (by first | omega | assumption) hXL ?_
  refine iv_X12_leftOut q_L_law_1501 lk_L_169 (by decide) (a39 hB) (Nat.le_of_ble_eq_true rfl) ?_
  refine hm _ (fun s2 N2 hJ2 => ?_)
  exact e_icS q_L_law_1504 (next _ _ hJ2)
theorem lc_37 (hX : X.1 ≤ 3584) {c : Int} (h0 : 0 ≤ c) (hc : c < 512) (hi : 7 * c + 7 ≤ X.1) (hJ : xJ s N c) (next : ∀ s N, xJ s N (c + 1) → zE X m_L_law 1532 [.ref 0, .ref 3, .ref 39, vi (7 * c)] [] (zI s N) Q) : zE X m_L_law 1509 [.ref 0, .ref 3, .ref 39, vi (7 * c)] [] (zI s N) Q := by
  have hXL : X.1 ≤ 2147483647 := by omega
  have hB : zB0 s := hJ.B
  refine e_aload_n q_L_law_1509 (by decide) rfl ?_
  refine e_aload_n q_L_law_1510 (by decide) rfl ?_
  refine e_iload_n q_L_law_1511 (by decide) rfl ?_
  refine e_iconst q_L_law_1512 ?_
  refine e_iadd q_L_law_1513 ?_
  refine e_sld q_L_law_1514 (by first | omega | assumption) (by first | omega | assumption) hXL ?_
  refine iv_X11_sure q_L_law_1515 lk_L_170 (by decide) (a3 hB) (Nat.le_of_ble_eq_true rfl) ?_
  refine j_sure hJ (z_tr _) (fun r s1 N1 hB hm => ?_)
  refine e_aload_n q_L_law_1518 (by decide) rfl ?_
  refine e_aload_n q_L_law_1519 (by decide) rfl ?_
  refine e_iload_n q_L_law_1520 (by decide) rfl ?_
  refine e_iconst q_L_law_1521 ?_
  refine e_iadd q_L_law_1522 ?_
  refine e_sld q_L_law_1523 (by first | omega | assumption) (by first | omega | assumption) hXL ?_
  refine iv_X12_sure q_L_law_1524 lk_L_173 (by decide) (a39 hB) (Nat.le_of_ble_eq_true rfl) ?_
  refine hm _ (fun s2 N2 hJ2 => ?_)
  exact e_icS q_L_law_1527 (next _ _ hJ2)
theorem law_loop (hX : X.1 ≤ 3584) (hq : ∀ σ : zS, σ.1.1 ≤ 4000 → σ.1.2 ≤ 140000 → Q (some (vi 1)) σ) (f : Nat) : ∀ (c : Nat) (s : zK) (N : zN), X.1 < 7 * (c + f + 1) → c ≤ 512 → xJ s N c → zE X m_L_law 18 [.ref 0, .ref 3, .ref 39, vi (7 * (c : Int))] [] (zI s N) Q := by
  induction f with
  | zero =>
    intro c s N hf hc hJ
    have hz := hJ.sz
    refine e_iload_n q_L_law_18 (by decide) rfl ?_
    refine e_aload_n q_L_law_19 (by decide) rfl ?_
    refine e_slen q_L_law_20 ?_
    refine e_bipush q_L_law_21 (by decide) ?_
    refine e_isub q_L_law_23 ?_
    refine e_icmp_gt q_L_law_24 (by constructor <;> omega) (by constructor <;> omega) (fun c24 => ?_) (fun c24 => absurd (by omega) c24)
    refine e_iconst q_L_law_1538 ?_
    exact e_ireturn q_L_law_1539 rfl rfl (hq _ (by have := hz.1; show s.1.1 ≤ 4000; omega) (by have := hz.2; show s.1.2 ≤ 140000; omega))
  | succ f ih =>
    intro c s N hf hc hJ
    have hz := hJ.sz
    refine e_iload_n q_L_law_18 (by decide) rfl ?_
    refine e_aload_n q_L_law_19 (by decide) rfl ?_
    refine e_slen q_L_law_20 ?_
    refine e_bipush q_L_law_21 (by decide) ?_
    refine e_isub q_L_law_23 ?_
    refine e_icmp_gt q_L_law_24 (by constructor <;> omega) (by constructor <;> omega) (fun c24 => ?_) (fun c24 => ?_)
    · refine e_iconst q_L_law_1538 ?_
      exact e_ireturn q_L_law_1539 rfl rfl (hq _ (by have := hz.1; show s.1.1 ≤ 4000; omega) (by have := hz.2; show s.1.2 ≤ 140000; omega))
    have hi : 7 * (c : Int) + 7 ≤ X.1 := by omega
    have hc1 : (c : Int) < 512 := by omega
    have next : ∀ s N, xJ s N ((c : Int) + 1) → zE X m_L_law 1532 [.ref 0, .ref 3, .ref 39, vi (7 * (c : Int))] [] (zI s N) Q := fun s N h => by
      refine e_iinc (ls' := [_, _, _, _]) q_L_law_1532 (by decide) rfl rfl rfl ?_
      refine e_goto q_L_law_1535 ?_
      have h' : xJ s N ((c + 1 : Nat) : Int) := by
        rw [show ((c + 1 : Nat) : Int) = (c : Int) + 1 by omega]
        exact h
      have g := ih (c + 1) s N (by omega) (by omega) h'
      rw [show 7 * ((c + 1 : Nat) : Int) = 7 * (c : Int) + 7 by omega] at g
      exact g
    refine e_aload_n q_L_law_27 (by decide) rfl ?_
    refine e_iload_n q_L_law_28 (by decide) rfl ?_
    refine e_sld q_L_law_29 (by omega) (by omega) (by omega) ?_
    refine e_bipush q_L_law_30 (by decide) ?_
    refine e_iand q_L_law_32 (v := (X.2 (7 * (c : Int)).toNat &&& Int32.ofInt 63).toInt) (by rw [z_of, z_of]) ?_
    generalize X.2 (7 * (c : Int)).toNat &&& Int32.ofInt 63 = t
    by_cases h37 : 0 ≤ t.toInt ∧ t.toInt ≤ 37
    · have hcs : t.toInt = 0 ∨ t.toInt = 1 ∨ t.toInt = 2 ∨ t.toInt = 3 ∨ t.toInt = 4 ∨ t.toInt = 5 ∨ t.toInt = 6 ∨ t.toInt = 7 ∨ t.toInt = 8 ∨ t.toInt = 9 ∨ t.toInt = 10 ∨ t.toInt = 11 ∨ t.toInt = 12 ∨ t.toInt = 13 ∨ t.toInt = 14 ∨ t.toInt = 15 ∨ t.toInt = 16 ∨ t.toInt = 17 ∨ t.toInt = 18 ∨ t.toInt = 19 ∨ t.toInt = 20 ∨ t.toInt = 21 ∨ t.toInt = 22 ∨ t.toInt = 23 ∨ t.toInt = 24 ∨ t.toInt = 25 ∨ t.toInt = 26 ∨ t.toInt = 27 ∨ t.toInt = 28 ∨ t.toInt = 29 ∨ t.toInt = 30 ∨ t.toInt = 31 ∨ t.toInt = 32 ∨ t.toInt = 33 ∨ t.toInt = 34 ∨ t.toInt = 35 ∨ t.toInt = 36 ∨ t.toInt = 37 := by omega
      rcases hcs with e | e | e | e | e | e | e | e | e | e | e | e | e | e | e | e | e | e | e | e | e | e | e | e | e | e | e | e | e | e | e | e | e | e | e | e | e | e
      · exact e_tableIn (off := 167) (tgt := 200) q_L_law_33 (z_tr _) h37.1 h37.2 (by rw [e]; rfl) rfl (lc_0 hX (by omega) hc1 hi hJ next)
      · exact e_tableIn (off := 190) (tgt := 223) q_L_law_33 (z_tr _) h37.1 h37.2 (by rw [e]; rfl) rfl (lc_1 hX (by omega) hc1 hi hJ next)
      · exact e_tableIn (off := 281) (tgt := 314) q_L_law_33 (z_tr _) h37.1 h37.2 (by rw [e]; rfl) rfl (lc_2 hX (by omega) hc1 hi hJ next)
      · exact e_tableIn (off := 314) (tgt := 347) q_L_law_33 (z_tr _) h37.1 h37.2 (by rw [e]; rfl) rfl (lc_3 hX (by omega) hc1 hi hJ next)
      · exact e_tableIn (off := 347) (tgt := 380) q_L_law_33 (z_tr _) h37.1 h37.2 (by rw [e]; rfl) rfl (lc_4 hX (by omega) hc1 hi hJ next)
      · exact e_tableIn (off := 380) (tgt := 413) q_L_law_33 (z_tr _) h37.1 h37.2 (by rw [e]; rfl) rfl (lc_5 hX (by omega) hc1 hi hJ next)
      · exact e_tableIn (off := 413) (tgt := 446) q_L_law_33 (z_tr _) h37.1 h37.2 (by rw [e]; rfl) rfl (lc_6 hX (by omega) hc1 hi hJ next)
      · exact e_tableIn (off := 446) (tgt := 479) q_L_law_33 (z_tr _) h37.1 h37.2 (by rw [e]; rfl) rfl (lc_7 hX (by omega) hc1 hi hJ next)
      · exact e_tableIn (off := 479) (tgt := 512) q_L_law_33 (z_tr _) h37.1 h37.2 (by rw [e]; rfl) rfl (lc_8 hX (by omega) hc1 hi hJ next)
      · exact e_tableIn (off := 512) (tgt := 545) q_L_law_33 (z_tr _) h37.1 h37.2 (by rw [e]; rfl) rfl (lc_9 hX (by omega) hc1 hi hJ next)
      · exact e_tableIn (off := 575) (tgt := 608) q_L_law_33 (z_tr _) h37.1 h37.2 (by rw [e]; rfl) rfl (lc_10 hX (by omega) hc1 hi hJ next)
      · exact e_tableIn (off := 588) (tgt := 621) q_L_law_33 (z_tr _) h37.1 h37.2 (by rw [e]; rfl) rfl (lc_11 hX (by omega) hc1 hi hJ next)
      · exact e_tableIn (off := 621) (tgt := 654) q_L_law_33 (z_tr _) h37.1 h37.2 (by rw [e]; rfl) rfl (lc_12 hX (by omega) hc1 hi hJ next)
      · exact e_tableIn (off := 654) (tgt := 687) q_L_law_33 (z_tr _) h37.1 h37.2 (by rw [e]; rfl) rfl (lc_13 hX (by omega) hc1 hi hJ next)
      · exact e_tableIn (off := 677) (tgt := 710) q_L_law_33 (z_tr _) h37.1 h37.2 (by rw [e]; rfl) rfl (lc_14 hX (by omega) hc1 hi hJ next)
      · exact e_tableIn (off := 720) (tgt := 753) q_L_law_33 (z_tr _) h37.1 h37.2 (by rw [e]; rfl) rfl (lc_15 hX (by omega) hc1 hi hJ next)
      · exact e_tableIn (off := 753) (tgt := 786) q_L_law_33 (z_tr _) h37.1 h37.2 (by rw [e]; rfl) rfl (lc_16 hX (by omega) hc1 hi hJ next)
      · exact e_tableIn (off := 786) (tgt := 819) q_L_law_33 (z_tr _) h37.1 h37.2 (by rw [e]; rfl) rfl (lc_17 hX (by omega) hc1 hi hJ next)
      · exact e_tableIn (off := 819) (tgt := 852) q_L_law_33 (z_tr _) h37.1 h37.2 (by rw [e]; rfl) rfl (lc_18 hX (by omega) hc1 hi hJ next)
      · exact e_tableIn (off := 852) (tgt := 885) q_L_law_33 (z_tr _) h37.1 h37.2 (by rw [e]; rfl) rfl (lc_19 hX (by omega) hc1 hi hJ next)
      · exact e_tableIn (off := 885) (tgt := 918) q_L_law_33 (z_tr _) h37.1 h37.2 (by rw [e]; rfl) rfl (lc_20 hX (by omega) hc1 hi hJ next)
      · exact e_tableIn (off := 928) (tgt := 961) q_L_law_33 (z_tr _) h37.1 h37.2 (by rw [e]; rfl) rfl (lc_21 hX (by omega) hc1 hi hJ next)
      · exact e_tableIn (off := 981) (tgt := 1014) q_L_law_33 (z_tr _) h37.1 h37.2 (by rw [e]; rfl) rfl (lc_22 hX (by omega) hc1 hi hJ next)
      · exact e_tableIn (off := 1014) (tgt := 1047) q_L_law_33 (z_tr _) h37.1 h37.2 (by rw [e]; rfl) rfl (lc_23 hX (by omega) hc1 hi hJ next)
      · exact e_tableIn (off := 1037) (tgt := 1070) q_L_law_33 (z_tr _) h37.1 h37.2 (by rw [e]; rfl) rfl (lc_24 hX (by omega) hc1 hi hJ next)
      · exact e_tableIn (off := 1060) (tgt := 1093) q_L_law_33 (z_tr _) h37.1 h37.2 (by rw [e]; rfl) rfl (lc_25 hX (by omega) hc1 hi hJ next)
      · exact e_tableIn (off := 1093) (tgt := 1126) q_L_law_33 (z_tr _) h37.1 h37.2 (by rw [e]; rfl) rfl (lc_26 hX (by omega) hc1 hi hJ next)
      · exact e_tableIn (off := 1126) (tgt := 1159) q_L_law_33 (z_tr _) h37.1 h37.2 (by rw [e]; rfl) rfl (lc_27 hX (by omega) hc1 hi hJ next)
      · exact e_tableIn (off := 1149) (tgt := 1182) q_L_law_33 (z_tr _) h37.1 h37.2 (by rw [e]; rfl) rfl (lc_28 hX (by omega) hc1 hi hJ next)
      · exact e_tableIn (off := 1182) (tgt := 1215) q_L_law_33 (z_tr _) h37.1 h37.2 (by rw [e]; rfl) rfl (lc_29 hX (by omega) hc1 hi hJ next)
      · exact e_tableIn (off := 1215) (tgt := 1248) q_L_law_33 (z_tr _) h37.1 h37.2 (by rw [e]; rfl) rfl (lc_30 hX (by omega) hc1 hi hJ next)
      · exact e_tableIn (off := 1258) (tgt := 1291) q_L_law_33 (z_tr _) h37.1 h37.2 (by rw [e]; rfl) rfl (lc_31 hX (by omega) hc1 hi hJ next)
      · exact e_tableIn (off := 1281) (tgt := 1314) q_L_law_33 (z_tr _) h37.1 h37.2 (by rw [e]; rfl) rfl (lc_32 hX (by omega) hc1 hi hJ next)
      · exact e_tableIn (off := 1324) (tgt := 1357) q_L_law_33 (z_tr _) h37.1 h37.2 (by rw [e]; rfl) rfl (lc_33 hX (by omega) hc1 hi hJ next)
      · exact e_tableIn (off := 1347) (tgt := 1380) q_L_law_33 (z_tr _) h37.1 h37.2 (by rw [e]; rfl) rfl (lc_34 hX (by omega) hc1 hi hJ next)
      · exact e_tableIn (off := 1400) (tgt := 1433) q_L_law_33 (z_tr _) h37.1 h37.2 (by rw [e]; rfl) rfl (lc_35 hX (by omega) hc1 hi hJ next)
      · exact e_tableIn (off := 1453) (tgt := 1486) q_L_law_33 (z_tr _) h37.1 h37.2 (by rw [e]; rfl) rfl (lc_36 hX (by omega) hc1 hi hJ next)
      · exact e_tableIn (off := 1476) (tgt := 1509) q_L_law_33 (z_tr _) h37.1 h37.2 (by rw [e]; rfl) rfl (lc_37 hX (by omega) hc1 hi hJ next)
    · exact e_tableOut (tgt := 1532) q_L_law_33 (z_tr _) (by omega) rfl (next s N hJ.up)
theorem law_E (hX : X.1 ≤ 3584) (hq : ∀ σ : zS, σ.1.1 ≤ 4000 → σ.1.2 ≤ 140000 → Q (some (vi 1)) σ) : zE X m_L_law 0 [.ref 0, zU, zU, zU] [] (zP 3 0 []) Q := by
  refine p_new (n' := 4) (k' := 20) q_L_law_0 kd_11 cl_L_7 inst_11 ini_X11 dg_11 rfl (by decide +kernel) rfl rfl ?_
  refine e_dup q_L_law_3 rfl ?_
  refine iv_X11_init q_L_law_4 lk_L_9 (by decide) (Nat.le_of_ble_eq_true rfl) ?_
  refine k_init11 ?_
  refine e_astore_n (ls' := [_, _, _, _]) q_L_law_7 (by decide) rfl rfl ?_
  refine p_new (n' := 40) (k' := 708) q_L_law_8 kd_12 cl_L_10 inst_12 ini_X12 dg_12 rfl (by decide +kernel) rfl rfl ?_
  refine e_dup q_L_law_11 rfl ?_
  refine iv_X12_init q_L_law_12 lk_L_12 (by decide) (Nat.le_of_ble_eq_true rfl) ?_
  refine k_init12 ?_
  refine e_astore_n (ls' := [_, _, _, _]) q_L_law_15 (by decide) rfl rfl ?_
  refine e_iconst q_L_law_16 ?_
  refine e_istore_n (ls' := [_, _, _, _]) q_L_law_17 (by decide) rfl rfl ?_
  rw [z_init]
  exact law_loop hX hq 512 0 _ _ (by omega) (by omega) xJ_init
end LW0
