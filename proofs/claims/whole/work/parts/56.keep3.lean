/-! what one more flight, spell, one changes -/
section JT3
variable {s s' : zK} {N N' : zN} {fa sa fa' sa' : Int → Int}
theorem lastK_c {p q : Nat → Prop} : ∀ {n : Nat}, (∀ j, j < n → (p j ↔ q j)) → lastK p n = lastK q n
  | 0, _ => rfl
  | n + 1, h => by rw [lastK, lastK, lastK_c (fun j hj => h j (by omega)), bi_c (h n (by omega))]
theorem lastF_add {w : Int} (h1 : ∀ k : Int, k ≠ N 39 10 → N' 48 k = N 48 k) (h2 : N' 48 (N 39 10) = w) (h3 : N' 39 10 = N 39 10 + 1) (h0 : 0 ≤ N 39 10) (i : Int) : lastF N' i = if i = w then N 39 10 else lastF N i := by
  unfold lastF
  rw [h3, show (N 39 10 + 1).toNat = (N 39 10).toNat + 1 by omega]
  by_cases hi : i = w
  · rw [if_pos hi, lastK_t (by show N' 48 _ = i; rw [z_cast h0, h2, hi]), z_cast h0]
  · rw [if_neg hi, lastK_f (by show ¬ N' 48 _ = i; rw [z_cast h0, h2]; omega)]
    exact lastK_c (fun j hj => by rw [h1 j (by omega)])
theorem lastS_add {w : Int} (h1 : ∀ k : Int, k ≠ N 39 31 → N' 59 k = N 59 k) (h2 : N' 59 (N 39 31) = w) (h3 : N' 39 31 = N 39 31 + 1) (h0 : 0 ≤ N 39 31) (i : Int) : lastS N' i = if i = w then N 39 31 else lastS N i := by
  unfold lastS
  rw [h3, show (N 39 31 + 1).toNat = (N 39 31).toNat + 1 by omega]
  by_cases hi : i = w
  · rw [if_pos hi, lastK_t (by show N' 59 _ = i; rw [z_cast h0, h2, hi]), z_cast h0]
  · rw [if_neg hi, lastK_f (by show ¬ N' 59 _ = i; rw [z_cast h0, h2]; omega)]
    exact lastK_c (fun j hj => by rw [h1 j (by omega)])
theorem fpv_add (h1 : ∀ k : Int, k ≠ N 39 10 → N' 48 k = N 48 k) {k : Int} (hk0 : 0 ≤ k) (hk : k < N 39 10) : fpv N' k = fpv N k := by
  unfold fpv
  exact lastK_c (fun j hj => by rw [h1 j (by omega), h1 k (by omega)])
theorem fpv_new {w : Int} (h1 : ∀ k : Int, k ≠ N 39 10 → N' 48 k = N 48 k) (h2 : N' 48 (N 39 10) = w) : fpv N' (N 39 10) = lastF N w := by
  unfold fpv lastF
  exact lastK_c (fun j hj => by rw [h1 j (by omega), h2])
theorem spv_add (h1 : ∀ k : Int, k ≠ N 39 31 → N' 59 k = N 59 k) {k : Int} (hk0 : 0 ≤ k) (hk : k < N 39 31) : spv N' k = spv N k := by
  unfold spv
  exact lastK_c (fun j hj => by rw [h1 j (by omega), h1 k (by omega)])
theorem spv_new {w : Int} (h1 : ∀ k : Int, k ≠ N 39 31 → N' 59 k = N 59 k) (h2 : N' 59 (N 39 31) = w) : spv N' (N 39 31) = lastS N w := by
  unfold spv lastS
  exact lastK_c (fun j hj => by rw [h1 j (by omega), h2])
theorem xPer_p {i : Int} {a : Nat} (hs : sK s s') (ha : N' a = N a) (h5 : N' 5 i = N 5 i) (h41 : N' 41 i = N 41 i) (h42 : N' 42 i = N 42 i) (h43 : N' 43 i = N 43 i) (h44 : N' 44 i = N 44 i) (h45 : N' 45 i = N 45 i) (h46 : N' 46 i = N 46 i) (h47 : N' 47 i = N 47 i) (h73 : N' 73 i = N 73 i) (h49 : N' 39 49 = N 39 49) (hlF : orZ fa' (lastF N' i) = orZ fa (lastF N i)) (hlS : orZ sa' (lastS N' i) = orZ sa (lastS N i)) (h : xPer s N fa sa i a) : xPer s' N' fa' sa' i a := by
  obtain ⟨p88, pA, p5, p0, p1, p2, p3, p4, p5f, p6, p7, p8, p9⟩ := h
  unfold xPer
  rw [ha, h5, h41, h42, h43, h44, h45, h46, h47, h73, h49, hlF, hlS]
  exact ⟨p88, hs.A pA, p5, p0, p1, p2, p3, p4, p5f, p6, p7, p8, p9⟩
theorem xFlt_p {k : Int} {a : Nat} (hs : sK s s') (ha : N' a = N a) (hk : fa' k = fa k) (h49 : N' 49 k = N 49 k) (h50 : N' 50 k = N 50 k) (hp : orZ fa' (fpv N' k) = orZ fa (fpv N k)) (h : xFlt s N fa k a) : xFlt s' N' fa' k a := by
  obtain ⟨b88, bA, bf, b0, b1, b2⟩ := h
  unfold xFlt
  rw [ha, hk, h49, h50, hp]
  exact ⟨b88, hs.A bA, bf, b0, b1, b2⟩
theorem xSpl_p {k : Int} {a : Nat} (hs : sK s s') (ha : N' a = N a) (hk : sa' k = sa k) (h60 : N' 60 k = N 60 k) (h61 : N' 61 k = N 61 k) (h62 : N' 62 k = N 62 k) (hp : orZ sa' (spv N' k) = orZ sa (spv N k)) (h : xSpl s N sa k a) : xSpl s' N' sa' k a := by
  obtain ⟨b88, bA, bf, b0, b1, b2, b3⟩ := h
  unfold xSpl
  rw [ha, hk, h60, h61, h62, hp]
  exact ⟨b88, hs.A bA, bf, b0, b1, b2, b3⟩
theorem xPle_p {p : Int} {a b c : Nat} (hs : sK s s') (ha : N' a = N a) (hb : N' b = N b) (hcc : N' c = N c) (h11 : N' 11 p = N 11 p) (hc : sC N N' [74, 75, 76, 77, 78, 79, 80]) (h48 : N' 48 (N 74 p) = N 48 (N 74 p)) (hf : fa' (N 74 p) = fa (N 74 p)) (h : xPle s N fa p a b c) : xPle s' N' fa' p a b c := by
  obtain ⟨l88, lA, l11, l0, l1, l2, l3, l4, l5, l6, l7, l8, lb88, lbA, lc88, lcA, lrow⟩ := h
  unfold xPle
  rw [ha, hb, hcc, h11, hc 74 (by decide), hc 75 (by decide), hc 76 (by decide), hc 77 (by decide), hc 78 (by decide), hc 79 (by decide), hc 80 (by decide), h48, hf]
  exact ⟨l88, hs.A lA, l11, l0, l1, l2, l3, l4, l5, l6, l7, l8, lb88, hs.A lbA, lc88, hs.A lcA, lrow⟩
/-- pleas, as flights come in -/
theorem xLs_f (hs : sK s s') (h8 : s8 s N N' 5) (h80 : s8 s N N' 20) (h81 : s8 s N N' 21) (hc : sC N N' [11, 74, 75, 76, 77, 78, 79, 80]) (h50 : N' 39 50 = N 39 50) (hm : mPle N) (h48 : ∀ k : Int, 0 ≤ k → k < N 39 10 → N' 48 k = N 48 k) (hf : ∀ k : Int, 0 ≤ k → k < N 39 10 → fa' k = fa k) (h : xLs s N fa) : xLs s' N' fa' := by
  have adr : ∀ i : Int, 0 ≤ i → i < N 39 50 → N' (N 11 i).toNat = N (N 11 i).toNat := by
    intro i h0 h1
    obtain ⟨a, b, c, hp⟩ := h.1 i h0 h1
    have e : (N 11 i).toNat = a := by rw [hp.2.2.1]; rfl
    rw [e]
    exact h8.at hp.1 hp.2.1
  refine ⟨fun p h0 h1 => ?_, fun i j hi0 hi1 hj0 hj1 => ?_⟩
  · rw [h50] at h1
    obtain ⟨a, b, c, hp⟩ := h.1 p h0 h1
    have hq := (hm p h0 h1).1
    exact ⟨a, b, c, xPle_p hs (h8.at hp.1 hp.2.1) (h81.at hp.2.2.2.2.2.2.2.2.2.2.2.2.1 hp.2.2.2.2.2.2.2.2.2.2.2.2.2.1) (h80.at hp.2.2.2.2.2.2.2.2.2.2.2.2.2.2.1 hp.2.2.2.2.2.2.2.2.2.2.2.2.2.2.2.1) (by rw [hc 11 (by decide)]) (hc.sub (by decide)) (h48 _ hq.1 hq.2) (hf _ hq.1 hq.2) hp⟩
  · rw [h50] at hi1 hj1
    rw [hc 11 (by decide), adr i hi0 hi1, adr j hj0 hj1]
    exact h.2 i j hi0 hi1 hj0 hj1
theorem cnt_u1 {p q : Nat → Prop} {w : Nat} (h : ∀ i, i ≠ w → (p i ↔ q i)) : ∀ n : Nat, cnt p n ≤ cnt q n + (if w < n then 1 else 0)
  | 0 => by simp [cnt, sumK]
  | n + 1 => by
    have ih := cnt_u1 h n
    rw [cnt_s, cnt_s]
    have b1 := bi_r (p n)
    have b2 := bi_r (q n)
    by_cases hw : n = w
    · rw [if_pos (by omega)]; rw [if_neg (by omega)] at ih; omega
    · rw [bi_c (h n hw)]
      split at ih
      · rw [if_pos (by omega)]; omega
      · rw [if_neg (by omega)]; omega
theorem cnt_dn {p q : Nat → Prop} {w : Nat} (h : ∀ i, i ≠ w → (p i ↔ q i)) (hp : ¬ p w) (hq : q w) : ∀ n : Nat, cnt p n + (if w < n then 1 else 0) = cnt q n
  | 0 => by simp [cnt, sumK]
  | n + 1 => by
    have ih := cnt_dn h hp hq n
    rw [cnt_s, cnt_s]
    by_cases hw : n = w
    · rw [if_pos (by omega)]
      rw [if_neg (by omega)] at ih
      rw [hw, bi_f hp, bi_t hq, ← hw]
      omega
    · rw [bi_c (h n hw)]
      split at ih
      · rw [if_pos (by omega)]; omega
      · rw [if_neg (by omega)]; omega
end JT3
