/-! making whole, 7 (printed by wip/whole/gen/f7.py) -/
section FI7
variable {X : zX} {s : zK} {N : zN} {σ : zS} {fa sa : Int → Int} {Q K : Option Value → zS → Prop} {c : Int}
def nwS (N : zN) (i : Nat) (N1 : zN) : Prop := (∀ (a : Nat) (x : Int), (∀ p : Nat, p < i → ¬ (a = (N 5 p).toNat ∧ x = 7)) → N1 a x = N a x) ∧ ∀ p : Nat, p < i → N1 (N 5 p).toNat 7 = -4
theorem nwS.cl {N1 : zN} {i : Nat} (h : nwS N i N1) (hA : ∀ p : Nat, p < i → 88 ≤ (N 5 p).toNat) {c : Nat} (hc : c < 88) : N1 c = N c := by
  funext x
  refine h.1 c x (fun p hp q => ?_)
  have := hA p hp
  omega
theorem nwS.x {N1 : zN} {i : Nat} (h : nwS N i N1) {c : Nat} {x : Int} (hx : x ≠ 7) : N1 c x = N c x := h.1 c x (fun p _ q => hx q.2)
/-- those who come, one behind the other -/
def stS (d : Int) (A : Nat → Nat) (f : Nat → Int) (p : zK × zN) : Nat → zK × zN
  | 0 => p
  | k + 1 => (z_ns (stS d A f p k).1 (8, 0) 4, xn_begin (mup (stS d A f p k).2 (A k) 7 (f k)) (A k) (stS d A f p k).1.1.1 (f k) d)
section STS
variable {d : Int} {A : Nat → Nat} {f : Nat → Int} {p : zK × zN}
theorem stS_1 : ∀ k : Nat, (stS d A f p k).1.1.1 = p.1.1.1 + k
  | 0 => rfl
  | k + 1 => by
    show (stS d A f p k).1.1.1 + 1 = _
    rw [stS_1 k]; omega
theorem stS_k : ∀ k : Nat, sK p.1 (stS d A f p k).1
  | 0 => sK.rf
  | k + 1 => (stS_k k).trans sK.ns
theorem stS_c {K : Nat} (hA : ∀ k, k < K → 88 ≤ A k ∧ A k < p.1.1.1) (h88 : 88 ≤ p.1.1.1) {c : Nat} (hc : c < 88) (h3 : c ≠ 3) : ∀ k : Nat, k ≤ K → (stS d A f p k).2 c = p.2 c
  | 0, _ => rfl
  | k + 1, hk => by
    have h1 := hA k (by omega)
    have h2 := stS_1 (d := d) (A := A) (f := f) (p := p) k
    show xn_begin _ _ _ _ _ c = _
    unfold xn_begin
    rw [mup_fn (by omega), mup_fn (by omega), mup_fn (by omega), mup_fn (by omega), mup_fn (by omega), mup_fn (by omega), mup_fn (by omega)]
    exact stS_c hA h88 hc h3 k (by omega)
theorem stS_z {K : Nat} (hA : ∀ k, k < K → 88 ≤ A k ∧ A k < p.1.1.1) (h88 : 88 ≤ p.1.1.1) (hz : ∀ a, p.1.1.1 ≤ a → ∀ j, p.2 a j = 0) : ∀ k : Nat, k ≤ K → ∀ a, p.1.1.1 + k ≤ a → ∀ j, (stS d A f p k).2 a j = 0
  | 0, _, a, ha, j => hz a ha j
  | k + 1, hk, a, ha, j => by
    have h1 := hA k (by omega)
    have h2 := stS_1 (d := d) (A := A) (f := f) (p := p) k
    show xn_begin _ _ _ _ _ a j = _
    unfold xn_begin
    rw [mup_cell (by omega), mup_cell (by omega), mup_cell (by omega), mup_cell (by omega), mup_cell (by omega), mup_cell (by omega), mup_cell (by omega)]
    exact stS_z hA h88 hz k (by omega) a (by omega) j
theorem stS_9 {a : Nat} (h88 : 88 ≤ a) (ha : a < p.1.1.1) (h9 : 0 ≤ p.2 a 9) : ∀ k : Nat, 0 ≤ (stS d A f p k).2 a 9
  | 0 => h9
  | k + 1 => by
    have h2 := stS_1 (d := d) (A := A) (f := f) (p := p) k
    show 0 ≤ xn_begin _ _ _ _ _ a 9
    unfold xn_begin
    by_cases hA : a = A k
    · rw [hA, mup_self]; omega
    · rw [mup_cell hA, mup_cell (by omega), mup_cell (by omega), mup_cell (by omega), mup_cell (by omega), mup_cell (by omega), mup_cell hA]
      exact stS_9 h88 ha h9 k
end STS
set_option maxRecDepth 20000 in
set_option maxHeartbeats 2000000 in
theorem x_settle (hI : xI s N fa sa) {d : Int} {K : Nat} (hK : N 25 2 = K) (hK6 : K ≤ 6) (hwh : ∀ k : Nat, k < K → 0 ≤ N 26 k ∧ N 26 k < N 39 2) {w : Int} (hw : N 29 ((2 ^ K - 1 : Nat) : Int) = w) (hw0 : 0 ≤ w ∧ w < 2147483648) (h : ∀ N1, nwS N (N 39 2).toNat N1 → Q none (zI (stS d (fun k : Nat => (N 5 (N 26 k)).toNat) (fun k : Nat => w / pw8 k % 8) (s, N1) K).1 (stS d (fun k : Nat => (N 5 (N 26 k)).toNat) (fun k : Nat => w / pw8 k % 8) (s, N1) K).2)) : zC X m_X11_settle [.ref 3, vi d] (zI s N) Q := by
  have hB := hI.B
  have hR := hI.R
  have hC := hI.C
  unfold mCnt at hC
  have hm := hI.m
  obtain ⟨e1, e5, e7, e8, e10, e11, e3, e12, eh, eg, ef, et⟩ := hI.hs
  have hA5' : ∀ p : Nat, p < (N 39 2).toNat → 88 ≤ (N 5 p).toNat := fun p hp => by
    obtain ⟨b, hb⟩ := hI.ps.1 (p : Int) (by omega) (by omega)
    have h2 := hb.2.2.1
    have h3 := hb.1
    omega
  show zE X m_X11_settle 0 [.ref 3, vi d, zU, zU] [] _ Q
  refine e_iconst q_X11_settle_0 ?_
  refine e_istore_n (ls' := [_, _, _, _]) q_X11_settle_1 (by decide) rfl rfl ?_
  refine zEe (ls := [.ref 3, vi d, vi ((0 : Nat) : Int), zU]) (σ := zI s N) ?_ rfl rfl
  refine z_for (P := fun i => ∀ (N1 : zN) (u3 : Value), (nwS N i N1) → zE X m_X11_settle 2 [.ref 3, vi d, vi (i : Int), u3] [] (zI s N1) Q) (N 39 2).toNat (fun i hi ih N1 u3 hv => ?_) (fun N1 u3 hv => ?_) N zU ⟨fun _ _ _ => rfl, fun p hp => by omega⟩
  · skip
    have hA5 : ∀ p : Nat, p < i → 88 ≤ (N 5 p).toNat := fun p hp => hA5' p (by omega)
    have e33 : N1 3 3 = N 39 2 := (congrFun (hv.cl hA5 (by decide)) 3).trans e3
    refine e_iload_n q_X11_settle_2 (by decide) rfl ?_
    refine e_aload_n q_X11_settle_3 (by decide) rfl ?_
    refine i_getI (k' := 3) q_X11_settle_4 fl_X11_107 (a3 hB) rfl rfl rfl e33 ?_
    refine e_icmp_ge q_X11_settle_7 (by constructor <;> omega) (by constructor <;> omega) (fun c7 => ?_) (fun c7 => ?_)
    · skip
      exact absurd c7 (by omega)
    · skip
      refine e_aload_n q_X11_settle_10 (by decide) rfl ?_
      refine i_getC (r := 5) q_X11_settle_11 fl_X11_15 (a3 hB) rfl (by decide) ?_
      refine e_iload_n q_X11_settle_14 (by decide) rfl ?_
      obtain ⟨a, hp⟩ := hI.ps.1 (i : Int) (by omega) (by omega)
      obtain ⟨p88, pA, p5, p0, p1, p2, p3, p4, p5f, p6, p7, p8, p9⟩ := id hp
      refine i_aald q_X11_settle_15 (a5 hB) (by decide) (fun _ => rfl) (by omega) (by omega) (by decide) ((congrFun (hv.cl hA5 (by decide)) _).trans p5) (by omega) ?_
      refine e_bipush q_X11_settle_16 (by decide) ?_
      refine i_putI (k' := 7) q_X11_settle_18 fl_X11_288 (Or.inl rfl) pA (cref0 (by omega) _) rfl rfl rfl rfl ?_
      refine e_iinc (ls' := [_, _, _, _]) q_X11_settle_21 (by decide) rfl rfl rfl ?_
      refine e_goto q_X11_settle_24 ?_
      have haA : (N 5 i).toNat = a := by rw [p5]; rfl
      refine ih _ _ ⟨fun b x hq => ?_, fun p hp => ?_⟩
      · have h1 := hq i (by omega)
        rw [haA] at h1
        rw [show mup N1 a 7 (-4) b x = N1 b x from by
          by_cases hb : b = a
          · rw [hb, mup_slot (fun e => h1 ⟨hb, e⟩)]
          · rw [mup_cell hb]]
        exact hv.1 b x (fun p hp => hq p (by omega))
      · by_cases hpi : (N 5 p).toNat = a
        · rw [hpi, mup_self]
        · rw [mup_cell hpi]
          refine hv.2 p ?_
          by_cases he : p = i
          · rw [he] at hpi; exact absurd haA hpi
          · omega
  · skip
    have hA5 : ∀ p : Nat, p < (N 39 2).toNat → 88 ≤ (N 5 p).toNat := fun p hp => hA5' p (by omega)
    have e33 : N1 3 3 = N 39 2 := (congrFun (hv.cl hA5 (by decide)) 3).trans e3
    refine e_iload_n q_X11_settle_2 (by decide) rfl ?_
    refine e_aload_n q_X11_settle_3 (by decide) rfl ?_
    refine i_getI (k' := 3) q_X11_settle_4 fl_X11_107 (a3 hB) rfl rfl rfl e33 ?_
    refine e_icmp_ge q_X11_settle_7 (by constructor <;> omega) (by constructor <;> omega) (fun c7 => ?_) (fun c7 => ?_)
    · skip
      have hv1 := hv
      have hz1 : ∀ a, s.1.1 ≤ a → ∀ j, N1 a j = 0 := fun a ha j => by
        rw [hv.1 a j (fun p hp q => ?_)]
        · exact hI.2.1.2 a ha j
        · obtain ⟨b, hb⟩ := hI.ps.1 (p : Int) (by omega) (by omega)
          have h1 := hb.2.1.2.1
          have h2 := hb.2.2.1
          omega
      have hA : ∀ k : Nat, k < K → 88 ≤ (fun k : Nat => (N 5 (N 26 k)).toNat) k ∧ (fun k : Nat => (N 5 (N 26 k)).toNat) k < s.1.1 := fun k hk => by
        obtain ⟨b, hb⟩ := hI.ps.1 (N 26 k) (hwh k hk).1 (hwh k hk).2
        have h1 := hb.2.1.2.1
        have h2 := hb.2.2.1
        have h3 := hb.1
        show 88 ≤ (N 5 (N 26 k)).toNat ∧ (N 5 (N 26 k)).toNat < s.1.1
        omega
      refine e_iconst q_X11_settle_27 ?_
      refine e_istore_n (ls' := [_, _, _, _]) q_X11_settle_28 (by decide) rfl rfl ?_
      refine zEe (ls := [.ref 3, vi d, vi ((0 : Nat) : Int), u3]) (σ := zI (stS d (fun k : Nat => (N 5 (N 26 k)).toNat) (fun k : Nat => w / pw8 k % 8) (s, N1) 0).1 (stS d (fun k : Nat => (N 5 (N 26 k)).toNat) (fun k : Nat => w / pw8 k % 8) (s, N1) 0).2) ?_ rfl rfl
      refine z_for (P := fun i => ∀ (u3 : Value), (True) → zE X m_X11_settle 29 [.ref 3, vi d, vi (i : Int), u3] [] (zI (stS d (fun k : Nat => (N 5 (N 26 k)).toNat) (fun k : Nat => w / pw8 k % 8) (s, N1) i).1 (stS d (fun k : Nat => (N 5 (N 26 k)).toNat) (fun k : Nat => w / pw8 k % 8) (s, N1) i).2) Q) K (fun i hi ih u3 hv => ?_) (fun u3 hv => ?_) _ trivial
      · skip
        have q1 : (stS d (fun k : Nat => (N 5 (N 26 k)).toNat) (fun k : Nat => w / pw8 k % 8) (s, N1) i).1.1.1 = s.1.1 + i := stS_1 i
        have q2 : sK s (stS d (fun k : Nat => (N 5 (N 26 k)).toNat) (fun k : Nat => w / pw8 k % 8) (s, N1) i).1 := stS_k (p := (s, N1)) i
        have q3 : ∀ c : Nat, c < 88 → c ≠ 3 → (stS d (fun k : Nat => (N 5 (N 26 k)).toNat) (fun k : Nat => w / pw8 k % 8) (s, N1) i).2 c = N c := fun c h1 h2 => (stS_c (K := K) hA hB.1 h1 h2 i (by omega)).trans (hv1.cl hA5 h1)
        have q4 : ∀ a, (stS d (fun k : Nat => (N 5 (N 26 k)).toNat) (fun k : Nat => w / pw8 k % 8) (s, N1) i).1.1.1 ≤ a → ∀ j, (stS d (fun k : Nat => (N 5 (N 26 k)).toNat) (fun k : Nat => w / pw8 k % 8) (s, N1) i).2 a j = 0 := fun a h1 j => stS_z (K := K) hA hB.1 hz1 i (by omega) a (by show s.1.1 + i ≤ a; omega) j
        have q5 : ∀ a : Nat, 88 ≤ a → a < s.1.1 → 0 ≤ N1 a 9 → 0 ≤ (stS d (fun k : Nat => (N 5 (N 26 k)).toNat) (fun k : Nat => w / pw8 k % 8) (s, N1) i).2 a 9 := fun a h1 h2 h3 => stS_9 h1 h2 h3 i
        have hB0 := hB
        have hB := hB.k q2
        have e252 : (stS d (fun k : Nat => (N 5 (N 26 k)).toNat) (fun k : Nat => w / pw8 k % 8) (s, N1) i).2 25 2 = K := (congrFun (q3 25 (by decide) (by decide)) 2).trans hK
        refine e_iload_n q_X11_settle_29 (by decide) rfl ?_
        refine e_aload_n q_X11_settle_30 (by decide) rfl ?_
        refine i_getC (r := 25) q_X11_settle_31 fl_X11_74 (a3 hB) rfl (by decide) ?_
        refine i_getI (k' := 2) q_X11_settle_34 fl_X11_272 (a25 hB) rfl rfl rfl e252 ?_
        refine e_icmp_ge q_X11_settle_37 (by constructor <;> omega) (by constructor <;> omega) (fun c37 => ?_) (fun c37 => ?_)
        · skip
          exact absurd c37 (by omega)
        · skip
          refine e_aload_n q_X11_settle_40 (by decide) rfl ?_
          refine i_getC (r := 5) q_X11_settle_41 fl_X11_15 (a3 hB) rfl (by decide) ?_
          refine e_aload_n q_X11_settle_44 (by decide) rfl ?_
          refine i_getC (r := 25) q_X11_settle_45 fl_X11_74 (a3 hB) rfl (by decide) ?_
          refine i_getC (r := 26) q_X11_settle_48 fl_X11_438 (a25 hB) rfl (by decide) ?_
          refine e_iload_n q_X11_settle_51 (by decide) rfl ?_
          refine i_iald q_X11_settle_52 (a26 hB) (fun _ => rfl) (by first | omega | assumption) (by first | omega | assumption) (by decide) (congrFun (q3 26 (by decide) (by decide)) i) ?_
          obtain ⟨a, hp⟩ := hI.ps.1 (N 26 i) (hwh i (by omega)).1 (hwh i (by omega)).2
          obtain ⟨p88, pA, p5, p0, p1, p2, p3, p4, p5f, p6, p7, p8, p9⟩ := id hp
          have hwi := hwh i (by omega)
          have haA : a = (N 5 (N 26 i)).toNat := by rw [p5]; rfl
          have p5' : (stS d (fun k : Nat => (N 5 (N 26 k)).toNat) (fun k : Nat => w / pw8 k % 8) (s, N1) i).2 5 (N 26 i) = (a : Int) := (congrFun (q3 5 (by decide) (by decide)) _).trans p5
          have pA' := q2.A pA
          obtain ⟨r, hr⟩ : ∃ r : Nat, N a 9 = (r : Int) := by
            by_cases hl : lastS N (N 26 i) < 0
            · exact ⟨0, by rw [p9, orZ_n hl]; rfl⟩
            · obtain ⟨b, hb⟩ := hI.ss.1 (lastS N (N 26 i)) (by omega) (by have := lastS_b N (N 26 i); omega)
              exact ⟨b, by rw [p9, orZ_p (by omega)]; exact hb.2.2.1⟩
          have h9 : 0 ≤ (stS d (fun k : Nat => (N 5 (N 26 k)).toNat) (fun k : Nat => w / pw8 k % 8) (s, N1) i).2 a 9 := q5 a p88 pA.2.1 (by rw [hv1.x (by decide), hr]; omega)
          refine i_aald q_X11_settle_53 (a5 hB) (by decide) (fun _ => rfl) (by omega) (by omega) (by decide) p5' (by omega) ?_
          refine e_astore_n (ls' := [_, _, _, _]) q_X11_settle_54 (by decide) rfl rfl ?_
          refine e_aload_n q_X11_settle_55 (by decide) rfl ?_
          refine e_aload_n q_X11_settle_56 (by decide) rfl ?_
          refine i_getC (r := 25) q_X11_settle_57 fl_X11_74 (a3 hB) rfl (by decide) ?_
          refine e_iload_n q_X11_settle_60 (by decide) rfl ?_
          refine iv_X1_groupFor q_X11_settle_61 lk_X11_458 (by decide) (a25 hB) (Nat.le_of_ble_eq_true rfl) ?_
          refine x_groupFor hB e252 hK6 ((congrFun (q3 29 (by decide) (by decide)) _).trans hw) hw0 (by omega) ?_
          refine i_putI (k' := 7) q_X11_settle_64 fl_X11_288 (Or.inl rfl) pA' (cref0 (by omega) _) rfl rfl rfl rfl ?_
          refine e_aload_n q_X11_settle_67 (by decide) rfl ?_
          refine e_aload_n q_X11_settle_68 (by decide) rfl ?_
          refine e_aload_n q_X11_settle_69 (by decide) rfl ?_
          refine i_getI (k' := 7) q_X11_settle_70 fl_X11_288 pA' (cref0 (by omega) _) rfl rfl (mup_self _ _ _ _) ?_
          refine e_iload_n q_X11_settle_73 (by decide) rfl ?_
          refine iv_X11_beginSpell rfl q_X11_settle_74 lk_X11_228 (by decide) (a3 hB) (Nat.le_of_ble_eq_true rfl) ?_
          refine x_beginSpell hB (fun b h1 j => (mup_cell (by have := pA'.2.1; omega)).trans (q4 b h1 j)) p88 pA' (r := ((stS d (fun k : Nat => (N 5 (N 26 k)).toNat) (fun k : Nat => w / pw8 k % 8) (s, N1) i).2 a 9).toNat) (by rw [mup_slot (by decide), Int.toNat_of_nonneg h9]) ?_
          refine e_iinc (ls' := [_, _, _, _]) q_X11_settle_77 (by decide) rfl rfl rfl ?_
          refine e_goto q_X11_settle_80 ?_
          subst haA
          exact ih _ trivial
      · skip
        have q1 : (stS d (fun k : Nat => (N 5 (N 26 k)).toNat) (fun k : Nat => w / pw8 k % 8) (s, N1) K).1.1.1 = s.1.1 + K := stS_1 K
        have q2 : sK s (stS d (fun k : Nat => (N 5 (N 26 k)).toNat) (fun k : Nat => w / pw8 k % 8) (s, N1) K).1 := stS_k (p := (s, N1)) K
        have q3 : ∀ c : Nat, c < 88 → c ≠ 3 → (stS d (fun k : Nat => (N 5 (N 26 k)).toNat) (fun k : Nat => w / pw8 k % 8) (s, N1) K).2 c = N c := fun c h1 h2 => (stS_c (K := K) hA hB.1 h1 h2 K (by omega)).trans (hv1.cl hA5 h1)
        have q4 : ∀ a, (stS d (fun k : Nat => (N 5 (N 26 k)).toNat) (fun k : Nat => w / pw8 k % 8) (s, N1) K).1.1.1 ≤ a → ∀ j, (stS d (fun k : Nat => (N 5 (N 26 k)).toNat) (fun k : Nat => w / pw8 k % 8) (s, N1) K).2 a j = 0 := fun a h1 j => stS_z (K := K) hA hB.1 hz1 K (by omega) a (by show s.1.1 + K ≤ a; omega) j
        have q5 : ∀ a : Nat, 88 ≤ a → a < s.1.1 → 0 ≤ N1 a 9 → 0 ≤ (stS d (fun k : Nat => (N 5 (N 26 k)).toNat) (fun k : Nat => w / pw8 k % 8) (s, N1) K).2 a 9 := fun a h1 h2 h3 => stS_9 h1 h2 h3 K
        have hB0 := hB
        have hB := hB.k q2
        have e252 : (stS d (fun k : Nat => (N 5 (N 26 k)).toNat) (fun k : Nat => w / pw8 k % 8) (s, N1) K).2 25 2 = K := (congrFun (q3 25 (by decide) (by decide)) 2).trans hK
        refine e_iload_n q_X11_settle_29 (by decide) rfl ?_
        refine e_aload_n q_X11_settle_30 (by decide) rfl ?_
        refine i_getC (r := 25) q_X11_settle_31 fl_X11_74 (a3 hB) rfl (by decide) ?_
        refine i_getI (k' := 2) q_X11_settle_34 fl_X11_272 (a25 hB) rfl rfl rfl e252 ?_
        refine e_icmp_ge q_X11_settle_37 (by constructor <;> omega) (by constructor <;> omega) (fun c37 => ?_) (fun c37 => ?_)
        · skip
          refine e_return q_X11_settle_83 rfl ?_
          exact h N1 hv1
        · skip
          exact absurd (by omega) c37
    · skip
      exact absurd (by omega) c7
end FI7
