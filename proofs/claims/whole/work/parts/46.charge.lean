/-! THE SYSTEM'S METHODS, 6 (printed by wip/whole/gen/x6.py) -/
section XS6
variable {X : zX} {s : zK} {N : zN} {fa sa : Int → Int} {σ : zS} {Q : Option Value → zS → Prop}
theorem stayK_b (N : zN) (w d : Int) : -1 ≤ stayK N w d ∧ stayK N w d < max 0 (N 39 36) := by
  have := fstK_b (fun k => N 63 k = w ∧ N 65 k ≤ d ∧ d ≤ N 66 k) (N 39 36).toNat
  unfold stayK
  omega
theorem stayK_p {N : zN} {w d : Int} (h : 0 ≤ stayK N w d) : N 63 (stayK N w d) = w ∧ N 65 (stayK N w d) ≤ d ∧ d ≤ N 66 (stayK N w d) := by
  have h1 := (fstK_p h).1
  have h1 : N 63 ((stayK N w d).toNat : Int) = w ∧ N 65 ((stayK N w d).toNat : Int) ≤ d ∧ d ≤ N 66 ((stayK N w d).toNat : Int) := h1
  rwa [z_cast h] at h1
set_option maxRecDepth 20000 in
set_option maxHeartbeats 2000000 in
theorem x_groupCharged (hI : xI s N fa sa){w : Int} {a : Nat} (h0 : 0 ≤ w) (h1 : w < N 39 2) (hp : xPer s N fa sa w a){d : Int} (hd : -1 ≤ d ∧ d ≤ 9999) (h : Q (some (vi (charg N w d))) (zI s N)) : zC X m_X11_groupCharged [.ref 3, vi w, .ref a, vi d] (zI s N) Q := by
  have hB := hI.B
  have hR := hI.R
  have hC := hI.C
  unfold mCnt at hC
  have hm := hI.m
  obtain ⟨e1, e5, e7, e8, e10, e11, e3, e12, eh, eg, ef, et⟩ := hI.hs
  obtain ⟨p88, pA, p5, p0, p1, p2, p3, p4, p5f, p6, p7, p8, p9⟩ := id hp
  show zE X m_X11_groupCharged 0 [.ref 3, vi w, .ref a, vi d, zU, zU, zU] [] _ Q
  refine e_aload_n q_X11_groupCharged_0 (by decide) rfl ?_
  refine e_iload_n q_X11_groupCharged_1 (by decide) rfl ?_
  refine e_iload_n q_X11_groupCharged_2 (by decide) rfl ?_
  refine iv_X11_stayOn q_X11_groupCharged_3 lk_X11_416 (by decide) (a3 hB) (Nat.le_of_ble_eq_true rfl) ?_
  refine x_stayOn hI (by constructor <;> omega) hd (fun hk0 => ?_) (fun b hk0 hy => ?_)
  · skip
    refine e_astoreN (ls' := [_, _, _, _, _, _, _]) q_X11_groupCharged_6 (by decide) rfl rfl ?_
    refine e_aloadN q_X11_groupCharged_8 (by decide) rfl ?_
    refine e_ifnullN q_X11_groupCharged_10 ?_
    refine e_bipush q_X11_groupCharged_31 (by decide) ?_
    refine e_ireturn q_X11_groupCharged_33 rfl rfl ?_
    exact zqI h (by unfold charg; exact zif_f (fun q => by first | exact c18 q.1 | exact c28 q.2.2 | (have := q.2.1; omega)))
  · skip
    obtain ⟨y88, yA, y10, y0, y1, y2, y3⟩ := id hy
    have hkp := stayK_p hk0
    have hkb := stayK_b N w d
    refine e_astore (ls' := [_, _, _, _, _, _, _]) q_X11_groupCharged_6 (by decide) rfl rfl ?_
    refine e_aload q_X11_groupCharged_8 (by decide) rfl ?_
    refine e_ifnull q_X11_groupCharged_10 ?_
    refine e_aload_n q_X11_groupCharged_13 (by decide) rfl ?_
    refine e_iload_n q_X11_groupCharged_14 (by decide) rfl ?_
    refine iv_X4_isThereOn q_X11_groupCharged_15 lk_X11_182 (by decide) pA (Nat.le_of_ble_eq_true rfl) ?_
    refine x_isThereOn hI h0 h1 hp hd ?_
    refine e_ifb_eq q_X11_groupCharged_18 (fun c18 => ?_) (fun c18 => ?_)
    · skip
      refine e_bipush q_X11_groupCharged_31 (by decide) ?_
      refine e_ireturn q_X11_groupCharged_33 rfl rfl ?_
      exact zqI h (by unfold charg; exact zif_f (fun q => by first | exact c18 q.1 | exact c28 q.2.2 | (have := q.2.1; omega)))
    · skip
      refine e_aload_n q_X11_groupCharged_21 (by decide) rfl ?_
      refine e_aload q_X11_groupCharged_22 (by decide) rfl ?_
      refine e_iload_n q_X11_groupCharged_24 (by decide) rfl ?_
      refine iv_X11_hasLodgedLong rfl q_X11_groupCharged_25 lk_X11_420 (by decide) (a3 hB) (Nat.le_of_ble_eq_true rfl) ?_
      refine x_hasLodgedLong hI hk0 (by omega) hy hd hkp.2.1 ?_
      refine e_ifb_ne q_X11_groupCharged_28 (fun c28 => ?_) (fun c28 => ?_)
      · skip
        refine e_iconst q_X11_groupCharged_34 ?_
        refine e_istore (ls' := [_, _, _, _, _, _, _]) q_X11_groupCharged_35 (by decide) rfl rfl ?_
        refine z_forE (P := fun i u => (∀ j, j < i → ¬ (fun i : Nat => 0 ≤ spA N i d ∧ N 44 i = N 64 (stayK N w d)) j) → zE X m_X11_groupCharged 37 [.ref 3, vi w, .ref a, vi d, .ref b, vi (i : Int), u] [] (zI s N) Q) (N 39 2).toNat (fun i u hi ih hn => ?_) (fun u hn => ?_) _ (by intro j hj; omega)
        · skip
          refine e_iload q_X11_groupCharged_37 (by decide) rfl ?_
          refine e_aload_n q_X11_groupCharged_39 (by decide) rfl ?_
          refine i_getI (k' := 3) q_X11_groupCharged_40 fl_X11_107 (a3 hB) rfl rfl rfl e3 ?_
          refine e_icmp_ge q_X11_groupCharged_43 (by first | exact hR _ _ | (constructor <;> omega) | assumption) (by first | exact hR _ _ | (constructor <;> omega) | assumption) (fun c43 => ?_) (fun c43 => ?_)
          · skip
            exact absurd c43 (by omega)
          · skip
            refine e_aload_n q_X11_groupCharged_46 (by decide) rfl ?_
            refine i_getC (r := 5) q_X11_groupCharged_47 fl_X11_15 (a3 hB) rfl (by decide) ?_
            refine e_iload q_X11_groupCharged_50 (by decide) rfl ?_
            obtain ⟨ax, hpx⟩ := hI.ps.1 (i) (by omega) (by omega)
            obtain ⟨p88x, pAx, p5x, p0x, p1x, p2x, p3x, p4x, p5fx, p6x, p7x, p8x, p9x⟩ := id hpx
            refine i_aald q_X11_groupCharged_52 (a5 hB) (by decide) (fun _ => rfl) (by omega) (by omega) (by decide) p5x (by omega) ?_
            refine e_iload_n q_X11_groupCharged_53 (by decide) rfl ?_
            refine iv_X4_groupOn q_X11_groupCharged_54 lk_X11_245 (by decide) pAx (Nat.le_of_ble_eq_true rfl) ?_
            refine x_groupOn hI (by omega) (by omega) hpx (by omega) ?_
            have hgr := gOn_r hm i d
            refine e_istore (ls' := [_, _, _, _, _, _, _]) q_X11_groupCharged_57 (by decide) rfl rfl ?_
            refine e_aload_n q_X11_groupCharged_59 (by decide) rfl ?_
            refine i_getC (r := 5) q_X11_groupCharged_60 fl_X11_15 (a3 hB) rfl (by decide) ?_
            refine e_iload q_X11_groupCharged_63 (by decide) rfl ?_
            obtain ⟨az, hpz⟩ := hI.ps.1 (i) (by omega) (by omega)
            obtain ⟨p88z, pAz, p5z, p0z, p1z, p2z, p3z, p4z, p5fz, p6z, p7z, p8z, p9z⟩ := id hpz
            refine i_aald q_X11_groupCharged_65 (a5 hB) (by decide) (fun _ => rfl) (by omega) (by omega) (by decide) p5z (by omega) ?_
            refine i_getI (k' := 3) q_X11_groupCharged_66 fl_X11_123 pAz (cref0 (by omega) _) rfl rfl p3z ?_
            refine e_aload q_X11_groupCharged_69 (by decide) rfl ?_
            refine i_getI (k' := 1) q_X11_groupCharged_71 fl_X11_424 yA (cref0 (by omega) _) rfl rfl y1 ?_
            refine e_icmp_ne q_X11_groupCharged_74 (by first | exact hR _ _ | (constructor <;> omega) | assumption) (by first | exact hR _ _ | (constructor <;> omega) | assumption) (fun c74 => ?_) (fun c74 => ?_)
            · skip
              refine e_iinc (ls' := [_, _, _, _, _, _, _]) q_X11_groupCharged_87 (by decide) rfl rfl rfl ?_
              refine e_goto q_X11_groupCharged_90 ?_
              exact ih _ (z_lt1 hn (by omega))
            · skip
              refine e_iload q_X11_groupCharged_77 (by decide) rfl ?_
              refine e_bipush q_X11_groupCharged_79 (by decide) ?_
              refine e_icmp_eq q_X11_groupCharged_81 (by first | exact hR _ _ | (constructor <;> omega) | assumption) (by first | exact hR _ _ | (constructor <;> omega) | assumption) (fun c81 => ?_) (fun c81 => ?_)
              · skip
                refine e_iinc (ls' := [_, _, _, _, _, _, _]) q_X11_groupCharged_87 (by decide) rfl rfl rfl ?_
                refine e_goto q_X11_groupCharged_90 ?_
                exact ih _ (z_lt1 hn (by omega))
              · skip
                refine e_iload q_X11_groupCharged_84 (by decide) rfl ?_
                refine e_ireturn q_X11_groupCharged_86 rfl rfl ?_
                exact zqI h (by unfold charg; rw [zif_t ⟨c18, hk0, c28⟩]; unfold gHouse; rw [fstK_at (p := fun i : Nat => 0 ≤ spA N i d ∧ N 44 i = N 64 (stayK N w d)) (i := i) (by omega) hn ⟨by omega, c74⟩, zif_f (by omega)]; unfold gOn; rw [if_neg (by omega)])
        · skip
          refine e_iload q_X11_groupCharged_37 (by decide) rfl ?_
          refine e_aload_n q_X11_groupCharged_39 (by decide) rfl ?_
          refine i_getI (k' := 3) q_X11_groupCharged_40 fl_X11_107 (a3 hB) rfl rfl rfl e3 ?_
          refine e_icmp_ge q_X11_groupCharged_43 (by first | exact hR _ _ | (constructor <;> omega) | assumption) (by first | exact hR _ _ | (constructor <;> omega) | assumption) (fun c43 => ?_) (fun c43 => ?_)
          · skip
            refine e_bipush q_X11_groupCharged_93 (by decide) ?_
            refine e_ireturn q_X11_groupCharged_95 rfl rfl ?_
            exact zqI h (by unfold charg; rw [zif_t ⟨c18, hk0, c28⟩]; unfold gHouse; rw [fstK_none (p := fun i : Nat => 0 ≤ spA N i d ∧ N 44 i = N 64 (stayK N w d)) (fun j hj => hn j (by omega)), zif_t (by omega)])
          · skip
            exact absurd (by omega) c43
      · skip
        refine e_bipush q_X11_groupCharged_31 (by decide) ?_
        refine e_ireturn q_X11_groupCharged_33 rfl rfl ?_
        exact zqI h (by unfold charg; exact zif_f (fun q => by first | exact c18 q.1 | exact c28 q.2.2 | (have := q.2.1; omega)))
set_option maxRecDepth 20000 in
set_option maxHeartbeats 2000000 in
theorem x_charged (hI : xI s N fa sa){w : Int} (hw : zr w){d : Int} (hd : zr d) (h : Q (some (vi (r_charged N w d))) (zI s N)) : zC X m_X11_charged [.ref 3, vi w, vi d] (zI s N) Q := by
  have hB := hI.B
  have hR := hI.R
  have hC := hI.C
  unfold mCnt at hC
  have hm := hI.m
  obtain ⟨e1, e5, e7, e8, e10, e11, e3, e12, eh, eg, ef, et⟩ := hI.hs
  show zE X m_X11_charged 0 [.ref 3, vi w, vi d, zU] [] _ Q
  refine e_aload_n q_X11_charged_0 (by decide) rfl ?_
  refine e_iload_n q_X11_charged_1 (by decide) rfl ?_
  refine iv_X11_personAt q_X11_charged_2 lk_X11_113 (by decide) (a3 hB) (Nat.le_of_ble_eq_true rfl) ?_
  refine x_personAt hI hw (fun hw1 => ?_) (fun a hw1 hp => ?_)
  · skip
    refine e_astore_nN (ls' := [_, _, _, _]) q_X11_charged_5 (by decide) rfl rfl ?_
    refine e_aload_nN q_X11_charged_6 (by decide) rfl ?_
    refine e_ifnullN q_X11_charged_7 ?_
    refine e_iconst q_X11_charged_17 ?_
    refine e_ireturn q_X11_charged_18 rfl rfl ?_
    exact zqI h (by unfold r_charged; exact zif_f (fun q => by first | exact hw1 q.1 | exact c14 q.2))
  · skip
    obtain ⟨p88, pA, p5, p0, p1, p2, p3, p4, p5f, p6, p7, p8, p9⟩ := id hp
    refine e_astore_n (ls' := [_, _, _, _]) q_X11_charged_5 (by decide) rfl rfl ?_
    refine e_aload_n q_X11_charged_6 (by decide) rfl ?_
    refine e_ifnull q_X11_charged_7 ?_
    refine e_iload_n q_X11_charged_10 (by decide) rfl ?_
    refine iv_X11_isDay q_X11_charged_11 lk_X11_140 (by decide) (Nat.le_of_ble_eq_true rfl) ?_
    refine x_isDay hd ?_
    refine e_ifb_ne q_X11_charged_14 (fun c14 => ?_) (fun c14 => ?_)
    · skip
      refine e_aload_n q_X11_charged_19 (by decide) rfl ?_
      refine i_getI (k' := 0) q_X11_charged_20 fl_X11_117 pA (cref0 (by omega) _) rfl rfl p0 ?_
      refine e_iconst q_X11_charged_23 ?_
      refine e_icmp_eq q_X11_charged_24 (by first | exact hR _ _ | (constructor <;> omega) | assumption) (by first | exact hR _ _ | (constructor <;> omega) | assumption) (fun c24 => ?_) (fun c24 => ?_)
      · skip
        refine e_aload_n q_X11_charged_32 (by decide) rfl ?_
        refine e_iload_n q_X11_charged_33 (by decide) rfl ?_
        refine e_aload_n q_X11_charged_34 (by decide) rfl ?_
        refine e_iload_n q_X11_charged_35 (by decide) rfl ?_
        refine iv_X11_groupCharged rfl q_X11_charged_36 lk_X11_265 (by decide) (a3 hB) (Nat.le_of_ble_eq_true rfl) ?_
        refine x_groupCharged hI hw1.1 hw1.2 hp (by omega) ?_
        refine e_ireturn q_X11_charged_39 rfl rfl ?_
        first | exact zqI h (by unfold r_charged; rw [zif_t ⟨hw1, c14⟩]; exact if_pos (by omega)) | exact zqI h (by unfold r_charged; rw [zif_t ⟨hw1, c14⟩]; exact if_neg (by omega))
      · skip
        refine e_bipush q_X11_charged_27 (by decide) ?_
        refine e_goto q_X11_charged_29 ?_
        refine e_ireturn q_X11_charged_39 rfl rfl ?_
        first | exact zqI h (by unfold r_charged; rw [zif_t ⟨hw1, c14⟩]; exact if_pos (by omega)) | exact zqI h (by unfold r_charged; rw [zif_t ⟨hw1, c14⟩]; exact if_neg (by omega))
    · skip
      refine e_iconst q_X11_charged_17 ?_
      refine e_ireturn q_X11_charged_18 rfl rfl ?_
      exact zqI h (by unfold r_charged; exact zif_f (fun q => by first | exact hw1 q.1 | exact c14 q.2))
theorem headK_i {N : zN} (hm : mI N) (g d : Int) : ∀ n : Nat, ((headK N g d n).1 = -4 ∧ (headK N g d n).2 = 100000) ∨ (0 ≤ (headK N g d n).1 ∧ (headK N g d n).2 ≤ 9999)
  | 0 => by simp [headK]
  | n + 1 => by
    have ih := headK_i hm g d n
    rw [headK]
    by_cases h : memb N n g d ∧ N 61 (spA N n d) < (headK N g d n).2
    · rw [zif_t h]
      have hb := spA_b N n d
      have := h.1.1
      have := hm.2.2.2.2.1 (spA N n d) (by omega) (by omega)
      exact Or.inr ⟨by omega, by omega⟩
    · rw [zif_f h]; exact ih
/-- what the system keeps beside the head so far -/
noncomputable def hdx (N : zN) (g d : Int) (n : Nat) : Int := if (headK N g d n).1 = -4 then 10000 else (headK N g d n).2
theorem hdx_d (N : zN) (g d : Int) (n : Nat) : ((headK N g d n).1 = -4 ∧ hdx N g d n = 10000) ∨ ((headK N g d n).1 ≠ -4 ∧ hdx N g d n = (headK N g d n).2) := by
  unfold hdx
  by_cases h : (headK N g d n).1 = -4
  · rw [if_pos h]; exact Or.inl ⟨h, rfl⟩
  · rw [if_neg h]; exact Or.inr ⟨h, rfl⟩
set_option maxRecDepth 20000 in
set_option maxHeartbeats 2000000 in
theorem x_head (hI : xI s N fa sa){g : Int} (hg : zr g){d : Int} (hd : zr d) (h : Q (some (vi (r_head N g d))) (zI s N)) : zC X m_X11_head [.ref 3, vi g, vi d] (zI s N) Q := by
  have hB := hI.B
  have hR := hI.R
  have hC := hI.C
  unfold mCnt at hC
  have hm := hI.m
  obtain ⟨e1, e5, e7, e8, e10, e11, e3, e12, eh, eg, ef, et⟩ := hI.hs
  show zE X m_X11_head 0 [.ref 3, vi g, vi d, zU, zU, zU, zU] [] _ Q
  refine e_aload_n q_X11_head_0 (by decide) rfl ?_
  refine e_iload_n q_X11_head_1 (by decide) rfl ?_
  refine iv_X11_isGroup q_X11_head_2 lk_X11_218 (by decide) (a3 hB) (Nat.le_of_ble_eq_true rfl) ?_
  refine x_isGroup hI hg ?_
  refine e_ifb_eq q_X11_head_5 (fun c5 => ?_) (fun c5 => ?_)
  · skip
    refine e_iconst q_X11_head_15 ?_
    refine e_ireturn q_X11_head_16 rfl rfl ?_
    exact zqI h (by unfold r_head; exact zif_f (fun q => by first | exact c5 q.1 | exact c12 q.2))
  · skip
    refine e_iload_n q_X11_head_8 (by decide) rfl ?_
    refine iv_X11_isDay q_X11_head_9 lk_X11_140 (by decide) (Nat.le_of_ble_eq_true rfl) ?_
    refine x_isDay hd ?_
    refine e_ifb_ne q_X11_head_12 (fun c12 => ?_) (fun c12 => ?_)
    · skip
      refine e_bipush q_X11_head_17 (by decide) ?_
      refine e_istore_n (ls' := [_, _, _, _, _, _, _]) q_X11_head_19 (by decide) rfl rfl ?_
      refine e_sipush q_X11_head_20 (by decide) ?_
      refine e_istore (ls' := [_, _, _, _, _, _, _]) q_X11_head_23 (by decide) rfl rfl ?_
      refine e_iconst q_X11_head_25 ?_
      refine e_istore (ls' := [_, _, _, _, _, _, _]) q_X11_head_26 (by decide) rfl rfl ?_
      refine z_forE (P := fun i u => zE X m_X11_head 28 [.ref 3, vi g, vi d, vi (headK N g d i).1, vi (hdx N g d i), vi (i : Int), u] [] (zI s N) Q) (N 39 2).toNat (fun i u hi ih => ?_) (fun u => ?_) _
      · skip
        refine e_iload q_X11_head_28 (by decide) rfl ?_
        refine e_aload_n q_X11_head_30 (by decide) rfl ?_
        refine i_getI (k' := 3) q_X11_head_31 fl_X11_107 (a3 hB) rfl rfl rfl e3 ?_
        refine e_icmp_ge q_X11_head_34 (by first | exact hR _ _ | (constructor <;> omega) | assumption) (by first | exact hR _ _ | (constructor <;> omega) | assumption) (fun c34 => ?_) (fun c34 => ?_)
        · skip
          exact absurd c34 (by omega)
        · skip
          refine e_aload_n q_X11_head_37 (by decide) rfl ?_
          refine i_getC (r := 5) q_X11_head_38 fl_X11_15 (a3 hB) rfl (by decide) ?_
          refine e_iload q_X11_head_41 (by decide) rfl ?_
          obtain ⟨a, hp⟩ := hI.ps.1 (i) (by omega) (by omega)
          obtain ⟨p88, pA, p5, p0, p1, p2, p3, p4, p5f, p6, p7, p8, p9⟩ := id hp
          refine i_aald q_X11_head_43 (a5 hB) (by decide) (fun _ => rfl) (by omega) (by omega) (by decide) p5 (by omega) ?_
          refine e_iload_n q_X11_head_44 (by decide) rfl ?_
          refine iv_X4_spellOn q_X11_head_45 lk_X11_248 (by decide) pA (Nat.le_of_ble_eq_true rfl) ?_
          refine x_spellOn hI (by omega) (by omega) hp (by omega) (fun hs => ?_) (fun b hs hb => ?_)
          · skip
            refine e_astoreN (ls' := [_, _, _, _, _, _, _]) q_X11_head_48 (by decide) rfl rfl ?_
            refine e_aloadN q_X11_head_50 (by decide) rfl ?_
            refine e_ifnullN q_X11_head_52 ?_
            refine e_iinc (ls' := [_, _, _, _, _, _, _]) q_X11_head_84 (by decide) rfl rfl rfl ?_
            refine e_goto q_X11_head_87 ?_
            have e : headK N g d (i + 1) = headK N g d i := by rw [headK]; exact zif_f (fun q => by have q1 := q.1.1; have q2 := q.1.2; have q3 := q.2; omega)
            exact zEe (ih _) (by unfold hdx; rw [e]; rfl) rfl
          · skip
            obtain ⟨b88, bA, bf, b0, b1, b2, b3⟩ := hb
            have hsb := spA_b N i d
            have hsp := hm.2.2.2.2.1 (spA N i d) hs (by omega)
            have hhi := headK_i hm g d i
            have hhr := headK_r hm g d i
            have hdr := hdx_d N g d i
            refine e_astore (ls' := [_, _, _, _, _, _, _]) q_X11_head_48 (by decide) rfl rfl ?_
            refine e_aload q_X11_head_50 (by decide) rfl ?_
            refine e_ifnull q_X11_head_52 ?_
            refine e_aload q_X11_head_55 (by decide) rfl ?_
            refine i_getI (k' := 0) q_X11_head_57 fl_X11_242 bA (cref0 (by omega) _) rfl rfl b0 ?_
            refine e_iload_n q_X11_head_60 (by decide) rfl ?_
            refine e_icmp_ne q_X11_head_61 (hR _ _) hg (fun c61 => ?_) (fun c61 => ?_)
            · skip
              refine e_iinc (ls' := [_, _, _, _, _, _, _]) q_X11_head_84 (by decide) rfl rfl rfl ?_
              refine e_goto q_X11_head_87 ?_
              have e : headK N g d (i + 1) = headK N g d i := by rw [headK]; exact zif_f (fun q => by have q1 := q.1.1; have q2 := q.1.2; have q3 := q.2; omega)
              exact zEe (ih _) (by unfold hdx; rw [e]; rfl) rfl
            · skip
              refine e_aload q_X11_head_64 (by decide) rfl ?_
              refine i_getI (k' := 1) q_X11_head_66 fl_X11_241 bA (cref0 (by omega) _) rfl rfl b1 ?_
              refine e_iload q_X11_head_69 (by decide) rfl ?_
              refine e_icmp_ge q_X11_head_71 (hR _ _) (by constructor <;> omega) (fun c71 => ?_) (fun c71 => ?_)
              · skip
                refine e_iinc (ls' := [_, _, _, _, _, _, _]) q_X11_head_84 (by decide) rfl rfl rfl ?_
                refine e_goto q_X11_head_87 ?_
                have e : headK N g d (i + 1) = headK N g d i := by rw [headK]; exact zif_f (fun q => by have q1 := q.1.1; have q2 := q.1.2; have q3 := q.2; omega)
                exact zEe (ih _) (by unfold hdx; rw [e]; rfl) rfl
              · skip
                refine e_iload q_X11_head_74 (by decide) rfl ?_
                refine e_istore_n (ls' := [_, _, _, _, _, _, _]) q_X11_head_76 (by decide) rfl rfl ?_
                refine e_aload q_X11_head_77 (by decide) rfl ?_
                refine i_getI (k' := 1) q_X11_head_79 fl_X11_241 bA (cref0 (by omega) _) rfl rfl b1 ?_
                refine e_istore (ls' := [_, _, _, _, _, _, _]) q_X11_head_82 (by decide) rfl rfl ?_
                refine e_iinc (ls' := [_, _, _, _, _, _, _]) q_X11_head_84 (by decide) rfl rfl rfl ?_
                refine e_goto q_X11_head_87 ?_
                have e : headK N g d (i + 1) = ((i : Int), N 61 (spA N i d)) := by rw [headK, zif_t ⟨⟨hs, c61⟩, by omega⟩]
                exact zEe (ih _) (by unfold hdx; rw [e]; show [_, _, _, vi (i : Int), vi (if (i : Int) = -4 then 10000 else N 61 (spA N i d)), _, _] = _; rw [if_neg (by omega)]; rfl) rfl
      · skip
        refine e_iload q_X11_head_28 (by decide) rfl ?_
        refine e_aload_n q_X11_head_30 (by decide) rfl ?_
        refine i_getI (k' := 3) q_X11_head_31 fl_X11_107 (a3 hB) rfl rfl rfl e3 ?_
        refine e_icmp_ge q_X11_head_34 (by first | exact hR _ _ | (constructor <;> omega) | assumption) (by first | exact hR _ _ | (constructor <;> omega) | assumption) (fun c34 => ?_) (fun c34 => ?_)
        · skip
          refine e_iload_n q_X11_head_90 (by decide) rfl ?_
          refine e_ireturn q_X11_head_91 rfl rfl ?_
          exact zqI h (by unfold r_head; exact zif_t ⟨c5, c12⟩)
        · skip
          exact absurd (by omega) c34
    · skip
      refine e_iconst q_X11_head_15 ?_
      refine e_ireturn q_X11_head_16 rfl rfl ?_
      exact zqI h (by unfold r_head; exact zif_f (fun q => by first | exact c5 q.1 | exact c12 q.2))
end XS6
