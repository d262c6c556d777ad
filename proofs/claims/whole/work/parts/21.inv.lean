/-! CALLS, a row a method (printed by wip/whole/gen/calls.py) -/
def z_okR (v : Value) : Bool := match v with
  | .ref _ => true
  | .null => true
  | _ => false
theorem z_okRA {v : Value} (h : z_okR v = true) : z_okA v = true := by cases v <;> first | rfl | cases h
section ZIV
variable {X : zX} {mt : zM} {pc pc' idx : Nat} {ls rest : List Value} {σ : zS} {Q : Option Value → zS → Prop}
theorem iv_X0_init {b : Nat} (hd : zD mt.1.2 pc (.invokespecial idx) 3 pc') (hlink : Cond.methodLinkNest mt.1.1.cls idx yX0_init "TenForOne" ∈ zNW) (hroom : 1 + 1 ≤ mt.2.2.2.1 ∧ 8 + (1 + 11) + 12 ≤ mt.2.2.2.2) (hrest : (rest.map fun v => v.category).sum ≤ 8) (h : zC X m_X0_init (.ref b :: []) σ (fun r σ1 => zE X mt pc' ls (r.toList ++ rest) σ1 Q)) : zE X mt pc ls (.ref b :: rest) σ Q :=
  e_invIN (mz := m_X0_init) (As := []) (rest := rest) hd ok_X0_init im_X0_init rfl rfl hlink hroom rfl (fun v hv => by cases hv) (Nat.le_of_ble_eq_true rfl) hrest rfl h
theorem iv_X0_put {a0 : Int} {a1 : Int} {b : Nat} (hd : zD mt.1.2 pc (.invokevirtual idx) 3 pc') (hlink : Cond.methodLink mt.1.1.cls idx yX0_put ∈ zTB) (hroom : 0 + 1 ≤ mt.2.2.2.1 ∧ 8 + (3 + 11) + 0 ≤ mt.2.2.2.2) (hb : zIs σ b (0, 0)) (hrest : (rest.map fun v => v.category).sum ≤ 8) (h : zC X m_X0_put (.ref b :: [vi a0, vi a1]) σ (fun r σ1 => zE X mt pc' ls (r.toList ++ rest) σ1 Q)) : zE X mt pc ls (vi a1 :: vi a0 :: .ref b :: rest) σ Q :=
  e_invV (mz := m_X0_put) (As := [vi a0, vi a1]) (rest := rest) hd ok_X0_put im_X0_put se_X0_put hlink hroom hb kd_0 rfl rfl (fun v hv => by
    simp only [List.mem_cons, List.not_mem_nil, or_false] at hv
    rcases hv with rfl | rfl <;> first | rfl | (exact z_okRA (by assumption))) (Nat.le_of_ble_eq_true rfl) hrest rfl h
theorem iv_X0_endAround {a0 : Int} {b : Nat} (hd : zD mt.1.2 pc (.invokevirtual idx) 3 pc') (hlink : Cond.methodLink mt.1.1.cls idx yX0_endAround ∈ zTB) (hroom : 0 + 1 ≤ mt.2.2.2.1 ∧ 8 + (3 + 11) + 0 ≤ mt.2.2.2.2) (hb : zIs σ b (0, 0)) (hrest : (rest.map fun v => v.category).sum ≤ 8) (h : zC X m_X0_endAround (.ref b :: [vi a0]) σ (fun r σ1 => zE X mt pc' ls (r.toList ++ rest) σ1 Q)) : zE X mt pc ls (vi a0 :: .ref b :: rest) σ Q :=
  e_invV (mz := m_X0_endAround) (As := [vi a0]) (rest := rest) hd ok_X0_endAround im_X0_endAround se_X0_endAround hlink hroom hb kd_0 rfl rfl (fun v hv => by
    simp only [List.mem_cons, List.not_mem_nil, or_false] at hv
    rcases hv with rfl; first | rfl | (exact z_okRA (by assumption))) (Nat.le_of_ble_eq_true rfl) hrest rfl h
theorem iv_X1_init {b : Nat} (hd : zD mt.1.2 pc (.invokespecial idx) 3 pc') (hlink : Cond.methodLinkNest mt.1.1.cls idx yX1_init "TenForOne" ∈ zNW) (hroom : 1 + 1 ≤ mt.2.2.2.1 ∧ 8 + (1 + 11) + 12 ≤ mt.2.2.2.2) (hrest : (rest.map fun v => v.category).sum ≤ 8) (h : zC X m_X1_init (.ref b :: []) σ (fun r σ1 => zE X mt pc' ls (r.toList ++ rest) σ1 Q)) : zE X mt pc ls (.ref b :: rest) σ Q :=
  e_invIN (mz := m_X1_init) (As := []) (rest := rest) hd ok_X1_init im_X1_init rfl rfl hlink hroom rfl (fun v hv => by cases hv) (Nat.le_of_ble_eq_true rfl) hrest rfl h
theorem iv_X1_clear {b : Nat} (hd : zD mt.1.2 pc (.invokevirtual idx) 3 pc') (hlink : Cond.methodLink mt.1.1.cls idx yX1_clear ∈ zTB) (hroom : 0 + 1 ≤ mt.2.2.2.1 ∧ 8 + (1 + 11) + 0 ≤ mt.2.2.2.2) (hb : zIs σ b (1, 0)) (hrest : (rest.map fun v => v.category).sum ≤ 8) (h : zC X m_X1_clear (.ref b :: []) σ (fun r σ1 => zE X mt pc' ls (r.toList ++ rest) σ1 Q)) : zE X mt pc ls (.ref b :: rest) σ Q :=
  e_invV (mz := m_X1_clear) (As := []) (rest := rest) hd ok_X1_clear im_X1_clear se_X1_clear hlink hroom hb kd_1 rfl rfl (fun v hv => by cases hv) (Nat.le_of_ble_eq_true rfl) hrest rfl h
theorem iv_X1_put {a0 : Int} {a1 : Int} {b : Nat} (hd : zD mt.1.2 pc (.invokevirtual idx) 3 pc') (hlink : Cond.methodLink mt.1.1.cls idx yX1_put ∈ zTB) (hroom : 0 + 1 ≤ mt.2.2.2.1 ∧ 8 + (3 + 11) + 0 ≤ mt.2.2.2.2) (hb : zIs σ b (1, 0)) (hrest : (rest.map fun v => v.category).sum ≤ 8) (h : zC X m_X1_put (.ref b :: [vi a0, vi a1]) σ (fun r σ1 => zE X mt pc' ls (r.toList ++ rest) σ1 Q)) : zE X mt pc ls (vi a1 :: vi a0 :: .ref b :: rest) σ Q :=
  e_invV (mz := m_X1_put) (As := [vi a0, vi a1]) (rest := rest) hd ok_X1_put im_X1_put se_X1_put hlink hroom hb kd_1 rfl rfl (fun v hv => by
    simp only [List.mem_cons, List.not_mem_nil, or_false] at hv
    rcases hv with rfl | rfl <;> first | rfl | (exact z_okRA (by assumption))) (Nat.le_of_ble_eq_true rfl) hrest rfl h
theorem iv_X1_begin {b : Nat} (hd : zD mt.1.2 pc (.invokevirtual idx) 3 pc') (hlink : Cond.methodLink mt.1.1.cls idx yX1_begin ∈ zTB) (hroom : 0 + 1 ≤ mt.2.2.2.1 ∧ 8 + (2 + 11) + 0 ≤ mt.2.2.2.2) (hb : zIs σ b (1, 0)) (hrest : (rest.map fun v => v.category).sum ≤ 8) (h : zC X m_X1_begin (.ref b :: []) σ (fun r σ1 => zE X mt pc' ls (r.toList ++ rest) σ1 Q)) : zE X mt pc ls (.ref b :: rest) σ Q :=
  e_invV (mz := m_X1_begin) (As := []) (rest := rest) hd ok_X1_begin im_X1_begin se_X1_begin hlink hroom hb kd_1 rfl rfl (fun v hv => by cases hv) (Nat.le_of_ble_eq_true rfl) hrest rfl h
theorem iv_X1_offer {a0 : Int} {a1 : Int} {a2 : Int} {b : Nat} (hd : zD mt.1.2 pc (.invokevirtual idx) 3 pc') (hlink : Cond.methodLink mt.1.1.cls idx yX1_offer ∈ zTB) (hroom : 2 + 1 ≤ mt.2.2.2.1 ∧ 8 + (6 + 11) + 44 ≤ mt.2.2.2.2) (hb : zIs σ b (1, 0)) (hrest : (rest.map fun v => v.category).sum ≤ 8) (h : zC X m_X1_offer (.ref b :: [vi a0, vi a1, vi a2]) σ (fun r σ1 => zE X mt pc' ls (r.toList ++ rest) σ1 Q)) : zE X mt pc ls (vi a2 :: vi a1 :: vi a0 :: .ref b :: rest) σ Q :=
  e_invV (mz := m_X1_offer) (As := [vi a0, vi a1, vi a2]) (rest := rest) hd ok_X1_offer im_X1_offer se_X1_offer hlink hroom hb kd_1 rfl rfl (fun v hv => by
    simp only [List.mem_cons, List.not_mem_nil, or_false] at hv
    rcases hv with rfl | rfl | rfl <;> first | rfl | (exact z_okRA (by assumption))) (Nat.le_of_ble_eq_true rfl) hrest rfl h
theorem iv_X1_addUp {a0 : Int} {b : Nat} (hd : zD mt.1.2 pc (.invokevirtual idx) 3 pc') (hlink : Cond.methodLink mt.1.1.cls idx yX1_addUp ∈ zTB) (hroom : 1 + 1 ≤ mt.2.2.2.1 ∧ 8 + (5 + 11) + 20 ≤ mt.2.2.2.2) (hb : zIs σ b (1, 0)) (hrest : (rest.map fun v => v.category).sum ≤ 8) (h : zC X m_X1_addUp (.ref b :: [vi a0]) σ (fun r σ1 => zE X mt pc' ls (r.toList ++ rest) σ1 Q)) : zE X mt pc ls (vi a0 :: .ref b :: rest) σ Q :=
  e_invV (mz := m_X1_addUp) (As := [vi a0]) (rest := rest) hd ok_X1_addUp im_X1_addUp se_X1_addUp hlink hroom hb kd_1 rfl rfl (fun v hv => by
    simp only [List.mem_cons, List.not_mem_nil, or_false] at hv
    rcases hv with rfl; first | rfl | (exact z_okRA (by assumption))) (Nat.le_of_ble_eq_true rfl) hrest rfl h
theorem iv_X1_strikeOut {a0 : Int} {a1 : Int} {b : Nat} (hd : zD mt.1.2 pc (.invokevirtual idx) 3 pc') (hlink : Cond.methodLink mt.1.1.cls idx yX1_strikeOut ∈ zTB) (hroom : 1 + 1 ≤ mt.2.2.2.1 ∧ 8 + (5 + 11) + 20 ≤ mt.2.2.2.2) (hb : zIs σ b (1, 0)) (hrest : (rest.map fun v => v.category).sum ≤ 8) (h : zC X m_X1_strikeOut (.ref b :: [vi a0, vi a1]) σ (fun r σ1 => zE X mt pc' ls (r.toList ++ rest) σ1 Q)) : zE X mt pc ls (vi a1 :: vi a0 :: .ref b :: rest) σ Q :=
  e_invV (mz := m_X1_strikeOut) (As := [vi a0, vi a1]) (rest := rest) hd ok_X1_strikeOut im_X1_strikeOut se_X1_strikeOut hlink hroom hb kd_1 rfl rfl (fun v hv => by
    simp only [List.mem_cons, List.not_mem_nil, or_false] at hv
    rcases hv with rfl | rfl <;> first | rfl | (exact z_okRA (by assumption))) (Nat.le_of_ble_eq_true rfl) hrest rfl h
theorem iv_X1_improve {a0 : Int} {a1 : Int} {b : Nat} (hd : zD mt.1.2 pc (.invokevirtual idx) 3 pc') (hlink : Cond.methodLink mt.1.1.cls idx yX1_improve ∈ zTB) (hroom : 1 + 1 ≤ mt.2.2.2.1 ∧ 8 + (4 + 11) + 21 ≤ mt.2.2.2.2) (hb : zIs σ b (1, 0)) (hrest : (rest.map fun v => v.category).sum ≤ 8) (h : zC X m_X1_improve (.ref b :: [vi a0, vi a1]) σ (fun r σ1 => zE X mt pc' ls (r.toList ++ rest) σ1 Q)) : zE X mt pc ls (vi a1 :: vi a0 :: .ref b :: rest) σ Q :=
  e_invV (mz := m_X1_improve) (As := [vi a0, vi a1]) (rest := rest) hd ok_X1_improve im_X1_improve se_X1_improve hlink hroom hb kd_1 rfl rfl (fun v hv => by
    simp only [List.mem_cons, List.not_mem_nil, or_false] at hv
    rcases hv with rfl | rfl <;> first | rfl | (exact z_okRA (by assumption))) (Nat.le_of_ble_eq_true rfl) hrest rfl h
theorem iv_X1_leastWay {b : Nat} (hd : zD mt.1.2 pc (.invokevirtual idx) 3 pc') (hlink : Cond.methodLink mt.1.1.cls idx yX1_leastWay ∈ zTB) (hroom : 0 + 1 ≤ mt.2.2.2.1 ∧ 8 + (1 + 11) + 0 ≤ mt.2.2.2.2) (hb : zIs σ b (1, 0)) (hrest : (rest.map fun v => v.category).sum ≤ 8) (h : zC X m_X1_leastWay (.ref b :: []) σ (fun r σ1 => zE X mt pc' ls (r.toList ++ rest) σ1 Q)) : zE X mt pc ls (.ref b :: rest) σ Q :=
  e_invV (mz := m_X1_leastWay) (As := []) (rest := rest) hd ok_X1_leastWay im_X1_leastWay se_X1_leastWay hlink hroom hb kd_1 rfl rfl (fun v hv => by cases hv) (Nat.le_of_ble_eq_true rfl) hrest rfl h
theorem iv_X1_isPossible {b : Nat} (hd : zD mt.1.2 pc (.invokevirtual idx) 3 pc') (hlink : Cond.methodLink mt.1.1.cls idx yX1_isPossible ∈ zTB) (hroom : 1 + 1 ≤ mt.2.2.2.1 ∧ 8 + (1 + 11) + 20 ≤ mt.2.2.2.2) (hb : zIs σ b (1, 0)) (hrest : (rest.map fun v => v.category).sum ≤ 8) (h : zC X m_X1_isPossible (.ref b :: []) σ (fun r σ1 => zE X mt pc' ls (r.toList ++ rest) σ1 Q)) : zE X mt pc ls (.ref b :: rest) σ Q :=
  e_invV (mz := m_X1_isPossible) (As := []) (rest := rest) hd ok_X1_isPossible im_X1_isPossible se_X1_isPossible hlink hroom hb kd_1 rfl rfl (fun v hv => by cases hv) (Nat.le_of_ble_eq_true rfl) hrest rfl h
theorem iv_X1_leastAsked {b : Nat} (hd : zD mt.1.2 pc (.invokevirtual idx) 3 pc') (hlink : Cond.methodLink mt.1.1.cls idx yX1_leastAsked ∈ zTB) (hroom : 1 + 1 ≤ mt.2.2.2.1 ∧ 8 + (1 + 11) + 20 ≤ mt.2.2.2.2) (hb : zIs σ b (1, 0)) (hrest : (rest.map fun v => v.category).sum ≤ 8) (h : zC X m_X1_leastAsked (.ref b :: []) σ (fun r σ1 => zE X mt pc' ls (r.toList ++ rest) σ1 Q)) : zE X mt pc ls (.ref b :: rest) σ Q :=
  e_invV (mz := m_X1_leastAsked) (As := []) (rest := rest) hd ok_X1_leastAsked im_X1_leastAsked se_X1_leastAsked hlink hroom hb kd_1 rfl rfl (fun v hv => by cases hv) (Nat.le_of_ble_eq_true rfl) hrest rfl h
theorem iv_X1_groupFor {a0 : Int} {b : Nat} (hd : zD mt.1.2 pc (.invokevirtual idx) 3 pc') (hlink : Cond.methodLink mt.1.1.cls idx yX1_groupFor ∈ zTB) (hroom : 1 + 1 ≤ mt.2.2.2.1 ∧ 8 + (2 + 11) + 20 ≤ mt.2.2.2.2) (hb : zIs σ b (1, 0)) (hrest : (rest.map fun v => v.category).sum ≤ 8) (h : zC X m_X1_groupFor (.ref b :: [vi a0]) σ (fun r σ1 => zE X mt pc' ls (r.toList ++ rest) σ1 Q)) : zE X mt pc ls (vi a0 :: .ref b :: rest) σ Q :=
  e_invV (mz := m_X1_groupFor) (As := [vi a0]) (rest := rest) hd ok_X1_groupFor im_X1_groupFor se_X1_groupFor hlink hroom hb kd_1 rfl rfl (fun v hv => by
    simp only [List.mem_cons, List.not_mem_nil, or_false] at hv
    rcases hv with rfl; first | rfl | (exact z_okRA (by assumption))) (Nat.le_of_ble_eq_true rfl) hrest rfl h
theorem iv_X1_shiftOf {a0 : Int} (hd : zD mt.1.2 pc (.invokestatic idx) 3 pc') (hlink : Cond.methodLink mt.1.1.cls idx yX1_shiftOf ∈ zTB) (hroom : 0 + 1 ≤ mt.2.2.2.1 ∧ 8 + (1 + 11) + 0 ≤ mt.2.2.2.2) (hrest : (rest.map fun v => v.category).sum ≤ 8) (h : zC X m_X1_shiftOf [vi a0] σ (fun r σ1 => zE X mt pc' ls (r.toList ++ rest) σ1 Q)) : zE X mt pc ls (vi a0 :: rest) σ Q :=
  e_invS (mz := m_X1_shiftOf) (As := [vi a0]) (rest := rest) hd ok_X1_shiftOf ss_X1_shiftOf hlink hroom rfl (fun v hv => by
    simp only [List.mem_cons, List.not_mem_nil, or_false] at hv
    rcases hv with rfl; first | rfl | (exact z_okRA (by assumption))) (Nat.le_of_ble_eq_true rfl) hrest rfl h
theorem iv_X2_init {a0 : Int} {a1 : Value} (ha1 : z_okR a1 = true) {b : Nat} (hd : zD mt.1.2 pc (.invokespecial idx) 3 pc') (hlink : Cond.methodLink mt.1.1.cls idx yX2_init ∈ zTB) (hroom : 1 + 1 ≤ mt.2.2.2.1 ∧ 8 + (3 + 11) + 12 ≤ mt.2.2.2.2) (hrest : (rest.map fun v => v.category).sum ≤ 8) (h : zC X m_X2_init (.ref b :: [vi a0, a1]) σ (fun r σ1 => zE X mt pc' ls (r.toList ++ rest) σ1 Q)) : zE X mt pc ls (a1 :: vi a0 :: .ref b :: rest) σ Q :=
  e_invI (mz := m_X2_init) (As := [vi a0, a1]) (rest := rest) hd ok_X2_init im_X2_init rfl rfl hlink hroom rfl (fun v hv => by
    simp only [List.mem_cons, List.not_mem_nil, or_false] at hv
    rcases hv with rfl | rfl <;> first | rfl | (exact z_okRA (by assumption))) (by
    cases a1 <;> first | (cases ha1; done) | skip
    all_goals exact Nat.le_of_ble_eq_true rfl) hrest rfl h
theorem iv_X3_init {b : Nat} (hd : zD mt.1.2 pc (.invokespecial idx) 3 pc') (hlink : Cond.methodLink mt.1.1.cls idx yX3_init ∈ zTB) (hroom : 1 + 1 ≤ mt.2.2.2.1 ∧ 8 + (1 + 11) + 21 ≤ mt.2.2.2.2) (hrest : (rest.map fun v => v.category).sum ≤ 8) (h : zC X m_X3_init (.ref b :: []) σ (fun r σ1 => zE X mt pc' ls (r.toList ++ rest) σ1 Q)) : zE X mt pc ls (.ref b :: rest) σ Q :=
  e_invI (mz := m_X3_init) (As := []) (rest := rest) hd ok_X3_init im_X3_init rfl rfl hlink hroom rfl (fun v hv => by cases hv) (Nat.le_of_ble_eq_true rfl) hrest rfl h
theorem iv_X3_clear {b : Nat} (hd : zD mt.1.2 pc (.invokevirtual idx) 3 pc') (hlink : Cond.methodLink mt.1.1.cls idx yX3_clear ∈ zTB) (hroom : 0 + 1 ≤ mt.2.2.2.1 ∧ 8 + (2 + 11) + 0 ≤ mt.2.2.2.2) (hb : zIs σ b (3, 0)) (hrest : (rest.map fun v => v.category).sum ≤ 8) (h : zC X m_X3_clear (.ref b :: []) σ (fun r σ1 => zE X mt pc' ls (r.toList ++ rest) σ1 Q)) : zE X mt pc ls (.ref b :: rest) σ Q :=
  e_invV (mz := m_X3_clear) (As := []) (rest := rest) hd ok_X3_clear im_X3_clear se_X3_clear hlink hroom hb kd_3 rfl rfl (fun v hv => by cases hv) (Nat.le_of_ble_eq_true rfl) hrest rfl h
theorem iv_X3_setAges {a0 : Int} {a1 : Int} {a2 : Int} {b : Nat} (hd : zD mt.1.2 pc (.invokevirtual idx) 3 pc') (hlink : Cond.methodLink mt.1.1.cls idx yX3_setAges ∈ zTB) (hroom : 0 + 1 ≤ mt.2.2.2.1 ∧ 8 + (4 + 11) + 0 ≤ mt.2.2.2.2) (hb : zIs σ b (3, 0)) (hrest : (rest.map fun v => v.category).sum ≤ 8) (h : zC X m_X3_setAges (.ref b :: [vi a0, vi a1, vi a2]) σ (fun r σ1 => zE X mt pc' ls (r.toList ++ rest) σ1 Q)) : zE X mt pc ls (vi a2 :: vi a1 :: vi a0 :: .ref b :: rest) σ Q :=
  e_invV (mz := m_X3_setAges) (As := [vi a0, vi a1, vi a2]) (rest := rest) hd ok_X3_setAges im_X3_setAges se_X3_setAges hlink hroom hb kd_3 rfl rfl (fun v hv => by
    simp only [List.mem_cons, List.not_mem_nil, or_false] at hv
    rcases hv with rfl | rfl | rfl <;> first | rfl | (exact z_okRA (by assumption))) (Nat.le_of_ble_eq_true rfl) hrest rfl h
theorem iv_X3_bind {a0 : Int} {a1 : Int} {b : Nat} (hd : zD mt.1.2 pc (.invokevirtual idx) 3 pc') (hlink : Cond.methodLink mt.1.1.cls idx yX3_bind ∈ zTB) (hroom : 0 + 1 ≤ mt.2.2.2.1 ∧ 8 + (3 + 11) + 0 ≤ mt.2.2.2.2) (hb : zIs σ b (3, 0)) (hrest : (rest.map fun v => v.category).sum ≤ 8) (h : zC X m_X3_bind (.ref b :: [vi a0, vi a1]) σ (fun r σ1 => zE X mt pc' ls (r.toList ++ rest) σ1 Q)) : zE X mt pc ls (vi a1 :: vi a0 :: .ref b :: rest) σ Q :=
  e_invV (mz := m_X3_bind) (As := [vi a0, vi a1]) (rest := rest) hd ok_X3_bind im_X3_bind se_X3_bind hlink hroom hb kd_3 rfl rfl (fun v hv => by
    simp only [List.mem_cons, List.not_mem_nil, or_false] at hv
    rcases hv with rfl | rfl <;> first | rfl | (exact z_okRA (by assumption))) (Nat.le_of_ble_eq_true rfl) hrest rfl h
theorem iv_X4_init {a0 : Int} {a1 : Int} {a2 : Int} {a3 : Int} {a4 : Int} {a5 : Int} {b : Nat} (hd : zD mt.1.2 pc (.invokespecial idx) 3 pc') (hlink : Cond.methodLink mt.1.1.cls idx yX4_init ∈ zTB) (hroom : 1 + 1 ≤ mt.2.2.2.1 ∧ 8 + (7 + 11) + 12 ≤ mt.2.2.2.2) (hrest : (rest.map fun v => v.category).sum ≤ 8) (h : zC X m_X4_init (.ref b :: [vi a0, vi a1, vi a2, vi a3, vi a4, vi a5]) σ (fun r σ1 => zE X mt pc' ls (r.toList ++ rest) σ1 Q)) : zE X mt pc ls (vi a5 :: vi a4 :: vi a3 :: vi a2 :: vi a1 :: vi a0 :: .ref b :: rest) σ Q :=
  e_invI (mz := m_X4_init) (As := [vi a0, vi a1, vi a2, vi a3, vi a4, vi a5]) (rest := rest) hd ok_X4_init im_X4_init rfl rfl hlink hroom rfl (fun v hv => by
    simp only [List.mem_cons, List.not_mem_nil, or_false] at hv
    rcases hv with rfl | rfl | rfl | rfl | rfl | rfl <;> first | rfl | (exact z_okRA (by assumption))) (Nat.le_of_ble_eq_true rfl) hrest rfl h
theorem iv_X4_ageOn {a0 : Int} {b : Nat} (hd : zD mt.1.2 pc (.invokevirtual idx) 3 pc') (hlink : Cond.methodLink mt.1.1.cls idx yX4_ageOn ∈ zTB) (hroom : 0 + 1 ≤ mt.2.2.2.1 ∧ 8 + (2 + 11) + 0 ≤ mt.2.2.2.2) (hb : zIs σ b (4, 0)) (hrest : (rest.map fun v => v.category).sum ≤ 8) (h : zC X m_X4_ageOn (.ref b :: [vi a0]) σ (fun r σ1 => zE X mt pc' ls (r.toList ++ rest) σ1 Q)) : zE X mt pc ls (vi a0 :: .ref b :: rest) σ Q :=
  e_invV (mz := m_X4_ageOn) (As := [vi a0]) (rest := rest) hd ok_X4_ageOn im_X4_ageOn se_X4_ageOn hlink hroom hb kd_4 rfl rfl (fun v hv => by
    simp only [List.mem_cons, List.not_mem_nil, or_false] at hv
    rcases hv with rfl; first | rfl | (exact z_okRA (by assumption))) (Nat.le_of_ble_eq_true rfl) hrest rfl h
theorem iv_X4_weight {b : Nat} (hd : zD mt.1.2 pc (.invokevirtual idx) 3 pc') (hlink : Cond.methodLink mt.1.1.cls idx yX4_weight ∈ zTB) (hroom : 0 + 1 ≤ mt.2.2.2.1 ∧ 8 + (1 + 11) + 0 ≤ mt.2.2.2.2) (hb : zIs σ b (4, 0)) (hrest : (rest.map fun v => v.category).sum ≤ 8) (h : zC X m_X4_weight (.ref b :: []) σ (fun r σ1 => zE X mt pc' ls (r.toList ++ rest) σ1 Q)) : zE X mt pc ls (.ref b :: rest) σ Q :=
  e_invV (mz := m_X4_weight) (As := []) (rest := rest) hd ok_X4_weight im_X4_weight se_X4_weight hlink hroom hb kd_4 rfl rfl (fun v hv => by cases hv) (Nat.le_of_ble_eq_true rfl) hrest rfl h
theorem iv_X4_isDead {b : Nat} (hd : zD mt.1.2 pc (.invokevirtual idx) 3 pc') (hlink : Cond.methodLink mt.1.1.cls idx yX4_isDead ∈ zTB) (hroom : 0 + 1 ≤ mt.2.2.2.1 ∧ 8 + (1 + 11) + 0 ≤ mt.2.2.2.2) (hb : zIs σ b (4, 0)) (hrest : (rest.map fun v => v.category).sum ≤ 8) (h : zC X m_X4_isDead (.ref b :: []) σ (fun r σ1 => zE X mt pc' ls (r.toList ++ rest) σ1 Q)) : zE X mt pc ls (.ref b :: rest) σ Q :=
  e_invV (mz := m_X4_isDead) (As := []) (rest := rest) hd ok_X4_isDead im_X4_isDead se_X4_isDead hlink hroom hb kd_4 rfl rfl (fun v hv => by cases hv) (Nat.le_of_ble_eq_true rfl) hrest rfl h
theorem iv_X4_isAway {b : Nat} (hd : zD mt.1.2 pc (.invokevirtual idx) 3 pc') (hlink : Cond.methodLink mt.1.1.cls idx yX4_isAway ∈ zTB) (hroom : 0 + 1 ≤ mt.2.2.2.1 ∧ 8 + (1 + 11) + 0 ≤ mt.2.2.2.2) (hb : zIs σ b (4, 0)) (hrest : (rest.map fun v => v.category).sum ≤ 8) (h : zC X m_X4_isAway (.ref b :: []) σ (fun r σ1 => zE X mt pc' ls (r.toList ++ rest) σ1 Q)) : zE X mt pc ls (.ref b :: rest) σ Q :=
  e_invV (mz := m_X4_isAway) (As := []) (rest := rest) hd ok_X4_isAway im_X4_isAway se_X4_isAway hlink hroom hb kd_4 rfl rfl (fun v hv => by cases hv) (Nat.le_of_ble_eq_true rfl) hrest rfl h
theorem iv_X4_latestMove {b : Nat} (hd : zD mt.1.2 pc (.invokevirtual idx) 3 pc') (hlink : Cond.methodLink mt.1.1.cls idx yX4_latestMove ∈ zTB) (hroom : 1 + 1 ≤ mt.2.2.2.1 ∧ 8 + (1 + 11) + 21 ≤ mt.2.2.2.2) (hb : zIs σ b (4, 0)) (hrest : (rest.map fun v => v.category).sum ≤ 8) (h : zC X m_X4_latestMove (.ref b :: []) σ (fun r σ1 => zE X mt pc' ls (r.toList ++ rest) σ1 Q)) : zE X mt pc ls (.ref b :: rest) σ Q :=
  e_invV (mz := m_X4_latestMove) (As := []) (rest := rest) hd ok_X4_latestMove im_X4_latestMove se_X4_latestMove hlink hroom hb kd_4 rfl rfl (fun v hv => by cases hv) (Nat.le_of_ble_eq_true rfl) hrest rfl h
theorem iv_X4_isThereOn {a0 : Int} {b : Nat} (hd : zD mt.1.2 pc (.invokevirtual idx) 3 pc') (hlink : Cond.methodLink mt.1.1.cls idx yX4_isThereOn ∈ zTB) (hroom : 1 + 1 ≤ mt.2.2.2.1 ∧ 8 + (2 + 11) + 22 ≤ mt.2.2.2.2) (hb : zIs σ b (4, 0)) (hrest : (rest.map fun v => v.category).sum ≤ 8) (h : zC X m_X4_isThereOn (.ref b :: [vi a0]) σ (fun r σ1 => zE X mt pc' ls (r.toList ++ rest) σ1 Q)) : zE X mt pc ls (vi a0 :: .ref b :: rest) σ Q :=
  e_invV (mz := m_X4_isThereOn) (As := [vi a0]) (rest := rest) hd ok_X4_isThereOn im_X4_isThereOn se_X4_isThereOn hlink hroom hb kd_4 rfl rfl (fun v hv => by
    simp only [List.mem_cons, List.not_mem_nil, or_false] at hv
    rcases hv with rfl; first | rfl | (exact z_okRA (by assumption))) (Nat.le_of_ble_eq_true rfl) hrest rfl h
theorem iv_X4_isAwayOn {a0 : Int} {b : Nat} (hd : zD mt.1.2 pc (.invokevirtual idx) 3 pc') (hlink : Cond.methodLink mt.1.1.cls idx yX4_isAwayOn ∈ zTB) (hroom : 0 + 1 ≤ mt.2.2.2.1 ∧ 8 + (3 + 11) + 0 ≤ mt.2.2.2.2) (hb : zIs σ b (4, 0)) (hrest : (rest.map fun v => v.category).sum ≤ 8) (h : zC X m_X4_isAwayOn (.ref b :: [vi a0]) σ (fun r σ1 => zE X mt pc' ls (r.toList ++ rest) σ1 Q)) : zE X mt pc ls (vi a0 :: .ref b :: rest) σ Q :=
  e_invV (mz := m_X4_isAwayOn) (As := [vi a0]) (rest := rest) hd ok_X4_isAwayOn im_X4_isAwayOn se_X4_isAwayOn hlink hroom hb kd_4 rfl rfl (fun v hv => by
    simp only [List.mem_cons, List.not_mem_nil, or_false] at hv
    rcases hv with rfl; first | rfl | (exact z_okRA (by assumption))) (Nat.le_of_ble_eq_true rfl) hrest rfl h
theorem iv_X4_mayJoin {a0 : Int} {b : Nat} (hd : zD mt.1.2 pc (.invokevirtual idx) 3 pc') (hlink : Cond.methodLink mt.1.1.cls idx yX4_mayJoin ∈ zTB) (hroom : 0 + 1 ≤ mt.2.2.2.1 ∧ 8 + (2 + 11) + 0 ≤ mt.2.2.2.2) (hb : zIs σ b (4, 0)) (hrest : (rest.map fun v => v.category).sum ≤ 8) (h : zC X m_X4_mayJoin (.ref b :: [vi a0]) σ (fun r σ1 => zE X mt pc' ls (r.toList ++ rest) σ1 Q)) : zE X mt pc ls (vi a0 :: .ref b :: rest) σ Q :=
  e_invV (mz := m_X4_mayJoin) (As := [vi a0]) (rest := rest) hd ok_X4_mayJoin im_X4_mayJoin se_X4_mayJoin hlink hroom hb kd_4 rfl rfl (fun v hv => by
    simp only [List.mem_cons, List.not_mem_nil, or_false] at hv
    rcases hv with rfl; first | rfl | (exact z_okRA (by assumption))) (Nat.le_of_ble_eq_true rfl) hrest rfl h
theorem iv_X4_spellOn {a0 : Int} {b : Nat} (hd : zD mt.1.2 pc (.invokevirtual idx) 3 pc') (hlink : Cond.methodLink mt.1.1.cls idx yX4_spellOn ∈ zTB) (hroom : 2 + 1 ≤ mt.2.2.2.1 ∧ 8 + (4 + 11) + 43 ≤ mt.2.2.2.2) (hb : zIs σ b (4, 0)) (hrest : (rest.map fun v => v.category).sum ≤ 8) (h : zC X m_X4_spellOn (.ref b :: [vi a0]) σ (fun r σ1 => zE X mt pc' ls (r.toList ++ rest) σ1 Q)) : zE X mt pc ls (vi a0 :: .ref b :: rest) σ Q :=
  e_invV (mz := m_X4_spellOn) (As := [vi a0]) (rest := rest) hd ok_X4_spellOn im_X4_spellOn se_X4_spellOn hlink hroom hb kd_4 rfl rfl (fun v hv => by
    simp only [List.mem_cons, List.not_mem_nil, or_false] at hv
    rcases hv with rfl; first | rfl | (exact z_okRA (by assumption))) (Nat.le_of_ble_eq_true rfl) hrest rfl h
theorem iv_X4_groupOn {a0 : Int} {b : Nat} (hd : zD mt.1.2 pc (.invokevirtual idx) 3 pc') (hlink : Cond.methodLink mt.1.1.cls idx yX4_groupOn ∈ zTB) (hroom : 3 + 1 ≤ mt.2.2.2.1 ∧ 8 + (3 + 11) + 66 ≤ mt.2.2.2.2) (hb : zIs σ b (4, 0)) (hrest : (rest.map fun v => v.category).sum ≤ 8) (h : zC X m_X4_groupOn (.ref b :: [vi a0]) σ (fun r σ1 => zE X mt pc' ls (r.toList ++ rest) σ1 Q)) : zE X mt pc ls (vi a0 :: .ref b :: rest) σ Q :=
  e_invV (mz := m_X4_groupOn) (As := [vi a0]) (rest := rest) hd ok_X4_groupOn im_X4_groupOn se_X4_groupOn hlink hroom hb kd_4 rfl rfl (fun v hv => by
    simp only [List.mem_cons, List.not_mem_nil, or_false] at hv
    rcases hv with rfl; first | rfl | (exact z_okRA (by assumption))) (Nat.le_of_ble_eq_true rfl) hrest rfl h
theorem iv_X5_init {a0 : Int} {a1 : Value} (ha1 : z_okR a1 = true) {a2 : Int} {a3 : Int} {b : Nat} (hd : zD mt.1.2 pc (.invokespecial idx) 3 pc') (hlink : Cond.methodLink mt.1.1.cls idx yX5_init ∈ zTB) (hroom : 1 + 1 ≤ mt.2.2.2.1 ∧ 8 + (5 + 11) + 12 ≤ mt.2.2.2.2) (hrest : (rest.map fun v => v.category).sum ≤ 8) (h : zC X m_X5_init (.ref b :: [vi a0, a1, vi a2, vi a3]) σ (fun r σ1 => zE X mt pc' ls (r.toList ++ rest) σ1 Q)) : zE X mt pc ls (vi a3 :: vi a2 :: a1 :: vi a0 :: .ref b :: rest) σ Q :=
  e_invI (mz := m_X5_init) (As := [vi a0, a1, vi a2, vi a3]) (rest := rest) hd ok_X5_init im_X5_init rfl rfl hlink hroom rfl (fun v hv => by
    simp only [List.mem_cons, List.not_mem_nil, or_false] at hv
    rcases hv with rfl | rfl | rfl | rfl <;> first | rfl | (exact z_okRA (by assumption))) (by
    cases a1 <;> first | (cases ha1; done) | skip
    all_goals exact Nat.le_of_ble_eq_true rfl) hrest rfl h
theorem iv_X5_isBrought {b : Nat} (hd : zD mt.1.2 pc (.invokevirtual idx) 3 pc') (hlink : Cond.methodLink mt.1.1.cls idx yX5_isBrought ∈ zTB) (hroom : 0 + 1 ≤ mt.2.2.2.1 ∧ 8 + (1 + 11) + 0 ≤ mt.2.2.2.2) (hb : zIs σ b (5, 0)) (hrest : (rest.map fun v => v.category).sum ≤ 8) (h : zC X m_X5_isBrought (.ref b :: []) σ (fun r σ1 => zE X mt pc' ls (r.toList ++ rest) σ1 Q)) : zE X mt pc ls (.ref b :: rest) σ Q :=
  e_invV (mz := m_X5_isBrought) (As := []) (rest := rest) hd ok_X5_isBrought im_X5_isBrought se_X5_isBrought hlink hroom hb kd_5 rfl rfl (fun v hv => by cases hv) (Nat.le_of_ble_eq_true rfl) hrest rfl h
theorem iv_X5_isDueOn {a0 : Int} {b : Nat} (hd : zD mt.1.2 pc (.invokevirtual idx) 3 pc') (hlink : Cond.methodLink mt.1.1.cls idx yX5_isDueOn ∈ zTB) (hroom : 1 + 1 ≤ mt.2.2.2.1 ∧ 8 + (2 + 11) + 20 ≤ mt.2.2.2.2) (hb : zIs σ b (5, 0)) (hrest : (rest.map fun v => v.category).sum ≤ 8) (h : zC X m_X5_isDueOn (.ref b :: [vi a0]) σ (fun r σ1 => zE X mt pc' ls (r.toList ++ rest) σ1 Q)) : zE X mt pc ls (vi a0 :: .ref b :: rest) σ Q :=
  e_invV (mz := m_X5_isDueOn) (As := [vi a0]) (rest := rest) hd ok_X5_isDueOn im_X5_isDueOn se_X5_isDueOn hlink hroom hb kd_5 rfl rfl (fun v hv => by
    simp only [List.mem_cons, List.not_mem_nil, or_false] at hv
    rcases hv with rfl; first | rfl | (exact z_okRA (by assumption))) (Nat.le_of_ble_eq_true rfl) hrest rfl h
theorem iv_X5_state {b : Nat} (hd : zD mt.1.2 pc (.invokevirtual idx) 3 pc') (hlink : Cond.methodLink mt.1.1.cls idx yX5_state ∈ zTB) (hroom : 1 + 1 ≤ mt.2.2.2.1 ∧ 8 + (1 + 11) + 20 ≤ mt.2.2.2.2) (hb : zIs σ b (5, 0)) (hrest : (rest.map fun v => v.category).sum ≤ 8) (h : zC X m_X5_state (.ref b :: []) σ (fun r σ1 => zE X mt pc' ls (r.toList ++ rest) σ1 Q)) : zE X mt pc ls (.ref b :: rest) σ Q :=
  e_invV (mz := m_X5_state) (As := []) (rest := rest) hd ok_X5_state im_X5_state se_X5_state hlink hroom hb kd_5 rfl rfl (fun v hv => by cases hv) (Nat.le_of_ble_eq_true rfl) hrest rfl h
theorem iv_X6_init {b : Nat} (hd : zD mt.1.2 pc (.invokespecial idx) 3 pc') (hlink : Cond.methodLinkNest mt.1.1.cls idx yX6_init "TenForOne" ∈ zNW) (hroom : 1 + 1 ≤ mt.2.2.2.1 ∧ 8 + (1 + 11) + 12 ≤ mt.2.2.2.2) (hrest : (rest.map fun v => v.category).sum ≤ 8) (h : zC X m_X6_init (.ref b :: []) σ (fun r σ1 => zE X mt pc' ls (r.toList ++ rest) σ1 Q)) : zE X mt pc ls (.ref b :: rest) σ Q :=
  e_invIN (mz := m_X6_init) (As := []) (rest := rest) hd ok_X6_init im_X6_init rfl rfl hlink hroom rfl (fun v hv => by cases hv) (Nat.le_of_ble_eq_true rfl) hrest rfl h
theorem iv_X6_begin {a0 : Value} (ha0 : z_okR a0 = true) {b : Nat} (hd : zD mt.1.2 pc (.invokevirtual idx) 3 pc') (hlink : Cond.methodLink mt.1.1.cls idx yX6_begin ∈ zTB) (hroom : 1 + 1 ≤ mt.2.2.2.1 ∧ 8 + (4 + 11) + 20 ≤ mt.2.2.2.2) (hb : zIs σ b (6, 0)) (hrest : (rest.map fun v => v.category).sum ≤ 8) (h : zC X m_X6_begin (.ref b :: [a0]) σ (fun r σ1 => zE X mt pc' ls (r.toList ++ rest) σ1 Q)) : zE X mt pc ls (a0 :: .ref b :: rest) σ Q :=
  e_invV (mz := m_X6_begin) (As := [a0]) (rest := rest) hd ok_X6_begin im_X6_begin se_X6_begin hlink hroom hb kd_6 rfl rfl (fun v hv => by
    simp only [List.mem_cons, List.not_mem_nil, or_false] at hv
    rcases hv with rfl; first | rfl | (exact z_okRA (by assumption))) (by
    cases a0 <;> first | (cases ha0; done) | skip
    all_goals exact Nat.le_of_ble_eq_true rfl) hrest rfl h
theorem iv_X6_putMember {a0 : Int} {a1 : Int} {b : Nat} (hd : zD mt.1.2 pc (.invokevirtual idx) 3 pc') (hlink : Cond.methodLink mt.1.1.cls idx yX6_putMember ∈ zTB) (hroom : 0 + 1 ≤ mt.2.2.2.1 ∧ 8 + (3 + 11) + 0 ≤ mt.2.2.2.2) (hb : zIs σ b (6, 0)) (hrest : (rest.map fun v => v.category).sum ≤ 8) (h : zC X m_X6_putMember (.ref b :: [vi a0, vi a1]) σ (fun r σ1 => zE X mt pc' ls (r.toList ++ rest) σ1 Q)) : zE X mt pc ls (vi a1 :: vi a0 :: .ref b :: rest) σ Q :=
  e_invV (mz := m_X6_putMember) (As := [vi a0, vi a1]) (rest := rest) hd ok_X6_putMember im_X6_putMember se_X6_putMember hlink hroom hb kd_6 rfl rfl (fun v hv => by
    simp only [List.mem_cons, List.not_mem_nil, or_false] at hv
    rcases hv with rfl | rfl <;> first | rfl | (exact z_okRA (by assumption))) (Nat.le_of_ble_eq_true rfl) hrest rfl h
theorem iv_X6_leftOutOf {a0 : Int} {b : Nat} (hd : zD mt.1.2 pc (.invokevirtual idx) 3 pc') (hlink : Cond.methodLink mt.1.1.cls idx yX6_leftOutOf ∈ zTB) (hroom : 1 + 1 ≤ mt.2.2.2.1 ∧ 8 + (2 + 11) + 21 ≤ mt.2.2.2.2) (hb : zIs σ b (6, 0)) (hrest : (rest.map fun v => v.category).sum ≤ 8) (h : zC X m_X6_leftOutOf (.ref b :: [vi a0]) σ (fun r σ1 => zE X mt pc' ls (r.toList ++ rest) σ1 Q)) : zE X mt pc ls (vi a0 :: .ref b :: rest) σ Q :=
  e_invV (mz := m_X6_leftOutOf) (As := [vi a0]) (rest := rest) hd ok_X6_leftOutOf im_X6_leftOutOf se_X6_leftOutOf hlink hroom hb kd_6 rfl rfl (fun v hv => by
    simp only [List.mem_cons, List.not_mem_nil, or_false] at hv
    rcases hv with rfl; first | rfl | (exact z_okRA (by assumption))) (Nat.le_of_ble_eq_true rfl) hrest rfl h
theorem iv_X6_leftOutOfAll {b : Nat} (hd : zD mt.1.2 pc (.invokevirtual idx) 3 pc') (hlink : Cond.methodLink mt.1.1.cls idx yX6_leftOutOfAll ∈ zTB) (hroom : 2 + 1 ≤ mt.2.2.2.1 ∧ 8 + (3 + 11) + 42 ≤ mt.2.2.2.2) (hb : zIs σ b (6, 0)) (hrest : (rest.map fun v => v.category).sum ≤ 8) (h : zC X m_X6_leftOutOfAll (.ref b :: []) σ (fun r σ1 => zE X mt pc' ls (r.toList ++ rest) σ1 Q)) : zE X mt pc ls (.ref b :: rest) σ Q :=
  e_invV (mz := m_X6_leftOutOfAll) (As := []) (rest := rest) hd ok_X6_leftOutOfAll im_X6_leftOutOfAll se_X6_leftOutOfAll hlink hroom hb kd_6 rfl rfl (fun v hv => by cases hv) (Nat.le_of_ble_eq_true rfl) hrest rfl h
theorem iv_X7_init {b : Nat} (hd : zD mt.1.2 pc (.invokespecial idx) 3 pc') (hlink : Cond.methodLinkNest mt.1.1.cls idx yX7_init "TenForOne" ∈ zNW) (hroom : 1 + 1 ≤ mt.2.2.2.1 ∧ 8 + (1 + 11) + 12 ≤ mt.2.2.2.2) (hrest : (rest.map fun v => v.category).sum ≤ 8) (h : zC X m_X7_init (.ref b :: []) σ (fun r σ1 => zE X mt pc' ls (r.toList ++ rest) σ1 Q)) : zE X mt pc ls (.ref b :: rest) σ Q :=
  e_invIN (mz := m_X7_init) (As := []) (rest := rest) hd ok_X7_init im_X7_init rfl rfl hlink hroom rfl (fun v hv => by cases hv) (Nat.le_of_ble_eq_true rfl) hrest rfl h
theorem iv_X7_isNothing {b : Nat} (hd : zD mt.1.2 pc (.invokevirtual idx) 3 pc') (hlink : Cond.methodLink mt.1.1.cls idx yX7_isNothing ∈ zTB) (hroom : 0 + 1 ≤ mt.2.2.2.1 ∧ 8 + (1 + 11) + 0 ≤ mt.2.2.2.2) (hb : zIs σ b (7, 0)) (hrest : (rest.map fun v => v.category).sum ≤ 8) (h : zC X m_X7_isNothing (.ref b :: []) σ (fun r σ1 => zE X mt pc' ls (r.toList ++ rest) σ1 Q)) : zE X mt pc ls (.ref b :: rest) σ Q :=
  e_invV (mz := m_X7_isNothing) (As := []) (rest := rest) hd ok_X7_isNothing im_X7_isNothing se_X7_isNothing hlink hroom hb kd_7 rfl rfl (fun v hv => by cases hv) (Nat.le_of_ble_eq_true rfl) hrest rfl h
theorem iv_X7_renew {a0 : Int} {a1 : Int} {b : Nat} (hd : zD mt.1.2 pc (.invokevirtual idx) 3 pc') (hlink : Cond.methodLink mt.1.1.cls idx yX7_renew ∈ zTB) (hroom : 1 + 1 ≤ mt.2.2.2.1 ∧ 8 + (4 + 11) + 21 ≤ mt.2.2.2.2) (hb : zIs σ b (7, 0)) (hrest : (rest.map fun v => v.category).sum ≤ 8) (h : zC X m_X7_renew (.ref b :: [vi a0, vi a1]) σ (fun r σ1 => zE X mt pc' ls (r.toList ++ rest) σ1 Q)) : zE X mt pc ls (vi a1 :: vi a0 :: .ref b :: rest) σ Q :=
  e_invV (mz := m_X7_renew) (As := [vi a0, vi a1]) (rest := rest) hd ok_X7_renew im_X7_renew se_X7_renew hlink hroom hb kd_7 rfl rfl (fun v hv => by
    simp only [List.mem_cons, List.not_mem_nil, or_false] at hv
    rcases hv with rfl | rfl <;> first | rfl | (exact z_okRA (by assumption))) (Nat.le_of_ble_eq_true rfl) hrest rfl h
theorem iv_X7_put {a0 : Int} {a1 : Int} {b : Nat} (hd : zD mt.1.2 pc (.invokevirtual idx) 3 pc') (hlink : Cond.methodLink mt.1.1.cls idx yX7_put ∈ zTB) (hroom : 0 + 1 ≤ mt.2.2.2.1 ∧ 8 + (3 + 11) + 0 ≤ mt.2.2.2.2) (hb : zIs σ b (7, 0)) (hrest : (rest.map fun v => v.category).sum ≤ 8) (h : zC X m_X7_put (.ref b :: [vi a0, vi a1]) σ (fun r σ1 => zE X mt pc' ls (r.toList ++ rest) σ1 Q)) : zE X mt pc ls (vi a1 :: vi a0 :: .ref b :: rest) σ Q :=
  e_invV (mz := m_X7_put) (As := [vi a0, vi a1]) (rest := rest) hd ok_X7_put im_X7_put se_X7_put hlink hroom hb kd_7 rfl rfl (fun v hv => by
    simp only [List.mem_cons, List.not_mem_nil, or_false] at hv
    rcases hv with rfl | rfl <;> first | rfl | (exact z_okRA (by assumption))) (Nat.le_of_ble_eq_true rfl) hrest rfl h
theorem iv_X8_init {a0 : Int} {a1 : Int} {a2 : Value} (ha2 : z_okR a2 = true) {b : Nat} (hd : zD mt.1.2 pc (.invokespecial idx) 3 pc') (hlink : Cond.methodLink mt.1.1.cls idx yX8_init ∈ zTB) (hroom : 1 + 1 ≤ mt.2.2.2.1 ∧ 8 + (4 + 11) + 12 ≤ mt.2.2.2.2) (hrest : (rest.map fun v => v.category).sum ≤ 8) (h : zC X m_X8_init (.ref b :: [vi a0, vi a1, a2]) σ (fun r σ1 => zE X mt pc' ls (r.toList ++ rest) σ1 Q)) : zE X mt pc ls (a2 :: vi a1 :: vi a0 :: .ref b :: rest) σ Q :=
  e_invI (mz := m_X8_init) (As := [vi a0, vi a1, a2]) (rest := rest) hd ok_X8_init im_X8_init rfl rfl hlink hroom rfl (fun v hv => by
    simp only [List.mem_cons, List.not_mem_nil, or_false] at hv
    rcases hv with rfl | rfl | rfl <;> first | rfl | (exact z_okRA (by assumption))) (by
    cases a2 <;> first | (cases ha2; done) | skip
    all_goals exact Nat.le_of_ble_eq_true rfl) hrest rfl h
theorem iv_X9_init {a0 : Int} {a1 : Int} {a2 : Int} {a3 : Int} {b : Nat} (hd : zD mt.1.2 pc (.invokespecial idx) 3 pc') (hlink : Cond.methodLink mt.1.1.cls idx yX9_init ∈ zTB) (hroom : 1 + 1 ≤ mt.2.2.2.1 ∧ 8 + (5 + 11) + 12 ≤ mt.2.2.2.2) (hrest : (rest.map fun v => v.category).sum ≤ 8) (h : zC X m_X9_init (.ref b :: [vi a0, vi a1, vi a2, vi a3]) σ (fun r σ1 => zE X mt pc' ls (r.toList ++ rest) σ1 Q)) : zE X mt pc ls (vi a3 :: vi a2 :: vi a1 :: vi a0 :: .ref b :: rest) σ Q :=
  e_invI (mz := m_X9_init) (As := [vi a0, vi a1, vi a2, vi a3]) (rest := rest) hd ok_X9_init im_X9_init rfl rfl hlink hroom rfl (fun v hv => by
    simp only [List.mem_cons, List.not_mem_nil, or_false] at hv
    rcases hv with rfl | rfl | rfl | rfl <;> first | rfl | (exact z_okRA (by assumption))) (Nat.le_of_ble_eq_true rfl) hrest rfl h
theorem iv_X10_init {b : Nat} (hd : zD mt.1.2 pc (.invokespecial idx) 3 pc') (hlink : Cond.methodLinkNest mt.1.1.cls idx yX10_init "TenForOne" ∈ zNW) (hroom : 1 + 1 ≤ mt.2.2.2.1 ∧ 8 + (1 + 11) + 12 ≤ mt.2.2.2.2) (hrest : (rest.map fun v => v.category).sum ≤ 8) (h : zC X m_X10_init (.ref b :: []) σ (fun r σ1 => zE X mt pc' ls (r.toList ++ rest) σ1 Q)) : zE X mt pc ls (.ref b :: rest) σ Q :=
  e_invIN (mz := m_X10_init) (As := []) (rest := rest) hd ok_X10_init im_X10_init rfl rfl hlink hroom rfl (fun v hv => by cases hv) (Nat.le_of_ble_eq_true rfl) hrest rfl h
theorem iv_X10_put {a0 : Int} {b : Nat} (hd : zD mt.1.2 pc (.invokevirtual idx) 3 pc') (hlink : Cond.methodLink mt.1.1.cls idx yX10_put ∈ zTB) (hroom : 0 + 1 ≤ mt.2.2.2.1 ∧ 8 + (2 + 11) + 0 ≤ mt.2.2.2.2) (hb : zIs σ b (10, 0)) (hrest : (rest.map fun v => v.category).sum ≤ 8) (h : zC X m_X10_put (.ref b :: [vi a0]) σ (fun r σ1 => zE X mt pc' ls (r.toList ++ rest) σ1 Q)) : zE X mt pc ls (vi a0 :: .ref b :: rest) σ Q :=
  e_invV (mz := m_X10_put) (As := [vi a0]) (rest := rest) hd ok_X10_put im_X10_put se_X10_put hlink hroom hb kd_10 rfl rfl (fun v hv => by
    simp only [List.mem_cons, List.not_mem_nil, or_false] at hv
    rcases hv with rfl; first | rfl | (exact z_okRA (by assumption))) (Nat.le_of_ble_eq_true rfl) hrest rfl h
theorem iv_X10_readInto {a0 : Value} (ha0 : z_okR a0 = true) {b : Nat} (hd : zD mt.1.2 pc (.invokevirtual idx) 3 pc') (hlink : Cond.methodLink mt.1.1.cls idx yX10_readInto ∈ zTB) (hroom : 5 + 1 ≤ mt.2.2.2.1 ∧ 8 + (4 + 11) + 115 ≤ mt.2.2.2.2) (hb : zIs σ b (10, 0)) (hrest : (rest.map fun v => v.category).sum ≤ 8) (h : zC X m_X10_readInto (.ref b :: [a0]) σ (fun r σ1 => zE X mt pc' ls (r.toList ++ rest) σ1 Q)) : zE X mt pc ls (a0 :: .ref b :: rest) σ Q :=
  e_invV (mz := m_X10_readInto) (As := [a0]) (rest := rest) hd ok_X10_readInto im_X10_readInto se_X10_readInto hlink hroom hb kd_10 rfl rfl (fun v hv => by
    simp only [List.mem_cons, List.not_mem_nil, or_false] at hv
    rcases hv with rfl; first | rfl | (exact z_okRA (by assumption))) (by
    cases a0 <;> first | (cases ha0; done) | skip
    all_goals exact Nat.le_of_ble_eq_true rfl) hrest rfl h
theorem iv_X10_readClause {a0 : Value} (ha0 : z_okR a0 = true) {b : Nat} (hd : zD mt.1.2 pc (.invokevirtual idx) 3 pc') (hlink : Cond.methodLink mt.1.1.cls idx yX10_readClause ∈ zTB) (hroom : 4 + 1 ≤ mt.2.2.2.1 ∧ 8 + (5 + 11) + 91 ≤ mt.2.2.2.2) (hb : zIs σ b (10, 0)) (hrest : (rest.map fun v => v.category).sum ≤ 8) (h : zC X m_X10_readClause (.ref b :: [a0]) σ (fun r σ1 => zE X mt pc' ls (r.toList ++ rest) σ1 Q)) : zE X mt pc ls (a0 :: .ref b :: rest) σ Q :=
  e_invV (mz := m_X10_readClause) (As := [a0]) (rest := rest) hd ok_X10_readClause im_X10_readClause se_X10_readClause hlink hroom hb kd_10 rfl rfl (fun v hv => by
    simp only [List.mem_cons, List.not_mem_nil, or_false] at hv
    rcases hv with rfl; first | rfl | (exact z_okRA (by assumption))) (by
    cases a0 <;> first | (cases ha0; done) | skip
    all_goals exact Nat.le_of_ble_eq_true rfl) hrest rfl h
theorem iv_X10_readAges {a0 : Value} (ha0 : z_okR a0 = true) {a1 : Int} {b : Nat} (hd : zD mt.1.2 pc (.invokevirtual idx) 3 pc') (hlink : Cond.methodLink mt.1.1.cls idx yX10_readAges ∈ zTB) (hroom : 2 + 1 ≤ mt.2.2.2.1 ∧ 8 + (5 + 11) + 45 ≤ mt.2.2.2.2) (hb : zIs σ b (10, 0)) (hrest : (rest.map fun v => v.category).sum ≤ 8) (h : zC X m_X10_readAges (.ref b :: [a0, vi a1]) σ (fun r σ1 => zE X mt pc' ls (r.toList ++ rest) σ1 Q)) : zE X mt pc ls (vi a1 :: a0 :: .ref b :: rest) σ Q :=
  e_invV (mz := m_X10_readAges) (As := [a0, vi a1]) (rest := rest) hd ok_X10_readAges im_X10_readAges se_X10_readAges hlink hroom hb kd_10 rfl rfl (fun v hv => by
    simp only [List.mem_cons, List.not_mem_nil, or_false] at hv
    rcases hv with rfl | rfl <;> first | rfl | (exact z_okRA (by assumption))) (by
    cases a0 <;> first | (cases ha0; done) | skip
    all_goals exact Nat.le_of_ble_eq_true rfl) hrest rfl h
theorem iv_X10_readNumber {a0 : Int} {a1 : Int} {b : Nat} (hd : zD mt.1.2 pc (.invokevirtual idx) 3 pc') (hlink : Cond.methodLink mt.1.1.cls idx yX10_readNumber ∈ zTB) (hroom : 1 + 1 ≤ mt.2.2.2.1 ∧ 8 + (5 + 11) + 21 ≤ mt.2.2.2.2) (hb : zIs σ b (10, 0)) (hrest : (rest.map fun v => v.category).sum ≤ 8) (h : zC X m_X10_readNumber (.ref b :: [vi a0, vi a1]) σ (fun r σ1 => zE X mt pc' ls (r.toList ++ rest) σ1 Q)) : zE X mt pc ls (vi a1 :: vi a0 :: .ref b :: rest) σ Q :=
  e_invV (mz := m_X10_readNumber) (As := [vi a0, vi a1]) (rest := rest) hd ok_X10_readNumber im_X10_readNumber se_X10_readNumber hlink hroom hb kd_10 rfl rfl (fun v hv => by
    simp only [List.mem_cons, List.not_mem_nil, or_false] at hv
    rcases hv with rfl | rfl <;> first | rfl | (exact z_okRA (by assumption))) (Nat.le_of_ble_eq_true rfl) hrest rfl h
theorem iv_X10_nextSign {b : Nat} (hd : zD mt.1.2 pc (.invokevirtual idx) 3 pc') (hlink : Cond.methodLink mt.1.1.cls idx yX10_nextSign ∈ zTB) (hroom : 0 + 1 ≤ mt.2.2.2.1 ∧ 8 + (1 + 11) + 0 ≤ mt.2.2.2.2) (hb : zIs σ b (10, 0)) (hrest : (rest.map fun v => v.category).sum ≤ 8) (h : zC X m_X10_nextSign (.ref b :: []) σ (fun r σ1 => zE X mt pc' ls (r.toList ++ rest) σ1 Q)) : zE X mt pc ls (.ref b :: rest) σ Q :=
  e_invV (mz := m_X10_nextSign) (As := []) (rest := rest) hd ok_X10_nextSign im_X10_nextSign se_X10_nextSign hlink hroom hb kd_10 rfl rfl (fun v hv => by cases hv) (Nat.le_of_ble_eq_true rfl) hrest rfl h
theorem iv_X10_isDigit {a0 : Int} (hd : zD mt.1.2 pc (.invokestatic idx) 3 pc') (hlink : Cond.methodLink mt.1.1.cls idx yX10_isDigit ∈ zTB) (hroom : 0 + 1 ≤ mt.2.2.2.1 ∧ 8 + (1 + 11) + 0 ≤ mt.2.2.2.2) (hrest : (rest.map fun v => v.category).sum ≤ 8) (h : zC X m_X10_isDigit [vi a0] σ (fun r σ1 => zE X mt pc' ls (r.toList ++ rest) σ1 Q)) : zE X mt pc ls (vi a0 :: rest) σ Q :=
  e_invS (mz := m_X10_isDigit) (As := [vi a0]) (rest := rest) hd ok_X10_isDigit ss_X10_isDigit hlink hroom rfl (fun v hv => by
    simp only [List.mem_cons, List.not_mem_nil, or_false] at hv
    rcases hv with rfl; first | rfl | (exact z_okRA (by assumption))) (Nat.le_of_ble_eq_true rfl) hrest rfl h
theorem iv_X10_fault {a0 : Int} {b : Nat} (hd : zD mt.1.2 pc (.invokevirtual idx) 3 pc') (hlink : Cond.methodLink mt.1.1.cls idx yX10_fault ∈ zTB) (hroom : 0 + 1 ≤ mt.2.2.2.1 ∧ 8 + (2 + 11) + 0 ≤ mt.2.2.2.2) (hb : zIs σ b (10, 0)) (hrest : (rest.map fun v => v.category).sum ≤ 8) (h : zC X m_X10_fault (.ref b :: [vi a0]) σ (fun r σ1 => zE X mt pc' ls (r.toList ++ rest) σ1 Q)) : zE X mt pc ls (vi a0 :: .ref b :: rest) σ Q :=
  e_invV (mz := m_X10_fault) (As := [vi a0]) (rest := rest) hd ok_X10_fault im_X10_fault se_X10_fault hlink hroom hb kd_10 rfl rfl (fun v hv => by
    simp only [List.mem_cons, List.not_mem_nil, or_false] at hv
    rcases hv with rfl; first | rfl | (exact z_okRA (by assumption))) (Nat.le_of_ble_eq_true rfl) hrest rfl h
theorem iv_X11_init {b : Nat} (hd : zD mt.1.2 pc (.invokespecial idx) 3 pc') (hlink : Cond.methodLink mt.1.1.cls idx yX11_init ∈ zTB) (hroom : 2 + 1 ≤ mt.2.2.2.1 ∧ 8 + (2 + 11) + 41 ≤ mt.2.2.2.2) (hrest : (rest.map fun v => v.category).sum ≤ 8) (h : zC X m_X11_init (.ref b :: []) σ (fun r σ1 => zE X mt pc' ls (r.toList ++ rest) σ1 Q)) : zE X mt pc ls (.ref b :: rest) σ Q :=
  e_invI (mz := m_X11_init) (As := []) (rest := rest) hd ok_X11_init im_X11_init rfl rfl hlink hroom rfl (fun v hv => by cases hv) (Nat.le_of_ble_eq_true rfl) hrest rfl h
theorem iv_X11_house {a0 : Int} {b : Nat} (hd : zD mt.1.2 pc (.invokevirtual idx) 3 pc') (hlink : Cond.methodLink mt.1.1.cls idx yX11_house ∈ zTB) (hroom : 1 + 1 ≤ mt.2.2.2.1 ∧ 8 + (2 + 11) + 20 ≤ mt.2.2.2.2) (hb : zIs σ b (11, 0)) (hrest : (rest.map fun v => v.category).sum ≤ 8) (h : zC X m_X11_house (.ref b :: [vi a0]) σ (fun r σ1 => zE X mt pc' ls (r.toList ++ rest) σ1 Q)) : zE X mt pc ls (vi a0 :: .ref b :: rest) σ Q :=
  e_invV (mz := m_X11_house) (As := [vi a0]) (rest := rest) hd ok_X11_house im_X11_house se_X11_house hlink hroom hb kd_11 rfl rfl (fun v hv => by
    simp only [List.mem_cons, List.not_mem_nil, or_false] at hv
    rcases hv with rfl; first | rfl | (exact z_okRA (by assumption))) (Nat.le_of_ble_eq_true rfl) hrest rfl h
theorem iv_X11_person {a0 : Int} {a1 : Int} {a2 : Int} {a3 : Int} {a4 : Int} {a5 : Int} {b : Nat} (hd : zD mt.1.2 pc (.invokevirtual idx) 3 pc') (hlink : Cond.methodLink mt.1.1.cls idx yX11_person ∈ zTB) (hroom : 2 + 1 ≤ mt.2.2.2.1 ∧ 8 + (7 + 11) + 44 ≤ mt.2.2.2.2) (hb : zIs σ b (11, 0)) (hrest : (rest.map fun v => v.category).sum ≤ 8) (h : zC X m_X11_person (.ref b :: [vi a0, vi a1, vi a2, vi a3, vi a4, vi a5]) σ (fun r σ1 => zE X mt pc' ls (r.toList ++ rest) σ1 Q)) : zE X mt pc ls (vi a5 :: vi a4 :: vi a3 :: vi a2 :: vi a1 :: vi a0 :: .ref b :: rest) σ Q :=
  e_invV (mz := m_X11_person) (As := [vi a0, vi a1, vi a2, vi a3, vi a4, vi a5]) (rest := rest) hd ok_X11_person im_X11_person se_X11_person hlink hroom hb kd_11 rfl rfl (fun v hv => by
    simp only [List.mem_cons, List.not_mem_nil, or_false] at hv
    rcases hv with rfl | rfl | rfl | rfl | rfl | rfl <;> first | rfl | (exact z_okRA (by assumption))) (Nat.le_of_ble_eq_true rfl) hrest rfl h
theorem iv_X11_told {a0 : Int} {a1 : Int} {b : Nat} (hd : zD mt.1.2 pc (.invokevirtual idx) 3 pc') (hlink : Cond.methodLink mt.1.1.cls idx yX11_told ∈ zTB) (hroom : 1 + 1 ≤ mt.2.2.2.1 ∧ 8 + (4 + 11) + 21 ≤ mt.2.2.2.2) (hb : zIs σ b (11, 0)) (hrest : (rest.map fun v => v.category).sum ≤ 8) (h : zC X m_X11_told (.ref b :: [vi a0, vi a1]) σ (fun r σ1 => zE X mt pc' ls (r.toList ++ rest) σ1 Q)) : zE X mt pc ls (vi a1 :: vi a0 :: .ref b :: rest) σ Q :=
  e_invV (mz := m_X11_told) (As := [vi a0, vi a1]) (rest := rest) hd ok_X11_told im_X11_told se_X11_told hlink hroom hb kd_11 rfl rfl (fun v hv => by
    simp only [List.mem_cons, List.not_mem_nil, or_false] at hv
    rcases hv with rfl | rfl <;> first | rfl | (exact z_okRA (by assumption))) (Nat.le_of_ble_eq_true rfl) hrest rfl h
theorem iv_X11_age {a0 : Int} {a1 : Int} {b : Nat} (hd : zD mt.1.2 pc (.invokevirtual idx) 3 pc') (hlink : Cond.methodLink mt.1.1.cls idx yX11_age ∈ zTB) (hroom : 1 + 1 ≤ mt.2.2.2.1 ∧ 8 + (4 + 11) + 21 ≤ mt.2.2.2.2) (hb : zIs σ b (11, 0)) (hrest : (rest.map fun v => v.category).sum ≤ 8) (h : zC X m_X11_age (.ref b :: [vi a0, vi a1]) σ (fun r σ1 => zE X mt pc' ls (r.toList ++ rest) σ1 Q)) : zE X mt pc ls (vi a1 :: vi a0 :: .ref b :: rest) σ Q :=
  e_invV (mz := m_X11_age) (As := [vi a0, vi a1]) (rest := rest) hd ok_X11_age im_X11_age se_X11_age hlink hroom hb kd_11 rfl rfl (fun v hv => by
    simp only [List.mem_cons, List.not_mem_nil, or_false] at hv
    rcases hv with rfl | rfl <;> first | rfl | (exact z_okRA (by assumption))) (Nat.le_of_ble_eq_true rfl) hrest rfl h
theorem iv_X11_dies {a0 : Int} {a1 : Int} {b : Nat} (hd : zD mt.1.2 pc (.invokevirtual idx) 3 pc') (hlink : Cond.methodLink mt.1.1.cls idx yX11_dies ∈ zTB) (hroom : 5 + 1 ≤ mt.2.2.2.1 ∧ 8 + (5 + 11) + 114 ≤ mt.2.2.2.2) (hb : zIs σ b (11, 0)) (hrest : (rest.map fun v => v.category).sum ≤ 8) (h : zC X m_X11_dies (.ref b :: [vi a0, vi a1]) σ (fun r σ1 => zE X mt pc' ls (r.toList ++ rest) σ1 Q)) : zE X mt pc ls (vi a1 :: vi a0 :: .ref b :: rest) σ Q :=
  e_invV (mz := m_X11_dies) (As := [vi a0, vi a1]) (rest := rest) hd ok_X11_dies im_X11_dies se_X11_dies hlink hroom hb kd_11 rfl rfl (fun v hv => by
    simp only [List.mem_cons, List.not_mem_nil, or_false] at hv
    rcases hv with rfl | rfl <;> first | rfl | (exact z_okRA (by assumption))) (Nat.le_of_ble_eq_true rfl) hrest rfl h
theorem iv_X11_flees {a0 : Int} {a1 : Int} {b : Nat} (hd : zD mt.1.2 pc (.invokevirtual idx) 3 pc') (hlink : Cond.methodLink mt.1.1.cls idx yX11_flees ∈ zTB) (hroom : 2 + 1 ≤ mt.2.2.2.1 ∧ 8 + (4 + 11) + 41 ≤ mt.2.2.2.2) (hb : zIs σ b (11, 0)) (hrest : (rest.map fun v => v.category).sum ≤ 8) (h : zC X m_X11_flees (.ref b :: [vi a0, vi a1]) σ (fun r σ1 => zE X mt pc' ls (r.toList ++ rest) σ1 Q)) : zE X mt pc ls (vi a1 :: vi a0 :: .ref b :: rest) σ Q :=
  e_invV (mz := m_X11_flees) (As := [vi a0, vi a1]) (rest := rest) hd ok_X11_flees im_X11_flees se_X11_flees hlink hroom hb kd_11 rfl rfl (fun v hv => by
    simp only [List.mem_cons, List.not_mem_nil, or_false] at hv
    rcases hv with rfl | rfl <;> first | rfl | (exact z_okRA (by assumption))) (Nat.le_of_ble_eq_true rfl) hrest rfl h
theorem iv_X11_back {a0 : Int} {a1 : Int} {b : Nat} (hd : zD mt.1.2 pc (.invokevirtual idx) 3 pc') (hlink : Cond.methodLink mt.1.1.cls idx yX11_back ∈ zTB) (hroom : 1 + 1 ≤ mt.2.2.2.1 ∧ 8 + (5 + 11) + 21 ≤ mt.2.2.2.2) (hb : zIs σ b (11, 0)) (hrest : (rest.map fun v => v.category).sum ≤ 8) (h : zC X m_X11_back (.ref b :: [vi a0, vi a1]) σ (fun r σ1 => zE X mt pc' ls (r.toList ++ rest) σ1 Q)) : zE X mt pc ls (vi a1 :: vi a0 :: .ref b :: rest) σ Q :=
  e_invV (mz := m_X11_back) (As := [vi a0, vi a1]) (rest := rest) hd ok_X11_back im_X11_back se_X11_back hlink hroom hb kd_11 rfl rfl (fun v hv => by
    simp only [List.mem_cons, List.not_mem_nil, or_false] at hv
    rcases hv with rfl | rfl <;> first | rfl | (exact z_okRA (by assumption))) (Nat.le_of_ble_eq_true rfl) hrest rfl h
theorem iv_X11_there {a0 : Int} {a1 : Int} {b : Nat} (hd : zD mt.1.2 pc (.invokevirtual idx) 3 pc') (hlink : Cond.methodLink mt.1.1.cls idx yX11_there ∈ zTB) (hroom : 2 + 1 ≤ mt.2.2.2.1 ∧ 8 + (4 + 11) + 43 ≤ mt.2.2.2.2) (hb : zIs σ b (11, 0)) (hrest : (rest.map fun v => v.category).sum ≤ 8) (h : zC X m_X11_there (.ref b :: [vi a0, vi a1]) σ (fun r σ1 => zE X mt pc' ls (r.toList ++ rest) σ1 Q)) : zE X mt pc ls (vi a1 :: vi a0 :: .ref b :: rest) σ Q :=
  e_invV (mz := m_X11_there) (As := [vi a0, vi a1]) (rest := rest) hd ok_X11_there im_X11_there se_X11_there hlink hroom hb kd_11 rfl rfl (fun v hv => by
    simp only [List.mem_cons, List.not_mem_nil, or_false] at hv
    rcases hv with rfl | rfl <;> first | rfl | (exact z_okRA (by assumption))) (Nat.le_of_ble_eq_true rfl) hrest rfl h
theorem iv_X11_kin {a0 : Int} {a1 : Int} {b : Nat} (hd : zD mt.1.2 pc (.invokevirtual idx) 3 pc') (hlink : Cond.methodLink mt.1.1.cls idx yX11_kin ∈ zTB) (hroom : 1 + 1 ≤ mt.2.2.2.1 ∧ 8 + (3 + 11) + 24 ≤ mt.2.2.2.2) (hb : zIs σ b (11, 0)) (hrest : (rest.map fun v => v.category).sum ≤ 8) (h : zC X m_X11_kin (.ref b :: [vi a0, vi a1]) σ (fun r σ1 => zE X mt pc' ls (r.toList ++ rest) σ1 Q)) : zE X mt pc ls (vi a1 :: vi a0 :: .ref b :: rest) σ Q :=
  e_invV (mz := m_X11_kin) (As := [vi a0, vi a1]) (rest := rest) hd ok_X11_kin im_X11_kin se_X11_kin hlink hroom hb kd_11 rfl rfl (fun v hv => by
    simp only [List.mem_cons, List.not_mem_nil, or_false] at hv
    rcases hv with rfl | rfl <;> first | rfl | (exact z_okRA (by assumption))) (Nat.le_of_ble_eq_true rfl) hrest rfl h
theorem iv_X11_type {a0 : Int64} {a1 : Int} {b : Nat} (hd : zD mt.1.2 pc (.invokevirtual idx) 3 pc') (hlink : Cond.methodLink mt.1.1.cls idx yX11_type ∈ zTB) (hroom : 1 + 1 ≤ mt.2.2.2.1 ∧ 8 + (6 + 11) + 22 ≤ mt.2.2.2.2) (hb : zIs σ b (11, 0)) (hrest : (rest.map fun v => v.category).sum ≤ 8) (h : zC X m_X11_type (.ref b :: [.long a0, vi a1]) σ (fun r σ1 => zE X mt pc' ls (r.toList ++ rest) σ1 Q)) : zE X mt pc ls (vi a1 :: .long a0 :: .ref b :: rest) σ Q :=
  e_invV (mz := m_X11_type) (As := [.long a0, vi a1]) (rest := rest) hd ok_X11_type im_X11_type se_X11_type hlink hroom hb kd_11 rfl rfl (fun v hv => by
    simp only [List.mem_cons, List.not_mem_nil, or_false] at hv
    rcases hv with rfl | rfl <;> first | rfl | (exact z_okRA (by assumption))) (Nat.le_of_ble_eq_true rfl) hrest rfl h
theorem iv_X11_laws {b : Nat} (hd : zD mt.1.2 pc (.invokevirtual idx) 3 pc') (hlink : Cond.methodLink mt.1.1.cls idx yX11_laws ∈ zTB) (hroom : 6 + 1 ≤ mt.2.2.2.1 ∧ 8 + (3 + 11) + 138 ≤ mt.2.2.2.2) (hb : zIs σ b (11, 0)) (hrest : (rest.map fun v => v.category).sum ≤ 8) (h : zC X m_X11_laws (.ref b :: []) σ (fun r σ1 => zE X mt pc' ls (r.toList ++ rest) σ1 Q)) : zE X mt pc ls (.ref b :: rest) σ Q :=
  e_invV (mz := m_X11_laws) (As := []) (rest := rest) hd ok_X11_laws im_X11_laws se_X11_laws hlink hroom hb kd_11 rfl rfl (fun v hv => by cases hv) (Nat.le_of_ble_eq_true rfl) hrest rfl h
theorem iv_X11_must {a0 : Int} {a1 : Int} {b : Nat} (hd : zD mt.1.2 pc (.invokevirtual idx) 3 pc') (hlink : Cond.methodLink mt.1.1.cls idx yX11_must ∈ zTB) (hroom : 3 + 1 ≤ mt.2.2.2.1 ∧ 8 + (4 + 11) + 65 ≤ mt.2.2.2.2) (hb : zIs σ b (11, 0)) (hrest : (rest.map fun v => v.category).sum ≤ 8) (h : zC X m_X11_must (.ref b :: [vi a0, vi a1]) σ (fun r σ1 => zE X mt pc' ls (r.toList ++ rest) σ1 Q)) : zE X mt pc ls (vi a1 :: vi a0 :: .ref b :: rest) σ Q :=
  e_invV (mz := m_X11_must) (As := [vi a0, vi a1]) (rest := rest) hd ok_X11_must im_X11_must se_X11_must hlink hroom hb kd_11 rfl rfl (fun v hv => by
    simp only [List.mem_cons, List.not_mem_nil, or_false] at hv
    rcases hv with rfl | rfl <;> first | rfl | (exact z_okRA (by assumption))) (Nat.le_of_ble_eq_true rfl) hrest rfl h
theorem iv_X11_fair {a0 : Int} {a1 : Int} {b : Nat} (hd : zD mt.1.2 pc (.invokevirtual idx) 3 pc') (hlink : Cond.methodLink mt.1.1.cls idx yX11_fair ∈ zTB) (hroom : 1 + 1 ≤ mt.2.2.2.1 ∧ 8 + (3 + 11) + 22 ≤ mt.2.2.2.2) (hb : zIs σ b (11, 0)) (hrest : (rest.map fun v => v.category).sum ≤ 8) (h : zC X m_X11_fair (.ref b :: [vi a0, vi a1]) σ (fun r σ1 => zE X mt pc' ls (r.toList ++ rest) σ1 Q)) : zE X mt pc ls (vi a1 :: vi a0 :: .ref b :: rest) σ Q :=
  e_invV (mz := m_X11_fair) (As := [vi a0, vi a1]) (rest := rest) hd ok_X11_fair im_X11_fair se_X11_fair hlink hroom hb kd_11 rfl rfl (fun v hv => by
    simp only [List.mem_cons, List.not_mem_nil, or_false] at hv
    rcases hv with rfl | rfl <;> first | rfl | (exact z_okRA (by assumption))) (Nat.le_of_ble_eq_true rfl) hrest rfl h
theorem iv_X11_group {a0 : Int} {b : Nat} (hd : zD mt.1.2 pc (.invokevirtual idx) 3 pc') (hlink : Cond.methodLink mt.1.1.cls idx yX11_group ∈ zTB) (hroom : 1 + 1 ≤ mt.2.2.2.1 ∧ 8 + (2 + 11) + 20 ≤ mt.2.2.2.2) (hb : zIs σ b (11, 0)) (hrest : (rest.map fun v => v.category).sum ≤ 8) (h : zC X m_X11_group (.ref b :: [vi a0]) σ (fun r σ1 => zE X mt pc' ls (r.toList ++ rest) σ1 Q)) : zE X mt pc ls (vi a0 :: .ref b :: rest) σ Q :=
  e_invV (mz := m_X11_group) (As := [vi a0]) (rest := rest) hd ok_X11_group im_X11_group se_X11_group hlink hroom hb kd_11 rfl rfl (fun v hv => by
    simp only [List.mem_cons, List.not_mem_nil, or_false] at hv
    rcases hv with rfl; first | rfl | (exact z_okRA (by assumption))) (Nat.le_of_ble_eq_true rfl) hrest rfl h
theorem iv_X11_joins {a0 : Int} {a1 : Int} {a2 : Int} {b : Nat} (hd : zD mt.1.2 pc (.invokevirtual idx) 3 pc') (hlink : Cond.methodLink mt.1.1.cls idx yX11_joins ∈ zTB) (hroom : 5 + 1 ≤ mt.2.2.2.1 ∧ 8 + (6 + 11) + 112 ≤ mt.2.2.2.2) (hb : zIs σ b (11, 0)) (hrest : (rest.map fun v => v.category).sum ≤ 8) (h : zC X m_X11_joins (.ref b :: [vi a0, vi a1, vi a2]) σ (fun r σ1 => zE X mt pc' ls (r.toList ++ rest) σ1 Q)) : zE X mt pc ls (vi a2 :: vi a1 :: vi a0 :: .ref b :: rest) σ Q :=
  e_invV (mz := m_X11_joins) (As := [vi a0, vi a1, vi a2]) (rest := rest) hd ok_X11_joins im_X11_joins se_X11_joins hlink hroom hb kd_11 rfl rfl (fun v hv => by
    simp only [List.mem_cons, List.not_mem_nil, or_false] at hv
    rcases hv with rfl | rfl | rfl <;> first | rfl | (exact z_okRA (by assumption))) (Nat.le_of_ble_eq_true rfl) hrest rfl h
theorem iv_X11_leaves {a0 : Int} {a1 : Int} {b : Nat} (hd : zD mt.1.2 pc (.invokevirtual idx) 3 pc') (hlink : Cond.methodLink mt.1.1.cls idx yX11_leaves ∈ zTB) (hroom : 1 + 1 ≤ mt.2.2.2.1 ∧ 8 + (5 + 11) + 21 ≤ mt.2.2.2.2) (hb : zIs σ b (11, 0)) (hrest : (rest.map fun v => v.category).sum ≤ 8) (h : zC X m_X11_leaves (.ref b :: [vi a0, vi a1]) σ (fun r σ1 => zE X mt pc' ls (r.toList ++ rest) σ1 Q)) : zE X mt pc ls (vi a1 :: vi a0 :: .ref b :: rest) σ Q :=
  e_invV (mz := m_X11_leaves) (As := [vi a0, vi a1]) (rest := rest) hd ok_X11_leaves im_X11_leaves se_X11_leaves hlink hroom hb kd_11 rfl rfl (fun v hv => by
    simp only [List.mem_cons, List.not_mem_nil, or_false] at hv
    rcases hv with rfl | rfl <;> first | rfl | (exact z_okRA (by assumption))) (Nat.le_of_ble_eq_true rfl) hrest rfl h
theorem iv_X11_groupOf {a0 : Int} {a1 : Int} {b : Nat} (hd : zD mt.1.2 pc (.invokevirtual idx) 3 pc') (hlink : Cond.methodLink mt.1.1.cls idx yX11_groupOf ∈ zTB) (hroom : 4 + 1 ≤ mt.2.2.2.1 ∧ 8 + (4 + 11) + 88 ≤ mt.2.2.2.2) (hb : zIs σ b (11, 0)) (hrest : (rest.map fun v => v.category).sum ≤ 8) (h : zC X m_X11_groupOf (.ref b :: [vi a0, vi a1]) σ (fun r σ1 => zE X mt pc' ls (r.toList ++ rest) σ1 Q)) : zE X mt pc ls (vi a1 :: vi a0 :: .ref b :: rest) σ Q :=
  e_invV (mz := m_X11_groupOf) (As := [vi a0, vi a1]) (rest := rest) hd ok_X11_groupOf im_X11_groupOf se_X11_groupOf hlink hroom hb kd_11 rfl rfl (fun v hv => by
    simp only [List.mem_cons, List.not_mem_nil, or_false] at hv
    rcases hv with rfl | rfl <;> first | rfl | (exact z_okRA (by assumption))) (Nat.le_of_ble_eq_true rfl) hrest rfl h
theorem iv_X11_members {a0 : Int} {a1 : Int} {b : Nat} (hd : zD mt.1.2 pc (.invokevirtual idx) 3 pc') (hlink : Cond.methodLink mt.1.1.cls idx yX11_members ∈ zTB) (hroom : 5 + 1 ≤ mt.2.2.2.1 ∧ 8 + (3 + 11) + 112 ≤ mt.2.2.2.2) (hb : zIs σ b (11, 0)) (hrest : (rest.map fun v => v.category).sum ≤ 8) (h : zC X m_X11_members (.ref b :: [vi a0, vi a1]) σ (fun r σ1 => zE X mt pc' ls (r.toList ++ rest) σ1 Q)) : zE X mt pc ls (vi a1 :: vi a0 :: .ref b :: rest) σ Q :=
  e_invV (mz := m_X11_members) (As := [vi a0, vi a1]) (rest := rest) hd ok_X11_members im_X11_members se_X11_members hlink hroom hb kd_11 rfl rfl (fun v hv => by
    simp only [List.mem_cons, List.not_mem_nil, or_false] at hv
    rcases hv with rfl | rfl <;> first | rfl | (exact z_okRA (by assumption))) (Nat.le_of_ble_eq_true rfl) hrest rfl h
theorem iv_X11_head {a0 : Int} {a1 : Int} {b : Nat} (hd : zD mt.1.2 pc (.invokevirtual idx) 3 pc') (hlink : Cond.methodLink mt.1.1.cls idx yX11_head ∈ zTB) (hroom : 3 + 1 ≤ mt.2.2.2.1 ∧ 8 + (7 + 11) + 66 ≤ mt.2.2.2.2) (hb : zIs σ b (11, 0)) (hrest : (rest.map fun v => v.category).sum ≤ 8) (h : zC X m_X11_head (.ref b :: [vi a0, vi a1]) σ (fun r σ1 => zE X mt pc' ls (r.toList ++ rest) σ1 Q)) : zE X mt pc ls (vi a1 :: vi a0 :: .ref b :: rest) σ Q :=
  e_invV (mz := m_X11_head) (As := [vi a0, vi a1]) (rest := rest) hd ok_X11_head im_X11_head se_X11_head hlink hroom hb kd_11 rfl rfl (fun v hv => by
    simp only [List.mem_cons, List.not_mem_nil, or_false] at hv
    rcases hv with rfl | rfl <;> first | rfl | (exact z_okRA (by assumption))) (Nat.le_of_ble_eq_true rfl) hrest rfl h
theorem iv_X11_wants {a0 : Int} {a1 : Int} {b : Nat} (hd : zD mt.1.2 pc (.invokevirtual idx) 3 pc') (hlink : Cond.methodLink mt.1.1.cls idx yX11_wants ∈ zTB) (hroom : 6 + 1 ≤ mt.2.2.2.1 ∧ 8 + (5 + 11) + 133 ≤ mt.2.2.2.2) (hb : zIs σ b (11, 0)) (hrest : (rest.map fun v => v.category).sum ≤ 8) (h : zC X m_X11_wants (.ref b :: [vi a0, vi a1]) σ (fun r σ1 => zE X mt pc' ls (r.toList ++ rest) σ1 Q)) : zE X mt pc ls (vi a1 :: vi a0 :: .ref b :: rest) σ Q :=
  e_invV (mz := m_X11_wants) (As := [vi a0, vi a1]) (rest := rest) hd ok_X11_wants im_X11_wants se_X11_wants hlink hroom hb kd_11 rfl rfl (fun v hv => by
    simp only [List.mem_cons, List.not_mem_nil, or_false] at hv
    rcases hv with rfl | rfl <;> first | rfl | (exact z_okRA (by assumption))) (Nat.le_of_ble_eq_true rfl) hrest rfl h
theorem iv_X11_wantsAt {a0 : Int} {a1 : Int} {a2 : Int} {b : Nat} (hd : zD mt.1.2 pc (.invokevirtual idx) 3 pc') (hlink : Cond.methodLink mt.1.1.cls idx yX11_wantsAt ∈ zTB) (hroom : 6 + 1 ≤ mt.2.2.2.1 ∧ 8 + (6 + 11) + 133 ≤ mt.2.2.2.2) (hb : zIs σ b (11, 0)) (hrest : (rest.map fun v => v.category).sum ≤ 8) (h : zC X m_X11_wantsAt (.ref b :: [vi a0, vi a1, vi a2]) σ (fun r σ1 => zE X mt pc' ls (r.toList ++ rest) σ1 Q)) : zE X mt pc ls (vi a2 :: vi a1 :: vi a0 :: .ref b :: rest) σ Q :=
  e_invV (mz := m_X11_wantsAt) (As := [vi a0, vi a1, vi a2]) (rest := rest) hd ok_X11_wantsAt im_X11_wantsAt se_X11_wantsAt hlink hroom hb kd_11 rfl rfl (fun v hv => by
    simp only [List.mem_cons, List.not_mem_nil, or_false] at hv
    rcases hv with rfl | rfl | rfl <;> first | rfl | (exact z_okRA (by assumption))) (Nat.le_of_ble_eq_true rfl) hrest rfl h
theorem iv_X11_stay {a0 : Int} {a1 : Int} {a2 : Int} {a3 : Int} {b : Nat} (hd : zD mt.1.2 pc (.invokevirtual idx) 3 pc') (hlink : Cond.methodLink mt.1.1.cls idx yX11_stay ∈ zTB) (hroom : 2 + 1 ≤ mt.2.2.2.1 ∧ 8 + (6 + 11) + 36 ≤ mt.2.2.2.2) (hb : zIs σ b (11, 0)) (hrest : (rest.map fun v => v.category).sum ≤ 8) (h : zC X m_X11_stay (.ref b :: [vi a0, vi a1, vi a2, vi a3]) σ (fun r σ1 => zE X mt pc' ls (r.toList ++ rest) σ1 Q)) : zE X mt pc ls (vi a3 :: vi a2 :: vi a1 :: vi a0 :: .ref b :: rest) σ Q :=
  e_invV (mz := m_X11_stay) (As := [vi a0, vi a1, vi a2, vi a3]) (rest := rest) hd ok_X11_stay im_X11_stay se_X11_stay hlink hroom hb kd_11 rfl rfl (fun v hv => by
    simp only [List.mem_cons, List.not_mem_nil, or_false] at hv
    rcases hv with rfl | rfl | rfl | rfl <;> first | rfl | (exact z_okRA (by assumption))) (Nat.le_of_ble_eq_true rfl) hrest rfl h
theorem iv_X11_charged {a0 : Int} {a1 : Int} {b : Nat} (hd : zD mt.1.2 pc (.invokevirtual idx) 3 pc') (hlink : Cond.methodLink mt.1.1.cls idx yX11_charged ∈ zTB) (hroom : 5 + 1 ≤ mt.2.2.2.1 ∧ 8 + (4 + 11) + 114 ≤ mt.2.2.2.2) (hb : zIs σ b (11, 0)) (hrest : (rest.map fun v => v.category).sum ≤ 8) (h : zC X m_X11_charged (.ref b :: [vi a0, vi a1]) σ (fun r σ1 => zE X mt pc' ls (r.toList ++ rest) σ1 Q)) : zE X mt pc ls (vi a1 :: vi a0 :: .ref b :: rest) σ Q :=
  e_invV (mz := m_X11_charged) (As := [vi a0, vi a1]) (rest := rest) hd ok_X11_charged im_X11_charged se_X11_charged hlink hroom hb kd_11 rfl rfl (fun v hv => by
    simp only [List.mem_cons, List.not_mem_nil, or_false] at hv
    rcases hv with rfl | rfl <;> first | rfl | (exact z_okRA (by assumption))) (Nat.le_of_ble_eq_true rfl) hrest rfl h
theorem iv_X11_whole {a0 : Int} {b : Nat} (hd : zD mt.1.2 pc (.invokevirtual idx) 3 pc') (hlink : Cond.methodLink mt.1.1.cls idx yX11_whole ∈ zTB) (hroom : 7 + 1 ≤ mt.2.2.2.1 ∧ 8 + (3 + 11) + 159 ≤ mt.2.2.2.2) (hb : zIs σ b (11, 0)) (hrest : (rest.map fun v => v.category).sum ≤ 8) (h : zC X m_X11_whole (.ref b :: [vi a0]) σ (fun r σ1 => zE X mt pc' ls (r.toList ++ rest) σ1 Q)) : zE X mt pc ls (vi a0 :: .ref b :: rest) σ Q :=
  e_invV (mz := m_X11_whole) (As := [vi a0]) (rest := rest) hd ok_X11_whole im_X11_whole se_X11_whole hlink hroom hb kd_11 rfl rfl (fun v hv => by
    simp only [List.mem_cons, List.not_mem_nil, or_false] at hv
    rcases hv with rfl; first | rfl | (exact z_okRA (by assumption))) (Nat.le_of_ble_eq_true rfl) hrest rfl h
theorem iv_X11_came {a0 : Int} {b : Nat} (hd : zD mt.1.2 pc (.invokevirtual idx) 3 pc') (hlink : Cond.methodLink mt.1.1.cls idx yX11_came ∈ zTB) (hroom : 1 + 1 ≤ mt.2.2.2.1 ∧ 8 + (3 + 11) + 21 ≤ mt.2.2.2.2) (hb : zIs σ b (11, 0)) (hrest : (rest.map fun v => v.category).sum ≤ 8) (h : zC X m_X11_came (.ref b :: [vi a0]) σ (fun r σ1 => zE X mt pc' ls (r.toList ++ rest) σ1 Q)) : zE X mt pc ls (vi a0 :: .ref b :: rest) σ Q :=
  e_invV (mz := m_X11_came) (As := [vi a0]) (rest := rest) hd ok_X11_came im_X11_came se_X11_came hlink hroom hb kd_11 rfl rfl (fun v hv => by
    simp only [List.mem_cons, List.not_mem_nil, or_false] at hv
    rcases hv with rfl; first | rfl | (exact z_okRA (by assumption))) (Nat.le_of_ble_eq_true rfl) hrest rfl h
theorem iv_X11_plea {a0 : Int} {a1 : Int} {b : Nat} (hd : zD mt.1.2 pc (.invokevirtual idx) 3 pc') (hlink : Cond.methodLink mt.1.1.cls idx yX11_plea ∈ zTB) (hroom : 5 + 1 ≤ mt.2.2.2.1 ∧ 8 + (8 + 11) + 114 ≤ mt.2.2.2.2) (hb : zIs σ b (11, 0)) (hrest : (rest.map fun v => v.category).sum ≤ 8) (h : zC X m_X11_plea (.ref b :: [vi a0, vi a1]) σ (fun r σ1 => zE X mt pc' ls (r.toList ++ rest) σ1 Q)) : zE X mt pc ls (vi a1 :: vi a0 :: .ref b :: rest) σ Q :=
  e_invV (mz := m_X11_plea) (As := [vi a0, vi a1]) (rest := rest) hd ok_X11_plea im_X11_plea se_X11_plea hlink hroom hb kd_11 rfl rfl (fun v hv => by
    simp only [List.mem_cons, List.not_mem_nil, or_false] at hv
    rcases hv with rfl | rfl <;> first | rfl | (exact z_okRA (by assumption))) (Nat.le_of_ble_eq_true rfl) hrest rfl h
theorem iv_X11_about {a0 : Int} {a1 : Int} {b : Nat} (hd : zD mt.1.2 pc (.invokevirtual idx) 3 pc') (hlink : Cond.methodLink mt.1.1.cls idx yX11_about ∈ zTB) (hroom : 2 + 1 ≤ mt.2.2.2.1 ∧ 8 + (4 + 11) + 40 ≤ mt.2.2.2.2) (hb : zIs σ b (11, 0)) (hrest : (rest.map fun v => v.category).sum ≤ 8) (h : zC X m_X11_about (.ref b :: [vi a0, vi a1]) σ (fun r σ1 => zE X mt pc' ls (r.toList ++ rest) σ1 Q)) : zE X mt pc ls (vi a1 :: vi a0 :: .ref b :: rest) σ Q :=
  e_invV (mz := m_X11_about) (As := [vi a0, vi a1]) (rest := rest) hd ok_X11_about im_X11_about se_X11_about hlink hroom hb kd_11 rfl rfl (fun v hv => by
    simp only [List.mem_cons, List.not_mem_nil, or_false] at hv
    rcases hv with rfl | rfl <;> first | rfl | (exact z_okRA (by assumption))) (Nat.le_of_ble_eq_true rfl) hrest rfl h
theorem iv_X11_judge {a0 : Int} {b : Nat} (hd : zD mt.1.2 pc (.invokevirtual idx) 3 pc') (hlink : Cond.methodLink mt.1.1.cls idx yX11_judge ∈ zTB) (hroom : 4 + 1 ≤ mt.2.2.2.1 ∧ 8 + (5 + 11) + 91 ≤ mt.2.2.2.2) (hb : zIs σ b (11, 0)) (hrest : (rest.map fun v => v.category).sum ≤ 8) (h : zC X m_X11_judge (.ref b :: [vi a0]) σ (fun r σ1 => zE X mt pc' ls (r.toList ++ rest) σ1 Q)) : zE X mt pc ls (vi a0 :: .ref b :: rest) σ Q :=
  e_invV (mz := m_X11_judge) (As := [vi a0]) (rest := rest) hd ok_X11_judge im_X11_judge se_X11_judge hlink hroom hb kd_11 rfl rfl (fun v hv => by
    simp only [List.mem_cons, List.not_mem_nil, or_false] at hv
    rcases hv with rfl; first | rfl | (exact z_okRA (by assumption))) (Nat.le_of_ble_eq_true rfl) hrest rfl h
theorem iv_X11_owes {a0 : Int} {a1 : Int} {b : Nat} (hd : zD mt.1.2 pc (.invokevirtual idx) 3 pc') (hlink : Cond.methodLink mt.1.1.cls idx yX11_owes ∈ zTB) (hroom : 1 + 1 ≤ mt.2.2.2.1 ∧ 8 + (3 + 11) + 23 ≤ mt.2.2.2.2) (hb : zIs σ b (11, 0)) (hrest : (rest.map fun v => v.category).sum ≤ 8) (h : zC X m_X11_owes (.ref b :: [vi a0, vi a1]) σ (fun r σ1 => zE X mt pc' ls (r.toList ++ rest) σ1 Q)) : zE X mt pc ls (vi a1 :: vi a0 :: .ref b :: rest) σ Q :=
  e_invV (mz := m_X11_owes) (As := [vi a0, vi a1]) (rest := rest) hd ok_X11_owes im_X11_owes se_X11_owes hlink hroom hb kd_11 rfl rfl (fun v hv => by
    simp only [List.mem_cons, List.not_mem_nil, or_false] at hv
    rcases hv with rfl | rfl <;> first | rfl | (exact z_okRA (by assumption))) (Nat.le_of_ble_eq_true rfl) hrest rfl h
theorem iv_X11_pays {a0 : Int} {a1 : Int} {b : Nat} (hd : zD mt.1.2 pc (.invokevirtual idx) 3 pc') (hlink : Cond.methodLink mt.1.1.cls idx yX11_pays ∈ zTB) (hroom : 1 + 1 ≤ mt.2.2.2.1 ∧ 8 + (8 + 11) + 23 ≤ mt.2.2.2.2) (hb : zIs σ b (11, 0)) (hrest : (rest.map fun v => v.category).sum ≤ 8) (h : zC X m_X11_pays (.ref b :: [vi a0, vi a1]) σ (fun r σ1 => zE X mt pc' ls (r.toList ++ rest) σ1 Q)) : zE X mt pc ls (vi a1 :: vi a0 :: .ref b :: rest) σ Q :=
  e_invV (mz := m_X11_pays) (As := [vi a0, vi a1]) (rest := rest) hd ok_X11_pays im_X11_pays se_X11_pays hlink hroom hb kd_11 rfl rfl (fun v hv => by
    simp only [List.mem_cons, List.not_mem_nil, or_false] at hv
    rcases hv with rfl | rfl <;> first | rfl | (exact z_okRA (by assumption))) (Nat.le_of_ble_eq_true rfl) hrest rfl h
theorem iv_X11_borne {a0 : Int} {a1 : Int} {a2 : Int} {b : Nat} (hd : zD mt.1.2 pc (.invokevirtual idx) 3 pc') (hlink : Cond.methodLink mt.1.1.cls idx yX11_borne ∈ zTB) (hroom : 7 + 1 ≤ mt.2.2.2.1 ∧ 8 + (4 + 11) + 159 ≤ mt.2.2.2.2) (hb : zIs σ b (11, 0)) (hrest : (rest.map fun v => v.category).sum ≤ 8) (h : zC X m_X11_borne (.ref b :: [vi a0, vi a1, vi a2]) σ (fun r σ1 => zE X mt pc' ls (r.toList ++ rest) σ1 Q)) : zE X mt pc ls (vi a2 :: vi a1 :: vi a0 :: .ref b :: rest) σ Q :=
  e_invV (mz := m_X11_borne) (As := [vi a0, vi a1, vi a2]) (rest := rest) hd ok_X11_borne im_X11_borne se_X11_borne hlink hroom hb kd_11 rfl rfl (fun v hv => by
    simp only [List.mem_cons, List.not_mem_nil, or_false] at hv
    rcases hv with rfl | rfl | rfl <;> first | rfl | (exact z_okRA (by assumption))) (Nat.le_of_ble_eq_true rfl) hrest rfl h
theorem iv_X11_count {a0 : Int} {b : Nat} (hd : zD mt.1.2 pc (.invokevirtual idx) 3 pc') (hlink : Cond.methodLink mt.1.1.cls idx yX11_count ∈ zTB) (hroom : 0 + 1 ≤ mt.2.2.2.1 ∧ 8 + (2 + 11) + 0 ≤ mt.2.2.2.2) (hb : zIs σ b (11, 0)) (hrest : (rest.map fun v => v.category).sum ≤ 8) (h : zC X m_X11_count (.ref b :: [vi a0]) σ (fun r σ1 => zE X mt pc' ls (r.toList ++ rest) σ1 Q)) : zE X mt pc ls (vi a0 :: .ref b :: rest) σ Q :=
  e_invV (mz := m_X11_count) (As := [vi a0]) (rest := rest) hd ok_X11_count im_X11_count se_X11_count hlink hroom hb kd_11 rfl rfl (fun v hv => by
    simp only [List.mem_cons, List.not_mem_nil, or_false] at hv
    rcases hv with rfl; first | rfl | (exact z_okRA (by assumption))) (Nat.le_of_ble_eq_true rfl) hrest rfl h
theorem iv_X11_sheet {a0 : Int} {a1 : Int} {a2 : Int} {b : Nat} (hd : zD mt.1.2 pc (.invokevirtual idx) 3 pc') (hlink : Cond.methodLink mt.1.1.cls idx yX11_sheet ∈ zTB) (hroom : 2 + 1 ≤ mt.2.2.2.1 ∧ 8 + (4 + 11) + 44 ≤ mt.2.2.2.2) (hb : zIs σ b (11, 0)) (hrest : (rest.map fun v => v.category).sum ≤ 8) (h : zC X m_X11_sheet (.ref b :: [vi a0, vi a1, vi a2]) σ (fun r σ1 => zE X mt pc' ls (r.toList ++ rest) σ1 Q)) : zE X mt pc ls (vi a2 :: vi a1 :: vi a0 :: .ref b :: rest) σ Q :=
  e_invV (mz := m_X11_sheet) (As := [vi a0, vi a1, vi a2]) (rest := rest) hd ok_X11_sheet im_X11_sheet se_X11_sheet hlink hroom hb kd_11 rfl rfl (fun v hv => by
    simp only [List.mem_cons, List.not_mem_nil, or_false] at hv
    rcases hv with rfl | rfl | rfl <;> first | rfl | (exact z_okRA (by assumption))) (Nat.le_of_ble_eq_true rfl) hrest rfl h
theorem iv_X11_drop {a0 : Int} {b : Nat} (hd : zD mt.1.2 pc (.invokevirtual idx) 3 pc') (hlink : Cond.methodLink mt.1.1.cls idx yX11_drop ∈ zTB) (hroom : 1 + 1 ≤ mt.2.2.2.1 ∧ 8 + (3 + 11) + 20 ≤ mt.2.2.2.2) (hb : zIs σ b (11, 0)) (hrest : (rest.map fun v => v.category).sum ≤ 8) (h : zC X m_X11_drop (.ref b :: [vi a0]) σ (fun r σ1 => zE X mt pc' ls (r.toList ++ rest) σ1 Q)) : zE X mt pc ls (vi a0 :: .ref b :: rest) σ Q :=
  e_invV (mz := m_X11_drop) (As := [vi a0]) (rest := rest) hd ok_X11_drop im_X11_drop se_X11_drop hlink hroom hb kd_11 rfl rfl (fun v hv => by
    simp only [List.mem_cons, List.not_mem_nil, or_false] at hv
    rcases hv with rfl; first | rfl | (exact z_okRA (by assumption))) (Nat.le_of_ble_eq_true rfl) hrest rfl h
theorem iv_X11_item {a0 : Int} {a1 : Int} {a2 : Int} {a3 : Int} {b : Nat} (hd : zD mt.1.2 pc (.invokevirtual idx) 3 pc') (hlink : Cond.methodLink mt.1.1.cls idx yX11_item ∈ zTB) (hroom : 2 + 1 ≤ mt.2.2.2.1 ∧ 8 + (6 + 11) + 42 ≤ mt.2.2.2.2) (hb : zIs σ b (11, 0)) (hrest : (rest.map fun v => v.category).sum ≤ 8) (h : zC X m_X11_item (.ref b :: [vi a0, vi a1, vi a2, vi a3]) σ (fun r σ1 => zE X mt pc' ls (r.toList ++ rest) σ1 Q)) : zE X mt pc ls (vi a3 :: vi a2 :: vi a1 :: vi a0 :: .ref b :: rest) σ Q :=
  e_invV (mz := m_X11_item) (As := [vi a0, vi a1, vi a2, vi a3]) (rest := rest) hd ok_X11_item im_X11_item se_X11_item hlink hroom hb kd_11 rfl rfl (fun v hv => by
    simp only [List.mem_cons, List.not_mem_nil, or_false] at hv
    rcases hv with rfl | rfl | rfl | rfl <;> first | rfl | (exact z_okRA (by assumption))) (Nat.le_of_ble_eq_true rfl) hrest rfl h
theorem iv_X11_roll {a0 : Int} {a1 : Int} {a2 : Int} {a3 : Int} {b : Nat} (hd : zD mt.1.2 pc (.invokevirtual idx) 3 pc') (hlink : Cond.methodLink mt.1.1.cls idx yX11_roll ∈ zTB) (hroom : 4 + 1 ≤ mt.2.2.2.1 ∧ 8 + (8 + 11) + 88 ≤ mt.2.2.2.2) (hb : zIs σ b (11, 0)) (hrest : (rest.map fun v => v.category).sum ≤ 8) (h : zC X m_X11_roll (.ref b :: [vi a0, vi a1, vi a2, vi a3]) σ (fun r σ1 => zE X mt pc' ls (r.toList ++ rest) σ1 Q)) : zE X mt pc ls (vi a3 :: vi a2 :: vi a1 :: vi a0 :: .ref b :: rest) σ Q :=
  e_invV (mz := m_X11_roll) (As := [vi a0, vi a1, vi a2, vi a3]) (rest := rest) hd ok_X11_roll im_X11_roll se_X11_roll hlink hroom hb kd_11 rfl rfl (fun v hv => by
    simp only [List.mem_cons, List.not_mem_nil, or_false] at hv
    rcases hv with rfl | rfl | rfl | rfl <;> first | rfl | (exact z_okRA (by assumption))) (Nat.le_of_ble_eq_true rfl) hrest rfl h
theorem iv_X11_leftOut {a0 : Int} {b : Nat} (hd : zD mt.1.2 pc (.invokevirtual idx) 3 pc') (hlink : Cond.methodLink mt.1.1.cls idx yX11_leftOut ∈ zTB) (hroom : 2 + 1 ≤ mt.2.2.2.1 ∧ 8 + (2 + 11) + 42 ≤ mt.2.2.2.2) (hb : zIs σ b (11, 0)) (hrest : (rest.map fun v => v.category).sum ≤ 8) (h : zC X m_X11_leftOut (.ref b :: [vi a0]) σ (fun r σ1 => zE X mt pc' ls (r.toList ++ rest) σ1 Q)) : zE X mt pc ls (vi a0 :: .ref b :: rest) σ Q :=
  e_invV (mz := m_X11_leftOut) (As := [vi a0]) (rest := rest) hd ok_X11_leftOut im_X11_leftOut se_X11_leftOut hlink hroom hb kd_11 rfl rfl (fun v hv => by
    simp only [List.mem_cons, List.not_mem_nil, or_false] at hv
    rcases hv with rfl; first | rfl | (exact z_okRA (by assumption))) (Nat.le_of_ble_eq_true rfl) hrest rfl h
theorem iv_X11_sure {a0 : Int} {b : Nat} (hd : zD mt.1.2 pc (.invokevirtual idx) 3 pc') (hlink : Cond.methodLink mt.1.1.cls idx yX11_sure ∈ zTB) (hroom : 2 + 1 ≤ mt.2.2.2.1 ∧ 8 + (3 + 11) + 42 ≤ mt.2.2.2.2) (hb : zIs σ b (11, 0)) (hrest : (rest.map fun v => v.category).sum ≤ 8) (h : zC X m_X11_sure (.ref b :: [vi a0]) σ (fun r σ1 => zE X mt pc' ls (r.toList ++ rest) σ1 Q)) : zE X mt pc ls (vi a0 :: .ref b :: rest) σ Q :=
  e_invV (mz := m_X11_sure) (As := [vi a0]) (rest := rest) hd ok_X11_sure im_X11_sure se_X11_sure hlink hroom hb kd_11 rfl rfl (fun v hv => by
    simp only [List.mem_cons, List.not_mem_nil, or_false] at hv
    rcases hv with rfl; first | rfl | (exact z_okRA (by assumption))) (Nat.le_of_ble_eq_true rfl) hrest rfl h
theorem iv_X11_isDay {a0 : Int} (hd : zD mt.1.2 pc (.invokestatic idx) 3 pc') (hlink : Cond.methodLink mt.1.1.cls idx yX11_isDay ∈ zTB) (hroom : 0 + 1 ≤ mt.2.2.2.1 ∧ 8 + (1 + 11) + 0 ≤ mt.2.2.2.2) (hrest : (rest.map fun v => v.category).sum ≤ 8) (h : zC X m_X11_isDay [vi a0] σ (fun r σ1 => zE X mt pc' ls (r.toList ++ rest) σ1 Q)) : zE X mt pc ls (vi a0 :: rest) σ Q :=
  e_invS (mz := m_X11_isDay) (As := [vi a0]) (rest := rest) hd ok_X11_isDay ss_X11_isDay hlink hroom rfl (fun v hv => by
    simp only [List.mem_cons, List.not_mem_nil, or_false] at hv
    rcases hv with rfl; first | rfl | (exact z_okRA (by assumption))) (Nat.le_of_ble_eq_true rfl) hrest rfl h
theorem iv_X11_isLane {a0 : Int} (hd : zD mt.1.2 pc (.invokestatic idx) 3 pc') (hlink : Cond.methodLink mt.1.1.cls idx yX11_isLane ∈ zTB) (hroom : 0 + 1 ≤ mt.2.2.2.1 ∧ 8 + (1 + 11) + 0 ≤ mt.2.2.2.2) (hrest : (rest.map fun v => v.category).sum ≤ 8) (h : zC X m_X11_isLane [vi a0] σ (fun r σ1 => zE X mt pc' ls (r.toList ++ rest) σ1 Q)) : zE X mt pc ls (vi a0 :: rest) σ Q :=
  e_invS (mz := m_X11_isLane) (As := [vi a0]) (rest := rest) hd ok_X11_isLane ss_X11_isLane hlink hroom rfl (fun v hv => by
    simp only [List.mem_cons, List.not_mem_nil, or_false] at hv
    rcases hv with rfl; first | rfl | (exact z_okRA (by assumption))) (Nat.le_of_ble_eq_true rfl) hrest rfl h
theorem iv_X11_isName {a0 : Int} (hd : zD mt.1.2 pc (.invokestatic idx) 3 pc') (hlink : Cond.methodLink mt.1.1.cls idx yX11_isName ∈ zTB) (hroom : 0 + 1 ≤ mt.2.2.2.1 ∧ 8 + (1 + 11) + 0 ≤ mt.2.2.2.2) (hrest : (rest.map fun v => v.category).sum ≤ 8) (h : zC X m_X11_isName [vi a0] σ (fun r σ1 => zE X mt pc' ls (r.toList ++ rest) σ1 Q)) : zE X mt pc ls (vi a0 :: rest) σ Q :=
  e_invS (mz := m_X11_isName) (As := [vi a0]) (rest := rest) hd ok_X11_isName ss_X11_isName hlink hroom rfl (fun v hv => by
    simp only [List.mem_cons, List.not_mem_nil, or_false] at hv
    rcases hv with rfl; first | rfl | (exact z_okRA (by assumption))) (Nat.le_of_ble_eq_true rfl) hrest rfl h
theorem iv_X11_isName_N {a0 : Int} (hd : zD mt.1.2 pc (.invokestatic idx) 3 pc') (hlink : Cond.methodLinkNest mt.1.1.cls idx yX11_isName "TenForOne" ∈ zNW) (hroom : 0 + 1 ≤ mt.2.2.2.1 ∧ 8 + (1 + 11) + 0 ≤ mt.2.2.2.2) (hrest : (rest.map fun v => v.category).sum ≤ 8) (h : zC X m_X11_isName [vi a0] σ (fun r σ1 => zE X mt pc' ls (r.toList ++ rest) σ1 Q)) : zE X mt pc ls (vi a0 :: rest) σ Q :=
  e_invSN (mz := m_X11_isName) (As := [vi a0]) (rest := rest) hd ok_X11_isName ss_X11_isName hlink hroom rfl (fun v hv => by
    simp only [List.mem_cons, List.not_mem_nil, or_false] at hv
    rcases hv with rfl; first | rfl | (exact z_okRA (by assumption))) (Nat.le_of_ble_eq_true rfl) hrest rfl h
theorem iv_X11_isSheet {a0 : Int} (hd : zD mt.1.2 pc (.invokestatic idx) 3 pc') (hlink : Cond.methodLink mt.1.1.cls idx yX11_isSheet ∈ zTB) (hroom : 0 + 1 ≤ mt.2.2.2.1 ∧ 8 + (1 + 11) + 0 ≤ mt.2.2.2.2) (hrest : (rest.map fun v => v.category).sum ≤ 8) (h : zC X m_X11_isSheet [vi a0] σ (fun r σ1 => zE X mt pc' ls (r.toList ++ rest) σ1 Q)) : zE X mt pc ls (vi a0 :: rest) σ Q :=
  e_invS (mz := m_X11_isSheet) (As := [vi a0]) (rest := rest) hd ok_X11_isSheet ss_X11_isSheet hlink hroom rfl (fun v hv => by
    simp only [List.mem_cons, List.not_mem_nil, or_false] at hv
    rcases hv with rfl; first | rfl | (exact z_okRA (by assumption))) (Nat.le_of_ble_eq_true rfl) hrest rfl h
theorem iv_X11_isSheetLane {a0 : Int} (hd : zD mt.1.2 pc (.invokestatic idx) 3 pc') (hlink : Cond.methodLink mt.1.1.cls idx yX11_isSheetLane ∈ zTB) (hroom : 0 + 1 ≤ mt.2.2.2.1 ∧ 8 + (1 + 11) + 0 ≤ mt.2.2.2.2) (hrest : (rest.map fun v => v.category).sum ≤ 8) (h : zC X m_X11_isSheetLane [vi a0] σ (fun r σ1 => zE X mt pc' ls (r.toList ++ rest) σ1 Q)) : zE X mt pc ls (vi a0 :: rest) σ Q :=
  e_invS (mz := m_X11_isSheetLane) (As := [vi a0]) (rest := rest) hd ok_X11_isSheetLane ss_X11_isSheetLane hlink hroom rfl (fun v hv => by
    simp only [List.mem_cons, List.not_mem_nil, or_false] at hv
    rcases hv with rfl; first | rfl | (exact z_okRA (by assumption))) (Nat.le_of_ble_eq_true rfl) hrest rfl h
theorem iv_X11_isHouse {a0 : Int} {b : Nat} (hd : zD mt.1.2 pc (.invokevirtual idx) 3 pc') (hlink : Cond.methodLink mt.1.1.cls idx yX11_isHouse ∈ zTB) (hroom : 0 + 1 ≤ mt.2.2.2.1 ∧ 8 + (2 + 11) + 0 ≤ mt.2.2.2.2) (hb : zIs σ b (11, 0)) (hrest : (rest.map fun v => v.category).sum ≤ 8) (h : zC X m_X11_isHouse (.ref b :: [vi a0]) σ (fun r σ1 => zE X mt pc' ls (r.toList ++ rest) σ1 Q)) : zE X mt pc ls (vi a0 :: .ref b :: rest) σ Q :=
  e_invV (mz := m_X11_isHouse) (As := [vi a0]) (rest := rest) hd ok_X11_isHouse im_X11_isHouse se_X11_isHouse hlink hroom hb kd_11 rfl rfl (fun v hv => by
    simp only [List.mem_cons, List.not_mem_nil, or_false] at hv
    rcases hv with rfl; first | rfl | (exact z_okRA (by assumption))) (Nat.le_of_ble_eq_true rfl) hrest rfl h
theorem iv_X11_isGroup {a0 : Int} {b : Nat} (hd : zD mt.1.2 pc (.invokevirtual idx) 3 pc') (hlink : Cond.methodLink mt.1.1.cls idx yX11_isGroup ∈ zTB) (hroom : 0 + 1 ≤ mt.2.2.2.1 ∧ 8 + (2 + 11) + 0 ≤ mt.2.2.2.2) (hb : zIs σ b (11, 0)) (hrest : (rest.map fun v => v.category).sum ≤ 8) (h : zC X m_X11_isGroup (.ref b :: [vi a0]) σ (fun r σ1 => zE X mt pc' ls (r.toList ++ rest) σ1 Q)) : zE X mt pc ls (vi a0 :: .ref b :: rest) σ Q :=
  e_invV (mz := m_X11_isGroup) (As := [vi a0]) (rest := rest) hd ok_X11_isGroup im_X11_isGroup se_X11_isGroup hlink hroom hb kd_11 rfl rfl (fun v hv => by
    simp only [List.mem_cons, List.not_mem_nil, or_false] at hv
    rcases hv with rfl; first | rfl | (exact z_okRA (by assumption))) (Nat.le_of_ble_eq_true rfl) hrest rfl h
theorem iv_X11_personAt {a0 : Int} {b : Nat} (hd : zD mt.1.2 pc (.invokevirtual idx) 3 pc') (hlink : Cond.methodLink mt.1.1.cls idx yX11_personAt ∈ zTB) (hroom : 0 + 1 ≤ mt.2.2.2.1 ∧ 8 + (2 + 11) + 0 ≤ mt.2.2.2.2) (hb : zIs σ b (11, 0)) (hrest : (rest.map fun v => v.category).sum ≤ 8) (h : zC X m_X11_personAt (.ref b :: [vi a0]) σ (fun r σ1 => zE X mt pc' ls (r.toList ++ rest) σ1 Q)) : zE X mt pc ls (vi a0 :: .ref b :: rest) σ Q :=
  e_invV (mz := m_X11_personAt) (As := [vi a0]) (rest := rest) hd ok_X11_personAt im_X11_personAt se_X11_personAt hlink hroom hb kd_11 rfl rfl (fun v hv => by
    simp only [List.mem_cons, List.not_mem_nil, or_false] at hv
    rcases hv with rfl; first | rfl | (exact z_okRA (by assumption))) (Nat.le_of_ble_eq_true rfl) hrest rfl h
theorem iv_X11_mayBeFather {a0 : Int} {a1 : Int} {b : Nat} (hd : zD mt.1.2 pc (.invokevirtual idx) 3 pc') (hlink : Cond.methodLink mt.1.1.cls idx yX11_mayBeFather ∈ zTB) (hroom : 1 + 1 ≤ mt.2.2.2.1 ∧ 8 + (4 + 11) + 21 ≤ mt.2.2.2.2) (hb : zIs σ b (11, 0)) (hrest : (rest.map fun v => v.category).sum ≤ 8) (h : zC X m_X11_mayBeFather (.ref b :: [vi a0, vi a1]) σ (fun r σ1 => zE X mt pc' ls (r.toList ++ rest) σ1 Q)) : zE X mt pc ls (vi a1 :: vi a0 :: .ref b :: rest) σ Q :=
  e_invV (mz := m_X11_mayBeFather) (As := [vi a0, vi a1]) (rest := rest) hd ok_X11_mayBeFather im_X11_mayBeFather se_X11_mayBeFather hlink hroom hb kd_11 rfl rfl (fun v hv => by
    simp only [List.mem_cons, List.not_mem_nil, or_false] at hv
    rcases hv with rfl | rfl <;> first | rfl | (exact z_okRA (by assumption))) (Nat.le_of_ble_eq_true rfl) hrest rfl h
theorem iv_X11_signAt {a0 : Int64} {a1 : Int} (hd : zD mt.1.2 pc (.invokestatic idx) 3 pc') (hlink : Cond.methodLink mt.1.1.cls idx yX11_signAt ∈ zTB) (hroom : 0 + 1 ≤ mt.2.2.2.1 ∧ 8 + (3 + 11) + 0 ≤ mt.2.2.2.2) (hrest : (rest.map fun v => v.category).sum ≤ 8) (h : zC X m_X11_signAt [.long a0, vi a1] σ (fun r σ1 => zE X mt pc' ls (r.toList ++ rest) σ1 Q)) : zE X mt pc ls (vi a1 :: .long a0 :: rest) σ Q :=
  e_invS (mz := m_X11_signAt) (As := [.long a0, vi a1]) (rest := rest) hd ok_X11_signAt ss_X11_signAt hlink hroom rfl (fun v hv => by
    simp only [List.mem_cons, List.not_mem_nil, or_false] at hv
    rcases hv with rfl | rfl <;> first | rfl | (exact z_okRA (by assumption))) (Nat.le_of_ble_eq_true rfl) hrest rfl h
theorem iv_X11_areKin {a0 : Int} {a1 : Int} {b : Nat} (hd : zD mt.1.2 pc (.invokevirtual idx) 3 pc') (hlink : Cond.methodLink mt.1.1.cls idx yX11_areKin ∈ zTB) (hroom : 0 + 1 ≤ mt.2.2.2.1 ∧ 8 + (5 + 11) + 0 ≤ mt.2.2.2.2) (hb : zIs σ b (11, 0)) (hrest : (rest.map fun v => v.category).sum ≤ 8) (h : zC X m_X11_areKin (.ref b :: [vi a0, vi a1]) σ (fun r σ1 => zE X mt pc' ls (r.toList ++ rest) σ1 Q)) : zE X mt pc ls (vi a1 :: vi a0 :: .ref b :: rest) σ Q :=
  e_invV (mz := m_X11_areKin) (As := [vi a0, vi a1]) (rest := rest) hd ok_X11_areKin im_X11_areKin se_X11_areKin hlink hroom hb kd_11 rfl rfl (fun v hv => by
    simp only [List.mem_cons, List.not_mem_nil, or_false] at hv
    rcases hv with rfl | rfl <;> first | rfl | (exact z_okRA (by assumption))) (Nat.le_of_ble_eq_true rfl) hrest rfl h
theorem iv_X11_mustBeSworn {a0 : Value} (ha0 : z_okR a0 = true) {a1 : Int} {b : Nat} (hd : zD mt.1.2 pc (.invokevirtual idx) 3 pc') (hlink : Cond.methodLink mt.1.1.cls idx yX11_mustBeSworn ∈ zTB) (hroom : 2 + 1 ≤ mt.2.2.2.1 ∧ 8 + (3 + 11) + 43 ≤ mt.2.2.2.2) (hb : zIs σ b (11, 0)) (hrest : (rest.map fun v => v.category).sum ≤ 8) (h : zC X m_X11_mustBeSworn (.ref b :: [a0, vi a1]) σ (fun r σ1 => zE X mt pc' ls (r.toList ++ rest) σ1 Q)) : zE X mt pc ls (vi a1 :: a0 :: .ref b :: rest) σ Q :=
  e_invV (mz := m_X11_mustBeSworn) (As := [a0, vi a1]) (rest := rest) hd ok_X11_mustBeSworn im_X11_mustBeSworn se_X11_mustBeSworn hlink hroom hb kd_11 rfl rfl (fun v hv => by
    simp only [List.mem_cons, List.not_mem_nil, or_false] at hv
    rcases hv with rfl | rfl <;> first | rfl | (exact z_okRA (by assumption))) (by
    cases a0 <;> first | (cases ha0; done) | skip
    all_goals exact Nat.le_of_ble_eq_true rfl) hrest rfl h
theorem iv_X11_isUnsworn {a0 : Value} (ha0 : z_okR a0 = true) {a1 : Int} {b : Nat} (hd : zD mt.1.2 pc (.invokevirtual idx) 3 pc') (hlink : Cond.methodLink mt.1.1.cls idx yX11_isUnsworn ∈ zTB) (hroom : 4 + 1 ≤ mt.2.2.2.1 ∧ 8 + (3 + 11) + 88 ≤ mt.2.2.2.2) (hb : zIs σ b (11, 0)) (hrest : (rest.map fun v => v.category).sum ≤ 8) (h : zC X m_X11_isUnsworn (.ref b :: [a0, vi a1]) σ (fun r σ1 => zE X mt pc' ls (r.toList ++ rest) σ1 Q)) : zE X mt pc ls (vi a1 :: a0 :: .ref b :: rest) σ Q :=
  e_invV (mz := m_X11_isUnsworn) (As := [a0, vi a1]) (rest := rest) hd ok_X11_isUnsworn im_X11_isUnsworn se_X11_isUnsworn hlink hroom hb kd_11 rfl rfl (fun v hv => by
    simp only [List.mem_cons, List.not_mem_nil, or_false] at hv
    rcases hv with rfl | rfl <;> first | rfl | (exact z_okRA (by assumption))) (by
    cases a0 <;> first | (cases ha0; done) | skip
    all_goals exact Nat.le_of_ble_eq_true rfl) hrest rfl h
theorem iv_X11_isIdle {a0 : Value} (ha0 : z_okR a0 = true) {a1 : Int} {b : Nat} (hd : zD mt.1.2 pc (.invokevirtual idx) 3 pc') (hlink : Cond.methodLink mt.1.1.cls idx yX11_isIdle ∈ zTB) (hroom : 4 + 1 ≤ mt.2.2.2.1 ∧ 8 + (3 + 11) + 88 ≤ mt.2.2.2.2) (hb : zIs σ b (11, 0)) (hrest : (rest.map fun v => v.category).sum ≤ 8) (h : zC X m_X11_isIdle (.ref b :: [a0, vi a1]) σ (fun r σ1 => zE X mt pc' ls (r.toList ++ rest) σ1 Q)) : zE X mt pc ls (vi a1 :: a0 :: .ref b :: rest) σ Q :=
  e_invV (mz := m_X11_isIdle) (As := [a0, vi a1]) (rest := rest) hd ok_X11_isIdle im_X11_isIdle se_X11_isIdle hlink hroom hb kd_11 rfl rfl (fun v hv => by
    simp only [List.mem_cons, List.not_mem_nil, or_false] at hv
    rcases hv with rfl | rfl <;> first | rfl | (exact z_okRA (by assumption))) (by
    cases a0 <;> first | (cases ha0; done) | skip
    all_goals exact Nat.le_of_ble_eq_true rfl) hrest rfl h
theorem iv_X11_isWanting {a0 : Value} (ha0 : z_okR a0 = true) {a1 : Int} {a2 : Int} {b : Nat} (hd : zD mt.1.2 pc (.invokevirtual idx) 3 pc') (hlink : Cond.methodLink mt.1.1.cls idx yX11_isWanting ∈ zTB) (hroom : 5 + 1 ≤ mt.2.2.2.1 ∧ 8 + (4 + 11) + 110 ≤ mt.2.2.2.2) (hb : zIs σ b (11, 0)) (hrest : (rest.map fun v => v.category).sum ≤ 8) (h : zC X m_X11_isWanting (.ref b :: [a0, vi a1, vi a2]) σ (fun r σ1 => zE X mt pc' ls (r.toList ++ rest) σ1 Q)) : zE X mt pc ls (vi a2 :: vi a1 :: a0 :: .ref b :: rest) σ Q :=
  e_invV (mz := m_X11_isWanting) (As := [a0, vi a1, vi a2]) (rest := rest) hd ok_X11_isWanting im_X11_isWanting se_X11_isWanting hlink hroom hb kd_11 rfl rfl (fun v hv => by
    simp only [List.mem_cons, List.not_mem_nil, or_false] at hv
    rcases hv with rfl | rfl | rfl <;> first | rfl | (exact z_okRA (by assumption))) (by
    cases a0 <;> first | (cases ha0; done) | skip
    all_goals exact Nat.le_of_ble_eq_true rfl) hrest rfl h
theorem iv_X11_membersOf {a0 : Int} {a1 : Int} {b : Nat} (hd : zD mt.1.2 pc (.invokevirtual idx) 3 pc') (hlink : Cond.methodLink mt.1.1.cls idx yX11_membersOf ∈ zTB) (hroom : 4 + 1 ≤ mt.2.2.2.1 ∧ 8 + (5 + 11) + 88 ≤ mt.2.2.2.2) (hb : zIs σ b (11, 0)) (hrest : (rest.map fun v => v.category).sum ≤ 8) (h : zC X m_X11_membersOf (.ref b :: [vi a0, vi a1]) σ (fun r σ1 => zE X mt pc' ls (r.toList ++ rest) σ1 Q)) : zE X mt pc ls (vi a1 :: vi a0 :: .ref b :: rest) σ Q :=
  e_invV (mz := m_X11_membersOf) (As := [vi a0, vi a1]) (rest := rest) hd ok_X11_membersOf im_X11_membersOf se_X11_membersOf hlink hroom hb kd_11 rfl rfl (fun v hv => by
    simp only [List.mem_cons, List.not_mem_nil, or_false] at hv
    rcases hv with rfl | rfl <;> first | rfl | (exact z_okRA (by assumption))) (Nat.le_of_ble_eq_true rfl) hrest rfl h
theorem iv_X11_beginSpell {a0 : Value} (ha0 : z_okR a0 = true) {a1 : Int} {a2 : Int} {b : Nat} (hd : zD mt.1.2 pc (.invokevirtual idx) 3 pc') (hlink : Cond.methodLink mt.1.1.cls idx yX11_beginSpell ∈ zTB) (hroom : 2 + 1 ≤ mt.2.2.2.1 ∧ 8 + (4 + 11) + 35 ≤ mt.2.2.2.2) (hb : zIs σ b (11, 0)) (hrest : (rest.map fun v => v.category).sum ≤ 8) (h : zC X m_X11_beginSpell (.ref b :: [a0, vi a1, vi a2]) σ (fun r σ1 => zE X mt pc' ls (r.toList ++ rest) σ1 Q)) : zE X mt pc ls (vi a2 :: vi a1 :: a0 :: .ref b :: rest) σ Q :=
  e_invV (mz := m_X11_beginSpell) (As := [a0, vi a1, vi a2]) (rest := rest) hd ok_X11_beginSpell im_X11_beginSpell se_X11_beginSpell hlink hroom hb kd_11 rfl rfl (fun v hv => by
    simp only [List.mem_cons, List.not_mem_nil, or_false] at hv
    rcases hv with rfl | rfl | rfl <;> first | rfl | (exact z_okRA (by assumption))) (by
    cases a0 <;> first | (cases ha0; done) | skip
    all_goals exact Nat.le_of_ble_eq_true rfl) hrest rfl h
theorem iv_X11_lodgesOnOrBehind {a0 : Int} {a1 : Int} {b : Nat} (hd : zD mt.1.2 pc (.invokevirtual idx) 3 pc') (hlink : Cond.methodLink mt.1.1.cls idx yX11_lodgesOnOrBehind ∈ zTB) (hroom : 0 + 1 ≤ mt.2.2.2.1 ∧ 8 + (4 + 11) + 0 ≤ mt.2.2.2.2) (hb : zIs σ b (11, 0)) (hrest : (rest.map fun v => v.category).sum ≤ 8) (h : zC X m_X11_lodgesOnOrBehind (.ref b :: [vi a0, vi a1]) σ (fun r σ1 => zE X mt pc' ls (r.toList ++ rest) σ1 Q)) : zE X mt pc ls (vi a1 :: vi a0 :: .ref b :: rest) σ Q :=
  e_invV (mz := m_X11_lodgesOnOrBehind) (As := [vi a0, vi a1]) (rest := rest) hd ok_X11_lodgesOnOrBehind im_X11_lodgesOnOrBehind se_X11_lodgesOnOrBehind hlink hroom hb kd_11 rfl rfl (fun v hv => by
    simp only [List.mem_cons, List.not_mem_nil, or_false] at hv
    rcases hv with rfl | rfl <;> first | rfl | (exact z_okRA (by assumption))) (Nat.le_of_ble_eq_true rfl) hrest rfl h
theorem iv_X11_stayOn {a0 : Int} {a1 : Int} {b : Nat} (hd : zD mt.1.2 pc (.invokevirtual idx) 3 pc') (hlink : Cond.methodLink mt.1.1.cls idx yX11_stayOn ∈ zTB) (hroom : 0 + 1 ≤ mt.2.2.2.1 ∧ 8 + (4 + 11) + 0 ≤ mt.2.2.2.2) (hb : zIs σ b (11, 0)) (hrest : (rest.map fun v => v.category).sum ≤ 8) (h : zC X m_X11_stayOn (.ref b :: [vi a0, vi a1]) σ (fun r σ1 => zE X mt pc' ls (r.toList ++ rest) σ1 Q)) : zE X mt pc ls (vi a1 :: vi a0 :: .ref b :: rest) σ Q :=
  e_invV (mz := m_X11_stayOn) (As := [vi a0, vi a1]) (rest := rest) hd ok_X11_stayOn im_X11_stayOn se_X11_stayOn hlink hroom hb kd_11 rfl rfl (fun v hv => by
    simp only [List.mem_cons, List.not_mem_nil, or_false] at hv
    rcases hv with rfl | rfl <;> first | rfl | (exact z_okRA (by assumption))) (Nat.le_of_ble_eq_true rfl) hrest rfl h
theorem iv_X11_groupCharged {a0 : Int} {a1 : Value} (ha1 : z_okR a1 = true) {a2 : Int} {b : Nat} (hd : zD mt.1.2 pc (.invokevirtual idx) 3 pc') (hlink : Cond.methodLink mt.1.1.cls idx yX11_groupCharged ∈ zTB) (hroom : 4 + 1 ≤ mt.2.2.2.1 ∧ 8 + (7 + 11) + 88 ≤ mt.2.2.2.2) (hb : zIs σ b (11, 0)) (hrest : (rest.map fun v => v.category).sum ≤ 8) (h : zC X m_X11_groupCharged (.ref b :: [vi a0, a1, vi a2]) σ (fun r σ1 => zE X mt pc' ls (r.toList ++ rest) σ1 Q)) : zE X mt pc ls (vi a2 :: a1 :: vi a0 :: .ref b :: rest) σ Q :=
  e_invV (mz := m_X11_groupCharged) (As := [vi a0, a1, vi a2]) (rest := rest) hd ok_X11_groupCharged im_X11_groupCharged se_X11_groupCharged hlink hroom hb kd_11 rfl rfl (fun v hv => by
    simp only [List.mem_cons, List.not_mem_nil, or_false] at hv
    rcases hv with rfl | rfl | rfl <;> first | rfl | (exact z_okRA (by assumption))) (by
    cases a1 <;> first | (cases ha1; done) | skip
    all_goals exact Nat.le_of_ble_eq_true rfl) hrest rfl h
theorem iv_X11_hasLodgedLong {a0 : Value} (ha0 : z_okR a0 = true) {a1 : Int} {b : Nat} (hd : zD mt.1.2 pc (.invokevirtual idx) 3 pc') (hlink : Cond.methodLink mt.1.1.cls idx yX11_hasLodgedLong ∈ zTB) (hroom : 1 + 1 ≤ mt.2.2.2.1 ∧ 8 + (6 + 11) + 22 ≤ mt.2.2.2.2) (hb : zIs σ b (11, 0)) (hrest : (rest.map fun v => v.category).sum ≤ 8) (h : zC X m_X11_hasLodgedLong (.ref b :: [a0, vi a1]) σ (fun r σ1 => zE X mt pc' ls (r.toList ++ rest) σ1 Q)) : zE X mt pc ls (vi a1 :: a0 :: .ref b :: rest) σ Q :=
  e_invV (mz := m_X11_hasLodgedLong) (As := [a0, vi a1]) (rest := rest) hd ok_X11_hasLodgedLong im_X11_hasLodgedLong se_X11_hasLodgedLong hlink hroom hb kd_11 rfl rfl (fun v hv => by
    simp only [List.mem_cons, List.not_mem_nil, or_false] at hv
    rcases hv with rfl | rfl <;> first | rfl | (exact z_okRA (by assumption))) (by
    cases a0 <;> first | (cases ha0; done) | skip
    all_goals exact Nat.le_of_ble_eq_true rfl) hrest rfl h
theorem iv_X11_gatherUnsworn {a0 : Int} {b : Nat} (hd : zD mt.1.2 pc (.invokevirtual idx) 3 pc') (hlink : Cond.methodLink mt.1.1.cls idx yX11_gatherUnsworn ∈ zTB) (hroom : 5 + 1 ≤ mt.2.2.2.1 ∧ 8 + (4 + 11) + 110 ≤ mt.2.2.2.2) (hb : zIs σ b (11, 0)) (hrest : (rest.map fun v => v.category).sum ≤ 8) (h : zC X m_X11_gatherUnsworn (.ref b :: [vi a0]) σ (fun r σ1 => zE X mt pc' ls (r.toList ++ rest) σ1 Q)) : zE X mt pc ls (vi a0 :: .ref b :: rest) σ Q :=
  e_invV (mz := m_X11_gatherUnsworn) (As := [vi a0]) (rest := rest) hd ok_X11_gatherUnsworn im_X11_gatherUnsworn se_X11_gatherUnsworn hlink hroom hb kd_11 rfl rfl (fun v hv => by
    simp only [List.mem_cons, List.not_mem_nil, or_false] at hv
    rcases hv with rfl; first | rfl | (exact z_okRA (by assumption))) (Nat.le_of_ble_eq_true rfl) hrest rfl h
theorem iv_X11_offerGroup {a0 : Int} {a1 : Int} {b : Nat} (hd : zD mt.1.2 pc (.invokevirtual idx) 3 pc') (hlink : Cond.methodLink mt.1.1.cls idx yX11_offerGroup ∈ zTB) (hroom : 6 + 1 ≤ mt.2.2.2.1 ∧ 8 + (4 + 11) + 136 ≤ mt.2.2.2.2) (hb : zIs σ b (11, 0)) (hrest : (rest.map fun v => v.category).sum ≤ 8) (h : zC X m_X11_offerGroup (.ref b :: [vi a0, vi a1]) σ (fun r σ1 => zE X mt pc' ls (r.toList ++ rest) σ1 Q)) : zE X mt pc ls (vi a1 :: vi a0 :: .ref b :: rest) σ Q :=
  e_invV (mz := m_X11_offerGroup) (As := [vi a0, vi a1]) (rest := rest) hd ok_X11_offerGroup im_X11_offerGroup se_X11_offerGroup hlink hroom hb kd_11 rfl rfl (fun v hv => by
    simp only [List.mem_cons, List.not_mem_nil, or_false] at hv
    rcases hv with rfl | rfl <;> first | rfl | (exact z_okRA (by assumption))) (Nat.le_of_ble_eq_true rfl) hrest rfl h
theorem iv_X11_askedOf {a0 : Int} {a1 : Int} {a2 : Int} {b : Nat} (hd : zD mt.1.2 pc (.invokevirtual idx) 3 pc') (hlink : Cond.methodLink mt.1.1.cls idx yX11_askedOf ∈ zTB) (hroom : 5 + 1 ≤ mt.2.2.2.1 ∧ 8 + (5 + 11) + 112 ≤ mt.2.2.2.2) (hb : zIs σ b (11, 0)) (hrest : (rest.map fun v => v.category).sum ≤ 8) (h : zC X m_X11_askedOf (.ref b :: [vi a0, vi a1, vi a2]) σ (fun r σ1 => zE X mt pc' ls (r.toList ++ rest) σ1 Q)) : zE X mt pc ls (vi a2 :: vi a1 :: vi a0 :: .ref b :: rest) σ Q :=
  e_invV (mz := m_X11_askedOf) (As := [vi a0, vi a1, vi a2]) (rest := rest) hd ok_X11_askedOf im_X11_askedOf se_X11_askedOf hlink hroom hb kd_11 rfl rfl (fun v hv => by
    simp only [List.mem_cons, List.not_mem_nil, or_false] at hv
    rcases hv with rfl | rfl | rfl <;> first | rfl | (exact z_okRA (by assumption))) (Nat.le_of_ble_eq_true rfl) hrest rfl h
theorem iv_X11_hasKinIn {a0 : Int} {a1 : Int} {a2 : Int} {b : Nat} (hd : zD mt.1.2 pc (.invokevirtual idx) 3 pc') (hlink : Cond.methodLink mt.1.1.cls idx yX11_hasKinIn ∈ zTB) (hroom : 4 + 1 ≤ mt.2.2.2.1 ∧ 8 + (5 + 11) + 88 ≤ mt.2.2.2.2) (hb : zIs σ b (11, 0)) (hrest : (rest.map fun v => v.category).sum ≤ 8) (h : zC X m_X11_hasKinIn (.ref b :: [vi a0, vi a1, vi a2]) σ (fun r σ1 => zE X mt pc' ls (r.toList ++ rest) σ1 Q)) : zE X mt pc ls (vi a2 :: vi a1 :: vi a0 :: .ref b :: rest) σ Q :=
  e_invV (mz := m_X11_hasKinIn) (As := [vi a0, vi a1, vi a2]) (rest := rest) hd ok_X11_hasKinIn im_X11_hasKinIn se_X11_hasKinIn hlink hroom hb kd_11 rfl rfl (fun v hv => by
    simp only [List.mem_cons, List.not_mem_nil, or_false] at hv
    rcases hv with rfl | rfl | rfl <;> first | rfl | (exact z_okRA (by assumption))) (Nat.le_of_ble_eq_true rfl) hrest rfl h
theorem iv_X11_hasWealth {a0 : Int} {a1 : Int} {b : Nat} (hd : zD mt.1.2 pc (.invokevirtual idx) 3 pc') (hlink : Cond.methodLink mt.1.1.cls idx yX11_hasWealth ∈ zTB) (hroom : 4 + 1 ≤ mt.2.2.2.1 ∧ 8 + (4 + 11) + 88 ≤ mt.2.2.2.2) (hb : zIs σ b (11, 0)) (hrest : (rest.map fun v => v.category).sum ≤ 8) (h : zC X m_X11_hasWealth (.ref b :: [vi a0, vi a1]) σ (fun r σ1 => zE X mt pc' ls (r.toList ++ rest) σ1 Q)) : zE X mt pc ls (vi a1 :: vi a0 :: .ref b :: rest) σ Q :=
  e_invV (mz := m_X11_hasWealth) (As := [vi a0, vi a1]) (rest := rest) hd ok_X11_hasWealth im_X11_hasWealth se_X11_hasWealth hlink hroom hb kd_11 rfl rfl (fun v hv => by
    simp only [List.mem_cons, List.not_mem_nil, or_false] at hv
    rcases hv with rfl | rfl <;> first | rfl | (exact z_okRA (by assumption))) (Nat.le_of_ble_eq_true rfl) hrest rfl h
theorem iv_X11_settle {a0 : Int} {b : Nat} (hd : zD mt.1.2 pc (.invokevirtual idx) 3 pc') (hlink : Cond.methodLink mt.1.1.cls idx yX11_settle ∈ zTB) (hroom : 3 + 1 ≤ mt.2.2.2.1 ∧ 8 + (4 + 11) + 58 ≤ mt.2.2.2.2) (hb : zIs σ b (11, 0)) (hrest : (rest.map fun v => v.category).sum ≤ 8) (h : zC X m_X11_settle (.ref b :: [vi a0]) σ (fun r σ1 => zE X mt pc' ls (r.toList ++ rest) σ1 Q)) : zE X mt pc ls (vi a0 :: .ref b :: rest) σ Q :=
  e_invV (mz := m_X11_settle) (As := [vi a0]) (rest := rest) hd ok_X11_settle im_X11_settle se_X11_settle hlink hroom hb kd_11 rfl rfl (fun v hv => by
    simp only [List.mem_cons, List.not_mem_nil, or_false] at hv
    rcases hv with rfl; first | rfl | (exact z_okRA (by assumption))) (Nat.le_of_ble_eq_true rfl) hrest rfl h
theorem iv_X11_hasPlea {a0 : Int} {a1 : Int} {b : Nat} (hd : zD mt.1.2 pc (.invokevirtual idx) 3 pc') (hlink : Cond.methodLink mt.1.1.cls idx yX11_hasPlea ∈ zTB) (hroom : 0 + 1 ≤ mt.2.2.2.1 ∧ 8 + (4 + 11) + 0 ≤ mt.2.2.2.2) (hb : zIs σ b (11, 0)) (hrest : (rest.map fun v => v.category).sum ≤ 8) (h : zC X m_X11_hasPlea (.ref b :: [vi a0, vi a1]) σ (fun r σ1 => zE X mt pc' ls (r.toList ++ rest) σ1 Q)) : zE X mt pc ls (vi a1 :: vi a0 :: .ref b :: rest) σ Q :=
  e_invV (mz := m_X11_hasPlea) (As := [vi a0, vi a1]) (rest := rest) hd ok_X11_hasPlea im_X11_hasPlea se_X11_hasPlea hlink hroom hb kd_11 rfl rfl (fun v hv => by
    simp only [List.mem_cons, List.not_mem_nil, or_false] at hv
    rcases hv with rfl | rfl <;> first | rfl | (exact z_okRA (by assumption))) (Nat.le_of_ble_eq_true rfl) hrest rfl h
theorem iv_X11_callToAnswer {a0 : Value} (ha0 : z_okR a0 = true) {b : Nat} (hd : zD mt.1.2 pc (.invokevirtual idx) 3 pc') (hlink : Cond.methodLink mt.1.1.cls idx yX11_callToAnswer ∈ zTB) (hroom : 4 + 1 ≤ mt.2.2.2.1 ∧ 8 + (3 + 11) + 88 ≤ mt.2.2.2.2) (hb : zIs σ b (11, 0)) (hrest : (rest.map fun v => v.category).sum ≤ 8) (h : zC X m_X11_callToAnswer (.ref b :: [a0]) σ (fun r σ1 => zE X mt pc' ls (r.toList ++ rest) σ1 Q)) : zE X mt pc ls (a0 :: .ref b :: rest) σ Q :=
  e_invV (mz := m_X11_callToAnswer) (As := [a0]) (rest := rest) hd ok_X11_callToAnswer im_X11_callToAnswer se_X11_callToAnswer hlink hroom hb kd_11 rfl rfl (fun v hv => by
    simp only [List.mem_cons, List.not_mem_nil, or_false] at hv
    rcases hv with rfl; first | rfl | (exact z_okRA (by assumption))) (by
    cases a0 <;> first | (cases ha0; done) | skip
    all_goals exact Nat.le_of_ble_eq_true rfl) hrest rfl h
theorem iv_X11_mayBear {a0 : Value} (ha0 : z_okR a0 = true) {a1 : Int} {b : Nat} (hd : zD mt.1.2 pc (.invokevirtual idx) 3 pc') (hlink : Cond.methodLink mt.1.1.cls idx yX11_mayBear ∈ zTB) (hroom : 1 + 1 ≤ mt.2.2.2.1 ∧ 8 + (3 + 11) + 20 ≤ mt.2.2.2.2) (hb : zIs σ b (11, 0)) (hrest : (rest.map fun v => v.category).sum ≤ 8) (h : zC X m_X11_mayBear (.ref b :: [a0, vi a1]) σ (fun r σ1 => zE X mt pc' ls (r.toList ++ rest) σ1 Q)) : zE X mt pc ls (vi a1 :: a0 :: .ref b :: rest) σ Q :=
  e_invV (mz := m_X11_mayBear) (As := [a0, vi a1]) (rest := rest) hd ok_X11_mayBear im_X11_mayBear se_X11_mayBear hlink hroom hb kd_11 rfl rfl (fun v hv => by
    simp only [List.mem_cons, List.not_mem_nil, or_false] at hv
    rcases hv with rfl | rfl <;> first | rfl | (exact z_okRA (by assumption))) (by
    cases a0 <;> first | (cases ha0; done) | skip
    all_goals exact Nat.le_of_ble_eq_true rfl) hrest rfl h
theorem iv_X11_weightOfAll {a0 : Value} (ha0 : z_okR a0 = true) {b : Nat} (hd : zD mt.1.2 pc (.invokevirtual idx) 3 pc') (hlink : Cond.methodLink mt.1.1.cls idx yX11_weightOfAll ∈ zTB) (hroom : 2 + 1 ≤ mt.2.2.2.1 ∧ 8 + (4 + 11) + 42 ≤ mt.2.2.2.2) (hb : zIs σ b (11, 0)) (hrest : (rest.map fun v => v.category).sum ≤ 8) (h : zC X m_X11_weightOfAll (.ref b :: [a0]) σ (fun r σ1 => zE X mt pc' ls (r.toList ++ rest) σ1 Q)) : zE X mt pc ls (a0 :: .ref b :: rest) σ Q :=
  e_invV (mz := m_X11_weightOfAll) (As := [a0]) (rest := rest) hd ok_X11_weightOfAll im_X11_weightOfAll se_X11_weightOfAll hlink hroom hb kd_11 rfl rfl (fun v hv => by
    simp only [List.mem_cons, List.not_mem_nil, or_false] at hv
    rcases hv with rfl; first | rfl | (exact z_okRA (by assumption))) (by
    cases a0 <;> first | (cases ha0; done) | skip
    all_goals exact Nat.le_of_ble_eq_true rfl) hrest rfl h
theorem iv_X11_part {a0 : Value} (ha0 : z_okR a0 = true) {a1 : Int} {b : Nat} (hd : zD mt.1.2 pc (.invokevirtual idx) 3 pc') (hlink : Cond.methodLink mt.1.1.cls idx yX11_part ∈ zTB) (hroom : 3 + 1 ≤ mt.2.2.2.1 ∧ 8 + (7 + 11) + 65 ≤ mt.2.2.2.2) (hb : zIs σ b (11, 0)) (hrest : (rest.map fun v => v.category).sum ≤ 8) (h : zC X m_X11_part (.ref b :: [a0, vi a1]) σ (fun r σ1 => zE X mt pc' ls (r.toList ++ rest) σ1 Q)) : zE X mt pc ls (vi a1 :: a0 :: .ref b :: rest) σ Q :=
  e_invV (mz := m_X11_part) (As := [a0, vi a1]) (rest := rest) hd ok_X11_part im_X11_part se_X11_part hlink hroom hb kd_11 rfl rfl (fun v hv => by
    simp only [List.mem_cons, List.not_mem_nil, or_false] at hv
    rcases hv with rfl | rfl <;> first | rfl | (exact z_okRA (by assumption))) (by
    cases a0 <;> first | (cases ha0; done) | skip
    all_goals exact Nat.le_of_ble_eq_true rfl) hrest rfl h
theorem iv_X11_giveOneMore {a0 : Value} (ha0 : z_okR a0 = true) {b : Nat} (hd : zD mt.1.2 pc (.invokevirtual idx) 3 pc') (hlink : Cond.methodLink mt.1.1.cls idx yX11_giveOneMore ∈ zTB) (hroom : 0 + 1 ≤ mt.2.2.2.1 ∧ 8 + (4 + 11) + 0 ≤ mt.2.2.2.2) (hb : zIs σ b (11, 0)) (hrest : (rest.map fun v => v.category).sum ≤ 8) (h : zC X m_X11_giveOneMore (.ref b :: [a0]) σ (fun r σ1 => zE X mt pc' ls (r.toList ++ rest) σ1 Q)) : zE X mt pc ls (a0 :: .ref b :: rest) σ Q :=
  e_invV (mz := m_X11_giveOneMore) (As := [a0]) (rest := rest) hd ok_X11_giveOneMore im_X11_giveOneMore se_X11_giveOneMore hlink hroom hb kd_11 rfl rfl (fun v hv => by
    simp only [List.mem_cons, List.not_mem_nil, or_false] at hv
    rcases hv with rfl; first | rfl | (exact z_okRA (by assumption))) (by
    cases a0 <;> first | (cases ha0; done) | skip
    all_goals exact Nat.le_of_ble_eq_true rfl) hrest rfl h
theorem iv_X11_partDebtsOf {a0 : Int} {b : Nat} (hd : zD mt.1.2 pc (.invokevirtual idx) 3 pc') (hlink : Cond.methodLink mt.1.1.cls idx yX11_partDebtsOf ∈ zTB) (hroom : 4 + 1 ≤ mt.2.2.2.1 ∧ 8 + (4 + 11) + 91 ≤ mt.2.2.2.2) (hb : zIs σ b (11, 0)) (hrest : (rest.map fun v => v.category).sum ≤ 8) (h : zC X m_X11_partDebtsOf (.ref b :: [vi a0]) σ (fun r σ1 => zE X mt pc' ls (r.toList ++ rest) σ1 Q)) : zE X mt pc ls (vi a0 :: .ref b :: rest) σ Q :=
  e_invV (mz := m_X11_partDebtsOf) (As := [vi a0]) (rest := rest) hd ok_X11_partDebtsOf im_X11_partDebtsOf se_X11_partDebtsOf hlink hroom hb kd_11 rfl rfl (fun v hv => by
    simp only [List.mem_cons, List.not_mem_nil, or_false] at hv
    rcases hv with rfl; first | rfl | (exact z_okRA (by assumption))) (Nat.le_of_ble_eq_true rfl) hrest rfl h
theorem iv_X11_owedOfAll {a0 : Int} {b : Nat} (hd : zD mt.1.2 pc (.invokevirtual idx) 3 pc') (hlink : Cond.methodLink mt.1.1.cls idx yX11_owedOfAll ∈ zTB) (hroom : 0 + 1 ≤ mt.2.2.2.1 ∧ 8 + (4 + 11) + 0 ≤ mt.2.2.2.2) (hb : zIs σ b (11, 0)) (hrest : (rest.map fun v => v.category).sum ≤ 8) (h : zC X m_X11_owedOfAll (.ref b :: [vi a0]) σ (fun r σ1 => zE X mt pc' ls (r.toList ++ rest) σ1 Q)) : zE X mt pc ls (vi a0 :: .ref b :: rest) σ Q :=
  e_invV (mz := m_X11_owedOfAll) (As := [vi a0]) (rest := rest) hd ok_X11_owedOfAll im_X11_owedOfAll se_X11_owedOfAll hlink hroom hb kd_11 rfl rfl (fun v hv => by
    simp only [List.mem_cons, List.not_mem_nil, or_false] at hv
    rcases hv with rfl; first | rfl | (exact z_okRA (by assumption))) (Nat.le_of_ble_eq_true rfl) hrest rfl h
theorem iv_X11_borneBy {a0 : Int} {b : Nat} (hd : zD mt.1.2 pc (.invokevirtual idx) 3 pc') (hlink : Cond.methodLink mt.1.1.cls idx yX11_borneBy ∈ zTB) (hroom : 0 + 1 ≤ mt.2.2.2.1 ∧ 8 + (4 + 11) + 0 ≤ mt.2.2.2.2) (hb : zIs σ b (11, 0)) (hrest : (rest.map fun v => v.category).sum ≤ 8) (h : zC X m_X11_borneBy (.ref b :: [vi a0]) σ (fun r σ1 => zE X mt pc' ls (r.toList ++ rest) σ1 Q)) : zE X mt pc ls (vi a0 :: .ref b :: rest) σ Q :=
  e_invV (mz := m_X11_borneBy) (As := [vi a0]) (rest := rest) hd ok_X11_borneBy im_X11_borneBy se_X11_borneBy hlink hroom hb kd_11 rfl rfl (fun v hv => by
    simp only [List.mem_cons, List.not_mem_nil, or_false] at hv
    rcases hv with rfl; first | rfl | (exact z_okRA (by assumption))) (Nat.le_of_ble_eq_true rfl) hrest rfl h
theorem iv_X11_borneByHeads {a0 : Int} {a1 : Int} {b : Nat} (hd : zD mt.1.2 pc (.invokevirtual idx) 3 pc') (hlink : Cond.methodLink mt.1.1.cls idx yX11_borneByHeads ∈ zTB) (hroom : 5 + 1 ≤ mt.2.2.2.1 ∧ 8 + (4 + 11) + 112 ≤ mt.2.2.2.2) (hb : zIs σ b (11, 0)) (hrest : (rest.map fun v => v.category).sum ≤ 8) (h : zC X m_X11_borneByHeads (.ref b :: [vi a0, vi a1]) σ (fun r σ1 => zE X mt pc' ls (r.toList ++ rest) σ1 Q)) : zE X mt pc ls (vi a1 :: vi a0 :: .ref b :: rest) σ Q :=
  e_invV (mz := m_X11_borneByHeads) (As := [vi a0, vi a1]) (rest := rest) hd ok_X11_borneByHeads im_X11_borneByHeads se_X11_borneByHeads hlink hroom hb kd_11 rfl rfl (fun v hv => by
    simp only [List.mem_cons, List.not_mem_nil, or_false] at hv
    rcases hv with rfl | rfl <;> first | rfl | (exact z_okRA (by assumption))) (Nat.le_of_ble_eq_true rfl) hrest rfl h
theorem iv_X11_bearsTooMuch {a0 : Int} {a1 : Int} {b : Nat} (hd : zD mt.1.2 pc (.invokevirtual idx) 3 pc') (hlink : Cond.methodLink mt.1.1.cls idx yX11_bearsTooMuch ∈ zTB) (hroom : 6 + 1 ≤ mt.2.2.2.1 ∧ 8 + (5 + 11) + 135 ≤ mt.2.2.2.2) (hb : zIs σ b (11, 0)) (hrest : (rest.map fun v => v.category).sum ≤ 8) (h : zC X m_X11_bearsTooMuch (.ref b :: [vi a0, vi a1]) σ (fun r σ1 => zE X mt pc' ls (r.toList ++ rest) σ1 Q)) : zE X mt pc ls (vi a1 :: vi a0 :: .ref b :: rest) σ Q :=
  e_invV (mz := m_X11_bearsTooMuch) (As := [vi a0, vi a1]) (rest := rest) hd ok_X11_bearsTooMuch im_X11_bearsTooMuch se_X11_bearsTooMuch hlink hroom hb kd_11 rfl rfl (fun v hv => by
    simp only [List.mem_cons, List.not_mem_nil, or_false] at hv
    rcases hv with rfl | rfl <;> first | rfl | (exact z_okRA (by assumption))) (Nat.le_of_ble_eq_true rfl) hrest rfl h
theorem iv_X11_refusalOfSheet {a0 : Int} {a1 : Int} {b : Nat} (hd : zD mt.1.2 pc (.invokevirtual idx) 3 pc') (hlink : Cond.methodLink mt.1.1.cls idx yX11_refusalOfSheet ∈ zTB) (hroom : 1 + 1 ≤ mt.2.2.2.1 ∧ 8 + (3 + 11) + 20 ≤ mt.2.2.2.2) (hb : zIs σ b (11, 0)) (hrest : (rest.map fun v => v.category).sum ≤ 8) (h : zC X m_X11_refusalOfSheet (.ref b :: [vi a0, vi a1]) σ (fun r σ1 => zE X mt pc' ls (r.toList ++ rest) σ1 Q)) : zE X mt pc ls (vi a1 :: vi a0 :: .ref b :: rest) σ Q :=
  e_invV (mz := m_X11_refusalOfSheet) (As := [vi a0, vi a1]) (rest := rest) hd ok_X11_refusalOfSheet im_X11_refusalOfSheet se_X11_refusalOfSheet hlink hroom hb kd_11 rfl rfl (fun v hv => by
    simp only [List.mem_cons, List.not_mem_nil, or_false] at hv
    rcases hv with rfl | rfl <;> first | rfl | (exact z_okRA (by assumption))) (Nat.le_of_ble_eq_true rfl) hrest rfl h
theorem iv_X12_init {b : Nat} (hd : zD mt.1.2 pc (.invokespecial idx) 3 pc') (hlink : Cond.methodLink mt.1.1.cls idx yX12_init ∈ zTB) (hroom : 1 + 1 ≤ mt.2.2.2.1 ∧ 8 + (1 + 11) + 12 ≤ mt.2.2.2.2) (hrest : (rest.map fun v => v.category).sum ≤ 8) (h : zC X m_X12_init (.ref b :: []) σ (fun r σ1 => zE X mt pc' ls (r.toList ++ rest) σ1 Q)) : zE X mt pc ls (.ref b :: rest) σ Q :=
  e_invI (mz := m_X12_init) (As := []) (rest := rest) hd ok_X12_init im_X12_init rfl rfl hlink hroom rfl (fun v hv => by cases hv) (Nat.le_of_ble_eq_true rfl) hrest rfl h
theorem iv_X12_within {a0 : Int} {a1 : Int} {a2 : Int} (hd : zD mt.1.2 pc (.invokestatic idx) 3 pc') (hlink : Cond.methodLink mt.1.1.cls idx yX12_within ∈ zTB) (hroom : 0 + 1 ≤ mt.2.2.2.1 ∧ 8 + (3 + 11) + 0 ≤ mt.2.2.2.2) (hrest : (rest.map fun v => v.category).sum ≤ 8) (h : zC X m_X12_within [vi a0, vi a1, vi a2] σ (fun r σ1 => zE X mt pc' ls (r.toList ++ rest) σ1 Q)) : zE X mt pc ls (vi a2 :: vi a1 :: vi a0 :: rest) σ Q :=
  e_invS (mz := m_X12_within) (As := [vi a0, vi a1, vi a2]) (rest := rest) hd ok_X12_within ss_X12_within hlink hroom rfl (fun v hv => by
    simp only [List.mem_cons, List.not_mem_nil, or_false] at hv
    rcases hv with rfl | rfl | rfl <;> first | rfl | (exact z_okRA (by assumption))) (Nat.le_of_ble_eq_true rfl) hrest rfl h
theorem iv_X12_isDay {a0 : Int} (hd : zD mt.1.2 pc (.invokestatic idx) 3 pc') (hlink : Cond.methodLink mt.1.1.cls idx yX12_isDay ∈ zTB) (hroom : 1 + 1 ≤ mt.2.2.2.1 ∧ 8 + (1 + 11) + 22 ≤ mt.2.2.2.2) (hrest : (rest.map fun v => v.category).sum ≤ 8) (h : zC X m_X12_isDay [vi a0] σ (fun r σ1 => zE X mt pc' ls (r.toList ++ rest) σ1 Q)) : zE X mt pc ls (vi a0 :: rest) σ Q :=
  e_invS (mz := m_X12_isDay) (As := [vi a0]) (rest := rest) hd ok_X12_isDay ss_X12_isDay hlink hroom rfl (fun v hv => by
    simp only [List.mem_cons, List.not_mem_nil, or_false] at hv
    rcases hv with rfl; first | rfl | (exact z_okRA (by assumption))) (Nat.le_of_ble_eq_true rfl) hrest rfl h
theorem iv_X12_isOne {a0 : Int} {b : Nat} (hd : zD mt.1.2 pc (.invokevirtual idx) 3 pc') (hlink : Cond.methodLink mt.1.1.cls idx yX12_isOne ∈ zTB) (hroom : 0 + 1 ≤ mt.2.2.2.1 ∧ 8 + (2 + 11) + 0 ≤ mt.2.2.2.2) (hb : zIs σ b (12, 0)) (hrest : (rest.map fun v => v.category).sum ≤ 8) (h : zC X m_X12_isOne (.ref b :: [vi a0]) σ (fun r σ1 => zE X mt pc' ls (r.toList ++ rest) σ1 Q)) : zE X mt pc ls (vi a0 :: .ref b :: rest) σ Q :=
  e_invV (mz := m_X12_isOne) (As := [vi a0]) (rest := rest) hd ok_X12_isOne im_X12_isOne se_X12_isOne hlink hroom hb kd_12 rfl rfl (fun v hv => by
    simp only [List.mem_cons, List.not_mem_nil, or_false] at hv
    rcases hv with rfl; first | rfl | (exact z_okRA (by assumption))) (Nat.le_of_ble_eq_true rfl) hrest rfl h
theorem iv_X12_house {a0 : Int} {b : Nat} (hd : zD mt.1.2 pc (.invokevirtual idx) 3 pc') (hlink : Cond.methodLink mt.1.1.cls idx yX12_house ∈ zTB) (hroom : 1 + 1 ≤ mt.2.2.2.1 ∧ 8 + (2 + 11) + 22 ≤ mt.2.2.2.2) (hb : zIs σ b (12, 0)) (hrest : (rest.map fun v => v.category).sum ≤ 8) (h : zC X m_X12_house (.ref b :: [vi a0]) σ (fun r σ1 => zE X mt pc' ls (r.toList ++ rest) σ1 Q)) : zE X mt pc ls (vi a0 :: .ref b :: rest) σ Q :=
  e_invV (mz := m_X12_house) (As := [vi a0]) (rest := rest) hd ok_X12_house im_X12_house se_X12_house hlink hroom hb kd_12 rfl rfl (fun v hv => by
    simp only [List.mem_cons, List.not_mem_nil, or_false] at hv
    rcases hv with rfl; first | rfl | (exact z_okRA (by assumption))) (Nat.le_of_ble_eq_true rfl) hrest rfl h
theorem iv_X12_mayFather {a0 : Int} {a1 : Int} {b : Nat} (hd : zD mt.1.2 pc (.invokevirtual idx) 3 pc') (hlink : Cond.methodLink mt.1.1.cls idx yX12_mayFather ∈ zTB) (hroom : 1 + 1 ≤ mt.2.2.2.1 ∧ 8 + (3 + 11) + 21 ≤ mt.2.2.2.2) (hb : zIs σ b (12, 0)) (hrest : (rest.map fun v => v.category).sum ≤ 8) (h : zC X m_X12_mayFather (.ref b :: [vi a0, vi a1]) σ (fun r σ1 => zE X mt pc' ls (r.toList ++ rest) σ1 Q)) : zE X mt pc ls (vi a1 :: vi a0 :: .ref b :: rest) σ Q :=
  e_invV (mz := m_X12_mayFather) (As := [vi a0, vi a1]) (rest := rest) hd ok_X12_mayFather im_X12_mayFather se_X12_mayFather hlink hroom hb kd_12 rfl rfl (fun v hv => by
    simp only [List.mem_cons, List.not_mem_nil, or_false] at hv
    rcases hv with rfl | rfl <;> first | rfl | (exact z_okRA (by assumption))) (Nat.le_of_ble_eq_true rfl) hrest rfl h
theorem iv_X12_person {a0 : Int} {a1 : Int} {a2 : Int} {a3 : Int} {a4 : Int} {a5 : Int} {b : Nat} (hd : zD mt.1.2 pc (.invokevirtual idx) 3 pc') (hlink : Cond.methodLink mt.1.1.cls idx yX12_person ∈ zTB) (hroom : 2 + 1 ≤ mt.2.2.2.1 ∧ 8 + (7 + 11) + 43 ≤ mt.2.2.2.2) (hb : zIs σ b (12, 0)) (hrest : (rest.map fun v => v.category).sum ≤ 8) (h : zC X m_X12_person (.ref b :: [vi a0, vi a1, vi a2, vi a3, vi a4, vi a5]) σ (fun r σ1 => zE X mt pc' ls (r.toList ++ rest) σ1 Q)) : zE X mt pc ls (vi a5 :: vi a4 :: vi a3 :: vi a2 :: vi a1 :: vi a0 :: .ref b :: rest) σ Q :=
  e_invV (mz := m_X12_person) (As := [vi a0, vi a1, vi a2, vi a3, vi a4, vi a5]) (rest := rest) hd ok_X12_person im_X12_person se_X12_person hlink hroom hb kd_12 rfl rfl (fun v hv => by
    simp only [List.mem_cons, List.not_mem_nil, or_false] at hv
    rcases hv with rfl | rfl | rfl | rfl | rfl | rfl <;> first | rfl | (exact z_okRA (by assumption))) (Nat.le_of_ble_eq_true rfl) hrest rfl h
theorem iv_X12_told {a0 : Int} {a1 : Int} {b : Nat} (hd : zD mt.1.2 pc (.invokevirtual idx) 3 pc') (hlink : Cond.methodLink mt.1.1.cls idx yX12_told ∈ zTB) (hroom : 1 + 1 ≤ mt.2.2.2.1 ∧ 8 + (3 + 11) + 21 ≤ mt.2.2.2.2) (hb : zIs σ b (12, 0)) (hrest : (rest.map fun v => v.category).sum ≤ 8) (h : zC X m_X12_told (.ref b :: [vi a0, vi a1]) σ (fun r σ1 => zE X mt pc' ls (r.toList ++ rest) σ1 Q)) : zE X mt pc ls (vi a1 :: vi a0 :: .ref b :: rest) σ Q :=
  e_invV (mz := m_X12_told) (As := [vi a0, vi a1]) (rest := rest) hd ok_X12_told im_X12_told se_X12_told hlink hroom hb kd_12 rfl rfl (fun v hv => by
    simp only [List.mem_cons, List.not_mem_nil, or_false] at hv
    rcases hv with rfl | rfl <;> first | rfl | (exact z_okRA (by assumption))) (Nat.le_of_ble_eq_true rfl) hrest rfl h
theorem iv_X12_isDead {a0 : Int} {b : Nat} (hd : zD mt.1.2 pc (.invokevirtual idx) 3 pc') (hlink : Cond.methodLink mt.1.1.cls idx yX12_isDead ∈ zTB) (hroom : 0 + 1 ≤ mt.2.2.2.1 ∧ 8 + (2 + 11) + 0 ≤ mt.2.2.2.2) (hb : zIs σ b (12, 0)) (hrest : (rest.map fun v => v.category).sum ≤ 8) (h : zC X m_X12_isDead (.ref b :: [vi a0]) σ (fun r σ1 => zE X mt pc' ls (r.toList ++ rest) σ1 Q)) : zE X mt pc ls (vi a0 :: .ref b :: rest) σ Q :=
  e_invV (mz := m_X12_isDead) (As := [vi a0]) (rest := rest) hd ok_X12_isDead im_X12_isDead se_X12_isDead hlink hroom hb kd_12 rfl rfl (fun v hv => by
    simp only [List.mem_cons, List.not_mem_nil, or_false] at hv
    rcases hv with rfl; first | rfl | (exact z_okRA (by assumption))) (Nat.le_of_ble_eq_true rfl) hrest rfl h
theorem iv_X12_age {a0 : Int} {a1 : Int} {b : Nat} (hd : zD mt.1.2 pc (.invokevirtual idx) 3 pc') (hlink : Cond.methodLink mt.1.1.cls idx yX12_age ∈ zTB) (hroom : 2 + 1 ≤ mt.2.2.2.1 ∧ 8 + (3 + 11) + 42 ≤ mt.2.2.2.2) (hb : zIs σ b (12, 0)) (hrest : (rest.map fun v => v.category).sum ≤ 8) (h : zC X m_X12_age (.ref b :: [vi a0, vi a1]) σ (fun r σ1 => zE X mt pc' ls (r.toList ++ rest) σ1 Q)) : zE X mt pc ls (vi a1 :: vi a0 :: .ref b :: rest) σ Q :=
  e_invV (mz := m_X12_age) (As := [vi a0, vi a1]) (rest := rest) hd ok_X12_age im_X12_age se_X12_age hlink hroom hb kd_12 rfl rfl (fun v hv => by
    simp only [List.mem_cons, List.not_mem_nil, or_false] at hv
    rcases hv with rfl | rfl <;> first | rfl | (exact z_okRA (by assumption))) (Nat.le_of_ble_eq_true rfl) hrest rfl h
theorem iv_X12_lastFlight {a0 : Int} {b : Nat} (hd : zD mt.1.2 pc (.invokevirtual idx) 3 pc') (hlink : Cond.methodLink mt.1.1.cls idx yX12_lastFlight ∈ zTB) (hroom : 0 + 1 ≤ mt.2.2.2.1 ∧ 8 + (4 + 11) + 0 ≤ mt.2.2.2.2) (hb : zIs σ b (12, 0)) (hrest : (rest.map fun v => v.category).sum ≤ 8) (h : zC X m_X12_lastFlight (.ref b :: [vi a0]) σ (fun r σ1 => zE X mt pc' ls (r.toList ++ rest) σ1 Q)) : zE X mt pc ls (vi a0 :: .ref b :: rest) σ Q :=
  e_invV (mz := m_X12_lastFlight) (As := [vi a0]) (rest := rest) hd ok_X12_lastFlight im_X12_lastFlight se_X12_lastFlight hlink hroom hb kd_12 rfl rfl (fun v hv => by
    simp only [List.mem_cons, List.not_mem_nil, or_false] at hv
    rcases hv with rfl; first | rfl | (exact z_okRA (by assumption))) (Nat.le_of_ble_eq_true rfl) hrest rfl h
theorem iv_X12_isBehind {a0 : Int} {a1 : Int} {b : Nat} (hd : zD mt.1.2 pc (.invokevirtual idx) 3 pc') (hlink : Cond.methodLink mt.1.1.cls idx yX12_isBehind ∈ zTB) (hroom : 1 + 1 ≤ mt.2.2.2.1 ∧ 8 + (4 + 11) + 23 ≤ mt.2.2.2.2) (hb : zIs σ b (12, 0)) (hrest : (rest.map fun v => v.category).sum ≤ 8) (h : zC X m_X12_isBehind (.ref b :: [vi a0, vi a1]) σ (fun r σ1 => zE X mt pc' ls (r.toList ++ rest) σ1 Q)) : zE X mt pc ls (vi a1 :: vi a0 :: .ref b :: rest) σ Q :=
  e_invV (mz := m_X12_isBehind) (As := [vi a0, vi a1]) (rest := rest) hd ok_X12_isBehind im_X12_isBehind se_X12_isBehind hlink hroom hb kd_12 rfl rfl (fun v hv => by
    simp only [List.mem_cons, List.not_mem_nil, or_false] at hv
    rcases hv with rfl | rfl <;> first | rfl | (exact z_okRA (by assumption))) (Nat.le_of_ble_eq_true rfl) hrest rfl h
theorem iv_X12_isAway {a0 : Int} {b : Nat} (hd : zD mt.1.2 pc (.invokevirtual idx) 3 pc') (hlink : Cond.methodLink mt.1.1.cls idx yX12_isAway ∈ zTB) (hroom : 1 + 1 ≤ mt.2.2.2.1 ∧ 8 + (3 + 11) + 23 ≤ mt.2.2.2.2) (hb : zIs σ b (12, 0)) (hrest : (rest.map fun v => v.category).sum ≤ 8) (h : zC X m_X12_isAway (.ref b :: [vi a0]) σ (fun r σ1 => zE X mt pc' ls (r.toList ++ rest) σ1 Q)) : zE X mt pc ls (vi a0 :: .ref b :: rest) σ Q :=
  e_invV (mz := m_X12_isAway) (As := [vi a0]) (rest := rest) hd ok_X12_isAway im_X12_isAway se_X12_isAway hlink hroom hb kd_12 rfl rfl (fun v hv => by
    simp only [List.mem_cons, List.not_mem_nil, or_false] at hv
    rcases hv with rfl; first | rfl | (exact z_okRA (by assumption))) (Nat.le_of_ble_eq_true rfl) hrest rfl h
theorem iv_X12_flees {a0 : Int} {a1 : Int} {b : Nat} (hd : zD mt.1.2 pc (.invokevirtual idx) 3 pc') (hlink : Cond.methodLink mt.1.1.cls idx yX12_flees ∈ zTB) (hroom : 2 + 1 ≤ mt.2.2.2.1 ∧ 8 + (3 + 11) + 46 ≤ mt.2.2.2.2) (hb : zIs σ b (12, 0)) (hrest : (rest.map fun v => v.category).sum ≤ 8) (h : zC X m_X12_flees (.ref b :: [vi a0, vi a1]) σ (fun r σ1 => zE X mt pc' ls (r.toList ++ rest) σ1 Q)) : zE X mt pc ls (vi a1 :: vi a0 :: .ref b :: rest) σ Q :=
  e_invV (mz := m_X12_flees) (As := [vi a0, vi a1]) (rest := rest) hd ok_X12_flees im_X12_flees se_X12_flees hlink hroom hb kd_12 rfl rfl (fun v hv => by
    simp only [List.mem_cons, List.not_mem_nil, or_false] at hv
    rcases hv with rfl | rfl <;> first | rfl | (exact z_okRA (by assumption))) (Nat.le_of_ble_eq_true rfl) hrest rfl h
theorem iv_X12_back {a0 : Int} {a1 : Int} {b : Nat} (hd : zD mt.1.2 pc (.invokevirtual idx) 3 pc') (hlink : Cond.methodLink mt.1.1.cls idx yX12_back ∈ zTB) (hroom : 2 + 1 ≤ mt.2.2.2.1 ∧ 8 + (4 + 11) + 46 ≤ mt.2.2.2.2) (hb : zIs σ b (12, 0)) (hrest : (rest.map fun v => v.category).sum ≤ 8) (h : zC X m_X12_back (.ref b :: [vi a0, vi a1]) σ (fun r σ1 => zE X mt pc' ls (r.toList ++ rest) σ1 Q)) : zE X mt pc ls (vi a1 :: vi a0 :: .ref b :: rest) σ Q :=
  e_invV (mz := m_X12_back) (As := [vi a0, vi a1]) (rest := rest) hd ok_X12_back im_X12_back se_X12_back hlink hroom hb kd_12 rfl rfl (fun v hv => by
    simp only [List.mem_cons, List.not_mem_nil, or_false] at hv
    rcases hv with rfl | rfl <;> first | rfl | (exact z_okRA (by assumption))) (Nat.le_of_ble_eq_true rfl) hrest rfl h
theorem iv_X12_isThere {a0 : Int} {a1 : Int} {b : Nat} (hd : zD mt.1.2 pc (.invokevirtual idx) 3 pc') (hlink : Cond.methodLink mt.1.1.cls idx yX12_isThere ∈ zTB) (hroom : 0 + 1 ≤ mt.2.2.2.1 ∧ 8 + (4 + 11) + 0 ≤ mt.2.2.2.2) (hb : zIs σ b (12, 0)) (hrest : (rest.map fun v => v.category).sum ≤ 8) (h : zC X m_X12_isThere (.ref b :: [vi a0, vi a1]) σ (fun r σ1 => zE X mt pc' ls (r.toList ++ rest) σ1 Q)) : zE X mt pc ls (vi a1 :: vi a0 :: .ref b :: rest) σ Q :=
  e_invV (mz := m_X12_isThere) (As := [vi a0, vi a1]) (rest := rest) hd ok_X12_isThere im_X12_isThere se_X12_isThere hlink hroom hb kd_12 rfl rfl (fun v hv => by
    simp only [List.mem_cons, List.not_mem_nil, or_false] at hv
    rcases hv with rfl | rfl <;> first | rfl | (exact z_okRA (by assumption))) (Nat.le_of_ble_eq_true rfl) hrest rfl h
theorem iv_X12_there {a0 : Int} {a1 : Int} {b : Nat} (hd : zD mt.1.2 pc (.invokevirtual idx) 3 pc') (hlink : Cond.methodLink mt.1.1.cls idx yX12_there ∈ zTB) (hroom : 2 + 1 ≤ mt.2.2.2.1 ∧ 8 + (3 + 11) + 42 ≤ mt.2.2.2.2) (hb : zIs σ b (12, 0)) (hrest : (rest.map fun v => v.category).sum ≤ 8) (h : zC X m_X12_there (.ref b :: [vi a0, vi a1]) σ (fun r σ1 => zE X mt pc' ls (r.toList ++ rest) σ1 Q)) : zE X mt pc ls (vi a1 :: vi a0 :: .ref b :: rest) σ Q :=
  e_invV (mz := m_X12_there) (As := [vi a0, vi a1]) (rest := rest) hd ok_X12_there im_X12_there se_X12_there hlink hroom hb kd_12 rfl rfl (fun v hv => by
    simp only [List.mem_cons, List.not_mem_nil, or_false] at hv
    rcases hv with rfl | rfl <;> first | rfl | (exact z_okRA (by assumption))) (Nat.le_of_ble_eq_true rfl) hrest rfl h
theorem iv_X12_areKin {a0 : Int} {a1 : Int} {b : Nat} (hd : zD mt.1.2 pc (.invokevirtual idx) 3 pc') (hlink : Cond.methodLink mt.1.1.cls idx yX12_areKin ∈ zTB) (hroom : 0 + 1 ≤ mt.2.2.2.1 ∧ 8 + (3 + 11) + 0 ≤ mt.2.2.2.2) (hb : zIs σ b (12, 0)) (hrest : (rest.map fun v => v.category).sum ≤ 8) (h : zC X m_X12_areKin (.ref b :: [vi a0, vi a1]) σ (fun r σ1 => zE X mt pc' ls (r.toList ++ rest) σ1 Q)) : zE X mt pc ls (vi a1 :: vi a0 :: .ref b :: rest) σ Q :=
  e_invV (mz := m_X12_areKin) (As := [vi a0, vi a1]) (rest := rest) hd ok_X12_areKin im_X12_areKin se_X12_areKin hlink hroom hb kd_12 rfl rfl (fun v hv => by
    simp only [List.mem_cons, List.not_mem_nil, or_false] at hv
    rcases hv with rfl | rfl <;> first | rfl | (exact z_okRA (by assumption))) (Nat.le_of_ble_eq_true rfl) hrest rfl h
theorem iv_X12_kin {a0 : Int} {a1 : Int} {b : Nat} (hd : zD mt.1.2 pc (.invokevirtual idx) 3 pc') (hlink : Cond.methodLink mt.1.1.cls idx yX12_kin ∈ zTB) (hroom : 1 + 1 ≤ mt.2.2.2.1 ∧ 8 + (3 + 11) + 22 ≤ mt.2.2.2.2) (hb : zIs σ b (12, 0)) (hrest : (rest.map fun v => v.category).sum ≤ 8) (h : zC X m_X12_kin (.ref b :: [vi a0, vi a1]) σ (fun r σ1 => zE X mt pc' ls (r.toList ++ rest) σ1 Q)) : zE X mt pc ls (vi a1 :: vi a0 :: .ref b :: rest) σ Q :=
  e_invV (mz := m_X12_kin) (As := [vi a0, vi a1]) (rest := rest) hd ok_X12_kin im_X12_kin se_X12_kin hlink hroom hb kd_12 rfl rfl (fun v hv => by
    simp only [List.mem_cons, List.not_mem_nil, or_false] at hv
    rcases hv with rfl | rfl <;> first | rfl | (exact z_okRA (by assumption))) (Nat.le_of_ble_eq_true rfl) hrest rfl h
theorem iv_X12_type {a0 : Int64} {a1 : Int} {b : Nat} (hd : zD mt.1.2 pc (.invokevirtual idx) 3 pc') (hlink : Cond.methodLink mt.1.1.cls idx yX12_type ∈ zTB) (hroom : 1 + 1 ≤ mt.2.2.2.1 ∧ 8 + (5 + 11) + 22 ≤ mt.2.2.2.2) (hb : zIs σ b (12, 0)) (hrest : (rest.map fun v => v.category).sum ≤ 8) (h : zC X m_X12_type (.ref b :: [.long a0, vi a1]) σ (fun r σ1 => zE X mt pc' ls (r.toList ++ rest) σ1 Q)) : zE X mt pc ls (vi a1 :: .long a0 :: .ref b :: rest) σ Q :=
  e_invV (mz := m_X12_type) (As := [.long a0, vi a1]) (rest := rest) hd ok_X12_type im_X12_type se_X12_type hlink hroom hb kd_12 rfl rfl (fun v hv => by
    simp only [List.mem_cons, List.not_mem_nil, or_false] at hv
    rcases hv with rfl | rfl <;> first | rfl | (exact z_okRA (by assumption))) (Nat.le_of_ble_eq_true rfl) hrest rfl h
theorem iv_X12_skip {b : Nat} (hd : zD mt.1.2 pc (.invokevirtual idx) 3 pc') (hlink : Cond.methodLink mt.1.1.cls idx yX12_skip ∈ zTB) (hroom : 0 + 1 ≤ mt.2.2.2.1 ∧ 8 + (1 + 11) + 0 ≤ mt.2.2.2.2) (hb : zIs σ b (12, 0)) (hrest : (rest.map fun v => v.category).sum ≤ 8) (h : zC X m_X12_skip (.ref b :: []) σ (fun r σ1 => zE X mt pc' ls (r.toList ++ rest) σ1 Q)) : zE X mt pc ls (.ref b :: rest) σ Q :=
  e_invV (mz := m_X12_skip) (As := []) (rest := rest) hd ok_X12_skip im_X12_skip se_X12_skip hlink hroom hb kd_12 rfl rfl (fun v hv => by cases hv) (Nat.le_of_ble_eq_true rfl) hrest rfl h
theorem iv_X12_faultAt {a0 : Int} {b : Nat} (hd : zD mt.1.2 pc (.invokevirtual idx) 3 pc') (hlink : Cond.methodLink mt.1.1.cls idx yX12_faultAt ∈ zTB) (hroom : 0 + 1 ≤ mt.2.2.2.1 ∧ 8 + (2 + 11) + 0 ≤ mt.2.2.2.2) (hb : zIs σ b (12, 0)) (hrest : (rest.map fun v => v.category).sum ≤ 8) (h : zC X m_X12_faultAt (.ref b :: [vi a0]) σ (fun r σ1 => zE X mt pc' ls (r.toList ++ rest) σ1 Q)) : zE X mt pc ls (vi a0 :: .ref b :: rest) σ Q :=
  e_invV (mz := m_X12_faultAt) (As := [vi a0]) (rest := rest) hd ok_X12_faultAt im_X12_faultAt se_X12_faultAt hlink hroom hb kd_12 rfl rfl (fun v hv => by
    simp only [List.mem_cons, List.not_mem_nil, or_false] at hv
    rcases hv with rfl; first | rfl | (exact z_okRA (by assumption))) (Nat.le_of_ble_eq_true rfl) hrest rfl h
theorem iv_X12_readNumber {b : Nat} (hd : zD mt.1.2 pc (.invokevirtual idx) 3 pc') (hlink : Cond.methodLink mt.1.1.cls idx yX12_readNumber ∈ zTB) (hroom : 1 + 1 ≤ mt.2.2.2.1 ∧ 8 + (1 + 11) + 22 ≤ mt.2.2.2.2) (hb : zIs σ b (12, 0)) (hrest : (rest.map fun v => v.category).sum ≤ 8) (h : zC X m_X12_readNumber (.ref b :: []) σ (fun r σ1 => zE X mt pc' ls (r.toList ++ rest) σ1 Q)) : zE X mt pc ls (.ref b :: rest) σ Q :=
  e_invV (mz := m_X12_readNumber) (As := []) (rest := rest) hd ok_X12_readNumber im_X12_readNumber se_X12_readNumber hlink hroom hb kd_12 rfl rfl (fun v hv => by cases hv) (Nat.le_of_ble_eq_true rfl) hrest rfl h
theorem iv_X12_readByte {a0 : Int} {b : Nat} (hd : zD mt.1.2 pc (.invokevirtual idx) 3 pc') (hlink : Cond.methodLink mt.1.1.cls idx yX12_readByte ∈ zTB) (hroom : 1 + 1 ≤ mt.2.2.2.1 ∧ 8 + (2 + 11) + 21 ≤ mt.2.2.2.2) (hb : zIs σ b (12, 0)) (hrest : (rest.map fun v => v.category).sum ≤ 8) (h : zC X m_X12_readByte (.ref b :: [vi a0]) σ (fun r σ1 => zE X mt pc' ls (r.toList ++ rest) σ1 Q)) : zE X mt pc ls (vi a0 :: .ref b :: rest) σ Q :=
  e_invV (mz := m_X12_readByte) (As := [vi a0]) (rest := rest) hd ok_X12_readByte im_X12_readByte se_X12_readByte hlink hroom hb kd_12 rfl rfl (fun v hv => by
    simp only [List.mem_cons, List.not_mem_nil, or_false] at hv
    rcases hv with rfl; first | rfl | (exact z_okRA (by assumption))) (Nat.le_of_ble_eq_true rfl) hrest rfl h
theorem iv_X12_kindOf {a0 : Int} (hd : zD mt.1.2 pc (.invokestatic idx) 3 pc') (hlink : Cond.methodLink mt.1.1.cls idx yX12_kindOf ∈ zTB) (hroom : 0 + 1 ≤ mt.2.2.2.1 ∧ 8 + (1 + 11) + 0 ≤ mt.2.2.2.2) (hrest : (rest.map fun v => v.category).sum ≤ 8) (h : zC X m_X12_kindOf [vi a0] σ (fun r σ1 => zE X mt pc' ls (r.toList ++ rest) σ1 Q)) : zE X mt pc ls (vi a0 :: rest) σ Q :=
  e_invS (mz := m_X12_kindOf) (As := [vi a0]) (rest := rest) hd ok_X12_kindOf ss_X12_kindOf hlink hroom rfl (fun v hv => by
    simp only [List.mem_cons, List.not_mem_nil, or_false] at hv
    rcases hv with rfl; first | rfl | (exact z_okRA (by assumption))) (Nat.le_of_ble_eq_true rfl) hrest rfl h
theorem iv_X12_readClause {b : Nat} (hd : zD mt.1.2 pc (.invokevirtual idx) 3 pc') (hlink : Cond.methodLink mt.1.1.cls idx yX12_readClause ∈ zTB) (hroom : 2 + 1 ≤ mt.2.2.2.1 ∧ 8 + (3 + 11) + 42 ≤ mt.2.2.2.2) (hb : zIs σ b (12, 0)) (hrest : (rest.map fun v => v.category).sum ≤ 8) (h : zC X m_X12_readClause (.ref b :: []) σ (fun r σ1 => zE X mt pc' ls (r.toList ++ rest) σ1 Q)) : zE X mt pc ls (.ref b :: rest) σ Q :=
  e_invV (mz := m_X12_readClause) (As := []) (rest := rest) hd ok_X12_readClause im_X12_readClause se_X12_readClause hlink hroom hb kd_12 rfl rfl (fun v hv => by cases hv) (Nat.le_of_ble_eq_true rfl) hrest rfl h
theorem iv_X12_laws {b : Nat} (hd : zD mt.1.2 pc (.invokevirtual idx) 3 pc') (hlink : Cond.methodLink mt.1.1.cls idx yX12_laws ∈ zTB) (hroom : 3 + 1 ≤ mt.2.2.2.1 ∧ 8 + (4 + 11) + 64 ≤ mt.2.2.2.2) (hb : zIs σ b (12, 0)) (hrest : (rest.map fun v => v.category).sum ≤ 8) (h : zC X m_X12_laws (.ref b :: []) σ (fun r σ1 => zE X mt pc' ls (r.toList ++ rest) σ1 Q)) : zE X mt pc ls (.ref b :: rest) σ Q :=
  e_invV (mz := m_X12_laws) (As := []) (rest := rest) hd ok_X12_laws im_X12_laws se_X12_laws hlink hroom hb kd_12 rfl rfl (fun v hv => by cases hv) (Nat.le_of_ble_eq_true rfl) hrest rfl h
theorem iv_X12_mustBe {a0 : Int} {a1 : Int} {b : Nat} (hd : zD mt.1.2 pc (.invokevirtual idx) 3 pc') (hlink : Cond.methodLink mt.1.1.cls idx yX12_mustBe ∈ zTB) (hroom : 1 + 1 ≤ mt.2.2.2.1 ∧ 8 + (3 + 11) + 23 ≤ mt.2.2.2.2) (hb : zIs σ b (12, 0)) (hrest : (rest.map fun v => v.category).sum ≤ 8) (h : zC X m_X12_mustBe (.ref b :: [vi a0, vi a1]) σ (fun r σ1 => zE X mt pc' ls (r.toList ++ rest) σ1 Q)) : zE X mt pc ls (vi a1 :: vi a0 :: .ref b :: rest) σ Q :=
  e_invV (mz := m_X12_mustBe) (As := [vi a0, vi a1]) (rest := rest) hd ok_X12_mustBe im_X12_mustBe se_X12_mustBe hlink hroom hb kd_12 rfl rfl (fun v hv => by
    simp only [List.mem_cons, List.not_mem_nil, or_false] at hv
    rcases hv with rfl | rfl <;> first | rfl | (exact z_okRA (by assumption))) (Nat.le_of_ble_eq_true rfl) hrest rfl h
theorem iv_X12_must {a0 : Int} {a1 : Int} {b : Nat} (hd : zD mt.1.2 pc (.invokevirtual idx) 3 pc') (hlink : Cond.methodLink mt.1.1.cls idx yX12_must ∈ zTB) (hroom : 2 + 1 ≤ mt.2.2.2.1 ∧ 8 + (3 + 11) + 45 ≤ mt.2.2.2.2) (hb : zIs σ b (12, 0)) (hrest : (rest.map fun v => v.category).sum ≤ 8) (h : zC X m_X12_must (.ref b :: [vi a0, vi a1]) σ (fun r σ1 => zE X mt pc' ls (r.toList ++ rest) σ1 Q)) : zE X mt pc ls (vi a1 :: vi a0 :: .ref b :: rest) σ Q :=
  e_invV (mz := m_X12_must) (As := [vi a0, vi a1]) (rest := rest) hd ok_X12_must im_X12_must se_X12_must hlink hroom hb kd_12 rfl rfl (fun v hv => by
    simp only [List.mem_cons, List.not_mem_nil, or_false] at hv
    rcases hv with rfl | rfl <;> first | rfl | (exact z_okRA (by assumption))) (Nat.le_of_ble_eq_true rfl) hrest rfl h
theorem iv_X12_fair {a0 : Int} {a1 : Int} {b : Nat} (hd : zD mt.1.2 pc (.invokevirtual idx) 3 pc') (hlink : Cond.methodLink mt.1.1.cls idx yX12_fair ∈ zTB) (hroom : 2 + 1 ≤ mt.2.2.2.1 ∧ 8 + (3 + 11) + 42 ≤ mt.2.2.2.2) (hb : zIs σ b (12, 0)) (hrest : (rest.map fun v => v.category).sum ≤ 8) (h : zC X m_X12_fair (.ref b :: [vi a0, vi a1]) σ (fun r σ1 => zE X mt pc' ls (r.toList ++ rest) σ1 Q)) : zE X mt pc ls (vi a1 :: vi a0 :: .ref b :: rest) σ Q :=
  e_invV (mz := m_X12_fair) (As := [vi a0, vi a1]) (rest := rest) hd ok_X12_fair im_X12_fair se_X12_fair hlink hroom hb kd_12 rfl rfl (fun v hv => by
    simp only [List.mem_cons, List.not_mem_nil, or_false] at hv
    rcases hv with rfl | rfl <;> first | rfl | (exact z_okRA (by assumption))) (Nat.le_of_ble_eq_true rfl) hrest rfl h
theorem iv_X12_isFair {a0 : Int} {b : Nat} (hd : zD mt.1.2 pc (.invokevirtual idx) 3 pc') (hlink : Cond.methodLink mt.1.1.cls idx yX12_isFair ∈ zTB) (hroom : 1 + 1 ≤ mt.2.2.2.1 ∧ 8 + (3 + 11) + 22 ≤ mt.2.2.2.2) (hb : zIs σ b (12, 0)) (hrest : (rest.map fun v => v.category).sum ≤ 8) (h : zC X m_X12_isFair (.ref b :: [vi a0]) σ (fun r σ1 => zE X mt pc' ls (r.toList ++ rest) σ1 Q)) : zE X mt pc ls (vi a0 :: .ref b :: rest) σ Q :=
  e_invV (mz := m_X12_isFair) (As := [vi a0]) (rest := rest) hd ok_X12_isFair im_X12_isFair se_X12_isFair hlink hroom hb kd_12 rfl rfl (fun v hv => by
    simp only [List.mem_cons, List.not_mem_nil, or_false] at hv
    rcases hv with rfl; first | rfl | (exact z_okRA (by assumption))) (Nat.le_of_ble_eq_true rfl) hrest rfl h
theorem iv_X12_isGroup {a0 : Int} {b : Nat} (hd : zD mt.1.2 pc (.invokevirtual idx) 3 pc') (hlink : Cond.methodLink mt.1.1.cls idx yX12_isGroup ∈ zTB) (hroom : 0 + 1 ≤ mt.2.2.2.1 ∧ 8 + (2 + 11) + 0 ≤ mt.2.2.2.2) (hb : zIs σ b (12, 0)) (hrest : (rest.map fun v => v.category).sum ≤ 8) (h : zC X m_X12_isGroup (.ref b :: [vi a0]) σ (fun r σ1 => zE X mt pc' ls (r.toList ++ rest) σ1 Q)) : zE X mt pc ls (vi a0 :: .ref b :: rest) σ Q :=
  e_invV (mz := m_X12_isGroup) (As := [vi a0]) (rest := rest) hd ok_X12_isGroup im_X12_isGroup se_X12_isGroup hlink hroom hb kd_12 rfl rfl (fun v hv => by
    simp only [List.mem_cons, List.not_mem_nil, or_false] at hv
    rcases hv with rfl; first | rfl | (exact z_okRA (by assumption))) (Nat.le_of_ble_eq_true rfl) hrest rfl h
theorem iv_X12_group {a0 : Int} {b : Nat} (hd : zD mt.1.2 pc (.invokevirtual idx) 3 pc') (hlink : Cond.methodLink mt.1.1.cls idx yX12_group ∈ zTB) (hroom : 1 + 1 ≤ mt.2.2.2.1 ∧ 8 + (2 + 11) + 22 ≤ mt.2.2.2.2) (hb : zIs σ b (12, 0)) (hrest : (rest.map fun v => v.category).sum ≤ 8) (h : zC X m_X12_group (.ref b :: [vi a0]) σ (fun r σ1 => zE X mt pc' ls (r.toList ++ rest) σ1 Q)) : zE X mt pc ls (vi a0 :: .ref b :: rest) σ Q :=
  e_invV (mz := m_X12_group) (As := [vi a0]) (rest := rest) hd ok_X12_group im_X12_group se_X12_group hlink hroom hb kd_12 rfl rfl (fun v hv => by
    simp only [List.mem_cons, List.not_mem_nil, or_false] at hv
    rcases hv with rfl; first | rfl | (exact z_okRA (by assumption))) (Nat.le_of_ble_eq_true rfl) hrest rfl h
theorem iv_X12_spellAt {a0 : Int} {a1 : Int} {b : Nat} (hd : zD mt.1.2 pc (.invokevirtual idx) 3 pc') (hlink : Cond.methodLink mt.1.1.cls idx yX12_spellAt ∈ zTB) (hroom : 1 + 1 ≤ mt.2.2.2.1 ∧ 8 + (4 + 11) + 23 ≤ mt.2.2.2.2) (hb : zIs σ b (12, 0)) (hrest : (rest.map fun v => v.category).sum ≤ 8) (h : zC X m_X12_spellAt (.ref b :: [vi a0, vi a1]) σ (fun r σ1 => zE X mt pc' ls (r.toList ++ rest) σ1 Q)) : zE X mt pc ls (vi a1 :: vi a0 :: .ref b :: rest) σ Q :=
  e_invV (mz := m_X12_spellAt) (As := [vi a0, vi a1]) (rest := rest) hd ok_X12_spellAt im_X12_spellAt se_X12_spellAt hlink hroom hb kd_12 rfl rfl (fun v hv => by
    simp only [List.mem_cons, List.not_mem_nil, or_false] at hv
    rcases hv with rfl | rfl <;> first | rfl | (exact z_okRA (by assumption))) (Nat.le_of_ble_eq_true rfl) hrest rfl h
theorem iv_X12_isMember {a0 : Int} {a1 : Int} {a2 : Int} {b : Nat} (hd : zD mt.1.2 pc (.invokevirtual idx) 3 pc') (hlink : Cond.methodLink mt.1.1.cls idx yX12_isMember ∈ zTB) (hroom : 2 + 1 ≤ mt.2.2.2.1 ∧ 8 + (5 + 11) + 46 ≤ mt.2.2.2.2) (hb : zIs σ b (12, 0)) (hrest : (rest.map fun v => v.category).sum ≤ 8) (h : zC X m_X12_isMember (.ref b :: [vi a0, vi a1, vi a2]) σ (fun r σ1 => zE X mt pc' ls (r.toList ++ rest) σ1 Q)) : zE X mt pc ls (vi a2 :: vi a1 :: vi a0 :: .ref b :: rest) σ Q :=
  e_invV (mz := m_X12_isMember) (As := [vi a0, vi a1, vi a2]) (rest := rest) hd ok_X12_isMember im_X12_isMember se_X12_isMember hlink hroom hb kd_12 rfl rfl (fun v hv => by
    simp only [List.mem_cons, List.not_mem_nil, or_false] at hv
    rcases hv with rfl | rfl | rfl <;> first | rfl | (exact z_okRA (by assumption))) (Nat.le_of_ble_eq_true rfl) hrest rfl h
theorem iv_X12_membersOf {a0 : Int} {a1 : Int} {b : Nat} (hd : zD mt.1.2 pc (.invokevirtual idx) 3 pc') (hlink : Cond.methodLink mt.1.1.cls idx yX12_membersOf ∈ zTB) (hroom : 3 + 1 ≤ mt.2.2.2.1 ∧ 8 + (5 + 11) + 70 ≤ mt.2.2.2.2) (hb : zIs σ b (12, 0)) (hrest : (rest.map fun v => v.category).sum ≤ 8) (h : zC X m_X12_membersOf (.ref b :: [vi a0, vi a1]) σ (fun r σ1 => zE X mt pc' ls (r.toList ++ rest) σ1 Q)) : zE X mt pc ls (vi a1 :: vi a0 :: .ref b :: rest) σ Q :=
  e_invV (mz := m_X12_membersOf) (As := [vi a0, vi a1]) (rest := rest) hd ok_X12_membersOf im_X12_membersOf se_X12_membersOf hlink hroom hb kd_12 rfl rfl (fun v hv => by
    simp only [List.mem_cons, List.not_mem_nil, or_false] at hv
    rcases hv with rfl | rfl <;> first | rfl | (exact z_okRA (by assumption))) (Nat.le_of_ble_eq_true rfl) hrest rfl h
theorem iv_X12_isBound {a0 : Int} {a1 : Int} {b : Nat} (hd : zD mt.1.2 pc (.invokevirtual idx) 3 pc') (hlink : Cond.methodLink mt.1.1.cls idx yX12_isBound ∈ zTB) (hroom : 0 + 1 ≤ mt.2.2.2.1 ∧ 8 + (4 + 11) + 0 ≤ mt.2.2.2.2) (hb : zIs σ b (12, 0)) (hrest : (rest.map fun v => v.category).sum ≤ 8) (h : zC X m_X12_isBound (.ref b :: [vi a0, vi a1]) σ (fun r σ1 => zE X mt pc' ls (r.toList ++ rest) σ1 Q)) : zE X mt pc ls (vi a1 :: vi a0 :: .ref b :: rest) σ Q :=
  e_invV (mz := m_X12_isBound) (As := [vi a0, vi a1]) (rest := rest) hd ok_X12_isBound im_X12_isBound se_X12_isBound hlink hroom hb kd_12 rfl rfl (fun v hv => by
    simp only [List.mem_cons, List.not_mem_nil, or_false] at hv
    rcases hv with rfl | rfl <;> first | rfl | (exact z_okRA (by assumption))) (Nat.le_of_ble_eq_true rfl) hrest rfl h
theorem iv_X12_begin {a0 : Int} {a1 : Int} {a2 : Int} {b : Nat} (hd : zD mt.1.2 pc (.invokevirtual idx) 3 pc') (hlink : Cond.methodLink mt.1.1.cls idx yX12_begin ∈ zTB) (hroom : 0 + 1 ≤ mt.2.2.2.1 ∧ 8 + (4 + 11) + 0 ≤ mt.2.2.2.2) (hb : zIs σ b (12, 0)) (hrest : (rest.map fun v => v.category).sum ≤ 8) (h : zC X m_X12_begin (.ref b :: [vi a0, vi a1, vi a2]) σ (fun r σ1 => zE X mt pc' ls (r.toList ++ rest) σ1 Q)) : zE X mt pc ls (vi a2 :: vi a1 :: vi a0 :: .ref b :: rest) σ Q :=
  e_invV (mz := m_X12_begin) (As := [vi a0, vi a1, vi a2]) (rest := rest) hd ok_X12_begin im_X12_begin se_X12_begin hlink hroom hb kd_12 rfl rfl (fun v hv => by
    simp only [List.mem_cons, List.not_mem_nil, or_false] at hv
    rcases hv with rfl | rfl | rfl <;> first | rfl | (exact z_okRA (by assumption))) (Nat.le_of_ble_eq_true rfl) hrest rfl h
theorem iv_X12_joins {a0 : Int} {a1 : Int} {a2 : Int} {b : Nat} (hd : zD mt.1.2 pc (.invokevirtual idx) 3 pc') (hlink : Cond.methodLink mt.1.1.cls idx yX12_joins ∈ zTB) (hroom : 4 + 1 ≤ mt.2.2.2.1 ∧ 8 + (4 + 11) + 94 ≤ mt.2.2.2.2) (hb : zIs σ b (12, 0)) (hrest : (rest.map fun v => v.category).sum ≤ 8) (h : zC X m_X12_joins (.ref b :: [vi a0, vi a1, vi a2]) σ (fun r σ1 => zE X mt pc' ls (r.toList ++ rest) σ1 Q)) : zE X mt pc ls (vi a2 :: vi a1 :: vi a0 :: .ref b :: rest) σ Q :=
  e_invV (mz := m_X12_joins) (As := [vi a0, vi a1, vi a2]) (rest := rest) hd ok_X12_joins im_X12_joins se_X12_joins hlink hroom hb kd_12 rfl rfl (fun v hv => by
    simp only [List.mem_cons, List.not_mem_nil, or_false] at hv
    rcases hv with rfl | rfl | rfl <;> first | rfl | (exact z_okRA (by assumption))) (Nat.le_of_ble_eq_true rfl) hrest rfl h
theorem iv_X12_leaves {a0 : Int} {a1 : Int} {b : Nat} (hd : zD mt.1.2 pc (.invokevirtual idx) 3 pc') (hlink : Cond.methodLink mt.1.1.cls idx yX12_leaves ∈ zTB) (hroom : 2 + 1 ≤ mt.2.2.2.1 ∧ 8 + (4 + 11) + 42 ≤ mt.2.2.2.2) (hb : zIs σ b (12, 0)) (hrest : (rest.map fun v => v.category).sum ≤ 8) (h : zC X m_X12_leaves (.ref b :: [vi a0, vi a1]) σ (fun r σ1 => zE X mt pc' ls (r.toList ++ rest) σ1 Q)) : zE X mt pc ls (vi a1 :: vi a0 :: .ref b :: rest) σ Q :=
  e_invV (mz := m_X12_leaves) (As := [vi a0, vi a1]) (rest := rest) hd ok_X12_leaves im_X12_leaves se_X12_leaves hlink hroom hb kd_12 rfl rfl (fun v hv => by
    simp only [List.mem_cons, List.not_mem_nil, or_false] at hv
    rcases hv with rfl | rfl <;> first | rfl | (exact z_okRA (by assumption))) (Nat.le_of_ble_eq_true rfl) hrest rfl h
theorem iv_X12_groupOf {a0 : Int} {a1 : Int} {b : Nat} (hd : zD mt.1.2 pc (.invokevirtual idx) 3 pc') (hlink : Cond.methodLink mt.1.1.cls idx yX12_groupOf ∈ zTB) (hroom : 2 + 1 ≤ mt.2.2.2.1 ∧ 8 + (4 + 11) + 46 ≤ mt.2.2.2.2) (hb : zIs σ b (12, 0)) (hrest : (rest.map fun v => v.category).sum ≤ 8) (h : zC X m_X12_groupOf (.ref b :: [vi a0, vi a1]) σ (fun r σ1 => zE X mt pc' ls (r.toList ++ rest) σ1 Q)) : zE X mt pc ls (vi a1 :: vi a0 :: .ref b :: rest) σ Q :=
  e_invV (mz := m_X12_groupOf) (As := [vi a0, vi a1]) (rest := rest) hd ok_X12_groupOf im_X12_groupOf se_X12_groupOf hlink hroom hb kd_12 rfl rfl (fun v hv => by
    simp only [List.mem_cons, List.not_mem_nil, or_false] at hv
    rcases hv with rfl | rfl <;> first | rfl | (exact z_okRA (by assumption))) (Nat.le_of_ble_eq_true rfl) hrest rfl h
theorem iv_X12_members {a0 : Int} {a1 : Int} {b : Nat} (hd : zD mt.1.2 pc (.invokevirtual idx) 3 pc') (hlink : Cond.methodLink mt.1.1.cls idx yX12_members ∈ zTB) (hroom : 4 + 1 ≤ mt.2.2.2.1 ∧ 8 + (3 + 11) + 94 ≤ mt.2.2.2.2) (hb : zIs σ b (12, 0)) (hrest : (rest.map fun v => v.category).sum ≤ 8) (h : zC X m_X12_members (.ref b :: [vi a0, vi a1]) σ (fun r σ1 => zE X mt pc' ls (r.toList ++ rest) σ1 Q)) : zE X mt pc ls (vi a1 :: vi a0 :: .ref b :: rest) σ Q :=
  e_invV (mz := m_X12_members) (As := [vi a0, vi a1]) (rest := rest) hd ok_X12_members im_X12_members se_X12_members hlink hroom hb kd_12 rfl rfl (fun v hv => by
    simp only [List.mem_cons, List.not_mem_nil, or_false] at hv
    rcases hv with rfl | rfl <;> first | rfl | (exact z_okRA (by assumption))) (Nat.le_of_ble_eq_true rfl) hrest rfl h
theorem iv_X12_head {a0 : Int} {a1 : Int} {b : Nat} (hd : zD mt.1.2 pc (.invokevirtual idx) 3 pc') (hlink : Cond.methodLink mt.1.1.cls idx yX12_head ∈ zTB) (hroom : 2 + 1 ≤ mt.2.2.2.1 ∧ 8 + (7 + 11) + 46 ≤ mt.2.2.2.2) (hb : zIs σ b (12, 0)) (hrest : (rest.map fun v => v.category).sum ≤ 8) (h : zC X m_X12_head (.ref b :: [vi a0, vi a1]) σ (fun r σ1 => zE X mt pc' ls (r.toList ++ rest) σ1 Q)) : zE X mt pc ls (vi a1 :: vi a0 :: .ref b :: rest) σ Q :=
  e_invV (mz := m_X12_head) (As := [vi a0, vi a1]) (rest := rest) hd ok_X12_head im_X12_head se_X12_head hlink hroom hb kd_12 rfl rfl (fun v hv => by
    simp only [List.mem_cons, List.not_mem_nil, or_false] at hv
    rcases hv with rfl | rfl <;> first | rfl | (exact z_okRA (by assumption))) (Nat.le_of_ble_eq_true rfl) hrest rfl h
theorem iv_X12_isWant {a0 : Int} {a1 : Int} {a2 : Int} {b : Nat} (hd : zD mt.1.2 pc (.invokevirtual idx) 3 pc') (hlink : Cond.methodLink mt.1.1.cls idx yX12_isWant ∈ zTB) (hroom : 2 + 1 ≤ mt.2.2.2.1 ∧ 8 + (5 + 11) + 46 ≤ mt.2.2.2.2) (hb : zIs σ b (12, 0)) (hrest : (rest.map fun v => v.category).sum ≤ 8) (h : zC X m_X12_isWant (.ref b :: [vi a0, vi a1, vi a2]) σ (fun r σ1 => zE X mt pc' ls (r.toList ++ rest) σ1 Q)) : zE X mt pc ls (vi a2 :: vi a1 :: vi a0 :: .ref b :: rest) σ Q :=
  e_invV (mz := m_X12_isWant) (As := [vi a0, vi a1, vi a2]) (rest := rest) hd ok_X12_isWant im_X12_isWant se_X12_isWant hlink hroom hb kd_12 rfl rfl (fun v hv => by
    simp only [List.mem_cons, List.not_mem_nil, or_false] at hv
    rcases hv with rfl | rfl | rfl <;> first | rfl | (exact z_okRA (by assumption))) (Nat.le_of_ble_eq_true rfl) hrest rfl h
theorem iv_X12_wants {a0 : Int} {a1 : Int} {b : Nat} (hd : zD mt.1.2 pc (.invokevirtual idx) 3 pc') (hlink : Cond.methodLink mt.1.1.cls idx yX12_wants ∈ zTB) (hroom : 3 + 1 ≤ mt.2.2.2.1 ∧ 8 + (5 + 11) + 70 ≤ mt.2.2.2.2) (hb : zIs σ b (12, 0)) (hrest : (rest.map fun v => v.category).sum ≤ 8) (h : zC X m_X12_wants (.ref b :: [vi a0, vi a1]) σ (fun r σ1 => zE X mt pc' ls (r.toList ++ rest) σ1 Q)) : zE X mt pc ls (vi a1 :: vi a0 :: .ref b :: rest) σ Q :=
  e_invV (mz := m_X12_wants) (As := [vi a0, vi a1]) (rest := rest) hd ok_X12_wants im_X12_wants se_X12_wants hlink hroom hb kd_12 rfl rfl (fun v hv => by
    simp only [List.mem_cons, List.not_mem_nil, or_false] at hv
    rcases hv with rfl | rfl <;> first | rfl | (exact z_okRA (by assumption))) (Nat.le_of_ble_eq_true rfl) hrest rfl h
theorem iv_X12_wantsAt {a0 : Int} {a1 : Int} {a2 : Int} {b : Nat} (hd : zD mt.1.2 pc (.invokevirtual idx) 3 pc') (hlink : Cond.methodLink mt.1.1.cls idx yX12_wantsAt ∈ zTB) (hroom : 3 + 1 ≤ mt.2.2.2.1 ∧ 8 + (6 + 11) + 70 ≤ mt.2.2.2.2) (hb : zIs σ b (12, 0)) (hrest : (rest.map fun v => v.category).sum ≤ 8) (h : zC X m_X12_wantsAt (.ref b :: [vi a0, vi a1, vi a2]) σ (fun r σ1 => zE X mt pc' ls (r.toList ++ rest) σ1 Q)) : zE X mt pc ls (vi a2 :: vi a1 :: vi a0 :: .ref b :: rest) σ Q :=
  e_invV (mz := m_X12_wantsAt) (As := [vi a0, vi a1, vi a2]) (rest := rest) hd ok_X12_wantsAt im_X12_wantsAt se_X12_wantsAt hlink hroom hb kd_12 rfl rfl (fun v hv => by
    simp only [List.mem_cons, List.not_mem_nil, or_false] at hv
    rcases hv with rfl | rfl | rfl <;> first | rfl | (exact z_okRA (by assumption))) (Nat.le_of_ble_eq_true rfl) hrest rfl h
theorem iv_X12_stay {a0 : Int} {a1 : Int} {a2 : Int} {a3 : Int} {b : Nat} (hd : zD mt.1.2 pc (.invokevirtual idx) 3 pc') (hlink : Cond.methodLink mt.1.1.cls idx yX12_stay ∈ zTB) (hroom : 2 + 1 ≤ mt.2.2.2.1 ∧ 8 + (6 + 11) + 42 ≤ mt.2.2.2.2) (hb : zIs σ b (12, 0)) (hrest : (rest.map fun v => v.category).sum ≤ 8) (h : zC X m_X12_stay (.ref b :: [vi a0, vi a1, vi a2, vi a3]) σ (fun r σ1 => zE X mt pc' ls (r.toList ++ rest) σ1 Q)) : zE X mt pc ls (vi a3 :: vi a2 :: vi a1 :: vi a0 :: .ref b :: rest) σ Q :=
  e_invV (mz := m_X12_stay) (As := [vi a0, vi a1, vi a2, vi a3]) (rest := rest) hd ok_X12_stay im_X12_stay se_X12_stay hlink hroom hb kd_12 rfl rfl (fun v hv => by
    simp only [List.mem_cons, List.not_mem_nil, or_false] at hv
    rcases hv with rfl | rfl | rfl | rfl <;> first | rfl | (exact z_okRA (by assumption))) (Nat.le_of_ble_eq_true rfl) hrest rfl h
theorem iv_X12_nightsOf {a0 : Int} {a1 : Int} {b : Nat} (hd : zD mt.1.2 pc (.invokevirtual idx) 3 pc') (hlink : Cond.methodLink mt.1.1.cls idx yX12_nightsOf ∈ zTB) (hroom : 2 + 1 ≤ mt.2.2.2.1 ∧ 8 + (5 + 11) + 44 ≤ mt.2.2.2.2) (hb : zIs σ b (12, 0)) (hrest : (rest.map fun v => v.category).sum ≤ 8) (h : zC X m_X12_nightsOf (.ref b :: [vi a0, vi a1]) σ (fun r σ1 => zE X mt pc' ls (r.toList ++ rest) σ1 Q)) : zE X mt pc ls (vi a1 :: vi a0 :: .ref b :: rest) σ Q :=
  e_invV (mz := m_X12_nightsOf) (As := [vi a0, vi a1]) (rest := rest) hd ok_X12_nightsOf im_X12_nightsOf se_X12_nightsOf hlink hroom hb kd_12 rfl rfl (fun v hv => by
    simp only [List.mem_cons, List.not_mem_nil, or_false] at hv
    rcases hv with rfl | rfl <;> first | rfl | (exact z_okRA (by assumption))) (Nat.le_of_ble_eq_true rfl) hrest rfl h
theorem iv_X12_groupOfHouse {a0 : Int} {a1 : Int} {b : Nat} (hd : zD mt.1.2 pc (.invokevirtual idx) 3 pc') (hlink : Cond.methodLink mt.1.1.cls idx yX12_groupOfHouse ∈ zTB) (hroom : 2 + 1 ≤ mt.2.2.2.1 ∧ 8 + (5 + 11) + 46 ≤ mt.2.2.2.2) (hb : zIs σ b (12, 0)) (hrest : (rest.map fun v => v.category).sum ≤ 8) (h : zC X m_X12_groupOfHouse (.ref b :: [vi a0, vi a1]) σ (fun r σ1 => zE X mt pc' ls (r.toList ++ rest) σ1 Q)) : zE X mt pc ls (vi a1 :: vi a0 :: .ref b :: rest) σ Q :=
  e_invV (mz := m_X12_groupOfHouse) (As := [vi a0, vi a1]) (rest := rest) hd ok_X12_groupOfHouse im_X12_groupOfHouse se_X12_groupOfHouse hlink hroom hb kd_12 rfl rfl (fun v hv => by
    simp only [List.mem_cons, List.not_mem_nil, or_false] at hv
    rcases hv with rfl | rfl <;> first | rfl | (exact z_okRA (by assumption))) (Nat.le_of_ble_eq_true rfl) hrest rfl h
theorem iv_X12_chargedFor {a0 : Int} {a1 : Int} {b : Nat} (hd : zD mt.1.2 pc (.invokevirtual idx) 3 pc') (hlink : Cond.methodLink mt.1.1.cls idx yX12_chargedFor ∈ zTB) (hroom : 3 + 1 ≤ mt.2.2.2.1 ∧ 8 + (4 + 11) + 70 ≤ mt.2.2.2.2) (hb : zIs σ b (12, 0)) (hrest : (rest.map fun v => v.category).sum ≤ 8) (h : zC X m_X12_chargedFor (.ref b :: [vi a0, vi a1]) σ (fun r σ1 => zE X mt pc' ls (r.toList ++ rest) σ1 Q)) : zE X mt pc ls (vi a1 :: vi a0 :: .ref b :: rest) σ Q :=
  e_invV (mz := m_X12_chargedFor) (As := [vi a0, vi a1]) (rest := rest) hd ok_X12_chargedFor im_X12_chargedFor se_X12_chargedFor hlink hroom hb kd_12 rfl rfl (fun v hv => by
    simp only [List.mem_cons, List.not_mem_nil, or_false] at hv
    rcases hv with rfl | rfl <;> first | rfl | (exact z_okRA (by assumption))) (Nat.le_of_ble_eq_true rfl) hrest rfl h
theorem iv_X12_charged {a0 : Int} {a1 : Int} {b : Nat} (hd : zD mt.1.2 pc (.invokevirtual idx) 3 pc') (hlink : Cond.methodLink mt.1.1.cls idx yX12_charged ∈ zTB) (hroom : 4 + 1 ≤ mt.2.2.2.1 ∧ 8 + (3 + 11) + 93 ≤ mt.2.2.2.2) (hb : zIs σ b (12, 0)) (hrest : (rest.map fun v => v.category).sum ≤ 8) (h : zC X m_X12_charged (.ref b :: [vi a0, vi a1]) σ (fun r σ1 => zE X mt pc' ls (r.toList ++ rest) σ1 Q)) : zE X mt pc ls (vi a1 :: vi a0 :: .ref b :: rest) σ Q :=
  e_invV (mz := m_X12_charged) (As := [vi a0, vi a1]) (rest := rest) hd ok_X12_charged im_X12_charged se_X12_charged hlink hroom hb kd_12 rfl rfl (fun v hv => by
    simp only [List.mem_cons, List.not_mem_nil, or_false] at hv
    rcases hv with rfl | rfl <;> first | rfl | (exact z_okRA (by assumption))) (Nat.le_of_ble_eq_true rfl) hrest rfl h
theorem iv_X12_isComer {a0 : Int} {a1 : Int} {b : Nat} (hd : zD mt.1.2 pc (.invokevirtual idx) 3 pc') (hlink : Cond.methodLink mt.1.1.cls idx yX12_isComer ∈ zTB) (hroom : 3 + 1 ≤ mt.2.2.2.1 ∧ 8 + (3 + 11) + 70 ≤ mt.2.2.2.2) (hb : zIs σ b (12, 0)) (hrest : (rest.map fun v => v.category).sum ≤ 8) (h : zC X m_X12_isComer (.ref b :: [vi a0, vi a1]) σ (fun r σ1 => zE X mt pc' ls (r.toList ++ rest) σ1 Q)) : zE X mt pc ls (vi a1 :: vi a0 :: .ref b :: rest) σ Q :=
  e_invV (mz := m_X12_isComer) (As := [vi a0, vi a1]) (rest := rest) hd ok_X12_isComer im_X12_isComer se_X12_isComer hlink hroom hb kd_12 rfl rfl (fun v hv => by
    simp only [List.mem_cons, List.not_mem_nil, or_false] at hv
    rcases hv with rfl | rfl <;> first | rfl | (exact z_okRA (by assumption))) (Nat.le_of_ble_eq_true rfl) hrest rfl h
theorem iv_X12_hasKin {a0 : Int} {a1 : Int} {a2 : Int} {b : Nat} (hd : zD mt.1.2 pc (.invokevirtual idx) 3 pc') (hlink : Cond.methodLink mt.1.1.cls idx yX12_hasKin ∈ zTB) (hroom : 3 + 1 ≤ mt.2.2.2.1 ∧ 8 + (5 + 11) + 70 ≤ mt.2.2.2.2) (hb : zIs σ b (12, 0)) (hrest : (rest.map fun v => v.category).sum ≤ 8) (h : zC X m_X12_hasKin (.ref b :: [vi a0, vi a1, vi a2]) σ (fun r σ1 => zE X mt pc' ls (r.toList ++ rest) σ1 Q)) : zE X mt pc ls (vi a2 :: vi a1 :: vi a0 :: .ref b :: rest) σ Q :=
  e_invV (mz := m_X12_hasKin) (As := [vi a0, vi a1, vi a2]) (rest := rest) hd ok_X12_hasKin im_X12_hasKin se_X12_hasKin hlink hroom hb kd_12 rfl rfl (fun v hv => by
    simp only [List.mem_cons, List.not_mem_nil, or_false] at hv
    rcases hv with rfl | rfl | rfl <;> first | rfl | (exact z_okRA (by assumption))) (Nat.le_of_ble_eq_true rfl) hrest rfl h
theorem iv_X12_findAsked {a0 : Int} {b : Nat} (hd : zD mt.1.2 pc (.invokevirtual idx) 3 pc') (hlink : Cond.methodLink mt.1.1.cls idx yX12_findAsked ∈ zTB) (hroom : 4 + 1 ≤ mt.2.2.2.1 ∧ 8 + (5 + 11) + 94 ≤ mt.2.2.2.2) (hb : zIs σ b (12, 0)) (hrest : (rest.map fun v => v.category).sum ≤ 8) (h : zC X m_X12_findAsked (.ref b :: [vi a0]) σ (fun r σ1 => zE X mt pc' ls (r.toList ++ rest) σ1 Q)) : zE X mt pc ls (vi a0 :: .ref b :: rest) σ Q :=
  e_invV (mz := m_X12_findAsked) (As := [vi a0]) (rest := rest) hd ok_X12_findAsked im_X12_findAsked se_X12_findAsked hlink hroom hb kd_12 rfl rfl (fun v hv => by
    simp only [List.mem_cons, List.not_mem_nil, or_false] at hv
    rcases hv with rfl; first | rfl | (exact z_okRA (by assumption))) (Nat.le_of_ble_eq_true rfl) hrest rfl h
theorem iv_X12_isGood {b : Nat} (hd : zD mt.1.2 pc (.invokevirtual idx) 3 pc') (hlink : Cond.methodLink mt.1.1.cls idx yX12_isGood ∈ zTB) (hroom : 0 + 1 ≤ mt.2.2.2.1 ∧ 8 + (5 + 11) + 0 ≤ mt.2.2.2.2) (hb : zIs σ b (12, 0)) (hrest : (rest.map fun v => v.category).sum ≤ 8) (h : zC X m_X12_isGood (.ref b :: []) σ (fun r σ1 => zE X mt pc' ls (r.toList ++ rest) σ1 Q)) : zE X mt pc ls (.ref b :: rest) σ Q :=
  e_invV (mz := m_X12_isGood) (As := []) (rest := rest) hd ok_X12_isGood im_X12_isGood se_X12_isGood hlink hroom hb kd_12 rfl rfl (fun v hv => by cases hv) (Nat.le_of_ble_eq_true rfl) hrest rfl h
theorem iv_X12_findBest {b : Nat} (hd : zD mt.1.2 pc (.invokevirtual idx) 3 pc') (hlink : Cond.methodLink mt.1.1.cls idx yX12_findBest ∈ zTB) (hroom : 1 + 1 ≤ mt.2.2.2.1 ∧ 8 + (5 + 11) + 24 ≤ mt.2.2.2.2) (hb : zIs σ b (12, 0)) (hrest : (rest.map fun v => v.category).sum ≤ 8) (h : zC X m_X12_findBest (.ref b :: []) σ (fun r σ1 => zE X mt pc' ls (r.toList ++ rest) σ1 Q)) : zE X mt pc ls (.ref b :: rest) σ Q :=
  e_invV (mz := m_X12_findBest) (As := []) (rest := rest) hd ok_X12_findBest im_X12_findBest se_X12_findBest hlink hroom hb kd_12 rfl rfl (fun v hv => by cases hv) (Nat.le_of_ble_eq_true rfl) hrest rfl h
theorem iv_X12_whole {a0 : Int} {b : Nat} (hd : zD mt.1.2 pc (.invokevirtual idx) 3 pc') (hlink : Cond.methodLink mt.1.1.cls idx yX12_whole ∈ zTB) (hroom : 5 + 1 ≤ mt.2.2.2.1 ∧ 8 + (4 + 11) + 118 ≤ mt.2.2.2.2) (hb : zIs σ b (12, 0)) (hrest : (rest.map fun v => v.category).sum ≤ 8) (h : zC X m_X12_whole (.ref b :: [vi a0]) σ (fun r σ1 => zE X mt pc' ls (r.toList ++ rest) σ1 Q)) : zE X mt pc ls (vi a0 :: .ref b :: rest) σ Q :=
  e_invV (mz := m_X12_whole) (As := [vi a0]) (rest := rest) hd ok_X12_whole im_X12_whole se_X12_whole hlink hroom hb kd_12 rfl rfl (fun v hv => by
    simp only [List.mem_cons, List.not_mem_nil, or_false] at hv
    rcases hv with rfl; first | rfl | (exact z_okRA (by assumption))) (Nat.le_of_ble_eq_true rfl) hrest rfl h
theorem iv_X12_came {a0 : Int} {b : Nat} (hd : zD mt.1.2 pc (.invokevirtual idx) 3 pc') (hlink : Cond.methodLink mt.1.1.cls idx yX12_came ∈ zTB) (hroom : 1 + 1 ≤ mt.2.2.2.1 ∧ 8 + (2 + 11) + 21 ≤ mt.2.2.2.2) (hb : zIs σ b (12, 0)) (hrest : (rest.map fun v => v.category).sum ≤ 8) (h : zC X m_X12_came (.ref b :: [vi a0]) σ (fun r σ1 => zE X mt pc' ls (r.toList ++ rest) σ1 Q)) : zE X mt pc ls (vi a0 :: .ref b :: rest) σ Q :=
  e_invV (mz := m_X12_came) (As := [vi a0]) (rest := rest) hd ok_X12_came im_X12_came se_X12_came hlink hroom hb kd_12 rfl rfl (fun v hv => by
    simp only [List.mem_cons, List.not_mem_nil, or_false] at hv
    rcases hv with rfl; first | rfl | (exact z_okRA (by assumption))) (Nat.le_of_ble_eq_true rfl) hrest rfl h
theorem iv_X12_groupAhead {a0 : Int} {b : Nat} (hd : zD mt.1.2 pc (.invokevirtual idx) 3 pc') (hlink : Cond.methodLink mt.1.1.cls idx yX12_groupAhead ∈ zTB) (hroom : 4 + 1 ≤ mt.2.2.2.1 ∧ 8 + (5 + 11) + 93 ≤ mt.2.2.2.2) (hb : zIs σ b (12, 0)) (hrest : (rest.map fun v => v.category).sum ≤ 8) (h : zC X m_X12_groupAhead (.ref b :: [vi a0]) σ (fun r σ1 => zE X mt pc' ls (r.toList ++ rest) σ1 Q)) : zE X mt pc ls (vi a0 :: .ref b :: rest) σ Q :=
  e_invV (mz := m_X12_groupAhead) (As := [vi a0]) (rest := rest) hd ok_X12_groupAhead im_X12_groupAhead se_X12_groupAhead hlink hroom hb kd_12 rfl rfl (fun v hv => by
    simp only [List.mem_cons, List.not_mem_nil, or_false] at hv
    rcases hv with rfl; first | rfl | (exact z_okRA (by assumption))) (Nat.le_of_ble_eq_true rfl) hrest rfl h
theorem iv_X12_plea {a0 : Int} {a1 : Int} {b : Nat} (hd : zD mt.1.2 pc (.invokevirtual idx) 3 pc') (hlink : Cond.methodLink mt.1.1.cls idx yX12_plea ∈ zTB) (hroom : 5 + 1 ≤ mt.2.2.2.1 ∧ 8 + (6 + 11) + 117 ≤ mt.2.2.2.2) (hb : zIs σ b (12, 0)) (hrest : (rest.map fun v => v.category).sum ≤ 8) (h : zC X m_X12_plea (.ref b :: [vi a0, vi a1]) σ (fun r σ1 => zE X mt pc' ls (r.toList ++ rest) σ1 Q)) : zE X mt pc ls (vi a1 :: vi a0 :: .ref b :: rest) σ Q :=
  e_invV (mz := m_X12_plea) (As := [vi a0, vi a1]) (rest := rest) hd ok_X12_plea im_X12_plea se_X12_plea hlink hroom hb kd_12 rfl rfl (fun v hv => by
    simp only [List.mem_cons, List.not_mem_nil, or_false] at hv
    rcases hv with rfl | rfl <;> first | rfl | (exact z_okRA (by assumption))) (Nat.le_of_ble_eq_true rfl) hrest rfl h
theorem iv_X12_isBrought {a0 : Int} {b : Nat} (hd : zD mt.1.2 pc (.invokevirtual idx) 3 pc') (hlink : Cond.methodLink mt.1.1.cls idx yX12_isBrought ∈ zTB) (hroom : 0 + 1 ≤ mt.2.2.2.1 ∧ 8 + (3 + 11) + 0 ≤ mt.2.2.2.2) (hb : zIs σ b (12, 0)) (hrest : (rest.map fun v => v.category).sum ≤ 8) (h : zC X m_X12_isBrought (.ref b :: [vi a0]) σ (fun r σ1 => zE X mt pc' ls (r.toList ++ rest) σ1 Q)) : zE X mt pc ls (vi a0 :: .ref b :: rest) σ Q :=
  e_invV (mz := m_X12_isBrought) (As := [vi a0]) (rest := rest) hd ok_X12_isBrought im_X12_isBrought se_X12_isBrought hlink hroom hb kd_12 rfl rfl (fun v hv => by
    simp only [List.mem_cons, List.not_mem_nil, or_false] at hv
    rcases hv with rfl; first | rfl | (exact z_okRA (by assumption))) (Nat.le_of_ble_eq_true rfl) hrest rfl h
theorem iv_X12_about {a0 : Int} {a1 : Int} {b : Nat} (hd : zD mt.1.2 pc (.invokevirtual idx) 3 pc') (hlink : Cond.methodLink mt.1.1.cls idx yX12_about ∈ zTB) (hroom : 1 + 1 ≤ mt.2.2.2.1 ∧ 8 + (5 + 11) + 22 ≤ mt.2.2.2.2) (hb : zIs σ b (12, 0)) (hrest : (rest.map fun v => v.category).sum ≤ 8) (h : zC X m_X12_about (.ref b :: [vi a0, vi a1]) σ (fun r σ1 => zE X mt pc' ls (r.toList ++ rest) σ1 Q)) : zE X mt pc ls (vi a1 :: vi a0 :: .ref b :: rest) σ Q :=
  e_invV (mz := m_X12_about) (As := [vi a0, vi a1]) (rest := rest) hd ok_X12_about im_X12_about se_X12_about hlink hroom hb kd_12 rfl rfl (fun v hv => by
    simp only [List.mem_cons, List.not_mem_nil, or_false] at hv
    rcases hv with rfl | rfl <;> first | rfl | (exact z_okRA (by assumption))) (Nat.le_of_ble_eq_true rfl) hrest rfl h
theorem iv_X12_weightOf {a0 : Int} {b : Nat} (hd : zD mt.1.2 pc (.invokevirtual idx) 3 pc') (hlink : Cond.methodLink mt.1.1.cls idx yX12_weightOf ∈ zTB) (hroom : 0 + 1 ≤ mt.2.2.2.1 ∧ 8 + (2 + 11) + 0 ≤ mt.2.2.2.2) (hb : zIs σ b (12, 0)) (hrest : (rest.map fun v => v.category).sum ≤ 8) (h : zC X m_X12_weightOf (.ref b :: [vi a0]) σ (fun r σ1 => zE X mt pc' ls (r.toList ++ rest) σ1 Q)) : zE X mt pc ls (vi a0 :: .ref b :: rest) σ Q :=
  e_invV (mz := m_X12_weightOf) (As := [vi a0]) (rest := rest) hd ok_X12_weightOf im_X12_weightOf se_X12_weightOf hlink hroom hb kd_12 rfl rfl (fun v hv => by
    simp only [List.mem_cons, List.not_mem_nil, or_false] at hv
    rcases hv with rfl; first | rfl | (exact z_okRA (by assumption))) (Nat.le_of_ble_eq_true rfl) hrest rfl h
theorem iv_X12_takesPart {a0 : Int} {a1 : Int} {b : Nat} (hd : zD mt.1.2 pc (.invokevirtual idx) 3 pc') (hlink : Cond.methodLink mt.1.1.cls idx yX12_takesPart ∈ zTB) (hroom : 1 + 1 ≤ mt.2.2.2.1 ∧ 8 + (3 + 11) + 21 ≤ mt.2.2.2.2) (hb : zIs σ b (12, 0)) (hrest : (rest.map fun v => v.category).sum ≤ 8) (h : zC X m_X12_takesPart (.ref b :: [vi a0, vi a1]) σ (fun r σ1 => zE X mt pc' ls (r.toList ++ rest) σ1 Q)) : zE X mt pc ls (vi a1 :: vi a0 :: .ref b :: rest) σ Q :=
  e_invV (mz := m_X12_takesPart) (As := [vi a0, vi a1]) (rest := rest) hd ok_X12_takesPart im_X12_takesPart se_X12_takesPart hlink hroom hb kd_12 rfl rfl (fun v hv => by
    simp only [List.mem_cons, List.not_mem_nil, or_false] at hv
    rcases hv with rfl | rfl <;> first | rfl | (exact z_okRA (by assumption))) (Nat.le_of_ble_eq_true rfl) hrest rfl h
theorem iv_X12_isPartedAmong {a0 : Int} {a1 : Int} {b : Nat} (hd : zD mt.1.2 pc (.invokevirtual idx) 3 pc') (hlink : Cond.methodLink mt.1.1.cls idx yX12_isPartedAmong ∈ zTB) (hroom : 2 + 1 ≤ mt.2.2.2.1 ∧ 8 + (7 + 11) + 43 ≤ mt.2.2.2.2) (hb : zIs σ b (12, 0)) (hrest : (rest.map fun v => v.category).sum ≤ 8) (h : zC X m_X12_isPartedAmong (.ref b :: [vi a0, vi a1]) σ (fun r σ1 => zE X mt pc' ls (r.toList ++ rest) σ1 Q)) : zE X mt pc ls (vi a1 :: vi a0 :: .ref b :: rest) σ Q :=
  e_invV (mz := m_X12_isPartedAmong) (As := [vi a0, vi a1]) (rest := rest) hd ok_X12_isPartedAmong im_X12_isPartedAmong se_X12_isPartedAmong hlink hroom hb kd_12 rfl rfl (fun v hv => by
    simp only [List.mem_cons, List.not_mem_nil, or_false] at hv
    rcases hv with rfl | rfl <;> first | rfl | (exact z_okRA (by assumption))) (Nat.le_of_ble_eq_true rfl) hrest rfl h
theorem iv_X12_judge {a0 : Int} {b : Nat} (hd : zD mt.1.2 pc (.invokevirtual idx) 3 pc') (hlink : Cond.methodLink mt.1.1.cls idx yX12_judge ∈ zTB) (hroom : 3 + 1 ≤ mt.2.2.2.1 ∧ 8 + (4 + 11) + 69 ≤ mt.2.2.2.2) (hb : zIs σ b (12, 0)) (hrest : (rest.map fun v => v.category).sum ≤ 8) (h : zC X m_X12_judge (.ref b :: [vi a0]) σ (fun r σ1 => zE X mt pc' ls (r.toList ++ rest) σ1 Q)) : zE X mt pc ls (vi a0 :: .ref b :: rest) σ Q :=
  e_invV (mz := m_X12_judge) (As := [vi a0]) (rest := rest) hd ok_X12_judge im_X12_judge se_X12_judge hlink hroom hb kd_12 rfl rfl (fun v hv => by
    simp only [List.mem_cons, List.not_mem_nil, or_false] at hv
    rcases hv with rfl; first | rfl | (exact z_okRA (by assumption))) (Nat.le_of_ble_eq_true rfl) hrest rfl h
theorem iv_X12_owesAll {a0 : Int} {b : Nat} (hd : zD mt.1.2 pc (.invokevirtual idx) 3 pc') (hlink : Cond.methodLink mt.1.1.cls idx yX12_owesAll ∈ zTB) (hroom : 0 + 1 ≤ mt.2.2.2.1 ∧ 8 + (4 + 11) + 0 ≤ mt.2.2.2.2) (hb : zIs σ b (12, 0)) (hrest : (rest.map fun v => v.category).sum ≤ 8) (h : zC X m_X12_owesAll (.ref b :: [vi a0]) σ (fun r σ1 => zE X mt pc' ls (r.toList ++ rest) σ1 Q)) : zE X mt pc ls (vi a0 :: .ref b :: rest) σ Q :=
  e_invV (mz := m_X12_owesAll) (As := [vi a0]) (rest := rest) hd ok_X12_owesAll im_X12_owesAll se_X12_owesAll hlink hroom hb kd_12 rfl rfl (fun v hv => by
    simp only [List.mem_cons, List.not_mem_nil, or_false] at hv
    rcases hv with rfl; first | rfl | (exact z_okRA (by assumption))) (Nat.le_of_ble_eq_true rfl) hrest rfl h
theorem iv_X12_dies {a0 : Int} {a1 : Int} {b : Nat} (hd : zD mt.1.2 pc (.invokevirtual idx) 3 pc') (hlink : Cond.methodLink mt.1.1.cls idx yX12_dies ∈ zTB) (hroom : 3 + 1 ≤ mt.2.2.2.1 ∧ 8 + (7 + 11) + 69 ≤ mt.2.2.2.2) (hb : zIs σ b (12, 0)) (hrest : (rest.map fun v => v.category).sum ≤ 8) (h : zC X m_X12_dies (.ref b :: [vi a0, vi a1]) σ (fun r σ1 => zE X mt pc' ls (r.toList ++ rest) σ1 Q)) : zE X mt pc ls (vi a1 :: vi a0 :: .ref b :: rest) σ Q :=
  e_invV (mz := m_X12_dies) (As := [vi a0, vi a1]) (rest := rest) hd ok_X12_dies im_X12_dies se_X12_dies hlink hroom hb kd_12 rfl rfl (fun v hv => by
    simp only [List.mem_cons, List.not_mem_nil, or_false] at hv
    rcases hv with rfl | rfl <;> first | rfl | (exact z_okRA (by assumption))) (Nat.le_of_ble_eq_true rfl) hrest rfl h
theorem iv_X12_owes {a0 : Int} {a1 : Int} {b : Nat} (hd : zD mt.1.2 pc (.invokevirtual idx) 3 pc') (hlink : Cond.methodLink mt.1.1.cls idx yX12_owes ∈ zTB) (hroom : 1 + 1 ≤ mt.2.2.2.1 ∧ 8 + (3 + 11) + 23 ≤ mt.2.2.2.2) (hb : zIs σ b (12, 0)) (hrest : (rest.map fun v => v.category).sum ≤ 8) (h : zC X m_X12_owes (.ref b :: [vi a0, vi a1]) σ (fun r σ1 => zE X mt pc' ls (r.toList ++ rest) σ1 Q)) : zE X mt pc ls (vi a1 :: vi a0 :: .ref b :: rest) σ Q :=
  e_invV (mz := m_X12_owes) (As := [vi a0, vi a1]) (rest := rest) hd ok_X12_owes im_X12_owes se_X12_owes hlink hroom hb kd_12 rfl rfl (fun v hv => by
    simp only [List.mem_cons, List.not_mem_nil, or_false] at hv
    rcases hv with rfl | rfl <;> first | rfl | (exact z_okRA (by assumption))) (Nat.le_of_ble_eq_true rfl) hrest rfl h
theorem iv_X12_pays {a0 : Int} {a1 : Int} {b : Nat} (hd : zD mt.1.2 pc (.invokevirtual idx) 3 pc') (hlink : Cond.methodLink mt.1.1.cls idx yX12_pays ∈ zTB) (hroom : 1 + 1 ≤ mt.2.2.2.1 ∧ 8 + (6 + 11) + 23 ≤ mt.2.2.2.2) (hb : zIs σ b (12, 0)) (hrest : (rest.map fun v => v.category).sum ≤ 8) (h : zC X m_X12_pays (.ref b :: [vi a0, vi a1]) σ (fun r σ1 => zE X mt pc' ls (r.toList ++ rest) σ1 Q)) : zE X mt pc ls (vi a1 :: vi a0 :: .ref b :: rest) σ Q :=
  e_invV (mz := m_X12_pays) (As := [vi a0, vi a1]) (rest := rest) hd ok_X12_pays im_X12_pays se_X12_pays hlink hroom hb kd_12 rfl rfl (fun v hv => by
    simp only [List.mem_cons, List.not_mem_nil, or_false] at hv
    rcases hv with rfl | rfl <;> first | rfl | (exact z_okRA (by assumption))) (Nat.le_of_ble_eq_true rfl) hrest rfl h
theorem iv_X12_borneBy {a0 : Int} {b : Nat} (hd : zD mt.1.2 pc (.invokevirtual idx) 3 pc') (hlink : Cond.methodLink mt.1.1.cls idx yX12_borneBy ∈ zTB) (hroom : 0 + 1 ≤ mt.2.2.2.1 ∧ 8 + (4 + 11) + 0 ≤ mt.2.2.2.2) (hb : zIs σ b (12, 0)) (hrest : (rest.map fun v => v.category).sum ≤ 8) (h : zC X m_X12_borneBy (.ref b :: [vi a0]) σ (fun r σ1 => zE X mt pc' ls (r.toList ++ rest) σ1 Q)) : zE X mt pc ls (vi a0 :: .ref b :: rest) σ Q :=
  e_invV (mz := m_X12_borneBy) (As := [vi a0]) (rest := rest) hd ok_X12_borneBy im_X12_borneBy se_X12_borneBy hlink hroom hb kd_12 rfl rfl (fun v hv => by
    simp only [List.mem_cons, List.not_mem_nil, or_false] at hv
    rcases hv with rfl; first | rfl | (exact z_okRA (by assumption))) (Nat.le_of_ble_eq_true rfl) hrest rfl h
theorem iv_X12_byHeads {a0 : Int} {a1 : Int} {b : Nat} (hd : zD mt.1.2 pc (.invokevirtual idx) 3 pc') (hlink : Cond.methodLink mt.1.1.cls idx yX12_byHeads ∈ zTB) (hroom : 4 + 1 ≤ mt.2.2.2.1 ∧ 8 + (4 + 11) + 94 ≤ mt.2.2.2.2) (hb : zIs σ b (12, 0)) (hrest : (rest.map fun v => v.category).sum ≤ 8) (h : zC X m_X12_byHeads (.ref b :: [vi a0, vi a1]) σ (fun r σ1 => zE X mt pc' ls (r.toList ++ rest) σ1 Q)) : zE X mt pc ls (vi a1 :: vi a0 :: .ref b :: rest) σ Q :=
  e_invV (mz := m_X12_byHeads) (As := [vi a0, vi a1]) (rest := rest) hd ok_X12_byHeads im_X12_byHeads se_X12_byHeads hlink hroom hb kd_12 rfl rfl (fun v hv => by
    simp only [List.mem_cons, List.not_mem_nil, or_false] at hv
    rcases hv with rfl | rfl <;> first | rfl | (exact z_okRA (by assumption))) (Nat.le_of_ble_eq_true rfl) hrest rfl h
theorem iv_X12_borne {a0 : Int} {a1 : Int} {a2 : Int} {b : Nat} (hd : zD mt.1.2 pc (.invokevirtual idx) 3 pc') (hlink : Cond.methodLink mt.1.1.cls idx yX12_borne ∈ zTB) (hroom : 5 + 1 ≤ mt.2.2.2.1 ∧ 8 + (6 + 11) + 117 ≤ mt.2.2.2.2) (hb : zIs σ b (12, 0)) (hrest : (rest.map fun v => v.category).sum ≤ 8) (h : zC X m_X12_borne (.ref b :: [vi a0, vi a1, vi a2]) σ (fun r σ1 => zE X mt pc' ls (r.toList ++ rest) σ1 Q)) : zE X mt pc ls (vi a2 :: vi a1 :: vi a0 :: .ref b :: rest) σ Q :=
  e_invV (mz := m_X12_borne) (As := [vi a0, vi a1, vi a2]) (rest := rest) hd ok_X12_borne im_X12_borne se_X12_borne hlink hroom hb kd_12 rfl rfl (fun v hv => by
    simp only [List.mem_cons, List.not_mem_nil, or_false] at hv
    rcases hv with rfl | rfl | rfl <;> first | rfl | (exact z_okRA (by assumption))) (Nat.le_of_ble_eq_true rfl) hrest rfl h
theorem iv_X12_count {a0 : Int} {b : Nat} (hd : zD mt.1.2 pc (.invokevirtual idx) 3 pc') (hlink : Cond.methodLink mt.1.1.cls idx yX12_count ∈ zTB) (hroom : 0 + 1 ≤ mt.2.2.2.1 ∧ 8 + (2 + 11) + 0 ≤ mt.2.2.2.2) (hb : zIs σ b (12, 0)) (hrest : (rest.map fun v => v.category).sum ≤ 8) (h : zC X m_X12_count (.ref b :: [vi a0]) σ (fun r σ1 => zE X mt pc' ls (r.toList ++ rest) σ1 Q)) : zE X mt pc ls (vi a0 :: .ref b :: rest) σ Q :=
  e_invV (mz := m_X12_count) (As := [vi a0]) (rest := rest) hd ok_X12_count im_X12_count se_X12_count hlink hroom hb kd_12 rfl rfl (fun v hv => by
    simp only [List.mem_cons, List.not_mem_nil, or_false] at hv
    rcases hv with rfl; first | rfl | (exact z_okRA (by assumption))) (Nat.le_of_ble_eq_true rfl) hrest rfl h
theorem iv_X12_isSheet {a0 : Int} (hd : zD mt.1.2 pc (.invokestatic idx) 3 pc') (hlink : Cond.methodLink mt.1.1.cls idx yX12_isSheet ∈ zTB) (hroom : 1 + 1 ≤ mt.2.2.2.1 ∧ 8 + (1 + 11) + 22 ≤ mt.2.2.2.2) (hrest : (rest.map fun v => v.category).sum ≤ 8) (h : zC X m_X12_isSheet [vi a0] σ (fun r σ1 => zE X mt pc' ls (r.toList ++ rest) σ1 Q)) : zE X mt pc ls (vi a0 :: rest) σ Q :=
  e_invS (mz := m_X12_isSheet) (As := [vi a0]) (rest := rest) hd ok_X12_isSheet ss_X12_isSheet hlink hroom rfl (fun v hv => by
    simp only [List.mem_cons, List.not_mem_nil, or_false] at hv
    rcases hv with rfl; first | rfl | (exact z_okRA (by assumption))) (Nat.le_of_ble_eq_true rfl) hrest rfl h
theorem iv_X12_isLane {a0 : Int} (hd : zD mt.1.2 pc (.invokestatic idx) 3 pc') (hlink : Cond.methodLink mt.1.1.cls idx yX12_isLane ∈ zTB) (hroom : 1 + 1 ≤ mt.2.2.2.1 ∧ 8 + (1 + 11) + 22 ≤ mt.2.2.2.2) (hrest : (rest.map fun v => v.category).sum ≤ 8) (h : zC X m_X12_isLane [vi a0] σ (fun r σ1 => zE X mt pc' ls (r.toList ++ rest) σ1 Q)) : zE X mt pc ls (vi a0 :: rest) σ Q :=
  e_invS (mz := m_X12_isLane) (As := [vi a0]) (rest := rest) hd ok_X12_isLane ss_X12_isLane hlink hroom rfl (fun v hv => by
    simp only [List.mem_cons, List.not_mem_nil, or_false] at hv
    rcases hv with rfl; first | rfl | (exact z_okRA (by assumption))) (Nat.le_of_ble_eq_true rfl) hrest rfl h
theorem iv_X12_sheet {a0 : Int} {a1 : Int} {a2 : Int} {b : Nat} (hd : zD mt.1.2 pc (.invokevirtual idx) 3 pc') (hlink : Cond.methodLink mt.1.1.cls idx yX12_sheet ∈ zTB) (hroom : 2 + 1 ≤ mt.2.2.2.1 ∧ 8 + (5 + 11) + 42 ≤ mt.2.2.2.2) (hb : zIs σ b (12, 0)) (hrest : (rest.map fun v => v.category).sum ≤ 8) (h : zC X m_X12_sheet (.ref b :: [vi a0, vi a1, vi a2]) σ (fun r σ1 => zE X mt pc' ls (r.toList ++ rest) σ1 Q)) : zE X mt pc ls (vi a2 :: vi a1 :: vi a0 :: .ref b :: rest) σ Q :=
  e_invV (mz := m_X12_sheet) (As := [vi a0, vi a1, vi a2]) (rest := rest) hd ok_X12_sheet im_X12_sheet se_X12_sheet hlink hroom hb kd_12 rfl rfl (fun v hv => by
    simp only [List.mem_cons, List.not_mem_nil, or_false] at hv
    rcases hv with rfl | rfl | rfl <;> first | rfl | (exact z_okRA (by assumption))) (Nat.le_of_ble_eq_true rfl) hrest rfl h
theorem iv_X12_drop {a0 : Int} {b : Nat} (hd : zD mt.1.2 pc (.invokevirtual idx) 3 pc') (hlink : Cond.methodLink mt.1.1.cls idx yX12_drop ∈ zTB) (hroom : 2 + 1 ≤ mt.2.2.2.1 ∧ 8 + (2 + 11) + 42 ≤ mt.2.2.2.2) (hb : zIs σ b (12, 0)) (hrest : (rest.map fun v => v.category).sum ≤ 8) (h : zC X m_X12_drop (.ref b :: [vi a0]) σ (fun r σ1 => zE X mt pc' ls (r.toList ++ rest) σ1 Q)) : zE X mt pc ls (vi a0 :: .ref b :: rest) σ Q :=
  e_invV (mz := m_X12_drop) (As := [vi a0]) (rest := rest) hd ok_X12_drop im_X12_drop se_X12_drop hlink hroom hb kd_12 rfl rfl (fun v hv => by
    simp only [List.mem_cons, List.not_mem_nil, or_false] at hv
    rcases hv with rfl; first | rfl | (exact z_okRA (by assumption))) (Nat.le_of_ble_eq_true rfl) hrest rfl h
theorem iv_X12_item {a0 : Int} {a1 : Int} {a2 : Int} {a3 : Int} {b : Nat} (hd : zD mt.1.2 pc (.invokevirtual idx) 3 pc') (hlink : Cond.methodLink mt.1.1.cls idx yX12_item ∈ zTB) (hroom : 2 + 1 ≤ mt.2.2.2.1 ∧ 8 + (5 + 11) + 42 ≤ mt.2.2.2.2) (hb : zIs σ b (12, 0)) (hrest : (rest.map fun v => v.category).sum ≤ 8) (h : zC X m_X12_item (.ref b :: [vi a0, vi a1, vi a2, vi a3]) σ (fun r σ1 => zE X mt pc' ls (r.toList ++ rest) σ1 Q)) : zE X mt pc ls (vi a3 :: vi a2 :: vi a1 :: vi a0 :: .ref b :: rest) σ Q :=
  e_invV (mz := m_X12_item) (As := [vi a0, vi a1, vi a2, vi a3]) (rest := rest) hd ok_X12_item im_X12_item se_X12_item hlink hroom hb kd_12 rfl rfl (fun v hv => by
    simp only [List.mem_cons, List.not_mem_nil, or_false] at hv
    rcases hv with rfl | rfl | rfl | rfl <;> first | rfl | (exact z_okRA (by assumption))) (Nat.le_of_ble_eq_true rfl) hrest rfl h
theorem iv_X12_leftOutOf {a0 : Int} {b : Nat} (hd : zD mt.1.2 pc (.invokevirtual idx) 3 pc') (hlink : Cond.methodLink mt.1.1.cls idx yX12_leftOutOf ∈ zTB) (hroom : 0 + 1 ≤ mt.2.2.2.1 ∧ 8 + (3 + 11) + 0 ≤ mt.2.2.2.2) (hb : zIs σ b (12, 0)) (hrest : (rest.map fun v => v.category).sum ≤ 8) (h : zC X m_X12_leftOutOf (.ref b :: [vi a0]) σ (fun r σ1 => zE X mt pc' ls (r.toList ++ rest) σ1 Q)) : zE X mt pc ls (vi a0 :: .ref b :: rest) σ Q :=
  e_invV (mz := m_X12_leftOutOf) (As := [vi a0]) (rest := rest) hd ok_X12_leftOutOf im_X12_leftOutOf se_X12_leftOutOf hlink hroom hb kd_12 rfl rfl (fun v hv => by
    simp only [List.mem_cons, List.not_mem_nil, or_false] at hv
    rcases hv with rfl; first | rfl | (exact z_okRA (by assumption))) (Nat.le_of_ble_eq_true rfl) hrest rfl h
theorem iv_X12_roll {a0 : Int} {a1 : Int} {a2 : Int} {a3 : Int} {b : Nat} (hd : zD mt.1.2 pc (.invokevirtual idx) 3 pc') (hlink : Cond.methodLink mt.1.1.cls idx yX12_roll ∈ zTB) (hroom : 3 + 1 ≤ mt.2.2.2.1 ∧ 8 + (7 + 11) + 70 ≤ mt.2.2.2.2) (hb : zIs σ b (12, 0)) (hrest : (rest.map fun v => v.category).sum ≤ 8) (h : zC X m_X12_roll (.ref b :: [vi a0, vi a1, vi a2, vi a3]) σ (fun r σ1 => zE X mt pc' ls (r.toList ++ rest) σ1 Q)) : zE X mt pc ls (vi a3 :: vi a2 :: vi a1 :: vi a0 :: .ref b :: rest) σ Q :=
  e_invV (mz := m_X12_roll) (As := [vi a0, vi a1, vi a2, vi a3]) (rest := rest) hd ok_X12_roll im_X12_roll se_X12_roll hlink hroom hb kd_12 rfl rfl (fun v hv => by
    simp only [List.mem_cons, List.not_mem_nil, or_false] at hv
    rcases hv with rfl | rfl | rfl | rfl <;> first | rfl | (exact z_okRA (by assumption))) (Nat.le_of_ble_eq_true rfl) hrest rfl h
theorem iv_X12_leftOut {a0 : Int} {b : Nat} (hd : zD mt.1.2 pc (.invokevirtual idx) 3 pc') (hlink : Cond.methodLink mt.1.1.cls idx yX12_leftOut ∈ zTB) (hroom : 1 + 1 ≤ mt.2.2.2.1 ∧ 8 + (2 + 11) + 22 ≤ mt.2.2.2.2) (hb : zIs σ b (12, 0)) (hrest : (rest.map fun v => v.category).sum ≤ 8) (h : zC X m_X12_leftOut (.ref b :: [vi a0]) σ (fun r σ1 => zE X mt pc' ls (r.toList ++ rest) σ1 Q)) : zE X mt pc ls (vi a0 :: .ref b :: rest) σ Q :=
  e_invV (mz := m_X12_leftOut) (As := [vi a0]) (rest := rest) hd ok_X12_leftOut im_X12_leftOut se_X12_leftOut hlink hroom hb kd_12 rfl rfl (fun v hv => by
    simp only [List.mem_cons, List.not_mem_nil, or_false] at hv
    rcases hv with rfl; first | rfl | (exact z_okRA (by assumption))) (Nat.le_of_ble_eq_true rfl) hrest rfl h
theorem iv_X12_sure {a0 : Int} {b : Nat} (hd : zD mt.1.2 pc (.invokevirtual idx) 3 pc') (hlink : Cond.methodLink mt.1.1.cls idx yX12_sure ∈ zTB) (hroom : 1 + 1 ≤ mt.2.2.2.1 ∧ 8 + (3 + 11) + 21 ≤ mt.2.2.2.2) (hb : zIs σ b (12, 0)) (hrest : (rest.map fun v => v.category).sum ≤ 8) (h : zC X m_X12_sure (.ref b :: [vi a0]) σ (fun r σ1 => zE X mt pc' ls (r.toList ++ rest) σ1 Q)) : zE X mt pc ls (vi a0 :: .ref b :: rest) σ Q :=
  e_invV (mz := m_X12_sure) (As := [vi a0]) (rest := rest) hd ok_X12_sure im_X12_sure se_X12_sure hlink hroom hb kd_12 rfl rfl (fun v hv => by
    simp only [List.mem_cons, List.not_mem_nil, or_false] at hv
    rcases hv with rfl; first | rfl | (exact z_okRA (by assumption))) (Nat.le_of_ble_eq_true rfl) hrest rfl h
theorem iv_J6_bitCount_0f7a4 {a0 : Int} (hd : zD mt.1.2 pc (.invokestatic idx) 3 pc') (hlink : Cond.methodLink mt.1.1.cls idx yJ6_bitCount_0f7a4 ∈ zTB) (hroom : 0 + 1 ≤ mt.2.2.2.1 ∧ 8 + (1 + 11) + 0 ≤ mt.2.2.2.2) (hrest : (rest.map fun v => v.category).sum ≤ 8) (h : zC X m_J6_bitCount_0f7a4 [vi a0] σ (fun r σ1 => zE X mt pc' ls (r.toList ++ rest) σ1 Q)) : zE X mt pc ls (vi a0 :: rest) σ Q :=
  e_invS (mz := m_J6_bitCount_0f7a4) (As := [vi a0]) (rest := rest) hd ok_J6_bitCount_0f7a4 ss_J6_bitCount_0f7a4 hlink hroom rfl (fun v hv => by
    simp only [List.mem_cons, List.not_mem_nil, or_false] at hv
    rcases hv with rfl; first | rfl | (exact z_okRA (by assumption))) (Nat.le_of_ble_eq_true rfl) hrest rfl h
theorem iv_J0_length_8abf5 (hd : zD mt.1.2 pc (.invokevirtual idx) 3 pc') (hlink : Cond.methodLink mt.1.1.cls idx yJ0_length_8abf5 ∈ zTB) (hroom : 1 + 1 ≤ mt.2.2.2.1 ∧ 8 + (1 + 11) + 20 ≤ mt.2.2.2.2) (hrest : (rest.map fun v => v.category).sum ≤ 8) (h : zC X m_J0_length_8abf5 (.ref 1 :: []) σ (fun r σ1 => zE X mt pc' ls (r.toList ++ rest) σ1 Q)) : zE X mt pc ls (.ref 1 :: rest) σ Q :=
  e_invVs (mz := m_J0_length_8abf5) (As := []) (rest := rest) hd ok_J0_length_8abf5 im_J0_length_8abf5 se_J0_length_8abf5 hlink hroom rfl rfl (fun v hv => by cases hv) (Nat.le_of_ble_eq_true rfl) hrest rfl h
theorem iv_J0_indexOf_0f7a4 {a0 : Int} (hd : zD mt.1.2 pc (.invokevirtual idx) 3 pc') (hlink : Cond.methodLink mt.1.1.cls idx yJ0_indexOf_0f7a4 ∈ zTB) (hroom : 3 + 1 ≤ mt.2.2.2.1 ∧ 8 + (2 + 11) + 70 ≤ mt.2.2.2.2) (hrest : (rest.map fun v => v.category).sum ≤ 8) (h : zC X m_J0_indexOf_0f7a4 (.ref 1 :: [vi a0]) σ (fun r σ1 => zE X mt pc' ls (r.toList ++ rest) σ1 Q)) : zE X mt pc ls (vi a0 :: .ref 1 :: rest) σ Q :=
  e_invVs (mz := m_J0_indexOf_0f7a4) (As := [vi a0]) (rest := rest) hd ok_J0_indexOf_0f7a4 im_J0_indexOf_0f7a4 se_J0_indexOf_0f7a4 hlink hroom rfl rfl (fun v hv => by
    simp only [List.mem_cons, List.not_mem_nil, or_false] at hv
    rcases hv with rfl; first | rfl | (exact z_okRA (by assumption))) (Nat.le_of_ble_eq_true rfl) hrest rfl h
theorem iv_J0_indexOf_7cf53 {a0 : Int} {a1 : Int} (hd : zD mt.1.2 pc (.invokevirtual idx) 3 pc') (hlink : Cond.methodLink mt.1.1.cls idx yJ0_indexOf_7cf53 ∈ zTB) (hroom : 2 + 1 ≤ mt.2.2.2.1 ∧ 8 + (3 + 11) + 48 ≤ mt.2.2.2.2) (hrest : (rest.map fun v => v.category).sum ≤ 8) (h : zC X m_J0_indexOf_7cf53 (.ref 1 :: [vi a0, vi a1]) σ (fun r σ1 => zE X mt pc' ls (r.toList ++ rest) σ1 Q)) : zE X mt pc ls (vi a1 :: vi a0 :: .ref 1 :: rest) σ Q :=
  e_invVs (mz := m_J0_indexOf_7cf53) (As := [vi a0, vi a1]) (rest := rest) hd ok_J0_indexOf_7cf53 im_J0_indexOf_7cf53 se_J0_indexOf_7cf53 hlink hroom rfl rfl (fun v hv => by
    simp only [List.mem_cons, List.not_mem_nil, or_false] at hv
    rcases hv with rfl | rfl <;> first | rfl | (exact z_okRA (by assumption))) (Nat.le_of_ble_eq_true rfl) hrest rfl h
theorem iv_J0_coder_7d493 (hd : zD mt.1.2 pc (.invokevirtual idx) 3 pc') (hlink : Cond.methodLink mt.1.1.cls idx yJ0_coder_7d493 ∈ zTB) (hroom : 0 + 1 ≤ mt.2.2.2.1 ∧ 8 + (1 + 11) + 0 ≤ mt.2.2.2.2) (hrest : (rest.map fun v => v.category).sum ≤ 8) (h : zC X m_J0_coder_7d493 (.ref 1 :: []) σ (fun r σ1 => zE X mt pc' ls (r.toList ++ rest) σ1 Q)) : zE X mt pc ls (.ref 1 :: rest) σ Q :=
  e_invVs (mz := m_J0_coder_7d493) (As := []) (rest := rest) hd ok_J0_coder_7d493 im_J0_coder_7d493 se_J0_coder_7d493 hlink hroom rfl rfl (fun v hv => by cases hv) (Nat.le_of_ble_eq_true rfl) hrest rfl h
theorem iv_J0_isLatin1_aae02 (hd : zD mt.1.2 pc (.invokevirtual idx) 3 pc') (hlink : Cond.methodLink mt.1.1.cls idx yJ0_isLatin1_aae02 ∈ zTB) (hroom : 0 + 1 ≤ mt.2.2.2.1 ∧ 8 + (1 + 11) + 0 ≤ mt.2.2.2.2) (hrest : (rest.map fun v => v.category).sum ≤ 8) (h : zC X m_J0_isLatin1_aae02 (.ref 1 :: []) σ (fun r σ1 => zE X mt pc' ls (r.toList ++ rest) σ1 Q)) : zE X mt pc ls (.ref 1 :: rest) σ Q :=
  e_invVs (mz := m_J0_isLatin1_aae02) (As := []) (rest := rest) hd ok_J0_isLatin1_aae02 im_J0_isLatin1_aae02 se_J0_isLatin1_aae02 hlink hroom rfl rfl (fun v hv => by cases hv) (Nat.le_of_ble_eq_true rfl) hrest rfl h
theorem iv_J1_canEncode_9a6ad {a0 : Int} (hd : zD mt.1.2 pc (.invokestatic idx) 3 pc') (hlink : Cond.methodLink mt.1.1.cls idx yJ1_canEncode_9a6ad ∈ zTB) (hroom : 0 + 1 ≤ mt.2.2.2.1 ∧ 8 + (1 + 11) + 0 ≤ mt.2.2.2.2) (hrest : (rest.map fun v => v.category).sum ≤ 8) (h : zC X m_J1_canEncode_9a6ad [vi a0] σ (fun r σ1 => zE X mt pc' ls (r.toList ++ rest) σ1 Q)) : zE X mt pc ls (vi a0 :: rest) σ Q :=
  e_invS (mz := m_J1_canEncode_9a6ad) (As := [vi a0]) (rest := rest) hd ok_J1_canEncode_9a6ad ss_J1_canEncode_9a6ad hlink hroom rfl (fun v hv => by
    simp only [List.mem_cons, List.not_mem_nil, or_false] at hv
    rcases hv with rfl; first | rfl | (exact z_okRA (by assumption))) (Nat.le_of_ble_eq_true rfl) hrest rfl h
theorem iv_J1_indexOf_4cfef {a0 : Value} (ha0 : z_okR a0 = true) {a1 : Int} {a2 : Int} {a3 : Int} (hd : zD mt.1.2 pc (.invokestatic idx) 3 pc') (hlink : Cond.methodLink mt.1.1.cls idx yJ1_indexOf_4cfef ∈ zTB) (hroom : 1 + 1 ≤ mt.2.2.2.1 ∧ 8 + (4 + 11) + 25 ≤ mt.2.2.2.2) (hrest : (rest.map fun v => v.category).sum ≤ 8) (h : zC X m_J1_indexOf_4cfef [a0, vi a1, vi a2, vi a3] σ (fun r σ1 => zE X mt pc' ls (r.toList ++ rest) σ1 Q)) : zE X mt pc ls (vi a3 :: vi a2 :: vi a1 :: a0 :: rest) σ Q :=
  e_invS (mz := m_J1_indexOf_4cfef) (As := [a0, vi a1, vi a2, vi a3]) (rest := rest) hd ok_J1_indexOf_4cfef ss_J1_indexOf_4cfef hlink hroom rfl (fun v hv => by
    simp only [List.mem_cons, List.not_mem_nil, or_false] at hv
    rcases hv with rfl | rfl | rfl | rfl <;> first | rfl | (exact z_okRA (by assumption))) (by
    cases a0 <;> first | (cases ha0; done) | skip
    all_goals exact Nat.le_of_ble_eq_true rfl) hrest rfl h
theorem iv_J1_indexOfChar_4cfef {a0 : Value} (ha0 : z_okR a0 = true) {a1 : Int} {a2 : Int} {a3 : Int} (hd : zD mt.1.2 pc (.invokestatic idx) 3 pc') (hlink : Cond.methodLink mt.1.1.cls idx yJ1_indexOfChar_4cfef ∈ zTB) (hroom : 0 + 1 ≤ mt.2.2.2.1 ∧ 8 + (6 + 11) + 0 ≤ mt.2.2.2.2) (hrest : (rest.map fun v => v.category).sum ≤ 8) (h : zC X m_J1_indexOfChar_4cfef [a0, vi a1, vi a2, vi a3] σ (fun r σ1 => zE X mt pc' ls (r.toList ++ rest) σ1 Q)) : zE X mt pc ls (vi a3 :: vi a2 :: vi a1 :: a0 :: rest) σ Q :=
  e_invS (mz := m_J1_indexOfChar_4cfef) (As := [a0, vi a1, vi a2, vi a3]) (rest := rest) hd ok_J1_indexOfChar_4cfef ss_J1_indexOfChar_4cfef hlink hroom rfl (fun v hv => by
    simp only [List.mem_cons, List.not_mem_nil, or_false] at hv
    rcases hv with rfl | rfl | rfl | rfl <;> first | rfl | (exact z_okRA (by assumption))) (by
    cases a0 <;> first | (cases ha0; done) | skip
    all_goals exact Nat.le_of_ble_eq_true rfl) hrest rfl h
end ZIV
/-! what stands at the fixed places -/
theorem a3 {s : zK} (hB : zB0 s) : zA s 3 (11, 0) := hB.at 3 (by decide) (by decide) rfl
theorem a4 {s : zK} (hB : zB0 s) : zA s 4 (20, 20) := hB.at 4 (by decide) (by decide) rfl
theorem a5 {s : zK} (hB : zB0 s) : zA s 5 (23, 48) := hB.at 5 (by decide) (by decide) rfl
theorem a6 {s : zK} (hB : zB0 s) : zA s 6 (20, 8) := hB.at 6 (by decide) (by decide) rfl
theorem a7 {s : zK} (hB : zB0 s) : zA s 7 (0, 0) := hB.at 7 (by decide) (by decide) rfl
theorem a8 {s : zK} (hB : zB0 s) : zA s 8 (20, 9) := hB.at 8 (by decide) (by decide) rfl
theorem a9 {s : zK} (hB : zB0 s) : zA s 9 (20, 9) := hB.at 9 (by decide) (by decide) rfl
theorem a10 {s : zK} (hB : zB0 s) : zA s 10 (26, 20) := hB.at 10 (by decide) (by decide) rfl
theorem a11 {s : zK} (hB : zB0 s) : zA s 11 (24, 20) := hB.at 11 (by decide) (by decide) rfl
theorem a12 {s : zK} (hB : zB0 s) : zA s 12 (10, 0) := hB.at 12 (by decide) (by decide) rfl
theorem a13 {s : zK} (hB : zB0 s) : zA s 13 (22, 40) := hB.at 13 (by decide) (by decide) rfl
theorem a14 {s : zK} (hB : zB0 s) : zA s 14 (3, 0) := hB.at 14 (by decide) (by decide) rfl
theorem a15 {s : zK} (hB : zB0 s) : zA s 15 (20, 3) := hB.at 15 (by decide) (by decide) rfl
theorem a16 {s : zK} (hB : zB0 s) : zA s 16 (20, 3) := hB.at 16 (by decide) (by decide) rfl
theorem a17 {s : zK} (hB : zB0 s) : zA s 17 (3, 0) := hB.at 17 (by decide) (by decide) rfl
theorem a18 {s : zK} (hB : zB0 s) : zA s 18 (20, 3) := hB.at 18 (by decide) (by decide) rfl
theorem a19 {s : zK} (hB : zB0 s) : zA s 19 (20, 3) := hB.at 19 (by decide) (by decide) rfl
theorem a20 {s : zK} (hB : zB0 s) : zA s 20 (25, 4) := hB.at 20 (by decide) (by decide) rfl
theorem a21 {s : zK} (hB : zB0 s) : zA s 21 (6, 0) := hB.at 21 (by decide) (by decide) rfl
theorem a22 {s : zK} (hB : zB0 s) : zA s 22 (20, 40) := hB.at 22 (by decide) (by decide) rfl
theorem a23 {s : zK} (hB : zB0 s) : zA s 23 (20, 40) := hB.at 23 (by decide) (by decide) rfl
theorem a24 {s : zK} (hB : zB0 s) : zA s 24 (21, 48) := hB.at 24 (by decide) (by decide) rfl
theorem a25 {s : zK} (hB : zB0 s) : zA s 25 (1, 0) := hB.at 25 (by decide) (by decide) rfl
theorem a26 {s : zK} (hB : zB0 s) : zA s 26 (20, 6) := hB.at 26 (by decide) (by decide) rfl
theorem a27 {s : zK} (hB : zB0 s) : zA s 27 (20, 6) := hB.at 27 (by decide) (by decide) rfl
theorem a28 {s : zK} (hB : zB0 s) : zA s 28 (20, 64) := hB.at 28 (by decide) (by decide) rfl
theorem a29 {s : zK} (hB : zB0 s) : zA s 29 (20, 64) := hB.at 29 (by decide) (by decide) rfl
theorem a30 {s : zK} (hB : zB0 s) : zA s 30 (20, 48) := hB.at 30 (by decide) (by decide) rfl
theorem a31 {s : zK} (hB : zB0 s) : zA s 31 (7, 0) := hB.at 31 (by decide) (by decide) rfl
theorem a32 {s : zK} (hB : zB0 s) : zA s 32 (20, 20) := hB.at 32 (by decide) (by decide) rfl
theorem a33 {s : zK} (hB : zB0 s) : zA s 33 (7, 0) := hB.at 33 (by decide) (by decide) rfl
theorem a34 {s : zK} (hB : zB0 s) : zA s 34 (20, 20) := hB.at 34 (by decide) (by decide) rfl
theorem a35 {s : zK} (hB : zB0 s) : zA s 35 (7, 0) := hB.at 35 (by decide) (by decide) rfl
theorem a36 {s : zK} (hB : zB0 s) : zA s 36 (20, 20) := hB.at 36 (by decide) (by decide) rfl
theorem a37 {s : zK} (hB : zB0 s) : zA s 37 (7, 0) := hB.at 37 (by decide) (by decide) rfl
theorem a38 {s : zK} (hB : zB0 s) : zA s 38 (20, 20) := hB.at 38 (by decide) (by decide) rfl
theorem a39 {s : zK} (hB : zB0 s) : zA s 39 (12, 0) := hB.at 39 (by decide) (by decide) rfl
theorem a40 {s : zK} (hB : zB0 s) : zA s 40 (20, 20) := hB.at 40 (by decide) (by decide) rfl
theorem a41 {s : zK} (hB : zB0 s) : zA s 41 (20, 48) := hB.at 41 (by decide) (by decide) rfl
theorem a42 {s : zK} (hB : zB0 s) : zA s 42 (20, 48) := hB.at 42 (by decide) (by decide) rfl
theorem a43 {s : zK} (hB : zB0 s) : zA s 43 (20, 48) := hB.at 43 (by decide) (by decide) rfl
theorem a44 {s : zK} (hB : zB0 s) : zA s 44 (20, 48) := hB.at 44 (by decide) (by decide) rfl
theorem a45 {s : zK} (hB : zB0 s) : zA s 45 (21, 48) := hB.at 45 (by decide) (by decide) rfl
theorem a46 {s : zK} (hB : zB0 s) : zA s 46 (20, 48) := hB.at 46 (by decide) (by decide) rfl
theorem a47 {s : zK} (hB : zB0 s) : zA s 47 (20, 48) := hB.at 47 (by decide) (by decide) rfl
theorem a48 {s : zK} (hB : zB0 s) : zA s 48 (20, 600) := hB.at 48 (by decide) (by decide) rfl
theorem a49 {s : zK} (hB : zB0 s) : zA s 49 (20, 600) := hB.at 49 (by decide) (by decide) rfl
theorem a50 {s : zK} (hB : zB0 s) : zA s 50 (20, 600) := hB.at 50 (by decide) (by decide) rfl
theorem a51 {s : zK} (hB : zB0 s) : zA s 51 (20, 40) := hB.at 51 (by decide) (by decide) rfl
theorem a52 {s : zK} (hB : zB0 s) : zA s 52 (20, 3) := hB.at 52 (by decide) (by decide) rfl
theorem a53 {s : zK} (hB : zB0 s) : zA s 53 (20, 3) := hB.at 53 (by decide) (by decide) rfl
theorem a54 {s : zK} (hB : zB0 s) : zA s 54 (20, 3) := hB.at 54 (by decide) (by decide) rfl
theorem a55 {s : zK} (hB : zB0 s) : zA s 55 (20, 3) := hB.at 55 (by decide) (by decide) rfl
theorem a56 {s : zK} (hB : zB0 s) : zA s 56 (20, 9) := hB.at 56 (by decide) (by decide) rfl
theorem a57 {s : zK} (hB : zB0 s) : zA s 57 (20, 9) := hB.at 57 (by decide) (by decide) rfl
theorem a58 {s : zK} (hB : zB0 s) : zA s 58 (20, 8) := hB.at 58 (by decide) (by decide) rfl
theorem a59 {s : zK} (hB : zB0 s) : zA s 59 (20, 4000) := hB.at 59 (by decide) (by decide) rfl
theorem a60 {s : zK} (hB : zB0 s) : zA s 60 (20, 4000) := hB.at 60 (by decide) (by decide) rfl
theorem a61 {s : zK} (hB : zB0 s) : zA s 61 (20, 4000) := hB.at 61 (by decide) (by decide) rfl
theorem a62 {s : zK} (hB : zB0 s) : zA s 62 (20, 4000) := hB.at 62 (by decide) (by decide) rfl
theorem a63 {s : zK} (hB : zB0 s) : zA s 63 (20, 20) := hB.at 63 (by decide) (by decide) rfl
theorem a64 {s : zK} (hB : zB0 s) : zA s 64 (20, 20) := hB.at 64 (by decide) (by decide) rfl
theorem a65 {s : zK} (hB : zB0 s) : zA s 65 (20, 20) := hB.at 65 (by decide) (by decide) rfl
theorem a66 {s : zK} (hB : zB0 s) : zA s 66 (20, 20) := hB.at 66 (by decide) (by decide) rfl
theorem a67 {s : zK} (hB : zB0 s) : zA s 67 (20, 6) := hB.at 67 (by decide) (by decide) rfl
theorem a68 {s : zK} (hB : zB0 s) : zA s 68 (20, 6) := hB.at 68 (by decide) (by decide) rfl
theorem a69 {s : zK} (hB : zB0 s) : zA s 69 (20, 6) := hB.at 69 (by decide) (by decide) rfl
theorem a70 {s : zK} (hB : zB0 s) : zA s 70 (20, 48) := hB.at 70 (by decide) (by decide) rfl
theorem a71 {s : zK} (hB : zB0 s) : zA s 71 (20, 8) := hB.at 71 (by decide) (by decide) rfl
theorem a72 {s : zK} (hB : zB0 s) : zA s 72 (21, 8) := hB.at 72 (by decide) (by decide) rfl
theorem a73 {s : zK} (hB : zB0 s) : zA s 73 (20, 48) := hB.at 73 (by decide) (by decide) rfl
theorem a74 {s : zK} (hB : zB0 s) : zA s 74 (20, 20) := hB.at 74 (by decide) (by decide) rfl
theorem a75 {s : zK} (hB : zB0 s) : zA s 75 (20, 20) := hB.at 75 (by decide) (by decide) rfl
theorem a76 {s : zK} (hB : zB0 s) : zA s 76 (20, 20) := hB.at 76 (by decide) (by decide) rfl
theorem a77 {s : zK} (hB : zB0 s) : zA s 77 (21, 20) := hB.at 77 (by decide) (by decide) rfl
theorem a78 {s : zK} (hB : zB0 s) : zA s 78 (21, 20) := hB.at 78 (by decide) (by decide) rfl
theorem a79 {s : zK} (hB : zB0 s) : zA s 79 (21, 960) := hB.at 79 (by decide) (by decide) rfl
theorem a80 {s : zK} (hB : zB0 s) : zA s 80 (20, 960) := hB.at 80 (by decide) (by decide) rfl
theorem a81 {s : zK} (hB : zB0 s) : zA s 81 (20, 48) := hB.at 81 (by decide) (by decide) rfl
theorem a82 {s : zK} (hB : zB0 s) : zA s 82 (20, 4) := hB.at 82 (by decide) (by decide) rfl
theorem a83 {s : zK} (hB : zB0 s) : zA s 83 (20, 4) := hB.at 83 (by decide) (by decide) rfl
theorem a84 {s : zK} (hB : zB0 s) : zA s 84 (20, 80) := hB.at 84 (by decide) (by decide) rfl
theorem a85 {s : zK} (hB : zB0 s) : zA s 85 (20, 40) := hB.at 85 (by decide) (by decide) rfl
theorem a86 {s : zK} (hB : zB0 s) : zA s 86 (20, 40) := hB.at 86 (by decide) (by decide) rfl
theorem a87 {s : zK} (hB : zB0 s) : zA s 87 (21, 48) := hB.at 87 (by decide) (by decide) rfl
