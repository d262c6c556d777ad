/-! THE METHODS (printed by wip/whole/gen/words.py) -/
def m_X0_init : zM := ((yX0_init, cX0_init), 1, none, 1, 12)
theorem ok_X0_init : z_okM m_X0_init 0 := ⟨by decide +kernel, zTB_of (List.mem_of_getElem? (i := 117) (by decide +kernel)) rfl, ini_X0, by decide +kernel⟩
theorem im_X0_init : Cond.instanceMethod yX0_init ∈ zTB := zTB_of (List.mem_of_getElem? (i := 116) (by decide +kernel)) rfl
def m_X0_put : zM := ((yX0_put, cX0_put), 3, none, 0, 0)
theorem ok_X0_put : z_okM m_X0_put 2 := ⟨by decide +kernel, zTB_of (List.mem_of_getElem? (i := 651) (by decide +kernel)) rfl, ini_X0, by decide +kernel⟩
theorem im_X0_put : Cond.instanceMethod yX0_put ∈ zTB := zTB_of (List.mem_of_getElem? (i := 649) (by decide +kernel)) rfl
theorem se_X0_put : Cond.selects RX0 yX0_put yX0_put ∈ zTB := zTB_of (List.mem_of_getElem? (i := 650) (by decide +kernel)) rfl
def m_X0_endAround : zM := ((yX0_endAround, cX0_endAround), 3, (some .int), 0, 0)
theorem ok_X0_endAround : z_okM m_X0_endAround 1 := ⟨by decide +kernel, zTB_of (List.mem_of_getElem? (i := 797) (by decide +kernel)) rfl, ini_X0, by decide +kernel⟩
theorem im_X0_endAround : Cond.instanceMethod yX0_endAround ∈ zTB := zTB_of (List.mem_of_getElem? (i := 795) (by decide +kernel)) rfl
theorem se_X0_endAround : Cond.selects RX0 yX0_endAround yX0_endAround ∈ zTB := zTB_of (List.mem_of_getElem? (i := 796) (by decide +kernel)) rfl
def m_X1_init : zM := ((yX1_init, cX1_init), 1, none, 1, 12)
theorem ok_X1_init : z_okM m_X1_init 0 := ⟨by decide +kernel, zTB_of (List.mem_of_getElem? (i := 207) (by decide +kernel)) rfl, ini_X1, by decide +kernel⟩
theorem im_X1_init : Cond.instanceMethod yX1_init ∈ zTB := zTB_of (List.mem_of_getElem? (i := 206) (by decide +kernel)) rfl
def m_X1_clear : zM := ((yX1_clear, cX1_clear), 1, none, 0, 0)
theorem ok_X1_clear : z_okM m_X1_clear 0 := ⟨by decide +kernel, zTB_of (List.mem_of_getElem? (i := 810) (by decide +kernel)) rfl, ini_X1, by decide +kernel⟩
theorem im_X1_clear : Cond.instanceMethod yX1_clear ∈ zTB := zTB_of (List.mem_of_getElem? (i := 808) (by decide +kernel)) rfl
theorem se_X1_clear : Cond.selects RX1 yX1_clear yX1_clear ∈ zTB := zTB_of (List.mem_of_getElem? (i := 809) (by decide +kernel)) rfl
def m_X1_put : zM := ((yX1_put, cX1_put), 3, none, 0, 0)
theorem ok_X1_put : z_okM m_X1_put 2 := ⟨by decide +kernel, zTB_of (List.mem_of_getElem? (i := 814) (by decide +kernel)) rfl, ini_X1, by decide +kernel⟩
theorem im_X1_put : Cond.instanceMethod yX1_put ∈ zTB := zTB_of (List.mem_of_getElem? (i := 812) (by decide +kernel)) rfl
theorem se_X1_put : Cond.selects RX1 yX1_put yX1_put ∈ zTB := zTB_of (List.mem_of_getElem? (i := 813) (by decide +kernel)) rfl
def m_X1_begin : zM := ((yX1_begin, cX1_begin), 2, none, 0, 0)
theorem ok_X1_begin : z_okM m_X1_begin 0 := ⟨by decide +kernel, zTB_of (List.mem_of_getElem? (i := 818) (by decide +kernel)) rfl, ini_X1, by decide +kernel⟩
theorem im_X1_begin : Cond.instanceMethod yX1_begin ∈ zTB := zTB_of (List.mem_of_getElem? (i := 816) (by decide +kernel)) rfl
theorem se_X1_begin : Cond.selects RX1 yX1_begin yX1_begin ∈ zTB := zTB_of (List.mem_of_getElem? (i := 817) (by decide +kernel)) rfl
def m_X1_offer : zM := ((yX1_offer, cX1_offer), 6, none, 2, 44)
theorem ok_X1_offer : z_okM m_X1_offer 3 := ⟨by decide +kernel, zTB_of (List.mem_of_getElem? (i := 842) (by decide +kernel)) rfl, ini_X1, by decide +kernel⟩
theorem im_X1_offer : Cond.instanceMethod yX1_offer ∈ zTB := zTB_of (List.mem_of_getElem? (i := 840) (by decide +kernel)) rfl
theorem se_X1_offer : Cond.selects RX1 yX1_offer yX1_offer ∈ zTB := zTB_of (List.mem_of_getElem? (i := 841) (by decide +kernel)) rfl
def m_X1_addUp : zM := ((yX1_addUp, cX1_addUp), 5, none, 1, 20)
theorem ok_X1_addUp : z_okM m_X1_addUp 1 := ⟨by decide +kernel, zTB_of (List.mem_of_getElem? (i := 846) (by decide +kernel)) rfl, ini_X1, by decide +kernel⟩
theorem im_X1_addUp : Cond.instanceMethod yX1_addUp ∈ zTB := zTB_of (List.mem_of_getElem? (i := 845) (by decide +kernel)) rfl
theorem se_X1_addUp : Cond.selects RX1 yX1_addUp yX1_addUp ∈ zTB := zTB_of (List.mem_of_getElem? (i := 32) (by decide +kernel)) rfl
def m_X1_strikeOut : zM := ((yX1_strikeOut, cX1_strikeOut), 5, none, 1, 20)
theorem ok_X1_strikeOut : z_okM m_X1_strikeOut 2 := ⟨by decide +kernel, zTB_of (List.mem_of_getElem? (i := 853) (by decide +kernel)) rfl, ini_X1, by decide +kernel⟩
theorem im_X1_strikeOut : Cond.instanceMethod yX1_strikeOut ∈ zTB := zTB_of (List.mem_of_getElem? (i := 852) (by decide +kernel)) rfl
theorem se_X1_strikeOut : Cond.selects RX1 yX1_strikeOut yX1_strikeOut ∈ zTB := zTB_of (List.mem_of_getElem? (i := 33) (by decide +kernel)) rfl
def m_X1_improve : zM := ((yX1_improve, cX1_improve), 4, none, 1, 21)
theorem ok_X1_improve : z_okM m_X1_improve 2 := ⟨by decide +kernel, zTB_of (List.mem_of_getElem? (i := 863) (by decide +kernel)) rfl, ini_X1, by decide +kernel⟩
theorem im_X1_improve : Cond.instanceMethod yX1_improve ∈ zTB := zTB_of (List.mem_of_getElem? (i := 862) (by decide +kernel)) rfl
theorem se_X1_improve : Cond.selects RX1 yX1_improve yX1_improve ∈ zTB := zTB_of (List.mem_of_getElem? (i := 34) (by decide +kernel)) rfl
def m_X1_leastWay : zM := ((yX1_leastWay, cX1_leastWay), 1, (some .int), 0, 0)
theorem ok_X1_leastWay : z_okM m_X1_leastWay 0 := ⟨by decide +kernel, zTB_of (List.mem_of_getElem? (i := 872) (by decide +kernel)) rfl, ini_X1, by decide +kernel⟩
theorem im_X1_leastWay : Cond.instanceMethod yX1_leastWay ∈ zTB := zTB_of (List.mem_of_getElem? (i := 871) (by decide +kernel)) rfl
theorem se_X1_leastWay : Cond.selects RX1 yX1_leastWay yX1_leastWay ∈ zTB := zTB_of (List.mem_of_getElem? (i := 35) (by decide +kernel)) rfl
def m_X1_isPossible : zM := ((yX1_isPossible, cX1_isPossible), 1, (some .boolean), 1, 20)
theorem ok_X1_isPossible : z_okM m_X1_isPossible 0 := ⟨by decide +kernel, zTB_of (List.mem_of_getElem? (i := 868) (by decide +kernel)) rfl, ini_X1, by decide +kernel⟩
theorem im_X1_isPossible : Cond.instanceMethod yX1_isPossible ∈ zTB := zTB_of (List.mem_of_getElem? (i := 866) (by decide +kernel)) rfl
theorem se_X1_isPossible : Cond.selects RX1 yX1_isPossible yX1_isPossible ∈ zTB := zTB_of (List.mem_of_getElem? (i := 867) (by decide +kernel)) rfl
def m_X1_leastAsked : zM := ((yX1_leastAsked, cX1_leastAsked), 1, (some .int), 1, 20)
theorem ok_X1_leastAsked : z_okM m_X1_leastAsked 0 := ⟨by decide +kernel, zTB_of (List.mem_of_getElem? (i := 884) (by decide +kernel)) rfl, ini_X1, by decide +kernel⟩
theorem im_X1_leastAsked : Cond.instanceMethod yX1_leastAsked ∈ zTB := zTB_of (List.mem_of_getElem? (i := 882) (by decide +kernel)) rfl
theorem se_X1_leastAsked : Cond.selects RX1 yX1_leastAsked yX1_leastAsked ∈ zTB := zTB_of (List.mem_of_getElem? (i := 883) (by decide +kernel)) rfl
def m_X1_groupFor : zM := ((yX1_groupFor, cX1_groupFor), 2, (some .int), 1, 20)
theorem ok_X1_groupFor : z_okM m_X1_groupFor 1 := ⟨by decide +kernel, zTB_of (List.mem_of_getElem? (i := 880) (by decide +kernel)) rfl, ini_X1, by decide +kernel⟩
theorem im_X1_groupFor : Cond.instanceMethod yX1_groupFor ∈ zTB := zTB_of (List.mem_of_getElem? (i := 878) (by decide +kernel)) rfl
theorem se_X1_groupFor : Cond.selects RX1 yX1_groupFor yX1_groupFor ∈ zTB := zTB_of (List.mem_of_getElem? (i := 879) (by decide +kernel)) rfl
def m_X1_shiftOf : zM := ((yX1_shiftOf, cX1_shiftOf), 1, (some .int), 0, 0)
theorem ok_X1_shiftOf : z_okM m_X1_shiftOf 1 := ⟨by decide +kernel, zTB_of (List.mem_of_getElem? (i := 849) (by decide +kernel)) rfl, ini_X1, by decide +kernel⟩
theorem ss_X1_shiftOf : Cond.static yX1_shiftOf ∈ zTB := zTB_of (List.mem_of_getElem? (i := 848) (by decide +kernel)) rfl
def m_X2_init : zM := ((yX2_init, cX2_init), 3, none, 1, 12)
theorem ok_X2_init : z_okM m_X2_init 2 := ⟨by decide +kernel, zTB_of (List.mem_of_getElem? (i := 458) (by decide +kernel)) rfl, ini_X2, by decide +kernel⟩
theorem im_X2_init : Cond.instanceMethod yX2_init ∈ zTB := zTB_of (List.mem_of_getElem? (i := 457) (by decide +kernel)) rfl
def m_X3_init : zM := ((yX3_init, cX3_init), 1, none, 1, 21)
theorem ok_X3_init : z_okM m_X3_init 0 := ⟨by decide +kernel, zTB_of (List.mem_of_getElem? (i := 160) (by decide +kernel)) rfl, ini_X3, by decide +kernel⟩
theorem im_X3_init : Cond.instanceMethod yX3_init ∈ zTB := zTB_of (List.mem_of_getElem? (i := 159) (by decide +kernel)) rfl
def m_X3_clear : zM := ((yX3_clear, cX3_clear), 2, none, 0, 0)
theorem ok_X3_clear : z_okM m_X3_clear 0 := ⟨by decide +kernel, zTB_of (List.mem_of_getElem? (i := 165) (by decide +kernel)) rfl, ini_X3, by decide +kernel⟩
theorem im_X3_clear : Cond.instanceMethod yX3_clear ∈ zTB := zTB_of (List.mem_of_getElem? (i := 163) (by decide +kernel)) rfl
theorem se_X3_clear : Cond.selects RX3 yX3_clear yX3_clear ∈ zTB := zTB_of (List.mem_of_getElem? (i := 164) (by decide +kernel)) rfl
def m_X3_setAges : zM := ((yX3_setAges, cX3_setAges), 4, none, 0, 0)
theorem ok_X3_setAges : z_okM m_X3_setAges 3 := ⟨by decide +kernel, zTB_of (List.mem_of_getElem? (i := 234) (by decide +kernel)) rfl, ini_X3, by decide +kernel⟩
theorem im_X3_setAges : Cond.instanceMethod yX3_setAges ∈ zTB := zTB_of (List.mem_of_getElem? (i := 232) (by decide +kernel)) rfl
theorem se_X3_setAges : Cond.selects RX3 yX3_setAges yX3_setAges ∈ zTB := zTB_of (List.mem_of_getElem? (i := 233) (by decide +kernel)) rfl
def m_X3_bind : zM := ((yX3_bind, cX3_bind), 3, (some .boolean), 0, 0)
theorem ok_X3_bind : z_okM m_X3_bind 2 := ⟨by decide +kernel, zTB_of (List.mem_of_getElem? (i := 643) (by decide +kernel)) rfl, ini_X3, by decide +kernel⟩
theorem im_X3_bind : Cond.instanceMethod yX3_bind ∈ zTB := zTB_of (List.mem_of_getElem? (i := 641) (by decide +kernel)) rfl
theorem se_X3_bind : Cond.selects RX3 yX3_bind yX3_bind ∈ zTB := zTB_of (List.mem_of_getElem? (i := 642) (by decide +kernel)) rfl
def m_X4_init : zM := ((yX4_init, cX4_init), 7, none, 1, 12)
theorem ok_X4_init : z_okM m_X4_init 6 := ⟨by decide +kernel, zTB_of (List.mem_of_getElem? (i := 345) (by decide +kernel)) rfl, ini_X4, by decide +kernel⟩
theorem im_X4_init : Cond.instanceMethod yX4_init ∈ zTB := zTB_of (List.mem_of_getElem? (i := 344) (by decide +kernel)) rfl
def m_X4_ageOn : zM := ((yX4_ageOn, cX4_ageOn), 2, (some .int), 0, 0)
theorem ok_X4_ageOn : z_okM m_X4_ageOn 1 := ⟨by decide +kernel, zTB_of (List.mem_of_getElem? (i := 406) (by decide +kernel)) rfl, ini_X4, by decide +kernel⟩
theorem im_X4_ageOn : Cond.instanceMethod yX4_ageOn ∈ zTB := zTB_of (List.mem_of_getElem? (i := 404) (by decide +kernel)) rfl
theorem se_X4_ageOn : Cond.selects RX4 yX4_ageOn yX4_ageOn ∈ zTB := zTB_of (List.mem_of_getElem? (i := 405) (by decide +kernel)) rfl
def m_X4_weight : zM := ((yX4_weight, cX4_weight), 1, (some .int), 0, 0)
theorem ok_X4_weight : z_okM m_X4_weight 0 := ⟨by decide +kernel, zTB_of (List.mem_of_getElem? (i := 441) (by decide +kernel)) rfl, ini_X4, by decide +kernel⟩
theorem im_X4_weight : Cond.instanceMethod yX4_weight ∈ zTB := zTB_of (List.mem_of_getElem? (i := 439) (by decide +kernel)) rfl
theorem se_X4_weight : Cond.selects RX4 yX4_weight yX4_weight ∈ zTB := zTB_of (List.mem_of_getElem? (i := 440) (by decide +kernel)) rfl
def m_X4_isDead : zM := ((yX4_isDead, cX4_isDead), 1, (some .boolean), 0, 0)
theorem ok_X4_isDead : z_okM m_X4_isDead 0 := ⟨by decide +kernel, zTB_of (List.mem_of_getElem? (i := 395) (by decide +kernel)) rfl, ini_X4, by decide +kernel⟩
theorem im_X4_isDead : Cond.instanceMethod yX4_isDead ∈ zTB := zTB_of (List.mem_of_getElem? (i := 393) (by decide +kernel)) rfl
theorem se_X4_isDead : Cond.selects RX4 yX4_isDead yX4_isDead ∈ zTB := zTB_of (List.mem_of_getElem? (i := 394) (by decide +kernel)) rfl
def m_X4_isAway : zM := ((yX4_isAway, cX4_isAway), 1, (some .boolean), 0, 0)
theorem ok_X4_isAway : z_okM m_X4_isAway 0 := ⟨by decide +kernel, zTB_of (List.mem_of_getElem? (i := 453) (by decide +kernel)) rfl, ini_X4, by decide +kernel⟩
theorem im_X4_isAway : Cond.instanceMethod yX4_isAway ∈ zTB := zTB_of (List.mem_of_getElem? (i := 451) (by decide +kernel)) rfl
theorem se_X4_isAway : Cond.selects RX4 yX4_isAway yX4_isAway ∈ zTB := zTB_of (List.mem_of_getElem? (i := 452) (by decide +kernel)) rfl
def m_X4_latestMove : zM := ((yX4_latestMove, cX4_latestMove), 1, (some .int), 1, 21)
theorem ok_X4_latestMove : z_okM m_X4_latestMove 0 := ⟨by decide +kernel, zTB_of (List.mem_of_getElem? (i := 414) (by decide +kernel)) rfl, ini_X4, by decide +kernel⟩
theorem im_X4_latestMove : Cond.instanceMethod yX4_latestMove ∈ zTB := zTB_of (List.mem_of_getElem? (i := 412) (by decide +kernel)) rfl
theorem se_X4_latestMove : Cond.selects RX4 yX4_latestMove yX4_latestMove ∈ zTB := zTB_of (List.mem_of_getElem? (i := 413) (by decide +kernel)) rfl
def m_X4_isThereOn : zM := ((yX4_isThereOn, cX4_isThereOn), 2, (some .boolean), 1, 22)
theorem ok_X4_isThereOn : z_okM m_X4_isThereOn 1 := ⟨by decide +kernel, zTB_of (List.mem_of_getElem? (i := 488) (by decide +kernel)) rfl, ini_X4, by decide +kernel⟩
theorem im_X4_isThereOn : Cond.instanceMethod yX4_isThereOn ∈ zTB := zTB_of (List.mem_of_getElem? (i := 486) (by decide +kernel)) rfl
theorem se_X4_isThereOn : Cond.selects RX4 yX4_isThereOn yX4_isThereOn ∈ zTB := zTB_of (List.mem_of_getElem? (i := 487) (by decide +kernel)) rfl
def m_X4_isAwayOn : zM := ((yX4_isAwayOn, cX4_isAwayOn), 3, (some .boolean), 0, 0)
theorem ok_X4_isAwayOn : z_okM m_X4_isAwayOn 1 := ⟨by decide +kernel, zTB_of (List.mem_of_getElem? (i := 493) (by decide +kernel)) rfl, ini_X4, by decide +kernel⟩
theorem im_X4_isAwayOn : Cond.instanceMethod yX4_isAwayOn ∈ zTB := zTB_of (List.mem_of_getElem? (i := 492) (by decide +kernel)) rfl
theorem se_X4_isAwayOn : Cond.selects RX4 yX4_isAwayOn yX4_isAwayOn ∈ zTB := zTB_of (List.mem_of_getElem? (i := 9) (by decide +kernel)) rfl
def m_X4_mayJoin : zM := ((yX4_mayJoin, cX4_mayJoin), 2, (some .boolean), 0, 0)
theorem ok_X4_mayJoin : z_okM m_X4_mayJoin 1 := ⟨by decide +kernel, zTB_of (List.mem_of_getElem? (i := 667) (by decide +kernel)) rfl, ini_X4, by decide +kernel⟩
theorem im_X4_mayJoin : Cond.instanceMethod yX4_mayJoin ∈ zTB := zTB_of (List.mem_of_getElem? (i := 665) (by decide +kernel)) rfl
theorem se_X4_mayJoin : Cond.selects RX4 yX4_mayJoin yX4_mayJoin ∈ zTB := zTB_of (List.mem_of_getElem? (i := 666) (by decide +kernel)) rfl
def m_X4_spellOn : zM := ((yX4_spellOn, cX4_spellOn), 4, (some (.object "TenForOne$Spell")), 2, 43)
theorem ok_X4_spellOn : z_okM m_X4_spellOn 1 := ⟨by decide +kernel, zTB_of (List.mem_of_getElem? (i := 679) (by decide +kernel)) rfl, ini_X4, by decide +kernel⟩
theorem im_X4_spellOn : Cond.instanceMethod yX4_spellOn ∈ zTB := zTB_of (List.mem_of_getElem? (i := 677) (by decide +kernel)) rfl
theorem se_X4_spellOn : Cond.selects RX4 yX4_spellOn yX4_spellOn ∈ zTB := zTB_of (List.mem_of_getElem? (i := 678) (by decide +kernel)) rfl
def m_X4_groupOn : zM := ((yX4_groupOn, cX4_groupOn), 3, (some .int), 3, 66)
theorem ok_X4_groupOn : z_okM m_X4_groupOn 1 := ⟨by decide +kernel, zTB_of (List.mem_of_getElem? (i := 675) (by decide +kernel)) rfl, ini_X4, by decide +kernel⟩
theorem im_X4_groupOn : Cond.instanceMethod yX4_groupOn ∈ zTB := zTB_of (List.mem_of_getElem? (i := 673) (by decide +kernel)) rfl
theorem se_X4_groupOn : Cond.selects RX4 yX4_groupOn yX4_groupOn ∈ zTB := zTB_of (List.mem_of_getElem? (i := 674) (by decide +kernel)) rfl
def m_X5_init : zM := ((yX5_init, cX5_init), 5, none, 1, 12)
theorem ok_X5_init : z_okM m_X5_init 4 := ⟨by decide +kernel, zTB_of (List.mem_of_getElem? (i := 900) (by decide +kernel)) rfl, ini_X5, by decide +kernel⟩
theorem im_X5_init : Cond.instanceMethod yX5_init ∈ zTB := zTB_of (List.mem_of_getElem? (i := 899) (by decide +kernel)) rfl
def m_X5_isBrought : zM := ((yX5_isBrought, cX5_isBrought), 1, (some .boolean), 0, 0)
theorem ok_X5_isBrought : z_okM m_X5_isBrought 0 := ⟨by decide +kernel, zTB_of (List.mem_of_getElem? (i := 952) (by decide +kernel)) rfl, ini_X5, by decide +kernel⟩
theorem im_X5_isBrought : Cond.instanceMethod yX5_isBrought ∈ zTB := zTB_of (List.mem_of_getElem? (i := 950) (by decide +kernel)) rfl
theorem se_X5_isBrought : Cond.selects RX5 yX5_isBrought yX5_isBrought ∈ zTB := zTB_of (List.mem_of_getElem? (i := 951) (by decide +kernel)) rfl
def m_X5_isDueOn : zM := ((yX5_isDueOn, cX5_isDueOn), 2, (some .boolean), 1, 20)
theorem ok_X5_isDueOn : z_okM m_X5_isDueOn 1 := ⟨by decide +kernel, zTB_of (List.mem_of_getElem? (i := 960) (by decide +kernel)) rfl, ini_X5, by decide +kernel⟩
theorem im_X5_isDueOn : Cond.instanceMethod yX5_isDueOn ∈ zTB := zTB_of (List.mem_of_getElem? (i := 958) (by decide +kernel)) rfl
theorem se_X5_isDueOn : Cond.selects RX5 yX5_isDueOn yX5_isDueOn ∈ zTB := zTB_of (List.mem_of_getElem? (i := 959) (by decide +kernel)) rfl
def m_X5_state : zM := ((yX5_state, cX5_state), 1, (some .int), 1, 20)
theorem ok_X5_state : z_okM m_X5_state 0 := ⟨by decide +kernel, zTB_of (List.mem_of_getElem? (i := 948) (by decide +kernel)) rfl, ini_X5, by decide +kernel⟩
theorem im_X5_state : Cond.instanceMethod yX5_state ∈ zTB := zTB_of (List.mem_of_getElem? (i := 946) (by decide +kernel)) rfl
theorem se_X5_state : Cond.selects RX5 yX5_state yX5_state ∈ zTB := zTB_of (List.mem_of_getElem? (i := 947) (by decide +kernel)) rfl
def m_X6_init : zM := ((yX6_init, cX6_init), 1, none, 1, 12)
theorem ok_X6_init : z_okM m_X6_init 0 := ⟨by decide +kernel, zTB_of (List.mem_of_getElem? (i := 184) (by decide +kernel)) rfl, ini_X6, by decide +kernel⟩
theorem im_X6_init : Cond.instanceMethod yX6_init ∈ zTB := zTB_of (List.mem_of_getElem? (i := 183) (by decide +kernel)) rfl
def m_X6_begin : zM := ((yX6_begin, cX6_begin), 4, none, 1, 20)
theorem ok_X6_begin : z_okM m_X6_begin 1 := ⟨by decide +kernel, zTB_of (List.mem_of_getElem? (i := 1034) (by decide +kernel)) rfl, ini_X6, by decide +kernel⟩
theorem im_X6_begin : Cond.instanceMethod yX6_begin ∈ zTB := zTB_of (List.mem_of_getElem? (i := 1032) (by decide +kernel)) rfl
theorem se_X6_begin : Cond.selects RX6 yX6_begin yX6_begin ∈ zTB := zTB_of (List.mem_of_getElem? (i := 1033) (by decide +kernel)) rfl
def m_X6_putMember : zM := ((yX6_putMember, cX6_putMember), 3, none, 0, 0)
theorem ok_X6_putMember : z_okM m_X6_putMember 2 := ⟨by decide +kernel, zTB_of (List.mem_of_getElem? (i := 1039) (by decide +kernel)) rfl, ini_X6, by decide +kernel⟩
theorem im_X6_putMember : Cond.instanceMethod yX6_putMember ∈ zTB := zTB_of (List.mem_of_getElem? (i := 1037) (by decide +kernel)) rfl
theorem se_X6_putMember : Cond.selects RX6 yX6_putMember yX6_putMember ∈ zTB := zTB_of (List.mem_of_getElem? (i := 1038) (by decide +kernel)) rfl
def m_X6_leftOutOf : zM := ((yX6_leftOutOf, cX6_leftOutOf), 2, (some .int), 1, 21)
theorem ok_X6_leftOutOf : z_okM m_X6_leftOutOf 1 := ⟨by decide +kernel, zTB_of (List.mem_of_getElem? (i := 1047) (by decide +kernel)) rfl, ini_X6, by decide +kernel⟩
theorem im_X6_leftOutOf : Cond.instanceMethod yX6_leftOutOf ∈ zTB := zTB_of (List.mem_of_getElem? (i := 1045) (by decide +kernel)) rfl
theorem se_X6_leftOutOf : Cond.selects RX6 yX6_leftOutOf yX6_leftOutOf ∈ zTB := zTB_of (List.mem_of_getElem? (i := 1046) (by decide +kernel)) rfl
def m_X6_leftOutOfAll : zM := ((yX6_leftOutOfAll, cX6_leftOutOfAll), 3, (some .int), 2, 42)
theorem ok_X6_leftOutOfAll : z_okM m_X6_leftOutOfAll 0 := ⟨by decide +kernel, zTB_of (List.mem_of_getElem? (i := 1043) (by decide +kernel)) rfl, ini_X6, by decide +kernel⟩
theorem im_X6_leftOutOfAll : Cond.instanceMethod yX6_leftOutOfAll ∈ zTB := zTB_of (List.mem_of_getElem? (i := 1041) (by decide +kernel)) rfl
theorem se_X6_leftOutOfAll : Cond.selects RX6 yX6_leftOutOfAll yX6_leftOutOfAll ∈ zTB := zTB_of (List.mem_of_getElem? (i := 1042) (by decide +kernel)) rfl
def m_X7_init : zM := ((yX7_init, cX7_init), 1, none, 1, 12)
theorem ok_X7_init : z_okM m_X7_init 0 := ⟨by decide +kernel, zTB_of (List.mem_of_getElem? (i := 238) (by decide +kernel)) rfl, ini_X7, by decide +kernel⟩
theorem im_X7_init : Cond.instanceMethod yX7_init ∈ zTB := zTB_of (List.mem_of_getElem? (i := 237) (by decide +kernel)) rfl
def m_X7_isNothing : zM := ((yX7_isNothing, cX7_isNothing), 1, (some .boolean), 0, 0)
theorem ok_X7_isNothing : z_okM m_X7_isNothing 0 := ⟨by decide +kernel, zTB_of (List.mem_of_getElem? (i := 1014) (by decide +kernel)) rfl, ini_X7, by decide +kernel⟩
theorem im_X7_isNothing : Cond.instanceMethod yX7_isNothing ∈ zTB := zTB_of (List.mem_of_getElem? (i := 1012) (by decide +kernel)) rfl
theorem se_X7_isNothing : Cond.selects RX7 yX7_isNothing yX7_isNothing ∈ zTB := zTB_of (List.mem_of_getElem? (i := 1013) (by decide +kernel)) rfl
def m_X7_renew : zM := ((yX7_renew, cX7_renew), 4, none, 1, 21)
theorem ok_X7_renew : z_okM m_X7_renew 2 := ⟨by decide +kernel, zTB_of (List.mem_of_getElem? (i := 1004) (by decide +kernel)) rfl, ini_X7, by decide +kernel⟩
theorem im_X7_renew : Cond.instanceMethod yX7_renew ∈ zTB := zTB_of (List.mem_of_getElem? (i := 1002) (by decide +kernel)) rfl
theorem se_X7_renew : Cond.selects RX7 yX7_renew yX7_renew ∈ zTB := zTB_of (List.mem_of_getElem? (i := 1003) (by decide +kernel)) rfl
def m_X7_put : zM := ((yX7_put, cX7_put), 3, none, 0, 0)
theorem ok_X7_put : z_okM m_X7_put 2 := ⟨by decide +kernel, zTB_of (List.mem_of_getElem? (i := 1026) (by decide +kernel)) rfl, ini_X7, by decide +kernel⟩
theorem im_X7_put : Cond.instanceMethod yX7_put ∈ zTB := zTB_of (List.mem_of_getElem? (i := 1024) (by decide +kernel)) rfl
theorem se_X7_put : Cond.selects RX7 yX7_put yX7_put ∈ zTB := zTB_of (List.mem_of_getElem? (i := 1025) (by decide +kernel)) rfl
def m_X8_init : zM := ((yX8_init, cX8_init), 4, none, 1, 12)
theorem ok_X8_init : z_okM m_X8_init 3 := ⟨by decide +kernel, zTB_of (List.mem_of_getElem? (i := 689) (by decide +kernel)) rfl, ini_X8, by decide +kernel⟩
theorem im_X8_init : Cond.instanceMethod yX8_init ∈ zTB := zTB_of (List.mem_of_getElem? (i := 688) (by decide +kernel)) rfl
def m_X9_init : zM := ((yX9_init, cX9_init), 5, none, 1, 12)
theorem ok_X9_init : z_okM m_X9_init 4 := ⟨by decide +kernel, zTB_of (List.mem_of_getElem? (i := 759) (by decide +kernel)) rfl, ini_X9, by decide +kernel⟩
theorem im_X9_init : Cond.instanceMethod yX9_init ∈ zTB := zTB_of (List.mem_of_getElem? (i := 758) (by decide +kernel)) rfl
def m_X10_init : zM := ((yX10_init, cX10_init), 1, none, 1, 12)
theorem ok_X10_init : z_okM m_X10_init 0 := ⟨by decide +kernel, zTB_of (List.mem_of_getElem? (i := 139) (by decide +kernel)) rfl, ini_X10, by decide +kernel⟩
theorem im_X10_init : Cond.instanceMethod yX10_init ∈ zTB := zTB_of (List.mem_of_getElem? (i := 138) (by decide +kernel)) rfl
def m_X10_put : zM := ((yX10_put, cX10_put), 2, none, 0, 0)
theorem ok_X10_put : z_okM m_X10_put 1 := ⟨by decide +kernel, zTB_of (List.mem_of_getElem? (i := 512) (by decide +kernel)) rfl, ini_X10, by decide +kernel⟩
theorem im_X10_put : Cond.instanceMethod yX10_put ∈ zTB := zTB_of (List.mem_of_getElem? (i := 510) (by decide +kernel)) rfl
theorem se_X10_put : Cond.selects RX10 yX10_put yX10_put ∈ zTB := zTB_of (List.mem_of_getElem? (i := 511) (by decide +kernel)) rfl
def m_X10_readInto : zM := ((yX10_readInto, cX10_readInto), 4, (some .int), 5, 115)
theorem ok_X10_readInto : z_okM m_X10_readInto 1 := ⟨by decide +kernel, zTB_of (List.mem_of_getElem? (i := 521) (by decide +kernel)) rfl, ini_X10, by decide +kernel⟩
theorem im_X10_readInto : Cond.instanceMethod yX10_readInto ∈ zTB := zTB_of (List.mem_of_getElem? (i := 519) (by decide +kernel)) rfl
theorem se_X10_readInto : Cond.selects RX10 yX10_readInto yX10_readInto ∈ zTB := zTB_of (List.mem_of_getElem? (i := 520) (by decide +kernel)) rfl
def m_X10_readClause : zM := ((yX10_readClause, cX10_readClause), 5, (some .boolean), 4, 91)
theorem ok_X10_readClause : z_okM m_X10_readClause 1 := ⟨by decide +kernel, zTB_of (List.mem_of_getElem? (i := 525) (by decide +kernel)) rfl, ini_X10, by decide +kernel⟩
theorem im_X10_readClause : Cond.instanceMethod yX10_readClause ∈ zTB := zTB_of (List.mem_of_getElem? (i := 524) (by decide +kernel)) rfl
theorem se_X10_readClause : Cond.selects RX10 yX10_readClause yX10_readClause ∈ zTB := zTB_of (List.mem_of_getElem? (i := 11) (by decide +kernel)) rfl
def m_X10_readAges : zM := ((yX10_readAges, cX10_readAges), 5, (some .boolean), 2, 45)
theorem ok_X10_readAges : z_okM m_X10_readAges 2 := ⟨by decide +kernel, zTB_of (List.mem_of_getElem? (i := 622) (by decide +kernel)) rfl, ini_X10, by decide +kernel⟩
theorem im_X10_readAges : Cond.instanceMethod yX10_readAges ∈ zTB := zTB_of (List.mem_of_getElem? (i := 621) (by decide +kernel)) rfl
theorem se_X10_readAges : Cond.selects RX10 yX10_readAges yX10_readAges ∈ zTB := zTB_of (List.mem_of_getElem? (i := 14) (by decide +kernel)) rfl
def m_X10_readNumber : zM := ((yX10_readNumber, cX10_readNumber), 5, (some .int), 1, 21)
theorem ok_X10_readNumber : z_okM m_X10_readNumber 2 := ⟨by decide +kernel, zTB_of (List.mem_of_getElem? (i := 626) (by decide +kernel)) rfl, ini_X10, by decide +kernel⟩
theorem im_X10_readNumber : Cond.instanceMethod yX10_readNumber ∈ zTB := zTB_of (List.mem_of_getElem? (i := 625) (by decide +kernel)) rfl
theorem se_X10_readNumber : Cond.selects RX10 yX10_readNumber yX10_readNumber ∈ zTB := zTB_of (List.mem_of_getElem? (i := 15) (by decide +kernel)) rfl
def m_X10_nextSign : zM := ((yX10_nextSign, cX10_nextSign), 1, (some .int), 0, 0)
theorem ok_X10_nextSign : z_okM m_X10_nextSign 0 := ⟨by decide +kernel, zTB_of (List.mem_of_getElem? (i := 529) (by decide +kernel)) rfl, ini_X10, by decide +kernel⟩
theorem im_X10_nextSign : Cond.instanceMethod yX10_nextSign ∈ zTB := zTB_of (List.mem_of_getElem? (i := 528) (by decide +kernel)) rfl
theorem se_X10_nextSign : Cond.selects RX10 yX10_nextSign yX10_nextSign ∈ zTB := zTB_of (List.mem_of_getElem? (i := 12) (by decide +kernel)) rfl
def m_X10_isDigit : zM := ((yX10_isDigit, cX10_isDigit), 1, (some .boolean), 0, 0)
theorem ok_X10_isDigit : z_okM m_X10_isDigit 1 := ⟨by decide +kernel, zTB_of (List.mem_of_getElem? (i := 629) (by decide +kernel)) rfl, ini_X10, by decide +kernel⟩
theorem ss_X10_isDigit : Cond.static yX10_isDigit ∈ zTB := zTB_of (List.mem_of_getElem? (i := 628) (by decide +kernel)) rfl
def m_X10_fault : zM := ((yX10_fault, cX10_fault), 2, (some .boolean), 0, 0)
theorem ok_X10_fault : z_okM m_X10_fault 1 := ⟨by decide +kernel, zTB_of (List.mem_of_getElem? (i := 618) (by decide +kernel)) rfl, ini_X10, by decide +kernel⟩
theorem im_X10_fault : Cond.instanceMethod yX10_fault ∈ zTB := zTB_of (List.mem_of_getElem? (i := 617) (by decide +kernel)) rfl
theorem se_X10_fault : Cond.selects RX10 yX10_fault yX10_fault ∈ zTB := zTB_of (List.mem_of_getElem? (i := 13) (by decide +kernel)) rfl
def m_X11_init : zM := ((yX11_init, cX11_init), 2, none, 2, 41)
theorem ok_X11_init : z_okM m_X11_init 0 := ⟨by decide +kernel, zTB_of (List.mem_of_getElem? (i := 107) (by decide +kernel)) rfl, ini_X11, by decide +kernel⟩
theorem im_X11_init : Cond.instanceMethod yX11_init ∈ zTB := zTB_of (List.mem_of_getElem? (i := 106) (by decide +kernel)) rfl
def m_X11_house : zM := ((yX11_house, cX11_house), 2, (some .int), 1, 20)
theorem ok_X11_house : z_okM m_X11_house 1 := ⟨by decide +kernel, zTB_of (List.mem_of_getElem? (i := 319) (by decide +kernel)) rfl, ini_X11, by decide +kernel⟩
theorem im_X11_house : Cond.instanceMethod yX11_house ∈ zTB := zTB_of (List.mem_of_getElem? (i := 317) (by decide +kernel)) rfl
theorem se_X11_house : Cond.selects RX11 yX11_house yX11_house ∈ zTB := zTB_of (List.mem_of_getElem? (i := 318) (by decide +kernel)) rfl
def m_X11_person : zM := ((yX11_person, cX11_person), 7, (some .int), 2, 44)
theorem ok_X11_person : z_okM m_X11_person 6 := ⟨by decide +kernel, zTB_of (List.mem_of_getElem? (i := 326) (by decide +kernel)) rfl, ini_X11, by decide +kernel⟩
theorem im_X11_person : Cond.instanceMethod yX11_person ∈ zTB := zTB_of (List.mem_of_getElem? (i := 324) (by decide +kernel)) rfl
theorem se_X11_person : Cond.selects RX11 yX11_person yX11_person ∈ zTB := zTB_of (List.mem_of_getElem? (i := 325) (by decide +kernel)) rfl
def m_X11_told : zM := ((yX11_told, cX11_told), 4, (some .int), 1, 21)
theorem ok_X11_told : z_okM m_X11_told 2 := ⟨by decide +kernel, zTB_of (List.mem_of_getElem? (i := 391) (by decide +kernel)) rfl, ini_X11, by decide +kernel⟩
theorem im_X11_told : Cond.instanceMethod yX11_told ∈ zTB := zTB_of (List.mem_of_getElem? (i := 389) (by decide +kernel)) rfl
theorem se_X11_told : Cond.selects RX11 yX11_told yX11_told ∈ zTB := zTB_of (List.mem_of_getElem? (i := 390) (by decide +kernel)) rfl
def m_X11_age : zM := ((yX11_age, cX11_age), 4, (some .int), 1, 21)
theorem ok_X11_age : z_okM m_X11_age 2 := ⟨by decide +kernel, zTB_of (List.mem_of_getElem? (i := 399) (by decide +kernel)) rfl, ini_X11, by decide +kernel⟩
theorem im_X11_age : Cond.instanceMethod yX11_age ∈ zTB := zTB_of (List.mem_of_getElem? (i := 397) (by decide +kernel)) rfl
theorem se_X11_age : Cond.selects RX11 yX11_age yX11_age ∈ zTB := zTB_of (List.mem_of_getElem? (i := 398) (by decide +kernel)) rfl
def m_X11_dies : zM := ((yX11_dies, cX11_dies), 5, (some .int), 5, 114)
theorem ok_X11_dies : z_okM m_X11_dies 2 := ⟨by decide +kernel, zTB_of (List.mem_of_getElem? (i := 410) (by decide +kernel)) rfl, ini_X11, by decide +kernel⟩
theorem im_X11_dies : Cond.instanceMethod yX11_dies ∈ zTB := zTB_of (List.mem_of_getElem? (i := 408) (by decide +kernel)) rfl
theorem se_X11_dies : Cond.selects RX11 yX11_dies yX11_dies ∈ zTB := zTB_of (List.mem_of_getElem? (i := 409) (by decide +kernel)) rfl
def m_X11_flees : zM := ((yX11_flees, cX11_flees), 4, (some .int), 2, 41)
theorem ok_X11_flees : z_okM m_X11_flees 2 := ⟨by decide +kernel, zTB_of (List.mem_of_getElem? (i := 449) (by decide +kernel)) rfl, ini_X11, by decide +kernel⟩
theorem im_X11_flees : Cond.instanceMethod yX11_flees ∈ zTB := zTB_of (List.mem_of_getElem? (i := 447) (by decide +kernel)) rfl
theorem se_X11_flees : Cond.selects RX11 yX11_flees yX11_flees ∈ zTB := zTB_of (List.mem_of_getElem? (i := 448) (by decide +kernel)) rfl
def m_X11_back : zM := ((yX11_back, cX11_back), 5, (some .int), 1, 21)
theorem ok_X11_back : z_okM m_X11_back 2 := ⟨by decide +kernel, zTB_of (List.mem_of_getElem? (i := 480) (by decide +kernel)) rfl, ini_X11, by decide +kernel⟩
theorem im_X11_back : Cond.instanceMethod yX11_back ∈ zTB := zTB_of (List.mem_of_getElem? (i := 478) (by decide +kernel)) rfl
theorem se_X11_back : Cond.selects RX11 yX11_back yX11_back ∈ zTB := zTB_of (List.mem_of_getElem? (i := 479) (by decide +kernel)) rfl
def m_X11_there : zM := ((yX11_there, cX11_there), 4, (some .int), 2, 43)
theorem ok_X11_there : z_okM m_X11_there 2 := ⟨by decide +kernel, zTB_of (List.mem_of_getElem? (i := 484) (by decide +kernel)) rfl, ini_X11, by decide +kernel⟩
theorem im_X11_there : Cond.instanceMethod yX11_there ∈ zTB := zTB_of (List.mem_of_getElem? (i := 482) (by decide +kernel)) rfl
theorem se_X11_there : Cond.selects RX11 yX11_there yX11_there ∈ zTB := zTB_of (List.mem_of_getElem? (i := 483) (by decide +kernel)) rfl
def m_X11_kin : zM := ((yX11_kin, cX11_kin), 3, (some .int), 1, 24)
theorem ok_X11_kin : z_okM m_X11_kin 2 := ⟨by decide +kernel, zTB_of (List.mem_of_getElem? (i := 497) (by decide +kernel)) rfl, ini_X11, by decide +kernel⟩
theorem im_X11_kin : Cond.instanceMethod yX11_kin ∈ zTB := zTB_of (List.mem_of_getElem? (i := 495) (by decide +kernel)) rfl
theorem se_X11_kin : Cond.selects RX11 yX11_kin yX11_kin ∈ zTB := zTB_of (List.mem_of_getElem? (i := 496) (by decide +kernel)) rfl
def m_X11_type : zM := ((yX11_type, cX11_type), 6, (some .int), 1, 22)
theorem ok_X11_type : z_okM m_X11_type 2 := ⟨by decide +kernel, zTB_of (List.mem_of_getElem? (i := 505) (by decide +kernel)) rfl, ini_X11, by decide +kernel⟩
theorem im_X11_type : Cond.instanceMethod yX11_type ∈ zTB := zTB_of (List.mem_of_getElem? (i := 503) (by decide +kernel)) rfl
theorem se_X11_type : Cond.selects RX11 yX11_type yX11_type ∈ zTB := zTB_of (List.mem_of_getElem? (i := 504) (by decide +kernel)) rfl
def m_X11_laws : zM := ((yX11_laws, cX11_laws), 3, (some .int), 6, 138)
theorem ok_X11_laws : z_okM m_X11_laws 0 := ⟨by decide +kernel, zTB_of (List.mem_of_getElem? (i := 516) (by decide +kernel)) rfl, ini_X11, by decide +kernel⟩
theorem im_X11_laws : Cond.instanceMethod yX11_laws ∈ zTB := zTB_of (List.mem_of_getElem? (i := 514) (by decide +kernel)) rfl
theorem se_X11_laws : Cond.selects RX11 yX11_laws yX11_laws ∈ zTB := zTB_of (List.mem_of_getElem? (i := 515) (by decide +kernel)) rfl
def m_X11_must : zM := ((yX11_must, cX11_must), 4, (some .int), 3, 65)
theorem ok_X11_must : z_okM m_X11_must 2 := ⟨by decide +kernel, zTB_of (List.mem_of_getElem? (i := 635) (by decide +kernel)) rfl, ini_X11, by decide +kernel⟩
theorem im_X11_must : Cond.instanceMethod yX11_must ∈ zTB := zTB_of (List.mem_of_getElem? (i := 633) (by decide +kernel)) rfl
theorem se_X11_must : Cond.selects RX11 yX11_must yX11_must ∈ zTB := zTB_of (List.mem_of_getElem? (i := 634) (by decide +kernel)) rfl
def m_X11_fair : zM := ((yX11_fair, cX11_fair), 3, (some .int), 1, 22)
theorem ok_X11_fair : z_okM m_X11_fair 2 := ⟨by decide +kernel, zTB_of (List.mem_of_getElem? (i := 647) (by decide +kernel)) rfl, ini_X11, by decide +kernel⟩
theorem im_X11_fair : Cond.instanceMethod yX11_fair ∈ zTB := zTB_of (List.mem_of_getElem? (i := 645) (by decide +kernel)) rfl
theorem se_X11_fair : Cond.selects RX11 yX11_fair yX11_fair ∈ zTB := zTB_of (List.mem_of_getElem? (i := 646) (by decide +kernel)) rfl
def m_X11_group : zM := ((yX11_group, cX11_group), 2, (some .int), 1, 20)
theorem ok_X11_group : z_okM m_X11_group 1 := ⟨by decide +kernel, zTB_of (List.mem_of_getElem? (i := 655) (by decide +kernel)) rfl, ini_X11, by decide +kernel⟩
theorem im_X11_group : Cond.instanceMethod yX11_group ∈ zTB := zTB_of (List.mem_of_getElem? (i := 653) (by decide +kernel)) rfl
theorem se_X11_group : Cond.selects RX11 yX11_group yX11_group ∈ zTB := zTB_of (List.mem_of_getElem? (i := 654) (by decide +kernel)) rfl
def m_X11_joins : zM := ((yX11_joins, cX11_joins), 6, (some .int), 5, 112)
theorem ok_X11_joins : z_okM m_X11_joins 3 := ⟨by decide +kernel, zTB_of (List.mem_of_getElem? (i := 659) (by decide +kernel)) rfl, ini_X11, by decide +kernel⟩
theorem im_X11_joins : Cond.instanceMethod yX11_joins ∈ zTB := zTB_of (List.mem_of_getElem? (i := 657) (by decide +kernel)) rfl
theorem se_X11_joins : Cond.selects RX11 yX11_joins yX11_joins ∈ zTB := zTB_of (List.mem_of_getElem? (i := 658) (by decide +kernel)) rfl
def m_X11_leaves : zM := ((yX11_leaves, cX11_leaves), 5, (some .int), 1, 21)
theorem ok_X11_leaves : z_okM m_X11_leaves 2 := ⟨by decide +kernel, zTB_of (List.mem_of_getElem? (i := 714) (by decide +kernel)) rfl, ini_X11, by decide +kernel⟩
theorem im_X11_leaves : Cond.instanceMethod yX11_leaves ∈ zTB := zTB_of (List.mem_of_getElem? (i := 712) (by decide +kernel)) rfl
theorem se_X11_leaves : Cond.selects RX11 yX11_leaves yX11_leaves ∈ zTB := zTB_of (List.mem_of_getElem? (i := 713) (by decide +kernel)) rfl
def m_X11_groupOf : zM := ((yX11_groupOf, cX11_groupOf), 4, (some .int), 4, 88)
theorem ok_X11_groupOf : z_okM m_X11_groupOf 2 := ⟨by decide +kernel, zTB_of (List.mem_of_getElem? (i := 718) (by decide +kernel)) rfl, ini_X11, by decide +kernel⟩
theorem im_X11_groupOf : Cond.instanceMethod yX11_groupOf ∈ zTB := zTB_of (List.mem_of_getElem? (i := 716) (by decide +kernel)) rfl
theorem se_X11_groupOf : Cond.selects RX11 yX11_groupOf yX11_groupOf ∈ zTB := zTB_of (List.mem_of_getElem? (i := 717) (by decide +kernel)) rfl
def m_X11_members : zM := ((yX11_members, cX11_members), 3, (some .int), 5, 112)
theorem ok_X11_members : z_okM m_X11_members 2 := ⟨by decide +kernel, zTB_of (List.mem_of_getElem? (i := 722) (by decide +kernel)) rfl, ini_X11, by decide +kernel⟩
theorem im_X11_members : Cond.instanceMethod yX11_members ∈ zTB := zTB_of (List.mem_of_getElem? (i := 720) (by decide +kernel)) rfl
theorem se_X11_members : Cond.selects RX11 yX11_members yX11_members ∈ zTB := zTB_of (List.mem_of_getElem? (i := 721) (by decide +kernel)) rfl
def m_X11_head : zM := ((yX11_head, cX11_head), 7, (some .int), 3, 66)
theorem ok_X11_head : z_okM m_X11_head 2 := ⟨by decide +kernel, zTB_of (List.mem_of_getElem? (i := 726) (by decide +kernel)) rfl, ini_X11, by decide +kernel⟩
theorem im_X11_head : Cond.instanceMethod yX11_head ∈ zTB := zTB_of (List.mem_of_getElem? (i := 724) (by decide +kernel)) rfl
theorem se_X11_head : Cond.selects RX11 yX11_head yX11_head ∈ zTB := zTB_of (List.mem_of_getElem? (i := 725) (by decide +kernel)) rfl
def m_X11_wants : zM := ((yX11_wants, cX11_wants), 5, (some .int), 6, 133)
theorem ok_X11_wants : z_okM m_X11_wants 2 := ⟨by decide +kernel, zTB_of (List.mem_of_getElem? (i := 731) (by decide +kernel)) rfl, ini_X11, by decide +kernel⟩
theorem im_X11_wants : Cond.instanceMethod yX11_wants ∈ zTB := zTB_of (List.mem_of_getElem? (i := 729) (by decide +kernel)) rfl
theorem se_X11_wants : Cond.selects RX11 yX11_wants yX11_wants ∈ zTB := zTB_of (List.mem_of_getElem? (i := 730) (by decide +kernel)) rfl
def m_X11_wantsAt : zM := ((yX11_wantsAt, cX11_wantsAt), 6, (some .int), 6, 133)
theorem ok_X11_wantsAt : z_okM m_X11_wantsAt 3 := ⟨by decide +kernel, zTB_of (List.mem_of_getElem? (i := 747) (by decide +kernel)) rfl, ini_X11, by decide +kernel⟩
theorem im_X11_wantsAt : Cond.instanceMethod yX11_wantsAt ∈ zTB := zTB_of (List.mem_of_getElem? (i := 745) (by decide +kernel)) rfl
theorem se_X11_wantsAt : Cond.selects RX11 yX11_wantsAt yX11_wantsAt ∈ zTB := zTB_of (List.mem_of_getElem? (i := 746) (by decide +kernel)) rfl
def m_X11_stay : zM := ((yX11_stay, cX11_stay), 6, (some .int), 2, 36)
theorem ok_X11_stay : z_okM m_X11_stay 4 := ⟨by decide +kernel, zTB_of (List.mem_of_getElem? (i := 751) (by decide +kernel)) rfl, ini_X11, by decide +kernel⟩
theorem im_X11_stay : Cond.instanceMethod yX11_stay ∈ zTB := zTB_of (List.mem_of_getElem? (i := 749) (by decide +kernel)) rfl
theorem se_X11_stay : Cond.selects RX11 yX11_stay yX11_stay ∈ zTB := zTB_of (List.mem_of_getElem? (i := 750) (by decide +kernel)) rfl
def m_X11_charged : zM := ((yX11_charged, cX11_charged), 4, (some .int), 5, 114)
theorem ok_X11_charged : z_okM m_X11_charged 2 := ⟨by decide +kernel, zTB_of (List.mem_of_getElem? (i := 781) (by decide +kernel)) rfl, ini_X11, by decide +kernel⟩
theorem im_X11_charged : Cond.instanceMethod yX11_charged ∈ zTB := zTB_of (List.mem_of_getElem? (i := 779) (by decide +kernel)) rfl
theorem se_X11_charged : Cond.selects RX11 yX11_charged yX11_charged ∈ zTB := zTB_of (List.mem_of_getElem? (i := 780) (by decide +kernel)) rfl
def m_X11_whole : zM := ((yX11_whole, cX11_whole), 3, (some .int), 7, 159)
theorem ok_X11_whole : z_okM m_X11_whole 1 := ⟨by decide +kernel, zTB_of (List.mem_of_getElem? (i := 802) (by decide +kernel)) rfl, ini_X11, by decide +kernel⟩
theorem im_X11_whole : Cond.instanceMethod yX11_whole ∈ zTB := zTB_of (List.mem_of_getElem? (i := 800) (by decide +kernel)) rfl
theorem se_X11_whole : Cond.selects RX11 yX11_whole yX11_whole ∈ zTB := zTB_of (List.mem_of_getElem? (i := 801) (by decide +kernel)) rfl
def m_X11_came : zM := ((yX11_came, cX11_came), 3, (some .int), 1, 21)
theorem ok_X11_came : z_okM m_X11_came 1 := ⟨by decide +kernel, zTB_of (List.mem_of_getElem? (i := 888) (by decide +kernel)) rfl, ini_X11, by decide +kernel⟩
theorem im_X11_came : Cond.instanceMethod yX11_came ∈ zTB := zTB_of (List.mem_of_getElem? (i := 886) (by decide +kernel)) rfl
theorem se_X11_came : Cond.selects RX11 yX11_came yX11_came ∈ zTB := zTB_of (List.mem_of_getElem? (i := 887) (by decide +kernel)) rfl
def m_X11_plea : zM := ((yX11_plea, cX11_plea), 8, (some .int), 5, 114)
theorem ok_X11_plea : z_okM m_X11_plea 2 := ⟨by decide +kernel, zTB_of (List.mem_of_getElem? (i := 892) (by decide +kernel)) rfl, ini_X11, by decide +kernel⟩
theorem im_X11_plea : Cond.instanceMethod yX11_plea ∈ zTB := zTB_of (List.mem_of_getElem? (i := 890) (by decide +kernel)) rfl
theorem se_X11_plea : Cond.selects RX11 yX11_plea yX11_plea ∈ zTB := zTB_of (List.mem_of_getElem? (i := 891) (by decide +kernel)) rfl
def m_X11_about : zM := ((yX11_about, cX11_about), 4, (some .int), 2, 40)
theorem ok_X11_about : z_okM m_X11_about 2 := ⟨by decide +kernel, zTB_of (List.mem_of_getElem? (i := 944) (by decide +kernel)) rfl, ini_X11, by decide +kernel⟩
theorem im_X11_about : Cond.instanceMethod yX11_about ∈ zTB := zTB_of (List.mem_of_getElem? (i := 942) (by decide +kernel)) rfl
theorem se_X11_about : Cond.selects RX11 yX11_about yX11_about ∈ zTB := zTB_of (List.mem_of_getElem? (i := 943) (by decide +kernel)) rfl
def m_X11_judge : zM := ((yX11_judge, cX11_judge), 5, (some .int), 4, 91)
theorem ok_X11_judge : z_okM m_X11_judge 1 := ⟨by decide +kernel, zTB_of (List.mem_of_getElem? (i := 956) (by decide +kernel)) rfl, ini_X11, by decide +kernel⟩
theorem im_X11_judge : Cond.instanceMethod yX11_judge ∈ zTB := zTB_of (List.mem_of_getElem? (i := 954) (by decide +kernel)) rfl
theorem se_X11_judge : Cond.selects RX11 yX11_judge yX11_judge ∈ zTB := zTB_of (List.mem_of_getElem? (i := 955) (by decide +kernel)) rfl
def m_X11_owes : zM := ((yX11_owes, cX11_owes), 3, (some .int), 1, 23)
theorem ok_X11_owes : z_okM m_X11_owes 2 := ⟨by decide +kernel, zTB_of (List.mem_of_getElem? (i := 964) (by decide +kernel)) rfl, ini_X11, by decide +kernel⟩
theorem im_X11_owes : Cond.instanceMethod yX11_owes ∈ zTB := zTB_of (List.mem_of_getElem? (i := 962) (by decide +kernel)) rfl
theorem se_X11_owes : Cond.selects RX11 yX11_owes yX11_owes ∈ zTB := zTB_of (List.mem_of_getElem? (i := 963) (by decide +kernel)) rfl
def m_X11_pays : zM := ((yX11_pays, cX11_pays), 8, (some .int), 1, 23)
theorem ok_X11_pays : z_okM m_X11_pays 2 := ⟨by decide +kernel, zTB_of (List.mem_of_getElem? (i := 968) (by decide +kernel)) rfl, ini_X11, by decide +kernel⟩
theorem im_X11_pays : Cond.instanceMethod yX11_pays ∈ zTB := zTB_of (List.mem_of_getElem? (i := 966) (by decide +kernel)) rfl
theorem se_X11_pays : Cond.selects RX11 yX11_pays yX11_pays ∈ zTB := zTB_of (List.mem_of_getElem? (i := 967) (by decide +kernel)) rfl
def m_X11_borne : zM := ((yX11_borne, cX11_borne), 4, (some .int), 7, 159)
theorem ok_X11_borne : z_okM m_X11_borne 3 := ⟨by decide +kernel, zTB_of (List.mem_of_getElem? (i := 974) (by decide +kernel)) rfl, ini_X11, by decide +kernel⟩
theorem im_X11_borne : Cond.instanceMethod yX11_borne ∈ zTB := zTB_of (List.mem_of_getElem? (i := 972) (by decide +kernel)) rfl
theorem se_X11_borne : Cond.selects RX11 yX11_borne yX11_borne ∈ zTB := zTB_of (List.mem_of_getElem? (i := 973) (by decide +kernel)) rfl
def m_X11_count : zM := ((yX11_count, cX11_count), 2, (some .int), 0, 0)
theorem ok_X11_count : z_okM m_X11_count 1 := ⟨by decide +kernel, zTB_of (List.mem_of_getElem? (i := 990) (by decide +kernel)) rfl, ini_X11, by decide +kernel⟩
theorem im_X11_count : Cond.instanceMethod yX11_count ∈ zTB := zTB_of (List.mem_of_getElem? (i := 988) (by decide +kernel)) rfl
theorem se_X11_count : Cond.selects RX11 yX11_count yX11_count ∈ zTB := zTB_of (List.mem_of_getElem? (i := 989) (by decide +kernel)) rfl
def m_X11_sheet : zM := ((yX11_sheet, cX11_sheet), 4, (some .int), 2, 44)
theorem ok_X11_sheet : z_okM m_X11_sheet 3 := ⟨by decide +kernel, zTB_of (List.mem_of_getElem? (i := 994) (by decide +kernel)) rfl, ini_X11, by decide +kernel⟩
theorem im_X11_sheet : Cond.instanceMethod yX11_sheet ∈ zTB := zTB_of (List.mem_of_getElem? (i := 992) (by decide +kernel)) rfl
theorem se_X11_sheet : Cond.selects RX11 yX11_sheet yX11_sheet ∈ zTB := zTB_of (List.mem_of_getElem? (i := 993) (by decide +kernel)) rfl
def m_X11_drop : zM := ((yX11_drop, cX11_drop), 3, (some .int), 1, 20)
theorem ok_X11_drop : z_okM m_X11_drop 1 := ⟨by decide +kernel, zTB_of (List.mem_of_getElem? (i := 1010) (by decide +kernel)) rfl, ini_X11, by decide +kernel⟩
theorem im_X11_drop : Cond.instanceMethod yX11_drop ∈ zTB := zTB_of (List.mem_of_getElem? (i := 1008) (by decide +kernel)) rfl
theorem se_X11_drop : Cond.selects RX11 yX11_drop yX11_drop ∈ zTB := zTB_of (List.mem_of_getElem? (i := 1009) (by decide +kernel)) rfl
def m_X11_item : zM := ((yX11_item, cX11_item), 6, (some .int), 2, 42)
theorem ok_X11_item : z_okM m_X11_item 4 := ⟨by decide +kernel, zTB_of (List.mem_of_getElem? (i := 1018) (by decide +kernel)) rfl, ini_X11, by decide +kernel⟩
theorem im_X11_item : Cond.instanceMethod yX11_item ∈ zTB := zTB_of (List.mem_of_getElem? (i := 1016) (by decide +kernel)) rfl
theorem se_X11_item : Cond.selects RX11 yX11_item yX11_item ∈ zTB := zTB_of (List.mem_of_getElem? (i := 1017) (by decide +kernel)) rfl
def m_X11_roll : zM := ((yX11_roll, cX11_roll), 8, (some .int), 4, 88)
theorem ok_X11_roll : z_okM m_X11_roll 4 := ⟨by decide +kernel, zTB_of (List.mem_of_getElem? (i := 1030) (by decide +kernel)) rfl, ini_X11, by decide +kernel⟩
theorem im_X11_roll : Cond.instanceMethod yX11_roll ∈ zTB := zTB_of (List.mem_of_getElem? (i := 1028) (by decide +kernel)) rfl
theorem se_X11_roll : Cond.selects RX11 yX11_roll yX11_roll ∈ zTB := zTB_of (List.mem_of_getElem? (i := 1029) (by decide +kernel)) rfl
def m_X11_leftOut : zM := ((yX11_leftOut, cX11_leftOut), 2, (some .int), 2, 42)
theorem ok_X11_leftOut : z_okM m_X11_leftOut 1 := ⟨by decide +kernel, zTB_of (List.mem_of_getElem? (i := 1052) (by decide +kernel)) rfl, ini_X11, by decide +kernel⟩
theorem im_X11_leftOut : Cond.instanceMethod yX11_leftOut ∈ zTB := zTB_of (List.mem_of_getElem? (i := 1050) (by decide +kernel)) rfl
theorem se_X11_leftOut : Cond.selects RX11 yX11_leftOut yX11_leftOut ∈ zTB := zTB_of (List.mem_of_getElem? (i := 1051) (by decide +kernel)) rfl
def m_X11_sure : zM := ((yX11_sure, cX11_sure), 3, (some .int), 2, 42)
theorem ok_X11_sure : z_okM m_X11_sure 1 := ⟨by decide +kernel, zTB_of (List.mem_of_getElem? (i := 1057) (by decide +kernel)) rfl, ini_X11, by decide +kernel⟩
theorem im_X11_sure : Cond.instanceMethod yX11_sure ∈ zTB := zTB_of (List.mem_of_getElem? (i := 1055) (by decide +kernel)) rfl
theorem se_X11_sure : Cond.selects RX11 yX11_sure yX11_sure ∈ zTB := zTB_of (List.mem_of_getElem? (i := 1056) (by decide +kernel)) rfl
def m_X11_isDay : zM := ((yX11_isDay, cX11_isDay), 1, (some .boolean), 0, 0)
theorem ok_X11_isDay : z_okM m_X11_isDay 1 := ⟨by decide +kernel, zTB_of (List.mem_of_getElem? (i := 402) (by decide +kernel)) rfl, ini_X11, by decide +kernel⟩
theorem ss_X11_isDay : Cond.static yX11_isDay ∈ zTB := zTB_of (List.mem_of_getElem? (i := 401) (by decide +kernel)) rfl
def m_X11_isLane : zM := ((yX11_isLane, cX11_isLane), 1, (some .boolean), 0, 0)
theorem ok_X11_isLane : z_okM m_X11_isLane 1 := ⟨by decide +kernel, zTB_of (List.mem_of_getElem? (i := 322) (by decide +kernel)) rfl, ini_X11, by decide +kernel⟩
theorem ss_X11_isLane : Cond.static yX11_isLane ∈ zTB := zTB_of (List.mem_of_getElem? (i := 321) (by decide +kernel)) rfl
def m_X11_isName : zM := ((yX11_isName, cX11_isName), 1, (some .boolean), 0, 0)
theorem ok_X11_isName : z_okM m_X11_isName 1 := ⟨by decide +kernel, zTB_of (List.mem_of_getElem? (i := 329) (by decide +kernel)) rfl, ini_X11, by decide +kernel⟩
theorem ss_X11_isName : Cond.static yX11_isName ∈ zTB := zTB_of (List.mem_of_getElem? (i := 328) (by decide +kernel)) rfl
def m_X11_isSheet : zM := ((yX11_isSheet, cX11_isSheet), 1, (some .boolean), 0, 0)
theorem ok_X11_isSheet : z_okM m_X11_isSheet 1 := ⟨by decide +kernel, zTB_of (List.mem_of_getElem? (i := 997) (by decide +kernel)) rfl, ini_X11, by decide +kernel⟩
theorem ss_X11_isSheet : Cond.static yX11_isSheet ∈ zTB := zTB_of (List.mem_of_getElem? (i := 996) (by decide +kernel)) rfl
def m_X11_isSheetLane : zM := ((yX11_isSheetLane, cX11_isSheetLane), 1, (some .boolean), 0, 0)
theorem ok_X11_isSheetLane : z_okM m_X11_isSheetLane 1 := ⟨by decide +kernel, zTB_of (List.mem_of_getElem? (i := 1000) (by decide +kernel)) rfl, ini_X11, by decide +kernel⟩
theorem ss_X11_isSheetLane : Cond.static yX11_isSheetLane ∈ zTB := zTB_of (List.mem_of_getElem? (i := 999) (by decide +kernel)) rfl
def m_X11_isHouse : zM := ((yX11_isHouse, cX11_isHouse), 2, (some .boolean), 0, 0)
theorem ok_X11_isHouse : z_okM m_X11_isHouse 1 := ⟨by decide +kernel, zTB_of (List.mem_of_getElem? (i := 333) (by decide +kernel)) rfl, ini_X11, by decide +kernel⟩
theorem im_X11_isHouse : Cond.instanceMethod yX11_isHouse ∈ zTB := zTB_of (List.mem_of_getElem? (i := 332) (by decide +kernel)) rfl
theorem se_X11_isHouse : Cond.selects RX11 yX11_isHouse yX11_isHouse ∈ zTB := zTB_of (List.mem_of_getElem? (i := 0) (by decide +kernel)) rfl
def m_X11_isGroup : zM := ((yX11_isGroup, cX11_isGroup), 2, (some .boolean), 0, 0)
theorem ok_X11_isGroup : z_okM m_X11_isGroup 1 := ⟨by decide +kernel, zTB_of (List.mem_of_getElem? (i := 663) (by decide +kernel)) rfl, ini_X11, by decide +kernel⟩
theorem im_X11_isGroup : Cond.instanceMethod yX11_isGroup ∈ zTB := zTB_of (List.mem_of_getElem? (i := 662) (by decide +kernel)) rfl
theorem se_X11_isGroup : Cond.selects RX11 yX11_isGroup yX11_isGroup ∈ zTB := zTB_of (List.mem_of_getElem? (i := 17) (by decide +kernel)) rfl
def m_X11_personAt : zM := ((yX11_personAt, cX11_personAt), 2, (some (.object "TenForOne$Person")), 0, 0)
theorem ok_X11_personAt : z_okM m_X11_personAt 1 := ⟨by decide +kernel, zTB_of (List.mem_of_getElem? (i := 341) (by decide +kernel)) rfl, ini_X11, by decide +kernel⟩
theorem im_X11_personAt : Cond.instanceMethod yX11_personAt ∈ zTB := zTB_of (List.mem_of_getElem? (i := 340) (by decide +kernel)) rfl
theorem se_X11_personAt : Cond.selects RX11 yX11_personAt yX11_personAt ∈ zTB := zTB_of (List.mem_of_getElem? (i := 2) (by decide +kernel)) rfl
def m_X11_mayBeFather : zM := ((yX11_mayBeFather, cX11_mayBeFather), 4, (some .boolean), 1, 21)
theorem ok_X11_mayBeFather : z_okM m_X11_mayBeFather 2 := ⟨by decide +kernel, zTB_of (List.mem_of_getElem? (i := 337) (by decide +kernel)) rfl, ini_X11, by decide +kernel⟩
theorem im_X11_mayBeFather : Cond.instanceMethod yX11_mayBeFather ∈ zTB := zTB_of (List.mem_of_getElem? (i := 336) (by decide +kernel)) rfl
theorem se_X11_mayBeFather : Cond.selects RX11 yX11_mayBeFather yX11_mayBeFather ∈ zTB := zTB_of (List.mem_of_getElem? (i := 1) (by decide +kernel)) rfl
def m_X11_signAt : zM := ((yX11_signAt, cX11_signAt), 3, (some .int), 0, 0)
theorem ok_X11_signAt : z_okM m_X11_signAt 2 := ⟨by decide +kernel, zTB_of (List.mem_of_getElem? (i := 508) (by decide +kernel)) rfl, ini_X11, by decide +kernel⟩
theorem ss_X11_signAt : Cond.static yX11_signAt ∈ zTB := zTB_of (List.mem_of_getElem? (i := 507) (by decide +kernel)) rfl
def m_X11_areKin : zM := ((yX11_areKin, cX11_areKin), 5, (some .boolean), 0, 0)
theorem ok_X11_areKin : z_okM m_X11_areKin 2 := ⟨by decide +kernel, zTB_of (List.mem_of_getElem? (i := 501) (by decide +kernel)) rfl, ini_X11, by decide +kernel⟩
theorem im_X11_areKin : Cond.instanceMethod yX11_areKin ∈ zTB := zTB_of (List.mem_of_getElem? (i := 500) (by decide +kernel)) rfl
theorem se_X11_areKin : Cond.selects RX11 yX11_areKin yX11_areKin ∈ zTB := zTB_of (List.mem_of_getElem? (i := 10) (by decide +kernel)) rfl
def m_X11_mustBeSworn : zM := ((yX11_mustBeSworn, cX11_mustBeSworn), 3, (some .boolean), 2, 43)
theorem ok_X11_mustBeSworn : z_okM m_X11_mustBeSworn 2 := ⟨by decide +kernel, zTB_of (List.mem_of_getElem? (i := 639) (by decide +kernel)) rfl, ini_X11, by decide +kernel⟩
theorem im_X11_mustBeSworn : Cond.instanceMethod yX11_mustBeSworn ∈ zTB := zTB_of (List.mem_of_getElem? (i := 638) (by decide +kernel)) rfl
theorem se_X11_mustBeSworn : Cond.selects RX11 yX11_mustBeSworn yX11_mustBeSworn ∈ zTB := zTB_of (List.mem_of_getElem? (i := 16) (by decide +kernel)) rfl
def m_X11_isUnsworn : zM := ((yX11_isUnsworn, cX11_isUnsworn), 3, (some .boolean), 4, 88)
theorem ok_X11_isUnsworn : z_okM m_X11_isUnsworn 2 := ⟨by decide +kernel, zTB_of (List.mem_of_getElem? (i := 739) (by decide +kernel)) rfl, ini_X11, by decide +kernel⟩
theorem im_X11_isUnsworn : Cond.instanceMethod yX11_isUnsworn ∈ zTB := zTB_of (List.mem_of_getElem? (i := 738) (by decide +kernel)) rfl
theorem se_X11_isUnsworn : Cond.selects RX11 yX11_isUnsworn yX11_isUnsworn ∈ zTB := zTB_of (List.mem_of_getElem? (i := 21) (by decide +kernel)) rfl
def m_X11_isIdle : zM := ((yX11_isIdle, cX11_isIdle), 3, (some .boolean), 4, 88)
theorem ok_X11_isIdle : z_okM m_X11_isIdle 2 := ⟨by decide +kernel, zTB_of (List.mem_of_getElem? (i := 743) (by decide +kernel)) rfl, ini_X11, by decide +kernel⟩
theorem im_X11_isIdle : Cond.instanceMethod yX11_isIdle ∈ zTB := zTB_of (List.mem_of_getElem? (i := 742) (by decide +kernel)) rfl
theorem se_X11_isIdle : Cond.selects RX11 yX11_isIdle yX11_isIdle ∈ zTB := zTB_of (List.mem_of_getElem? (i := 22) (by decide +kernel)) rfl
def m_X11_isWanting : zM := ((yX11_isWanting, cX11_isWanting), 4, (some .boolean), 5, 110)
theorem ok_X11_isWanting : z_okM m_X11_isWanting 3 := ⟨by decide +kernel, zTB_of (List.mem_of_getElem? (i := 735) (by decide +kernel)) rfl, ini_X11, by decide +kernel⟩
theorem im_X11_isWanting : Cond.instanceMethod yX11_isWanting ∈ zTB := zTB_of (List.mem_of_getElem? (i := 734) (by decide +kernel)) rfl
theorem se_X11_isWanting : Cond.selects RX11 yX11_isWanting yX11_isWanting ∈ zTB := zTB_of (List.mem_of_getElem? (i := 20) (by decide +kernel)) rfl
def m_X11_membersOf : zM := ((yX11_membersOf, cX11_membersOf), 5, (some .int), 4, 88)
theorem ok_X11_membersOf : z_okM m_X11_membersOf 2 := ⟨by decide +kernel, zTB_of (List.mem_of_getElem? (i := 671) (by decide +kernel)) rfl, ini_X11, by decide +kernel⟩
theorem im_X11_membersOf : Cond.instanceMethod yX11_membersOf ∈ zTB := zTB_of (List.mem_of_getElem? (i := 670) (by decide +kernel)) rfl
theorem se_X11_membersOf : Cond.selects RX11 yX11_membersOf yX11_membersOf ∈ zTB := zTB_of (List.mem_of_getElem? (i := 18) (by decide +kernel)) rfl
def m_X11_beginSpell : zM := ((yX11_beginSpell, cX11_beginSpell), 4, none, 2, 35)
theorem ok_X11_beginSpell : z_okM m_X11_beginSpell 3 := ⟨by decide +kernel, zTB_of (List.mem_of_getElem? (i := 684) (by decide +kernel)) rfl, ini_X11, by decide +kernel⟩
theorem im_X11_beginSpell : Cond.instanceMethod yX11_beginSpell ∈ zTB := zTB_of (List.mem_of_getElem? (i := 683) (by decide +kernel)) rfl
theorem se_X11_beginSpell : Cond.selects RX11 yX11_beginSpell yX11_beginSpell ∈ zTB := zTB_of (List.mem_of_getElem? (i := 19) (by decide +kernel)) rfl
def m_X11_lodgesOnOrBehind : zM := ((yX11_lodgesOnOrBehind, cX11_lodgesOnOrBehind), 4, (some .boolean), 0, 0)
theorem ok_X11_lodgesOnOrBehind : z_okM m_X11_lodgesOnOrBehind 2 := ⟨by decide +kernel, zTB_of (List.mem_of_getElem? (i := 755) (by decide +kernel)) rfl, ini_X11, by decide +kernel⟩
theorem im_X11_lodgesOnOrBehind : Cond.instanceMethod yX11_lodgesOnOrBehind ∈ zTB := zTB_of (List.mem_of_getElem? (i := 754) (by decide +kernel)) rfl
theorem se_X11_lodgesOnOrBehind : Cond.selects RX11 yX11_lodgesOnOrBehind yX11_lodgesOnOrBehind ∈ zTB := zTB_of (List.mem_of_getElem? (i := 23) (by decide +kernel)) rfl
def m_X11_stayOn : zM := ((yX11_stayOn, cX11_stayOn), 4, (some (.object "TenForOne$Stay")), 0, 0)
theorem ok_X11_stayOn : z_okM m_X11_stayOn 2 := ⟨by decide +kernel, zTB_of (List.mem_of_getElem? (i := 789) (by decide +kernel)) rfl, ini_X11, by decide +kernel⟩
theorem im_X11_stayOn : Cond.instanceMethod yX11_stayOn ∈ zTB := zTB_of (List.mem_of_getElem? (i := 788) (by decide +kernel)) rfl
theorem se_X11_stayOn : Cond.selects RX11 yX11_stayOn yX11_stayOn ∈ zTB := zTB_of (List.mem_of_getElem? (i := 25) (by decide +kernel)) rfl
def m_X11_groupCharged : zM := ((yX11_groupCharged, cX11_groupCharged), 7, (some .int), 4, 88)
theorem ok_X11_groupCharged : z_okM m_X11_groupCharged 3 := ⟨by decide +kernel, zTB_of (List.mem_of_getElem? (i := 785) (by decide +kernel)) rfl, ini_X11, by decide +kernel⟩
theorem im_X11_groupCharged : Cond.instanceMethod yX11_groupCharged ∈ zTB := zTB_of (List.mem_of_getElem? (i := 784) (by decide +kernel)) rfl
theorem se_X11_groupCharged : Cond.selects RX11 yX11_groupCharged yX11_groupCharged ∈ zTB := zTB_of (List.mem_of_getElem? (i := 24) (by decide +kernel)) rfl
def m_X11_hasLodgedLong : zM := ((yX11_hasLodgedLong, cX11_hasLodgedLong), 6, (some .boolean), 1, 22)
theorem ok_X11_hasLodgedLong : z_okM m_X11_hasLodgedLong 2 := ⟨by decide +kernel, zTB_of (List.mem_of_getElem? (i := 793) (by decide +kernel)) rfl, ini_X11, by decide +kernel⟩
theorem im_X11_hasLodgedLong : Cond.instanceMethod yX11_hasLodgedLong ∈ zTB := zTB_of (List.mem_of_getElem? (i := 792) (by decide +kernel)) rfl
theorem se_X11_hasLodgedLong : Cond.selects RX11 yX11_hasLodgedLong yX11_hasLodgedLong ∈ zTB := zTB_of (List.mem_of_getElem? (i := 26) (by decide +kernel)) rfl
def m_X11_gatherUnsworn : zM := ((yX11_gatherUnsworn, cX11_gatherUnsworn), 4, (some .boolean), 5, 110)
theorem ok_X11_gatherUnsworn : z_okM m_X11_gatherUnsworn 1 := ⟨by decide +kernel, zTB_of (List.mem_of_getElem? (i := 806) (by decide +kernel)) rfl, ini_X11, by decide +kernel⟩
theorem im_X11_gatherUnsworn : Cond.instanceMethod yX11_gatherUnsworn ∈ zTB := zTB_of (List.mem_of_getElem? (i := 805) (by decide +kernel)) rfl
theorem se_X11_gatherUnsworn : Cond.selects RX11 yX11_gatherUnsworn yX11_gatherUnsworn ∈ zTB := zTB_of (List.mem_of_getElem? (i := 27) (by decide +kernel)) rfl
def m_X11_offerGroup : zM := ((yX11_offerGroup, cX11_offerGroup), 4, none, 6, 136)
theorem ok_X11_offerGroup : z_okM m_X11_offerGroup 2 := ⟨by decide +kernel, zTB_of (List.mem_of_getElem? (i := 823) (by decide +kernel)) rfl, ini_X11, by decide +kernel⟩
theorem im_X11_offerGroup : Cond.instanceMethod yX11_offerGroup ∈ zTB := zTB_of (List.mem_of_getElem? (i := 822) (by decide +kernel)) rfl
theorem se_X11_offerGroup : Cond.selects RX11 yX11_offerGroup yX11_offerGroup ∈ zTB := zTB_of (List.mem_of_getElem? (i := 28) (by decide +kernel)) rfl
def m_X11_askedOf : zM := ((yX11_askedOf, cX11_askedOf), 5, (some .int), 5, 112)
theorem ok_X11_askedOf : z_okM m_X11_askedOf 3 := ⟨by decide +kernel, zTB_of (List.mem_of_getElem? (i := 827) (by decide +kernel)) rfl, ini_X11, by decide +kernel⟩
theorem im_X11_askedOf : Cond.instanceMethod yX11_askedOf ∈ zTB := zTB_of (List.mem_of_getElem? (i := 826) (by decide +kernel)) rfl
theorem se_X11_askedOf : Cond.selects RX11 yX11_askedOf yX11_askedOf ∈ zTB := zTB_of (List.mem_of_getElem? (i := 29) (by decide +kernel)) rfl
def m_X11_hasKinIn : zM := ((yX11_hasKinIn, cX11_hasKinIn), 5, (some .boolean), 4, 88)
theorem ok_X11_hasKinIn : z_okM m_X11_hasKinIn 3 := ⟨by decide +kernel, zTB_of (List.mem_of_getElem? (i := 834) (by decide +kernel)) rfl, ini_X11, by decide +kernel⟩
theorem im_X11_hasKinIn : Cond.instanceMethod yX11_hasKinIn ∈ zTB := zTB_of (List.mem_of_getElem? (i := 833) (by decide +kernel)) rfl
theorem se_X11_hasKinIn : Cond.selects RX11 yX11_hasKinIn yX11_hasKinIn ∈ zTB := zTB_of (List.mem_of_getElem? (i := 30) (by decide +kernel)) rfl
def m_X11_hasWealth : zM := ((yX11_hasWealth, cX11_hasWealth), 4, (some .boolean), 4, 88)
theorem ok_X11_hasWealth : z_okM m_X11_hasWealth 2 := ⟨by decide +kernel, zTB_of (List.mem_of_getElem? (i := 838) (by decide +kernel)) rfl, ini_X11, by decide +kernel⟩
theorem im_X11_hasWealth : Cond.instanceMethod yX11_hasWealth ∈ zTB := zTB_of (List.mem_of_getElem? (i := 837) (by decide +kernel)) rfl
theorem se_X11_hasWealth : Cond.selects RX11 yX11_hasWealth yX11_hasWealth ∈ zTB := zTB_of (List.mem_of_getElem? (i := 31) (by decide +kernel)) rfl
def m_X11_settle : zM := ((yX11_settle, cX11_settle), 4, none, 3, 58)
theorem ok_X11_settle : z_okM m_X11_settle 1 := ⟨by decide +kernel, zTB_of (List.mem_of_getElem? (i := 876) (by decide +kernel)) rfl, ini_X11, by decide +kernel⟩
theorem im_X11_settle : Cond.instanceMethod yX11_settle ∈ zTB := zTB_of (List.mem_of_getElem? (i := 875) (by decide +kernel)) rfl
theorem se_X11_settle : Cond.selects RX11 yX11_settle yX11_settle ∈ zTB := zTB_of (List.mem_of_getElem? (i := 36) (by decide +kernel)) rfl
def m_X11_hasPlea : zM := ((yX11_hasPlea, cX11_hasPlea), 4, (some .boolean), 0, 0)
theorem ok_X11_hasPlea : z_okM m_X11_hasPlea 2 := ⟨by decide +kernel, zTB_of (List.mem_of_getElem? (i := 896) (by decide +kernel)) rfl, ini_X11, by decide +kernel⟩
theorem im_X11_hasPlea : Cond.instanceMethod yX11_hasPlea ∈ zTB := zTB_of (List.mem_of_getElem? (i := 895) (by decide +kernel)) rfl
theorem se_X11_hasPlea : Cond.selects RX11 yX11_hasPlea yX11_hasPlea ∈ zTB := zTB_of (List.mem_of_getElem? (i := 37) (by decide +kernel)) rfl
def m_X11_callToAnswer : zM := ((yX11_callToAnswer, cX11_callToAnswer), 3, none, 4, 88)
theorem ok_X11_callToAnswer : z_okM m_X11_callToAnswer 1 := ⟨by decide +kernel, zTB_of (List.mem_of_getElem? (i := 940) (by decide +kernel)) rfl, ini_X11, by decide +kernel⟩
theorem im_X11_callToAnswer : Cond.instanceMethod yX11_callToAnswer ∈ zTB := zTB_of (List.mem_of_getElem? (i := 939) (by decide +kernel)) rfl
theorem se_X11_callToAnswer : Cond.selects RX11 yX11_callToAnswer yX11_callToAnswer ∈ zTB := zTB_of (List.mem_of_getElem? (i := 38) (by decide +kernel)) rfl
def m_X11_mayBear : zM := ((yX11_mayBear, cX11_mayBear), 3, (some .boolean), 1, 20)
theorem ok_X11_mayBear : z_okM m_X11_mayBear 2 := ⟨by decide +kernel, zTB_of (List.mem_of_getElem? (i := 437) (by decide +kernel)) rfl, ini_X11, by decide +kernel⟩
theorem im_X11_mayBear : Cond.instanceMethod yX11_mayBear ∈ zTB := zTB_of (List.mem_of_getElem? (i := 436) (by decide +kernel)) rfl
theorem se_X11_mayBear : Cond.selects RX11 yX11_mayBear yX11_mayBear ∈ zTB := zTB_of (List.mem_of_getElem? (i := 7) (by decide +kernel)) rfl
def m_X11_weightOfAll : zM := ((yX11_weightOfAll, cX11_weightOfAll), 4, (some .int), 2, 42)
theorem ok_X11_weightOfAll : z_okM m_X11_weightOfAll 1 := ⟨by decide +kernel, zTB_of (List.mem_of_getElem? (i := 433) (by decide +kernel)) rfl, ini_X11, by decide +kernel⟩
theorem im_X11_weightOfAll : Cond.instanceMethod yX11_weightOfAll ∈ zTB := zTB_of (List.mem_of_getElem? (i := 432) (by decide +kernel)) rfl
theorem se_X11_weightOfAll : Cond.selects RX11 yX11_weightOfAll yX11_weightOfAll ∈ zTB := zTB_of (List.mem_of_getElem? (i := 6) (by decide +kernel)) rfl
def m_X11_part : zM := ((yX11_part, cX11_part), 7, (some .boolean), 3, 65)
theorem ok_X11_part : z_okM m_X11_part 2 := ⟨by decide +kernel, zTB_of (List.mem_of_getElem? (i := 429) (by decide +kernel)) rfl, ini_X11, by decide +kernel⟩
theorem im_X11_part : Cond.instanceMethod yX11_part ∈ zTB := zTB_of (List.mem_of_getElem? (i := 428) (by decide +kernel)) rfl
theorem se_X11_part : Cond.selects RX11 yX11_part yX11_part ∈ zTB := zTB_of (List.mem_of_getElem? (i := 5) (by decide +kernel)) rfl
def m_X11_giveOneMore : zM := ((yX11_giveOneMore, cX11_giveOneMore), 4, none, 0, 0)
theorem ok_X11_giveOneMore : z_okM m_X11_giveOneMore 1 := ⟨by decide +kernel, zTB_of (List.mem_of_getElem? (i := 445) (by decide +kernel)) rfl, ini_X11, by decide +kernel⟩
theorem im_X11_giveOneMore : Cond.instanceMethod yX11_giveOneMore ∈ zTB := zTB_of (List.mem_of_getElem? (i := 444) (by decide +kernel)) rfl
theorem se_X11_giveOneMore : Cond.selects RX11 yX11_giveOneMore yX11_giveOneMore ∈ zTB := zTB_of (List.mem_of_getElem? (i := 8) (by decide +kernel)) rfl
def m_X11_partDebtsOf : zM := ((yX11_partDebtsOf, cX11_partDebtsOf), 4, none, 4, 91)
theorem ok_X11_partDebtsOf : z_okM m_X11_partDebtsOf 1 := ⟨by decide +kernel, zTB_of (List.mem_of_getElem? (i := 425) (by decide +kernel)) rfl, ini_X11, by decide +kernel⟩
theorem im_X11_partDebtsOf : Cond.instanceMethod yX11_partDebtsOf ∈ zTB := zTB_of (List.mem_of_getElem? (i := 424) (by decide +kernel)) rfl
theorem se_X11_partDebtsOf : Cond.selects RX11 yX11_partDebtsOf yX11_partDebtsOf ∈ zTB := zTB_of (List.mem_of_getElem? (i := 4) (by decide +kernel)) rfl
def m_X11_owedOfAll : zM := ((yX11_owedOfAll, cX11_owedOfAll), 4, (some .int), 0, 0)
theorem ok_X11_owedOfAll : z_okM m_X11_owedOfAll 1 := ⟨by decide +kernel, zTB_of (List.mem_of_getElem? (i := 421) (by decide +kernel)) rfl, ini_X11, by decide +kernel⟩
theorem im_X11_owedOfAll : Cond.instanceMethod yX11_owedOfAll ∈ zTB := zTB_of (List.mem_of_getElem? (i := 420) (by decide +kernel)) rfl
theorem se_X11_owedOfAll : Cond.selects RX11 yX11_owedOfAll yX11_owedOfAll ∈ zTB := zTB_of (List.mem_of_getElem? (i := 3) (by decide +kernel)) rfl
def m_X11_borneBy : zM := ((yX11_borneBy, cX11_borneBy), 4, (some .int), 0, 0)
theorem ok_X11_borneBy : z_okM m_X11_borneBy 1 := ⟨by decide +kernel, zTB_of (List.mem_of_getElem? (i := 978) (by decide +kernel)) rfl, ini_X11, by decide +kernel⟩
theorem im_X11_borneBy : Cond.instanceMethod yX11_borneBy ∈ zTB := zTB_of (List.mem_of_getElem? (i := 977) (by decide +kernel)) rfl
theorem se_X11_borneBy : Cond.selects RX11 yX11_borneBy yX11_borneBy ∈ zTB := zTB_of (List.mem_of_getElem? (i := 39) (by decide +kernel)) rfl
def m_X11_borneByHeads : zM := ((yX11_borneByHeads, cX11_borneByHeads), 4, (some .int), 5, 112)
theorem ok_X11_borneByHeads : z_okM m_X11_borneByHeads 2 := ⟨by decide +kernel, zTB_of (List.mem_of_getElem? (i := 982) (by decide +kernel)) rfl, ini_X11, by decide +kernel⟩
theorem im_X11_borneByHeads : Cond.instanceMethod yX11_borneByHeads ∈ zTB := zTB_of (List.mem_of_getElem? (i := 981) (by decide +kernel)) rfl
theorem se_X11_borneByHeads : Cond.selects RX11 yX11_borneByHeads yX11_borneByHeads ∈ zTB := zTB_of (List.mem_of_getElem? (i := 40) (by decide +kernel)) rfl
def m_X11_bearsTooMuch : zM := ((yX11_bearsTooMuch, cX11_bearsTooMuch), 5, (some .boolean), 6, 135)
theorem ok_X11_bearsTooMuch : z_okM m_X11_bearsTooMuch 2 := ⟨by decide +kernel, zTB_of (List.mem_of_getElem? (i := 986) (by decide +kernel)) rfl, ini_X11, by decide +kernel⟩
theorem im_X11_bearsTooMuch : Cond.instanceMethod yX11_bearsTooMuch ∈ zTB := zTB_of (List.mem_of_getElem? (i := 985) (by decide +kernel)) rfl
theorem se_X11_bearsTooMuch : Cond.selects RX11 yX11_bearsTooMuch yX11_bearsTooMuch ∈ zTB := zTB_of (List.mem_of_getElem? (i := 41) (by decide +kernel)) rfl
def m_X11_refusalOfSheet : zM := ((yX11_refusalOfSheet, cX11_refusalOfSheet), 3, (some .int), 1, 20)
theorem ok_X11_refusalOfSheet : z_okM m_X11_refusalOfSheet 2 := ⟨by decide +kernel, zTB_of (List.mem_of_getElem? (i := 1022) (by decide +kernel)) rfl, ini_X11, by decide +kernel⟩
theorem im_X11_refusalOfSheet : Cond.instanceMethod yX11_refusalOfSheet ∈ zTB := zTB_of (List.mem_of_getElem? (i := 1021) (by decide +kernel)) rfl
theorem se_X11_refusalOfSheet : Cond.selects RX11 yX11_refusalOfSheet yX11_refusalOfSheet ∈ zTB := zTB_of (List.mem_of_getElem? (i := 42) (by decide +kernel)) rfl
def m_X12_init : zM := ((yX12_init, cX12_init), 1, none, 1, 12)
theorem ok_X12_init : z_okM m_X12_init 0 := ⟨by decide +kernel, zTB_of (List.mem_of_getElem? (i := 1062) (by decide +kernel)) rfl, ini_X12, by decide +kernel⟩
theorem im_X12_init : Cond.instanceMethod yX12_init ∈ zTB := zTB_of (List.mem_of_getElem? (i := 1061) (by decide +kernel)) rfl
def m_X12_within : zM := ((yX12_within, cX12_within), 3, (some .boolean), 0, 0)
theorem ok_X12_within : z_okM m_X12_within 3 := ⟨by decide +kernel, zTB_of (List.mem_of_getElem? (i := 1273) (by decide +kernel)) rfl, ini_X12, by decide +kernel⟩
theorem ss_X12_within : Cond.static yX12_within ∈ zTB := zTB_of (List.mem_of_getElem? (i := 1272) (by decide +kernel)) rfl
def m_X12_isDay : zM := ((yX12_isDay, cX12_isDay), 1, (some .boolean), 1, 22)
theorem ok_X12_isDay : z_okM m_X12_isDay 1 := ⟨by decide +kernel, zTB_of (List.mem_of_getElem? (i := 1300) (by decide +kernel)) rfl, ini_X12, by decide +kernel⟩
theorem ss_X12_isDay : Cond.static yX12_isDay ∈ zTB := zTB_of (List.mem_of_getElem? (i := 1299) (by decide +kernel)) rfl
def m_X12_isOne : zM := ((yX12_isOne, cX12_isOne), 2, (some .boolean), 0, 0)
theorem ok_X12_isOne : z_okM m_X12_isOne 1 := ⟨by decide +kernel, zTB_of (List.mem_of_getElem? (i := 1285) (by decide +kernel)) rfl, ini_X12, by decide +kernel⟩
theorem im_X12_isOne : Cond.instanceMethod yX12_isOne ∈ zTB := zTB_of (List.mem_of_getElem? (i := 1284) (by decide +kernel)) rfl
theorem se_X12_isOne : Cond.selects RX12 yX12_isOne yX12_isOne ∈ zTB := zTB_of (List.mem_of_getElem? (i := 44) (by decide +kernel)) rfl
def m_X12_house : zM := ((yX12_house, cX12_house), 2, (some .int), 1, 22)
theorem ok_X12_house : z_okM m_X12_house 1 := ⟨by decide +kernel, zTB_of (List.mem_of_getElem? (i := 1270) (by decide +kernel)) rfl, ini_X12, by decide +kernel⟩
theorem im_X12_house : Cond.instanceMethod yX12_house ∈ zTB := zTB_of (List.mem_of_getElem? (i := 1268) (by decide +kernel)) rfl
theorem se_X12_house : Cond.selects RX12 yX12_house yX12_house ∈ zTB := zTB_of (List.mem_of_getElem? (i := 1269) (by decide +kernel)) rfl
def m_X12_mayFather : zM := ((yX12_mayFather, cX12_mayFather), 3, (some .boolean), 1, 21)
theorem ok_X12_mayFather : z_okM m_X12_mayFather 2 := ⟨by decide +kernel, zTB_of (List.mem_of_getElem? (i := 1281) (by decide +kernel)) rfl, ini_X12, by decide +kernel⟩
theorem im_X12_mayFather : Cond.instanceMethod yX12_mayFather ∈ zTB := zTB_of (List.mem_of_getElem? (i := 1280) (by decide +kernel)) rfl
theorem se_X12_mayFather : Cond.selects RX12 yX12_mayFather yX12_mayFather ∈ zTB := zTB_of (List.mem_of_getElem? (i := 43) (by decide +kernel)) rfl
def m_X12_person : zM := ((yX12_person, cX12_person), 7, (some .int), 2, 43)
theorem ok_X12_person : z_okM m_X12_person 6 := ⟨by decide +kernel, zTB_of (List.mem_of_getElem? (i := 1277) (by decide +kernel)) rfl, ini_X12, by decide +kernel⟩
theorem im_X12_person : Cond.instanceMethod yX12_person ∈ zTB := zTB_of (List.mem_of_getElem? (i := 1275) (by decide +kernel)) rfl
theorem se_X12_person : Cond.selects RX12 yX12_person yX12_person ∈ zTB := zTB_of (List.mem_of_getElem? (i := 1276) (by decide +kernel)) rfl
def m_X12_told : zM := ((yX12_told, cX12_told), 3, (some .int), 1, 21)
theorem ok_X12_told : z_okM m_X12_told 2 := ⟨by decide +kernel, zTB_of (List.mem_of_getElem? (i := 1289) (by decide +kernel)) rfl, ini_X12, by decide +kernel⟩
theorem im_X12_told : Cond.instanceMethod yX12_told ∈ zTB := zTB_of (List.mem_of_getElem? (i := 1287) (by decide +kernel)) rfl
theorem se_X12_told : Cond.selects RX12 yX12_told yX12_told ∈ zTB := zTB_of (List.mem_of_getElem? (i := 1288) (by decide +kernel)) rfl
def m_X12_isDead : zM := ((yX12_isDead, cX12_isDead), 2, (some .boolean), 0, 0)
theorem ok_X12_isDead : z_okM m_X12_isDead 1 := ⟨by decide +kernel, zTB_of (List.mem_of_getElem? (i := 1293) (by decide +kernel)) rfl, ini_X12, by decide +kernel⟩
theorem im_X12_isDead : Cond.instanceMethod yX12_isDead ∈ zTB := zTB_of (List.mem_of_getElem? (i := 1292) (by decide +kernel)) rfl
theorem se_X12_isDead : Cond.selects RX12 yX12_isDead yX12_isDead ∈ zTB := zTB_of (List.mem_of_getElem? (i := 45) (by decide +kernel)) rfl
def m_X12_age : zM := ((yX12_age, cX12_age), 3, (some .int), 2, 42)
theorem ok_X12_age : z_okM m_X12_age 2 := ⟨by decide +kernel, zTB_of (List.mem_of_getElem? (i := 1297) (by decide +kernel)) rfl, ini_X12, by decide +kernel⟩
theorem im_X12_age : Cond.instanceMethod yX12_age ∈ zTB := zTB_of (List.mem_of_getElem? (i := 1295) (by decide +kernel)) rfl
theorem se_X12_age : Cond.selects RX12 yX12_age yX12_age ∈ zTB := zTB_of (List.mem_of_getElem? (i := 1296) (by decide +kernel)) rfl
def m_X12_lastFlight : zM := ((yX12_lastFlight, cX12_lastFlight), 4, (some .int), 0, 0)
theorem ok_X12_lastFlight : z_okM m_X12_lastFlight 1 := ⟨by decide +kernel, zTB_of (List.mem_of_getElem? (i := 1312) (by decide +kernel)) rfl, ini_X12, by decide +kernel⟩
theorem im_X12_lastFlight : Cond.instanceMethod yX12_lastFlight ∈ zTB := zTB_of (List.mem_of_getElem? (i := 1311) (by decide +kernel)) rfl
theorem se_X12_lastFlight : Cond.selects RX12 yX12_lastFlight yX12_lastFlight ∈ zTB := zTB_of (List.mem_of_getElem? (i := 47) (by decide +kernel)) rfl
def m_X12_isBehind : zM := ((yX12_isBehind, cX12_isBehind), 4, (some .boolean), 1, 23)
theorem ok_X12_isBehind : z_okM m_X12_isBehind 2 := ⟨by decide +kernel, zTB_of (List.mem_of_getElem? (i := 1316) (by decide +kernel)) rfl, ini_X12, by decide +kernel⟩
theorem im_X12_isBehind : Cond.instanceMethod yX12_isBehind ∈ zTB := zTB_of (List.mem_of_getElem? (i := 1315) (by decide +kernel)) rfl
theorem se_X12_isBehind : Cond.selects RX12 yX12_isBehind yX12_isBehind ∈ zTB := zTB_of (List.mem_of_getElem? (i := 48) (by decide +kernel)) rfl
def m_X12_isAway : zM := ((yX12_isAway, cX12_isAway), 3, (some .boolean), 1, 23)
theorem ok_X12_isAway : z_okM m_X12_isAway 1 := ⟨by decide +kernel, zTB_of (List.mem_of_getElem? (i := 1308) (by decide +kernel)) rfl, ini_X12, by decide +kernel⟩
theorem im_X12_isAway : Cond.instanceMethod yX12_isAway ∈ zTB := zTB_of (List.mem_of_getElem? (i := 1307) (by decide +kernel)) rfl
theorem se_X12_isAway : Cond.selects RX12 yX12_isAway yX12_isAway ∈ zTB := zTB_of (List.mem_of_getElem? (i := 46) (by decide +kernel)) rfl
def m_X12_flees : zM := ((yX12_flees, cX12_flees), 3, (some .int), 2, 46)
theorem ok_X12_flees : z_okM m_X12_flees 2 := ⟨by decide +kernel, zTB_of (List.mem_of_getElem? (i := 1304) (by decide +kernel)) rfl, ini_X12, by decide +kernel⟩
theorem im_X12_flees : Cond.instanceMethod yX12_flees ∈ zTB := zTB_of (List.mem_of_getElem? (i := 1302) (by decide +kernel)) rfl
theorem se_X12_flees : Cond.selects RX12 yX12_flees yX12_flees ∈ zTB := zTB_of (List.mem_of_getElem? (i := 1303) (by decide +kernel)) rfl
def m_X12_back : zM := ((yX12_back, cX12_back), 4, (some .int), 2, 46)
theorem ok_X12_back : z_okM m_X12_back 2 := ⟨by decide +kernel, zTB_of (List.mem_of_getElem? (i := 1320) (by decide +kernel)) rfl, ini_X12, by decide +kernel⟩
theorem im_X12_back : Cond.instanceMethod yX12_back ∈ zTB := zTB_of (List.mem_of_getElem? (i := 1318) (by decide +kernel)) rfl
theorem se_X12_back : Cond.selects RX12 yX12_back yX12_back ∈ zTB := zTB_of (List.mem_of_getElem? (i := 1319) (by decide +kernel)) rfl
def m_X12_isThere : zM := ((yX12_isThere, cX12_isThere), 4, (some .boolean), 0, 0)
theorem ok_X12_isThere : z_okM m_X12_isThere 2 := ⟨by decide +kernel, zTB_of (List.mem_of_getElem? (i := 1328) (by decide +kernel)) rfl, ini_X12, by decide +kernel⟩
theorem im_X12_isThere : Cond.instanceMethod yX12_isThere ∈ zTB := zTB_of (List.mem_of_getElem? (i := 1327) (by decide +kernel)) rfl
theorem se_X12_isThere : Cond.selects RX12 yX12_isThere yX12_isThere ∈ zTB := zTB_of (List.mem_of_getElem? (i := 49) (by decide +kernel)) rfl
def m_X12_there : zM := ((yX12_there, cX12_there), 3, (some .int), 2, 42)
theorem ok_X12_there : z_okM m_X12_there 2 := ⟨by decide +kernel, zTB_of (List.mem_of_getElem? (i := 1324) (by decide +kernel)) rfl, ini_X12, by decide +kernel⟩
theorem im_X12_there : Cond.instanceMethod yX12_there ∈ zTB := zTB_of (List.mem_of_getElem? (i := 1322) (by decide +kernel)) rfl
theorem se_X12_there : Cond.selects RX12 yX12_there yX12_there ∈ zTB := zTB_of (List.mem_of_getElem? (i := 1323) (by decide +kernel)) rfl
def m_X12_areKin : zM := ((yX12_areKin, cX12_areKin), 3, (some .boolean), 0, 0)
theorem ok_X12_areKin : z_okM m_X12_areKin 2 := ⟨by decide +kernel, zTB_of (List.mem_of_getElem? (i := 1336) (by decide +kernel)) rfl, ini_X12, by decide +kernel⟩
theorem im_X12_areKin : Cond.instanceMethod yX12_areKin ∈ zTB := zTB_of (List.mem_of_getElem? (i := 1335) (by decide +kernel)) rfl
theorem se_X12_areKin : Cond.selects RX12 yX12_areKin yX12_areKin ∈ zTB := zTB_of (List.mem_of_getElem? (i := 50) (by decide +kernel)) rfl
def m_X12_kin : zM := ((yX12_kin, cX12_kin), 3, (some .int), 1, 22)
theorem ok_X12_kin : z_okM m_X12_kin 2 := ⟨by decide +kernel, zTB_of (List.mem_of_getElem? (i := 1332) (by decide +kernel)) rfl, ini_X12, by decide +kernel⟩
theorem im_X12_kin : Cond.instanceMethod yX12_kin ∈ zTB := zTB_of (List.mem_of_getElem? (i := 1330) (by decide +kernel)) rfl
theorem se_X12_kin : Cond.selects RX12 yX12_kin yX12_kin ∈ zTB := zTB_of (List.mem_of_getElem? (i := 1331) (by decide +kernel)) rfl
def m_X12_type : zM := ((yX12_type, cX12_type), 5, (some .int), 1, 22)
theorem ok_X12_type : z_okM m_X12_type 2 := ⟨by decide +kernel, zTB_of (List.mem_of_getElem? (i := 1340) (by decide +kernel)) rfl, ini_X12, by decide +kernel⟩
theorem im_X12_type : Cond.instanceMethod yX12_type ∈ zTB := zTB_of (List.mem_of_getElem? (i := 1338) (by decide +kernel)) rfl
theorem se_X12_type : Cond.selects RX12 yX12_type yX12_type ∈ zTB := zTB_of (List.mem_of_getElem? (i := 1339) (by decide +kernel)) rfl
def m_X12_skip : zM := ((yX12_skip, cX12_skip), 1, none, 0, 0)
theorem ok_X12_skip : z_okM m_X12_skip 0 := ⟨by decide +kernel, zTB_of (List.mem_of_getElem? (i := 1353) (by decide +kernel)) rfl, ini_X12, by decide +kernel⟩
theorem im_X12_skip : Cond.instanceMethod yX12_skip ∈ zTB := zTB_of (List.mem_of_getElem? (i := 1352) (by decide +kernel)) rfl
theorem se_X12_skip : Cond.selects RX12 yX12_skip yX12_skip ∈ zTB := zTB_of (List.mem_of_getElem? (i := 52) (by decide +kernel)) rfl
def m_X12_faultAt : zM := ((yX12_faultAt, cX12_faultAt), 2, none, 0, 0)
theorem ok_X12_faultAt : z_okM m_X12_faultAt 1 := ⟨by decide +kernel, zTB_of (List.mem_of_getElem? (i := 1360) (by decide +kernel)) rfl, ini_X12, by decide +kernel⟩
theorem im_X12_faultAt : Cond.instanceMethod yX12_faultAt ∈ zTB := zTB_of (List.mem_of_getElem? (i := 1359) (by decide +kernel)) rfl
theorem se_X12_faultAt : Cond.selects RX12 yX12_faultAt yX12_faultAt ∈ zTB := zTB_of (List.mem_of_getElem? (i := 53) (by decide +kernel)) rfl
def m_X12_readNumber : zM := ((yX12_readNumber, cX12_readNumber), 1, none, 1, 22)
theorem ok_X12_readNumber : z_okM m_X12_readNumber 0 := ⟨by decide +kernel, zTB_of (List.mem_of_getElem? (i := 1364) (by decide +kernel)) rfl, ini_X12, by decide +kernel⟩
theorem im_X12_readNumber : Cond.instanceMethod yX12_readNumber ∈ zTB := zTB_of (List.mem_of_getElem? (i := 1363) (by decide +kernel)) rfl
theorem se_X12_readNumber : Cond.selects RX12 yX12_readNumber yX12_readNumber ∈ zTB := zTB_of (List.mem_of_getElem? (i := 54) (by decide +kernel)) rfl
def m_X12_readByte : zM := ((yX12_readByte, cX12_readByte), 2, none, 1, 21)
theorem ok_X12_readByte : z_okM m_X12_readByte 1 := ⟨by decide +kernel, zTB_of (List.mem_of_getElem? (i := 1368) (by decide +kernel)) rfl, ini_X12, by decide +kernel⟩
theorem im_X12_readByte : Cond.instanceMethod yX12_readByte ∈ zTB := zTB_of (List.mem_of_getElem? (i := 1367) (by decide +kernel)) rfl
theorem se_X12_readByte : Cond.selects RX12 yX12_readByte yX12_readByte ∈ zTB := zTB_of (List.mem_of_getElem? (i := 55) (by decide +kernel)) rfl
def m_X12_kindOf : zM := ((yX12_kindOf, cX12_kindOf), 1, (some .int), 0, 0)
theorem ok_X12_kindOf : z_okM m_X12_kindOf 1 := ⟨by decide +kernel, zTB_of (List.mem_of_getElem? (i := 1356) (by decide +kernel)) rfl, ini_X12, by decide +kernel⟩
theorem ss_X12_kindOf : Cond.static yX12_kindOf ∈ zTB := zTB_of (List.mem_of_getElem? (i := 1355) (by decide +kernel)) rfl
def m_X12_readClause : zM := ((yX12_readClause, cX12_readClause), 3, none, 2, 42)
theorem ok_X12_readClause : z_okM m_X12_readClause 0 := ⟨by decide +kernel, zTB_of (List.mem_of_getElem? (i := 1349) (by decide +kernel)) rfl, ini_X12, by decide +kernel⟩
theorem im_X12_readClause : Cond.instanceMethod yX12_readClause ∈ zTB := zTB_of (List.mem_of_getElem? (i := 1348) (by decide +kernel)) rfl
theorem se_X12_readClause : Cond.selects RX12 yX12_readClause yX12_readClause ∈ zTB := zTB_of (List.mem_of_getElem? (i := 51) (by decide +kernel)) rfl
def m_X12_laws : zM := ((yX12_laws, cX12_laws), 4, (some .int), 3, 64)
theorem ok_X12_laws : z_okM m_X12_laws 0 := ⟨by decide +kernel, zTB_of (List.mem_of_getElem? (i := 1345) (by decide +kernel)) rfl, ini_X12, by decide +kernel⟩
theorem im_X12_laws : Cond.instanceMethod yX12_laws ∈ zTB := zTB_of (List.mem_of_getElem? (i := 1343) (by decide +kernel)) rfl
theorem se_X12_laws : Cond.selects RX12 yX12_laws yX12_laws ∈ zTB := zTB_of (List.mem_of_getElem? (i := 1344) (by decide +kernel)) rfl
def m_X12_mustBe : zM := ((yX12_mustBe, cX12_mustBe), 3, (some .boolean), 1, 23)
theorem ok_X12_mustBe : z_okM m_X12_mustBe 2 := ⟨by decide +kernel, zTB_of (List.mem_of_getElem? (i := 1376) (by decide +kernel)) rfl, ini_X12, by decide +kernel⟩
theorem im_X12_mustBe : Cond.instanceMethod yX12_mustBe ∈ zTB := zTB_of (List.mem_of_getElem? (i := 1375) (by decide +kernel)) rfl
theorem se_X12_mustBe : Cond.selects RX12 yX12_mustBe yX12_mustBe ∈ zTB := zTB_of (List.mem_of_getElem? (i := 56) (by decide +kernel)) rfl
def m_X12_must : zM := ((yX12_must, cX12_must), 3, (some .int), 2, 45)
theorem ok_X12_must : z_okM m_X12_must 2 := ⟨by decide +kernel, zTB_of (List.mem_of_getElem? (i := 1372) (by decide +kernel)) rfl, ini_X12, by decide +kernel⟩
theorem im_X12_must : Cond.instanceMethod yX12_must ∈ zTB := zTB_of (List.mem_of_getElem? (i := 1370) (by decide +kernel)) rfl
theorem se_X12_must : Cond.selects RX12 yX12_must yX12_must ∈ zTB := zTB_of (List.mem_of_getElem? (i := 1371) (by decide +kernel)) rfl
def m_X12_fair : zM := ((yX12_fair, cX12_fair), 3, (some .int), 2, 42)
theorem ok_X12_fair : z_okM m_X12_fair 2 := ⟨by decide +kernel, zTB_of (List.mem_of_getElem? (i := 1380) (by decide +kernel)) rfl, ini_X12, by decide +kernel⟩
theorem im_X12_fair : Cond.instanceMethod yX12_fair ∈ zTB := zTB_of (List.mem_of_getElem? (i := 1378) (by decide +kernel)) rfl
theorem se_X12_fair : Cond.selects RX12 yX12_fair yX12_fair ∈ zTB := zTB_of (List.mem_of_getElem? (i := 1379) (by decide +kernel)) rfl
def m_X12_isFair : zM := ((yX12_isFair, cX12_isFair), 3, (some .boolean), 1, 22)
theorem ok_X12_isFair : z_okM m_X12_isFair 1 := ⟨by decide +kernel, zTB_of (List.mem_of_getElem? (i := 1460) (by decide +kernel)) rfl, ini_X12, by decide +kernel⟩
theorem im_X12_isFair : Cond.instanceMethod yX12_isFair ∈ zTB := zTB_of (List.mem_of_getElem? (i := 1459) (by decide +kernel)) rfl
theorem se_X12_isFair : Cond.selects RX12 yX12_isFair yX12_isFair ∈ zTB := zTB_of (List.mem_of_getElem? (i := 66) (by decide +kernel)) rfl
def m_X12_isGroup : zM := ((yX12_isGroup, cX12_isGroup), 2, (some .boolean), 0, 0)
theorem ok_X12_isGroup : z_okM m_X12_isGroup 1 := ⟨by decide +kernel, zTB_of (List.mem_of_getElem? (i := 1392) (by decide +kernel)) rfl, ini_X12, by decide +kernel⟩
theorem im_X12_isGroup : Cond.instanceMethod yX12_isGroup ∈ zTB := zTB_of (List.mem_of_getElem? (i := 1391) (by decide +kernel)) rfl
theorem se_X12_isGroup : Cond.selects RX12 yX12_isGroup yX12_isGroup ∈ zTB := zTB_of (List.mem_of_getElem? (i := 57) (by decide +kernel)) rfl
def m_X12_group : zM := ((yX12_group, cX12_group), 2, (some .int), 1, 22)
theorem ok_X12_group : z_okM m_X12_group 1 := ⟨by decide +kernel, zTB_of (List.mem_of_getElem? (i := 1384) (by decide +kernel)) rfl, ini_X12, by decide +kernel⟩
theorem im_X12_group : Cond.instanceMethod yX12_group ∈ zTB := zTB_of (List.mem_of_getElem? (i := 1382) (by decide +kernel)) rfl
theorem se_X12_group : Cond.selects RX12 yX12_group yX12_group ∈ zTB := zTB_of (List.mem_of_getElem? (i := 1383) (by decide +kernel)) rfl
def m_X12_spellAt : zM := ((yX12_spellAt, cX12_spellAt), 4, (some .int), 1, 23)
theorem ok_X12_spellAt : z_okM m_X12_spellAt 2 := ⟨by decide +kernel, zTB_of (List.mem_of_getElem? (i := 1408) (by decide +kernel)) rfl, ini_X12, by decide +kernel⟩
theorem im_X12_spellAt : Cond.instanceMethod yX12_spellAt ∈ zTB := zTB_of (List.mem_of_getElem? (i := 1407) (by decide +kernel)) rfl
theorem se_X12_spellAt : Cond.selects RX12 yX12_spellAt yX12_spellAt ∈ zTB := zTB_of (List.mem_of_getElem? (i := 61) (by decide +kernel)) rfl
def m_X12_isMember : zM := ((yX12_isMember, cX12_isMember), 5, (some .boolean), 2, 46)
theorem ok_X12_isMember : z_okM m_X12_isMember 3 := ⟨by decide +kernel, zTB_of (List.mem_of_getElem? (i := 1404) (by decide +kernel)) rfl, ini_X12, by decide +kernel⟩
theorem im_X12_isMember : Cond.instanceMethod yX12_isMember ∈ zTB := zTB_of (List.mem_of_getElem? (i := 1403) (by decide +kernel)) rfl
theorem se_X12_isMember : Cond.selects RX12 yX12_isMember yX12_isMember ∈ zTB := zTB_of (List.mem_of_getElem? (i := 60) (by decide +kernel)) rfl
def m_X12_membersOf : zM := ((yX12_membersOf, cX12_membersOf), 5, (some .int), 3, 70)
theorem ok_X12_membersOf : z_okM m_X12_membersOf 2 := ⟨by decide +kernel, zTB_of (List.mem_of_getElem? (i := 1400) (by decide +kernel)) rfl, ini_X12, by decide +kernel⟩
theorem im_X12_membersOf : Cond.instanceMethod yX12_membersOf ∈ zTB := zTB_of (List.mem_of_getElem? (i := 1399) (by decide +kernel)) rfl
theorem se_X12_membersOf : Cond.selects RX12 yX12_membersOf yX12_membersOf ∈ zTB := zTB_of (List.mem_of_getElem? (i := 59) (by decide +kernel)) rfl
def m_X12_isBound : zM := ((yX12_isBound, cX12_isBound), 4, (some .boolean), 0, 0)
theorem ok_X12_isBound : z_okM m_X12_isBound 2 := ⟨by decide +kernel, zTB_of (List.mem_of_getElem? (i := 1396) (by decide +kernel)) rfl, ini_X12, by decide +kernel⟩
theorem im_X12_isBound : Cond.instanceMethod yX12_isBound ∈ zTB := zTB_of (List.mem_of_getElem? (i := 1395) (by decide +kernel)) rfl
theorem se_X12_isBound : Cond.selects RX12 yX12_isBound yX12_isBound ∈ zTB := zTB_of (List.mem_of_getElem? (i := 58) (by decide +kernel)) rfl
def m_X12_begin : zM := ((yX12_begin, cX12_begin), 4, none, 0, 0)
theorem ok_X12_begin : z_okM m_X12_begin 3 := ⟨by decide +kernel, zTB_of (List.mem_of_getElem? (i := 1412) (by decide +kernel)) rfl, ini_X12, by decide +kernel⟩
theorem im_X12_begin : Cond.instanceMethod yX12_begin ∈ zTB := zTB_of (List.mem_of_getElem? (i := 1411) (by decide +kernel)) rfl
theorem se_X12_begin : Cond.selects RX12 yX12_begin yX12_begin ∈ zTB := zTB_of (List.mem_of_getElem? (i := 62) (by decide +kernel)) rfl
def m_X12_joins : zM := ((yX12_joins, cX12_joins), 4, (some .int), 4, 94)
theorem ok_X12_joins : z_okM m_X12_joins 3 := ⟨by decide +kernel, zTB_of (List.mem_of_getElem? (i := 1388) (by decide +kernel)) rfl, ini_X12, by decide +kernel⟩
theorem im_X12_joins : Cond.instanceMethod yX12_joins ∈ zTB := zTB_of (List.mem_of_getElem? (i := 1386) (by decide +kernel)) rfl
theorem se_X12_joins : Cond.selects RX12 yX12_joins yX12_joins ∈ zTB := zTB_of (List.mem_of_getElem? (i := 1387) (by decide +kernel)) rfl
def m_X12_leaves : zM := ((yX12_leaves, cX12_leaves), 4, (some .int), 2, 42)
theorem ok_X12_leaves : z_okM m_X12_leaves 2 := ⟨by decide +kernel, zTB_of (List.mem_of_getElem? (i := 1416) (by decide +kernel)) rfl, ini_X12, by decide +kernel⟩
theorem im_X12_leaves : Cond.instanceMethod yX12_leaves ∈ zTB := zTB_of (List.mem_of_getElem? (i := 1414) (by decide +kernel)) rfl
theorem se_X12_leaves : Cond.selects RX12 yX12_leaves yX12_leaves ∈ zTB := zTB_of (List.mem_of_getElem? (i := 1415) (by decide +kernel)) rfl
def m_X12_groupOf : zM := ((yX12_groupOf, cX12_groupOf), 4, (some .int), 2, 46)
theorem ok_X12_groupOf : z_okM m_X12_groupOf 2 := ⟨by decide +kernel, zTB_of (List.mem_of_getElem? (i := 1420) (by decide +kernel)) rfl, ini_X12, by decide +kernel⟩
theorem im_X12_groupOf : Cond.instanceMethod yX12_groupOf ∈ zTB := zTB_of (List.mem_of_getElem? (i := 1418) (by decide +kernel)) rfl
theorem se_X12_groupOf : Cond.selects RX12 yX12_groupOf yX12_groupOf ∈ zTB := zTB_of (List.mem_of_getElem? (i := 1419) (by decide +kernel)) rfl
def m_X12_members : zM := ((yX12_members, cX12_members), 3, (some .int), 4, 94)
theorem ok_X12_members : z_okM m_X12_members 2 := ⟨by decide +kernel, zTB_of (List.mem_of_getElem? (i := 1424) (by decide +kernel)) rfl, ini_X12, by decide +kernel⟩
theorem im_X12_members : Cond.instanceMethod yX12_members ∈ zTB := zTB_of (List.mem_of_getElem? (i := 1422) (by decide +kernel)) rfl
theorem se_X12_members : Cond.selects RX12 yX12_members yX12_members ∈ zTB := zTB_of (List.mem_of_getElem? (i := 1423) (by decide +kernel)) rfl
def m_X12_head : zM := ((yX12_head, cX12_head), 7, (some .int), 2, 46)
theorem ok_X12_head : z_okM m_X12_head 2 := ⟨by decide +kernel, zTB_of (List.mem_of_getElem? (i := 1428) (by decide +kernel)) rfl, ini_X12, by decide +kernel⟩
theorem im_X12_head : Cond.instanceMethod yX12_head ∈ zTB := zTB_of (List.mem_of_getElem? (i := 1426) (by decide +kernel)) rfl
theorem se_X12_head : Cond.selects RX12 yX12_head yX12_head ∈ zTB := zTB_of (List.mem_of_getElem? (i := 1427) (by decide +kernel)) rfl
def m_X12_isWant : zM := ((yX12_isWant, cX12_isWant), 5, (some .boolean), 2, 46)
theorem ok_X12_isWant : z_okM m_X12_isWant 3 := ⟨by decide +kernel, zTB_of (List.mem_of_getElem? (i := 1436) (by decide +kernel)) rfl, ini_X12, by decide +kernel⟩
theorem im_X12_isWant : Cond.instanceMethod yX12_isWant ∈ zTB := zTB_of (List.mem_of_getElem? (i := 1435) (by decide +kernel)) rfl
theorem se_X12_isWant : Cond.selects RX12 yX12_isWant yX12_isWant ∈ zTB := zTB_of (List.mem_of_getElem? (i := 63) (by decide +kernel)) rfl
def m_X12_wants : zM := ((yX12_wants, cX12_wants), 5, (some .int), 3, 70)
theorem ok_X12_wants : z_okM m_X12_wants 2 := ⟨by decide +kernel, zTB_of (List.mem_of_getElem? (i := 1432) (by decide +kernel)) rfl, ini_X12, by decide +kernel⟩
theorem im_X12_wants : Cond.instanceMethod yX12_wants ∈ zTB := zTB_of (List.mem_of_getElem? (i := 1430) (by decide +kernel)) rfl
theorem se_X12_wants : Cond.selects RX12 yX12_wants yX12_wants ∈ zTB := zTB_of (List.mem_of_getElem? (i := 1431) (by decide +kernel)) rfl
def m_X12_wantsAt : zM := ((yX12_wantsAt, cX12_wantsAt), 6, (some .int), 3, 70)
theorem ok_X12_wantsAt : z_okM m_X12_wantsAt 3 := ⟨by decide +kernel, zTB_of (List.mem_of_getElem? (i := 1440) (by decide +kernel)) rfl, ini_X12, by decide +kernel⟩
theorem im_X12_wantsAt : Cond.instanceMethod yX12_wantsAt ∈ zTB := zTB_of (List.mem_of_getElem? (i := 1438) (by decide +kernel)) rfl
theorem se_X12_wantsAt : Cond.selects RX12 yX12_wantsAt yX12_wantsAt ∈ zTB := zTB_of (List.mem_of_getElem? (i := 1439) (by decide +kernel)) rfl
def m_X12_stay : zM := ((yX12_stay, cX12_stay), 6, (some .int), 2, 42)
theorem ok_X12_stay : z_okM m_X12_stay 4 := ⟨by decide +kernel, zTB_of (List.mem_of_getElem? (i := 1444) (by decide +kernel)) rfl, ini_X12, by decide +kernel⟩
theorem im_X12_stay : Cond.instanceMethod yX12_stay ∈ zTB := zTB_of (List.mem_of_getElem? (i := 1442) (by decide +kernel)) rfl
theorem se_X12_stay : Cond.selects RX12 yX12_stay yX12_stay ∈ zTB := zTB_of (List.mem_of_getElem? (i := 1443) (by decide +kernel)) rfl
def m_X12_nightsOf : zM := ((yX12_nightsOf, cX12_nightsOf), 5, (some .int), 2, 44)
theorem ok_X12_nightsOf : z_okM m_X12_nightsOf 2 := ⟨by decide +kernel, zTB_of (List.mem_of_getElem? (i := 1456) (by decide +kernel)) rfl, ini_X12, by decide +kernel⟩
theorem im_X12_nightsOf : Cond.instanceMethod yX12_nightsOf ∈ zTB := zTB_of (List.mem_of_getElem? (i := 1455) (by decide +kernel)) rfl
theorem se_X12_nightsOf : Cond.selects RX12 yX12_nightsOf yX12_nightsOf ∈ zTB := zTB_of (List.mem_of_getElem? (i := 65) (by decide +kernel)) rfl
def m_X12_groupOfHouse : zM := ((yX12_groupOfHouse, cX12_groupOfHouse), 5, (some .int), 2, 46)
theorem ok_X12_groupOfHouse : z_okM m_X12_groupOfHouse 2 := ⟨by decide +kernel, zTB_of (List.mem_of_getElem? (i := 1464) (by decide +kernel)) rfl, ini_X12, by decide +kernel⟩
theorem im_X12_groupOfHouse : Cond.instanceMethod yX12_groupOfHouse ∈ zTB := zTB_of (List.mem_of_getElem? (i := 1463) (by decide +kernel)) rfl
theorem se_X12_groupOfHouse : Cond.selects RX12 yX12_groupOfHouse yX12_groupOfHouse ∈ zTB := zTB_of (List.mem_of_getElem? (i := 67) (by decide +kernel)) rfl
def m_X12_chargedFor : zM := ((yX12_chargedFor, cX12_chargedFor), 4, (some .int), 3, 70)
theorem ok_X12_chargedFor : z_okM m_X12_chargedFor 2 := ⟨by decide +kernel, zTB_of (List.mem_of_getElem? (i := 1452) (by decide +kernel)) rfl, ini_X12, by decide +kernel⟩
theorem im_X12_chargedFor : Cond.instanceMethod yX12_chargedFor ∈ zTB := zTB_of (List.mem_of_getElem? (i := 1451) (by decide +kernel)) rfl
theorem se_X12_chargedFor : Cond.selects RX12 yX12_chargedFor yX12_chargedFor ∈ zTB := zTB_of (List.mem_of_getElem? (i := 64) (by decide +kernel)) rfl
def m_X12_charged : zM := ((yX12_charged, cX12_charged), 3, (some .int), 4, 93)
theorem ok_X12_charged : z_okM m_X12_charged 2 := ⟨by decide +kernel, zTB_of (List.mem_of_getElem? (i := 1448) (by decide +kernel)) rfl, ini_X12, by decide +kernel⟩
theorem im_X12_charged : Cond.instanceMethod yX12_charged ∈ zTB := zTB_of (List.mem_of_getElem? (i := 1446) (by decide +kernel)) rfl
theorem se_X12_charged : Cond.selects RX12 yX12_charged yX12_charged ∈ zTB := zTB_of (List.mem_of_getElem? (i := 1447) (by decide +kernel)) rfl
def m_X12_isComer : zM := ((yX12_isComer, cX12_isComer), 3, (some .boolean), 3, 70)
theorem ok_X12_isComer : z_okM m_X12_isComer 2 := ⟨by decide +kernel, zTB_of (List.mem_of_getElem? (i := 1472) (by decide +kernel)) rfl, ini_X12, by decide +kernel⟩
theorem im_X12_isComer : Cond.instanceMethod yX12_isComer ∈ zTB := zTB_of (List.mem_of_getElem? (i := 1471) (by decide +kernel)) rfl
theorem se_X12_isComer : Cond.selects RX12 yX12_isComer yX12_isComer ∈ zTB := zTB_of (List.mem_of_getElem? (i := 68) (by decide +kernel)) rfl
def m_X12_hasKin : zM := ((yX12_hasKin, cX12_hasKin), 5, (some .boolean), 3, 70)
theorem ok_X12_hasKin : z_okM m_X12_hasKin 3 := ⟨by decide +kernel, zTB_of (List.mem_of_getElem? (i := 1480) (by decide +kernel)) rfl, ini_X12, by decide +kernel⟩
theorem im_X12_hasKin : Cond.instanceMethod yX12_hasKin ∈ zTB := zTB_of (List.mem_of_getElem? (i := 1479) (by decide +kernel)) rfl
theorem se_X12_hasKin : Cond.selects RX12 yX12_hasKin yX12_hasKin ∈ zTB := zTB_of (List.mem_of_getElem? (i := 70) (by decide +kernel)) rfl
def m_X12_findAsked : zM := ((yX12_findAsked, cX12_findAsked), 5, none, 4, 94)
theorem ok_X12_findAsked : z_okM m_X12_findAsked 1 := ⟨by decide +kernel, zTB_of (List.mem_of_getElem? (i := 1476) (by decide +kernel)) rfl, ini_X12, by decide +kernel⟩
theorem im_X12_findAsked : Cond.instanceMethod yX12_findAsked ∈ zTB := zTB_of (List.mem_of_getElem? (i := 1475) (by decide +kernel)) rfl
theorem se_X12_findAsked : Cond.selects RX12 yX12_findAsked yX12_findAsked ∈ zTB := zTB_of (List.mem_of_getElem? (i := 69) (by decide +kernel)) rfl
def m_X12_isGood : zM := ((yX12_isGood, cX12_isGood), 5, (some .boolean), 0, 0)
theorem ok_X12_isGood : z_okM m_X12_isGood 0 := ⟨by decide +kernel, zTB_of (List.mem_of_getElem? (i := 1488) (by decide +kernel)) rfl, ini_X12, by decide +kernel⟩
theorem im_X12_isGood : Cond.instanceMethod yX12_isGood ∈ zTB := zTB_of (List.mem_of_getElem? (i := 1487) (by decide +kernel)) rfl
theorem se_X12_isGood : Cond.selects RX12 yX12_isGood yX12_isGood ∈ zTB := zTB_of (List.mem_of_getElem? (i := 72) (by decide +kernel)) rfl
def m_X12_findBest : zM := ((yX12_findBest, cX12_findBest), 5, (some .int), 1, 24)
theorem ok_X12_findBest : z_okM m_X12_findBest 0 := ⟨by decide +kernel, zTB_of (List.mem_of_getElem? (i := 1484) (by decide +kernel)) rfl, ini_X12, by decide +kernel⟩
theorem im_X12_findBest : Cond.instanceMethod yX12_findBest ∈ zTB := zTB_of (List.mem_of_getElem? (i := 1483) (by decide +kernel)) rfl
theorem se_X12_findBest : Cond.selects RX12 yX12_findBest yX12_findBest ∈ zTB := zTB_of (List.mem_of_getElem? (i := 71) (by decide +kernel)) rfl
def m_X12_whole : zM := ((yX12_whole, cX12_whole), 4, (some .int), 5, 118)
theorem ok_X12_whole : z_okM m_X12_whole 1 := ⟨by decide +kernel, zTB_of (List.mem_of_getElem? (i := 1468) (by decide +kernel)) rfl, ini_X12, by decide +kernel⟩
theorem im_X12_whole : Cond.instanceMethod yX12_whole ∈ zTB := zTB_of (List.mem_of_getElem? (i := 1466) (by decide +kernel)) rfl
theorem se_X12_whole : Cond.selects RX12 yX12_whole yX12_whole ∈ zTB := zTB_of (List.mem_of_getElem? (i := 1467) (by decide +kernel)) rfl
def m_X12_came : zM := ((yX12_came, cX12_came), 2, (some .int), 1, 21)
theorem ok_X12_came : z_okM m_X12_came 1 := ⟨by decide +kernel, zTB_of (List.mem_of_getElem? (i := 1492) (by decide +kernel)) rfl, ini_X12, by decide +kernel⟩
theorem im_X12_came : Cond.instanceMethod yX12_came ∈ zTB := zTB_of (List.mem_of_getElem? (i := 1490) (by decide +kernel)) rfl
theorem se_X12_came : Cond.selects RX12 yX12_came yX12_came ∈ zTB := zTB_of (List.mem_of_getElem? (i := 1491) (by decide +kernel)) rfl
def m_X12_groupAhead : zM := ((yX12_groupAhead, cX12_groupAhead), 5, (some .int), 4, 93)
theorem ok_X12_groupAhead : z_okM m_X12_groupAhead 1 := ⟨by decide +kernel, zTB_of (List.mem_of_getElem? (i := 1500) (by decide +kernel)) rfl, ini_X12, by decide +kernel⟩
theorem im_X12_groupAhead : Cond.instanceMethod yX12_groupAhead ∈ zTB := zTB_of (List.mem_of_getElem? (i := 1499) (by decide +kernel)) rfl
theorem se_X12_groupAhead : Cond.selects RX12 yX12_groupAhead yX12_groupAhead ∈ zTB := zTB_of (List.mem_of_getElem? (i := 73) (by decide +kernel)) rfl
def m_X12_plea : zM := ((yX12_plea, cX12_plea), 6, (some .int), 5, 117)
theorem ok_X12_plea : z_okM m_X12_plea 2 := ⟨by decide +kernel, zTB_of (List.mem_of_getElem? (i := 1496) (by decide +kernel)) rfl, ini_X12, by decide +kernel⟩
theorem im_X12_plea : Cond.instanceMethod yX12_plea ∈ zTB := zTB_of (List.mem_of_getElem? (i := 1494) (by decide +kernel)) rfl
theorem se_X12_plea : Cond.selects RX12 yX12_plea yX12_plea ∈ zTB := zTB_of (List.mem_of_getElem? (i := 1495) (by decide +kernel)) rfl
def m_X12_isBrought : zM := ((yX12_isBrought, cX12_isBrought), 3, (some .boolean), 0, 0)
theorem ok_X12_isBrought : z_okM m_X12_isBrought 1 := ⟨by decide +kernel, zTB_of (List.mem_of_getElem? (i := 1508) (by decide +kernel)) rfl, ini_X12, by decide +kernel⟩
theorem im_X12_isBrought : Cond.instanceMethod yX12_isBrought ∈ zTB := zTB_of (List.mem_of_getElem? (i := 1507) (by decide +kernel)) rfl
theorem se_X12_isBrought : Cond.selects RX12 yX12_isBrought yX12_isBrought ∈ zTB := zTB_of (List.mem_of_getElem? (i := 74) (by decide +kernel)) rfl
def m_X12_about : zM := ((yX12_about, cX12_about), 5, (some .int), 1, 22)
theorem ok_X12_about : z_okM m_X12_about 2 := ⟨by decide +kernel, zTB_of (List.mem_of_getElem? (i := 1504) (by decide +kernel)) rfl, ini_X12, by decide +kernel⟩
theorem im_X12_about : Cond.instanceMethod yX12_about ∈ zTB := zTB_of (List.mem_of_getElem? (i := 1502) (by decide +kernel)) rfl
theorem se_X12_about : Cond.selects RX12 yX12_about yX12_about ∈ zTB := zTB_of (List.mem_of_getElem? (i := 1503) (by decide +kernel)) rfl
def m_X12_weightOf : zM := ((yX12_weightOf, cX12_weightOf), 2, (some .int), 0, 0)
theorem ok_X12_weightOf : z_okM m_X12_weightOf 1 := ⟨by decide +kernel, zTB_of (List.mem_of_getElem? (i := 1524) (by decide +kernel)) rfl, ini_X12, by decide +kernel⟩
theorem im_X12_weightOf : Cond.instanceMethod yX12_weightOf ∈ zTB := zTB_of (List.mem_of_getElem? (i := 1523) (by decide +kernel)) rfl
theorem se_X12_weightOf : Cond.selects RX12 yX12_weightOf yX12_weightOf ∈ zTB := zTB_of (List.mem_of_getElem? (i := 77) (by decide +kernel)) rfl
def m_X12_takesPart : zM := ((yX12_takesPart, cX12_takesPart), 3, (some .boolean), 1, 21)
theorem ok_X12_takesPart : z_okM m_X12_takesPart 2 := ⟨by decide +kernel, zTB_of (List.mem_of_getElem? (i := 1520) (by decide +kernel)) rfl, ini_X12, by decide +kernel⟩
theorem im_X12_takesPart : Cond.instanceMethod yX12_takesPart ∈ zTB := zTB_of (List.mem_of_getElem? (i := 1519) (by decide +kernel)) rfl
theorem se_X12_takesPart : Cond.selects RX12 yX12_takesPart yX12_takesPart ∈ zTB := zTB_of (List.mem_of_getElem? (i := 76) (by decide +kernel)) rfl
def m_X12_isPartedAmong : zM := ((yX12_isPartedAmong, cX12_isPartedAmong), 7, (some .boolean), 2, 43)
theorem ok_X12_isPartedAmong : z_okM m_X12_isPartedAmong 2 := ⟨by decide +kernel, zTB_of (List.mem_of_getElem? (i := 1516) (by decide +kernel)) rfl, ini_X12, by decide +kernel⟩
theorem im_X12_isPartedAmong : Cond.instanceMethod yX12_isPartedAmong ∈ zTB := zTB_of (List.mem_of_getElem? (i := 1515) (by decide +kernel)) rfl
theorem se_X12_isPartedAmong : Cond.selects RX12 yX12_isPartedAmong yX12_isPartedAmong ∈ zTB := zTB_of (List.mem_of_getElem? (i := 75) (by decide +kernel)) rfl
def m_X12_judge : zM := ((yX12_judge, cX12_judge), 4, (some .int), 3, 69)
theorem ok_X12_judge : z_okM m_X12_judge 1 := ⟨by decide +kernel, zTB_of (List.mem_of_getElem? (i := 1512) (by decide +kernel)) rfl, ini_X12, by decide +kernel⟩
theorem im_X12_judge : Cond.instanceMethod yX12_judge ∈ zTB := zTB_of (List.mem_of_getElem? (i := 1510) (by decide +kernel)) rfl
theorem se_X12_judge : Cond.selects RX12 yX12_judge yX12_judge ∈ zTB := zTB_of (List.mem_of_getElem? (i := 1511) (by decide +kernel)) rfl
def m_X12_owesAll : zM := ((yX12_owesAll, cX12_owesAll), 4, (some .int), 0, 0)
theorem ok_X12_owesAll : z_okM m_X12_owesAll 1 := ⟨by decide +kernel, zTB_of (List.mem_of_getElem? (i := 1532) (by decide +kernel)) rfl, ini_X12, by decide +kernel⟩
theorem im_X12_owesAll : Cond.instanceMethod yX12_owesAll ∈ zTB := zTB_of (List.mem_of_getElem? (i := 1531) (by decide +kernel)) rfl
theorem se_X12_owesAll : Cond.selects RX12 yX12_owesAll yX12_owesAll ∈ zTB := zTB_of (List.mem_of_getElem? (i := 78) (by decide +kernel)) rfl
def m_X12_dies : zM := ((yX12_dies, cX12_dies), 7, (some .int), 3, 69)
theorem ok_X12_dies : z_okM m_X12_dies 2 := ⟨by decide +kernel, zTB_of (List.mem_of_getElem? (i := 1528) (by decide +kernel)) rfl, ini_X12, by decide +kernel⟩
theorem im_X12_dies : Cond.instanceMethod yX12_dies ∈ zTB := zTB_of (List.mem_of_getElem? (i := 1526) (by decide +kernel)) rfl
theorem se_X12_dies : Cond.selects RX12 yX12_dies yX12_dies ∈ zTB := zTB_of (List.mem_of_getElem? (i := 1527) (by decide +kernel)) rfl
def m_X12_owes : zM := ((yX12_owes, cX12_owes), 3, (some .int), 1, 23)
theorem ok_X12_owes : z_okM m_X12_owes 2 := ⟨by decide +kernel, zTB_of (List.mem_of_getElem? (i := 1536) (by decide +kernel)) rfl, ini_X12, by decide +kernel⟩
theorem im_X12_owes : Cond.instanceMethod yX12_owes ∈ zTB := zTB_of (List.mem_of_getElem? (i := 1534) (by decide +kernel)) rfl
theorem se_X12_owes : Cond.selects RX12 yX12_owes yX12_owes ∈ zTB := zTB_of (List.mem_of_getElem? (i := 1535) (by decide +kernel)) rfl
def m_X12_pays : zM := ((yX12_pays, cX12_pays), 6, (some .int), 1, 23)
theorem ok_X12_pays : z_okM m_X12_pays 2 := ⟨by decide +kernel, zTB_of (List.mem_of_getElem? (i := 1540) (by decide +kernel)) rfl, ini_X12, by decide +kernel⟩
theorem im_X12_pays : Cond.instanceMethod yX12_pays ∈ zTB := zTB_of (List.mem_of_getElem? (i := 1538) (by decide +kernel)) rfl
theorem se_X12_pays : Cond.selects RX12 yX12_pays yX12_pays ∈ zTB := zTB_of (List.mem_of_getElem? (i := 1539) (by decide +kernel)) rfl
def m_X12_borneBy : zM := ((yX12_borneBy, cX12_borneBy), 4, (some .int), 0, 0)
theorem ok_X12_borneBy : z_okM m_X12_borneBy 1 := ⟨by decide +kernel, zTB_of (List.mem_of_getElem? (i := 1549) (by decide +kernel)) rfl, ini_X12, by decide +kernel⟩
theorem im_X12_borneBy : Cond.instanceMethod yX12_borneBy ∈ zTB := zTB_of (List.mem_of_getElem? (i := 1548) (by decide +kernel)) rfl
theorem se_X12_borneBy : Cond.selects RX12 yX12_borneBy yX12_borneBy ∈ zTB := zTB_of (List.mem_of_getElem? (i := 79) (by decide +kernel)) rfl
def m_X12_byHeads : zM := ((yX12_byHeads, cX12_byHeads), 4, (some .int), 4, 94)
theorem ok_X12_byHeads : z_okM m_X12_byHeads 2 := ⟨by decide +kernel, zTB_of (List.mem_of_getElem? (i := 1553) (by decide +kernel)) rfl, ini_X12, by decide +kernel⟩
theorem im_X12_byHeads : Cond.instanceMethod yX12_byHeads ∈ zTB := zTB_of (List.mem_of_getElem? (i := 1552) (by decide +kernel)) rfl
theorem se_X12_byHeads : Cond.selects RX12 yX12_byHeads yX12_byHeads ∈ zTB := zTB_of (List.mem_of_getElem? (i := 80) (by decide +kernel)) rfl
def m_X12_borne : zM := ((yX12_borne, cX12_borne), 6, (some .int), 5, 117)
theorem ok_X12_borne : z_okM m_X12_borne 3 := ⟨by decide +kernel, zTB_of (List.mem_of_getElem? (i := 1545) (by decide +kernel)) rfl, ini_X12, by decide +kernel⟩
theorem im_X12_borne : Cond.instanceMethod yX12_borne ∈ zTB := zTB_of (List.mem_of_getElem? (i := 1543) (by decide +kernel)) rfl
theorem se_X12_borne : Cond.selects RX12 yX12_borne yX12_borne ∈ zTB := zTB_of (List.mem_of_getElem? (i := 1544) (by decide +kernel)) rfl
def m_X12_count : zM := ((yX12_count, cX12_count), 2, (some .int), 0, 0)
theorem ok_X12_count : z_okM m_X12_count 1 := ⟨by decide +kernel, zTB_of (List.mem_of_getElem? (i := 1557) (by decide +kernel)) rfl, ini_X12, by decide +kernel⟩
theorem im_X12_count : Cond.instanceMethod yX12_count ∈ zTB := zTB_of (List.mem_of_getElem? (i := 1555) (by decide +kernel)) rfl
theorem se_X12_count : Cond.selects RX12 yX12_count yX12_count ∈ zTB := zTB_of (List.mem_of_getElem? (i := 1556) (by decide +kernel)) rfl
def m_X12_isSheet : zM := ((yX12_isSheet, cX12_isSheet), 1, (some .boolean), 1, 22)
theorem ok_X12_isSheet : z_okM m_X12_isSheet 1 := ⟨by decide +kernel, zTB_of (List.mem_of_getElem? (i := 1564) (by decide +kernel)) rfl, ini_X12, by decide +kernel⟩
theorem ss_X12_isSheet : Cond.static yX12_isSheet ∈ zTB := zTB_of (List.mem_of_getElem? (i := 1563) (by decide +kernel)) rfl
def m_X12_isLane : zM := ((yX12_isLane, cX12_isLane), 1, (some .boolean), 1, 22)
theorem ok_X12_isLane : z_okM m_X12_isLane 1 := ⟨by decide +kernel, zTB_of (List.mem_of_getElem? (i := 1567) (by decide +kernel)) rfl, ini_X12, by decide +kernel⟩
theorem ss_X12_isLane : Cond.static yX12_isLane ∈ zTB := zTB_of (List.mem_of_getElem? (i := 1566) (by decide +kernel)) rfl
def m_X12_sheet : zM := ((yX12_sheet, cX12_sheet), 5, (some .int), 2, 42)
theorem ok_X12_sheet : z_okM m_X12_sheet 3 := ⟨by decide +kernel, zTB_of (List.mem_of_getElem? (i := 1561) (by decide +kernel)) rfl, ini_X12, by decide +kernel⟩
theorem im_X12_sheet : Cond.instanceMethod yX12_sheet ∈ zTB := zTB_of (List.mem_of_getElem? (i := 1559) (by decide +kernel)) rfl
theorem se_X12_sheet : Cond.selects RX12 yX12_sheet yX12_sheet ∈ zTB := zTB_of (List.mem_of_getElem? (i := 1560) (by decide +kernel)) rfl
def m_X12_drop : zM := ((yX12_drop, cX12_drop), 2, (some .int), 2, 42)
theorem ok_X12_drop : z_okM m_X12_drop 1 := ⟨by decide +kernel, zTB_of (List.mem_of_getElem? (i := 1571) (by decide +kernel)) rfl, ini_X12, by decide +kernel⟩
theorem im_X12_drop : Cond.instanceMethod yX12_drop ∈ zTB := zTB_of (List.mem_of_getElem? (i := 1569) (by decide +kernel)) rfl
theorem se_X12_drop : Cond.selects RX12 yX12_drop yX12_drop ∈ zTB := zTB_of (List.mem_of_getElem? (i := 1570) (by decide +kernel)) rfl
def m_X12_item : zM := ((yX12_item, cX12_item), 5, (some .int), 2, 42)
theorem ok_X12_item : z_okM m_X12_item 4 := ⟨by decide +kernel, zTB_of (List.mem_of_getElem? (i := 1575) (by decide +kernel)) rfl, ini_X12, by decide +kernel⟩
theorem im_X12_item : Cond.instanceMethod yX12_item ∈ zTB := zTB_of (List.mem_of_getElem? (i := 1573) (by decide +kernel)) rfl
theorem se_X12_item : Cond.selects RX12 yX12_item yX12_item ∈ zTB := zTB_of (List.mem_of_getElem? (i := 1574) (by decide +kernel)) rfl
def m_X12_leftOutOf : zM := ((yX12_leftOutOf, cX12_leftOutOf), 3, (some .int), 0, 0)
theorem ok_X12_leftOutOf : z_okM m_X12_leftOutOf 1 := ⟨by decide +kernel, zTB_of (List.mem_of_getElem? (i := 1583) (by decide +kernel)) rfl, ini_X12, by decide +kernel⟩
theorem im_X12_leftOutOf : Cond.instanceMethod yX12_leftOutOf ∈ zTB := zTB_of (List.mem_of_getElem? (i := 1582) (by decide +kernel)) rfl
theorem se_X12_leftOutOf : Cond.selects RX12 yX12_leftOutOf yX12_leftOutOf ∈ zTB := zTB_of (List.mem_of_getElem? (i := 81) (by decide +kernel)) rfl
def m_X12_roll : zM := ((yX12_roll, cX12_roll), 7, (some .int), 3, 70)
theorem ok_X12_roll : z_okM m_X12_roll 4 := ⟨by decide +kernel, zTB_of (List.mem_of_getElem? (i := 1579) (by decide +kernel)) rfl, ini_X12, by decide +kernel⟩
theorem im_X12_roll : Cond.instanceMethod yX12_roll ∈ zTB := zTB_of (List.mem_of_getElem? (i := 1577) (by decide +kernel)) rfl
theorem se_X12_roll : Cond.selects RX12 yX12_roll yX12_roll ∈ zTB := zTB_of (List.mem_of_getElem? (i := 1578) (by decide +kernel)) rfl
def m_X12_leftOut : zM := ((yX12_leftOut, cX12_leftOut), 2, (some .int), 1, 22)
theorem ok_X12_leftOut : z_okM m_X12_leftOut 1 := ⟨by decide +kernel, zTB_of (List.mem_of_getElem? (i := 1587) (by decide +kernel)) rfl, ini_X12, by decide +kernel⟩
theorem im_X12_leftOut : Cond.instanceMethod yX12_leftOut ∈ zTB := zTB_of (List.mem_of_getElem? (i := 1585) (by decide +kernel)) rfl
theorem se_X12_leftOut : Cond.selects RX12 yX12_leftOut yX12_leftOut ∈ zTB := zTB_of (List.mem_of_getElem? (i := 1586) (by decide +kernel)) rfl
def m_X12_sure : zM := ((yX12_sure, cX12_sure), 3, (some .int), 1, 21)
theorem ok_X12_sure : z_okM m_X12_sure 1 := ⟨by decide +kernel, zTB_of (List.mem_of_getElem? (i := 1591) (by decide +kernel)) rfl, ini_X12, by decide +kernel⟩
theorem im_X12_sure : Cond.instanceMethod yX12_sure ∈ zTB := zTB_of (List.mem_of_getElem? (i := 1589) (by decide +kernel)) rfl
theorem se_X12_sure : Cond.selects RX12 yX12_sure yX12_sure ∈ zTB := zTB_of (List.mem_of_getElem? (i := 1590) (by decide +kernel)) rfl
def m_J6_bitCount_0f7a4 : zM := ((yJ6_bitCount_0f7a4, cJ6_bitCount_0f7a4), 1, (some .int), 0, 0)
theorem ok_J6_bitCount_0f7a4 : z_okM m_J6_bitCount_0f7a4 1 := ⟨by decide +kernel, zTB_of (List.mem_of_getElem? (i := 856) (by decide +kernel)) rfl, ini_J6, by decide +kernel⟩
theorem ss_J6_bitCount_0f7a4 : Cond.static yJ6_bitCount_0f7a4 ∈ zTB := zTB_of (List.mem_of_getElem? (i := 855) (by decide +kernel)) rfl
def m_J0_length_8abf5 : zM := ((yJ0_length_8abf5, cJ0_length_8abf5), 1, (some .int), 1, 20)
theorem ok_J0_length_8abf5 : z_okM m_J0_length_8abf5 0 := ⟨by decide +kernel, zTB_of (List.mem_of_getElem? (i := 548) (by decide +kernel)) rfl, ini_J0, by decide +kernel⟩
theorem im_J0_length_8abf5 : Cond.instanceMethod yJ0_length_8abf5 ∈ zTB := zTB_of (List.mem_of_getElem? (i := 546) (by decide +kernel)) rfl
theorem se_J0_length_8abf5 : Cond.selects RJ0 yJ0_length_8abf5 yJ0_length_8abf5 ∈ zTB := zTB_of (List.mem_of_getElem? (i := 547) (by decide +kernel)) rfl
def m_J0_indexOf_0f7a4 : zM := ((yJ0_indexOf_0f7a4, cJ0_indexOf_0f7a4), 2, (some .int), 3, 70)
theorem ok_J0_indexOf_0f7a4 : z_okM m_J0_indexOf_0f7a4 1 := ⟨by decide +kernel, zTB_of (List.mem_of_getElem? (i := 534) (by decide +kernel)) rfl, ini_J0, by decide +kernel⟩
theorem im_J0_indexOf_0f7a4 : Cond.instanceMethod yJ0_indexOf_0f7a4 ∈ zTB := zTB_of (List.mem_of_getElem? (i := 532) (by decide +kernel)) rfl
theorem se_J0_indexOf_0f7a4 : Cond.selects RJ0 yJ0_indexOf_0f7a4 yJ0_indexOf_0f7a4 ∈ zTB := zTB_of (List.mem_of_getElem? (i := 533) (by decide +kernel)) rfl
def m_J0_indexOf_7cf53 : zM := ((yJ0_indexOf_7cf53, cJ0_indexOf_7cf53), 3, (some .int), 2, 48)
theorem ok_J0_indexOf_7cf53 : z_okM m_J0_indexOf_7cf53 2 := ⟨by decide +kernel, zTB_of (List.mem_of_getElem? (i := 538) (by decide +kernel)) rfl, ini_J0, by decide +kernel⟩
theorem im_J0_indexOf_7cf53 : Cond.instanceMethod yJ0_indexOf_7cf53 ∈ zTB := zTB_of (List.mem_of_getElem? (i := 536) (by decide +kernel)) rfl
theorem se_J0_indexOf_7cf53 : Cond.selects RJ0 yJ0_indexOf_7cf53 yJ0_indexOf_7cf53 ∈ zTB := zTB_of (List.mem_of_getElem? (i := 537) (by decide +kernel)) rfl
def m_J0_coder_7d493 : zM := ((yJ0_coder_7d493, cJ0_coder_7d493), 1, (some .byte), 0, 0)
theorem ok_J0_coder_7d493 : z_okM m_J0_coder_7d493 0 := ⟨by decide +kernel, zTB_of (List.mem_of_getElem? (i := 552) (by decide +kernel)) rfl, ini_J0, by decide +kernel⟩
theorem im_J0_coder_7d493 : Cond.instanceMethod yJ0_coder_7d493 ∈ zTB := zTB_of (List.mem_of_getElem? (i := 550) (by decide +kernel)) rfl
theorem se_J0_coder_7d493 : Cond.selects RJ0 yJ0_coder_7d493 yJ0_coder_7d493 ∈ zTB := zTB_of (List.mem_of_getElem? (i := 551) (by decide +kernel)) rfl
def m_J0_isLatin1_aae02 : zM := ((yJ0_isLatin1_aae02, cJ0_isLatin1_aae02), 1, (some .boolean), 0, 0)
theorem ok_J0_isLatin1_aae02 : z_okM m_J0_isLatin1_aae02 0 := ⟨by decide +kernel, zTB_of (List.mem_of_getElem? (i := 542) (by decide +kernel)) rfl, ini_J0, by decide +kernel⟩
theorem im_J0_isLatin1_aae02 : Cond.instanceMethod yJ0_isLatin1_aae02 ∈ zTB := zTB_of (List.mem_of_getElem? (i := 540) (by decide +kernel)) rfl
theorem se_J0_isLatin1_aae02 : Cond.selects RJ0 yJ0_isLatin1_aae02 yJ0_isLatin1_aae02 ∈ zTB := zTB_of (List.mem_of_getElem? (i := 541) (by decide +kernel)) rfl
def m_J1_canEncode_9a6ad : zM := ((yJ1_canEncode_9a6ad, cJ1_canEncode_9a6ad), 1, (some .boolean), 0, 0)
theorem ok_J1_canEncode_9a6ad : z_okM m_J1_canEncode_9a6ad 1 := ⟨by decide +kernel, zTB_of (List.mem_of_getElem? (i := 558) (by decide +kernel)) rfl, ini_J1, by decide +kernel⟩
theorem ss_J1_canEncode_9a6ad : Cond.static yJ1_canEncode_9a6ad ∈ zTB := zTB_of (List.mem_of_getElem? (i := 557) (by decide +kernel)) rfl
def m_J1_indexOf_4cfef : zM := ((yJ1_indexOf_4cfef, cJ1_indexOf_4cfef), 4, (some .int), 1, 25)
theorem ok_J1_indexOf_4cfef : z_okM m_J1_indexOf_4cfef 4 := ⟨by decide +kernel, zTB_of (List.mem_of_getElem? (i := 555) (by decide +kernel)) rfl, ini_J1, by decide +kernel⟩
theorem ss_J1_indexOf_4cfef : Cond.static yJ1_indexOf_4cfef ∈ zTB := zTB_of (List.mem_of_getElem? (i := 554) (by decide +kernel)) rfl
def m_J1_indexOfChar_4cfef : zM := ((yJ1_indexOfChar_4cfef, cJ1_indexOfChar_4cfef), 6, (some .int), 0, 0)
theorem ok_J1_indexOfChar_4cfef : z_okM m_J1_indexOfChar_4cfef 4 := ⟨by decide +kernel, zTB_of (List.mem_of_getElem? (i := 565) (by decide +kernel)) rfl, ini_J1, by decide +kernel⟩
theorem ss_J1_indexOfChar_4cfef : Cond.static yJ1_indexOfChar_4cfef ∈ zTB := zTB_of (List.mem_of_getElem? (i := 564) (by decide +kernel)) rfl
def m_L_law : zM := ((yL_law, cL_law), 4, ret, 12, 460)
