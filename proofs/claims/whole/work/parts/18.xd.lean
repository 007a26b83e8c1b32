/-! small words for the walks -/
theorem x_01 {P : Prop} [Decidable P] {r : Int32} (h : r = if P then 1 else 0) : r = 0 ∨ r = 1 := by
  rw [h]; split
  · exact Or.inr rfl
  · exact Or.inl rfl
theorem x_if0 {P : Prop} [Decidable P] {r : Int32} (h : r = if P then 1 else 0) (h0 : r = 0) : ¬ P := fun hp => by
  rw [h0, if_pos hp] at h; exact absurd h (by decide)
theorem x_if1 {P : Prop} [Decidable P] {r : Int32} (h : r = if P then 1 else 0) (h0 : ¬ r = 0) : P := by
  by_cases hp : P
  · exact hp
  · rw [if_neg hp] at h; exact absurd h h0
theorem x_sw (x : Int32) (n : Nat) (hn : n < 2 ^ 31) : (x < 0 ∨ nI n ≤ x) ∨ ∃ j : Nat, j < n ∧ x = nI j := by
  rcases pk_ix x hn with h | h | h
  · exact Or.inl (Or.inl h)
  · exact Or.inl (Or.inr h)
  · exact Or.inr h
theorem x_swo {x : Int32} {n : Nat} {hi : Int} (h : x < 0 ∨ nI n ≤ x) (hh : hi + 1 = (n : Int) := by decide) (hn : n < 2 ^ 31 := by decide) : x.toInt < 0 ∨ hi < x.toInt := by
  rcases h with h | h
  · exact Or.inl (by simpa using Int32.lt_iff_toInt_lt.mp h)
  · have h1 := Int32.le_iff_toInt_le.mp h
    rw [nI_toInt hn] at h1
    exact Or.inr (by omega)
theorem x_swl {x : Int32} {j : Nat} (h : x = nI j) (hj : j < 2 ^ 31 := by decide) : ¬ x.toInt < 0 := by rw [h, nI_toInt hj]; omega
theorem x_swh {x : Int32} {j : Nat} {hi : Int} (h : x = nI j) (hh : (j : Int) ≤ hi ∧ j < 2 ^ 31) : ¬ hi < x.toInt := by rw [h, nI_toInt hh.2]; omega
theorem x_swn {x : Int32} {j : Nat} (h : x = nI j) (hj : j < 2 ^ 31) : (x.toInt - 0).toNat = j := by rw [h, nI_toInt hj]; omega
theorem x_lt (a b : Int32) : a < b ↔ a.toInt < b.toInt := Int32.lt_iff_toInt_lt
theorem x_le (a b : Int32) : a ≤ b ↔ a.toInt ≤ b.toInt := Int32.le_iff_toInt_le
theorem x_eq (a b : Int32) : a = b ↔ a.toInt = b.toInt := Int32.toInt_inj.symm
theorem xd_X0_init : x_cd yX0_init 5 := by decide +kernel
theorem xd_X0_canBeDrilled : x_cd yX0_canBeDrilled 1 := by decide +kernel
theorem xd_X0_pales : x_cd yX0_pales 1 := by decide +kernel
theorem xd_X0_fits : x_cd yX0_fits 3 := by decide +kernel
theorem xd_X1_init : x_cd yX1_init 3 := by decide +kernel
theorem xd_X1_sew : x_cd yX1_sew 3 := by decide +kernel
theorem xd_X2_init : x_cd yX2_init 0 := by decide +kernel
theorem xd_X2_relist : x_cd yX2_relist 3 := by decide +kernel
theorem xd_X2_plan : x_cd yX2_plan 1 := by decide +kernel
theorem xd_X2_reckonGains : x_cd yX2_reckonGains 1 := by decide +kernel
theorem xd_X2_chooseSizes : x_cd yX2_chooseSizes 0 := by decide +kernel
theorem xd_X2_chosenSize : x_cd yX2_chosenSize 2 := by decide +kernel
theorem xd_X2_scoreFrom : x_cd yX2_scoreFrom 2 := by decide +kernel
theorem xd_X2_scoreWith : x_cd yX2_scoreWith 3 := by decide +kernel
theorem xd_X2_profileWith : x_cd yX2_profileWith 3 := by decide +kernel
theorem xd_X2_profileWithout : x_cd yX2_profileWithout 2 := by decide +kernel
theorem xd_X2_writeCut : x_cd yX2_writeCut 1 := by decide +kernel
theorem xd_X3_init : x_cd yX3_init 0 := by decide +kernel
theorem xd_X3_breaksAt : x_cd yX3_breaksAt 1 := by decide +kernel
theorem xd_X3_isMultiple : x_cd yX3_isMultiple 2 := by decide +kernel
theorem xd_X4_init : x_cd yX4_init 7 := by decide +kernel
theorem xd_X4_takes : x_cd yX4_takes 1 := by decide +kernel
theorem xd_X4_payOn : x_cd yX4_payOn 1 := by decide +kernel
theorem xd_X5_init : x_cd yX5_init 3 := by decide +kernel
theorem xd_X5_takesSquares : x_cd yX5_takesSquares 1 := by decide +kernel
theorem xd_X5_blankThickness : x_cd yX5_blankThickness 2 := by decide +kernel
theorem xd_X6_init : x_cd yX6_init 0 := by decide +kernel
theorem xd_X6_shell : x_cd yX6_shell 9 := by decide +kernel
theorem xd_X6_shellOf : x_cd yX6_shellOf 2 := by decide +kernel
theorem xd_X6_list : x_cd yX6_list 3 := by decide +kernel
theorem xd_X6_best : x_cd yX6_best 2 := by decide +kernel
theorem xd_X6_bestAt : x_cd yX6_bestAt 2 := by decide +kernel
theorem xd_X6_cut : x_cd yX6_cut 1 := by decide +kernel
theorem xd_X6_button : x_cd yX6_button 2 := by decide +kernel
theorem xd_X6_stands : x_cd yX6_stands 2 := by decide +kernel
theorem xd_X6_work : x_cd yX6_work 3 := by decide +kernel
theorem xd_X6_works : x_cd yX6_works 4 := by decide +kernel
theorem xd_X6_grind : x_cd yX6_grind 1 := by decide +kernel
theorem xd_X6_machine : x_cd yX6_machine 2 := by decide +kernel
theorem xd_X6_bleach : x_cd yX6_bleach 2 := by decide +kernel
theorem xd_X6_card : x_cd yX6_card 4 := by decide +kernel
theorem xd_X6_cardOf : x_cd yX6_cardOf 2 := by decide +kernel
theorem xd_X6_onCard : x_cd yX6_onCard 2 := by decide +kernel
theorem xd_X6_order : x_cd yX6_order 7 := by decide +kernel
theorem xd_X6_send : x_cd yX6_send 1 := by decide +kernel
theorem xd_X6_sent : x_cd yX6_sent 1 := by decide +kernel
theorem xd_X6_count : x_cd yX6_count 1 := by decide +kernel
theorem xd_X6_isWithin : x_cd yX6_isWithin 3 := by decide +kernel
theorem xd_X6_isSize : x_cd yX6_isSize 1 := by decide +kernel
theorem xd_X6_isHoles : x_cd yX6_isHoles 1 := by decide +kernel
theorem xd_X6_shellNumbered : x_cd yX6_shellNumbered 1 := by decide +kernel
theorem xd_X6_buttonNumbered : x_cd yX6_buttonNumbered 1 := by decide +kernel
theorem xd_X6_machineNumbered : x_cd yX6_machineNumbered 1 := by decide +kernel
theorem xd_X6_cardNumbered : x_cd yX6_cardNumbered 1 := by decide +kernel
theorem xd_X6_takeButtons : x_cd yX6_takeButtons 2 := by decide +kernel
theorem xd_X6_workOn : x_cd yX6_workOn 3 := by decide +kernel
theorem xd_X6_bestLeastThickness : x_cd yX6_bestLeastThickness 2 := by decide +kernel
theorem xd_X6_firstOfDozen : x_cd yX6_firstOfDozen 3 := by decide +kernel
theorem xd_X6_sewDozen : x_cd yX6_sewDozen 3 := by decide +kernel
theorem xd_X6_queueByDay : x_cd yX6_queueByDay 1 := by decide +kernel
theorem xd_X6_fittingCards : x_cd yX6_fittingCards 1 := by decide +kernel
theorem xd_X6_giveCards : x_cd yX6_giveCards 2 := by decide +kernel
theorem xd_X7_init : x_cd yX7_init 0 := by decide +kernel
theorem xd_X7_thrown : x_cd yX7_thrown 0 := by decide +kernel
theorem xd_X7_right : x_cd yX7_right 2 := by decide +kernel
theorem xd_X7_shell : x_cd yX7_shell 9 := by decide +kernel
theorem xd_X7_isShell : x_cd yX7_isShell 1 := by decide +kernel
theorem xd_X7_shellOf : x_cd yX7_shellOf 2 := by decide +kernel
theorem xd_X7_list : x_cd yX7_list 3 := by decide +kernel
theorem xd_X7_thickness : x_cd yX7_thickness 3 := by decide +kernel
theorem xd_X7_taken : x_cd yX7_taken 4 := by decide +kernel
theorem xd_X7_comes : x_cd yX7_comes 4 := by decide +kernel
theorem xd_X7_finds : x_cd yX7_finds 1 := by decide +kernel
theorem xd_X7_best : x_cd yX7_best 2 := by decide +kernel
theorem xd_X7_bestAt : x_cd yX7_bestAt 2 := by decide +kernel
theorem xd_X7_cut : x_cd yX7_cut 1 := by decide +kernel
theorem xd_X7_isPassed : x_cd yX7_isPassed 1 := by decide +kernel
theorem xd_X7_isButton : x_cd yX7_isButton 1 := by decide +kernel
theorem xd_X7_button : x_cd yX7_button 2 := by decide +kernel
theorem xd_X7_isMachine : x_cd yX7_isMachine 1 := by decide +kernel
theorem xd_X7_stands : x_cd yX7_stands 2 := by decide +kernel
theorem xd_X7_worked : x_cd yX7_worked 3 := by decide +kernel
theorem xd_X7_work : x_cd yX7_work 3 := by decide +kernel
theorem xd_X7_works : x_cd yX7_works 4 := by decide +kernel
theorem xd_X7_grind : x_cd yX7_grind 1 := by decide +kernel
theorem xd_X7_machine : x_cd yX7_machine 2 := by decide +kernel
theorem xd_X7_bleach : x_cd yX7_bleach 2 := by decide +kernel
theorem xd_X7_fits : x_cd yX7_fits 6 := by decide +kernel
theorem xd_X7_card : x_cd yX7_card 4 := by decide +kernel
theorem xd_X7_isCard : x_cd yX7_isCard 1 := by decide +kernel
theorem xd_X7_cardOf : x_cd yX7_cardOf 2 := by decide +kernel
theorem xd_X7_onCard : x_cd yX7_onCard 2 := by decide +kernel
theorem xd_X7_order : x_cd yX7_order 7 := by decide +kernel
theorem xd_X7_isFor : x_cd yX7_isFor 2 := by decide +kernel
theorem xd_X7_sends : x_cd yX7_sends 2 := by decide +kernel
theorem xd_X7_send : x_cd yX7_send 1 := by decide +kernel
theorem xd_X7_sent : x_cd yX7_sent 1 := by decide +kernel
theorem xd_X7_inState : x_cd yX7_inState 1 := by decide +kernel
theorem xd_X7_count : x_cd yX7_count 1 := by decide +kernel
theorem xd_J9_max_7cf53 : x_cd yJ9_max_7cf53 2 := by decide +kernel
theorem xd_J9_min_7cf53 : x_cd yJ9_min_7cf53 2 := by decide +kernel
theorem xd_J7_fill_53178 : x_cd yJ7_fill_53178 2 := by decide +kernel
