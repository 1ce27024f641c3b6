set_option maxHeartbeats 1000000 in
set_option maxRecDepth 10000 in
theorem s_X8_settle {v_bets : Int32} {post : Int32 → (Int32) → Prop} (hp0 : 0 ≤ v_bets.toInt) (hp1 : v_bets.toInt ≤ 6) (hk : ∀ (r : Int32) (v_bets' : Int32), (0 ≤ v_bets'.toInt) → (v_bets'.toInt ≤ 6) → post r v_bets') : wp_X8_settle v_bets post := by
  unfold wp_X8_settle
  have tn60 : ((Int32.toNatClampNeg 60 : Nat) : Int) = 60 := rfl
  have t1 : (0 : Int32).toInt = 0 := rfl
  exact hk _ _ (by first | omega | assumption | exact AB.none (by omega) | exact AB.mono (by assumption) (by omega) (by omega) (by omega) (by omega) | exact RB.none (by omega) | exact RB.mono (by assumption) (by omega) | exact UB.none (by omega) | exact UB.mono (by assumption) (by omega) | exact EQ.none (by omega) | exact EQ.mono (by assumption) (by omega)) (by first | omega | assumption | exact AB.none (by omega) | exact AB.mono (by assumption) (by omega) (by omega) (by omega) (by omega) | exact RB.none (by omega) | exact RB.mono (by assumption) (by omega) | exact UB.none (by omega) | exact UB.mono (by assumption) (by omega) | exact EQ.none (by omega) | exact EQ.mono (by assumption) (by omega))
set_option maxHeartbeats 1000000 in
set_option maxRecDepth 10000 in
theorem s_X8_lots {p1 : Int32} {v_st : Nat → Int32} {v_kinds : Nat → Int32} {v_rates : Nat → Int32} {v_clocks : Int32} {v_windows : Int32} {v_drawn : Int32} {post : Int32 → (Nat → Int32) → (Int32) → Prop} (hp0 : AB v_st 42 v_clocks.toInt 0 (v_windows.toInt - 1)) (hp1 : 2 ≤ v_windows.toInt) (hp2 : v_windows.toInt ≤ 24) (hp3 : 0 ≤ v_clocks.toInt) (hp4 : v_clocks.toInt ≤ 9) (hp5 : 0 ≤ (v_st (Int32.toNatClampNeg 60)).toInt) (hp6 : (v_st (Int32.toNatClampNeg 60)).toInt ≤ 9999) (hk : ∀ (r : Int32) (v_st' : Nat → Int32) (v_drawn' : Int32), (AB v_st' 42 v_clocks.toInt 0 (v_windows.toInt - 1)) → (0 ≤ (v_st' (Int32.toNatClampNeg 60)).toInt) → ((v_st' (Int32.toNatClampNeg 60)).toInt ≤ 9999) → post r v_st' v_drawn') : wp_X8_lots p1 v_st v_kinds v_rates v_clocks v_windows v_drawn post := by
  unfold wp_X8_lots
  have rp1 := Int32.toInt_lt p1
  have rq1 := Int32.le_toInt p1
  have tn60 : ((Int32.toNatClampNeg 60 : Nat) : Int) = 60 := rfl
  have t1 : (Int32.toInt64 p1).toInt = p1.toInt := i2l rfl
  have t2 : (1 : Int64).toInt = 1 := rfl
  have t3 : (60 : Int64).toInt = 60 := rfl
  refine s_X8_in  (fun r1 q4 => ?_)
  refine ⟨fun c5 => ?_, fun c5 => ?_⟩
  · skip
    have t6 := ine (a := r1.toInt) (b := 0) rfl rfl c5
    rcases q4.symm with q4 | q4
    · exfalso; omega
    refine ⟨ivp (a := 60) rfl (by omega) (by omega), ?_⟩
    try have q7 := AB.get (f := v_st) (i := 60) (a := 60) (by assumption) rfl (by omega) (by omega) (by omega)
    try have t8 : ((v_st (Int32.toNatClampNeg 60)) + p1).toInt = (v_st (Int32.toNatClampNeg 60)).toInt + p1.toInt := ia rfl rfl (by omega) (by omega)
    refine ⟨fun c9 => ?_, fun c9 => ?_⟩
    · skip
      have t10 := ile (a := ((v_st (Int32.toNatClampNeg 60)) + p1).toInt) (b := 9999) rfl rfl c9
      have t11 : ((0 : Int32)).toInt = 0 := rfl
      have t12 : ((0 : Int32)).toInt = 0 := rfl
      refine ⟨fun n4 x2_4 x3_4 v_st_4 v_drawn_4 => n4 = (p1.toInt - x3_4.toInt).toNat ∧ (AB v_st_4 42 v_clocks.toInt 0 (v_windows.toInt - 1)) ∧ (0 ≤ (v_st_4 (Int32.toNatClampNeg 60)).toInt) ∧ (0 ≤ x3_4.toInt) ∧ ((v_st_4 (Int32.toNatClampNeg 60)).toInt ≤ (v_st (Int32.toNatClampNeg 60)).toInt + x3_4.toInt) ∧ (x3_4.toInt ≤ p1.toInt), ⟨_, rfl, by first | omega | assumption | exact AB.none (by omega) | exact AB.mono (by assumption) (by omega) (by omega) (by omega) (by omega) | exact RB.none (by omega) | exact RB.mono (by assumption) (by omega) | exact UB.none (by omega) | exact UB.mono (by assumption) (by omega) | exact EQ.none (by omega) | exact EQ.mono (by assumption) (by omega), by first | omega | assumption | exact AB.none (by omega) | exact AB.mono (by assumption) (by omega) (by omega) (by omega) (by omega) | exact RB.none (by omega) | exact RB.mono (by assumption) (by omega) | exact UB.none (by omega) | exact UB.mono (by assumption) (by omega) | exact EQ.none (by omega) | exact EQ.mono (by assumption) (by omega), by first | omega | assumption | exact AB.none (by omega) | exact AB.mono (by assumption) (by omega) (by omega) (by omega) (by omega) | exact RB.none (by omega) | exact RB.mono (by assumption) (by omega) | exact UB.none (by omega) | exact UB.mono (by assumption) (by omega) | exact EQ.none (by omega) | exact EQ.mono (by assumption) (by omega), by first | omega | assumption | exact AB.none (by omega) | exact AB.mono (by assumption) (by omega) (by omega) (by omega) (by omega) | exact RB.none (by omega) | exact RB.mono (by assumption) (by omega) | exact UB.none (by omega) | exact UB.mono (by assumption) (by omega) | exact EQ.none (by omega) | exact EQ.mono (by assumption) (by omega), by first | omega | assumption | exact AB.none (by omega) | exact AB.mono (by assumption) (by omega) (by omega) (by omega) (by omega) | exact RB.none (by omega) | exact RB.mono (by assumption) (by omega) | exact UB.none (by omega) | exact UB.mono (by assumption) (by omega) | exact EQ.none (by omega) | exact EQ.mono (by assumption) (by omega)⟩, ?_⟩
      rintro n4 x2_4 x3_4 v_st_4 v_drawn_4 ⟨hn4, q13, q14, q15, q16, q17⟩
      refine ⟨fun c18 => ?_, fun c18 => ?_⟩
      · skip
        have t19 := ile (a := p1.toInt) (b := x3_4.toInt) rfl rfl c18
        exact hk _ _ _ (by first | omega | assumption | exact AB.none (by omega) | exact AB.mono (by assumption) (by omega) (by omega) (by omega) (by omega) | exact RB.none (by omega) | exact RB.mono (by assumption) (by omega) | exact UB.none (by omega) | exact UB.mono (by assumption) (by omega) | exact EQ.none (by omega) | exact EQ.mono (by assumption) (by omega)) (by first | omega | assumption | exact AB.none (by omega) | exact AB.mono (by assumption) (by omega) (by omega) (by omega) (by omega) | exact RB.none (by omega) | exact RB.mono (by assumption) (by omega) | exact UB.none (by omega) | exact UB.mono (by assumption) (by omega) | exact EQ.none (by omega) | exact EQ.mono (by assumption) (by omega)) (by first | omega | assumption | exact AB.none (by omega) | exact AB.mono (by assumption) (by omega) (by omega) (by omega) (by omega) | exact RB.none (by omega) | exact RB.mono (by assumption) (by omega) | exact UB.none (by omega) | exact UB.mono (by assumption) (by omega) | exact EQ.none (by omega) | exact EQ.mono (by assumption) (by omega))
      · skip
        have t20 := inle (a := p1.toInt) (b := x3_4.toInt) rfl rfl c18
        have t21 : (Int32.toInt64 v_drawn_4).toInt = v_drawn_4.toInt := i2l rfl
        try have t22 : (((Int32.toInt64 v_drawn_4) * 1103515245) + 12345).toInt = ((Int32.toInt64 v_drawn_4) * 1103515245).toInt + 12345 := lad rfl rfl (by omega) (by omega)
        intro z6 ez6
        have t23 : z6.toInt = (Int64.toInt32 ((((Int32.toInt64 v_drawn_4) * 1103515245) + 12345) &&& 2147483647)).toInt := by rw [ez6] <;> rfl
        try have t24 : (z6 / 65536).toInt = z6.toInt / 65536 := idv rfl rfl (by omega) (by omega)
        try have t25 : ((z6 / 65536) - (z6 / 65536) / 4 * 4).toInt = (z6 / 65536).toInt % 4 := irm rfl rfl (by omega) (by omega)
        refine s_X8_goOn (by first | omega | assumption | exact AB.none (by omega) | exact AB.mono (by assumption) (by omega) (by omega) (by omega) (by omega) | exact RB.none (by omega) | exact RB.mono (by assumption) (by omega) | exact UB.none (by omega) | exact UB.mono (by assumption) (by omega) | exact EQ.none (by omega) | exact EQ.mono (by assumption) (by omega)) (by first | omega | assumption | exact AB.none (by omega) | exact AB.mono (by assumption) (by omega) (by omega) (by omega) (by omega) | exact RB.none (by omega) | exact RB.mono (by assumption) (by omega) | exact UB.none (by omega) | exact UB.mono (by assumption) (by omega) | exact EQ.none (by omega) | exact EQ.mono (by assumption) (by omega)) (by first | omega | assumption | exact AB.none (by omega) | exact AB.mono (by assumption) (by omega) (by omega) (by omega) (by omega) | exact RB.none (by omega) | exact RB.mono (by assumption) (by omega) | exact UB.none (by omega) | exact UB.mono (by assumption) (by omega) | exact EQ.none (by omega) | exact EQ.mono (by assumption) (by omega)) (by first | omega | assumption | exact AB.none (by omega) | exact AB.mono (by assumption) (by omega) (by omega) (by omega) (by omega) | exact RB.none (by omega) | exact RB.mono (by assumption) (by omega) | exact UB.none (by omega) | exact UB.mono (by assumption) (by omega) | exact EQ.none (by omega) | exact EQ.mono (by assumption) (by omega)) (by first | omega | assumption | exact AB.none (by omega) | exact AB.mono (by assumption) (by omega) (by omega) (by omega) (by omega) | exact RB.none (by omega) | exact RB.mono (by assumption) (by omega) | exact UB.none (by omega) | exact UB.mono (by assumption) (by omega) | exact EQ.none (by omega) | exact EQ.mono (by assumption) (by omega)) (by first | omega | assumption | exact AB.none (by omega) | exact AB.mono (by assumption) (by omega) (by omega) (by omega) (by omega) | exact RB.none (by omega) | exact RB.mono (by assumption) (by omega) | exact UB.none (by omega) | exact UB.mono (by assumption) (by omega) | exact EQ.none (by omega) | exact EQ.mono (by assumption) (by omega)) (by first | omega | assumption | exact AB.none (by omega) | exact AB.mono (by assumption) (by omega) (by omega) (by omega) (by omega) | exact RB.none (by omega) | exact RB.mono (by assumption) (by omega) | exact UB.none (by omega) | exact UB.mono (by assumption) (by omega) | exact EQ.none (by omega) | exact EQ.mono (by assumption) (by omega)) (fun r7 v_st_8 q26 q27 q28 q29 => ?_)
        try have t30 : (x2_4 + r7).toInt = x2_4.toInt + r7.toInt := ia rfl rfl (by omega) (by omega)
        intro z9 ez9
        have t31 : z9.toInt = (x2_4 + r7).toInt := by rw [ez9] <;> rfl
        try have t32 : (x3_4 + 1).toInt = x3_4.toInt + 1 := ia rfl rfl (by omega) (by omega)
        intro z10 ez10
        have t33 : z10.toInt = (x3_4 + 1).toInt := by rw [ez10] <;> rfl
        refine ⟨_, ?_, rfl, by first | omega | assumption | exact AB.none (by omega) | exact AB.mono (by assumption) (by omega) (by omega) (by omega) (by omega) | exact RB.none (by omega) | exact RB.mono (by assumption) (by omega) | exact UB.none (by omega) | exact UB.mono (by assumption) (by omega) | exact EQ.none (by omega) | exact EQ.mono (by assumption) (by omega), by first | omega | assumption | exact AB.none (by omega) | exact AB.mono (by assumption) (by omega) (by omega) (by omega) (by omega) | exact RB.none (by omega) | exact RB.mono (by assumption) (by omega) | exact UB.none (by omega) | exact UB.mono (by assumption) (by omega) | exact EQ.none (by omega) | exact EQ.mono (by assumption) (by omega), by first | omega | assumption | exact AB.none (by omega) | exact AB.mono (by assumption) (by omega) (by omega) (by omega) (by omega) | exact RB.none (by omega) | exact RB.mono (by assumption) (by omega) | exact UB.none (by omega) | exact UB.mono (by assumption) (by omega) | exact EQ.none (by omega) | exact EQ.mono (by assumption) (by omega), by first | omega | assumption | exact AB.none (by omega) | exact AB.mono (by assumption) (by omega) (by omega) (by omega) (by omega) | exact RB.none (by omega) | exact RB.mono (by assumption) (by omega) | exact UB.none (by omega) | exact UB.mono (by assumption) (by omega) | exact EQ.none (by omega) | exact EQ.mono (by assumption) (by omega), by first | omega | assumption | exact AB.none (by omega) | exact AB.mono (by assumption) (by omega) (by omega) (by omega) (by omega) | exact RB.none (by omega) | exact RB.mono (by assumption) (by omega) | exact UB.none (by omega) | exact UB.mono (by assumption) (by omega) | exact EQ.none (by omega) | exact EQ.mono (by assumption) (by omega)⟩
        omega
    · skip
      have t34 := inle (a := ((v_st (Int32.toNatClampNeg 60)) + p1).toInt) (b := 9999) rfl rfl c9
      have t35 : ((-3) : Int32).toInt = (-3) := rfl
      exact hk _ _ _ (by first | omega | assumption | exact AB.none (by omega) | exact AB.mono (by assumption) (by omega) (by omega) (by omega) (by omega) | exact RB.none (by omega) | exact RB.mono (by assumption) (by omega) | exact UB.none (by omega) | exact UB.mono (by assumption) (by omega) | exact EQ.none (by omega) | exact EQ.mono (by assumption) (by omega)) (by first | omega | assumption | exact AB.none (by omega) | exact AB.mono (by assumption) (by omega) (by omega) (by omega) (by omega) | exact RB.none (by omega) | exact RB.mono (by assumption) (by omega) | exact UB.none (by omega) | exact UB.mono (by assumption) (by omega) | exact EQ.none (by omega) | exact EQ.mono (by assumption) (by omega)) (by first | omega | assumption | exact AB.none (by omega) | exact AB.mono (by assumption) (by omega) (by omega) (by omega) (by omega) | exact RB.none (by omega) | exact RB.mono (by assumption) (by omega) | exact UB.none (by omega) | exact UB.mono (by assumption) (by omega) | exact EQ.none (by omega) | exact EQ.mono (by assumption) (by omega))
  · skip
    have t36 := ieq (a := r1.toInt) (b := 0) rfl rfl c5
    rcases q4 with q4 | q4
    · exfalso; omega
    have t37 : ((-1) : Int32).toInt = (-1) := rfl
    exact hk _ _ _ (by first | omega | assumption | exact AB.none (by omega) | exact AB.mono (by assumption) (by omega) (by omega) (by omega) (by omega) | exact RB.none (by omega) | exact RB.mono (by assumption) (by omega) | exact UB.none (by omega) | exact UB.mono (by assumption) (by omega) | exact EQ.none (by omega) | exact EQ.mono (by assumption) (by omega)) (by first | omega | assumption | exact AB.none (by omega) | exact AB.mono (by assumption) (by omega) (by omega) (by omega) (by omega) | exact RB.none (by omega) | exact RB.mono (by assumption) (by omega) | exact UB.none (by omega) | exact UB.mono (by assumption) (by omega) | exact EQ.none (by omega) | exact EQ.mono (by assumption) (by omega)) (by first | omega | assumption | exact AB.none (by omega) | exact AB.mono (by assumption) (by omega) (by omega) (by omega) (by omega) | exact RB.none (by omega) | exact RB.mono (by assumption) (by omega) | exact UB.none (by omega) | exact UB.mono (by assumption) (by omega) | exact EQ.none (by omega) | exact EQ.mono (by assumption) (by omega))
set_option maxHeartbeats 1000000 in
set_option maxRecDepth 10000 in
theorem s_X8_seed {p1 : Int32} {v_drawn : Int32} {post : Int32 → (Int32) → Prop} (hk : ∀ (r : Int32) (v_drawn' : Int32), post r v_drawn') : wp_X8_seed p1 v_drawn post := by
  unfold wp_X8_seed
  have rp1 := Int32.toInt_lt p1
  have rq1 := Int32.le_toInt p1
  have tn60 : ((Int32.toNatClampNeg 60 : Nat) : Int) = 60 := rfl
  refine ⟨fun c1 => ?_, fun c1 => ?_⟩
  · skip
    have t2 := ile (a := 0) (b := p1.toInt) rfl rfl c1
    exact hk _ _
  · skip
    have t3 := inle (a := 0) (b := p1.toInt) rfl rfl c1
    have t4 : ((-1) : Int32).toInt = (-1) := rfl
    exact hk _ _
set_option maxHeartbeats 1000000 in
set_option maxRecDepth 10000 in
theorem s_X8_carried {p1 : Int32} {p2 : Int32} {p3 : Int32} {v_st : Nat → Int32} {v_kinds : Nat → Int32} {v_rates : Nat → Int32} {v_clocks : Int32} {v_windows : Int32} {v_skyRow : Nat → Int32} {v_skyMany : Int32} {v_betOn : Nat → Int32} {v_stakes : Nat → Int32} {v_bets : Int32} {v_undos : Nat → Int32} {v_undoMany : Int32} {v_drawn : Int32} {post : Int32 → (Nat → Int32) → (Nat → Int32) → (Nat → Int32) → (Int32) → (Int32) → (Nat → Int32) → (Int32) → (Nat → Int32) → (Nat → Int32) → (Int32) → (Nat → Int32) → (Int32) → (Int32) → Prop} (hp0 : 0 ≤ p1.toInt) (hp1 : p1.toInt < 141) (hk : ∀ (r : Int32) (v_st' : Nat → Int32) (v_kinds' : Nat → Int32) (v_rates' : Nat → Int32) (v_clocks' : Int32) (v_windows' : Int32) (v_skyRow' : Nat → Int32) (v_skyMany' : Int32) (v_betOn' : Nat → Int32) (v_stakes' : Nat → Int32) (v_bets' : Int32) (v_undos' : Nat → Int32) (v_undoMany' : Int32) (v_drawn' : Int32), (p3.toInt = 0 → v_st' = v_st ∧ v_kinds' = v_kinds ∧ v_rates' = v_rates ∧ v_clocks' = v_clocks ∧ v_windows' = v_windows ∧ v_skyRow' = v_skyRow ∧ v_skyMany' = v_skyMany ∧ v_betOn' = v_betOn ∧ v_stakes' = v_stakes ∧ v_bets' = v_bets ∧ v_undos' = v_undos ∧ v_undoMany' = v_undoMany ∧ v_drawn' = v_drawn) → (¬ p3.toInt = 0 → cvl (Int32.toNatClampNeg p1) v_st' v_kinds' v_rates' v_clocks' v_windows' v_skyRow' v_skyMany' v_betOn' v_stakes' v_bets' v_undos' v_undoMany' v_drawn' = p2 ∧ ∀ j : Nat, j < 141 → j ≠ (Int32.toNatClampNeg p1) → cvl j v_st' v_kinds' v_rates' v_clocks' v_windows' v_skyRow' v_skyMany' v_betOn' v_stakes' v_bets' v_undos' v_undoMany' v_drawn' = cvl j v_st v_kinds v_rates v_clocks v_windows v_skyRow v_skyMany v_betOn v_stakes v_bets v_undos v_undoMany v_drawn) → (r = cvl (Int32.toNatClampNeg p1) v_st' v_kinds' v_rates' v_clocks' v_windows' v_skyRow' v_skyMany' v_betOn' v_stakes' v_bets' v_undos' v_undoMany' v_drawn') → post r v_st' v_kinds' v_rates' v_clocks' v_windows' v_skyRow' v_skyMany' v_betOn' v_stakes' v_bets' v_undos' v_undoMany' v_drawn') : wp_X8_carried p1 p2 p3 v_st v_kinds v_rates v_clocks v_windows v_skyRow v_skyMany v_betOn v_stakes v_bets v_undos v_undoMany v_drawn post := by
  unfold wp_X8_carried
  have rp1 := Int32.toInt_lt p1
  have rq1 := Int32.le_toInt p1
  have rp2 := Int32.toInt_lt p2
  have rq2 := Int32.le_toInt p2
  have rp3 := Int32.toInt_lt p3
  have rq3 := Int32.le_toInt p3
  have tn60 : ((Int32.toNatClampNeg 60 : Nat) : Int) = 60 := rfl
  refine ⟨fun c1 => ?_, fun c1 => ?_⟩
  · skip
    have t2 := ile (a := 63) (b := p1.toInt) rfl rfl c1
    refine ⟨fun c3 => ?_, fun c3 => ?_⟩
    · skip
      have t4 := ile (a := 81) (b := p1.toInt) rfl rfl c3
      refine ⟨fun c5 => ?_, fun c5 => ?_⟩
      · skip
        have t6 := ile (a := 93) (b := p1.toInt) rfl rfl c5
        refine ⟨fun c7 => ?_, fun c7 => ?_⟩
        · skip
          have t8 := ile (a := 105) (b := p1.toInt) rfl rfl c7
          refine ⟨fun c9 => ?_, fun c9 => ?_⟩
          · skip
            have t10 := ile (a := 135) (b := p1.toInt) rfl rfl c9
            refine ⟨fun y1_6 => (y1_6 = (if ¬ p3 = 0 ∧ p1 = 135 then p2 else v_clocks)) ∧ (True), fun y1_6 hj6 => ?_, ?_⟩
            · skip
              obtain ⟨hy_y1_6, -⟩ := hj6
              refine ⟨fun y1_7 => (y1_7 = (if ¬ p3 = 0 ∧ p1 = 136 then p2 else v_windows)) ∧ (True), fun y1_7 hj7 => ?_, ?_⟩
              · skip
                obtain ⟨hy_y1_7, -⟩ := hj7
                refine ⟨fun y1_8 => (y1_8 = (if ¬ p3 = 0 ∧ p1 = 137 then p2 else v_skyMany)) ∧ (True), fun y1_8 hj8 => ?_, ?_⟩
                · skip
                  obtain ⟨hy_y1_8, -⟩ := hj8
                  refine ⟨fun y1_9 => (y1_9 = (if ¬ p3 = 0 ∧ p1 = 138 then p2 else v_bets)) ∧ (True), fun y1_9 hj9 => ?_, ?_⟩
                  · skip
                    obtain ⟨hy_y1_9, -⟩ := hj9
                    refine ⟨fun y1_10 => (y1_10 = (if ¬ p3 = 0 ∧ p1 = 139 then p2 else v_undoMany)) ∧ (True), fun y1_10 hj10 => ?_, ?_⟩
                    · skip
                      obtain ⟨hy_y1_10, -⟩ := hj10
                      refine ⟨fun y1_11 => (y1_11 = (if ¬ p3 = 0 ∧ p1 = 140 then p2 else v_drawn)) ∧ (True), fun y1_11 hj11 => ?_, ?_⟩
                      · skip
                        obtain ⟨hy_y1_11, -⟩ := hj11
                        refine ⟨fun c11 => ?_, fun c11 => ?_⟩
                        · skip
                          have t12 := ine (a := p1.toInt) (b := 135) rfl rfl c11
                          refine ⟨fun c13 => ?_, fun c13 => ?_⟩
                          · skip
                            have t14 := ine (a := p1.toInt) (b := 136) rfl rfl c13
                            refine ⟨fun c15 => ?_, fun c15 => ?_⟩
                            · skip
                              have t16 := ine (a := p1.toInt) (b := 137) rfl rfl c15
                              refine ⟨fun c17 => ?_, fun c17 => ?_⟩
                              · skip
                                have t18 := ine (a := p1.toInt) (b := 138) rfl rfl c17
                                refine ⟨fun c19 => ?_, fun c19 => ?_⟩
                                · skip
                                  have t20 := ine (a := p1.toInt) (b := 139) rfl rfl c19
                                  have tnp : ((Int32.toNatClampNeg p1 : Nat) : Int) = p1.toInt := itn rfl (by omega)
                                  have hp9 : p1 = 140 := Int32.toInt_inj.mp (show p1.toInt = 140 by omega)
                                  have hk9 : Int32.toNatClampNeg p1 = 140 := by rw [hp9]; rfl
                                  refine hk _ _ _ _ _ _ _ _ _ _ _ _ _ _ ?_ ?_ ?_
                                  · intro h3
                                    exact ⟨rfl, rfl, rfl, (by rw [hy_y1_6, if_neg (fun h => h.1 (Int32.toInt_inj.mp h3 : p3 = 0))]), (by rw [hy_y1_7, if_neg (fun h => h.1 (Int32.toInt_inj.mp h3 : p3 = 0))]), rfl, (by rw [hy_y1_8, if_neg (fun h => h.1 (Int32.toInt_inj.mp h3 : p3 = 0))]), rfl, rfl, (by rw [hy_y1_9, if_neg (fun h => h.1 (Int32.toInt_inj.mp h3 : p3 = 0))]), rfl, (by rw [hy_y1_10, if_neg (fun h => h.1 (Int32.toInt_inj.mp h3 : p3 = 0))]), (by rw [hy_y1_11, if_neg (fun h => h.1 (Int32.toInt_inj.mp h3 : p3 = 0))])⟩
                                  · intro h3
                                    rw [hk9]
                                    have w_y1_6 : y1_6 = v_clocks := by rw [hy_y1_6, if_neg (fun h => absurd (hp9.symm.trans h.2) (by decide))]
                                    have w_y1_7 : y1_7 = v_windows := by rw [hy_y1_7, if_neg (fun h => absurd (hp9.symm.trans h.2) (by decide))]
                                    have w_y1_8 : y1_8 = v_skyMany := by rw [hy_y1_8, if_neg (fun h => absurd (hp9.symm.trans h.2) (by decide))]
                                    have w_y1_9 : y1_9 = v_bets := by rw [hy_y1_9, if_neg (fun h => absurd (hp9.symm.trans h.2) (by decide))]
                                    have w_y1_10 : y1_10 = v_undoMany := by rw [hy_y1_10, if_neg (fun h => absurd (hp9.symm.trans h.2) (by decide))]
                                    have w_y1_11 : y1_11 = p2 := by rw [hy_y1_11, if_pos ⟨fun h => h3 (by rw [h]; rfl), hp9⟩]
                                    rw [w_y1_6, w_y1_7, w_y1_8, w_y1_9, w_y1_10, w_y1_11]
                                    exact ⟨rfl, fun j hj hne => cs_drawn hj hne⟩
                                  · rw [hk9]; rfl
                                · skip
                                  have t21 := ieq (a := p1.toInt) (b := 139) rfl rfl c19
                                  have tnp : ((Int32.toNatClampNeg p1 : Nat) : Int) = p1.toInt := itn rfl (by omega)
                                  have hp9 : p1 = 139 := Int32.toInt_inj.mp (show p1.toInt = 139 by omega)
                                  have hk9 : Int32.toNatClampNeg p1 = 139 := by rw [hp9]; rfl
                                  refine hk _ _ _ _ _ _ _ _ _ _ _ _ _ _ ?_ ?_ ?_
                                  · intro h3
                                    exact ⟨rfl, rfl, rfl, (by rw [hy_y1_6, if_neg (fun h => h.1 (Int32.toInt_inj.mp h3 : p3 = 0))]), (by rw [hy_y1_7, if_neg (fun h => h.1 (Int32.toInt_inj.mp h3 : p3 = 0))]), rfl, (by rw [hy_y1_8, if_neg (fun h => h.1 (Int32.toInt_inj.mp h3 : p3 = 0))]), rfl, rfl, (by rw [hy_y1_9, if_neg (fun h => h.1 (Int32.toInt_inj.mp h3 : p3 = 0))]), rfl, (by rw [hy_y1_10, if_neg (fun h => h.1 (Int32.toInt_inj.mp h3 : p3 = 0))]), (by rw [hy_y1_11, if_neg (fun h => h.1 (Int32.toInt_inj.mp h3 : p3 = 0))])⟩
                                  · intro h3
                                    rw [hk9]
                                    have w_y1_6 : y1_6 = v_clocks := by rw [hy_y1_6, if_neg (fun h => absurd (hp9.symm.trans h.2) (by decide))]
                                    have w_y1_7 : y1_7 = v_windows := by rw [hy_y1_7, if_neg (fun h => absurd (hp9.symm.trans h.2) (by decide))]
                                    have w_y1_8 : y1_8 = v_skyMany := by rw [hy_y1_8, if_neg (fun h => absurd (hp9.symm.trans h.2) (by decide))]
                                    have w_y1_9 : y1_9 = v_bets := by rw [hy_y1_9, if_neg (fun h => absurd (hp9.symm.trans h.2) (by decide))]
                                    have w_y1_10 : y1_10 = p2 := by rw [hy_y1_10, if_pos ⟨fun h => h3 (by rw [h]; rfl), hp9⟩]
                                    have w_y1_11 : y1_11 = v_drawn := by rw [hy_y1_11, if_neg (fun h => absurd (hp9.symm.trans h.2) (by decide))]
                                    rw [w_y1_6, w_y1_7, w_y1_8, w_y1_9, w_y1_10, w_y1_11]
                                    exact ⟨rfl, fun j hj hne => cs_undoMany hne⟩
                                  · rw [hk9]; rfl
                              · skip
                                have t22 := ieq (a := p1.toInt) (b := 138) rfl rfl c17
                                have tnp : ((Int32.toNatClampNeg p1 : Nat) : Int) = p1.toInt := itn rfl (by omega)
                                have hp9 : p1 = 138 := Int32.toInt_inj.mp (show p1.toInt = 138 by omega)
                                have hk9 : Int32.toNatClampNeg p1 = 138 := by rw [hp9]; rfl
                                refine hk _ _ _ _ _ _ _ _ _ _ _ _ _ _ ?_ ?_ ?_
                                · intro h3
                                  exact ⟨rfl, rfl, rfl, (by rw [hy_y1_6, if_neg (fun h => h.1 (Int32.toInt_inj.mp h3 : p3 = 0))]), (by rw [hy_y1_7, if_neg (fun h => h.1 (Int32.toInt_inj.mp h3 : p3 = 0))]), rfl, (by rw [hy_y1_8, if_neg (fun h => h.1 (Int32.toInt_inj.mp h3 : p3 = 0))]), rfl, rfl, (by rw [hy_y1_9, if_neg (fun h => h.1 (Int32.toInt_inj.mp h3 : p3 = 0))]), rfl, (by rw [hy_y1_10, if_neg (fun h => h.1 (Int32.toInt_inj.mp h3 : p3 = 0))]), (by rw [hy_y1_11, if_neg (fun h => h.1 (Int32.toInt_inj.mp h3 : p3 = 0))])⟩
                                · intro h3
                                  rw [hk9]
                                  have w_y1_6 : y1_6 = v_clocks := by rw [hy_y1_6, if_neg (fun h => absurd (hp9.symm.trans h.2) (by decide))]
                                  have w_y1_7 : y1_7 = v_windows := by rw [hy_y1_7, if_neg (fun h => absurd (hp9.symm.trans h.2) (by decide))]
                                  have w_y1_8 : y1_8 = v_skyMany := by rw [hy_y1_8, if_neg (fun h => absurd (hp9.symm.trans h.2) (by decide))]
                                  have w_y1_9 : y1_9 = p2 := by rw [hy_y1_9, if_pos ⟨fun h => h3 (by rw [h]; rfl), hp9⟩]
                                  have w_y1_10 : y1_10 = v_undoMany := by rw [hy_y1_10, if_neg (fun h => absurd (hp9.symm.trans h.2) (by decide))]
                                  have w_y1_11 : y1_11 = v_drawn := by rw [hy_y1_11, if_neg (fun h => absurd (hp9.symm.trans h.2) (by decide))]
                                  rw [w_y1_6, w_y1_7, w_y1_8, w_y1_9, w_y1_10, w_y1_11]
                                  exact ⟨rfl, fun j hj hne => cs_bets hne⟩
                                · rw [hk9]; rfl
                            · skip
                              have t23 := ieq (a := p1.toInt) (b := 137) rfl rfl c15
                              have tnp : ((Int32.toNatClampNeg p1 : Nat) : Int) = p1.toInt := itn rfl (by omega)
                              have hp9 : p1 = 137 := Int32.toInt_inj.mp (show p1.toInt = 137 by omega)
                              have hk9 : Int32.toNatClampNeg p1 = 137 := by rw [hp9]; rfl
                              refine hk _ _ _ _ _ _ _ _ _ _ _ _ _ _ ?_ ?_ ?_
                              · intro h3
                                exact ⟨rfl, rfl, rfl, (by rw [hy_y1_6, if_neg (fun h => h.1 (Int32.toInt_inj.mp h3 : p3 = 0))]), (by rw [hy_y1_7, if_neg (fun h => h.1 (Int32.toInt_inj.mp h3 : p3 = 0))]), rfl, (by rw [hy_y1_8, if_neg (fun h => h.1 (Int32.toInt_inj.mp h3 : p3 = 0))]), rfl, rfl, (by rw [hy_y1_9, if_neg (fun h => h.1 (Int32.toInt_inj.mp h3 : p3 = 0))]), rfl, (by rw [hy_y1_10, if_neg (fun h => h.1 (Int32.toInt_inj.mp h3 : p3 = 0))]), (by rw [hy_y1_11, if_neg (fun h => h.1 (Int32.toInt_inj.mp h3 : p3 = 0))])⟩
                              · intro h3
                                rw [hk9]
                                have w_y1_6 : y1_6 = v_clocks := by rw [hy_y1_6, if_neg (fun h => absurd (hp9.symm.trans h.2) (by decide))]
                                have w_y1_7 : y1_7 = v_windows := by rw [hy_y1_7, if_neg (fun h => absurd (hp9.symm.trans h.2) (by decide))]
                                have w_y1_8 : y1_8 = p2 := by rw [hy_y1_8, if_pos ⟨fun h => h3 (by rw [h]; rfl), hp9⟩]
                                have w_y1_9 : y1_9 = v_bets := by rw [hy_y1_9, if_neg (fun h => absurd (hp9.symm.trans h.2) (by decide))]
                                have w_y1_10 : y1_10 = v_undoMany := by rw [hy_y1_10, if_neg (fun h => absurd (hp9.symm.trans h.2) (by decide))]
                                have w_y1_11 : y1_11 = v_drawn := by rw [hy_y1_11, if_neg (fun h => absurd (hp9.symm.trans h.2) (by decide))]
                                rw [w_y1_6, w_y1_7, w_y1_8, w_y1_9, w_y1_10, w_y1_11]
                                exact ⟨rfl, fun j hj hne => cs_skyMany hne⟩
                              · rw [hk9]; rfl
                          · skip
                            have t24 := ieq (a := p1.toInt) (b := 136) rfl rfl c13
                            have tnp : ((Int32.toNatClampNeg p1 : Nat) : Int) = p1.toInt := itn rfl (by omega)
                            have hp9 : p1 = 136 := Int32.toInt_inj.mp (show p1.toInt = 136 by omega)
                            have hk9 : Int32.toNatClampNeg p1 = 136 := by rw [hp9]; rfl
                            refine hk _ _ _ _ _ _ _ _ _ _ _ _ _ _ ?_ ?_ ?_
                            · intro h3
                              exact ⟨rfl, rfl, rfl, (by rw [hy_y1_6, if_neg (fun h => h.1 (Int32.toInt_inj.mp h3 : p3 = 0))]), (by rw [hy_y1_7, if_neg (fun h => h.1 (Int32.toInt_inj.mp h3 : p3 = 0))]), rfl, (by rw [hy_y1_8, if_neg (fun h => h.1 (Int32.toInt_inj.mp h3 : p3 = 0))]), rfl, rfl, (by rw [hy_y1_9, if_neg (fun h => h.1 (Int32.toInt_inj.mp h3 : p3 = 0))]), rfl, (by rw [hy_y1_10, if_neg (fun h => h.1 (Int32.toInt_inj.mp h3 : p3 = 0))]), (by rw [hy_y1_11, if_neg (fun h => h.1 (Int32.toInt_inj.mp h3 : p3 = 0))])⟩
                            · intro h3
                              rw [hk9]
                              have w_y1_6 : y1_6 = v_clocks := by rw [hy_y1_6, if_neg (fun h => absurd (hp9.symm.trans h.2) (by decide))]
                              have w_y1_7 : y1_7 = p2 := by rw [hy_y1_7, if_pos ⟨fun h => h3 (by rw [h]; rfl), hp9⟩]
                              have w_y1_8 : y1_8 = v_skyMany := by rw [hy_y1_8, if_neg (fun h => absurd (hp9.symm.trans h.2) (by decide))]
                              have w_y1_9 : y1_9 = v_bets := by rw [hy_y1_9, if_neg (fun h => absurd (hp9.symm.trans h.2) (by decide))]
                              have w_y1_10 : y1_10 = v_undoMany := by rw [hy_y1_10, if_neg (fun h => absurd (hp9.symm.trans h.2) (by decide))]
                              have w_y1_11 : y1_11 = v_drawn := by rw [hy_y1_11, if_neg (fun h => absurd (hp9.symm.trans h.2) (by decide))]
                              rw [w_y1_6, w_y1_7, w_y1_8, w_y1_9, w_y1_10, w_y1_11]
                              exact ⟨rfl, fun j hj hne => cs_windows hne⟩
                            · rw [hk9]; rfl
                        · skip
                          have t25 := ieq (a := p1.toInt) (b := 135) rfl rfl c11
                          have tnp : ((Int32.toNatClampNeg p1 : Nat) : Int) = p1.toInt := itn rfl (by omega)
                          have hp9 : p1 = 135 := Int32.toInt_inj.mp (show p1.toInt = 135 by omega)
                          have hk9 : Int32.toNatClampNeg p1 = 135 := by rw [hp9]; rfl
                          refine hk _ _ _ _ _ _ _ _ _ _ _ _ _ _ ?_ ?_ ?_
                          · intro h3
                            exact ⟨rfl, rfl, rfl, (by rw [hy_y1_6, if_neg (fun h => h.1 (Int32.toInt_inj.mp h3 : p3 = 0))]), (by rw [hy_y1_7, if_neg (fun h => h.1 (Int32.toInt_inj.mp h3 : p3 = 0))]), rfl, (by rw [hy_y1_8, if_neg (fun h => h.1 (Int32.toInt_inj.mp h3 : p3 = 0))]), rfl, rfl, (by rw [hy_y1_9, if_neg (fun h => h.1 (Int32.toInt_inj.mp h3 : p3 = 0))]), rfl, (by rw [hy_y1_10, if_neg (fun h => h.1 (Int32.toInt_inj.mp h3 : p3 = 0))]), (by rw [hy_y1_11, if_neg (fun h => h.1 (Int32.toInt_inj.mp h3 : p3 = 0))])⟩
                          · intro h3
                            rw [hk9]
                            have w_y1_6 : y1_6 = p2 := by rw [hy_y1_6, if_pos ⟨fun h => h3 (by rw [h]; rfl), hp9⟩]
                            have w_y1_7 : y1_7 = v_windows := by rw [hy_y1_7, if_neg (fun h => absurd (hp9.symm.trans h.2) (by decide))]
                            have w_y1_8 : y1_8 = v_skyMany := by rw [hy_y1_8, if_neg (fun h => absurd (hp9.symm.trans h.2) (by decide))]
                            have w_y1_9 : y1_9 = v_bets := by rw [hy_y1_9, if_neg (fun h => absurd (hp9.symm.trans h.2) (by decide))]
                            have w_y1_10 : y1_10 = v_undoMany := by rw [hy_y1_10, if_neg (fun h => absurd (hp9.symm.trans h.2) (by decide))]
                            have w_y1_11 : y1_11 = v_drawn := by rw [hy_y1_11, if_neg (fun h => absurd (hp9.symm.trans h.2) (by decide))]
                            rw [w_y1_6, w_y1_7, w_y1_8, w_y1_9, w_y1_10, w_y1_11]
                            exact ⟨rfl, fun j hj hne => cs_clocks hne⟩
                          · rw [hk9]; rfl
                      refine ⟨fun c26 => ?_, fun c26 => ?_⟩
                      · skip
                        have t27 := ieq (a := p3.toInt) (b := 0) rfl rfl c26
                        exact ⟨by first | omega | rw [if_neg (fun h => h.1 (by assumption))] | rw [if_neg (fun h => absurd h.2 (by assumption))] | rw [if_pos ⟨by assumption, by assumption⟩] | rw [if_neg (fun h => absurd h.2 (Int32.not_lt.mpr (by assumption)))] | rw [if_pos ⟨by assumption, Int32.not_le.mp (by assumption)⟩] | rw [if_neg (fun h => h.2 (by assumption))], trivial⟩
                      · skip
                        have t28 := ine (a := p3.toInt) (b := 0) rfl rfl c26
                        refine ⟨fun c29 => ?_, fun c29 => ?_⟩
                        · skip
                          have t30 := ine (a := p1.toInt) (b := 140) rfl rfl c29
                          exact ⟨by first | omega | rw [if_neg (fun h => h.1 (by assumption))] | rw [if_neg (fun h => absurd h.2 (by assumption))] | rw [if_pos ⟨by assumption, by assumption⟩] | rw [if_neg (fun h => absurd h.2 (Int32.not_lt.mpr (by assumption)))] | rw [if_pos ⟨by assumption, Int32.not_le.mp (by assumption)⟩] | rw [if_neg (fun h => h.2 (by assumption))], trivial⟩
                        · skip
                          have t31 := ieq (a := p1.toInt) (b := 140) rfl rfl c29
                          exact ⟨by first | omega | rw [if_neg (fun h => h.1 (by assumption))] | rw [if_neg (fun h => absurd h.2 (by assumption))] | rw [if_pos ⟨by assumption, by assumption⟩] | rw [if_neg (fun h => absurd h.2 (Int32.not_lt.mpr (by assumption)))] | rw [if_pos ⟨by assumption, Int32.not_le.mp (by assumption)⟩] | rw [if_neg (fun h => h.2 (by assumption))], trivial⟩
                    refine ⟨fun c32 => ?_, fun c32 => ?_⟩
                    · skip
                      have t33 := ieq (a := p3.toInt) (b := 0) rfl rfl c32
                      exact ⟨by first | omega | rw [if_neg (fun h => h.1 (by assumption))] | rw [if_neg (fun h => absurd h.2 (by assumption))] | rw [if_pos ⟨by assumption, by assumption⟩] | rw [if_neg (fun h => absurd h.2 (Int32.not_lt.mpr (by assumption)))] | rw [if_pos ⟨by assumption, Int32.not_le.mp (by assumption)⟩] | rw [if_neg (fun h => h.2 (by assumption))], trivial⟩
                    · skip
                      have t34 := ine (a := p3.toInt) (b := 0) rfl rfl c32
                      refine ⟨fun c35 => ?_, fun c35 => ?_⟩
                      · skip
                        have t36 := ine (a := p1.toInt) (b := 139) rfl rfl c35
                        exact ⟨by first | omega | rw [if_neg (fun h => h.1 (by assumption))] | rw [if_neg (fun h => absurd h.2 (by assumption))] | rw [if_pos ⟨by assumption, by assumption⟩] | rw [if_neg (fun h => absurd h.2 (Int32.not_lt.mpr (by assumption)))] | rw [if_pos ⟨by assumption, Int32.not_le.mp (by assumption)⟩] | rw [if_neg (fun h => h.2 (by assumption))], trivial⟩
                      · skip
                        have t37 := ieq (a := p1.toInt) (b := 139) rfl rfl c35
                        exact ⟨by first | omega | rw [if_neg (fun h => h.1 (by assumption))] | rw [if_neg (fun h => absurd h.2 (by assumption))] | rw [if_pos ⟨by assumption, by assumption⟩] | rw [if_neg (fun h => absurd h.2 (Int32.not_lt.mpr (by assumption)))] | rw [if_pos ⟨by assumption, Int32.not_le.mp (by assumption)⟩] | rw [if_neg (fun h => h.2 (by assumption))], trivial⟩
                  refine ⟨fun c38 => ?_, fun c38 => ?_⟩
                  · skip
                    have t39 := ieq (a := p3.toInt) (b := 0) rfl rfl c38
                    exact ⟨by first | omega | rw [if_neg (fun h => h.1 (by assumption))] | rw [if_neg (fun h => absurd h.2 (by assumption))] | rw [if_pos ⟨by assumption, by assumption⟩] | rw [if_neg (fun h => absurd h.2 (Int32.not_lt.mpr (by assumption)))] | rw [if_pos ⟨by assumption, Int32.not_le.mp (by assumption)⟩] | rw [if_neg (fun h => h.2 (by assumption))], trivial⟩
                  · skip
                    have t40 := ine (a := p3.toInt) (b := 0) rfl rfl c38
                    refine ⟨fun c41 => ?_, fun c41 => ?_⟩
                    · skip
                      have t42 := ine (a := p1.toInt) (b := 138) rfl rfl c41
                      exact ⟨by first | omega | rw [if_neg (fun h => h.1 (by assumption))] | rw [if_neg (fun h => absurd h.2 (by assumption))] | rw [if_pos ⟨by assumption, by assumption⟩] | rw [if_neg (fun h => absurd h.2 (Int32.not_lt.mpr (by assumption)))] | rw [if_pos ⟨by assumption, Int32.not_le.mp (by assumption)⟩] | rw [if_neg (fun h => h.2 (by assumption))], trivial⟩
                    · skip
                      have t43 := ieq (a := p1.toInt) (b := 138) rfl rfl c41
                      exact ⟨by first | omega | rw [if_neg (fun h => h.1 (by assumption))] | rw [if_neg (fun h => absurd h.2 (by assumption))] | rw [if_pos ⟨by assumption, by assumption⟩] | rw [if_neg (fun h => absurd h.2 (Int32.not_lt.mpr (by assumption)))] | rw [if_pos ⟨by assumption, Int32.not_le.mp (by assumption)⟩] | rw [if_neg (fun h => h.2 (by assumption))], trivial⟩
                refine ⟨fun c44 => ?_, fun c44 => ?_⟩
                · skip
                  have t45 := ieq (a := p3.toInt) (b := 0) rfl rfl c44
                  exact ⟨by first | omega | rw [if_neg (fun h => h.1 (by assumption))] | rw [if_neg (fun h => absurd h.2 (by assumption))] | rw [if_pos ⟨by assumption, by assumption⟩] | rw [if_neg (fun h => absurd h.2 (Int32.not_lt.mpr (by assumption)))] | rw [if_pos ⟨by assumption, Int32.not_le.mp (by assumption)⟩] | rw [if_neg (fun h => h.2 (by assumption))], trivial⟩
                · skip
                  have t46 := ine (a := p3.toInt) (b := 0) rfl rfl c44
                  refine ⟨fun c47 => ?_, fun c47 => ?_⟩
                  · skip
                    have t48 := ine (a := p1.toInt) (b := 137) rfl rfl c47
                    exact ⟨by first | omega | rw [if_neg (fun h => h.1 (by assumption))] | rw [if_neg (fun h => absurd h.2 (by assumption))] | rw [if_pos ⟨by assumption, by assumption⟩] | rw [if_neg (fun h => absurd h.2 (Int32.not_lt.mpr (by assumption)))] | rw [if_pos ⟨by assumption, Int32.not_le.mp (by assumption)⟩] | rw [if_neg (fun h => h.2 (by assumption))], trivial⟩
                  · skip
                    have t49 := ieq (a := p1.toInt) (b := 137) rfl rfl c47
                    exact ⟨by first | omega | rw [if_neg (fun h => h.1 (by assumption))] | rw [if_neg (fun h => absurd h.2 (by assumption))] | rw [if_pos ⟨by assumption, by assumption⟩] | rw [if_neg (fun h => absurd h.2 (Int32.not_lt.mpr (by assumption)))] | rw [if_pos ⟨by assumption, Int32.not_le.mp (by assumption)⟩] | rw [if_neg (fun h => h.2 (by assumption))], trivial⟩
              refine ⟨fun c50 => ?_, fun c50 => ?_⟩
              · skip
                have t51 := ieq (a := p3.toInt) (b := 0) rfl rfl c50
                exact ⟨by first | omega | rw [if_neg (fun h => h.1 (by assumption))] | rw [if_neg (fun h => absurd h.2 (by assumption))] | rw [if_pos ⟨by assumption, by assumption⟩] | rw [if_neg (fun h => absurd h.2 (Int32.not_lt.mpr (by assumption)))] | rw [if_pos ⟨by assumption, Int32.not_le.mp (by assumption)⟩] | rw [if_neg (fun h => h.2 (by assumption))], trivial⟩
              · skip
                have t52 := ine (a := p3.toInt) (b := 0) rfl rfl c50
                refine ⟨fun c53 => ?_, fun c53 => ?_⟩
                · skip
                  have t54 := ine (a := p1.toInt) (b := 136) rfl rfl c53
                  exact ⟨by first | omega | rw [if_neg (fun h => h.1 (by assumption))] | rw [if_neg (fun h => absurd h.2 (by assumption))] | rw [if_pos ⟨by assumption, by assumption⟩] | rw [if_neg (fun h => absurd h.2 (Int32.not_lt.mpr (by assumption)))] | rw [if_pos ⟨by assumption, Int32.not_le.mp (by assumption)⟩] | rw [if_neg (fun h => h.2 (by assumption))], trivial⟩
                · skip
                  have t55 := ieq (a := p1.toInt) (b := 136) rfl rfl c53
                  exact ⟨by first | omega | rw [if_neg (fun h => h.1 (by assumption))] | rw [if_neg (fun h => absurd h.2 (by assumption))] | rw [if_pos ⟨by assumption, by assumption⟩] | rw [if_neg (fun h => absurd h.2 (Int32.not_lt.mpr (by assumption)))] | rw [if_pos ⟨by assumption, Int32.not_le.mp (by assumption)⟩] | rw [if_neg (fun h => h.2 (by assumption))], trivial⟩
            refine ⟨fun c56 => ?_, fun c56 => ?_⟩
            · skip
              have t57 := ieq (a := p3.toInt) (b := 0) rfl rfl c56
              exact ⟨by first | omega | rw [if_neg (fun h => h.1 (by assumption))] | rw [if_neg (fun h => absurd h.2 (by assumption))] | rw [if_pos ⟨by assumption, by assumption⟩] | rw [if_neg (fun h => absurd h.2 (Int32.not_lt.mpr (by assumption)))] | rw [if_pos ⟨by assumption, Int32.not_le.mp (by assumption)⟩] | rw [if_neg (fun h => h.2 (by assumption))], trivial⟩
            · skip
              have t58 := ine (a := p3.toInt) (b := 0) rfl rfl c56
              refine ⟨fun c59 => ?_, fun c59 => ?_⟩
              · skip
                have t60 := ine (a := p1.toInt) (b := 135) rfl rfl c59
                exact ⟨by first | omega | rw [if_neg (fun h => h.1 (by assumption))] | rw [if_neg (fun h => absurd h.2 (by assumption))] | rw [if_pos ⟨by assumption, by assumption⟩] | rw [if_neg (fun h => absurd h.2 (Int32.not_lt.mpr (by assumption)))] | rw [if_pos ⟨by assumption, Int32.not_le.mp (by assumption)⟩] | rw [if_neg (fun h => h.2 (by assumption))], trivial⟩
              · skip
                have t61 := ieq (a := p1.toInt) (b := 135) rfl rfl c59
                exact ⟨by first | omega | rw [if_neg (fun h => h.1 (by assumption))] | rw [if_neg (fun h => absurd h.2 (by assumption))] | rw [if_pos ⟨by assumption, by assumption⟩] | rw [if_neg (fun h => absurd h.2 (Int32.not_lt.mpr (by assumption)))] | rw [if_pos ⟨by assumption, Int32.not_le.mp (by assumption)⟩] | rw [if_neg (fun h => h.2 (by assumption))], trivial⟩
          · skip
            have t62 := inle (a := 135) (b := p1.toInt) rfl rfl c9
            refine ⟨fun c63 => ?_, fun c63 => ?_⟩
            · skip
              have t64 := ieq (a := p3.toInt) (b := 0) rfl rfl c63
              try have t65 : (p1 - 105).toInt = p1.toInt - 105 := isb rfl rfl (by omega) (by omega)
              have t66 := isbi (x := p1) (y := 105) (b := 105) rfl
              refine ⟨ivp (a := (p1 - 105).toInt) rfl (by omega) (by omega), ?_⟩
              intro z30 ez30
              have t67 : z30.toInt = (v_undos (Int32.toNatClampNeg (p1 - 105))).toInt := by rw [ez30] <;> rfl
              refine ⟨ivp (a := (p1 - 105).toInt) rfl (by omega) (by omega), ?_⟩
              intro f31 ef31
              have t68 : ((Int32.toNatClampNeg (p1 - 105) : Nat) : Int) = (p1 - 105).toInt := itn rfl (by omega)
              have t69 : (f31 (Int32.toNatClampNeg (p1 - 105))).toInt = z30.toInt := by rw [ef31, upd_eq] <;> rfl
              refine ⟨ivp (a := (p1 - 105).toInt) rfl (by omega) (by omega), ?_⟩
              have tnp : ((Int32.toNatClampNeg p1 : Nat) : Int) = p1.toInt := itn rfl (by omega)
              have tni : ((Int32.toNatClampNeg (p1 - 105) : Nat) : Int) = p1.toInt - 105 := itn (by omega) (by omega)
              have hk9 : Int32.toNatClampNeg p1 = 105 + Int32.toNatClampNeg (p1 - 105) := by omega
              have hc9 : Int32.toNatClampNeg (p1 - 105) < 30 := by omega
              refine hk _ _ _ _ _ _ _ _ _ _ _ _ _ _ ?_ ?_ ?_
              · intro h3
                first | exact ⟨rfl, rfl, rfl, rfl, rfl, rfl, rfl, rfl, rfl, rfl, (by rw [ef31]; exact upd_self (by assumption)), rfl, rfl⟩ | (exfalso; omega)
              · intro h3
                first | (exfalso; omega) | (rw [ef31]; exact ⟨(cs_undos hk9 hc9).2, fun j _ hne => (cs_undos hk9 hc9).1 j hne⟩)
              · rw [cg_undos (by omega) (by omega)]
                rw [show Int32.toNatClampNeg p1 - 105 = Int32.toNatClampNeg (p1 - 105) by omega]
            · skip
              have t70 := ine (a := p3.toInt) (b := 0) rfl rfl c63
              try have t71 : (p1 - 105).toInt = p1.toInt - 105 := isb rfl rfl (by omega) (by omega)
              have t72 := isbi (x := p1) (y := 105) (b := 105) rfl
              refine ⟨ivp (a := (p1 - 105).toInt) rfl (by omega) (by omega), ?_⟩
              intro f32 ef32
              have t73 : ((Int32.toNatClampNeg (p1 - 105) : Nat) : Int) = (p1 - 105).toInt := itn rfl (by omega)
              have t74 : (f32 (Int32.toNatClampNeg (p1 - 105))).toInt = p2.toInt := by rw [ef32, upd_eq] <;> rfl
              refine ⟨ivp (a := (p1 - 105).toInt) rfl (by omega) (by omega), ?_⟩
              have tnp : ((Int32.toNatClampNeg p1 : Nat) : Int) = p1.toInt := itn rfl (by omega)
              have tni : ((Int32.toNatClampNeg (p1 - 105) : Nat) : Int) = p1.toInt - 105 := itn (by omega) (by omega)
              have hk9 : Int32.toNatClampNeg p1 = 105 + Int32.toNatClampNeg (p1 - 105) := by omega
              have hc9 : Int32.toNatClampNeg (p1 - 105) < 30 := by omega
              refine hk _ _ _ _ _ _ _ _ _ _ _ _ _ _ ?_ ?_ ?_
              · intro h3
                first | exact ⟨rfl, rfl, rfl, rfl, rfl, rfl, rfl, rfl, rfl, rfl, (by rw [ef32]; exact upd_self (by assumption)), rfl, rfl⟩ | (exfalso; omega)
              · intro h3
                first | (exfalso; omega) | (rw [ef32]; exact ⟨(cs_undos hk9 hc9).2, fun j _ hne => (cs_undos hk9 hc9).1 j hne⟩)
              · rw [cg_undos (by omega) (by omega)]
                rw [show Int32.toNatClampNeg p1 - 105 = Int32.toNatClampNeg (p1 - 105) by omega]
        · skip
          have t75 := inle (a := 105) (b := p1.toInt) rfl rfl c7
          try have t76 : (p1 - 93).toInt = p1.toInt - 93 := isb rfl rfl (by omega) (by omega)
          have t77 := isbi (x := p1) (y := 93) (b := 93) rfl
          try have t78 : ((p1 - 93) - (p1 - 93) / 6 * 6).toInt = (p1 - 93).toInt % 6 := irm rfl rfl (by omega) (by omega)
          intro z33 ez33
          have t79 : z33.toInt = ((p1 - 93) - (p1 - 93) / 6 * 6).toInt := by rw [ez33] <;> rfl
          refine ⟨fun y2_34 => (y2_34 = (if ¬ p3 = 0 ∧ p1 < 99 then p2 else v_betOn (Int32.toNatClampNeg z33))) ∧ (True), fun y2_34 hj34 => ?_, ?_⟩
          · skip
            obtain ⟨hy_y2_34, -⟩ := hj34
            refine ⟨ivp (a := z33.toInt) rfl (by omega) (by omega), ?_⟩
            intro f35 ef35
            have t80 : ((Int32.toNatClampNeg z33 : Nat) : Int) = z33.toInt := itn rfl (by omega)
            have t81 : (f35 (Int32.toNatClampNeg z33)).toInt = y2_34.toInt := by rw [ef35, upd_eq] <;> rfl
            refine ⟨fun y2_36 => (y2_36 = (if ¬ p3 = 0 ∧ ¬ p1 < 99 then p2 else v_stakes (Int32.toNatClampNeg z33))) ∧ (True), fun y2_36 hj36 => ?_, ?_⟩
            · skip
              obtain ⟨hy_y2_36, -⟩ := hj36
              refine ⟨ivp (a := z33.toInt) rfl (by omega) (by omega), ?_⟩
              intro f37 ef37
              have t82 : ((Int32.toNatClampNeg z33 : Nat) : Int) = z33.toInt := itn rfl (by omega)
              have t83 : (f37 (Int32.toNatClampNeg z33)).toInt = y2_36.toInt := by rw [ef37, upd_eq] <;> rfl
              refine ⟨fun c84 => ?_, fun c84 => ?_⟩
              · skip
                have t85 := ile (a := 99) (b := p1.toInt) rfl rfl c84
                refine ⟨ivp (a := z33.toInt) rfl (by omega) (by omega), ?_⟩
                have tnp : ((Int32.toNatClampNeg p1 : Nat) : Int) = p1.toInt := itn rfl (by omega)
                have tni : ((Int32.toNatClampNeg z33 : Nat) : Int) = z33.toInt := itn rfl (by omega)
                have hk9 : Int32.toNatClampNeg p1 = 99 + Int32.toNatClampNeg z33 := by omega
                have hc9 : Int32.toNatClampNeg z33 < 6 := by omega
                have lt9 : ¬ p1 < 99 := fun h => absurd (ilt (a := p1.toInt) (b := 99) rfl rfl h) (by omega)
                have eo9 : f35 = v_betOn := by rw [ef35]; exact upd_self (by rw [hy_y2_34, if_neg (fun h => lt9 h.2)])
                refine hk _ _ _ _ _ _ _ _ _ _ _ _ _ _ ?_ ?_ ?_
                · intro h3
                  have ef9 : f37 = v_stakes := by rw [ef37]; exact upd_self (by rw [hy_y2_36, if_neg (fun h => h.1 (Int32.toInt_inj.mp h3 : p3 = 0))])
                  exact ⟨rfl, rfl, rfl, rfl, rfl, rfl, rfl, eo9, ef9, rfl, rfl, rfl, rfl⟩
                · intro h3
                  rw [eo9, ef37, hy_y2_36, if_pos ⟨fun h => h3 (by rw [h]; rfl), lt9⟩]
                  exact ⟨(cs_stakes hk9 hc9).2, fun j _ hne => (cs_stakes hk9 hc9).1 j hne⟩
                · rw [cg_stakes (by omega) (by omega), show Int32.toNatClampNeg p1 - 99 = Int32.toNatClampNeg z33 by omega]
              · skip
                have t86 := inle (a := 99) (b := p1.toInt) rfl rfl c84
                refine ⟨ivp (a := z33.toInt) rfl (by omega) (by omega), ?_⟩
                have tnp : ((Int32.toNatClampNeg p1 : Nat) : Int) = p1.toInt := itn rfl (by omega)
                have tni : ((Int32.toNatClampNeg z33 : Nat) : Int) = z33.toInt := itn rfl (by omega)
                have hk9 : Int32.toNatClampNeg p1 = 93 + Int32.toNatClampNeg z33 := by omega
                have hc9 : Int32.toNatClampNeg z33 < 6 := by omega
                have lt9 : p1 < 99 := Int32.lt_iff_toInt_lt.mpr (show p1.toInt < 99 by omega)
                have eo9 : f37 = v_stakes := by rw [ef37]; exact upd_self (by rw [hy_y2_36, if_neg (fun h => h.2 lt9)])
                refine hk _ _ _ _ _ _ _ _ _ _ _ _ _ _ ?_ ?_ ?_
                · intro h3
                  have ef9 : f35 = v_betOn := by rw [ef35]; exact upd_self (by rw [hy_y2_34, if_neg (fun h => h.1 (Int32.toInt_inj.mp h3 : p3 = 0))])
                  exact ⟨rfl, rfl, rfl, rfl, rfl, rfl, rfl, ef9, eo9, rfl, rfl, rfl, rfl⟩
                · intro h3
                  rw [eo9, ef35, hy_y2_34, if_pos ⟨fun h => h3 (by rw [h]; rfl), lt9⟩]
                  exact ⟨(cs_betOn hk9 hc9).2, fun j _ hne => (cs_betOn hk9 hc9).1 j hne⟩
                · rw [cg_betOn (by omega) (by omega), show Int32.toNatClampNeg p1 - 93 = Int32.toNatClampNeg z33 by omega]
            refine ⟨fun c87 => ?_, fun c87 => ?_⟩
            · skip
              have t88 := ieq (a := p3.toInt) (b := 0) rfl rfl c87
              refine ⟨ivp (a := z33.toInt) rfl (by omega) (by omega), ?_⟩
              exact ⟨by first | omega | rw [if_neg (fun h => h.1 (by assumption))] | rw [if_neg (fun h => absurd h.2 (by assumption))] | rw [if_pos ⟨by assumption, by assumption⟩] | rw [if_neg (fun h => absurd h.2 (Int32.not_lt.mpr (by assumption)))] | rw [if_pos ⟨by assumption, Int32.not_le.mp (by assumption)⟩] | rw [if_neg (fun h => h.2 (by assumption))], trivial⟩
            · skip
              have t89 := ine (a := p3.toInt) (b := 0) rfl rfl c87
              refine ⟨fun c90 => ?_, fun c90 => ?_⟩
              · skip
                have t91 := ilt (a := p1.toInt) (b := 99) rfl rfl c90
                refine ⟨ivp (a := z33.toInt) rfl (by omega) (by omega), ?_⟩
                exact ⟨by first | omega | rw [if_neg (fun h => h.1 (by assumption))] | rw [if_neg (fun h => absurd h.2 (by assumption))] | rw [if_pos ⟨by assumption, by assumption⟩] | rw [if_neg (fun h => absurd h.2 (Int32.not_lt.mpr (by assumption)))] | rw [if_pos ⟨by assumption, Int32.not_le.mp (by assumption)⟩] | rw [if_neg (fun h => h.2 (by assumption))], trivial⟩
              · skip
                have t92 := inlt (a := p1.toInt) (b := 99) rfl rfl c90
                exact ⟨by first | omega | rw [if_neg (fun h => h.1 (by assumption))] | rw [if_neg (fun h => absurd h.2 (by assumption))] | rw [if_pos ⟨by assumption, by assumption⟩] | rw [if_neg (fun h => absurd h.2 (Int32.not_lt.mpr (by assumption)))] | rw [if_pos ⟨by assumption, Int32.not_le.mp (by assumption)⟩] | rw [if_neg (fun h => h.2 (by assumption))], trivial⟩
          refine ⟨fun c93 => ?_, fun c93 => ?_⟩
          · skip
            have t94 := ieq (a := p3.toInt) (b := 0) rfl rfl c93
            refine ⟨ivp (a := z33.toInt) rfl (by omega) (by omega), ?_⟩
            exact ⟨by first | omega | rw [if_neg (fun h => h.1 (by assumption))] | rw [if_neg (fun h => absurd h.2 (by assumption))] | rw [if_pos ⟨by assumption, by assumption⟩] | rw [if_neg (fun h => absurd h.2 (Int32.not_lt.mpr (by assumption)))] | rw [if_pos ⟨by assumption, Int32.not_le.mp (by assumption)⟩] | rw [if_neg (fun h => h.2 (by assumption))], trivial⟩
          · skip
            have t95 := ine (a := p3.toInt) (b := 0) rfl rfl c93
            refine ⟨fun c96 => ?_, fun c96 => ?_⟩
            · skip
              have t97 := ile (a := 99) (b := p1.toInt) rfl rfl c96
              refine ⟨ivp (a := z33.toInt) rfl (by omega) (by omega), ?_⟩
              exact ⟨by first | omega | rw [if_neg (fun h => h.1 (by assumption))] | rw [if_neg (fun h => absurd h.2 (by assumption))] | rw [if_pos ⟨by assumption, by assumption⟩] | rw [if_neg (fun h => absurd h.2 (Int32.not_lt.mpr (by assumption)))] | rw [if_pos ⟨by assumption, Int32.not_le.mp (by assumption)⟩] | rw [if_neg (fun h => h.2 (by assumption))], trivial⟩
            · skip
              have t98 := inle (a := 99) (b := p1.toInt) rfl rfl c96
              exact ⟨by first | omega | rw [if_neg (fun h => h.1 (by assumption))] | rw [if_neg (fun h => absurd h.2 (by assumption))] | rw [if_pos ⟨by assumption, by assumption⟩] | rw [if_neg (fun h => absurd h.2 (Int32.not_lt.mpr (by assumption)))] | rw [if_pos ⟨by assumption, Int32.not_le.mp (by assumption)⟩] | rw [if_neg (fun h => h.2 (by assumption))], trivial⟩
      · skip
        have t99 := inle (a := 93) (b := p1.toInt) rfl rfl c5
        refine ⟨fun c100 => ?_, fun c100 => ?_⟩
        · skip
          have t101 := ieq (a := p3.toInt) (b := 0) rfl rfl c100
          try have t102 : (p1 - 81).toInt = p1.toInt - 81 := isb rfl rfl (by omega) (by omega)
          have t103 := isbi (x := p1) (y := 81) (b := 81) rfl
          refine ⟨ivp (a := (p1 - 81).toInt) rfl (by omega) (by omega), ?_⟩
          intro z44 ez44
          have t104 : z44.toInt = (v_skyRow (Int32.toNatClampNeg (p1 - 81))).toInt := by rw [ez44] <;> rfl
          refine ⟨ivp (a := (p1 - 81).toInt) rfl (by omega) (by omega), ?_⟩
          intro f45 ef45
          have t105 : ((Int32.toNatClampNeg (p1 - 81) : Nat) : Int) = (p1 - 81).toInt := itn rfl (by omega)
          have t106 : (f45 (Int32.toNatClampNeg (p1 - 81))).toInt = z44.toInt := by rw [ef45, upd_eq] <;> rfl
          refine ⟨ivp (a := (p1 - 81).toInt) rfl (by omega) (by omega), ?_⟩
          have tnp : ((Int32.toNatClampNeg p1 : Nat) : Int) = p1.toInt := itn rfl (by omega)
          have tni : ((Int32.toNatClampNeg (p1 - 81) : Nat) : Int) = p1.toInt - 81 := itn (by omega) (by omega)
          have hk9 : Int32.toNatClampNeg p1 = 81 + Int32.toNatClampNeg (p1 - 81) := by omega
          have hc9 : Int32.toNatClampNeg (p1 - 81) < 12 := by omega
          refine hk _ _ _ _ _ _ _ _ _ _ _ _ _ _ ?_ ?_ ?_
          · intro h3
            first | exact ⟨rfl, rfl, rfl, rfl, rfl, (by rw [ef45]; exact upd_self (by assumption)), rfl, rfl, rfl, rfl, rfl, rfl, rfl⟩ | (exfalso; omega)
          · intro h3
            first | (exfalso; omega) | (rw [ef45]; exact ⟨(cs_skyRow hk9 hc9).2, fun j _ hne => (cs_skyRow hk9 hc9).1 j hne⟩)
          · rw [cg_skyRow (by omega) (by omega)]
            rw [show Int32.toNatClampNeg p1 - 81 = Int32.toNatClampNeg (p1 - 81) by omega]
        · skip
          have t107 := ine (a := p3.toInt) (b := 0) rfl rfl c100
          try have t108 : (p1 - 81).toInt = p1.toInt - 81 := isb rfl rfl (by omega) (by omega)
          have t109 := isbi (x := p1) (y := 81) (b := 81) rfl
          refine ⟨ivp (a := (p1 - 81).toInt) rfl (by omega) (by omega), ?_⟩
          intro f46 ef46
          have t110 : ((Int32.toNatClampNeg (p1 - 81) : Nat) : Int) = (p1 - 81).toInt := itn rfl (by omega)
          have t111 : (f46 (Int32.toNatClampNeg (p1 - 81))).toInt = p2.toInt := by rw [ef46, upd_eq] <;> rfl
          refine ⟨ivp (a := (p1 - 81).toInt) rfl (by omega) (by omega), ?_⟩
          have tnp : ((Int32.toNatClampNeg p1 : Nat) : Int) = p1.toInt := itn rfl (by omega)
          have tni : ((Int32.toNatClampNeg (p1 - 81) : Nat) : Int) = p1.toInt - 81 := itn (by omega) (by omega)
          have hk9 : Int32.toNatClampNeg p1 = 81 + Int32.toNatClampNeg (p1 - 81) := by omega
          have hc9 : Int32.toNatClampNeg (p1 - 81) < 12 := by omega
          refine hk _ _ _ _ _ _ _ _ _ _ _ _ _ _ ?_ ?_ ?_
          · intro h3
            first | exact ⟨rfl, rfl, rfl, rfl, rfl, (by rw [ef46]; exact upd_self (by assumption)), rfl, rfl, rfl, rfl, rfl, rfl, rfl⟩ | (exfalso; omega)
          · intro h3
            first | (exfalso; omega) | (rw [ef46]; exact ⟨(cs_skyRow hk9 hc9).2, fun j _ hne => (cs_skyRow hk9 hc9).1 j hne⟩)
          · rw [cg_skyRow (by omega) (by omega)]
            rw [show Int32.toNatClampNeg p1 - 81 = Int32.toNatClampNeg (p1 - 81) by omega]
    · skip
      have t112 := inle (a := 81) (b := p1.toInt) rfl rfl c3
      try have t113 : (p1 - 63).toInt = p1.toInt - 63 := isb rfl rfl (by omega) (by omega)
      have t114 := isbi (x := p1) (y := 63) (b := 63) rfl
      try have t115 : ((p1 - 63) - (p1 - 63) / 9 * 9).toInt = (p1 - 63).toInt % 9 := irm rfl rfl (by omega) (by omega)
      intro z47 ez47
      have t116 : z47.toInt = ((p1 - 63) - (p1 - 63) / 9 * 9).toInt := by rw [ez47] <;> rfl
      refine ⟨fun y2_48 => (y2_48 = (if ¬ p3 = 0 ∧ p1 < 72 then p2 else v_kinds (Int32.toNatClampNeg z47))) ∧ (True), fun y2_48 hj48 => ?_, ?_⟩
      · skip
        obtain ⟨hy_y2_48, -⟩ := hj48
        refine ⟨ivp (a := z47.toInt) rfl (by omega) (by omega), ?_⟩
        intro f49 ef49
        have t117 : ((Int32.toNatClampNeg z47 : Nat) : Int) = z47.toInt := itn rfl (by omega)
        have t118 : (f49 (Int32.toNatClampNeg z47)).toInt = y2_48.toInt := by rw [ef49, upd_eq] <;> rfl
        refine ⟨fun y2_50 => (y2_50 = (if ¬ p3 = 0 ∧ ¬ p1 < 72 then p2 else v_rates (Int32.toNatClampNeg z47))) ∧ (True), fun y2_50 hj50 => ?_, ?_⟩
        · skip
          obtain ⟨hy_y2_50, -⟩ := hj50
          refine ⟨ivp (a := z47.toInt) rfl (by omega) (by omega), ?_⟩
          intro f51 ef51
          have t119 : ((Int32.toNatClampNeg z47 : Nat) : Int) = z47.toInt := itn rfl (by omega)
          have t120 : (f51 (Int32.toNatClampNeg z47)).toInt = y2_50.toInt := by rw [ef51, upd_eq] <;> rfl
          refine ⟨fun c121 => ?_, fun c121 => ?_⟩
          · skip
            have t122 := ile (a := 72) (b := p1.toInt) rfl rfl c121
            refine ⟨ivp (a := z47.toInt) rfl (by omega) (by omega), ?_⟩
            have tnp : ((Int32.toNatClampNeg p1 : Nat) : Int) = p1.toInt := itn rfl (by omega)
            have tni : ((Int32.toNatClampNeg z47 : Nat) : Int) = z47.toInt := itn rfl (by omega)
            have hk9 : Int32.toNatClampNeg p1 = 72 + Int32.toNatClampNeg z47 := by omega
            have hc9 : Int32.toNatClampNeg z47 < 9 := by omega
            have lt9 : ¬ p1 < 72 := fun h => absurd (ilt (a := p1.toInt) (b := 72) rfl rfl h) (by omega)
            have eo9 : f49 = v_kinds := by rw [ef49]; exact upd_self (by rw [hy_y2_48, if_neg (fun h => lt9 h.2)])
            refine hk _ _ _ _ _ _ _ _ _ _ _ _ _ _ ?_ ?_ ?_
            · intro h3
              have ef9 : f51 = v_rates := by rw [ef51]; exact upd_self (by rw [hy_y2_50, if_neg (fun h => h.1 (Int32.toInt_inj.mp h3 : p3 = 0))])
              exact ⟨rfl, eo9, ef9, rfl, rfl, rfl, rfl, rfl, rfl, rfl, rfl, rfl, rfl⟩
            · intro h3
              rw [eo9, ef51, hy_y2_50, if_pos ⟨fun h => h3 (by rw [h]; rfl), lt9⟩]
              exact ⟨(cs_rates hk9 hc9).2, fun j _ hne => (cs_rates hk9 hc9).1 j hne⟩
            · rw [cg_rates (by omega) (by omega), show Int32.toNatClampNeg p1 - 72 = Int32.toNatClampNeg z47 by omega]
          · skip
            have t123 := inle (a := 72) (b := p1.toInt) rfl rfl c121
            refine ⟨ivp (a := z47.toInt) rfl (by omega) (by omega), ?_⟩
            have tnp : ((Int32.toNatClampNeg p1 : Nat) : Int) = p1.toInt := itn rfl (by omega)
            have tni : ((Int32.toNatClampNeg z47 : Nat) : Int) = z47.toInt := itn rfl (by omega)
            have hk9 : Int32.toNatClampNeg p1 = 63 + Int32.toNatClampNeg z47 := by omega
            have hc9 : Int32.toNatClampNeg z47 < 9 := by omega
            have lt9 : p1 < 72 := Int32.lt_iff_toInt_lt.mpr (show p1.toInt < 72 by omega)
            have eo9 : f51 = v_rates := by rw [ef51]; exact upd_self (by rw [hy_y2_50, if_neg (fun h => h.2 lt9)])
            refine hk _ _ _ _ _ _ _ _ _ _ _ _ _ _ ?_ ?_ ?_
            · intro h3
              have ef9 : f49 = v_kinds := by rw [ef49]; exact upd_self (by rw [hy_y2_48, if_neg (fun h => h.1 (Int32.toInt_inj.mp h3 : p3 = 0))])
              exact ⟨rfl, ef9, eo9, rfl, rfl, rfl, rfl, rfl, rfl, rfl, rfl, rfl, rfl⟩
            · intro h3
              rw [eo9, ef49, hy_y2_48, if_pos ⟨fun h => h3 (by rw [h]; rfl), lt9⟩]
              exact ⟨(cs_kinds hk9 hc9).2, fun j _ hne => (cs_kinds hk9 hc9).1 j hne⟩
            · rw [cg_kinds (by omega) (by omega), show Int32.toNatClampNeg p1 - 63 = Int32.toNatClampNeg z47 by omega]
        refine ⟨fun c124 => ?_, fun c124 => ?_⟩
        · skip
          have t125 := ieq (a := p3.toInt) (b := 0) rfl rfl c124
          refine ⟨ivp (a := z47.toInt) rfl (by omega) (by omega), ?_⟩
          exact ⟨by first | omega | rw [if_neg (fun h => h.1 (by assumption))] | rw [if_neg (fun h => absurd h.2 (by assumption))] | rw [if_pos ⟨by assumption, by assumption⟩] | rw [if_neg (fun h => absurd h.2 (Int32.not_lt.mpr (by assumption)))] | rw [if_pos ⟨by assumption, Int32.not_le.mp (by assumption)⟩] | rw [if_neg (fun h => h.2 (by assumption))], trivial⟩
        · skip
          have t126 := ine (a := p3.toInt) (b := 0) rfl rfl c124
          refine ⟨fun c127 => ?_, fun c127 => ?_⟩
          · skip
            have t128 := ilt (a := p1.toInt) (b := 72) rfl rfl c127
            refine ⟨ivp (a := z47.toInt) rfl (by omega) (by omega), ?_⟩
            exact ⟨by first | omega | rw [if_neg (fun h => h.1 (by assumption))] | rw [if_neg (fun h => absurd h.2 (by assumption))] | rw [if_pos ⟨by assumption, by assumption⟩] | rw [if_neg (fun h => absurd h.2 (Int32.not_lt.mpr (by assumption)))] | rw [if_pos ⟨by assumption, Int32.not_le.mp (by assumption)⟩] | rw [if_neg (fun h => h.2 (by assumption))], trivial⟩
          · skip
            have t129 := inlt (a := p1.toInt) (b := 72) rfl rfl c127
            exact ⟨by first | omega | rw [if_neg (fun h => h.1 (by assumption))] | rw [if_neg (fun h => absurd h.2 (by assumption))] | rw [if_pos ⟨by assumption, by assumption⟩] | rw [if_neg (fun h => absurd h.2 (Int32.not_lt.mpr (by assumption)))] | rw [if_pos ⟨by assumption, Int32.not_le.mp (by assumption)⟩] | rw [if_neg (fun h => h.2 (by assumption))], trivial⟩
      refine ⟨fun c130 => ?_, fun c130 => ?_⟩
      · skip
        have t131 := ieq (a := p3.toInt) (b := 0) rfl rfl c130
        refine ⟨ivp (a := z47.toInt) rfl (by omega) (by omega), ?_⟩
        exact ⟨by first | omega | rw [if_neg (fun h => h.1 (by assumption))] | rw [if_neg (fun h => absurd h.2 (by assumption))] | rw [if_pos ⟨by assumption, by assumption⟩] | rw [if_neg (fun h => absurd h.2 (Int32.not_lt.mpr (by assumption)))] | rw [if_pos ⟨by assumption, Int32.not_le.mp (by assumption)⟩] | rw [if_neg (fun h => h.2 (by assumption))], trivial⟩
      · skip
        have t132 := ine (a := p3.toInt) (b := 0) rfl rfl c130
        refine ⟨fun c133 => ?_, fun c133 => ?_⟩
        · skip
          have t134 := ile (a := 72) (b := p1.toInt) rfl rfl c133
          refine ⟨ivp (a := z47.toInt) rfl (by omega) (by omega), ?_⟩
          exact ⟨by first | omega | rw [if_neg (fun h => h.1 (by assumption))] | rw [if_neg (fun h => absurd h.2 (by assumption))] | rw [if_pos ⟨by assumption, by assumption⟩] | rw [if_neg (fun h => absurd h.2 (Int32.not_lt.mpr (by assumption)))] | rw [if_pos ⟨by assumption, Int32.not_le.mp (by assumption)⟩] | rw [if_neg (fun h => h.2 (by assumption))], trivial⟩
        · skip
          have t135 := inle (a := 72) (b := p1.toInt) rfl rfl c133
          exact ⟨by first | omega | rw [if_neg (fun h => h.1 (by assumption))] | rw [if_neg (fun h => absurd h.2 (by assumption))] | rw [if_pos ⟨by assumption, by assumption⟩] | rw [if_neg (fun h => absurd h.2 (Int32.not_lt.mpr (by assumption)))] | rw [if_pos ⟨by assumption, Int32.not_le.mp (by assumption)⟩] | rw [if_neg (fun h => h.2 (by assumption))], trivial⟩
  · skip
    have t136 := inle (a := 63) (b := p1.toInt) rfl rfl c1
    refine ⟨fun c137 => ?_, fun c137 => ?_⟩
    · skip
      have t138 := ieq (a := p3.toInt) (b := 0) rfl rfl c137
      refine ⟨ivp (a := p1.toInt) rfl (by omega) (by omega), ?_⟩
      try have q139 := AB.get (f := v_st) (i := p1) (a := p1.toInt) (by assumption) rfl (by omega) (by omega) (by omega)
      intro z58 ez58
      have t140 : z58.toInt = (v_st (Int32.toNatClampNeg p1)).toInt := by rw [ez58] <;> rfl
      refine ⟨ivp (a := p1.toInt) rfl (by omega) (by omega), ?_⟩
      intro f59 ef59
      have t141 : ((Int32.toNatClampNeg p1 : Nat) : Int) = p1.toInt := itn rfl (by omega)
      have t142 : (f59 (Int32.toNatClampNeg p1)).toInt = z58.toInt := by rw [ef59, upd_eq] <;> rfl
      try have t143 : (f59 (Int32.toNatClampNeg 60)).toInt = (v_st (Int32.toNatClampNeg 60)).toInt := by rw [ef59, upd_ne (by omega)]
      try have q144 : AB f59 42 v_clocks.toInt 0 (v_windows.toInt - 1) := by rw [ef59]; first | exact AB.updo (by assumption) (by omega) | exact AB.updv (by assumption) rfl (by omega) (by omega) | exact AB.none (by omega) | exact AB.updo (AB.mono (by assumption) (by omega) (by omega) (by omega) (by omega)) (by omega)
      refine ⟨ivp (a := p1.toInt) rfl (by omega) (by omega), ?_⟩
      try have q145 := AB.get (f := f59) (i := p1) (a := p1.toInt) (by assumption) rfl (by omega) (by omega) (by omega)
      have tnp : ((Int32.toNatClampNeg p1 : Nat) : Int) = p1.toInt := itn rfl (by omega)
      have tni : ((Int32.toNatClampNeg p1 : Nat) : Int) = p1.toInt - 0 := itn (by omega) (by omega)
      have hk9 : Int32.toNatClampNeg p1 = 0 + Int32.toNatClampNeg p1 := by omega
      have hc9 : Int32.toNatClampNeg p1 < 63 := by omega
      refine hk _ _ _ _ _ _ _ _ _ _ _ _ _ _ ?_ ?_ ?_
      · intro h3
        first | exact ⟨(by rw [ef59]; exact upd_self (by assumption)), rfl, rfl, rfl, rfl, rfl, rfl, rfl, rfl, rfl, rfl, rfl, rfl⟩ | (exfalso; omega)
      · intro h3
        first | (exfalso; omega) | (rw [ef59]; exact ⟨(cs_st hk9 hc9).2, fun j _ hne => (cs_st hk9 hc9).1 j hne⟩)
      · rw [cg_st (by omega) (by omega)]
    · skip
      have t146 := ine (a := p3.toInt) (b := 0) rfl rfl c137
      refine ⟨ivp (a := p1.toInt) rfl (by omega) (by omega), ?_⟩
      intro f60 ef60
      have t147 : ((Int32.toNatClampNeg p1 : Nat) : Int) = p1.toInt := itn rfl (by omega)
      have t148 : (f60 (Int32.toNatClampNeg p1)).toInt = p2.toInt := by rw [ef60, upd_eq] <;> rfl
      try have t149 : (f60 (Int32.toNatClampNeg 60)).toInt = (v_st (Int32.toNatClampNeg 60)).toInt := by rw [ef60, upd_ne (by omega)]
      try have q150 : AB f60 42 v_clocks.toInt 0 (v_windows.toInt - 1) := by rw [ef60]; first | exact AB.updo (by assumption) (by omega) | exact AB.updv (by assumption) rfl (by omega) (by omega) | exact AB.none (by omega) | exact AB.updo (AB.mono (by assumption) (by omega) (by omega) (by omega) (by omega)) (by omega)
      refine ⟨ivp (a := p1.toInt) rfl (by omega) (by omega), ?_⟩
      try have q151 := AB.get (f := f60) (i := p1) (a := p1.toInt) (by assumption) rfl (by omega) (by omega) (by omega)
      have tnp : ((Int32.toNatClampNeg p1 : Nat) : Int) = p1.toInt := itn rfl (by omega)
      have tni : ((Int32.toNatClampNeg p1 : Nat) : Int) = p1.toInt - 0 := itn (by omega) (by omega)
      have hk9 : Int32.toNatClampNeg p1 = 0 + Int32.toNatClampNeg p1 := by omega
      have hc9 : Int32.toNatClampNeg p1 < 63 := by omega
      refine hk _ _ _ _ _ _ _ _ _ _ _ _ _ _ ?_ ?_ ?_
      · intro h3
        first | exact ⟨(by rw [ef60]; exact upd_self (by assumption)), rfl, rfl, rfl, rfl, rfl, rfl, rfl, rfl, rfl, rfl, rfl, rfl⟩ | (exfalso; omega)
      · intro h3
        first | (exfalso; omega) | (rw [ef60]; exact ⟨(cs_st hk9 hc9).2, fun j _ hne => (cs_st hk9 hc9).1 j hne⟩)
      · rw [cg_st (by omega) (by omega)]
set_option maxHeartbeats 1000000 in
set_option maxRecDepth 10000 in
theorem s_X8_image {v_st : Nat → Int32} {v_kinds : Nat → Int32} {v_rates : Nat → Int32} {v_clocks : Int32} {v_windows : Int32} {v_skyRow : Nat → Int32} {v_skyMany : Int32} {v_betOn : Nat → Int32} {v_stakes : Nat → Int32} {v_bets : Int32} {v_undos : Nat → Int32} {v_undoMany : Int32} {v_drawn : Int32} {v_isKept : Int32} {v_kept : Nat → Int32} {post : Int32 → (Nat → Int32) → (Nat → Int32) → (Nat → Int32) → (Int32) → (Int32) → (Nat → Int32) → (Int32) → (Nat → Int32) → (Nat → Int32) → (Int32) → (Nat → Int32) → (Int32) → (Int32) → (Int32) → (Nat → Int32) → Prop} (hp0 : AB v_st 42 v_clocks.toInt 0 (v_windows.toInt - 1)) (hp1 : 2 ≤ v_windows.toInt) (hp2 : v_windows.toInt ≤ 24) (hp3 : 0 ≤ v_clocks.toInt) (hp4 : v_clocks.toInt ≤ 9) (hp5 : 1 ≤ v_skyMany.toInt) (hp6 : v_skyMany.toInt ≤ 12) (hp7 : 0 ≤ v_bets.toInt) (hp8 : v_bets.toInt ≤ 6) (hp9 : 0 ≤ v_undoMany.toInt) (hp10 : v_undoMany.toInt ≤ 10) (hp11 : 0 ≤ (v_st (Int32.toNatClampNeg 60)).toInt) (hp12 : UB v_undos v_undoMany.toInt) (hp13 : KV v_isKept v_kept) (hp14 : (v_st (Int32.toNatClampNeg 60)).toInt ≤ 9999) (hk : ∀ (r : Int32) (v_st' : Nat → Int32) (v_kinds' : Nat → Int32) (v_rates' : Nat → Int32) (v_clocks' : Int32) (v_windows' : Int32) (v_skyRow' : Nat → Int32) (v_skyMany' : Int32) (v_betOn' : Nat → Int32) (v_stakes' : Nat → Int32) (v_bets' : Int32) (v_undos' : Nat → Int32) (v_undoMany' : Int32) (v_drawn' : Int32) (v_isKept' : Int32) (v_kept' : Nat → Int32), (AB v_st' 42 v_clocks'.toInt 0 (v_windows'.toInt - 1)) → (2 ≤ v_windows'.toInt) → (v_windows'.toInt ≤ 24) → (0 ≤ v_clocks'.toInt) → (v_clocks'.toInt ≤ 9) → (1 ≤ v_skyMany'.toInt) → (v_skyMany'.toInt ≤ 12) → (0 ≤ v_bets'.toInt) → (v_bets'.toInt ≤ 6) → (0 ≤ v_undoMany'.toInt) → (v_undoMany'.toInt ≤ 10) → (0 ≤ (v_st' (Int32.toNatClampNeg 60)).toInt) → (UB v_undos' v_undoMany'.toInt) → (KV v_isKept' v_kept') → ((v_st' (Int32.toNatClampNeg 60)).toInt ≤ 9999) → (r.toInt = 1) → (v_isKept'.toInt = 1) → post r v_st' v_kinds' v_rates' v_clocks' v_windows' v_skyRow' v_skyMany' v_betOn' v_stakes' v_bets' v_undos' v_undoMany' v_drawn' v_isKept' v_kept') : wp_X8_image v_st v_kinds v_rates v_clocks v_windows v_skyRow v_skyMany v_betOn v_stakes v_bets v_undos v_undoMany v_drawn v_isKept v_kept post := by
  unfold wp_X8_image
  refine ⟨fun n x c_st c_kinds c_rates c_clocks c_windows c_skyRow c_skyMany c_betOn c_stakes c_bets c_undos c_undoMany c_drawn kept => n = (141 - x.toInt).toNat ∧ 0 ≤ x.toInt ∧ x.toInt ≤ 141 ∧ (c_st = v_st ∧ c_kinds = v_kinds ∧ c_rates = v_rates ∧ c_clocks = v_clocks ∧ c_windows = v_windows ∧ c_skyRow = v_skyRow ∧ c_skyMany = v_skyMany ∧ c_betOn = v_betOn ∧ c_stakes = v_stakes ∧ c_bets = v_bets ∧ c_undos = v_undos ∧ c_undoMany = v_undoMany ∧ c_drawn = v_drawn) ∧ (∀ j : Nat, (j : Int) < x.toInt → kept j = cvl j v_st v_kinds v_rates v_clocks v_windows v_skyRow v_skyMany v_betOn v_stakes v_bets v_undos v_undoMany v_drawn), ⟨_, rfl, by decide, by decide, ⟨rfl, rfl, rfl, rfl, rfl, rfl, rfl, rfl, rfl, rfl, rfl, rfl, rfl⟩, fun j hj => absurd (show (j : Int) < 0 from hj) (by omega)⟩, ?_⟩
  rintro n x c_st c_kinds c_rates c_clocks c_windows c_skyRow c_skyMany c_betOn c_stakes c_bets c_undos c_undoMany c_drawn kept ⟨hn, h0, h1, ⟨g_st, g_kinds, g_rates, g_clocks, g_windows, g_skyRow, g_skyMany, g_betOn, g_stakes, g_bets, g_undos, g_undoMany, g_drawn⟩, hkp⟩
  refine ⟨fun c => ?_, fun c => ?_⟩
  · have t := ile (a := 141) (b := x.toInt) rfl rfl c
    rw [g_st, g_kinds, g_rates, g_clocks, g_windows, g_skyRow, g_skyMany, g_betOn, g_stakes, g_bets, g_undos, g_undoMany, g_drawn]
    have hu : UB v_undos v_undoMany.toInt := by assumption
    have t9 : (1 : Int32).toInt = 1 := rfl
    have k140 : (kept 140).toInt = v_drawn.toInt := by rw [hkp 140 (by omega)]; rfl
    have k60 : (kept 60).toInt = (v_st (Int32.toNatClampNeg 60)).toInt := by rw [hkp 60 (by omega)]; rfl
    have k_clocks : (kept 135).toInt = v_clocks.toInt := by rw [hkp 135 (by omega)]; rfl
    have k_skyMany : (kept 137).toInt = v_skyMany.toInt := by rw [hkp 137 (by omega)]; rfl
    have k_bets : (kept 138).toInt = v_bets.toInt := by rw [hkp 138 (by omega)]; rfl
    have k_skyRow : ∀ j : Nat, j < 12 → kept (81 + j) = v_skyRow j := fun j hj => by rw [hkp (81 + j) (by omega), cg_skyRow (by omega) (by omega), show 81 + j - 81 = j by omega]
    have k_betOn : ∀ j : Nat, j < 6 → kept (93 + j) = v_betOn j := fun j hj => by rw [hkp (93 + j) (by omega), cg_betOn (by omega) (by omega), show 93 + j - 93 = j by omega]
    have k_stakes : ∀ j : Nat, j < 6 → kept (99 + j) = v_stakes j := fun j hj => by rw [hkp (99 + j) (by omega), cg_stakes (by omega) (by omega), show 99 + j - 99 = j by omega]
    exact hk _ _ _ _ _ _ _ _ _ _ _ _ _ _ _ _ (by first | assumption | omega | rfl) (by first | assumption | omega | rfl) (by first | assumption | omega | rfl) (by first | assumption | omega | rfl) (by first | assumption | omega | rfl) (by first | assumption | omega | rfl) (by first | assumption | omega | rfl) (by first | assumption | omega | rfl) (by first | assumption | omega | rfl) (by first | assumption | omega | rfl) (by first | assumption | omega | rfl) (by first | assumption | omega | rfl) (by first | assumption | omega | rfl) (kv_of hkp t (by assumption) (by assumption) (by assumption) (by omega) (by omega) (by omega) (by omega) (by omega) (by omega) (by omega) (by omega) (by omega) (by omega) (by omega)) (by first | assumption | omega | rfl) (by decide) (by first | assumption | omega | rfl)
  · have t := inle (a := 141) (b := x.toInt) rfl rfl c
    refine s_X8_carried (by omega) (by omega) (fun r a_st a_kinds a_rates a_clocks a_windows a_skyRow a_skyMany a_betOn a_stakes a_bets a_undos a_undoMany a_drawn q1 _ q3 => ?_)
    obtain ⟨e_st, e_kinds, e_rates, e_clocks, e_windows, e_skyRow, e_skyMany, e_betOn, e_stakes, e_bets, e_undos, e_undoMany, e_drawn⟩ := q1 rfl
    have tn := itn (x := x) rfl h0
    refine ⟨ivp (a := x.toInt) rfl h0 (by omega), fun f ef z ez => ?_⟩
    have tz : z.toInt = x.toInt + 1 := by rw [ez]; exact ia rfl rfl (by omega) (by omega)
    refine ⟨_, ?_, rfl, by omega, by omega, ⟨e_st.trans g_st, e_kinds.trans g_kinds, e_rates.trans g_rates, e_clocks.trans g_clocks, e_windows.trans g_windows, e_skyRow.trans g_skyRow, e_skyMany.trans g_skyMany, e_betOn.trans g_betOn, e_stakes.trans g_stakes, e_bets.trans g_bets, e_undos.trans g_undos, e_undoMany.trans g_undoMany, e_drawn.trans g_drawn⟩, fun j hj => ?_⟩
    · omega
    · rw [ef]
      by_cases e : j = Int32.toNatClampNeg x
      · rw [e, upd_eq, q3, e_st, g_st, e_kinds, g_kinds, e_rates, g_rates, e_clocks, g_clocks, e_windows, g_windows, e_skyRow, g_skyRow, e_skyMany, g_skyMany, e_betOn, g_betOn, e_stakes, g_stakes, e_bets, g_bets, e_undos, g_undos, e_undoMany, g_undoMany, e_drawn, g_drawn]
      · rw [upd_ne e]; exact hkp j (by omega)
set_option maxHeartbeats 1000000 in
set_option maxRecDepth 10000 in
theorem s_X8_restore {v_st : Nat → Int32} {v_kinds : Nat → Int32} {v_rates : Nat → Int32} {v_clocks : Int32} {v_windows : Int32} {v_skyRow : Nat → Int32} {v_skyMany : Int32} {v_betOn : Nat → Int32} {v_stakes : Nat → Int32} {v_bets : Int32} {v_undos : Nat → Int32} {v_undoMany : Int32} {v_drawn : Int32} {v_isKept : Int32} {v_kept : Nat → Int32} {post : Int32 → (Nat → Int32) → (Nat → Int32) → (Nat → Int32) → (Int32) → (Int32) → (Nat → Int32) → (Int32) → (Nat → Int32) → (Nat → Int32) → (Int32) → (Nat → Int32) → (Int32) → (Int32) → Prop} (hp0 : AB v_st 42 v_clocks.toInt 0 (v_windows.toInt - 1)) (hp1 : 2 ≤ v_windows.toInt) (hp2 : v_windows.toInt ≤ 24) (hp3 : 0 ≤ v_clocks.toInt) (hp4 : v_clocks.toInt ≤ 9) (hp5 : 1 ≤ v_skyMany.toInt) (hp6 : v_skyMany.toInt ≤ 12) (hp7 : 0 ≤ v_bets.toInt) (hp8 : v_bets.toInt ≤ 6) (hp9 : 0 ≤ v_undoMany.toInt) (hp10 : v_undoMany.toInt ≤ 10) (hp11 : 0 ≤ (v_st (Int32.toNatClampNeg 60)).toInt) (hp12 : UB v_undos v_undoMany.toInt) (hp13 : KV v_isKept v_kept) (hp14 : (v_st (Int32.toNatClampNeg 60)).toInt ≤ 9999) (hk : ∀ (r : Int32) (v_st' : Nat → Int32) (v_kinds' : Nat → Int32) (v_rates' : Nat → Int32) (v_clocks' : Int32) (v_windows' : Int32) (v_skyRow' : Nat → Int32) (v_skyMany' : Int32) (v_betOn' : Nat → Int32) (v_stakes' : Nat → Int32) (v_bets' : Int32) (v_undos' : Nat → Int32) (v_undoMany' : Int32) (v_drawn' : Int32), (AB v_st' 42 v_clocks'.toInt 0 (v_windows'.toInt - 1)) → (2 ≤ v_windows'.toInt) → (v_windows'.toInt ≤ 24) → (0 ≤ v_clocks'.toInt) → (v_clocks'.toInt ≤ 9) → (1 ≤ v_skyMany'.toInt) → (v_skyMany'.toInt ≤ 12) → (0 ≤ v_bets'.toInt) → (v_bets'.toInt ≤ 6) → (0 ≤ v_undoMany'.toInt) → (v_undoMany'.toInt ≤ 10) → (0 ≤ (v_st' (Int32.toNatClampNeg 60)).toInt) → (UB v_undos' v_undoMany'.toInt) → ((v_st' (Int32.toNatClampNeg 60)).toInt ≤ 9999) → ((v_isKept.toInt = 0 ∧ r.toInt = -4) ∨ (¬ v_isKept.toInt = 0 ∧ r.toInt = 1)) → post r v_st' v_kinds' v_rates' v_clocks' v_windows' v_skyRow' v_skyMany' v_betOn' v_stakes' v_bets' v_undos' v_undoMany' v_drawn') : wp_X8_restore v_st v_kinds v_rates v_clocks v_windows v_skyRow v_skyMany v_betOn v_stakes v_bets v_undos v_undoMany v_drawn v_isKept v_kept post := by
  unfold wp_X8_restore
  refine ⟨fun c0 => ?_, fun c0 => ?_⟩
  · have t0 := ine (a := v_isKept.toInt) (b := 0) rfl rfl c0
    have hv : KV v_isKept v_kept := by assumption
    obtain ⟨k1, k2, k3, k4, k5, k6, k7, k8, k9, k10, k11, k12, k13, k14⟩ := hv t0
    refine ⟨fun n x c_st c_kinds c_rates c_clocks c_windows c_skyRow c_skyMany c_betOn c_stakes c_bets c_undos c_undoMany c_drawn => n = (141 - x.toInt).toNat ∧ 0 ≤ x.toInt ∧ x.toInt ≤ 141 ∧ (∀ j : Nat, (j : Int) < x.toInt → cvl j c_st c_kinds c_rates c_clocks c_windows c_skyRow c_skyMany c_betOn c_stakes c_bets c_undos c_undoMany c_drawn = v_kept j), ⟨_, rfl, by decide, by decide, fun j hj => absurd (show (j : Int) < 0 from hj) (by omega)⟩, ?_⟩
    rintro n x c_st c_kinds c_rates c_clocks c_windows c_skyRow c_skyMany c_betOn c_stakes c_bets c_undos c_undoMany c_drawn ⟨hn, h0, h1, hkp⟩
    refine ⟨fun c => ?_, fun c => ?_⟩
    · have t := ile (a := 141) (b := x.toInt) rfl rfl c
      have w_clocks : c_clocks = v_kept 135 := hkp 135 (by omega)
      have w_windows : c_windows = v_kept 136 := hkp 136 (by omega)
      have w_skyMany : c_skyMany = v_kept 137 := hkp 137 (by omega)
      have w_bets : c_bets = v_kept 138 := hkp 138 (by omega)
      have w_undoMany : c_undoMany = v_kept 139 := hkp 139 (by omega)
      have w_drawn : c_drawn = v_kept 140 := hkp 140 (by omega)
      have w_st : ∀ j : Nat, j < 63 → c_st j = v_kept j := fun j hj => by rw [← hkp j (by omega)]; exact (cg_st (Nat.zero_le _) hj).symm
      have w_undos : ∀ j : Nat, j < 30 → c_undos j = v_kept (105 + j) := fun j hj => by rw [← hkp (105 + j) (by omega), cg_undos (by omega) (by omega), show 105 + j - 105 = j by omega]
      have u_st : AB c_st 42 c_clocks.toInt 0 (c_windows.toInt - 1) := by
        intro j h3 h4
        rw [w_clocks] at h4
        rw [w_st j (by omega), w_windows]
        exact k13 j h3 h4
      have u_un : UB c_undos c_undoMany.toInt := by
        intro j hj
        rw [w_undoMany] at hj
        rw [w_undos (3 * j + 1) (by omega), w_undos (3 * j) (by omega)]
        exact k14 j hj
      have u_60 : c_st (Int32.toNatClampNeg 60) = v_kept 60 := w_st 60 (by decide)
      have t9 : (1 : Int32).toInt = 1 := rfl
      have k140 : c_drawn.toInt = (v_kept 140).toInt := by rw [w_drawn]
      have k60 : (c_st (Int32.toNatClampNeg 60)).toInt = (v_kept 60).toInt := by rw [u_60]
      have k_clocks : c_clocks.toInt = (v_kept 135).toInt := by rw [w_clocks]
      have k_skyMany : c_skyMany.toInt = (v_kept 137).toInt := by rw [w_skyMany]
      have k_bets : c_bets.toInt = (v_kept 138).toInt := by rw [w_bets]
      have k_skyRow : ∀ j : Nat, j < 12 → c_skyRow j = v_kept (81 + j) := fun j hj => by rw [← hkp (81 + j) (by omega), cg_skyRow (by omega) (by omega), show 81 + j - 81 = j by omega]
      have k_betOn : ∀ j : Nat, j < 6 → c_betOn j = v_kept (93 + j) := fun j hj => by rw [← hkp (93 + j) (by omega), cg_betOn (by omega) (by omega), show 93 + j - 93 = j by omega]
      have k_stakes : ∀ j : Nat, j < 6 → c_stakes j = v_kept (99 + j) := fun j hj => by rw [← hkp (99 + j) (by omega), cg_stakes (by omega) (by omega), show 99 + j - 99 = j by omega]
      exact hk _ _ _ _ _ _ _ _ _ _ _ _ _ _ (by first | assumption | (exact Or.inr ⟨t0, by assumption⟩) | (rw [u_60]; assumption) | (rw [w_clocks]; assumption) | (rw [w_windows]; assumption) | (rw [w_skyMany]; assumption) | (rw [w_bets]; assumption) | (rw [w_undoMany]; assumption) | omega) (by first | assumption | (exact Or.inr ⟨t0, by assumption⟩) | (rw [u_60]; assumption) | (rw [w_clocks]; assumption) | (rw [w_windows]; assumption) | (rw [w_skyMany]; assumption) | (rw [w_bets]; assumption) | (rw [w_undoMany]; assumption) | omega) (by first | assumption | (exact Or.inr ⟨t0, by assumption⟩) | (rw [u_60]; assumption) | (rw [w_clocks]; assumption) | (rw [w_windows]; assumption) | (rw [w_skyMany]; assumption) | (rw [w_bets]; assumption) | (rw [w_undoMany]; assumption) | omega) (by first | assumption | (exact Or.inr ⟨t0, by assumption⟩) | (rw [u_60]; assumption) | (rw [w_clocks]; assumption) | (rw [w_windows]; assumption) | (rw [w_skyMany]; assumption) | (rw [w_bets]; assumption) | (rw [w_undoMany]; assumption) | omega) (by first | assumption | (exact Or.inr ⟨t0, by assumption⟩) | (rw [u_60]; assumption) | (rw [w_clocks]; assumption) | (rw [w_windows]; assumption) | (rw [w_skyMany]; assumption) | (rw [w_bets]; assumption) | (rw [w_undoMany]; assumption) | omega) (by first | assumption | (exact Or.inr ⟨t0, by assumption⟩) | (rw [u_60]; assumption) | (rw [w_clocks]; assumption) | (rw [w_windows]; assumption) | (rw [w_skyMany]; assumption) | (rw [w_bets]; assumption) | (rw [w_undoMany]; assumption) | omega) (by first | assumption | (exact Or.inr ⟨t0, by assumption⟩) | (rw [u_60]; assumption) | (rw [w_clocks]; assumption) | (rw [w_windows]; assumption) | (rw [w_skyMany]; assumption) | (rw [w_bets]; assumption) | (rw [w_undoMany]; assumption) | omega) (by first | assumption | (exact Or.inr ⟨t0, by assumption⟩) | (rw [u_60]; assumption) | (rw [w_clocks]; assumption) | (rw [w_windows]; assumption) | (rw [w_skyMany]; assumption) | (rw [w_bets]; assumption) | (rw [w_undoMany]; assumption) | omega) (by first | assumption | (exact Or.inr ⟨t0, by assumption⟩) | (rw [u_60]; assumption) | (rw [w_clocks]; assumption) | (rw [w_windows]; assumption) | (rw [w_skyMany]; assumption) | (rw [w_bets]; assumption) | (rw [w_undoMany]; assumption) | omega) (by first | assumption | (exact Or.inr ⟨t0, by assumption⟩) | (rw [u_60]; assumption) | (rw [w_clocks]; assumption) | (rw [w_windows]; assumption) | (rw [w_skyMany]; assumption) | (rw [w_bets]; assumption) | (rw [w_undoMany]; assumption) | omega) (by first | assumption | (exact Or.inr ⟨t0, by assumption⟩) | (rw [u_60]; assumption) | (rw [w_clocks]; assumption) | (rw [w_windows]; assumption) | (rw [w_skyMany]; assumption) | (rw [w_bets]; assumption) | (rw [w_undoMany]; assumption) | omega) (by first | assumption | (exact Or.inr ⟨t0, by assumption⟩) | (rw [u_60]; assumption) | (rw [w_clocks]; assumption) | (rw [w_windows]; assumption) | (rw [w_skyMany]; assumption) | (rw [w_bets]; assumption) | (rw [w_undoMany]; assumption) | omega) (by first | assumption | (exact Or.inr ⟨t0, by assumption⟩) | (rw [u_60]; assumption) | (rw [w_clocks]; assumption) | (rw [w_windows]; assumption) | (rw [w_skyMany]; assumption) | (rw [w_bets]; assumption) | (rw [w_undoMany]; assumption) | omega) (by first | assumption | (exact Or.inr ⟨t0, by assumption⟩) | (rw [u_60]; assumption) | (rw [w_clocks]; assumption) | (rw [w_windows]; assumption) | (rw [w_skyMany]; assumption) | (rw [w_bets]; assumption) | (rw [w_undoMany]; assumption) | omega) (by first | assumption | (exact Or.inr ⟨t0, by assumption⟩) | (rw [u_60]; assumption) | (rw [w_clocks]; assumption) | (rw [w_windows]; assumption) | (rw [w_skyMany]; assumption) | (rw [w_bets]; assumption) | (rw [w_undoMany]; assumption) | omega)
    · have t := inle (a := 141) (b := x.toInt) rfl rfl c
      have tn := itn (x := x) rfl h0
      refine ⟨ivp (a := x.toInt) rfl h0 (by omega), ?_⟩
      refine s_X8_carried (by omega) (by omega) (fun r a_st a_kinds a_rates a_clocks a_windows a_skyRow a_skyMany a_betOn a_stakes a_bets a_undos a_undoMany a_drawn _ q2 _ => ?_)
      obtain ⟨e1, e2⟩ := q2 (by decide)
      intro z ez
      have tz : z.toInt = x.toInt + 1 := by rw [ez]; exact ia rfl rfl (by omega) (by omega)
      refine ⟨_, ?_, rfl, by omega, by omega, fun j hj => ?_⟩
      · omega
      · by_cases e : j = Int32.toNatClampNeg x
        · rw [e, e1]
        · rw [e2 j (by omega) e]; exact hkp j (by omega)
  · have t0 := ieq (a := v_isKept.toInt) (b := 0) rfl rfl c0
    have t9 : ((-4) : Int32).toInt = -4 := rfl
    exact hk _ _ _ _ _ _ _ _ _ _ _ _ _ _ (by first | assumption | omega | exact Or.inl ⟨t0, rfl⟩) (by first | assumption | omega | exact Or.inl ⟨t0, rfl⟩) (by first | assumption | omega | exact Or.inl ⟨t0, rfl⟩) (by first | assumption | omega | exact Or.inl ⟨t0, rfl⟩) (by first | assumption | omega | exact Or.inl ⟨t0, rfl⟩) (by first | assumption | omega | exact Or.inl ⟨t0, rfl⟩) (by first | assumption | omega | exact Or.inl ⟨t0, rfl⟩) (by first | assumption | omega | exact Or.inl ⟨t0, rfl⟩) (by first | assumption | omega | exact Or.inl ⟨t0, rfl⟩) (by first | assumption | omega | exact Or.inl ⟨t0, rfl⟩) (by first | assumption | omega | exact Or.inl ⟨t0, rfl⟩) (by first | assumption | omega | exact Or.inl ⟨t0, rfl⟩) (by first | assumption | omega | exact Or.inl ⟨t0, rfl⟩) (by first | assumption | omega | exact Or.inl ⟨t0, rfl⟩) (by first | assumption | omega | exact Or.inl ⟨t0, rfl⟩)
set_option maxHeartbeats 1000000 in
set_option maxRecDepth 10000 in
theorem s_X8_isSheet {p1 : Int32} {p2 : Int32} {post : Int32 → Prop} (hk : ∀ (r : Int32), (((0 ≤ p1.toInt ∧ p1.toInt ≤ 3 ∧ 0 ≤ p2.toInt ∧ p2.toInt ≤ 3) ∧ r.toInt = 1) ∨ (¬ (0 ≤ p1.toInt ∧ p1.toInt ≤ 3 ∧ 0 ≤ p2.toInt ∧ p2.toInt ≤ 3) ∧ r.toInt = 0)) → post r) : wp_X8_isSheet p1 p2 post := by
  unfold wp_X8_isSheet
  have rp1 := Int32.toInt_lt p1
  have rq1 := Int32.le_toInt p1
  have rp2 := Int32.toInt_lt p2
  have rq2 := Int32.le_toInt p2
  have tn60 : ((Int32.toNatClampNeg 60 : Nat) : Int) = 60 := rfl
  have t1 : (Int32.toInt64 p1).toInt = p1.toInt := i2l rfl
  have t2 : (0 : Int64).toInt = 0 := rfl
  have t3 : (3 : Int64).toInt = 3 := rfl
  refine s_X8_in  (fun r1 q4 => ?_)
  refine ⟨fun c5 => ?_, fun c5 => ?_⟩
  · skip
    have t6 := ieq (a := r1.toInt) (b := 0) rfl rfl c5
    rcases q4 with q4 | q4
    · exfalso; omega
    have t7 : (0 : Int32).toInt = 0 := rfl
    exact hk _ (by first | omega | assumption | exact AB.none (by omega) | exact AB.mono (by assumption) (by omega) (by omega) (by omega) (by omega) | exact RB.none (by omega) | exact RB.mono (by assumption) (by omega) | exact UB.none (by omega) | exact UB.mono (by assumption) (by omega) | exact EQ.none (by omega) | exact EQ.mono (by assumption) (by omega))
  · skip
    have t8 := ine (a := r1.toInt) (b := 0) rfl rfl c5
    rcases q4.symm with q4 | q4
    · exfalso; omega
    have t9 : (Int32.toInt64 p2).toInt = p2.toInt := i2l rfl
    refine s_X8_in  (fun r3 q10 => ?_)
    refine ⟨fun c11 => ?_, fun c11 => ?_⟩
    · skip
      have t12 := ieq (a := r3.toInt) (b := 0) rfl rfl c11
      rcases q10 with q10 | q10
      · exfalso; omega
      have t13 : (0 : Int32).toInt = 0 := rfl
      exact hk _ (by first | omega | assumption | exact AB.none (by omega) | exact AB.mono (by assumption) (by omega) (by omega) (by omega) (by omega) | exact RB.none (by omega) | exact RB.mono (by assumption) (by omega) | exact UB.none (by omega) | exact UB.mono (by assumption) (by omega) | exact EQ.none (by omega) | exact EQ.mono (by assumption) (by omega))
    · skip
      have t14 := ine (a := r3.toInt) (b := 0) rfl rfl c11
      rcases q10.symm with q10 | q10
      · exfalso; omega
      have t15 : (1 : Int32).toInt = 1 := rfl
      exact hk _ (by first | omega | assumption | exact AB.none (by omega) | exact AB.mono (by assumption) (by omega) (by omega) (by omega) (by omega) | exact RB.none (by omega) | exact RB.mono (by assumption) (by omega) | exact UB.none (by omega) | exact UB.mono (by assumption) (by omega) | exact EQ.none (by omega) | exact EQ.mono (by assumption) (by omega))
set_option maxHeartbeats 1000000 in
set_option maxRecDepth 10000 in
theorem s_X8_asLane {p1 : Int32} {p2 : Int64} {post : Int64 → Prop} (hk : ∀ (r : Int64), post r) : wp_X8_asLane p1 p2 post := by
  unfold wp_X8_asLane
  have rp1 := Int32.toInt_lt p1
  have rq1 := Int32.le_toInt p1
  have tn60 : ((Int32.toNatClampNeg 60 : Nat) : Int) = 60 := rfl
  refine ⟨fun c1 => ?_, fun c1 => ?_⟩
  · skip
    have t2 := ine (a := p1.toInt) (b := 0) rfl rfl c1
    refine ⟨fun c3 => ?_, fun c3 => ?_⟩
    · skip
      have t4 := ine (a := p1.toInt) (b := 1) rfl rfl c3
      refine ⟨fun c5 => ?_, fun c5 => ?_⟩
      · skip
        have t6 := ine (a := p1.toInt) (b := 2) rfl rfl c5
        exact hk _
      · skip
        have t7 := ieq (a := p1.toInt) (b := 2) rfl rfl c5
        have t8 : (Int32.toInt64 32).toInt = 32 := i2l rfl
        exact hk _
    · skip
      have t9 := ieq (a := p1.toInt) (b := 1) rfl rfl c3
      have t10 : (Int32.toInt64 48).toInt = 48 := i2l rfl
      exact hk _
  · skip
    have t11 := ieq (a := p1.toInt) (b := 0) rfl rfl c1
    have t12 : (Int32.toInt64 56).toInt = 56 := i2l rfl
    exact hk _
set_option maxHeartbeats 1000000 in
set_option maxRecDepth 10000 in
theorem s_X8_sheet {p1 : Int32} {p2 : Int32} {p3 : Int32} {v_lanes : Nat → Int32} {v_rowSizes : Nat → Int32} {v_items : Nat → Int64} {post : Int32 → (Nat → Int32) → (Nat → Int32) → (Nat → Int64) → Prop} (hp0 : AB v_rowSizes 0 4 0 24) (hk : ∀ (r : Int32) (v_lanes' : Nat → Int32) (v_rowSizes' : Nat → Int32) (v_items' : Nat → Int64), (AB v_rowSizes' 0 4 0 24) → ((¬ (0 ≤ p1.toInt ∧ p1.toInt ≤ 3 ∧ 0 ≤ p2.toInt ∧ p2.toInt ≤ 3 ∧ p3.toInt ≤ 24) ∧ r.toInt = -1) ∨ ((0 ≤ p1.toInt ∧ p1.toInt ≤ 3 ∧ 0 ≤ p2.toInt ∧ p2.toInt ≤ 3 ∧ p3.toInt < 0) ∧ r.toInt = -14) ∨ ((0 ≤ p1.toInt ∧ p1.toInt ≤ 3 ∧ 0 ≤ p2.toInt ∧ p2.toInt ≤ 3 ∧ 0 ≤ p3.toInt ∧ p3.toInt ≤ 24) ∧ r.toInt = p3.toInt)) → (((0 ≤ p1.toInt ∧ p1.toInt ≤ 3 ∧ 0 ≤ p2.toInt ∧ p2.toInt ≤ 3 ∧ 0 ≤ p3.toInt ∧ p3.toInt ≤ 24) ∧ p1.toInt = 0 ∧ (v_lanes' (Int32.toNatClampNeg 0)).toInt = p2.toInt ∧ (v_rowSizes' (Int32.toNatClampNeg 0)).toInt = p3.toInt) ∨ (¬ ((0 ≤ p1.toInt ∧ p1.toInt ≤ 3 ∧ 0 ≤ p2.toInt ∧ p2.toInt ≤ 3 ∧ 0 ≤ p3.toInt ∧ p3.toInt ≤ 24) ∧ p1.toInt = 0) ∧ (v_lanes' (Int32.toNatClampNeg 0)).toInt = (v_lanes (Int32.toNatClampNeg 0)).toInt ∧ (v_rowSizes' (Int32.toNatClampNeg 0)).toInt = (v_rowSizes (Int32.toNatClampNeg 0)).toInt)) → (((0 ≤ p1.toInt ∧ p1.toInt ≤ 3 ∧ 0 ≤ p2.toInt ∧ p2.toInt ≤ 3 ∧ 0 ≤ p3.toInt ∧ p3.toInt ≤ 24) ∧ p1.toInt = 1 ∧ (v_lanes' (Int32.toNatClampNeg 1)).toInt = p2.toInt ∧ (v_rowSizes' (Int32.toNatClampNeg 1)).toInt = p3.toInt) ∨ (¬ ((0 ≤ p1.toInt ∧ p1.toInt ≤ 3 ∧ 0 ≤ p2.toInt ∧ p2.toInt ≤ 3 ∧ 0 ≤ p3.toInt ∧ p3.toInt ≤ 24) ∧ p1.toInt = 1) ∧ (v_lanes' (Int32.toNatClampNeg 1)).toInt = (v_lanes (Int32.toNatClampNeg 1)).toInt ∧ (v_rowSizes' (Int32.toNatClampNeg 1)).toInt = (v_rowSizes (Int32.toNatClampNeg 1)).toInt)) → (((0 ≤ p1.toInt ∧ p1.toInt ≤ 3 ∧ 0 ≤ p2.toInt ∧ p2.toInt ≤ 3 ∧ 0 ≤ p3.toInt ∧ p3.toInt ≤ 24) ∧ p1.toInt = 2 ∧ (v_lanes' (Int32.toNatClampNeg 2)).toInt = p2.toInt ∧ (v_rowSizes' (Int32.toNatClampNeg 2)).toInt = p3.toInt) ∨ (¬ ((0 ≤ p1.toInt ∧ p1.toInt ≤ 3 ∧ 0 ≤ p2.toInt ∧ p2.toInt ≤ 3 ∧ 0 ≤ p3.toInt ∧ p3.toInt ≤ 24) ∧ p1.toInt = 2) ∧ (v_lanes' (Int32.toNatClampNeg 2)).toInt = (v_lanes (Int32.toNatClampNeg 2)).toInt ∧ (v_rowSizes' (Int32.toNatClampNeg 2)).toInt = (v_rowSizes (Int32.toNatClampNeg 2)).toInt)) → (((0 ≤ p1.toInt ∧ p1.toInt ≤ 3 ∧ 0 ≤ p2.toInt ∧ p2.toInt ≤ 3 ∧ 0 ≤ p3.toInt ∧ p3.toInt ≤ 24) ∧ p1.toInt = 3 ∧ (v_lanes' (Int32.toNatClampNeg 3)).toInt = p2.toInt ∧ (v_rowSizes' (Int32.toNatClampNeg 3)).toInt = p3.toInt) ∨ (¬ ((0 ≤ p1.toInt ∧ p1.toInt ≤ 3 ∧ 0 ≤ p2.toInt ∧ p2.toInt ≤ 3 ∧ 0 ≤ p3.toInt ∧ p3.toInt ≤ 24) ∧ p1.toInt = 3) ∧ (v_lanes' (Int32.toNatClampNeg 3)).toInt = (v_lanes (Int32.toNatClampNeg 3)).toInt ∧ (v_rowSizes' (Int32.toNatClampNeg 3)).toInt = (v_rowSizes (Int32.toNatClampNeg 3)).toInt)) → post r v_lanes' v_rowSizes' v_items') : wp_X8_sheet p1 p2 p3 v_lanes v_rowSizes v_items post := by
  unfold wp_X8_sheet
  have rp1 := Int32.toInt_lt p1
  have rq1 := Int32.le_toInt p1
  have rp2 := Int32.toInt_lt p2
  have rq2 := Int32.le_toInt p2
  have rp3 := Int32.toInt_lt p3
  have rq3 := Int32.le_toInt p3
  have tn0 : ((Int32.toNatClampNeg 0 : Nat) : Int) = 0 := rfl
  have tn1 : ((Int32.toNatClampNeg 1 : Nat) : Int) = 1 := rfl
  have tn2 : ((Int32.toNatClampNeg 2 : Nat) : Int) = 2 := rfl
  have tn3 : ((Int32.toNatClampNeg 3 : Nat) : Int) = 3 := rfl
  have tn60 : ((Int32.toNatClampNeg 60 : Nat) : Int) = 60 := rfl
  refine s_X8_isSheet  (fun r1 q1 => ?_)
  refine ⟨fun c2 => ?_, fun c2 => ?_⟩
  · skip
    have t3 := ieq (a := r1.toInt) (b := 0) rfl rfl c2
    rcases q1 with q1 | q1
    · exfalso; omega
    have t4 : ((-1) : Int32).toInt = (-1) := rfl
    exact hk _ _ _ _ (by first | omega | assumption | exact AB.none (by omega) | exact AB.mono (by assumption) (by omega) (by omega) (by omega) (by omega) | exact RB.none (by omega) | exact RB.mono (by assumption) (by omega) | exact UB.none (by omega) | exact UB.mono (by assumption) (by omega) | exact EQ.none (by omega) | exact EQ.mono (by assumption) (by omega)) (by first | omega | assumption | exact AB.none (by omega) | exact AB.mono (by assumption) (by omega) (by omega) (by omega) (by omega) | exact RB.none (by omega) | exact RB.mono (by assumption) (by omega) | exact UB.none (by omega) | exact UB.mono (by assumption) (by omega) | exact EQ.none (by omega) | exact EQ.mono (by assumption) (by omega)) (by first | omega | assumption | exact AB.none (by omega) | exact AB.mono (by assumption) (by omega) (by omega) (by omega) (by omega) | exact RB.none (by omega) | exact RB.mono (by assumption) (by omega) | exact UB.none (by omega) | exact UB.mono (by assumption) (by omega) | exact EQ.none (by omega) | exact EQ.mono (by assumption) (by omega)) (by first | omega | assumption | exact AB.none (by omega) | exact AB.mono (by assumption) (by omega) (by omega) (by omega) (by omega) | exact RB.none (by omega) | exact RB.mono (by assumption) (by omega) | exact UB.none (by omega) | exact UB.mono (by assumption) (by omega) | exact EQ.none (by omega) | exact EQ.mono (by assumption) (by omega)) (by first | omega | assumption | exact AB.none (by omega) | exact AB.mono (by assumption) (by omega) (by omega) (by omega) (by omega) | exact RB.none (by omega) | exact RB.mono (by assumption) (by omega) | exact UB.none (by omega) | exact UB.mono (by assumption) (by omega) | exact EQ.none (by omega) | exact EQ.mono (by assumption) (by omega)) (by first | omega | assumption | exact AB.none (by omega) | exact AB.mono (by assumption) (by omega) (by omega) (by omega) (by omega) | exact RB.none (by omega) | exact RB.mono (by assumption) (by omega) | exact UB.none (by omega) | exact UB.mono (by assumption) (by omega) | exact EQ.none (by omega) | exact EQ.mono (by assumption) (by omega))
  · skip
    have t5 := ine (a := r1.toInt) (b := 0) rfl rfl c2
    rcases q1.symm with q1 | q1
    · exfalso; omega
    refine ⟨fun c6 => ?_, fun c6 => ?_⟩
    · skip
      have t7 := ile (a := p3.toInt) (b := 24) rfl rfl c6
      refine ⟨fun c8 => ?_, fun c8 => ?_⟩
      · skip
        have t9 := ile (a := 0) (b := p3.toInt) rfl rfl c8
        refine ⟨ivp (a := p1.toInt) rfl (by omega) (by omega), ?_⟩
        intro f5 ef5
        have t10 : ((Int32.toNatClampNeg p1 : Nat) : Int) = p1.toInt := itn rfl (by omega)
        have t11 : (f5 (Int32.toNatClampNeg p1)).toInt = p2.toInt := by rw [ef5, upd_eq] <;> rfl
        have t12 := updc (f := v_lanes) (k := Int32.toNatClampNeg p1) (c := Int32.toNatClampNeg 0) (v := p2) (a := p1.toInt) (b := p2.toInt) (by assumption) rfl
        rw [← ef5] at t12
        have t13 := updc (f := v_lanes) (k := Int32.toNatClampNeg p1) (c := Int32.toNatClampNeg 1) (v := p2) (a := p1.toInt) (b := p2.toInt) (by assumption) rfl
        rw [← ef5] at t13
        have t14 := updc (f := v_lanes) (k := Int32.toNatClampNeg p1) (c := Int32.toNatClampNeg 2) (v := p2) (a := p1.toInt) (b := p2.toInt) (by assumption) rfl
        rw [← ef5] at t14
        have t15 := updc (f := v_lanes) (k := Int32.toNatClampNeg p1) (c := Int32.toNatClampNeg 3) (v := p2) (a := p1.toInt) (b := p2.toInt) (by assumption) rfl
        rw [← ef5] at t15
        refine ⟨ivp (a := p1.toInt) rfl (by omega) (by omega), ?_⟩
        intro f6 ef6
        have t16 : ((Int32.toNatClampNeg p1 : Nat) : Int) = p1.toInt := itn rfl (by omega)
        have t17 : (f6 (Int32.toNatClampNeg p1)).toInt = p3.toInt := by rw [ef6, upd_eq] <;> rfl
        have t18 := updc (f := v_rowSizes) (k := Int32.toNatClampNeg p1) (c := Int32.toNatClampNeg 0) (v := p3) (a := p1.toInt) (b := p3.toInt) (by assumption) rfl
        rw [← ef6] at t18
        have t19 := updc (f := v_rowSizes) (k := Int32.toNatClampNeg p1) (c := Int32.toNatClampNeg 1) (v := p3) (a := p1.toInt) (b := p3.toInt) (by assumption) rfl
        rw [← ef6] at t19
        have t20 := updc (f := v_rowSizes) (k := Int32.toNatClampNeg p1) (c := Int32.toNatClampNeg 2) (v := p3) (a := p1.toInt) (b := p3.toInt) (by assumption) rfl
        rw [← ef6] at t20
        have t21 := updc (f := v_rowSizes) (k := Int32.toNatClampNeg p1) (c := Int32.toNatClampNeg 3) (v := p3) (a := p1.toInt) (b := p3.toInt) (by assumption) rfl
        rw [← ef6] at t21
        try have q22 : AB f6 0 4 0 24 := by rw [ef6]; first | exact AB.updo (by assumption) (by omega) | exact AB.updv (by assumption) rfl (by omega) (by omega) | exact AB.none (by omega) | exact AB.updo (AB.mono (by assumption) (by omega) (by omega) (by omega) (by omega)) (by omega)
        have t23 : ((0 : Int32)).toInt = 0 := rfl
        refine ⟨fun n7 x4_7 v_items_7 => n7 = (24 - x4_7.toInt).toNat ∧ (0 ≤ x4_7.toInt), ⟨_, rfl, by first | omega | assumption | exact AB.none (by omega) | exact AB.mono (by assumption) (by omega) (by omega) (by omega) (by omega) | exact RB.none (by omega) | exact RB.mono (by assumption) (by omega) | exact UB.none (by omega) | exact UB.mono (by assumption) (by omega) | exact EQ.none (by omega) | exact EQ.mono (by assumption) (by omega)⟩, ?_⟩
        rintro n7 x4_7 v_items_7 ⟨hn7, q24⟩
        refine ⟨fun c25 => ?_, fun c25 => ?_⟩
        · skip
          have t26 := ile (a := 24) (b := x4_7.toInt) rfl rfl c25
          exact hk _ _ _ _ (by first | omega | assumption | exact AB.none (by omega) | exact AB.mono (by assumption) (by omega) (by omega) (by omega) (by omega) | exact RB.none (by omega) | exact RB.mono (by assumption) (by omega) | exact UB.none (by omega) | exact UB.mono (by assumption) (by omega) | exact EQ.none (by omega) | exact EQ.mono (by assumption) (by omega)) (by first | omega | assumption | exact AB.none (by omega) | exact AB.mono (by assumption) (by omega) (by omega) (by omega) (by omega) | exact RB.none (by omega) | exact RB.mono (by assumption) (by omega) | exact UB.none (by omega) | exact UB.mono (by assumption) (by omega) | exact EQ.none (by omega) | exact EQ.mono (by assumption) (by omega)) (by first | omega | assumption | exact AB.none (by omega) | exact AB.mono (by assumption) (by omega) (by omega) (by omega) (by omega) | exact RB.none (by omega) | exact RB.mono (by assumption) (by omega) | exact UB.none (by omega) | exact UB.mono (by assumption) (by omega) | exact EQ.none (by omega) | exact EQ.mono (by assumption) (by omega)) (by first | omega | assumption | exact AB.none (by omega) | exact AB.mono (by assumption) (by omega) (by omega) (by omega) (by omega) | exact RB.none (by omega) | exact RB.mono (by assumption) (by omega) | exact UB.none (by omega) | exact UB.mono (by assumption) (by omega) | exact EQ.none (by omega) | exact EQ.mono (by assumption) (by omega)) (by first | omega | assumption | exact AB.none (by omega) | exact AB.mono (by assumption) (by omega) (by omega) (by omega) (by omega) | exact RB.none (by omega) | exact RB.mono (by assumption) (by omega) | exact UB.none (by omega) | exact UB.mono (by assumption) (by omega) | exact EQ.none (by omega) | exact EQ.mono (by assumption) (by omega)) (by first | omega | assumption | exact AB.none (by omega) | exact AB.mono (by assumption) (by omega) (by omega) (by omega) (by omega) | exact RB.none (by omega) | exact RB.mono (by assumption) (by omega) | exact UB.none (by omega) | exact UB.mono (by assumption) (by omega) | exact EQ.none (by omega) | exact EQ.mono (by assumption) (by omega))
        · skip
          have t27 := inle (a := 24) (b := x4_7.toInt) rfl rfl c25
          try have t28 : (24 * p1).toInt = 24 * p1.toInt := im rfl rfl (by omega) (by omega)
          try have t29 : ((24 * p1) + x4_7).toInt = (24 * p1).toInt + x4_7.toInt := ia rfl rfl (by omega) (by omega)
          refine ⟨ivp (a := ((24 * p1) + x4_7).toInt) rfl (by omega) (by omega), ?_⟩
          intro f9 ef9
          try have t30 : (x4_7 + 1).toInt = x4_7.toInt + 1 := ia rfl rfl (by omega) (by omega)
          intro z10 ez10
          have t31 : z10.toInt = (x4_7 + 1).toInt := by rw [ez10] <;> rfl
          refine ⟨_, ?_, rfl, by first | omega | assumption | exact AB.none (by omega) | exact AB.mono (by assumption) (by omega) (by omega) (by omega) (by omega) | exact RB.none (by omega) | exact RB.mono (by assumption) (by omega) | exact UB.none (by omega) | exact UB.mono (by assumption) (by omega) | exact EQ.none (by omega) | exact EQ.mono (by assumption) (by omega)⟩
          omega
      · skip
        have t32 := inle (a := 0) (b := p3.toInt) rfl rfl c8
        have t33 : ((-14) : Int32).toInt = (-14) := rfl
        exact hk _ _ _ _ (by first | omega | assumption | exact AB.none (by omega) | exact AB.mono (by assumption) (by omega) (by omega) (by omega) (by omega) | exact RB.none (by omega) | exact RB.mono (by assumption) (by omega) | exact UB.none (by omega) | exact UB.mono (by assumption) (by omega) | exact EQ.none (by omega) | exact EQ.mono (by assumption) (by omega)) (by first | omega | assumption | exact AB.none (by omega) | exact AB.mono (by assumption) (by omega) (by omega) (by omega) (by omega) | exact RB.none (by omega) | exact RB.mono (by assumption) (by omega) | exact UB.none (by omega) | exact UB.mono (by assumption) (by omega) | exact EQ.none (by omega) | exact EQ.mono (by assumption) (by omega)) (by first | omega | assumption | exact AB.none (by omega) | exact AB.mono (by assumption) (by omega) (by omega) (by omega) (by omega) | exact RB.none (by omega) | exact RB.mono (by assumption) (by omega) | exact UB.none (by omega) | exact UB.mono (by assumption) (by omega) | exact EQ.none (by omega) | exact EQ.mono (by assumption) (by omega)) (by first | omega | assumption | exact AB.none (by omega) | exact AB.mono (by assumption) (by omega) (by omega) (by omega) (by omega) | exact RB.none (by omega) | exact RB.mono (by assumption) (by omega) | exact UB.none (by omega) | exact UB.mono (by assumption) (by omega) | exact EQ.none (by omega) | exact EQ.mono (by assumption) (by omega)) (by first | omega | assumption | exact AB.none (by omega) | exact AB.mono (by assumption) (by omega) (by omega) (by omega) (by omega) | exact RB.none (by omega) | exact RB.mono (by assumption) (by omega) | exact UB.none (by omega) | exact UB.mono (by assumption) (by omega) | exact EQ.none (by omega) | exact EQ.mono (by assumption) (by omega)) (by first | omega | assumption | exact AB.none (by omega) | exact AB.mono (by assumption) (by omega) (by omega) (by omega) (by omega) | exact RB.none (by omega) | exact RB.mono (by assumption) (by omega) | exact UB.none (by omega) | exact UB.mono (by assumption) (by omega) | exact EQ.none (by omega) | exact EQ.mono (by assumption) (by omega))
    · skip
      have t34 := inle (a := p3.toInt) (b := 24) rfl rfl c6
      have t35 : ((-1) : Int32).toInt = (-1) := rfl
      exact hk _ _ _ _ (by first | omega | assumption | exact AB.none (by omega) | exact AB.mono (by assumption) (by omega) (by omega) (by omega) (by omega) | exact RB.none (by omega) | exact RB.mono (by assumption) (by omega) | exact UB.none (by omega) | exact UB.mono (by assumption) (by omega) | exact EQ.none (by omega) | exact EQ.mono (by assumption) (by omega)) (by first | omega | assumption | exact AB.none (by omega) | exact AB.mono (by assumption) (by omega) (by omega) (by omega) (by omega) | exact RB.none (by omega) | exact RB.mono (by assumption) (by omega) | exact UB.none (by omega) | exact UB.mono (by assumption) (by omega) | exact EQ.none (by omega) | exact EQ.mono (by assumption) (by omega)) (by first | omega | assumption | exact AB.none (by omega) | exact AB.mono (by assumption) (by omega) (by omega) (by omega) (by omega) | exact RB.none (by omega) | exact RB.mono (by assumption) (by omega) | exact UB.none (by omega) | exact UB.mono (by assumption) (by omega) | exact EQ.none (by omega) | exact EQ.mono (by assumption) (by omega)) (by first | omega | assumption | exact AB.none (by omega) | exact AB.mono (by assumption) (by omega) (by omega) (by omega) (by omega) | exact RB.none (by omega) | exact RB.mono (by assumption) (by omega) | exact UB.none (by omega) | exact UB.mono (by assumption) (by omega) | exact EQ.none (by omega) | exact EQ.mono (by assumption) (by omega)) (by first | omega | assumption | exact AB.none (by omega) | exact AB.mono (by assumption) (by omega) (by omega) (by omega) (by omega) | exact RB.none (by omega) | exact RB.mono (by assumption) (by omega) | exact UB.none (by omega) | exact UB.mono (by assumption) (by omega) | exact EQ.none (by omega) | exact EQ.mono (by assumption) (by omega)) (by first | omega | assumption | exact AB.none (by omega) | exact AB.mono (by assumption) (by omega) (by omega) (by omega) (by omega) | exact RB.none (by omega) | exact RB.mono (by assumption) (by omega) | exact UB.none (by omega) | exact UB.mono (by assumption) (by omega) | exact EQ.none (by omega) | exact EQ.mono (by assumption) (by omega))
set_option maxHeartbeats 1000000 in
set_option maxRecDepth 10000 in
theorem s_X8_drop {p1 : Int32} {v_lanes : Nat → Int32} {v_rowSizes : Nat → Int32} {post : Int32 → (Nat → Int32) → Prop} (hp0 : AB v_rowSizes 0 4 0 24) (hk : ∀ (r : Int32) (v_lanes' : Nat → Int32), ((p1.toInt = 0 ∧ (v_lanes' (Int32.toNatClampNeg 0)).toInt < 0) ∨ (¬ p1.toInt = 0 ∧ (v_lanes' (Int32.toNatClampNeg 0)).toInt = (v_lanes (Int32.toNatClampNeg 0)).toInt)) → ((p1.toInt = 1 ∧ (v_lanes' (Int32.toNatClampNeg 1)).toInt < 0) ∨ (¬ p1.toInt = 1 ∧ (v_lanes' (Int32.toNatClampNeg 1)).toInt = (v_lanes (Int32.toNatClampNeg 1)).toInt)) → ((p1.toInt = 2 ∧ (v_lanes' (Int32.toNatClampNeg 2)).toInt < 0) ∨ (¬ p1.toInt = 2 ∧ (v_lanes' (Int32.toNatClampNeg 2)).toInt = (v_lanes (Int32.toNatClampNeg 2)).toInt)) → ((p1.toInt = 3 ∧ (v_lanes' (Int32.toNatClampNeg 3)).toInt < 0) ∨ (¬ p1.toInt = 3 ∧ (v_lanes' (Int32.toNatClampNeg 3)).toInt = (v_lanes (Int32.toNatClampNeg 3)).toInt)) → ((0 ≤ p1.toInt ∧ p1.toInt ≤ 3) ∨ r.toInt = -1) → (¬ p1.toInt = 0 ∨ ((v_lanes (Int32.toNatClampNeg 0)).toInt < 0 ∧ r.toInt = -11) ∨ (0 ≤ (v_lanes (Int32.toNatClampNeg 0)).toInt ∧ r.toInt = (v_rowSizes (Int32.toNatClampNeg 0)).toInt)) → (¬ p1.toInt = 1 ∨ ((v_lanes (Int32.toNatClampNeg 1)).toInt < 0 ∧ r.toInt = -11) ∨ (0 ≤ (v_lanes (Int32.toNatClampNeg 1)).toInt ∧ r.toInt = (v_rowSizes (Int32.toNatClampNeg 1)).toInt)) → (¬ p1.toInt = 2 ∨ ((v_lanes (Int32.toNatClampNeg 2)).toInt < 0 ∧ r.toInt = -11) ∨ (0 ≤ (v_lanes (Int32.toNatClampNeg 2)).toInt ∧ r.toInt = (v_rowSizes (Int32.toNatClampNeg 2)).toInt)) → (¬ p1.toInt = 3 ∨ ((v_lanes (Int32.toNatClampNeg 3)).toInt < 0 ∧ r.toInt = -11) ∨ (0 ≤ (v_lanes (Int32.toNatClampNeg 3)).toInt ∧ r.toInt = (v_rowSizes (Int32.toNatClampNeg 3)).toInt)) → post r v_lanes') : wp_X8_drop p1 v_lanes v_rowSizes post := by
  unfold wp_X8_drop
  have rp1 := Int32.toInt_lt p1
  have rq1 := Int32.le_toInt p1
  have tn0 : ((Int32.toNatClampNeg 0 : Nat) : Int) = 0 := rfl
  have tn1 : ((Int32.toNatClampNeg 1 : Nat) : Int) = 1 := rfl
  have tn2 : ((Int32.toNatClampNeg 2 : Nat) : Int) = 2 := rfl
  have tn3 : ((Int32.toNatClampNeg 3 : Nat) : Int) = 3 := rfl
  have tn60 : ((Int32.toNatClampNeg 60 : Nat) : Int) = 60 := rfl
  have t1 : (Int32.toInt64 p1).toInt = p1.toInt := i2l rfl
  have t2 : (0 : Int64).toInt = 0 := rfl
  have t3 : (3 : Int64).toInt = 3 := rfl
  refine s_X8_in  (fun r1 q4 => ?_)
  refine ⟨fun c5 => ?_, fun c5 => ?_⟩
  · skip
    have t6 := ine (a := r1.toInt) (b := 0) rfl rfl c5
    rcases q4.symm with q4 | q4
    · exfalso; omega
    refine ⟨ivp (a := p1.toInt) rfl (by omega) (by omega), ?_⟩
    have t7 := rdc (f := v_lanes) (i := p1) (c := 0) (a := p1.toInt) (b := 0) rfl rfl
    have t8 := rdc (f := v_lanes) (i := p1) (c := 1) (a := p1.toInt) (b := 1) rfl rfl
    have t9 := rdc (f := v_lanes) (i := p1) (c := 2) (a := p1.toInt) (b := 2) rfl rfl
    have t10 := rdc (f := v_lanes) (i := p1) (c := 3) (a := p1.toInt) (b := 3) rfl rfl
    refine ⟨fun c11 => ?_, fun c11 => ?_⟩
    · skip
      have t12 := ile (a := 0) (b := (v_lanes (Int32.toNatClampNeg p1)).toInt) rfl rfl c11
      refine ⟨ivp (a := p1.toInt) rfl (by omega) (by omega), ?_⟩
      intro f4 ef4
      have t13 : ((Int32.toNatClampNeg p1 : Nat) : Int) = p1.toInt := itn rfl (by omega)
      have t14 : (f4 (Int32.toNatClampNeg p1)).toInt = (-1) := by rw [ef4, upd_eq] <;> rfl
      have t15 := updc (f := v_lanes) (k := Int32.toNatClampNeg p1) (c := Int32.toNatClampNeg 0) (v := (-1)) (a := p1.toInt) (b := (-1)) (by assumption) rfl
      rw [← ef4] at t15
      have t16 := updc (f := v_lanes) (k := Int32.toNatClampNeg p1) (c := Int32.toNatClampNeg 1) (v := (-1)) (a := p1.toInt) (b := (-1)) (by assumption) rfl
      rw [← ef4] at t16
      have t17 := updc (f := v_lanes) (k := Int32.toNatClampNeg p1) (c := Int32.toNatClampNeg 2) (v := (-1)) (a := p1.toInt) (b := (-1)) (by assumption) rfl
      rw [← ef4] at t17
      have t18 := updc (f := v_lanes) (k := Int32.toNatClampNeg p1) (c := Int32.toNatClampNeg 3) (v := (-1)) (a := p1.toInt) (b := (-1)) (by assumption) rfl
      rw [← ef4] at t18
      refine ⟨ivp (a := p1.toInt) rfl (by omega) (by omega), ?_⟩
      have t19 := rdc (f := v_rowSizes) (i := p1) (c := 0) (a := p1.toInt) (b := 0) rfl rfl
      have t20 := rdc (f := v_rowSizes) (i := p1) (c := 1) (a := p1.toInt) (b := 1) rfl rfl
      have t21 := rdc (f := v_rowSizes) (i := p1) (c := 2) (a := p1.toInt) (b := 2) rfl rfl
      have t22 := rdc (f := v_rowSizes) (i := p1) (c := 3) (a := p1.toInt) (b := 3) rfl rfl
      try have q23 := AB.get (f := v_rowSizes) (i := p1) (a := p1.toInt) (by assumption) rfl (by omega) (by omega) (by omega)
      exact hk _ _ (by first | omega | assumption | exact AB.none (by omega) | exact AB.mono (by assumption) (by omega) (by omega) (by omega) (by omega) | exact RB.none (by omega) | exact RB.mono (by assumption) (by omega) | exact UB.none (by omega) | exact UB.mono (by assumption) (by omega) | exact EQ.none (by omega) | exact EQ.mono (by assumption) (by omega)) (by first | omega | assumption | exact AB.none (by omega) | exact AB.mono (by assumption) (by omega) (by omega) (by omega) (by omega) | exact RB.none (by omega) | exact RB.mono (by assumption) (by omega) | exact UB.none (by omega) | exact UB.mono (by assumption) (by omega) | exact EQ.none (by omega) | exact EQ.mono (by assumption) (by omega)) (by first | omega | assumption | exact AB.none (by omega) | exact AB.mono (by assumption) (by omega) (by omega) (by omega) (by omega) | exact RB.none (by omega) | exact RB.mono (by assumption) (by omega) | exact UB.none (by omega) | exact UB.mono (by assumption) (by omega) | exact EQ.none (by omega) | exact EQ.mono (by assumption) (by omega)) (by first | omega | assumption | exact AB.none (by omega) | exact AB.mono (by assumption) (by omega) (by omega) (by omega) (by omega) | exact RB.none (by omega) | exact RB.mono (by assumption) (by omega) | exact UB.none (by omega) | exact UB.mono (by assumption) (by omega) | exact EQ.none (by omega) | exact EQ.mono (by assumption) (by omega)) (by first | omega | assumption | exact AB.none (by omega) | exact AB.mono (by assumption) (by omega) (by omega) (by omega) (by omega) | exact RB.none (by omega) | exact RB.mono (by assumption) (by omega) | exact UB.none (by omega) | exact UB.mono (by assumption) (by omega) | exact EQ.none (by omega) | exact EQ.mono (by assumption) (by omega)) (by first | omega | assumption | exact AB.none (by omega) | exact AB.mono (by assumption) (by omega) (by omega) (by omega) (by omega) | exact RB.none (by omega) | exact RB.mono (by assumption) (by omega) | exact UB.none (by omega) | exact UB.mono (by assumption) (by omega) | exact EQ.none (by omega) | exact EQ.mono (by assumption) (by omega)) (by first | omega | assumption | exact AB.none (by omega) | exact AB.mono (by assumption) (by omega) (by omega) (by omega) (by omega) | exact RB.none (by omega) | exact RB.mono (by assumption) (by omega) | exact UB.none (by omega) | exact UB.mono (by assumption) (by omega) | exact EQ.none (by omega) | exact EQ.mono (by assumption) (by omega)) (by first | omega | assumption | exact AB.none (by omega) | exact AB.mono (by assumption) (by omega) (by omega) (by omega) (by omega) | exact RB.none (by omega) | exact RB.mono (by assumption) (by omega) | exact UB.none (by omega) | exact UB.mono (by assumption) (by omega) | exact EQ.none (by omega) | exact EQ.mono (by assumption) (by omega)) (by first | omega | assumption | exact AB.none (by omega) | exact AB.mono (by assumption) (by omega) (by omega) (by omega) (by omega) | exact RB.none (by omega) | exact RB.mono (by assumption) (by omega) | exact UB.none (by omega) | exact UB.mono (by assumption) (by omega) | exact EQ.none (by omega) | exact EQ.mono (by assumption) (by omega))
    · skip
      have t24 := inle (a := 0) (b := (v_lanes (Int32.toNatClampNeg p1)).toInt) rfl rfl c11
      have t25 : ((-11) : Int32).toInt = (-11) := rfl
      exact hk _ _ (by first | omega | assumption | exact AB.none (by omega) | exact AB.mono (by assumption) (by omega) (by omega) (by omega) (by omega) | exact RB.none (by omega) | exact RB.mono (by assumption) (by omega) | exact UB.none (by omega) | exact UB.mono (by assumption) (by omega) | exact EQ.none (by omega) | exact EQ.mono (by assumption) (by omega)) (by first | omega | assumption | exact AB.none (by omega) | exact AB.mono (by assumption) (by omega) (by omega) (by omega) (by omega) | exact RB.none (by omega) | exact RB.mono (by assumption) (by omega) | exact UB.none (by omega) | exact UB.mono (by assumption) (by omega) | exact EQ.none (by omega) | exact EQ.mono (by assumption) (by omega)) (by first | omega | assumption | exact AB.none (by omega) | exact AB.mono (by assumption) (by omega) (by omega) (by omega) (by omega) | exact RB.none (by omega) | exact RB.mono (by assumption) (by omega) | exact UB.none (by omega) | exact UB.mono (by assumption) (by omega) | exact EQ.none (by omega) | exact EQ.mono (by assumption) (by omega)) (by first | omega | assumption | exact AB.none (by omega) | exact AB.mono (by assumption) (by omega) (by omega) (by omega) (by omega) | exact RB.none (by omega) | exact RB.mono (by assumption) (by omega) | exact UB.none (by omega) | exact UB.mono (by assumption) (by omega) | exact EQ.none (by omega) | exact EQ.mono (by assumption) (by omega)) (by first | omega | assumption | exact AB.none (by omega) | exact AB.mono (by assumption) (by omega) (by omega) (by omega) (by omega) | exact RB.none (by omega) | exact RB.mono (by assumption) (by omega) | exact UB.none (by omega) | exact UB.mono (by assumption) (by omega) | exact EQ.none (by omega) | exact EQ.mono (by assumption) (by omega)) (by first | omega | assumption | exact AB.none (by omega) | exact AB.mono (by assumption) (by omega) (by omega) (by omega) (by omega) | exact RB.none (by omega) | exact RB.mono (by assumption) (by omega) | exact UB.none (by omega) | exact UB.mono (by assumption) (by omega) | exact EQ.none (by omega) | exact EQ.mono (by assumption) (by omega)) (by first | omega | assumption | exact AB.none (by omega) | exact AB.mono (by assumption) (by omega) (by omega) (by omega) (by omega) | exact RB.none (by omega) | exact RB.mono (by assumption) (by omega) | exact UB.none (by omega) | exact UB.mono (by assumption) (by omega) | exact EQ.none (by omega) | exact EQ.mono (by assumption) (by omega)) (by first | omega | assumption | exact AB.none (by omega) | exact AB.mono (by assumption) (by omega) (by omega) (by omega) (by omega) | exact RB.none (by omega) | exact RB.mono (by assumption) (by omega) | exact UB.none (by omega) | exact UB.mono (by assumption) (by omega) | exact EQ.none (by omega) | exact EQ.mono (by assumption) (by omega)) (by first | omega | assumption | exact AB.none (by omega) | exact AB.mono (by assumption) (by omega) (by omega) (by omega) (by omega) | exact RB.none (by omega) | exact RB.mono (by assumption) (by omega) | exact UB.none (by omega) | exact UB.mono (by assumption) (by omega) | exact EQ.none (by omega) | exact EQ.mono (by assumption) (by omega))
  · skip
    have t26 := ieq (a := r1.toInt) (b := 0) rfl rfl c5
    rcases q4 with q4 | q4
    · exfalso; omega
    have t27 : ((-1) : Int32).toInt = (-1) := rfl
    exact hk _ _ (by first | omega | assumption | exact AB.none (by omega) | exact AB.mono (by assumption) (by omega) (by omega) (by omega) (by omega) | exact RB.none (by omega) | exact RB.mono (by assumption) (by omega) | exact UB.none (by omega) | exact UB.mono (by assumption) (by omega) | exact EQ.none (by omega) | exact EQ.mono (by assumption) (by omega)) (by first | omega | assumption | exact AB.none (by omega) | exact AB.mono (by assumption) (by omega) (by omega) (by omega) (by omega) | exact RB.none (by omega) | exact RB.mono (by assumption) (by omega) | exact UB.none (by omega) | exact UB.mono (by assumption) (by omega) | exact EQ.none (by omega) | exact EQ.mono (by assumption) (by omega)) (by first | omega | assumption | exact AB.none (by omega) | exact AB.mono (by assumption) (by omega) (by omega) (by omega) (by omega) | exact RB.none (by omega) | exact RB.mono (by assumption) (by omega) | exact UB.none (by omega) | exact UB.mono (by assumption) (by omega) | exact EQ.none (by omega) | exact EQ.mono (by assumption) (by omega)) (by first | omega | assumption | exact AB.none (by omega) | exact AB.mono (by assumption) (by omega) (by omega) (by omega) (by omega) | exact RB.none (by omega) | exact RB.mono (by assumption) (by omega) | exact UB.none (by omega) | exact UB.mono (by assumption) (by omega) | exact EQ.none (by omega) | exact EQ.mono (by assumption) (by omega)) (by first | omega | assumption | exact AB.none (by omega) | exact AB.mono (by assumption) (by omega) (by omega) (by omega) (by omega) | exact RB.none (by omega) | exact RB.mono (by assumption) (by omega) | exact UB.none (by omega) | exact UB.mono (by assumption) (by omega) | exact EQ.none (by omega) | exact EQ.mono (by assumption) (by omega)) (by first | omega | assumption | exact AB.none (by omega) | exact AB.mono (by assumption) (by omega) (by omega) (by omega) (by omega) | exact RB.none (by omega) | exact RB.mono (by assumption) (by omega) | exact UB.none (by omega) | exact UB.mono (by assumption) (by omega) | exact EQ.none (by omega) | exact EQ.mono (by assumption) (by omega)) (by first | omega | assumption | exact AB.none (by omega) | exact AB.mono (by assumption) (by omega) (by omega) (by omega) (by omega) | exact RB.none (by omega) | exact RB.mono (by assumption) (by omega) | exact UB.none (by omega) | exact UB.mono (by assumption) (by omega) | exact EQ.none (by omega) | exact EQ.mono (by assumption) (by omega)) (by first | omega | assumption | exact AB.none (by omega) | exact AB.mono (by assumption) (by omega) (by omega) (by omega) (by omega) | exact RB.none (by omega) | exact RB.mono (by assumption) (by omega) | exact UB.none (by omega) | exact UB.mono (by assumption) (by omega) | exact EQ.none (by omega) | exact EQ.mono (by assumption) (by omega)) (by first | omega | assumption | exact AB.none (by omega) | exact AB.mono (by assumption) (by omega) (by omega) (by omega) (by omega) | exact RB.none (by omega) | exact RB.mono (by assumption) (by omega) | exact UB.none (by omega) | exact UB.mono (by assumption) (by omega) | exact EQ.none (by omega) | exact EQ.mono (by assumption) (by omega))
set_option maxHeartbeats 1000000 in
set_option maxRecDepth 10000 in
theorem s_X8_lacksRow {p1 : Int32} {p2 : Int32} {p3 : Int32} {p4 : Int32} {v_lanes : Nat → Int32} {v_rowSizes : Nat → Int32} {post : Int32 → Prop} (hp0 : AB v_rowSizes 0 4 0 24) (hp1 : 0 ≤ p1.toInt) (hp2 : p1.toInt ≤ 3) (hp3 : 0 ≤ p4.toInt) (hp4 : p4.toInt ≤ 24) (hk : ∀ (r : Int32), (r.toInt < 0 ∨ (r.toInt = 0 ∧ 0 ≤ p3.toInt ∧ p3.toInt + p4.toInt ≤ (v_rowSizes (Int32.toNatClampNeg p1)).toInt)) → (LR r.toInt (v_lanes (Int32.toNatClampNeg p1)).toInt (v_rowSizes (Int32.toNatClampNeg p1)).toInt p2.toInt p3.toInt p4.toInt) → post r) : wp_X8_lacksRow p1 p2 p3 p4 v_lanes v_rowSizes post := by
  unfold wp_X8_lacksRow
  have rp1 := Int32.toInt_lt p1
  have rq1 := Int32.le_toInt p1
  have rp2 := Int32.toInt_lt p2
  have rq2 := Int32.le_toInt p2
  have rp3 := Int32.toInt_lt p3
  have rq3 := Int32.le_toInt p3
  have rp4 := Int32.toInt_lt p4
  have rq4 := Int32.le_toInt p4
  have tn60 : ((Int32.toNatClampNeg 60 : Nat) : Int) = 60 := rfl
  refine ⟨ivp (a := p1.toInt) rfl (by omega) (by omega), ?_⟩
  refine ⟨fun c1 => ?_, fun c1 => ?_⟩
  · skip
    have t2 := ieq (a := (v_lanes (Int32.toNatClampNeg p1)).toInt) (b := p2.toInt) rfl rfl c1
    refine ⟨ivp (a := p1.toInt) rfl (by omega) (by omega), ?_⟩
    try have q3 := AB.get (f := v_rowSizes) (i := p1) (a := p1.toInt) (by assumption) rfl (by omega) (by omega) (by omega)
    have t4 : (Int32.toInt64 p3).toInt = p3.toInt := i2l rfl
    have t5 : (0 : Int64).toInt = 0 := rfl
    try have t6 : ((v_rowSizes (Int32.toNatClampNeg p1)) - p4).toInt = (v_rowSizes (Int32.toNatClampNeg p1)).toInt - p4.toInt := isb rfl rfl (by omega) (by omega)
    have t7 : (Int32.toInt64 ((v_rowSizes (Int32.toNatClampNeg p1)) - p4)).toInt = ((v_rowSizes (Int32.toNatClampNeg p1)) - p4).toInt := i2l rfl
    refine s_X8_in  (fun r2 q8 => ?_)
    refine ⟨fun c9 => ?_, fun c9 => ?_⟩
    · skip
      have t10 := ieq (a := r2.toInt) (b := 0) rfl rfl c9
      rcases q8 with q8 | q8
      · exfalso; omega
      have t11 : ((-13) : Int32).toInt = (-13) := rfl
      exact hk _ (by first | omega | assumption | (unfold LR; omega) | exact AB.none (by omega) | exact AB.mono (by assumption) (by omega) (by omega) (by omega) (by omega) | exact RB.none (by omega) | exact RB.mono (by assumption) (by omega) | exact UB.none (by omega) | exact UB.mono (by assumption) (by omega) | exact EQ.none (by omega) | exact EQ.mono (by assumption) (by omega)) (by first | omega | assumption | (unfold LR; omega) | exact AB.none (by omega) | exact AB.mono (by assumption) (by omega) (by omega) (by omega) (by omega) | exact RB.none (by omega) | exact RB.mono (by assumption) (by omega) | exact UB.none (by omega) | exact UB.mono (by assumption) (by omega) | exact EQ.none (by omega) | exact EQ.mono (by assumption) (by omega))
    · skip
      have t12 := ine (a := r2.toInt) (b := 0) rfl rfl c9
      rcases q8.symm with q8 | q8
      · exfalso; omega
      have t13 : (0 : Int32).toInt = 0 := rfl
      exact hk _ (by first | omega | assumption | (unfold LR; omega) | exact AB.none (by omega) | exact AB.mono (by assumption) (by omega) (by omega) (by omega) (by omega) | exact RB.none (by omega) | exact RB.mono (by assumption) (by omega) | exact UB.none (by omega) | exact UB.mono (by assumption) (by omega) | exact EQ.none (by omega) | exact EQ.mono (by assumption) (by omega)) (by first | omega | assumption | (unfold LR; omega) | exact AB.none (by omega) | exact AB.mono (by assumption) (by omega) (by omega) (by omega) (by omega) | exact RB.none (by omega) | exact RB.mono (by assumption) (by omega) | exact UB.none (by omega) | exact UB.mono (by assumption) (by omega) | exact EQ.none (by omega) | exact EQ.mono (by assumption) (by omega))
  · skip
    have t14 := ine (a := (v_lanes (Int32.toNatClampNeg p1)).toInt) (b := p2.toInt) rfl rfl c1
    refine ⟨ivp (a := p1.toInt) rfl (by omega) (by omega), ?_⟩
    refine ⟨fun c15 => ?_, fun c15 => ?_⟩
    · skip
      have t16 := ile (a := 0) (b := (v_lanes (Int32.toNatClampNeg p1)).toInt) rfl rfl c15
      have t17 : ((-12) : Int32).toInt = (-12) := rfl
      exact hk _ (by first | omega | assumption | (unfold LR; omega) | exact AB.none (by omega) | exact AB.mono (by assumption) (by omega) (by omega) (by omega) (by omega) | exact RB.none (by omega) | exact RB.mono (by assumption) (by omega) | exact UB.none (by omega) | exact UB.mono (by assumption) (by omega) | exact EQ.none (by omega) | exact EQ.mono (by assumption) (by omega)) (by first | omega | assumption | (unfold LR; omega) | exact AB.none (by omega) | exact AB.mono (by assumption) (by omega) (by omega) (by omega) (by omega) | exact RB.none (by omega) | exact RB.mono (by assumption) (by omega) | exact UB.none (by omega) | exact UB.mono (by assumption) (by omega) | exact EQ.none (by omega) | exact EQ.mono (by assumption) (by omega))
    · skip
      have t18 := inle (a := 0) (b := (v_lanes (Int32.toNatClampNeg p1)).toInt) rfl rfl c15
      have t19 : ((-11) : Int32).toInt = (-11) := rfl
      exact hk _ (by first | omega | assumption | (unfold LR; omega) | exact AB.none (by omega) | exact AB.mono (by assumption) (by omega) (by omega) (by omega) (by omega) | exact RB.none (by omega) | exact RB.mono (by assumption) (by omega) | exact UB.none (by omega) | exact UB.mono (by assumption) (by omega) | exact EQ.none (by omega) | exact EQ.mono (by assumption) (by omega)) (by first | omega | assumption | (unfold LR; omega) | exact AB.none (by omega) | exact AB.mono (by assumption) (by omega) (by omega) (by omega) (by omega) | exact RB.none (by omega) | exact RB.mono (by assumption) (by omega) | exact UB.none (by omega) | exact UB.mono (by assumption) (by omega) | exact EQ.none (by omega) | exact EQ.mono (by assumption) (by omega))
