set_option maxHeartbeats 1000000 in
set_option maxRecDepth 10000 in
theorem s_X8_film {p1 : Int32} {p2 : Int32} {p3 : Int32} {v_st : Nat → Int32} {v_clocks : Int32} {v_lanes : Nat → Int32} {v_rowSizes : Nat → Int32} {v_items : Nat → Int64} {post : Int32 → (Nat → Int64) → Prop} (hp0 : 0 ≤ v_clocks.toInt) (hp1 : v_clocks.toInt ≤ 9) (hp2 : AB v_rowSizes 0 4 0 24) (hp3 : 0 ≤ (v_st (Int32.toNatClampNeg 60)).toInt) (hp4 : (v_st (Int32.toNatClampNeg 60)).toInt ≤ 9999) (hk : ∀ (r : Int32) (v_items' : Nat → Int64), post r v_items') : wp_X8_film p1 p2 p3 v_st v_clocks v_lanes v_rowSizes v_items post := by
  unfold wp_X8_film
  have rp1 := Int32.toInt_lt p1
  have rq1 := Int32.le_toInt p1
  have rp2 := Int32.toInt_lt p2
  have rq2 := Int32.le_toInt p2
  have rp3 := Int32.toInt_lt p3
  have rq3 := Int32.le_toInt p3
  have tn60 : ((Int32.toNatClampNeg 60 : Nat) : Int) = 60 := rfl
  refine s_X8_isSheet  (fun r1 q1 => ?_)
  refine ⟨fun c2 => ?_, fun c2 => ?_⟩
  · skip
    have t3 := ine (a := r1.toInt) (b := 0) rfl rfl c2
    rcases q1.symm with q1 | q1
    · exfalso; omega
    try have q4 := AB.get (f := v_rowSizes) (i := p1) (a := p1.toInt) (by assumption) rfl (by omega) (by omega) (by omega)
    refine s_X8_lacksRow (by first | omega | assumption | exact AB.none (by omega) | exact AB.mono (by assumption) (by omega) (by omega) (by omega) (by omega) | exact RB.none (by omega) | exact RB.mono (by assumption) (by omega) | exact UB.none (by omega) | exact UB.mono (by assumption) (by omega) | exact EQ.none (by omega) | exact EQ.mono (by assumption) (by omega)) (by first | omega | assumption | exact AB.none (by omega) | exact AB.mono (by assumption) (by omega) (by omega) (by omega) (by omega) | exact RB.none (by omega) | exact RB.mono (by assumption) (by omega) | exact UB.none (by omega) | exact UB.mono (by assumption) (by omega) | exact EQ.none (by omega) | exact EQ.mono (by assumption) (by omega)) (by first | omega | assumption | exact AB.none (by omega) | exact AB.mono (by assumption) (by omega) (by omega) (by omega) (by omega) | exact RB.none (by omega) | exact RB.mono (by assumption) (by omega) | exact UB.none (by omega) | exact UB.mono (by assumption) (by omega) | exact EQ.none (by omega) | exact EQ.mono (by assumption) (by omega)) (by first | omega | assumption | exact AB.none (by omega) | exact AB.mono (by assumption) (by omega) (by omega) (by omega) (by omega) | exact RB.none (by omega) | exact RB.mono (by assumption) (by omega) | exact UB.none (by omega) | exact UB.mono (by assumption) (by omega) | exact EQ.none (by omega) | exact EQ.mono (by assumption) (by omega)) (by first | omega | assumption | exact AB.none (by omega) | exact AB.mono (by assumption) (by omega) (by omega) (by omega) (by omega) | exact RB.none (by omega) | exact RB.mono (by assumption) (by omega) | exact UB.none (by omega) | exact UB.mono (by assumption) (by omega) | exact EQ.none (by omega) | exact EQ.mono (by assumption) (by omega)) (fun r3 q5 q6 => ?_)
    unfold LR at q6
    refine ⟨fun c7 => ?_, fun c7 => ?_⟩
    · skip
      have t8 := ile (a := 0) (b := r3.toInt) rfl rfl c7
      have t9 : ((0 : Int32)).toInt = 0 := rfl
      refine ⟨fun n5 x5_5 v_items_5 => n5 = (v_clocks.toInt - x5_5.toInt).toNat ∧ (0 ≤ x5_5.toInt), ⟨_, rfl, by first | omega | assumption | exact AB.none (by omega) | exact AB.mono (by assumption) (by omega) (by omega) (by omega) (by omega) | exact RB.none (by omega) | exact RB.mono (by assumption) (by omega) | exact UB.none (by omega) | exact UB.mono (by assumption) (by omega) | exact EQ.none (by omega) | exact EQ.mono (by assumption) (by omega)⟩, ?_⟩
      rintro n5 x5_5 v_items_5 ⟨hn5, q10⟩
      refine ⟨fun c11 => ?_, fun c11 => ?_⟩
      · skip
        have t12 := ile (a := v_clocks.toInt) (b := x5_5.toInt) rfl rfl c11
        exact hk _ _
      · skip
        have t13 := inle (a := v_clocks.toInt) (b := x5_5.toInt) rfl rfl c11
        try have t14 : (42 + x5_5).toInt = 42 + x5_5.toInt := ia rfl rfl (by omega) (by omega)
        refine ⟨ivp (a := (42 + x5_5).toInt) rfl (by omega) (by omega), ?_⟩
        try have q15 := AB.get (f := v_st) (i := (42 + x5_5)) (a := (42 + x5_5).toInt) (by assumption) rfl (by omega) (by omega) (by omega)
        intro z7 ez7
        try have t16 : (24 * p1).toInt = 24 * p1.toInt := im rfl rfl (by omega) (by omega)
        try have t17 : ((24 * p1) + p3).toInt = (24 * p1).toInt + p3.toInt := ia rfl rfl (by omega) (by omega)
        try have t18 : (((24 * p1) + p3) + x5_5).toInt = ((24 * p1) + p3).toInt + x5_5.toInt := ia rfl rfl (by omega) (by omega)
        refine ⟨ivp (a := (((24 * p1) + p3) + x5_5).toInt) rfl (by omega) (by omega), ?_⟩
        intro f8 ef8
        try have t19 : (x5_5 + 1).toInt = x5_5.toInt + 1 := ia rfl rfl (by omega) (by omega)
        intro z9 ez9
        have t20 : z9.toInt = (x5_5 + 1).toInt := by rw [ez9] <;> rfl
        refine ⟨_, ?_, rfl, by first | omega | assumption | exact AB.none (by omega) | exact AB.mono (by assumption) (by omega) (by omega) (by omega) (by omega) | exact RB.none (by omega) | exact RB.mono (by assumption) (by omega) | exact UB.none (by omega) | exact UB.mono (by assumption) (by omega) | exact EQ.none (by omega) | exact EQ.mono (by assumption) (by omega)⟩
        omega
    · skip
      have t21 := inle (a := 0) (b := r3.toInt) rfl rfl c7
      exact hk _ _
  · skip
    have t22 := ieq (a := r1.toInt) (b := 0) rfl rfl c2
    rcases q1 with q1 | q1
    · exfalso; omega
    have t23 : ((-1) : Int32).toInt = (-1) := rfl
    exact hk _ _
set_option maxHeartbeats 1000000 in
set_option maxRecDepth 10000 in
theorem s_X8_areSo {p1 : Int32} {v_st : Nat → Int32} {v_clocks : Int32} {v_items : Nat → Int64} {post : Int32 → Prop} (hp0 : 0 ≤ v_clocks.toInt) (hp1 : v_clocks.toInt ≤ 9) (hp2 : 0 ≤ (v_st (Int32.toNatClampNeg 60)).toInt) (hp3 : 0 ≤ p1.toInt) (hp4 : p1.toInt + v_clocks.toInt ≤ 96) (hk : ∀ (r : Int32), (0 ≤ r.toInt) → (r.toInt ≤ 1) → post r) : wp_X8_areSo p1 v_st v_clocks v_items post := by
  unfold wp_X8_areSo
  have rp1 := Int32.toInt_lt p1
  have rq1 := Int32.le_toInt p1
  have tn60 : ((Int32.toNatClampNeg 60 : Nat) : Int) = 60 := rfl
  have t1 : ((1 : Int32)).toInt = 1 := rfl
  have t2 : ((0 : Int32)).toInt = 0 := rfl
  refine ⟨fun n1 x2_1 x3_1 => n1 = (v_clocks.toInt - x3_1.toInt).toNat ∧ (0 ≤ x3_1.toInt) ∧ (0 ≤ x2_1.toInt) ∧ (x2_1.toInt ≤ 1), ⟨_, rfl, by first | omega | assumption | exact AB.none (by omega) | exact AB.mono (by assumption) (by omega) (by omega) (by omega) (by omega) | exact RB.none (by omega) | exact RB.mono (by assumption) (by omega) | exact UB.none (by omega) | exact UB.mono (by assumption) (by omega) | exact EQ.none (by omega) | exact EQ.mono (by assumption) (by omega), by first | omega | assumption | exact AB.none (by omega) | exact AB.mono (by assumption) (by omega) (by omega) (by omega) (by omega) | exact RB.none (by omega) | exact RB.mono (by assumption) (by omega) | exact UB.none (by omega) | exact UB.mono (by assumption) (by omega) | exact EQ.none (by omega) | exact EQ.mono (by assumption) (by omega), by first | omega | assumption | exact AB.none (by omega) | exact AB.mono (by assumption) (by omega) (by omega) (by omega) (by omega) | exact RB.none (by omega) | exact RB.mono (by assumption) (by omega) | exact UB.none (by omega) | exact UB.mono (by assumption) (by omega) | exact EQ.none (by omega) | exact EQ.mono (by assumption) (by omega)⟩, ?_⟩
  rintro n1 x2_1 x3_1 ⟨hn1, q3, q4, q5⟩
  refine ⟨fun c6 => ?_, fun c6 => ?_⟩
  · skip
    have t7 := ile (a := v_clocks.toInt) (b := x3_1.toInt) rfl rfl c6
    refine ⟨i01 (a := x2_1.toInt) rfl (by omega), ?_⟩
    exact hk _ (by first | omega | assumption | exact AB.none (by omega) | exact AB.mono (by assumption) (by omega) (by omega) (by omega) (by omega) | exact RB.none (by omega) | exact RB.mono (by assumption) (by omega) | exact UB.none (by omega) | exact UB.mono (by assumption) (by omega) | exact EQ.none (by omega) | exact EQ.mono (by assumption) (by omega)) (by first | omega | assumption | exact AB.none (by omega) | exact AB.mono (by assumption) (by omega) (by omega) (by omega) (by omega) | exact RB.none (by omega) | exact RB.mono (by assumption) (by omega) | exact UB.none (by omega) | exact UB.mono (by assumption) (by omega) | exact EQ.none (by omega) | exact EQ.mono (by assumption) (by omega))
  · skip
    have t8 := inle (a := v_clocks.toInt) (b := x3_1.toInt) rfl rfl c6
    refine ⟨fun c9 => ?_, fun c9 => ?_⟩
    · skip
      have t10 := ieq (a := x2_1.toInt) (b := 0) rfl rfl c9
      try have t11 : (x3_1 + 1).toInt = x3_1.toInt + 1 := ia rfl rfl (by omega) (by omega)
      intro z4 ez4
      have t12 : z4.toInt = (x3_1 + 1).toInt := by rw [ez4] <;> rfl
      refine ⟨_, ?_, rfl, by first | omega | assumption | exact AB.none (by omega) | exact AB.mono (by assumption) (by omega) (by omega) (by omega) (by omega) | exact RB.none (by omega) | exact RB.mono (by assumption) (by omega) | exact UB.none (by omega) | exact UB.mono (by assumption) (by omega) | exact EQ.none (by omega) | exact EQ.mono (by assumption) (by omega), by first | omega | assumption | exact AB.none (by omega) | exact AB.mono (by assumption) (by omega) (by omega) (by omega) (by omega) | exact RB.none (by omega) | exact RB.mono (by assumption) (by omega) | exact UB.none (by omega) | exact UB.mono (by assumption) (by omega) | exact EQ.none (by omega) | exact EQ.mono (by assumption) (by omega), by first | omega | assumption | exact AB.none (by omega) | exact AB.mono (by assumption) (by omega) (by omega) (by omega) (by omega) | exact RB.none (by omega) | exact RB.mono (by assumption) (by omega) | exact UB.none (by omega) | exact UB.mono (by assumption) (by omega) | exact EQ.none (by omega) | exact EQ.mono (by assumption) (by omega)⟩
      omega
    · skip
      have t13 := ine (a := x2_1.toInt) (b := 0) rfl rfl c9
      try have t14 : (p1 + x3_1).toInt = p1.toInt + x3_1.toInt := ia rfl rfl (by omega) (by omega)
      refine ⟨ivp (a := (p1 + x3_1).toInt) rfl (by omega) (by omega), ?_⟩
      try have t15 : (42 + x3_1).toInt = 42 + x3_1.toInt := ia rfl rfl (by omega) (by omega)
      refine ⟨ivp (a := (42 + x3_1).toInt) rfl (by omega) (by omega), ?_⟩
      try have q16 := AB.get (f := v_st) (i := (42 + x3_1)) (a := (42 + x3_1).toInt) (by assumption) rfl (by omega) (by omega) (by omega)
      have t17 : (Int32.toInt64 (v_st (Int32.toNatClampNeg (42 + x3_1)))).toInt = (v_st (Int32.toNatClampNeg (42 + x3_1))).toInt := i2l rfl
      have t18 := lcm (x := (v_items (Int32.toNatClampNeg (p1 + x3_1)))) (y := (Int32.toInt64 (v_st (Int32.toNatClampNeg (42 + x3_1))))) (a := (v_items (Int32.toNatClampNeg (p1 + x3_1))).toInt) (b := (Int32.toInt64 (v_st (Int32.toNatClampNeg (42 + x3_1)))).toInt) rfl rfl
      refine ⟨fun c19 => ?_, fun c19 => ?_⟩
      · skip
        have t20 := ine (a := (lg_cmp (v_items (Int32.toNatClampNeg (p1 + x3_1))) (Int32.toInt64 (v_st (Int32.toNatClampNeg (42 + x3_1))))).toInt) (b := 0) rfl rfl c19
        try have t21 : (x3_1 + 1).toInt = x3_1.toInt + 1 := ia rfl rfl (by omega) (by omega)
        intro z6 ez6
        have t22 : z6.toInt = (x3_1 + 1).toInt := by rw [ez6] <;> rfl
        refine ⟨_, ?_, rfl, by first | omega | assumption | exact AB.none (by omega) | exact AB.mono (by assumption) (by omega) (by omega) (by omega) (by omega) | exact RB.none (by omega) | exact RB.mono (by assumption) (by omega) | exact UB.none (by omega) | exact UB.mono (by assumption) (by omega) | exact EQ.none (by omega) | exact EQ.mono (by assumption) (by omega), by first | omega | assumption | exact AB.none (by omega) | exact AB.mono (by assumption) (by omega) (by omega) (by omega) (by omega) | exact RB.none (by omega) | exact RB.mono (by assumption) (by omega) | exact UB.none (by omega) | exact UB.mono (by assumption) (by omega) | exact EQ.none (by omega) | exact EQ.mono (by assumption) (by omega), by first | omega | assumption | exact AB.none (by omega) | exact AB.mono (by assumption) (by omega) (by omega) (by omega) (by omega) | exact RB.none (by omega) | exact RB.mono (by assumption) (by omega) | exact UB.none (by omega) | exact UB.mono (by assumption) (by omega) | exact EQ.none (by omega) | exact EQ.mono (by assumption) (by omega)⟩
        omega
      · skip
        have t23 := ieq (a := (lg_cmp (v_items (Int32.toNatClampNeg (p1 + x3_1))) (Int32.toInt64 (v_st (Int32.toNatClampNeg (42 + x3_1))))).toInt) (b := 0) rfl rfl c19
        try have t24 : (x3_1 + 1).toInt = x3_1.toInt + 1 := ia rfl rfl (by omega) (by omega)
        intro z7 ez7
        have t25 : z7.toInt = (x3_1 + 1).toInt := by rw [ez7] <;> rfl
        refine ⟨_, ?_, rfl, by first | omega | assumption | exact AB.none (by omega) | exact AB.mono (by assumption) (by omega) (by omega) (by omega) (by omega) | exact RB.none (by omega) | exact RB.mono (by assumption) (by omega) | exact UB.none (by omega) | exact UB.mono (by assumption) (by omega) | exact EQ.none (by omega) | exact EQ.mono (by assumption) (by omega), by first | omega | assumption | exact AB.none (by omega) | exact AB.mono (by assumption) (by omega) (by omega) (by omega) (by omega) | exact RB.none (by omega) | exact RB.mono (by assumption) (by omega) | exact UB.none (by omega) | exact UB.mono (by assumption) (by omega) | exact EQ.none (by omega) | exact EQ.mono (by assumption) (by omega), by first | omega | assumption | exact AB.none (by omega) | exact AB.mono (by assumption) (by omega) (by omega) (by omega) (by omega) | exact RB.none (by omega) | exact RB.mono (by assumption) (by omega) | exact UB.none (by omega) | exact UB.mono (by assumption) (by omega) | exact EQ.none (by omega) | exact EQ.mono (by assumption) (by omega)⟩
        omega
set_option maxHeartbeats 1000000 in
set_option maxRecDepth 10000 in
theorem s_X8_seen {p1 : Int32} {p2 : Int32} {p3 : Int32} {v_st : Nat → Int32} {v_kinds : Nat → Int32} {v_rates : Nat → Int32} {v_clocks : Int32} {v_windows : Int32} {v_skyRow : Nat → Int32} {v_skyMany : Int32} {v_sky : Int32} {v_aside : Nat → Int32} {v_lanes : Nat → Int32} {v_rowSizes : Nat → Int32} {v_items : Nat → Int64} {post : Int32 → (Nat → Int32) → (Nat → Int32) → Prop} (hp0 : AB v_st 42 v_clocks.toInt 0 (v_windows.toInt - 1)) (hp1 : 2 ≤ v_windows.toInt) (hp2 : v_windows.toInt ≤ 24) (hp3 : 0 ≤ v_clocks.toInt) (hp4 : v_clocks.toInt ≤ 9) (hp5 : 1 ≤ v_skyMany.toInt) (hp6 : v_skyMany.toInt ≤ 12) (hp7 : AB v_rowSizes 0 4 0 24) (hp8 : 0 ≤ (v_st (Int32.toNatClampNeg 60)).toInt) (hp9 : (v_st (Int32.toNatClampNeg 60)).toInt ≤ 9999) (hk : ∀ (r : Int32) (v_st' : Nat → Int32) (v_aside' : Nat → Int32), (AB v_st' 42 v_clocks.toInt 0 (v_windows.toInt - 1)) → (0 ≤ (v_st' (Int32.toNatClampNeg 60)).toInt) → ((v_st' (Int32.toNatClampNeg 60)).toInt ≤ 9999) → post r v_st' v_aside') : wp_X8_seen p1 p2 p3 v_st v_kinds v_rates v_clocks v_windows v_skyRow v_skyMany v_sky v_aside v_lanes v_rowSizes v_items post := by
  unfold wp_X8_seen
  have rp1 := Int32.toInt_lt p1
  have rq1 := Int32.le_toInt p1
  have rp2 := Int32.toInt_lt p2
  have rq2 := Int32.le_toInt p2
  have rp3 := Int32.toInt_lt p3
  have rq3 := Int32.le_toInt p3
  have tn60 : ((Int32.toNatClampNeg 60 : Nat) : Int) = 60 := rfl
  refine s_X8_isSheet  (fun r1 q1 => ?_)
  refine ⟨fun c2 => ?_, fun c2 => ?_⟩
  · skip
    have t3 := ine (a := r1.toInt) (b := 0) rfl rfl c2
    rcases q1.symm with q1 | q1
    · exfalso; omega
    try have q4 := AB.get (f := v_rowSizes) (i := p1) (a := p1.toInt) (by assumption) rfl (by omega) (by omega) (by omega)
    refine s_X8_lacksRow (by first | omega | assumption | exact AB.none (by omega) | exact AB.mono (by assumption) (by omega) (by omega) (by omega) (by omega) | exact RB.none (by omega) | exact RB.mono (by assumption) (by omega) | exact UB.none (by omega) | exact UB.mono (by assumption) (by omega) | exact EQ.none (by omega) | exact EQ.mono (by assumption) (by omega)) (by first | omega | assumption | exact AB.none (by omega) | exact AB.mono (by assumption) (by omega) (by omega) (by omega) (by omega) | exact RB.none (by omega) | exact RB.mono (by assumption) (by omega) | exact UB.none (by omega) | exact UB.mono (by assumption) (by omega) | exact EQ.none (by omega) | exact EQ.mono (by assumption) (by omega)) (by first | omega | assumption | exact AB.none (by omega) | exact AB.mono (by assumption) (by omega) (by omega) (by omega) (by omega) | exact RB.none (by omega) | exact RB.mono (by assumption) (by omega) | exact UB.none (by omega) | exact UB.mono (by assumption) (by omega) | exact EQ.none (by omega) | exact EQ.mono (by assumption) (by omega)) (by first | omega | assumption | exact AB.none (by omega) | exact AB.mono (by assumption) (by omega) (by omega) (by omega) (by omega) | exact RB.none (by omega) | exact RB.mono (by assumption) (by omega) | exact UB.none (by omega) | exact UB.mono (by assumption) (by omega) | exact EQ.none (by omega) | exact EQ.mono (by assumption) (by omega)) (by first | omega | assumption | exact AB.none (by omega) | exact AB.mono (by assumption) (by omega) (by omega) (by omega) (by omega) | exact RB.none (by omega) | exact RB.mono (by assumption) (by omega) | exact UB.none (by omega) | exact UB.mono (by assumption) (by omega) | exact EQ.none (by omega) | exact EQ.mono (by assumption) (by omega)) (fun r3 q5 q6 => ?_)
    refine ⟨fun c7 => ?_, fun c7 => ?_⟩
    · skip
      have t8 := ile (a := 0) (b := r3.toInt) rfl rfl c7
      try have t9 : (24 * p1).toInt = 24 * p1.toInt := im rfl rfl (by omega) (by omega)
      try have t10 : ((24 * p1) + p3).toInt = (24 * p1).toInt + p3.toInt := ia rfl rfl (by omega) (by omega)
      intro z5 ez5
      have t11 : z5.toInt = ((24 * p1) + p3).toInt := by rw [ez5] <;> rfl
      refine s_X8_keepAside (by first | omega | assumption | exact AB.none (by omega) | exact AB.mono (by assumption) (by omega) (by omega) (by omega) (by omega) | exact RB.none (by omega) | exact RB.mono (by assumption) (by omega) | exact UB.none (by omega) | exact UB.mono (by assumption) (by omega) | exact EQ.none (by omega) | exact EQ.mono (by assumption) (by omega)) (fun v_aside_7 q12 => ?_)
      have t13 : ((0 : Int32)).toInt = 0 := rfl
      refine ⟨fun n8 x6_8 v_st_8 => n8 = (200 - x6_8.toInt).toNat ∧ (AB v_st_8 42 v_clocks.toInt 0 (v_windows.toInt - 1)) ∧ (0 ≤ (v_st_8 (Int32.toNatClampNeg 60)).toInt) ∧ (0 ≤ x6_8.toInt) ∧ ((v_st_8 (Int32.toNatClampNeg 60)).toInt ≤ (v_st (Int32.toNatClampNeg 60)).toInt + x6_8.toInt) ∧ (x6_8.toInt ≤ 200), ⟨_, rfl, by first | omega | assumption | exact AB.none (by omega) | exact AB.mono (by assumption) (by omega) (by omega) (by omega) (by omega) | exact RB.none (by omega) | exact RB.mono (by assumption) (by omega) | exact UB.none (by omega) | exact UB.mono (by assumption) (by omega) | exact EQ.none (by omega) | exact EQ.mono (by assumption) (by omega), by first | omega | assumption | exact AB.none (by omega) | exact AB.mono (by assumption) (by omega) (by omega) (by omega) (by omega) | exact RB.none (by omega) | exact RB.mono (by assumption) (by omega) | exact UB.none (by omega) | exact UB.mono (by assumption) (by omega) | exact EQ.none (by omega) | exact EQ.mono (by assumption) (by omega), by first | omega | assumption | exact AB.none (by omega) | exact AB.mono (by assumption) (by omega) (by omega) (by omega) (by omega) | exact RB.none (by omega) | exact RB.mono (by assumption) (by omega) | exact UB.none (by omega) | exact UB.mono (by assumption) (by omega) | exact EQ.none (by omega) | exact EQ.mono (by assumption) (by omega), by first | omega | assumption | exact AB.none (by omega) | exact AB.mono (by assumption) (by omega) (by omega) (by omega) (by omega) | exact RB.none (by omega) | exact RB.mono (by assumption) (by omega) | exact UB.none (by omega) | exact UB.mono (by assumption) (by omega) | exact EQ.none (by omega) | exact EQ.mono (by assumption) (by omega), by first | omega | assumption | exact AB.none (by omega) | exact AB.mono (by assumption) (by omega) (by omega) (by omega) (by omega) | exact RB.none (by omega) | exact RB.mono (by assumption) (by omega) | exact UB.none (by omega) | exact UB.mono (by assumption) (by omega) | exact EQ.none (by omega) | exact EQ.mono (by assumption) (by omega)⟩, ?_⟩
      rintro n8 x6_8 v_st_8 ⟨hn8, q14, q15, q16, q17, q18⟩
      refine ⟨(wp_X8_areSo z5 v_st_8 v_clocks v_items (fun (r10 : Int32) =>
 ((r10 = 0 → (wp_X8_bringBack v_st_8 v_aside_7 (fun (v_st_13 : Nat → Int32) =>
 (post (-4) v_st_13 v_aside_7)))) ∧
 (¬ r10 = 0 → (wp_X8_bringBack v_st_8 v_aside_7 (fun (v_st_15 : Nat → Int32) =>
 (post x6_8 v_st_15 v_aside_7))))))), fun h => h, ?_⟩
      refine ⟨fun c19 => ?_, fun c19 => ?_⟩
      · skip
        have t20 := ile (a := 200) (b := x6_8.toInt) rfl rfl c19
        show (wp_X8_areSo z5 v_st_8 v_clocks v_items (fun (r10 : Int32) =>
 ((r10 = 0 → (wp_X8_bringBack v_st_8 v_aside_7 (fun (v_st_13 : Nat → Int32) =>
 (post (-4) v_st_13 v_aside_7)))) ∧
 (¬ r10 = 0 → (wp_X8_bringBack v_st_8 v_aside_7 (fun (v_st_15 : Nat → Int32) =>
 (post x6_8 v_st_15 v_aside_7)))))))
        refine s_X8_areSo (by first | omega | assumption | exact AB.none (by omega) | exact AB.mono (by assumption) (by omega) (by omega) (by omega) (by omega) | exact RB.none (by omega) | exact RB.mono (by assumption) (by omega) | exact UB.none (by omega) | exact UB.mono (by assumption) (by omega) | exact EQ.none (by omega) | exact EQ.mono (by assumption) (by omega)) (by first | omega | assumption | exact AB.none (by omega) | exact AB.mono (by assumption) (by omega) (by omega) (by omega) (by omega) | exact RB.none (by omega) | exact RB.mono (by assumption) (by omega) | exact UB.none (by omega) | exact UB.mono (by assumption) (by omega) | exact EQ.none (by omega) | exact EQ.mono (by assumption) (by omega)) (by first | omega | assumption | exact AB.none (by omega) | exact AB.mono (by assumption) (by omega) (by omega) (by omega) (by omega) | exact RB.none (by omega) | exact RB.mono (by assumption) (by omega) | exact UB.none (by omega) | exact UB.mono (by assumption) (by omega) | exact EQ.none (by omega) | exact EQ.mono (by assumption) (by omega)) (by first | omega | assumption | exact AB.none (by omega) | exact AB.mono (by assumption) (by omega) (by omega) (by omega) (by omega) | exact RB.none (by omega) | exact RB.mono (by assumption) (by omega) | exact UB.none (by omega) | exact UB.mono (by assumption) (by omega) | exact EQ.none (by omega) | exact EQ.mono (by assumption) (by omega)) (by first | omega | assumption | exact AB.none (by omega) | exact AB.mono (by assumption) (by omega) (by omega) (by omega) (by omega) | exact RB.none (by omega) | exact RB.mono (by assumption) (by omega) | exact UB.none (by omega) | exact UB.mono (by assumption) (by omega) | exact EQ.none (by omega) | exact EQ.mono (by assumption) (by omega)) (fun r10 q21 q22 => ?_)
        refine ⟨fun c23 => ?_, fun c23 => ?_⟩
        · skip
          have t24 := ieq (a := r10.toInt) (b := 0) rfl rfl c23
          refine s_X8_bringBack  (fun v_st_13 q25 => ?_)
          try have q26 := AB.back q12 q25 (by assumption : AB v_st _ _ _ _) (by omega)
          have t27 : (v_st_13 (Int32.toNatClampNeg 60)).toInt = (v_st (Int32.toNatClampNeg 60)).toInt := EQ.cell q12 q25 (by decide)
          have t28 : ((-4) : Int32).toInt = (-4) := rfl
          exact hk _ _ _ (by first | omega | assumption | exact AB.none (by omega) | exact AB.mono (by assumption) (by omega) (by omega) (by omega) (by omega) | exact RB.none (by omega) | exact RB.mono (by assumption) (by omega) | exact UB.none (by omega) | exact UB.mono (by assumption) (by omega) | exact EQ.none (by omega) | exact EQ.mono (by assumption) (by omega)) (by first | omega | assumption | exact AB.none (by omega) | exact AB.mono (by assumption) (by omega) (by omega) (by omega) (by omega) | exact RB.none (by omega) | exact RB.mono (by assumption) (by omega) | exact UB.none (by omega) | exact UB.mono (by assumption) (by omega) | exact EQ.none (by omega) | exact EQ.mono (by assumption) (by omega)) (by first | omega | assumption | exact AB.none (by omega) | exact AB.mono (by assumption) (by omega) (by omega) (by omega) (by omega) | exact RB.none (by omega) | exact RB.mono (by assumption) (by omega) | exact UB.none (by omega) | exact UB.mono (by assumption) (by omega) | exact EQ.none (by omega) | exact EQ.mono (by assumption) (by omega))
        · skip
          have t29 := ine (a := r10.toInt) (b := 0) rfl rfl c23
          refine s_X8_bringBack  (fun v_st_15 q30 => ?_)
          try have q31 := AB.back q12 q30 (by assumption : AB v_st _ _ _ _) (by omega)
          have t32 : (v_st_15 (Int32.toNatClampNeg 60)).toInt = (v_st (Int32.toNatClampNeg 60)).toInt := EQ.cell q12 q30 (by decide)
          exact hk _ _ _ (by first | omega | assumption | exact AB.none (by omega) | exact AB.mono (by assumption) (by omega) (by omega) (by omega) (by omega) | exact RB.none (by omega) | exact RB.mono (by assumption) (by omega) | exact UB.none (by omega) | exact UB.mono (by assumption) (by omega) | exact EQ.none (by omega) | exact EQ.mono (by assumption) (by omega)) (by first | omega | assumption | exact AB.none (by omega) | exact AB.mono (by assumption) (by omega) (by omega) (by omega) (by omega) | exact RB.none (by omega) | exact RB.mono (by assumption) (by omega) | exact UB.none (by omega) | exact UB.mono (by assumption) (by omega) | exact EQ.none (by omega) | exact EQ.mono (by assumption) (by omega)) (by first | omega | assumption | exact AB.none (by omega) | exact AB.mono (by assumption) (by omega) (by omega) (by omega) (by omega) | exact RB.none (by omega) | exact RB.mono (by assumption) (by omega) | exact UB.none (by omega) | exact UB.mono (by assumption) (by omega) | exact EQ.none (by omega) | exact EQ.mono (by assumption) (by omega))
      · skip
        have t33 := inle (a := 200) (b := x6_8.toInt) rfl rfl c19
        refine s_X8_areSo (by first | omega | assumption | exact AB.none (by omega) | exact AB.mono (by assumption) (by omega) (by omega) (by omega) (by omega) | exact RB.none (by omega) | exact RB.mono (by assumption) (by omega) | exact UB.none (by omega) | exact UB.mono (by assumption) (by omega) | exact EQ.none (by omega) | exact EQ.mono (by assumption) (by omega)) (by first | omega | assumption | exact AB.none (by omega) | exact AB.mono (by assumption) (by omega) (by omega) (by omega) (by omega) | exact RB.none (by omega) | exact RB.mono (by assumption) (by omega) | exact UB.none (by omega) | exact UB.mono (by assumption) (by omega) | exact EQ.none (by omega) | exact EQ.mono (by assumption) (by omega)) (by first | omega | assumption | exact AB.none (by omega) | exact AB.mono (by assumption) (by omega) (by omega) (by omega) (by omega) | exact RB.none (by omega) | exact RB.mono (by assumption) (by omega) | exact UB.none (by omega) | exact UB.mono (by assumption) (by omega) | exact EQ.none (by omega) | exact EQ.mono (by assumption) (by omega)) (by first | omega | assumption | exact AB.none (by omega) | exact AB.mono (by assumption) (by omega) (by omega) (by omega) (by omega) | exact RB.none (by omega) | exact RB.mono (by assumption) (by omega) | exact UB.none (by omega) | exact UB.mono (by assumption) (by omega) | exact EQ.none (by omega) | exact EQ.mono (by assumption) (by omega)) (by first | omega | assumption | exact AB.none (by omega) | exact AB.mono (by assumption) (by omega) (by omega) (by omega) (by omega) | exact RB.none (by omega) | exact RB.mono (by assumption) (by omega) | exact UB.none (by omega) | exact UB.mono (by assumption) (by omega) | exact EQ.none (by omega) | exact EQ.mono (by assumption) (by omega)) (fun r17 q34 q35 => ?_)
        refine ⟨fun c36 => ?_, fun c36 => ?_⟩
        · skip
          have t37 := ine (a := r17.toInt) (b := 0) rfl rfl c36
          show (wp_X8_areSo z5 v_st_8 v_clocks v_items (fun (r10 : Int32) =>
 ((r10 = 0 → (wp_X8_bringBack v_st_8 v_aside_7 (fun (v_st_13 : Nat → Int32) =>
 (post (-4) v_st_13 v_aside_7)))) ∧
 (¬ r10 = 0 → (wp_X8_bringBack v_st_8 v_aside_7 (fun (v_st_15 : Nat → Int32) =>
 (post x6_8 v_st_15 v_aside_7)))))))
          refine s_X8_areSo (by first | omega | assumption | exact AB.none (by omega) | exact AB.mono (by assumption) (by omega) (by omega) (by omega) (by omega) | exact RB.none (by omega) | exact RB.mono (by assumption) (by omega) | exact UB.none (by omega) | exact UB.mono (by assumption) (by omega) | exact EQ.none (by omega) | exact EQ.mono (by assumption) (by omega)) (by first | omega | assumption | exact AB.none (by omega) | exact AB.mono (by assumption) (by omega) (by omega) (by omega) (by omega) | exact RB.none (by omega) | exact RB.mono (by assumption) (by omega) | exact UB.none (by omega) | exact UB.mono (by assumption) (by omega) | exact EQ.none (by omega) | exact EQ.mono (by assumption) (by omega)) (by first | omega | assumption | exact AB.none (by omega) | exact AB.mono (by assumption) (by omega) (by omega) (by omega) (by omega) | exact RB.none (by omega) | exact RB.mono (by assumption) (by omega) | exact UB.none (by omega) | exact UB.mono (by assumption) (by omega) | exact EQ.none (by omega) | exact EQ.mono (by assumption) (by omega)) (by first | omega | assumption | exact AB.none (by omega) | exact AB.mono (by assumption) (by omega) (by omega) (by omega) (by omega) | exact RB.none (by omega) | exact RB.mono (by assumption) (by omega) | exact UB.none (by omega) | exact UB.mono (by assumption) (by omega) | exact EQ.none (by omega) | exact EQ.mono (by assumption) (by omega)) (by first | omega | assumption | exact AB.none (by omega) | exact AB.mono (by assumption) (by omega) (by omega) (by omega) (by omega) | exact RB.none (by omega) | exact RB.mono (by assumption) (by omega) | exact UB.none (by omega) | exact UB.mono (by assumption) (by omega) | exact EQ.none (by omega) | exact EQ.mono (by assumption) (by omega)) (fun r10 q38 q39 => ?_)
          refine ⟨fun c40 => ?_, fun c40 => ?_⟩
          · skip
            have t41 := ieq (a := r10.toInt) (b := 0) rfl rfl c40
            refine s_X8_bringBack  (fun v_st_13 q42 => ?_)
            try have q43 := AB.back q12 q42 (by assumption : AB v_st _ _ _ _) (by omega)
            have t44 : (v_st_13 (Int32.toNatClampNeg 60)).toInt = (v_st (Int32.toNatClampNeg 60)).toInt := EQ.cell q12 q42 (by decide)
            have t45 : ((-4) : Int32).toInt = (-4) := rfl
            exact hk _ _ _ (by first | omega | assumption | exact AB.none (by omega) | exact AB.mono (by assumption) (by omega) (by omega) (by omega) (by omega) | exact RB.none (by omega) | exact RB.mono (by assumption) (by omega) | exact UB.none (by omega) | exact UB.mono (by assumption) (by omega) | exact EQ.none (by omega) | exact EQ.mono (by assumption) (by omega)) (by first | omega | assumption | exact AB.none (by omega) | exact AB.mono (by assumption) (by omega) (by omega) (by omega) (by omega) | exact RB.none (by omega) | exact RB.mono (by assumption) (by omega) | exact UB.none (by omega) | exact UB.mono (by assumption) (by omega) | exact EQ.none (by omega) | exact EQ.mono (by assumption) (by omega)) (by first | omega | assumption | exact AB.none (by omega) | exact AB.mono (by assumption) (by omega) (by omega) (by omega) (by omega) | exact RB.none (by omega) | exact RB.mono (by assumption) (by omega) | exact UB.none (by omega) | exact UB.mono (by assumption) (by omega) | exact EQ.none (by omega) | exact EQ.mono (by assumption) (by omega))
          · skip
            have t46 := ine (a := r10.toInt) (b := 0) rfl rfl c40
            refine s_X8_bringBack  (fun v_st_15 q47 => ?_)
            try have q48 := AB.back q12 q47 (by assumption : AB v_st _ _ _ _) (by omega)
            have t49 : (v_st_15 (Int32.toNatClampNeg 60)).toInt = (v_st (Int32.toNatClampNeg 60)).toInt := EQ.cell q12 q47 (by decide)
            exact hk _ _ _ (by first | omega | assumption | exact AB.none (by omega) | exact AB.mono (by assumption) (by omega) (by omega) (by omega) (by omega) | exact RB.none (by omega) | exact RB.mono (by assumption) (by omega) | exact UB.none (by omega) | exact UB.mono (by assumption) (by omega) | exact EQ.none (by omega) | exact EQ.mono (by assumption) (by omega)) (by first | omega | assumption | exact AB.none (by omega) | exact AB.mono (by assumption) (by omega) (by omega) (by omega) (by omega) | exact RB.none (by omega) | exact RB.mono (by assumption) (by omega) | exact UB.none (by omega) | exact UB.mono (by assumption) (by omega) | exact EQ.none (by omega) | exact EQ.mono (by assumption) (by omega)) (by first | omega | assumption | exact AB.none (by omega) | exact AB.mono (by assumption) (by omega) (by omega) (by omega) (by omega) | exact RB.none (by omega) | exact RB.mono (by assumption) (by omega) | exact UB.none (by omega) | exact UB.mono (by assumption) (by omega) | exact EQ.none (by omega) | exact EQ.mono (by assumption) (by omega))
        · skip
          have t50 := ieq (a := r17.toInt) (b := 0) rfl rfl c36
          refine s_X8_skyNow (by first | omega | assumption | exact AB.none (by omega) | exact AB.mono (by assumption) (by omega) (by omega) (by omega) (by omega) | exact RB.none (by omega) | exact RB.mono (by assumption) (by omega) | exact UB.none (by omega) | exact UB.mono (by assumption) (by omega) | exact EQ.none (by omega) | exact EQ.mono (by assumption) (by omega)) (by first | omega | assumption | exact AB.none (by omega) | exact AB.mono (by assumption) (by omega) (by omega) (by omega) (by omega) | exact RB.none (by omega) | exact RB.mono (by assumption) (by omega) | exact UB.none (by omega) | exact UB.mono (by assumption) (by omega) | exact EQ.none (by omega) | exact EQ.mono (by assumption) (by omega)) (by first | omega | assumption | exact AB.none (by omega) | exact AB.mono (by assumption) (by omega) (by omega) (by omega) (by omega) | exact RB.none (by omega) | exact RB.mono (by assumption) (by omega) | exact UB.none (by omega) | exact UB.mono (by assumption) (by omega) | exact EQ.none (by omega) | exact EQ.mono (by assumption) (by omega)) (fun r19 => ?_)
          refine s_X8_goOn (by first | omega | assumption | exact AB.none (by omega) | exact AB.mono (by assumption) (by omega) (by omega) (by omega) (by omega) | exact RB.none (by omega) | exact RB.mono (by assumption) (by omega) | exact UB.none (by omega) | exact UB.mono (by assumption) (by omega) | exact EQ.none (by omega) | exact EQ.mono (by assumption) (by omega)) (by first | omega | assumption | exact AB.none (by omega) | exact AB.mono (by assumption) (by omega) (by omega) (by omega) (by omega) | exact RB.none (by omega) | exact RB.mono (by assumption) (by omega) | exact UB.none (by omega) | exact UB.mono (by assumption) (by omega) | exact EQ.none (by omega) | exact EQ.mono (by assumption) (by omega)) (by first | omega | assumption | exact AB.none (by omega) | exact AB.mono (by assumption) (by omega) (by omega) (by omega) (by omega) | exact RB.none (by omega) | exact RB.mono (by assumption) (by omega) | exact UB.none (by omega) | exact UB.mono (by assumption) (by omega) | exact EQ.none (by omega) | exact EQ.mono (by assumption) (by omega)) (by first | omega | assumption | exact AB.none (by omega) | exact AB.mono (by assumption) (by omega) (by omega) (by omega) (by omega) | exact RB.none (by omega) | exact RB.mono (by assumption) (by omega) | exact UB.none (by omega) | exact UB.mono (by assumption) (by omega) | exact EQ.none (by omega) | exact EQ.mono (by assumption) (by omega)) (by first | omega | assumption | exact AB.none (by omega) | exact AB.mono (by assumption) (by omega) (by omega) (by omega) (by omega) | exact RB.none (by omega) | exact RB.mono (by assumption) (by omega) | exact UB.none (by omega) | exact UB.mono (by assumption) (by omega) | exact EQ.none (by omega) | exact EQ.mono (by assumption) (by omega)) (by first | omega | assumption | exact AB.none (by omega) | exact AB.mono (by assumption) (by omega) (by omega) (by omega) (by omega) | exact RB.none (by omega) | exact RB.mono (by assumption) (by omega) | exact UB.none (by omega) | exact UB.mono (by assumption) (by omega) | exact EQ.none (by omega) | exact EQ.mono (by assumption) (by omega)) (by first | omega | assumption | exact AB.none (by omega) | exact AB.mono (by assumption) (by omega) (by omega) (by omega) (by omega) | exact RB.none (by omega) | exact RB.mono (by assumption) (by omega) | exact UB.none (by omega) | exact UB.mono (by assumption) (by omega) | exact EQ.none (by omega) | exact EQ.mono (by assumption) (by omega)) (fun r20 v_st_21 q51 q52 q53 q54 => ?_)
          try have t55 : (x6_8 + 1).toInt = x6_8.toInt + 1 := ia rfl rfl (by omega) (by omega)
          intro z22 ez22
          have t56 : z22.toInt = (x6_8 + 1).toInt := by rw [ez22] <;> rfl
          refine ⟨_, ?_, rfl, by first | omega | assumption | exact AB.none (by omega) | exact AB.mono (by assumption) (by omega) (by omega) (by omega) (by omega) | exact RB.none (by omega) | exact RB.mono (by assumption) (by omega) | exact UB.none (by omega) | exact UB.mono (by assumption) (by omega) | exact EQ.none (by omega) | exact EQ.mono (by assumption) (by omega), by first | omega | assumption | exact AB.none (by omega) | exact AB.mono (by assumption) (by omega) (by omega) (by omega) (by omega) | exact RB.none (by omega) | exact RB.mono (by assumption) (by omega) | exact UB.none (by omega) | exact UB.mono (by assumption) (by omega) | exact EQ.none (by omega) | exact EQ.mono (by assumption) (by omega), by first | omega | assumption | exact AB.none (by omega) | exact AB.mono (by assumption) (by omega) (by omega) (by omega) (by omega) | exact RB.none (by omega) | exact RB.mono (by assumption) (by omega) | exact UB.none (by omega) | exact UB.mono (by assumption) (by omega) | exact EQ.none (by omega) | exact EQ.mono (by assumption) (by omega), by first | omega | assumption | exact AB.none (by omega) | exact AB.mono (by assumption) (by omega) (by omega) (by omega) (by omega) | exact RB.none (by omega) | exact RB.mono (by assumption) (by omega) | exact UB.none (by omega) | exact UB.mono (by assumption) (by omega) | exact EQ.none (by omega) | exact EQ.mono (by assumption) (by omega), by first | omega | assumption | exact AB.none (by omega) | exact AB.mono (by assumption) (by omega) (by omega) (by omega) (by omega) | exact RB.none (by omega) | exact RB.mono (by assumption) (by omega) | exact UB.none (by omega) | exact UB.mono (by assumption) (by omega) | exact EQ.none (by omega) | exact EQ.mono (by assumption) (by omega)⟩
          omega
    · skip
      have t57 := inle (a := 0) (b := r3.toInt) rfl rfl c7
      exact hk _ _ _ (by first | omega | assumption | exact AB.none (by omega) | exact AB.mono (by assumption) (by omega) (by omega) (by omega) (by omega) | exact RB.none (by omega) | exact RB.mono (by assumption) (by omega) | exact UB.none (by omega) | exact UB.mono (by assumption) (by omega) | exact EQ.none (by omega) | exact EQ.mono (by assumption) (by omega)) (by first | omega | assumption | exact AB.none (by omega) | exact AB.mono (by assumption) (by omega) (by omega) (by omega) (by omega) | exact RB.none (by omega) | exact RB.mono (by assumption) (by omega) | exact UB.none (by omega) | exact UB.mono (by assumption) (by omega) | exact EQ.none (by omega) | exact EQ.mono (by assumption) (by omega)) (by first | omega | assumption | exact AB.none (by omega) | exact AB.mono (by assumption) (by omega) (by omega) (by omega) (by omega) | exact RB.none (by omega) | exact RB.mono (by assumption) (by omega) | exact UB.none (by omega) | exact UB.mono (by assumption) (by omega) | exact EQ.none (by omega) | exact EQ.mono (by assumption) (by omega))
  · skip
    have t58 := ieq (a := r1.toInt) (b := 0) rfl rfl c2
    rcases q1 with q1 | q1
    · exfalso; omega
    have t59 : ((-1) : Int32).toInt = (-1) := rfl
    exact hk _ _ _ (by first | omega | assumption | exact AB.none (by omega) | exact AB.mono (by assumption) (by omega) (by omega) (by omega) (by omega) | exact RB.none (by omega) | exact RB.mono (by assumption) (by omega) | exact UB.none (by omega) | exact UB.mono (by assumption) (by omega) | exact EQ.none (by omega) | exact EQ.mono (by assumption) (by omega)) (by first | omega | assumption | exact AB.none (by omega) | exact AB.mono (by assumption) (by omega) (by omega) (by omega) (by omega) | exact RB.none (by omega) | exact RB.mono (by assumption) (by omega) | exact UB.none (by omega) | exact UB.mono (by assumption) (by omega) | exact EQ.none (by omega) | exact EQ.mono (by assumption) (by omega)) (by first | omega | assumption | exact AB.none (by omega) | exact AB.mono (by assumption) (by omega) (by omega) (by omega) (by omega) | exact RB.none (by omega) | exact RB.mono (by assumption) (by omega) | exact UB.none (by omega) | exact UB.mono (by assumption) (by omega) | exact EQ.none (by omega) | exact EQ.mono (by assumption) (by omega))
set_option maxHeartbeats 1000000 in
set_option maxRecDepth 10000 in
theorem s_X8_copy {p1 : Int32} {p2 : Int32} {p3 : Int32} {p4 : Int32} {p5 : Int32} {v_lanes : Nat → Int32} {v_rowSizes : Nat → Int32} {v_items : Nat → Int64} {v_moved : Nat → Int64} {post : Int32 → (Nat → Int64) → (Nat → Int64) → Prop} (hp0 : AB v_rowSizes 0 4 0 24) (hk : ∀ (r : Int32) (v_items' : Nat → Int64) (v_moved' : Nat → Int64), post r v_items' v_moved') : wp_X8_copy p1 p2 p3 p4 p5 v_lanes v_rowSizes v_items v_moved post := by
  unfold wp_X8_copy
  have rp1 := Int32.toInt_lt p1
  have rq1 := Int32.le_toInt p1
  have rp2 := Int32.toInt_lt p2
  have rq2 := Int32.le_toInt p2
  have rp3 := Int32.toInt_lt p3
  have rq3 := Int32.le_toInt p3
  have rp4 := Int32.toInt_lt p4
  have rq4 := Int32.le_toInt p4
  have rp5 := Int32.toInt_lt p5
  have rq5 := Int32.le_toInt p5
  have tn0 : ((Int32.toNatClampNeg 0 : Nat) : Int) = 0 := rfl
  have tn1 : ((Int32.toNatClampNeg 1 : Nat) : Int) = 1 := rfl
  have tn2 : ((Int32.toNatClampNeg 2 : Nat) : Int) = 2 := rfl
  have tn3 : ((Int32.toNatClampNeg 3 : Nat) : Int) = 3 := rfl
  have tn60 : ((Int32.toNatClampNeg 60 : Nat) : Int) = 60 := rfl
  have t1 : (Int32.toInt64 p1).toInt = p1.toInt := i2l rfl
  have t2 : (0 : Int64).toInt = 0 := rfl
  have t3 : (3 : Int64).toInt = 3 := rfl
  refine s_X8_in  (fun r1 q4 => ?_)
  refine ⟨fun c5 => ?_, fun c5 => ?_⟩
  · skip
    have t6 := ieq (a := r1.toInt) (b := 0) rfl rfl c5
    rcases q4 with q4 | q4
    · exfalso; omega
    have t7 : ((-1) : Int32).toInt = (-1) := rfl
    exact hk _ _ _
  · skip
    have t8 := ine (a := r1.toInt) (b := 0) rfl rfl c5
    rcases q4.symm with q4 | q4
    · exfalso; omega
    have t9 : (Int32.toInt64 p3).toInt = p3.toInt := i2l rfl
    refine s_X8_in  (fun r3 q10 => ?_)
    refine ⟨fun c11 => ?_, fun c11 => ?_⟩
    · skip
      have t12 := ine (a := r3.toInt) (b := 0) rfl rfl c11
      rcases q10.symm with q10 | q10
      · exfalso; omega
      refine ⟨ivp (a := p1.toInt) rfl (by omega) (by omega), ?_⟩
      refine ⟨fun c13 => ?_, fun c13 => ?_⟩
      · skip
        have t14 := ilt (a := (v_lanes (Int32.toNatClampNeg p1)).toInt) (b := 0) rfl rfl c13
        have t15 : ((-11) : Int32).toInt = (-11) := rfl
        exact hk _ _ _
      · skip
        have t16 := inlt (a := (v_lanes (Int32.toNatClampNeg p1)).toInt) (b := 0) rfl rfl c13
        refine ⟨ivp (a := p3.toInt) rfl (by omega) (by omega), ?_⟩
        refine ⟨fun c17 => ?_, fun c17 => ?_⟩
        · skip
          have t18 := ile (a := 0) (b := (v_lanes (Int32.toNatClampNeg p3)).toInt) rfl rfl c17
          refine ⟨ivp (a := p1.toInt) rfl (by omega) (by omega), ?_⟩
          refine ⟨ivp (a := p3.toInt) rfl (by omega) (by omega), ?_⟩
          refine ⟨fun c19 => ?_, fun c19 => ?_⟩
          · skip
            have t20 := ieq (a := (v_lanes (Int32.toNatClampNeg p1)).toInt) (b := (v_lanes (Int32.toNatClampNeg p3)).toInt) rfl rfl c19
            refine ⟨fun c21 => ?_, fun c21 => ?_⟩
            · skip
              have t22 := ilt (a := p5.toInt) (b := 0) rfl rfl c21
              have t23 : ((-13) : Int32).toInt = (-13) := rfl
              exact hk _ _ _
            · skip
              have t24 := inlt (a := p5.toInt) (b := 0) rfl rfl c21
              refine ⟨ivp (a := p1.toInt) rfl (by omega) (by omega), ?_⟩
              try have q25 := AB.get (f := v_rowSizes) (i := p1) (a := p1.toInt) (by assumption) rfl (by omega) (by omega) (by omega)
              have t26 : (Int32.toInt64 p2).toInt = p2.toInt := i2l rfl
              have t27 : (Int32.toInt64 (v_rowSizes (Int32.toNatClampNeg p1))).toInt = (v_rowSizes (Int32.toNatClampNeg p1)).toInt := i2l rfl
              have t28 : (Int32.toInt64 p5).toInt = p5.toInt := i2l rfl
              try have t29 : ((Int32.toInt64 (v_rowSizes (Int32.toNatClampNeg p1))) - (Int32.toInt64 p5)).toInt = (Int32.toInt64 (v_rowSizes (Int32.toNatClampNeg p1))).toInt - (Int32.toInt64 p5).toInt := lsb rfl rfl (by omega) (by omega)
              refine s_X8_in  (fun r9 q30 => ?_)
              refine ⟨fun c31 => ?_, fun c31 => ?_⟩
              · skip
                have t32 := ieq (a := r9.toInt) (b := 0) rfl rfl c31
                rcases q30 with q30 | q30
                · exfalso; omega
                have t33 : ((-13) : Int32).toInt = (-13) := rfl
                exact hk _ _ _
              · skip
                have t34 := ine (a := r9.toInt) (b := 0) rfl rfl c31
                rcases q30.symm with q30 | q30
                · exfalso; omega
                refine ⟨ivp (a := p3.toInt) rfl (by omega) (by omega), ?_⟩
                try have q35 := AB.get (f := v_rowSizes) (i := p3) (a := p3.toInt) (by assumption) rfl (by omega) (by omega) (by omega)
                have t36 : (Int32.toInt64 p4).toInt = p4.toInt := i2l rfl
                have t37 : (Int32.toInt64 (v_rowSizes (Int32.toNatClampNeg p3))).toInt = (v_rowSizes (Int32.toNatClampNeg p3)).toInt := i2l rfl
                try have t38 : ((Int32.toInt64 (v_rowSizes (Int32.toNatClampNeg p3))) - (Int32.toInt64 p5)).toInt = (Int32.toInt64 (v_rowSizes (Int32.toNatClampNeg p3))).toInt - (Int32.toInt64 p5).toInt := lsb rfl rfl (by omega) (by omega)
                refine s_X8_in  (fun r11 q39 => ?_)
                refine ⟨fun c40 => ?_, fun c40 => ?_⟩
                · skip
                  have t41 := ine (a := r11.toInt) (b := 0) rfl rfl c40
                  rcases q39.symm with q39 | q39
                  · exfalso; omega
                  have t42 : ((0 : Int32)).toInt = 0 := rfl
                  refine ⟨fun n13 x6_13 v_moved_13 => n13 = (p5.toInt - x6_13.toInt).toNat ∧ (0 ≤ x6_13.toInt), ⟨_, rfl, by first | omega | assumption | exact AB.none (by omega) | exact AB.mono (by assumption) (by omega) (by omega) (by omega) (by omega) | exact RB.none (by omega) | exact RB.mono (by assumption) (by omega) | exact UB.none (by omega) | exact UB.mono (by assumption) (by omega) | exact EQ.none (by omega) | exact EQ.mono (by assumption) (by omega)⟩, ?_⟩
                  rintro n13 x6_13 v_moved_13 ⟨hn13, q43⟩
                  refine ⟨fun c44 => ?_, fun c44 => ?_⟩
                  · skip
                    have t45 := ile (a := p5.toInt) (b := x6_13.toInt) rfl rfl c44
                    have t46 : ((0 : Int32)).toInt = 0 := rfl
                    refine ⟨fun n15 x6_15 v_items_15 => n15 = (p5.toInt - x6_15.toInt).toNat ∧ (0 ≤ x6_15.toInt), ⟨_, rfl, by first | omega | assumption | exact AB.none (by omega) | exact AB.mono (by assumption) (by omega) (by omega) (by omega) (by omega) | exact RB.none (by omega) | exact RB.mono (by assumption) (by omega) | exact UB.none (by omega) | exact UB.mono (by assumption) (by omega) | exact EQ.none (by omega) | exact EQ.mono (by assumption) (by omega)⟩, ?_⟩
                    rintro n15 x6_15 v_items_15 ⟨hn15, q47⟩
                    refine ⟨fun c48 => ?_, fun c48 => ?_⟩
                    · skip
                      have t49 := ile (a := p5.toInt) (b := x6_15.toInt) rfl rfl c48
                      exact hk _ _ _
                    · skip
                      have t50 := inle (a := p5.toInt) (b := x6_15.toInt) rfl rfl c48
                      refine ⟨ivp (a := x6_15.toInt) rfl (by omega) (by omega), ?_⟩
                      intro z17 ez17
                      try have t51 : (24 * p3).toInt = 24 * p3.toInt := im rfl rfl (by omega) (by omega)
                      try have t52 : ((24 * p3) + p4).toInt = (24 * p3).toInt + p4.toInt := ia rfl rfl (by omega) (by omega)
                      try have t53 : (((24 * p3) + p4) + x6_15).toInt = ((24 * p3) + p4).toInt + x6_15.toInt := ia rfl rfl (by omega) (by omega)
                      refine ⟨ivp (a := (((24 * p3) + p4) + x6_15).toInt) rfl (by omega) (by omega), ?_⟩
                      intro f18 ef18
                      try have t54 : (x6_15 + 1).toInt = x6_15.toInt + 1 := ia rfl rfl (by omega) (by omega)
                      intro z19 ez19
                      have t55 : z19.toInt = (x6_15 + 1).toInt := by rw [ez19] <;> rfl
                      refine ⟨_, ?_, rfl, by first | omega | assumption | exact AB.none (by omega) | exact AB.mono (by assumption) (by omega) (by omega) (by omega) (by omega) | exact RB.none (by omega) | exact RB.mono (by assumption) (by omega) | exact UB.none (by omega) | exact UB.mono (by assumption) (by omega) | exact EQ.none (by omega) | exact EQ.mono (by assumption) (by omega)⟩
                      omega
                  · skip
                    have t56 := inle (a := p5.toInt) (b := x6_13.toInt) rfl rfl c44
                    try have t57 : (24 * p1).toInt = 24 * p1.toInt := im rfl rfl (by omega) (by omega)
                    try have t58 : ((24 * p1) + p2).toInt = (24 * p1).toInt + p2.toInt := ia rfl rfl (by omega) (by omega)
                    try have t59 : (((24 * p1) + p2) + x6_13).toInt = ((24 * p1) + p2).toInt + x6_13.toInt := ia rfl rfl (by omega) (by omega)
                    refine ⟨ivp (a := (((24 * p1) + p2) + x6_13).toInt) rfl (by omega) (by omega), ?_⟩
                    intro z20 ez20
                    refine ⟨ivp (a := x6_13.toInt) rfl (by omega) (by omega), ?_⟩
                    intro f21 ef21
                    try have t60 : (x6_13 + 1).toInt = x6_13.toInt + 1 := ia rfl rfl (by omega) (by omega)
                    intro z22 ez22
                    have t61 : z22.toInt = (x6_13 + 1).toInt := by rw [ez22] <;> rfl
                    refine ⟨_, ?_, rfl, by first | omega | assumption | exact AB.none (by omega) | exact AB.mono (by assumption) (by omega) (by omega) (by omega) (by omega) | exact RB.none (by omega) | exact RB.mono (by assumption) (by omega) | exact UB.none (by omega) | exact UB.mono (by assumption) (by omega) | exact EQ.none (by omega) | exact EQ.mono (by assumption) (by omega)⟩
                    omega
                · skip
                  have t62 := ieq (a := r11.toInt) (b := 0) rfl rfl c40
                  rcases q39 with q39 | q39
                  · exfalso; omega
                  have t63 : ((-13) : Int32).toInt = (-13) := rfl
                  exact hk _ _ _
          · skip
            have t64 := ine (a := (v_lanes (Int32.toNatClampNeg p1)).toInt) (b := (v_lanes (Int32.toNatClampNeg p3)).toInt) rfl rfl c19
            have t65 : ((-12) : Int32).toInt = (-12) := rfl
            exact hk _ _ _
        · skip
          have t66 := inle (a := 0) (b := (v_lanes (Int32.toNatClampNeg p3)).toInt) rfl rfl c17
          have t67 : ((-11) : Int32).toInt = (-11) := rfl
          exact hk _ _ _
    · skip
      have t68 := ieq (a := r3.toInt) (b := 0) rfl rfl c11
      rcases q10 with q10 | q10
      · exfalso; omega
      have t69 : ((-1) : Int32).toInt = (-1) := rfl
      exact hk _ _ _
