set_option maxHeartbeats 1000000 in
set_option maxRecDepth 10000 in
theorem s_X8_item {p1 : Int32} {p2 : Int32} {p3 : Int32} {p4 : Int64} {v_lanes : Nat → Int32} {v_rowSizes : Nat → Int32} {v_items : Nat → Int64} {post : Int32 → (Nat → Int64) → Prop} (hp0 : AB v_rowSizes 0 4 0 24) (hk : ∀ (r : Int32) (v_items' : Nat → Int64), ((0 ≤ p1.toInt ∧ p1.toInt ≤ 3 ∧ 0 ≤ p2.toInt ∧ p2.toInt ≤ 3) ∨ r.toInt = -1) → (¬ (0 ≤ p1.toInt ∧ p1.toInt ≤ 3 ∧ 0 ≤ p2.toInt ∧ p2.toInt ≤ 3) ∨ 0 ≤ (v_lanes (Int32.toNatClampNeg p1)).toInt ∨ r.toInt = -11) → (¬ (0 ≤ p1.toInt ∧ p1.toInt ≤ 3 ∧ 0 ≤ p2.toInt ∧ p2.toInt ≤ 3) ∨ (v_lanes (Int32.toNatClampNeg p1)).toInt < 0 ∨ (v_lanes (Int32.toNatClampNeg p1)).toInt = p2.toInt ∨ r.toInt = -12) → (¬ (0 ≤ p1.toInt ∧ p1.toInt ≤ 3 ∧ 0 ≤ p2.toInt ∧ p2.toInt ≤ 3) ∨ ¬ (v_lanes (Int32.toNatClampNeg p1)).toInt = p2.toInt ∨ (0 ≤ p3.toInt ∧ p3.toInt + 1 ≤ (v_rowSizes (Int32.toNatClampNeg p1)).toInt) ∨ r.toInt = -13) → (¬ (0 ≤ p1.toInt ∧ p1.toInt ≤ 3 ∧ 0 ≤ p2.toInt ∧ p2.toInt ≤ 3) ∨ ¬ (v_lanes (Int32.toNatClampNeg p1)).toInt = p2.toInt ∨ p3.toInt < 0 ∨ (v_rowSizes (Int32.toNatClampNeg p1)).toInt < p3.toInt + 1 ∨ r.toInt = 1) → post r v_items') : wp_X8_item p1 p2 p3 p4 v_lanes v_rowSizes v_items post := by
  unfold wp_X8_item
  have rp1 := Int32.toInt_lt p1
  have rq1 := Int32.le_toInt p1
  have rp2 := Int32.toInt_lt p2
  have rq2 := Int32.le_toInt p2
  have rp3 := Int32.toInt_lt p3
  have rq3 := Int32.le_toInt p3
  have tn0 : ((Int32.toNatClampNeg 0 : Nat) : Int) = 0 := rfl
  have tn1 : ((Int32.toNatClampNeg 1 : Nat) : Int) = 1 := rfl
  have tn2 : ((Int32.toNatClampNeg 2 : Nat) : Int) = 2 := rfl
  have tn3 : ((Int32.toNatClampNeg 3 : Nat) : Int) = 3 := rfl
  have tn60 : ((Int32.toNatClampNeg 60 : Nat) : Int) = 60 := rfl
  refine s_X8_isSheet  (fun r1 q1 => ?_)
  refine ⟨fun c2 => ?_, fun c2 => ?_⟩
  · skip
    have t3 := ine (a := r1.toInt) (b := 0) rfl rfl c2
    rcases q1.symm with q1 | q1
    · exfalso; omega
    have t4 : (1 : Int32).toInt = 1 := rfl
    try have q5 := AB.get (f := v_rowSizes) (i := p1) (a := p1.toInt) (by assumption) rfl (by omega) (by omega) (by omega)
    refine s_X8_lacksRow (by first | omega | assumption | exact AB.none (by omega) | exact AB.mono (by assumption) (by omega) (by omega) (by omega) (by omega) | exact RB.none (by omega) | exact RB.mono (by assumption) (by omega) | exact UB.none (by omega) | exact UB.mono (by assumption) (by omega) | exact EQ.none (by omega) | exact EQ.mono (by assumption) (by omega)) (by first | omega | assumption | exact AB.none (by omega) | exact AB.mono (by assumption) (by omega) (by omega) (by omega) (by omega) | exact RB.none (by omega) | exact RB.mono (by assumption) (by omega) | exact UB.none (by omega) | exact UB.mono (by assumption) (by omega) | exact EQ.none (by omega) | exact EQ.mono (by assumption) (by omega)) (by first | omega | assumption | exact AB.none (by omega) | exact AB.mono (by assumption) (by omega) (by omega) (by omega) (by omega) | exact RB.none (by omega) | exact RB.mono (by assumption) (by omega) | exact UB.none (by omega) | exact UB.mono (by assumption) (by omega) | exact EQ.none (by omega) | exact EQ.mono (by assumption) (by omega)) (by first | omega | assumption | exact AB.none (by omega) | exact AB.mono (by assumption) (by omega) (by omega) (by omega) (by omega) | exact RB.none (by omega) | exact RB.mono (by assumption) (by omega) | exact UB.none (by omega) | exact UB.mono (by assumption) (by omega) | exact EQ.none (by omega) | exact EQ.mono (by assumption) (by omega)) (by first | omega | assumption | exact AB.none (by omega) | exact AB.mono (by assumption) (by omega) (by omega) (by omega) (by omega) | exact RB.none (by omega) | exact RB.mono (by assumption) (by omega) | exact UB.none (by omega) | exact UB.mono (by assumption) (by omega) | exact EQ.none (by omega) | exact EQ.mono (by assumption) (by omega)) (fun r3 q6 q7 => ?_)
    unfold LR at q7
    refine ⟨fun c8 => ?_, fun c8 => ?_⟩
    · skip
      have t9 := ile (a := 0) (b := r3.toInt) rfl rfl c8
      refine s_X8_asLane  (fun r5 => ?_)
      try have t10 : (24 * p1).toInt = 24 * p1.toInt := im rfl rfl (by omega) (by omega)
      try have t11 : ((24 * p1) + p3).toInt = (24 * p1).toInt + p3.toInt := ia rfl rfl (by omega) (by omega)
      refine ⟨ivp (a := ((24 * p1) + p3).toInt) rfl (by omega) (by omega), ?_⟩
      intro f6 ef6
      exact hk _ _ (by first | omega | assumption | exact AB.none (by omega) | exact AB.mono (by assumption) (by omega) (by omega) (by omega) (by omega) | exact RB.none (by omega) | exact RB.mono (by assumption) (by omega) | exact UB.none (by omega) | exact UB.mono (by assumption) (by omega) | exact EQ.none (by omega) | exact EQ.mono (by assumption) (by omega)) (by first | omega | assumption | exact AB.none (by omega) | exact AB.mono (by assumption) (by omega) (by omega) (by omega) (by omega) | exact RB.none (by omega) | exact RB.mono (by assumption) (by omega) | exact UB.none (by omega) | exact UB.mono (by assumption) (by omega) | exact EQ.none (by omega) | exact EQ.mono (by assumption) (by omega)) (by first | omega | assumption | exact AB.none (by omega) | exact AB.mono (by assumption) (by omega) (by omega) (by omega) (by omega) | exact RB.none (by omega) | exact RB.mono (by assumption) (by omega) | exact UB.none (by omega) | exact UB.mono (by assumption) (by omega) | exact EQ.none (by omega) | exact EQ.mono (by assumption) (by omega)) (by first | omega | assumption | exact AB.none (by omega) | exact AB.mono (by assumption) (by omega) (by omega) (by omega) (by omega) | exact RB.none (by omega) | exact RB.mono (by assumption) (by omega) | exact UB.none (by omega) | exact UB.mono (by assumption) (by omega) | exact EQ.none (by omega) | exact EQ.mono (by assumption) (by omega)) (by first | omega | assumption | exact AB.none (by omega) | exact AB.mono (by assumption) (by omega) (by omega) (by omega) (by omega) | exact RB.none (by omega) | exact RB.mono (by assumption) (by omega) | exact UB.none (by omega) | exact UB.mono (by assumption) (by omega) | exact EQ.none (by omega) | exact EQ.mono (by assumption) (by omega))
    · skip
      have t12 := inle (a := 0) (b := r3.toInt) rfl rfl c8
      exact hk _ _ (by first | omega | assumption | exact AB.none (by omega) | exact AB.mono (by assumption) (by omega) (by omega) (by omega) (by omega) | exact RB.none (by omega) | exact RB.mono (by assumption) (by omega) | exact UB.none (by omega) | exact UB.mono (by assumption) (by omega) | exact EQ.none (by omega) | exact EQ.mono (by assumption) (by omega)) (by first | omega | assumption | exact AB.none (by omega) | exact AB.mono (by assumption) (by omega) (by omega) (by omega) (by omega) | exact RB.none (by omega) | exact RB.mono (by assumption) (by omega) | exact UB.none (by omega) | exact UB.mono (by assumption) (by omega) | exact EQ.none (by omega) | exact EQ.mono (by assumption) (by omega)) (by first | omega | assumption | exact AB.none (by omega) | exact AB.mono (by assumption) (by omega) (by omega) (by omega) (by omega) | exact RB.none (by omega) | exact RB.mono (by assumption) (by omega) | exact UB.none (by omega) | exact UB.mono (by assumption) (by omega) | exact EQ.none (by omega) | exact EQ.mono (by assumption) (by omega)) (by first | omega | assumption | exact AB.none (by omega) | exact AB.mono (by assumption) (by omega) (by omega) (by omega) (by omega) | exact RB.none (by omega) | exact RB.mono (by assumption) (by omega) | exact UB.none (by omega) | exact UB.mono (by assumption) (by omega) | exact EQ.none (by omega) | exact EQ.mono (by assumption) (by omega)) (by first | omega | assumption | exact AB.none (by omega) | exact AB.mono (by assumption) (by omega) (by omega) (by omega) (by omega) | exact RB.none (by omega) | exact RB.mono (by assumption) (by omega) | exact UB.none (by omega) | exact UB.mono (by assumption) (by omega) | exact EQ.none (by omega) | exact EQ.mono (by assumption) (by omega))
  · skip
    have t13 := ieq (a := r1.toInt) (b := 0) rfl rfl c2
    rcases q1 with q1 | q1
    · exfalso; omega
    have t14 : ((-1) : Int32).toInt = (-1) := rfl
    exact hk _ _ (by first | omega | assumption | exact AB.none (by omega) | exact AB.mono (by assumption) (by omega) (by omega) (by omega) (by omega) | exact RB.none (by omega) | exact RB.mono (by assumption) (by omega) | exact UB.none (by omega) | exact UB.mono (by assumption) (by omega) | exact EQ.none (by omega) | exact EQ.mono (by assumption) (by omega)) (by first | omega | assumption | exact AB.none (by omega) | exact AB.mono (by assumption) (by omega) (by omega) (by omega) (by omega) | exact RB.none (by omega) | exact RB.mono (by assumption) (by omega) | exact UB.none (by omega) | exact UB.mono (by assumption) (by omega) | exact EQ.none (by omega) | exact EQ.mono (by assumption) (by omega)) (by first | omega | assumption | exact AB.none (by omega) | exact AB.mono (by assumption) (by omega) (by omega) (by omega) (by omega) | exact RB.none (by omega) | exact RB.mono (by assumption) (by omega) | exact UB.none (by omega) | exact UB.mono (by assumption) (by omega) | exact EQ.none (by omega) | exact EQ.mono (by assumption) (by omega)) (by first | omega | assumption | exact AB.none (by omega) | exact AB.mono (by assumption) (by omega) (by omega) (by omega) (by omega) | exact RB.none (by omega) | exact RB.mono (by assumption) (by omega) | exact UB.none (by omega) | exact UB.mono (by assumption) (by omega) | exact EQ.none (by omega) | exact EQ.mono (by assumption) (by omega)) (by first | omega | assumption | exact AB.none (by omega) | exact AB.mono (by assumption) (by omega) (by omega) (by omega) (by omega) | exact RB.none (by omega) | exact RB.mono (by assumption) (by omega) | exact UB.none (by omega) | exact UB.mono (by assumption) (by omega) | exact EQ.none (by omega) | exact EQ.mono (by assumption) (by omega))
set_option maxHeartbeats 1000000 in
set_option maxRecDepth 10000 in
theorem s_X8_dress {p1 : Int32} {p2 : Int32} {p3 : Int32} {p4 : Int32} {v_st : Nat → Int32} {v_windows : Int32} {v_lanes : Nat → Int32} {v_rowSizes : Nat → Int32} {v_items : Nat → Int64} {gh_v_clocks : Int} {post : Int32 → (Nat → Int32) → Prop} (hp0 : AB v_st 42 gh_v_clocks 0 (v_windows.toInt - 1)) (hp1 : 0 ≤ gh_v_clocks) (hp2 : gh_v_clocks ≤ 9) (hp3 : 2 ≤ v_windows.toInt) (hp4 : v_windows.toInt ≤ 24) (hp5 : AB v_rowSizes 0 4 0 24) (hp6 : 0 ≤ (v_st (Int32.toNatClampNeg 60)).toInt) (hp7 : (v_st (Int32.toNatClampNeg 60)).toInt ≤ 9999) (hk : ∀ (r : Int32) (v_st' : Nat → Int32), (AB v_st' 42 gh_v_clocks 0 (v_windows.toInt - 1)) → (0 ≤ (v_st' (Int32.toNatClampNeg 60)).toInt) → ((v_st' (Int32.toNatClampNeg 60)).toInt ≤ 9999) → post r v_st') : wp_X8_dress p1 p2 p3 p4 v_st v_windows v_lanes v_rowSizes v_items post := by
  unfold wp_X8_dress
  have rp1 := Int32.toInt_lt p1
  have rq1 := Int32.le_toInt p1
  have rp2 := Int32.toInt_lt p2
  have rq2 := Int32.le_toInt p2
  have rp3 := Int32.toInt_lt p3
  have rq3 := Int32.le_toInt p3
  have rp4 := Int32.toInt_lt p4
  have rq4 := Int32.le_toInt p4
  have tn60 : ((Int32.toNatClampNeg 60 : Nat) : Int) = 60 := rfl
  refine s_X8_isSheet  (fun r1 q1 => ?_)
  refine ⟨fun c2 => ?_, fun c2 => ?_⟩
  · skip
    have t3 := ieq (a := r1.toInt) (b := 0) rfl rfl c2
    rcases q1 with q1 | q1
    · exfalso; omega
    have t4 : ((-1) : Int32).toInt = (-1) := rfl
    exact hk _ _ (by first | omega | assumption | exact AB.none (by omega) | exact AB.mono (by assumption) (by omega) (by omega) (by omega) (by omega) | exact RB.none (by omega) | exact RB.mono (by assumption) (by omega) | exact UB.none (by omega) | exact UB.mono (by assumption) (by omega) | exact EQ.none (by omega) | exact EQ.mono (by assumption) (by omega)) (by first | omega | assumption | exact AB.none (by omega) | exact AB.mono (by assumption) (by omega) (by omega) (by omega) (by omega) | exact RB.none (by omega) | exact RB.mono (by assumption) (by omega) | exact UB.none (by omega) | exact UB.mono (by assumption) (by omega) | exact EQ.none (by omega) | exact EQ.mono (by assumption) (by omega)) (by first | omega | assumption | exact AB.none (by omega) | exact AB.mono (by assumption) (by omega) (by omega) (by omega) (by omega) | exact RB.none (by omega) | exact RB.mono (by assumption) (by omega) | exact UB.none (by omega) | exact UB.mono (by assumption) (by omega) | exact EQ.none (by omega) | exact EQ.mono (by assumption) (by omega))
  · skip
    have t5 := ine (a := r1.toInt) (b := 0) rfl rfl c2
    rcases q1.symm with q1 | q1
    · exfalso; omega
    have t6 : (Int32.toInt64 p4).toInt = p4.toInt := i2l rfl
    have t7 : (1 : Int64).toInt = 1 := rfl
    have t8 : (Int32.toInt64 v_windows).toInt = v_windows.toInt := i2l rfl
    refine s_X8_in  (fun r3 q9 => ?_)
    refine ⟨fun c10 => ?_, fun c10 => ?_⟩
    · skip
      have t11 := ine (a := r3.toInt) (b := 0) rfl rfl c10
      rcases q9.symm with q9 | q9
      · exfalso; omega
      try have q12 := AB.get (f := v_rowSizes) (i := p1) (a := p1.toInt) (by assumption) rfl (by omega) (by omega) (by omega)
      refine s_X8_lacksRow (by first | omega | assumption | exact AB.none (by omega) | exact AB.mono (by assumption) (by omega) (by omega) (by omega) (by omega) | exact RB.none (by omega) | exact RB.mono (by assumption) (by omega) | exact UB.none (by omega) | exact UB.mono (by assumption) (by omega) | exact EQ.none (by omega) | exact EQ.mono (by assumption) (by omega)) (by first | omega | assumption | exact AB.none (by omega) | exact AB.mono (by assumption) (by omega) (by omega) (by omega) (by omega) | exact RB.none (by omega) | exact RB.mono (by assumption) (by omega) | exact UB.none (by omega) | exact UB.mono (by assumption) (by omega) | exact EQ.none (by omega) | exact EQ.mono (by assumption) (by omega)) (by first | omega | assumption | exact AB.none (by omega) | exact AB.mono (by assumption) (by omega) (by omega) (by omega) (by omega) | exact RB.none (by omega) | exact RB.mono (by assumption) (by omega) | exact UB.none (by omega) | exact UB.mono (by assumption) (by omega) | exact EQ.none (by omega) | exact EQ.mono (by assumption) (by omega)) (by first | omega | assumption | exact AB.none (by omega) | exact AB.mono (by assumption) (by omega) (by omega) (by omega) (by omega) | exact RB.none (by omega) | exact RB.mono (by assumption) (by omega) | exact UB.none (by omega) | exact UB.mono (by assumption) (by omega) | exact EQ.none (by omega) | exact EQ.mono (by assumption) (by omega)) (by first | omega | assumption | exact AB.none (by omega) | exact AB.mono (by assumption) (by omega) (by omega) (by omega) (by omega) | exact RB.none (by omega) | exact RB.mono (by assumption) (by omega) | exact UB.none (by omega) | exact UB.mono (by assumption) (by omega) | exact EQ.none (by omega) | exact EQ.mono (by assumption) (by omega)) (fun r5 q13 q14 => ?_)
      have t15 : ((0 : Int32)).toInt = 0 := rfl
      refine ⟨fun n6 x5_6 x6_6 => n6 = (p4.toInt - x6_6.toInt).toNat ∧ (0 ≤ x6_6.toInt) ∧ (x5_6.toInt < 0 ∨ r5.toInt = 0) ∧ (x6_6.toInt ≤ p4.toInt), ⟨_, rfl, by first | omega | assumption | exact AB.none (by omega) | exact AB.mono (by assumption) (by omega) (by omega) (by omega) (by omega) | exact RB.none (by omega) | exact RB.mono (by assumption) (by omega) | exact UB.none (by omega) | exact UB.mono (by assumption) (by omega) | exact EQ.none (by omega) | exact EQ.mono (by assumption) (by omega), by first | omega | assumption | exact AB.none (by omega) | exact AB.mono (by assumption) (by omega) (by omega) (by omega) (by omega) | exact RB.none (by omega) | exact RB.mono (by assumption) (by omega) | exact UB.none (by omega) | exact UB.mono (by assumption) (by omega) | exact EQ.none (by omega) | exact EQ.mono (by assumption) (by omega), by first | omega | assumption | exact AB.none (by omega) | exact AB.mono (by assumption) (by omega) (by omega) (by omega) (by omega) | exact RB.none (by omega) | exact RB.mono (by assumption) (by omega) | exact UB.none (by omega) | exact UB.mono (by assumption) (by omega) | exact EQ.none (by omega) | exact EQ.mono (by assumption) (by omega)⟩, ?_⟩
      rintro n6 x5_6 x6_6 ⟨hn6, q16, q17, q18⟩
      refine ⟨((0 ≤ x5_6 → (∃ I9 : Nat → (Int32) → (Nat → Int32) → Prop, (∃ n9, I9 n9 0 v_st) ∧ ∀ (n9 : Nat) (x6_9 : Int32) (v_st_9 : Nat → Int32), I9 n9 x6_9 v_st_9 →
 ((p4 ≤ x6_9 → (post p4 v_st_9)) ∧
 (¬ p4 ≤ x6_9 → (vp_in (((24 * p1) + p3) + x6_9) 96 ∧ (∀ z11 : Int32, z11 = (Int64.toInt32 (v_items (Int32.toNatClampNeg (((24 * p1) + p3) + x6_9)))) → (vp_in x6_9 63 ∧ ∀ f12 : Nat → Int32, f12 = (upd v_st_9 (Int32.toNatClampNeg x6_9) z11) → (∀ z13 : Int32, z13 = x6_9 + 1 → (∃ m9, m9 < n9 ∧ I9 m9 z13 f12))))))))) ∧
 (¬ 0 ≤ x5_6 → (post x5_6 v_st))), fun h => h, ?_⟩
      refine ⟨fun c19 => ?_, fun c19 => ?_⟩
      · skip
        have t20 := ile (a := p4.toInt) (b := x6_6.toInt) rfl rfl c19
        show ((0 ≤ x5_6 → (∃ I9 : Nat → (Int32) → (Nat → Int32) → Prop, (∃ n9, I9 n9 0 v_st) ∧ ∀ (n9 : Nat) (x6_9 : Int32) (v_st_9 : Nat → Int32), I9 n9 x6_9 v_st_9 →
 ((p4 ≤ x6_9 → (post p4 v_st_9)) ∧
 (¬ p4 ≤ x6_9 → (vp_in (((24 * p1) + p3) + x6_9) 96 ∧ (∀ z11 : Int32, z11 = (Int64.toInt32 (v_items (Int32.toNatClampNeg (((24 * p1) + p3) + x6_9)))) → (vp_in x6_9 63 ∧ ∀ f12 : Nat → Int32, f12 = (upd v_st_9 (Int32.toNatClampNeg x6_9) z11) → (∀ z13 : Int32, z13 = x6_9 + 1 → (∃ m9, m9 < n9 ∧ I9 m9 z13 f12))))))))) ∧
 (¬ 0 ≤ x5_6 → (post x5_6 v_st)))
        refine ⟨fun c21 => ?_, fun c21 => ?_⟩
        · skip
          have t22 := ile (a := 0) (b := x5_6.toInt) rfl rfl c21
          have t23 : ((0 : Int32)).toInt = 0 := rfl
          refine ⟨fun n9 x6_9 v_st_9 => n9 = (p4.toInt - x6_9.toInt).toNat ∧ (AB v_st_9 42 gh_v_clocks 0 (v_windows.toInt - 1)) ∧ (0 ≤ (v_st_9 (Int32.toNatClampNeg 60)).toInt) ∧ (0 ≤ x6_9.toInt) ∧ (x6_9.toInt ≤ p4.toInt) ∧ ((v_st_9 (Int32.toNatClampNeg 60)).toInt = (v_st (Int32.toNatClampNeg 60)).toInt), ⟨_, rfl, by first | omega | assumption | exact AB.none (by omega) | exact AB.mono (by assumption) (by omega) (by omega) (by omega) (by omega) | exact RB.none (by omega) | exact RB.mono (by assumption) (by omega) | exact UB.none (by omega) | exact UB.mono (by assumption) (by omega) | exact EQ.none (by omega) | exact EQ.mono (by assumption) (by omega), by first | omega | assumption | exact AB.none (by omega) | exact AB.mono (by assumption) (by omega) (by omega) (by omega) (by omega) | exact RB.none (by omega) | exact RB.mono (by assumption) (by omega) | exact UB.none (by omega) | exact UB.mono (by assumption) (by omega) | exact EQ.none (by omega) | exact EQ.mono (by assumption) (by omega), by first | omega | assumption | exact AB.none (by omega) | exact AB.mono (by assumption) (by omega) (by omega) (by omega) (by omega) | exact RB.none (by omega) | exact RB.mono (by assumption) (by omega) | exact UB.none (by omega) | exact UB.mono (by assumption) (by omega) | exact EQ.none (by omega) | exact EQ.mono (by assumption) (by omega), by first | omega | assumption | exact AB.none (by omega) | exact AB.mono (by assumption) (by omega) (by omega) (by omega) (by omega) | exact RB.none (by omega) | exact RB.mono (by assumption) (by omega) | exact UB.none (by omega) | exact UB.mono (by assumption) (by omega) | exact EQ.none (by omega) | exact EQ.mono (by assumption) (by omega), by first | omega | assumption | exact AB.none (by omega) | exact AB.mono (by assumption) (by omega) (by omega) (by omega) (by omega) | exact RB.none (by omega) | exact RB.mono (by assumption) (by omega) | exact UB.none (by omega) | exact UB.mono (by assumption) (by omega) | exact EQ.none (by omega) | exact EQ.mono (by assumption) (by omega)⟩, ?_⟩
          rintro n9 x6_9 v_st_9 ⟨hn9, q24, q25, q26, q27, q28⟩
          refine ⟨fun c29 => ?_, fun c29 => ?_⟩
          · skip
            have t30 := ile (a := p4.toInt) (b := x6_9.toInt) rfl rfl c29
            exact hk _ _ (by first | omega | assumption | exact AB.none (by omega) | exact AB.mono (by assumption) (by omega) (by omega) (by omega) (by omega) | exact RB.none (by omega) | exact RB.mono (by assumption) (by omega) | exact UB.none (by omega) | exact UB.mono (by assumption) (by omega) | exact EQ.none (by omega) | exact EQ.mono (by assumption) (by omega)) (by first | omega | assumption | exact AB.none (by omega) | exact AB.mono (by assumption) (by omega) (by omega) (by omega) (by omega) | exact RB.none (by omega) | exact RB.mono (by assumption) (by omega) | exact UB.none (by omega) | exact UB.mono (by assumption) (by omega) | exact EQ.none (by omega) | exact EQ.mono (by assumption) (by omega)) (by first | omega | assumption | exact AB.none (by omega) | exact AB.mono (by assumption) (by omega) (by omega) (by omega) (by omega) | exact RB.none (by omega) | exact RB.mono (by assumption) (by omega) | exact UB.none (by omega) | exact UB.mono (by assumption) (by omega) | exact EQ.none (by omega) | exact EQ.mono (by assumption) (by omega))
          · skip
            have t31 := inle (a := p4.toInt) (b := x6_9.toInt) rfl rfl c29
            try have t32 : (24 * p1).toInt = 24 * p1.toInt := im rfl rfl (by omega) (by omega)
            try have t33 : ((24 * p1) + p3).toInt = (24 * p1).toInt + p3.toInt := ia rfl rfl (by omega) (by omega)
            try have t34 : (((24 * p1) + p3) + x6_9).toInt = ((24 * p1) + p3).toInt + x6_9.toInt := ia rfl rfl (by omega) (by omega)
            refine ⟨ivp (a := (((24 * p1) + p3) + x6_9).toInt) rfl (by omega) (by omega), ?_⟩
            intro z11 ez11
            have t35 : z11.toInt = (Int64.toInt32 (v_items (Int32.toNatClampNeg (((24 * p1) + p3) + x6_9)))).toInt := by rw [ez11] <;> rfl
            refine ⟨ivp (a := x6_9.toInt) rfl (by omega) (by omega), ?_⟩
            intro f12 ef12
            have t36 : ((Int32.toNatClampNeg x6_9 : Nat) : Int) = x6_9.toInt := itn rfl (by omega)
            have t37 : (f12 (Int32.toNatClampNeg x6_9)).toInt = z11.toInt := by rw [ef12, upd_eq] <;> rfl
            try have t38 : (f12 (Int32.toNatClampNeg 60)).toInt = (v_st_9 (Int32.toNatClampNeg 60)).toInt := by rw [ef12, upd_ne (by omega)]
            try have q39 : AB f12 42 gh_v_clocks 0 (v_windows.toInt - 1) := by rw [ef12]; first | exact AB.updo (by assumption) (by omega) | exact AB.updv (by assumption) rfl (by omega) (by omega) | exact AB.none (by omega) | exact AB.updo (AB.mono (by assumption) (by omega) (by omega) (by omega) (by omega)) (by omega)
            try have t40 : (x6_9 + 1).toInt = x6_9.toInt + 1 := ia rfl rfl (by omega) (by omega)
            intro z13 ez13
            have t41 : z13.toInt = (x6_9 + 1).toInt := by rw [ez13] <;> rfl
            refine ⟨_, ?_, rfl, by first | omega | assumption | exact AB.none (by omega) | exact AB.mono (by assumption) (by omega) (by omega) (by omega) (by omega) | exact RB.none (by omega) | exact RB.mono (by assumption) (by omega) | exact UB.none (by omega) | exact UB.mono (by assumption) (by omega) | exact EQ.none (by omega) | exact EQ.mono (by assumption) (by omega), by first | omega | assumption | exact AB.none (by omega) | exact AB.mono (by assumption) (by omega) (by omega) (by omega) (by omega) | exact RB.none (by omega) | exact RB.mono (by assumption) (by omega) | exact UB.none (by omega) | exact UB.mono (by assumption) (by omega) | exact EQ.none (by omega) | exact EQ.mono (by assumption) (by omega), by first | omega | assumption | exact AB.none (by omega) | exact AB.mono (by assumption) (by omega) (by omega) (by omega) (by omega) | exact RB.none (by omega) | exact RB.mono (by assumption) (by omega) | exact UB.none (by omega) | exact UB.mono (by assumption) (by omega) | exact EQ.none (by omega) | exact EQ.mono (by assumption) (by omega), by first | omega | assumption | exact AB.none (by omega) | exact AB.mono (by assumption) (by omega) (by omega) (by omega) (by omega) | exact RB.none (by omega) | exact RB.mono (by assumption) (by omega) | exact UB.none (by omega) | exact UB.mono (by assumption) (by omega) | exact EQ.none (by omega) | exact EQ.mono (by assumption) (by omega), by first | omega | assumption | exact AB.none (by omega) | exact AB.mono (by assumption) (by omega) (by omega) (by omega) (by omega) | exact RB.none (by omega) | exact RB.mono (by assumption) (by omega) | exact UB.none (by omega) | exact UB.mono (by assumption) (by omega) | exact EQ.none (by omega) | exact EQ.mono (by assumption) (by omega)⟩
            omega
        · skip
          have t42 := inle (a := 0) (b := x5_6.toInt) rfl rfl c21
          exact hk _ _ (by first | omega | assumption | exact AB.none (by omega) | exact AB.mono (by assumption) (by omega) (by omega) (by omega) (by omega) | exact RB.none (by omega) | exact RB.mono (by assumption) (by omega) | exact UB.none (by omega) | exact UB.mono (by assumption) (by omega) | exact EQ.none (by omega) | exact EQ.mono (by assumption) (by omega)) (by first | omega | assumption | exact AB.none (by omega) | exact AB.mono (by assumption) (by omega) (by omega) (by omega) (by omega) | exact RB.none (by omega) | exact RB.mono (by assumption) (by omega) | exact UB.none (by omega) | exact UB.mono (by assumption) (by omega) | exact EQ.none (by omega) | exact EQ.mono (by assumption) (by omega)) (by first | omega | assumption | exact AB.none (by omega) | exact AB.mono (by assumption) (by omega) (by omega) (by omega) (by omega) | exact RB.none (by omega) | exact RB.mono (by assumption) (by omega) | exact UB.none (by omega) | exact UB.mono (by assumption) (by omega) | exact EQ.none (by omega) | exact EQ.mono (by assumption) (by omega))
      · skip
        have t43 := inle (a := p4.toInt) (b := x6_6.toInt) rfl rfl c19
        refine ⟨fun c44 => ?_, fun c44 => ?_⟩
        · skip
          have t45 := ine (a := x5_6.toInt) (b := 0) rfl rfl c44
          show ((0 ≤ x5_6 → (∃ I9 : Nat → (Int32) → (Nat → Int32) → Prop, (∃ n9, I9 n9 0 v_st) ∧ ∀ (n9 : Nat) (x6_9 : Int32) (v_st_9 : Nat → Int32), I9 n9 x6_9 v_st_9 →
 ((p4 ≤ x6_9 → (post p4 v_st_9)) ∧
 (¬ p4 ≤ x6_9 → (vp_in (((24 * p1) + p3) + x6_9) 96 ∧ (∀ z11 : Int32, z11 = (Int64.toInt32 (v_items (Int32.toNatClampNeg (((24 * p1) + p3) + x6_9)))) → (vp_in x6_9 63 ∧ ∀ f12 : Nat → Int32, f12 = (upd v_st_9 (Int32.toNatClampNeg x6_9) z11) → (∀ z13 : Int32, z13 = x6_9 + 1 → (∃ m9, m9 < n9 ∧ I9 m9 z13 f12))))))))) ∧
 (¬ 0 ≤ x5_6 → (post x5_6 v_st)))
          refine ⟨fun c46 => ?_, fun c46 => ?_⟩
          · skip
            have t47 := ile (a := 0) (b := x5_6.toInt) rfl rfl c46
            have t48 : ((0 : Int32)).toInt = 0 := rfl
            refine ⟨fun n9 x6_9 v_st_9 => n9 = (p4.toInt - x6_9.toInt).toNat ∧ (AB v_st_9 42 gh_v_clocks 0 (v_windows.toInt - 1)) ∧ (0 ≤ (v_st_9 (Int32.toNatClampNeg 60)).toInt) ∧ (0 ≤ x6_9.toInt) ∧ (x6_9.toInt ≤ p4.toInt) ∧ ((v_st_9 (Int32.toNatClampNeg 60)).toInt = (v_st (Int32.toNatClampNeg 60)).toInt), ⟨_, rfl, by first | omega | assumption | exact AB.none (by omega) | exact AB.mono (by assumption) (by omega) (by omega) (by omega) (by omega) | exact RB.none (by omega) | exact RB.mono (by assumption) (by omega) | exact UB.none (by omega) | exact UB.mono (by assumption) (by omega) | exact EQ.none (by omega) | exact EQ.mono (by assumption) (by omega), by first | omega | assumption | exact AB.none (by omega) | exact AB.mono (by assumption) (by omega) (by omega) (by omega) (by omega) | exact RB.none (by omega) | exact RB.mono (by assumption) (by omega) | exact UB.none (by omega) | exact UB.mono (by assumption) (by omega) | exact EQ.none (by omega) | exact EQ.mono (by assumption) (by omega), by first | omega | assumption | exact AB.none (by omega) | exact AB.mono (by assumption) (by omega) (by omega) (by omega) (by omega) | exact RB.none (by omega) | exact RB.mono (by assumption) (by omega) | exact UB.none (by omega) | exact UB.mono (by assumption) (by omega) | exact EQ.none (by omega) | exact EQ.mono (by assumption) (by omega), by first | omega | assumption | exact AB.none (by omega) | exact AB.mono (by assumption) (by omega) (by omega) (by omega) (by omega) | exact RB.none (by omega) | exact RB.mono (by assumption) (by omega) | exact UB.none (by omega) | exact UB.mono (by assumption) (by omega) | exact EQ.none (by omega) | exact EQ.mono (by assumption) (by omega), by first | omega | assumption | exact AB.none (by omega) | exact AB.mono (by assumption) (by omega) (by omega) (by omega) (by omega) | exact RB.none (by omega) | exact RB.mono (by assumption) (by omega) | exact UB.none (by omega) | exact UB.mono (by assumption) (by omega) | exact EQ.none (by omega) | exact EQ.mono (by assumption) (by omega)⟩, ?_⟩
            rintro n9 x6_9 v_st_9 ⟨hn9, q49, q50, q51, q52, q53⟩
            refine ⟨fun c54 => ?_, fun c54 => ?_⟩
            · skip
              have t55 := ile (a := p4.toInt) (b := x6_9.toInt) rfl rfl c54
              exact hk _ _ (by first | omega | assumption | exact AB.none (by omega) | exact AB.mono (by assumption) (by omega) (by omega) (by omega) (by omega) | exact RB.none (by omega) | exact RB.mono (by assumption) (by omega) | exact UB.none (by omega) | exact UB.mono (by assumption) (by omega) | exact EQ.none (by omega) | exact EQ.mono (by assumption) (by omega)) (by first | omega | assumption | exact AB.none (by omega) | exact AB.mono (by assumption) (by omega) (by omega) (by omega) (by omega) | exact RB.none (by omega) | exact RB.mono (by assumption) (by omega) | exact UB.none (by omega) | exact UB.mono (by assumption) (by omega) | exact EQ.none (by omega) | exact EQ.mono (by assumption) (by omega)) (by first | omega | assumption | exact AB.none (by omega) | exact AB.mono (by assumption) (by omega) (by omega) (by omega) (by omega) | exact RB.none (by omega) | exact RB.mono (by assumption) (by omega) | exact UB.none (by omega) | exact UB.mono (by assumption) (by omega) | exact EQ.none (by omega) | exact EQ.mono (by assumption) (by omega))
            · skip
              have t56 := inle (a := p4.toInt) (b := x6_9.toInt) rfl rfl c54
              try have t57 : (24 * p1).toInt = 24 * p1.toInt := im rfl rfl (by omega) (by omega)
              try have t58 : ((24 * p1) + p3).toInt = (24 * p1).toInt + p3.toInt := ia rfl rfl (by omega) (by omega)
              try have t59 : (((24 * p1) + p3) + x6_9).toInt = ((24 * p1) + p3).toInt + x6_9.toInt := ia rfl rfl (by omega) (by omega)
              refine ⟨ivp (a := (((24 * p1) + p3) + x6_9).toInt) rfl (by omega) (by omega), ?_⟩
              intro z11 ez11
              have t60 : z11.toInt = (Int64.toInt32 (v_items (Int32.toNatClampNeg (((24 * p1) + p3) + x6_9)))).toInt := by rw [ez11] <;> rfl
              refine ⟨ivp (a := x6_9.toInt) rfl (by omega) (by omega), ?_⟩
              intro f12 ef12
              have t61 : ((Int32.toNatClampNeg x6_9 : Nat) : Int) = x6_9.toInt := itn rfl (by omega)
              have t62 : (f12 (Int32.toNatClampNeg x6_9)).toInt = z11.toInt := by rw [ef12, upd_eq] <;> rfl
              try have t63 : (f12 (Int32.toNatClampNeg 60)).toInt = (v_st_9 (Int32.toNatClampNeg 60)).toInt := by rw [ef12, upd_ne (by omega)]
              try have q64 : AB f12 42 gh_v_clocks 0 (v_windows.toInt - 1) := by rw [ef12]; first | exact AB.updo (by assumption) (by omega) | exact AB.updv (by assumption) rfl (by omega) (by omega) | exact AB.none (by omega) | exact AB.updo (AB.mono (by assumption) (by omega) (by omega) (by omega) (by omega)) (by omega)
              try have t65 : (x6_9 + 1).toInt = x6_9.toInt + 1 := ia rfl rfl (by omega) (by omega)
              intro z13 ez13
              have t66 : z13.toInt = (x6_9 + 1).toInt := by rw [ez13] <;> rfl
              refine ⟨_, ?_, rfl, by first | omega | assumption | exact AB.none (by omega) | exact AB.mono (by assumption) (by omega) (by omega) (by omega) (by omega) | exact RB.none (by omega) | exact RB.mono (by assumption) (by omega) | exact UB.none (by omega) | exact UB.mono (by assumption) (by omega) | exact EQ.none (by omega) | exact EQ.mono (by assumption) (by omega), by first | omega | assumption | exact AB.none (by omega) | exact AB.mono (by assumption) (by omega) (by omega) (by omega) (by omega) | exact RB.none (by omega) | exact RB.mono (by assumption) (by omega) | exact UB.none (by omega) | exact UB.mono (by assumption) (by omega) | exact EQ.none (by omega) | exact EQ.mono (by assumption) (by omega), by first | omega | assumption | exact AB.none (by omega) | exact AB.mono (by assumption) (by omega) (by omega) (by omega) (by omega) | exact RB.none (by omega) | exact RB.mono (by assumption) (by omega) | exact UB.none (by omega) | exact UB.mono (by assumption) (by omega) | exact EQ.none (by omega) | exact EQ.mono (by assumption) (by omega), by first | omega | assumption | exact AB.none (by omega) | exact AB.mono (by assumption) (by omega) (by omega) (by omega) (by omega) | exact RB.none (by omega) | exact RB.mono (by assumption) (by omega) | exact UB.none (by omega) | exact UB.mono (by assumption) (by omega) | exact EQ.none (by omega) | exact EQ.mono (by assumption) (by omega), by first | omega | assumption | exact AB.none (by omega) | exact AB.mono (by assumption) (by omega) (by omega) (by omega) (by omega) | exact RB.none (by omega) | exact RB.mono (by assumption) (by omega) | exact UB.none (by omega) | exact UB.mono (by assumption) (by omega) | exact EQ.none (by omega) | exact EQ.mono (by assumption) (by omega)⟩
              omega
          · skip
            have t67 := inle (a := 0) (b := x5_6.toInt) rfl rfl c46
            exact hk _ _ (by first | omega | assumption | exact AB.none (by omega) | exact AB.mono (by assumption) (by omega) (by omega) (by omega) (by omega) | exact RB.none (by omega) | exact RB.mono (by assumption) (by omega) | exact UB.none (by omega) | exact UB.mono (by assumption) (by omega) | exact EQ.none (by omega) | exact EQ.mono (by assumption) (by omega)) (by first | omega | assumption | exact AB.none (by omega) | exact AB.mono (by assumption) (by omega) (by omega) (by omega) (by omega) | exact RB.none (by omega) | exact RB.mono (by assumption) (by omega) | exact UB.none (by omega) | exact UB.mono (by assumption) (by omega) | exact EQ.none (by omega) | exact EQ.mono (by assumption) (by omega)) (by first | omega | assumption | exact AB.none (by omega) | exact AB.mono (by assumption) (by omega) (by omega) (by omega) (by omega) | exact RB.none (by omega) | exact RB.mono (by assumption) (by omega) | exact UB.none (by omega) | exact UB.mono (by assumption) (by omega) | exact EQ.none (by omega) | exact EQ.mono (by assumption) (by omega))
        · skip
          have t68 := ieq (a := x5_6.toInt) (b := 0) rfl rfl c44
          try have t69 : (24 * p1).toInt = 24 * p1.toInt := im rfl rfl (by omega) (by omega)
          try have t70 : ((24 * p1) + p3).toInt = (24 * p1).toInt + p3.toInt := ia rfl rfl (by omega) (by omega)
          try have t71 : (((24 * p1) + p3) + x6_6).toInt = ((24 * p1) + p3).toInt + x6_6.toInt := ia rfl rfl (by omega) (by omega)
          refine ⟨ivp (a := (((24 * p1) + p3) + x6_6).toInt) rfl (by omega) (by omega), ?_⟩
          have t72 : (0 : Int64).toInt = 0 := rfl
          have t73 : (12 : Int64).toInt = 12 := rfl
          refine s_X8_in  (fun r16 q74 => ?_)
          refine ⟨fun c75 => ?_, fun c75 => ?_⟩
          · skip
            have t76 := ieq (a := r16.toInt) (b := 0) rfl rfl c75
            rcases q74 with q74 | q74
            · exfalso; omega
            try have t77 : (x6_6 + 1).toInt = x6_6.toInt + 1 := ia rfl rfl (by omega) (by omega)
            intro z18 ez18
            have t78 : z18.toInt = (x6_6 + 1).toInt := by rw [ez18] <;> rfl
            refine ⟨_, ?_, rfl, by first | omega | assumption | exact AB.none (by omega) | exact AB.mono (by assumption) (by omega) (by omega) (by omega) (by omega) | exact RB.none (by omega) | exact RB.mono (by assumption) (by omega) | exact UB.none (by omega) | exact UB.mono (by assumption) (by omega) | exact EQ.none (by omega) | exact EQ.mono (by assumption) (by omega), by first | omega | assumption | exact AB.none (by omega) | exact AB.mono (by assumption) (by omega) (by omega) (by omega) (by omega) | exact RB.none (by omega) | exact RB.mono (by assumption) (by omega) | exact UB.none (by omega) | exact UB.mono (by assumption) (by omega) | exact EQ.none (by omega) | exact EQ.mono (by assumption) (by omega), by first | omega | assumption | exact AB.none (by omega) | exact AB.mono (by assumption) (by omega) (by omega) (by omega) (by omega) | exact RB.none (by omega) | exact RB.mono (by assumption) (by omega) | exact UB.none (by omega) | exact UB.mono (by assumption) (by omega) | exact EQ.none (by omega) | exact EQ.mono (by assumption) (by omega)⟩
            omega
          · skip
            have t79 := ine (a := r16.toInt) (b := 0) rfl rfl c75
            rcases q74.symm with q74 | q74
            · exfalso; omega
            try have t80 : (x6_6 + 1).toInt = x6_6.toInt + 1 := ia rfl rfl (by omega) (by omega)
            intro z19 ez19
            have t81 : z19.toInt = (x6_6 + 1).toInt := by rw [ez19] <;> rfl
            refine ⟨_, ?_, rfl, by first | omega | assumption | exact AB.none (by omega) | exact AB.mono (by assumption) (by omega) (by omega) (by omega) (by omega) | exact RB.none (by omega) | exact RB.mono (by assumption) (by omega) | exact UB.none (by omega) | exact UB.mono (by assumption) (by omega) | exact EQ.none (by omega) | exact EQ.mono (by assumption) (by omega), by first | omega | assumption | exact AB.none (by omega) | exact AB.mono (by assumption) (by omega) (by omega) (by omega) (by omega) | exact RB.none (by omega) | exact RB.mono (by assumption) (by omega) | exact UB.none (by omega) | exact UB.mono (by assumption) (by omega) | exact EQ.none (by omega) | exact EQ.mono (by assumption) (by omega), by first | omega | assumption | exact AB.none (by omega) | exact AB.mono (by assumption) (by omega) (by omega) (by omega) (by omega) | exact RB.none (by omega) | exact RB.mono (by assumption) (by omega) | exact UB.none (by omega) | exact UB.mono (by assumption) (by omega) | exact EQ.none (by omega) | exact EQ.mono (by assumption) (by omega)⟩
            omega
    · skip
      have t82 := ieq (a := r3.toInt) (b := 0) rfl rfl c10
      rcases q9 with q9 | q9
      · exfalso; omega
      have t83 : ((-1) : Int32).toInt = (-1) := rfl
      exact hk _ _ (by first | omega | assumption | exact AB.none (by omega) | exact AB.mono (by assumption) (by omega) (by omega) (by omega) (by omega) | exact RB.none (by omega) | exact RB.mono (by assumption) (by omega) | exact UB.none (by omega) | exact UB.mono (by assumption) (by omega) | exact EQ.none (by omega) | exact EQ.mono (by assumption) (by omega)) (by first | omega | assumption | exact AB.none (by omega) | exact AB.mono (by assumption) (by omega) (by omega) (by omega) (by omega) | exact RB.none (by omega) | exact RB.mono (by assumption) (by omega) | exact UB.none (by omega) | exact UB.mono (by assumption) (by omega) | exact EQ.none (by omega) | exact EQ.mono (by assumption) (by omega)) (by first | omega | assumption | exact AB.none (by omega) | exact AB.mono (by assumption) (by omega) (by omega) (by omega) (by omega) | exact RB.none (by omega) | exact RB.mono (by assumption) (by omega) | exact UB.none (by omega) | exact UB.mono (by assumption) (by omega) | exact EQ.none (by omega) | exact EQ.mono (by assumption) (by omega))
