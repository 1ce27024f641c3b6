set_option maxHeartbeats 1000000 in
set_option maxRecDepth 10000 in
theorem f_X7_street {now_race_windows : Int32} {now_race_dials : Nat → Int32} {now_race_clocks : Int32} {now_race_kind : Nat → Int32} {now_race_hands : Nat → Int32} {now_race_rate : Nat → Int32} {now_race_spring : Nat → Int32} {now_race_window : Nat → Int32} {now_race_finish : Nat → Int32} {now_race_skies : Int32} {now_race_sky : Nat → Int32} {now_race_hour : Int32} {now_race_heard : Int32} {now_race_strokes : Int32} {now_bets_size : Int32} {now_repairs_known : Int32} {trial_windows : Int32} {trial_dials : Nat → Int32} {trial_clocks : Int32} {trial_kind : Nat → Int32} {trial_hands : Nat → Int32} {trial_rate : Nat → Int32} {trial_spring : Nat → Int32} {trial_window : Nat → Int32} {trial_finish : Nat → Int32} {trial_skies : Int32} {trial_sky : Nat → Int32} {trial_hour : Int32} {trial_heard : Int32} {trial_strokes : Int32} {tape_letters : Nat → Int32} {tape_size : Int32} {tape_at : Int32} {tape_passed : Int32} {tape_fault : Int32} {post : Int32 → (Int32) → (Nat → Int32) → (Int32) → (Nat → Int32) → (Nat → Int32) → (Nat → Int32) → (Nat → Int32) → (Nat → Int32) → (Nat → Int32) → (Int32) → (Nat → Int32) → (Int32) → (Int32) → (Int32) → (Int32) → (Int32) → (Int32) → (Nat → Int32) → (Int32) → (Nat → Int32) → (Nat → Int32) → (Nat → Int32) → (Nat → Int32) → (Nat → Int32) → (Nat → Int32) → (Int32) → (Nat → Int32) → (Int32) → (Int32) → (Int32) → (Int32) → (Int32) → (Int32) → (Int32) → Prop} (hp0 : now_race_windows.toInt = 8) (hp1 : now_race_clocks.toInt = 0) (hp2 : now_race_skies.toInt = 1) (hp3 : 0 ≤ now_race_hour.toInt) (hp4 : now_race_hour.toInt ≤ 1000) (hp5 : AB now_race_dials 0 24 12 12) (hp6 : AB now_race_sky 0 12 0 0) (hp7 : now_race_heard.toInt = 0) (hp8 : now_race_strokes.toInt = 0) (hp9 : now_bets_size.toInt = 0) (hp10 : now_repairs_known.toInt = 0) (hp11 : trial_windows.toInt = 8) (hp12 : trial_clocks.toInt = 0) (hp13 : trial_skies.toInt = 1) (hp14 : 0 ≤ trial_hour.toInt) (hp15 : trial_hour.toInt ≤ 1000) (hp16 : AB trial_dials 0 24 12 12) (hp17 : AB trial_sky 0 12 0 0) (hp18 : trial_heard.toInt = 0) (hp19 : trial_strokes.toInt = 0) (hp20 : tape_size.toInt = 0) (hp21 : tape_at.toInt = 0) (hp22 : tape_passed.toInt = 0) (hp23 : now_race_hour.toInt = 0) (hk : ∀ (r : Int32) (now_race_windows' : Int32) (now_race_dials' : Nat → Int32) (now_race_clocks' : Int32) (now_race_kind' : Nat → Int32) (now_race_hands' : Nat → Int32) (now_race_rate' : Nat → Int32) (now_race_spring' : Nat → Int32) (now_race_window' : Nat → Int32) (now_race_finish' : Nat → Int32) (now_race_skies' : Int32) (now_race_sky' : Nat → Int32) (now_race_hour' : Int32) (now_race_heard' : Int32) (now_race_strokes' : Int32) (now_bets_size' : Int32) (now_repairs_known' : Int32) (trial_windows' : Int32) (trial_dials' : Nat → Int32) (trial_clocks' : Int32) (trial_kind' : Nat → Int32) (trial_hands' : Nat → Int32) (trial_rate' : Nat → Int32) (trial_spring' : Nat → Int32) (trial_window' : Nat → Int32) (trial_finish' : Nat → Int32) (trial_skies' : Int32) (trial_sky' : Nat → Int32) (trial_hour' : Int32) (trial_heard' : Int32) (trial_strokes' : Int32) (tape_size' : Int32) (tape_at' : Int32) (tape_passed' : Int32) (tape_fault' : Int32), (r.toInt = -20) → post r now_race_windows' now_race_dials' now_race_clocks' now_race_kind' now_race_hands' now_race_rate' now_race_spring' now_race_window' now_race_finish' now_race_skies' now_race_sky' now_race_hour' now_race_heard' now_race_strokes' now_bets_size' now_repairs_known' trial_windows' trial_dials' trial_clocks' trial_kind' trial_hands' trial_rate' trial_spring' trial_window' trial_finish' trial_skies' trial_sky' trial_hour' trial_heard' trial_strokes' tape_size' tape_at' tape_passed' tape_fault') : wp_X7_street now_race_windows now_race_dials now_race_clocks now_race_kind now_race_hands now_race_rate now_race_spring now_race_window now_race_finish now_race_skies now_race_sky now_race_hour now_race_heard now_race_strokes now_bets_size now_repairs_known trial_windows trial_dials trial_clocks trial_kind trial_hands trial_rate trial_spring trial_window trial_finish trial_skies trial_sky trial_hour trial_heard trial_strokes tape_letters tape_size tape_at tape_passed tape_fault post := by
  unfold wp_X7_street
  refine f_X2_become (by first | omega | assumption | exact AB.none (by omega) | exact AB.mono (by assumption) (by omega) (by omega) (by omega) (by omega)) (by first | omega | assumption | exact AB.none (by omega) | exact AB.mono (by assumption) (by omega) (by omega) (by omega) (by omega)) (by first | omega | assumption | exact AB.none (by omega) | exact AB.mono (by assumption) (by omega) (by omega) (by omega) (by omega)) (by first | omega | assumption | exact AB.none (by omega) | exact AB.mono (by assumption) (by omega) (by omega) (by omega) (by omega)) (by first | omega | assumption | exact AB.none (by omega) | exact AB.mono (by assumption) (by omega) (by omega) (by omega) (by omega)) (by first | omega | assumption | exact AB.none (by omega) | exact AB.mono (by assumption) (by omega) (by omega) (by omega) (by omega)) (by first | omega | assumption | exact AB.none (by omega) | exact AB.mono (by assumption) (by omega) (by omega) (by omega) (by omega)) (by first | omega | assumption | exact AB.none (by omega) | exact AB.mono (by assumption) (by omega) (by omega) (by omega) (by omega)) (by first | omega | assumption | exact AB.none (by omega) | exact AB.mono (by assumption) (by omega) (by omega) (by omega) (by omega)) (by first | omega | assumption | exact AB.none (by omega) | exact AB.mono (by assumption) (by omega) (by omega) (by omega) (by omega)) (by first | omega | assumption | exact AB.none (by omega) | exact AB.mono (by assumption) (by omega) (by omega) (by omega) (by omega)) (by first | omega | assumption | exact AB.none (by omega) | exact AB.mono (by assumption) (by omega) (by omega) (by omega) (by omega)) (by first | omega | assumption | exact AB.none (by omega) | exact AB.mono (by assumption) (by omega) (by omega) (by omega) (by omega)) (by first | omega | assumption | exact AB.none (by omega) | exact AB.mono (by assumption) (by omega) (by omega) (by omega) (by omega)) (by first | omega | assumption | exact AB.none (by omega) | exact AB.mono (by assumption) (by omega) (by omega) (by omega) (by omega)) (by first | omega | assumption | exact AB.none (by omega) | exact AB.mono (by assumption) (by omega) (by omega) (by omega) (by omega)) (by first | omega | assumption | exact AB.none (by omega) | exact AB.mono (by assumption) (by omega) (by omega) (by omega) (by omega)) (by first | omega | assumption | exact AB.none (by omega) | exact AB.mono (by assumption) (by omega) (by omega) (by omega) (by omega)) (fun trial_windows_2 trial_dials_3 trial_clocks_4 trial_kind_5 trial_hands_6 trial_rate_7 trial_spring_8 trial_window_9 trial_finish_10 trial_skies_11 trial_sky_12 trial_hour_13 trial_heard_14 trial_strokes_15 q1 q2 q3 q4 q5 q6 q7 q8 q9 => ?_)
  refine f_X2_hush (by first | omega | assumption | exact AB.none (by omega) | exact AB.mono (by assumption) (by omega) (by omega) (by omega) (by omega)) (by first | omega | assumption | exact AB.none (by omega) | exact AB.mono (by assumption) (by omega) (by omega) (by omega) (by omega)) (fun trial_heard_17 trial_strokes_18 q10 q11 => ?_)
  have t12 : (0 : Int32).toInt = 0 := rfl
  refine f_X5_readStreet (by first | omega | assumption | exact AB.none (by omega) | exact AB.mono (by assumption) (by omega) (by omega) (by omega) (by omega)) (by first | omega | assumption | exact AB.none (by omega) | exact AB.mono (by assumption) (by omega) (by omega) (by omega) (by omega)) (by first | omega | assumption | exact AB.none (by omega) | exact AB.mono (by assumption) (by omega) (by omega) (by omega) (by omega)) (by first | omega | assumption | exact AB.none (by omega) | exact AB.mono (by assumption) (by omega) (by omega) (by omega) (by omega)) (fun r19 tape_at_20 tape_passed_21 tape_fault_22 trial_clocks_23 trial_kind_24 trial_hands_25 trial_rate_26 trial_spring_27 trial_window_28 trial_finish_29 q13 => ?_)
  refine ⟨fun c14 => ?_, fun c14 => ?_⟩
  · skip
    have t15 := ile (a := 0) (b := r19.toInt) rfl rfl c14
    exfalso; omega
  · skip
    have t16 := inle (a := 0) (b := r19.toInt) rfl rfl c14
    first
      | exfalso; omega
      | skip
        exact hk _ _ _ _ _ _ _ _ _ _ _ _ _ _ _ _ _ _ _ _ _ _ _ _ _ _ _ _ _ _ _ _ _ _ _ (by first | omega | assumption | exact AB.none (by omega) | exact AB.mono (by assumption) (by omega) (by omega) (by omega) (by omega))
set_option maxHeartbeats 1000000 in
set_option maxRecDepth 10000 in
theorem f_X7_wind {p1 : Int32} {p2 : Int32} {now_race_clocks : Int32} {now_race_spring : Nat → Int32} {now_repairs_known : Int32} {now_repairs_act : Nat → Int32} {now_repairs_whom : Nat → Int32} {now_repairs_was : Nat → Int32} {post : Int32 → (Nat → Int32) → (Int32) → (Nat → Int32) → (Nat → Int32) → (Nat → Int32) → Prop} (hp0 : now_race_clocks.toInt = 0) (hp1 : now_repairs_known.toInt = 0) (hk : ∀ (r : Int32) (now_race_spring' : Nat → Int32) (now_repairs_known' : Int32) (now_repairs_act' : Nat → Int32) (now_repairs_whom' : Nat → Int32) (now_repairs_was' : Nat → Int32), (r.toInt = -1) → post r now_race_spring' now_repairs_known' now_repairs_act' now_repairs_whom' now_repairs_was') : wp_X7_wind p1 p2 now_race_clocks now_race_spring now_repairs_known now_repairs_act now_repairs_whom now_repairs_was post := by
  unfold wp_X7_wind
  refine f_X7_isClock (by first | omega | assumption | exact AB.none (by omega) | exact AB.mono (by assumption) (by omega) (by omega) (by omega) (by omega)) (fun r1 q1 => ?_)
  refine ⟨fun c2 => ?_, fun c2 => ?_⟩
  · skip
    have t3 := ieq (a := r1.toInt) (b := 0) rfl rfl c2
    first
      | exfalso; omega
      | skip
        have t4 : ((-1) : Int32).toInt = (-1) := rfl
        exact hk _ _ _ _ _ _ (by first | omega | assumption | exact AB.none (by omega) | exact AB.mono (by assumption) (by omega) (by omega) (by omega) (by omega))
  · skip
    have t5 := ine (a := r1.toInt) (b := 0) rfl rfl c2
    exfalso; omega
set_option maxHeartbeats 1000000 in
set_option maxRecDepth 10000 in
theorem f_X7_turn {p1 : Int32} {p2 : Int32} {now_race_clocks : Int32} {now_race_hands : Nat → Int32} {now_repairs_known : Int32} {now_repairs_act : Nat → Int32} {now_repairs_whom : Nat → Int32} {now_repairs_was : Nat → Int32} {post : Int32 → (Nat → Int32) → (Int32) → (Nat → Int32) → (Nat → Int32) → (Nat → Int32) → Prop} (hp0 : now_race_clocks.toInt = 0) (hp1 : now_repairs_known.toInt = 0) (hk : ∀ (r : Int32) (now_race_hands' : Nat → Int32) (now_repairs_known' : Int32) (now_repairs_act' : Nat → Int32) (now_repairs_whom' : Nat → Int32) (now_repairs_was' : Nat → Int32), (r.toInt = -1) → post r now_race_hands' now_repairs_known' now_repairs_act' now_repairs_whom' now_repairs_was') : wp_X7_turn p1 p2 now_race_clocks now_race_hands now_repairs_known now_repairs_act now_repairs_whom now_repairs_was post := by
  unfold wp_X7_turn
  refine f_X7_isClock (by first | omega | assumption | exact AB.none (by omega) | exact AB.mono (by assumption) (by omega) (by omega) (by omega) (by omega)) (fun r1 q1 => ?_)
  refine ⟨fun c2 => ?_, fun c2 => ?_⟩
  · skip
    have t3 := ieq (a := r1.toInt) (b := 0) rfl rfl c2
    first
      | exfalso; omega
      | skip
        have t4 : ((-1) : Int32).toInt = (-1) := rfl
        exact hk _ _ _ _ _ _ (by first | omega | assumption | exact AB.none (by omega) | exact AB.mono (by assumption) (by omega) (by omega) (by omega) (by omega))
  · skip
    have t5 := ine (a := r1.toInt) (b := 0) rfl rfl c2
    exfalso; omega
set_option maxHeartbeats 1000000 in
set_option maxRecDepth 10000 in
theorem f_X7_breathe {p1 : Int32} {now_race_windows : Int32} {now_race_dials : Nat → Int32} {now_repairs_known : Int32} {now_repairs_act : Nat → Int32} {now_repairs_whom : Nat → Int32} {now_repairs_was : Nat → Int32} {post : Int32 → (Nat → Int32) → (Int32) → (Nat → Int32) → (Nat → Int32) → (Nat → Int32) → Prop} (hp0 : now_race_windows.toInt = 8) (hp1 : AB now_race_dials 0 24 12 12) (hp2 : now_repairs_known.toInt = 0) (hk : ∀ (r : Int32) (now_race_dials' : Nat → Int32) (now_repairs_known' : Int32) (now_repairs_act' : Nat → Int32) (now_repairs_whom' : Nat → Int32) (now_repairs_was' : Nat → Int32), (((0 ≤ p1.toInt ∧ p1.toInt ≤ 7) ∧ r.toInt = -2) ∨ (¬ (0 ≤ p1.toInt ∧ p1.toInt ≤ 7) ∧ r.toInt = -1)) → post r now_race_dials' now_repairs_known' now_repairs_act' now_repairs_whom' now_repairs_was') : wp_X7_breathe p1 now_race_windows now_race_dials now_repairs_known now_repairs_act now_repairs_whom now_repairs_was post := by
  unfold wp_X7_breathe
  refine f_X7_isWindow (by first | omega | assumption | exact AB.none (by omega) | exact AB.mono (by assumption) (by omega) (by omega) (by omega) (by omega)) (fun r1 q1 => ?_)
  refine ⟨fun c2 => ?_, fun c2 => ?_⟩
  · skip
    have t3 := ine (a := r1.toInt) (b := 0) rfl rfl c2
    first
      | exfalso; omega
      | skip
        refine ⟨ivp (a := p1.toInt) rfl (by omega) (by omega), ?_⟩
        try have q4 := AB.get (f := now_race_dials) (i := p1) (a := p1.toInt) (by assumption) rfl (by omega) (by omega) (by omega)
        intro z3 ez3
        have t5 : z3.toInt = (now_race_dials (Int32.toNatClampNeg p1)).toInt := by rw [ez3] <;> rfl
        refine ⟨fun c6 => ?_, fun c6 => ?_⟩
        · skip
          have t7 := ine (a := z3.toInt) (b := 12) rfl rfl c6
          first
            | exfalso; omega
            | skip
              have t8 : (3 : Int32).toInt = 3 := rfl
              fail
        · skip
          have t9 := ieq (a := z3.toInt) (b := 12) rfl rfl c6
          first
            | exfalso; omega
            | skip
              have t10 : ((-2) : Int32).toInt = (-2) := rfl
              exact hk _ _ _ _ _ _ (by first | omega | assumption | exact AB.none (by omega) | exact AB.mono (by assumption) (by omega) (by omega) (by omega) (by omega))
  · skip
    have t11 := ieq (a := r1.toInt) (b := 0) rfl rfl c2
    first
      | exfalso; omega
      | skip
        have t12 : ((-1) : Int32).toInt = (-1) := rfl
        exact hk _ _ _ _ _ _ (by first | omega | assumption | exact AB.none (by omega) | exact AB.mono (by assumption) (by omega) (by omega) (by omega) (by omega))
set_option maxHeartbeats 1000000 in
set_option maxRecDepth 10000 in
theorem f_X7_hour {now_race_windows : Int32} {now_race_dials : Nat → Int32} {now_race_clocks : Int32} {now_race_kind : Nat → Int32} {now_race_hands : Nat → Int32} {now_race_rate : Nat → Int32} {now_race_spring : Nat → Int32} {now_race_window : Nat → Int32} {now_race_finish : Nat → Int32} {now_race_skies : Int32} {now_race_sky : Nat → Int32} {now_race_hour : Int32} {now_race_heard : Int32} {now_race_strokes : Int32} {post : Int32 → (Nat → Int32) → (Nat → Int32) → (Nat → Int32) → (Nat → Int32) → (Nat → Int32) → (Int32) → (Int32) → (Int32) → Prop} (hp0 : now_race_windows.toInt = 8) (hp1 : now_race_clocks.toInt = 0) (hp2 : now_race_skies.toInt = 1) (hp3 : 0 ≤ now_race_hour.toInt) (hp4 : now_race_hour.toInt ≤ 1000) (hp5 : AB now_race_dials 0 24 12 12) (hp6 : AB now_race_sky 0 12 0 0) (hp7 : now_race_heard.toInt = 0) (hp8 : now_race_strokes.toInt = 0) (hp9 : now_race_hour.toInt = 0) (hk : ∀ (r : Int32) (now_race_dials' : Nat → Int32) (now_race_hands' : Nat → Int32) (now_race_spring' : Nat → Int32) (now_race_window' : Nat → Int32) (now_race_finish' : Nat → Int32) (now_race_hour' : Int32) (now_race_heard' : Int32) (now_race_strokes' : Int32), (r.toInt = 0) → post r now_race_dials' now_race_hands' now_race_spring' now_race_window' now_race_finish' now_race_hour' now_race_heard' now_race_strokes') : wp_X7_hour now_race_windows now_race_dials now_race_clocks now_race_kind now_race_hands now_race_rate now_race_spring now_race_window now_race_finish now_race_skies now_race_sky now_race_hour now_race_heard now_race_strokes post := by
  unfold wp_X7_hour
  refine ⟨fun c1 => ?_, fun c1 => ?_⟩
  · skip
    have t2 := ilt (a := now_race_hour.toInt) (b := 9999) rfl rfl c1
    first
      | exfalso; omega
      | skip
        have t3 : ((-1) : Int32).toInt = (-1) := rfl
        refine f_X2_pass (by first | omega | assumption | exact AB.none (by omega) | exact AB.mono (by assumption) (by omega) (by omega) (by omega) (by omega)) (by first | omega | assumption | exact AB.none (by omega) | exact AB.mono (by assumption) (by omega) (by omega) (by omega) (by omega)) (by first | omega | assumption | exact AB.none (by omega) | exact AB.mono (by assumption) (by omega) (by omega) (by omega) (by omega)) (by first | omega | assumption | exact AB.none (by omega) | exact AB.mono (by assumption) (by omega) (by omega) (by omega) (by omega)) (by first | omega | assumption | exact AB.none (by omega) | exact AB.mono (by assumption) (by omega) (by omega) (by omega) (by omega)) (by first | omega | assumption | exact AB.none (by omega) | exact AB.mono (by assumption) (by omega) (by omega) (by omega) (by omega)) (by first | omega | assumption | exact AB.none (by omega) | exact AB.mono (by assumption) (by omega) (by omega) (by omega) (by omega)) (by first | omega | assumption | exact AB.none (by omega) | exact AB.mono (by assumption) (by omega) (by omega) (by omega) (by omega)) (by first | omega | assumption | exact AB.none (by omega) | exact AB.mono (by assumption) (by omega) (by omega) (by omega) (by omega)) (by first | omega | assumption | exact AB.none (by omega) | exact AB.mono (by assumption) (by omega) (by omega) (by omega) (by omega)) (fun r2 now_race_dials_3 now_race_hands_4 now_race_spring_5 now_race_window_6 now_race_finish_7 now_race_hour_8 now_race_heard_9 now_race_strokes_10 q4 q5 q6 q7 q8 q9 q10 => ?_)
        exact hk _ _ _ _ _ _ _ _ _ (by first | omega | assumption | exact AB.none (by omega) | exact AB.mono (by assumption) (by omega) (by omega) (by omega) (by omega))
  · skip
    have t11 := inlt (a := now_race_hour.toInt) (b := 9999) rfl rfl c1
    exfalso; omega
set_option maxHeartbeats 1000000 in
set_option maxRecDepth 10000 in
theorem f_X7_day {now_race_windows : Int32} {now_race_dials : Nat → Int32} {now_race_clocks : Int32} {now_race_kind : Nat → Int32} {now_race_hands : Nat → Int32} {now_race_rate : Nat → Int32} {now_race_spring : Nat → Int32} {now_race_window : Nat → Int32} {now_race_finish : Nat → Int32} {now_race_skies : Int32} {now_race_sky : Nat → Int32} {now_race_hour : Int32} {now_race_heard : Int32} {now_race_strokes : Int32} {now_repairs_known : Int32} {now_repairs_act : Nat → Int32} {now_repairs_whom : Nat → Int32} {now_repairs_was : Nat → Int32} {tape_letters : Nat → Int32} {tape_size : Int32} {tape_at : Int32} {tape_passed : Int32} {tape_fault : Int32} {plan_size : Int32} {plan_act : Nat → Int32} {plan_whom : Nat → Int32} {plan_amount : Nat → Int32} {post : Int32 → (Nat → Int32) → (Nat → Int32) → (Nat → Int32) → (Nat → Int32) → (Nat → Int32) → (Int32) → (Int32) → (Int32) → (Int32) → (Nat → Int32) → (Nat → Int32) → (Nat → Int32) → (Int32) → (Int32) → (Int32) → (Int32) → (Int32) → (Nat → Int32) → (Nat → Int32) → (Nat → Int32) → Prop} (hp0 : now_race_windows.toInt = 8) (hp1 : now_race_clocks.toInt = 0) (hp2 : now_race_skies.toInt = 1) (hp3 : 0 ≤ now_race_hour.toInt) (hp4 : now_race_hour.toInt ≤ 1000) (hp5 : AB now_race_dials 0 24 12 12) (hp6 : AB now_race_sky 0 12 0 0) (hp7 : now_race_heard.toInt = 0) (hp8 : now_race_strokes.toInt = 0) (hp9 : now_repairs_known.toInt = 0) (hp10 : tape_size.toInt = 0) (hp11 : tape_at.toInt = 0) (hp12 : tape_passed.toInt = 0) (hp13 : now_race_hour.toInt = 0) (hk : ∀ (r : Int32) (now_race_dials' : Nat → Int32) (now_race_hands' : Nat → Int32) (now_race_spring' : Nat → Int32) (now_race_window' : Nat → Int32) (now_race_finish' : Nat → Int32) (now_race_hour' : Int32) (now_race_heard' : Int32) (now_race_strokes' : Int32) (now_repairs_known' : Int32) (now_repairs_act' : Nat → Int32) (now_repairs_whom' : Nat → Int32) (now_repairs_was' : Nat → Int32) (tape_size' : Int32) (tape_at' : Int32) (tape_passed' : Int32) (tape_fault' : Int32) (plan_size' : Int32) (plan_act' : Nat → Int32) (plan_whom' : Nat → Int32) (plan_amount' : Nat → Int32), (r.toInt = -20) → post r now_race_dials' now_race_hands' now_race_spring' now_race_window' now_race_finish' now_race_hour' now_race_heard' now_race_strokes' now_repairs_known' now_repairs_act' now_repairs_whom' now_repairs_was' tape_size' tape_at' tape_passed' tape_fault' plan_size' plan_act' plan_whom' plan_amount') : wp_X7_day now_race_windows now_race_dials now_race_clocks now_race_kind now_race_hands now_race_rate now_race_spring now_race_window now_race_finish now_race_skies now_race_sky now_race_hour now_race_heard now_race_strokes now_repairs_known now_repairs_act now_repairs_whom now_repairs_was tape_letters tape_size tape_at tape_passed tape_fault plan_size plan_act plan_whom plan_amount post := by
  unfold wp_X7_day
  refine f_X5_readDay (by first | omega | assumption | exact AB.none (by omega) | exact AB.mono (by assumption) (by omega) (by omega) (by omega) (by omega)) (by first | omega | assumption | exact AB.none (by omega) | exact AB.mono (by assumption) (by omega) (by omega) (by omega) (by omega)) (by first | omega | assumption | exact AB.none (by omega) | exact AB.mono (by assumption) (by omega) (by omega) (by omega) (by omega)) (fun r1 tape_at_2 tape_passed_3 tape_fault_4 plan_size_5 plan_act_6 plan_whom_7 plan_amount_8 q1 => ?_)
  refine ⟨fun c2 => ?_, fun c2 => ?_⟩
  · skip
    have t3 := ile (a := 0) (b := r1.toInt) rfl rfl c2
    exfalso; omega
  · skip
    have t4 := inle (a := 0) (b := r1.toInt) rfl rfl c2
    first
      | exfalso; omega
      | skip
        have t5 : (0 : Int32).toInt = 0 := rfl
        exact hk _ _ _ _ _ _ _ _ _ _ _ _ _ _ _ _ _ _ _ _ _ (by first | omega | assumption | exact AB.none (by omega) | exact AB.mono (by assumption) (by omega) (by omega) (by omega) (by omega))
set_option maxHeartbeats 1000000 in
set_option maxRecDepth 10000 in
theorem f_X7_count {p1 : Int32} {now_race_windows : Int32} {now_race_clocks : Int32} {now_race_window : Nat → Int32} {now_race_finish : Nat → Int32} {now_race_hour : Int32} {now_race_strokes : Int32} {now_bets_size : Int32} {now_repairs_known : Int32} {post : Int32 → Prop} (hp0 : now_race_windows.toInt = 8) (hp1 : now_race_clocks.toInt = 0) (hp2 : 0 ≤ now_race_hour.toInt) (hp3 : now_race_hour.toInt ≤ 1000) (hp4 : now_race_strokes.toInt = 0) (hp5 : now_bets_size.toInt = 0) (hp6 : now_repairs_known.toInt = 0) (hp7 : now_race_hour.toInt = 0) (hk : ∀ (r : Int32), ((p1.toInt = 0 ∧ r.toInt = 8) ∨ (1 ≤ p1.toInt ∧ p1.toInt ≤ 7 ∧ r.toInt = 0) ∨ ((p1.toInt < 0 ∨ 7 < p1.toInt) ∧ r.toInt = -1)) → post r) : wp_X7_count p1 now_race_windows now_race_clocks now_race_window now_race_finish now_race_hour now_race_strokes now_bets_size now_repairs_known post := by
  unfold wp_X7_count
  refine ⟨fun c1 => ?_, fun c1 => ?_⟩
  · skip
    have t2 := ieq (a := p1.toInt) (b := 0) rfl rfl c1
    first
      | exfalso; omega
      | skip
        exact hk _ (by first | omega | assumption | exact AB.none (by omega) | exact AB.mono (by assumption) (by omega) (by omega) (by omega) (by omega))
  · skip
    have t3 := ine (a := p1.toInt) (b := 0) rfl rfl c1
    first
      | exfalso; omega
      | skip
        refine ⟨fun c4 => ?_, fun c4 => ?_⟩
        · skip
          have t5 := ieq (a := p1.toInt) (b := 1) rfl rfl c4
          first
            | exfalso; omega
            | skip
              exact hk _ (by first | omega | assumption | exact AB.none (by omega) | exact AB.mono (by assumption) (by omega) (by omega) (by omega) (by omega))
        · skip
          have t6 := ine (a := p1.toInt) (b := 1) rfl rfl c4
          first
            | exfalso; omega
            | skip
              refine ⟨fun c7 => ?_, fun c7 => ?_⟩
              · skip
                have t8 := ieq (a := p1.toInt) (b := 2) rfl rfl c7
                first
                  | exfalso; omega
                  | skip
                    exact hk _ (by first | omega | assumption | exact AB.none (by omega) | exact AB.mono (by assumption) (by omega) (by omega) (by omega) (by omega))
              · skip
                have t9 := ine (a := p1.toInt) (b := 2) rfl rfl c7
                first
                  | exfalso; omega
                  | skip
                    refine ⟨fun c10 => ?_, fun c10 => ?_⟩
                    · skip
                      have t11 := ieq (a := p1.toInt) (b := 3) rfl rfl c10
                      first
                        | exfalso; omega
                        | skip
                          refine f_X2_homeCount (by first | omega | assumption | exact AB.none (by omega) | exact AB.mono (by assumption) (by omega) (by omega) (by omega) (by omega)) (by first | omega | assumption | exact AB.none (by omega) | exact AB.mono (by assumption) (by omega) (by omega) (by omega) (by omega)) (fun r5 q12 => ?_)
                          exact hk _ (by first | omega | assumption | exact AB.none (by omega) | exact AB.mono (by assumption) (by omega) (by omega) (by omega) (by omega))
                    · skip
                      have t13 := ine (a := p1.toInt) (b := 3) rfl rfl c10
                      first
                        | exfalso; omega
                        | skip
                          refine ⟨fun c14 => ?_, fun c14 => ?_⟩
                          · skip
                            have t15 := ieq (a := p1.toInt) (b := 4) rfl rfl c14
                            first
                              | exfalso; omega
                              | skip
                                exact hk _ (by first | omega | assumption | exact AB.none (by omega) | exact AB.mono (by assumption) (by omega) (by omega) (by omega) (by omega))
                          · skip
                            have t16 := ine (a := p1.toInt) (b := 4) rfl rfl c14
                            first
                              | exfalso; omega
                              | skip
                                refine ⟨fun c17 => ?_, fun c17 => ?_⟩
                                · skip
                                  have t18 := ieq (a := p1.toInt) (b := 5) rfl rfl c17
                                  first
                                    | exfalso; omega
                                    | skip
                                      exact hk _ (by first | omega | assumption | exact AB.none (by omega) | exact AB.mono (by assumption) (by omega) (by omega) (by omega) (by omega))
                                · skip
                                  have t19 := ine (a := p1.toInt) (b := 5) rfl rfl c17
                                  first
                                    | exfalso; omega
                                    | skip
                                      refine ⟨fun c20 => ?_, fun c20 => ?_⟩
                                      · skip
                                        have t21 := ieq (a := p1.toInt) (b := 6) rfl rfl c20
                                        first
                                          | exfalso; omega
                                          | skip
                                            exact hk _ (by first | omega | assumption | exact AB.none (by omega) | exact AB.mono (by assumption) (by omega) (by omega) (by omega) (by omega))
                                      · skip
                                        have t22 := ine (a := p1.toInt) (b := 6) rfl rfl c20
                                        first
                                          | exfalso; omega
                                          | skip
                                            refine ⟨fun c23 => ?_, fun c23 => ?_⟩
                                            · skip
                                              have t24 := ieq (a := p1.toInt) (b := 7) rfl rfl c23
                                              first
                                                | exfalso; omega
                                                | skip
                                                  refine f_X2_tiedPairs (by first | omega | assumption | exact AB.none (by omega) | exact AB.mono (by assumption) (by omega) (by omega) (by omega) (by omega)) (by first | omega | assumption | exact AB.none (by omega) | exact AB.mono (by assumption) (by omega) (by omega) (by omega) (by omega)) (fun r10 q25 => ?_)
                                                  exact hk _ (by first | omega | assumption | exact AB.none (by omega) | exact AB.mono (by assumption) (by omega) (by omega) (by omega) (by omega))
                                            · skip
                                              have t26 := ine (a := p1.toInt) (b := 7) rfl rfl c23
                                              first
                                                | exfalso; omega
                                                | skip
                                                  have t27 : ((-1) : Int32).toInt = (-1) := rfl
                                                  exact hk _ (by first | omega | assumption | exact AB.none (by omega) | exact AB.mono (by assumption) (by omega) (by omega) (by omega) (by omega))
set_option maxHeartbeats 1000000 in
set_option maxRecDepth 10000 in
theorem f_X7_heard {now_race_heard : Int32} {post : Int32 → Prop} (hp0 : now_race_heard.toInt = 0) (hk : ∀ (r : Int32), (r.toInt = 0) → post r) : wp_X7_heard now_race_heard post := by
  unfold wp_X7_heard
  exact hk _ (by first | omega | assumption | exact AB.none (by omega) | exact AB.mono (by assumption) (by omega) (by omega) (by omega) (by omega))
set_option maxHeartbeats 1000000 in
set_option maxRecDepth 10000 in
theorem f_X7_place {p1 : Int32} {now_race_windows : Int32} {now_race_clocks : Int32} {now_race_window : Nat → Int32} {now_race_finish : Nat → Int32} {post : Int32 → Prop} (hp0 : now_race_windows.toInt = 8) (hp1 : now_race_clocks.toInt = 0) (hk : ∀ (r : Int32), (r.toInt = -1) → post r) : wp_X7_place p1 now_race_windows now_race_clocks now_race_window now_race_finish post := by
  unfold wp_X7_place
  refine f_X7_isClock (by first | omega | assumption | exact AB.none (by omega) | exact AB.mono (by assumption) (by omega) (by omega) (by omega) (by omega)) (fun r1 q1 => ?_)
  refine ⟨fun c2 => ?_, fun c2 => ?_⟩
  · skip
    have t3 := ieq (a := r1.toInt) (b := 0) rfl rfl c2
    first
      | exfalso; omega
      | skip
        have t4 : ((-1) : Int32).toInt = (-1) := rfl
        exact hk _ (by first | omega | assumption | exact AB.none (by omega) | exact AB.mono (by assumption) (by omega) (by omega) (by omega) (by omega))
  · skip
    have t5 := ine (a := r1.toInt) (b := 0) rfl rfl c2
    exfalso; omega
set_option maxHeartbeats 1000000 in
set_option maxRecDepth 10000 in
theorem f_X7_tune {p1 : Int32} {p2 : Int32} {now_race_clocks : Int32} {now_race_rate : Nat → Int32} {now_repairs_known : Int32} {now_repairs_act : Nat → Int32} {now_repairs_whom : Nat → Int32} {now_repairs_was : Nat → Int32} {post : Int32 → (Nat → Int32) → (Int32) → (Nat → Int32) → (Nat → Int32) → (Nat → Int32) → Prop} (hp0 : now_race_clocks.toInt = 0) (hp1 : now_repairs_known.toInt = 0) (hk : ∀ (r : Int32) (now_race_rate' : Nat → Int32) (now_repairs_known' : Int32) (now_repairs_act' : Nat → Int32) (now_repairs_whom' : Nat → Int32) (now_repairs_was' : Nat → Int32), (r.toInt = -1001) → post r now_race_rate' now_repairs_known' now_repairs_act' now_repairs_whom' now_repairs_was') : wp_X7_tune p1 p2 now_race_clocks now_race_rate now_repairs_known now_repairs_act now_repairs_whom now_repairs_was post := by
  unfold wp_X7_tune
  refine f_X7_isClock (by first | omega | assumption | exact AB.none (by omega) | exact AB.mono (by assumption) (by omega) (by omega) (by omega) (by omega)) (fun r1 q1 => ?_)
  refine ⟨fun c2 => ?_, fun c2 => ?_⟩
  · skip
    have t3 := ieq (a := r1.toInt) (b := 0) rfl rfl c2
    first
      | exfalso; omega
      | skip
        have t4 : ((-1001) : Int32).toInt = (-1001) := rfl
        exact hk _ _ _ _ _ _ (by first | omega | assumption | exact AB.none (by omega) | exact AB.mono (by assumption) (by omega) (by omega) (by omega) (by omega))
  · skip
    have t5 := ine (a := r1.toInt) (b := 0) rfl rfl c2
    exfalso; omega
set_option maxHeartbeats 1000000 in
set_option maxRecDepth 10000 in
theorem f_X7_undo {now_race_dials : Nat → Int32} {now_race_hands : Nat → Int32} {now_race_rate : Nat → Int32} {now_race_spring : Nat → Int32} {now_repairs_known : Int32} {now_repairs_act : Nat → Int32} {now_repairs_whom : Nat → Int32} {now_repairs_was : Nat → Int32} {post : Int32 → (Nat → Int32) → (Nat → Int32) → (Nat → Int32) → (Nat → Int32) → (Int32) → Prop} (hp0 : AB now_race_dials 0 24 12 12) (hp1 : now_repairs_known.toInt = 0) (hk : ∀ (r : Int32) (now_race_dials' : Nat → Int32) (now_race_hands' : Nat → Int32) (now_race_rate' : Nat → Int32) (now_race_spring' : Nat → Int32) (now_repairs_known' : Int32), (r.toInt = -4) → post r now_race_dials' now_race_hands' now_race_rate' now_race_spring' now_repairs_known') : wp_X7_undo now_race_dials now_race_hands now_race_rate now_race_spring now_repairs_known now_repairs_act now_repairs_whom now_repairs_was post := by
  unfold wp_X7_undo
  refine ⟨fun c1 => ?_, fun c1 => ?_⟩
  · skip
    have t2 := ine (a := now_repairs_known.toInt) (b := 0) rfl rfl c1
    exfalso; omega
  · skip
    have t3 := ieq (a := now_repairs_known.toInt) (b := 0) rfl rfl c1
    first
      | exfalso; omega
      | skip
        have t4 : ((-4) : Int32).toInt = (-4) := rfl
        exact hk _ _ _ _ _ _ (by first | omega | assumption | exact AB.none (by omega) | exact AB.mono (by assumption) (by omega) (by omega) (by omega) (by omega))
set_option maxHeartbeats 1000000 in
set_option maxRecDepth 10000 in
theorem f_X7_restart {now_race_windows : Int32} {now_race_clocks : Int32} {now_race_window : Nat → Int32} {now_race_finish : Nat → Int32} {now_race_hour : Int32} {now_race_heard : Int32} {now_race_strokes : Int32} {now_repairs_known : Int32} {post : Int32 → (Nat → Int32) → (Nat → Int32) → (Int32) → (Int32) → (Int32) → (Int32) → Prop} (hp0 : now_race_windows.toInt = 8) (hp1 : now_race_clocks.toInt = 0) (hp2 : 0 ≤ now_race_hour.toInt) (hp3 : now_race_hour.toInt ≤ 1000) (hp4 : now_race_heard.toInt = 0) (hp5 : now_race_strokes.toInt = 0) (hp6 : now_repairs_known.toInt = 0) (hp7 : now_race_hour.toInt = 0) (hk : ∀ (r : Int32) (now_race_window' : Nat → Int32) (now_race_finish' : Nat → Int32) (now_race_hour' : Int32) (now_race_heard' : Int32) (now_race_strokes' : Int32) (now_repairs_known' : Int32), (r.toInt = 0) → post r now_race_window' now_race_finish' now_race_hour' now_race_heard' now_race_strokes' now_repairs_known') : wp_X7_restart now_race_windows now_race_clocks now_race_window now_race_finish now_race_hour now_race_heard now_race_strokes now_repairs_known post := by
  unfold wp_X7_restart
  refine f_X2_homeCount (by first | omega | assumption | exact AB.none (by omega) | exact AB.mono (by assumption) (by omega) (by omega) (by omega) (by omega)) (by first | omega | assumption | exact AB.none (by omega) | exact AB.mono (by assumption) (by omega) (by omega) (by omega) (by omega)) (fun r1 q1 => ?_)
  refine f_X2_toStart (by first | omega | assumption | exact AB.none (by omega) | exact AB.mono (by assumption) (by omega) (by omega) (by omega) (by omega)) (fun now_race_window_3 now_race_finish_4 => ?_)
  refine f_X2_hush (by first | omega | assumption | exact AB.none (by omega) | exact AB.mono (by assumption) (by omega) (by omega) (by omega) (by omega)) (by first | omega | assumption | exact AB.none (by omega) | exact AB.mono (by assumption) (by omega) (by omega) (by omega) (by omega)) (fun now_race_heard_6 now_race_strokes_7 q2 q3 => ?_)
  have t4 : (0 : Int32).toInt = 0 := rfl
  exact hk _ _ _ _ _ _ _ (by first | omega | assumption | exact AB.none (by omega) | exact AB.mono (by assumption) (by omega) (by omega) (by omega) (by omega))
set_option maxHeartbeats 1000000 in
set_option maxRecDepth 10000 in
theorem f_X7_isSpan {p1 : Int32} {post : Int32 → Prop} (hk : ∀ (r : Int32), (((0 ≤ p1.toInt ∧ p1.toInt ≤ 200) ∧ r.toInt = 1) ∨ (¬ (0 ≤ p1.toInt ∧ p1.toInt ≤ 200) ∧ r.toInt = 0)) → post r) : wp_X7_isSpan p1 post := by
  unfold wp_X7_isSpan
  have t1 : (0 : Int32).toInt = 0 := rfl
  have t2 : (200 : Int32).toInt = 200 := rfl
  refine f_X7_isIn  (fun r1 q3 => ?_)
  refine ⟨i01 (a := r1.toInt) rfl (by omega), ?_⟩
  exact hk _ (by first | omega | assumption | exact AB.none (by omega) | exact AB.mono (by assumption) (by omega) (by omega) (by omega) (by omega))
set_option maxHeartbeats 1000000 in
set_option maxRecDepth 10000 in
theorem f_X7_foresee {p1 : Int32} {p2 : Int32} {now_race_windows : Int32} {now_race_dials : Nat → Int32} {now_race_clocks : Int32} {now_race_kind : Nat → Int32} {now_race_hands : Nat → Int32} {now_race_rate : Nat → Int32} {now_race_spring : Nat → Int32} {now_race_window : Nat → Int32} {now_race_finish : Nat → Int32} {now_race_skies : Int32} {now_race_sky : Nat → Int32} {now_race_hour : Int32} {now_race_heard : Int32} {now_race_strokes : Int32} {trial_windows : Int32} {trial_dials : Nat → Int32} {trial_clocks : Int32} {trial_kind : Nat → Int32} {trial_hands : Nat → Int32} {trial_rate : Nat → Int32} {trial_spring : Nat → Int32} {trial_window : Nat → Int32} {trial_finish : Nat → Int32} {trial_skies : Int32} {trial_sky : Nat → Int32} {trial_hour : Int32} {trial_heard : Int32} {trial_strokes : Int32} {post : (Int32) → (Nat → Int32) → (Int32) → (Nat → Int32) → (Nat → Int32) → (Nat → Int32) → (Nat → Int32) → (Nat → Int32) → (Nat → Int32) → (Int32) → (Nat → Int32) → (Int32) → (Int32) → (Int32) → Prop} (hp0 : now_race_windows.toInt = 8) (hp1 : now_race_clocks.toInt = 0) (hp2 : now_race_skies.toInt = 1) (hp3 : 0 ≤ now_race_hour.toInt) (hp4 : now_race_hour.toInt ≤ 1000) (hp5 : AB now_race_dials 0 24 12 12) (hp6 : AB now_race_sky 0 12 0 0) (hp7 : now_race_heard.toInt = 0) (hp8 : now_race_strokes.toInt = 0) (hp9 : trial_windows.toInt = 8) (hp10 : trial_clocks.toInt = 0) (hp11 : trial_skies.toInt = 1) (hp12 : 0 ≤ trial_hour.toInt) (hp13 : trial_hour.toInt ≤ 1000) (hp14 : AB trial_dials 0 24 12 12) (hp15 : AB trial_sky 0 12 0 0) (hp16 : trial_heard.toInt = 0) (hp17 : trial_strokes.toInt = 0) (hk : ∀ (trial_windows' : Int32) (trial_dials' : Nat → Int32) (trial_clocks' : Int32) (trial_kind' : Nat → Int32) (trial_hands' : Nat → Int32) (trial_rate' : Nat → Int32) (trial_spring' : Nat → Int32) (trial_window' : Nat → Int32) (trial_finish' : Nat → Int32) (trial_skies' : Int32) (trial_sky' : Nat → Int32) (trial_hour' : Int32) (trial_heard' : Int32) (trial_strokes' : Int32), (trial_windows'.toInt = 8) → (trial_clocks'.toInt = 0) → (trial_skies'.toInt = 1) → (0 ≤ trial_hour'.toInt) → (trial_hour'.toInt ≤ 1000) → (AB trial_dials' 0 24 12 12) → (AB trial_sky' 0 12 0 0) → (trial_heard'.toInt = 0) → (trial_strokes'.toInt = 0) → post trial_windows' trial_dials' trial_clocks' trial_kind' trial_hands' trial_rate' trial_spring' trial_window' trial_finish' trial_skies' trial_sky' trial_hour' trial_heard' trial_strokes') : wp_X7_foresee p1 p2 now_race_windows now_race_dials now_race_clocks now_race_kind now_race_hands now_race_rate now_race_spring now_race_window now_race_finish now_race_skies now_race_sky now_race_hour now_race_heard now_race_strokes trial_windows trial_dials trial_clocks trial_kind trial_hands trial_rate trial_spring trial_window trial_finish trial_skies trial_sky trial_hour trial_heard trial_strokes post := by
  unfold wp_X7_foresee
  refine f_X2_become (by first | omega | assumption | exact AB.none (by omega) | exact AB.mono (by assumption) (by omega) (by omega) (by omega) (by omega)) (by first | omega | assumption | exact AB.none (by omega) | exact AB.mono (by assumption) (by omega) (by omega) (by omega) (by omega)) (by first | omega | assumption | exact AB.none (by omega) | exact AB.mono (by assumption) (by omega) (by omega) (by omega) (by omega)) (by first | omega | assumption | exact AB.none (by omega) | exact AB.mono (by assumption) (by omega) (by omega) (by omega) (by omega)) (by first | omega | assumption | exact AB.none (by omega) | exact AB.mono (by assumption) (by omega) (by omega) (by omega) (by omega)) (by first | omega | assumption | exact AB.none (by omega) | exact AB.mono (by assumption) (by omega) (by omega) (by omega) (by omega)) (by first | omega | assumption | exact AB.none (by omega) | exact AB.mono (by assumption) (by omega) (by omega) (by omega) (by omega)) (by first | omega | assumption | exact AB.none (by omega) | exact AB.mono (by assumption) (by omega) (by omega) (by omega) (by omega)) (by first | omega | assumption | exact AB.none (by omega) | exact AB.mono (by assumption) (by omega) (by omega) (by omega) (by omega)) (by first | omega | assumption | exact AB.none (by omega) | exact AB.mono (by assumption) (by omega) (by omega) (by omega) (by omega)) (by first | omega | assumption | exact AB.none (by omega) | exact AB.mono (by assumption) (by omega) (by omega) (by omega) (by omega)) (by first | omega | assumption | exact AB.none (by omega) | exact AB.mono (by assumption) (by omega) (by omega) (by omega) (by omega)) (by first | omega | assumption | exact AB.none (by omega) | exact AB.mono (by assumption) (by omega) (by omega) (by omega) (by omega)) (by first | omega | assumption | exact AB.none (by omega) | exact AB.mono (by assumption) (by omega) (by omega) (by omega) (by omega)) (by first | omega | assumption | exact AB.none (by omega) | exact AB.mono (by assumption) (by omega) (by omega) (by omega) (by omega)) (by first | omega | assumption | exact AB.none (by omega) | exact AB.mono (by assumption) (by omega) (by omega) (by omega) (by omega)) (by first | omega | assumption | exact AB.none (by omega) | exact AB.mono (by assumption) (by omega) (by omega) (by omega) (by omega)) (by first | omega | assumption | exact AB.none (by omega) | exact AB.mono (by assumption) (by omega) (by omega) (by omega) (by omega)) (fun trial_windows_2 trial_dials_3 trial_clocks_4 trial_kind_5 trial_hands_6 trial_rate_7 trial_spring_8 trial_window_9 trial_finish_10 trial_skies_11 trial_sky_12 trial_hour_13 trial_heard_14 trial_strokes_15 q1 q2 q3 q4 q5 q6 q7 q8 q9 => ?_)
  refine f_X2_passMany (by first | omega | assumption | exact AB.none (by omega) | exact AB.mono (by assumption) (by omega) (by omega) (by omega) (by omega)) (by first | omega | assumption | exact AB.none (by omega) | exact AB.mono (by assumption) (by omega) (by omega) (by omega) (by omega)) (by first | omega | assumption | exact AB.none (by omega) | exact AB.mono (by assumption) (by omega) (by omega) (by omega) (by omega)) (by first | omega | assumption | exact AB.none (by omega) | exact AB.mono (by assumption) (by omega) (by omega) (by omega) (by omega)) (by first | omega | assumption | exact AB.none (by omega) | exact AB.mono (by assumption) (by omega) (by omega) (by omega) (by omega)) (by first | omega | assumption | exact AB.none (by omega) | exact AB.mono (by assumption) (by omega) (by omega) (by omega) (by omega)) (by first | omega | assumption | exact AB.none (by omega) | exact AB.mono (by assumption) (by omega) (by omega) (by omega) (by omega)) (by first | omega | assumption | exact AB.none (by omega) | exact AB.mono (by assumption) (by omega) (by omega) (by omega) (by omega)) (by first | omega | assumption | exact AB.none (by omega) | exact AB.mono (by assumption) (by omega) (by omega) (by omega) (by omega)) (fun trial_dials_17 trial_hands_18 trial_spring_19 trial_window_20 trial_finish_21 trial_hour_22 trial_heard_23 trial_strokes_24 q10 q11 q12 q13 q14 => ?_)
  exact hk _ _ _ _ _ _ _ _ _ _ _ _ _ _ (by first | omega | assumption | exact AB.none (by omega) | exact AB.mono (by assumption) (by omega) (by omega) (by omega) (by omega)) (by first | omega | assumption | exact AB.none (by omega) | exact AB.mono (by assumption) (by omega) (by omega) (by omega) (by omega)) (by first | omega | assumption | exact AB.none (by omega) | exact AB.mono (by assumption) (by omega) (by omega) (by omega) (by omega)) (by first | omega | assumption | exact AB.none (by omega) | exact AB.mono (by assumption) (by omega) (by omega) (by omega) (by omega)) (by first | omega | assumption | exact AB.none (by omega) | exact AB.mono (by assumption) (by omega) (by omega) (by omega) (by omega)) (by first | omega | assumption | exact AB.none (by omega) | exact AB.mono (by assumption) (by omega) (by omega) (by omega) (by omega)) (by first | omega | assumption | exact AB.none (by omega) | exact AB.mono (by assumption) (by omega) (by omega) (by omega) (by omega)) (by first | omega | assumption | exact AB.none (by omega) | exact AB.mono (by assumption) (by omega) (by omega) (by omega) (by omega)) (by first | omega | assumption | exact AB.none (by omega) | exact AB.mono (by assumption) (by omega) (by omega) (by omega) (by omega))
set_option maxHeartbeats 1000000 in
set_option maxRecDepth 10000 in
theorem f_X7_behind {p1 : Int32} {p2 : Int32} {p3 : Int32} {now_race_windows : Int32} {now_race_dials : Nat → Int32} {now_race_clocks : Int32} {now_race_kind : Nat → Int32} {now_race_hands : Nat → Int32} {now_race_rate : Nat → Int32} {now_race_spring : Nat → Int32} {now_race_window : Nat → Int32} {now_race_finish : Nat → Int32} {now_race_skies : Int32} {now_race_sky : Nat → Int32} {now_race_hour : Int32} {now_race_heard : Int32} {now_race_strokes : Int32} {trial_windows : Int32} {trial_dials : Nat → Int32} {trial_clocks : Int32} {trial_kind : Nat → Int32} {trial_hands : Nat → Int32} {trial_rate : Nat → Int32} {trial_spring : Nat → Int32} {trial_window : Nat → Int32} {trial_finish : Nat → Int32} {trial_skies : Int32} {trial_sky : Nat → Int32} {trial_hour : Int32} {trial_heard : Int32} {trial_strokes : Int32} {post : Int32 → (Int32) → (Nat → Int32) → (Int32) → (Nat → Int32) → (Nat → Int32) → (Nat → Int32) → (Nat → Int32) → (Nat → Int32) → (Nat → Int32) → (Int32) → (Nat → Int32) → (Int32) → (Int32) → (Int32) → Prop} (hp0 : now_race_windows.toInt = 8) (hp1 : now_race_clocks.toInt = 0) (hp2 : now_race_skies.toInt = 1) (hp3 : 0 ≤ now_race_hour.toInt) (hp4 : now_race_hour.toInt ≤ 1000) (hp5 : AB now_race_dials 0 24 12 12) (hp6 : AB now_race_sky 0 12 0 0) (hp7 : now_race_heard.toInt = 0) (hp8 : now_race_strokes.toInt = 0) (hp9 : trial_windows.toInt = 8) (hp10 : trial_clocks.toInt = 0) (hp11 : trial_skies.toInt = 1) (hp12 : 0 ≤ trial_hour.toInt) (hp13 : trial_hour.toInt ≤ 1000) (hp14 : AB trial_dials 0 24 12 12) (hp15 : AB trial_sky 0 12 0 0) (hp16 : trial_heard.toInt = 0) (hp17 : trial_strokes.toInt = 0) (hp18 : now_race_hour.toInt = 0) (hk : ∀ (r : Int32) (trial_windows' : Int32) (trial_dials' : Nat → Int32) (trial_clocks' : Int32) (trial_kind' : Nat → Int32) (trial_hands' : Nat → Int32) (trial_rate' : Nat → Int32) (trial_spring' : Nat → Int32) (trial_window' : Nat → Int32) (trial_finish' : Nat → Int32) (trial_skies' : Int32) (trial_sky' : Nat → Int32) (trial_hour' : Int32) (trial_heard' : Int32) (trial_strokes' : Int32), (r.toInt = -1) → post r trial_windows' trial_dials' trial_clocks' trial_kind' trial_hands' trial_rate' trial_spring' trial_window' trial_finish' trial_skies' trial_sky' trial_hour' trial_heard' trial_strokes') : wp_X7_behind p1 p2 p3 now_race_windows now_race_dials now_race_clocks now_race_kind now_race_hands now_race_rate now_race_spring now_race_window now_race_finish now_race_skies now_race_sky now_race_hour now_race_heard now_race_strokes trial_windows trial_dials trial_clocks trial_kind trial_hands trial_rate trial_spring trial_window trial_finish trial_skies trial_sky trial_hour trial_heard trial_strokes post := by
  unfold wp_X7_behind
  refine f_X7_isClock (by first | omega | assumption | exact AB.none (by omega) | exact AB.mono (by assumption) (by omega) (by omega) (by omega) (by omega)) (fun r1 q1 => ?_)
  refine ⟨fun c2 => ?_, fun c2 => ?_⟩
  · skip
    have t3 := ieq (a := r1.toInt) (b := 0) rfl rfl c2
    first
      | exfalso; omega
      | skip
        have t4 : ((-1) : Int32).toInt = (-1) := rfl
        exact hk _ _ _ _ _ _ _ _ _ _ _ _ _ _ _ (by first | omega | assumption | exact AB.none (by omega) | exact AB.mono (by assumption) (by omega) (by omega) (by omega) (by omega))
  · skip
    have t5 := ine (a := r1.toInt) (b := 0) rfl rfl c2
    exfalso; omega
set_option maxHeartbeats 1000000 in
set_option maxRecDepth 10000 in
theorem f_X7_leads {p1 : Int32} {now_race_windows : Int32} {now_race_dials : Nat → Int32} {now_race_clocks : Int32} {now_race_kind : Nat → Int32} {now_race_hands : Nat → Int32} {now_race_rate : Nat → Int32} {now_race_spring : Nat → Int32} {now_race_window : Nat → Int32} {now_race_finish : Nat → Int32} {now_race_skies : Int32} {now_race_sky : Nat → Int32} {now_race_hour : Int32} {now_race_heard : Int32} {now_race_strokes : Int32} {trial_windows : Int32} {trial_dials : Nat → Int32} {trial_clocks : Int32} {trial_kind : Nat → Int32} {trial_hands : Nat → Int32} {trial_rate : Nat → Int32} {trial_spring : Nat → Int32} {trial_window : Nat → Int32} {trial_finish : Nat → Int32} {trial_skies : Int32} {trial_sky : Nat → Int32} {trial_hour : Int32} {trial_heard : Int32} {trial_strokes : Int32} {post : Int32 → (Int32) → (Nat → Int32) → (Int32) → (Nat → Int32) → (Nat → Int32) → (Nat → Int32) → (Nat → Int32) → (Nat → Int32) → (Nat → Int32) → (Int32) → (Nat → Int32) → (Int32) → (Int32) → (Int32) → Prop} (hp0 : now_race_windows.toInt = 8) (hp1 : now_race_clocks.toInt = 0) (hp2 : now_race_skies.toInt = 1) (hp3 : 0 ≤ now_race_hour.toInt) (hp4 : now_race_hour.toInt ≤ 1000) (hp5 : AB now_race_dials 0 24 12 12) (hp6 : AB now_race_sky 0 12 0 0) (hp7 : now_race_heard.toInt = 0) (hp8 : now_race_strokes.toInt = 0) (hp9 : trial_windows.toInt = 8) (hp10 : trial_clocks.toInt = 0) (hp11 : trial_skies.toInt = 1) (hp12 : 0 ≤ trial_hour.toInt) (hp13 : trial_hour.toInt ≤ 1000) (hp14 : AB trial_dials 0 24 12 12) (hp15 : AB trial_sky 0 12 0 0) (hp16 : trial_heard.toInt = 0) (hp17 : trial_strokes.toInt = 0) (hp18 : now_race_hour.toInt = 0) (hk : ∀ (r : Int32) (trial_windows' : Int32) (trial_dials' : Nat → Int32) (trial_clocks' : Int32) (trial_kind' : Nat → Int32) (trial_hands' : Nat → Int32) (trial_rate' : Nat → Int32) (trial_spring' : Nat → Int32) (trial_window' : Nat → Int32) (trial_finish' : Nat → Int32) (trial_skies' : Int32) (trial_sky' : Nat → Int32) (trial_hour' : Int32) (trial_heard' : Int32) (trial_strokes' : Int32), (((0 ≤ p1.toInt ∧ p1.toInt ≤ 200) ∧ r.toInt = 0) ∨ (¬ (0 ≤ p1.toInt ∧ p1.toInt ≤ 200) ∧ r.toInt = -1)) → post r trial_windows' trial_dials' trial_clocks' trial_kind' trial_hands' trial_rate' trial_spring' trial_window' trial_finish' trial_skies' trial_sky' trial_hour' trial_heard' trial_strokes') : wp_X7_leads p1 now_race_windows now_race_dials now_race_clocks now_race_kind now_race_hands now_race_rate now_race_spring now_race_window now_race_finish now_race_skies now_race_sky now_race_hour now_race_heard now_race_strokes trial_windows trial_dials trial_clocks trial_kind trial_hands trial_rate trial_spring trial_window trial_finish trial_skies trial_sky trial_hour trial_heard trial_strokes post := by
  unfold wp_X7_leads
  refine f_X7_isSpan  (fun r1 q1 => ?_)
  refine ⟨fun c2 => ?_, fun c2 => ?_⟩
  · skip
    have t3 := ine (a := r1.toInt) (b := 0) rfl rfl c2
    first
      | exfalso; omega
      | skip
        have t4 : ((-1) : Int32).toInt = (-1) := rfl
        refine f_X7_foresee (by first | omega | assumption | exact AB.none (by omega) | exact AB.mono (by assumption) (by omega) (by omega) (by omega) (by omega)) (by first | omega | assumption | exact AB.none (by omega) | exact AB.mono (by assumption) (by omega) (by omega) (by omega) (by omega)) (by first | omega | assumption | exact AB.none (by omega) | exact AB.mono (by assumption) (by omega) (by omega) (by omega) (by omega)) (by first | omega | assumption | exact AB.none (by omega) | exact AB.mono (by assumption) (by omega) (by omega) (by omega) (by omega)) (by first | omega | assumption | exact AB.none (by omega) | exact AB.mono (by assumption) (by omega) (by omega) (by omega) (by omega)) (by first | omega | assumption | exact AB.none (by omega) | exact AB.mono (by assumption) (by omega) (by omega) (by omega) (by omega)) (by first | omega | assumption | exact AB.none (by omega) | exact AB.mono (by assumption) (by omega) (by omega) (by omega) (by omega)) (by first | omega | assumption | exact AB.none (by omega) | exact AB.mono (by assumption) (by omega) (by omega) (by omega) (by omega)) (by first | omega | assumption | exact AB.none (by omega) | exact AB.mono (by assumption) (by omega) (by omega) (by omega) (by omega)) (by first | omega | assumption | exact AB.none (by omega) | exact AB.mono (by assumption) (by omega) (by omega) (by omega) (by omega)) (by first | omega | assumption | exact AB.none (by omega) | exact AB.mono (by assumption) (by omega) (by omega) (by omega) (by omega)) (by first | omega | assumption | exact AB.none (by omega) | exact AB.mono (by assumption) (by omega) (by omega) (by omega) (by omega)) (by first | omega | assumption | exact AB.none (by omega) | exact AB.mono (by assumption) (by omega) (by omega) (by omega) (by omega)) (by first | omega | assumption | exact AB.none (by omega) | exact AB.mono (by assumption) (by omega) (by omega) (by omega) (by omega)) (by first | omega | assumption | exact AB.none (by omega) | exact AB.mono (by assumption) (by omega) (by omega) (by omega) (by omega)) (by first | omega | assumption | exact AB.none (by omega) | exact AB.mono (by assumption) (by omega) (by omega) (by omega) (by omega)) (by first | omega | assumption | exact AB.none (by omega) | exact AB.mono (by assumption) (by omega) (by omega) (by omega) (by omega)) (by first | omega | assumption | exact AB.none (by omega) | exact AB.mono (by assumption) (by omega) (by omega) (by omega) (by omega)) (fun trial_windows_4 trial_dials_5 trial_clocks_6 trial_kind_7 trial_hands_8 trial_rate_9 trial_spring_10 trial_window_11 trial_finish_12 trial_skies_13 trial_sky_14 trial_hour_15 trial_heard_16 trial_strokes_17 q5 q6 q7 q8 q9 q10 q11 q12 q13 => ?_)
        refine f_X2_leaders (by first | omega | assumption | exact AB.none (by omega) | exact AB.mono (by assumption) (by omega) (by omega) (by omega) (by omega)) (by first | omega | assumption | exact AB.none (by omega) | exact AB.mono (by assumption) (by omega) (by omega) (by omega) (by omega)) (fun r18 q14 => ?_)
        exact hk _ _ _ _ _ _ _ _ _ _ _ _ _ _ _ (by first | omega | assumption | exact AB.none (by omega) | exact AB.mono (by assumption) (by omega) (by omega) (by omega) (by omega))
  · skip
    have t15 := ieq (a := r1.toInt) (b := 0) rfl rfl c2
    first
      | exfalso; omega
      | skip
        have t16 : ((-1) : Int32).toInt = (-1) := rfl
        exact hk _ _ _ _ _ _ _ _ _ _ _ _ _ _ _ (by first | omega | assumption | exact AB.none (by omega) | exact AB.mono (by assumption) (by omega) (by omega) (by omega) (by omega))
set_option maxHeartbeats 1000000 in
set_option maxRecDepth 10000 in
theorem f_X7_finish {p1 : Int32} {now_race_windows : Int32} {now_race_dials : Nat → Int32} {now_race_clocks : Int32} {now_race_kind : Nat → Int32} {now_race_hands : Nat → Int32} {now_race_rate : Nat → Int32} {now_race_spring : Nat → Int32} {now_race_window : Nat → Int32} {now_race_finish : Nat → Int32} {now_race_skies : Int32} {now_race_sky : Nat → Int32} {now_race_hour : Int32} {now_race_heard : Int32} {now_race_strokes : Int32} {trial_windows : Int32} {trial_dials : Nat → Int32} {trial_clocks : Int32} {trial_kind : Nat → Int32} {trial_hands : Nat → Int32} {trial_rate : Nat → Int32} {trial_spring : Nat → Int32} {trial_window : Nat → Int32} {trial_finish : Nat → Int32} {trial_skies : Int32} {trial_sky : Nat → Int32} {trial_hour : Int32} {trial_heard : Int32} {trial_strokes : Int32} {post : Int32 → (Int32) → (Nat → Int32) → (Int32) → (Nat → Int32) → (Nat → Int32) → (Nat → Int32) → (Nat → Int32) → (Nat → Int32) → (Nat → Int32) → (Int32) → (Nat → Int32) → (Int32) → (Int32) → (Int32) → Prop} (hp0 : now_race_windows.toInt = 8) (hp1 : now_race_clocks.toInt = 0) (hp2 : now_race_skies.toInt = 1) (hp3 : 0 ≤ now_race_hour.toInt) (hp4 : now_race_hour.toInt ≤ 1000) (hp5 : AB now_race_dials 0 24 12 12) (hp6 : AB now_race_sky 0 12 0 0) (hp7 : now_race_heard.toInt = 0) (hp8 : now_race_strokes.toInt = 0) (hp9 : trial_windows.toInt = 8) (hp10 : trial_clocks.toInt = 0) (hp11 : trial_skies.toInt = 1) (hp12 : 0 ≤ trial_hour.toInt) (hp13 : trial_hour.toInt ≤ 1000) (hp14 : AB trial_dials 0 24 12 12) (hp15 : AB trial_sky 0 12 0 0) (hp16 : trial_heard.toInt = 0) (hp17 : trial_strokes.toInt = 0) (hp18 : now_race_hour.toInt = 0) (hk : ∀ (r : Int32) (trial_windows' : Int32) (trial_dials' : Nat → Int32) (trial_clocks' : Int32) (trial_kind' : Nat → Int32) (trial_hands' : Nat → Int32) (trial_rate' : Nat → Int32) (trial_spring' : Nat → Int32) (trial_window' : Nat → Int32) (trial_finish' : Nat → Int32) (trial_skies' : Int32) (trial_sky' : Nat → Int32) (trial_hour' : Int32) (trial_heard' : Int32) (trial_strokes' : Int32), (r.toInt = -1) → post r trial_windows' trial_dials' trial_clocks' trial_kind' trial_hands' trial_rate' trial_spring' trial_window' trial_finish' trial_skies' trial_sky' trial_hour' trial_heard' trial_strokes') : wp_X7_finish p1 now_race_windows now_race_dials now_race_clocks now_race_kind now_race_hands now_race_rate now_race_spring now_race_window now_race_finish now_race_skies now_race_sky now_race_hour now_race_heard now_race_strokes trial_windows trial_dials trial_clocks trial_kind trial_hands trial_rate trial_spring trial_window trial_finish trial_skies trial_sky trial_hour trial_heard trial_strokes post := by
  unfold wp_X7_finish
  refine f_X7_isClock (by first | omega | assumption | exact AB.none (by omega) | exact AB.mono (by assumption) (by omega) (by omega) (by omega) (by omega)) (fun r1 q1 => ?_)
  refine ⟨fun c2 => ?_, fun c2 => ?_⟩
  · skip
    have t3 := ine (a := r1.toInt) (b := 0) rfl rfl c2
    exfalso; omega
  · skip
    have t4 := ieq (a := r1.toInt) (b := 0) rfl rfl c2
    first
      | exfalso; omega
      | skip
        have t5 : ((-1) : Int32).toInt = (-1) := rfl
        exact hk _ _ _ _ _ _ _ _ _ _ _ _ _ _ _ (by first | omega | assumption | exact AB.none (by omega) | exact AB.mono (by assumption) (by omega) (by omega) (by omega) (by omega))
set_option maxHeartbeats 1000000 in
set_option maxRecDepth 10000 in
theorem f_X7_over {now_race_windows : Int32} {now_race_dials : Nat → Int32} {now_race_clocks : Int32} {now_race_kind : Nat → Int32} {now_race_hands : Nat → Int32} {now_race_rate : Nat → Int32} {now_race_spring : Nat → Int32} {now_race_window : Nat → Int32} {now_race_finish : Nat → Int32} {now_race_skies : Int32} {now_race_sky : Nat → Int32} {now_race_hour : Int32} {now_race_heard : Int32} {now_race_strokes : Int32} {trial_windows : Int32} {trial_dials : Nat → Int32} {trial_clocks : Int32} {trial_kind : Nat → Int32} {trial_hands : Nat → Int32} {trial_rate : Nat → Int32} {trial_spring : Nat → Int32} {trial_window : Nat → Int32} {trial_finish : Nat → Int32} {trial_skies : Int32} {trial_sky : Nat → Int32} {trial_hour : Int32} {trial_heard : Int32} {trial_strokes : Int32} {post : Int32 → (Int32) → (Nat → Int32) → (Int32) → (Nat → Int32) → (Nat → Int32) → (Nat → Int32) → (Nat → Int32) → (Nat → Int32) → (Nat → Int32) → (Int32) → (Nat → Int32) → (Int32) → (Int32) → (Int32) → Prop} (hp0 : now_race_windows.toInt = 8) (hp1 : now_race_clocks.toInt = 0) (hp2 : now_race_skies.toInt = 1) (hp3 : 0 ≤ now_race_hour.toInt) (hp4 : now_race_hour.toInt ≤ 1000) (hp5 : AB now_race_dials 0 24 12 12) (hp6 : AB now_race_sky 0 12 0 0) (hp7 : now_race_heard.toInt = 0) (hp8 : now_race_strokes.toInt = 0) (hp9 : trial_windows.toInt = 8) (hp10 : trial_clocks.toInt = 0) (hp11 : trial_skies.toInt = 1) (hp12 : 0 ≤ trial_hour.toInt) (hp13 : trial_hour.toInt ≤ 1000) (hp14 : AB trial_dials 0 24 12 12) (hp15 : AB trial_sky 0 12 0 0) (hp16 : trial_heard.toInt = 0) (hp17 : trial_strokes.toInt = 0) (hp18 : now_race_hour.toInt = 0) (hk : ∀ (r : Int32) (trial_windows' : Int32) (trial_dials' : Nat → Int32) (trial_clocks' : Int32) (trial_kind' : Nat → Int32) (trial_hands' : Nat → Int32) (trial_rate' : Nat → Int32) (trial_spring' : Nat → Int32) (trial_window' : Nat → Int32) (trial_finish' : Nat → Int32) (trial_skies' : Int32) (trial_sky' : Nat → Int32) (trial_hour' : Int32) (trial_heard' : Int32) (trial_strokes' : Int32), (r.toInt = 0) → post r trial_windows' trial_dials' trial_clocks' trial_kind' trial_hands' trial_rate' trial_spring' trial_window' trial_finish' trial_skies' trial_sky' trial_hour' trial_heard' trial_strokes') : wp_X7_over now_race_windows now_race_dials now_race_clocks now_race_kind now_race_hands now_race_rate now_race_spring now_race_window now_race_finish now_race_skies now_race_sky now_race_hour now_race_heard now_race_strokes trial_windows trial_dials trial_clocks trial_kind trial_hands trial_rate trial_spring trial_window trial_finish trial_skies trial_sky trial_hour trial_heard trial_strokes post := by
  unfold wp_X7_over
  refine f_X2_become (by first | omega | assumption | exact AB.none (by omega) | exact AB.mono (by assumption) (by omega) (by omega) (by omega) (by omega)) (by first | omega | assumption | exact AB.none (by omega) | exact AB.mono (by assumption) (by omega) (by omega) (by omega) (by omega)) (by first | omega | assumption | exact AB.none (by omega) | exact AB.mono (by assumption) (by omega) (by omega) (by omega) (by omega)) (by first | omega | assumption | exact AB.none (by omega) | exact AB.mono (by assumption) (by omega) (by omega) (by omega) (by omega)) (by first | omega | assumption | exact AB.none (by omega) | exact AB.mono (by assumption) (by omega) (by omega) (by omega) (by omega)) (by first | omega | assumption | exact AB.none (by omega) | exact AB.mono (by assumption) (by omega) (by omega) (by omega) (by omega)) (by first | omega | assumption | exact AB.none (by omega) | exact AB.mono (by assumption) (by omega) (by omega) (by omega) (by omega)) (by first | omega | assumption | exact AB.none (by omega) | exact AB.mono (by assumption) (by omega) (by omega) (by omega) (by omega)) (by first | omega | assumption | exact AB.none (by omega) | exact AB.mono (by assumption) (by omega) (by omega) (by omega) (by omega)) (by first | omega | assumption | exact AB.none (by omega) | exact AB.mono (by assumption) (by omega) (by omega) (by omega) (by omega)) (by first | omega | assumption | exact AB.none (by omega) | exact AB.mono (by assumption) (by omega) (by omega) (by omega) (by omega)) (by first | omega | assumption | exact AB.none (by omega) | exact AB.mono (by assumption) (by omega) (by omega) (by omega) (by omega)) (by first | omega | assumption | exact AB.none (by omega) | exact AB.mono (by assumption) (by omega) (by omega) (by omega) (by omega)) (by first | omega | assumption | exact AB.none (by omega) | exact AB.mono (by assumption) (by omega) (by omega) (by omega) (by omega)) (by first | omega | assumption | exact AB.none (by omega) | exact AB.mono (by assumption) (by omega) (by omega) (by omega) (by omega)) (by first | omega | assumption | exact AB.none (by omega) | exact AB.mono (by assumption) (by omega) (by omega) (by omega) (by omega)) (by first | omega | assumption | exact AB.none (by omega) | exact AB.mono (by assumption) (by omega) (by omega) (by omega) (by omega)) (by first | omega | assumption | exact AB.none (by omega) | exact AB.mono (by assumption) (by omega) (by omega) (by omega) (by omega)) (fun trial_windows_2 trial_dials_3 trial_clocks_4 trial_kind_5 trial_hands_6 trial_rate_7 trial_spring_8 trial_window_9 trial_finish_10 trial_skies_11 trial_sky_12 trial_hour_13 trial_heard_14 trial_strokes_15 q1 q2 q3 q4 q5 q6 q7 q8 q9 => ?_)
  have t10 : ((0 : Int32)).toInt = 0 := rfl
  refine ⟨fun n16 x1_16 trial_dials_16 trial_hands_16 trial_spring_16 trial_window_16 trial_finish_16 trial_hour_16 trial_heard_16 trial_strokes_16 => n16 = ((0 : Int)).toNat ∧ (0 ≤ trial_hour_16.toInt) ∧ (trial_hour_16.toInt ≤ 1000) ∧ (AB trial_dials_16 0 24 12 12) ∧ (trial_heard_16.toInt = 0) ∧ (trial_strokes_16.toInt = 0) ∧ (x1_16.toInt = 0) ∧ (trial_hour_16.toInt = trial_hour_13.toInt) ∧ (trial_heard_16.toInt = trial_heard_14.toInt) ∧ (trial_strokes_16.toInt = trial_strokes_15.toInt) ∧ (0 ≤ x1_16.toInt), ⟨_, rfl, by first | omega | assumption | exact AB.none (by omega) | exact AB.mono (by assumption) (by omega) (by omega) (by omega) (by omega), by first | omega | assumption | exact AB.none (by omega) | exact AB.mono (by assumption) (by omega) (by omega) (by omega) (by omega), by first | omega | assumption | exact AB.none (by omega) | exact AB.mono (by assumption) (by omega) (by omega) (by omega) (by omega), by first | omega | assumption | exact AB.none (by omega) | exact AB.mono (by assumption) (by omega) (by omega) (by omega) (by omega), by first | omega | assumption | exact AB.none (by omega) | exact AB.mono (by assumption) (by omega) (by omega) (by omega) (by omega), by first | omega | assumption | exact AB.none (by omega) | exact AB.mono (by assumption) (by omega) (by omega) (by omega) (by omega), by first | omega | assumption | exact AB.none (by omega) | exact AB.mono (by assumption) (by omega) (by omega) (by omega) (by omega), by first | omega | assumption | exact AB.none (by omega) | exact AB.mono (by assumption) (by omega) (by omega) (by omega) (by omega), by first | omega | assumption | exact AB.none (by omega) | exact AB.mono (by assumption) (by omega) (by omega) (by omega) (by omega), by first | omega | assumption | exact AB.none (by omega) | exact AB.mono (by assumption) (by omega) (by omega) (by omega) (by omega)⟩, ?_⟩
  rintro n16 x1_16 trial_dials_16 trial_hands_16 trial_spring_16 trial_window_16 trial_finish_16 trial_hour_16 trial_heard_16 trial_strokes_16 ⟨hn16, q11, q12, q13, q14, q15, q16, q17, q18, q19, q20⟩
  refine ⟨fun c21 => ?_, fun c21 => ?_⟩
  · skip
    have t22 := ilt (a := 200) (b := x1_16.toInt) rfl rfl c21
    exfalso; omega
  · skip
    have t23 := inlt (a := 200) (b := x1_16.toInt) rfl rfl c21
    first
      | exfalso; omega
      | skip
        refine f_X2_allHome (by first | omega | assumption | exact AB.none (by omega) | exact AB.mono (by assumption) (by omega) (by omega) (by omega) (by omega)) (by first | omega | assumption | exact AB.none (by omega) | exact AB.mono (by assumption) (by omega) (by omega) (by omega) (by omega)) (fun r18 q24 => ?_)
        refine ⟨fun c25 => ?_, fun c25 => ?_⟩
        · skip
          have t26 := ieq (a := r18.toInt) (b := 0) rfl rfl c25
          exfalso; omega
        · skip
          have t27 := ine (a := r18.toInt) (b := 0) rfl rfl c25
          first
            | exfalso; omega
            | skip
              exact hk _ _ _ _ _ _ _ _ _ _ _ _ _ _ _ (by first | omega | assumption | exact AB.none (by omega) | exact AB.mono (by assumption) (by omega) (by omega) (by omega) (by omega))
set_option maxHeartbeats 1000000 in
set_option maxRecDepth 10000 in
theorem f_X7_isAim {p1 : Int32} {p2 : Int32} {p3 : Int32} {now_race_clocks : Int32} {post : Int32 → Prop} (hp0 : now_race_clocks.toInt = 0) (hk : ∀ (r : Int32), (r.toInt = 0) → post r) : wp_X7_isAim p1 p2 p3 now_race_clocks post := by
  unfold wp_X7_isAim
  refine f_X7_isClock (by first | omega | assumption | exact AB.none (by omega) | exact AB.mono (by assumption) (by omega) (by omega) (by omega) (by omega)) (fun r1 q1 => ?_)
  refine ⟨fun c2 => ?_, fun c2 => ?_⟩
  · skip
    have t3 := ieq (a := r1.toInt) (b := 0) rfl rfl c2
    first
      | exfalso; omega
      | skip
        have t4 : (0 : Int32).toInt = 0 := rfl
        exact hk _ (by first | omega | assumption | exact AB.none (by omega) | exact AB.mono (by assumption) (by omega) (by omega) (by omega) (by omega))
  · skip
    have t5 := ine (a := r1.toInt) (b := 0) rfl rfl c2
    exfalso; omega
set_option maxHeartbeats 1000000 in
set_option maxRecDepth 10000 in
theorem f_X7_turns {p1 : Int32} {p2 : Int32} {p3 : Int32} {now_race_windows : Int32} {now_race_dials : Nat → Int32} {now_race_clocks : Int32} {now_race_kind : Nat → Int32} {now_race_hands : Nat → Int32} {now_race_rate : Nat → Int32} {now_race_spring : Nat → Int32} {now_race_window : Nat → Int32} {now_race_finish : Nat → Int32} {now_race_skies : Int32} {now_race_sky : Nat → Int32} {now_race_hour : Int32} {now_race_heard : Int32} {now_race_strokes : Int32} {trial_windows : Int32} {trial_dials : Nat → Int32} {trial_clocks : Int32} {trial_kind : Nat → Int32} {trial_hands : Nat → Int32} {trial_rate : Nat → Int32} {trial_spring : Nat → Int32} {trial_window : Nat → Int32} {trial_finish : Nat → Int32} {trial_skies : Int32} {trial_sky : Nat → Int32} {trial_hour : Int32} {trial_heard : Int32} {trial_strokes : Int32} {post : Int32 → (Int32) → (Nat → Int32) → (Int32) → (Nat → Int32) → (Nat → Int32) → (Nat → Int32) → (Nat → Int32) → (Nat → Int32) → (Nat → Int32) → (Int32) → (Nat → Int32) → (Int32) → (Int32) → (Int32) → Prop} (hp0 : now_race_windows.toInt = 8) (hp1 : now_race_clocks.toInt = 0) (hp2 : now_race_skies.toInt = 1) (hp3 : 0 ≤ now_race_hour.toInt) (hp4 : now_race_hour.toInt ≤ 1000) (hp5 : AB now_race_dials 0 24 12 12) (hp6 : AB now_race_sky 0 12 0 0) (hp7 : now_race_heard.toInt = 0) (hp8 : now_race_strokes.toInt = 0) (hp9 : trial_windows.toInt = 8) (hp10 : trial_clocks.toInt = 0) (hp11 : trial_skies.toInt = 1) (hp12 : 0 ≤ trial_hour.toInt) (hp13 : trial_hour.toInt ≤ 1000) (hp14 : AB trial_dials 0 24 12 12) (hp15 : AB trial_sky 0 12 0 0) (hp16 : trial_heard.toInt = 0) (hp17 : trial_strokes.toInt = 0) (hp18 : now_race_hour.toInt = 0) (hk : ∀ (r : Int32) (trial_windows' : Int32) (trial_dials' : Nat → Int32) (trial_clocks' : Int32) (trial_kind' : Nat → Int32) (trial_hands' : Nat → Int32) (trial_rate' : Nat → Int32) (trial_spring' : Nat → Int32) (trial_window' : Nat → Int32) (trial_finish' : Nat → Int32) (trial_skies' : Int32) (trial_sky' : Nat → Int32) (trial_hour' : Int32) (trial_heard' : Int32) (trial_strokes' : Int32), (r.toInt = -1) → post r trial_windows' trial_dials' trial_clocks' trial_kind' trial_hands' trial_rate' trial_spring' trial_window' trial_finish' trial_skies' trial_sky' trial_hour' trial_heard' trial_strokes') : wp_X7_turns p1 p2 p3 now_race_windows now_race_dials now_race_clocks now_race_kind now_race_hands now_race_rate now_race_spring now_race_window now_race_finish now_race_skies now_race_sky now_race_hour now_race_heard now_race_strokes trial_windows trial_dials trial_clocks trial_kind trial_hands trial_rate trial_spring trial_window trial_finish trial_skies trial_sky trial_hour trial_heard trial_strokes post := by
  unfold wp_X7_turns
  refine f_X7_isAim (by first | omega | assumption | exact AB.none (by omega) | exact AB.mono (by assumption) (by omega) (by omega) (by omega) (by omega)) (fun r1 q1 => ?_)
  refine ⟨fun c2 => ?_, fun c2 => ?_⟩
  · skip
    have t3 := ine (a := r1.toInt) (b := 0) rfl rfl c2
    exfalso; omega
  · skip
    have t4 := ieq (a := r1.toInt) (b := 0) rfl rfl c2
    first
      | exfalso; omega
      | skip
        have t5 : ((-1) : Int32).toInt = (-1) := rfl
        exact hk _ _ _ _ _ _ _ _ _ _ _ _ _ _ _ (by first | omega | assumption | exact AB.none (by omega) | exact AB.mono (by assumption) (by omega) (by omega) (by omega) (by omega))
set_option maxHeartbeats 1000000 in
set_option maxRecDepth 10000 in
theorem f_X7_hands {p1 : Int32} {p2 : Int32} {p3 : Int32} {now_race_windows : Int32} {now_race_dials : Nat → Int32} {now_race_clocks : Int32} {now_race_kind : Nat → Int32} {now_race_hands : Nat → Int32} {now_race_rate : Nat → Int32} {now_race_spring : Nat → Int32} {now_race_window : Nat → Int32} {now_race_finish : Nat → Int32} {now_race_skies : Int32} {now_race_sky : Nat → Int32} {now_race_hour : Int32} {now_race_heard : Int32} {now_race_strokes : Int32} {trial_windows : Int32} {trial_dials : Nat → Int32} {trial_clocks : Int32} {trial_kind : Nat → Int32} {trial_hands : Nat → Int32} {trial_rate : Nat → Int32} {trial_spring : Nat → Int32} {trial_window : Nat → Int32} {trial_finish : Nat → Int32} {trial_skies : Int32} {trial_sky : Nat → Int32} {trial_hour : Int32} {trial_heard : Int32} {trial_strokes : Int32} {post : Int32 → (Int32) → (Nat → Int32) → (Int32) → (Nat → Int32) → (Nat → Int32) → (Nat → Int32) → (Nat → Int32) → (Nat → Int32) → (Nat → Int32) → (Int32) → (Nat → Int32) → (Int32) → (Int32) → (Int32) → Prop} (hp0 : now_race_windows.toInt = 8) (hp1 : now_race_clocks.toInt = 0) (hp2 : now_race_skies.toInt = 1) (hp3 : 0 ≤ now_race_hour.toInt) (hp4 : now_race_hour.toInt ≤ 1000) (hp5 : AB now_race_dials 0 24 12 12) (hp6 : AB now_race_sky 0 12 0 0) (hp7 : now_race_heard.toInt = 0) (hp8 : now_race_strokes.toInt = 0) (hp9 : trial_windows.toInt = 8) (hp10 : trial_clocks.toInt = 0) (hp11 : trial_skies.toInt = 1) (hp12 : 0 ≤ trial_hour.toInt) (hp13 : trial_hour.toInt ≤ 1000) (hp14 : AB trial_dials 0 24 12 12) (hp15 : AB trial_sky 0 12 0 0) (hp16 : trial_heard.toInt = 0) (hp17 : trial_strokes.toInt = 0) (hp18 : now_race_hour.toInt = 0) (hk : ∀ (r : Int32) (trial_windows' : Int32) (trial_dials' : Nat → Int32) (trial_clocks' : Int32) (trial_kind' : Nat → Int32) (trial_hands' : Nat → Int32) (trial_rate' : Nat → Int32) (trial_spring' : Nat → Int32) (trial_window' : Nat → Int32) (trial_finish' : Nat → Int32) (trial_skies' : Int32) (trial_sky' : Nat → Int32) (trial_hour' : Int32) (trial_heard' : Int32) (trial_strokes' : Int32), (r.toInt = -1) → post r trial_windows' trial_dials' trial_clocks' trial_kind' trial_hands' trial_rate' trial_spring' trial_window' trial_finish' trial_skies' trial_sky' trial_hour' trial_heard' trial_strokes') : wp_X7_hands p1 p2 p3 now_race_windows now_race_dials now_race_clocks now_race_kind now_race_hands now_race_rate now_race_spring now_race_window now_race_finish now_race_skies now_race_sky now_race_hour now_race_heard now_race_strokes trial_windows trial_dials trial_clocks trial_kind trial_hands trial_rate trial_spring trial_window trial_finish trial_skies trial_sky trial_hour trial_heard trial_strokes post := by
  unfold wp_X7_hands
  refine f_X7_isAim (by first | omega | assumption | exact AB.none (by omega) | exact AB.mono (by assumption) (by omega) (by omega) (by omega) (by omega)) (fun r1 q1 => ?_)
  refine ⟨fun c2 => ?_, fun c2 => ?_⟩
  · skip
    have t3 := ine (a := r1.toInt) (b := 0) rfl rfl c2
    exfalso; omega
  · skip
    have t4 := ieq (a := r1.toInt) (b := 0) rfl rfl c2
    first
      | exfalso; omega
      | skip
        have t5 : ((-1) : Int32).toInt = (-1) := rfl
        exact hk _ _ _ _ _ _ _ _ _ _ _ _ _ _ _ (by first | omega | assumption | exact AB.none (by omega) | exact AB.mono (by assumption) (by omega) (by omega) (by omega) (by omega))
set_option maxHeartbeats 1000000 in
set_option maxRecDepth 10000 in
theorem f_X7_both {p1 : Int32} {p2 : Int32} {p3 : Int32} {p4 : Int32} {now_race_windows : Int32} {now_race_dials : Nat → Int32} {now_race_clocks : Int32} {now_race_kind : Nat → Int32} {now_race_hands : Nat → Int32} {now_race_rate : Nat → Int32} {now_race_spring : Nat → Int32} {now_race_window : Nat → Int32} {now_race_finish : Nat → Int32} {now_race_skies : Int32} {now_race_sky : Nat → Int32} {now_race_hour : Int32} {now_race_heard : Int32} {now_race_strokes : Int32} {trial_windows : Int32} {trial_dials : Nat → Int32} {trial_clocks : Int32} {trial_kind : Nat → Int32} {trial_hands : Nat → Int32} {trial_rate : Nat → Int32} {trial_spring : Nat → Int32} {trial_window : Nat → Int32} {trial_finish : Nat → Int32} {trial_skies : Int32} {trial_sky : Nat → Int32} {trial_hour : Int32} {trial_heard : Int32} {trial_strokes : Int32} {post : Int32 → (Int32) → (Nat → Int32) → (Int32) → (Nat → Int32) → (Nat → Int32) → (Nat → Int32) → (Nat → Int32) → (Nat → Int32) → (Nat → Int32) → (Int32) → (Nat → Int32) → (Int32) → (Int32) → (Int32) → Prop} (hp0 : now_race_windows.toInt = 8) (hp1 : now_race_clocks.toInt = 0) (hp2 : now_race_skies.toInt = 1) (hp3 : 0 ≤ now_race_hour.toInt) (hp4 : now_race_hour.toInt ≤ 1000) (hp5 : AB now_race_dials 0 24 12 12) (hp6 : AB now_race_sky 0 12 0 0) (hp7 : now_race_heard.toInt = 0) (hp8 : now_race_strokes.toInt = 0) (hp9 : trial_windows.toInt = 8) (hp10 : trial_clocks.toInt = 0) (hp11 : trial_skies.toInt = 1) (hp12 : 0 ≤ trial_hour.toInt) (hp13 : trial_hour.toInt ≤ 1000) (hp14 : AB trial_dials 0 24 12 12) (hp15 : AB trial_sky 0 12 0 0) (hp16 : trial_heard.toInt = 0) (hp17 : trial_strokes.toInt = 0) (hp18 : now_race_hour.toInt = 0) (hk : ∀ (r : Int32) (trial_windows' : Int32) (trial_dials' : Nat → Int32) (trial_clocks' : Int32) (trial_kind' : Nat → Int32) (trial_hands' : Nat → Int32) (trial_rate' : Nat → Int32) (trial_spring' : Nat → Int32) (trial_window' : Nat → Int32) (trial_finish' : Nat → Int32) (trial_skies' : Int32) (trial_sky' : Nat → Int32) (trial_hour' : Int32) (trial_heard' : Int32) (trial_strokes' : Int32), (r.toInt = -1) → post r trial_windows' trial_dials' trial_clocks' trial_kind' trial_hands' trial_rate' trial_spring' trial_window' trial_finish' trial_skies' trial_sky' trial_hour' trial_heard' trial_strokes') : wp_X7_both p1 p2 p3 p4 now_race_windows now_race_dials now_race_clocks now_race_kind now_race_hands now_race_rate now_race_spring now_race_window now_race_finish now_race_skies now_race_sky now_race_hour now_race_heard now_race_strokes trial_windows trial_dials trial_clocks trial_kind trial_hands trial_rate trial_spring trial_window trial_finish trial_skies trial_sky trial_hour trial_heard trial_strokes post := by
  unfold wp_X7_both
  refine f_X7_isAim (by first | omega | assumption | exact AB.none (by omega) | exact AB.mono (by assumption) (by omega) (by omega) (by omega) (by omega)) (fun r1 q1 => ?_)
  refine ⟨fun c2 => ?_, fun c2 => ?_⟩
  · skip
    have t3 := ieq (a := r1.toInt) (b := 0) rfl rfl c2
    first
      | exfalso; omega
      | skip
        have t4 : ((-1) : Int32).toInt = (-1) := rfl
        exact hk _ _ _ _ _ _ _ _ _ _ _ _ _ _ _ (by first | omega | assumption | exact AB.none (by omega) | exact AB.mono (by assumption) (by omega) (by omega) (by omega) (by omega))
  · skip
    have t5 := ine (a := r1.toInt) (b := 0) rfl rfl c2
    exfalso; omega
set_option maxHeartbeats 1000000 in
set_option maxRecDepth 10000 in
theorem f_X7_duel {p1 : Int32} {p2 : Int32} {p3 : Int32} {p4 : Int32} {v_gains : Nat → Int32} {now_race_windows : Int32} {now_race_dials : Nat → Int32} {now_race_clocks : Int32} {now_race_kind : Nat → Int32} {now_race_hands : Nat → Int32} {now_race_rate : Nat → Int32} {now_race_spring : Nat → Int32} {now_race_window : Nat → Int32} {now_race_finish : Nat → Int32} {now_race_skies : Int32} {now_race_sky : Nat → Int32} {now_race_hour : Int32} {now_race_heard : Int32} {now_race_strokes : Int32} {trial_windows : Int32} {trial_dials : Nat → Int32} {trial_clocks : Int32} {trial_kind : Nat → Int32} {trial_hands : Nat → Int32} {trial_rate : Nat → Int32} {trial_spring : Nat → Int32} {trial_window : Nat → Int32} {trial_finish : Nat → Int32} {trial_skies : Int32} {trial_sky : Nat → Int32} {trial_hour : Int32} {trial_heard : Int32} {trial_strokes : Int32} {post : Int32 → (Nat → Int32) → (Int32) → (Nat → Int32) → (Int32) → (Nat → Int32) → (Nat → Int32) → (Nat → Int32) → (Nat → Int32) → (Nat → Int32) → (Nat → Int32) → (Int32) → (Nat → Int32) → (Int32) → (Int32) → (Int32) → Prop} (hp0 : now_race_windows.toInt = 8) (hp1 : now_race_clocks.toInt = 0) (hp2 : now_race_skies.toInt = 1) (hp3 : 0 ≤ now_race_hour.toInt) (hp4 : now_race_hour.toInt ≤ 1000) (hp5 : AB now_race_dials 0 24 12 12) (hp6 : AB now_race_sky 0 12 0 0) (hp7 : now_race_heard.toInt = 0) (hp8 : now_race_strokes.toInt = 0) (hp9 : trial_windows.toInt = 8) (hp10 : trial_clocks.toInt = 0) (hp11 : trial_skies.toInt = 1) (hp12 : 0 ≤ trial_hour.toInt) (hp13 : trial_hour.toInt ≤ 1000) (hp14 : AB trial_dials 0 24 12 12) (hp15 : AB trial_sky 0 12 0 0) (hp16 : trial_heard.toInt = 0) (hp17 : trial_strokes.toInt = 0) (hp18 : now_race_hour.toInt = 0) (hk : ∀ (r : Int32) (v_gains' : Nat → Int32) (trial_windows' : Int32) (trial_dials' : Nat → Int32) (trial_clocks' : Int32) (trial_kind' : Nat → Int32) (trial_hands' : Nat → Int32) (trial_rate' : Nat → Int32) (trial_spring' : Nat → Int32) (trial_window' : Nat → Int32) (trial_finish' : Nat → Int32) (trial_skies' : Int32) (trial_sky' : Nat → Int32) (trial_hour' : Int32) (trial_heard' : Int32) (trial_strokes' : Int32), (r.toInt = -1) → post r v_gains' trial_windows' trial_dials' trial_clocks' trial_kind' trial_hands' trial_rate' trial_spring' trial_window' trial_finish' trial_skies' trial_sky' trial_hour' trial_heard' trial_strokes') : wp_X7_duel p1 p2 p3 p4 v_gains now_race_windows now_race_dials now_race_clocks now_race_kind now_race_hands now_race_rate now_race_spring now_race_window now_race_finish now_race_skies now_race_sky now_race_hour now_race_heard now_race_strokes trial_windows trial_dials trial_clocks trial_kind trial_hands trial_rate trial_spring trial_window trial_finish trial_skies trial_sky trial_hour trial_heard trial_strokes post := by
  unfold wp_X7_duel
  refine f_X7_isClock (by first | omega | assumption | exact AB.none (by omega) | exact AB.mono (by assumption) (by omega) (by omega) (by omega) (by omega)) (fun r1 q1 => ?_)
  refine ⟨fun c2 => ?_, fun c2 => ?_⟩
  · skip
    have t3 := ieq (a := r1.toInt) (b := 0) rfl rfl c2
    first
      | exfalso; omega
      | skip
        have t4 : ((-1) : Int32).toInt = (-1) := rfl
        exact hk _ _ _ _ _ _ _ _ _ _ _ _ _ _ _ _ (by first | omega | assumption | exact AB.none (by omega) | exact AB.mono (by assumption) (by omega) (by omega) (by omega) (by omega))
  · skip
    have t5 := ine (a := r1.toInt) (b := 0) rfl rfl c2
    exfalso; omega
set_option maxHeartbeats 1000000 in
set_option maxRecDepth 10000 in
theorem f_X7_breath {p1 : Int32} {p2 : Int32} {now_race_windows : Int32} {now_race_dials : Nat → Int32} {now_race_clocks : Int32} {now_race_kind : Nat → Int32} {now_race_hands : Nat → Int32} {now_race_rate : Nat → Int32} {now_race_spring : Nat → Int32} {now_race_window : Nat → Int32} {now_race_finish : Nat → Int32} {now_race_skies : Int32} {now_race_sky : Nat → Int32} {now_race_hour : Int32} {now_race_heard : Int32} {now_race_strokes : Int32} {trial_windows : Int32} {trial_dials : Nat → Int32} {trial_clocks : Int32} {trial_kind : Nat → Int32} {trial_hands : Nat → Int32} {trial_rate : Nat → Int32} {trial_spring : Nat → Int32} {trial_window : Nat → Int32} {trial_finish : Nat → Int32} {trial_skies : Int32} {trial_sky : Nat → Int32} {trial_hour : Int32} {trial_heard : Int32} {trial_strokes : Int32} {post : Int32 → (Int32) → (Nat → Int32) → (Int32) → (Nat → Int32) → (Nat → Int32) → (Nat → Int32) → (Nat → Int32) → (Nat → Int32) → (Nat → Int32) → (Int32) → (Nat → Int32) → (Int32) → (Int32) → (Int32) → Prop} (hp0 : now_race_windows.toInt = 8) (hp1 : now_race_clocks.toInt = 0) (hp2 : now_race_skies.toInt = 1) (hp3 : 0 ≤ now_race_hour.toInt) (hp4 : now_race_hour.toInt ≤ 1000) (hp5 : AB now_race_dials 0 24 12 12) (hp6 : AB now_race_sky 0 12 0 0) (hp7 : now_race_heard.toInt = 0) (hp8 : now_race_strokes.toInt = 0) (hp9 : trial_windows.toInt = 8) (hp10 : trial_clocks.toInt = 0) (hp11 : trial_skies.toInt = 1) (hp12 : 0 ≤ trial_hour.toInt) (hp13 : trial_hour.toInt ≤ 1000) (hp14 : AB trial_dials 0 24 12 12) (hp15 : AB trial_sky 0 12 0 0) (hp16 : trial_heard.toInt = 0) (hp17 : trial_strokes.toInt = 0) (hp18 : now_race_hour.toInt = 0) (hk : ∀ (r : Int32) (trial_windows' : Int32) (trial_dials' : Nat → Int32) (trial_clocks' : Int32) (trial_kind' : Nat → Int32) (trial_hands' : Nat → Int32) (trial_rate' : Nat → Int32) (trial_spring' : Nat → Int32) (trial_window' : Nat → Int32) (trial_finish' : Nat → Int32) (trial_skies' : Int32) (trial_sky' : Nat → Int32) (trial_hour' : Int32) (trial_heard' : Int32) (trial_strokes' : Int32), (r.toInt = -1) → post r trial_windows' trial_dials' trial_clocks' trial_kind' trial_hands' trial_rate' trial_spring' trial_window' trial_finish' trial_skies' trial_sky' trial_hour' trial_heard' trial_strokes') : wp_X7_breath p1 p2 now_race_windows now_race_dials now_race_clocks now_race_kind now_race_hands now_race_rate now_race_spring now_race_window now_race_finish now_race_skies now_race_sky now_race_hour now_race_heard now_race_strokes trial_windows trial_dials trial_clocks trial_kind trial_hands trial_rate trial_spring trial_window trial_finish trial_skies trial_sky trial_hour trial_heard trial_strokes post := by
  unfold wp_X7_breath
  refine f_X7_isClock (by first | omega | assumption | exact AB.none (by omega) | exact AB.mono (by assumption) (by omega) (by omega) (by omega) (by omega)) (fun r1 q1 => ?_)
  refine ⟨fun c2 => ?_, fun c2 => ?_⟩
  · skip
    have t3 := ieq (a := r1.toInt) (b := 0) rfl rfl c2
    first
      | exfalso; omega
      | skip
        have t4 : ((-1) : Int32).toInt = (-1) := rfl
        exact hk _ _ _ _ _ _ _ _ _ _ _ _ _ _ _ (by first | omega | assumption | exact AB.none (by omega) | exact AB.mono (by assumption) (by omega) (by omega) (by omega) (by omega))
  · skip
    have t5 := ine (a := r1.toInt) (b := 0) rfl rfl c2
    exfalso; omega
set_option maxHeartbeats 1000000 in
set_option maxRecDepth 10000 in
theorem f_X7_right {p1 : Int32} {p2 : Int32} {now_race_windows : Int32} {now_race_dials : Nat → Int32} {now_race_clocks : Int32} {now_race_kind : Nat → Int32} {now_race_hands : Nat → Int32} {now_race_rate : Nat → Int32} {now_race_spring : Nat → Int32} {now_race_window : Nat → Int32} {now_race_finish : Nat → Int32} {now_race_skies : Int32} {now_race_sky : Nat → Int32} {now_race_hour : Int32} {now_race_heard : Int32} {now_race_strokes : Int32} {trial_windows : Int32} {trial_dials : Nat → Int32} {trial_clocks : Int32} {trial_kind : Nat → Int32} {trial_hands : Nat → Int32} {trial_rate : Nat → Int32} {trial_spring : Nat → Int32} {trial_window : Nat → Int32} {trial_finish : Nat → Int32} {trial_skies : Int32} {trial_sky : Nat → Int32} {trial_hour : Int32} {trial_heard : Int32} {trial_strokes : Int32} {post : Int32 → (Int32) → (Nat → Int32) → (Int32) → (Nat → Int32) → (Nat → Int32) → (Nat → Int32) → (Nat → Int32) → (Nat → Int32) → (Nat → Int32) → (Int32) → (Nat → Int32) → (Int32) → (Int32) → (Int32) → Prop} (hp0 : now_race_windows.toInt = 8) (hp1 : now_race_clocks.toInt = 0) (hp2 : now_race_skies.toInt = 1) (hp3 : 0 ≤ now_race_hour.toInt) (hp4 : now_race_hour.toInt ≤ 1000) (hp5 : AB now_race_dials 0 24 12 12) (hp6 : AB now_race_sky 0 12 0 0) (hp7 : now_race_heard.toInt = 0) (hp8 : now_race_strokes.toInt = 0) (hp9 : trial_windows.toInt = 8) (hp10 : trial_clocks.toInt = 0) (hp11 : trial_skies.toInt = 1) (hp12 : 0 ≤ trial_hour.toInt) (hp13 : trial_hour.toInt ≤ 1000) (hp14 : AB trial_dials 0 24 12 12) (hp15 : AB trial_sky 0 12 0 0) (hp16 : trial_heard.toInt = 0) (hp17 : trial_strokes.toInt = 0) (hp18 : now_race_hour.toInt = 0) (hk : ∀ (r : Int32) (trial_windows' : Int32) (trial_dials' : Nat → Int32) (trial_clocks' : Int32) (trial_kind' : Nat → Int32) (trial_hands' : Nat → Int32) (trial_rate' : Nat → Int32) (trial_spring' : Nat → Int32) (trial_window' : Nat → Int32) (trial_finish' : Nat → Int32) (trial_skies' : Int32) (trial_sky' : Nat → Int32) (trial_hour' : Int32) (trial_heard' : Int32) (trial_strokes' : Int32), (r.toInt = -1) → post r trial_windows' trial_dials' trial_clocks' trial_kind' trial_hands' trial_rate' trial_spring' trial_window' trial_finish' trial_skies' trial_sky' trial_hour' trial_heard' trial_strokes') : wp_X7_right p1 p2 now_race_windows now_race_dials now_race_clocks now_race_kind now_race_hands now_race_rate now_race_spring now_race_window now_race_finish now_race_skies now_race_sky now_race_hour now_race_heard now_race_strokes trial_windows trial_dials trial_clocks trial_kind trial_hands trial_rate trial_spring trial_window trial_finish trial_skies trial_sky trial_hour trial_heard trial_strokes post := by
  unfold wp_X7_right
  refine f_X7_isClock (by first | omega | assumption | exact AB.none (by omega) | exact AB.mono (by assumption) (by omega) (by omega) (by omega) (by omega)) (fun r1 q1 => ?_)
  refine ⟨fun c2 => ?_, fun c2 => ?_⟩
  · skip
    have t3 := ieq (a := r1.toInt) (b := 0) rfl rfl c2
    first
      | exfalso; omega
      | skip
        have t4 : ((-1) : Int32).toInt = (-1) := rfl
        exact hk _ _ _ _ _ _ _ _ _ _ _ _ _ _ _ (by first | omega | assumption | exact AB.none (by omega) | exact AB.mono (by assumption) (by omega) (by omega) (by omega) (by omega))
  · skip
    have t5 := ine (a := r1.toInt) (b := 0) rfl rfl c2
    exfalso; omega
set_option maxHeartbeats 1000000 in
set_option maxRecDepth 10000 in
theorem f_X7_appeal {p1 : Int32} {p2 : Int32} {now_race_windows : Int32} {now_race_dials : Nat → Int32} {now_race_clocks : Int32} {now_race_kind : Nat → Int32} {now_race_hands : Nat → Int32} {now_race_rate : Nat → Int32} {now_race_spring : Nat → Int32} {now_race_window : Nat → Int32} {now_race_finish : Nat → Int32} {now_race_skies : Int32} {now_race_sky : Nat → Int32} {now_race_hour : Int32} {now_race_heard : Int32} {now_race_strokes : Int32} {trial_windows : Int32} {trial_dials : Nat → Int32} {trial_clocks : Int32} {trial_kind : Nat → Int32} {trial_hands : Nat → Int32} {trial_rate : Nat → Int32} {trial_spring : Nat → Int32} {trial_window : Nat → Int32} {trial_finish : Nat → Int32} {trial_skies : Int32} {trial_sky : Nat → Int32} {trial_hour : Int32} {trial_heard : Int32} {trial_strokes : Int32} {post : Int32 → (Int32) → (Nat → Int32) → (Int32) → (Nat → Int32) → (Nat → Int32) → (Nat → Int32) → (Nat → Int32) → (Nat → Int32) → (Nat → Int32) → (Int32) → (Nat → Int32) → (Int32) → (Int32) → (Int32) → Prop} (hp0 : now_race_windows.toInt = 8) (hp1 : now_race_clocks.toInt = 0) (hp2 : now_race_skies.toInt = 1) (hp3 : 0 ≤ now_race_hour.toInt) (hp4 : now_race_hour.toInt ≤ 1000) (hp5 : AB now_race_dials 0 24 12 12) (hp6 : AB now_race_sky 0 12 0 0) (hp7 : now_race_heard.toInt = 0) (hp8 : now_race_strokes.toInt = 0) (hp9 : trial_windows.toInt = 8) (hp10 : trial_clocks.toInt = 0) (hp11 : trial_skies.toInt = 1) (hp12 : 0 ≤ trial_hour.toInt) (hp13 : trial_hour.toInt ≤ 1000) (hp14 : AB trial_dials 0 24 12 12) (hp15 : AB trial_sky 0 12 0 0) (hp16 : trial_heard.toInt = 0) (hp17 : trial_strokes.toInt = 0) (hp18 : now_race_hour.toInt = 0) (hk : ∀ (r : Int32) (trial_windows' : Int32) (trial_dials' : Nat → Int32) (trial_clocks' : Int32) (trial_kind' : Nat → Int32) (trial_hands' : Nat → Int32) (trial_rate' : Nat → Int32) (trial_spring' : Nat → Int32) (trial_window' : Nat → Int32) (trial_finish' : Nat → Int32) (trial_skies' : Int32) (trial_sky' : Nat → Int32) (trial_hour' : Int32) (trial_heard' : Int32) (trial_strokes' : Int32), (r.toInt = -1) → post r trial_windows' trial_dials' trial_clocks' trial_kind' trial_hands' trial_rate' trial_spring' trial_window' trial_finish' trial_skies' trial_sky' trial_hour' trial_heard' trial_strokes') : wp_X7_appeal p1 p2 now_race_windows now_race_dials now_race_clocks now_race_kind now_race_hands now_race_rate now_race_spring now_race_window now_race_finish now_race_skies now_race_sky now_race_hour now_race_heard now_race_strokes trial_windows trial_dials trial_clocks trial_kind trial_hands trial_rate trial_spring trial_window trial_finish trial_skies trial_sky trial_hour trial_heard trial_strokes post := by
  unfold wp_X7_appeal
  refine f_X7_isClock (by first | omega | assumption | exact AB.none (by omega) | exact AB.mono (by assumption) (by omega) (by omega) (by omega) (by omega)) (fun r1 q1 => ?_)
  refine ⟨fun c2 => ?_, fun c2 => ?_⟩
  · skip
    have t3 := ieq (a := r1.toInt) (b := 0) rfl rfl c2
    first
      | exfalso; omega
      | skip
        have t4 : ((-1) : Int32).toInt = (-1) := rfl
        exact hk _ _ _ _ _ _ _ _ _ _ _ _ _ _ _ (by first | omega | assumption | exact AB.none (by omega) | exact AB.mono (by assumption) (by omega) (by omega) (by omega) (by omega))
  · skip
    have t5 := ine (a := r1.toInt) (b := 0) rfl rfl c2
    exfalso; omega
set_option maxHeartbeats 1000000 in
set_option maxRecDepth 10000 in
theorem f_X7_spans {p1 : Int32} {p2 : Int32} {now_race_windows : Int32} {now_race_dials : Nat → Int32} {now_race_clocks : Int32} {now_race_kind : Nat → Int32} {now_race_hands : Nat → Int32} {now_race_rate : Nat → Int32} {now_race_spring : Nat → Int32} {now_race_window : Nat → Int32} {now_race_finish : Nat → Int32} {now_race_skies : Int32} {now_race_sky : Nat → Int32} {now_race_hour : Int32} {now_race_heard : Int32} {now_race_strokes : Int32} {trial_windows : Int32} {trial_dials : Nat → Int32} {trial_clocks : Int32} {trial_kind : Nat → Int32} {trial_hands : Nat → Int32} {trial_rate : Nat → Int32} {trial_spring : Nat → Int32} {trial_window : Nat → Int32} {trial_finish : Nat → Int32} {trial_skies : Int32} {trial_sky : Nat → Int32} {trial_hour : Int32} {trial_heard : Int32} {trial_strokes : Int32} {post : Int32 → (Int32) → (Nat → Int32) → (Int32) → (Nat → Int32) → (Nat → Int32) → (Nat → Int32) → (Nat → Int32) → (Nat → Int32) → (Nat → Int32) → (Int32) → (Nat → Int32) → (Int32) → (Int32) → (Int32) → Prop} (hp0 : now_race_windows.toInt = 8) (hp1 : now_race_clocks.toInt = 0) (hp2 : now_race_skies.toInt = 1) (hp3 : 0 ≤ now_race_hour.toInt) (hp4 : now_race_hour.toInt ≤ 1000) (hp5 : AB now_race_dials 0 24 12 12) (hp6 : AB now_race_sky 0 12 0 0) (hp7 : now_race_heard.toInt = 0) (hp8 : now_race_strokes.toInt = 0) (hp9 : trial_windows.toInt = 8) (hp10 : trial_clocks.toInt = 0) (hp11 : trial_skies.toInt = 1) (hp12 : 0 ≤ trial_hour.toInt) (hp13 : trial_hour.toInt ≤ 1000) (hp14 : AB trial_dials 0 24 12 12) (hp15 : AB trial_sky 0 12 0 0) (hp16 : trial_heard.toInt = 0) (hp17 : trial_strokes.toInt = 0) (hp18 : now_race_hour.toInt = 0) (hk : ∀ (r : Int32) (trial_windows' : Int32) (trial_dials' : Nat → Int32) (trial_clocks' : Int32) (trial_kind' : Nat → Int32) (trial_hands' : Nat → Int32) (trial_rate' : Nat → Int32) (trial_spring' : Nat → Int32) (trial_window' : Nat → Int32) (trial_finish' : Nat → Int32) (trial_skies' : Int32) (trial_sky' : Nat → Int32) (trial_hour' : Int32) (trial_heard' : Int32) (trial_strokes' : Int32), (r.toInt = -1) → post r trial_windows' trial_dials' trial_clocks' trial_kind' trial_hands' trial_rate' trial_spring' trial_window' trial_finish' trial_skies' trial_sky' trial_hour' trial_heard' trial_strokes') : wp_X7_spans p1 p2 now_race_windows now_race_dials now_race_clocks now_race_kind now_race_hands now_race_rate now_race_spring now_race_window now_race_finish now_race_skies now_race_sky now_race_hour now_race_heard now_race_strokes trial_windows trial_dials trial_clocks trial_kind trial_hands trial_rate trial_spring trial_window trial_finish trial_skies trial_sky trial_hour trial_heard trial_strokes post := by
  unfold wp_X7_spans
  refine f_X7_isClock (by first | omega | assumption | exact AB.none (by omega) | exact AB.mono (by assumption) (by omega) (by omega) (by omega) (by omega)) (fun r1 q1 => ?_)
  refine ⟨fun c2 => ?_, fun c2 => ?_⟩
  · skip
    have t3 := ieq (a := r1.toInt) (b := 0) rfl rfl c2
    first
      | exfalso; omega
      | skip
        have t4 : ((-1) : Int32).toInt = (-1) := rfl
        exact hk _ _ _ _ _ _ _ _ _ _ _ _ _ _ _ (by first | omega | assumption | exact AB.none (by omega) | exact AB.mono (by assumption) (by omega) (by omega) (by omega) (by omega))
  · skip
    have t5 := ine (a := r1.toInt) (b := 0) rfl rfl c2
    exfalso; omega
set_option maxHeartbeats 1000000 in
set_option maxRecDepth 10000 in
theorem f_X7_isSet {p1 : Int32} {now_race_clocks : Int32} {post : Int32 → Prop} (hp0 : now_race_clocks.toInt = 0) (hk : ∀ (r : Int32), (((p1.toInt = 0) ∧ r.toInt = 1) ∨ (¬ (p1.toInt = 0) ∧ r.toInt = 0)) → post r) : wp_X7_isSet p1 now_race_clocks post := by
  unfold wp_X7_isSet
  have t1 : (0 : Int32).toInt = 0 := rfl
  try have t2 := i1s (x := now_race_clocks) (a := now_race_clocks.toInt) rfl (by omega) (by omega)
  try have t3 : ((1 <<< (now_race_clocks &&& 31)) - 1).toInt = (1 <<< (now_race_clocks &&& 31)).toInt - 1 := isb rfl rfl (by omega) (by omega)
  refine f_X7_isIn  (fun r1 q4 => ?_)
  refine ⟨i01 (a := r1.toInt) rfl (by omega), ?_⟩
  exact hk _ (by first | omega | assumption | exact AB.none (by omega) | exact AB.mono (by assumption) (by omega) (by omega) (by omega) (by omega))
set_option maxHeartbeats 1000000 in
set_option maxRecDepth 10000 in
theorem f_X7_struck {p1 : Int32} {p2 : Int32} {p3 : Int32} {now_race_clocks : Int32} {now_race_kind : Nat → Int32} {now_race_hands : Nat → Int32} {now_race_hour : Int32} {post : Int32 → Prop} (hp0 : now_race_clocks.toInt = 0) (hp1 : 0 ≤ now_race_hour.toInt) (hp2 : now_race_hour.toInt ≤ 1000) (hp3 : now_race_hour.toInt = 0) (hk : ∀ (r : Int32), ((p1.toInt = 0 ∧ 1 ≤ p2.toInt ∧ p2.toInt ≤ 108 ∧ p3.toInt = 0 ∧ r.toInt = 0) ∨ (p1.toInt = 0 ∧ 1 ≤ p2.toInt ∧ p2.toInt ≤ 108 ∧ 1 ≤ p3.toInt ∧ p3.toInt ≤ 2 ∧ r.toInt = -4) ∨ (¬ (p1.toInt = 0 ∧ 1 ≤ p2.toInt ∧ p2.toInt ≤ 108 ∧ 0 ≤ p3.toInt ∧ p3.toInt ≤ 2) ∧ r.toInt = -1)) → post r) : wp_X7_struck p1 p2 p3 now_race_clocks now_race_kind now_race_hands now_race_hour post := by
  unfold wp_X7_struck
  refine f_X7_isSet (by first | omega | assumption | exact AB.none (by omega) | exact AB.mono (by assumption) (by omega) (by omega) (by omega) (by omega)) (fun r1 q1 => ?_)
  refine ⟨fun c2 => ?_, fun c2 => ?_⟩
  · skip
    have t3 := ieq (a := r1.toInt) (b := 0) rfl rfl c2
    first
      | exfalso; omega
      | skip
        have t4 : ((-1) : Int32).toInt = (-1) := rfl
        exact hk _ (by first | omega | assumption | exact AB.none (by omega) | exact AB.mono (by assumption) (by omega) (by omega) (by omega) (by omega))
  · skip
    have t5 := ine (a := r1.toInt) (b := 0) rfl rfl c2
    first
      | exfalso; omega
      | skip
        have t6 : (1 : Int32).toInt = 1 := rfl
        have t7 : (108 : Int32).toInt = 108 := rfl
        refine f_X7_isIn  (fun r3 q8 => ?_)
        refine ⟨fun c9 => ?_, fun c9 => ?_⟩
        · skip
          have t10 := ieq (a := r3.toInt) (b := 0) rfl rfl c9
          first
            | exfalso; omega
            | skip
              have t11 : ((-1) : Int32).toInt = (-1) := rfl
              exact hk _ (by first | omega | assumption | exact AB.none (by omega) | exact AB.mono (by assumption) (by omega) (by omega) (by omega) (by omega))
        · skip
          have t12 := ine (a := r3.toInt) (b := 0) rfl rfl c9
          first
            | exfalso; omega
            | skip
              have t13 : (0 : Int32).toInt = 0 := rfl
              have t14 : (2 : Int32).toInt = 2 := rfl
              refine f_X7_isIn  (fun r5 q15 => ?_)
              refine ⟨fun c16 => ?_, fun c16 => ?_⟩
              · skip
                have t17 := ine (a := r5.toInt) (b := 0) rfl rfl c16
                first
                  | exfalso; omega
                  | skip
                    have t18 : ((0 : Int32)).toInt = 0 := rfl
                    have t19 : ((1 : Int32)).toInt = 1 := rfl
                    refine ⟨fun n7 x4_7 x5_7 x6_7 => n7 = ((0 : Int)).toNat ∧ (x4_7.toInt = 0) ∧ (x5_7.toInt = p1.toInt) ∧ (x6_7.toInt = 1) ∧ (1 ≤ x6_7.toInt), ⟨_, rfl, by first | omega | assumption | exact AB.none (by omega) | exact AB.mono (by assumption) (by omega) (by omega) (by omega) (by omega), by first | omega | assumption | exact AB.none (by omega) | exact AB.mono (by assumption) (by omega) (by omega) (by omega) (by omega), by first | omega | assumption | exact AB.none (by omega) | exact AB.mono (by assumption) (by omega) (by omega) (by omega) (by omega), by first | omega | assumption | exact AB.none (by omega) | exact AB.mono (by assumption) (by omega) (by omega) (by omega) (by omega)⟩, ?_⟩
                    rintro n7 x4_7 x5_7 x6_7 ⟨hn7, q20, q21, q22, q23⟩
                    refine ⟨fun c24 => ?_, fun c24 => ?_⟩
                    · skip
                      have t25 := ilt (a := p1.toInt) (b := x6_7.toInt) rfl rfl c24
                      first
                        | exfalso; omega
                        | skip
                          refine ⟨fun c26 => ?_, fun c26 => ?_⟩
                          · skip
                            have t27 := ine (a := p3.toInt) (b := 0) rfl rfl c26
                            first
                              | exfalso; omega
                              | skip
                                refine ⟨fun c28 => ?_, fun c28 => ?_⟩
                                · skip
                                  have t29 := ine (a := x4_7.toInt) (b := 0) rfl rfl c28
                                  exfalso; omega
                                · skip
                                  have t30 := ieq (a := x4_7.toInt) (b := 0) rfl rfl c28
                                  first
                                    | exfalso; omega
                                    | skip
                                      have t31 : ((-4) : Int32).toInt = (-4) := rfl
                                      exact hk _ (by first | omega | assumption | exact AB.none (by omega) | exact AB.mono (by assumption) (by omega) (by omega) (by omega) (by omega))
                          · skip
                            have t32 := ieq (a := p3.toInt) (b := 0) rfl rfl c26
                            first
                              | exfalso; omega
                              | skip
                                exact hk _ (by first | omega | assumption | exact AB.none (by omega) | exact AB.mono (by assumption) (by omega) (by omega) (by omega) (by omega))
                    · skip
                      have t33 := inlt (a := p1.toInt) (b := x6_7.toInt) rfl rfl c24
                      first
                        | exfalso; omega
                        | skip
                          refine ⟨fun c34 => ?_, fun c34 => ?_⟩
                          · skip
                            have t35 := ine (a := (x6_7 &&& (p1 ^^^ (-1))).toInt) (b := 0) rfl rfl c34
                            first
                              | exfalso; omega
                              | skip
                                try have t36 : (x6_7 + 1).toInt = x6_7.toInt + 1 := ia rfl rfl (by omega) (by omega)
                                intro z12 ez12
                                have t37 : z12.toInt = (x6_7 + 1).toInt := by rw [ez12] <;> rfl
                                refine ⟨_, ?_, rfl, by first | omega | assumption | exact AB.none (by omega) | exact AB.mono (by assumption) (by omega) (by omega) (by omega) (by omega), by first | omega | assumption | exact AB.none (by omega) | exact AB.mono (by assumption) (by omega) (by omega) (by omega) (by omega), by first | omega | assumption | exact AB.none (by omega) | exact AB.mono (by assumption) (by omega) (by omega) (by omega) (by omega), by first | omega | assumption | exact AB.none (by omega) | exact AB.mono (by assumption) (by omega) (by omega) (by omega) (by omega)⟩
                                omega
                          · skip
                            have t38 := ieq (a := (x6_7 &&& (p1 ^^^ (-1))).toInt) (b := 0) rfl rfl c34
                            first
                              | exfalso; omega
                              | skip
                                fail
              · skip
                have t39 := ieq (a := r5.toInt) (b := 0) rfl rfl c16
                first
                  | exfalso; omega
                  | skip
                    have t40 : ((-1) : Int32).toInt = (-1) := rfl
                    exact hk _ (by first | omega | assumption | exact AB.none (by omega) | exact AB.mono (by assumption) (by omega) (by omega) (by omega) (by omega))
set_option maxHeartbeats 1000000 in
set_option maxRecDepth 10000 in
theorem f_X7_bet {p1 : Int32} {p2 : Int32} {now_race_clocks : Int32} {now_bets_size : Int32} {now_bets_on : Nat → Int32} {now_bets_stake : Nat → Int32} {post : Int32 → (Int32) → (Nat → Int32) → (Nat → Int32) → Prop} (hp0 : now_race_clocks.toInt = 0) (hp1 : now_bets_size.toInt = 0) (hk : ∀ (r : Int32) (now_bets_size' : Int32) (now_bets_on' : Nat → Int32) (now_bets_stake' : Nat → Int32), (r.toInt = -1) → post r now_bets_size' now_bets_on' now_bets_stake') : wp_X7_bet p1 p2 now_race_clocks now_bets_size now_bets_on now_bets_stake post := by
  unfold wp_X7_bet
  refine f_X7_isClock (by first | omega | assumption | exact AB.none (by omega) | exact AB.mono (by assumption) (by omega) (by omega) (by omega) (by omega)) (fun r1 q1 => ?_)
  refine ⟨fun c2 => ?_, fun c2 => ?_⟩
  · skip
    have t3 := ieq (a := r1.toInt) (b := 0) rfl rfl c2
    first
      | exfalso; omega
      | skip
        have t4 : ((-1) : Int32).toInt = (-1) := rfl
        exact hk _ _ _ _ (by first | omega | assumption | exact AB.none (by omega) | exact AB.mono (by assumption) (by omega) (by omega) (by omega) (by omega))
  · skip
    have t5 := ine (a := r1.toInt) (b := 0) rfl rfl c2
    exfalso; omega
set_option maxHeartbeats 1000000 in
set_option maxRecDepth 10000 in
theorem f_X7_pays {p1 : Int32} {p2 : Int32} {now_race_clocks : Int32} {now_bets_size : Int32} {now_bets_on : Nat → Int32} {now_bets_stake : Nat → Int32} {post : Int32 → Prop} (hp0 : now_race_clocks.toInt = 0) (hp1 : now_bets_size.toInt = 0) (hk : ∀ (r : Int32), (r.toInt = -1) → post r) : wp_X7_pays p1 p2 now_race_clocks now_bets_size now_bets_on now_bets_stake post := by
  unfold wp_X7_pays
  have t1 : (0 : Int32).toInt = 0 := rfl
  try have t2 : (now_bets_size - 1).toInt = now_bets_size.toInt - 1 := isb rfl rfl (by omega) (by omega)
  refine f_X7_isIn  (fun r1 q3 => ?_)
  refine ⟨fun c4 => ?_, fun c4 => ?_⟩
  · skip
    have t5 := ieq (a := r1.toInt) (b := 0) rfl rfl c4
    first
      | exfalso; omega
      | skip
        have t6 : ((-1) : Int32).toInt = (-1) := rfl
        exact hk _ (by first | omega | assumption | exact AB.none (by omega) | exact AB.mono (by assumption) (by omega) (by omega) (by omega) (by omega))
  · skip
    have t7 := ine (a := r1.toInt) (b := 0) rfl rfl c4
    first
      | exfalso; omega
      | skip
        refine f_X7_isSet (by first | omega | assumption | exact AB.none (by omega) | exact AB.mono (by assumption) (by omega) (by omega) (by omega) (by omega)) (fun r3 q8 => ?_)
        refine ⟨fun c9 => ?_, fun c9 => ?_⟩
        · skip
          have t10 := ine (a := r3.toInt) (b := 0) rfl rfl c9
          first
            | exfalso; omega
            | skip
              fail
        · skip
          have t11 := ieq (a := r3.toInt) (b := 0) rfl rfl c9
          first
            | exfalso; omega
            | skip
              have t12 : ((-1) : Int32).toInt = (-1) := rfl
              exact hk _ (by first | omega | assumption | exact AB.none (by omega) | exact AB.mono (by assumption) (by omega) (by omega) (by omega) (by omega))
set_option maxHeartbeats 1000000 in
set_option maxRecDepth 10000 in
theorem f_X7_settle {now_bets_size : Int32} {post : Int32 → (Int32) → Prop} (hp0 : now_bets_size.toInt = 0) (hk : ∀ (r : Int32) (now_bets_size' : Int32), (r.toInt = 0) → post r now_bets_size') : wp_X7_settle now_bets_size post := by
  unfold wp_X7_settle
  have t1 : (0 : Int32).toInt = 0 := rfl
  exact hk _ _ (by first | omega | assumption | exact AB.none (by omega) | exact AB.mono (by assumption) (by omega) (by omega) (by omega) (by omega))
set_option maxHeartbeats 1000000 in
set_option maxRecDepth 10000 in
theorem f_X7_lots {p1 : Int32} {now_draw : Int32} {now_race_windows : Int32} {now_race_dials : Nat → Int32} {now_race_clocks : Int32} {now_race_kind : Nat → Int32} {now_race_hands : Nat → Int32} {now_race_rate : Nat → Int32} {now_race_spring : Nat → Int32} {now_race_window : Nat → Int32} {now_race_finish : Nat → Int32} {now_race_skies : Int32} {now_race_sky : Nat → Int32} {now_race_hour : Int32} {now_race_heard : Int32} {now_race_strokes : Int32} {post : Int32 → (Int32) → (Nat → Int32) → (Nat → Int32) → (Nat → Int32) → (Nat → Int32) → (Nat → Int32) → (Int32) → (Int32) → (Int32) → Prop} (hp0 : now_draw.toInt = 1) (hp1 : now_race_windows.toInt = 8) (hp2 : now_race_clocks.toInt = 0) (hp3 : now_race_skies.toInt = 1) (hp4 : 0 ≤ now_race_hour.toInt) (hp5 : now_race_hour.toInt ≤ 1000) (hp6 : AB now_race_dials 0 24 12 12) (hp7 : AB now_race_sky 0 12 0 0) (hp8 : now_race_heard.toInt = 0) (hp9 : now_race_strokes.toInt = 0) (hp10 : now_race_hour.toInt = 0) (hk : ∀ (r : Int32) (now_draw' : Int32) (now_race_dials' : Nat → Int32) (now_race_hands' : Nat → Int32) (now_race_spring' : Nat → Int32) (now_race_window' : Nat → Int32) (now_race_finish' : Nat → Int32) (now_race_hour' : Int32) (now_race_heard' : Int32) (now_race_strokes' : Int32), (((1 ≤ p1.toInt ∧ p1.toInt ≤ 60) ∧ r.toInt = 0) ∨ (¬ (1 ≤ p1.toInt ∧ p1.toInt ≤ 60) ∧ r.toInt = -1)) → post r now_draw' now_race_dials' now_race_hands' now_race_spring' now_race_window' now_race_finish' now_race_hour' now_race_heard' now_race_strokes') : wp_X7_lots p1 now_draw now_race_windows now_race_dials now_race_clocks now_race_kind now_race_hands now_race_rate now_race_spring now_race_window now_race_finish now_race_skies now_race_sky now_race_hour now_race_heard now_race_strokes post := by
  unfold wp_X7_lots
  have t1 : (1 : Int32).toInt = 1 := rfl
  have t2 : (60 : Int32).toInt = 60 := rfl
  refine f_X7_isIn  (fun r1 q3 => ?_)
  refine ⟨fun c4 => ?_, fun c4 => ?_⟩
  · skip
    have t5 := ine (a := r1.toInt) (b := 0) rfl rfl c4
    first
      | exfalso; omega
      | skip
        try have t6 : (now_race_hour + p1).toInt = now_race_hour.toInt + p1.toInt := ia rfl rfl (by omega) (by omega)
        refine ⟨fun c7 => ?_, fun c7 => ?_⟩
        · skip
          have t8 := ile (a := (now_race_hour + p1).toInt) (b := 9999) rfl rfl c7
          first
            | exfalso; omega
            | skip
              have t9 : ((0 : Int32)).toInt = 0 := rfl
              have t10 : ((0 : Int32)).toInt = 0 := rfl
              refine ⟨fun n4 x2_4 x3_4 now_draw_4 now_race_dials_4 now_race_hands_4 now_race_spring_4 now_race_window_4 now_race_finish_4 now_race_hour_4 now_race_heard_4 now_race_strokes_4 => n4 = (p1.toInt - x3_4.toInt).toNat ∧ (0 ≤ now_race_hour_4.toInt) ∧ (now_race_hour_4.toInt ≤ 1000) ∧ (AB now_race_dials_4 0 24 12 12) ∧ (now_race_heard_4.toInt = 0) ∧ (now_race_strokes_4.toInt = 0) ∧ (0 ≤ x3_4.toInt) ∧ (x2_4.toInt = 0) ∧ (now_race_hour_4.toInt ≤ now_race_hour.toInt + x3_4.toInt), ⟨_, rfl, by first | omega | assumption | exact AB.none (by omega) | exact AB.mono (by assumption) (by omega) (by omega) (by omega) (by omega), by first | omega | assumption | exact AB.none (by omega) | exact AB.mono (by assumption) (by omega) (by omega) (by omega) (by omega), by first | omega | assumption | exact AB.none (by omega) | exact AB.mono (by assumption) (by omega) (by omega) (by omega) (by omega), by first | omega | assumption | exact AB.none (by omega) | exact AB.mono (by assumption) (by omega) (by omega) (by omega) (by omega), by first | omega | assumption | exact AB.none (by omega) | exact AB.mono (by assumption) (by omega) (by omega) (by omega) (by omega), by first | omega | assumption | exact AB.none (by omega) | exact AB.mono (by assumption) (by omega) (by omega) (by omega) (by omega), by first | omega | assumption | exact AB.none (by omega) | exact AB.mono (by assumption) (by omega) (by omega) (by omega) (by omega), by first | omega | assumption | exact AB.none (by omega) | exact AB.mono (by assumption) (by omega) (by omega) (by omega) (by omega)⟩, ?_⟩
              rintro n4 x2_4 x3_4 now_draw_4 now_race_dials_4 now_race_hands_4 now_race_spring_4 now_race_window_4 now_race_finish_4 now_race_hour_4 now_race_heard_4 now_race_strokes_4 ⟨hn4, q11, q12, q13, q14, q15, q16, q17, q18⟩
              refine ⟨fun c19 => ?_, fun c19 => ?_⟩
              · skip
                have t20 := ile (a := p1.toInt) (b := x3_4.toInt) rfl rfl c19
                first
                  | exfalso; omega
                  | skip
                    exact hk _ _ _ _ _ _ _ _ _ _ (by first | omega | assumption | exact AB.none (by omega) | exact AB.mono (by assumption) (by omega) (by omega) (by omega) (by omega))
              · skip
                have t21 := inle (a := p1.toInt) (b := x3_4.toInt) rfl rfl c19
                first
                  | exfalso; omega
                  | skip
                    refine f_X6_drawWeather  (fun r6 now_draw_7 => ?_)
                    refine f_X2_pass (by first | omega | assumption | exact AB.none (by omega) | exact AB.mono (by assumption) (by omega) (by omega) (by omega) (by omega)) (by first | omega | assumption | exact AB.none (by omega) | exact AB.mono (by assumption) (by omega) (by omega) (by omega) (by omega)) (by first | omega | assumption | exact AB.none (by omega) | exact AB.mono (by assumption) (by omega) (by omega) (by omega) (by omega)) (by first | omega | assumption | exact AB.none (by omega) | exact AB.mono (by assumption) (by omega) (by omega) (by omega) (by omega)) (by first | omega | assumption | exact AB.none (by omega) | exact AB.mono (by assumption) (by omega) (by omega) (by omega) (by omega)) (by first | omega | assumption | exact AB.none (by omega) | exact AB.mono (by assumption) (by omega) (by omega) (by omega) (by omega)) (by first | omega | assumption | exact AB.none (by omega) | exact AB.mono (by assumption) (by omega) (by omega) (by omega) (by omega)) (by first | omega | assumption | exact AB.none (by omega) | exact AB.mono (by assumption) (by omega) (by omega) (by omega) (by omega)) (by first | omega | assumption | exact AB.none (by omega) | exact AB.mono (by assumption) (by omega) (by omega) (by omega) (by omega)) (by first | omega | assumption | exact AB.none (by omega) | exact AB.mono (by assumption) (by omega) (by omega) (by omega) (by omega)) (fun r8 now_race_dials_9 now_race_hands_10 now_race_spring_11 now_race_window_12 now_race_finish_13 now_race_hour_14 now_race_heard_15 now_race_strokes_16 q22 q23 q24 q25 q26 q27 q28 => ?_)
                    try have t29 : (x2_4 + r8).toInt = x2_4.toInt + r8.toInt := ia rfl rfl (by omega) (by omega)
                    intro z17 ez17
                    have t30 : z17.toInt = (x2_4 + r8).toInt := by rw [ez17] <;> rfl
                    try have t31 : (x3_4 + 1).toInt = x3_4.toInt + 1 := ia rfl rfl (by omega) (by omega)
                    intro z18 ez18
                    have t32 : z18.toInt = (x3_4 + 1).toInt := by rw [ez18] <;> rfl
                    refine ⟨_, ?_, rfl, by first | omega | assumption | exact AB.none (by omega) | exact AB.mono (by assumption) (by omega) (by omega) (by omega) (by omega), by first | omega | assumption | exact AB.none (by omega) | exact AB.mono (by assumption) (by omega) (by omega) (by omega) (by omega), by first | omega | assumption | exact AB.none (by omega) | exact AB.mono (by assumption) (by omega) (by omega) (by omega) (by omega), by first | omega | assumption | exact AB.none (by omega) | exact AB.mono (by assumption) (by omega) (by omega) (by omega) (by omega), by first | omega | assumption | exact AB.none (by omega) | exact AB.mono (by assumption) (by omega) (by omega) (by omega) (by omega), by first | omega | assumption | exact AB.none (by omega) | exact AB.mono (by assumption) (by omega) (by omega) (by omega) (by omega), by first | omega | assumption | exact AB.none (by omega) | exact AB.mono (by assumption) (by omega) (by omega) (by omega) (by omega), by first | omega | assumption | exact AB.none (by omega) | exact AB.mono (by assumption) (by omega) (by omega) (by omega) (by omega)⟩
                    omega
        · skip
          have t33 := inle (a := (now_race_hour + p1).toInt) (b := 9999) rfl rfl c7
          first
            | exfalso; omega
            | skip
              have t34 : ((-3) : Int32).toInt = (-3) := rfl
              exact hk _ _ _ _ _ _ _ _ _ _ (by first | omega | assumption | exact AB.none (by omega) | exact AB.mono (by assumption) (by omega) (by omega) (by omega) (by omega))
  · skip
    have t35 := ieq (a := r1.toInt) (b := 0) rfl rfl c4
    first
      | exfalso; omega
      | skip
        have t36 : ((-1) : Int32).toInt = (-1) := rfl
        exact hk _ _ _ _ _ _ _ _ _ _ (by first | omega | assumption | exact AB.none (by omega) | exact AB.mono (by assumption) (by omega) (by omega) (by omega) (by omega))
set_option maxHeartbeats 1000000 in
set_option maxRecDepth 10000 in
theorem f_X7_seed {p1 : Int32} {now_draw : Int32} {post : Int32 → (Int32) → Prop} (hp0 : now_draw.toInt = 1) (hk : ∀ (r : Int32) (now_draw' : Int32), (((0 ≤ p1.toInt) ∧ r.toInt = 1) ∨ (¬ (0 ≤ p1.toInt) ∧ r.toInt = -1)) → post r now_draw') : wp_X7_seed p1 now_draw post := by
  unfold wp_X7_seed
  refine ⟨fun c1 => ?_, fun c1 => ?_⟩
  · skip
    have t2 := ile (a := 0) (b := p1.toInt) rfl rfl c1
    first
      | exfalso; omega
      | skip
        exact hk _ _ (by first | omega | assumption | exact AB.none (by omega) | exact AB.mono (by assumption) (by omega) (by omega) (by omega) (by omega))
  · skip
    have t3 := inle (a := 0) (b := p1.toInt) rfl rfl c1
    first
      | exfalso; omega
      | skip
        have t4 : ((-1) : Int32).toInt = (-1) := rfl
        exact hk _ _ (by first | omega | assumption | exact AB.none (by omega) | exact AB.mono (by assumption) (by omega) (by omega) (by omega) (by omega))
set_option maxHeartbeats 1000000 in
set_option maxRecDepth 10000 in
theorem f_X7_image {v_hasImage : Int32} {now_draw : Int32} {now_race_windows : Int32} {now_race_dials : Nat → Int32} {now_race_clocks : Int32} {now_race_kind : Nat → Int32} {now_race_hands : Nat → Int32} {now_race_rate : Nat → Int32} {now_race_spring : Nat → Int32} {now_race_window : Nat → Int32} {now_race_finish : Nat → Int32} {now_race_skies : Int32} {now_race_sky : Nat → Int32} {now_race_hour : Int32} {now_race_heard : Int32} {now_race_strokes : Int32} {now_bets_size : Int32} {now_bets_on : Nat → Int32} {now_bets_stake : Nat → Int32} {now_repairs_known : Int32} {now_repairs_act : Nat → Int32} {now_repairs_whom : Nat → Int32} {now_repairs_was : Nat → Int32} {kept_draw : Int32} {kept_race_windows : Int32} {kept_race_dials : Nat → Int32} {kept_race_clocks : Int32} {kept_race_kind : Nat → Int32} {kept_race_hands : Nat → Int32} {kept_race_rate : Nat → Int32} {kept_race_spring : Nat → Int32} {kept_race_window : Nat → Int32} {kept_race_finish : Nat → Int32} {kept_race_skies : Int32} {kept_race_sky : Nat → Int32} {kept_race_hour : Int32} {kept_race_heard : Int32} {kept_race_strokes : Int32} {kept_bets_size : Int32} {kept_bets_on : Nat → Int32} {kept_bets_stake : Nat → Int32} {kept_repairs_known : Int32} {kept_repairs_act : Nat → Int32} {kept_repairs_whom : Nat → Int32} {kept_repairs_was : Nat → Int32} {post : Int32 → (Int32) → (Int32) → (Int32) → (Nat → Int32) → (Int32) → (Nat → Int32) → (Nat → Int32) → (Nat → Int32) → (Nat → Int32) → (Nat → Int32) → (Nat → Int32) → (Int32) → (Nat → Int32) → (Int32) → (Int32) → (Int32) → (Int32) → (Nat → Int32) → (Nat → Int32) → (Int32) → (Nat → Int32) → (Nat → Int32) → (Nat → Int32) → Prop} (hp0 : v_hasImage.toInt = 0) (hp1 : now_draw.toInt = 1) (hp2 : now_race_windows.toInt = 8) (hp3 : now_race_clocks.toInt = 0) (hp4 : now_race_skies.toInt = 1) (hp5 : 0 ≤ now_race_hour.toInt) (hp6 : now_race_hour.toInt ≤ 1000) (hp7 : AB now_race_dials 0 24 12 12) (hp8 : AB now_race_sky 0 12 0 0) (hp9 : now_race_heard.toInt = 0) (hp10 : now_race_strokes.toInt = 0) (hp11 : now_bets_size.toInt = 0) (hp12 : now_repairs_known.toInt = 0) (hp13 : kept_draw.toInt = 1) (hp14 : kept_race_windows.toInt = 8) (hp15 : kept_race_clocks.toInt = 0) (hp16 : kept_race_skies.toInt = 1) (hp17 : 0 ≤ kept_race_hour.toInt) (hp18 : kept_race_hour.toInt ≤ 1000) (hp19 : AB kept_race_dials 0 24 12 12) (hp20 : AB kept_race_sky 0 12 0 0) (hp21 : kept_race_heard.toInt = 0) (hp22 : kept_race_strokes.toInt = 0) (hp23 : kept_bets_size.toInt = 0) (hp24 : kept_repairs_known.toInt = 0) (hp25 : now_race_hour.toInt = 0) (hk : ∀ (r : Int32) (v_hasImage' : Int32) (kept_draw' : Int32) (kept_race_windows' : Int32) (kept_race_dials' : Nat → Int32) (kept_race_clocks' : Int32) (kept_race_kind' : Nat → Int32) (kept_race_hands' : Nat → Int32) (kept_race_rate' : Nat → Int32) (kept_race_spring' : Nat → Int32) (kept_race_window' : Nat → Int32) (kept_race_finish' : Nat → Int32) (kept_race_skies' : Int32) (kept_race_sky' : Nat → Int32) (kept_race_hour' : Int32) (kept_race_heard' : Int32) (kept_race_strokes' : Int32) (kept_bets_size' : Int32) (kept_bets_on' : Nat → Int32) (kept_bets_stake' : Nat → Int32) (kept_repairs_known' : Int32) (kept_repairs_act' : Nat → Int32) (kept_repairs_whom' : Nat → Int32) (kept_repairs_was' : Nat → Int32), (r.toInt = 1) → post r v_hasImage' kept_draw' kept_race_windows' kept_race_dials' kept_race_clocks' kept_race_kind' kept_race_hands' kept_race_rate' kept_race_spring' kept_race_window' kept_race_finish' kept_race_skies' kept_race_sky' kept_race_hour' kept_race_heard' kept_race_strokes' kept_bets_size' kept_bets_on' kept_bets_stake' kept_repairs_known' kept_repairs_act' kept_repairs_whom' kept_repairs_was') : wp_X7_image v_hasImage now_draw now_race_windows now_race_dials now_race_clocks now_race_kind now_race_hands now_race_rate now_race_spring now_race_window now_race_finish now_race_skies now_race_sky now_race_hour now_race_heard now_race_strokes now_bets_size now_bets_on now_bets_stake now_repairs_known now_repairs_act now_repairs_whom now_repairs_was kept_draw kept_race_windows kept_race_dials kept_race_clocks kept_race_kind kept_race_hands kept_race_rate kept_race_spring kept_race_window kept_race_finish kept_race_skies kept_race_sky kept_race_hour kept_race_heard kept_race_strokes kept_bets_size kept_bets_on kept_bets_stake kept_repairs_known kept_repairs_act kept_repairs_whom kept_repairs_was post := by
  unfold wp_X7_image
  refine f_X6_become (by first | omega | assumption | exact AB.none (by omega) | exact AB.mono (by assumption) (by omega) (by omega) (by omega) (by omega)) (by first | omega | assumption | exact AB.none (by omega) | exact AB.mono (by assumption) (by omega) (by omega) (by omega) (by omega)) (by first | omega | assumption | exact AB.none (by omega) | exact AB.mono (by assumption) (by omega) (by omega) (by omega) (by omega)) (by first | omega | assumption | exact AB.none (by omega) | exact AB.mono (by assumption) (by omega) (by omega) (by omega) (by omega)) (by first | omega | assumption | exact AB.none (by omega) | exact AB.mono (by assumption) (by omega) (by omega) (by omega) (by omega)) (by first | omega | assumption | exact AB.none (by omega) | exact AB.mono (by assumption) (by omega) (by omega) (by omega) (by omega)) (by first | omega | assumption | exact AB.none (by omega) | exact AB.mono (by assumption) (by omega) (by omega) (by omega) (by omega)) (by first | omega | assumption | exact AB.none (by omega) | exact AB.mono (by assumption) (by omega) (by omega) (by omega) (by omega)) (by first | omega | assumption | exact AB.none (by omega) | exact AB.mono (by assumption) (by omega) (by omega) (by omega) (by omega)) (by first | omega | assumption | exact AB.none (by omega) | exact AB.mono (by assumption) (by omega) (by omega) (by omega) (by omega)) (by first | omega | assumption | exact AB.none (by omega) | exact AB.mono (by assumption) (by omega) (by omega) (by omega) (by omega)) (by first | omega | assumption | exact AB.none (by omega) | exact AB.mono (by assumption) (by omega) (by omega) (by omega) (by omega)) (by first | omega | assumption | exact AB.none (by omega) | exact AB.mono (by assumption) (by omega) (by omega) (by omega) (by omega)) (by first | omega | assumption | exact AB.none (by omega) | exact AB.mono (by assumption) (by omega) (by omega) (by omega) (by omega)) (by first | omega | assumption | exact AB.none (by omega) | exact AB.mono (by assumption) (by omega) (by omega) (by omega) (by omega)) (by first | omega | assumption | exact AB.none (by omega) | exact AB.mono (by assumption) (by omega) (by omega) (by omega) (by omega)) (by first | omega | assumption | exact AB.none (by omega) | exact AB.mono (by assumption) (by omega) (by omega) (by omega) (by omega)) (by first | omega | assumption | exact AB.none (by omega) | exact AB.mono (by assumption) (by omega) (by omega) (by omega) (by omega)) (by first | omega | assumption | exact AB.none (by omega) | exact AB.mono (by assumption) (by omega) (by omega) (by omega) (by omega)) (by first | omega | assumption | exact AB.none (by omega) | exact AB.mono (by assumption) (by omega) (by omega) (by omega) (by omega)) (by first | omega | assumption | exact AB.none (by omega) | exact AB.mono (by assumption) (by omega) (by omega) (by omega) (by omega)) (by first | omega | assumption | exact AB.none (by omega) | exact AB.mono (by assumption) (by omega) (by omega) (by omega) (by omega)) (by first | omega | assumption | exact AB.none (by omega) | exact AB.mono (by assumption) (by omega) (by omega) (by omega) (by omega)) (by first | omega | assumption | exact AB.none (by omega) | exact AB.mono (by assumption) (by omega) (by omega) (by omega) (by omega)) (fun kept_draw_2 kept_race_windows_3 kept_race_dials_4 kept_race_clocks_5 kept_race_kind_6 kept_race_hands_7 kept_race_rate_8 kept_race_spring_9 kept_race_window_10 kept_race_finish_11 kept_race_skies_12 kept_race_sky_13 kept_race_hour_14 kept_race_heard_15 kept_race_strokes_16 kept_bets_size_17 kept_bets_on_18 kept_bets_stake_19 kept_repairs_known_20 kept_repairs_act_21 kept_repairs_whom_22 kept_repairs_was_23 q1 q2 q3 q4 q5 q6 q7 q8 q9 q10 q11 q12 => ?_)
  have t13 : (1 : Int32).toInt = 1 := rfl
  exact hk _ _ _ _ _ _ _ _ _ _ _ _ _ _ _ _ _ _ _ _ _ _ _ _ (by first | omega | assumption | exact AB.none (by omega) | exact AB.mono (by assumption) (by omega) (by omega) (by omega) (by omega))
set_option maxHeartbeats 1000000 in
set_option maxRecDepth 10000 in
theorem f_X7_restore {v_hasImage : Int32} {now_draw : Int32} {now_race_windows : Int32} {now_race_dials : Nat → Int32} {now_race_clocks : Int32} {now_race_kind : Nat → Int32} {now_race_hands : Nat → Int32} {now_race_rate : Nat → Int32} {now_race_spring : Nat → Int32} {now_race_window : Nat → Int32} {now_race_finish : Nat → Int32} {now_race_skies : Int32} {now_race_sky : Nat → Int32} {now_race_hour : Int32} {now_race_heard : Int32} {now_race_strokes : Int32} {now_bets_size : Int32} {now_bets_on : Nat → Int32} {now_bets_stake : Nat → Int32} {now_repairs_known : Int32} {now_repairs_act : Nat → Int32} {now_repairs_whom : Nat → Int32} {now_repairs_was : Nat → Int32} {kept_draw : Int32} {kept_race_windows : Int32} {kept_race_dials : Nat → Int32} {kept_race_clocks : Int32} {kept_race_kind : Nat → Int32} {kept_race_hands : Nat → Int32} {kept_race_rate : Nat → Int32} {kept_race_spring : Nat → Int32} {kept_race_window : Nat → Int32} {kept_race_finish : Nat → Int32} {kept_race_skies : Int32} {kept_race_sky : Nat → Int32} {kept_race_hour : Int32} {kept_race_heard : Int32} {kept_race_strokes : Int32} {kept_bets_size : Int32} {kept_bets_on : Nat → Int32} {kept_bets_stake : Nat → Int32} {kept_repairs_known : Int32} {kept_repairs_act : Nat → Int32} {kept_repairs_whom : Nat → Int32} {kept_repairs_was : Nat → Int32} {post : Int32 → (Int32) → (Int32) → (Nat → Int32) → (Int32) → (Nat → Int32) → (Nat → Int32) → (Nat → Int32) → (Nat → Int32) → (Nat → Int32) → (Nat → Int32) → (Int32) → (Nat → Int32) → (Int32) → (Int32) → (Int32) → (Int32) → (Nat → Int32) → (Nat → Int32) → (Int32) → (Nat → Int32) → (Nat → Int32) → (Nat → Int32) → Prop} (hp0 : v_hasImage.toInt = 0) (hp1 : now_draw.toInt = 1) (hp2 : now_race_windows.toInt = 8) (hp3 : now_race_clocks.toInt = 0) (hp4 : now_race_skies.toInt = 1) (hp5 : 0 ≤ now_race_hour.toInt) (hp6 : now_race_hour.toInt ≤ 1000) (hp7 : AB now_race_dials 0 24 12 12) (hp8 : AB now_race_sky 0 12 0 0) (hp9 : now_race_heard.toInt = 0) (hp10 : now_race_strokes.toInt = 0) (hp11 : now_bets_size.toInt = 0) (hp12 : now_repairs_known.toInt = 0) (hp13 : kept_draw.toInt = 1) (hp14 : kept_race_windows.toInt = 8) (hp15 : kept_race_clocks.toInt = 0) (hp16 : kept_race_skies.toInt = 1) (hp17 : 0 ≤ kept_race_hour.toInt) (hp18 : kept_race_hour.toInt ≤ 1000) (hp19 : AB kept_race_dials 0 24 12 12) (hp20 : AB kept_race_sky 0 12 0 0) (hp21 : kept_race_heard.toInt = 0) (hp22 : kept_race_strokes.toInt = 0) (hp23 : kept_bets_size.toInt = 0) (hp24 : kept_repairs_known.toInt = 0) (hp25 : now_race_hour.toInt = 0) (hk : ∀ (r : Int32) (now_draw' : Int32) (now_race_windows' : Int32) (now_race_dials' : Nat → Int32) (now_race_clocks' : Int32) (now_race_kind' : Nat → Int32) (now_race_hands' : Nat → Int32) (now_race_rate' : Nat → Int32) (now_race_spring' : Nat → Int32) (now_race_window' : Nat → Int32) (now_race_finish' : Nat → Int32) (now_race_skies' : Int32) (now_race_sky' : Nat → Int32) (now_race_hour' : Int32) (now_race_heard' : Int32) (now_race_strokes' : Int32) (now_bets_size' : Int32) (now_bets_on' : Nat → Int32) (now_bets_stake' : Nat → Int32) (now_repairs_known' : Int32) (now_repairs_act' : Nat → Int32) (now_repairs_whom' : Nat → Int32) (now_repairs_was' : Nat → Int32), (r.toInt = -4) → post r now_draw' now_race_windows' now_race_dials' now_race_clocks' now_race_kind' now_race_hands' now_race_rate' now_race_spring' now_race_window' now_race_finish' now_race_skies' now_race_sky' now_race_hour' now_race_heard' now_race_strokes' now_bets_size' now_bets_on' now_bets_stake' now_repairs_known' now_repairs_act' now_repairs_whom' now_repairs_was') : wp_X7_restore v_hasImage now_draw now_race_windows now_race_dials now_race_clocks now_race_kind now_race_hands now_race_rate now_race_spring now_race_window now_race_finish now_race_skies now_race_sky now_race_hour now_race_heard now_race_strokes now_bets_size now_bets_on now_bets_stake now_repairs_known now_repairs_act now_repairs_whom now_repairs_was kept_draw kept_race_windows kept_race_dials kept_race_clocks kept_race_kind kept_race_hands kept_race_rate kept_race_spring kept_race_window kept_race_finish kept_race_skies kept_race_sky kept_race_hour kept_race_heard kept_race_strokes kept_bets_size kept_bets_on kept_bets_stake kept_repairs_known kept_repairs_act kept_repairs_whom kept_repairs_was post := by
  unfold wp_X7_restore
  refine ⟨fun c1 => ?_, fun c1 => ?_⟩
  · skip
    have t2 := ine (a := v_hasImage.toInt) (b := 0) rfl rfl c1
    exfalso; omega
  · skip
    have t3 := ieq (a := v_hasImage.toInt) (b := 0) rfl rfl c1
    first
      | exfalso; omega
      | skip
        have t4 : ((-4) : Int32).toInt = (-4) := rfl
        exact hk _ _ _ _ _ _ _ _ _ _ _ _ _ _ _ _ _ _ _ _ _ _ _ (by first | omega | assumption | exact AB.none (by omega) | exact AB.mono (by assumption) (by omega) (by omega) (by omega) (by omega))
set_option maxHeartbeats 1000000 in
set_option maxRecDepth 10000 in
theorem f_X7_isSheet {p1 : Int32} {post : Int32 → Prop} (hk : ∀ (r : Int32), (((0 ≤ p1.toInt ∧ p1.toInt ≤ 3) ∧ r.toInt = 1) ∨ (¬ (0 ≤ p1.toInt ∧ p1.toInt ≤ 3) ∧ r.toInt = 0)) → post r) : wp_X7_isSheet p1 post := by
  unfold wp_X7_isSheet
  have t1 : (0 : Int32).toInt = 0 := rfl
  have t2 : (3 : Int32).toInt = 3 := rfl
  refine f_X7_isIn  (fun r1 q3 => ?_)
  refine ⟨i01 (a := r1.toInt) rfl (by omega), ?_⟩
  exact hk _ (by first | omega | assumption | exact AB.none (by omega) | exact AB.mono (by assumption) (by omega) (by omega) (by omega) (by omega))
set_option maxHeartbeats 1000000 in
set_option maxRecDepth 10000 in
theorem f_X7_isLane {p1 : Int32} {post : Int32 → Prop} (hk : ∀ (r : Int32), (((0 ≤ p1.toInt ∧ p1.toInt ≤ 3) ∧ r.toInt = 1) ∨ (¬ (0 ≤ p1.toInt ∧ p1.toInt ≤ 3) ∧ r.toInt = 0)) → post r) : wp_X7_isLane p1 post := by
  unfold wp_X7_isLane
  have t1 : (0 : Int32).toInt = 0 := rfl
  have t2 : (3 : Int32).toInt = 3 := rfl
  refine f_X7_isIn  (fun r1 q3 => ?_)
  refine ⟨i01 (a := r1.toInt) rfl (by omega), ?_⟩
  exact hk _ (by first | omega | assumption | exact AB.none (by omega) | exact AB.mono (by assumption) (by omega) (by omega) (by omega) (by omega))
set_option maxHeartbeats 1000000 in
set_option maxRecDepth 10000 in
theorem f_X7_dress {p1 : Int32} {p2 : Int32} {p3 : Int32} {p4 : Int32} {now_race_windows : Int32} {now_race_dials : Nat → Int32} {sheets0_isThere : Int32} {sheets0_lane : Int32} {sheets0_size : Int32} {sheets0_items : Nat → Int64} {sheets1_isThere : Int32} {sheets1_lane : Int32} {sheets1_size : Int32} {sheets1_items : Nat → Int64} {sheets2_isThere : Int32} {sheets2_lane : Int32} {sheets2_size : Int32} {sheets2_items : Nat → Int64} {sheets3_isThere : Int32} {sheets3_lane : Int32} {sheets3_size : Int32} {sheets3_items : Nat → Int64} {post : Int32 → (Nat → Int32) → Prop} (hp0 : now_race_windows.toInt = 8) (hp1 : AB now_race_dials 0 24 12 12) (hp2 : sheets0_isThere.toInt = 0) (hp3 : sheets0_size.toInt = 0) (hp4 : sheets1_isThere.toInt = 0) (hp5 : sheets1_size.toInt = 0) (hp6 : sheets2_isThere.toInt = 0) (hp7 : sheets2_size.toInt = 0) (hp8 : sheets3_isThere.toInt = 0) (hp9 : sheets3_size.toInt = 0) (hk : ∀ (r : Int32) (now_race_dials' : Nat → Int32), (((0 ≤ p1.toInt ∧ p1.toInt ≤ 3 ∧ 0 ≤ p2.toInt ∧ p2.toInt ≤ 3 ∧ 1 ≤ p4.toInt ∧ p4.toInt ≤ 8) ∧ r.toInt = -11) ∨ (¬ (0 ≤ p1.toInt ∧ p1.toInt ≤ 3 ∧ 0 ≤ p2.toInt ∧ p2.toInt ≤ 3 ∧ 1 ≤ p4.toInt ∧ p4.toInt ≤ 8) ∧ r.toInt = -1)) → post r now_race_dials') : wp_X7_dress p1 p2 p3 p4 now_race_windows now_race_dials sheets0_isThere sheets0_lane sheets0_size sheets0_items sheets1_isThere sheets1_lane sheets1_size sheets1_items sheets2_isThere sheets2_lane sheets2_size sheets2_items sheets3_isThere sheets3_lane sheets3_size sheets3_items post := by
  unfold wp_X7_dress
  refine f_X7_isSheet  (fun r1 q1 => ?_)
  refine ⟨fun c2 => ?_, fun c2 => ?_⟩
  · skip
    have t3 := ieq (a := r1.toInt) (b := 0) rfl rfl c2
    first
      | exfalso; omega
      | skip
        have t4 : ((-1) : Int32).toInt = (-1) := rfl
        exact hk _ _ (by first | omega | assumption | exact AB.none (by omega) | exact AB.mono (by assumption) (by omega) (by omega) (by omega) (by omega))
  · skip
    have t5 := ine (a := r1.toInt) (b := 0) rfl rfl c2
    first
      | exfalso; omega
      | skip
        refine f_X7_isLane  (fun r3 q6 => ?_)
        refine ⟨fun c7 => ?_, fun c7 => ?_⟩
        · skip
          have t8 := ieq (a := r3.toInt) (b := 0) rfl rfl c7
          first
            | exfalso; omega
            | skip
              have t9 : ((-1) : Int32).toInt = (-1) := rfl
              exact hk _ _ (by first | omega | assumption | exact AB.none (by omega) | exact AB.mono (by assumption) (by omega) (by omega) (by omega) (by omega))
        · skip
          have t10 := ine (a := r3.toInt) (b := 0) rfl rfl c7
          first
            | exfalso; omega
            | skip
              have t11 : (1 : Int32).toInt = 1 := rfl
              refine f_X7_isIn  (fun r5 q12 => ?_)
              refine ⟨fun c13 => ?_, fun c13 => ?_⟩
              · skip
                have t14 := ine (a := r5.toInt) (b := 0) rfl rfl c13
                first
                  | exfalso; omega
                  | skip
                    refine ⟨ivp (a := p1.toInt) rfl (by omega) (by omega), ?_⟩
                    refine ⟨fun c15 => ?_, fun c15 => ?_⟩
                    · skip
                      have t16 := ieq (a := p1.toInt) (b := 0) rfl rfl c15
                      first
                        | exfalso; omega
                        | skip
                          refine f_X4_refusal (by first | omega | assumption | exact AB.none (by omega) | exact AB.mono (by assumption) (by omega) (by omega) (by omega) (by omega)) (by first | omega | assumption | exact AB.none (by omega) | exact AB.mono (by assumption) (by omega) (by omega) (by omega) (by omega)) (fun r8 q17 => ?_)
                          refine ⟨fun c18 => ?_, fun c18 => ?_⟩
                          · skip
                            have t19 := ieq (a := r8.toInt) (b := 0) rfl rfl c18
                            exfalso; omega
                          · skip
                            have t20 := ine (a := r8.toInt) (b := 0) rfl rfl c18
                            first
                              | exfalso; omega
                              | skip
                                exact hk _ _ (by first | omega | assumption | exact AB.none (by omega) | exact AB.mono (by assumption) (by omega) (by omega) (by omega) (by omega))
                    · skip
                      have t21 := ine (a := p1.toInt) (b := 0) rfl rfl c15
                      first
                        | exfalso; omega
                        | skip
                          refine ⟨fun c22 => ?_, fun c22 => ?_⟩
                          · skip
                            have t23 := ieq (a := p1.toInt) (b := 1) rfl rfl c22
                            first
                              | exfalso; omega
                              | skip
                                refine f_X4_refusal (by first | omega | assumption | exact AB.none (by omega) | exact AB.mono (by assumption) (by omega) (by omega) (by omega) (by omega)) (by first | omega | assumption | exact AB.none (by omega) | exact AB.mono (by assumption) (by omega) (by omega) (by omega) (by omega)) (fun r22 q24 => ?_)
                                refine ⟨fun c25 => ?_, fun c25 => ?_⟩
                                · skip
                                  have t26 := ieq (a := r22.toInt) (b := 0) rfl rfl c25
                                  exfalso; omega
                                · skip
                                  have t27 := ine (a := r22.toInt) (b := 0) rfl rfl c25
                                  first
                                    | exfalso; omega
                                    | skip
                                      exact hk _ _ (by first | omega | assumption | exact AB.none (by omega) | exact AB.mono (by assumption) (by omega) (by omega) (by omega) (by omega))
                          · skip
                            have t28 := ine (a := p1.toInt) (b := 1) rfl rfl c22
                            first
                              | exfalso; omega
                              | skip
                                refine ⟨fun c29 => ?_, fun c29 => ?_⟩
                                · skip
                                  have t30 := ieq (a := p1.toInt) (b := 2) rfl rfl c29
                                  first
                                    | exfalso; omega
                                    | skip
                                      refine f_X4_refusal (by first | omega | assumption | exact AB.none (by omega) | exact AB.mono (by assumption) (by omega) (by omega) (by omega) (by omega)) (by first | omega | assumption | exact AB.none (by omega) | exact AB.mono (by assumption) (by omega) (by omega) (by omega) (by omega)) (fun r36 q31 => ?_)
                                      refine ⟨fun c32 => ?_, fun c32 => ?_⟩
                                      · skip
                                        have t33 := ieq (a := r36.toInt) (b := 0) rfl rfl c32
                                        exfalso; omega
                                      · skip
                                        have t34 := ine (a := r36.toInt) (b := 0) rfl rfl c32
                                        first
                                          | exfalso; omega
                                          | skip
                                            exact hk _ _ (by first | omega | assumption | exact AB.none (by omega) | exact AB.mono (by assumption) (by omega) (by omega) (by omega) (by omega))
                                · skip
                                  have t35 := ine (a := p1.toInt) (b := 2) rfl rfl c29
                                  first
                                    | exfalso; omega
                                    | skip
                                      intro c36
                                      have t37 := ieq (a := p1.toInt) (b := 3) rfl rfl c36
                                      refine f_X4_refusal (by first | omega | assumption | exact AB.none (by omega) | exact AB.mono (by assumption) (by omega) (by omega) (by omega) (by omega)) (by first | omega | assumption | exact AB.none (by omega) | exact AB.mono (by assumption) (by omega) (by omega) (by omega) (by omega)) (fun r50 q38 => ?_)
                                      refine ⟨fun c39 => ?_, fun c39 => ?_⟩
                                      · skip
                                        have t40 := ieq (a := r50.toInt) (b := 0) rfl rfl c39
                                        exfalso; omega
                                      · skip
                                        have t41 := ine (a := r50.toInt) (b := 0) rfl rfl c39
                                        first
                                          | exfalso; omega
                                          | skip
                                            exact hk _ _ (by first | omega | assumption | exact AB.none (by omega) | exact AB.mono (by assumption) (by omega) (by omega) (by omega) (by omega))
              · skip
                have t42 := ieq (a := r5.toInt) (b := 0) rfl rfl c13
                first
                  | exfalso; omega
                  | skip
                    have t43 : ((-1) : Int32).toInt = (-1) := rfl
                    exact hk _ _ (by first | omega | assumption | exact AB.none (by omega) | exact AB.mono (by assumption) (by omega) (by omega) (by omega) (by omega))
set_option maxHeartbeats 1000000 in
set_option maxRecDepth 10000 in
theorem f_X7_film {p1 : Int32} {p2 : Int32} {p3 : Int32} {now_race_clocks : Int32} {now_race_window : Nat → Int32} {sheets0_isThere : Int32} {sheets0_lane : Int32} {sheets0_size : Int32} {sheets0_items : Nat → Int64} {sheets1_isThere : Int32} {sheets1_lane : Int32} {sheets1_size : Int32} {sheets1_items : Nat → Int64} {sheets2_isThere : Int32} {sheets2_lane : Int32} {sheets2_size : Int32} {sheets2_items : Nat → Int64} {sheets3_isThere : Int32} {sheets3_lane : Int32} {sheets3_size : Int32} {sheets3_items : Nat → Int64} {post : Int32 → (Nat → Int64) → (Nat → Int64) → (Nat → Int64) → (Nat → Int64) → Prop} (hp0 : now_race_clocks.toInt = 0) (hp1 : sheets0_isThere.toInt = 0) (hp2 : sheets0_size.toInt = 0) (hp3 : sheets1_isThere.toInt = 0) (hp4 : sheets1_size.toInt = 0) (hp5 : sheets2_isThere.toInt = 0) (hp6 : sheets2_size.toInt = 0) (hp7 : sheets3_isThere.toInt = 0) (hp8 : sheets3_size.toInt = 0) (hk : ∀ (r : Int32) (sheets0_items' : Nat → Int64) (sheets1_items' : Nat → Int64) (sheets2_items' : Nat → Int64) (sheets3_items' : Nat → Int64), (((0 ≤ p1.toInt ∧ p1.toInt ≤ 3 ∧ 0 ≤ p2.toInt ∧ p2.toInt ≤ 3) ∧ r.toInt = -11) ∨ (¬ (0 ≤ p1.toInt ∧ p1.toInt ≤ 3 ∧ 0 ≤ p2.toInt ∧ p2.toInt ≤ 3) ∧ r.toInt = -1)) → post r sheets0_items' sheets1_items' sheets2_items' sheets3_items') : wp_X7_film p1 p2 p3 now_race_clocks now_race_window sheets0_isThere sheets0_lane sheets0_size sheets0_items sheets1_isThere sheets1_lane sheets1_size sheets1_items sheets2_isThere sheets2_lane sheets2_size sheets2_items sheets3_isThere sheets3_lane sheets3_size sheets3_items post := by
  unfold wp_X7_film
  refine f_X7_isSheet  (fun r1 q1 => ?_)
  refine ⟨fun c2 => ?_, fun c2 => ?_⟩
  · skip
    have t3 := ieq (a := r1.toInt) (b := 0) rfl rfl c2
    first
      | exfalso; omega
      | skip
        have t4 : ((-1) : Int32).toInt = (-1) := rfl
        exact hk _ _ _ _ _ (by first | omega | assumption | exact AB.none (by omega) | exact AB.mono (by assumption) (by omega) (by omega) (by omega) (by omega))
  · skip
    have t5 := ine (a := r1.toInt) (b := 0) rfl rfl c2
    first
      | exfalso; omega
      | skip
        refine f_X7_isLane  (fun r3 q6 => ?_)
        refine ⟨fun c7 => ?_, fun c7 => ?_⟩
        · skip
          have t8 := ine (a := r3.toInt) (b := 0) rfl rfl c7
          first
            | exfalso; omega
            | skip
              refine ⟨ivp (a := p1.toInt) rfl (by omega) (by omega), ?_⟩
              refine ⟨fun c9 => ?_, fun c9 => ?_⟩
              · skip
                have t10 := ieq (a := p1.toInt) (b := 0) rfl rfl c9
                first
                  | exfalso; omega
                  | skip
                    refine f_X4_refusal (by first | omega | assumption | exact AB.none (by omega) | exact AB.mono (by assumption) (by omega) (by omega) (by omega) (by omega)) (by first | omega | assumption | exact AB.none (by omega) | exact AB.mono (by assumption) (by omega) (by omega) (by omega) (by omega)) (fun r6 q11 => ?_)
                    refine ⟨fun c12 => ?_, fun c12 => ?_⟩
                    · skip
                      have t13 := ieq (a := r6.toInt) (b := 0) rfl rfl c12
                      exfalso; omega
                    · skip
                      have t14 := ine (a := r6.toInt) (b := 0) rfl rfl c12
                      first
                        | exfalso; omega
                        | skip
                          exact hk _ _ _ _ _ (by first | omega | assumption | exact AB.none (by omega) | exact AB.mono (by assumption) (by omega) (by omega) (by omega) (by omega))
              · skip
                have t15 := ine (a := p1.toInt) (b := 0) rfl rfl c9
                first
                  | exfalso; omega
                  | skip
                    refine ⟨fun c16 => ?_, fun c16 => ?_⟩
                    · skip
                      have t17 := ieq (a := p1.toInt) (b := 1) rfl rfl c16
                      first
                        | exfalso; omega
                        | skip
                          refine f_X4_refusal (by first | omega | assumption | exact AB.none (by omega) | exact AB.mono (by assumption) (by omega) (by omega) (by omega) (by omega)) (by first | omega | assumption | exact AB.none (by omega) | exact AB.mono (by assumption) (by omega) (by omega) (by omega) (by omega)) (fun r14 q18 => ?_)
                          refine ⟨fun c19 => ?_, fun c19 => ?_⟩
                          · skip
                            have t20 := ieq (a := r14.toInt) (b := 0) rfl rfl c19
                            exfalso; omega
                          · skip
                            have t21 := ine (a := r14.toInt) (b := 0) rfl rfl c19
                            first
                              | exfalso; omega
                              | skip
                                exact hk _ _ _ _ _ (by first | omega | assumption | exact AB.none (by omega) | exact AB.mono (by assumption) (by omega) (by omega) (by omega) (by omega))
                    · skip
                      have t22 := ine (a := p1.toInt) (b := 1) rfl rfl c16
                      first
                        | exfalso; omega
                        | skip
                          refine ⟨fun c23 => ?_, fun c23 => ?_⟩
                          · skip
                            have t24 := ieq (a := p1.toInt) (b := 2) rfl rfl c23
                            first
                              | exfalso; omega
                              | skip
                                refine f_X4_refusal (by first | omega | assumption | exact AB.none (by omega) | exact AB.mono (by assumption) (by omega) (by omega) (by omega) (by omega)) (by first | omega | assumption | exact AB.none (by omega) | exact AB.mono (by assumption) (by omega) (by omega) (by omega) (by omega)) (fun r22 q25 => ?_)
                                refine ⟨fun c26 => ?_, fun c26 => ?_⟩
                                · skip
                                  have t27 := ieq (a := r22.toInt) (b := 0) rfl rfl c26
                                  exfalso; omega
                                · skip
                                  have t28 := ine (a := r22.toInt) (b := 0) rfl rfl c26
                                  first
                                    | exfalso; omega
                                    | skip
                                      exact hk _ _ _ _ _ (by first | omega | assumption | exact AB.none (by omega) | exact AB.mono (by assumption) (by omega) (by omega) (by omega) (by omega))
                          · skip
                            have t29 := ine (a := p1.toInt) (b := 2) rfl rfl c23
                            first
                              | exfalso; omega
                              | skip
                                intro c30
                                have t31 := ieq (a := p1.toInt) (b := 3) rfl rfl c30
                                refine f_X4_refusal (by first | omega | assumption | exact AB.none (by omega) | exact AB.mono (by assumption) (by omega) (by omega) (by omega) (by omega)) (by first | omega | assumption | exact AB.none (by omega) | exact AB.mono (by assumption) (by omega) (by omega) (by omega) (by omega)) (fun r30 q32 => ?_)
                                refine ⟨fun c33 => ?_, fun c33 => ?_⟩
                                · skip
                                  have t34 := ieq (a := r30.toInt) (b := 0) rfl rfl c33
                                  exfalso; omega
                                · skip
                                  have t35 := ine (a := r30.toInt) (b := 0) rfl rfl c33
                                  first
                                    | exfalso; omega
                                    | skip
                                      exact hk _ _ _ _ _ (by first | omega | assumption | exact AB.none (by omega) | exact AB.mono (by assumption) (by omega) (by omega) (by omega) (by omega))
        · skip
          have t36 := ieq (a := r3.toInt) (b := 0) rfl rfl c7
          first
            | exfalso; omega
            | skip
              have t37 : ((-1) : Int32).toInt = (-1) := rfl
              exact hk _ _ _ _ _ (by first | omega | assumption | exact AB.none (by omega) | exact AB.mono (by assumption) (by omega) (by omega) (by omega) (by omega))
