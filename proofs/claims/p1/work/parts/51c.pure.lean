set_option maxHeartbeats 1000000 in
set_option maxRecDepth 10000 in
theorem f_X7_seen {p1 : Int32} {p2 : Int32} {p3 : Int32} {now_race_windows : Int32} {now_race_dials : Nat → Int32} {now_race_clocks : Int32} {now_race_kind : Nat → Int32} {now_race_hands : Nat → Int32} {now_race_rate : Nat → Int32} {now_race_spring : Nat → Int32} {now_race_window : Nat → Int32} {now_race_finish : Nat → Int32} {now_race_skies : Int32} {now_race_sky : Nat → Int32} {now_race_hour : Int32} {now_race_heard : Int32} {now_race_strokes : Int32} {trial_windows : Int32} {trial_dials : Nat → Int32} {trial_clocks : Int32} {trial_kind : Nat → Int32} {trial_hands : Nat → Int32} {trial_rate : Nat → Int32} {trial_spring : Nat → Int32} {trial_window : Nat → Int32} {trial_finish : Nat → Int32} {trial_skies : Int32} {trial_sky : Nat → Int32} {trial_hour : Int32} {trial_heard : Int32} {trial_strokes : Int32} {sheets0_isThere : Int32} {sheets0_lane : Int32} {sheets0_size : Int32} {sheets0_items : Nat → Int64} {sheets1_isThere : Int32} {sheets1_lane : Int32} {sheets1_size : Int32} {sheets1_items : Nat → Int64} {sheets2_isThere : Int32} {sheets2_lane : Int32} {sheets2_size : Int32} {sheets2_items : Nat → Int64} {sheets3_isThere : Int32} {sheets3_lane : Int32} {sheets3_size : Int32} {sheets3_items : Nat → Int64} {post : Int32 → (Int32) → (Nat → Int32) → (Int32) → (Nat → Int32) → (Nat → Int32) → (Nat → Int32) → (Nat → Int32) → (Nat → Int32) → (Nat → Int32) → (Int32) → (Nat → Int32) → (Int32) → (Int32) → (Int32) → Prop} (hp0 : now_race_windows.toInt = 8) (hp1 : now_race_clocks.toInt = 0) (hp2 : now_race_skies.toInt = 1) (hp3 : 0 ≤ now_race_hour.toInt) (hp4 : now_race_hour.toInt ≤ 1000) (hp5 : AB now_race_dials 0 24 12 12) (hp6 : AB now_race_sky 0 12 0 0) (hp7 : now_race_heard.toInt = 0) (hp8 : now_race_strokes.toInt = 0) (hp9 : trial_windows.toInt = 8) (hp10 : trial_clocks.toInt = 0) (hp11 : trial_skies.toInt = 1) (hp12 : 0 ≤ trial_hour.toInt) (hp13 : trial_hour.toInt ≤ 1000) (hp14 : AB trial_dials 0 24 12 12) (hp15 : AB trial_sky 0 12 0 0) (hp16 : trial_heard.toInt = 0) (hp17 : trial_strokes.toInt = 0) (hp18 : sheets0_isThere.toInt = 0) (hp19 : sheets0_size.toInt = 0) (hp20 : sheets1_isThere.toInt = 0) (hp21 : sheets1_size.toInt = 0) (hp22 : sheets2_isThere.toInt = 0) (hp23 : sheets2_size.toInt = 0) (hp24 : sheets3_isThere.toInt = 0) (hp25 : sheets3_size.toInt = 0) (hp26 : now_race_hour.toInt = 0) (hk : ∀ (r : Int32) (trial_windows' : Int32) (trial_dials' : Nat → Int32) (trial_clocks' : Int32) (trial_kind' : Nat → Int32) (trial_hands' : Nat → Int32) (trial_rate' : Nat → Int32) (trial_spring' : Nat → Int32) (trial_window' : Nat → Int32) (trial_finish' : Nat → Int32) (trial_skies' : Int32) (trial_sky' : Nat → Int32) (trial_hour' : Int32) (trial_heard' : Int32) (trial_strokes' : Int32), (((0 ≤ p1.toInt ∧ p1.toInt ≤ 3 ∧ 0 ≤ p2.toInt ∧ p2.toInt ≤ 3) ∧ r.toInt = -11) ∨ (¬ (0 ≤ p1.toInt ∧ p1.toInt ≤ 3 ∧ 0 ≤ p2.toInt ∧ p2.toInt ≤ 3) ∧ r.toInt = -1)) → post r trial_windows' trial_dials' trial_clocks' trial_kind' trial_hands' trial_rate' trial_spring' trial_window' trial_finish' trial_skies' trial_sky' trial_hour' trial_heard' trial_strokes') : wp_X7_seen p1 p2 p3 now_race_windows now_race_dials now_race_clocks now_race_kind now_race_hands now_race_rate now_race_spring now_race_window now_race_finish now_race_skies now_race_sky now_race_hour now_race_heard now_race_strokes trial_windows trial_dials trial_clocks trial_kind trial_hands trial_rate trial_spring trial_window trial_finish trial_skies trial_sky trial_hour trial_heard trial_strokes sheets0_isThere sheets0_lane sheets0_size sheets0_items sheets1_isThere sheets1_lane sheets1_size sheets1_items sheets2_isThere sheets2_lane sheets2_size sheets2_items sheets3_isThere sheets3_lane sheets3_size sheets3_items post := by
  unfold wp_X7_seen
  refine f_X7_isSheet  (fun r1 q1 => ?_)
  refine ⟨fun c2 => ?_, fun c2 => ?_⟩
  · skip
    have t3 := ieq (a := r1.toInt) (b := 0) rfl rfl c2
    first
      | exfalso; omega
      | skip
        have t4 : ((-1) : Int32).toInt = (-1) := rfl
        exact hk _ _ _ _ _ _ _ _ _ _ _ _ _ _ _ (by first | omega | assumption | exact AB.none (by omega) | exact AB.mono (by assumption) (by omega) (by omega) (by omega) (by omega))
  · skip
    have t5 := ine (a := r1.toInt) (b := 0) rfl rfl c2
    first
      | exfalso; omega
      | skip
        refine f_X7_isLane  (fun r3 q6 => ?_)
        refine ⟨fun c7 => ?_, fun c7 => ?_⟩
        · skip
          have t8 := ine (a := r3.toInt) (b := 0) rfl rfl c7
          first
            | exfalso; omega
            | skip
              refine ⟨ivp (a := p1.toInt) rfl (by omega) (by omega), ?_⟩
              refine ⟨fun c9 => ?_, fun c9 => ?_⟩
              · skip
                have t10 := ieq (a := p1.toInt) (b := 0) rfl rfl c9
                first
                  | exfalso; omega
                  | skip
                    refine f_X4_refusal (by first | omega | assumption | exact AB.none (by omega) | exact AB.mono (by assumption) (by omega) (by omega) (by omega) (by omega)) (by first | omega | assumption | exact AB.none (by omega) | exact AB.mono (by assumption) (by omega) (by omega) (by omega) (by omega)) (fun r6 q11 => ?_)
                    refine ⟨fun c12 => ?_, fun c12 => ?_⟩
                    · skip
                      have t13 := ieq (a := r6.toInt) (b := 0) rfl rfl c12
                      exfalso; omega
                    · skip
                      have t14 := ine (a := r6.toInt) (b := 0) rfl rfl c12
                      first
                        | exfalso; omega
                        | skip
                          exact hk _ _ _ _ _ _ _ _ _ _ _ _ _ _ _ (by first | omega | assumption | exact AB.none (by omega) | exact AB.mono (by assumption) (by omega) (by omega) (by omega) (by omega))
              · skip
                have t15 := ine (a := p1.toInt) (b := 0) rfl rfl c9
                first
                  | exfalso; omega
                  | skip
                    refine ⟨fun c16 => ?_, fun c16 => ?_⟩
                    · skip
                      have t17 := ieq (a := p1.toInt) (b := 1) rfl rfl c16
                      first
                        | exfalso; omega
                        | skip
                          refine f_X4_refusal (by first | omega | assumption | exact AB.none (by omega) | exact AB.mono (by assumption) (by omega) (by omega) (by omega) (by omega)) (by first | omega | assumption | exact AB.none (by omega) | exact AB.mono (by assumption) (by omega) (by omega) (by omega) (by omega)) (fun r38 q18 => ?_)
                          refine ⟨fun c19 => ?_, fun c19 => ?_⟩
                          · skip
                            have t20 := ieq (a := r38.toInt) (b := 0) rfl rfl c19
                            exfalso; omega
                          · skip
                            have t21 := ine (a := r38.toInt) (b := 0) rfl rfl c19
                            first
                              | exfalso; omega
                              | skip
                                exact hk _ _ _ _ _ _ _ _ _ _ _ _ _ _ _ (by first | omega | assumption | exact AB.none (by omega) | exact AB.mono (by assumption) (by omega) (by omega) (by omega) (by omega))
                    · skip
                      have t22 := ine (a := p1.toInt) (b := 1) rfl rfl c16
                      first
                        | exfalso; omega
                        | skip
                          refine ⟨fun c23 => ?_, fun c23 => ?_⟩
                          · skip
                            have t24 := ieq (a := p1.toInt) (b := 2) rfl rfl c23
                            first
                              | exfalso; omega
                              | skip
                                refine f_X4_refusal (by first | omega | assumption | exact AB.none (by omega) | exact AB.mono (by assumption) (by omega) (by omega) (by omega) (by omega)) (by first | omega | assumption | exact AB.none (by omega) | exact AB.mono (by assumption) (by omega) (by omega) (by omega) (by omega)) (fun r70 q25 => ?_)
                                refine ⟨fun c26 => ?_, fun c26 => ?_⟩
                                · skip
                                  have t27 := ieq (a := r70.toInt) (b := 0) rfl rfl c26
                                  exfalso; omega
                                · skip
                                  have t28 := ine (a := r70.toInt) (b := 0) rfl rfl c26
                                  first
                                    | exfalso; omega
                                    | skip
                                      exact hk _ _ _ _ _ _ _ _ _ _ _ _ _ _ _ (by first | omega | assumption | exact AB.none (by omega) | exact AB.mono (by assumption) (by omega) (by omega) (by omega) (by omega))
                          · skip
                            have t29 := ine (a := p1.toInt) (b := 2) rfl rfl c23
                            first
                              | exfalso; omega
                              | skip
                                intro c30
                                have t31 := ieq (a := p1.toInt) (b := 3) rfl rfl c30
                                refine f_X4_refusal (by first | omega | assumption | exact AB.none (by omega) | exact AB.mono (by assumption) (by omega) (by omega) (by omega) (by omega)) (by first | omega | assumption | exact AB.none (by omega) | exact AB.mono (by assumption) (by omega) (by omega) (by omega) (by omega)) (fun r102 q32 => ?_)
                                refine ⟨fun c33 => ?_, fun c33 => ?_⟩
                                · skip
                                  have t34 := ieq (a := r102.toInt) (b := 0) rfl rfl c33
                                  exfalso; omega
                                · skip
                                  have t35 := ine (a := r102.toInt) (b := 0) rfl rfl c33
                                  first
                                    | exfalso; omega
                                    | skip
                                      exact hk _ _ _ _ _ _ _ _ _ _ _ _ _ _ _ (by first | omega | assumption | exact AB.none (by omega) | exact AB.mono (by assumption) (by omega) (by omega) (by omega) (by omega))
        · skip
          have t36 := ieq (a := r3.toInt) (b := 0) rfl rfl c7
          first
            | exfalso; omega
            | skip
              have t37 : ((-1) : Int32).toInt = (-1) := rfl
              exact hk _ _ _ _ _ _ _ _ _ _ _ _ _ _ _ (by first | omega | assumption | exact AB.none (by omega) | exact AB.mono (by assumption) (by omega) (by omega) (by omega) (by omega))
set_option maxHeartbeats 1000000 in
set_option maxRecDepth 10000 in
theorem f_X7_sheet {p1 : Int32} {p2 : Int32} {p3 : Int32} {sheets0_isThere : Int32} {sheets0_lane : Int32} {sheets0_size : Int32} {sheets0_items : Nat → Int64} {sheets1_isThere : Int32} {sheets1_lane : Int32} {sheets1_size : Int32} {sheets1_items : Nat → Int64} {sheets2_isThere : Int32} {sheets2_lane : Int32} {sheets2_size : Int32} {sheets2_items : Nat → Int64} {sheets3_isThere : Int32} {sheets3_lane : Int32} {sheets3_size : Int32} {sheets3_items : Nat → Int64} {post : Int32 → (Int32) → (Int32) → (Int32) → (Nat → Int64) → (Int32) → (Int32) → (Int32) → (Nat → Int64) → (Int32) → (Int32) → (Int32) → (Nat → Int64) → (Int32) → (Int32) → (Int32) → (Nat → Int64) → Prop} (hp0 : sheets0_isThere.toInt = 0) (hp1 : sheets0_size.toInt = 0) (hp2 : sheets1_isThere.toInt = 0) (hp3 : sheets1_size.toInt = 0) (hp4 : sheets2_isThere.toInt = 0) (hp5 : sheets2_size.toInt = 0) (hp6 : sheets3_isThere.toInt = 0) (hp7 : sheets3_size.toInt = 0) (hk : ∀ (r : Int32) (sheets0_isThere' : Int32) (sheets0_lane' : Int32) (sheets0_size' : Int32) (sheets0_items' : Nat → Int64) (sheets1_isThere' : Int32) (sheets1_lane' : Int32) (sheets1_size' : Int32) (sheets1_items' : Nat → Int64) (sheets2_isThere' : Int32) (sheets2_lane' : Int32) (sheets2_size' : Int32) (sheets2_items' : Nat → Int64) (sheets3_isThere' : Int32) (sheets3_lane' : Int32) (sheets3_size' : Int32) (sheets3_items' : Nat → Int64), ((¬ (0 ≤ p1.toInt ∧ p1.toInt ≤ 3 ∧ 0 ≤ p2.toInt ∧ p2.toInt ≤ 3 ∧ p3.toInt ≤ 24) ∧ r.toInt = -1) ∨ ((0 ≤ p1.toInt ∧ p1.toInt ≤ 3 ∧ 0 ≤ p2.toInt ∧ p2.toInt ≤ 3 ∧ p3.toInt < 0) ∧ r.toInt = -14) ∨ ((0 ≤ p1.toInt ∧ p1.toInt ≤ 3 ∧ 0 ≤ p2.toInt ∧ p2.toInt ≤ 3 ∧ 0 ≤ p3.toInt ∧ p3.toInt ≤ 24) ∧ r.toInt = p3.toInt)) → post r sheets0_isThere' sheets0_lane' sheets0_size' sheets0_items' sheets1_isThere' sheets1_lane' sheets1_size' sheets1_items' sheets2_isThere' sheets2_lane' sheets2_size' sheets2_items' sheets3_isThere' sheets3_lane' sheets3_size' sheets3_items') : wp_X7_sheet p1 p2 p3 sheets0_isThere sheets0_lane sheets0_size sheets0_items sheets1_isThere sheets1_lane sheets1_size sheets1_items sheets2_isThere sheets2_lane sheets2_size sheets2_items sheets3_isThere sheets3_lane sheets3_size sheets3_items post := by
  unfold wp_X7_sheet
  refine f_X7_isSheet  (fun r1 q1 => ?_)
  refine ⟨fun c2 => ?_, fun c2 => ?_⟩
  · skip
    have t3 := ieq (a := r1.toInt) (b := 0) rfl rfl c2
    first
      | exfalso; omega
      | skip
        have t4 : ((-1) : Int32).toInt = (-1) := rfl
        exact hk _ _ _ _ _ _ _ _ _ _ _ _ _ _ _ _ _ (by first | omega | assumption | exact AB.none (by omega) | exact AB.mono (by assumption) (by omega) (by omega) (by omega) (by omega))
  · skip
    have t5 := ine (a := r1.toInt) (b := 0) rfl rfl c2
    first
      | exfalso; omega
      | skip
        refine f_X7_isLane  (fun r3 q6 => ?_)
        refine ⟨fun c7 => ?_, fun c7 => ?_⟩
        · skip
          have t8 := ieq (a := r3.toInt) (b := 0) rfl rfl c7
          first
            | exfalso; omega
            | skip
              have t9 : ((-1) : Int32).toInt = (-1) := rfl
              exact hk _ _ _ _ _ _ _ _ _ _ _ _ _ _ _ _ _ (by first | omega | assumption | exact AB.none (by omega) | exact AB.mono (by assumption) (by omega) (by omega) (by omega) (by omega))
        · skip
          have t10 := ine (a := r3.toInt) (b := 0) rfl rfl c7
          first
            | exfalso; omega
            | skip
              refine ⟨fun c11 => ?_, fun c11 => ?_⟩
              · skip
                have t12 := ile (a := p3.toInt) (b := 24) rfl rfl c11
                first
                  | exfalso; omega
                  | skip
                    refine ⟨fun c13 => ?_, fun c13 => ?_⟩
                    · skip
                      have t14 := ile (a := 0) (b := p3.toInt) rfl rfl c13
                      first
                        | exfalso; omega
                        | skip
                          refine ⟨ivp (a := p1.toInt) rfl (by omega) (by omega), ?_⟩
                          refine ⟨fun c15 => ?_, fun c15 => ?_⟩
                          · skip
                            have t16 := ieq (a := p1.toInt) (b := 0) rfl rfl c15
                            first
                              | exfalso; omega
                              | skip
                                refine f_X4_renew (by first | omega | assumption | exact AB.none (by omega) | exact AB.mono (by assumption) (by omega) (by omega) (by omega) (by omega)) (by first | omega | assumption | exact AB.none (by omega) | exact AB.mono (by assumption) (by omega) (by omega) (by omega) (by omega)) (by first | omega | assumption | exact AB.none (by omega) | exact AB.mono (by assumption) (by omega) (by omega) (by omega) (by omega)) (by first | omega | assumption | exact AB.none (by omega) | exact AB.mono (by assumption) (by omega) (by omega) (by omega) (by omega)) (fun sheets0_isThere_9 sheets0_lane_10 sheets0_size_11 sheets0_items_12 => ?_)
                                exact hk _ _ _ _ _ _ _ _ _ _ _ _ _ _ _ _ _ (by first | omega | assumption | exact AB.none (by omega) | exact AB.mono (by assumption) (by omega) (by omega) (by omega) (by omega))
                          · skip
                            have t17 := ine (a := p1.toInt) (b := 0) rfl rfl c15
                            first
                              | exfalso; omega
                              | skip
                                refine ⟨fun c18 => ?_, fun c18 => ?_⟩
                                · skip
                                  have t19 := ieq (a := p1.toInt) (b := 1) rfl rfl c18
                                  first
                                    | exfalso; omega
                                    | skip
                                      refine f_X4_renew (by first | omega | assumption | exact AB.none (by omega) | exact AB.mono (by assumption) (by omega) (by omega) (by omega) (by omega)) (by first | omega | assumption | exact AB.none (by omega) | exact AB.mono (by assumption) (by omega) (by omega) (by omega) (by omega)) (by first | omega | assumption | exact AB.none (by omega) | exact AB.mono (by assumption) (by omega) (by omega) (by omega) (by omega)) (by first | omega | assumption | exact AB.none (by omega) | exact AB.mono (by assumption) (by omega) (by omega) (by omega) (by omega)) (fun sheets1_isThere_15 sheets1_lane_16 sheets1_size_17 sheets1_items_18 => ?_)
                                      exact hk _ _ _ _ _ _ _ _ _ _ _ _ _ _ _ _ _ (by first | omega | assumption | exact AB.none (by omega) | exact AB.mono (by assumption) (by omega) (by omega) (by omega) (by omega))
                                · skip
                                  have t20 := ine (a := p1.toInt) (b := 1) rfl rfl c18
                                  first
                                    | exfalso; omega
                                    | skip
                                      refine ⟨fun c21 => ?_, fun c21 => ?_⟩
                                      · skip
                                        have t22 := ieq (a := p1.toInt) (b := 2) rfl rfl c21
                                        first
                                          | exfalso; omega
                                          | skip
                                            refine f_X4_renew (by first | omega | assumption | exact AB.none (by omega) | exact AB.mono (by assumption) (by omega) (by omega) (by omega) (by omega)) (by first | omega | assumption | exact AB.none (by omega) | exact AB.mono (by assumption) (by omega) (by omega) (by omega) (by omega)) (by first | omega | assumption | exact AB.none (by omega) | exact AB.mono (by assumption) (by omega) (by omega) (by omega) (by omega)) (by first | omega | assumption | exact AB.none (by omega) | exact AB.mono (by assumption) (by omega) (by omega) (by omega) (by omega)) (fun sheets2_isThere_21 sheets2_lane_22 sheets2_size_23 sheets2_items_24 => ?_)
                                            exact hk _ _ _ _ _ _ _ _ _ _ _ _ _ _ _ _ _ (by first | omega | assumption | exact AB.none (by omega) | exact AB.mono (by assumption) (by omega) (by omega) (by omega) (by omega))
                                      · skip
                                        have t23 := ine (a := p1.toInt) (b := 2) rfl rfl c21
                                        first
                                          | exfalso; omega
                                          | skip
                                            intro c24
                                            have t25 := ieq (a := p1.toInt) (b := 3) rfl rfl c24
                                            refine f_X4_renew (by first | omega | assumption | exact AB.none (by omega) | exact AB.mono (by assumption) (by omega) (by omega) (by omega) (by omega)) (by first | omega | assumption | exact AB.none (by omega) | exact AB.mono (by assumption) (by omega) (by omega) (by omega) (by omega)) (by first | omega | assumption | exact AB.none (by omega) | exact AB.mono (by assumption) (by omega) (by omega) (by omega) (by omega)) (by first | omega | assumption | exact AB.none (by omega) | exact AB.mono (by assumption) (by omega) (by omega) (by omega) (by omega)) (fun sheets3_isThere_27 sheets3_lane_28 sheets3_size_29 sheets3_items_30 => ?_)
                                            exact hk _ _ _ _ _ _ _ _ _ _ _ _ _ _ _ _ _ (by first | omega | assumption | exact AB.none (by omega) | exact AB.mono (by assumption) (by omega) (by omega) (by omega) (by omega))
                    · skip
                      have t26 := inle (a := 0) (b := p3.toInt) rfl rfl c13
                      first
                        | exfalso; omega
                        | skip
                          have t27 : ((-14) : Int32).toInt = (-14) := rfl
                          exact hk _ _ _ _ _ _ _ _ _ _ _ _ _ _ _ _ _ (by first | omega | assumption | exact AB.none (by omega) | exact AB.mono (by assumption) (by omega) (by omega) (by omega) (by omega))
              · skip
                have t28 := inle (a := p3.toInt) (b := 24) rfl rfl c11
                first
                  | exfalso; omega
                  | skip
                    have t29 : ((-1) : Int32).toInt = (-1) := rfl
                    exact hk _ _ _ _ _ _ _ _ _ _ _ _ _ _ _ _ _ (by first | omega | assumption | exact AB.none (by omega) | exact AB.mono (by assumption) (by omega) (by omega) (by omega) (by omega))
set_option maxHeartbeats 1000000 in
set_option maxRecDepth 10000 in
theorem f_X7_drop {p1 : Int32} {sheets0_isThere : Int32} {sheets0_size : Int32} {sheets1_isThere : Int32} {sheets1_size : Int32} {sheets2_isThere : Int32} {sheets2_size : Int32} {sheets3_isThere : Int32} {sheets3_size : Int32} {post : Int32 → (Int32) → (Int32) → (Int32) → (Int32) → Prop} (hp0 : sheets0_isThere.toInt = 0) (hp1 : sheets0_size.toInt = 0) (hp2 : sheets1_isThere.toInt = 0) (hp3 : sheets1_size.toInt = 0) (hp4 : sheets2_isThere.toInt = 0) (hp5 : sheets2_size.toInt = 0) (hp6 : sheets3_isThere.toInt = 0) (hp7 : sheets3_size.toInt = 0) (hk : ∀ (r : Int32) (sheets0_isThere' : Int32) (sheets1_isThere' : Int32) (sheets2_isThere' : Int32) (sheets3_isThere' : Int32), (((0 ≤ p1.toInt ∧ p1.toInt ≤ 3) ∧ r.toInt = -11) ∨ (¬ (0 ≤ p1.toInt ∧ p1.toInt ≤ 3) ∧ r.toInt = -1)) → post r sheets0_isThere' sheets1_isThere' sheets2_isThere' sheets3_isThere') : wp_X7_drop p1 sheets0_isThere sheets0_size sheets1_isThere sheets1_size sheets2_isThere sheets2_size sheets3_isThere sheets3_size post := by
  unfold wp_X7_drop
  refine f_X7_isSheet  (fun r1 q1 => ?_)
  refine ⟨fun c2 => ?_, fun c2 => ?_⟩
  · skip
    have t3 := ine (a := r1.toInt) (b := 0) rfl rfl c2
    first
      | exfalso; omega
      | skip
        refine ⟨ivp (a := p1.toInt) rfl (by omega) (by omega), ?_⟩
        refine ⟨fun c4 => ?_, fun c4 => ?_⟩
        · skip
          have t5 := ieq (a := p1.toInt) (b := 0) rfl rfl c4
          first
            | exfalso; omega
            | skip
              refine ⟨fun c6 => ?_, fun c6 => ?_⟩
              · skip
                have t7 := ine (a := sheets0_isThere.toInt) (b := 0) rfl rfl c6
                exfalso; omega
              · skip
                have t8 := ieq (a := sheets0_isThere.toInt) (b := 0) rfl rfl c6
                first
                  | exfalso; omega
                  | skip
                    have t9 : ((-11) : Int32).toInt = (-11) := rfl
                    exact hk _ _ _ _ _ (by first | omega | assumption | exact AB.none (by omega) | exact AB.mono (by assumption) (by omega) (by omega) (by omega) (by omega))
        · skip
          have t10 := ine (a := p1.toInt) (b := 0) rfl rfl c4
          first
            | exfalso; omega
            | skip
              refine ⟨fun c11 => ?_, fun c11 => ?_⟩
              · skip
                have t12 := ieq (a := p1.toInt) (b := 1) rfl rfl c11
                first
                  | exfalso; omega
                  | skip
                    refine ⟨fun c13 => ?_, fun c13 => ?_⟩
                    · skip
                      have t14 := ine (a := sheets1_isThere.toInt) (b := 0) rfl rfl c13
                      exfalso; omega
                    · skip
                      have t15 := ieq (a := sheets1_isThere.toInt) (b := 0) rfl rfl c13
                      first
                        | exfalso; omega
                        | skip
                          have t16 : ((-11) : Int32).toInt = (-11) := rfl
                          exact hk _ _ _ _ _ (by first | omega | assumption | exact AB.none (by omega) | exact AB.mono (by assumption) (by omega) (by omega) (by omega) (by omega))
              · skip
                have t17 := ine (a := p1.toInt) (b := 1) rfl rfl c11
                first
                  | exfalso; omega
                  | skip
                    refine ⟨fun c18 => ?_, fun c18 => ?_⟩
                    · skip
                      have t19 := ieq (a := p1.toInt) (b := 2) rfl rfl c18
                      first
                        | exfalso; omega
                        | skip
                          refine ⟨fun c20 => ?_, fun c20 => ?_⟩
                          · skip
                            have t21 := ine (a := sheets2_isThere.toInt) (b := 0) rfl rfl c20
                            exfalso; omega
                          · skip
                            have t22 := ieq (a := sheets2_isThere.toInt) (b := 0) rfl rfl c20
                            first
                              | exfalso; omega
                              | skip
                                have t23 : ((-11) : Int32).toInt = (-11) := rfl
                                exact hk _ _ _ _ _ (by first | omega | assumption | exact AB.none (by omega) | exact AB.mono (by assumption) (by omega) (by omega) (by omega) (by omega))
                    · skip
                      have t24 := ine (a := p1.toInt) (b := 2) rfl rfl c18
                      first
                        | exfalso; omega
                        | skip
                          intro c25
                          have t26 := ieq (a := p1.toInt) (b := 3) rfl rfl c25
                          refine ⟨fun c27 => ?_, fun c27 => ?_⟩
                          · skip
                            have t28 := ine (a := sheets3_isThere.toInt) (b := 0) rfl rfl c27
                            exfalso; omega
                          · skip
                            have t29 := ieq (a := sheets3_isThere.toInt) (b := 0) rfl rfl c27
                            first
                              | exfalso; omega
                              | skip
                                have t30 : ((-11) : Int32).toInt = (-11) := rfl
                                exact hk _ _ _ _ _ (by first | omega | assumption | exact AB.none (by omega) | exact AB.mono (by assumption) (by omega) (by omega) (by omega) (by omega))
  · skip
    have t31 := ieq (a := r1.toInt) (b := 0) rfl rfl c2
    first
      | exfalso; omega
      | skip
        have t32 : ((-1) : Int32).toInt = (-1) := rfl
        exact hk _ _ _ _ _ (by first | omega | assumption | exact AB.none (by omega) | exact AB.mono (by assumption) (by omega) (by omega) (by omega) (by omega))
set_option maxHeartbeats 1000000 in
set_option maxRecDepth 10000 in
theorem f_X7_item {p1 : Int32} {p2 : Int32} {p3 : Int32} {p4 : Int64} {sheets0_isThere : Int32} {sheets0_lane : Int32} {sheets0_size : Int32} {sheets0_items : Nat → Int64} {sheets1_isThere : Int32} {sheets1_lane : Int32} {sheets1_size : Int32} {sheets1_items : Nat → Int64} {sheets2_isThere : Int32} {sheets2_lane : Int32} {sheets2_size : Int32} {sheets2_items : Nat → Int64} {sheets3_isThere : Int32} {sheets3_lane : Int32} {sheets3_size : Int32} {sheets3_items : Nat → Int64} {post : Int32 → (Nat → Int64) → (Nat → Int64) → (Nat → Int64) → (Nat → Int64) → Prop} (hp0 : sheets0_isThere.toInt = 0) (hp1 : sheets0_size.toInt = 0) (hp2 : sheets1_isThere.toInt = 0) (hp3 : sheets1_size.toInt = 0) (hp4 : sheets2_isThere.toInt = 0) (hp5 : sheets2_size.toInt = 0) (hp6 : sheets3_isThere.toInt = 0) (hp7 : sheets3_size.toInt = 0) (hk : ∀ (r : Int32) (sheets0_items' : Nat → Int64) (sheets1_items' : Nat → Int64) (sheets2_items' : Nat → Int64) (sheets3_items' : Nat → Int64), (((0 ≤ p1.toInt ∧ p1.toInt ≤ 3 ∧ 0 ≤ p2.toInt ∧ p2.toInt ≤ 3) ∧ r.toInt = -11) ∨ (¬ (0 ≤ p1.toInt ∧ p1.toInt ≤ 3 ∧ 0 ≤ p2.toInt ∧ p2.toInt ≤ 3) ∧ r.toInt = -1)) → post r sheets0_items' sheets1_items' sheets2_items' sheets3_items') : wp_X7_item p1 p2 p3 p4 sheets0_isThere sheets0_lane sheets0_size sheets0_items sheets1_isThere sheets1_lane sheets1_size sheets1_items sheets2_isThere sheets2_lane sheets2_size sheets2_items sheets3_isThere sheets3_lane sheets3_size sheets3_items post := by
  unfold wp_X7_item
  refine f_X7_isSheet  (fun r1 q1 => ?_)
  refine ⟨fun c2 => ?_, fun c2 => ?_⟩
  · skip
    have t3 := ieq (a := r1.toInt) (b := 0) rfl rfl c2
    first
      | exfalso; omega
      | skip
        have t4 : ((-1) : Int32).toInt = (-1) := rfl
        exact hk _ _ _ _ _ (by first | omega | assumption | exact AB.none (by omega) | exact AB.mono (by assumption) (by omega) (by omega) (by omega) (by omega))
  · skip
    have t5 := ine (a := r1.toInt) (b := 0) rfl rfl c2
    first
      | exfalso; omega
      | skip
        refine f_X7_isLane  (fun r3 q6 => ?_)
        refine ⟨fun c7 => ?_, fun c7 => ?_⟩
        · skip
          have t8 := ine (a := r3.toInt) (b := 0) rfl rfl c7
          first
            | exfalso; omega
            | skip
              refine ⟨ivp (a := p1.toInt) rfl (by omega) (by omega), ?_⟩
              refine ⟨fun c9 => ?_, fun c9 => ?_⟩
              · skip
                have t10 := ieq (a := p1.toInt) (b := 0) rfl rfl c9
                first
                  | exfalso; omega
                  | skip
                    have t11 : (1 : Int32).toInt = 1 := rfl
                    refine f_X4_refusal (by first | omega | assumption | exact AB.none (by omega) | exact AB.mono (by assumption) (by omega) (by omega) (by omega) (by omega)) (by first | omega | assumption | exact AB.none (by omega) | exact AB.mono (by assumption) (by omega) (by omega) (by omega) (by omega)) (fun r6 q12 => ?_)
                    refine ⟨fun c13 => ?_, fun c13 => ?_⟩
                    · skip
                      have t14 := ieq (a := r6.toInt) (b := 0) rfl rfl c13
                      exfalso; omega
                    · skip
                      have t15 := ine (a := r6.toInt) (b := 0) rfl rfl c13
                      first
                        | exfalso; omega
                        | skip
                          exact hk _ _ _ _ _ (by first | omega | assumption | exact AB.none (by omega) | exact AB.mono (by assumption) (by omega) (by omega) (by omega) (by omega))
              · skip
                have t16 := ine (a := p1.toInt) (b := 0) rfl rfl c9
                first
                  | exfalso; omega
                  | skip
                    refine ⟨fun c17 => ?_, fun c17 => ?_⟩
                    · skip
                      have t18 := ieq (a := p1.toInt) (b := 1) rfl rfl c17
                      first
                        | exfalso; omega
                        | skip
                          have t19 : (1 : Int32).toInt = 1 := rfl
                          refine f_X4_refusal (by first | omega | assumption | exact AB.none (by omega) | exact AB.mono (by assumption) (by omega) (by omega) (by omega) (by omega)) (by first | omega | assumption | exact AB.none (by omega) | exact AB.mono (by assumption) (by omega) (by omega) (by omega) (by omega)) (fun r11 q20 => ?_)
                          refine ⟨fun c21 => ?_, fun c21 => ?_⟩
                          · skip
                            have t22 := ieq (a := r11.toInt) (b := 0) rfl rfl c21
                            exfalso; omega
                          · skip
                            have t23 := ine (a := r11.toInt) (b := 0) rfl rfl c21
                            first
                              | exfalso; omega
                              | skip
                                exact hk _ _ _ _ _ (by first | omega | assumption | exact AB.none (by omega) | exact AB.mono (by assumption) (by omega) (by omega) (by omega) (by omega))
                    · skip
                      have t24 := ine (a := p1.toInt) (b := 1) rfl rfl c17
                      first
                        | exfalso; omega
                        | skip
                          refine ⟨fun c25 => ?_, fun c25 => ?_⟩
                          · skip
                            have t26 := ieq (a := p1.toInt) (b := 2) rfl rfl c25
                            first
                              | exfalso; omega
                              | skip
                                have t27 : (1 : Int32).toInt = 1 := rfl
                                refine f_X4_refusal (by first | omega | assumption | exact AB.none (by omega) | exact AB.mono (by assumption) (by omega) (by omega) (by omega) (by omega)) (by first | omega | assumption | exact AB.none (by omega) | exact AB.mono (by assumption) (by omega) (by omega) (by omega) (by omega)) (fun r16 q28 => ?_)
                                refine ⟨fun c29 => ?_, fun c29 => ?_⟩
                                · skip
                                  have t30 := ieq (a := r16.toInt) (b := 0) rfl rfl c29
                                  exfalso; omega
                                · skip
                                  have t31 := ine (a := r16.toInt) (b := 0) rfl rfl c29
                                  first
                                    | exfalso; omega
                                    | skip
                                      exact hk _ _ _ _ _ (by first | omega | assumption | exact AB.none (by omega) | exact AB.mono (by assumption) (by omega) (by omega) (by omega) (by omega))
                          · skip
                            have t32 := ine (a := p1.toInt) (b := 2) rfl rfl c25
                            first
                              | exfalso; omega
                              | skip
                                intro c33
                                have t34 := ieq (a := p1.toInt) (b := 3) rfl rfl c33
                                have t35 : (1 : Int32).toInt = 1 := rfl
                                refine f_X4_refusal (by first | omega | assumption | exact AB.none (by omega) | exact AB.mono (by assumption) (by omega) (by omega) (by omega) (by omega)) (by first | omega | assumption | exact AB.none (by omega) | exact AB.mono (by assumption) (by omega) (by omega) (by omega) (by omega)) (fun r21 q36 => ?_)
                                refine ⟨fun c37 => ?_, fun c37 => ?_⟩
                                · skip
                                  have t38 := ieq (a := r21.toInt) (b := 0) rfl rfl c37
                                  exfalso; omega
                                · skip
                                  have t39 := ine (a := r21.toInt) (b := 0) rfl rfl c37
                                  first
                                    | exfalso; omega
                                    | skip
                                      exact hk _ _ _ _ _ (by first | omega | assumption | exact AB.none (by omega) | exact AB.mono (by assumption) (by omega) (by omega) (by omega) (by omega))
        · skip
          have t40 := ieq (a := r3.toInt) (b := 0) rfl rfl c7
          first
            | exfalso; omega
            | skip
              have t41 : ((-1) : Int32).toInt = (-1) := rfl
              exact hk _ _ _ _ _ (by first | omega | assumption | exact AB.none (by omega) | exact AB.mono (by assumption) (by omega) (by omega) (by omega) (by omega))
set_option maxHeartbeats 1000000 in
set_option maxRecDepth 10000 in
theorem f_X7_copy {p1 : Int32} {p2 : Int32} {p3 : Int32} {p4 : Int32} {p5 : Int32} {sheets0_isThere : Int32} {sheets0_lane : Int32} {sheets0_size : Int32} {sheets0_items : Nat → Int64} {sheets1_isThere : Int32} {sheets1_lane : Int32} {sheets1_size : Int32} {sheets1_items : Nat → Int64} {sheets2_isThere : Int32} {sheets2_lane : Int32} {sheets2_size : Int32} {sheets2_items : Nat → Int64} {sheets3_isThere : Int32} {sheets3_lane : Int32} {sheets3_size : Int32} {sheets3_items : Nat → Int64} {post : Int32 → (Nat → Int64) → (Nat → Int64) → (Nat → Int64) → (Nat → Int64) → Prop} (hp0 : sheets0_isThere.toInt = 0) (hp1 : sheets0_size.toInt = 0) (hp2 : sheets1_isThere.toInt = 0) (hp3 : sheets1_size.toInt = 0) (hp4 : sheets2_isThere.toInt = 0) (hp5 : sheets2_size.toInt = 0) (hp6 : sheets3_isThere.toInt = 0) (hp7 : sheets3_size.toInt = 0) (hk : ∀ (r : Int32) (sheets0_items' : Nat → Int64) (sheets1_items' : Nat → Int64) (sheets2_items' : Nat → Int64) (sheets3_items' : Nat → Int64), (((0 ≤ p1.toInt ∧ p1.toInt ≤ 3 ∧ 0 ≤ p3.toInt ∧ p3.toInt ≤ 3) ∧ r.toInt = -11) ∨ (¬ (0 ≤ p1.toInt ∧ p1.toInt ≤ 3 ∧ 0 ≤ p3.toInt ∧ p3.toInt ≤ 3) ∧ r.toInt = -1)) → post r sheets0_items' sheets1_items' sheets2_items' sheets3_items') : wp_X7_copy p1 p2 p3 p4 p5 sheets0_isThere sheets0_lane sheets0_size sheets0_items sheets1_isThere sheets1_lane sheets1_size sheets1_items sheets2_isThere sheets2_lane sheets2_size sheets2_items sheets3_isThere sheets3_lane sheets3_size sheets3_items post := by
  unfold wp_X7_copy
  refine f_X7_isSheet  (fun r1 q1 => ?_)
  refine ⟨fun c2 => ?_, fun c2 => ?_⟩
  · skip
    have t3 := ieq (a := r1.toInt) (b := 0) rfl rfl c2
    first
      | exfalso; omega
      | skip
        have t4 : ((-1) : Int32).toInt = (-1) := rfl
        exact hk _ _ _ _ _ (by first | omega | assumption | exact AB.none (by omega) | exact AB.mono (by assumption) (by omega) (by omega) (by omega) (by omega))
  · skip
    have t5 := ine (a := r1.toInt) (b := 0) rfl rfl c2
    first
      | exfalso; omega
      | skip
        refine f_X7_isSheet  (fun r3 q6 => ?_)
        refine ⟨fun c7 => ?_, fun c7 => ?_⟩
        · skip
          have t8 := ine (a := r3.toInt) (b := 0) rfl rfl c7
          first
            | exfalso; omega
            | skip
              refine ⟨ivp (a := p1.toInt) rfl (by omega) (by omega), ?_⟩
              refine ⟨fun c9 => ?_, fun c9 => ?_⟩
              · skip
                have t10 := ieq (a := p1.toInt) (b := 0) rfl rfl c9
                first
                  | exfalso; omega
                  | skip
                    refine ⟨ivp (a := p3.toInt) rfl (by omega) (by omega), ?_⟩
                    refine ⟨fun c11 => ?_, fun c11 => ?_⟩
                    · skip
                      have t12 := ieq (a := p3.toInt) (b := 0) rfl rfl c11
                      first
                        | exfalso; omega
                        | skip
                          refine ⟨fun c13 => ?_, fun c13 => ?_⟩
                          · skip
                            have t14 := ieq (a := sheets0_isThere.toInt) (b := 0) rfl rfl c13
                            first
                              | exfalso; omega
                              | skip
                                have t15 : ((-11) : Int32).toInt = (-11) := rfl
                                exact hk _ _ _ _ _ (by first | omega | assumption | exact AB.none (by omega) | exact AB.mono (by assumption) (by omega) (by omega) (by omega) (by omega))
                          · skip
                            have t16 := ine (a := sheets0_isThere.toInt) (b := 0) rfl rfl c13
                            exfalso; omega
                    · skip
                      have t17 := ine (a := p3.toInt) (b := 0) rfl rfl c11
                      first
                        | exfalso; omega
                        | skip
                          refine ⟨fun c18 => ?_, fun c18 => ?_⟩
                          · skip
                            have t19 := ieq (a := p3.toInt) (b := 1) rfl rfl c18
                            first
                              | exfalso; omega
                              | skip
                                refine ⟨fun c20 => ?_, fun c20 => ?_⟩
                                · skip
                                  have t21 := ieq (a := sheets0_isThere.toInt) (b := 0) rfl rfl c20
                                  first
                                    | exfalso; omega
                                    | skip
                                      have t22 : ((-11) : Int32).toInt = (-11) := rfl
                                      exact hk _ _ _ _ _ (by first | omega | assumption | exact AB.none (by omega) | exact AB.mono (by assumption) (by omega) (by omega) (by omega) (by omega))
                                · skip
                                  have t23 := ine (a := sheets0_isThere.toInt) (b := 0) rfl rfl c20
                                  exfalso; omega
                          · skip
                            have t24 := ine (a := p3.toInt) (b := 1) rfl rfl c18
                            first
                              | exfalso; omega
                              | skip
                                refine ⟨fun c25 => ?_, fun c25 => ?_⟩
                                · skip
                                  have t26 := ieq (a := p3.toInt) (b := 2) rfl rfl c25
                                  first
                                    | exfalso; omega
                                    | skip
                                      refine ⟨fun c27 => ?_, fun c27 => ?_⟩
                                      · skip
                                        have t28 := ieq (a := sheets0_isThere.toInt) (b := 0) rfl rfl c27
                                        first
                                          | exfalso; omega
                                          | skip
                                            have t29 : ((-11) : Int32).toInt = (-11) := rfl
                                            exact hk _ _ _ _ _ (by first | omega | assumption | exact AB.none (by omega) | exact AB.mono (by assumption) (by omega) (by omega) (by omega) (by omega))
                                      · skip
                                        have t30 := ine (a := sheets0_isThere.toInt) (b := 0) rfl rfl c27
                                        exfalso; omega
                                · skip
                                  have t31 := ine (a := p3.toInt) (b := 2) rfl rfl c25
                                  first
                                    | exfalso; omega
                                    | skip
                                      intro c32
                                      have t33 := ieq (a := p3.toInt) (b := 3) rfl rfl c32
                                      refine ⟨fun c34 => ?_, fun c34 => ?_⟩
                                      · skip
                                        have t35 := ieq (a := sheets0_isThere.toInt) (b := 0) rfl rfl c34
                                        first
                                          | exfalso; omega
                                          | skip
                                            have t36 : ((-11) : Int32).toInt = (-11) := rfl
                                            exact hk _ _ _ _ _ (by first | omega | assumption | exact AB.none (by omega) | exact AB.mono (by assumption) (by omega) (by omega) (by omega) (by omega))
                                      · skip
                                        have t37 := ine (a := sheets0_isThere.toInt) (b := 0) rfl rfl c34
                                        exfalso; omega
              · skip
                have t38 := ine (a := p1.toInt) (b := 0) rfl rfl c9
                first
                  | exfalso; omega
                  | skip
                    refine ⟨fun c39 => ?_, fun c39 => ?_⟩
                    · skip
                      have t40 := ieq (a := p1.toInt) (b := 1) rfl rfl c39
                      first
                        | exfalso; omega
                        | skip
                          refine ⟨ivp (a := p3.toInt) rfl (by omega) (by omega), ?_⟩
                          refine ⟨fun c41 => ?_, fun c41 => ?_⟩
                          · skip
                            have t42 := ieq (a := p3.toInt) (b := 0) rfl rfl c41
                            first
                              | exfalso; omega
                              | skip
                                refine ⟨fun c43 => ?_, fun c43 => ?_⟩
                                · skip
                                  have t44 := ieq (a := sheets1_isThere.toInt) (b := 0) rfl rfl c43
                                  first
                                    | exfalso; omega
                                    | skip
                                      have t45 : ((-11) : Int32).toInt = (-11) := rfl
                                      exact hk _ _ _ _ _ (by first | omega | assumption | exact AB.none (by omega) | exact AB.mono (by assumption) (by omega) (by omega) (by omega) (by omega))
                                · skip
                                  have t46 := ine (a := sheets1_isThere.toInt) (b := 0) rfl rfl c43
                                  exfalso; omega
                          · skip
                            have t47 := ine (a := p3.toInt) (b := 0) rfl rfl c41
                            first
                              | exfalso; omega
                              | skip
                                refine ⟨fun c48 => ?_, fun c48 => ?_⟩
                                · skip
                                  have t49 := ieq (a := p3.toInt) (b := 1) rfl rfl c48
                                  first
                                    | exfalso; omega
                                    | skip
                                      refine ⟨fun c50 => ?_, fun c50 => ?_⟩
                                      · skip
                                        have t51 := ieq (a := sheets1_isThere.toInt) (b := 0) rfl rfl c50
                                        first
                                          | exfalso; omega
                                          | skip
                                            have t52 : ((-11) : Int32).toInt = (-11) := rfl
                                            exact hk _ _ _ _ _ (by first | omega | assumption | exact AB.none (by omega) | exact AB.mono (by assumption) (by omega) (by omega) (by omega) (by omega))
                                      · skip
                                        have t53 := ine (a := sheets1_isThere.toInt) (b := 0) rfl rfl c50
                                        exfalso; omega
                                · skip
                                  have t54 := ine (a := p3.toInt) (b := 1) rfl rfl c48
                                  first
                                    | exfalso; omega
                                    | skip
                                      refine ⟨fun c55 => ?_, fun c55 => ?_⟩
                                      · skip
                                        have t56 := ieq (a := p3.toInt) (b := 2) rfl rfl c55
                                        first
                                          | exfalso; omega
                                          | skip
                                            refine ⟨fun c57 => ?_, fun c57 => ?_⟩
                                            · skip
                                              have t58 := ieq (a := sheets1_isThere.toInt) (b := 0) rfl rfl c57
                                              first
                                                | exfalso; omega
                                                | skip
                                                  have t59 : ((-11) : Int32).toInt = (-11) := rfl
                                                  exact hk _ _ _ _ _ (by first | omega | assumption | exact AB.none (by omega) | exact AB.mono (by assumption) (by omega) (by omega) (by omega) (by omega))
                                            · skip
                                              have t60 := ine (a := sheets1_isThere.toInt) (b := 0) rfl rfl c57
                                              exfalso; omega
                                      · skip
                                        have t61 := ine (a := p3.toInt) (b := 2) rfl rfl c55
                                        first
                                          | exfalso; omega
                                          | skip
                                            intro c62
                                            have t63 := ieq (a := p3.toInt) (b := 3) rfl rfl c62
                                            refine ⟨fun c64 => ?_, fun c64 => ?_⟩
                                            · skip
                                              have t65 := ieq (a := sheets1_isThere.toInt) (b := 0) rfl rfl c64
                                              first
                                                | exfalso; omega
                                                | skip
                                                  have t66 : ((-11) : Int32).toInt = (-11) := rfl
                                                  exact hk _ _ _ _ _ (by first | omega | assumption | exact AB.none (by omega) | exact AB.mono (by assumption) (by omega) (by omega) (by omega) (by omega))
                                            · skip
                                              have t67 := ine (a := sheets1_isThere.toInt) (b := 0) rfl rfl c64
                                              exfalso; omega
                    · skip
                      have t68 := ine (a := p1.toInt) (b := 1) rfl rfl c39
                      first
                        | exfalso; omega
                        | skip
                          refine ⟨fun c69 => ?_, fun c69 => ?_⟩
                          · skip
                            have t70 := ieq (a := p1.toInt) (b := 2) rfl rfl c69
                            first
                              | exfalso; omega
                              | skip
                                refine ⟨ivp (a := p3.toInt) rfl (by omega) (by omega), ?_⟩
                                refine ⟨fun c71 => ?_, fun c71 => ?_⟩
                                · skip
                                  have t72 := ieq (a := p3.toInt) (b := 0) rfl rfl c71
                                  first
                                    | exfalso; omega
                                    | skip
                                      refine ⟨fun c73 => ?_, fun c73 => ?_⟩
                                      · skip
                                        have t74 := ieq (a := sheets2_isThere.toInt) (b := 0) rfl rfl c73
                                        first
                                          | exfalso; omega
                                          | skip
                                            have t75 : ((-11) : Int32).toInt = (-11) := rfl
                                            exact hk _ _ _ _ _ (by first | omega | assumption | exact AB.none (by omega) | exact AB.mono (by assumption) (by omega) (by omega) (by omega) (by omega))
                                      · skip
                                        have t76 := ine (a := sheets2_isThere.toInt) (b := 0) rfl rfl c73
                                        exfalso; omega
                                · skip
                                  have t77 := ine (a := p3.toInt) (b := 0) rfl rfl c71
                                  first
                                    | exfalso; omega
                                    | skip
                                      refine ⟨fun c78 => ?_, fun c78 => ?_⟩
                                      · skip
                                        have t79 := ieq (a := p3.toInt) (b := 1) rfl rfl c78
                                        first
                                          | exfalso; omega
                                          | skip
                                            refine ⟨fun c80 => ?_, fun c80 => ?_⟩
                                            · skip
                                              have t81 := ieq (a := sheets2_isThere.toInt) (b := 0) rfl rfl c80
                                              first
                                                | exfalso; omega
                                                | skip
                                                  have t82 : ((-11) : Int32).toInt = (-11) := rfl
                                                  exact hk _ _ _ _ _ (by first | omega | assumption | exact AB.none (by omega) | exact AB.mono (by assumption) (by omega) (by omega) (by omega) (by omega))
                                            · skip
                                              have t83 := ine (a := sheets2_isThere.toInt) (b := 0) rfl rfl c80
                                              exfalso; omega
                                      · skip
                                        have t84 := ine (a := p3.toInt) (b := 1) rfl rfl c78
                                        first
                                          | exfalso; omega
                                          | skip
                                            refine ⟨fun c85 => ?_, fun c85 => ?_⟩
                                            · skip
                                              have t86 := ieq (a := p3.toInt) (b := 2) rfl rfl c85
                                              first
                                                | exfalso; omega
                                                | skip
                                                  refine ⟨fun c87 => ?_, fun c87 => ?_⟩
                                                  · skip
                                                    have t88 := ieq (a := sheets2_isThere.toInt) (b := 0) rfl rfl c87
                                                    first
                                                      | exfalso; omega
                                                      | skip
                                                        have t89 : ((-11) : Int32).toInt = (-11) := rfl
                                                        exact hk _ _ _ _ _ (by first | omega | assumption | exact AB.none (by omega) | exact AB.mono (by assumption) (by omega) (by omega) (by omega) (by omega))
                                                  · skip
                                                    have t90 := ine (a := sheets2_isThere.toInt) (b := 0) rfl rfl c87
                                                    exfalso; omega
                                            · skip
                                              have t91 := ine (a := p3.toInt) (b := 2) rfl rfl c85
                                              first
                                                | exfalso; omega
                                                | skip
                                                  intro c92
                                                  have t93 := ieq (a := p3.toInt) (b := 3) rfl rfl c92
                                                  refine ⟨fun c94 => ?_, fun c94 => ?_⟩
                                                  · skip
                                                    have t95 := ieq (a := sheets2_isThere.toInt) (b := 0) rfl rfl c94
                                                    first
                                                      | exfalso; omega
                                                      | skip
                                                        have t96 : ((-11) : Int32).toInt = (-11) := rfl
                                                        exact hk _ _ _ _ _ (by first | omega | assumption | exact AB.none (by omega) | exact AB.mono (by assumption) (by omega) (by omega) (by omega) (by omega))
                                                  · skip
                                                    have t97 := ine (a := sheets2_isThere.toInt) (b := 0) rfl rfl c94
                                                    exfalso; omega
                          · skip
                            have t98 := ine (a := p1.toInt) (b := 2) rfl rfl c69
                            first
                              | exfalso; omega
                              | skip
                                intro c99
                                have t100 := ieq (a := p1.toInt) (b := 3) rfl rfl c99
                                refine ⟨ivp (a := p3.toInt) rfl (by omega) (by omega), ?_⟩
                                refine ⟨fun c101 => ?_, fun c101 => ?_⟩
                                · skip
                                  have t102 := ieq (a := p3.toInt) (b := 0) rfl rfl c101
                                  first
                                    | exfalso; omega
                                    | skip
                                      refine ⟨fun c103 => ?_, fun c103 => ?_⟩
                                      · skip
                                        have t104 := ieq (a := sheets3_isThere.toInt) (b := 0) rfl rfl c103
                                        first
                                          | exfalso; omega
                                          | skip
                                            have t105 : ((-11) : Int32).toInt = (-11) := rfl
                                            exact hk _ _ _ _ _ (by first | omega | assumption | exact AB.none (by omega) | exact AB.mono (by assumption) (by omega) (by omega) (by omega) (by omega))
                                      · skip
                                        have t106 := ine (a := sheets3_isThere.toInt) (b := 0) rfl rfl c103
                                        exfalso; omega
                                · skip
                                  have t107 := ine (a := p3.toInt) (b := 0) rfl rfl c101
                                  first
                                    | exfalso; omega
                                    | skip
                                      refine ⟨fun c108 => ?_, fun c108 => ?_⟩
                                      · skip
                                        have t109 := ieq (a := p3.toInt) (b := 1) rfl rfl c108
                                        first
                                          | exfalso; omega
                                          | skip
                                            refine ⟨fun c110 => ?_, fun c110 => ?_⟩
                                            · skip
                                              have t111 := ieq (a := sheets3_isThere.toInt) (b := 0) rfl rfl c110
                                              first
                                                | exfalso; omega
                                                | skip
                                                  have t112 : ((-11) : Int32).toInt = (-11) := rfl
                                                  exact hk _ _ _ _ _ (by first | omega | assumption | exact AB.none (by omega) | exact AB.mono (by assumption) (by omega) (by omega) (by omega) (by omega))
                                            · skip
                                              have t113 := ine (a := sheets3_isThere.toInt) (b := 0) rfl rfl c110
                                              exfalso; omega
                                      · skip
                                        have t114 := ine (a := p3.toInt) (b := 1) rfl rfl c108
                                        first
                                          | exfalso; omega
                                          | skip
                                            refine ⟨fun c115 => ?_, fun c115 => ?_⟩
                                            · skip
                                              have t116 := ieq (a := p3.toInt) (b := 2) rfl rfl c115
                                              first
                                                | exfalso; omega
                                                | skip
                                                  refine ⟨fun c117 => ?_, fun c117 => ?_⟩
                                                  · skip
                                                    have t118 := ieq (a := sheets3_isThere.toInt) (b := 0) rfl rfl c117
                                                    first
                                                      | exfalso; omega
                                                      | skip
                                                        have t119 : ((-11) : Int32).toInt = (-11) := rfl
                                                        exact hk _ _ _ _ _ (by first | omega | assumption | exact AB.none (by omega) | exact AB.mono (by assumption) (by omega) (by omega) (by omega) (by omega))
                                                  · skip
                                                    have t120 := ine (a := sheets3_isThere.toInt) (b := 0) rfl rfl c117
                                                    exfalso; omega
                                            · skip
                                              have t121 := ine (a := p3.toInt) (b := 2) rfl rfl c115
                                              first
                                                | exfalso; omega
                                                | skip
                                                  intro c122
                                                  have t123 := ieq (a := p3.toInt) (b := 3) rfl rfl c122
                                                  refine ⟨fun c124 => ?_, fun c124 => ?_⟩
                                                  · skip
                                                    have t125 := ieq (a := sheets3_isThere.toInt) (b := 0) rfl rfl c124
                                                    first
                                                      | exfalso; omega
                                                      | skip
                                                        have t126 : ((-11) : Int32).toInt = (-11) := rfl
                                                        exact hk _ _ _ _ _ (by first | omega | assumption | exact AB.none (by omega) | exact AB.mono (by assumption) (by omega) (by omega) (by omega) (by omega))
                                                  · skip
                                                    have t127 := ine (a := sheets3_isThere.toInt) (b := 0) rfl rfl c124
                                                    exfalso; omega
        · skip
          have t128 := ieq (a := r3.toInt) (b := 0) rfl rfl c7
          first
            | exfalso; omega
            | skip
              have t129 : ((-1) : Int32).toInt = (-1) := rfl
              exact hk _ _ _ _ _ (by first | omega | assumption | exact AB.none (by omega) | exact AB.mono (by assumption) (by omega) (by omega) (by omega) (by omega))
set_option maxHeartbeats 1000000 in
set_option maxRecDepth 10000 in
theorem f_X8_in {p1 : Int64} {p2 : Int64} {p3 : Int64} {post : Int32 → Prop} (hk : ∀ (r : Int32), (((p2.toInt ≤ p1.toInt ∧ p1.toInt ≤ p3.toInt) ∧ r.toInt = 1) ∨ (¬ (p2.toInt ≤ p1.toInt ∧ p1.toInt ≤ p3.toInt) ∧ r.toInt = 0)) → post r) : wp_X8_in p1 p2 p3 post := by
  unfold wp_X8_in
  have tn60 : ((Int32.toNatClampNeg 60 : Nat) : Int) = 60 := rfl
  have tn61 : ((Int32.toNatClampNeg 61 : Nat) : Int) = 61 := rfl
  have tn62 : ((Int32.toNatClampNeg 62 : Nat) : Int) = 62 := rfl
  have t1 := lcm (x := p1) (y := p2) (a := p1.toInt) (b := p2.toInt) rfl rfl
  refine ⟨fun c2 => ?_, fun c2 => ?_⟩
  · skip
    have t3 := ilt (a := (lg_cmp p1 p2).toInt) (b := 0) rfl rfl c2
    first
      | exfalso; omega
      | skip
        have t4 : (0 : Int32).toInt = 0 := rfl
        exact hk _ (by first | omega | assumption | exact AB.none (by omega) | exact AB.mono (by assumption) (by omega) (by omega) (by omega) (by omega))
  · skip
    have t5 := inlt (a := (lg_cmp p1 p2).toInt) (b := 0) rfl rfl c2
    first
      | exfalso; omega
      | skip
        have t6 := lcm (x := p1) (y := p3) (a := p1.toInt) (b := p3.toInt) rfl rfl
        refine ⟨fun c7 => ?_, fun c7 => ?_⟩
        · skip
          have t8 := ilt (a := 0) (b := (lg_cmp p1 p3).toInt) rfl rfl c7
          first
            | exfalso; omega
            | skip
              have t9 : (0 : Int32).toInt = 0 := rfl
              exact hk _ (by first | omega | assumption | exact AB.none (by omega) | exact AB.mono (by assumption) (by omega) (by omega) (by omega) (by omega))
        · skip
          have t10 := inlt (a := 0) (b := (lg_cmp p1 p3).toInt) rfl rfl c7
          first
            | exfalso; omega
            | skip
              have t11 : (1 : Int32).toInt = 1 := rfl
              exact hk _ (by first | omega | assumption | exact AB.none (by omega) | exact AB.mono (by assumption) (by omega) (by omega) (by omega) (by omega))
set_option maxHeartbeats 1000000 in
set_option maxRecDepth 10000 in
theorem f_X8_isClock {p1 : Int32} {v_clocks : Int32} {post : Int32 → Prop} (hp0 : v_clocks.toInt = 0) (hk : ∀ (r : Int32), (r.toInt = 0) → post r) : wp_X8_isClock p1 v_clocks post := by
  unfold wp_X8_isClock
  have tn60 : ((Int32.toNatClampNeg 60 : Nat) : Int) = 60 := rfl
  have tn61 : ((Int32.toNatClampNeg 61 : Nat) : Int) = 61 := rfl
  have tn62 : ((Int32.toNatClampNeg 62 : Nat) : Int) = 62 := rfl
  have t1 : (Int32.toInt64 p1).toInt = p1.toInt := i2l rfl
  have t2 : (0 : Int64).toInt = 0 := rfl
  try have t3 : (v_clocks - 1).toInt = v_clocks.toInt - 1 := isb rfl rfl (by omega) (by omega)
  have t4 : (Int32.toInt64 (v_clocks - 1)).toInt = (v_clocks - 1).toInt := i2l rfl
  refine f_X8_in  (fun r1 q5 => ?_)
  refine ⟨i01 (a := r1.toInt) rfl (by omega), ?_⟩
  exact hk _ (by first | omega | assumption | exact AB.none (by omega) | exact AB.mono (by assumption) (by omega) (by omega) (by omega) (by omega))
set_option maxHeartbeats 1000000 in
set_option maxRecDepth 10000 in
theorem f_X8_isWindow {p1 : Int32} {v_windows : Int32} {post : Int32 → Prop} (hp0 : v_windows.toInt = 8) (hk : ∀ (r : Int32), (((0 ≤ p1.toInt ∧ p1.toInt ≤ 7) ∧ r.toInt = 1) ∨ (¬ (0 ≤ p1.toInt ∧ p1.toInt ≤ 7) ∧ r.toInt = 0)) → post r) : wp_X8_isWindow p1 v_windows post := by
  unfold wp_X8_isWindow
  have tn60 : ((Int32.toNatClampNeg 60 : Nat) : Int) = 60 := rfl
  have tn61 : ((Int32.toNatClampNeg 61 : Nat) : Int) = 61 := rfl
  have tn62 : ((Int32.toNatClampNeg 62 : Nat) : Int) = 62 := rfl
  have t1 : (Int32.toInt64 p1).toInt = p1.toInt := i2l rfl
  have t2 : (0 : Int64).toInt = 0 := rfl
  try have t3 : (v_windows - 1).toInt = v_windows.toInt - 1 := isb rfl rfl (by omega) (by omega)
  have t4 : (Int32.toInt64 (v_windows - 1)).toInt = (v_windows - 1).toInt := i2l rfl
  refine f_X8_in  (fun r1 q5 => ?_)
  refine ⟨i01 (a := r1.toInt) rfl (by omega), ?_⟩
  exact hk _ (by first | omega | assumption | exact AB.none (by omega) | exact AB.mono (by assumption) (by omega) (by omega) (by omega) (by omega))
set_option maxHeartbeats 1000000 in
set_option maxRecDepth 10000 in
theorem f_X8_add {p1 : Int32} {p2 : Int32} {p3 : Int32} {p4 : Int32} {v_st : Nat → Int32} {v_kinds : Nat → Int32} {v_rates : Nat → Int32} {v_clocks : Int32} {post : (Nat → Int32) → (Nat → Int32) → (Nat → Int32) → (Int32) → Prop} (hp0 : v_clocks.toInt = 0) (hp1 : AB v_st 0 24 12 12) (hp2 : 0 ≤ (v_st (Int32.toNatClampNeg 60)).toInt) (hp3 : (v_st (Int32.toNatClampNeg 60)).toInt ≤ 1000) (hp4 : (v_st (Int32.toNatClampNeg 61)).toInt = 0) (hp5 : (v_st (Int32.toNatClampNeg 62)).toInt = 0) (hk : ∀ (v_st' : Nat → Int32) (v_kinds' : Nat → Int32) (v_rates' : Nat → Int32) (v_clocks' : Int32), (v_clocks'.toInt = 1) → post v_st' v_kinds' v_rates' v_clocks') : wp_X8_add p1 p2 p3 p4 v_st v_kinds v_rates v_clocks post := by
  unfold wp_X8_add
  have tn60 : ((Int32.toNatClampNeg 60 : Nat) : Int) = 60 := rfl
  have tn61 : ((Int32.toNatClampNeg 61 : Nat) : Int) = 61 := rfl
  have tn62 : ((Int32.toNatClampNeg 62 : Nat) : Int) = 62 := rfl
  refine ⟨ivp (a := v_clocks.toInt) rfl (by omega) (by omega), ?_⟩
  intro f1 ef1
  have t1 : ((Int32.toNatClampNeg v_clocks : Nat) : Int) = v_clocks.toInt := itn rfl (by omega)
  have t2 : (f1 (Int32.toNatClampNeg v_clocks)).toInt = p1.toInt := by rw [ef1, upd_eq] <;> rfl
  refine ⟨ivp (a := v_clocks.toInt) rfl (by omega) (by omega), ?_⟩
  intro f2 ef2
  have t3 : ((Int32.toNatClampNeg v_clocks : Nat) : Int) = v_clocks.toInt := itn rfl (by omega)
  have t4 : (f2 (Int32.toNatClampNeg v_clocks)).toInt = p3.toInt := by rw [ef2, upd_eq] <;> rfl
  try have t5 : (24 + v_clocks).toInt = 24 + v_clocks.toInt := ia rfl rfl (by omega) (by omega)
  refine ⟨ivp (a := (24 + v_clocks).toInt) rfl (by omega) (by omega), ?_⟩
  intro f3 ef3
  have t6 : ((Int32.toNatClampNeg (24 + v_clocks) : Nat) : Int) = (24 + v_clocks).toInt := itn rfl (by omega)
  have t7 : (f3 (Int32.toNatClampNeg (24 + v_clocks))).toInt = p2.toInt := by rw [ef3, upd_eq] <;> rfl
  try have t8 : (f3 (Int32.toNatClampNeg 60)).toInt = (v_st (Int32.toNatClampNeg 60)).toInt := by rw [ef3, upd_ne (by omega)]
  try have t9 : (f3 (Int32.toNatClampNeg 61)).toInt = (v_st (Int32.toNatClampNeg 61)).toInt := by rw [ef3, upd_ne (by omega)]
  try have t10 : (f3 (Int32.toNatClampNeg 62)).toInt = (v_st (Int32.toNatClampNeg 62)).toInt := by rw [ef3, upd_ne (by omega)]
  try have q11 : AB f3 0 24 12 12 := by rw [ef3]; first | exact AB.updo (by assumption) (by omega) | exact AB.updv (by assumption) rfl (by omega) (by omega) | exact AB.none (by omega)
  try have t12 : (33 + v_clocks).toInt = 33 + v_clocks.toInt := ia rfl rfl (by omega) (by omega)
  refine ⟨ivp (a := (33 + v_clocks).toInt) rfl (by omega) (by omega), ?_⟩
  intro f4 ef4
  have t13 : ((Int32.toNatClampNeg (33 + v_clocks) : Nat) : Int) = (33 + v_clocks).toInt := itn rfl (by omega)
  have t14 : (f4 (Int32.toNatClampNeg (33 + v_clocks))).toInt = p4.toInt := by rw [ef4, upd_eq] <;> rfl
  try have t15 : (f4 (Int32.toNatClampNeg 60)).toInt = (f3 (Int32.toNatClampNeg 60)).toInt := by rw [ef4, upd_ne (by omega)]
  try have t16 : (f4 (Int32.toNatClampNeg 61)).toInt = (f3 (Int32.toNatClampNeg 61)).toInt := by rw [ef4, upd_ne (by omega)]
  try have t17 : (f4 (Int32.toNatClampNeg 62)).toInt = (f3 (Int32.toNatClampNeg 62)).toInt := by rw [ef4, upd_ne (by omega)]
  try have q18 : AB f4 0 24 12 12 := by rw [ef4]; first | exact AB.updo (by assumption) (by omega) | exact AB.updv (by assumption) rfl (by omega) (by omega) | exact AB.none (by omega)
  try have t19 : (42 + v_clocks).toInt = 42 + v_clocks.toInt := ia rfl rfl (by omega) (by omega)
  refine ⟨ivp (a := (42 + v_clocks).toInt) rfl (by omega) (by omega), ?_⟩
  intro f5 ef5
  have t20 : ((Int32.toNatClampNeg (42 + v_clocks) : Nat) : Int) = (42 + v_clocks).toInt := itn rfl (by omega)
  have t21 : (f5 (Int32.toNatClampNeg (42 + v_clocks))).toInt = 0 := by rw [ef5, upd_eq] <;> rfl
  try have t22 : (f5 (Int32.toNatClampNeg 60)).toInt = (f4 (Int32.toNatClampNeg 60)).toInt := by rw [ef5, upd_ne (by omega)]
  try have t23 : (f5 (Int32.toNatClampNeg 61)).toInt = (f4 (Int32.toNatClampNeg 61)).toInt := by rw [ef5, upd_ne (by omega)]
  try have t24 : (f5 (Int32.toNatClampNeg 62)).toInt = (f4 (Int32.toNatClampNeg 62)).toInt := by rw [ef5, upd_ne (by omega)]
  try have q25 : AB f5 0 24 12 12 := by rw [ef5]; first | exact AB.updo (by assumption) (by omega) | exact AB.updv (by assumption) rfl (by omega) (by omega) | exact AB.none (by omega)
  try have t26 : (51 + v_clocks).toInt = 51 + v_clocks.toInt := ia rfl rfl (by omega) (by omega)
  refine ⟨ivp (a := (51 + v_clocks).toInt) rfl (by omega) (by omega), ?_⟩
  intro f6 ef6
  have t27 : ((Int32.toNatClampNeg (51 + v_clocks) : Nat) : Int) = (51 + v_clocks).toInt := itn rfl (by omega)
  have t28 : (f6 (Int32.toNatClampNeg (51 + v_clocks))).toInt = (-4) := by rw [ef6, upd_eq] <;> rfl
  try have t29 : (f6 (Int32.toNatClampNeg 60)).toInt = (f5 (Int32.toNatClampNeg 60)).toInt := by rw [ef6, upd_ne (by omega)]
  try have t30 : (f6 (Int32.toNatClampNeg 61)).toInt = (f5 (Int32.toNatClampNeg 61)).toInt := by rw [ef6, upd_ne (by omega)]
  try have t31 : (f6 (Int32.toNatClampNeg 62)).toInt = (f5 (Int32.toNatClampNeg 62)).toInt := by rw [ef6, upd_ne (by omega)]
  try have q32 : AB f6 0 24 12 12 := by rw [ef6]; first | exact AB.updo (by assumption) (by omega) | exact AB.updv (by assumption) rfl (by omega) (by omega) | exact AB.none (by omega)
  try have t33 : (v_clocks + 1).toInt = v_clocks.toInt + 1 := ia rfl rfl (by omega) (by omega)
  intro z7 ez7
  have t34 : z7.toInt = (v_clocks + 1).toInt := by rw [ez7] <;> rfl
  exact hk _ _ _ _ (by first | omega | assumption | exact AB.none (by omega) | exact AB.mono (by assumption) (by omega) (by omega) (by omega) (by omega))
set_option maxHeartbeats 1000000 in
set_option maxRecDepth 10000 in
theorem f_X8_clock {p1 : Int32} {p2 : Int32} {p3 : Int32} {p4 : Int32} {v_st : Nat → Int32} {v_kinds : Nat → Int32} {v_rates : Nat → Int32} {v_clocks : Int32} {post : Int32 → (Nat → Int32) → (Nat → Int32) → (Nat → Int32) → (Int32) → Prop} (hp0 : v_clocks.toInt = 0) (hp1 : AB v_st 0 24 12 12) (hp2 : 0 ≤ (v_st (Int32.toNatClampNeg 60)).toInt) (hp3 : (v_st (Int32.toNatClampNeg 60)).toInt ≤ 1000) (hp4 : (v_st (Int32.toNatClampNeg 61)).toInt = 0) (hp5 : (v_st (Int32.toNatClampNeg 62)).toInt = 0) (hp6 : (v_st (Int32.toNatClampNeg 60)).toInt = 0) (hk : ∀ (r : Int32) (v_st' : Nat → Int32) (v_kinds' : Nat → Int32) (v_rates' : Nat → Int32) (v_clocks' : Int32), (((0 ≤ p1.toInt ∧ p1.toInt ≤ 5 ∧ 0 ≤ p2.toInt ∧ p2.toInt ≤ 719 ∧ -30 ≤ p3.toInt ∧ p3.toInt ≤ 30 ∧ 0 ≤ p4.toInt ∧ p4.toInt ≤ 99) ∧ r.toInt = 0) ∨ (¬ (0 ≤ p1.toInt ∧ p1.toInt ≤ 5 ∧ 0 ≤ p2.toInt ∧ p2.toInt ≤ 719 ∧ -30 ≤ p3.toInt ∧ p3.toInt ≤ 30 ∧ 0 ≤ p4.toInt ∧ p4.toInt ≤ 99) ∧ r.toInt = -1)) → post r v_st' v_kinds' v_rates' v_clocks') : wp_X8_clock p1 p2 p3 p4 v_st v_kinds v_rates v_clocks post := by
  unfold wp_X8_clock
  have tn60 : ((Int32.toNatClampNeg 60 : Nat) : Int) = 60 := rfl
  have tn61 : ((Int32.toNatClampNeg 61 : Nat) : Int) = 61 := rfl
  have tn62 : ((Int32.toNatClampNeg 62 : Nat) : Int) = 62 := rfl
  have t1 : (Int32.toInt64 p1).toInt = p1.toInt := i2l rfl
  have t2 : (0 : Int64).toInt = 0 := rfl
  have t3 : (5 : Int64).toInt = 5 := rfl
  refine f_X8_in  (fun r1 q4 => ?_)
  refine ⟨fun c5 => ?_, fun c5 => ?_⟩
  · skip
    have t6 := ieq (a := r1.toInt) (b := 0) rfl rfl c5
    first
      | exfalso; omega
      | skip
        have t7 : ((-1) : Int32).toInt = (-1) := rfl
        exact hk _ _ _ _ _ (by first | omega | assumption | exact AB.none (by omega) | exact AB.mono (by assumption) (by omega) (by omega) (by omega) (by omega))
  · skip
    have t8 := ine (a := r1.toInt) (b := 0) rfl rfl c5
    first
      | exfalso; omega
      | skip
        have t9 : (Int32.toInt64 p2).toInt = p2.toInt := i2l rfl
        have t10 : (719 : Int64).toInt = 719 := rfl
        refine f_X8_in  (fun r3 q11 => ?_)
        refine ⟨fun c12 => ?_, fun c12 => ?_⟩
        · skip
          have t13 := ieq (a := r3.toInt) (b := 0) rfl rfl c12
          first
            | exfalso; omega
            | skip
              have t14 : ((-1) : Int32).toInt = (-1) := rfl
              exact hk _ _ _ _ _ (by first | omega | assumption | exact AB.none (by omega) | exact AB.mono (by assumption) (by omega) (by omega) (by omega) (by omega))
        · skip
          have t15 := ine (a := r3.toInt) (b := 0) rfl rfl c12
          first
            | exfalso; omega
            | skip
              have t16 : (Int32.toInt64 p3).toInt = p3.toInt := i2l rfl
              have t17 : ((-30) : Int64).toInt = (-30) := rfl
              have t18 : (30 : Int64).toInt = 30 := rfl
              refine f_X8_in  (fun r5 q19 => ?_)
              refine ⟨fun c20 => ?_, fun c20 => ?_⟩
              · skip
                have t21 := ieq (a := r5.toInt) (b := 0) rfl rfl c20
                first
                  | exfalso; omega
                  | skip
                    have t22 : ((-1) : Int32).toInt = (-1) := rfl
                    exact hk _ _ _ _ _ (by first | omega | assumption | exact AB.none (by omega) | exact AB.mono (by assumption) (by omega) (by omega) (by omega) (by omega))
              · skip
                have t23 := ine (a := r5.toInt) (b := 0) rfl rfl c20
                first
                  | exfalso; omega
                  | skip
                    have t24 : (Int32.toInt64 p4).toInt = p4.toInt := i2l rfl
                    have t25 : (99 : Int64).toInt = 99 := rfl
                    refine f_X8_in  (fun r7 q26 => ?_)
                    refine ⟨fun c27 => ?_, fun c27 => ?_⟩
                    · skip
                      have t28 := ine (a := r7.toInt) (b := 0) rfl rfl c27
                      first
                        | exfalso; omega
                        | skip
                          refine ⟨fun c29 => ?_, fun c29 => ?_⟩
                          · skip
                            have t30 := ine (a := v_clocks.toInt) (b := 9) rfl rfl c29
                            first
                              | exfalso; omega
                              | skip
                                refine f_X8_add (by first | omega | assumption | exact AB.none (by omega) | exact AB.mono (by assumption) (by omega) (by omega) (by omega) (by omega)) (by first | omega | assumption | exact AB.none (by omega) | exact AB.mono (by assumption) (by omega) (by omega) (by omega) (by omega)) (by first | omega | assumption | exact AB.none (by omega) | exact AB.mono (by assumption) (by omega) (by omega) (by omega) (by omega)) (by first | omega | assumption | exact AB.none (by omega) | exact AB.mono (by assumption) (by omega) (by omega) (by omega) (by omega)) (by first | omega | assumption | exact AB.none (by omega) | exact AB.mono (by assumption) (by omega) (by omega) (by omega) (by omega)) (by first | omega | assumption | exact AB.none (by omega) | exact AB.mono (by assumption) (by omega) (by omega) (by omega) (by omega)) (fun v_st_11 v_kinds_12 v_rates_13 v_clocks_14 q31 => ?_)
                                try have t32 : (v_clocks_14 - 1).toInt = v_clocks_14.toInt - 1 := isb rfl rfl (by omega) (by omega)
                                exact hk _ _ _ _ _ (by first | omega | assumption | exact AB.none (by omega) | exact AB.mono (by assumption) (by omega) (by omega) (by omega) (by omega))
                          · skip
                            have t33 := ieq (a := v_clocks.toInt) (b := 9) rfl rfl c29
                            exfalso; omega
                    · skip
                      have t34 := ieq (a := r7.toInt) (b := 0) rfl rfl c27
                      first
                        | exfalso; omega
                        | skip
                          have t35 : ((-1) : Int32).toInt = (-1) := rfl
                          exact hk _ _ _ _ _ (by first | omega | assumption | exact AB.none (by omega) | exact AB.mono (by assumption) (by omega) (by omega) (by omega) (by omega))
set_option maxHeartbeats 1000000 in
set_option maxRecDepth 10000 in
theorem f_X8_strike {v_st : Nat → Int32} {v_clocks : Int32} {v_betOn : Nat → Int32} {v_stakes : Nat → Int32} {v_bets : Int32} {v_undoMany : Int32} {post : Int32 → (Nat → Int32) → (Int32) → (Nat → Int32) → (Nat → Int32) → (Int32) → (Int32) → Prop} (hp0 : v_clocks.toInt = 0) (hp1 : v_bets.toInt = 0) (hp2 : v_undoMany.toInt = 0) (hp3 : AB v_st 0 24 12 12) (hp4 : 0 ≤ (v_st (Int32.toNatClampNeg 60)).toInt) (hp5 : (v_st (Int32.toNatClampNeg 60)).toInt ≤ 1000) (hp6 : (v_st (Int32.toNatClampNeg 61)).toInt = 0) (hp7 : (v_st (Int32.toNatClampNeg 62)).toInt = 0) (hp8 : (v_st (Int32.toNatClampNeg 60)).toInt = 0) (hk : ∀ (r : Int32) (v_st' : Nat → Int32) (v_clocks' : Int32) (v_betOn' : Nat → Int32) (v_stakes' : Nat → Int32) (v_bets' : Int32) (v_undoMany' : Int32), (r.toInt = -4) → post r v_st' v_clocks' v_betOn' v_stakes' v_bets' v_undoMany') : wp_X8_strike v_st v_clocks v_betOn v_stakes v_bets v_undoMany post := by
  unfold wp_X8_strike
  have tn60 : ((Int32.toNatClampNeg 60 : Nat) : Int) = 60 := rfl
  have tn61 : ((Int32.toNatClampNeg 61 : Nat) : Int) = 61 := rfl
  have tn62 : ((Int32.toNatClampNeg 62 : Nat) : Int) = 62 := rfl
  refine ⟨fun c1 => ?_, fun c1 => ?_⟩
  · skip
    have t2 := ine (a := v_clocks.toInt) (b := 0) rfl rfl c1
    exfalso; omega
  · skip
    have t3 := ieq (a := v_clocks.toInt) (b := 0) rfl rfl c1
    first
      | exfalso; omega
      | skip
        have t4 : ((-4) : Int32).toInt = (-4) := rfl
        exact hk _ _ _ _ _ _ _ (by first | omega | assumption | exact AB.none (by omega) | exact AB.mono (by assumption) (by omega) (by omega) (by omega) (by omega))
set_option maxHeartbeats 1000000 in
set_option maxRecDepth 10000 in
theorem f_X8_told {p1 : Int32} {p2 : Int32} {v_st : Nat → Int32} {v_kinds : Nat → Int32} {v_clocks : Int32} {post : Int32 → Prop} (hp0 : v_clocks.toInt = 0) (hp1 : AB v_st 0 24 12 12) (hp2 : 0 ≤ (v_st (Int32.toNatClampNeg 60)).toInt) (hp3 : (v_st (Int32.toNatClampNeg 60)).toInt ≤ 1000) (hp4 : (v_st (Int32.toNatClampNeg 61)).toInt = 0) (hp5 : (v_st (Int32.toNatClampNeg 62)).toInt = 0) (hp6 : (v_st (Int32.toNatClampNeg 60)).toInt = 0) (hk : ∀ (r : Int32), (r.toInt = -1) → post r) : wp_X8_told p1 p2 v_st v_kinds v_clocks post := by
  unfold wp_X8_told
  have tn60 : ((Int32.toNatClampNeg 60 : Nat) : Int) = 60 := rfl
  have tn61 : ((Int32.toNatClampNeg 61 : Nat) : Int) = 61 := rfl
  have tn62 : ((Int32.toNatClampNeg 62 : Nat) : Int) = 62 := rfl
  refine f_X8_isClock (by first | omega | assumption | exact AB.none (by omega) | exact AB.mono (by assumption) (by omega) (by omega) (by omega) (by omega)) (fun r1 q1 => ?_)
  refine ⟨fun c2 => ?_, fun c2 => ?_⟩
  · skip
    have t3 := ine (a := r1.toInt) (b := 0) rfl rfl c2
    exfalso; omega
  · skip
    have t4 := ieq (a := r1.toInt) (b := 0) rfl rfl c2
    first
      | exfalso; omega
      | skip
        have t5 : ((-1) : Int32).toInt = (-1) := rfl
        exact hk _ (by first | omega | assumption | exact AB.none (by omega) | exact AB.mono (by assumption) (by omega) (by omega) (by omega) (by omega))
set_option maxHeartbeats 1000000 in
set_option maxRecDepth 10000 in
theorem f_X8_rate {p1 : Int32} {v_rates : Nat → Int32} {v_clocks : Int32} {post : Int32 → Prop} (hp0 : v_clocks.toInt = 0) (hk : ∀ (r : Int32), (r.toInt = -1001) → post r) : wp_X8_rate p1 v_rates v_clocks post := by
  unfold wp_X8_rate
  have tn60 : ((Int32.toNatClampNeg 60 : Nat) : Int) = 60 := rfl
  have tn61 : ((Int32.toNatClampNeg 61 : Nat) : Int) = 61 := rfl
  have tn62 : ((Int32.toNatClampNeg 62 : Nat) : Int) = 62 := rfl
  refine f_X8_isClock (by first | omega | assumption | exact AB.none (by omega) | exact AB.mono (by assumption) (by omega) (by omega) (by omega) (by omega)) (fun r1 q1 => ?_)
  refine ⟨fun c2 => ?_, fun c2 => ?_⟩
  · skip
    have t3 := ieq (a := r1.toInt) (b := 0) rfl rfl c2
    first
      | exfalso; omega
      | skip
        have t4 : ((-1001) : Int32).toInt = (-1001) := rfl
        exact hk _ (by first | omega | assumption | exact AB.none (by omega) | exact AB.mono (by assumption) (by omega) (by omega) (by omega) (by omega))
  · skip
    have t5 := ine (a := r1.toInt) (b := 0) rfl rfl c2
    exfalso; omega
set_option maxHeartbeats 1000000 in
set_option maxRecDepth 10000 in
theorem f_X8_dial {p1 : Int32} {v_st : Nat → Int32} {v_windows : Int32} {post : Int32 → Prop} (hp0 : v_windows.toInt = 8) (hp1 : AB v_st 0 24 12 12) (hp2 : 0 ≤ (v_st (Int32.toNatClampNeg 60)).toInt) (hp3 : (v_st (Int32.toNatClampNeg 60)).toInt ≤ 1000) (hp4 : (v_st (Int32.toNatClampNeg 61)).toInt = 0) (hp5 : (v_st (Int32.toNatClampNeg 62)).toInt = 0) (hp6 : (v_st (Int32.toNatClampNeg 60)).toInt = 0) (hk : ∀ (r : Int32), (((0 ≤ p1.toInt ∧ p1.toInt ≤ 7) ∧ r.toInt = 12) ∨ (¬ (0 ≤ p1.toInt ∧ p1.toInt ≤ 7) ∧ r.toInt = -1)) → post r) : wp_X8_dial p1 v_st v_windows post := by
  unfold wp_X8_dial
  have tn60 : ((Int32.toNatClampNeg 60 : Nat) : Int) = 60 := rfl
  have tn61 : ((Int32.toNatClampNeg 61 : Nat) : Int) = 61 := rfl
  have tn62 : ((Int32.toNatClampNeg 62 : Nat) : Int) = 62 := rfl
  refine f_X8_isWindow (by first | omega | assumption | exact AB.none (by omega) | exact AB.mono (by assumption) (by omega) (by omega) (by omega) (by omega)) (fun r1 q1 => ?_)
  refine ⟨fun c2 => ?_, fun c2 => ?_⟩
  · skip
    have t3 := ieq (a := r1.toInt) (b := 0) rfl rfl c2
    first
      | exfalso; omega
      | skip
        have t4 : ((-1) : Int32).toInt = (-1) := rfl
        exact hk _ (by first | omega | assumption | exact AB.none (by omega) | exact AB.mono (by assumption) (by omega) (by omega) (by omega) (by omega))
  · skip
    have t5 := ine (a := r1.toInt) (b := 0) rfl rfl c2
    first
      | exfalso; omega
      | skip
        refine ⟨ivp (a := p1.toInt) rfl (by omega) (by omega), ?_⟩
        try have q6 := AB.get (f := v_st) (i := p1) (a := p1.toInt) (by assumption) rfl (by omega) (by omega) (by omega)
        exact hk _ (by first | omega | assumption | exact AB.none (by omega) | exact AB.mono (by assumption) (by omega) (by omega) (by omega) (by omega))
set_option maxHeartbeats 1000000 in
set_option maxRecDepth 10000 in
theorem f_X8_paint {p1 : Int32} {p2 : Int32} {v_st : Nat → Int32} {v_windows : Int32} {post : Int32 → (Nat → Int32) → Prop} (hp0 : v_windows.toInt = 8) (hp1 : AB v_st 0 24 12 12) (hp2 : 0 ≤ (v_st (Int32.toNatClampNeg 60)).toInt) (hp3 : (v_st (Int32.toNatClampNeg 60)).toInt ≤ 1000) (hp4 : (v_st (Int32.toNatClampNeg 61)).toInt = 0) (hp5 : (v_st (Int32.toNatClampNeg 62)).toInt = 0) (hp6 : (v_st (Int32.toNatClampNeg 60)).toInt = 0) (hk : ∀ (r : Int32) (v_st' : Nat → Int32), (((0 ≤ p1.toInt ∧ p1.toInt ≤ 7 ∧ 0 ≤ p2.toInt ∧ p2.toInt ≤ 12) ∧ r.toInt = 12) ∨ (¬ (0 ≤ p1.toInt ∧ p1.toInt ≤ 7 ∧ 0 ≤ p2.toInt ∧ p2.toInt ≤ 12) ∧ r.toInt = -1)) → post r v_st') : wp_X8_paint p1 p2 v_st v_windows post := by
  unfold wp_X8_paint
  have tn60 : ((Int32.toNatClampNeg 60 : Nat) : Int) = 60 := rfl
  have tn61 : ((Int32.toNatClampNeg 61 : Nat) : Int) = 61 := rfl
  have tn62 : ((Int32.toNatClampNeg 62 : Nat) : Int) = 62 := rfl
  refine f_X8_isWindow (by first | omega | assumption | exact AB.none (by omega) | exact AB.mono (by assumption) (by omega) (by omega) (by omega) (by omega)) (fun r1 q1 => ?_)
  refine ⟨fun c2 => ?_, fun c2 => ?_⟩
  · skip
    have t3 := ieq (a := r1.toInt) (b := 0) rfl rfl c2
    first
      | exfalso; omega
      | skip
        have t4 : ((-1) : Int32).toInt = (-1) := rfl
        exact hk _ _ (by first | omega | assumption | exact AB.none (by omega) | exact AB.mono (by assumption) (by omega) (by omega) (by omega) (by omega))
  · skip
    have t5 := ine (a := r1.toInt) (b := 0) rfl rfl c2
    first
      | exfalso; omega
      | skip
        have t6 : (Int32.toInt64 p2).toInt = p2.toInt := i2l rfl
        have t7 : (0 : Int64).toInt = 0 := rfl
        have t8 : (12 : Int64).toInt = 12 := rfl
        refine f_X8_in  (fun r3 q9 => ?_)
        refine ⟨fun c10 => ?_, fun c10 => ?_⟩
        · skip
          have t11 := ine (a := r3.toInt) (b := 0) rfl rfl c10
          first
            | exfalso; omega
            | skip
              refine ⟨ivp (a := p1.toInt) rfl (by omega) (by omega), ?_⟩
              try have q12 := AB.get (f := v_st) (i := p1) (a := p1.toInt) (by assumption) rfl (by omega) (by omega) (by omega)
              intro z5 ez5
              have t13 : z5.toInt = (v_st (Int32.toNatClampNeg p1)).toInt := by rw [ez5] <;> rfl
              refine ⟨ivp (a := p1.toInt) rfl (by omega) (by omega), ?_⟩
              intro f6 ef6
              have t14 : ((Int32.toNatClampNeg p1 : Nat) : Int) = p1.toInt := itn rfl (by omega)
              have t15 : (f6 (Int32.toNatClampNeg p1)).toInt = p2.toInt := by rw [ef6, upd_eq] <;> rfl
              try have t16 : (f6 (Int32.toNatClampNeg 60)).toInt = (v_st (Int32.toNatClampNeg 60)).toInt := by rw [ef6, upd_ne (by omega)]
              try have t17 : (f6 (Int32.toNatClampNeg 61)).toInt = (v_st (Int32.toNatClampNeg 61)).toInt := by rw [ef6, upd_ne (by omega)]
              try have t18 : (f6 (Int32.toNatClampNeg 62)).toInt = (v_st (Int32.toNatClampNeg 62)).toInt := by rw [ef6, upd_ne (by omega)]
              try have q19 : AB f6 0 24 12 12 := by rw [ef6]; first | exact AB.updo (by assumption) (by omega) | exact AB.updv (by assumption) rfl (by omega) (by omega) | exact AB.none (by omega)
              exact hk _ _ (by first | omega | assumption | exact AB.none (by omega) | exact AB.mono (by assumption) (by omega) (by omega) (by omega) (by omega))
        · skip
          have t20 := ieq (a := r3.toInt) (b := 0) rfl rfl c10
          first
            | exfalso; omega
            | skip
              have t21 : ((-1) : Int32).toInt = (-1) := rfl
              exact hk _ _ (by first | omega | assumption | exact AB.none (by omega) | exact AB.mono (by assumption) (by omega) (by omega) (by omega) (by omega))
set_option maxHeartbeats 1000000 in
set_option maxRecDepth 10000 in
theorem f_X8_weather {p1 : Int32} {v_skyRow : Nat → Int32} {v_skyMany : Int32} {post : Int32 → Prop} (hp0 : v_skyMany.toInt = 1) (hp1 : AB v_skyRow 0 12 0 0) (hk : ∀ (r : Int32), (((0 ≤ p1.toInt ∧ p1.toInt ≤ 9999) ∧ r.toInt = 0) ∨ (¬ (0 ≤ p1.toInt ∧ p1.toInt ≤ 9999) ∧ r.toInt = -1)) → post r) : wp_X8_weather p1 v_skyRow v_skyMany post := by
  unfold wp_X8_weather
  have tn60 : ((Int32.toNatClampNeg 60 : Nat) : Int) = 60 := rfl
  have tn61 : ((Int32.toNatClampNeg 61 : Nat) : Int) = 61 := rfl
  have tn62 : ((Int32.toNatClampNeg 62 : Nat) : Int) = 62 := rfl
  have t1 : (Int32.toInt64 p1).toInt = p1.toInt := i2l rfl
  have t2 : (0 : Int64).toInt = 0 := rfl
  have t3 : (9999 : Int64).toInt = 9999 := rfl
  refine f_X8_in  (fun r1 q4 => ?_)
  refine ⟨fun c5 => ?_, fun c5 => ?_⟩
  · skip
    have t6 := ieq (a := r1.toInt) (b := 0) rfl rfl c5
    first
      | exfalso; omega
      | skip
        have t7 : ((-1) : Int32).toInt = (-1) := rfl
        exact hk _ (by first | omega | assumption | exact AB.none (by omega) | exact AB.mono (by assumption) (by omega) (by omega) (by omega) (by omega))
  · skip
    have t8 := ine (a := r1.toInt) (b := 0) rfl rfl c5
    first
      | exfalso; omega
      | skip
        refine ⟨fun h0 => absurd (ieq (a := v_skyMany.toInt) (b := 0) rfl rfl h0) (by omega), ?_⟩
        try have t9 := irb (x := p1) (y := v_skyMany) (a := p1.toInt) (b := v_skyMany.toInt) rfl rfl (by omega) (by omega)
        refine ⟨ivp (a := (p1 - p1 / v_skyMany * v_skyMany).toInt) rfl (by omega) (by omega), ?_⟩
        try have q10 := AB.get (f := v_skyRow) (i := (p1 - p1 / v_skyMany * v_skyMany)) (a := (p1 - p1 / v_skyMany * v_skyMany).toInt) (by assumption) rfl (by omega) (by omega) (by omega)
        exact hk _ (by first | omega | assumption | exact AB.none (by omega) | exact AB.mono (by assumption) (by omega) (by omega) (by omega) (by omega))
set_option maxHeartbeats 1000000 in
set_option maxRecDepth 10000 in
theorem f_X8_type {p1 : Int32} {v_tape : Nat → Int32} {v_taped : Int32} {post : Int32 → (Nat → Int32) → (Int32) → Prop} (hp0 : v_taped.toInt = 0) (hk : ∀ (r : Int32) (v_tape' : Nat → Int32) (v_taped' : Int32), (((32 ≤ p1.toInt ∧ p1.toInt ≤ 126) ∧ r.toInt = 1) ∨ (¬ (32 ≤ p1.toInt ∧ p1.toInt ≤ 126) ∧ r.toInt = -1)) → post r v_tape' v_taped') : wp_X8_type p1 v_tape v_taped post := by
  unfold wp_X8_type
  have tn60 : ((Int32.toNatClampNeg 60 : Nat) : Int) = 60 := rfl
  have tn61 : ((Int32.toNatClampNeg 61 : Nat) : Int) = 61 := rfl
  have tn62 : ((Int32.toNatClampNeg 62 : Nat) : Int) = 62 := rfl
  have t1 : (Int32.toInt64 p1).toInt = p1.toInt := i2l rfl
  have t2 : (32 : Int64).toInt = 32 := rfl
  have t3 : (126 : Int64).toInt = 126 := rfl
  refine f_X8_in  (fun r1 q4 => ?_)
  refine ⟨fun c5 => ?_, fun c5 => ?_⟩
  · skip
    have t6 := ine (a := r1.toInt) (b := 0) rfl rfl c5
    first
      | exfalso; omega
      | skip
        refine ⟨fun c7 => ?_, fun c7 => ?_⟩
        · skip
          have t8 := ine (a := v_taped.toInt) (b := 160) rfl rfl c7
          first
            | exfalso; omega
            | skip
              refine ⟨ivp (a := v_taped.toInt) rfl (by omega) (by omega), ?_⟩
              intro f4 ef4
              have t9 : ((Int32.toNatClampNeg v_taped : Nat) : Int) = v_taped.toInt := itn rfl (by omega)
              have t10 : (f4 (Int32.toNatClampNeg v_taped)).toInt = p1.toInt := by rw [ef4, upd_eq] <;> rfl
              try have t11 : (v_taped + 1).toInt = v_taped.toInt + 1 := ia rfl rfl (by omega) (by omega)
              intro z5 ez5
              have t12 : z5.toInt = (v_taped + 1).toInt := by rw [ez5] <;> rfl
              exact hk _ _ _ (by first | omega | assumption | exact AB.none (by omega) | exact AB.mono (by assumption) (by omega) (by omega) (by omega) (by omega))
        · skip
          have t13 := ieq (a := v_taped.toInt) (b := 160) rfl rfl c7
          exfalso; omega
  · skip
    have t14 := ieq (a := r1.toInt) (b := 0) rfl rfl c5
    first
      | exfalso; omega
      | skip
        have t15 : ((-1) : Int32).toInt = (-1) := rfl
        exact hk _ _ _ (by first | omega | assumption | exact AB.none (by omega) | exact AB.mono (by assumption) (by omega) (by omega) (by omega) (by omega))
set_option maxHeartbeats 1000000 in
set_option maxRecDepth 10000 in
theorem f_X8_nextLetter {v_tape : Nat → Int32} {v_taped : Int32} {v_place : Int32} {post : Int32 → (Int32) → Prop} (hp0 : v_taped.toInt = 0) (hp1 : v_place.toInt = 0) (hk : ∀ (r : Int32) (v_place' : Int32), (v_place'.toInt = 0) → (r.toInt = -1) → post r v_place') : wp_X8_nextLetter v_tape v_taped v_place post := by
  unfold wp_X8_nextLetter
  have tn60 : ((Int32.toNatClampNeg 60 : Nat) : Int) = 60 := rfl
  have tn61 : ((Int32.toNatClampNeg 61 : Nat) : Int) = 61 := rfl
  have tn62 : ((Int32.toNatClampNeg 62 : Nat) : Int) = 62 := rfl
  refine ⟨fun n1 v_place_1 => n1 = ((0 : Int)).toNat ∧ (v_place_1.toInt = 0) ∧ (v_place_1.toInt = v_place.toInt) ∧ (v_place.toInt ≤ v_place_1.toInt), ⟨_, rfl, by first | omega | assumption | exact AB.none (by omega) | exact AB.mono (by assumption) (by omega) (by omega) (by omega) (by omega), by first | omega | assumption | exact AB.none (by omega) | exact AB.mono (by assumption) (by omega) (by omega) (by omega) (by omega), by first | omega | assumption | exact AB.none (by omega) | exact AB.mono (by assumption) (by omega) (by omega) (by omega) (by omega)⟩, ?_⟩
  rintro n1 v_place_1 ⟨hn1, q1, q2, q3⟩
  refine ⟨fun c4 => ?_, fun c4 => ?_⟩
  · skip
    have t5 := ile (a := v_taped.toInt) (b := v_place_1.toInt) rfl rfl c4
    first
      | exfalso; omega
      | skip
        refine ⟨fun c6 => ?_, fun c6 => ?_⟩
        · skip
          have t7 := ile (a := v_taped.toInt) (b := v_place_1.toInt) rfl rfl c6
          first
            | exfalso; omega
            | skip
              have t8 : ((-1) : Int32).toInt = (-1) := rfl
              exact hk _ _ (by first | omega | assumption | exact AB.none (by omega) | exact AB.mono (by assumption) (by omega) (by omega) (by omega) (by omega)) (by first | omega | assumption | exact AB.none (by omega) | exact AB.mono (by assumption) (by omega) (by omega) (by omega) (by omega))
        · skip
          have t9 := inle (a := v_taped.toInt) (b := v_place_1.toInt) rfl rfl c6
          exfalso; omega
  · skip
    have t10 := inle (a := v_taped.toInt) (b := v_place_1.toInt) rfl rfl c4
    exfalso; omega
set_option maxHeartbeats 1000000 in
set_option maxRecDepth 10000 in
theorem f_X8_end {p1 : Int32} {v_tape : Nat → Int32} {v_taped : Int32} {v_place : Int32} {post : Int32 → (Int32) → (Int32) → Prop} (hp0 : v_taped.toInt = 0) (hp1 : v_place.toInt = 0) (hp2 : v_place.toInt = 0) (hk : ∀ (r : Int32) (v_taped' : Int32) (v_place' : Int32), ((p1.toInt = 0 ∧ r.toInt = -20) ∨ (¬ p1.toInt = 0 ∧ r.toInt = 0)) → post r v_taped' v_place') : wp_X8_end p1 v_tape v_taped v_place post := by
  unfold wp_X8_end
  have tn60 : ((Int32.toNatClampNeg 60 : Nat) : Int) = 60 := rfl
  have tn61 : ((Int32.toNatClampNeg 61 : Nat) : Int) = 61 := rfl
  have tn62 : ((Int32.toNatClampNeg 62 : Nat) : Int) = 62 := rfl
  refine ⟨fun c1 => ?_, fun c1 => ?_⟩
  · skip
    have t2 := ine (a := p1.toInt) (b := 0) rfl rfl c1
    first
      | exfalso; omega
      | skip
        refine ⟨fun c3 => ?_, fun c3 => ?_⟩
        · skip
          have t4 := ieq (a := p1.toInt) (b := 0) rfl rfl c3
          first
            | exfalso; omega
            | skip
              try have t5 : ((-20) - v_place).toInt = (-20) - v_place.toInt := isb rfl rfl (by omega) (by omega)
              have t6 : (0 : Int32).toInt = 0 := rfl
              exact hk _ _ _ (by first | omega | assumption | exact AB.none (by omega) | exact AB.mono (by assumption) (by omega) (by omega) (by omega) (by omega))
        · skip
          have t7 := ine (a := p1.toInt) (b := 0) rfl rfl c3
          first
            | exfalso; omega
            | skip
              have t8 : (0 : Int32).toInt = 0 := rfl
              exact hk _ _ _ (by first | omega | assumption | exact AB.none (by omega) | exact AB.mono (by assumption) (by omega) (by omega) (by omega) (by omega))
  · skip
    have t9 := ieq (a := p1.toInt) (b := 0) rfl rfl c1
    first
      | exfalso; omega
      | skip
        refine f_X8_nextLetter (by first | omega | assumption | exact AB.none (by omega) | exact AB.mono (by assumption) (by omega) (by omega) (by omega) (by omega)) (by first | omega | assumption | exact AB.none (by omega) | exact AB.mono (by assumption) (by omega) (by omega) (by omega) (by omega)) (fun r3 v_place_4 q10 q11 => ?_)
        refine ⟨fun c12 => ?_, fun c12 => ?_⟩
        · skip
          have t13 := ieq (a := p1.toInt) (b := 0) rfl rfl c12
          first
            | exfalso; omega
            | skip
              try have t14 : ((-20) - v_place_4).toInt = (-20) - v_place_4.toInt := isb rfl rfl (by omega) (by omega)
              have t15 : (0 : Int32).toInt = 0 := rfl
              exact hk _ _ _ (by first | omega | assumption | exact AB.none (by omega) | exact AB.mono (by assumption) (by omega) (by omega) (by omega) (by omega))
        · skip
          have t16 := ine (a := p1.toInt) (b := 0) rfl rfl c12
          exfalso; omega
set_option maxHeartbeats 1000000 in
set_option maxRecDepth 10000 in
theorem f_X8_readSigns {p1 : Int32} {p2 : Int32} {p3 : Int32} {v_tape : Nat → Int32} {v_taped : Int32} {v_place : Int32} {v_reads : Int32} {v_read : Nat → Int32} {post : Int32 → (Int32) → (Int32) → (Nat → Int32) → Prop} (hp0 : v_taped.toInt = 0) (hp1 : v_place.toInt = 0) (hp2 : 1 ≤ p1.toInt) (hk : ∀ (r : Int32) (v_place' : Int32) (v_reads' : Int32) (v_read' : Nat → Int32), (v_place'.toInt = 0) → (r.toInt = 0) → (v_place'.toInt = 0) → post r v_place' v_reads' v_read') : wp_X8_readSigns p1 p2 p3 v_tape v_taped v_place v_reads v_read post := by
  unfold wp_X8_readSigns
  have tn60 : ((Int32.toNatClampNeg 60 : Nat) : Int) = 60 := rfl
  have tn61 : ((Int32.toNatClampNeg 61 : Nat) : Int) = 61 := rfl
  have tn62 : ((Int32.toNatClampNeg 62 : Nat) : Int) = 62 := rfl
  have t1 : ((0 : Int32)).toInt = 0 := rfl
  have t2 : ((0 : Int32)).toInt = 0 := rfl
  refine ⟨fun n1 v_place_1 v_reads_1 v_read_1 => n1 = ((0 : Int)).toNat ∧ (v_place_1.toInt = 0) ∧ (v_place_1.toInt = 0) ∧ (v_reads_1.toInt = 0), ⟨_, rfl, by first | omega | assumption | exact AB.none (by omega) | exact AB.mono (by assumption) (by omega) (by omega) (by omega) (by omega), by first | omega | assumption | exact AB.none (by omega) | exact AB.mono (by assumption) (by omega) (by omega) (by omega) (by omega), by first | omega | assumption | exact AB.none (by omega) | exact AB.mono (by assumption) (by omega) (by omega) (by omega) (by omega)⟩, ?_⟩
  rintro n1 v_place_1 v_reads_1 v_read_1 ⟨hn1, q3, q4, q5⟩
  refine f_X8_nextLetter (by first | omega | assumption | exact AB.none (by omega) | exact AB.mono (by assumption) (by omega) (by omega) (by omega) (by omega)) (by first | omega | assumption | exact AB.none (by omega) | exact AB.mono (by assumption) (by omega) (by omega) (by omega) (by omega)) (fun r2 v_place_3 q6 q7 => ?_)
  refine ⟨fun c8 => ?_, fun c8 => ?_⟩
  · skip
    have t9 := ilt (a := r2.toInt) (b := 0) rfl rfl c8
    first
      | exfalso; omega
      | skip
        refine ⟨fun c10 => ?_, fun c10 => ?_⟩
        · skip
          have t11 := ilt (a := v_reads_1.toInt) (b := p1.toInt) rfl rfl c10
          first
            | exfalso; omega
            | skip
              have t12 : (0 : Int32).toInt = 0 := rfl
              exact hk _ _ _ _ (by first | omega | assumption | exact AB.none (by omega) | exact AB.mono (by assumption) (by omega) (by omega) (by omega) (by omega)) (by first | omega | assumption | exact AB.none (by omega) | exact AB.mono (by assumption) (by omega) (by omega) (by omega) (by omega)) (by first | omega | assumption | exact AB.none (by omega) | exact AB.mono (by assumption) (by omega) (by omega) (by omega) (by omega))
        · skip
          have t13 := inlt (a := v_reads_1.toInt) (b := p1.toInt) rfl rfl c10
          first
            | exfalso; omega
            | skip
              have t14 : (1 : Int32).toInt = 1 := rfl
              exact hk _ _ _ _ (by first | omega | assumption | exact AB.none (by omega) | exact AB.mono (by assumption) (by omega) (by omega) (by omega) (by omega)) (by first | omega | assumption | exact AB.none (by omega) | exact AB.mono (by assumption) (by omega) (by omega) (by omega) (by omega)) (by first | omega | assumption | exact AB.none (by omega) | exact AB.mono (by assumption) (by omega) (by omega) (by omega) (by omega))
  · skip
    have t15 := inlt (a := r2.toInt) (b := 0) rfl rfl c8
    exfalso; omega
set_option maxHeartbeats 1000000 in
set_option maxRecDepth 10000 in
theorem f_X8_allBack {v_st : Nat → Int32} {v_clocks : Int32} {v_undoMany : Int32} {post : (Nat → Int32) → (Int32) → Prop} (hp0 : v_clocks.toInt = 0) (hp1 : v_undoMany.toInt = 0) (hp2 : AB v_st 0 24 12 12) (hp3 : 0 ≤ (v_st (Int32.toNatClampNeg 60)).toInt) (hp4 : (v_st (Int32.toNatClampNeg 60)).toInt ≤ 1000) (hp5 : (v_st (Int32.toNatClampNeg 61)).toInt = 0) (hp6 : (v_st (Int32.toNatClampNeg 62)).toInt = 0) (hk : ∀ (v_st' : Nat → Int32) (v_undoMany' : Int32), post v_st' v_undoMany') : wp_X8_allBack v_st v_clocks v_undoMany post := by
  unfold wp_X8_allBack
  have tn60 : ((Int32.toNatClampNeg 60 : Nat) : Int) = 60 := rfl
  have tn61 : ((Int32.toNatClampNeg 61 : Nat) : Int) = 61 := rfl
  have tn62 : ((Int32.toNatClampNeg 62 : Nat) : Int) = 62 := rfl
  have t1 : ((0 : Int32)).toInt = 0 := rfl
  refine ⟨fun n1 x1_1 v_st_1 => n1 = ((0 : Int)).toNat ∧ (AB v_st_1 0 24 12 12) ∧ (0 ≤ (v_st_1 (Int32.toNatClampNeg 60)).toInt) ∧ ((v_st_1 (Int32.toNatClampNeg 60)).toInt ≤ 1000) ∧ ((v_st_1 (Int32.toNatClampNeg 61)).toInt = 0) ∧ ((v_st_1 (Int32.toNatClampNeg 62)).toInt = 0) ∧ (x1_1.toInt = 0) ∧ ((v_st_1 (Int32.toNatClampNeg 60)).toInt = (v_st (Int32.toNatClampNeg 60)).toInt) ∧ ((v_st_1 (Int32.toNatClampNeg 61)).toInt = (v_st (Int32.toNatClampNeg 61)).toInt) ∧ ((v_st_1 (Int32.toNatClampNeg 62)).toInt = (v_st (Int32.toNatClampNeg 62)).toInt) ∧ (0 ≤ x1_1.toInt), ⟨_, rfl, by first | omega | assumption | exact AB.none (by omega) | exact AB.mono (by assumption) (by omega) (by omega) (by omega) (by omega), by first | omega | assumption | exact AB.none (by omega) | exact AB.mono (by assumption) (by omega) (by omega) (by omega) (by omega), by first | omega | assumption | exact AB.none (by omega) | exact AB.mono (by assumption) (by omega) (by omega) (by omega) (by omega), by first | omega | assumption | exact AB.none (by omega) | exact AB.mono (by assumption) (by omega) (by omega) (by omega) (by omega), by first | omega | assumption | exact AB.none (by omega) | exact AB.mono (by assumption) (by omega) (by omega) (by omega) (by omega), by first | omega | assumption | exact AB.none (by omega) | exact AB.mono (by assumption) (by omega) (by omega) (by omega) (by omega), by first | omega | assumption | exact AB.none (by omega) | exact AB.mono (by assumption) (by omega) (by omega) (by omega) (by omega), by first | omega | assumption | exact AB.none (by omega) | exact AB.mono (by assumption) (by omega) (by omega) (by omega) (by omega), by first | omega | assumption | exact AB.none (by omega) | exact AB.mono (by assumption) (by omega) (by omega) (by omega) (by omega), by first | omega | assumption | exact AB.none (by omega) | exact AB.mono (by assumption) (by omega) (by omega) (by omega) (by omega)⟩, ?_⟩
  rintro n1 x1_1 v_st_1 ⟨hn1, q2, q3, q4, q5, q6, q7, q8, q9, q10, q11⟩
  refine ⟨fun c12 => ?_, fun c12 => ?_⟩
  · skip
    have t13 := ile (a := v_clocks.toInt) (b := x1_1.toInt) rfl rfl c12
    first
      | exfalso; omega
      | skip
        have t14 : (0 : Int32).toInt = 0 := rfl
        exact hk _ _
  · skip
    have t15 := inle (a := v_clocks.toInt) (b := x1_1.toInt) rfl rfl c12
    exfalso; omega
set_option maxHeartbeats 1000000 in
set_option maxRecDepth 10000 in
theorem f_X8_course {v_st : Nat → Int32} {v_clocks : Int32} {v_windows : Int32} {v_undoMany : Int32} {v_tape : Nat → Int32} {v_taped : Int32} {v_place : Int32} {v_reads : Int32} {v_read : Nat → Int32} {post : Int32 → (Nat → Int32) → (Int32) → (Int32) → (Int32) → (Int32) → (Int32) → (Nat → Int32) → Prop} (hp0 : v_clocks.toInt = 0) (hp1 : v_windows.toInt = 8) (hp2 : v_undoMany.toInt = 0) (hp3 : v_taped.toInt = 0) (hp4 : v_place.toInt = 0) (hp5 : AB v_st 0 24 12 12) (hp6 : 0 ≤ (v_st (Int32.toNatClampNeg 60)).toInt) (hp7 : (v_st (Int32.toNatClampNeg 60)).toInt ≤ 1000) (hp8 : (v_st (Int32.toNatClampNeg 61)).toInt = 0) (hp9 : (v_st (Int32.toNatClampNeg 62)).toInt = 0) (hp10 : (v_st (Int32.toNatClampNeg 60)).toInt = 0) (hk : ∀ (r : Int32) (v_st' : Nat → Int32) (v_windows' : Int32) (v_undoMany' : Int32) (v_taped' : Int32) (v_place' : Int32) (v_reads' : Int32) (v_read' : Nat → Int32), (r.toInt = -20) → post r v_st' v_windows' v_undoMany' v_taped' v_place' v_reads' v_read') : wp_X8_course v_st v_clocks v_windows v_undoMany v_tape v_taped v_place v_reads v_read post := by
  unfold wp_X8_course
  have tn60 : ((Int32.toNatClampNeg 60 : Nat) : Int) = 60 := rfl
  have tn61 : ((Int32.toNatClampNeg 61 : Nat) : Int) = 61 := rfl
  have tn62 : ((Int32.toNatClampNeg 62 : Nat) : Int) = 62 := rfl
  have t1 : (2 : Int32).toInt = 2 := rfl
  have t2 : (24 : Int32).toInt = 24 := rfl
  have t3 : (1 : Int32).toInt = 1 := rfl
  refine f_X8_readSigns (by first | omega | assumption | exact AB.none (by omega) | exact AB.mono (by assumption) (by omega) (by omega) (by omega) (by omega)) (by first | omega | assumption | exact AB.none (by omega) | exact AB.mono (by assumption) (by omega) (by omega) (by omega) (by omega)) (by first | omega | assumption | exact AB.none (by omega) | exact AB.mono (by assumption) (by omega) (by omega) (by omega) (by omega)) (fun r1 v_place_2 v_reads_3 v_read_4 q4 q5 q6 => ?_)
  refine f_X8_end (by first | omega | assumption | exact AB.none (by omega) | exact AB.mono (by assumption) (by omega) (by omega) (by omega) (by omega)) (by first | omega | assumption | exact AB.none (by omega) | exact AB.mono (by assumption) (by omega) (by omega) (by omega) (by omega)) (by first | omega | assumption | exact AB.none (by omega) | exact AB.mono (by assumption) (by omega) (by omega) (by omega) (by omega)) (fun r5 v_taped_6 v_place_7 q7 => ?_)
  refine ⟨fun c8 => ?_, fun c8 => ?_⟩
  · skip
    have t9 := ile (a := 0) (b := r5.toInt) rfl rfl c8
    first
      | exfalso; omega
      | skip
        have t10 : ((0 : Int32)).toInt = 0 := rfl
        refine ⟨fun n9 x2_9 v_st_9 => n9 = ((0 : Int)).toNat ∧ (AB v_st_9 0 24 12 12) ∧ (0 ≤ (v_st_9 (Int32.toNatClampNeg 60)).toInt) ∧ ((v_st_9 (Int32.toNatClampNeg 60)).toInt ≤ 1000) ∧ ((v_st_9 (Int32.toNatClampNeg 61)).toInt = 0) ∧ ((v_st_9 (Int32.toNatClampNeg 62)).toInt = 0) ∧ (x2_9.toInt = 0) ∧ ((v_st_9 (Int32.toNatClampNeg 60)).toInt = (v_st (Int32.toNatClampNeg 60)).toInt) ∧ ((v_st_9 (Int32.toNatClampNeg 61)).toInt = (v_st (Int32.toNatClampNeg 61)).toInt) ∧ ((v_st_9 (Int32.toNatClampNeg 62)).toInt = (v_st (Int32.toNatClampNeg 62)).toInt) ∧ (0 ≤ x2_9.toInt), ⟨_, rfl, by first | omega | assumption | exact AB.none (by omega) | exact AB.mono (by assumption) (by omega) (by omega) (by omega) (by omega), by first | omega | assumption | exact AB.none (by omega) | exact AB.mono (by assumption) (by omega) (by omega) (by omega) (by omega), by first | omega | assumption | exact AB.none (by omega) | exact AB.mono (by assumption) (by omega) (by omega) (by omega) (by omega), by first | omega | assumption | exact AB.none (by omega) | exact AB.mono (by assumption) (by omega) (by omega) (by omega) (by omega), by first | omega | assumption | exact AB.none (by omega) | exact AB.mono (by assumption) (by omega) (by omega) (by omega) (by omega), by first | omega | assumption | exact AB.none (by omega) | exact AB.mono (by assumption) (by omega) (by omega) (by omega) (by omega), by first | omega | assumption | exact AB.none (by omega) | exact AB.mono (by assumption) (by omega) (by omega) (by omega) (by omega), by first | omega | assumption | exact AB.none (by omega) | exact AB.mono (by assumption) (by omega) (by omega) (by omega) (by omega), by first | omega | assumption | exact AB.none (by omega) | exact AB.mono (by assumption) (by omega) (by omega) (by omega) (by omega), by first | omega | assumption | exact AB.none (by omega) | exact AB.mono (by assumption) (by omega) (by omega) (by omega) (by omega)⟩, ?_⟩
        rintro n9 x2_9 v_st_9 ⟨hn9, q11, q12, q13, q14, q15, q16, q17, q18, q19, q20⟩
        refine ⟨fun c21 => ?_, fun c21 => ?_⟩
        · skip
          have t22 := ile (a := v_reads_3.toInt) (b := x2_9.toInt) rfl rfl c21
          first
            | exfalso; omega
            | skip
              refine f_X8_allBack (by first | omega | assumption | exact AB.none (by omega) | exact AB.mono (by assumption) (by omega) (by omega) (by omega) (by omega)) (by first | omega | assumption | exact AB.none (by omega) | exact AB.mono (by assumption) (by omega) (by omega) (by omega) (by omega)) (by first | omega | assumption | exact AB.none (by omega) | exact AB.mono (by assumption) (by omega) (by omega) (by omega) (by omega)) (by first | omega | assumption | exact AB.none (by omega) | exact AB.mono (by assumption) (by omega) (by omega) (by omega) (by omega)) (by first | omega | assumption | exact AB.none (by omega) | exact AB.mono (by assumption) (by omega) (by omega) (by omega) (by omega)) (by first | omega | assumption | exact AB.none (by omega) | exact AB.mono (by assumption) (by omega) (by omega) (by omega) (by omega)) (by first | omega | assumption | exact AB.none (by omega) | exact AB.mono (by assumption) (by omega) (by omega) (by omega) (by omega)) (fun v_st_12 v_undoMany_13 => ?_)
              exact hk _ _ _ _ _ _ _ _ (by first | omega | assumption | exact AB.none (by omega) | exact AB.mono (by assumption) (by omega) (by omega) (by omega) (by omega))
        · skip
          have t23 := inle (a := v_reads_3.toInt) (b := x2_9.toInt) rfl rfl c21
          first
            | exfalso; omega
            | skip
              refine ⟨ivp (a := x2_9.toInt) rfl (by omega) (by omega), ?_⟩
              intro z14 ez14
              have t24 : z14.toInt = (v_read_4 (Int32.toNatClampNeg x2_9)).toInt := by rw [ez14] <;> rfl
              refine ⟨ivp (a := x2_9.toInt) rfl (by omega) (by omega), ?_⟩
              intro f15 ef15
              have t25 : ((Int32.toNatClampNeg x2_9 : Nat) : Int) = x2_9.toInt := itn rfl (by omega)
              have t26 : (f15 (Int32.toNatClampNeg x2_9)).toInt = z14.toInt := by rw [ef15, upd_eq] <;> rfl
              try have t27 : (f15 (Int32.toNatClampNeg 60)).toInt = (v_st_9 (Int32.toNatClampNeg 60)).toInt := by rw [ef15, upd_ne (by omega)]
              try have t28 : (f15 (Int32.toNatClampNeg 61)).toInt = (v_st_9 (Int32.toNatClampNeg 61)).toInt := by rw [ef15, upd_ne (by omega)]
              try have t29 : (f15 (Int32.toNatClampNeg 62)).toInt = (v_st_9 (Int32.toNatClampNeg 62)).toInt := by rw [ef15, upd_ne (by omega)]
              try have q30 : AB f15 0 24 12 12 := by rw [ef15]; first | exact AB.updo (by assumption) (by omega) | exact AB.updv (by assumption) rfl (by omega) (by omega) | exact AB.none (by omega)
              try have t31 : (x2_9 + 1).toInt = x2_9.toInt + 1 := ia rfl rfl (by omega) (by omega)
              intro z16 ez16
              have t32 : z16.toInt = (x2_9 + 1).toInt := by rw [ez16] <;> rfl
              refine ⟨_, ?_, rfl, by first | omega | assumption | exact AB.none (by omega) | exact AB.mono (by assumption) (by omega) (by omega) (by omega) (by omega), by first | omega | assumption | exact AB.none (by omega) | exact AB.mono (by assumption) (by omega) (by omega) (by omega) (by omega), by first | omega | assumption | exact AB.none (by omega) | exact AB.mono (by assumption) (by omega) (by omega) (by omega) (by omega), by first | omega | assumption | exact AB.none (by omega) | exact AB.mono (by assumption) (by omega) (by omega) (by omega) (by omega), by first | omega | assumption | exact AB.none (by omega) | exact AB.mono (by assumption) (by omega) (by omega) (by omega) (by omega), by first | omega | assumption | exact AB.none (by omega) | exact AB.mono (by assumption) (by omega) (by omega) (by omega) (by omega), by first | omega | assumption | exact AB.none (by omega) | exact AB.mono (by assumption) (by omega) (by omega) (by omega) (by omega), by first | omega | assumption | exact AB.none (by omega) | exact AB.mono (by assumption) (by omega) (by omega) (by omega) (by omega), by first | omega | assumption | exact AB.none (by omega) | exact AB.mono (by assumption) (by omega) (by omega) (by omega) (by omega), by first | omega | assumption | exact AB.none (by omega) | exact AB.mono (by assumption) (by omega) (by omega) (by omega) (by omega)⟩
              omega
  · skip
    have t33 := inle (a := 0) (b := r5.toInt) rfl rfl c8
    first
      | exfalso; omega
      | skip
        exact hk _ _ _ _ _ _ _ _ (by first | omega | assumption | exact AB.none (by omega) | exact AB.mono (by assumption) (by omega) (by omega) (by omega) (by omega))
set_option maxHeartbeats 1000000 in
set_option maxRecDepth 10000 in
theorem f_X8_skies {v_skyRow : Nat → Int32} {v_skyMany : Int32} {v_tape : Nat → Int32} {v_taped : Int32} {v_place : Int32} {v_reads : Int32} {v_read : Nat → Int32} {post : Int32 → (Nat → Int32) → (Int32) → (Int32) → (Int32) → (Int32) → (Nat → Int32) → Prop} (hp0 : v_skyMany.toInt = 1) (hp1 : v_taped.toInt = 0) (hp2 : v_place.toInt = 0) (hp3 : AB v_skyRow 0 12 0 0) (hk : ∀ (r : Int32) (v_skyRow' : Nat → Int32) (v_skyMany' : Int32) (v_taped' : Int32) (v_place' : Int32) (v_reads' : Int32) (v_read' : Nat → Int32), (r.toInt = -20) → post r v_skyRow' v_skyMany' v_taped' v_place' v_reads' v_read') : wp_X8_skies v_skyRow v_skyMany v_tape v_taped v_place v_reads v_read post := by
  unfold wp_X8_skies
  have tn60 : ((Int32.toNatClampNeg 60 : Nat) : Int) = 60 := rfl
  have tn61 : ((Int32.toNatClampNeg 61 : Nat) : Int) = 61 := rfl
  have tn62 : ((Int32.toNatClampNeg 62 : Nat) : Int) = 62 := rfl
  have t1 : (1 : Int32).toInt = 1 := rfl
  have t2 : (12 : Int32).toInt = 12 := rfl
  have t3 : (0 : Int32).toInt = 0 := rfl
  refine f_X8_readSigns (by first | omega | assumption | exact AB.none (by omega) | exact AB.mono (by assumption) (by omega) (by omega) (by omega) (by omega)) (by first | omega | assumption | exact AB.none (by omega) | exact AB.mono (by assumption) (by omega) (by omega) (by omega) (by omega)) (by first | omega | assumption | exact AB.none (by omega) | exact AB.mono (by assumption) (by omega) (by omega) (by omega) (by omega)) (fun r1 v_place_2 v_reads_3 v_read_4 q4 q5 q6 => ?_)
  refine f_X8_end (by first | omega | assumption | exact AB.none (by omega) | exact AB.mono (by assumption) (by omega) (by omega) (by omega) (by omega)) (by first | omega | assumption | exact AB.none (by omega) | exact AB.mono (by assumption) (by omega) (by omega) (by omega) (by omega)) (by first | omega | assumption | exact AB.none (by omega) | exact AB.mono (by assumption) (by omega) (by omega) (by omega) (by omega)) (fun r5 v_taped_6 v_place_7 q7 => ?_)
  refine ⟨fun c8 => ?_, fun c8 => ?_⟩
  · skip
    have t9 := ile (a := 0) (b := r5.toInt) rfl rfl c8
    first
      | exfalso; omega
      | skip
        have t10 : ((0 : Int32)).toInt = 0 := rfl
        refine ⟨fun n9 x2_9 v_skyRow_9 => n9 = ((0 : Int)).toNat ∧ (AB v_skyRow_9 0 12 0 0) ∧ (x2_9.toInt = 0) ∧ (0 ≤ x2_9.toInt), ⟨_, rfl, by first | omega | assumption | exact AB.none (by omega) | exact AB.mono (by assumption) (by omega) (by omega) (by omega) (by omega), by first | omega | assumption | exact AB.none (by omega) | exact AB.mono (by assumption) (by omega) (by omega) (by omega) (by omega), by first | omega | assumption | exact AB.none (by omega) | exact AB.mono (by assumption) (by omega) (by omega) (by omega) (by omega)⟩, ?_⟩
        rintro n9 x2_9 v_skyRow_9 ⟨hn9, q11, q12, q13⟩
        refine ⟨fun c14 => ?_, fun c14 => ?_⟩
        · skip
          have t15 := ile (a := v_reads_3.toInt) (b := x2_9.toInt) rfl rfl c14
          first
            | exfalso; omega
            | skip
              exact hk _ _ _ _ _ _ _ (by first | omega | assumption | exact AB.none (by omega) | exact AB.mono (by assumption) (by omega) (by omega) (by omega) (by omega))
        · skip
          have t16 := inle (a := v_reads_3.toInt) (b := x2_9.toInt) rfl rfl c14
          first
            | exfalso; omega
            | skip
              refine ⟨ivp (a := x2_9.toInt) rfl (by omega) (by omega), ?_⟩
              intro z11 ez11
              have t17 : z11.toInt = (v_read_4 (Int32.toNatClampNeg x2_9)).toInt := by rw [ez11] <;> rfl
              refine ⟨ivp (a := x2_9.toInt) rfl (by omega) (by omega), ?_⟩
              intro f12 ef12
              have t18 : ((Int32.toNatClampNeg x2_9 : Nat) : Int) = x2_9.toInt := itn rfl (by omega)
              have t19 : (f12 (Int32.toNatClampNeg x2_9)).toInt = z11.toInt := by rw [ef12, upd_eq] <;> rfl
              try have q20 : AB f12 0 12 0 0 := by rw [ef12]; first | exact AB.updo (by assumption) (by omega) | exact AB.updv (by assumption) rfl (by omega) (by omega) | exact AB.none (by omega)
              try have t21 : (x2_9 + 1).toInt = x2_9.toInt + 1 := ia rfl rfl (by omega) (by omega)
              intro z13 ez13
              have t22 : z13.toInt = (x2_9 + 1).toInt := by rw [ez13] <;> rfl
              refine ⟨_, ?_, rfl, by first | omega | assumption | exact AB.none (by omega) | exact AB.mono (by assumption) (by omega) (by omega) (by omega) (by omega), by first | omega | assumption | exact AB.none (by omega) | exact AB.mono (by assumption) (by omega) (by omega) (by omega) (by omega), by first | omega | assumption | exact AB.none (by omega) | exact AB.mono (by assumption) (by omega) (by omega) (by omega) (by omega)⟩
              omega
  · skip
    have t23 := inle (a := 0) (b := r5.toInt) rfl rfl c8
    first
      | exfalso; omega
      | skip
        exact hk _ _ _ _ _ _ _ (by first | omega | assumption | exact AB.none (by omega) | exact AB.mono (by assumption) (by omega) (by omega) (by omega) (by omega))
set_option maxHeartbeats 1000000 in
set_option maxRecDepth 10000 in
theorem f_X8_kindOf {p1 : Int32} {post : Int32 → Prop} (hp0 : p1.toInt = -1) (hk : ∀ (r : Int32), (r.toInt = -1) → post r) : wp_X8_kindOf p1 post := by
  unfold wp_X8_kindOf
  have tn60 : ((Int32.toNatClampNeg 60 : Nat) : Int) = 60 := rfl
  have tn61 : ((Int32.toNatClampNeg 61 : Nat) : Int) = 61 := rfl
  have tn62 : ((Int32.toNatClampNeg 62 : Nat) : Int) = 62 := rfl
  refine ⟨fun c1 => ?_, fun c1 => ?_⟩
  · skip
    have t2 := ine (a := p1.toInt) (b := 112) rfl rfl c1
    first
      | exfalso; omega
      | skip
        refine ⟨fun c3 => ?_, fun c3 => ?_⟩
        · skip
          have t4 := ine (a := p1.toInt) (b := 99) rfl rfl c3
          first
            | exfalso; omega
            | skip
              refine ⟨fun c5 => ?_, fun c5 => ?_⟩
              · skip
                have t6 := ine (a := p1.toInt) (b := 111) rfl rfl c5
                first
                  | exfalso; omega
                  | skip
                    refine ⟨fun c7 => ?_, fun c7 => ?_⟩
                    · skip
                      have t8 := ine (a := p1.toInt) (b := 100) rfl rfl c7
                      first
                        | exfalso; omega
                        | skip
                          refine ⟨fun c9 => ?_, fun c9 => ?_⟩
                          · skip
                            have t10 := ine (a := p1.toInt) (b := 116) rfl rfl c9
                            first
                              | exfalso; omega
                              | skip
                                refine ⟨fun c11 => ?_, fun c11 => ?_⟩
                                · skip
                                  have t12 := ine (a := p1.toInt) (b := 109) rfl rfl c11
                                  first
                                    | exfalso; omega
                                    | skip
                                      have t13 : ((-1) : Int32).toInt = (-1) := rfl
                                      exact hk _ (by first | omega | assumption | exact AB.none (by omega) | exact AB.mono (by assumption) (by omega) (by omega) (by omega) (by omega))
                                · skip
                                  have t14 := ieq (a := p1.toInt) (b := 109) rfl rfl c11
                                  exfalso; omega
                          · skip
                            have t15 := ieq (a := p1.toInt) (b := 116) rfl rfl c9
                            exfalso; omega
                    · skip
                      have t16 := ieq (a := p1.toInt) (b := 100) rfl rfl c7
                      exfalso; omega
              · skip
                have t17 := ieq (a := p1.toInt) (b := 111) rfl rfl c5
                exfalso; omega
        · skip
          have t18 := ieq (a := p1.toInt) (b := 99) rfl rfl c3
          exfalso; omega
  · skip
    have t19 := ieq (a := p1.toInt) (b := 112) rfl rfl c1
    exfalso; omega
set_option maxHeartbeats 1000000 in
set_option maxRecDepth 10000 in
theorem f_X8_readClock {p1 : Int32} {v_tape : Nat → Int32} {v_taped : Int32} {v_place : Int32} {v_read : Nat → Int32} {post : Int32 → (Int32) → (Nat → Int32) → Prop} (hp0 : v_taped.toInt = 0) (hp1 : v_place.toInt = 0) (hp2 : v_place.toInt = 0) (hp3 : p1.toInt = 0) (hk : ∀ (r : Int32) (v_place' : Int32) (v_read' : Nat → Int32), (r.toInt = 0) → (v_place'.toInt = 0) → post r v_place' v_read') : wp_X8_readClock p1 v_tape v_taped v_place v_read post := by
  unfold wp_X8_readClock
  have tn60 : ((Int32.toNatClampNeg 60 : Nat) : Int) = 60 := rfl
  have tn61 : ((Int32.toNatClampNeg 61 : Nat) : Int) = 61 := rfl
  have tn62 : ((Int32.toNatClampNeg 62 : Nat) : Int) = 62 := rfl
  refine f_X8_nextLetter (by first | omega | assumption | exact AB.none (by omega) | exact AB.mono (by assumption) (by omega) (by omega) (by omega) (by omega)) (by first | omega | assumption | exact AB.none (by omega) | exact AB.mono (by assumption) (by omega) (by omega) (by omega) (by omega)) (fun r1 v_place_2 q1 q2 => ?_)
  refine f_X8_kindOf (by first | omega | assumption | exact AB.none (by omega) | exact AB.mono (by assumption) (by omega) (by omega) (by omega) (by omega)) (fun r3 q3 => ?_)
  refine ⟨ivp (a := p1.toInt) rfl (by omega) (by omega), ?_⟩
  intro f4 ef4
  have t4 : ((Int32.toNatClampNeg p1 : Nat) : Int) = p1.toInt := itn rfl (by omega)
  have t5 : (f4 (Int32.toNatClampNeg p1)).toInt = r3.toInt := by rw [ef4, upd_eq] <;> rfl
  refine ⟨ivp (a := p1.toInt) rfl (by omega) (by omega), ?_⟩
  refine ⟨fun c6 => ?_, fun c6 => ?_⟩
  · skip
    have t7 := ile (a := 0) (b := (f4 (Int32.toNatClampNeg p1)).toInt) rfl rfl c6
    first
      | exfalso; omega
      | skip
        try have t8 : (v_place_2 + 1).toInt = v_place_2.toInt + 1 := ia rfl rfl (by omega) (by omega)
        intro z6 ez6
        have t9 : z6.toInt = (v_place_2 + 1).toInt := by rw [ez6] <;> rfl
        have t10 : (0 : Int32).toInt = 0 := rfl
        have t11 : (719 : Int32).toInt = 719 := rfl
        fail
  · skip
    have t12 := inle (a := 0) (b := (f4 (Int32.toNatClampNeg p1)).toInt) rfl rfl c6
    first
      | exfalso; omega
      | skip
        have t13 : (0 : Int32).toInt = 0 := rfl
        exact hk _ _ _ (by first | omega | assumption | exact AB.none (by omega) | exact AB.mono (by assumption) (by omega) (by omega) (by omega) (by omega)) (by first | omega | assumption | exact AB.none (by omega) | exact AB.mono (by assumption) (by omega) (by omega) (by omega) (by omega))
set_option maxHeartbeats 1000000 in
set_option maxRecDepth 10000 in
theorem f_X8_readStreet {v_tape : Nat → Int32} {v_taped : Int32} {v_place : Int32} {v_reads : Int32} {v_read : Nat → Int32} {post : Int32 → (Int32) → (Int32) → (Nat → Int32) → Prop} (hp0 : v_taped.toInt = 0) (hp1 : v_place.toInt = 0) (hk : ∀ (r : Int32) (v_place' : Int32) (v_reads' : Int32) (v_read' : Nat → Int32), (r.toInt = 0) → (v_place'.toInt = 0) → post r v_place' v_reads' v_read') : wp_X8_readStreet v_tape v_taped v_place v_reads v_read post := by
  unfold wp_X8_readStreet
  have tn60 : ((Int32.toNatClampNeg 60 : Nat) : Int) = 60 := rfl
  have tn61 : ((Int32.toNatClampNeg 61 : Nat) : Int) = 61 := rfl
  have tn62 : ((Int32.toNatClampNeg 62 : Nat) : Int) = 62 := rfl
  have t1 : ((0 : Int32)).toInt = 0 := rfl
  have t2 : ((0 : Int32)).toInt = 0 := rfl
  refine ⟨fun n1 x1_1 v_place_1 v_reads_1 v_read_1 => n1 = ((0 : Int)).toNat ∧ (v_place_1.toInt = 0) ∧ (x1_1.toInt = 0) ∧ (v_place_1.toInt = 0) ∧ (v_reads_1.toInt = v_reads.toInt) ∧ (0 ≤ x1_1.toInt), ⟨_, rfl, by first | omega | assumption | exact AB.none (by omega) | exact AB.mono (by assumption) (by omega) (by omega) (by omega) (by omega), by first | omega | assumption | exact AB.none (by omega) | exact AB.mono (by assumption) (by omega) (by omega) (by omega) (by omega), by first | omega | assumption | exact AB.none (by omega) | exact AB.mono (by assumption) (by omega) (by omega) (by omega) (by omega), by first | omega | assumption | exact AB.none (by omega) | exact AB.mono (by assumption) (by omega) (by omega) (by omega) (by omega), by first | omega | assumption | exact AB.none (by omega) | exact AB.mono (by assumption) (by omega) (by omega) (by omega) (by omega)⟩, ?_⟩
  rintro n1 x1_1 v_place_1 v_reads_1 v_read_1 ⟨hn1, q3, q4, q5, q6, q7⟩
  refine ⟨fun c8 => ?_, fun c8 => ?_⟩
  · skip
    have t9 := ile (a := 9) (b := x1_1.toInt) rfl rfl c8
    exfalso; omega
  · skip
    have t10 := inle (a := 9) (b := x1_1.toInt) rfl rfl c8
    first
      | exfalso; omega
      | skip
        try have t11 : (4 * x1_1).toInt = 4 * x1_1.toInt := im rfl rfl (by omega) (by omega)
        refine f_X8_readClock (by first | omega | assumption | exact AB.none (by omega) | exact AB.mono (by assumption) (by omega) (by omega) (by omega) (by omega)) (by first | omega | assumption | exact AB.none (by omega) | exact AB.mono (by assumption) (by omega) (by omega) (by omega) (by omega)) (by first | omega | assumption | exact AB.none (by omega) | exact AB.mono (by assumption) (by omega) (by omega) (by omega) (by omega)) (by first | omega | assumption | exact AB.none (by omega) | exact AB.mono (by assumption) (by omega) (by omega) (by omega) (by omega)) (fun r3 v_place_4 v_read_5 q12 q13 => ?_)
        refine ⟨fun c14 => ?_, fun c14 => ?_⟩
        · skip
          have t15 := ine (a := r3.toInt) (b := 0) rfl rfl c14
          exfalso; omega
        · skip
          have t16 := ieq (a := r3.toInt) (b := 0) rfl rfl c14
          first
            | exfalso; omega
            | skip
              have t17 : (0 : Int32).toInt = 0 := rfl
              exact hk _ _ _ _ (by first | omega | assumption | exact AB.none (by omega) | exact AB.mono (by assumption) (by omega) (by omega) (by omega) (by omega)) (by first | omega | assumption | exact AB.none (by omega) | exact AB.mono (by assumption) (by omega) (by omega) (by omega) (by omega))
set_option maxHeartbeats 1000000 in
set_option maxRecDepth 10000 in
theorem f_X8_street {v_st : Nat → Int32} {v_kinds : Nat → Int32} {v_rates : Nat → Int32} {v_clocks : Int32} {v_bets : Int32} {v_undoMany : Int32} {v_tape : Nat → Int32} {v_taped : Int32} {v_place : Int32} {v_reads : Int32} {v_read : Nat → Int32} {post : Int32 → (Nat → Int32) → (Nat → Int32) → (Nat → Int32) → (Int32) → (Int32) → (Int32) → (Int32) → (Int32) → (Int32) → (Nat → Int32) → Prop} (hp0 : v_clocks.toInt = 0) (hp1 : v_bets.toInt = 0) (hp2 : v_undoMany.toInt = 0) (hp3 : v_taped.toInt = 0) (hp4 : v_place.toInt = 0) (hp5 : AB v_st 0 24 12 12) (hp6 : 0 ≤ (v_st (Int32.toNatClampNeg 60)).toInt) (hp7 : (v_st (Int32.toNatClampNeg 60)).toInt ≤ 1000) (hp8 : (v_st (Int32.toNatClampNeg 61)).toInt = 0) (hp9 : (v_st (Int32.toNatClampNeg 62)).toInt = 0) (hp10 : (v_st (Int32.toNatClampNeg 60)).toInt = 0) (hk : ∀ (r : Int32) (v_st' : Nat → Int32) (v_kinds' : Nat → Int32) (v_rates' : Nat → Int32) (v_clocks' : Int32) (v_bets' : Int32) (v_undoMany' : Int32) (v_taped' : Int32) (v_place' : Int32) (v_reads' : Int32) (v_read' : Nat → Int32), (r.toInt = -20) → post r v_st' v_kinds' v_rates' v_clocks' v_bets' v_undoMany' v_taped' v_place' v_reads' v_read') : wp_X8_street v_st v_kinds v_rates v_clocks v_bets v_undoMany v_tape v_taped v_place v_reads v_read post := by
  unfold wp_X8_street
  have tn60 : ((Int32.toNatClampNeg 60 : Nat) : Int) = 60 := rfl
  have tn61 : ((Int32.toNatClampNeg 61 : Nat) : Int) = 61 := rfl
  have tn62 : ((Int32.toNatClampNeg 62 : Nat) : Int) = 62 := rfl
  refine f_X8_readStreet (by first | omega | assumption | exact AB.none (by omega) | exact AB.mono (by assumption) (by omega) (by omega) (by omega) (by omega)) (by first | omega | assumption | exact AB.none (by omega) | exact AB.mono (by assumption) (by omega) (by omega) (by omega) (by omega)) (fun r1 v_place_2 v_reads_3 v_read_4 q1 q2 => ?_)
  refine f_X8_end (by first | omega | assumption | exact AB.none (by omega) | exact AB.mono (by assumption) (by omega) (by omega) (by omega) (by omega)) (by first | omega | assumption | exact AB.none (by omega) | exact AB.mono (by assumption) (by omega) (by omega) (by omega) (by omega)) (by first | omega | assumption | exact AB.none (by omega) | exact AB.mono (by assumption) (by omega) (by omega) (by omega) (by omega)) (fun r5 v_taped_6 v_place_7 q3 => ?_)
  refine ⟨fun c4 => ?_, fun c4 => ?_⟩
  · skip
    have t5 := ile (a := 0) (b := r5.toInt) rfl rfl c4
    first
      | exfalso; omega
      | skip
        refine ⟨ivp (a := 61) rfl (by omega) (by omega), ?_⟩
        intro f9 ef9
        have t6 : ((Int32.toNatClampNeg 61 : Nat) : Int) = 61 := itn rfl (by omega)
        have t7 : (f9 (Int32.toNatClampNeg 61)).toInt = 0 := by rw [ef9, upd_eq] <;> rfl
        try have t8 : (f9 (Int32.toNatClampNeg 60)).toInt = (v_st (Int32.toNatClampNeg 60)).toInt := by rw [ef9, upd_ne (by omega)]
        try have t9 : (f9 (Int32.toNatClampNeg 61)).toInt = (v_st (Int32.toNatClampNeg 61)).toInt := by rw [ef9, upd_ne (by omega)]
        try have t10 : (f9 (Int32.toNatClampNeg 62)).toInt = (v_st (Int32.toNatClampNeg 62)).toInt := by rw [ef9, upd_ne (by omega)]
        try have q11 : AB f9 0 24 12 12 := by rw [ef9]; first | exact AB.updo (by assumption) (by omega) | exact AB.updv (by assumption) rfl (by omega) (by omega) | exact AB.none (by omega)
        refine ⟨ivp (a := 62) rfl (by omega) (by omega), ?_⟩
        intro f10 ef10
        have t12 : ((Int32.toNatClampNeg 62 : Nat) : Int) = 62 := itn rfl (by omega)
        have t13 : (f10 (Int32.toNatClampNeg 62)).toInt = 0 := by rw [ef10, upd_eq] <;> rfl
        try have t14 : (f10 (Int32.toNatClampNeg 60)).toInt = (f9 (Int32.toNatClampNeg 60)).toInt := by rw [ef10, upd_ne (by omega)]
        try have t15 : (f10 (Int32.toNatClampNeg 61)).toInt = (f9 (Int32.toNatClampNeg 61)).toInt := by rw [ef10, upd_ne (by omega)]
        try have t16 : (f10 (Int32.toNatClampNeg 62)).toInt = (f9 (Int32.toNatClampNeg 62)).toInt := by rw [ef10, upd_ne (by omega)]
        try have q17 : AB f10 0 24 12 12 := by rw [ef10]; first | exact AB.updo (by assumption) (by omega) | exact AB.updv (by assumption) rfl (by omega) (by omega) | exact AB.none (by omega)
        have t18 : ((0 : Int32)).toInt = 0 := rfl
        have t19 : ((0 : Int32)).toInt = 0 := rfl
        refine ⟨fun n11 x2_11 v_st_11 v_kinds_11 v_rates_11 v_clocks_11 => n11 = ((0 : Int)).toNat ∧ (v_clocks_11.toInt = 0) ∧ (AB v_st_11 0 24 12 12) ∧ (0 ≤ (v_st_11 (Int32.toNatClampNeg 60)).toInt) ∧ ((v_st_11 (Int32.toNatClampNeg 60)).toInt ≤ 1000) ∧ ((v_st_11 (Int32.toNatClampNeg 61)).toInt = 0) ∧ ((v_st_11 (Int32.toNatClampNeg 62)).toInt = 0) ∧ (x2_11.toInt = 0) ∧ ((v_st_11 (Int32.toNatClampNeg 60)).toInt = (f10 (Int32.toNatClampNeg 60)).toInt) ∧ ((v_st_11 (Int32.toNatClampNeg 61)).toInt = (f10 (Int32.toNatClampNeg 61)).toInt) ∧ ((v_st_11 (Int32.toNatClampNeg 62)).toInt = (f10 (Int32.toNatClampNeg 62)).toInt) ∧ (v_clocks_11.toInt = 0) ∧ (0 ≤ x2_11.toInt), ⟨_, rfl, by first | omega | assumption | exact AB.none (by omega) | exact AB.mono (by assumption) (by omega) (by omega) (by omega) (by omega), by first | omega | assumption | exact AB.none (by omega) | exact AB.mono (by assumption) (by omega) (by omega) (by omega) (by omega), by first | omega | assumption | exact AB.none (by omega) | exact AB.mono (by assumption) (by omega) (by omega) (by omega) (by omega), by first | omega | assumption | exact AB.none (by omega) | exact AB.mono (by assumption) (by omega) (by omega) (by omega) (by omega), by first | omega | assumption | exact AB.none (by omega) | exact AB.mono (by assumption) (by omega) (by omega) (by omega) (by omega), by first | omega | assumption | exact AB.none (by omega) | exact AB.mono (by assumption) (by omega) (by omega) (by omega) (by omega), by first | omega | assumption | exact AB.none (by omega) | exact AB.mono (by assumption) (by omega) (by omega) (by omega) (by omega), by first | omega | assumption | exact AB.none (by omega) | exact AB.mono (by assumption) (by omega) (by omega) (by omega) (by omega), by first | omega | assumption | exact AB.none (by omega) | exact AB.mono (by assumption) (by omega) (by omega) (by omega) (by omega), by first | omega | assumption | exact AB.none (by omega) | exact AB.mono (by assumption) (by omega) (by omega) (by omega) (by omega), by first | omega | assumption | exact AB.none (by omega) | exact AB.mono (by assumption) (by omega) (by omega) (by omega) (by omega), by first | omega | assumption | exact AB.none (by omega) | exact AB.mono (by assumption) (by omega) (by omega) (by omega) (by omega)⟩, ?_⟩
        rintro n11 x2_11 v_st_11 v_kinds_11 v_rates_11 v_clocks_11 ⟨hn11, q20, q21, q22, q23, q24, q25, q26, q27, q28, q29, q30, q31⟩
        refine ⟨fun c32 => ?_, fun c32 => ?_⟩
        · skip
          have t33 := ile (a := v_reads_3.toInt) (b := x2_11.toInt) rfl rfl c32
          first
            | exfalso; omega
            | skip
              have t34 : (0 : Int32).toInt = 0 := rfl
              exact hk _ _ _ _ _ _ _ _ _ _ _ (by first | omega | assumption | exact AB.none (by omega) | exact AB.mono (by assumption) (by omega) (by omega) (by omega) (by omega))
        · skip
          have t35 := inle (a := v_reads_3.toInt) (b := x2_11.toInt) rfl rfl c32
          first
            | exfalso; omega
            | skip
              try have t36 : (4 * x2_11).toInt = 4 * x2_11.toInt := im rfl rfl (by omega) (by omega)
              refine ⟨ivp (a := (4 * x2_11).toInt) rfl (by omega) (by omega), ?_⟩
              try have t37 : ((4 * x2_11) + 1).toInt = (4 * x2_11).toInt + 1 := ia rfl rfl (by omega) (by omega)
              refine ⟨ivp (a := ((4 * x2_11) + 1).toInt) rfl (by omega) (by omega), ?_⟩
              try have t38 : ((4 * x2_11) + 2).toInt = (4 * x2_11).toInt + 2 := ia rfl rfl (by omega) (by omega)
              refine ⟨ivp (a := ((4 * x2_11) + 2).toInt) rfl (by omega) (by omega), ?_⟩
              try have t39 : ((4 * x2_11) + 3).toInt = (4 * x2_11).toInt + 3 := ia rfl rfl (by omega) (by omega)
              refine ⟨ivp (a := ((4 * x2_11) + 3).toInt) rfl (by omega) (by omega), ?_⟩
              refine f_X8_add (by first | omega | assumption | exact AB.none (by omega) | exact AB.mono (by assumption) (by omega) (by omega) (by omega) (by omega)) (by first | omega | assumption | exact AB.none (by omega) | exact AB.mono (by assumption) (by omega) (by omega) (by omega) (by omega)) (by first | omega | assumption | exact AB.none (by omega) | exact AB.mono (by assumption) (by omega) (by omega) (by omega) (by omega)) (by first | omega | assumption | exact AB.none (by omega) | exact AB.mono (by assumption) (by omega) (by omega) (by omega) (by omega)) (by first | omega | assumption | exact AB.none (by omega) | exact AB.mono (by assumption) (by omega) (by omega) (by omega) (by omega)) (by first | omega | assumption | exact AB.none (by omega) | exact AB.mono (by assumption) (by omega) (by omega) (by omega) (by omega)) (fun v_st_14 v_kinds_15 v_rates_16 v_clocks_17 q40 => ?_)
              try have t41 : (x2_11 + 1).toInt = x2_11.toInt + 1 := ia rfl rfl (by omega) (by omega)
              intro z18 ez18
              have t42 : z18.toInt = (x2_11 + 1).toInt := by rw [ez18] <;> rfl
              refine ⟨_, ?_, rfl, by first | omega | assumption | exact AB.none (by omega) | exact AB.mono (by assumption) (by omega) (by omega) (by omega) (by omega), by first | omega | assumption | exact AB.none (by omega) | exact AB.mono (by assumption) (by omega) (by omega) (by omega) (by omega), by first | omega | assumption | exact AB.none (by omega) | exact AB.mono (by assumption) (by omega) (by omega) (by omega) (by omega), by first | omega | assumption | exact AB.none (by omega) | exact AB.mono (by assumption) (by omega) (by omega) (by omega) (by omega), by first | omega | assumption | exact AB.none (by omega) | exact AB.mono (by assumption) (by omega) (by omega) (by omega) (by omega), by first | omega | assumption | exact AB.none (by omega) | exact AB.mono (by assumption) (by omega) (by omega) (by omega) (by omega), by first | omega | assumption | exact AB.none (by omega) | exact AB.mono (by assumption) (by omega) (by omega) (by omega) (by omega), by first | omega | assumption | exact AB.none (by omega) | exact AB.mono (by assumption) (by omega) (by omega) (by omega) (by omega), by first | omega | assumption | exact AB.none (by omega) | exact AB.mono (by assumption) (by omega) (by omega) (by omega) (by omega), by first | omega | assumption | exact AB.none (by omega) | exact AB.mono (by assumption) (by omega) (by omega) (by omega) (by omega), by first | omega | assumption | exact AB.none (by omega) | exact AB.mono (by assumption) (by omega) (by omega) (by omega) (by omega), by first | omega | assumption | exact AB.none (by omega) | exact AB.mono (by assumption) (by omega) (by omega) (by omega) (by omega)⟩
              omega
  · skip
    have t43 := inle (a := 0) (b := r5.toInt) rfl rfl c4
    first
      | exfalso; omega
      | skip
        exact hk _ _ _ _ _ _ _ _ _ _ _ (by first | omega | assumption | exact AB.none (by omega) | exact AB.mono (by assumption) (by omega) (by omega) (by omega) (by omega))
set_option maxHeartbeats 1000000 in
set_option maxRecDepth 10000 in
theorem f_X8_readAct {p1 : Int32} {v_clocks : Int32} {v_windows : Int32} {v_tape : Nat → Int32} {v_taped : Int32} {v_place : Int32} {v_read : Nat → Int32} {post : Int32 → (Int32) → (Nat → Int32) → Prop} (hp0 : v_clocks.toInt = 0) (hp1 : v_windows.toInt = 8) (hp2 : v_taped.toInt = 0) (hp3 : v_place.toInt = 0) (hp4 : v_place.toInt = 0) (hk : ∀ (r : Int32) (v_place' : Int32) (v_read' : Nat → Int32), (r.toInt = 0) → (v_place'.toInt = 0) → post r v_place' v_read') : wp_X8_readAct p1 v_clocks v_windows v_tape v_taped v_place v_read post := by
  unfold wp_X8_readAct
  have tn60 : ((Int32.toNatClampNeg 60 : Nat) : Int) = 60 := rfl
  have tn61 : ((Int32.toNatClampNeg 61 : Nat) : Int) = 61 := rfl
  have tn62 : ((Int32.toNatClampNeg 62 : Nat) : Int) = 62 := rfl
  refine f_X8_nextLetter (by first | omega | assumption | exact AB.none (by omega) | exact AB.mono (by assumption) (by omega) (by omega) (by omega) (by omega)) (by first | omega | assumption | exact AB.none (by omega) | exact AB.mono (by assumption) (by omega) (by omega) (by omega) (by omega)) (fun r1 v_place_2 q1 q2 => ?_)
  refine ⟨(∀ z4 : Int32, z4 = (v_place_2 + 1) → (vp_in p1 480 ∧ ∀ f5 : Nat → Int32, f5 = (upd v_read (Int32.toNatClampNeg p1) r1) → ((¬ r1 = 104 → ((¬ r1 = 98 → (wp_X8_nextLetter v_tape v_taped z4 (fun (r8 : Int32) (v_place_9 : Int32) =>
 (∀ z10 : Int32, z10 = (r8 - 48) → (vp_in (p1 + 1) 480 ∧ ∀ f11 : Nat → Int32, f11 = (upd f5 (Int32.toNatClampNeg (p1 + 1)) z10) → (vp_in (p1 + 1) 480 ∧ (wp_X8_isClock (f11 (Int32.toNatClampNeg (p1 + 1))) v_clocks (fun (r12 : Int32) =>
 ((¬ r12 = 0 → (∀ z14 : Int32, z14 = (v_place_9 + 1) → (wp_X8_takes 43 v_tape v_taped z14 (fun (r15 : Int32) (v_place_16 : Int32) =>
 ((¬ r15 = 0 → (∃ J18 : (Int32) → Prop, (∀ (y4_18 : Int32), J18 y4_18 →
 (wp_X8_readNumber 1 y4_18 v_tape v_taped v_place_16 (fun (r19 : Int32) (v_place_20 : Int32) =>
 (vp_in (p1 + 2) 480 ∧ ∀ f21 : Nat → Int32, f21 = (upd f11 (Int32.toNatClampNeg (p1 + 2)) r19) → (vp_in (p1 + 2) 480 ∧ (((f21 (Int32.toNatClampNeg (p1 + 2))) < 0 → (post 0 v_place_20 f21)) ∧
 (¬ (f21 (Int32.toNatClampNeg (p1 + 2))) < 0 → (post 1 v_place_20 f21)))))))) ∧
 ((¬ r1 = 119 → (J18 719)) ∧
 (r1 = 119 → (J18 99))))) ∧
 (r15 = 0 → (post 0 v_place_16 f11))))))) ∧
 (r12 = 0 → (post 0 v_place_9 f11))))))))))) ∧
 (r1 = 98 → (wp_X8_readNumber 0 (v_windows - 1) v_tape v_taped z4 (fun (r24 : Int32) (v_place_25 : Int32) =>
 (vp_in (p1 + 1) 480 ∧ ∀ f26 : Nat → Int32, f26 = (upd f5 (Int32.toNatClampNeg (p1 + 1)) r24) → (vp_in (p1 + 1) 480 ∧ (((f26 (Int32.toNatClampNeg (p1 + 1))) < 0 → (post 0 v_place_25 f26)) ∧
 (¬ (f26 (Int32.toNatClampNeg (p1 + 1))) < 0 → (post 1 v_place_25 f26)))))))))) ∧
 (r1 = 104 → (post 1 z4 f5))))), fun h => h, ?_⟩
  refine ⟨fun c3 => ?_, fun c3 => ?_⟩
  · skip
    have t4 := ieq (a := r1.toInt) (b := 119) rfl rfl c3
    exfalso; omega
  · skip
    have t5 := ine (a := r1.toInt) (b := 119) rfl rfl c3
    first
      | exfalso; omega
      | skip
        refine ⟨fun c6 => ?_, fun c6 => ?_⟩
        · skip
          have t7 := ieq (a := r1.toInt) (b := 116) rfl rfl c6
          exfalso; omega
        · skip
          have t8 := ine (a := r1.toInt) (b := 116) rfl rfl c6
          first
            | exfalso; omega
            | skip
              refine ⟨fun c9 => ?_, fun c9 => ?_⟩
              · skip
                have t10 := ieq (a := r1.toInt) (b := 98) rfl rfl c9
                exfalso; omega
              · skip
                have t11 := ine (a := r1.toInt) (b := 98) rfl rfl c9
                first
                  | exfalso; omega
                  | skip
                    refine ⟨fun c12 => ?_, fun c12 => ?_⟩
                    · skip
                      have t13 := ieq (a := r1.toInt) (b := 104) rfl rfl c12
                      exfalso; omega
                    · skip
                      have t14 := ine (a := r1.toInt) (b := 104) rfl rfl c12
                      first
                        | exfalso; omega
                        | skip
                          have t15 : (0 : Int32).toInt = 0 := rfl
                          exact hk _ _ _ (by first | omega | assumption | exact AB.none (by omega) | exact AB.mono (by assumption) (by omega) (by omega) (by omega) (by omega)) (by first | omega | assumption | exact AB.none (by omega) | exact AB.mono (by assumption) (by omega) (by omega) (by omega) (by omega))
set_option maxHeartbeats 1000000 in
set_option maxRecDepth 10000 in
theorem f_X8_readDay {v_clocks : Int32} {v_windows : Int32} {v_tape : Nat → Int32} {v_taped : Int32} {v_place : Int32} {v_reads : Int32} {v_read : Nat → Int32} {post : Int32 → (Int32) → (Int32) → (Nat → Int32) → Prop} (hp0 : v_clocks.toInt = 0) (hp1 : v_windows.toInt = 8) (hp2 : v_taped.toInt = 0) (hp3 : v_place.toInt = 0) (hk : ∀ (r : Int32) (v_place' : Int32) (v_reads' : Int32) (v_read' : Nat → Int32), (r.toInt = 0) → (v_place'.toInt = 0) → post r v_place' v_reads' v_read') : wp_X8_readDay v_clocks v_windows v_tape v_taped v_place v_reads v_read post := by
  unfold wp_X8_readDay
  have tn60 : ((Int32.toNatClampNeg 60 : Nat) : Int) = 60 := rfl
  have tn61 : ((Int32.toNatClampNeg 61 : Nat) : Int) = 61 := rfl
  have tn62 : ((Int32.toNatClampNeg 62 : Nat) : Int) = 62 := rfl
  have t1 : ((1 : Int32)).toInt = 1 := rfl
  have t2 : ((0 : Int32)).toInt = 0 := rfl
  have t3 : ((0 : Int32)).toInt = 0 := rfl
  refine ⟨fun n1 x1_1 v_place_1 v_reads_1 v_read_1 => n1 = ((0 : Int)).toNat ∧ (v_place_1.toInt = 0) ∧ (x1_1.toInt = 1) ∧ (v_place_1.toInt = 0) ∧ (v_reads_1.toInt = 0), ⟨_, rfl, by first | omega | assumption | exact AB.none (by omega) | exact AB.mono (by assumption) (by omega) (by omega) (by omega) (by omega), by first | omega | assumption | exact AB.none (by omega) | exact AB.mono (by assumption) (by omega) (by omega) (by omega) (by omega), by first | omega | assumption | exact AB.none (by omega) | exact AB.mono (by assumption) (by omega) (by omega) (by omega) (by omega), by first | omega | assumption | exact AB.none (by omega) | exact AB.mono (by assumption) (by omega) (by omega) (by omega) (by omega)⟩, ?_⟩
  rintro n1 x1_1 v_place_1 v_reads_1 v_read_1 ⟨hn1, q4, q5, q6, q7⟩
  refine ⟨fun c8 => ?_, fun c8 => ?_⟩
  · skip
    have t9 := ieq (a := x1_1.toInt) (b := 0) rfl rfl c8
    exfalso; omega
  · skip
    have t10 := ine (a := x1_1.toInt) (b := 0) rfl rfl c8
    first
      | exfalso; omega
      | skip
        try have t11 : (3 * v_reads_1).toInt = 3 * v_reads_1.toInt := im rfl rfl (by omega) (by omega)
        refine f_X8_readAct (by first | omega | assumption | exact AB.none (by omega) | exact AB.mono (by assumption) (by omega) (by omega) (by omega) (by omega)) (by first | omega | assumption | exact AB.none (by omega) | exact AB.mono (by assumption) (by omega) (by omega) (by omega) (by omega)) (by first | omega | assumption | exact AB.none (by omega) | exact AB.mono (by assumption) (by omega) (by omega) (by omega) (by omega)) (by first | omega | assumption | exact AB.none (by omega) | exact AB.mono (by assumption) (by omega) (by omega) (by omega) (by omega)) (by first | omega | assumption | exact AB.none (by omega) | exact AB.mono (by assumption) (by omega) (by omega) (by omega) (by omega)) (fun r6 v_place_7 v_read_8 q12 q13 => ?_)
        refine ⟨fun c14 => ?_, fun c14 => ?_⟩
        · skip
          have t15 := ine (a := r6.toInt) (b := 0) rfl rfl c14
          exfalso; omega
        · skip
          have t16 := ieq (a := r6.toInt) (b := 0) rfl rfl c14
          first
            | exfalso; omega
            | skip
              have t17 : (0 : Int32).toInt = 0 := rfl
              exact hk _ _ _ _ (by first | omega | assumption | exact AB.none (by omega) | exact AB.mono (by assumption) (by omega) (by omega) (by omega) (by omega)) (by first | omega | assumption | exact AB.none (by omega) | exact AB.mono (by assumption) (by omega) (by omega) (by omega) (by omega))
set_option maxHeartbeats 1000000 in
set_option maxRecDepth 10000 in
theorem f_X8_wind {p1 : Int32} {p2 : Int32} {v_st : Nat → Int32} {v_clocks : Int32} {v_undos : Nat → Int32} {v_undoMany : Int32} {post : Int32 → (Nat → Int32) → (Nat → Int32) → (Int32) → Prop} (hp0 : v_clocks.toInt = 0) (hp1 : v_undoMany.toInt = 0) (hp2 : AB v_st 0 24 12 12) (hp3 : 0 ≤ (v_st (Int32.toNatClampNeg 60)).toInt) (hp4 : (v_st (Int32.toNatClampNeg 60)).toInt ≤ 1000) (hp5 : (v_st (Int32.toNatClampNeg 61)).toInt = 0) (hp6 : (v_st (Int32.toNatClampNeg 62)).toInt = 0) (hp7 : (v_st (Int32.toNatClampNeg 60)).toInt = 0) (hk : ∀ (r : Int32) (v_st' : Nat → Int32) (v_undos' : Nat → Int32) (v_undoMany' : Int32), (r.toInt = -1) → post r v_st' v_undos' v_undoMany') : wp_X8_wind p1 p2 v_st v_clocks v_undos v_undoMany post := by
  unfold wp_X8_wind
  have tn60 : ((Int32.toNatClampNeg 60 : Nat) : Int) = 60 := rfl
  have tn61 : ((Int32.toNatClampNeg 61 : Nat) : Int) = 61 := rfl
  have tn62 : ((Int32.toNatClampNeg 62 : Nat) : Int) = 62 := rfl
  refine f_X8_isClock (by first | omega | assumption | exact AB.none (by omega) | exact AB.mono (by assumption) (by omega) (by omega) (by omega) (by omega)) (fun r1 q1 => ?_)
  refine ⟨fun c2 => ?_, fun c2 => ?_⟩
  · skip
    have t3 := ieq (a := r1.toInt) (b := 0) rfl rfl c2
    first
      | exfalso; omega
      | skip
        have t4 : ((-1) : Int32).toInt = (-1) := rfl
        exact hk _ _ _ _ (by first | omega | assumption | exact AB.none (by omega) | exact AB.mono (by assumption) (by omega) (by omega) (by omega) (by omega))
  · skip
    have t5 := ine (a := r1.toInt) (b := 0) rfl rfl c2
    exfalso; omega
set_option maxHeartbeats 1000000 in
set_option maxRecDepth 10000 in
theorem f_X8_turn {p1 : Int32} {p2 : Int32} {v_st : Nat → Int32} {v_clocks : Int32} {v_undos : Nat → Int32} {v_undoMany : Int32} {post : Int32 → (Nat → Int32) → (Nat → Int32) → (Int32) → Prop} (hp0 : v_clocks.toInt = 0) (hp1 : v_undoMany.toInt = 0) (hp2 : AB v_st 0 24 12 12) (hp3 : 0 ≤ (v_st (Int32.toNatClampNeg 60)).toInt) (hp4 : (v_st (Int32.toNatClampNeg 60)).toInt ≤ 1000) (hp5 : (v_st (Int32.toNatClampNeg 61)).toInt = 0) (hp6 : (v_st (Int32.toNatClampNeg 62)).toInt = 0) (hp7 : (v_st (Int32.toNatClampNeg 60)).toInt = 0) (hk : ∀ (r : Int32) (v_st' : Nat → Int32) (v_undos' : Nat → Int32) (v_undoMany' : Int32), (r.toInt = -1) → post r v_st' v_undos' v_undoMany') : wp_X8_turn p1 p2 v_st v_clocks v_undos v_undoMany post := by
  unfold wp_X8_turn
  have tn60 : ((Int32.toNatClampNeg 60 : Nat) : Int) = 60 := rfl
  have tn61 : ((Int32.toNatClampNeg 61 : Nat) : Int) = 61 := rfl
  have tn62 : ((Int32.toNatClampNeg 62 : Nat) : Int) = 62 := rfl
  refine f_X8_isClock (by first | omega | assumption | exact AB.none (by omega) | exact AB.mono (by assumption) (by omega) (by omega) (by omega) (by omega)) (fun r1 q1 => ?_)
  refine ⟨fun c2 => ?_, fun c2 => ?_⟩
  · skip
    have t3 := ieq (a := r1.toInt) (b := 0) rfl rfl c2
    first
      | exfalso; omega
      | skip
        have t4 : ((-1) : Int32).toInt = (-1) := rfl
        exact hk _ _ _ _ (by first | omega | assumption | exact AB.none (by omega) | exact AB.mono (by assumption) (by omega) (by omega) (by omega) (by omega))
  · skip
    have t5 := ine (a := r1.toInt) (b := 0) rfl rfl c2
    exfalso; omega
set_option maxHeartbeats 1000000 in
set_option maxRecDepth 10000 in
theorem f_X8_breathe {p1 : Int32} {v_st : Nat → Int32} {v_windows : Int32} {v_undos : Nat → Int32} {v_undoMany : Int32} {post : Int32 → (Nat → Int32) → (Nat → Int32) → (Int32) → Prop} (hp0 : v_windows.toInt = 8) (hp1 : v_undoMany.toInt = 0) (hp2 : AB v_st 0 24 12 12) (hp3 : 0 ≤ (v_st (Int32.toNatClampNeg 60)).toInt) (hp4 : (v_st (Int32.toNatClampNeg 60)).toInt ≤ 1000) (hp5 : (v_st (Int32.toNatClampNeg 61)).toInt = 0) (hp6 : (v_st (Int32.toNatClampNeg 62)).toInt = 0) (hp7 : (v_st (Int32.toNatClampNeg 60)).toInt = 0) (hk : ∀ (r : Int32) (v_st' : Nat → Int32) (v_undos' : Nat → Int32) (v_undoMany' : Int32), (((0 ≤ p1.toInt ∧ p1.toInt ≤ 7) ∧ r.toInt = -2) ∨ (¬ (0 ≤ p1.toInt ∧ p1.toInt ≤ 7) ∧ r.toInt = -1)) → post r v_st' v_undos' v_undoMany') : wp_X8_breathe p1 v_st v_windows v_undos v_undoMany post := by
  unfold wp_X8_breathe
  have tn60 : ((Int32.toNatClampNeg 60 : Nat) : Int) = 60 := rfl
  have tn61 : ((Int32.toNatClampNeg 61 : Nat) : Int) = 61 := rfl
  have tn62 : ((Int32.toNatClampNeg 62 : Nat) : Int) = 62 := rfl
  refine f_X8_isWindow (by first | omega | assumption | exact AB.none (by omega) | exact AB.mono (by assumption) (by omega) (by omega) (by omega) (by omega)) (fun r1 q1 => ?_)
  refine ⟨fun c2 => ?_, fun c2 => ?_⟩
  · skip
    have t3 := ine (a := r1.toInt) (b := 0) rfl rfl c2
    first
      | exfalso; omega
      | skip
        refine ⟨ivp (a := p1.toInt) rfl (by omega) (by omega), ?_⟩
        try have q4 := AB.get (f := v_st) (i := p1) (a := p1.toInt) (by assumption) rfl (by omega) (by omega) (by omega)
        intro z3 ez3
        have t5 : z3.toInt = (v_st (Int32.toNatClampNeg p1)).toInt := by rw [ez3] <;> rfl
        refine ⟨fun c6 => ?_, fun c6 => ?_⟩
        · skip
          have t7 := ine (a := z3.toInt) (b := 12) rfl rfl c6
          first
            | exfalso; omega
            | skip
              have t8 : (3 : Int32).toInt = 3 := rfl
              fail
        · skip
          have t9 := ieq (a := z3.toInt) (b := 12) rfl rfl c6
          first
            | exfalso; omega
            | skip
              have t10 : ((-2) : Int32).toInt = (-2) := rfl
              exact hk _ _ _ _ (by first | omega | assumption | exact AB.none (by omega) | exact AB.mono (by assumption) (by omega) (by omega) (by omega) (by omega))
  · skip
    have t11 := ieq (a := r1.toInt) (b := 0) rfl rfl c2
    first
      | exfalso; omega
      | skip
        have t12 : ((-1) : Int32).toInt = (-1) := rfl
        exact hk _ _ _ _ (by first | omega | assumption | exact AB.none (by omega) | exact AB.mono (by assumption) (by omega) (by omega) (by omega) (by omega))
set_option maxHeartbeats 1000000 in
set_option maxRecDepth 10000 in
theorem f_X8_skyNow {v_st : Nat → Int32} {v_skyRow : Nat → Int32} {v_skyMany : Int32} {v_sky : Int32} {post : Int32 → Prop} (hp0 : v_skyMany.toInt = 1) (hp1 : v_sky.toInt = -1) (hp2 : AB v_st 0 24 12 12) (hp3 : 0 ≤ (v_st (Int32.toNatClampNeg 60)).toInt) (hp4 : (v_st (Int32.toNatClampNeg 60)).toInt ≤ 1000) (hp5 : (v_st (Int32.toNatClampNeg 61)).toInt = 0) (hp6 : (v_st (Int32.toNatClampNeg 62)).toInt = 0) (hp7 : AB v_skyRow 0 12 0 0) (hk : ∀ (r : Int32), post r) : wp_X8_skyNow v_st v_skyRow v_skyMany v_sky post := by
  unfold wp_X8_skyNow
  have tn60 : ((Int32.toNatClampNeg 60 : Nat) : Int) = 60 := rfl
  have tn61 : ((Int32.toNatClampNeg 61 : Nat) : Int) = 61 := rfl
  have tn62 : ((Int32.toNatClampNeg 62 : Nat) : Int) = 62 := rfl
  refine ⟨fun c1 => ?_, fun c1 => ?_⟩
  · skip
    have t2 := ilt (a := v_sky.toInt) (b := 0) rfl rfl c1
    first
      | exfalso; omega
      | skip
        refine ⟨ivp (a := 60) rfl (by omega) (by omega), ?_⟩
        try have q3 := AB.get (f := v_st) (i := 60) (a := 60) (by assumption) rfl (by omega) (by omega) (by omega)
        refine ⟨fun h0 => absurd (ieq (a := v_skyMany.toInt) (b := 0) rfl rfl h0) (by omega), ?_⟩
        try have t4 := irb (x := (v_st (Int32.toNatClampNeg 60))) (y := v_skyMany) (a := (v_st (Int32.toNatClampNeg 60)).toInt) (b := v_skyMany.toInt) rfl rfl (by omega) (by omega)
        refine ⟨ivp (a := ((v_st (Int32.toNatClampNeg 60)) - (v_st (Int32.toNatClampNeg 60)) / v_skyMany * v_skyMany).toInt) rfl (by omega) (by omega), ?_⟩
        try have q5 := AB.get (f := v_skyRow) (i := ((v_st (Int32.toNatClampNeg 60)) - (v_st (Int32.toNatClampNeg 60)) / v_skyMany * v_skyMany)) (a := ((v_st (Int32.toNatClampNeg 60)) - (v_st (Int32.toNatClampNeg 60)) / v_skyMany * v_skyMany).toInt) (by assumption) rfl (by omega) (by omega) (by omega)
        exact hk _
  · skip
    have t6 := inlt (a := v_sky.toInt) (b := 0) rfl rfl c1
    exfalso; omega
set_option maxHeartbeats 1000000 in
set_option maxRecDepth 10000 in
theorem f_X8_goOn {p1 : Int32} {v_st : Nat → Int32} {v_kinds : Nat → Int32} {v_rates : Nat → Int32} {v_clocks : Int32} {v_windows : Int32} {post : Int32 → (Nat → Int32) → Prop} (hp0 : v_clocks.toInt = 0) (hp1 : v_windows.toInt = 8) (hp2 : AB v_st 0 24 12 12) (hp3 : 0 ≤ (v_st (Int32.toNatClampNeg 60)).toInt) (hp4 : (v_st (Int32.toNatClampNeg 60)).toInt ≤ 1000) (hp5 : (v_st (Int32.toNatClampNeg 61)).toInt = 0) (hp6 : (v_st (Int32.toNatClampNeg 62)).toInt = 0) (hp7 : (v_st (Int32.toNatClampNeg 60)).toInt ≤ 900) (hk : ∀ (r : Int32) (v_st' : Nat → Int32), (AB v_st' 0 24 12 12) → (0 ≤ (v_st' (Int32.toNatClampNeg 60)).toInt) → ((v_st' (Int32.toNatClampNeg 60)).toInt ≤ 1000) → ((v_st' (Int32.toNatClampNeg 61)).toInt = 0) → ((v_st' (Int32.toNatClampNeg 62)).toInt = 0) → (r.toInt = 0) → ((v_st' (Int32.toNatClampNeg 60)).toInt = (v_st (Int32.toNatClampNeg 60)).toInt + 1) → post r v_st') : wp_X8_goOn p1 v_st v_kinds v_rates v_clocks v_windows post := by
  unfold wp_X8_goOn
  have tn60 : ((Int32.toNatClampNeg 60 : Nat) : Int) = 60 := rfl
  have tn61 : ((Int32.toNatClampNeg 61 : Nat) : Int) = 61 := rfl
  have tn62 : ((Int32.toNatClampNeg 62 : Nat) : Int) = 62 := rfl
  refine ⟨ivp (a := 61) rfl (by omega) (by omega), ?_⟩
  intro f1 ef1
  have t1 : ((Int32.toNatClampNeg 61 : Nat) : Int) = 61 := itn rfl (by omega)
  have t2 : (f1 (Int32.toNatClampNeg 61)).toInt = 0 := by rw [ef1, upd_eq] <;> rfl
  try have t3 : (f1 (Int32.toNatClampNeg 60)).toInt = (v_st (Int32.toNatClampNeg 60)).toInt := by rw [ef1, upd_ne (by omega)]
  try have t4 : (f1 (Int32.toNatClampNeg 61)).toInt = (v_st (Int32.toNatClampNeg 61)).toInt := by rw [ef1, upd_ne (by omega)]
  try have t5 : (f1 (Int32.toNatClampNeg 62)).toInt = (v_st (Int32.toNatClampNeg 62)).toInt := by rw [ef1, upd_ne (by omega)]
  try have q6 : AB f1 0 24 12 12 := by rw [ef1]; first | exact AB.updo (by assumption) (by omega) | exact AB.updv (by assumption) rfl (by omega) (by omega) | exact AB.none (by omega)
  refine ⟨ivp (a := 62) rfl (by omega) (by omega), ?_⟩
  intro f2 ef2
  have t7 : ((Int32.toNatClampNeg 62 : Nat) : Int) = 62 := itn rfl (by omega)
  have t8 : (f2 (Int32.toNatClampNeg 62)).toInt = 0 := by rw [ef2, upd_eq] <;> rfl
  try have t9 : (f2 (Int32.toNatClampNeg 60)).toInt = (f1 (Int32.toNatClampNeg 60)).toInt := by rw [ef2, upd_ne (by omega)]
  try have t10 : (f2 (Int32.toNatClampNeg 61)).toInt = (f1 (Int32.toNatClampNeg 61)).toInt := by rw [ef2, upd_ne (by omega)]
  try have t11 : (f2 (Int32.toNatClampNeg 62)).toInt = (f1 (Int32.toNatClampNeg 62)).toInt := by rw [ef2, upd_ne (by omega)]
  try have q12 : AB f2 0 24 12 12 := by rw [ef2]; first | exact AB.updo (by assumption) (by omega) | exact AB.updv (by assumption) rfl (by omega) (by omega) | exact AB.none (by omega)
  have t13 : ((0 : Int32)).toInt = 0 := rfl
  have t14 : ((0 : Int32)).toInt = 0 := rfl
  refine ⟨fun n3 x2_3 x3_3 v_st_3 => n3 = ((0 : Int)).toNat ∧ (AB v_st_3 0 24 12 12) ∧ (0 ≤ (v_st_3 (Int32.toNatClampNeg 60)).toInt) ∧ ((v_st_3 (Int32.toNatClampNeg 60)).toInt ≤ 1000) ∧ ((v_st_3 (Int32.toNatClampNeg 61)).toInt = 0) ∧ ((v_st_3 (Int32.toNatClampNeg 62)).toInt = 0) ∧ (x2_3.toInt = 0) ∧ (x3_3.toInt = 0) ∧ ((v_st_3 (Int32.toNatClampNeg 60)).toInt = (f2 (Int32.toNatClampNeg 60)).toInt) ∧ ((v_st_3 (Int32.toNatClampNeg 61)).toInt = (f2 (Int32.toNatClampNeg 61)).toInt) ∧ ((v_st_3 (Int32.toNatClampNeg 62)).toInt = (f2 (Int32.toNatClampNeg 62)).toInt) ∧ (0 ≤ x3_3.toInt), ⟨_, rfl, by first | omega | assumption | exact AB.none (by omega) | exact AB.mono (by assumption) (by omega) (by omega) (by omega) (by omega), by first | omega | assumption | exact AB.none (by omega) | exact AB.mono (by assumption) (by omega) (by omega) (by omega) (by omega), by first | omega | assumption | exact AB.none (by omega) | exact AB.mono (by assumption) (by omega) (by omega) (by omega) (by omega), by first | omega | assumption | exact AB.none (by omega) | exact AB.mono (by assumption) (by omega) (by omega) (by omega) (by omega), by first | omega | assumption | exact AB.none (by omega) | exact AB.mono (by assumption) (by omega) (by omega) (by omega) (by omega), by first | omega | assumption | exact AB.none (by omega) | exact AB.mono (by assumption) (by omega) (by omega) (by omega) (by omega), by first | omega | assumption | exact AB.none (by omega) | exact AB.mono (by assumption) (by omega) (by omega) (by omega) (by omega), by first | omega | assumption | exact AB.none (by omega) | exact AB.mono (by assumption) (by omega) (by omega) (by omega) (by omega), by first | omega | assumption | exact AB.none (by omega) | exact AB.mono (by assumption) (by omega) (by omega) (by omega) (by omega), by first | omega | assumption | exact AB.none (by omega) | exact AB.mono (by assumption) (by omega) (by omega) (by omega) (by omega), by first | omega | assumption | exact AB.none (by omega) | exact AB.mono (by assumption) (by omega) (by omega) (by omega) (by omega)⟩, ?_⟩
  rintro n3 x2_3 x3_3 v_st_3 ⟨hn3, q15, q16, q17, q18, q19, q20, q21, q22, q23, q24, q25⟩
  refine ⟨fun c26 => ?_, fun c26 => ?_⟩
  · skip
    have t27 := ile (a := v_clocks.toInt) (b := x3_3.toInt) rfl rfl c26
    first
      | exfalso; omega
      | skip
        have t28 : ((0 : Int32)).toInt = 0 := rfl
        refine ⟨fun n5 x3_5 v_st_5 => n5 = ((0 : Int)).toNat ∧ (AB v_st_5 0 24 12 12) ∧ (0 ≤ (v_st_5 (Int32.toNatClampNeg 60)).toInt) ∧ ((v_st_5 (Int32.toNatClampNeg 60)).toInt ≤ 1000) ∧ ((v_st_5 (Int32.toNatClampNeg 61)).toInt = 0) ∧ ((v_st_5 (Int32.toNatClampNeg 62)).toInt = 0) ∧ (x3_5.toInt = 0) ∧ ((v_st_5 (Int32.toNatClampNeg 60)).toInt = (v_st_3 (Int32.toNatClampNeg 60)).toInt) ∧ ((v_st_5 (Int32.toNatClampNeg 61)).toInt = (v_st_3 (Int32.toNatClampNeg 61)).toInt) ∧ ((v_st_5 (Int32.toNatClampNeg 62)).toInt = (v_st_3 (Int32.toNatClampNeg 62)).toInt) ∧ (0 ≤ x3_5.toInt), ⟨_, rfl, by first | omega | assumption | exact AB.none (by omega) | exact AB.mono (by assumption) (by omega) (by omega) (by omega) (by omega), by first | omega | assumption | exact AB.none (by omega) | exact AB.mono (by assumption) (by omega) (by omega) (by omega) (by omega), by first | omega | assumption | exact AB.none (by omega) | exact AB.mono (by assumption) (by omega) (by omega) (by omega) (by omega), by first | omega | assumption | exact AB.none (by omega) | exact AB.mono (by assumption) (by omega) (by omega) (by omega) (by omega), by first | omega | assumption | exact AB.none (by omega) | exact AB.mono (by assumption) (by omega) (by omega) (by omega) (by omega), by first | omega | assumption | exact AB.none (by omega) | exact AB.mono (by assumption) (by omega) (by omega) (by omega) (by omega), by first | omega | assumption | exact AB.none (by omega) | exact AB.mono (by assumption) (by omega) (by omega) (by omega) (by omega), by first | omega | assumption | exact AB.none (by omega) | exact AB.mono (by assumption) (by omega) (by omega) (by omega) (by omega), by first | omega | assumption | exact AB.none (by omega) | exact AB.mono (by assumption) (by omega) (by omega) (by omega) (by omega), by first | omega | assumption | exact AB.none (by omega) | exact AB.mono (by assumption) (by omega) (by omega) (by omega) (by omega)⟩, ?_⟩
        rintro n5 x3_5 v_st_5 ⟨hn5, q29, q30, q31, q32, q33, q34, q35, q36, q37, q38⟩
        refine ⟨fun c39 => ?_, fun c39 => ?_⟩
        · skip
          have t40 := ile (a := v_clocks.toInt) (b := x3_5.toInt) rfl rfl c39
          first
            | exfalso; omega
            | skip
              refine ⟨ivp (a := 60) rfl (by omega) (by omega), ?_⟩
              try have q41 := AB.get (f := v_st_5) (i := 60) (a := 60) (by assumption) rfl (by omega) (by omega) (by omega)
              try have t42 : ((v_st_5 (Int32.toNatClampNeg 60)) + 1).toInt = (v_st_5 (Int32.toNatClampNeg 60)).toInt + 1 := ia rfl rfl (by omega) (by omega)
              intro z7 ez7
              have t43 : z7.toInt = ((v_st_5 (Int32.toNatClampNeg 60)) + 1).toInt := by rw [ez7] <;> rfl
              refine ⟨ivp (a := 60) rfl (by omega) (by omega), ?_⟩
              intro f8 ef8
              have t44 : ((Int32.toNatClampNeg 60 : Nat) : Int) = 60 := itn rfl (by omega)
              have t45 : (f8 (Int32.toNatClampNeg 60)).toInt = z7.toInt := by rw [ef8, upd_eq] <;> rfl
              try have t46 : (f8 (Int32.toNatClampNeg 60)).toInt = (v_st_5 (Int32.toNatClampNeg 60)).toInt := by rw [ef8, upd_ne (by omega)]
              try have t47 : (f8 (Int32.toNatClampNeg 61)).toInt = (v_st_5 (Int32.toNatClampNeg 61)).toInt := by rw [ef8, upd_ne (by omega)]
              try have t48 : (f8 (Int32.toNatClampNeg 62)).toInt = (v_st_5 (Int32.toNatClampNeg 62)).toInt := by rw [ef8, upd_ne (by omega)]
              try have q49 : AB f8 0 24 12 12 := by rw [ef8]; first | exact AB.updo (by assumption) (by omega) | exact AB.updv (by assumption) rfl (by omega) (by omega) | exact AB.none (by omega)
              have t50 : ((0 : Int32)).toInt = 0 := rfl
              refine ⟨fun n9 x3_9 v_st_9 => n9 = ((0 : Int)).toNat ∧ (AB v_st_9 0 24 12 12) ∧ (0 ≤ (v_st_9 (Int32.toNatClampNeg 60)).toInt) ∧ ((v_st_9 (Int32.toNatClampNeg 60)).toInt ≤ 1000) ∧ ((v_st_9 (Int32.toNatClampNeg 61)).toInt = 0) ∧ ((v_st_9 (Int32.toNatClampNeg 62)).toInt = 0) ∧ (x3_9.toInt = 0) ∧ ((v_st_9 (Int32.toNatClampNeg 60)).toInt = (f8 (Int32.toNatClampNeg 60)).toInt) ∧ ((v_st_9 (Int32.toNatClampNeg 61)).toInt = (f8 (Int32.toNatClampNeg 61)).toInt) ∧ ((v_st_9 (Int32.toNatClampNeg 62)).toInt = (f8 (Int32.toNatClampNeg 62)).toInt) ∧ (0 ≤ x3_9.toInt), ⟨_, rfl, by first | omega | assumption | exact AB.none (by omega) | exact AB.mono (by assumption) (by omega) (by omega) (by omega) (by omega), by first | omega | assumption | exact AB.none (by omega) | exact AB.mono (by assumption) (by omega) (by omega) (by omega) (by omega), by first | omega | assumption | exact AB.none (by omega) | exact AB.mono (by assumption) (by omega) (by omega) (by omega) (by omega), by first | omega | assumption | exact AB.none (by omega) | exact AB.mono (by assumption) (by omega) (by omega) (by omega) (by omega), by first | omega | assumption | exact AB.none (by omega) | exact AB.mono (by assumption) (by omega) (by omega) (by omega) (by omega), by first | omega | assumption | exact AB.none (by omega) | exact AB.mono (by assumption) (by omega) (by omega) (by omega) (by omega), by first | omega | assumption | exact AB.none (by omega) | exact AB.mono (by assumption) (by omega) (by omega) (by omega) (by omega), by first | omega | assumption | exact AB.none (by omega) | exact AB.mono (by assumption) (by omega) (by omega) (by omega) (by omega), by first | omega | assumption | exact AB.none (by omega) | exact AB.mono (by assumption) (by omega) (by omega) (by omega) (by omega), by first | omega | assumption | exact AB.none (by omega) | exact AB.mono (by assumption) (by omega) (by omega) (by omega) (by omega)⟩, ?_⟩
              rintro n9 x3_9 v_st_9 ⟨hn9, q51, q52, q53, q54, q55, q56, q57, q58, q59, q60⟩
              refine ⟨fun c61 => ?_, fun c61 => ?_⟩
              · skip
                have t62 := ile (a := v_clocks.toInt) (b := x3_9.toInt) rfl rfl c61
                first
                  | exfalso; omega
                  | skip
                    exact hk _ _ (by first | omega | assumption | exact AB.none (by omega) | exact AB.mono (by assumption) (by omega) (by omega) (by omega) (by omega)) (by first | omega | assumption | exact AB.none (by omega) | exact AB.mono (by assumption) (by omega) (by omega) (by omega) (by omega)) (by first | omega | assumption | exact AB.none (by omega) | exact AB.mono (by assumption) (by omega) (by omega) (by omega) (by omega)) (by first | omega | assumption | exact AB.none (by omega) | exact AB.mono (by assumption) (by omega) (by omega) (by omega) (by omega)) (by first | omega | assumption | exact AB.none (by omega) | exact AB.mono (by assumption) (by omega) (by omega) (by omega) (by omega)) (by first | omega | assumption | exact AB.none (by omega) | exact AB.mono (by assumption) (by omega) (by omega) (by omega) (by omega)) (by first | omega | assumption | exact AB.none (by omega) | exact AB.mono (by assumption) (by omega) (by omega) (by omega) (by omega))
              · skip
                have t63 := inle (a := v_clocks.toInt) (b := x3_9.toInt) rfl rfl c61
                exfalso; omega
        · skip
          have t64 := inle (a := v_clocks.toInt) (b := x3_5.toInt) rfl rfl c39
          exfalso; omega
  · skip
    have t65 := inle (a := v_clocks.toInt) (b := x3_3.toInt) rfl rfl c26
    exfalso; omega
set_option maxHeartbeats 1000000 in
set_option maxRecDepth 10000 in
theorem f_X8_hour {v_st : Nat → Int32} {v_kinds : Nat → Int32} {v_rates : Nat → Int32} {v_clocks : Int32} {v_windows : Int32} {v_skyRow : Nat → Int32} {v_skyMany : Int32} {v_sky : Int32} {post : Int32 → (Nat → Int32) → Prop} (hp0 : v_clocks.toInt = 0) (hp1 : v_windows.toInt = 8) (hp2 : v_skyMany.toInt = 1) (hp3 : v_sky.toInt = -1) (hp4 : AB v_st 0 24 12 12) (hp5 : 0 ≤ (v_st (Int32.toNatClampNeg 60)).toInt) (hp6 : (v_st (Int32.toNatClampNeg 60)).toInt ≤ 1000) (hp7 : (v_st (Int32.toNatClampNeg 61)).toInt = 0) (hp8 : (v_st (Int32.toNatClampNeg 62)).toInt = 0) (hp9 : AB v_skyRow 0 12 0 0) (hp10 : (v_st (Int32.toNatClampNeg 60)).toInt = 0) (hk : ∀ (r : Int32) (v_st' : Nat → Int32), (r.toInt = 0) → post r v_st') : wp_X8_hour v_st v_kinds v_rates v_clocks v_windows v_skyRow v_skyMany v_sky post := by
  unfold wp_X8_hour
  have tn60 : ((Int32.toNatClampNeg 60 : Nat) : Int) = 60 := rfl
  have tn61 : ((Int32.toNatClampNeg 61 : Nat) : Int) = 61 := rfl
  have tn62 : ((Int32.toNatClampNeg 62 : Nat) : Int) = 62 := rfl
  refine ⟨ivp (a := 60) rfl (by omega) (by omega), ?_⟩
  try have q1 := AB.get (f := v_st) (i := 60) (a := 60) (by assumption) rfl (by omega) (by omega) (by omega)
  refine ⟨fun c2 => ?_, fun c2 => ?_⟩
  · skip
    have t3 := ine (a := (v_st (Int32.toNatClampNeg 60)).toInt) (b := 9999) rfl rfl c2
    first
      | exfalso; omega
      | skip
        refine f_X8_skyNow (by first | omega | assumption | exact AB.none (by omega) | exact AB.mono (by assumption) (by omega) (by omega) (by omega) (by omega)) (by first | omega | assumption | exact AB.none (by omega) | exact AB.mono (by assumption) (by omega) (by omega) (by omega) (by omega)) (by first | omega | assumption | exact AB.none (by omega) | exact AB.mono (by assumption) (by omega) (by omega) (by omega) (by omega)) (by first | omega | assumption | exact AB.none (by omega) | exact AB.mono (by assumption) (by omega) (by omega) (by omega) (by omega)) (by first | omega | assumption | exact AB.none (by omega) | exact AB.mono (by assumption) (by omega) (by omega) (by omega) (by omega)) (by first | omega | assumption | exact AB.none (by omega) | exact AB.mono (by assumption) (by omega) (by omega) (by omega) (by omega)) (by first | omega | assumption | exact AB.none (by omega) | exact AB.mono (by assumption) (by omega) (by omega) (by omega) (by omega)) (by first | omega | assumption | exact AB.none (by omega) | exact AB.mono (by assumption) (by omega) (by omega) (by omega) (by omega)) (fun r2 => ?_)
        refine f_X8_goOn (by first | omega | assumption | exact AB.none (by omega) | exact AB.mono (by assumption) (by omega) (by omega) (by omega) (by omega)) (by first | omega | assumption | exact AB.none (by omega) | exact AB.mono (by assumption) (by omega) (by omega) (by omega) (by omega)) (by first | omega | assumption | exact AB.none (by omega) | exact AB.mono (by assumption) (by omega) (by omega) (by omega) (by omega)) (by first | omega | assumption | exact AB.none (by omega) | exact AB.mono (by assumption) (by omega) (by omega) (by omega) (by omega)) (by first | omega | assumption | exact AB.none (by omega) | exact AB.mono (by assumption) (by omega) (by omega) (by omega) (by omega)) (by first | omega | assumption | exact AB.none (by omega) | exact AB.mono (by assumption) (by omega) (by omega) (by omega) (by omega)) (by first | omega | assumption | exact AB.none (by omega) | exact AB.mono (by assumption) (by omega) (by omega) (by omega) (by omega)) (by first | omega | assumption | exact AB.none (by omega) | exact AB.mono (by assumption) (by omega) (by omega) (by omega) (by omega)) (fun r3 v_st_4 q4 q5 q6 q7 q8 q9 q10 => ?_)
        exact hk _ _ (by first | omega | assumption | exact AB.none (by omega) | exact AB.mono (by assumption) (by omega) (by omega) (by omega) (by omega))
  · skip
    have t11 := ieq (a := (v_st (Int32.toNatClampNeg 60)).toInt) (b := 9999) rfl rfl c2
    first
      | exfalso; omega
      | skip
        have t12 : ((-3) : Int32).toInt = (-3) := rfl
        exact hk _ _ (by first | omega | assumption | exact AB.none (by omega) | exact AB.mono (by assumption) (by omega) (by omega) (by omega) (by omega))
set_option maxHeartbeats 1000000 in
set_option maxRecDepth 10000 in
theorem f_X8_day {v_st : Nat → Int32} {v_kinds : Nat → Int32} {v_rates : Nat → Int32} {v_clocks : Int32} {v_windows : Int32} {v_skyRow : Nat → Int32} {v_skyMany : Int32} {v_sky : Int32} {v_undos : Nat → Int32} {v_undoMany : Int32} {v_tape : Nat → Int32} {v_taped : Int32} {v_place : Int32} {v_reads : Int32} {v_read : Nat → Int32} {post : Int32 → (Nat → Int32) → (Nat → Int32) → (Int32) → (Int32) → (Int32) → (Int32) → (Nat → Int32) → Prop} (hp0 : v_clocks.toInt = 0) (hp1 : v_windows.toInt = 8) (hp2 : v_skyMany.toInt = 1) (hp3 : v_sky.toInt = -1) (hp4 : v_undoMany.toInt = 0) (hp5 : v_taped.toInt = 0) (hp6 : v_place.toInt = 0) (hp7 : AB v_st 0 24 12 12) (hp8 : 0 ≤ (v_st (Int32.toNatClampNeg 60)).toInt) (hp9 : (v_st (Int32.toNatClampNeg 60)).toInt ≤ 1000) (hp10 : (v_st (Int32.toNatClampNeg 61)).toInt = 0) (hp11 : (v_st (Int32.toNatClampNeg 62)).toInt = 0) (hp12 : AB v_skyRow 0 12 0 0) (hp13 : (v_st (Int32.toNatClampNeg 60)).toInt = 0) (hk : ∀ (r : Int32) (v_st' : Nat → Int32) (v_undos' : Nat → Int32) (v_undoMany' : Int32) (v_taped' : Int32) (v_place' : Int32) (v_reads' : Int32) (v_read' : Nat → Int32), (r.toInt = -20) → post r v_st' v_undos' v_undoMany' v_taped' v_place' v_reads' v_read') : wp_X8_day v_st v_kinds v_rates v_clocks v_windows v_skyRow v_skyMany v_sky v_undos v_undoMany v_tape v_taped v_place v_reads v_read post := by
  unfold wp_X8_day
  have tn60 : ((Int32.toNatClampNeg 60 : Nat) : Int) = 60 := rfl
  have tn61 : ((Int32.toNatClampNeg 61 : Nat) : Int) = 61 := rfl
  have tn62 : ((Int32.toNatClampNeg 62 : Nat) : Int) = 62 := rfl
  refine f_X8_readDay (by first | omega | assumption | exact AB.none (by omega) | exact AB.mono (by assumption) (by omega) (by omega) (by omega) (by omega)) (by first | omega | assumption | exact AB.none (by omega) | exact AB.mono (by assumption) (by omega) (by omega) (by omega) (by omega)) (by first | omega | assumption | exact AB.none (by omega) | exact AB.mono (by assumption) (by omega) (by omega) (by omega) (by omega)) (by first | omega | assumption | exact AB.none (by omega) | exact AB.mono (by assumption) (by omega) (by omega) (by omega) (by omega)) (fun r1 v_place_2 v_reads_3 v_read_4 q1 q2 => ?_)
  refine f_X8_end (by first | omega | assumption | exact AB.none (by omega) | exact AB.mono (by assumption) (by omega) (by omega) (by omega) (by omega)) (by first | omega | assumption | exact AB.none (by omega) | exact AB.mono (by assumption) (by omega) (by omega) (by omega) (by omega)) (by first | omega | assumption | exact AB.none (by omega) | exact AB.mono (by assumption) (by omega) (by omega) (by omega) (by omega)) (fun r5 v_taped_6 v_place_7 q3 => ?_)
  refine ⟨fun c4 => ?_, fun c4 => ?_⟩
  · skip
    have t5 := ile (a := 0) (b := r5.toInt) rfl rfl c4
    first
      | exfalso; omega
      | skip
        have t6 : ((0 : Int32)).toInt = 0 := rfl
        refine ⟨fun n9 x3_9 v_st_9 v_undos_9 v_undoMany_9 => n9 = ((0 : Int)).toNat ∧ (v_undoMany_9.toInt = 0) ∧ (AB v_st_9 0 24 12 12) ∧ (0 ≤ (v_st_9 (Int32.toNatClampNeg 60)).toInt) ∧ ((v_st_9 (Int32.toNatClampNeg 60)).toInt ≤ 1000) ∧ ((v_st_9 (Int32.toNatClampNeg 61)).toInt = 0) ∧ ((v_st_9 (Int32.toNatClampNeg 62)).toInt = 0) ∧ (x3_9.toInt = 0) ∧ ((v_st_9 (Int32.toNatClampNeg 60)).toInt = (v_st (Int32.toNatClampNeg 60)).toInt) ∧ ((v_st_9 (Int32.toNatClampNeg 61)).toInt = (v_st (Int32.toNatClampNeg 61)).toInt) ∧ ((v_st_9 (Int32.toNatClampNeg 62)).toInt = (v_st (Int32.toNatClampNeg 62)).toInt) ∧ (v_undoMany_9.toInt = v_undoMany.toInt) ∧ (0 ≤ x3_9.toInt), ⟨_, rfl, by first | omega | assumption | exact AB.none (by omega) | exact AB.mono (by assumption) (by omega) (by omega) (by omega) (by omega), by first | omega | assumption | exact AB.none (by omega) | exact AB.mono (by assumption) (by omega) (by omega) (by omega) (by omega), by first | omega | assumption | exact AB.none (by omega) | exact AB.mono (by assumption) (by omega) (by omega) (by omega) (by omega), by first | omega | assumption | exact AB.none (by omega) | exact AB.mono (by assumption) (by omega) (by omega) (by omega) (by omega), by first | omega | assumption | exact AB.none (by omega) | exact AB.mono (by assumption) (by omega) (by omega) (by omega) (by omega), by first | omega | assumption | exact AB.none (by omega) | exact AB.mono (by assumption) (by omega) (by omega) (by omega) (by omega), by first | omega | assumption | exact AB.none (by omega) | exact AB.mono (by assumption) (by omega) (by omega) (by omega) (by omega), by first | omega | assumption | exact AB.none (by omega) | exact AB.mono (by assumption) (by omega) (by omega) (by omega) (by omega), by first | omega | assumption | exact AB.none (by omega) | exact AB.mono (by assumption) (by omega) (by omega) (by omega) (by omega), by first | omega | assumption | exact AB.none (by omega) | exact AB.mono (by assumption) (by omega) (by omega) (by omega) (by omega), by first | omega | assumption | exact AB.none (by omega) | exact AB.mono (by assumption) (by omega) (by omega) (by omega) (by omega), by first | omega | assumption | exact AB.none (by omega) | exact AB.mono (by assumption) (by omega) (by omega) (by omega) (by omega)⟩, ?_⟩
        rintro n9 x3_9 v_st_9 v_undos_9 v_undoMany_9 ⟨hn9, q7, q8, q9, q10, q11, q12, q13, q14, q15, q16, q17, q18⟩
        refine ⟨fun c19 => ?_, fun c19 => ?_⟩
        · skip
          have t20 := ile (a := v_reads_3.toInt) (b := x3_9.toInt) rfl rfl c19
          first
            | exfalso; omega
            | skip
              exact hk _ _ _ _ _ _ _ _ (by first | omega | assumption | exact AB.none (by omega) | exact AB.mono (by assumption) (by omega) (by omega) (by omega) (by omega))
        · skip
          have t21 := inle (a := v_reads_3.toInt) (b := x3_9.toInt) rfl rfl c19
          first
            | exfalso; omega
            | skip
              try have t22 : (3 * x3_9).toInt = 3 * x3_9.toInt := im rfl rfl (by omega) (by omega)
              fail
  · skip
    have t23 := inle (a := 0) (b := r5.toInt) rfl rfl c4
    first
      | exfalso; omega
      | skip
        exact hk _ _ _ _ _ _ _ _ (by first | omega | assumption | exact AB.none (by omega) | exact AB.mono (by assumption) (by omega) (by omega) (by omega) (by omega))
set_option maxHeartbeats 1000000 in
set_option maxRecDepth 10000 in
theorem f_X8_place {p1 : Int32} {v_st : Nat → Int32} {v_clocks : Int32} {v_windows : Int32} {post : Int32 → Prop} (hp0 : v_clocks.toInt = 0) (hp1 : v_windows.toInt = 8) (hp2 : AB v_st 0 24 12 12) (hp3 : 0 ≤ (v_st (Int32.toNatClampNeg 60)).toInt) (hp4 : (v_st (Int32.toNatClampNeg 60)).toInt ≤ 1000) (hp5 : (v_st (Int32.toNatClampNeg 61)).toInt = 0) (hp6 : (v_st (Int32.toNatClampNeg 62)).toInt = 0) (hp7 : (v_st (Int32.toNatClampNeg 60)).toInt = 0) (hk : ∀ (r : Int32), (r.toInt = -1) → post r) : wp_X8_place p1 v_st v_clocks v_windows post := by
  unfold wp_X8_place
  have tn60 : ((Int32.toNatClampNeg 60 : Nat) : Int) = 60 := rfl
  have tn61 : ((Int32.toNatClampNeg 61 : Nat) : Int) = 61 := rfl
  have tn62 : ((Int32.toNatClampNeg 62 : Nat) : Int) = 62 := rfl
  refine f_X8_isClock (by first | omega | assumption | exact AB.none (by omega) | exact AB.mono (by assumption) (by omega) (by omega) (by omega) (by omega)) (fun r1 q1 => ?_)
  refine ⟨fun c2 => ?_, fun c2 => ?_⟩
  · skip
    have t3 := ieq (a := r1.toInt) (b := 0) rfl rfl c2
    first
      | exfalso; omega
      | skip
        have t4 : ((-1) : Int32).toInt = (-1) := rfl
        exact hk _ (by first | omega | assumption | exact AB.none (by omega) | exact AB.mono (by assumption) (by omega) (by omega) (by omega) (by omega))
  · skip
    have t5 := ine (a := r1.toInt) (b := 0) rfl rfl c2
    exfalso; omega
set_option maxHeartbeats 1000000 in
set_option maxRecDepth 10000 in
theorem f_X8_homes {v_st : Nat → Int32} {v_clocks : Int32} {v_windows : Int32} {post : Int32 → Prop} (hp0 : v_clocks.toInt = 0) (hp1 : v_windows.toInt = 8) (hp2 : AB v_st 0 24 12 12) (hp3 : 0 ≤ (v_st (Int32.toNatClampNeg 60)).toInt) (hp4 : (v_st (Int32.toNatClampNeg 60)).toInt ≤ 1000) (hp5 : (v_st (Int32.toNatClampNeg 61)).toInt = 0) (hp6 : (v_st (Int32.toNatClampNeg 62)).toInt = 0) (hk : ∀ (r : Int32), (r.toInt = 0) → post r) : wp_X8_homes v_st v_clocks v_windows post := by
  unfold wp_X8_homes
  have tn60 : ((Int32.toNatClampNeg 60 : Nat) : Int) = 60 := rfl
  have tn61 : ((Int32.toNatClampNeg 61 : Nat) : Int) = 61 := rfl
  have tn62 : ((Int32.toNatClampNeg 62 : Nat) : Int) = 62 := rfl
  have t1 : ((0 : Int32)).toInt = 0 := rfl
  have t2 : ((0 : Int32)).toInt = 0 := rfl
  refine ⟨fun n1 x1_1 x2_1 => n1 = ((0 : Int)).toNat ∧ (x1_1.toInt = 0) ∧ (x2_1.toInt = 0) ∧ (0 ≤ x2_1.toInt), ⟨_, rfl, by first | omega | assumption | exact AB.none (by omega) | exact AB.mono (by assumption) (by omega) (by omega) (by omega) (by omega), by first | omega | assumption | exact AB.none (by omega) | exact AB.mono (by assumption) (by omega) (by omega) (by omega) (by omega), by first | omega | assumption | exact AB.none (by omega) | exact AB.mono (by assumption) (by omega) (by omega) (by omega) (by omega)⟩, ?_⟩
  rintro n1 x1_1 x2_1 ⟨hn1, q3, q4, q5⟩
  refine ⟨fun c6 => ?_, fun c6 => ?_⟩
  · skip
    have t7 := ile (a := v_clocks.toInt) (b := x2_1.toInt) rfl rfl c6
    first
      | exfalso; omega
      | skip
        exact hk _ (by first | omega | assumption | exact AB.none (by omega) | exact AB.mono (by assumption) (by omega) (by omega) (by omega) (by omega))
  · skip
    have t8 := inle (a := v_clocks.toInt) (b := x2_1.toInt) rfl rfl c6
    exfalso; omega
set_option maxHeartbeats 1000000 in
set_option maxRecDepth 10000 in
theorem f_X8_tied {v_st : Nat → Int32} {v_clocks : Int32} {v_windows : Int32} {post : Int32 → Prop} (hp0 : v_clocks.toInt = 0) (hp1 : v_windows.toInt = 8) (hp2 : AB v_st 0 24 12 12) (hp3 : 0 ≤ (v_st (Int32.toNatClampNeg 60)).toInt) (hp4 : (v_st (Int32.toNatClampNeg 60)).toInt ≤ 1000) (hp5 : (v_st (Int32.toNatClampNeg 61)).toInt = 0) (hp6 : (v_st (Int32.toNatClampNeg 62)).toInt = 0) (hk : ∀ (r : Int32), (r.toInt = 0) → post r) : wp_X8_tied v_st v_clocks v_windows post := by
  unfold wp_X8_tied
  have tn60 : ((Int32.toNatClampNeg 60 : Nat) : Int) = 60 := rfl
  have tn61 : ((Int32.toNatClampNeg 61 : Nat) : Int) = 61 := rfl
  have tn62 : ((Int32.toNatClampNeg 62 : Nat) : Int) = 62 := rfl
  have t1 : ((0 : Int32)).toInt = 0 := rfl
  have t2 : ((0 : Int32)).toInt = 0 := rfl
  refine ⟨fun n1 x1_1 x2_1 => n1 = ((0 : Int)).toNat ∧ (x1_1.toInt = 0) ∧ (x2_1.toInt = 0) ∧ (0 ≤ x2_1.toInt), ⟨_, rfl, by first | omega | assumption | exact AB.none (by omega) | exact AB.mono (by assumption) (by omega) (by omega) (by omega) (by omega), by first | omega | assumption | exact AB.none (by omega) | exact AB.mono (by assumption) (by omega) (by omega) (by omega) (by omega), by first | omega | assumption | exact AB.none (by omega) | exact AB.mono (by assumption) (by omega) (by omega) (by omega) (by omega)⟩, ?_⟩
  rintro n1 x1_1 x2_1 ⟨hn1, q3, q4, q5⟩
  refine ⟨fun c6 => ?_, fun c6 => ?_⟩
  · skip
    have t7 := ile (a := v_clocks.toInt) (b := x2_1.toInt) rfl rfl c6
    first
      | exfalso; omega
      | skip
        exact hk _ (by first | omega | assumption | exact AB.none (by omega) | exact AB.mono (by assumption) (by omega) (by omega) (by omega) (by omega))
  · skip
    have t8 := inle (a := v_clocks.toInt) (b := x2_1.toInt) rfl rfl c6
    exfalso; omega
set_option maxHeartbeats 1000000 in
set_option maxRecDepth 10000 in
theorem f_X8_count {p1 : Int32} {v_st : Nat → Int32} {v_clocks : Int32} {v_windows : Int32} {v_bets : Int32} {v_undoMany : Int32} {post : Int32 → Prop} (hp0 : v_clocks.toInt = 0) (hp1 : v_windows.toInt = 8) (hp2 : v_bets.toInt = 0) (hp3 : v_undoMany.toInt = 0) (hp4 : AB v_st 0 24 12 12) (hp5 : 0 ≤ (v_st (Int32.toNatClampNeg 60)).toInt) (hp6 : (v_st (Int32.toNatClampNeg 60)).toInt ≤ 1000) (hp7 : (v_st (Int32.toNatClampNeg 61)).toInt = 0) (hp8 : (v_st (Int32.toNatClampNeg 62)).toInt = 0) (hp9 : (v_st (Int32.toNatClampNeg 60)).toInt = 0) (hk : ∀ (r : Int32), ((p1.toInt = 0 ∧ r.toInt = 8) ∨ (1 ≤ p1.toInt ∧ p1.toInt ≤ 7 ∧ r.toInt = 0) ∨ ((p1.toInt < 0 ∨ 7 < p1.toInt) ∧ r.toInt = -1)) → post r) : wp_X8_count p1 v_st v_clocks v_windows v_bets v_undoMany post := by
  unfold wp_X8_count
  have tn60 : ((Int32.toNatClampNeg 60 : Nat) : Int) = 60 := rfl
  have tn61 : ((Int32.toNatClampNeg 61 : Nat) : Int) = 61 := rfl
  have tn62 : ((Int32.toNatClampNeg 62 : Nat) : Int) = 62 := rfl
  refine ⟨fun c1 => ?_, fun c1 => ?_⟩
  · skip
    have t2 := ieq (a := p1.toInt) (b := 0) rfl rfl c1
    first
      | exfalso; omega
      | skip
        exact hk _ (by first | omega | assumption | exact AB.none (by omega) | exact AB.mono (by assumption) (by omega) (by omega) (by omega) (by omega))
  · skip
    have t3 := ine (a := p1.toInt) (b := 0) rfl rfl c1
    first
      | exfalso; omega
      | skip
        refine ⟨fun c4 => ?_, fun c4 => ?_⟩
        · skip
          have t5 := ieq (a := p1.toInt) (b := 1) rfl rfl c4
          first
            | exfalso; omega
            | skip
              exact hk _ (by first | omega | assumption | exact AB.none (by omega) | exact AB.mono (by assumption) (by omega) (by omega) (by omega) (by omega))
        · skip
          have t6 := ine (a := p1.toInt) (b := 1) rfl rfl c4
          first
            | exfalso; omega
            | skip
              refine ⟨fun c7 => ?_, fun c7 => ?_⟩
              · skip
                have t8 := ieq (a := p1.toInt) (b := 2) rfl rfl c7
                first
                  | exfalso; omega
                  | skip
                    refine ⟨ivp (a := 60) rfl (by omega) (by omega), ?_⟩
                    try have q9 := AB.get (f := v_st) (i := 60) (a := 60) (by assumption) rfl (by omega) (by omega) (by omega)
                    exact hk _ (by first | omega | assumption | exact AB.none (by omega) | exact AB.mono (by assumption) (by omega) (by omega) (by omega) (by omega))
              · skip
                have t10 := ine (a := p1.toInt) (b := 2) rfl rfl c7
                first
                  | exfalso; omega
                  | skip
                    refine ⟨fun c11 => ?_, fun c11 => ?_⟩
                    · skip
                      have t12 := ieq (a := p1.toInt) (b := 3) rfl rfl c11
                      first
                        | exfalso; omega
                        | skip
                          refine f_X8_homes (by first | omega | assumption | exact AB.none (by omega) | exact AB.mono (by assumption) (by omega) (by omega) (by omega) (by omega)) (by first | omega | assumption | exact AB.none (by omega) | exact AB.mono (by assumption) (by omega) (by omega) (by omega) (by omega)) (by first | omega | assumption | exact AB.none (by omega) | exact AB.mono (by assumption) (by omega) (by omega) (by omega) (by omega)) (by first | omega | assumption | exact AB.none (by omega) | exact AB.mono (by assumption) (by omega) (by omega) (by omega) (by omega)) (by first | omega | assumption | exact AB.none (by omega) | exact AB.mono (by assumption) (by omega) (by omega) (by omega) (by omega)) (by first | omega | assumption | exact AB.none (by omega) | exact AB.mono (by assumption) (by omega) (by omega) (by omega) (by omega)) (by first | omega | assumption | exact AB.none (by omega) | exact AB.mono (by assumption) (by omega) (by omega) (by omega) (by omega)) (fun r5 q13 => ?_)
                          exact hk _ (by first | omega | assumption | exact AB.none (by omega) | exact AB.mono (by assumption) (by omega) (by omega) (by omega) (by omega))
                    · skip
                      have t14 := ine (a := p1.toInt) (b := 3) rfl rfl c11
                      first
                        | exfalso; omega
                        | skip
                          refine ⟨fun c15 => ?_, fun c15 => ?_⟩
                          · skip
                            have t16 := ieq (a := p1.toInt) (b := 4) rfl rfl c15
                            first
                              | exfalso; omega
                              | skip
                                refine ⟨ivp (a := 62) rfl (by omega) (by omega), ?_⟩
                                try have q17 := AB.get (f := v_st) (i := 62) (a := 62) (by assumption) rfl (by omega) (by omega) (by omega)
                                exact hk _ (by first | omega | assumption | exact AB.none (by omega) | exact AB.mono (by assumption) (by omega) (by omega) (by omega) (by omega))
                          · skip
                            have t18 := ine (a := p1.toInt) (b := 4) rfl rfl c15
                            first
                              | exfalso; omega
                              | skip
                                refine ⟨fun c19 => ?_, fun c19 => ?_⟩
                                · skip
                                  have t20 := ieq (a := p1.toInt) (b := 5) rfl rfl c19
                                  first
                                    | exfalso; omega
                                    | skip
                                      exact hk _ (by first | omega | assumption | exact AB.none (by omega) | exact AB.mono (by assumption) (by omega) (by omega) (by omega) (by omega))
                                · skip
                                  have t21 := ine (a := p1.toInt) (b := 5) rfl rfl c19
                                  first
                                    | exfalso; omega
                                    | skip
                                      refine ⟨fun c22 => ?_, fun c22 => ?_⟩
                                      · skip
                                        have t23 := ieq (a := p1.toInt) (b := 6) rfl rfl c22
                                        first
                                          | exfalso; omega
                                          | skip
                                            exact hk _ (by first | omega | assumption | exact AB.none (by omega) | exact AB.mono (by assumption) (by omega) (by omega) (by omega) (by omega))
                                      · skip
                                        have t24 := ine (a := p1.toInt) (b := 6) rfl rfl c22
                                        first
                                          | exfalso; omega
                                          | skip
                                            refine ⟨fun c25 => ?_, fun c25 => ?_⟩
                                            · skip
                                              have t26 := ieq (a := p1.toInt) (b := 7) rfl rfl c25
                                              first
                                                | exfalso; omega
                                                | skip
                                                  refine f_X8_tied (by first | omega | assumption | exact AB.none (by omega) | exact AB.mono (by assumption) (by omega) (by omega) (by omega) (by omega)) (by first | omega | assumption | exact AB.none (by omega) | exact AB.mono (by assumption) (by omega) (by omega) (by omega) (by omega)) (by first | omega | assumption | exact AB.none (by omega) | exact AB.mono (by assumption) (by omega) (by omega) (by omega) (by omega)) (by first | omega | assumption | exact AB.none (by omega) | exact AB.mono (by assumption) (by omega) (by omega) (by omega) (by omega)) (by first | omega | assumption | exact AB.none (by omega) | exact AB.mono (by assumption) (by omega) (by omega) (by omega) (by omega)) (by first | omega | assumption | exact AB.none (by omega) | exact AB.mono (by assumption) (by omega) (by omega) (by omega) (by omega)) (by first | omega | assumption | exact AB.none (by omega) | exact AB.mono (by assumption) (by omega) (by omega) (by omega) (by omega)) (fun r10 q27 => ?_)
                                                  exact hk _ (by first | omega | assumption | exact AB.none (by omega) | exact AB.mono (by assumption) (by omega) (by omega) (by omega) (by omega))
                                            · skip
                                              have t28 := ine (a := p1.toInt) (b := 7) rfl rfl c25
                                              first
                                                | exfalso; omega
                                                | skip
                                                  have t29 : ((-1) : Int32).toInt = (-1) := rfl
                                                  exact hk _ (by first | omega | assumption | exact AB.none (by omega) | exact AB.mono (by assumption) (by omega) (by omega) (by omega) (by omega))
