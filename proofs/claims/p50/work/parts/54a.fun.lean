set_option maxHeartbeats 4000000 in
set_option maxRecDepth 10000 in
theorem f_X7_copy {p1 : Int32} {p2 : Int32} {p3 : Int32} {p4 : Int32} {p5 : Int32} {sheets0_isThere : Int32} {sheets0_lane : Int32} {sheets0_size : Int32} {sheets0_items : Nat → Int64} {sheets1_isThere : Int32} {sheets1_lane : Int32} {sheets1_size : Int32} {sheets1_items : Nat → Int64} {sheets2_isThere : Int32} {sheets2_lane : Int32} {sheets2_size : Int32} {sheets2_items : Nat → Int64} {sheets3_isThere : Int32} {sheets3_lane : Int32} {sheets3_size : Int32} {sheets3_items : Nat → Int64} {tF lF zF tT lT zT : Int} {post : Int32 → (Nat → Int64) → (Nat → Int64) → (Nat → Int64) → (Nat → Int64) → Prop} (hp0 : 0 ≤ sheets0_size.toInt) (hp1 : sheets0_size.toInt ≤ 24) (hp2 : 0 ≤ sheets1_size.toInt) (hp3 : sheets1_size.toInt ≤ 24) (hp4 : 0 ≤ sheets2_size.toInt) (hp5 : sheets2_size.toInt ≤ 24) (hp6 : 0 ≤ sheets3_size.toInt) (hp7 : sheets3_size.toInt ≤ 24) (hp8 : ¬ p1.toInt = 0 ∨ (tF = sheets0_isThere.toInt ∧ lF = sheets0_lane.toInt ∧ zF = sheets0_size.toInt)) (hp9 : ¬ p1.toInt = 1 ∨ (tF = sheets1_isThere.toInt ∧ lF = sheets1_lane.toInt ∧ zF = sheets1_size.toInt)) (hp10 : ¬ p1.toInt = 2 ∨ (tF = sheets2_isThere.toInt ∧ lF = sheets2_lane.toInt ∧ zF = sheets2_size.toInt)) (hp11 : ¬ p1.toInt = 3 ∨ (tF = sheets3_isThere.toInt ∧ lF = sheets3_lane.toInt ∧ zF = sheets3_size.toInt)) (hp12 : ¬ p3.toInt = 0 ∨ (tT = sheets0_isThere.toInt ∧ lT = sheets0_lane.toInt ∧ zT = sheets0_size.toInt)) (hp13 : ¬ p3.toInt = 1 ∨ (tT = sheets1_isThere.toInt ∧ lT = sheets1_lane.toInt ∧ zT = sheets1_size.toInt)) (hp14 : ¬ p3.toInt = 2 ∨ (tT = sheets2_isThere.toInt ∧ lT = sheets2_lane.toInt ∧ zT = sheets2_size.toInt)) (hp15 : ¬ p3.toInt = 3 ∨ (tT = sheets3_isThere.toInt ∧ lT = sheets3_lane.toInt ∧ zT = sheets3_size.toInt)) (hk : ∀ (r : Int32) (sheets0_items' : Nat → Int64) (sheets1_items' : Nat → Int64) (sheets2_items' : Nat → Int64) (sheets3_items' : Nat → Int64), (r.toInt = cp_ans p1.toInt p3.toInt p2.toInt p4.toInt p5.toInt tF tT lF lT zF zT) → post r sheets0_items' sheets1_items' sheets2_items' sheets3_items') : wp_X7_copy p1 p2 p3 p4 p5 sheets0_isThere sheets0_lane sheets0_size sheets0_items sheets1_isThere sheets1_lane sheets1_size sheets1_items sheets2_isThere sheets2_lane sheets2_size sheets2_items sheets3_isThere sheets3_lane sheets3_size sheets3_items post := by
  unfold wp_X7_copy
  have rp1 := Int32.toInt_lt p1
  have rq1 := Int32.le_toInt p1
  have rp2 := Int32.toInt_lt p2
  have rq2 := Int32.le_toInt p2
  have rp3 := Int32.toInt_lt p3
  have rq3 := Int32.le_toInt p3
  have rp4 := Int32.toInt_lt p4
  have rq4 := Int32.le_toInt p4
  have rp5 := Int32.toInt_lt p5
  have rq5 := Int32.le_toInt p5
  refine s_X7_isSheet  (fun r1 q1 => ?_)
  refine ⟨fun c2 => ?_, fun c2 => ?_⟩
  · skip
    have t3 := ieq (a := r1.toInt) (b := 0) rfl rfl c2
    clear hp8 hp9 hp10 hp11 hp12 hp13 hp14 hp15
    rcases q1 with q1 | q1
    · exfalso; omega
    have t4 : ((-1) : Int32).toInt = (-1) := rfl
    exact hk _ _ _ _ _ (by first | assumption | (exact cp_0 (by omega) (by omega)) | (exact cp_1 (by omega) (by omega) (by omega)) | (exact cp_2 (by omega) (by omega) (by omega) (by omega) (by omega)) | (exact cp_3 (by omega) (by omega) (by omega) (by omega) (by omega) (by omega)) | (exact cp_4 (by omega) (by omega) (by omega) (by omega) (by omega) (by omega)) | omega)
  · skip
    have t5 := ine (a := r1.toInt) (b := 0) rfl rfl c2
    rcases q1.symm with q1 | q1
    · exfalso; omega
    refine s_X7_isSheet  (fun r3 q6 => ?_)
    refine ⟨fun c7 => ?_, fun c7 => ?_⟩
    · skip
      have t8 := ine (a := r3.toInt) (b := 0) rfl rfl c7
      rcases q6.symm with q6 | q6
      · exfalso; omega
      refine ⟨ivp (a := p1.toInt) rfl (by omega) (by omega), ?_⟩
      refine ⟨fun c9 => ?_, fun c9 => ?_⟩
      · skip
        have t10 := ieq (a := p1.toInt) (b := 0) rfl rfl c9
        obtain ⟨g11, g12, g13⟩ := Or.resolve_left hp8 (fun h9 => h9 (by omega))
        clear hp8 hp9 hp10 hp11
        refine ⟨ivp (a := p3.toInt) rfl (by omega) (by omega), ?_⟩
        refine ⟨fun c14 => ?_, fun c14 => ?_⟩
        · skip
          have t15 := ieq (a := p3.toInt) (b := 0) rfl rfl c14
          obtain ⟨g16, g17, g18⟩ := Or.resolve_left hp12 (fun h9 => h9 (by omega))
          clear hp12 hp13 hp14 hp15
          refine ⟨fun c19 => ?_, fun c19 => ?_⟩
          · skip
            have t20 := ieq (a := sheets0_isThere.toInt) (b := 0) rfl rfl c19
            have t21 : ((-11) : Int32).toInt = (-11) := rfl
            exact hk _ _ _ _ _ (by first | assumption | (exact cp_0 (by omega) (by omega)) | (exact cp_1 (by omega) (by omega) (by omega)) | (exact cp_2 (by omega) (by omega) (by omega) (by omega) (by omega)) | (exact cp_3 (by omega) (by omega) (by omega) (by omega) (by omega) (by omega)) | (exact cp_4 (by omega) (by omega) (by omega) (by omega) (by omega) (by omega)) | omega)
          · skip
            have t22 := ine (a := sheets0_isThere.toInt) (b := 0) rfl rfl c19
            refine ⟨fun c23 => ?_, fun c23 => ?_⟩
            · skip
              have t24 := ine (a := sheets0_isThere.toInt) (b := 0) rfl rfl c23
              refine ⟨fun c25 => ?_, fun c25 => ?_⟩
              · skip
                have t26 := ieq (a := sheets0_lane.toInt) (b := sheets0_lane.toInt) rfl rfl c25
                refine s_X4_holds (by first | omega | assumption | (exact cp_0 (by omega) (by omega)) | (exact cp_1 (by omega) (by omega) (by omega)) | (exact cp_2 (by omega) (by omega) (by omega) (by omega) (by omega)) | (exact cp_3 (by omega) (by omega) (by omega) (by omega) (by omega) (by omega)) | (exact cp_4 (by omega) (by omega) (by omega) (by omega) (by omega) (by omega)) | exact AB.none (by omega) | exact AB.mono (by assumption) (by omega) (by omega) (by omega) (by omega) | exact RB.none (by omega) | exact RB.mono (by assumption) (by omega) | exact UB.none (by omega) | exact UB.mono (by assumption) (by omega) | exact EQ.none (by omega) | exact EQ.mono (by assumption) (by omega)) (by first | omega | assumption | (exact cp_0 (by omega) (by omega)) | (exact cp_1 (by omega) (by omega) (by omega)) | (exact cp_2 (by omega) (by omega) (by omega) (by omega) (by omega)) | (exact cp_3 (by omega) (by omega) (by omega) (by omega) (by omega) (by omega)) | (exact cp_4 (by omega) (by omega) (by omega) (by omega) (by omega) (by omega)) | exact AB.none (by omega) | exact AB.mono (by assumption) (by omega) (by omega) (by omega) (by omega) | exact RB.none (by omega) | exact RB.mono (by assumption) (by omega) | exact UB.none (by omega) | exact UB.mono (by assumption) (by omega) | exact EQ.none (by omega) | exact EQ.mono (by assumption) (by omega)) (fun r10 q27 => ?_)
                refine ⟨fun c28 => ?_, fun c28 => ?_⟩
                · skip
                  have t29 := ieq (a := r10.toInt) (b := 0) rfl rfl c28
                  rcases q27 with q27 | q27
                  · exfalso; omega
                  have t30 : ((-13) : Int32).toInt = (-13) := rfl
                  exact hk _ _ _ _ _ (by first | assumption | (exact cp_0 (by omega) (by omega)) | (exact cp_1 (by omega) (by omega) (by omega)) | (exact cp_2 (by omega) (by omega) (by omega) (by omega) (by omega)) | (exact cp_3 (by omega) (by omega) (by omega) (by omega) (by omega) (by omega)) | (exact cp_4 (by omega) (by omega) (by omega) (by omega) (by omega) (by omega)) | omega)
                · skip
                  have t31 := ine (a := r10.toInt) (b := 0) rfl rfl c28
                  rcases q27.symm with q27 | q27
                  · exfalso; omega
                  refine s_X4_holds (by first | omega | assumption | (exact cp_0 (by omega) (by omega)) | (exact cp_1 (by omega) (by omega) (by omega)) | (exact cp_2 (by omega) (by omega) (by omega) (by omega) (by omega)) | (exact cp_3 (by omega) (by omega) (by omega) (by omega) (by omega) (by omega)) | (exact cp_4 (by omega) (by omega) (by omega) (by omega) (by omega) (by omega)) | exact AB.none (by omega) | exact AB.mono (by assumption) (by omega) (by omega) (by omega) (by omega) | exact RB.none (by omega) | exact RB.mono (by assumption) (by omega) | exact UB.none (by omega) | exact UB.mono (by assumption) (by omega) | exact EQ.none (by omega) | exact EQ.mono (by assumption) (by omega)) (by first | omega | assumption | (exact cp_0 (by omega) (by omega)) | (exact cp_1 (by omega) (by omega) (by omega)) | (exact cp_2 (by omega) (by omega) (by omega) (by omega) (by omega)) | (exact cp_3 (by omega) (by omega) (by omega) (by omega) (by omega) (by omega)) | (exact cp_4 (by omega) (by omega) (by omega) (by omega) (by omega) (by omega)) | exact AB.none (by omega) | exact AB.mono (by assumption) (by omega) (by omega) (by omega) (by omega) | exact RB.none (by omega) | exact RB.mono (by assumption) (by omega) | exact UB.none (by omega) | exact UB.mono (by assumption) (by omega) | exact EQ.none (by omega) | exact EQ.mono (by assumption) (by omega)) (fun r12 q32 => ?_)
                  refine ⟨fun c33 => ?_, fun c33 => ?_⟩
                  · skip
                    have t34 := ine (a := r12.toInt) (b := 0) rfl rfl c33
                    rcases q32.symm with q32 | q32
                    · exfalso; omega
                    have t35 : ((Int32.toNatClampNeg p2 : Nat) : Int) = p2.toInt := itn rfl (by omega)
                    have t36 : ((Int32.toNatClampNeg p4 : Nat) : Int) = p4.toInt := itn rfl (by omega)
                    have t37 : ((Int32.toNatClampNeg p5 : Nat) : Int) = p5.toInt := itn rfl (by omega)
                    refine ⟨fun h0 => absurd (ilt (a := p2.toInt) (b := 0) rfl rfl h0) (by omega), fun h0 => absurd (ilt (a := p4.toInt) (b := 0) rfl rfl h0) (by omega), fun h0 => absurd (ilt (a := p5.toInt) (b := 0) rfl rfl h0) (by omega), by omega, by omega, ?_⟩
                    intro f14 ef14
                    exact hk _ _ _ _ _ (by first | assumption | (exact cp_0 (by omega) (by omega)) | (exact cp_1 (by omega) (by omega) (by omega)) | (exact cp_2 (by omega) (by omega) (by omega) (by omega) (by omega)) | (exact cp_3 (by omega) (by omega) (by omega) (by omega) (by omega) (by omega)) | (exact cp_4 (by omega) (by omega) (by omega) (by omega) (by omega) (by omega)) | omega)
                  · skip
                    have t38 := ieq (a := r12.toInt) (b := 0) rfl rfl c33
                    rcases q32 with q32 | q32
                    · exfalso; omega
                    have t39 : ((-13) : Int32).toInt = (-13) := rfl
                    exact hk _ _ _ _ _ (by first | assumption | (exact cp_0 (by omega) (by omega)) | (exact cp_1 (by omega) (by omega) (by omega)) | (exact cp_2 (by omega) (by omega) (by omega) (by omega) (by omega)) | (exact cp_3 (by omega) (by omega) (by omega) (by omega) (by omega) (by omega)) | (exact cp_4 (by omega) (by omega) (by omega) (by omega) (by omega) (by omega)) | omega)
              · skip
                have t40 := ine (a := sheets0_lane.toInt) (b := sheets0_lane.toInt) rfl rfl c25
                have t41 : ((-12) : Int32).toInt = (-12) := rfl
                exact hk _ _ _ _ _ (by first | assumption | (exact cp_0 (by omega) (by omega)) | (exact cp_1 (by omega) (by omega) (by omega)) | (exact cp_2 (by omega) (by omega) (by omega) (by omega) (by omega)) | (exact cp_3 (by omega) (by omega) (by omega) (by omega) (by omega) (by omega)) | (exact cp_4 (by omega) (by omega) (by omega) (by omega) (by omega) (by omega)) | omega)
            · skip
              have t42 := ieq (a := sheets0_isThere.toInt) (b := 0) rfl rfl c23
              have t43 : ((-11) : Int32).toInt = (-11) := rfl
              exact hk _ _ _ _ _ (by first | assumption | (exact cp_0 (by omega) (by omega)) | (exact cp_1 (by omega) (by omega) (by omega)) | (exact cp_2 (by omega) (by omega) (by omega) (by omega) (by omega)) | (exact cp_3 (by omega) (by omega) (by omega) (by omega) (by omega) (by omega)) | (exact cp_4 (by omega) (by omega) (by omega) (by omega) (by omega) (by omega)) | omega)
        · skip
          have t44 := ine (a := p3.toInt) (b := 0) rfl rfl c14
          refine ⟨fun c45 => ?_, fun c45 => ?_⟩
          · skip
            have t46 := ieq (a := p3.toInt) (b := 1) rfl rfl c45
            obtain ⟨g47, g48, g49⟩ := Or.resolve_left hp13 (fun h9 => h9 (by omega))
            clear hp12 hp13 hp14 hp15
            refine ⟨fun c50 => ?_, fun c50 => ?_⟩
            · skip
              have t51 := ieq (a := sheets0_isThere.toInt) (b := 0) rfl rfl c50
              have t52 : ((-11) : Int32).toInt = (-11) := rfl
              exact hk _ _ _ _ _ (by first | assumption | (exact cp_0 (by omega) (by omega)) | (exact cp_1 (by omega) (by omega) (by omega)) | (exact cp_2 (by omega) (by omega) (by omega) (by omega) (by omega)) | (exact cp_3 (by omega) (by omega) (by omega) (by omega) (by omega) (by omega)) | (exact cp_4 (by omega) (by omega) (by omega) (by omega) (by omega) (by omega)) | omega)
            · skip
              have t53 := ine (a := sheets0_isThere.toInt) (b := 0) rfl rfl c50
              refine ⟨fun c54 => ?_, fun c54 => ?_⟩
              · skip
                have t55 := ine (a := sheets1_isThere.toInt) (b := 0) rfl rfl c54
                refine ⟨fun c56 => ?_, fun c56 => ?_⟩
                · skip
                  have t57 := ieq (a := sheets0_lane.toInt) (b := sheets1_lane.toInt) rfl rfl c56
                  refine s_X4_holds (by first | omega | assumption | (exact cp_0 (by omega) (by omega)) | (exact cp_1 (by omega) (by omega) (by omega)) | (exact cp_2 (by omega) (by omega) (by omega) (by omega) (by omega)) | (exact cp_3 (by omega) (by omega) (by omega) (by omega) (by omega) (by omega)) | (exact cp_4 (by omega) (by omega) (by omega) (by omega) (by omega) (by omega)) | exact AB.none (by omega) | exact AB.mono (by assumption) (by omega) (by omega) (by omega) (by omega) | exact RB.none (by omega) | exact RB.mono (by assumption) (by omega) | exact UB.none (by omega) | exact UB.mono (by assumption) (by omega) | exact EQ.none (by omega) | exact EQ.mono (by assumption) (by omega)) (by first | omega | assumption | (exact cp_0 (by omega) (by omega)) | (exact cp_1 (by omega) (by omega) (by omega)) | (exact cp_2 (by omega) (by omega) (by omega) (by omega) (by omega)) | (exact cp_3 (by omega) (by omega) (by omega) (by omega) (by omega) (by omega)) | (exact cp_4 (by omega) (by omega) (by omega) (by omega) (by omega) (by omega)) | exact AB.none (by omega) | exact AB.mono (by assumption) (by omega) (by omega) (by omega) (by omega) | exact RB.none (by omega) | exact RB.mono (by assumption) (by omega) | exact UB.none (by omega) | exact UB.mono (by assumption) (by omega) | exact EQ.none (by omega) | exact EQ.mono (by assumption) (by omega)) (fun r19 q58 => ?_)
                  refine ⟨fun c59 => ?_, fun c59 => ?_⟩
                  · skip
                    have t60 := ieq (a := r19.toInt) (b := 0) rfl rfl c59
                    rcases q58 with q58 | q58
                    · exfalso; omega
                    have t61 : ((-13) : Int32).toInt = (-13) := rfl
                    exact hk _ _ _ _ _ (by first | assumption | (exact cp_0 (by omega) (by omega)) | (exact cp_1 (by omega) (by omega) (by omega)) | (exact cp_2 (by omega) (by omega) (by omega) (by omega) (by omega)) | (exact cp_3 (by omega) (by omega) (by omega) (by omega) (by omega) (by omega)) | (exact cp_4 (by omega) (by omega) (by omega) (by omega) (by omega) (by omega)) | omega)
                  · skip
                    have t62 := ine (a := r19.toInt) (b := 0) rfl rfl c59
                    rcases q58.symm with q58 | q58
                    · exfalso; omega
                    refine s_X4_holds (by first | omega | assumption | (exact cp_0 (by omega) (by omega)) | (exact cp_1 (by omega) (by omega) (by omega)) | (exact cp_2 (by omega) (by omega) (by omega) (by omega) (by omega)) | (exact cp_3 (by omega) (by omega) (by omega) (by omega) (by omega) (by omega)) | (exact cp_4 (by omega) (by omega) (by omega) (by omega) (by omega) (by omega)) | exact AB.none (by omega) | exact AB.mono (by assumption) (by omega) (by omega) (by omega) (by omega) | exact RB.none (by omega) | exact RB.mono (by assumption) (by omega) | exact UB.none (by omega) | exact UB.mono (by assumption) (by omega) | exact EQ.none (by omega) | exact EQ.mono (by assumption) (by omega)) (by first | omega | assumption | (exact cp_0 (by omega) (by omega)) | (exact cp_1 (by omega) (by omega) (by omega)) | (exact cp_2 (by omega) (by omega) (by omega) (by omega) (by omega)) | (exact cp_3 (by omega) (by omega) (by omega) (by omega) (by omega) (by omega)) | (exact cp_4 (by omega) (by omega) (by omega) (by omega) (by omega) (by omega)) | exact AB.none (by omega) | exact AB.mono (by assumption) (by omega) (by omega) (by omega) (by omega) | exact RB.none (by omega) | exact RB.mono (by assumption) (by omega) | exact UB.none (by omega) | exact UB.mono (by assumption) (by omega) | exact EQ.none (by omega) | exact EQ.mono (by assumption) (by omega)) (fun r21 q63 => ?_)
                    refine ⟨fun c64 => ?_, fun c64 => ?_⟩
                    · skip
                      have t65 := ine (a := r21.toInt) (b := 0) rfl rfl c64
                      rcases q63.symm with q63 | q63
                      · exfalso; omega
                      have t66 : ((Int32.toNatClampNeg p2 : Nat) : Int) = p2.toInt := itn rfl (by omega)
                      have t67 : ((Int32.toNatClampNeg p4 : Nat) : Int) = p4.toInt := itn rfl (by omega)
                      have t68 : ((Int32.toNatClampNeg p5 : Nat) : Int) = p5.toInt := itn rfl (by omega)
                      refine ⟨fun h0 => absurd (ilt (a := p2.toInt) (b := 0) rfl rfl h0) (by omega), fun h0 => absurd (ilt (a := p4.toInt) (b := 0) rfl rfl h0) (by omega), fun h0 => absurd (ilt (a := p5.toInt) (b := 0) rfl rfl h0) (by omega), by omega, by omega, ?_⟩
                      intro f23 ef23
                      exact hk _ _ _ _ _ (by first | assumption | (exact cp_0 (by omega) (by omega)) | (exact cp_1 (by omega) (by omega) (by omega)) | (exact cp_2 (by omega) (by omega) (by omega) (by omega) (by omega)) | (exact cp_3 (by omega) (by omega) (by omega) (by omega) (by omega) (by omega)) | (exact cp_4 (by omega) (by omega) (by omega) (by omega) (by omega) (by omega)) | omega)
                    · skip
                      have t69 := ieq (a := r21.toInt) (b := 0) rfl rfl c64
                      rcases q63 with q63 | q63
                      · exfalso; omega
                      have t70 : ((-13) : Int32).toInt = (-13) := rfl
                      exact hk _ _ _ _ _ (by first | assumption | (exact cp_0 (by omega) (by omega)) | (exact cp_1 (by omega) (by omega) (by omega)) | (exact cp_2 (by omega) (by omega) (by omega) (by omega) (by omega)) | (exact cp_3 (by omega) (by omega) (by omega) (by omega) (by omega) (by omega)) | (exact cp_4 (by omega) (by omega) (by omega) (by omega) (by omega) (by omega)) | omega)
                · skip
                  have t71 := ine (a := sheets0_lane.toInt) (b := sheets1_lane.toInt) rfl rfl c56
                  have t72 : ((-12) : Int32).toInt = (-12) := rfl
                  exact hk _ _ _ _ _ (by first | assumption | (exact cp_0 (by omega) (by omega)) | (exact cp_1 (by omega) (by omega) (by omega)) | (exact cp_2 (by omega) (by omega) (by omega) (by omega) (by omega)) | (exact cp_3 (by omega) (by omega) (by omega) (by omega) (by omega) (by omega)) | (exact cp_4 (by omega) (by omega) (by omega) (by omega) (by omega) (by omega)) | omega)
              · skip
                have t73 := ieq (a := sheets1_isThere.toInt) (b := 0) rfl rfl c54
                have t74 : ((-11) : Int32).toInt = (-11) := rfl
                exact hk _ _ _ _ _ (by first | assumption | (exact cp_0 (by omega) (by omega)) | (exact cp_1 (by omega) (by omega) (by omega)) | (exact cp_2 (by omega) (by omega) (by omega) (by omega) (by omega)) | (exact cp_3 (by omega) (by omega) (by omega) (by omega) (by omega) (by omega)) | (exact cp_4 (by omega) (by omega) (by omega) (by omega) (by omega) (by omega)) | omega)
          · skip
            have t75 := ine (a := p3.toInt) (b := 1) rfl rfl c45
            refine ⟨fun c76 => ?_, fun c76 => ?_⟩
            · skip
              have t77 := ieq (a := p3.toInt) (b := 2) rfl rfl c76
              obtain ⟨g78, g79, g80⟩ := Or.resolve_left hp14 (fun h9 => h9 (by omega))
              clear hp12 hp13 hp14 hp15
              refine ⟨fun c81 => ?_, fun c81 => ?_⟩
              · skip
                have t82 := ieq (a := sheets0_isThere.toInt) (b := 0) rfl rfl c81
                have t83 : ((-11) : Int32).toInt = (-11) := rfl
                exact hk _ _ _ _ _ (by first | assumption | (exact cp_0 (by omega) (by omega)) | (exact cp_1 (by omega) (by omega) (by omega)) | (exact cp_2 (by omega) (by omega) (by omega) (by omega) (by omega)) | (exact cp_3 (by omega) (by omega) (by omega) (by omega) (by omega) (by omega)) | (exact cp_4 (by omega) (by omega) (by omega) (by omega) (by omega) (by omega)) | omega)
              · skip
                have t84 := ine (a := sheets0_isThere.toInt) (b := 0) rfl rfl c81
                refine ⟨fun c85 => ?_, fun c85 => ?_⟩
                · skip
                  have t86 := ine (a := sheets2_isThere.toInt) (b := 0) rfl rfl c85
                  refine ⟨fun c87 => ?_, fun c87 => ?_⟩
                  · skip
                    have t88 := ieq (a := sheets0_lane.toInt) (b := sheets2_lane.toInt) rfl rfl c87
                    refine s_X4_holds (by first | omega | assumption | (exact cp_0 (by omega) (by omega)) | (exact cp_1 (by omega) (by omega) (by omega)) | (exact cp_2 (by omega) (by omega) (by omega) (by omega) (by omega)) | (exact cp_3 (by omega) (by omega) (by omega) (by omega) (by omega) (by omega)) | (exact cp_4 (by omega) (by omega) (by omega) (by omega) (by omega) (by omega)) | exact AB.none (by omega) | exact AB.mono (by assumption) (by omega) (by omega) (by omega) (by omega) | exact RB.none (by omega) | exact RB.mono (by assumption) (by omega) | exact UB.none (by omega) | exact UB.mono (by assumption) (by omega) | exact EQ.none (by omega) | exact EQ.mono (by assumption) (by omega)) (by first | omega | assumption | (exact cp_0 (by omega) (by omega)) | (exact cp_1 (by omega) (by omega) (by omega)) | (exact cp_2 (by omega) (by omega) (by omega) (by omega) (by omega)) | (exact cp_3 (by omega) (by omega) (by omega) (by omega) (by omega) (by omega)) | (exact cp_4 (by omega) (by omega) (by omega) (by omega) (by omega) (by omega)) | exact AB.none (by omega) | exact AB.mono (by assumption) (by omega) (by omega) (by omega) (by omega) | exact RB.none (by omega) | exact RB.mono (by assumption) (by omega) | exact UB.none (by omega) | exact UB.mono (by assumption) (by omega) | exact EQ.none (by omega) | exact EQ.mono (by assumption) (by omega)) (fun r28 q89 => ?_)
                    refine ⟨fun c90 => ?_, fun c90 => ?_⟩
                    · skip
                      have t91 := ieq (a := r28.toInt) (b := 0) rfl rfl c90
                      rcases q89 with q89 | q89
                      · exfalso; omega
                      have t92 : ((-13) : Int32).toInt = (-13) := rfl
                      exact hk _ _ _ _ _ (by first | assumption | (exact cp_0 (by omega) (by omega)) | (exact cp_1 (by omega) (by omega) (by omega)) | (exact cp_2 (by omega) (by omega) (by omega) (by omega) (by omega)) | (exact cp_3 (by omega) (by omega) (by omega) (by omega) (by omega) (by omega)) | (exact cp_4 (by omega) (by omega) (by omega) (by omega) (by omega) (by omega)) | omega)
                    · skip
                      have t93 := ine (a := r28.toInt) (b := 0) rfl rfl c90
                      rcases q89.symm with q89 | q89
                      · exfalso; omega
                      refine s_X4_holds (by first | omega | assumption | (exact cp_0 (by omega) (by omega)) | (exact cp_1 (by omega) (by omega) (by omega)) | (exact cp_2 (by omega) (by omega) (by omega) (by omega) (by omega)) | (exact cp_3 (by omega) (by omega) (by omega) (by omega) (by omega) (by omega)) | (exact cp_4 (by omega) (by omega) (by omega) (by omega) (by omega) (by omega)) | exact AB.none (by omega) | exact AB.mono (by assumption) (by omega) (by omega) (by omega) (by omega) | exact RB.none (by omega) | exact RB.mono (by assumption) (by omega) | exact UB.none (by omega) | exact UB.mono (by assumption) (by omega) | exact EQ.none (by omega) | exact EQ.mono (by assumption) (by omega)) (by first | omega | assumption | (exact cp_0 (by omega) (by omega)) | (exact cp_1 (by omega) (by omega) (by omega)) | (exact cp_2 (by omega) (by omega) (by omega) (by omega) (by omega)) | (exact cp_3 (by omega) (by omega) (by omega) (by omega) (by omega) (by omega)) | (exact cp_4 (by omega) (by omega) (by omega) (by omega) (by omega) (by omega)) | exact AB.none (by omega) | exact AB.mono (by assumption) (by omega) (by omega) (by omega) (by omega) | exact RB.none (by omega) | exact RB.mono (by assumption) (by omega) | exact UB.none (by omega) | exact UB.mono (by assumption) (by omega) | exact EQ.none (by omega) | exact EQ.mono (by assumption) (by omega)) (fun r30 q94 => ?_)
                      refine ⟨fun c95 => ?_, fun c95 => ?_⟩
                      · skip
                        have t96 := ine (a := r30.toInt) (b := 0) rfl rfl c95
                        rcases q94.symm with q94 | q94
                        · exfalso; omega
                        have t97 : ((Int32.toNatClampNeg p2 : Nat) : Int) = p2.toInt := itn rfl (by omega)
                        have t98 : ((Int32.toNatClampNeg p4 : Nat) : Int) = p4.toInt := itn rfl (by omega)
                        have t99 : ((Int32.toNatClampNeg p5 : Nat) : Int) = p5.toInt := itn rfl (by omega)
                        refine ⟨fun h0 => absurd (ilt (a := p2.toInt) (b := 0) rfl rfl h0) (by omega), fun h0 => absurd (ilt (a := p4.toInt) (b := 0) rfl rfl h0) (by omega), fun h0 => absurd (ilt (a := p5.toInt) (b := 0) rfl rfl h0) (by omega), by omega, by omega, ?_⟩
                        intro f32 ef32
                        exact hk _ _ _ _ _ (by first | assumption | (exact cp_0 (by omega) (by omega)) | (exact cp_1 (by omega) (by omega) (by omega)) | (exact cp_2 (by omega) (by omega) (by omega) (by omega) (by omega)) | (exact cp_3 (by omega) (by omega) (by omega) (by omega) (by omega) (by omega)) | (exact cp_4 (by omega) (by omega) (by omega) (by omega) (by omega) (by omega)) | omega)
                      · skip
                        have t100 := ieq (a := r30.toInt) (b := 0) rfl rfl c95
                        rcases q94 with q94 | q94
                        · exfalso; omega
                        have t101 : ((-13) : Int32).toInt = (-13) := rfl
                        exact hk _ _ _ _ _ (by first | assumption | (exact cp_0 (by omega) (by omega)) | (exact cp_1 (by omega) (by omega) (by omega)) | (exact cp_2 (by omega) (by omega) (by omega) (by omega) (by omega)) | (exact cp_3 (by omega) (by omega) (by omega) (by omega) (by omega) (by omega)) | (exact cp_4 (by omega) (by omega) (by omega) (by omega) (by omega) (by omega)) | omega)
                  · skip
                    have t102 := ine (a := sheets0_lane.toInt) (b := sheets2_lane.toInt) rfl rfl c87
                    have t103 : ((-12) : Int32).toInt = (-12) := rfl
                    exact hk _ _ _ _ _ (by first | assumption | (exact cp_0 (by omega) (by omega)) | (exact cp_1 (by omega) (by omega) (by omega)) | (exact cp_2 (by omega) (by omega) (by omega) (by omega) (by omega)) | (exact cp_3 (by omega) (by omega) (by omega) (by omega) (by omega) (by omega)) | (exact cp_4 (by omega) (by omega) (by omega) (by omega) (by omega) (by omega)) | omega)
                · skip
                  have t104 := ieq (a := sheets2_isThere.toInt) (b := 0) rfl rfl c85
                  have t105 : ((-11) : Int32).toInt = (-11) := rfl
                  exact hk _ _ _ _ _ (by first | assumption | (exact cp_0 (by omega) (by omega)) | (exact cp_1 (by omega) (by omega) (by omega)) | (exact cp_2 (by omega) (by omega) (by omega) (by omega) (by omega)) | (exact cp_3 (by omega) (by omega) (by omega) (by omega) (by omega) (by omega)) | (exact cp_4 (by omega) (by omega) (by omega) (by omega) (by omega) (by omega)) | omega)
            · skip
              have t106 := ine (a := p3.toInt) (b := 2) rfl rfl c76
              obtain ⟨g107, g108, g109⟩ := Or.resolve_left hp15 (fun h9 => h9 (by omega))
              clear hp12 hp13 hp14 hp15
              intro c110
              have t111 := ieq (a := p3.toInt) (b := 3) rfl rfl c110
              refine ⟨fun c112 => ?_, fun c112 => ?_⟩
              · skip
                have t113 := ieq (a := sheets0_isThere.toInt) (b := 0) rfl rfl c112
                have t114 : ((-11) : Int32).toInt = (-11) := rfl
                exact hk _ _ _ _ _ (by first | assumption | (exact cp_0 (by omega) (by omega)) | (exact cp_1 (by omega) (by omega) (by omega)) | (exact cp_2 (by omega) (by omega) (by omega) (by omega) (by omega)) | (exact cp_3 (by omega) (by omega) (by omega) (by omega) (by omega) (by omega)) | (exact cp_4 (by omega) (by omega) (by omega) (by omega) (by omega) (by omega)) | omega)
              · skip
                have t115 := ine (a := sheets0_isThere.toInt) (b := 0) rfl rfl c112
                refine ⟨fun c116 => ?_, fun c116 => ?_⟩
                · skip
                  have t117 := ine (a := sheets3_isThere.toInt) (b := 0) rfl rfl c116
                  refine ⟨fun c118 => ?_, fun c118 => ?_⟩
                  · skip
                    have t119 := ieq (a := sheets0_lane.toInt) (b := sheets3_lane.toInt) rfl rfl c118
                    refine s_X4_holds (by first | omega | assumption | (exact cp_0 (by omega) (by omega)) | (exact cp_1 (by omega) (by omega) (by omega)) | (exact cp_2 (by omega) (by omega) (by omega) (by omega) (by omega)) | (exact cp_3 (by omega) (by omega) (by omega) (by omega) (by omega) (by omega)) | (exact cp_4 (by omega) (by omega) (by omega) (by omega) (by omega) (by omega)) | exact AB.none (by omega) | exact AB.mono (by assumption) (by omega) (by omega) (by omega) (by omega) | exact RB.none (by omega) | exact RB.mono (by assumption) (by omega) | exact UB.none (by omega) | exact UB.mono (by assumption) (by omega) | exact EQ.none (by omega) | exact EQ.mono (by assumption) (by omega)) (by first | omega | assumption | (exact cp_0 (by omega) (by omega)) | (exact cp_1 (by omega) (by omega) (by omega)) | (exact cp_2 (by omega) (by omega) (by omega) (by omega) (by omega)) | (exact cp_3 (by omega) (by omega) (by omega) (by omega) (by omega) (by omega)) | (exact cp_4 (by omega) (by omega) (by omega) (by omega) (by omega) (by omega)) | exact AB.none (by omega) | exact AB.mono (by assumption) (by omega) (by omega) (by omega) (by omega) | exact RB.none (by omega) | exact RB.mono (by assumption) (by omega) | exact UB.none (by omega) | exact UB.mono (by assumption) (by omega) | exact EQ.none (by omega) | exact EQ.mono (by assumption) (by omega)) (fun r37 q120 => ?_)
                    refine ⟨fun c121 => ?_, fun c121 => ?_⟩
                    · skip
                      have t122 := ieq (a := r37.toInt) (b := 0) rfl rfl c121
                      rcases q120 with q120 | q120
                      · exfalso; omega
                      have t123 : ((-13) : Int32).toInt = (-13) := rfl
                      exact hk _ _ _ _ _ (by first | assumption | (exact cp_0 (by omega) (by omega)) | (exact cp_1 (by omega) (by omega) (by omega)) | (exact cp_2 (by omega) (by omega) (by omega) (by omega) (by omega)) | (exact cp_3 (by omega) (by omega) (by omega) (by omega) (by omega) (by omega)) | (exact cp_4 (by omega) (by omega) (by omega) (by omega) (by omega) (by omega)) | omega)
                    · skip
                      have t124 := ine (a := r37.toInt) (b := 0) rfl rfl c121
                      rcases q120.symm with q120 | q120
                      · exfalso; omega
                      refine s_X4_holds (by first | omega | assumption | (exact cp_0 (by omega) (by omega)) | (exact cp_1 (by omega) (by omega) (by omega)) | (exact cp_2 (by omega) (by omega) (by omega) (by omega) (by omega)) | (exact cp_3 (by omega) (by omega) (by omega) (by omega) (by omega) (by omega)) | (exact cp_4 (by omega) (by omega) (by omega) (by omega) (by omega) (by omega)) | exact AB.none (by omega) | exact AB.mono (by assumption) (by omega) (by omega) (by omega) (by omega) | exact RB.none (by omega) | exact RB.mono (by assumption) (by omega) | exact UB.none (by omega) | exact UB.mono (by assumption) (by omega) | exact EQ.none (by omega) | exact EQ.mono (by assumption) (by omega)) (by first | omega | assumption | (exact cp_0 (by omega) (by omega)) | (exact cp_1 (by omega) (by omega) (by omega)) | (exact cp_2 (by omega) (by omega) (by omega) (by omega) (by omega)) | (exact cp_3 (by omega) (by omega) (by omega) (by omega) (by omega) (by omega)) | (exact cp_4 (by omega) (by omega) (by omega) (by omega) (by omega) (by omega)) | exact AB.none (by omega) | exact AB.mono (by assumption) (by omega) (by omega) (by omega) (by omega) | exact RB.none (by omega) | exact RB.mono (by assumption) (by omega) | exact UB.none (by omega) | exact UB.mono (by assumption) (by omega) | exact EQ.none (by omega) | exact EQ.mono (by assumption) (by omega)) (fun r39 q125 => ?_)
                      refine ⟨fun c126 => ?_, fun c126 => ?_⟩
                      · skip
                        have t127 := ine (a := r39.toInt) (b := 0) rfl rfl c126
                        rcases q125.symm with q125 | q125
                        · exfalso; omega
                        have t128 : ((Int32.toNatClampNeg p2 : Nat) : Int) = p2.toInt := itn rfl (by omega)
                        have t129 : ((Int32.toNatClampNeg p4 : Nat) : Int) = p4.toInt := itn rfl (by omega)
                        have t130 : ((Int32.toNatClampNeg p5 : Nat) : Int) = p5.toInt := itn rfl (by omega)
                        refine ⟨fun h0 => absurd (ilt (a := p2.toInt) (b := 0) rfl rfl h0) (by omega), fun h0 => absurd (ilt (a := p4.toInt) (b := 0) rfl rfl h0) (by omega), fun h0 => absurd (ilt (a := p5.toInt) (b := 0) rfl rfl h0) (by omega), by omega, by omega, ?_⟩
                        intro f41 ef41
                        exact hk _ _ _ _ _ (by first | assumption | (exact cp_0 (by omega) (by omega)) | (exact cp_1 (by omega) (by omega) (by omega)) | (exact cp_2 (by omega) (by omega) (by omega) (by omega) (by omega)) | (exact cp_3 (by omega) (by omega) (by omega) (by omega) (by omega) (by omega)) | (exact cp_4 (by omega) (by omega) (by omega) (by omega) (by omega) (by omega)) | omega)
                      · skip
                        have t131 := ieq (a := r39.toInt) (b := 0) rfl rfl c126
                        rcases q125 with q125 | q125
                        · exfalso; omega
                        have t132 : ((-13) : Int32).toInt = (-13) := rfl
                        exact hk _ _ _ _ _ (by first | assumption | (exact cp_0 (by omega) (by omega)) | (exact cp_1 (by omega) (by omega) (by omega)) | (exact cp_2 (by omega) (by omega) (by omega) (by omega) (by omega)) | (exact cp_3 (by omega) (by omega) (by omega) (by omega) (by omega) (by omega)) | (exact cp_4 (by omega) (by omega) (by omega) (by omega) (by omega) (by omega)) | omega)
                  · skip
                    have t133 := ine (a := sheets0_lane.toInt) (b := sheets3_lane.toInt) rfl rfl c118
                    have t134 : ((-12) : Int32).toInt = (-12) := rfl
                    exact hk _ _ _ _ _ (by first | assumption | (exact cp_0 (by omega) (by omega)) | (exact cp_1 (by omega) (by omega) (by omega)) | (exact cp_2 (by omega) (by omega) (by omega) (by omega) (by omega)) | (exact cp_3 (by omega) (by omega) (by omega) (by omega) (by omega) (by omega)) | (exact cp_4 (by omega) (by omega) (by omega) (by omega) (by omega) (by omega)) | omega)
                · skip
                  have t135 := ieq (a := sheets3_isThere.toInt) (b := 0) rfl rfl c116
                  have t136 : ((-11) : Int32).toInt = (-11) := rfl
                  exact hk _ _ _ _ _ (by first | assumption | (exact cp_0 (by omega) (by omega)) | (exact cp_1 (by omega) (by omega) (by omega)) | (exact cp_2 (by omega) (by omega) (by omega) (by omega) (by omega)) | (exact cp_3 (by omega) (by omega) (by omega) (by omega) (by omega) (by omega)) | (exact cp_4 (by omega) (by omega) (by omega) (by omega) (by omega) (by omega)) | omega)
      · skip
        have t137 := ine (a := p1.toInt) (b := 0) rfl rfl c9
        refine ⟨fun c138 => ?_, fun c138 => ?_⟩
        · skip
          have t139 := ieq (a := p1.toInt) (b := 1) rfl rfl c138
          obtain ⟨g140, g141, g142⟩ := Or.resolve_left hp9 (fun h9 => h9 (by omega))
          clear hp8 hp9 hp10 hp11
          refine ⟨ivp (a := p3.toInt) rfl (by omega) (by omega), ?_⟩
          refine ⟨fun c143 => ?_, fun c143 => ?_⟩
          · skip
            have t144 := ieq (a := p3.toInt) (b := 0) rfl rfl c143
            obtain ⟨g145, g146, g147⟩ := Or.resolve_left hp12 (fun h9 => h9 (by omega))
            clear hp12 hp13 hp14 hp15
            refine ⟨fun c148 => ?_, fun c148 => ?_⟩
            · skip
              have t149 := ieq (a := sheets1_isThere.toInt) (b := 0) rfl rfl c148
              have t150 : ((-11) : Int32).toInt = (-11) := rfl
              exact hk _ _ _ _ _ (by first | assumption | (exact cp_0 (by omega) (by omega)) | (exact cp_1 (by omega) (by omega) (by omega)) | (exact cp_2 (by omega) (by omega) (by omega) (by omega) (by omega)) | (exact cp_3 (by omega) (by omega) (by omega) (by omega) (by omega) (by omega)) | (exact cp_4 (by omega) (by omega) (by omega) (by omega) (by omega) (by omega)) | omega)
            · skip
              have t151 := ine (a := sheets1_isThere.toInt) (b := 0) rfl rfl c148
              refine ⟨fun c152 => ?_, fun c152 => ?_⟩
              · skip
                have t153 := ine (a := sheets0_isThere.toInt) (b := 0) rfl rfl c152
                refine ⟨fun c154 => ?_, fun c154 => ?_⟩
                · skip
                  have t155 := ieq (a := sheets1_lane.toInt) (b := sheets0_lane.toInt) rfl rfl c154
                  refine s_X4_holds (by first | omega | assumption | (exact cp_0 (by omega) (by omega)) | (exact cp_1 (by omega) (by omega) (by omega)) | (exact cp_2 (by omega) (by omega) (by omega) (by omega) (by omega)) | (exact cp_3 (by omega) (by omega) (by omega) (by omega) (by omega) (by omega)) | (exact cp_4 (by omega) (by omega) (by omega) (by omega) (by omega) (by omega)) | exact AB.none (by omega) | exact AB.mono (by assumption) (by omega) (by omega) (by omega) (by omega) | exact RB.none (by omega) | exact RB.mono (by assumption) (by omega) | exact UB.none (by omega) | exact UB.mono (by assumption) (by omega) | exact EQ.none (by omega) | exact EQ.mono (by assumption) (by omega)) (by first | omega | assumption | (exact cp_0 (by omega) (by omega)) | (exact cp_1 (by omega) (by omega) (by omega)) | (exact cp_2 (by omega) (by omega) (by omega) (by omega) (by omega)) | (exact cp_3 (by omega) (by omega) (by omega) (by omega) (by omega) (by omega)) | (exact cp_4 (by omega) (by omega) (by omega) (by omega) (by omega) (by omega)) | exact AB.none (by omega) | exact AB.mono (by assumption) (by omega) (by omega) (by omega) (by omega) | exact RB.none (by omega) | exact RB.mono (by assumption) (by omega) | exact UB.none (by omega) | exact UB.mono (by assumption) (by omega) | exact EQ.none (by omega) | exact EQ.mono (by assumption) (by omega)) (fun r47 q156 => ?_)
                  refine ⟨fun c157 => ?_, fun c157 => ?_⟩
                  · skip
                    have t158 := ieq (a := r47.toInt) (b := 0) rfl rfl c157
                    rcases q156 with q156 | q156
                    · exfalso; omega
                    have t159 : ((-13) : Int32).toInt = (-13) := rfl
                    exact hk _ _ _ _ _ (by first | assumption | (exact cp_0 (by omega) (by omega)) | (exact cp_1 (by omega) (by omega) (by omega)) | (exact cp_2 (by omega) (by omega) (by omega) (by omega) (by omega)) | (exact cp_3 (by omega) (by omega) (by omega) (by omega) (by omega) (by omega)) | (exact cp_4 (by omega) (by omega) (by omega) (by omega) (by omega) (by omega)) | omega)
                  · skip
                    have t160 := ine (a := r47.toInt) (b := 0) rfl rfl c157
                    rcases q156.symm with q156 | q156
                    · exfalso; omega
                    refine s_X4_holds (by first | omega | assumption | (exact cp_0 (by omega) (by omega)) | (exact cp_1 (by omega) (by omega) (by omega)) | (exact cp_2 (by omega) (by omega) (by omega) (by omega) (by omega)) | (exact cp_3 (by omega) (by omega) (by omega) (by omega) (by omega) (by omega)) | (exact cp_4 (by omega) (by omega) (by omega) (by omega) (by omega) (by omega)) | exact AB.none (by omega) | exact AB.mono (by assumption) (by omega) (by omega) (by omega) (by omega) | exact RB.none (by omega) | exact RB.mono (by assumption) (by omega) | exact UB.none (by omega) | exact UB.mono (by assumption) (by omega) | exact EQ.none (by omega) | exact EQ.mono (by assumption) (by omega)) (by first | omega | assumption | (exact cp_0 (by omega) (by omega)) | (exact cp_1 (by omega) (by omega) (by omega)) | (exact cp_2 (by omega) (by omega) (by omega) (by omega) (by omega)) | (exact cp_3 (by omega) (by omega) (by omega) (by omega) (by omega) (by omega)) | (exact cp_4 (by omega) (by omega) (by omega) (by omega) (by omega) (by omega)) | exact AB.none (by omega) | exact AB.mono (by assumption) (by omega) (by omega) (by omega) (by omega) | exact RB.none (by omega) | exact RB.mono (by assumption) (by omega) | exact UB.none (by omega) | exact UB.mono (by assumption) (by omega) | exact EQ.none (by omega) | exact EQ.mono (by assumption) (by omega)) (fun r49 q161 => ?_)
                    refine ⟨fun c162 => ?_, fun c162 => ?_⟩
                    · skip
                      have t163 := ine (a := r49.toInt) (b := 0) rfl rfl c162
                      rcases q161.symm with q161 | q161
                      · exfalso; omega
                      have t164 : ((Int32.toNatClampNeg p2 : Nat) : Int) = p2.toInt := itn rfl (by omega)
                      have t165 : ((Int32.toNatClampNeg p4 : Nat) : Int) = p4.toInt := itn rfl (by omega)
                      have t166 : ((Int32.toNatClampNeg p5 : Nat) : Int) = p5.toInt := itn rfl (by omega)
                      refine ⟨fun h0 => absurd (ilt (a := p2.toInt) (b := 0) rfl rfl h0) (by omega), fun h0 => absurd (ilt (a := p4.toInt) (b := 0) rfl rfl h0) (by omega), fun h0 => absurd (ilt (a := p5.toInt) (b := 0) rfl rfl h0) (by omega), by omega, by omega, ?_⟩
                      intro f51 ef51
                      exact hk _ _ _ _ _ (by first | assumption | (exact cp_0 (by omega) (by omega)) | (exact cp_1 (by omega) (by omega) (by omega)) | (exact cp_2 (by omega) (by omega) (by omega) (by omega) (by omega)) | (exact cp_3 (by omega) (by omega) (by omega) (by omega) (by omega) (by omega)) | (exact cp_4 (by omega) (by omega) (by omega) (by omega) (by omega) (by omega)) | omega)
                    · skip
                      have t167 := ieq (a := r49.toInt) (b := 0) rfl rfl c162
                      rcases q161 with q161 | q161
                      · exfalso; omega
                      have t168 : ((-13) : Int32).toInt = (-13) := rfl
                      exact hk _ _ _ _ _ (by first | assumption | (exact cp_0 (by omega) (by omega)) | (exact cp_1 (by omega) (by omega) (by omega)) | (exact cp_2 (by omega) (by omega) (by omega) (by omega) (by omega)) | (exact cp_3 (by omega) (by omega) (by omega) (by omega) (by omega) (by omega)) | (exact cp_4 (by omega) (by omega) (by omega) (by omega) (by omega) (by omega)) | omega)
                · skip
                  have t169 := ine (a := sheets1_lane.toInt) (b := sheets0_lane.toInt) rfl rfl c154
                  have t170 : ((-12) : Int32).toInt = (-12) := rfl
                  exact hk _ _ _ _ _ (by first | assumption | (exact cp_0 (by omega) (by omega)) | (exact cp_1 (by omega) (by omega) (by omega)) | (exact cp_2 (by omega) (by omega) (by omega) (by omega) (by omega)) | (exact cp_3 (by omega) (by omega) (by omega) (by omega) (by omega) (by omega)) | (exact cp_4 (by omega) (by omega) (by omega) (by omega) (by omega) (by omega)) | omega)
              · skip
                have t171 := ieq (a := sheets0_isThere.toInt) (b := 0) rfl rfl c152
                have t172 : ((-11) : Int32).toInt = (-11) := rfl
                exact hk _ _ _ _ _ (by first | assumption | (exact cp_0 (by omega) (by omega)) | (exact cp_1 (by omega) (by omega) (by omega)) | (exact cp_2 (by omega) (by omega) (by omega) (by omega) (by omega)) | (exact cp_3 (by omega) (by omega) (by omega) (by omega) (by omega) (by omega)) | (exact cp_4 (by omega) (by omega) (by omega) (by omega) (by omega) (by omega)) | omega)
          · skip
            have t173 := ine (a := p3.toInt) (b := 0) rfl rfl c143
            refine ⟨fun c174 => ?_, fun c174 => ?_⟩
            · skip
              have t175 := ieq (a := p3.toInt) (b := 1) rfl rfl c174
              obtain ⟨g176, g177, g178⟩ := Or.resolve_left hp13 (fun h9 => h9 (by omega))
              clear hp12 hp13 hp14 hp15
              refine ⟨fun c179 => ?_, fun c179 => ?_⟩
              · skip
                have t180 := ieq (a := sheets1_isThere.toInt) (b := 0) rfl rfl c179
                have t181 : ((-11) : Int32).toInt = (-11) := rfl
                exact hk _ _ _ _ _ (by first | assumption | (exact cp_0 (by omega) (by omega)) | (exact cp_1 (by omega) (by omega) (by omega)) | (exact cp_2 (by omega) (by omega) (by omega) (by omega) (by omega)) | (exact cp_3 (by omega) (by omega) (by omega) (by omega) (by omega) (by omega)) | (exact cp_4 (by omega) (by omega) (by omega) (by omega) (by omega) (by omega)) | omega)
              · skip
                have t182 := ine (a := sheets1_isThere.toInt) (b := 0) rfl rfl c179
                refine ⟨fun c183 => ?_, fun c183 => ?_⟩
                · skip
                  have t184 := ine (a := sheets1_isThere.toInt) (b := 0) rfl rfl c183
                  refine ⟨fun c185 => ?_, fun c185 => ?_⟩
                  · skip
                    have t186 := ieq (a := sheets1_lane.toInt) (b := sheets1_lane.toInt) rfl rfl c185
                    refine s_X4_holds (by first | omega | assumption | (exact cp_0 (by omega) (by omega)) | (exact cp_1 (by omega) (by omega) (by omega)) | (exact cp_2 (by omega) (by omega) (by omega) (by omega) (by omega)) | (exact cp_3 (by omega) (by omega) (by omega) (by omega) (by omega) (by omega)) | (exact cp_4 (by omega) (by omega) (by omega) (by omega) (by omega) (by omega)) | exact AB.none (by omega) | exact AB.mono (by assumption) (by omega) (by omega) (by omega) (by omega) | exact RB.none (by omega) | exact RB.mono (by assumption) (by omega) | exact UB.none (by omega) | exact UB.mono (by assumption) (by omega) | exact EQ.none (by omega) | exact EQ.mono (by assumption) (by omega)) (by first | omega | assumption | (exact cp_0 (by omega) (by omega)) | (exact cp_1 (by omega) (by omega) (by omega)) | (exact cp_2 (by omega) (by omega) (by omega) (by omega) (by omega)) | (exact cp_3 (by omega) (by omega) (by omega) (by omega) (by omega) (by omega)) | (exact cp_4 (by omega) (by omega) (by omega) (by omega) (by omega) (by omega)) | exact AB.none (by omega) | exact AB.mono (by assumption) (by omega) (by omega) (by omega) (by omega) | exact RB.none (by omega) | exact RB.mono (by assumption) (by omega) | exact UB.none (by omega) | exact UB.mono (by assumption) (by omega) | exact EQ.none (by omega) | exact EQ.mono (by assumption) (by omega)) (fun r56 q187 => ?_)
                    refine ⟨fun c188 => ?_, fun c188 => ?_⟩
                    · skip
                      have t189 := ieq (a := r56.toInt) (b := 0) rfl rfl c188
                      rcases q187 with q187 | q187
                      · exfalso; omega
                      have t190 : ((-13) : Int32).toInt = (-13) := rfl
                      exact hk _ _ _ _ _ (by first | assumption | (exact cp_0 (by omega) (by omega)) | (exact cp_1 (by omega) (by omega) (by omega)) | (exact cp_2 (by omega) (by omega) (by omega) (by omega) (by omega)) | (exact cp_3 (by omega) (by omega) (by omega) (by omega) (by omega) (by omega)) | (exact cp_4 (by omega) (by omega) (by omega) (by omega) (by omega) (by omega)) | omega)
                    · skip
                      have t191 := ine (a := r56.toInt) (b := 0) rfl rfl c188
                      rcases q187.symm with q187 | q187
                      · exfalso; omega
                      refine s_X4_holds (by first | omega | assumption | (exact cp_0 (by omega) (by omega)) | (exact cp_1 (by omega) (by omega) (by omega)) | (exact cp_2 (by omega) (by omega) (by omega) (by omega) (by omega)) | (exact cp_3 (by omega) (by omega) (by omega) (by omega) (by omega) (by omega)) | (exact cp_4 (by omega) (by omega) (by omega) (by omega) (by omega) (by omega)) | exact AB.none (by omega) | exact AB.mono (by assumption) (by omega) (by omega) (by omega) (by omega) | exact RB.none (by omega) | exact RB.mono (by assumption) (by omega) | exact UB.none (by omega) | exact UB.mono (by assumption) (by omega) | exact EQ.none (by omega) | exact EQ.mono (by assumption) (by omega)) (by first | omega | assumption | (exact cp_0 (by omega) (by omega)) | (exact cp_1 (by omega) (by omega) (by omega)) | (exact cp_2 (by omega) (by omega) (by omega) (by omega) (by omega)) | (exact cp_3 (by omega) (by omega) (by omega) (by omega) (by omega) (by omega)) | (exact cp_4 (by omega) (by omega) (by omega) (by omega) (by omega) (by omega)) | exact AB.none (by omega) | exact AB.mono (by assumption) (by omega) (by omega) (by omega) (by omega) | exact RB.none (by omega) | exact RB.mono (by assumption) (by omega) | exact UB.none (by omega) | exact UB.mono (by assumption) (by omega) | exact EQ.none (by omega) | exact EQ.mono (by assumption) (by omega)) (fun r58 q192 => ?_)
                      refine ⟨fun c193 => ?_, fun c193 => ?_⟩
                      · skip
                        have t194 := ine (a := r58.toInt) (b := 0) rfl rfl c193
                        rcases q192.symm with q192 | q192
                        · exfalso; omega
                        have t195 : ((Int32.toNatClampNeg p2 : Nat) : Int) = p2.toInt := itn rfl (by omega)
                        have t196 : ((Int32.toNatClampNeg p4 : Nat) : Int) = p4.toInt := itn rfl (by omega)
                        have t197 : ((Int32.toNatClampNeg p5 : Nat) : Int) = p5.toInt := itn rfl (by omega)
                        refine ⟨fun h0 => absurd (ilt (a := p2.toInt) (b := 0) rfl rfl h0) (by omega), fun h0 => absurd (ilt (a := p4.toInt) (b := 0) rfl rfl h0) (by omega), fun h0 => absurd (ilt (a := p5.toInt) (b := 0) rfl rfl h0) (by omega), by omega, by omega, ?_⟩
                        intro f60 ef60
                        exact hk _ _ _ _ _ (by first | assumption | (exact cp_0 (by omega) (by omega)) | (exact cp_1 (by omega) (by omega) (by omega)) | (exact cp_2 (by omega) (by omega) (by omega) (by omega) (by omega)) | (exact cp_3 (by omega) (by omega) (by omega) (by omega) (by omega) (by omega)) | (exact cp_4 (by omega) (by omega) (by omega) (by omega) (by omega) (by omega)) | omega)
                      · skip
                        have t198 := ieq (a := r58.toInt) (b := 0) rfl rfl c193
                        rcases q192 with q192 | q192
                        · exfalso; omega
                        have t199 : ((-13) : Int32).toInt = (-13) := rfl
                        exact hk _ _ _ _ _ (by first | assumption | (exact cp_0 (by omega) (by omega)) | (exact cp_1 (by omega) (by omega) (by omega)) | (exact cp_2 (by omega) (by omega) (by omega) (by omega) (by omega)) | (exact cp_3 (by omega) (by omega) (by omega) (by omega) (by omega) (by omega)) | (exact cp_4 (by omega) (by omega) (by omega) (by omega) (by omega) (by omega)) | omega)
                  · skip
                    have t200 := ine (a := sheets1_lane.toInt) (b := sheets1_lane.toInt) rfl rfl c185
                    have t201 : ((-12) : Int32).toInt = (-12) := rfl
                    exact hk _ _ _ _ _ (by first | assumption | (exact cp_0 (by omega) (by omega)) | (exact cp_1 (by omega) (by omega) (by omega)) | (exact cp_2 (by omega) (by omega) (by omega) (by omega) (by omega)) | (exact cp_3 (by omega) (by omega) (by omega) (by omega) (by omega) (by omega)) | (exact cp_4 (by omega) (by omega) (by omega) (by omega) (by omega) (by omega)) | omega)
                · skip
                  have t202 := ieq (a := sheets1_isThere.toInt) (b := 0) rfl rfl c183
                  have t203 : ((-11) : Int32).toInt = (-11) := rfl
                  exact hk _ _ _ _ _ (by first | assumption | (exact cp_0 (by omega) (by omega)) | (exact cp_1 (by omega) (by omega) (by omega)) | (exact cp_2 (by omega) (by omega) (by omega) (by omega) (by omega)) | (exact cp_3 (by omega) (by omega) (by omega) (by omega) (by omega) (by omega)) | (exact cp_4 (by omega) (by omega) (by omega) (by omega) (by omega) (by omega)) | omega)
            · skip
              have t204 := ine (a := p3.toInt) (b := 1) rfl rfl c174
              refine ⟨fun c205 => ?_, fun c205 => ?_⟩
              · skip
                have t206 := ieq (a := p3.toInt) (b := 2) rfl rfl c205
                obtain ⟨g207, g208, g209⟩ := Or.resolve_left hp14 (fun h9 => h9 (by omega))
                clear hp12 hp13 hp14 hp15
                refine ⟨fun c210 => ?_, fun c210 => ?_⟩
                · skip
                  have t211 := ieq (a := sheets1_isThere.toInt) (b := 0) rfl rfl c210
                  have t212 : ((-11) : Int32).toInt = (-11) := rfl
                  exact hk _ _ _ _ _ (by first | assumption | (exact cp_0 (by omega) (by omega)) | (exact cp_1 (by omega) (by omega) (by omega)) | (exact cp_2 (by omega) (by omega) (by omega) (by omega) (by omega)) | (exact cp_3 (by omega) (by omega) (by omega) (by omega) (by omega) (by omega)) | (exact cp_4 (by omega) (by omega) (by omega) (by omega) (by omega) (by omega)) | omega)
                · skip
                  have t213 := ine (a := sheets1_isThere.toInt) (b := 0) rfl rfl c210
                  refine ⟨fun c214 => ?_, fun c214 => ?_⟩
                  · skip
                    have t215 := ine (a := sheets2_isThere.toInt) (b := 0) rfl rfl c214
                    refine ⟨fun c216 => ?_, fun c216 => ?_⟩
                    · skip
                      have t217 := ieq (a := sheets1_lane.toInt) (b := sheets2_lane.toInt) rfl rfl c216
                      refine s_X4_holds (by first | omega | assumption | (exact cp_0 (by omega) (by omega)) | (exact cp_1 (by omega) (by omega) (by omega)) | (exact cp_2 (by omega) (by omega) (by omega) (by omega) (by omega)) | (exact cp_3 (by omega) (by omega) (by omega) (by omega) (by omega) (by omega)) | (exact cp_4 (by omega) (by omega) (by omega) (by omega) (by omega) (by omega)) | exact AB.none (by omega) | exact AB.mono (by assumption) (by omega) (by omega) (by omega) (by omega) | exact RB.none (by omega) | exact RB.mono (by assumption) (by omega) | exact UB.none (by omega) | exact UB.mono (by assumption) (by omega) | exact EQ.none (by omega) | exact EQ.mono (by assumption) (by omega)) (by first | omega | assumption | (exact cp_0 (by omega) (by omega)) | (exact cp_1 (by omega) (by omega) (by omega)) | (exact cp_2 (by omega) (by omega) (by omega) (by omega) (by omega)) | (exact cp_3 (by omega) (by omega) (by omega) (by omega) (by omega) (by omega)) | (exact cp_4 (by omega) (by omega) (by omega) (by omega) (by omega) (by omega)) | exact AB.none (by omega) | exact AB.mono (by assumption) (by omega) (by omega) (by omega) (by omega) | exact RB.none (by omega) | exact RB.mono (by assumption) (by omega) | exact UB.none (by omega) | exact UB.mono (by assumption) (by omega) | exact EQ.none (by omega) | exact EQ.mono (by assumption) (by omega)) (fun r65 q218 => ?_)
                      refine ⟨fun c219 => ?_, fun c219 => ?_⟩
                      · skip
                        have t220 := ieq (a := r65.toInt) (b := 0) rfl rfl c219
                        rcases q218 with q218 | q218
                        · exfalso; omega
                        have t221 : ((-13) : Int32).toInt = (-13) := rfl
                        exact hk _ _ _ _ _ (by first | assumption | (exact cp_0 (by omega) (by omega)) | (exact cp_1 (by omega) (by omega) (by omega)) | (exact cp_2 (by omega) (by omega) (by omega) (by omega) (by omega)) | (exact cp_3 (by omega) (by omega) (by omega) (by omega) (by omega) (by omega)) | (exact cp_4 (by omega) (by omega) (by omega) (by omega) (by omega) (by omega)) | omega)
                      · skip
                        have t222 := ine (a := r65.toInt) (b := 0) rfl rfl c219
                        rcases q218.symm with q218 | q218
                        · exfalso; omega
                        refine s_X4_holds (by first | omega | assumption | (exact cp_0 (by omega) (by omega)) | (exact cp_1 (by omega) (by omega) (by omega)) | (exact cp_2 (by omega) (by omega) (by omega) (by omega) (by omega)) | (exact cp_3 (by omega) (by omega) (by omega) (by omega) (by omega) (by omega)) | (exact cp_4 (by omega) (by omega) (by omega) (by omega) (by omega) (by omega)) | exact AB.none (by omega) | exact AB.mono (by assumption) (by omega) (by omega) (by omega) (by omega) | exact RB.none (by omega) | exact RB.mono (by assumption) (by omega) | exact UB.none (by omega) | exact UB.mono (by assumption) (by omega) | exact EQ.none (by omega) | exact EQ.mono (by assumption) (by omega)) (by first | omega | assumption | (exact cp_0 (by omega) (by omega)) | (exact cp_1 (by omega) (by omega) (by omega)) | (exact cp_2 (by omega) (by omega) (by omega) (by omega) (by omega)) | (exact cp_3 (by omega) (by omega) (by omega) (by omega) (by omega) (by omega)) | (exact cp_4 (by omega) (by omega) (by omega) (by omega) (by omega) (by omega)) | exact AB.none (by omega) | exact AB.mono (by assumption) (by omega) (by omega) (by omega) (by omega) | exact RB.none (by omega) | exact RB.mono (by assumption) (by omega) | exact UB.none (by omega) | exact UB.mono (by assumption) (by omega) | exact EQ.none (by omega) | exact EQ.mono (by assumption) (by omega)) (fun r67 q223 => ?_)
                        refine ⟨fun c224 => ?_, fun c224 => ?_⟩
                        · skip
                          have t225 := ine (a := r67.toInt) (b := 0) rfl rfl c224
                          rcases q223.symm with q223 | q223
                          · exfalso; omega
                          have t226 : ((Int32.toNatClampNeg p2 : Nat) : Int) = p2.toInt := itn rfl (by omega)
                          have t227 : ((Int32.toNatClampNeg p4 : Nat) : Int) = p4.toInt := itn rfl (by omega)
                          have t228 : ((Int32.toNatClampNeg p5 : Nat) : Int) = p5.toInt := itn rfl (by omega)
                          refine ⟨fun h0 => absurd (ilt (a := p2.toInt) (b := 0) rfl rfl h0) (by omega), fun h0 => absurd (ilt (a := p4.toInt) (b := 0) rfl rfl h0) (by omega), fun h0 => absurd (ilt (a := p5.toInt) (b := 0) rfl rfl h0) (by omega), by omega, by omega, ?_⟩
                          intro f69 ef69
                          exact hk _ _ _ _ _ (by first | assumption | (exact cp_0 (by omega) (by omega)) | (exact cp_1 (by omega) (by omega) (by omega)) | (exact cp_2 (by omega) (by omega) (by omega) (by omega) (by omega)) | (exact cp_3 (by omega) (by omega) (by omega) (by omega) (by omega) (by omega)) | (exact cp_4 (by omega) (by omega) (by omega) (by omega) (by omega) (by omega)) | omega)
                        · skip
                          have t229 := ieq (a := r67.toInt) (b := 0) rfl rfl c224
                          rcases q223 with q223 | q223
                          · exfalso; omega
                          have t230 : ((-13) : Int32).toInt = (-13) := rfl
                          exact hk _ _ _ _ _ (by first | assumption | (exact cp_0 (by omega) (by omega)) | (exact cp_1 (by omega) (by omega) (by omega)) | (exact cp_2 (by omega) (by omega) (by omega) (by omega) (by omega)) | (exact cp_3 (by omega) (by omega) (by omega) (by omega) (by omega) (by omega)) | (exact cp_4 (by omega) (by omega) (by omega) (by omega) (by omega) (by omega)) | omega)
                    · skip
                      have t231 := ine (a := sheets1_lane.toInt) (b := sheets2_lane.toInt) rfl rfl c216
                      have t232 : ((-12) : Int32).toInt = (-12) := rfl
                      exact hk _ _ _ _ _ (by first | assumption | (exact cp_0 (by omega) (by omega)) | (exact cp_1 (by omega) (by omega) (by omega)) | (exact cp_2 (by omega) (by omega) (by omega) (by omega) (by omega)) | (exact cp_3 (by omega) (by omega) (by omega) (by omega) (by omega) (by omega)) | (exact cp_4 (by omega) (by omega) (by omega) (by omega) (by omega) (by omega)) | omega)
                  · skip
                    have t233 := ieq (a := sheets2_isThere.toInt) (b := 0) rfl rfl c214
                    have t234 : ((-11) : Int32).toInt = (-11) := rfl
                    exact hk _ _ _ _ _ (by first | assumption | (exact cp_0 (by omega) (by omega)) | (exact cp_1 (by omega) (by omega) (by omega)) | (exact cp_2 (by omega) (by omega) (by omega) (by omega) (by omega)) | (exact cp_3 (by omega) (by omega) (by omega) (by omega) (by omega) (by omega)) | (exact cp_4 (by omega) (by omega) (by omega) (by omega) (by omega) (by omega)) | omega)
              · skip
                have t235 := ine (a := p3.toInt) (b := 2) rfl rfl c205
                obtain ⟨g236, g237, g238⟩ := Or.resolve_left hp15 (fun h9 => h9 (by omega))
                clear hp12 hp13 hp14 hp15
                intro c239
                have t240 := ieq (a := p3.toInt) (b := 3) rfl rfl c239
                refine ⟨fun c241 => ?_, fun c241 => ?_⟩
                · skip
                  have t242 := ieq (a := sheets1_isThere.toInt) (b := 0) rfl rfl c241
                  have t243 : ((-11) : Int32).toInt = (-11) := rfl
                  exact hk _ _ _ _ _ (by first | assumption | (exact cp_0 (by omega) (by omega)) | (exact cp_1 (by omega) (by omega) (by omega)) | (exact cp_2 (by omega) (by omega) (by omega) (by omega) (by omega)) | (exact cp_3 (by omega) (by omega) (by omega) (by omega) (by omega) (by omega)) | (exact cp_4 (by omega) (by omega) (by omega) (by omega) (by omega) (by omega)) | omega)
                · skip
                  have t244 := ine (a := sheets1_isThere.toInt) (b := 0) rfl rfl c241
                  refine ⟨fun c245 => ?_, fun c245 => ?_⟩
                  · skip
                    have t246 := ine (a := sheets3_isThere.toInt) (b := 0) rfl rfl c245
                    refine ⟨fun c247 => ?_, fun c247 => ?_⟩
                    · skip
                      have t248 := ieq (a := sheets1_lane.toInt) (b := sheets3_lane.toInt) rfl rfl c247
                      refine s_X4_holds (by first | omega | assumption | (exact cp_0 (by omega) (by omega)) | (exact cp_1 (by omega) (by omega) (by omega)) | (exact cp_2 (by omega) (by omega) (by omega) (by omega) (by omega)) | (exact cp_3 (by omega) (by omega) (by omega) (by omega) (by omega) (by omega)) | (exact cp_4 (by omega) (by omega) (by omega) (by omega) (by omega) (by omega)) | exact AB.none (by omega) | exact AB.mono (by assumption) (by omega) (by omega) (by omega) (by omega) | exact RB.none (by omega) | exact RB.mono (by assumption) (by omega) | exact UB.none (by omega) | exact UB.mono (by assumption) (by omega) | exact EQ.none (by omega) | exact EQ.mono (by assumption) (by omega)) (by first | omega | assumption | (exact cp_0 (by omega) (by omega)) | (exact cp_1 (by omega) (by omega) (by omega)) | (exact cp_2 (by omega) (by omega) (by omega) (by omega) (by omega)) | (exact cp_3 (by omega) (by omega) (by omega) (by omega) (by omega) (by omega)) | (exact cp_4 (by omega) (by omega) (by omega) (by omega) (by omega) (by omega)) | exact AB.none (by omega) | exact AB.mono (by assumption) (by omega) (by omega) (by omega) (by omega) | exact RB.none (by omega) | exact RB.mono (by assumption) (by omega) | exact UB.none (by omega) | exact UB.mono (by assumption) (by omega) | exact EQ.none (by omega) | exact EQ.mono (by assumption) (by omega)) (fun r74 q249 => ?_)
                      refine ⟨fun c250 => ?_, fun c250 => ?_⟩
                      · skip
                        have t251 := ieq (a := r74.toInt) (b := 0) rfl rfl c250
                        rcases q249 with q249 | q249
                        · exfalso; omega
                        have t252 : ((-13) : Int32).toInt = (-13) := rfl
                        exact hk _ _ _ _ _ (by first | assumption | (exact cp_0 (by omega) (by omega)) | (exact cp_1 (by omega) (by omega) (by omega)) | (exact cp_2 (by omega) (by omega) (by omega) (by omega) (by omega)) | (exact cp_3 (by omega) (by omega) (by omega) (by omega) (by omega) (by omega)) | (exact cp_4 (by omega) (by omega) (by omega) (by omega) (by omega) (by omega)) | omega)
                      · skip
                        have t253 := ine (a := r74.toInt) (b := 0) rfl rfl c250
                        rcases q249.symm with q249 | q249
                        · exfalso; omega
                        refine s_X4_holds (by first | omega | assumption | (exact cp_0 (by omega) (by omega)) | (exact cp_1 (by omega) (by omega) (by omega)) | (exact cp_2 (by omega) (by omega) (by omega) (by omega) (by omega)) | (exact cp_3 (by omega) (by omega) (by omega) (by omega) (by omega) (by omega)) | (exact cp_4 (by omega) (by omega) (by omega) (by omega) (by omega) (by omega)) | exact AB.none (by omega) | exact AB.mono (by assumption) (by omega) (by omega) (by omega) (by omega) | exact RB.none (by omega) | exact RB.mono (by assumption) (by omega) | exact UB.none (by omega) | exact UB.mono (by assumption) (by omega) | exact EQ.none (by omega) | exact EQ.mono (by assumption) (by omega)) (by first | omega | assumption | (exact cp_0 (by omega) (by omega)) | (exact cp_1 (by omega) (by omega) (by omega)) | (exact cp_2 (by omega) (by omega) (by omega) (by omega) (by omega)) | (exact cp_3 (by omega) (by omega) (by omega) (by omega) (by omega) (by omega)) | (exact cp_4 (by omega) (by omega) (by omega) (by omega) (by omega) (by omega)) | exact AB.none (by omega) | exact AB.mono (by assumption) (by omega) (by omega) (by omega) (by omega) | exact RB.none (by omega) | exact RB.mono (by assumption) (by omega) | exact UB.none (by omega) | exact UB.mono (by assumption) (by omega) | exact EQ.none (by omega) | exact EQ.mono (by assumption) (by omega)) (fun r76 q254 => ?_)
                        refine ⟨fun c255 => ?_, fun c255 => ?_⟩
                        · skip
                          have t256 := ine (a := r76.toInt) (b := 0) rfl rfl c255
                          rcases q254.symm with q254 | q254
                          · exfalso; omega
                          have t257 : ((Int32.toNatClampNeg p2 : Nat) : Int) = p2.toInt := itn rfl (by omega)
                          have t258 : ((Int32.toNatClampNeg p4 : Nat) : Int) = p4.toInt := itn rfl (by omega)
                          have t259 : ((Int32.toNatClampNeg p5 : Nat) : Int) = p5.toInt := itn rfl (by omega)
                          refine ⟨fun h0 => absurd (ilt (a := p2.toInt) (b := 0) rfl rfl h0) (by omega), fun h0 => absurd (ilt (a := p4.toInt) (b := 0) rfl rfl h0) (by omega), fun h0 => absurd (ilt (a := p5.toInt) (b := 0) rfl rfl h0) (by omega), by omega, by omega, ?_⟩
                          intro f78 ef78
                          exact hk _ _ _ _ _ (by first | assumption | (exact cp_0 (by omega) (by omega)) | (exact cp_1 (by omega) (by omega) (by omega)) | (exact cp_2 (by omega) (by omega) (by omega) (by omega) (by omega)) | (exact cp_3 (by omega) (by omega) (by omega) (by omega) (by omega) (by omega)) | (exact cp_4 (by omega) (by omega) (by omega) (by omega) (by omega) (by omega)) | omega)
                        · skip
                          have t260 := ieq (a := r76.toInt) (b := 0) rfl rfl c255
                          rcases q254 with q254 | q254
                          · exfalso; omega
                          have t261 : ((-13) : Int32).toInt = (-13) := rfl
                          exact hk _ _ _ _ _ (by first | assumption | (exact cp_0 (by omega) (by omega)) | (exact cp_1 (by omega) (by omega) (by omega)) | (exact cp_2 (by omega) (by omega) (by omega) (by omega) (by omega)) | (exact cp_3 (by omega) (by omega) (by omega) (by omega) (by omega) (by omega)) | (exact cp_4 (by omega) (by omega) (by omega) (by omega) (by omega) (by omega)) | omega)
                    · skip
                      have t262 := ine (a := sheets1_lane.toInt) (b := sheets3_lane.toInt) rfl rfl c247
                      have t263 : ((-12) : Int32).toInt = (-12) := rfl
                      exact hk _ _ _ _ _ (by first | assumption | (exact cp_0 (by omega) (by omega)) | (exact cp_1 (by omega) (by omega) (by omega)) | (exact cp_2 (by omega) (by omega) (by omega) (by omega) (by omega)) | (exact cp_3 (by omega) (by omega) (by omega) (by omega) (by omega) (by omega)) | (exact cp_4 (by omega) (by omega) (by omega) (by omega) (by omega) (by omega)) | omega)
                  · skip
                    have t264 := ieq (a := sheets3_isThere.toInt) (b := 0) rfl rfl c245
                    have t265 : ((-11) : Int32).toInt = (-11) := rfl
                    exact hk _ _ _ _ _ (by first | assumption | (exact cp_0 (by omega) (by omega)) | (exact cp_1 (by omega) (by omega) (by omega)) | (exact cp_2 (by omega) (by omega) (by omega) (by omega) (by omega)) | (exact cp_3 (by omega) (by omega) (by omega) (by omega) (by omega) (by omega)) | (exact cp_4 (by omega) (by omega) (by omega) (by omega) (by omega) (by omega)) | omega)
        · skip
          have t266 := ine (a := p1.toInt) (b := 1) rfl rfl c138
          refine ⟨fun c267 => ?_, fun c267 => ?_⟩
          · skip
            have t268 := ieq (a := p1.toInt) (b := 2) rfl rfl c267
            obtain ⟨g269, g270, g271⟩ := Or.resolve_left hp10 (fun h9 => h9 (by omega))
            clear hp8 hp9 hp10 hp11
            refine ⟨ivp (a := p3.toInt) rfl (by omega) (by omega), ?_⟩
            refine ⟨fun c272 => ?_, fun c272 => ?_⟩
            · skip
              have t273 := ieq (a := p3.toInt) (b := 0) rfl rfl c272
              obtain ⟨g274, g275, g276⟩ := Or.resolve_left hp12 (fun h9 => h9 (by omega))
              clear hp12 hp13 hp14 hp15
              refine ⟨fun c277 => ?_, fun c277 => ?_⟩
              · skip
                have t278 := ieq (a := sheets2_isThere.toInt) (b := 0) rfl rfl c277
                have t279 : ((-11) : Int32).toInt = (-11) := rfl
                exact hk _ _ _ _ _ (by first | assumption | (exact cp_0 (by omega) (by omega)) | (exact cp_1 (by omega) (by omega) (by omega)) | (exact cp_2 (by omega) (by omega) (by omega) (by omega) (by omega)) | (exact cp_3 (by omega) (by omega) (by omega) (by omega) (by omega) (by omega)) | (exact cp_4 (by omega) (by omega) (by omega) (by omega) (by omega) (by omega)) | omega)
              · skip
                have t280 := ine (a := sheets2_isThere.toInt) (b := 0) rfl rfl c277
                refine ⟨fun c281 => ?_, fun c281 => ?_⟩
                · skip
                  have t282 := ine (a := sheets0_isThere.toInt) (b := 0) rfl rfl c281
                  refine ⟨fun c283 => ?_, fun c283 => ?_⟩
                  · skip
                    have t284 := ieq (a := sheets2_lane.toInt) (b := sheets0_lane.toInt) rfl rfl c283
                    refine s_X4_holds (by first | omega | assumption | (exact cp_0 (by omega) (by omega)) | (exact cp_1 (by omega) (by omega) (by omega)) | (exact cp_2 (by omega) (by omega) (by omega) (by omega) (by omega)) | (exact cp_3 (by omega) (by omega) (by omega) (by omega) (by omega) (by omega)) | (exact cp_4 (by omega) (by omega) (by omega) (by omega) (by omega) (by omega)) | exact AB.none (by omega) | exact AB.mono (by assumption) (by omega) (by omega) (by omega) (by omega) | exact RB.none (by omega) | exact RB.mono (by assumption) (by omega) | exact UB.none (by omega) | exact UB.mono (by assumption) (by omega) | exact EQ.none (by omega) | exact EQ.mono (by assumption) (by omega)) (by first | omega | assumption | (exact cp_0 (by omega) (by omega)) | (exact cp_1 (by omega) (by omega) (by omega)) | (exact cp_2 (by omega) (by omega) (by omega) (by omega) (by omega)) | (exact cp_3 (by omega) (by omega) (by omega) (by omega) (by omega) (by omega)) | (exact cp_4 (by omega) (by omega) (by omega) (by omega) (by omega) (by omega)) | exact AB.none (by omega) | exact AB.mono (by assumption) (by omega) (by omega) (by omega) (by omega) | exact RB.none (by omega) | exact RB.mono (by assumption) (by omega) | exact UB.none (by omega) | exact UB.mono (by assumption) (by omega) | exact EQ.none (by omega) | exact EQ.mono (by assumption) (by omega)) (fun r84 q285 => ?_)
                    refine ⟨fun c286 => ?_, fun c286 => ?_⟩
                    · skip
                      have t287 := ieq (a := r84.toInt) (b := 0) rfl rfl c286
                      rcases q285 with q285 | q285
                      · exfalso; omega
                      have t288 : ((-13) : Int32).toInt = (-13) := rfl
                      exact hk _ _ _ _ _ (by first | assumption | (exact cp_0 (by omega) (by omega)) | (exact cp_1 (by omega) (by omega) (by omega)) | (exact cp_2 (by omega) (by omega) (by omega) (by omega) (by omega)) | (exact cp_3 (by omega) (by omega) (by omega) (by omega) (by omega) (by omega)) | (exact cp_4 (by omega) (by omega) (by omega) (by omega) (by omega) (by omega)) | omega)
                    · skip
                      have t289 := ine (a := r84.toInt) (b := 0) rfl rfl c286
                      rcases q285.symm with q285 | q285
                      · exfalso; omega
                      refine s_X4_holds (by first | omega | assumption | (exact cp_0 (by omega) (by omega)) | (exact cp_1 (by omega) (by omega) (by omega)) | (exact cp_2 (by omega) (by omega) (by omega) (by omega) (by omega)) | (exact cp_3 (by omega) (by omega) (by omega) (by omega) (by omega) (by omega)) | (exact cp_4 (by omega) (by omega) (by omega) (by omega) (by omega) (by omega)) | exact AB.none (by omega) | exact AB.mono (by assumption) (by omega) (by omega) (by omega) (by omega) | exact RB.none (by omega) | exact RB.mono (by assumption) (by omega) | exact UB.none (by omega) | exact UB.mono (by assumption) (by omega) | exact EQ.none (by omega) | exact EQ.mono (by assumption) (by omega)) (by first | omega | assumption | (exact cp_0 (by omega) (by omega)) | (exact cp_1 (by omega) (by omega) (by omega)) | (exact cp_2 (by omega) (by omega) (by omega) (by omega) (by omega)) | (exact cp_3 (by omega) (by omega) (by omega) (by omega) (by omega) (by omega)) | (exact cp_4 (by omega) (by omega) (by omega) (by omega) (by omega) (by omega)) | exact AB.none (by omega) | exact AB.mono (by assumption) (by omega) (by omega) (by omega) (by omega) | exact RB.none (by omega) | exact RB.mono (by assumption) (by omega) | exact UB.none (by omega) | exact UB.mono (by assumption) (by omega) | exact EQ.none (by omega) | exact EQ.mono (by assumption) (by omega)) (fun r86 q290 => ?_)
                      refine ⟨fun c291 => ?_, fun c291 => ?_⟩
                      · skip
                        have t292 := ine (a := r86.toInt) (b := 0) rfl rfl c291
                        rcases q290.symm with q290 | q290
                        · exfalso; omega
                        have t293 : ((Int32.toNatClampNeg p2 : Nat) : Int) = p2.toInt := itn rfl (by omega)
                        have t294 : ((Int32.toNatClampNeg p4 : Nat) : Int) = p4.toInt := itn rfl (by omega)
                        have t295 : ((Int32.toNatClampNeg p5 : Nat) : Int) = p5.toInt := itn rfl (by omega)
                        refine ⟨fun h0 => absurd (ilt (a := p2.toInt) (b := 0) rfl rfl h0) (by omega), fun h0 => absurd (ilt (a := p4.toInt) (b := 0) rfl rfl h0) (by omega), fun h0 => absurd (ilt (a := p5.toInt) (b := 0) rfl rfl h0) (by omega), by omega, by omega, ?_⟩
                        intro f88 ef88
                        exact hk _ _ _ _ _ (by first | assumption | (exact cp_0 (by omega) (by omega)) | (exact cp_1 (by omega) (by omega) (by omega)) | (exact cp_2 (by omega) (by omega) (by omega) (by omega) (by omega)) | (exact cp_3 (by omega) (by omega) (by omega) (by omega) (by omega) (by omega)) | (exact cp_4 (by omega) (by omega) (by omega) (by omega) (by omega) (by omega)) | omega)
                      · skip
                        have t296 := ieq (a := r86.toInt) (b := 0) rfl rfl c291
                        rcases q290 with q290 | q290
                        · exfalso; omega
                        have t297 : ((-13) : Int32).toInt = (-13) := rfl
                        exact hk _ _ _ _ _ (by first | assumption | (exact cp_0 (by omega) (by omega)) | (exact cp_1 (by omega) (by omega) (by omega)) | (exact cp_2 (by omega) (by omega) (by omega) (by omega) (by omega)) | (exact cp_3 (by omega) (by omega) (by omega) (by omega) (by omega) (by omega)) | (exact cp_4 (by omega) (by omega) (by omega) (by omega) (by omega) (by omega)) | omega)
                  · skip
                    have t298 := ine (a := sheets2_lane.toInt) (b := sheets0_lane.toInt) rfl rfl c283
                    have t299 : ((-12) : Int32).toInt = (-12) := rfl
                    exact hk _ _ _ _ _ (by first | assumption | (exact cp_0 (by omega) (by omega)) | (exact cp_1 (by omega) (by omega) (by omega)) | (exact cp_2 (by omega) (by omega) (by omega) (by omega) (by omega)) | (exact cp_3 (by omega) (by omega) (by omega) (by omega) (by omega) (by omega)) | (exact cp_4 (by omega) (by omega) (by omega) (by omega) (by omega) (by omega)) | omega)
                · skip
                  have t300 := ieq (a := sheets0_isThere.toInt) (b := 0) rfl rfl c281
                  have t301 : ((-11) : Int32).toInt = (-11) := rfl
                  exact hk _ _ _ _ _ (by first | assumption | (exact cp_0 (by omega) (by omega)) | (exact cp_1 (by omega) (by omega) (by omega)) | (exact cp_2 (by omega) (by omega) (by omega) (by omega) (by omega)) | (exact cp_3 (by omega) (by omega) (by omega) (by omega) (by omega) (by omega)) | (exact cp_4 (by omega) (by omega) (by omega) (by omega) (by omega) (by omega)) | omega)
            · skip
              have t302 := ine (a := p3.toInt) (b := 0) rfl rfl c272
              refine ⟨fun c303 => ?_, fun c303 => ?_⟩
              · skip
                have t304 := ieq (a := p3.toInt) (b := 1) rfl rfl c303
                obtain ⟨g305, g306, g307⟩ := Or.resolve_left hp13 (fun h9 => h9 (by omega))
                clear hp12 hp13 hp14 hp15
                refine ⟨fun c308 => ?_, fun c308 => ?_⟩
                · skip
                  have t309 := ieq (a := sheets2_isThere.toInt) (b := 0) rfl rfl c308
                  have t310 : ((-11) : Int32).toInt = (-11) := rfl
                  exact hk _ _ _ _ _ (by first | assumption | (exact cp_0 (by omega) (by omega)) | (exact cp_1 (by omega) (by omega) (by omega)) | (exact cp_2 (by omega) (by omega) (by omega) (by omega) (by omega)) | (exact cp_3 (by omega) (by omega) (by omega) (by omega) (by omega) (by omega)) | (exact cp_4 (by omega) (by omega) (by omega) (by omega) (by omega) (by omega)) | omega)
                · skip
                  have t311 := ine (a := sheets2_isThere.toInt) (b := 0) rfl rfl c308
                  refine ⟨fun c312 => ?_, fun c312 => ?_⟩
                  · skip
                    have t313 := ine (a := sheets1_isThere.toInt) (b := 0) rfl rfl c312
                    refine ⟨fun c314 => ?_, fun c314 => ?_⟩
                    · skip
                      have t315 := ieq (a := sheets2_lane.toInt) (b := sheets1_lane.toInt) rfl rfl c314
                      refine s_X4_holds (by first | omega | assumption | (exact cp_0 (by omega) (by omega)) | (exact cp_1 (by omega) (by omega) (by omega)) | (exact cp_2 (by omega) (by omega) (by omega) (by omega) (by omega)) | (exact cp_3 (by omega) (by omega) (by omega) (by omega) (by omega) (by omega)) | (exact cp_4 (by omega) (by omega) (by omega) (by omega) (by omega) (by omega)) | exact AB.none (by omega) | exact AB.mono (by assumption) (by omega) (by omega) (by omega) (by omega) | exact RB.none (by omega) | exact RB.mono (by assumption) (by omega) | exact UB.none (by omega) | exact UB.mono (by assumption) (by omega) | exact EQ.none (by omega) | exact EQ.mono (by assumption) (by omega)) (by first | omega | assumption | (exact cp_0 (by omega) (by omega)) | (exact cp_1 (by omega) (by omega) (by omega)) | (exact cp_2 (by omega) (by omega) (by omega) (by omega) (by omega)) | (exact cp_3 (by omega) (by omega) (by omega) (by omega) (by omega) (by omega)) | (exact cp_4 (by omega) (by omega) (by omega) (by omega) (by omega) (by omega)) | exact AB.none (by omega) | exact AB.mono (by assumption) (by omega) (by omega) (by omega) (by omega) | exact RB.none (by omega) | exact RB.mono (by assumption) (by omega) | exact UB.none (by omega) | exact UB.mono (by assumption) (by omega) | exact EQ.none (by omega) | exact EQ.mono (by assumption) (by omega)) (fun r93 q316 => ?_)
                      refine ⟨fun c317 => ?_, fun c317 => ?_⟩
                      · skip
                        have t318 := ieq (a := r93.toInt) (b := 0) rfl rfl c317
                        rcases q316 with q316 | q316
                        · exfalso; omega
                        have t319 : ((-13) : Int32).toInt = (-13) := rfl
                        exact hk _ _ _ _ _ (by first | assumption | (exact cp_0 (by omega) (by omega)) | (exact cp_1 (by omega) (by omega) (by omega)) | (exact cp_2 (by omega) (by omega) (by omega) (by omega) (by omega)) | (exact cp_3 (by omega) (by omega) (by omega) (by omega) (by omega) (by omega)) | (exact cp_4 (by omega) (by omega) (by omega) (by omega) (by omega) (by omega)) | omega)
                      · skip
                        have t320 := ine (a := r93.toInt) (b := 0) rfl rfl c317
                        rcases q316.symm with q316 | q316
                        · exfalso; omega
                        refine s_X4_holds (by first | omega | assumption | (exact cp_0 (by omega) (by omega)) | (exact cp_1 (by omega) (by omega) (by omega)) | (exact cp_2 (by omega) (by omega) (by omega) (by omega) (by omega)) | (exact cp_3 (by omega) (by omega) (by omega) (by omega) (by omega) (by omega)) | (exact cp_4 (by omega) (by omega) (by omega) (by omega) (by omega) (by omega)) | exact AB.none (by omega) | exact AB.mono (by assumption) (by omega) (by omega) (by omega) (by omega) | exact RB.none (by omega) | exact RB.mono (by assumption) (by omega) | exact UB.none (by omega) | exact UB.mono (by assumption) (by omega) | exact EQ.none (by omega) | exact EQ.mono (by assumption) (by omega)) (by first | omega | assumption | (exact cp_0 (by omega) (by omega)) | (exact cp_1 (by omega) (by omega) (by omega)) | (exact cp_2 (by omega) (by omega) (by omega) (by omega) (by omega)) | (exact cp_3 (by omega) (by omega) (by omega) (by omega) (by omega) (by omega)) | (exact cp_4 (by omega) (by omega) (by omega) (by omega) (by omega) (by omega)) | exact AB.none (by omega) | exact AB.mono (by assumption) (by omega) (by omega) (by omega) (by omega) | exact RB.none (by omega) | exact RB.mono (by assumption) (by omega) | exact UB.none (by omega) | exact UB.mono (by assumption) (by omega) | exact EQ.none (by omega) | exact EQ.mono (by assumption) (by omega)) (fun r95 q321 => ?_)
                        refine ⟨fun c322 => ?_, fun c322 => ?_⟩
                        · skip
                          have t323 := ine (a := r95.toInt) (b := 0) rfl rfl c322
                          rcases q321.symm with q321 | q321
                          · exfalso; omega
                          have t324 : ((Int32.toNatClampNeg p2 : Nat) : Int) = p2.toInt := itn rfl (by omega)
                          have t325 : ((Int32.toNatClampNeg p4 : Nat) : Int) = p4.toInt := itn rfl (by omega)
                          have t326 : ((Int32.toNatClampNeg p5 : Nat) : Int) = p5.toInt := itn rfl (by omega)
                          refine ⟨fun h0 => absurd (ilt (a := p2.toInt) (b := 0) rfl rfl h0) (by omega), fun h0 => absurd (ilt (a := p4.toInt) (b := 0) rfl rfl h0) (by omega), fun h0 => absurd (ilt (a := p5.toInt) (b := 0) rfl rfl h0) (by omega), by omega, by omega, ?_⟩
                          intro f97 ef97
                          exact hk _ _ _ _ _ (by first | assumption | (exact cp_0 (by omega) (by omega)) | (exact cp_1 (by omega) (by omega) (by omega)) | (exact cp_2 (by omega) (by omega) (by omega) (by omega) (by omega)) | (exact cp_3 (by omega) (by omega) (by omega) (by omega) (by omega) (by omega)) | (exact cp_4 (by omega) (by omega) (by omega) (by omega) (by omega) (by omega)) | omega)
                        · skip
                          have t327 := ieq (a := r95.toInt) (b := 0) rfl rfl c322
                          rcases q321 with q321 | q321
                          · exfalso; omega
                          have t328 : ((-13) : Int32).toInt = (-13) := rfl
                          exact hk _ _ _ _ _ (by first | assumption | (exact cp_0 (by omega) (by omega)) | (exact cp_1 (by omega) (by omega) (by omega)) | (exact cp_2 (by omega) (by omega) (by omega) (by omega) (by omega)) | (exact cp_3 (by omega) (by omega) (by omega) (by omega) (by omega) (by omega)) | (exact cp_4 (by omega) (by omega) (by omega) (by omega) (by omega) (by omega)) | omega)
                    · skip
                      have t329 := ine (a := sheets2_lane.toInt) (b := sheets1_lane.toInt) rfl rfl c314
                      have t330 : ((-12) : Int32).toInt = (-12) := rfl
                      exact hk _ _ _ _ _ (by first | assumption | (exact cp_0 (by omega) (by omega)) | (exact cp_1 (by omega) (by omega) (by omega)) | (exact cp_2 (by omega) (by omega) (by omega) (by omega) (by omega)) | (exact cp_3 (by omega) (by omega) (by omega) (by omega) (by omega) (by omega)) | (exact cp_4 (by omega) (by omega) (by omega) (by omega) (by omega) (by omega)) | omega)
                  · skip
                    have t331 := ieq (a := sheets1_isThere.toInt) (b := 0) rfl rfl c312
                    have t332 : ((-11) : Int32).toInt = (-11) := rfl
                    exact hk _ _ _ _ _ (by first | assumption | (exact cp_0 (by omega) (by omega)) | (exact cp_1 (by omega) (by omega) (by omega)) | (exact cp_2 (by omega) (by omega) (by omega) (by omega) (by omega)) | (exact cp_3 (by omega) (by omega) (by omega) (by omega) (by omega) (by omega)) | (exact cp_4 (by omega) (by omega) (by omega) (by omega) (by omega) (by omega)) | omega)
              · skip
                have t333 := ine (a := p3.toInt) (b := 1) rfl rfl c303
                refine ⟨fun c334 => ?_, fun c334 => ?_⟩
                · skip
                  have t335 := ieq (a := p3.toInt) (b := 2) rfl rfl c334
                  obtain ⟨g336, g337, g338⟩ := Or.resolve_left hp14 (fun h9 => h9 (by omega))
                  clear hp12 hp13 hp14 hp15
                  refine ⟨fun c339 => ?_, fun c339 => ?_⟩
                  · skip
                    have t340 := ieq (a := sheets2_isThere.toInt) (b := 0) rfl rfl c339
                    have t341 : ((-11) : Int32).toInt = (-11) := rfl
                    exact hk _ _ _ _ _ (by first | assumption | (exact cp_0 (by omega) (by omega)) | (exact cp_1 (by omega) (by omega) (by omega)) | (exact cp_2 (by omega) (by omega) (by omega) (by omega) (by omega)) | (exact cp_3 (by omega) (by omega) (by omega) (by omega) (by omega) (by omega)) | (exact cp_4 (by omega) (by omega) (by omega) (by omega) (by omega) (by omega)) | omega)
                  · skip
                    have t342 := ine (a := sheets2_isThere.toInt) (b := 0) rfl rfl c339
                    refine ⟨fun c343 => ?_, fun c343 => ?_⟩
                    · skip
                      have t344 := ine (a := sheets2_isThere.toInt) (b := 0) rfl rfl c343
                      refine ⟨fun c345 => ?_, fun c345 => ?_⟩
                      · skip
                        have t346 := ieq (a := sheets2_lane.toInt) (b := sheets2_lane.toInt) rfl rfl c345
                        refine s_X4_holds (by first | omega | assumption | (exact cp_0 (by omega) (by omega)) | (exact cp_1 (by omega) (by omega) (by omega)) | (exact cp_2 (by omega) (by omega) (by omega) (by omega) (by omega)) | (exact cp_3 (by omega) (by omega) (by omega) (by omega) (by omega) (by omega)) | (exact cp_4 (by omega) (by omega) (by omega) (by omega) (by omega) (by omega)) | exact AB.none (by omega) | exact AB.mono (by assumption) (by omega) (by omega) (by omega) (by omega) | exact RB.none (by omega) | exact RB.mono (by assumption) (by omega) | exact UB.none (by omega) | exact UB.mono (by assumption) (by omega) | exact EQ.none (by omega) | exact EQ.mono (by assumption) (by omega)) (by first | omega | assumption | (exact cp_0 (by omega) (by omega)) | (exact cp_1 (by omega) (by omega) (by omega)) | (exact cp_2 (by omega) (by omega) (by omega) (by omega) (by omega)) | (exact cp_3 (by omega) (by omega) (by omega) (by omega) (by omega) (by omega)) | (exact cp_4 (by omega) (by omega) (by omega) (by omega) (by omega) (by omega)) | exact AB.none (by omega) | exact AB.mono (by assumption) (by omega) (by omega) (by omega) (by omega) | exact RB.none (by omega) | exact RB.mono (by assumption) (by omega) | exact UB.none (by omega) | exact UB.mono (by assumption) (by omega) | exact EQ.none (by omega) | exact EQ.mono (by assumption) (by omega)) (fun r102 q347 => ?_)
                        refine ⟨fun c348 => ?_, fun c348 => ?_⟩
                        · skip
                          have t349 := ieq (a := r102.toInt) (b := 0) rfl rfl c348
                          rcases q347 with q347 | q347
                          · exfalso; omega
                          have t350 : ((-13) : Int32).toInt = (-13) := rfl
                          exact hk _ _ _ _ _ (by first | assumption | (exact cp_0 (by omega) (by omega)) | (exact cp_1 (by omega) (by omega) (by omega)) | (exact cp_2 (by omega) (by omega) (by omega) (by omega) (by omega)) | (exact cp_3 (by omega) (by omega) (by omega) (by omega) (by omega) (by omega)) | (exact cp_4 (by omega) (by omega) (by omega) (by omega) (by omega) (by omega)) | omega)
                        · skip
                          have t351 := ine (a := r102.toInt) (b := 0) rfl rfl c348
                          rcases q347.symm with q347 | q347
                          · exfalso; omega
                          refine s_X4_holds (by first | omega | assumption | (exact cp_0 (by omega) (by omega)) | (exact cp_1 (by omega) (by omega) (by omega)) | (exact cp_2 (by omega) (by omega) (by omega) (by omega) (by omega)) | (exact cp_3 (by omega) (by omega) (by omega) (by omega) (by omega) (by omega)) | (exact cp_4 (by omega) (by omega) (by omega) (by omega) (by omega) (by omega)) | exact AB.none (by omega) | exact AB.mono (by assumption) (by omega) (by omega) (by omega) (by omega) | exact RB.none (by omega) | exact RB.mono (by assumption) (by omega) | exact UB.none (by omega) | exact UB.mono (by assumption) (by omega) | exact EQ.none (by omega) | exact EQ.mono (by assumption) (by omega)) (by first | omega | assumption | (exact cp_0 (by omega) (by omega)) | (exact cp_1 (by omega) (by omega) (by omega)) | (exact cp_2 (by omega) (by omega) (by omega) (by omega) (by omega)) | (exact cp_3 (by omega) (by omega) (by omega) (by omega) (by omega) (by omega)) | (exact cp_4 (by omega) (by omega) (by omega) (by omega) (by omega) (by omega)) | exact AB.none (by omega) | exact AB.mono (by assumption) (by omega) (by omega) (by omega) (by omega) | exact RB.none (by omega) | exact RB.mono (by assumption) (by omega) | exact UB.none (by omega) | exact UB.mono (by assumption) (by omega) | exact EQ.none (by omega) | exact EQ.mono (by assumption) (by omega)) (fun r104 q352 => ?_)
                          refine ⟨fun c353 => ?_, fun c353 => ?_⟩
                          · skip
                            have t354 := ine (a := r104.toInt) (b := 0) rfl rfl c353
                            rcases q352.symm with q352 | q352
                            · exfalso; omega
                            have t355 : ((Int32.toNatClampNeg p2 : Nat) : Int) = p2.toInt := itn rfl (by omega)
                            have t356 : ((Int32.toNatClampNeg p4 : Nat) : Int) = p4.toInt := itn rfl (by omega)
                            have t357 : ((Int32.toNatClampNeg p5 : Nat) : Int) = p5.toInt := itn rfl (by omega)
                            refine ⟨fun h0 => absurd (ilt (a := p2.toInt) (b := 0) rfl rfl h0) (by omega), fun h0 => absurd (ilt (a := p4.toInt) (b := 0) rfl rfl h0) (by omega), fun h0 => absurd (ilt (a := p5.toInt) (b := 0) rfl rfl h0) (by omega), by omega, by omega, ?_⟩
                            intro f106 ef106
                            exact hk _ _ _ _ _ (by first | assumption | (exact cp_0 (by omega) (by omega)) | (exact cp_1 (by omega) (by omega) (by omega)) | (exact cp_2 (by omega) (by omega) (by omega) (by omega) (by omega)) | (exact cp_3 (by omega) (by omega) (by omega) (by omega) (by omega) (by omega)) | (exact cp_4 (by omega) (by omega) (by omega) (by omega) (by omega) (by omega)) | omega)
                          · skip
                            have t358 := ieq (a := r104.toInt) (b := 0) rfl rfl c353
                            rcases q352 with q352 | q352
                            · exfalso; omega
                            have t359 : ((-13) : Int32).toInt = (-13) := rfl
                            exact hk _ _ _ _ _ (by first | assumption | (exact cp_0 (by omega) (by omega)) | (exact cp_1 (by omega) (by omega) (by omega)) | (exact cp_2 (by omega) (by omega) (by omega) (by omega) (by omega)) | (exact cp_3 (by omega) (by omega) (by omega) (by omega) (by omega) (by omega)) | (exact cp_4 (by omega) (by omega) (by omega) (by omega) (by omega) (by omega)) | omega)
                      · skip
                        have t360 := ine (a := sheets2_lane.toInt) (b := sheets2_lane.toInt) rfl rfl c345
                        have t361 : ((-12) : Int32).toInt = (-12) := rfl
                        exact hk _ _ _ _ _ (by first | assumption | (exact cp_0 (by omega) (by omega)) | (exact cp_1 (by omega) (by omega) (by omega)) | (exact cp_2 (by omega) (by omega) (by omega) (by omega) (by omega)) | (exact cp_3 (by omega) (by omega) (by omega) (by omega) (by omega) (by omega)) | (exact cp_4 (by omega) (by omega) (by omega) (by omega) (by omega) (by omega)) | omega)
                    · skip
                      have t362 := ieq (a := sheets2_isThere.toInt) (b := 0) rfl rfl c343
                      have t363 : ((-11) : Int32).toInt = (-11) := rfl
                      exact hk _ _ _ _ _ (by first | assumption | (exact cp_0 (by omega) (by omega)) | (exact cp_1 (by omega) (by omega) (by omega)) | (exact cp_2 (by omega) (by omega) (by omega) (by omega) (by omega)) | (exact cp_3 (by omega) (by omega) (by omega) (by omega) (by omega) (by omega)) | (exact cp_4 (by omega) (by omega) (by omega) (by omega) (by omega) (by omega)) | omega)
                · skip
                  have t364 := ine (a := p3.toInt) (b := 2) rfl rfl c334
                  obtain ⟨g365, g366, g367⟩ := Or.resolve_left hp15 (fun h9 => h9 (by omega))
                  clear hp12 hp13 hp14 hp15
                  intro c368
                  have t369 := ieq (a := p3.toInt) (b := 3) rfl rfl c368
                  refine ⟨fun c370 => ?_, fun c370 => ?_⟩
                  · skip
                    have t371 := ieq (a := sheets2_isThere.toInt) (b := 0) rfl rfl c370
                    have t372 : ((-11) : Int32).toInt = (-11) := rfl
                    exact hk _ _ _ _ _ (by first | assumption | (exact cp_0 (by omega) (by omega)) | (exact cp_1 (by omega) (by omega) (by omega)) | (exact cp_2 (by omega) (by omega) (by omega) (by omega) (by omega)) | (exact cp_3 (by omega) (by omega) (by omega) (by omega) (by omega) (by omega)) | (exact cp_4 (by omega) (by omega) (by omega) (by omega) (by omega) (by omega)) | omega)
                  · skip
                    have t373 := ine (a := sheets2_isThere.toInt) (b := 0) rfl rfl c370
                    refine ⟨fun c374 => ?_, fun c374 => ?_⟩
                    · skip
                      have t375 := ine (a := sheets3_isThere.toInt) (b := 0) rfl rfl c374
                      refine ⟨fun c376 => ?_, fun c376 => ?_⟩
                      · skip
                        have t377 := ieq (a := sheets2_lane.toInt) (b := sheets3_lane.toInt) rfl rfl c376
                        refine s_X4_holds (by first | omega | assumption | (exact cp_0 (by omega) (by omega)) | (exact cp_1 (by omega) (by omega) (by omega)) | (exact cp_2 (by omega) (by omega) (by omega) (by omega) (by omega)) | (exact cp_3 (by omega) (by omega) (by omega) (by omega) (by omega) (by omega)) | (exact cp_4 (by omega) (by omega) (by omega) (by omega) (by omega) (by omega)) | exact AB.none (by omega) | exact AB.mono (by assumption) (by omega) (by omega) (by omega) (by omega) | exact RB.none (by omega) | exact RB.mono (by assumption) (by omega) | exact UB.none (by omega) | exact UB.mono (by assumption) (by omega) | exact EQ.none (by omega) | exact EQ.mono (by assumption) (by omega)) (by first | omega | assumption | (exact cp_0 (by omega) (by omega)) | (exact cp_1 (by omega) (by omega) (by omega)) | (exact cp_2 (by omega) (by omega) (by omega) (by omega) (by omega)) | (exact cp_3 (by omega) (by omega) (by omega) (by omega) (by omega) (by omega)) | (exact cp_4 (by omega) (by omega) (by omega) (by omega) (by omega) (by omega)) | exact AB.none (by omega) | exact AB.mono (by assumption) (by omega) (by omega) (by omega) (by omega) | exact RB.none (by omega) | exact RB.mono (by assumption) (by omega) | exact UB.none (by omega) | exact UB.mono (by assumption) (by omega) | exact EQ.none (by omega) | exact EQ.mono (by assumption) (by omega)) (fun r111 q378 => ?_)
                        refine ⟨fun c379 => ?_, fun c379 => ?_⟩
                        · skip
                          have t380 := ieq (a := r111.toInt) (b := 0) rfl rfl c379
                          rcases q378 with q378 | q378
                          · exfalso; omega
                          have t381 : ((-13) : Int32).toInt = (-13) := rfl
                          exact hk _ _ _ _ _ (by first | assumption | (exact cp_0 (by omega) (by omega)) | (exact cp_1 (by omega) (by omega) (by omega)) | (exact cp_2 (by omega) (by omega) (by omega) (by omega) (by omega)) | (exact cp_3 (by omega) (by omega) (by omega) (by omega) (by omega) (by omega)) | (exact cp_4 (by omega) (by omega) (by omega) (by omega) (by omega) (by omega)) | omega)
                        · skip
                          have t382 := ine (a := r111.toInt) (b := 0) rfl rfl c379
                          rcases q378.symm with q378 | q378
                          · exfalso; omega
                          refine s_X4_holds (by first | omega | assumption | (exact cp_0 (by omega) (by omega)) | (exact cp_1 (by omega) (by omega) (by omega)) | (exact cp_2 (by omega) (by omega) (by omega) (by omega) (by omega)) | (exact cp_3 (by omega) (by omega) (by omega) (by omega) (by omega) (by omega)) | (exact cp_4 (by omega) (by omega) (by omega) (by omega) (by omega) (by omega)) | exact AB.none (by omega) | exact AB.mono (by assumption) (by omega) (by omega) (by omega) (by omega) | exact RB.none (by omega) | exact RB.mono (by assumption) (by omega) | exact UB.none (by omega) | exact UB.mono (by assumption) (by omega) | exact EQ.none (by omega) | exact EQ.mono (by assumption) (by omega)) (by first | omega | assumption | (exact cp_0 (by omega) (by omega)) | (exact cp_1 (by omega) (by omega) (by omega)) | (exact cp_2 (by omega) (by omega) (by omega) (by omega) (by omega)) | (exact cp_3 (by omega) (by omega) (by omega) (by omega) (by omega) (by omega)) | (exact cp_4 (by omega) (by omega) (by omega) (by omega) (by omega) (by omega)) | exact AB.none (by omega) | exact AB.mono (by assumption) (by omega) (by omega) (by omega) (by omega) | exact RB.none (by omega) | exact RB.mono (by assumption) (by omega) | exact UB.none (by omega) | exact UB.mono (by assumption) (by omega) | exact EQ.none (by omega) | exact EQ.mono (by assumption) (by omega)) (fun r113 q383 => ?_)
                          refine ⟨fun c384 => ?_, fun c384 => ?_⟩
                          · skip
                            have t385 := ine (a := r113.toInt) (b := 0) rfl rfl c384
                            rcases q383.symm with q383 | q383
                            · exfalso; omega
                            have t386 : ((Int32.toNatClampNeg p2 : Nat) : Int) = p2.toInt := itn rfl (by omega)
                            have t387 : ((Int32.toNatClampNeg p4 : Nat) : Int) = p4.toInt := itn rfl (by omega)
                            have t388 : ((Int32.toNatClampNeg p5 : Nat) : Int) = p5.toInt := itn rfl (by omega)
                            refine ⟨fun h0 => absurd (ilt (a := p2.toInt) (b := 0) rfl rfl h0) (by omega), fun h0 => absurd (ilt (a := p4.toInt) (b := 0) rfl rfl h0) (by omega), fun h0 => absurd (ilt (a := p5.toInt) (b := 0) rfl rfl h0) (by omega), by omega, by omega, ?_⟩
                            intro f115 ef115
                            exact hk _ _ _ _ _ (by first | assumption | (exact cp_0 (by omega) (by omega)) | (exact cp_1 (by omega) (by omega) (by omega)) | (exact cp_2 (by omega) (by omega) (by omega) (by omega) (by omega)) | (exact cp_3 (by omega) (by omega) (by omega) (by omega) (by omega) (by omega)) | (exact cp_4 (by omega) (by omega) (by omega) (by omega) (by omega) (by omega)) | omega)
                          · skip
                            have t389 := ieq (a := r113.toInt) (b := 0) rfl rfl c384
                            rcases q383 with q383 | q383
                            · exfalso; omega
                            have t390 : ((-13) : Int32).toInt = (-13) := rfl
                            exact hk _ _ _ _ _ (by first | assumption | (exact cp_0 (by omega) (by omega)) | (exact cp_1 (by omega) (by omega) (by omega)) | (exact cp_2 (by omega) (by omega) (by omega) (by omega) (by omega)) | (exact cp_3 (by omega) (by omega) (by omega) (by omega) (by omega) (by omega)) | (exact cp_4 (by omega) (by omega) (by omega) (by omega) (by omega) (by omega)) | omega)
                      · skip
                        have t391 := ine (a := sheets2_lane.toInt) (b := sheets3_lane.toInt) rfl rfl c376
                        have t392 : ((-12) : Int32).toInt = (-12) := rfl
                        exact hk _ _ _ _ _ (by first | assumption | (exact cp_0 (by omega) (by omega)) | (exact cp_1 (by omega) (by omega) (by omega)) | (exact cp_2 (by omega) (by omega) (by omega) (by omega) (by omega)) | (exact cp_3 (by omega) (by omega) (by omega) (by omega) (by omega) (by omega)) | (exact cp_4 (by omega) (by omega) (by omega) (by omega) (by omega) (by omega)) | omega)
                    · skip
                      have t393 := ieq (a := sheets3_isThere.toInt) (b := 0) rfl rfl c374
                      have t394 : ((-11) : Int32).toInt = (-11) := rfl
                      exact hk _ _ _ _ _ (by first | assumption | (exact cp_0 (by omega) (by omega)) | (exact cp_1 (by omega) (by omega) (by omega)) | (exact cp_2 (by omega) (by omega) (by omega) (by omega) (by omega)) | (exact cp_3 (by omega) (by omega) (by omega) (by omega) (by omega) (by omega)) | (exact cp_4 (by omega) (by omega) (by omega) (by omega) (by omega) (by omega)) | omega)
          · skip
            have t395 := ine (a := p1.toInt) (b := 2) rfl rfl c267
            obtain ⟨g396, g397, g398⟩ := Or.resolve_left hp11 (fun h9 => h9 (by omega))
            clear hp8 hp9 hp10 hp11
            intro c399
            have t400 := ieq (a := p1.toInt) (b := 3) rfl rfl c399
            refine ⟨ivp (a := p3.toInt) rfl (by omega) (by omega), ?_⟩
            refine ⟨fun c401 => ?_, fun c401 => ?_⟩
            · skip
              have t402 := ieq (a := p3.toInt) (b := 0) rfl rfl c401
              obtain ⟨g403, g404, g405⟩ := Or.resolve_left hp12 (fun h9 => h9 (by omega))
              clear hp12 hp13 hp14 hp15
              refine ⟨fun c406 => ?_, fun c406 => ?_⟩
              · skip
                have t407 := ieq (a := sheets3_isThere.toInt) (b := 0) rfl rfl c406
                have t408 : ((-11) : Int32).toInt = (-11) := rfl
                exact hk _ _ _ _ _ (by first | assumption | (exact cp_0 (by omega) (by omega)) | (exact cp_1 (by omega) (by omega) (by omega)) | (exact cp_2 (by omega) (by omega) (by omega) (by omega) (by omega)) | (exact cp_3 (by omega) (by omega) (by omega) (by omega) (by omega) (by omega)) | (exact cp_4 (by omega) (by omega) (by omega) (by omega) (by omega) (by omega)) | omega)
              · skip
                have t409 := ine (a := sheets3_isThere.toInt) (b := 0) rfl rfl c406
                refine ⟨fun c410 => ?_, fun c410 => ?_⟩
                · skip
                  have t411 := ine (a := sheets0_isThere.toInt) (b := 0) rfl rfl c410
                  refine ⟨fun c412 => ?_, fun c412 => ?_⟩
                  · skip
                    have t413 := ieq (a := sheets3_lane.toInt) (b := sheets0_lane.toInt) rfl rfl c412
                    refine s_X4_holds (by first | omega | assumption | (exact cp_0 (by omega) (by omega)) | (exact cp_1 (by omega) (by omega) (by omega)) | (exact cp_2 (by omega) (by omega) (by omega) (by omega) (by omega)) | (exact cp_3 (by omega) (by omega) (by omega) (by omega) (by omega) (by omega)) | (exact cp_4 (by omega) (by omega) (by omega) (by omega) (by omega) (by omega)) | exact AB.none (by omega) | exact AB.mono (by assumption) (by omega) (by omega) (by omega) (by omega) | exact RB.none (by omega) | exact RB.mono (by assumption) (by omega) | exact UB.none (by omega) | exact UB.mono (by assumption) (by omega) | exact EQ.none (by omega) | exact EQ.mono (by assumption) (by omega)) (by first | omega | assumption | (exact cp_0 (by omega) (by omega)) | (exact cp_1 (by omega) (by omega) (by omega)) | (exact cp_2 (by omega) (by omega) (by omega) (by omega) (by omega)) | (exact cp_3 (by omega) (by omega) (by omega) (by omega) (by omega) (by omega)) | (exact cp_4 (by omega) (by omega) (by omega) (by omega) (by omega) (by omega)) | exact AB.none (by omega) | exact AB.mono (by assumption) (by omega) (by omega) (by omega) (by omega) | exact RB.none (by omega) | exact RB.mono (by assumption) (by omega) | exact UB.none (by omega) | exact UB.mono (by assumption) (by omega) | exact EQ.none (by omega) | exact EQ.mono (by assumption) (by omega)) (fun r121 q414 => ?_)
                    refine ⟨fun c415 => ?_, fun c415 => ?_⟩
                    · skip
                      have t416 := ieq (a := r121.toInt) (b := 0) rfl rfl c415
                      rcases q414 with q414 | q414
                      · exfalso; omega
                      have t417 : ((-13) : Int32).toInt = (-13) := rfl
                      exact hk _ _ _ _ _ (by first | assumption | (exact cp_0 (by omega) (by omega)) | (exact cp_1 (by omega) (by omega) (by omega)) | (exact cp_2 (by omega) (by omega) (by omega) (by omega) (by omega)) | (exact cp_3 (by omega) (by omega) (by omega) (by omega) (by omega) (by omega)) | (exact cp_4 (by omega) (by omega) (by omega) (by omega) (by omega) (by omega)) | omega)
                    · skip
                      have t418 := ine (a := r121.toInt) (b := 0) rfl rfl c415
                      rcases q414.symm with q414 | q414
                      · exfalso; omega
                      refine s_X4_holds (by first | omega | assumption | (exact cp_0 (by omega) (by omega)) | (exact cp_1 (by omega) (by omega) (by omega)) | (exact cp_2 (by omega) (by omega) (by omega) (by omega) (by omega)) | (exact cp_3 (by omega) (by omega) (by omega) (by omega) (by omega) (by omega)) | (exact cp_4 (by omega) (by omega) (by omega) (by omega) (by omega) (by omega)) | exact AB.none (by omega) | exact AB.mono (by assumption) (by omega) (by omega) (by omega) (by omega) | exact RB.none (by omega) | exact RB.mono (by assumption) (by omega) | exact UB.none (by omega) | exact UB.mono (by assumption) (by omega) | exact EQ.none (by omega) | exact EQ.mono (by assumption) (by omega)) (by first | omega | assumption | (exact cp_0 (by omega) (by omega)) | (exact cp_1 (by omega) (by omega) (by omega)) | (exact cp_2 (by omega) (by omega) (by omega) (by omega) (by omega)) | (exact cp_3 (by omega) (by omega) (by omega) (by omega) (by omega) (by omega)) | (exact cp_4 (by omega) (by omega) (by omega) (by omega) (by omega) (by omega)) | exact AB.none (by omega) | exact AB.mono (by assumption) (by omega) (by omega) (by omega) (by omega) | exact RB.none (by omega) | exact RB.mono (by assumption) (by omega) | exact UB.none (by omega) | exact UB.mono (by assumption) (by omega) | exact EQ.none (by omega) | exact EQ.mono (by assumption) (by omega)) (fun r123 q419 => ?_)
                      refine ⟨fun c420 => ?_, fun c420 => ?_⟩
                      · skip
                        have t421 := ine (a := r123.toInt) (b := 0) rfl rfl c420
                        rcases q419.symm with q419 | q419
                        · exfalso; omega
                        have t422 : ((Int32.toNatClampNeg p2 : Nat) : Int) = p2.toInt := itn rfl (by omega)
                        have t423 : ((Int32.toNatClampNeg p4 : Nat) : Int) = p4.toInt := itn rfl (by omega)
                        have t424 : ((Int32.toNatClampNeg p5 : Nat) : Int) = p5.toInt := itn rfl (by omega)
                        refine ⟨fun h0 => absurd (ilt (a := p2.toInt) (b := 0) rfl rfl h0) (by omega), fun h0 => absurd (ilt (a := p4.toInt) (b := 0) rfl rfl h0) (by omega), fun h0 => absurd (ilt (a := p5.toInt) (b := 0) rfl rfl h0) (by omega), by omega, by omega, ?_⟩
                        intro f125 ef125
                        exact hk _ _ _ _ _ (by first | assumption | (exact cp_0 (by omega) (by omega)) | (exact cp_1 (by omega) (by omega) (by omega)) | (exact cp_2 (by omega) (by omega) (by omega) (by omega) (by omega)) | (exact cp_3 (by omega) (by omega) (by omega) (by omega) (by omega) (by omega)) | (exact cp_4 (by omega) (by omega) (by omega) (by omega) (by omega) (by omega)) | omega)
                      · skip
                        have t425 := ieq (a := r123.toInt) (b := 0) rfl rfl c420
                        rcases q419 with q419 | q419
                        · exfalso; omega
                        have t426 : ((-13) : Int32).toInt = (-13) := rfl
                        exact hk _ _ _ _ _ (by first | assumption | (exact cp_0 (by omega) (by omega)) | (exact cp_1 (by omega) (by omega) (by omega)) | (exact cp_2 (by omega) (by omega) (by omega) (by omega) (by omega)) | (exact cp_3 (by omega) (by omega) (by omega) (by omega) (by omega) (by omega)) | (exact cp_4 (by omega) (by omega) (by omega) (by omega) (by omega) (by omega)) | omega)
                  · skip
                    have t427 := ine (a := sheets3_lane.toInt) (b := sheets0_lane.toInt) rfl rfl c412
                    have t428 : ((-12) : Int32).toInt = (-12) := rfl
                    exact hk _ _ _ _ _ (by first | assumption | (exact cp_0 (by omega) (by omega)) | (exact cp_1 (by omega) (by omega) (by omega)) | (exact cp_2 (by omega) (by omega) (by omega) (by omega) (by omega)) | (exact cp_3 (by omega) (by omega) (by omega) (by omega) (by omega) (by omega)) | (exact cp_4 (by omega) (by omega) (by omega) (by omega) (by omega) (by omega)) | omega)
                · skip
                  have t429 := ieq (a := sheets0_isThere.toInt) (b := 0) rfl rfl c410
                  have t430 : ((-11) : Int32).toInt = (-11) := rfl
                  exact hk _ _ _ _ _ (by first | assumption | (exact cp_0 (by omega) (by omega)) | (exact cp_1 (by omega) (by omega) (by omega)) | (exact cp_2 (by omega) (by omega) (by omega) (by omega) (by omega)) | (exact cp_3 (by omega) (by omega) (by omega) (by omega) (by omega) (by omega)) | (exact cp_4 (by omega) (by omega) (by omega) (by omega) (by omega) (by omega)) | omega)
            · skip
              have t431 := ine (a := p3.toInt) (b := 0) rfl rfl c401
              refine ⟨fun c432 => ?_, fun c432 => ?_⟩
              · skip
                have t433 := ieq (a := p3.toInt) (b := 1) rfl rfl c432
                obtain ⟨g434, g435, g436⟩ := Or.resolve_left hp13 (fun h9 => h9 (by omega))
                clear hp12 hp13 hp14 hp15
                refine ⟨fun c437 => ?_, fun c437 => ?_⟩
                · skip
                  have t438 := ieq (a := sheets3_isThere.toInt) (b := 0) rfl rfl c437
                  have t439 : ((-11) : Int32).toInt = (-11) := rfl
                  exact hk _ _ _ _ _ (by first | assumption | (exact cp_0 (by omega) (by omega)) | (exact cp_1 (by omega) (by omega) (by omega)) | (exact cp_2 (by omega) (by omega) (by omega) (by omega) (by omega)) | (exact cp_3 (by omega) (by omega) (by omega) (by omega) (by omega) (by omega)) | (exact cp_4 (by omega) (by omega) (by omega) (by omega) (by omega) (by omega)) | omega)
                · skip
                  have t440 := ine (a := sheets3_isThere.toInt) (b := 0) rfl rfl c437
                  refine ⟨fun c441 => ?_, fun c441 => ?_⟩
                  · skip
                    have t442 := ine (a := sheets1_isThere.toInt) (b := 0) rfl rfl c441
                    refine ⟨fun c443 => ?_, fun c443 => ?_⟩
                    · skip
                      have t444 := ieq (a := sheets3_lane.toInt) (b := sheets1_lane.toInt) rfl rfl c443
                      refine s_X4_holds (by first | omega | assumption | (exact cp_0 (by omega) (by omega)) | (exact cp_1 (by omega) (by omega) (by omega)) | (exact cp_2 (by omega) (by omega) (by omega) (by omega) (by omega)) | (exact cp_3 (by omega) (by omega) (by omega) (by omega) (by omega) (by omega)) | (exact cp_4 (by omega) (by omega) (by omega) (by omega) (by omega) (by omega)) | exact AB.none (by omega) | exact AB.mono (by assumption) (by omega) (by omega) (by omega) (by omega) | exact RB.none (by omega) | exact RB.mono (by assumption) (by omega) | exact UB.none (by omega) | exact UB.mono (by assumption) (by omega) | exact EQ.none (by omega) | exact EQ.mono (by assumption) (by omega)) (by first | omega | assumption | (exact cp_0 (by omega) (by omega)) | (exact cp_1 (by omega) (by omega) (by omega)) | (exact cp_2 (by omega) (by omega) (by omega) (by omega) (by omega)) | (exact cp_3 (by omega) (by omega) (by omega) (by omega) (by omega) (by omega)) | (exact cp_4 (by omega) (by omega) (by omega) (by omega) (by omega) (by omega)) | exact AB.none (by omega) | exact AB.mono (by assumption) (by omega) (by omega) (by omega) (by omega) | exact RB.none (by omega) | exact RB.mono (by assumption) (by omega) | exact UB.none (by omega) | exact UB.mono (by assumption) (by omega) | exact EQ.none (by omega) | exact EQ.mono (by assumption) (by omega)) (fun r130 q445 => ?_)
                      refine ⟨fun c446 => ?_, fun c446 => ?_⟩
                      · skip
                        have t447 := ieq (a := r130.toInt) (b := 0) rfl rfl c446
                        rcases q445 with q445 | q445
                        · exfalso; omega
                        have t448 : ((-13) : Int32).toInt = (-13) := rfl
                        exact hk _ _ _ _ _ (by first | assumption | (exact cp_0 (by omega) (by omega)) | (exact cp_1 (by omega) (by omega) (by omega)) | (exact cp_2 (by omega) (by omega) (by omega) (by omega) (by omega)) | (exact cp_3 (by omega) (by omega) (by omega) (by omega) (by omega) (by omega)) | (exact cp_4 (by omega) (by omega) (by omega) (by omega) (by omega) (by omega)) | omega)
                      · skip
                        have t449 := ine (a := r130.toInt) (b := 0) rfl rfl c446
                        rcases q445.symm with q445 | q445
                        · exfalso; omega
                        refine s_X4_holds (by first | omega | assumption | (exact cp_0 (by omega) (by omega)) | (exact cp_1 (by omega) (by omega) (by omega)) | (exact cp_2 (by omega) (by omega) (by omega) (by omega) (by omega)) | (exact cp_3 (by omega) (by omega) (by omega) (by omega) (by omega) (by omega)) | (exact cp_4 (by omega) (by omega) (by omega) (by omega) (by omega) (by omega)) | exact AB.none (by omega) | exact AB.mono (by assumption) (by omega) (by omega) (by omega) (by omega) | exact RB.none (by omega) | exact RB.mono (by assumption) (by omega) | exact UB.none (by omega) | exact UB.mono (by assumption) (by omega) | exact EQ.none (by omega) | exact EQ.mono (by assumption) (by omega)) (by first | omega | assumption | (exact cp_0 (by omega) (by omega)) | (exact cp_1 (by omega) (by omega) (by omega)) | (exact cp_2 (by omega) (by omega) (by omega) (by omega) (by omega)) | (exact cp_3 (by omega) (by omega) (by omega) (by omega) (by omega) (by omega)) | (exact cp_4 (by omega) (by omega) (by omega) (by omega) (by omega) (by omega)) | exact AB.none (by omega) | exact AB.mono (by assumption) (by omega) (by omega) (by omega) (by omega) | exact RB.none (by omega) | exact RB.mono (by assumption) (by omega) | exact UB.none (by omega) | exact UB.mono (by assumption) (by omega) | exact EQ.none (by omega) | exact EQ.mono (by assumption) (by omega)) (fun r132 q450 => ?_)
                        refine ⟨fun c451 => ?_, fun c451 => ?_⟩
                        · skip
                          have t452 := ine (a := r132.toInt) (b := 0) rfl rfl c451
                          rcases q450.symm with q450 | q450
                          · exfalso; omega
                          have t453 : ((Int32.toNatClampNeg p2 : Nat) : Int) = p2.toInt := itn rfl (by omega)
                          have t454 : ((Int32.toNatClampNeg p4 : Nat) : Int) = p4.toInt := itn rfl (by omega)
                          have t455 : ((Int32.toNatClampNeg p5 : Nat) : Int) = p5.toInt := itn rfl (by omega)
                          refine ⟨fun h0 => absurd (ilt (a := p2.toInt) (b := 0) rfl rfl h0) (by omega), fun h0 => absurd (ilt (a := p4.toInt) (b := 0) rfl rfl h0) (by omega), fun h0 => absurd (ilt (a := p5.toInt) (b := 0) rfl rfl h0) (by omega), by omega, by omega, ?_⟩
                          intro f134 ef134
                          exact hk _ _ _ _ _ (by first | assumption | (exact cp_0 (by omega) (by omega)) | (exact cp_1 (by omega) (by omega) (by omega)) | (exact cp_2 (by omega) (by omega) (by omega) (by omega) (by omega)) | (exact cp_3 (by omega) (by omega) (by omega) (by omega) (by omega) (by omega)) | (exact cp_4 (by omega) (by omega) (by omega) (by omega) (by omega) (by omega)) | omega)
                        · skip
                          have t456 := ieq (a := r132.toInt) (b := 0) rfl rfl c451
                          rcases q450 with q450 | q450
                          · exfalso; omega
                          have t457 : ((-13) : Int32).toInt = (-13) := rfl
                          exact hk _ _ _ _ _ (by first | assumption | (exact cp_0 (by omega) (by omega)) | (exact cp_1 (by omega) (by omega) (by omega)) | (exact cp_2 (by omega) (by omega) (by omega) (by omega) (by omega)) | (exact cp_3 (by omega) (by omega) (by omega) (by omega) (by omega) (by omega)) | (exact cp_4 (by omega) (by omega) (by omega) (by omega) (by omega) (by omega)) | omega)
                    · skip
                      have t458 := ine (a := sheets3_lane.toInt) (b := sheets1_lane.toInt) rfl rfl c443
                      have t459 : ((-12) : Int32).toInt = (-12) := rfl
                      exact hk _ _ _ _ _ (by first | assumption | (exact cp_0 (by omega) (by omega)) | (exact cp_1 (by omega) (by omega) (by omega)) | (exact cp_2 (by omega) (by omega) (by omega) (by omega) (by omega)) | (exact cp_3 (by omega) (by omega) (by omega) (by omega) (by omega) (by omega)) | (exact cp_4 (by omega) (by omega) (by omega) (by omega) (by omega) (by omega)) | omega)
                  · skip
                    have t460 := ieq (a := sheets1_isThere.toInt) (b := 0) rfl rfl c441
                    have t461 : ((-11) : Int32).toInt = (-11) := rfl
                    exact hk _ _ _ _ _ (by first | assumption | (exact cp_0 (by omega) (by omega)) | (exact cp_1 (by omega) (by omega) (by omega)) | (exact cp_2 (by omega) (by omega) (by omega) (by omega) (by omega)) | (exact cp_3 (by omega) (by omega) (by omega) (by omega) (by omega) (by omega)) | (exact cp_4 (by omega) (by omega) (by omega) (by omega) (by omega) (by omega)) | omega)
              · skip
                have t462 := ine (a := p3.toInt) (b := 1) rfl rfl c432
                refine ⟨fun c463 => ?_, fun c463 => ?_⟩
                · skip
                  have t464 := ieq (a := p3.toInt) (b := 2) rfl rfl c463
                  obtain ⟨g465, g466, g467⟩ := Or.resolve_left hp14 (fun h9 => h9 (by omega))
                  clear hp12 hp13 hp14 hp15
                  refine ⟨fun c468 => ?_, fun c468 => ?_⟩
                  · skip
                    have t469 := ieq (a := sheets3_isThere.toInt) (b := 0) rfl rfl c468
                    have t470 : ((-11) : Int32).toInt = (-11) := rfl
                    exact hk _ _ _ _ _ (by first | assumption | (exact cp_0 (by omega) (by omega)) | (exact cp_1 (by omega) (by omega) (by omega)) | (exact cp_2 (by omega) (by omega) (by omega) (by omega) (by omega)) | (exact cp_3 (by omega) (by omega) (by omega) (by omega) (by omega) (by omega)) | (exact cp_4 (by omega) (by omega) (by omega) (by omega) (by omega) (by omega)) | omega)
                  · skip
                    have t471 := ine (a := sheets3_isThere.toInt) (b := 0) rfl rfl c468
                    refine ⟨fun c472 => ?_, fun c472 => ?_⟩
                    · skip
                      have t473 := ine (a := sheets2_isThere.toInt) (b := 0) rfl rfl c472
                      refine ⟨fun c474 => ?_, fun c474 => ?_⟩
                      · skip
                        have t475 := ieq (a := sheets3_lane.toInt) (b := sheets2_lane.toInt) rfl rfl c474
                        refine s_X4_holds (by first | omega | assumption | (exact cp_0 (by omega) (by omega)) | (exact cp_1 (by omega) (by omega) (by omega)) | (exact cp_2 (by omega) (by omega) (by omega) (by omega) (by omega)) | (exact cp_3 (by omega) (by omega) (by omega) (by omega) (by omega) (by omega)) | (exact cp_4 (by omega) (by omega) (by omega) (by omega) (by omega) (by omega)) | exact AB.none (by omega) | exact AB.mono (by assumption) (by omega) (by omega) (by omega) (by omega) | exact RB.none (by omega) | exact RB.mono (by assumption) (by omega) | exact UB.none (by omega) | exact UB.mono (by assumption) (by omega) | exact EQ.none (by omega) | exact EQ.mono (by assumption) (by omega)) (by first | omega | assumption | (exact cp_0 (by omega) (by omega)) | (exact cp_1 (by omega) (by omega) (by omega)) | (exact cp_2 (by omega) (by omega) (by omega) (by omega) (by omega)) | (exact cp_3 (by omega) (by omega) (by omega) (by omega) (by omega) (by omega)) | (exact cp_4 (by omega) (by omega) (by omega) (by omega) (by omega) (by omega)) | exact AB.none (by omega) | exact AB.mono (by assumption) (by omega) (by omega) (by omega) (by omega) | exact RB.none (by omega) | exact RB.mono (by assumption) (by omega) | exact UB.none (by omega) | exact UB.mono (by assumption) (by omega) | exact EQ.none (by omega) | exact EQ.mono (by assumption) (by omega)) (fun r139 q476 => ?_)
                        refine ⟨fun c477 => ?_, fun c477 => ?_⟩
                        · skip
                          have t478 := ieq (a := r139.toInt) (b := 0) rfl rfl c477
                          rcases q476 with q476 | q476
                          · exfalso; omega
                          have t479 : ((-13) : Int32).toInt = (-13) := rfl
                          exact hk _ _ _ _ _ (by first | assumption | (exact cp_0 (by omega) (by omega)) | (exact cp_1 (by omega) (by omega) (by omega)) | (exact cp_2 (by omega) (by omega) (by omega) (by omega) (by omega)) | (exact cp_3 (by omega) (by omega) (by omega) (by omega) (by omega) (by omega)) | (exact cp_4 (by omega) (by omega) (by omega) (by omega) (by omega) (by omega)) | omega)
                        · skip
                          have t480 := ine (a := r139.toInt) (b := 0) rfl rfl c477
                          rcases q476.symm with q476 | q476
                          · exfalso; omega
                          refine s_X4_holds (by first | omega | assumption | (exact cp_0 (by omega) (by omega)) | (exact cp_1 (by omega) (by omega) (by omega)) | (exact cp_2 (by omega) (by omega) (by omega) (by omega) (by omega)) | (exact cp_3 (by omega) (by omega) (by omega) (by omega) (by omega) (by omega)) | (exact cp_4 (by omega) (by omega) (by omega) (by omega) (by omega) (by omega)) | exact AB.none (by omega) | exact AB.mono (by assumption) (by omega) (by omega) (by omega) (by omega) | exact RB.none (by omega) | exact RB.mono (by assumption) (by omega) | exact UB.none (by omega) | exact UB.mono (by assumption) (by omega) | exact EQ.none (by omega) | exact EQ.mono (by assumption) (by omega)) (by first | omega | assumption | (exact cp_0 (by omega) (by omega)) | (exact cp_1 (by omega) (by omega) (by omega)) | (exact cp_2 (by omega) (by omega) (by omega) (by omega) (by omega)) | (exact cp_3 (by omega) (by omega) (by omega) (by omega) (by omega) (by omega)) | (exact cp_4 (by omega) (by omega) (by omega) (by omega) (by omega) (by omega)) | exact AB.none (by omega) | exact AB.mono (by assumption) (by omega) (by omega) (by omega) (by omega) | exact RB.none (by omega) | exact RB.mono (by assumption) (by omega) | exact UB.none (by omega) | exact UB.mono (by assumption) (by omega) | exact EQ.none (by omega) | exact EQ.mono (by assumption) (by omega)) (fun r141 q481 => ?_)
                          refine ⟨fun c482 => ?_, fun c482 => ?_⟩
                          · skip
                            have t483 := ine (a := r141.toInt) (b := 0) rfl rfl c482
                            rcases q481.symm with q481 | q481
                            · exfalso; omega
                            have t484 : ((Int32.toNatClampNeg p2 : Nat) : Int) = p2.toInt := itn rfl (by omega)
                            have t485 : ((Int32.toNatClampNeg p4 : Nat) : Int) = p4.toInt := itn rfl (by omega)
                            have t486 : ((Int32.toNatClampNeg p5 : Nat) : Int) = p5.toInt := itn rfl (by omega)
                            refine ⟨fun h0 => absurd (ilt (a := p2.toInt) (b := 0) rfl rfl h0) (by omega), fun h0 => absurd (ilt (a := p4.toInt) (b := 0) rfl rfl h0) (by omega), fun h0 => absurd (ilt (a := p5.toInt) (b := 0) rfl rfl h0) (by omega), by omega, by omega, ?_⟩
                            intro f143 ef143
                            exact hk _ _ _ _ _ (by first | assumption | (exact cp_0 (by omega) (by omega)) | (exact cp_1 (by omega) (by omega) (by omega)) | (exact cp_2 (by omega) (by omega) (by omega) (by omega) (by omega)) | (exact cp_3 (by omega) (by omega) (by omega) (by omega) (by omega) (by omega)) | (exact cp_4 (by omega) (by omega) (by omega) (by omega) (by omega) (by omega)) | omega)
                          · skip
                            have t487 := ieq (a := r141.toInt) (b := 0) rfl rfl c482
                            rcases q481 with q481 | q481
                            · exfalso; omega
                            have t488 : ((-13) : Int32).toInt = (-13) := rfl
                            exact hk _ _ _ _ _ (by first | assumption | (exact cp_0 (by omega) (by omega)) | (exact cp_1 (by omega) (by omega) (by omega)) | (exact cp_2 (by omega) (by omega) (by omega) (by omega) (by omega)) | (exact cp_3 (by omega) (by omega) (by omega) (by omega) (by omega) (by omega)) | (exact cp_4 (by omega) (by omega) (by omega) (by omega) (by omega) (by omega)) | omega)
                      · skip
                        have t489 := ine (a := sheets3_lane.toInt) (b := sheets2_lane.toInt) rfl rfl c474
                        have t490 : ((-12) : Int32).toInt = (-12) := rfl
                        exact hk _ _ _ _ _ (by first | assumption | (exact cp_0 (by omega) (by omega)) | (exact cp_1 (by omega) (by omega) (by omega)) | (exact cp_2 (by omega) (by omega) (by omega) (by omega) (by omega)) | (exact cp_3 (by omega) (by omega) (by omega) (by omega) (by omega) (by omega)) | (exact cp_4 (by omega) (by omega) (by omega) (by omega) (by omega) (by omega)) | omega)
                    · skip
                      have t491 := ieq (a := sheets2_isThere.toInt) (b := 0) rfl rfl c472
                      have t492 : ((-11) : Int32).toInt = (-11) := rfl
                      exact hk _ _ _ _ _ (by first | assumption | (exact cp_0 (by omega) (by omega)) | (exact cp_1 (by omega) (by omega) (by omega)) | (exact cp_2 (by omega) (by omega) (by omega) (by omega) (by omega)) | (exact cp_3 (by omega) (by omega) (by omega) (by omega) (by omega) (by omega)) | (exact cp_4 (by omega) (by omega) (by omega) (by omega) (by omega) (by omega)) | omega)
                · skip
                  have t493 := ine (a := p3.toInt) (b := 2) rfl rfl c463
                  obtain ⟨g494, g495, g496⟩ := Or.resolve_left hp15 (fun h9 => h9 (by omega))
                  clear hp12 hp13 hp14 hp15
                  intro c497
                  have t498 := ieq (a := p3.toInt) (b := 3) rfl rfl c497
                  refine ⟨fun c499 => ?_, fun c499 => ?_⟩
                  · skip
                    have t500 := ieq (a := sheets3_isThere.toInt) (b := 0) rfl rfl c499
                    have t501 : ((-11) : Int32).toInt = (-11) := rfl
                    exact hk _ _ _ _ _ (by first | assumption | (exact cp_0 (by omega) (by omega)) | (exact cp_1 (by omega) (by omega) (by omega)) | (exact cp_2 (by omega) (by omega) (by omega) (by omega) (by omega)) | (exact cp_3 (by omega) (by omega) (by omega) (by omega) (by omega) (by omega)) | (exact cp_4 (by omega) (by omega) (by omega) (by omega) (by omega) (by omega)) | omega)
                  · skip
                    have t502 := ine (a := sheets3_isThere.toInt) (b := 0) rfl rfl c499
                    refine ⟨fun c503 => ?_, fun c503 => ?_⟩
                    · skip
                      have t504 := ine (a := sheets3_isThere.toInt) (b := 0) rfl rfl c503
                      refine ⟨fun c505 => ?_, fun c505 => ?_⟩
                      · skip
                        have t506 := ieq (a := sheets3_lane.toInt) (b := sheets3_lane.toInt) rfl rfl c505
                        refine s_X4_holds (by first | omega | assumption | (exact cp_0 (by omega) (by omega)) | (exact cp_1 (by omega) (by omega) (by omega)) | (exact cp_2 (by omega) (by omega) (by omega) (by omega) (by omega)) | (exact cp_3 (by omega) (by omega) (by omega) (by omega) (by omega) (by omega)) | (exact cp_4 (by omega) (by omega) (by omega) (by omega) (by omega) (by omega)) | exact AB.none (by omega) | exact AB.mono (by assumption) (by omega) (by omega) (by omega) (by omega) | exact RB.none (by omega) | exact RB.mono (by assumption) (by omega) | exact UB.none (by omega) | exact UB.mono (by assumption) (by omega) | exact EQ.none (by omega) | exact EQ.mono (by assumption) (by omega)) (by first | omega | assumption | (exact cp_0 (by omega) (by omega)) | (exact cp_1 (by omega) (by omega) (by omega)) | (exact cp_2 (by omega) (by omega) (by omega) (by omega) (by omega)) | (exact cp_3 (by omega) (by omega) (by omega) (by omega) (by omega) (by omega)) | (exact cp_4 (by omega) (by omega) (by omega) (by omega) (by omega) (by omega)) | exact AB.none (by omega) | exact AB.mono (by assumption) (by omega) (by omega) (by omega) (by omega) | exact RB.none (by omega) | exact RB.mono (by assumption) (by omega) | exact UB.none (by omega) | exact UB.mono (by assumption) (by omega) | exact EQ.none (by omega) | exact EQ.mono (by assumption) (by omega)) (fun r148 q507 => ?_)
                        refine ⟨fun c508 => ?_, fun c508 => ?_⟩
                        · skip
                          have t509 := ieq (a := r148.toInt) (b := 0) rfl rfl c508
                          rcases q507 with q507 | q507
                          · exfalso; omega
                          have t510 : ((-13) : Int32).toInt = (-13) := rfl
                          exact hk _ _ _ _ _ (by first | assumption | (exact cp_0 (by omega) (by omega)) | (exact cp_1 (by omega) (by omega) (by omega)) | (exact cp_2 (by omega) (by omega) (by omega) (by omega) (by omega)) | (exact cp_3 (by omega) (by omega) (by omega) (by omega) (by omega) (by omega)) | (exact cp_4 (by omega) (by omega) (by omega) (by omega) (by omega) (by omega)) | omega)
                        · skip
                          have t511 := ine (a := r148.toInt) (b := 0) rfl rfl c508
                          rcases q507.symm with q507 | q507
                          · exfalso; omega
                          refine s_X4_holds (by first | omega | assumption | (exact cp_0 (by omega) (by omega)) | (exact cp_1 (by omega) (by omega) (by omega)) | (exact cp_2 (by omega) (by omega) (by omega) (by omega) (by omega)) | (exact cp_3 (by omega) (by omega) (by omega) (by omega) (by omega) (by omega)) | (exact cp_4 (by omega) (by omega) (by omega) (by omega) (by omega) (by omega)) | exact AB.none (by omega) | exact AB.mono (by assumption) (by omega) (by omega) (by omega) (by omega) | exact RB.none (by omega) | exact RB.mono (by assumption) (by omega) | exact UB.none (by omega) | exact UB.mono (by assumption) (by omega) | exact EQ.none (by omega) | exact EQ.mono (by assumption) (by omega)) (by first | omega | assumption | (exact cp_0 (by omega) (by omega)) | (exact cp_1 (by omega) (by omega) (by omega)) | (exact cp_2 (by omega) (by omega) (by omega) (by omega) (by omega)) | (exact cp_3 (by omega) (by omega) (by omega) (by omega) (by omega) (by omega)) | (exact cp_4 (by omega) (by omega) (by omega) (by omega) (by omega) (by omega)) | exact AB.none (by omega) | exact AB.mono (by assumption) (by omega) (by omega) (by omega) (by omega) | exact RB.none (by omega) | exact RB.mono (by assumption) (by omega) | exact UB.none (by omega) | exact UB.mono (by assumption) (by omega) | exact EQ.none (by omega) | exact EQ.mono (by assumption) (by omega)) (fun r150 q512 => ?_)
                          refine ⟨fun c513 => ?_, fun c513 => ?_⟩
                          · skip
                            have t514 := ine (a := r150.toInt) (b := 0) rfl rfl c513
                            rcases q512.symm with q512 | q512
                            · exfalso; omega
                            have t515 : ((Int32.toNatClampNeg p2 : Nat) : Int) = p2.toInt := itn rfl (by omega)
                            have t516 : ((Int32.toNatClampNeg p4 : Nat) : Int) = p4.toInt := itn rfl (by omega)
                            have t517 : ((Int32.toNatClampNeg p5 : Nat) : Int) = p5.toInt := itn rfl (by omega)
                            refine ⟨fun h0 => absurd (ilt (a := p2.toInt) (b := 0) rfl rfl h0) (by omega), fun h0 => absurd (ilt (a := p4.toInt) (b := 0) rfl rfl h0) (by omega), fun h0 => absurd (ilt (a := p5.toInt) (b := 0) rfl rfl h0) (by omega), by omega, by omega, ?_⟩
                            intro f152 ef152
                            exact hk _ _ _ _ _ (by first | assumption | (exact cp_0 (by omega) (by omega)) | (exact cp_1 (by omega) (by omega) (by omega)) | (exact cp_2 (by omega) (by omega) (by omega) (by omega) (by omega)) | (exact cp_3 (by omega) (by omega) (by omega) (by omega) (by omega) (by omega)) | (exact cp_4 (by omega) (by omega) (by omega) (by omega) (by omega) (by omega)) | omega)
                          · skip
                            have t518 := ieq (a := r150.toInt) (b := 0) rfl rfl c513
                            rcases q512 with q512 | q512
                            · exfalso; omega
                            have t519 : ((-13) : Int32).toInt = (-13) := rfl
                            exact hk _ _ _ _ _ (by first | assumption | (exact cp_0 (by omega) (by omega)) | (exact cp_1 (by omega) (by omega) (by omega)) | (exact cp_2 (by omega) (by omega) (by omega) (by omega) (by omega)) | (exact cp_3 (by omega) (by omega) (by omega) (by omega) (by omega) (by omega)) | (exact cp_4 (by omega) (by omega) (by omega) (by omega) (by omega) (by omega)) | omega)
                      · skip
                        have t520 := ine (a := sheets3_lane.toInt) (b := sheets3_lane.toInt) rfl rfl c505
                        have t521 : ((-12) : Int32).toInt = (-12) := rfl
                        exact hk _ _ _ _ _ (by first | assumption | (exact cp_0 (by omega) (by omega)) | (exact cp_1 (by omega) (by omega) (by omega)) | (exact cp_2 (by omega) (by omega) (by omega) (by omega) (by omega)) | (exact cp_3 (by omega) (by omega) (by omega) (by omega) (by omega) (by omega)) | (exact cp_4 (by omega) (by omega) (by omega) (by omega) (by omega) (by omega)) | omega)
                    · skip
                      have t522 := ieq (a := sheets3_isThere.toInt) (b := 0) rfl rfl c503
                      have t523 : ((-11) : Int32).toInt = (-11) := rfl
                      exact hk _ _ _ _ _ (by first | assumption | (exact cp_0 (by omega) (by omega)) | (exact cp_1 (by omega) (by omega) (by omega)) | (exact cp_2 (by omega) (by omega) (by omega) (by omega) (by omega)) | (exact cp_3 (by omega) (by omega) (by omega) (by omega) (by omega) (by omega)) | (exact cp_4 (by omega) (by omega) (by omega) (by omega) (by omega) (by omega)) | omega)
    · skip
      have t524 := ieq (a := r3.toInt) (b := 0) rfl rfl c7
      clear hp8 hp9 hp10 hp11 hp12 hp13 hp14 hp15
      rcases q6 with q6 | q6
      · exfalso; omega
      have t525 : ((-1) : Int32).toInt = (-1) := rfl
      exact hk _ _ _ _ _ (by first | assumption | (exact cp_0 (by omega) (by omega)) | (exact cp_1 (by omega) (by omega) (by omega)) | (exact cp_2 (by omega) (by omega) (by omega) (by omega) (by omega)) | (exact cp_3 (by omega) (by omega) (by omega) (by omega) (by omega) (by omega)) | (exact cp_4 (by omega) (by omega) (by omega) (by omega) (by omega) (by omega)) | omega)
set_option maxHeartbeats 4000000 in
set_option maxRecDepth 10000 in
theorem f_X8_copy {p1 : Int32} {p2 : Int32} {p3 : Int32} {p4 : Int32} {p5 : Int32} {v_lanes : Nat → Int32} {v_rowSizes : Nat → Int32} {v_items : Nat → Int64} {v_moved : Nat → Int64} {post : Int32 → (Nat → Int64) → (Nat → Int64) → Prop} (hp0 : AB v_rowSizes 0 4 0 24) (hk : ∀ (r : Int32) (v_items' : Nat → Int64) (v_moved' : Nat → Int64), (r.toInt = cp_ans p1.toInt p3.toInt p2.toInt p4.toInt p5.toInt (cp_s (v_lanes (Int32.toNatClampNeg p1)).toInt) (cp_s (v_lanes (Int32.toNatClampNeg p3)).toInt) (v_lanes (Int32.toNatClampNeg p1)).toInt (v_lanes (Int32.toNatClampNeg p3)).toInt (v_rowSizes (Int32.toNatClampNeg p1)).toInt (v_rowSizes (Int32.toNatClampNeg p3)).toInt) → post r v_items' v_moved') : wp_X8_copy p1 p2 p3 p4 p5 v_lanes v_rowSizes v_items v_moved post := by
  unfold wp_X8_copy
  have rp1 := Int32.toInt_lt p1
  have rq1 := Int32.le_toInt p1
  have rp2 := Int32.toInt_lt p2
  have rq2 := Int32.le_toInt p2
  have rp3 := Int32.toInt_lt p3
  have rq3 := Int32.le_toInt p3
  have rp4 := Int32.toInt_lt p4
  have rq4 := Int32.le_toInt p4
  have rp5 := Int32.toInt_lt p5
  have rq5 := Int32.le_toInt p5
  have tn0 : ((Int32.toNatClampNeg 0 : Nat) : Int) = 0 := rfl
  have tn1 : ((Int32.toNatClampNeg 1 : Nat) : Int) = 1 := rfl
  have tn2 : ((Int32.toNatClampNeg 2 : Nat) : Int) = 2 := rfl
  have tn3 : ((Int32.toNatClampNeg 3 : Nat) : Int) = 3 := rfl
  have hs1 := cp_s_d (l := (v_lanes (Int32.toNatClampNeg p1)).toInt)
  have hs3 := cp_s_d (l := (v_lanes (Int32.toNatClampNeg p3)).toInt)
  have tn60 : ((Int32.toNatClampNeg 60 : Nat) : Int) = 60 := rfl
  have t1 : (Int32.toInt64 p1).toInt = p1.toInt := i2l rfl
  have t2 : (0 : Int64).toInt = 0 := rfl
  have t3 : (3 : Int64).toInt = 3 := rfl
  refine s_X8_in  (fun r1 q4 => ?_)
  refine ⟨fun c5 => ?_, fun c5 => ?_⟩
  · skip
    have t6 := ieq (a := r1.toInt) (b := 0) rfl rfl c5
    rcases q4 with q4 | q4
    · exfalso; omega
    have t7 : ((-1) : Int32).toInt = (-1) := rfl
    exact hk _ _ _ (by first | assumption | (exact cp_0 (by omega) (by omega)) | (exact cp_1 (by omega) (by omega) (by omega)) | (exact cp_2 (by omega) (by omega) (by omega) (by omega) (by omega)) | (exact cp_3 (by omega) (by omega) (by omega) (by omega) (by omega) (by omega)) | (exact cp_4 (by omega) (by omega) (by omega) (by omega) (by omega) (by omega)) | omega)
  · skip
    have t8 := ine (a := r1.toInt) (b := 0) rfl rfl c5
    rcases q4.symm with q4 | q4
    · exfalso; omega
    have t9 : (Int32.toInt64 p3).toInt = p3.toInt := i2l rfl
    refine s_X8_in  (fun r3 q10 => ?_)
    refine ⟨fun c11 => ?_, fun c11 => ?_⟩
    · skip
      have t12 := ine (a := r3.toInt) (b := 0) rfl rfl c11
      rcases q10.symm with q10 | q10
      · exfalso; omega
      refine ⟨ivp (a := p1.toInt) rfl (by omega) (by omega), ?_⟩
      refine ⟨fun c13 => ?_, fun c13 => ?_⟩
      · skip
        have t14 := ilt (a := (v_lanes (Int32.toNatClampNeg p1)).toInt) (b := 0) rfl rfl c13
        have t15 : ((-11) : Int32).toInt = (-11) := rfl
        exact hk _ _ _ (by first | assumption | (exact cp_0 (by omega) (by omega)) | (exact cp_1 (by omega) (by omega) (by omega)) | (exact cp_2 (by omega) (by omega) (by omega) (by omega) (by omega)) | (exact cp_3 (by omega) (by omega) (by omega) (by omega) (by omega) (by omega)) | (exact cp_4 (by omega) (by omega) (by omega) (by omega) (by omega) (by omega)) | omega)
      · skip
        have t16 := inlt (a := (v_lanes (Int32.toNatClampNeg p1)).toInt) (b := 0) rfl rfl c13
        refine ⟨ivp (a := p3.toInt) rfl (by omega) (by omega), ?_⟩
        refine ⟨fun c17 => ?_, fun c17 => ?_⟩
        · skip
          have t18 := ile (a := 0) (b := (v_lanes (Int32.toNatClampNeg p3)).toInt) rfl rfl c17
          refine ⟨ivp (a := p1.toInt) rfl (by omega) (by omega), ?_⟩
          refine ⟨ivp (a := p3.toInt) rfl (by omega) (by omega), ?_⟩
          refine ⟨fun c19 => ?_, fun c19 => ?_⟩
          · skip
            have t20 := ieq (a := (v_lanes (Int32.toNatClampNeg p1)).toInt) (b := (v_lanes (Int32.toNatClampNeg p3)).toInt) rfl rfl c19
            refine ⟨fun c21 => ?_, fun c21 => ?_⟩
            · skip
              have t22 := ilt (a := p5.toInt) (b := 0) rfl rfl c21
              have t23 : ((-13) : Int32).toInt = (-13) := rfl
              exact hk _ _ _ (by first | assumption | (exact cp_0 (by omega) (by omega)) | (exact cp_1 (by omega) (by omega) (by omega)) | (exact cp_2 (by omega) (by omega) (by omega) (by omega) (by omega)) | (exact cp_3 (by omega) (by omega) (by omega) (by omega) (by omega) (by omega)) | (exact cp_4 (by omega) (by omega) (by omega) (by omega) (by omega) (by omega)) | omega)
            · skip
              have t24 := inlt (a := p5.toInt) (b := 0) rfl rfl c21
              refine ⟨ivp (a := p1.toInt) rfl (by omega) (by omega), ?_⟩
              try have q25 := AB.get (f := v_rowSizes) (i := p1) (a := p1.toInt) (by assumption) rfl (by omega) (by omega) (by omega)
              have t26 : (Int32.toInt64 p2).toInt = p2.toInt := i2l rfl
              have t27 : (Int32.toInt64 (v_rowSizes (Int32.toNatClampNeg p1))).toInt = (v_rowSizes (Int32.toNatClampNeg p1)).toInt := i2l rfl
              have t28 : (Int32.toInt64 p5).toInt = p5.toInt := i2l rfl
              try have t29 : ((Int32.toInt64 (v_rowSizes (Int32.toNatClampNeg p1))) - (Int32.toInt64 p5)).toInt = (Int32.toInt64 (v_rowSizes (Int32.toNatClampNeg p1))).toInt - (Int32.toInt64 p5).toInt := lsb rfl rfl (by omega) (by omega)
              refine s_X8_in  (fun r9 q30 => ?_)
              refine ⟨fun c31 => ?_, fun c31 => ?_⟩
              · skip
                have t32 := ieq (a := r9.toInt) (b := 0) rfl rfl c31
                rcases q30 with q30 | q30
                · exfalso; omega
                have t33 : ((-13) : Int32).toInt = (-13) := rfl
                exact hk _ _ _ (by first | assumption | (exact cp_0 (by omega) (by omega)) | (exact cp_1 (by omega) (by omega) (by omega)) | (exact cp_2 (by omega) (by omega) (by omega) (by omega) (by omega)) | (exact cp_3 (by omega) (by omega) (by omega) (by omega) (by omega) (by omega)) | (exact cp_4 (by omega) (by omega) (by omega) (by omega) (by omega) (by omega)) | omega)
              · skip
                have t34 := ine (a := r9.toInt) (b := 0) rfl rfl c31
                rcases q30.symm with q30 | q30
                · exfalso; omega
                refine ⟨ivp (a := p3.toInt) rfl (by omega) (by omega), ?_⟩
                try have q35 := AB.get (f := v_rowSizes) (i := p3) (a := p3.toInt) (by assumption) rfl (by omega) (by omega) (by omega)
                have t36 : (Int32.toInt64 p4).toInt = p4.toInt := i2l rfl
                have t37 : (Int32.toInt64 (v_rowSizes (Int32.toNatClampNeg p3))).toInt = (v_rowSizes (Int32.toNatClampNeg p3)).toInt := i2l rfl
                try have t38 : ((Int32.toInt64 (v_rowSizes (Int32.toNatClampNeg p3))) - (Int32.toInt64 p5)).toInt = (Int32.toInt64 (v_rowSizes (Int32.toNatClampNeg p3))).toInt - (Int32.toInt64 p5).toInt := lsb rfl rfl (by omega) (by omega)
                refine s_X8_in  (fun r11 q39 => ?_)
                refine ⟨fun c40 => ?_, fun c40 => ?_⟩
                · skip
                  have t41 := ine (a := r11.toInt) (b := 0) rfl rfl c40
                  rcases q39.symm with q39 | q39
                  · exfalso; omega
                  have t42 : ((0 : Int32)).toInt = 0 := rfl
                  refine ⟨fun n13 x6_13 v_moved_13 => n13 = (p5.toInt - x6_13.toInt).toNat ∧ (0 ≤ x6_13.toInt), ⟨_, rfl, by first | omega | assumption | (exact cp_0 (by omega) (by omega)) | (exact cp_1 (by omega) (by omega) (by omega)) | (exact cp_2 (by omega) (by omega) (by omega) (by omega) (by omega)) | (exact cp_3 (by omega) (by omega) (by omega) (by omega) (by omega) (by omega)) | (exact cp_4 (by omega) (by omega) (by omega) (by omega) (by omega) (by omega)) | exact AB.none (by omega) | exact AB.mono (by assumption) (by omega) (by omega) (by omega) (by omega) | exact RB.none (by omega) | exact RB.mono (by assumption) (by omega) | exact UB.none (by omega) | exact UB.mono (by assumption) (by omega) | exact EQ.none (by omega) | exact EQ.mono (by assumption) (by omega)⟩, ?_⟩
                  rintro n13 x6_13 v_moved_13 ⟨hn13, q43⟩
                  refine ⟨fun c44 => ?_, fun c44 => ?_⟩
                  · skip
                    have t45 := ile (a := p5.toInt) (b := x6_13.toInt) rfl rfl c44
                    have t46 : ((0 : Int32)).toInt = 0 := rfl
                    refine ⟨fun n15 x6_15 v_items_15 => n15 = (p5.toInt - x6_15.toInt).toNat ∧ (0 ≤ x6_15.toInt), ⟨_, rfl, by first | omega | assumption | (exact cp_0 (by omega) (by omega)) | (exact cp_1 (by omega) (by omega) (by omega)) | (exact cp_2 (by omega) (by omega) (by omega) (by omega) (by omega)) | (exact cp_3 (by omega) (by omega) (by omega) (by omega) (by omega) (by omega)) | (exact cp_4 (by omega) (by omega) (by omega) (by omega) (by omega) (by omega)) | exact AB.none (by omega) | exact AB.mono (by assumption) (by omega) (by omega) (by omega) (by omega) | exact RB.none (by omega) | exact RB.mono (by assumption) (by omega) | exact UB.none (by omega) | exact UB.mono (by assumption) (by omega) | exact EQ.none (by omega) | exact EQ.mono (by assumption) (by omega)⟩, ?_⟩
                    rintro n15 x6_15 v_items_15 ⟨hn15, q47⟩
                    refine ⟨fun c48 => ?_, fun c48 => ?_⟩
                    · skip
                      have t49 := ile (a := p5.toInt) (b := x6_15.toInt) rfl rfl c48
                      exact hk _ _ _ (by first | assumption | (exact cp_0 (by omega) (by omega)) | (exact cp_1 (by omega) (by omega) (by omega)) | (exact cp_2 (by omega) (by omega) (by omega) (by omega) (by omega)) | (exact cp_3 (by omega) (by omega) (by omega) (by omega) (by omega) (by omega)) | (exact cp_4 (by omega) (by omega) (by omega) (by omega) (by omega) (by omega)) | omega)
                    · skip
                      have t50 := inle (a := p5.toInt) (b := x6_15.toInt) rfl rfl c48
                      refine ⟨ivp (a := x6_15.toInt) rfl (by omega) (by omega), ?_⟩
                      intro z17 ez17
                      try have t51 : (24 * p3).toInt = 24 * p3.toInt := im rfl rfl (by omega) (by omega)
                      try have t52 : ((24 * p3) + p4).toInt = (24 * p3).toInt + p4.toInt := ia rfl rfl (by omega) (by omega)
                      try have t53 : (((24 * p3) + p4) + x6_15).toInt = ((24 * p3) + p4).toInt + x6_15.toInt := ia rfl rfl (by omega) (by omega)
                      refine ⟨ivp (a := (((24 * p3) + p4) + x6_15).toInt) rfl (by omega) (by omega), ?_⟩
                      intro f18 ef18
                      try have t54 : (x6_15 + 1).toInt = x6_15.toInt + 1 := ia rfl rfl (by omega) (by omega)
                      intro z19 ez19
                      have t55 : z19.toInt = (x6_15 + 1).toInt := by rw [ez19] <;> rfl
                      refine ⟨_, ?_, rfl, by first | omega | assumption | (exact cp_0 (by omega) (by omega)) | (exact cp_1 (by omega) (by omega) (by omega)) | (exact cp_2 (by omega) (by omega) (by omega) (by omega) (by omega)) | (exact cp_3 (by omega) (by omega) (by omega) (by omega) (by omega) (by omega)) | (exact cp_4 (by omega) (by omega) (by omega) (by omega) (by omega) (by omega)) | exact AB.none (by omega) | exact AB.mono (by assumption) (by omega) (by omega) (by omega) (by omega) | exact RB.none (by omega) | exact RB.mono (by assumption) (by omega) | exact UB.none (by omega) | exact UB.mono (by assumption) (by omega) | exact EQ.none (by omega) | exact EQ.mono (by assumption) (by omega)⟩
                      omega
                  · skip
                    have t56 := inle (a := p5.toInt) (b := x6_13.toInt) rfl rfl c44
                    try have t57 : (24 * p1).toInt = 24 * p1.toInt := im rfl rfl (by omega) (by omega)
                    try have t58 : ((24 * p1) + p2).toInt = (24 * p1).toInt + p2.toInt := ia rfl rfl (by omega) (by omega)
                    try have t59 : (((24 * p1) + p2) + x6_13).toInt = ((24 * p1) + p2).toInt + x6_13.toInt := ia rfl rfl (by omega) (by omega)
                    refine ⟨ivp (a := (((24 * p1) + p2) + x6_13).toInt) rfl (by omega) (by omega), ?_⟩
                    intro z20 ez20
                    refine ⟨ivp (a := x6_13.toInt) rfl (by omega) (by omega), ?_⟩
                    intro f21 ef21
                    try have t60 : (x6_13 + 1).toInt = x6_13.toInt + 1 := ia rfl rfl (by omega) (by omega)
                    intro z22 ez22
                    have t61 : z22.toInt = (x6_13 + 1).toInt := by rw [ez22] <;> rfl
                    refine ⟨_, ?_, rfl, by first | omega | assumption | (exact cp_0 (by omega) (by omega)) | (exact cp_1 (by omega) (by omega) (by omega)) | (exact cp_2 (by omega) (by omega) (by omega) (by omega) (by omega)) | (exact cp_3 (by omega) (by omega) (by omega) (by omega) (by omega) (by omega)) | (exact cp_4 (by omega) (by omega) (by omega) (by omega) (by omega) (by omega)) | exact AB.none (by omega) | exact AB.mono (by assumption) (by omega) (by omega) (by omega) (by omega) | exact RB.none (by omega) | exact RB.mono (by assumption) (by omega) | exact UB.none (by omega) | exact UB.mono (by assumption) (by omega) | exact EQ.none (by omega) | exact EQ.mono (by assumption) (by omega)⟩
                    omega
                · skip
                  have t62 := ieq (a := r11.toInt) (b := 0) rfl rfl c40
                  rcases q39 with q39 | q39
                  · exfalso; omega
                  have t63 : ((-13) : Int32).toInt = (-13) := rfl
                  exact hk _ _ _ (by first | assumption | (exact cp_0 (by omega) (by omega)) | (exact cp_1 (by omega) (by omega) (by omega)) | (exact cp_2 (by omega) (by omega) (by omega) (by omega) (by omega)) | (exact cp_3 (by omega) (by omega) (by omega) (by omega) (by omega) (by omega)) | (exact cp_4 (by omega) (by omega) (by omega) (by omega) (by omega) (by omega)) | omega)
          · skip
            have t64 := ine (a := (v_lanes (Int32.toNatClampNeg p1)).toInt) (b := (v_lanes (Int32.toNatClampNeg p3)).toInt) rfl rfl c19
            have t65 : ((-12) : Int32).toInt = (-12) := rfl
            exact hk _ _ _ (by first | assumption | (exact cp_0 (by omega) (by omega)) | (exact cp_1 (by omega) (by omega) (by omega)) | (exact cp_2 (by omega) (by omega) (by omega) (by omega) (by omega)) | (exact cp_3 (by omega) (by omega) (by omega) (by omega) (by omega) (by omega)) | (exact cp_4 (by omega) (by omega) (by omega) (by omega) (by omega) (by omega)) | omega)
        · skip
          have t66 := inle (a := 0) (b := (v_lanes (Int32.toNatClampNeg p3)).toInt) rfl rfl c17
          have t67 : ((-11) : Int32).toInt = (-11) := rfl
          exact hk _ _ _ (by first | assumption | (exact cp_0 (by omega) (by omega)) | (exact cp_1 (by omega) (by omega) (by omega)) | (exact cp_2 (by omega) (by omega) (by omega) (by omega) (by omega)) | (exact cp_3 (by omega) (by omega) (by omega) (by omega) (by omega) (by omega)) | (exact cp_4 (by omega) (by omega) (by omega) (by omega) (by omega) (by omega)) | omega)
    · skip
      have t68 := ieq (a := r3.toInt) (b := 0) rfl rfl c11
      rcases q10 with q10 | q10
      · exfalso; omega
      have t69 : ((-1) : Int32).toInt = (-1) := rfl
      exact hk _ _ _ (by first | assumption | (exact cp_0 (by omega) (by omega)) | (exact cp_1 (by omega) (by omega) (by omega)) | (exact cp_2 (by omega) (by omega) (by omega) (by omega) (by omega)) | (exact cp_3 (by omega) (by omega) (by omega) (by omega) (by omega) (by omega)) | (exact cp_4 (by omega) (by omega) (by omega) (by omega) (by omega) (by omega)) | omega)
