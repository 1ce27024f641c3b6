set_option maxHeartbeats 1000000 in
set_option maxRecDepth 10000 in
theorem s_X2_become {v_windows : Int32} {v_dials : Nat → Int32} {v_clocks : Int32} {v_kind : Nat → Int32} {v_hands : Nat → Int32} {v_rate : Nat → Int32} {v_spring : Nat → Int32} {v_window : Nat → Int32} {v_finish : Nat → Int32} {v_skies : Int32} {v_sky : Nat → Int32} {v_hour : Int32} {v_heard : Int32} {v_strokes : Int32} {p1_windows : Int32} {p1_dials : Nat → Int32} {p1_clocks : Int32} {p1_kind : Nat → Int32} {p1_hands : Nat → Int32} {p1_rate : Nat → Int32} {p1_spring : Nat → Int32} {p1_window : Nat → Int32} {p1_finish : Nat → Int32} {p1_skies : Int32} {p1_sky : Nat → Int32} {p1_hour : Int32} {p1_heard : Int32} {p1_strokes : Int32} {post : (Int32) → (Nat → Int32) → (Int32) → (Nat → Int32) → (Nat → Int32) → (Nat → Int32) → (Nat → Int32) → (Nat → Int32) → (Nat → Int32) → (Int32) → (Nat → Int32) → (Int32) → (Int32) → (Int32) → Prop} (hp0 : AB v_window 0 v_clocks.toInt 0 (v_windows.toInt - 1)) (hp1 : 2 ≤ v_windows.toInt) (hp2 : v_windows.toInt ≤ 24) (hp3 : 0 ≤ v_clocks.toInt) (hp4 : v_clocks.toInt ≤ 9) (hp5 : 1 ≤ v_skies.toInt) (hp6 : v_skies.toInt ≤ 12) (hp7 : 0 ≤ v_hour.toInt) (hp8 : AB p1_window 0 p1_clocks.toInt 0 (p1_windows.toInt - 1)) (hp9 : 2 ≤ p1_windows.toInt) (hp10 : p1_windows.toInt ≤ 24) (hp11 : 0 ≤ p1_clocks.toInt) (hp12 : p1_clocks.toInt ≤ 9) (hp13 : 1 ≤ p1_skies.toInt) (hp14 : p1_skies.toInt ≤ 12) (hp15 : 0 ≤ p1_hour.toInt) (hk : ∀ (v_windows' : Int32) (v_dials' : Nat → Int32) (v_clocks' : Int32) (v_kind' : Nat → Int32) (v_hands' : Nat → Int32) (v_rate' : Nat → Int32) (v_spring' : Nat → Int32) (v_window' : Nat → Int32) (v_finish' : Nat → Int32) (v_skies' : Int32) (v_sky' : Nat → Int32) (v_hour' : Int32) (v_heard' : Int32) (v_strokes' : Int32), (AB v_window' 0 v_clocks'.toInt 0 (v_windows'.toInt - 1)) → (2 ≤ v_windows'.toInt) → (v_windows'.toInt ≤ 24) → (0 ≤ v_clocks'.toInt) → (v_clocks'.toInt ≤ 9) → (1 ≤ v_skies'.toInt) → (v_skies'.toInt ≤ 12) → (0 ≤ v_hour'.toInt) → (v_hour'.toInt = p1_hour.toInt) → (v_clocks'.toInt = p1_clocks.toInt) → (v_windows'.toInt = p1_windows.toInt) → (v_skies'.toInt = p1_skies.toInt) → post v_windows' v_dials' v_clocks' v_kind' v_hands' v_rate' v_spring' v_window' v_finish' v_skies' v_sky' v_hour' v_heard' v_strokes') : wp_X2_become v_windows v_dials v_clocks v_kind v_hands v_rate v_spring v_window v_finish v_skies v_sky v_hour v_heard v_strokes p1_windows p1_dials p1_clocks p1_kind p1_hands p1_rate p1_spring p1_window p1_finish p1_skies p1_sky p1_hour p1_heard p1_strokes post := by
  unfold wp_X2_become
  have t1 : ((Int32.toNatClampNeg 0 : Nat) : Int) = 0 := itn rfl (by omega)
  have t2 : ((Int32.toNatClampNeg p1_windows : Nat) : Int) = p1_windows.toInt := itn rfl (by omega)
  refine ⟨fun h0 => absurd (ilt (a := 0) (b := 0) rfl rfl h0) (by omega), fun h0 => absurd (ilt (a := 0) (b := 0) rfl rfl h0) (by omega), fun h0 => absurd (ilt (a := p1_windows.toInt) (b := 0) rfl rfl h0) (by omega), by omega, by omega, ?_⟩
  intro f1 ef1
  have t3 : ((Int32.toNatClampNeg p1_clocks : Nat) : Int) = p1_clocks.toInt := itn rfl (by omega)
  refine ⟨fun h0 => absurd (ilt (a := 0) (b := 0) rfl rfl h0) (by omega), fun h0 => absurd (ilt (a := 0) (b := 0) rfl rfl h0) (by omega), fun h0 => absurd (ilt (a := p1_clocks.toInt) (b := 0) rfl rfl h0) (by omega), by omega, by omega, ?_⟩
  intro f2 ef2
  refine ⟨fun h0 => absurd (ilt (a := 0) (b := 0) rfl rfl h0) (by omega), fun h0 => absurd (ilt (a := 0) (b := 0) rfl rfl h0) (by omega), fun h0 => absurd (ilt (a := p1_clocks.toInt) (b := 0) rfl rfl h0) (by omega), by omega, by omega, ?_⟩
  intro f3 ef3
  refine ⟨fun h0 => absurd (ilt (a := 0) (b := 0) rfl rfl h0) (by omega), fun h0 => absurd (ilt (a := 0) (b := 0) rfl rfl h0) (by omega), fun h0 => absurd (ilt (a := p1_clocks.toInt) (b := 0) rfl rfl h0) (by omega), by omega, by omega, ?_⟩
  intro f4 ef4
  refine ⟨fun h0 => absurd (ilt (a := 0) (b := 0) rfl rfl h0) (by omega), fun h0 => absurd (ilt (a := 0) (b := 0) rfl rfl h0) (by omega), fun h0 => absurd (ilt (a := p1_clocks.toInt) (b := 0) rfl rfl h0) (by omega), by omega, by omega, ?_⟩
  intro f5 ef5
  refine ⟨fun h0 => absurd (ilt (a := 0) (b := 0) rfl rfl h0) (by omega), fun h0 => absurd (ilt (a := 0) (b := 0) rfl rfl h0) (by omega), fun h0 => absurd (ilt (a := p1_clocks.toInt) (b := 0) rfl rfl h0) (by omega), by omega, by omega, ?_⟩
  intro f6 ef6
  try have q4 : AB f6 0 p1_clocks.toInt 0 (p1_windows.toInt - 1) := by rw [ef6]; first | exact AB.cpy (by assumption) (by omega) | exact AB.cpy2 (by assumption) (by assumption) (by omega) | exact AB.none (by omega)
  refine ⟨fun h0 => absurd (ilt (a := 0) (b := 0) rfl rfl h0) (by omega), fun h0 => absurd (ilt (a := 0) (b := 0) rfl rfl h0) (by omega), fun h0 => absurd (ilt (a := p1_clocks.toInt) (b := 0) rfl rfl h0) (by omega), by omega, by omega, ?_⟩
  intro f7 ef7
  have t5 : ((Int32.toNatClampNeg p1_skies : Nat) : Int) = p1_skies.toInt := itn rfl (by omega)
  refine ⟨fun h0 => absurd (ilt (a := 0) (b := 0) rfl rfl h0) (by omega), fun h0 => absurd (ilt (a := 0) (b := 0) rfl rfl h0) (by omega), fun h0 => absurd (ilt (a := p1_skies.toInt) (b := 0) rfl rfl h0) (by omega), by omega, by omega, ?_⟩
  intro f8 ef8
  exact hk _ _ _ _ _ _ _ _ _ _ _ _ _ _ (by first | omega | assumption | exact AB.none (by omega) | exact AB.mono (by assumption) (by omega) (by omega) (by omega) (by omega) | exact RB.none (by omega) | exact RB.mono (by assumption) (by omega) | exact UB.none (by omega) | exact UB.mono (by assumption) (by omega) | exact EQ.none (by omega) | exact EQ.mono (by assumption) (by omega)) (by first | omega | assumption | exact AB.none (by omega) | exact AB.mono (by assumption) (by omega) (by omega) (by omega) (by omega) | exact RB.none (by omega) | exact RB.mono (by assumption) (by omega) | exact UB.none (by omega) | exact UB.mono (by assumption) (by omega) | exact EQ.none (by omega) | exact EQ.mono (by assumption) (by omega)) (by first | omega | assumption | exact AB.none (by omega) | exact AB.mono (by assumption) (by omega) (by omega) (by omega) (by omega) | exact RB.none (by omega) | exact RB.mono (by assumption) (by omega) | exact UB.none (by omega) | exact UB.mono (by assumption) (by omega) | exact EQ.none (by omega) | exact EQ.mono (by assumption) (by omega)) (by first | omega | assumption | exact AB.none (by omega) | exact AB.mono (by assumption) (by omega) (by omega) (by omega) (by omega) | exact RB.none (by omega) | exact RB.mono (by assumption) (by omega) | exact UB.none (by omega) | exact UB.mono (by assumption) (by omega) | exact EQ.none (by omega) | exact EQ.mono (by assumption) (by omega)) (by first | omega | assumption | exact AB.none (by omega) | exact AB.mono (by assumption) (by omega) (by omega) (by omega) (by omega) | exact RB.none (by omega) | exact RB.mono (by assumption) (by omega) | exact UB.none (by omega) | exact UB.mono (by assumption) (by omega) | exact EQ.none (by omega) | exact EQ.mono (by assumption) (by omega)) (by first | omega | assumption | exact AB.none (by omega) | exact AB.mono (by assumption) (by omega) (by omega) (by omega) (by omega) | exact RB.none (by omega) | exact RB.mono (by assumption) (by omega) | exact UB.none (by omega) | exact UB.mono (by assumption) (by omega) | exact EQ.none (by omega) | exact EQ.mono (by assumption) (by omega)) (by first | omega | assumption | exact AB.none (by omega) | exact AB.mono (by assumption) (by omega) (by omega) (by omega) (by omega) | exact RB.none (by omega) | exact RB.mono (by assumption) (by omega) | exact UB.none (by omega) | exact UB.mono (by assumption) (by omega) | exact EQ.none (by omega) | exact EQ.mono (by assumption) (by omega)) (by first | omega | assumption | exact AB.none (by omega) | exact AB.mono (by assumption) (by omega) (by omega) (by omega) (by omega) | exact RB.none (by omega) | exact RB.mono (by assumption) (by omega) | exact UB.none (by omega) | exact UB.mono (by assumption) (by omega) | exact EQ.none (by omega) | exact EQ.mono (by assumption) (by omega)) (by first | omega | assumption | exact AB.none (by omega) | exact AB.mono (by assumption) (by omega) (by omega) (by omega) (by omega) | exact RB.none (by omega) | exact RB.mono (by assumption) (by omega) | exact UB.none (by omega) | exact UB.mono (by assumption) (by omega) | exact EQ.none (by omega) | exact EQ.mono (by assumption) (by omega)) (by first | omega | assumption | exact AB.none (by omega) | exact AB.mono (by assumption) (by omega) (by omega) (by omega) (by omega) | exact RB.none (by omega) | exact RB.mono (by assumption) (by omega) | exact UB.none (by omega) | exact UB.mono (by assumption) (by omega) | exact EQ.none (by omega) | exact EQ.mono (by assumption) (by omega)) (by first | omega | assumption | exact AB.none (by omega) | exact AB.mono (by assumption) (by omega) (by omega) (by omega) (by omega) | exact RB.none (by omega) | exact RB.mono (by assumption) (by omega) | exact UB.none (by omega) | exact UB.mono (by assumption) (by omega) | exact EQ.none (by omega) | exact EQ.mono (by assumption) (by omega)) (by first | omega | assumption | exact AB.none (by omega) | exact AB.mono (by assumption) (by omega) (by omega) (by omega) (by omega) | exact RB.none (by omega) | exact RB.mono (by assumption) (by omega) | exact UB.none (by omega) | exact UB.mono (by assumption) (by omega) | exact EQ.none (by omega) | exact EQ.mono (by assumption) (by omega))
set_option maxHeartbeats 1000000 in
set_option maxRecDepth 10000 in
theorem s_X2_add {p1 : Int32} {p2 : Int32} {p3 : Int32} {p4 : Int32} {v_clocks : Int32} {v_kind : Nat → Int32} {v_hands : Nat → Int32} {v_rate : Nat → Int32} {v_spring : Nat → Int32} {v_window : Nat → Int32} {v_finish : Nat → Int32} {gh_v_windows : Int} {post : Int32 → (Int32) → (Nat → Int32) → (Nat → Int32) → (Nat → Int32) → (Nat → Int32) → (Nat → Int32) → (Nat → Int32) → Prop} (hp0 : AB v_window 0 v_clocks.toInt 0 (gh_v_windows - 1)) (hp1 : 2 ≤ gh_v_windows) (hp2 : gh_v_windows ≤ 24) (hp3 : 0 ≤ v_clocks.toInt) (hp4 : v_clocks.toInt ≤ 9) (hp5 : v_clocks.toInt ≤ 8) (hk : ∀ (r : Int32) (v_clocks' : Int32) (v_kind' : Nat → Int32) (v_hands' : Nat → Int32) (v_rate' : Nat → Int32) (v_spring' : Nat → Int32) (v_window' : Nat → Int32) (v_finish' : Nat → Int32), (AB v_window' 0 v_clocks'.toInt 0 (gh_v_windows - 1)) → (0 ≤ v_clocks'.toInt) → (v_clocks'.toInt ≤ 9) → (r.toInt = v_clocks.toInt) → (v_clocks'.toInt = v_clocks.toInt + 1) → post r v_clocks' v_kind' v_hands' v_rate' v_spring' v_window' v_finish') : wp_X2_add p1 p2 p3 p4 v_clocks v_kind v_hands v_rate v_spring v_window v_finish post := by
  unfold wp_X2_add
  have rp1 := Int32.toInt_lt p1
  have rq1 := Int32.le_toInt p1
  have rp2 := Int32.toInt_lt p2
  have rq2 := Int32.le_toInt p2
  have rp3 := Int32.toInt_lt p3
  have rq3 := Int32.le_toInt p3
  have rp4 := Int32.toInt_lt p4
  have rq4 := Int32.le_toInt p4
  refine ⟨ivp (a := v_clocks.toInt) rfl (by omega) (by omega), ?_⟩
  intro f1 ef1
  have t1 : ((Int32.toNatClampNeg v_clocks : Nat) : Int) = v_clocks.toInt := itn rfl (by omega)
  have t2 : (f1 (Int32.toNatClampNeg v_clocks)).toInt = p1.toInt := by rw [ef1, upd_eq] <;> rfl
  refine ⟨ivp (a := v_clocks.toInt) rfl (by omega) (by omega), ?_⟩
  intro f2 ef2
  have t3 : ((Int32.toNatClampNeg v_clocks : Nat) : Int) = v_clocks.toInt := itn rfl (by omega)
  have t4 : (f2 (Int32.toNatClampNeg v_clocks)).toInt = p2.toInt := by rw [ef2, upd_eq] <;> rfl
  refine ⟨ivp (a := v_clocks.toInt) rfl (by omega) (by omega), ?_⟩
  intro f3 ef3
  have t5 : ((Int32.toNatClampNeg v_clocks : Nat) : Int) = v_clocks.toInt := itn rfl (by omega)
  have t6 : (f3 (Int32.toNatClampNeg v_clocks)).toInt = p3.toInt := by rw [ef3, upd_eq] <;> rfl
  refine ⟨ivp (a := v_clocks.toInt) rfl (by omega) (by omega), ?_⟩
  intro f4 ef4
  have t7 : ((Int32.toNatClampNeg v_clocks : Nat) : Int) = v_clocks.toInt := itn rfl (by omega)
  have t8 : (f4 (Int32.toNatClampNeg v_clocks)).toInt = p4.toInt := by rw [ef4, upd_eq] <;> rfl
  refine ⟨ivp (a := v_clocks.toInt) rfl (by omega) (by omega), ?_⟩
  intro f5 ef5
  have t9 : ((Int32.toNatClampNeg v_clocks : Nat) : Int) = v_clocks.toInt := itn rfl (by omega)
  have t10 : (f5 (Int32.toNatClampNeg v_clocks)).toInt = 0 := by rw [ef5, upd_eq] <;> rfl
  try have q11 : AB f5 0 (v_clocks.toInt + 1) 0 (gh_v_windows - 1) := by rw [ef5]; exact AB.push (a := 0) (by assumption) (by omega) rfl (by decide) (by omega)
  try have q12 : AB f5 0 v_clocks.toInt 0 (gh_v_windows - 1) := by rw [ef5]; first | exact AB.updo (by assumption) (by omega) | exact AB.updv (by assumption) rfl (by omega) (by omega) | exact AB.none (by omega) | exact AB.updo (AB.mono (by assumption) (by omega) (by omega) (by omega) (by omega)) (by omega)
  refine ⟨ivp (a := v_clocks.toInt) rfl (by omega) (by omega), ?_⟩
  intro f6 ef6
  have t13 : ((Int32.toNatClampNeg v_clocks : Nat) : Int) = v_clocks.toInt := itn rfl (by omega)
  have t14 : (f6 (Int32.toNatClampNeg v_clocks)).toInt = 0 := by rw [ef6, upd_eq] <;> rfl
  try have t15 : (v_clocks + 1).toInt = v_clocks.toInt + 1 := ia rfl rfl (by omega) (by omega)
  intro z7 ez7
  have t16 : z7.toInt = (v_clocks + 1).toInt := by rw [ez7] <;> rfl
  exact hk _ _ _ _ _ _ _ _ (by first | omega | assumption | exact AB.mono (n := v_clocks.toInt + 1) (by assumption) (by omega) (by omega) (by omega) (by omega) | exact AB.none (by omega) | exact AB.mono (by assumption) (by omega) (by omega) (by omega) (by omega) | exact RB.none (by omega) | exact RB.mono (by assumption) (by omega) | exact UB.none (by omega) | exact UB.mono (by assumption) (by omega) | exact EQ.none (by omega) | exact EQ.mono (by assumption) (by omega)) (by first | omega | assumption | exact AB.mono (n := v_clocks.toInt + 1) (by assumption) (by omega) (by omega) (by omega) (by omega) | exact AB.none (by omega) | exact AB.mono (by assumption) (by omega) (by omega) (by omega) (by omega) | exact RB.none (by omega) | exact RB.mono (by assumption) (by omega) | exact UB.none (by omega) | exact UB.mono (by assumption) (by omega) | exact EQ.none (by omega) | exact EQ.mono (by assumption) (by omega)) (by first | omega | assumption | exact AB.mono (n := v_clocks.toInt + 1) (by assumption) (by omega) (by omega) (by omega) (by omega) | exact AB.none (by omega) | exact AB.mono (by assumption) (by omega) (by omega) (by omega) (by omega) | exact RB.none (by omega) | exact RB.mono (by assumption) (by omega) | exact UB.none (by omega) | exact UB.mono (by assumption) (by omega) | exact EQ.none (by omega) | exact EQ.mono (by assumption) (by omega)) (by first | omega | assumption | exact AB.mono (n := v_clocks.toInt + 1) (by assumption) (by omega) (by omega) (by omega) (by omega) | exact AB.none (by omega) | exact AB.mono (by assumption) (by omega) (by omega) (by omega) (by omega) | exact RB.none (by omega) | exact RB.mono (by assumption) (by omega) | exact UB.none (by omega) | exact UB.mono (by assumption) (by omega) | exact EQ.none (by omega) | exact EQ.mono (by assumption) (by omega)) (by first | omega | assumption | exact AB.mono (n := v_clocks.toInt + 1) (by assumption) (by omega) (by omega) (by omega) (by omega) | exact AB.none (by omega) | exact AB.mono (by assumption) (by omega) (by omega) (by omega) (by omega) | exact RB.none (by omega) | exact RB.mono (by assumption) (by omega) | exact UB.none (by omega) | exact UB.mono (by assumption) (by omega) | exact EQ.none (by omega) | exact EQ.mono (by assumption) (by omega))
set_option maxHeartbeats 1000000 in
set_option maxRecDepth 10000 in
theorem s_X2_removeLast {v_clocks : Int32} {v_heard : Int32} {post : (Int32) → (Int32) → Prop} (hp0 : 0 ≤ v_clocks.toInt) (hp1 : v_clocks.toInt ≤ 9) (hp2 : 1 ≤ v_clocks.toInt) (hk : ∀ (v_clocks' : Int32) (v_heard' : Int32), (0 ≤ v_clocks'.toInt) → (v_clocks'.toInt ≤ 9) → (v_clocks'.toInt = v_clocks.toInt - 1) → post v_clocks' v_heard') : wp_X2_removeLast v_clocks v_heard post := by
  unfold wp_X2_removeLast
  try have t1 : (v_clocks - 1).toInt = v_clocks.toInt - 1 := isb rfl rfl (by omega) (by omega)
  have t2 := isbi (x := v_clocks) (y := 1) (b := 1) rfl
  intro z1 ez1
  have t3 : z1.toInt = (v_clocks - 1).toInt := by rw [ez1] <;> rfl
  try have t4 := i1s (x := z1) (a := z1.toInt) rfl (by omega) (by omega)
  intro z2 ez2
  have t5 : z2.toInt = (v_heard &&& ((1 <<< (z1 &&& 31)) ^^^ (-1))).toInt := by rw [ez2] <;> rfl
  exact hk _ _ (by first | omega | assumption | exact AB.none (by omega) | exact AB.mono (by assumption) (by omega) (by omega) (by omega) (by omega) | exact RB.none (by omega) | exact RB.mono (by assumption) (by omega) | exact UB.none (by omega) | exact UB.mono (by assumption) (by omega) | exact EQ.none (by omega) | exact EQ.mono (by assumption) (by omega)) (by first | omega | assumption | exact AB.none (by omega) | exact AB.mono (by assumption) (by omega) (by omega) (by omega) (by omega) | exact RB.none (by omega) | exact RB.mono (by assumption) (by omega) | exact UB.none (by omega) | exact UB.mono (by assumption) (by omega) | exact EQ.none (by omega) | exact EQ.mono (by assumption) (by omega)) (by first | omega | assumption | exact AB.none (by omega) | exact AB.mono (by assumption) (by omega) (by omega) (by omega) (by omega) | exact RB.none (by omega) | exact RB.mono (by assumption) (by omega) | exact UB.none (by omega) | exact UB.mono (by assumption) (by omega) | exact EQ.none (by omega) | exact EQ.mono (by assumption) (by omega))
set_option maxHeartbeats 1000000 in
set_option maxRecDepth 10000 in
theorem s_X2_toStart {v_clocks : Int32} {v_window : Nat → Int32} {v_finish : Nat → Int32} {gh_v_windows : Int} {post : (Nat → Int32) → (Nat → Int32) → Prop} (hp0 : AB v_window 0 v_clocks.toInt 0 (gh_v_windows - 1)) (hp1 : 2 ≤ gh_v_windows) (hp2 : gh_v_windows ≤ 24) (hp3 : 0 ≤ v_clocks.toInt) (hp4 : v_clocks.toInt ≤ 9) (hk : ∀ (v_window' : Nat → Int32) (v_finish' : Nat → Int32), (AB v_window' 0 v_clocks.toInt 0 (gh_v_windows - 1)) → (AB v_window' 0 v_clocks.toInt 0 0) → post v_window' v_finish') : wp_X2_toStart v_clocks v_window v_finish post := by
  unfold wp_X2_toStart
  have t1 : ((0 : Int32)).toInt = 0 := rfl
  refine ⟨fun n1 x1_1 v_window_1 v_finish_1 => n1 = (v_clocks.toInt - x1_1.toInt).toNat ∧ (AB v_window_1 0 v_clocks.toInt 0 (gh_v_windows - 1)) ∧ (0 ≤ x1_1.toInt) ∧ (AB v_window_1 0 x1_1.toInt 0 0) ∧ (x1_1.toInt ≤ v_clocks.toInt), ⟨_, rfl, by first | omega | assumption | exact AB.mono (n := x1_1.toInt + 1) (lo := 0) (hi := 0) (by assumption) (by omega) (by omega) (by omega) (by omega) | exact AB.mono (n := x1_1.toInt) (lo := 0) (hi := 0) (by assumption) (by omega) (by omega) (by omega) (by omega) | exact AB.none (by omega) | exact AB.mono (by assumption) (by omega) (by omega) (by omega) (by omega) | exact RB.none (by omega) | exact RB.mono (by assumption) (by omega) | exact UB.none (by omega) | exact UB.mono (by assumption) (by omega) | exact EQ.none (by omega) | exact EQ.mono (by assumption) (by omega), by first | omega | assumption | exact AB.mono (n := x1_1.toInt + 1) (lo := 0) (hi := 0) (by assumption) (by omega) (by omega) (by omega) (by omega) | exact AB.mono (n := x1_1.toInt) (lo := 0) (hi := 0) (by assumption) (by omega) (by omega) (by omega) (by omega) | exact AB.none (by omega) | exact AB.mono (by assumption) (by omega) (by omega) (by omega) (by omega) | exact RB.none (by omega) | exact RB.mono (by assumption) (by omega) | exact UB.none (by omega) | exact UB.mono (by assumption) (by omega) | exact EQ.none (by omega) | exact EQ.mono (by assumption) (by omega), by first | omega | assumption | exact AB.mono (n := x1_1.toInt + 1) (lo := 0) (hi := 0) (by assumption) (by omega) (by omega) (by omega) (by omega) | exact AB.mono (n := x1_1.toInt) (lo := 0) (hi := 0) (by assumption) (by omega) (by omega) (by omega) (by omega) | exact AB.none (by omega) | exact AB.mono (by assumption) (by omega) (by omega) (by omega) (by omega) | exact RB.none (by omega) | exact RB.mono (by assumption) (by omega) | exact UB.none (by omega) | exact UB.mono (by assumption) (by omega) | exact EQ.none (by omega) | exact EQ.mono (by assumption) (by omega), by first | omega | assumption | exact AB.mono (n := x1_1.toInt + 1) (lo := 0) (hi := 0) (by assumption) (by omega) (by omega) (by omega) (by omega) | exact AB.mono (n := x1_1.toInt) (lo := 0) (hi := 0) (by assumption) (by omega) (by omega) (by omega) (by omega) | exact AB.none (by omega) | exact AB.mono (by assumption) (by omega) (by omega) (by omega) (by omega) | exact RB.none (by omega) | exact RB.mono (by assumption) (by omega) | exact UB.none (by omega) | exact UB.mono (by assumption) (by omega) | exact EQ.none (by omega) | exact EQ.mono (by assumption) (by omega)⟩, ?_⟩
  rintro n1 x1_1 v_window_1 v_finish_1 ⟨hn1, q2, q3, q4, q5⟩
  refine ⟨fun c6 => ?_, fun c6 => ?_⟩
  · skip
    have t7 := ile (a := v_clocks.toInt) (b := x1_1.toInt) rfl rfl c6
    exact hk _ _ (by first | omega | assumption | exact AB.mono (n := x1_1.toInt + 1) (lo := 0) (hi := 0) (by assumption) (by omega) (by omega) (by omega) (by omega) | exact AB.mono (n := x1_1.toInt) (lo := 0) (hi := 0) (by assumption) (by omega) (by omega) (by omega) (by omega) | exact AB.none (by omega) | exact AB.mono (by assumption) (by omega) (by omega) (by omega) (by omega) | exact RB.none (by omega) | exact RB.mono (by assumption) (by omega) | exact UB.none (by omega) | exact UB.mono (by assumption) (by omega) | exact EQ.none (by omega) | exact EQ.mono (by assumption) (by omega)) (by first | omega | assumption | exact AB.mono (n := x1_1.toInt + 1) (lo := 0) (hi := 0) (by assumption) (by omega) (by omega) (by omega) (by omega) | exact AB.mono (n := x1_1.toInt) (lo := 0) (hi := 0) (by assumption) (by omega) (by omega) (by omega) (by omega) | exact AB.none (by omega) | exact AB.mono (by assumption) (by omega) (by omega) (by omega) (by omega) | exact RB.none (by omega) | exact RB.mono (by assumption) (by omega) | exact UB.none (by omega) | exact UB.mono (by assumption) (by omega) | exact EQ.none (by omega) | exact EQ.mono (by assumption) (by omega))
  · skip
    have t8 := inle (a := v_clocks.toInt) (b := x1_1.toInt) rfl rfl c6
    refine ⟨ivp (a := x1_1.toInt) rfl (by omega) (by omega), ?_⟩
    intro f3 ef3
    have t9 : ((Int32.toNatClampNeg x1_1 : Nat) : Int) = x1_1.toInt := itn rfl (by omega)
    have t10 : (f3 (Int32.toNatClampNeg x1_1)).toInt = 0 := by rw [ef3, upd_eq] <;> rfl
    try have q11 : AB f3 0 (x1_1.toInt + 1) 0 0 := by rw [ef3]; exact AB.push (by assumption : AB v_window_1 0 x1_1.toInt 0 0) (by omega) rfl (by decide) (by decide)
    try have q12 : AB f3 0 v_clocks.toInt 0 (gh_v_windows - 1) := by rw [ef3]; first | exact AB.updo (by assumption) (by omega) | exact AB.updv (by assumption) rfl (by omega) (by omega) | exact AB.none (by omega) | exact AB.updo (AB.mono (by assumption) (by omega) (by omega) (by omega) (by omega)) (by omega)
    refine ⟨ivp (a := x1_1.toInt) rfl (by omega) (by omega), ?_⟩
    intro f4 ef4
    have t13 : ((Int32.toNatClampNeg x1_1 : Nat) : Int) = x1_1.toInt := itn rfl (by omega)
    have t14 : (f4 (Int32.toNatClampNeg x1_1)).toInt = 0 := by rw [ef4, upd_eq] <;> rfl
    try have t15 : (x1_1 + 1).toInt = x1_1.toInt + 1 := ia rfl rfl (by omega) (by omega)
    intro z5 ez5
    have t16 : z5.toInt = (x1_1 + 1).toInt := by rw [ez5] <;> rfl
    refine ⟨_, ?_, rfl, by first | omega | assumption | exact AB.mono (n := x1_1.toInt + 1) (lo := 0) (hi := 0) (by assumption) (by omega) (by omega) (by omega) (by omega) | exact AB.mono (n := x1_1.toInt) (lo := 0) (hi := 0) (by assumption) (by omega) (by omega) (by omega) (by omega) | exact AB.none (by omega) | exact AB.mono (by assumption) (by omega) (by omega) (by omega) (by omega) | exact RB.none (by omega) | exact RB.mono (by assumption) (by omega) | exact UB.none (by omega) | exact UB.mono (by assumption) (by omega) | exact EQ.none (by omega) | exact EQ.mono (by assumption) (by omega), by first | omega | assumption | exact AB.mono (n := x1_1.toInt + 1) (lo := 0) (hi := 0) (by assumption) (by omega) (by omega) (by omega) (by omega) | exact AB.mono (n := x1_1.toInt) (lo := 0) (hi := 0) (by assumption) (by omega) (by omega) (by omega) (by omega) | exact AB.none (by omega) | exact AB.mono (by assumption) (by omega) (by omega) (by omega) (by omega) | exact RB.none (by omega) | exact RB.mono (by assumption) (by omega) | exact UB.none (by omega) | exact UB.mono (by assumption) (by omega) | exact EQ.none (by omega) | exact EQ.mono (by assumption) (by omega), by first | omega | assumption | exact AB.mono (n := x1_1.toInt + 1) (lo := 0) (hi := 0) (by assumption) (by omega) (by omega) (by omega) (by omega) | exact AB.mono (n := x1_1.toInt) (lo := 0) (hi := 0) (by assumption) (by omega) (by omega) (by omega) (by omega) | exact AB.none (by omega) | exact AB.mono (by assumption) (by omega) (by omega) (by omega) (by omega) | exact RB.none (by omega) | exact RB.mono (by assumption) (by omega) | exact UB.none (by omega) | exact UB.mono (by assumption) (by omega) | exact EQ.none (by omega) | exact EQ.mono (by assumption) (by omega), by first | omega | assumption | exact AB.mono (n := x1_1.toInt + 1) (lo := 0) (hi := 0) (by assumption) (by omega) (by omega) (by omega) (by omega) | exact AB.mono (n := x1_1.toInt) (lo := 0) (hi := 0) (by assumption) (by omega) (by omega) (by omega) (by omega) | exact AB.none (by omega) | exact AB.mono (by assumption) (by omega) (by omega) (by omega) (by omega) | exact RB.none (by omega) | exact RB.mono (by assumption) (by omega) | exact UB.none (by omega) | exact UB.mono (by assumption) (by omega) | exact EQ.none (by omega) | exact EQ.mono (by assumption) (by omega)⟩
    omega
set_option maxHeartbeats 1000000 in
set_option maxRecDepth 10000 in
theorem s_X2_hush {v_heard : Int32} {v_strokes : Int32} {post : (Int32) → (Int32) → Prop} (hk : ∀ (v_heard' : Int32) (v_strokes' : Int32), post v_heard' v_strokes') : wp_X2_hush v_heard v_strokes post := by
  unfold wp_X2_hush
  have t1 : (0 : Int32).toInt = 0 := rfl
  exact hk _ _
set_option maxHeartbeats 1000000 in
set_option maxRecDepth 10000 in
theorem s_X2_weatherAt {p1 : Int32} {v_skies : Int32} {v_sky : Nat → Int32} {post : Int32 → Prop} (hp0 : 1 ≤ v_skies.toInt) (hp1 : v_skies.toInt ≤ 12) (hp2 : 0 ≤ p1.toInt) (hk : ∀ (r : Int32), post r) : wp_X2_weatherAt p1 v_skies v_sky post := by
  unfold wp_X2_weatherAt
  have rp1 := Int32.toInt_lt p1
  have rq1 := Int32.le_toInt p1
  refine ⟨fun c1 => ?_, fun c1 => ?_⟩
  · skip
    have t2 := ile (a := v_skies.toInt) (b := 0) rfl rfl c1
    have t3 : (0 : Int32).toInt = 0 := rfl
    exact hk _
  · skip
    have t4 := inle (a := v_skies.toInt) (b := 0) rfl rfl c1
    refine ⟨fun h0 => absurd (ieq (a := v_skies.toInt) (b := 0) rfl rfl h0) (by omega), ?_⟩
    try have t5 := irb (x := p1) (y := v_skies) (a := p1.toInt) (b := v_skies.toInt) rfl rfl (by omega) (by omega)
    refine ⟨ivp (a := (p1 - p1 / v_skies * v_skies).toInt) rfl (by omega) (by omega), ?_⟩
    exact hk _
set_option maxHeartbeats 1000000 in
set_option maxRecDepth 10000 in
theorem s_X2_trueMinutes {v_hour : Int32} {post : Int32 → Prop} (hp0 : 0 ≤ v_hour.toInt) (hk : ∀ (r : Int32), post r) : wp_X2_trueMinutes v_hour post := by
  unfold wp_X2_trueMinutes
  try have t1 : (60 * v_hour).toInt = 60 * v_hour.toInt := im rfl rfl (by omega) (by omega)
  try have t2 : ((60 * v_hour) - (60 * v_hour) / 720 * 720).toInt = (60 * v_hour).toInt % 720 := irm rfl rfl (by omega) (by omega)
  exact hk _
set_option maxHeartbeats 1000000 in
set_option maxRecDepth 10000 in
theorem s_X2_shownBy {p1 : Int32} {v_kind : Nat → Int32} {v_hands : Nat → Int32} {v_hour : Int32} {post : Int32 → Prop} (hp0 : 0 ≤ v_hour.toInt) (hp1 : 0 ≤ p1.toInt) (hp2 : p1.toInt ≤ 8) (hk : ∀ (r : Int32), post r) : wp_X2_shownBy p1 v_kind v_hands v_hour post := by
  unfold wp_X2_shownBy
  have rp1 := Int32.toInt_lt p1
  have rq1 := Int32.le_toInt p1
  refine ⟨fun n1 x2_1 => n1 = (x2_1.toInt).toNat ∧ (0 ≤ x2_1.toInt) ∧ (x2_1.toInt ≤ 8), ⟨_, rfl, by first | omega | assumption | exact AB.none (by omega) | exact AB.mono (by assumption) (by omega) (by omega) (by omega) (by omega) | exact RB.none (by omega) | exact RB.mono (by assumption) (by omega) | exact UB.none (by omega) | exact UB.mono (by assumption) (by omega) | exact EQ.none (by omega) | exact EQ.mono (by assumption) (by omega), by first | omega | assumption | exact AB.none (by omega) | exact AB.mono (by assumption) (by omega) (by omega) (by omega) (by omega) | exact RB.none (by omega) | exact RB.mono (by assumption) (by omega) | exact UB.none (by omega) | exact UB.mono (by assumption) (by omega) | exact EQ.none (by omega) | exact EQ.mono (by assumption) (by omega)⟩, ?_⟩
  rintro n1 x2_1 ⟨hn1, q1, q2⟩
  refine ⟨(vp_in x2_1 9 ∧ ((¬ (v_kind (Int32.toNatClampNeg x2_1)) = 3 → (vp_in x2_1 9 ∧ (post (v_hands (Int32.toNatClampNeg x2_1)) ))) ∧
 ((v_kind (Int32.toNatClampNeg x2_1)) = 3 → (wp_X2_trueMinutes v_hour (fun (r4 : Int32) =>
 (post r4 )))))), fun h => h, ?_⟩
  refine ⟨fun c3 => ?_, fun c3 => ?_⟩
  · skip
    have t4 := ile (a := x2_1.toInt) (b := 0) rfl rfl c3
    show (vp_in x2_1 9 ∧ ((¬ (v_kind (Int32.toNatClampNeg x2_1)) = 3 → (vp_in x2_1 9 ∧ (post (v_hands (Int32.toNatClampNeg x2_1)) ))) ∧
 ((v_kind (Int32.toNatClampNeg x2_1)) = 3 → (wp_X2_trueMinutes v_hour (fun (r4 : Int32) =>
 (post r4 ))))))
    refine ⟨ivp (a := x2_1.toInt) rfl (by omega) (by omega), ?_⟩
    refine ⟨fun c5 => ?_, fun c5 => ?_⟩
    · skip
      have t6 := ine (a := (v_kind (Int32.toNatClampNeg x2_1)).toInt) (b := 3) rfl rfl c5
      refine ⟨ivp (a := x2_1.toInt) rfl (by omega) (by omega), ?_⟩
      exact hk _
    · skip
      have t7 := ieq (a := (v_kind (Int32.toNatClampNeg x2_1)).toInt) (b := 3) rfl rfl c5
      refine s_X2_trueMinutes (by first | omega | assumption | exact AB.none (by omega) | exact AB.mono (by assumption) (by omega) (by omega) (by omega) (by omega) | exact RB.none (by omega) | exact RB.mono (by assumption) (by omega) | exact UB.none (by omega) | exact UB.mono (by assumption) (by omega) | exact EQ.none (by omega) | exact EQ.mono (by assumption) (by omega)) (fun r4 => ?_)
      exact hk _
  · skip
    have t8 := inle (a := x2_1.toInt) (b := 0) rfl rfl c3
    refine ⟨ivp (a := x2_1.toInt) rfl (by omega) (by omega), ?_⟩
    refine ⟨fun c9 => ?_, fun c9 => ?_⟩
    · skip
      have t10 := ine (a := (v_kind (Int32.toNatClampNeg x2_1)).toInt) (b := 4) rfl rfl c9
      show (vp_in x2_1 9 ∧ ((¬ (v_kind (Int32.toNatClampNeg x2_1)) = 3 → (vp_in x2_1 9 ∧ (post (v_hands (Int32.toNatClampNeg x2_1)) ))) ∧
 ((v_kind (Int32.toNatClampNeg x2_1)) = 3 → (wp_X2_trueMinutes v_hour (fun (r4 : Int32) =>
 (post r4 ))))))
      refine ⟨ivp (a := x2_1.toInt) rfl (by omega) (by omega), ?_⟩
      refine ⟨fun c11 => ?_, fun c11 => ?_⟩
      · skip
        have t12 := ine (a := (v_kind (Int32.toNatClampNeg x2_1)).toInt) (b := 3) rfl rfl c11
        refine ⟨ivp (a := x2_1.toInt) rfl (by omega) (by omega), ?_⟩
        exact hk _
      · skip
        have t13 := ieq (a := (v_kind (Int32.toNatClampNeg x2_1)).toInt) (b := 3) rfl rfl c11
        refine s_X2_trueMinutes (by first | omega | assumption | exact AB.none (by omega) | exact AB.mono (by assumption) (by omega) (by omega) (by omega) (by omega) | exact RB.none (by omega) | exact RB.mono (by assumption) (by omega) | exact UB.none (by omega) | exact UB.mono (by assumption) (by omega) | exact EQ.none (by omega) | exact EQ.mono (by assumption) (by omega)) (fun r4 => ?_)
        exact hk _
    · skip
      have t14 := ieq (a := (v_kind (Int32.toNatClampNeg x2_1)).toInt) (b := 4) rfl rfl c9
      try have t15 : (x2_1 + (-1)).toInt = x2_1.toInt + (-1) := ia rfl rfl (by omega) (by omega)
      intro z7 ez7
      have t16 : z7.toInt = (x2_1 + (-1)).toInt := by rw [ez7] <;> rfl
      refine ⟨_, ?_, rfl, by first | omega | assumption | exact AB.none (by omega) | exact AB.mono (by assumption) (by omega) (by omega) (by omega) (by omega) | exact RB.none (by omega) | exact RB.mono (by assumption) (by omega) | exact UB.none (by omega) | exact UB.mono (by assumption) (by omega) | exact EQ.none (by omega) | exact EQ.mono (by assumption) (by omega), by first | omega | assumption | exact AB.none (by omega) | exact AB.mono (by assumption) (by omega) (by omega) (by omega) (by omega) | exact RB.none (by omega) | exact RB.mono (by assumption) (by omega) | exact UB.none (by omega) | exact UB.mono (by assumption) (by omega) | exact EQ.none (by omega) | exact EQ.mono (by assumption) (by omega)⟩
      omega
set_option maxHeartbeats 1000000 in
set_option maxRecDepth 10000 in
theorem s_X2_struckBy {p1 : Int32} {v_kind : Nat → Int32} {v_hands : Nat → Int32} {v_hour : Int32} {post : Int32 → Prop} (hp0 : 0 ≤ v_hour.toInt) (hp1 : 0 ≤ p1.toInt) (hp2 : p1.toInt ≤ 8) (hk : ∀ (r : Int32), post r) : wp_X2_struckBy p1 v_kind v_hands v_hour post := by
  unfold wp_X2_struckBy
  have rp1 := Int32.toInt_lt p1
  have rq1 := Int32.le_toInt p1
  refine s_X2_shownBy (by first | omega | assumption | exact AB.none (by omega) | exact AB.mono (by assumption) (by omega) (by omega) (by omega) (by omega) | exact RB.none (by omega) | exact RB.mono (by assumption) (by omega) | exact UB.none (by omega) | exact UB.mono (by assumption) (by omega) | exact EQ.none (by omega) | exact EQ.mono (by assumption) (by omega)) (by first | omega | assumption | exact AB.none (by omega) | exact AB.mono (by assumption) (by omega) (by omega) (by omega) (by omega) | exact RB.none (by omega) | exact RB.mono (by assumption) (by omega) | exact UB.none (by omega) | exact UB.mono (by assumption) (by omega) | exact EQ.none (by omega) | exact EQ.mono (by assumption) (by omega)) (by first | omega | assumption | exact AB.none (by omega) | exact AB.mono (by assumption) (by omega) (by omega) (by omega) (by omega) | exact RB.none (by omega) | exact RB.mono (by assumption) (by omega) | exact UB.none (by omega) | exact UB.mono (by assumption) (by omega) | exact EQ.none (by omega) | exact EQ.mono (by assumption) (by omega)) (fun r1 => ?_)
  try have t1 : (r1 / 60).toInt = r1.toInt / 60 := idv rfl rfl (by omega) (by omega)
  exact hk _
set_option maxHeartbeats 1000000 in
set_option maxRecDepth 10000 in
theorem s_X2_strokesFor {p1 : Int32} {post : Int32 → Prop} (hk : ∀ (r : Int32), post r) : wp_X2_strokesFor p1 post := by
  unfold wp_X2_strokesFor
  have rp1 := Int32.toInt_lt p1
  have rq1 := Int32.le_toInt p1
  refine ⟨fun c1 => ?_, fun c1 => ?_⟩
  · skip
    have t2 := ine (a := p1.toInt) (b := 0) rfl rfl c1
    exact hk _
  · skip
    have t3 := ieq (a := p1.toInt) (b := 0) rfl rfl c1
    have t4 : (12 : Int32).toInt = 12 := rfl
    exact hk _
set_option maxHeartbeats 1000000 in
set_option maxRecDepth 10000 in
theorem s_X2_strokesOfSet {p1 : Int32} {v_clocks : Int32} {v_kind : Nat → Int32} {v_hands : Nat → Int32} {v_hour : Int32} {post : Int32 → Prop} (hp0 : 0 ≤ v_clocks.toInt) (hp1 : v_clocks.toInt ≤ 9) (hp2 : 0 ≤ v_hour.toInt) (hk : ∀ (r : Int32), post r) : wp_X2_strokesOfSet p1 v_clocks v_kind v_hands v_hour post := by
  unfold wp_X2_strokesOfSet
  have rp1 := Int32.toInt_lt p1
  have rq1 := Int32.le_toInt p1
  have t1 : ((0 : Int32)).toInt = 0 := rfl
  have t2 : ((0 : Int32)).toInt = 0 := rfl
  refine ⟨fun n1 x2_1 x3_1 => n1 = (v_clocks.toInt - x3_1.toInt).toNat ∧ (0 ≤ x3_1.toInt), ⟨_, rfl, by first | omega | assumption | exact AB.none (by omega) | exact AB.mono (by assumption) (by omega) (by omega) (by omega) (by omega) | exact RB.none (by omega) | exact RB.mono (by assumption) (by omega) | exact UB.none (by omega) | exact UB.mono (by assumption) (by omega) | exact EQ.none (by omega) | exact EQ.mono (by assumption) (by omega)⟩, ?_⟩
  rintro n1 x2_1 x3_1 ⟨hn1, q3⟩
  refine ⟨fun c4 => ?_, fun c4 => ?_⟩
  · skip
    have t5 := ile (a := v_clocks.toInt) (b := x3_1.toInt) rfl rfl c4
    exact hk _
  · skip
    have t6 := inle (a := v_clocks.toInt) (b := x3_1.toInt) rfl rfl c4
    refine ⟨fun c7 => ?_, fun c7 => ?_⟩
    · skip
      have t8 := ine (a := ((p1 >>> (x3_1 &&& 31)) &&& 1).toInt) (b := 1) rfl rfl c7
      try have t9 : (x3_1 + 1).toInt = x3_1.toInt + 1 := ia rfl rfl (by omega) (by omega)
      intro z4 ez4
      have t10 : z4.toInt = (x3_1 + 1).toInt := by rw [ez4] <;> rfl
      refine ⟨_, ?_, rfl, by first | omega | assumption | exact AB.none (by omega) | exact AB.mono (by assumption) (by omega) (by omega) (by omega) (by omega) | exact RB.none (by omega) | exact RB.mono (by assumption) (by omega) | exact UB.none (by omega) | exact UB.mono (by assumption) (by omega) | exact EQ.none (by omega) | exact EQ.mono (by assumption) (by omega)⟩
      omega
    · skip
      have t11 := ieq (a := ((p1 >>> (x3_1 &&& 31)) &&& 1).toInt) (b := 1) rfl rfl c7
      refine s_X2_struckBy (by first | omega | assumption | exact AB.none (by omega) | exact AB.mono (by assumption) (by omega) (by omega) (by omega) (by omega) | exact RB.none (by omega) | exact RB.mono (by assumption) (by omega) | exact UB.none (by omega) | exact UB.mono (by assumption) (by omega) | exact EQ.none (by omega) | exact EQ.mono (by assumption) (by omega)) (by first | omega | assumption | exact AB.none (by omega) | exact AB.mono (by assumption) (by omega) (by omega) (by omega) (by omega) | exact RB.none (by omega) | exact RB.mono (by assumption) (by omega) | exact UB.none (by omega) | exact UB.mono (by assumption) (by omega) | exact EQ.none (by omega) | exact EQ.mono (by assumption) (by omega)) (by first | omega | assumption | exact AB.none (by omega) | exact AB.mono (by assumption) (by omega) (by omega) (by omega) (by omega) | exact RB.none (by omega) | exact RB.mono (by assumption) (by omega) | exact UB.none (by omega) | exact UB.mono (by assumption) (by omega) | exact EQ.none (by omega) | exact EQ.mono (by assumption) (by omega)) (fun r5 => ?_)
      refine s_X2_strokesFor  (fun r6 => ?_)
      try have t12 : (x2_1 + r6).toInt = x2_1.toInt + r6.toInt := ia rfl rfl (by omega) (by omega)
      intro z7 ez7
      have t13 : z7.toInt = (x2_1 + r6).toInt := by rw [ez7] <;> rfl
      try have t14 : (x3_1 + 1).toInt = x3_1.toInt + 1 := ia rfl rfl (by omega) (by omega)
      intro z8 ez8
      have t15 : z8.toInt = (x3_1 + 1).toInt := by rw [ez8] <;> rfl
      refine ⟨_, ?_, rfl, by first | omega | assumption | exact AB.none (by omega) | exact AB.mono (by assumption) (by omega) (by omega) (by omega) (by omega) | exact RB.none (by omega) | exact RB.mono (by assumption) (by omega) | exact UB.none (by omega) | exact UB.mono (by assumption) (by omega) | exact EQ.none (by omega) | exact EQ.mono (by assumption) (by omega)⟩
      omega
set_option maxHeartbeats 1000000 in
set_option maxRecDepth 10000 in
theorem s_X2_isHome {p1 : Int32} {v_windows : Int32} {v_window : Nat → Int32} {post : Int32 → Prop} (hp0 : 2 ≤ v_windows.toInt) (hp1 : v_windows.toInt ≤ 24) (hp2 : 0 ≤ p1.toInt) (hp3 : p1.toInt ≤ 8) (hk : ∀ (r : Int32), ((r.toInt = 1 ∧ (v_window (Int32.toNatClampNeg p1)).toInt = v_windows.toInt - 1) ∨ (r.toInt = 0 ∧ ¬ (v_window (Int32.toNatClampNeg p1)).toInt = v_windows.toInt - 1)) → post r) : wp_X2_isHome p1 v_windows v_window post := by
  unfold wp_X2_isHome
  have rp1 := Int32.toInt_lt p1
  have rq1 := Int32.le_toInt p1
  refine ⟨ivp (a := p1.toInt) rfl (by omega) (by omega), ?_⟩
  try have q1 := AB.get (f := v_window) (i := p1) (a := p1.toInt) (by assumption) rfl (by omega) (by omega) (by omega)
  try have t2 : (v_windows - 1).toInt = v_windows.toInt - 1 := isb rfl rfl (by omega) (by omega)
  have t3 := isbi (x := v_windows) (y := 1) (b := 1) rfl
  refine ⟨fun c4 => ?_, fun c4 => ?_⟩
  · skip
    have t5 := ine (a := (v_window (Int32.toNatClampNeg p1)).toInt) (b := (v_windows - 1).toInt) rfl rfl c4
    have t6 : (0 : Int32).toInt = 0 := rfl
    exact hk _ (by first | omega | assumption | exact AB.none (by omega) | exact AB.mono (by assumption) (by omega) (by omega) (by omega) (by omega) | exact RB.none (by omega) | exact RB.mono (by assumption) (by omega) | exact UB.none (by omega) | exact UB.mono (by assumption) (by omega) | exact EQ.none (by omega) | exact EQ.mono (by assumption) (by omega))
  · skip
    have t7 := ieq (a := (v_window (Int32.toNatClampNeg p1)).toInt) (b := (v_windows - 1).toInt) rfl rfl c4
    have t8 : (1 : Int32).toInt = 1 := rfl
    exact hk _ (by first | omega | assumption | exact AB.none (by omega) | exact AB.mono (by assumption) (by omega) (by omega) (by omega) (by omega) | exact RB.none (by omega) | exact RB.mono (by assumption) (by omega) | exact UB.none (by omega) | exact UB.mono (by assumption) (by omega) | exact EQ.none (by omega) | exact EQ.mono (by assumption) (by omega))
set_option maxHeartbeats 1000000 in
set_option maxRecDepth 10000 in
theorem s_X2_homeCount {v_windows : Int32} {v_clocks : Int32} {v_window : Nat → Int32} {post : Int32 → Prop} (hp0 : AB v_window 0 v_clocks.toInt 0 (v_windows.toInt - 1)) (hp1 : 2 ≤ v_windows.toInt) (hp2 : v_windows.toInt ≤ 24) (hp3 : 0 ≤ v_clocks.toInt) (hp4 : v_clocks.toInt ≤ 9) (hk : ∀ (r : Int32), (0 ≤ r.toInt) → (r.toInt ≤ v_clocks.toInt) → post r) : wp_X2_homeCount v_windows v_clocks v_window post := by
  unfold wp_X2_homeCount
  have t1 : ((0 : Int32)).toInt = 0 := rfl
  have t2 : ((0 : Int32)).toInt = 0 := rfl
  refine ⟨fun n1 x1_1 x2_1 => n1 = (v_clocks.toInt - x2_1.toInt).toNat ∧ (0 ≤ x2_1.toInt) ∧ (0 ≤ x1_1.toInt) ∧ (x1_1.toInt ≤ x2_1.toInt) ∧ (x2_1.toInt ≤ v_clocks.toInt), ⟨_, rfl, by first | omega | assumption | exact AB.none (by omega) | exact AB.mono (by assumption) (by omega) (by omega) (by omega) (by omega) | exact RB.none (by omega) | exact RB.mono (by assumption) (by omega) | exact UB.none (by omega) | exact UB.mono (by assumption) (by omega) | exact EQ.none (by omega) | exact EQ.mono (by assumption) (by omega), by first | omega | assumption | exact AB.none (by omega) | exact AB.mono (by assumption) (by omega) (by omega) (by omega) (by omega) | exact RB.none (by omega) | exact RB.mono (by assumption) (by omega) | exact UB.none (by omega) | exact UB.mono (by assumption) (by omega) | exact EQ.none (by omega) | exact EQ.mono (by assumption) (by omega), by first | omega | assumption | exact AB.none (by omega) | exact AB.mono (by assumption) (by omega) (by omega) (by omega) (by omega) | exact RB.none (by omega) | exact RB.mono (by assumption) (by omega) | exact UB.none (by omega) | exact UB.mono (by assumption) (by omega) | exact EQ.none (by omega) | exact EQ.mono (by assumption) (by omega), by first | omega | assumption | exact AB.none (by omega) | exact AB.mono (by assumption) (by omega) (by omega) (by omega) (by omega) | exact RB.none (by omega) | exact RB.mono (by assumption) (by omega) | exact UB.none (by omega) | exact UB.mono (by assumption) (by omega) | exact EQ.none (by omega) | exact EQ.mono (by assumption) (by omega)⟩, ?_⟩
  rintro n1 x1_1 x2_1 ⟨hn1, q3, q4, q5, q6⟩
  refine ⟨fun c7 => ?_, fun c7 => ?_⟩
  · skip
    have t8 := ile (a := v_clocks.toInt) (b := x2_1.toInt) rfl rfl c7
    exact hk _ (by first | omega | assumption | exact AB.none (by omega) | exact AB.mono (by assumption) (by omega) (by omega) (by omega) (by omega) | exact RB.none (by omega) | exact RB.mono (by assumption) (by omega) | exact UB.none (by omega) | exact UB.mono (by assumption) (by omega) | exact EQ.none (by omega) | exact EQ.mono (by assumption) (by omega)) (by first | omega | assumption | exact AB.none (by omega) | exact AB.mono (by assumption) (by omega) (by omega) (by omega) (by omega) | exact RB.none (by omega) | exact RB.mono (by assumption) (by omega) | exact UB.none (by omega) | exact UB.mono (by assumption) (by omega) | exact EQ.none (by omega) | exact EQ.mono (by assumption) (by omega))
  · skip
    have t9 := inle (a := v_clocks.toInt) (b := x2_1.toInt) rfl rfl c7
    refine s_X2_isHome (by first | omega | assumption | exact AB.none (by omega) | exact AB.mono (by assumption) (by omega) (by omega) (by omega) (by omega) | exact RB.none (by omega) | exact RB.mono (by assumption) (by omega) | exact UB.none (by omega) | exact UB.mono (by assumption) (by omega) | exact EQ.none (by omega) | exact EQ.mono (by assumption) (by omega)) (by first | omega | assumption | exact AB.none (by omega) | exact AB.mono (by assumption) (by omega) (by omega) (by omega) (by omega) | exact RB.none (by omega) | exact RB.mono (by assumption) (by omega) | exact UB.none (by omega) | exact UB.mono (by assumption) (by omega) | exact EQ.none (by omega) | exact EQ.mono (by assumption) (by omega)) (by first | omega | assumption | exact AB.none (by omega) | exact AB.mono (by assumption) (by omega) (by omega) (by omega) (by omega) | exact RB.none (by omega) | exact RB.mono (by assumption) (by omega) | exact UB.none (by omega) | exact UB.mono (by assumption) (by omega) | exact EQ.none (by omega) | exact EQ.mono (by assumption) (by omega)) (by first | omega | assumption | exact AB.none (by omega) | exact AB.mono (by assumption) (by omega) (by omega) (by omega) (by omega) | exact RB.none (by omega) | exact RB.mono (by assumption) (by omega) | exact UB.none (by omega) | exact UB.mono (by assumption) (by omega) | exact EQ.none (by omega) | exact EQ.mono (by assumption) (by omega)) (fun r3 q10 => ?_)
    refine ⟨fun c11 => ?_, fun c11 => ?_⟩
    · skip
      have t12 := ieq (a := r3.toInt) (b := 0) rfl rfl c11
      try have t13 : (x2_1 + 1).toInt = x2_1.toInt + 1 := ia rfl rfl (by omega) (by omega)
      intro z5 ez5
      have t14 : z5.toInt = (x2_1 + 1).toInt := by rw [ez5] <;> rfl
      refine ⟨_, ?_, rfl, by first | omega | assumption | exact AB.none (by omega) | exact AB.mono (by assumption) (by omega) (by omega) (by omega) (by omega) | exact RB.none (by omega) | exact RB.mono (by assumption) (by omega) | exact UB.none (by omega) | exact UB.mono (by assumption) (by omega) | exact EQ.none (by omega) | exact EQ.mono (by assumption) (by omega), by first | omega | assumption | exact AB.none (by omega) | exact AB.mono (by assumption) (by omega) (by omega) (by omega) (by omega) | exact RB.none (by omega) | exact RB.mono (by assumption) (by omega) | exact UB.none (by omega) | exact UB.mono (by assumption) (by omega) | exact EQ.none (by omega) | exact EQ.mono (by assumption) (by omega), by first | omega | assumption | exact AB.none (by omega) | exact AB.mono (by assumption) (by omega) (by omega) (by omega) (by omega) | exact RB.none (by omega) | exact RB.mono (by assumption) (by omega) | exact UB.none (by omega) | exact UB.mono (by assumption) (by omega) | exact EQ.none (by omega) | exact EQ.mono (by assumption) (by omega), by first | omega | assumption | exact AB.none (by omega) | exact AB.mono (by assumption) (by omega) (by omega) (by omega) (by omega) | exact RB.none (by omega) | exact RB.mono (by assumption) (by omega) | exact UB.none (by omega) | exact UB.mono (by assumption) (by omega) | exact EQ.none (by omega) | exact EQ.mono (by assumption) (by omega)⟩
      omega
    · skip
      have t15 := ine (a := r3.toInt) (b := 0) rfl rfl c11
      try have t16 : (x1_1 + 1).toInt = x1_1.toInt + 1 := ia rfl rfl (by omega) (by omega)
      intro z6 ez6
      have t17 : z6.toInt = (x1_1 + 1).toInt := by rw [ez6] <;> rfl
      try have t18 : (x2_1 + 1).toInt = x2_1.toInt + 1 := ia rfl rfl (by omega) (by omega)
      intro z7 ez7
      have t19 : z7.toInt = (x2_1 + 1).toInt := by rw [ez7] <;> rfl
      refine ⟨_, ?_, rfl, by first | omega | assumption | exact AB.none (by omega) | exact AB.mono (by assumption) (by omega) (by omega) (by omega) (by omega) | exact RB.none (by omega) | exact RB.mono (by assumption) (by omega) | exact UB.none (by omega) | exact UB.mono (by assumption) (by omega) | exact EQ.none (by omega) | exact EQ.mono (by assumption) (by omega), by first | omega | assumption | exact AB.none (by omega) | exact AB.mono (by assumption) (by omega) (by omega) (by omega) (by omega) | exact RB.none (by omega) | exact RB.mono (by assumption) (by omega) | exact UB.none (by omega) | exact UB.mono (by assumption) (by omega) | exact EQ.none (by omega) | exact EQ.mono (by assumption) (by omega), by first | omega | assumption | exact AB.none (by omega) | exact AB.mono (by assumption) (by omega) (by omega) (by omega) (by omega) | exact RB.none (by omega) | exact RB.mono (by assumption) (by omega) | exact UB.none (by omega) | exact UB.mono (by assumption) (by omega) | exact EQ.none (by omega) | exact EQ.mono (by assumption) (by omega), by first | omega | assumption | exact AB.none (by omega) | exact AB.mono (by assumption) (by omega) (by omega) (by omega) (by omega) | exact RB.none (by omega) | exact RB.mono (by assumption) (by omega) | exact UB.none (by omega) | exact UB.mono (by assumption) (by omega) | exact EQ.none (by omega) | exact EQ.mono (by assumption) (by omega)⟩
      omega
set_option maxHeartbeats 1000000 in
set_option maxRecDepth 10000 in
theorem s_X2_allHome {v_windows : Int32} {v_clocks : Int32} {v_window : Nat → Int32} {post : Int32 → Prop} (hp0 : AB v_window 0 v_clocks.toInt 0 (v_windows.toInt - 1)) (hp1 : 2 ≤ v_windows.toInt) (hp2 : v_windows.toInt ≤ 24) (hp3 : 0 ≤ v_clocks.toInt) (hp4 : v_clocks.toInt ≤ 9) (hk : ∀ (r : Int32), (0 ≤ r.toInt) → (r.toInt ≤ 1) → post r) : wp_X2_allHome v_windows v_clocks v_window post := by
  unfold wp_X2_allHome
  refine s_X2_homeCount (by first | omega | assumption | exact AB.none (by omega) | exact AB.mono (by assumption) (by omega) (by omega) (by omega) (by omega) | exact RB.none (by omega) | exact RB.mono (by assumption) (by omega) | exact UB.none (by omega) | exact UB.mono (by assumption) (by omega) | exact EQ.none (by omega) | exact EQ.mono (by assumption) (by omega)) (by first | omega | assumption | exact AB.none (by omega) | exact AB.mono (by assumption) (by omega) (by omega) (by omega) (by omega) | exact RB.none (by omega) | exact RB.mono (by assumption) (by omega) | exact UB.none (by omega) | exact UB.mono (by assumption) (by omega) | exact EQ.none (by omega) | exact EQ.mono (by assumption) (by omega)) (by first | omega | assumption | exact AB.none (by omega) | exact AB.mono (by assumption) (by omega) (by omega) (by omega) (by omega) | exact RB.none (by omega) | exact RB.mono (by assumption) (by omega) | exact UB.none (by omega) | exact UB.mono (by assumption) (by omega) | exact EQ.none (by omega) | exact EQ.mono (by assumption) (by omega)) (by first | omega | assumption | exact AB.none (by omega) | exact AB.mono (by assumption) (by omega) (by omega) (by omega) (by omega) | exact RB.none (by omega) | exact RB.mono (by assumption) (by omega) | exact UB.none (by omega) | exact UB.mono (by assumption) (by omega) | exact EQ.none (by omega) | exact EQ.mono (by assumption) (by omega)) (by first | omega | assumption | exact AB.none (by omega) | exact AB.mono (by assumption) (by omega) (by omega) (by omega) (by omega) | exact RB.none (by omega) | exact RB.mono (by assumption) (by omega) | exact UB.none (by omega) | exact UB.mono (by assumption) (by omega) | exact EQ.none (by omega) | exact EQ.mono (by assumption) (by omega)) (fun r1 q1 q2 => ?_)
  refine ⟨fun c3 => ?_, fun c3 => ?_⟩
  · skip
    have t4 := ine (a := r1.toInt) (b := v_clocks.toInt) rfl rfl c3
    have t5 : (0 : Int32).toInt = 0 := rfl
    exact hk _ (by first | omega | assumption | exact AB.none (by omega) | exact AB.mono (by assumption) (by omega) (by omega) (by omega) (by omega) | exact RB.none (by omega) | exact RB.mono (by assumption) (by omega) | exact UB.none (by omega) | exact UB.mono (by assumption) (by omega) | exact EQ.none (by omega) | exact EQ.mono (by assumption) (by omega)) (by first | omega | assumption | exact AB.none (by omega) | exact AB.mono (by assumption) (by omega) (by omega) (by omega) (by omega) | exact RB.none (by omega) | exact RB.mono (by assumption) (by omega) | exact UB.none (by omega) | exact UB.mono (by assumption) (by omega) | exact EQ.none (by omega) | exact EQ.mono (by assumption) (by omega))
  · skip
    have t6 := ieq (a := r1.toInt) (b := v_clocks.toInt) rfl rfl c3
    have t7 : (1 : Int32).toInt = 1 := rfl
    exact hk _ (by first | omega | assumption | exact AB.none (by omega) | exact AB.mono (by assumption) (by omega) (by omega) (by omega) (by omega) | exact RB.none (by omega) | exact RB.mono (by assumption) (by omega) | exact UB.none (by omega) | exact UB.mono (by assumption) (by omega) | exact EQ.none (by omega) | exact EQ.mono (by assumption) (by omega)) (by first | omega | assumption | exact AB.none (by omega) | exact AB.mono (by assumption) (by omega) (by omega) (by omega) (by omega) | exact RB.none (by omega) | exact RB.mono (by assumption) (by omega) | exact UB.none (by omega) | exact UB.mono (by assumption) (by omega) | exact EQ.none (by omega) | exact EQ.mono (by assumption) (by omega))
set_option maxHeartbeats 1000000 in
set_option maxRecDepth 10000 in
theorem s_X2_windOn {p1 : Int32} {p2 : Int32} {v_spring : Nat → Int32} {post : (Nat → Int32) → Prop} (hp0 : 0 ≤ p1.toInt) (hp1 : p1.toInt ≤ 8) (hk : ∀ (v_spring' : Nat → Int32), post v_spring') : wp_X2_windOn p1 p2 v_spring post := by
  unfold wp_X2_windOn
  have rp1 := Int32.toInt_lt p1
  have rq1 := Int32.le_toInt p1
  have rp2 := Int32.toInt_lt p2
  have rq2 := Int32.le_toInt p2
  refine ⟨ivp (a := p1.toInt) rfl (by omega) (by omega), ?_⟩
  try have t1 : ((v_spring (Int32.toNatClampNeg p1)) + p2).toInt = (v_spring (Int32.toNatClampNeg p1)).toInt + p2.toInt := ia rfl rfl (by omega) (by omega)
  have t2 := iit (x := ((v_spring (Int32.toNatClampNeg p1)) + p2)) (y := 99) (p := ((v_spring (Int32.toNatClampNeg p1)) + p2)) (q := 99) (a := ((v_spring (Int32.toNatClampNeg p1)) + p2).toInt) (b := 99) (c := ((v_spring (Int32.toNatClampNeg p1)) + p2).toInt) (d := 99) rfl rfl rfl rfl
  intro z1 ez1
  have t3 : z1.toInt = (if ((v_spring (Int32.toNatClampNeg p1)) + p2) < 99 then ((v_spring (Int32.toNatClampNeg p1)) + p2) else 99).toInt := by rw [ez1] <;> rfl
  refine ⟨ivp (a := p1.toInt) rfl (by omega) (by omega), ?_⟩
  intro f2 ef2
  have t4 : ((Int32.toNatClampNeg p1 : Nat) : Int) = p1.toInt := itn rfl (by omega)
  have t5 : (f2 (Int32.toNatClampNeg p1)).toInt = z1.toInt := by rw [ef2, upd_eq] <;> rfl
  exact hk _
set_option maxHeartbeats 1000000 in
set_option maxRecDepth 10000 in
theorem s_X2_turnOn {p1 : Int32} {p2 : Int32} {v_hands : Nat → Int32} {post : (Nat → Int32) → Prop} (hp0 : 0 ≤ p1.toInt) (hp1 : p1.toInt ≤ 8) (hk : ∀ (v_hands' : Nat → Int32), post v_hands') : wp_X2_turnOn p1 p2 v_hands post := by
  unfold wp_X2_turnOn
  have rp1 := Int32.toInt_lt p1
  have rq1 := Int32.le_toInt p1
  have rp2 := Int32.toInt_lt p2
  have rq2 := Int32.le_toInt p2
  refine ⟨ivp (a := p1.toInt) rfl (by omega) (by omega), ?_⟩
  try have t1 : ((v_hands (Int32.toNatClampNeg p1)) + p2).toInt = (v_hands (Int32.toNatClampNeg p1)).toInt + p2.toInt := ia rfl rfl (by omega) (by omega)
  try have t2 : (((v_hands (Int32.toNatClampNeg p1)) + p2) - ((v_hands (Int32.toNatClampNeg p1)) + p2) / 720 * 720).toInt = ((v_hands (Int32.toNatClampNeg p1)) + p2).toInt % 720 := irm rfl rfl (by omega) (by omega)
  intro z1 ez1
  have t3 : z1.toInt = (((v_hands (Int32.toNatClampNeg p1)) + p2) - ((v_hands (Int32.toNatClampNeg p1)) + p2) / 720 * 720).toInt := by rw [ez1] <;> rfl
  refine ⟨ivp (a := p1.toInt) rfl (by omega) (by omega), ?_⟩
  intro f2 ef2
  have t4 : ((Int32.toNatClampNeg p1 : Nat) : Int) = p1.toInt := itn rfl (by omega)
  have t5 : (f2 (Int32.toNatClampNeg p1)).toInt = z1.toInt := by rw [ef2, upd_eq] <;> rfl
  exact hk _
set_option maxHeartbeats 1000000 in
set_option maxRecDepth 10000 in
theorem s_X2_mayGo {p1 : Int32} {p2 : Int32} {p3 : Int32} {v_dials : Nat → Int32} {v_kind : Nat → Int32} {v_window : Nat → Int32} {v_hour : Int32} {post : Int32 → Prop} (hp0 : 0 ≤ v_hour.toInt) (hp1 : 0 ≤ p1.toInt) (hp2 : p1.toInt ≤ 8) (hp3 : 0 ≤ (v_window (Int32.toNatClampNeg p1)).toInt) (hp4 : (v_window (Int32.toNatClampNeg p1)).toInt ≤ 22) (hk : ∀ (r : Int32), (0 ≤ r.toInt) → (r.toInt ≤ 1) → post r) : wp_X2_mayGo p1 p2 p3 v_dials v_kind v_window v_hour post := by
  unfold wp_X2_mayGo
  have rp1 := Int32.toInt_lt p1
  have rq1 := Int32.le_toInt p1
  have rp2 := Int32.toInt_lt p2
  have rq2 := Int32.le_toInt p2
  have rp3 := Int32.toInt_lt p3
  have rq3 := Int32.le_toInt p3
  refine ⟨ivp (a := p1.toInt) rfl (by omega) (by omega), ?_⟩
  refine ⟨(vp_in p1 9 ∧ (∃ J2 : Prop, (J2 →
 (vp_in p1 9 ∧ (vp_in ((v_window (Int32.toNatClampNeg p1)) + 1) 24 ∧ (∀ z3 : Int32, z3 = (v_dials (Int32.toNatClampNeg ((v_window (Int32.toNatClampNeg p1)) + 1))) → ((z3 = 12 → (post 1 )) ∧
 (¬ z3 = 12 → ((¬ z3 = p2 → (post 0 )) ∧
 (z3 = p2 → (post 1 ))))))))) ∧
 ((¬ (v_kind (Int32.toNatClampNeg p1)) = 3 → J2) ∧
 ((v_kind (Int32.toNatClampNeg p1)) = 3 → ((p3 = 0 → J2) ∧
 (¬ p3 = 0 → (post 0 ))))))), fun h => h, ?_⟩
  refine ⟨fun c1 => ?_, fun c1 => ?_⟩
  · skip
    have t2 := ine (a := (v_kind (Int32.toNatClampNeg p1)).toInt) (b := 5) rfl rfl c1
    show (vp_in p1 9 ∧ (∃ J2 : Prop, (J2 →
 (vp_in p1 9 ∧ (vp_in ((v_window (Int32.toNatClampNeg p1)) + 1) 24 ∧ (∀ z3 : Int32, z3 = (v_dials (Int32.toNatClampNeg ((v_window (Int32.toNatClampNeg p1)) + 1))) → ((z3 = 12 → (post 1 )) ∧
 (¬ z3 = 12 → ((¬ z3 = p2 → (post 0 )) ∧
 (z3 = p2 → (post 1 ))))))))) ∧
 ((¬ (v_kind (Int32.toNatClampNeg p1)) = 3 → J2) ∧
 ((v_kind (Int32.toNatClampNeg p1)) = 3 → ((p3 = 0 → J2) ∧
 (¬ p3 = 0 → (post 0 )))))))
    refine ⟨ivp (a := p1.toInt) rfl (by omega) (by omega), ?_⟩
    refine ⟨(vp_in p1 9 ∧ (vp_in ((v_window (Int32.toNatClampNeg p1)) + 1) 24 ∧ (∀ z3 : Int32, z3 = (v_dials (Int32.toNatClampNeg ((v_window (Int32.toNatClampNeg p1)) + 1))) → ((z3 = 12 → (post 1 )) ∧
 (¬ z3 = 12 → ((¬ z3 = p2 → (post 0 )) ∧
 (z3 = p2 → (post 1 )))))))), fun h => h, ?_⟩
    refine ⟨fun c3 => ?_, fun c3 => ?_⟩
    · skip
      have t4 := ine (a := (v_kind (Int32.toNatClampNeg p1)).toInt) (b := 3) rfl rfl c3
      show (vp_in p1 9 ∧ (vp_in ((v_window (Int32.toNatClampNeg p1)) + 1) 24 ∧ (∀ z3 : Int32, z3 = (v_dials (Int32.toNatClampNeg ((v_window (Int32.toNatClampNeg p1)) + 1))) → ((z3 = 12 → (post 1 )) ∧
 (¬ z3 = 12 → ((¬ z3 = p2 → (post 0 )) ∧
 (z3 = p2 → (post 1 ))))))))
      refine ⟨ivp (a := p1.toInt) rfl (by omega) (by omega), ?_⟩
      try have q5 := AB.get (f := v_window) (i := p1) (a := p1.toInt) (by assumption) rfl (by omega) (by omega) (by omega)
      try have t6 : ((v_window (Int32.toNatClampNeg p1)) + 1).toInt = (v_window (Int32.toNatClampNeg p1)).toInt + 1 := ia rfl rfl (by omega) (by omega)
      refine ⟨ivp (a := ((v_window (Int32.toNatClampNeg p1)) + 1).toInt) rfl (by omega) (by omega), ?_⟩
      intro z3 ez3
      have t7 : z3.toInt = (v_dials (Int32.toNatClampNeg ((v_window (Int32.toNatClampNeg p1)) + 1))).toInt := by rw [ez3] <;> rfl
      refine ⟨fun c8 => ?_, fun c8 => ?_⟩
      · skip
        have t9 := ieq (a := z3.toInt) (b := 12) rfl rfl c8
        have t10 : (1 : Int32).toInt = 1 := rfl
        exact hk _ (by first | omega | assumption | exact AB.none (by omega) | exact AB.mono (by assumption) (by omega) (by omega) (by omega) (by omega) | exact RB.none (by omega) | exact RB.mono (by assumption) (by omega) | exact UB.none (by omega) | exact UB.mono (by assumption) (by omega) | exact EQ.none (by omega) | exact EQ.mono (by assumption) (by omega)) (by first | omega | assumption | exact AB.none (by omega) | exact AB.mono (by assumption) (by omega) (by omega) (by omega) (by omega) | exact RB.none (by omega) | exact RB.mono (by assumption) (by omega) | exact UB.none (by omega) | exact UB.mono (by assumption) (by omega) | exact EQ.none (by omega) | exact EQ.mono (by assumption) (by omega))
      · skip
        have t11 := ine (a := z3.toInt) (b := 12) rfl rfl c8
        refine ⟨fun c12 => ?_, fun c12 => ?_⟩
        · skip
          have t13 := ine (a := z3.toInt) (b := p2.toInt) rfl rfl c12
          have t14 : (0 : Int32).toInt = 0 := rfl
          exact hk _ (by first | omega | assumption | exact AB.none (by omega) | exact AB.mono (by assumption) (by omega) (by omega) (by omega) (by omega) | exact RB.none (by omega) | exact RB.mono (by assumption) (by omega) | exact UB.none (by omega) | exact UB.mono (by assumption) (by omega) | exact EQ.none (by omega) | exact EQ.mono (by assumption) (by omega)) (by first | omega | assumption | exact AB.none (by omega) | exact AB.mono (by assumption) (by omega) (by omega) (by omega) (by omega) | exact RB.none (by omega) | exact RB.mono (by assumption) (by omega) | exact UB.none (by omega) | exact UB.mono (by assumption) (by omega) | exact EQ.none (by omega) | exact EQ.mono (by assumption) (by omega))
        · skip
          have t15 := ieq (a := z3.toInt) (b := p2.toInt) rfl rfl c12
          have t16 : (1 : Int32).toInt = 1 := rfl
          exact hk _ (by first | omega | assumption | exact AB.none (by omega) | exact AB.mono (by assumption) (by omega) (by omega) (by omega) (by omega) | exact RB.none (by omega) | exact RB.mono (by assumption) (by omega) | exact UB.none (by omega) | exact UB.mono (by assumption) (by omega) | exact EQ.none (by omega) | exact EQ.mono (by assumption) (by omega)) (by first | omega | assumption | exact AB.none (by omega) | exact AB.mono (by assumption) (by omega) (by omega) (by omega) (by omega) | exact RB.none (by omega) | exact RB.mono (by assumption) (by omega) | exact UB.none (by omega) | exact UB.mono (by assumption) (by omega) | exact EQ.none (by omega) | exact EQ.mono (by assumption) (by omega))
    · skip
      have t17 := ieq (a := (v_kind (Int32.toNatClampNeg p1)).toInt) (b := 3) rfl rfl c3
      refine ⟨fun c18 => ?_, fun c18 => ?_⟩
      · skip
        have t19 := ieq (a := p3.toInt) (b := 0) rfl rfl c18
        show (vp_in p1 9 ∧ (vp_in ((v_window (Int32.toNatClampNeg p1)) + 1) 24 ∧ (∀ z3 : Int32, z3 = (v_dials (Int32.toNatClampNeg ((v_window (Int32.toNatClampNeg p1)) + 1))) → ((z3 = 12 → (post 1 )) ∧
 (¬ z3 = 12 → ((¬ z3 = p2 → (post 0 )) ∧
 (z3 = p2 → (post 1 ))))))))
        refine ⟨ivp (a := p1.toInt) rfl (by omega) (by omega), ?_⟩
        try have q20 := AB.get (f := v_window) (i := p1) (a := p1.toInt) (by assumption) rfl (by omega) (by omega) (by omega)
        try have t21 : ((v_window (Int32.toNatClampNeg p1)) + 1).toInt = (v_window (Int32.toNatClampNeg p1)).toInt + 1 := ia rfl rfl (by omega) (by omega)
        refine ⟨ivp (a := ((v_window (Int32.toNatClampNeg p1)) + 1).toInt) rfl (by omega) (by omega), ?_⟩
        intro z3 ez3
        have t22 : z3.toInt = (v_dials (Int32.toNatClampNeg ((v_window (Int32.toNatClampNeg p1)) + 1))).toInt := by rw [ez3] <;> rfl
        refine ⟨fun c23 => ?_, fun c23 => ?_⟩
        · skip
          have t24 := ieq (a := z3.toInt) (b := 12) rfl rfl c23
          have t25 : (1 : Int32).toInt = 1 := rfl
          exact hk _ (by first | omega | assumption | exact AB.none (by omega) | exact AB.mono (by assumption) (by omega) (by omega) (by omega) (by omega) | exact RB.none (by omega) | exact RB.mono (by assumption) (by omega) | exact UB.none (by omega) | exact UB.mono (by assumption) (by omega) | exact EQ.none (by omega) | exact EQ.mono (by assumption) (by omega)) (by first | omega | assumption | exact AB.none (by omega) | exact AB.mono (by assumption) (by omega) (by omega) (by omega) (by omega) | exact RB.none (by omega) | exact RB.mono (by assumption) (by omega) | exact UB.none (by omega) | exact UB.mono (by assumption) (by omega) | exact EQ.none (by omega) | exact EQ.mono (by assumption) (by omega))
        · skip
          have t26 := ine (a := z3.toInt) (b := 12) rfl rfl c23
          refine ⟨fun c27 => ?_, fun c27 => ?_⟩
          · skip
            have t28 := ine (a := z3.toInt) (b := p2.toInt) rfl rfl c27
            have t29 : (0 : Int32).toInt = 0 := rfl
            exact hk _ (by first | omega | assumption | exact AB.none (by omega) | exact AB.mono (by assumption) (by omega) (by omega) (by omega) (by omega) | exact RB.none (by omega) | exact RB.mono (by assumption) (by omega) | exact UB.none (by omega) | exact UB.mono (by assumption) (by omega) | exact EQ.none (by omega) | exact EQ.mono (by assumption) (by omega)) (by first | omega | assumption | exact AB.none (by omega) | exact AB.mono (by assumption) (by omega) (by omega) (by omega) (by omega) | exact RB.none (by omega) | exact RB.mono (by assumption) (by omega) | exact UB.none (by omega) | exact UB.mono (by assumption) (by omega) | exact EQ.none (by omega) | exact EQ.mono (by assumption) (by omega))
          · skip
            have t30 := ieq (a := z3.toInt) (b := p2.toInt) rfl rfl c27
            have t31 : (1 : Int32).toInt = 1 := rfl
            exact hk _ (by first | omega | assumption | exact AB.none (by omega) | exact AB.mono (by assumption) (by omega) (by omega) (by omega) (by omega) | exact RB.none (by omega) | exact RB.mono (by assumption) (by omega) | exact UB.none (by omega) | exact UB.mono (by assumption) (by omega) | exact EQ.none (by omega) | exact EQ.mono (by assumption) (by omega)) (by first | omega | assumption | exact AB.none (by omega) | exact AB.mono (by assumption) (by omega) (by omega) (by omega) (by omega) | exact RB.none (by omega) | exact RB.mono (by assumption) (by omega) | exact UB.none (by omega) | exact UB.mono (by assumption) (by omega) | exact EQ.none (by omega) | exact EQ.mono (by assumption) (by omega))
      · skip
        have t32 := ine (a := p3.toInt) (b := 0) rfl rfl c18
        have t33 : (0 : Int32).toInt = 0 := rfl
        exact hk _ (by first | omega | assumption | exact AB.none (by omega) | exact AB.mono (by assumption) (by omega) (by omega) (by omega) (by omega) | exact RB.none (by omega) | exact RB.mono (by assumption) (by omega) | exact UB.none (by omega) | exact UB.mono (by assumption) (by omega) | exact EQ.none (by omega) | exact EQ.mono (by assumption) (by omega)) (by first | omega | assumption | exact AB.none (by omega) | exact AB.mono (by assumption) (by omega) (by omega) (by omega) (by omega) | exact RB.none (by omega) | exact RB.mono (by assumption) (by omega) | exact UB.none (by omega) | exact UB.mono (by assumption) (by omega) | exact EQ.none (by omega) | exact EQ.mono (by assumption) (by omega))
  · skip
    have t34 := ieq (a := (v_kind (Int32.toNatClampNeg p1)).toInt) (b := 5) rfl rfl c1
    try have t35 : (v_hour - v_hour / 6 * 6).toInt = v_hour.toInt % 6 := irm rfl rfl (by omega) (by omega)
    refine ⟨fun c36 => ?_, fun c36 => ?_⟩
    · skip
      have t37 := ine (a := (v_hour - v_hour / 6 * 6).toInt) (b := 0) rfl rfl c36
      show (vp_in p1 9 ∧ (∃ J2 : Prop, (J2 →
 (vp_in p1 9 ∧ (vp_in ((v_window (Int32.toNatClampNeg p1)) + 1) 24 ∧ (∀ z3 : Int32, z3 = (v_dials (Int32.toNatClampNeg ((v_window (Int32.toNatClampNeg p1)) + 1))) → ((z3 = 12 → (post 1 )) ∧
 (¬ z3 = 12 → ((¬ z3 = p2 → (post 0 )) ∧
 (z3 = p2 → (post 1 ))))))))) ∧
 ((¬ (v_kind (Int32.toNatClampNeg p1)) = 3 → J2) ∧
 ((v_kind (Int32.toNatClampNeg p1)) = 3 → ((p3 = 0 → J2) ∧
 (¬ p3 = 0 → (post 0 )))))))
      refine ⟨ivp (a := p1.toInt) rfl (by omega) (by omega), ?_⟩
      refine ⟨(vp_in p1 9 ∧ (vp_in ((v_window (Int32.toNatClampNeg p1)) + 1) 24 ∧ (∀ z3 : Int32, z3 = (v_dials (Int32.toNatClampNeg ((v_window (Int32.toNatClampNeg p1)) + 1))) → ((z3 = 12 → (post 1 )) ∧
 (¬ z3 = 12 → ((¬ z3 = p2 → (post 0 )) ∧
 (z3 = p2 → (post 1 )))))))), fun h => h, ?_⟩
      refine ⟨fun c38 => ?_, fun c38 => ?_⟩
      · skip
        have t39 := ine (a := (v_kind (Int32.toNatClampNeg p1)).toInt) (b := 3) rfl rfl c38
        show (vp_in p1 9 ∧ (vp_in ((v_window (Int32.toNatClampNeg p1)) + 1) 24 ∧ (∀ z3 : Int32, z3 = (v_dials (Int32.toNatClampNeg ((v_window (Int32.toNatClampNeg p1)) + 1))) → ((z3 = 12 → (post 1 )) ∧
 (¬ z3 = 12 → ((¬ z3 = p2 → (post 0 )) ∧
 (z3 = p2 → (post 1 ))))))))
        refine ⟨ivp (a := p1.toInt) rfl (by omega) (by omega), ?_⟩
        try have q40 := AB.get (f := v_window) (i := p1) (a := p1.toInt) (by assumption) rfl (by omega) (by omega) (by omega)
        try have t41 : ((v_window (Int32.toNatClampNeg p1)) + 1).toInt = (v_window (Int32.toNatClampNeg p1)).toInt + 1 := ia rfl rfl (by omega) (by omega)
        refine ⟨ivp (a := ((v_window (Int32.toNatClampNeg p1)) + 1).toInt) rfl (by omega) (by omega), ?_⟩
        intro z3 ez3
        have t42 : z3.toInt = (v_dials (Int32.toNatClampNeg ((v_window (Int32.toNatClampNeg p1)) + 1))).toInt := by rw [ez3] <;> rfl
        refine ⟨fun c43 => ?_, fun c43 => ?_⟩
        · skip
          have t44 := ieq (a := z3.toInt) (b := 12) rfl rfl c43
          have t45 : (1 : Int32).toInt = 1 := rfl
          exact hk _ (by first | omega | assumption | exact AB.none (by omega) | exact AB.mono (by assumption) (by omega) (by omega) (by omega) (by omega) | exact RB.none (by omega) | exact RB.mono (by assumption) (by omega) | exact UB.none (by omega) | exact UB.mono (by assumption) (by omega) | exact EQ.none (by omega) | exact EQ.mono (by assumption) (by omega)) (by first | omega | assumption | exact AB.none (by omega) | exact AB.mono (by assumption) (by omega) (by omega) (by omega) (by omega) | exact RB.none (by omega) | exact RB.mono (by assumption) (by omega) | exact UB.none (by omega) | exact UB.mono (by assumption) (by omega) | exact EQ.none (by omega) | exact EQ.mono (by assumption) (by omega))
        · skip
          have t46 := ine (a := z3.toInt) (b := 12) rfl rfl c43
          refine ⟨fun c47 => ?_, fun c47 => ?_⟩
          · skip
            have t48 := ine (a := z3.toInt) (b := p2.toInt) rfl rfl c47
            have t49 : (0 : Int32).toInt = 0 := rfl
            exact hk _ (by first | omega | assumption | exact AB.none (by omega) | exact AB.mono (by assumption) (by omega) (by omega) (by omega) (by omega) | exact RB.none (by omega) | exact RB.mono (by assumption) (by omega) | exact UB.none (by omega) | exact UB.mono (by assumption) (by omega) | exact EQ.none (by omega) | exact EQ.mono (by assumption) (by omega)) (by first | omega | assumption | exact AB.none (by omega) | exact AB.mono (by assumption) (by omega) (by omega) (by omega) (by omega) | exact RB.none (by omega) | exact RB.mono (by assumption) (by omega) | exact UB.none (by omega) | exact UB.mono (by assumption) (by omega) | exact EQ.none (by omega) | exact EQ.mono (by assumption) (by omega))
          · skip
            have t50 := ieq (a := z3.toInt) (b := p2.toInt) rfl rfl c47
            have t51 : (1 : Int32).toInt = 1 := rfl
            exact hk _ (by first | omega | assumption | exact AB.none (by omega) | exact AB.mono (by assumption) (by omega) (by omega) (by omega) (by omega) | exact RB.none (by omega) | exact RB.mono (by assumption) (by omega) | exact UB.none (by omega) | exact UB.mono (by assumption) (by omega) | exact EQ.none (by omega) | exact EQ.mono (by assumption) (by omega)) (by first | omega | assumption | exact AB.none (by omega) | exact AB.mono (by assumption) (by omega) (by omega) (by omega) (by omega) | exact RB.none (by omega) | exact RB.mono (by assumption) (by omega) | exact UB.none (by omega) | exact UB.mono (by assumption) (by omega) | exact EQ.none (by omega) | exact EQ.mono (by assumption) (by omega))
      · skip
        have t52 := ieq (a := (v_kind (Int32.toNatClampNeg p1)).toInt) (b := 3) rfl rfl c38
        refine ⟨fun c53 => ?_, fun c53 => ?_⟩
        · skip
          have t54 := ieq (a := p3.toInt) (b := 0) rfl rfl c53
          show (vp_in p1 9 ∧ (vp_in ((v_window (Int32.toNatClampNeg p1)) + 1) 24 ∧ (∀ z3 : Int32, z3 = (v_dials (Int32.toNatClampNeg ((v_window (Int32.toNatClampNeg p1)) + 1))) → ((z3 = 12 → (post 1 )) ∧
 (¬ z3 = 12 → ((¬ z3 = p2 → (post 0 )) ∧
 (z3 = p2 → (post 1 ))))))))
          refine ⟨ivp (a := p1.toInt) rfl (by omega) (by omega), ?_⟩
          try have q55 := AB.get (f := v_window) (i := p1) (a := p1.toInt) (by assumption) rfl (by omega) (by omega) (by omega)
          try have t56 : ((v_window (Int32.toNatClampNeg p1)) + 1).toInt = (v_window (Int32.toNatClampNeg p1)).toInt + 1 := ia rfl rfl (by omega) (by omega)
          refine ⟨ivp (a := ((v_window (Int32.toNatClampNeg p1)) + 1).toInt) rfl (by omega) (by omega), ?_⟩
          intro z3 ez3
          have t57 : z3.toInt = (v_dials (Int32.toNatClampNeg ((v_window (Int32.toNatClampNeg p1)) + 1))).toInt := by rw [ez3] <;> rfl
          refine ⟨fun c58 => ?_, fun c58 => ?_⟩
          · skip
            have t59 := ieq (a := z3.toInt) (b := 12) rfl rfl c58
            have t60 : (1 : Int32).toInt = 1 := rfl
            exact hk _ (by first | omega | assumption | exact AB.none (by omega) | exact AB.mono (by assumption) (by omega) (by omega) (by omega) (by omega) | exact RB.none (by omega) | exact RB.mono (by assumption) (by omega) | exact UB.none (by omega) | exact UB.mono (by assumption) (by omega) | exact EQ.none (by omega) | exact EQ.mono (by assumption) (by omega)) (by first | omega | assumption | exact AB.none (by omega) | exact AB.mono (by assumption) (by omega) (by omega) (by omega) (by omega) | exact RB.none (by omega) | exact RB.mono (by assumption) (by omega) | exact UB.none (by omega) | exact UB.mono (by assumption) (by omega) | exact EQ.none (by omega) | exact EQ.mono (by assumption) (by omega))
          · skip
            have t61 := ine (a := z3.toInt) (b := 12) rfl rfl c58
            refine ⟨fun c62 => ?_, fun c62 => ?_⟩
            · skip
              have t63 := ine (a := z3.toInt) (b := p2.toInt) rfl rfl c62
              have t64 : (0 : Int32).toInt = 0 := rfl
              exact hk _ (by first | omega | assumption | exact AB.none (by omega) | exact AB.mono (by assumption) (by omega) (by omega) (by omega) (by omega) | exact RB.none (by omega) | exact RB.mono (by assumption) (by omega) | exact UB.none (by omega) | exact UB.mono (by assumption) (by omega) | exact EQ.none (by omega) | exact EQ.mono (by assumption) (by omega)) (by first | omega | assumption | exact AB.none (by omega) | exact AB.mono (by assumption) (by omega) (by omega) (by omega) (by omega) | exact RB.none (by omega) | exact RB.mono (by assumption) (by omega) | exact UB.none (by omega) | exact UB.mono (by assumption) (by omega) | exact EQ.none (by omega) | exact EQ.mono (by assumption) (by omega))
            · skip
              have t65 := ieq (a := z3.toInt) (b := p2.toInt) rfl rfl c62
              have t66 : (1 : Int32).toInt = 1 := rfl
              exact hk _ (by first | omega | assumption | exact AB.none (by omega) | exact AB.mono (by assumption) (by omega) (by omega) (by omega) (by omega) | exact RB.none (by omega) | exact RB.mono (by assumption) (by omega) | exact UB.none (by omega) | exact UB.mono (by assumption) (by omega) | exact EQ.none (by omega) | exact EQ.mono (by assumption) (by omega)) (by first | omega | assumption | exact AB.none (by omega) | exact AB.mono (by assumption) (by omega) (by omega) (by omega) (by omega) | exact RB.none (by omega) | exact RB.mono (by assumption) (by omega) | exact UB.none (by omega) | exact UB.mono (by assumption) (by omega) | exact EQ.none (by omega) | exact EQ.mono (by assumption) (by omega))
        · skip
          have t67 := ine (a := p3.toInt) (b := 0) rfl rfl c53
          have t68 : (0 : Int32).toInt = 0 := rfl
          exact hk _ (by first | omega | assumption | exact AB.none (by omega) | exact AB.mono (by assumption) (by omega) (by omega) (by omega) (by omega) | exact RB.none (by omega) | exact RB.mono (by assumption) (by omega) | exact UB.none (by omega) | exact UB.mono (by assumption) (by omega) | exact EQ.none (by omega) | exact EQ.mono (by assumption) (by omega)) (by first | omega | assumption | exact AB.none (by omega) | exact AB.mono (by assumption) (by omega) (by omega) (by omega) (by omega) | exact RB.none (by omega) | exact RB.mono (by assumption) (by omega) | exact UB.none (by omega) | exact UB.mono (by assumption) (by omega) | exact EQ.none (by omega) | exact EQ.mono (by assumption) (by omega))
    · skip
      have t69 := ieq (a := (v_hour - v_hour / 6 * 6).toInt) (b := 0) rfl rfl c36
      have t70 : (1 : Int32).toInt = 1 := rfl
      exact hk _ (by first | omega | assumption | exact AB.none (by omega) | exact AB.mono (by assumption) (by omega) (by omega) (by omega) (by omega) | exact RB.none (by omega) | exact RB.mono (by assumption) (by omega) | exact UB.none (by omega) | exact UB.mono (by assumption) (by omega) | exact EQ.none (by omega) | exact EQ.mono (by assumption) (by omega)) (by first | omega | assumption | exact AB.none (by omega) | exact AB.mono (by assumption) (by omega) (by omega) (by omega) (by omega) | exact RB.none (by omega) | exact RB.mono (by assumption) (by omega) | exact UB.none (by omega) | exact UB.mono (by assumption) (by omega) | exact EQ.none (by omega) | exact EQ.mono (by assumption) (by omega))
set_option maxHeartbeats 1000000 in
set_option maxRecDepth 10000 in
theorem s_X2_go {p1 : Int32} {p2 : Int32} {p3 : Int32} {v_windows : Int32} {v_dials : Nat → Int32} {v_kind : Nat → Int32} {v_window : Nat → Int32} {v_finish : Nat → Int32} {v_hour : Int32} {v_heard : Int32} {v_strokes : Int32} {gh_v_clocks : Int} {post : (Nat → Int32) → (Nat → Int32) → (Nat → Int32) → (Int32) → (Int32) → Prop} (hp0 : AB v_window 0 gh_v_clocks 0 (v_windows.toInt - 1)) (hp1 : 0 ≤ gh_v_clocks) (hp2 : gh_v_clocks ≤ 9) (hp3 : 2 ≤ v_windows.toInt) (hp4 : v_windows.toInt ≤ 24) (hp5 : 0 ≤ v_hour.toInt) (hp6 : 0 ≤ p1.toInt) (hp7 : p1.toInt ≤ 8) (hp8 : 0 ≤ (v_window (Int32.toNatClampNeg p1)).toInt) (hp9 : (v_window (Int32.toNatClampNeg p1)).toInt ≤ 22) (hk : ∀ (v_dials' : Nat → Int32) (v_window' : Nat → Int32) (v_finish' : Nat → Int32) (v_heard' : Int32) (v_strokes' : Int32), (AB v_window' 0 gh_v_clocks 0 (v_windows.toInt - 1)) → post v_dials' v_window' v_finish' v_heard' v_strokes') : wp_X2_go p1 p2 p3 v_windows v_dials v_kind v_window v_finish v_hour v_heard v_strokes post := by
  unfold wp_X2_go
  have rp1 := Int32.toInt_lt p1
  have rq1 := Int32.le_toInt p1
  have rp2 := Int32.toInt_lt p2
  have rq2 := Int32.le_toInt p2
  have rp3 := Int32.toInt_lt p3
  have rq3 := Int32.le_toInt p3
  refine ⟨ivp (a := p1.toInt) rfl (by omega) (by omega), ?_⟩
  refine ⟨fun y0_1 => (vp_in p1 9 ∧ (vp_in (v_window (Int32.toNatClampNeg p1)) 24 ∧ ∀ f2 : Nat → Int32, f2 = (upd v_dials (Int32.toNatClampNeg (v_window (Int32.toNatClampNeg p1))) p2) → (vp_in p1 9 ∧ (∀ z3 : Int32, z3 = (if (v_windows - 1) < ((v_window (Int32.toNatClampNeg p1)) + y0_1) then (v_windows - 1) else ((v_window (Int32.toNatClampNeg p1)) + y0_1)) → (vp_in p1 9 ∧ ∀ f4 : Nat → Int32, f4 = (upd v_window (Int32.toNatClampNeg p1) z3) → (wp_X2_isHome p1 v_windows f4 (fun (r5 : Int32) =>
 (∃ J6 : (Nat → Int32) → Prop, (∀ (v_finish_6 : Nat → Int32), J6 v_finish_6 →
 ((¬ p3 = 2 → (∀ z8 : Int32, z8 = (v_heard ||| (1 <<< (p1 &&& 31))) → (wp_X2_strokesFor p2 (fun (r9 : Int32) =>
 (∀ z10 : Int32, z10 = (v_strokes + r9) → (post f2 f4 v_finish_6 z8 z10)))))) ∧
 (p3 = 2 → (post f2 f4 v_finish_6 v_heard v_strokes)))) ∧
 ((r5 = 0 → (J6 v_finish)) ∧
 (¬ r5 = 0 → (∀ z12 : Int32, z12 = (v_hour + 1) → (vp_in p1 9 ∧ ∀ f13 : Nat → Int32, f13 = (upd v_finish (Int32.toNatClampNeg p1) z12) → (J6 f13))))))))))))), fun y0_1 h => h, ?_⟩
  refine ⟨fun c1 => ?_, fun c1 => ?_⟩
  · skip
    have t2 := ine (a := (v_kind (Int32.toNatClampNeg p1)).toInt) (b := 1) rfl rfl c1
    show (vp_in p1 9 ∧ (vp_in (v_window (Int32.toNatClampNeg p1)) 24 ∧ ∀ f2 : Nat → Int32, f2 = (upd v_dials (Int32.toNatClampNeg (v_window (Int32.toNatClampNeg p1))) p2) → (vp_in p1 9 ∧ (∀ z3 : Int32, z3 = (if (v_windows - 1) < ((v_window (Int32.toNatClampNeg p1)) + 1) then (v_windows - 1) else ((v_window (Int32.toNatClampNeg p1)) + 1)) → (vp_in p1 9 ∧ ∀ f4 : Nat → Int32, f4 = (upd v_window (Int32.toNatClampNeg p1) z3) → (wp_X2_isHome p1 v_windows f4 (fun (r5 : Int32) =>
 (∃ J6 : (Nat → Int32) → Prop, (∀ (v_finish_6 : Nat → Int32), J6 v_finish_6 →
 ((¬ p3 = 2 → (∀ z8 : Int32, z8 = (v_heard ||| (1 <<< (p1 &&& 31))) → (wp_X2_strokesFor p2 (fun (r9 : Int32) =>
 (∀ z10 : Int32, z10 = (v_strokes + r9) → (post f2 f4 v_finish_6 z8 z10)))))) ∧
 (p3 = 2 → (post f2 f4 v_finish_6 v_heard v_strokes)))) ∧
 ((r5 = 0 → (J6 v_finish)) ∧
 (¬ r5 = 0 → (∀ z12 : Int32, z12 = (v_hour + 1) → (vp_in p1 9 ∧ ∀ f13 : Nat → Int32, f13 = (upd v_finish (Int32.toNatClampNeg p1) z12) → (J6 f13)))))))))))))
    refine ⟨ivp (a := p1.toInt) rfl (by omega) (by omega), ?_⟩
    try have q3 := AB.get (f := v_window) (i := p1) (a := p1.toInt) (by assumption) rfl (by omega) (by omega) (by omega)
    refine ⟨ivp (a := (v_window (Int32.toNatClampNeg p1)).toInt) rfl (by omega) (by omega), ?_⟩
    intro f2 ef2
    have t4 : ((Int32.toNatClampNeg (v_window (Int32.toNatClampNeg p1)) : Nat) : Int) = (v_window (Int32.toNatClampNeg p1)).toInt := itn rfl (by omega)
    have t5 : (f2 (Int32.toNatClampNeg (v_window (Int32.toNatClampNeg p1)))).toInt = p2.toInt := by rw [ef2, upd_eq] <;> rfl
    refine ⟨ivp (a := p1.toInt) rfl (by omega) (by omega), ?_⟩
    try have q6 := AB.get (f := v_window) (i := p1) (a := p1.toInt) (by assumption) rfl (by omega) (by omega) (by omega)
    try have t7 : (v_windows - 1).toInt = v_windows.toInt - 1 := isb rfl rfl (by omega) (by omega)
    have t8 := isbi (x := v_windows) (y := 1) (b := 1) rfl
    try have t9 : ((v_window (Int32.toNatClampNeg p1)) + 1).toInt = (v_window (Int32.toNatClampNeg p1)).toInt + 1 := ia rfl rfl (by omega) (by omega)
    have t10 := iit (x := (v_windows - 1)) (y := ((v_window (Int32.toNatClampNeg p1)) + 1)) (p := (v_windows - 1)) (q := ((v_window (Int32.toNatClampNeg p1)) + 1)) (a := (v_windows - 1).toInt) (b := ((v_window (Int32.toNatClampNeg p1)) + 1).toInt) (c := (v_windows - 1).toInt) (d := ((v_window (Int32.toNatClampNeg p1)) + 1).toInt) rfl rfl rfl rfl
    intro z3 ez3
    have t11 : z3.toInt = (if (v_windows - 1) < ((v_window (Int32.toNatClampNeg p1)) + 1) then (v_windows - 1) else ((v_window (Int32.toNatClampNeg p1)) + 1)).toInt := by rw [ez3] <;> rfl
    refine ⟨ivp (a := p1.toInt) rfl (by omega) (by omega), ?_⟩
    intro f4 ef4
    have t12 : ((Int32.toNatClampNeg p1 : Nat) : Int) = p1.toInt := itn rfl (by omega)
    have t13 : (f4 (Int32.toNatClampNeg p1)).toInt = z3.toInt := by rw [ef4, upd_eq] <;> rfl
    try have q14 : AB f4 0 gh_v_clocks 0 (v_windows.toInt - 1) := by rw [ef4]; first | exact AB.updo (by assumption) (by omega) | exact AB.updv (by assumption) rfl (by omega) (by omega) | exact AB.none (by omega) | exact AB.updo (AB.mono (by assumption) (by omega) (by omega) (by omega) (by omega)) (by omega)
    refine s_X2_isHome (by first | omega | assumption | exact AB.none (by omega) | exact AB.mono (by assumption) (by omega) (by omega) (by omega) (by omega) | exact RB.none (by omega) | exact RB.mono (by assumption) (by omega) | exact UB.none (by omega) | exact UB.mono (by assumption) (by omega) | exact EQ.none (by omega) | exact EQ.mono (by assumption) (by omega)) (by first | omega | assumption | exact AB.none (by omega) | exact AB.mono (by assumption) (by omega) (by omega) (by omega) (by omega) | exact RB.none (by omega) | exact RB.mono (by assumption) (by omega) | exact UB.none (by omega) | exact UB.mono (by assumption) (by omega) | exact EQ.none (by omega) | exact EQ.mono (by assumption) (by omega)) (by first | omega | assumption | exact AB.none (by omega) | exact AB.mono (by assumption) (by omega) (by omega) (by omega) (by omega) | exact RB.none (by omega) | exact RB.mono (by assumption) (by omega) | exact UB.none (by omega) | exact UB.mono (by assumption) (by omega) | exact EQ.none (by omega) | exact EQ.mono (by assumption) (by omega)) (by first | omega | assumption | exact AB.none (by omega) | exact AB.mono (by assumption) (by omega) (by omega) (by omega) (by omega) | exact RB.none (by omega) | exact RB.mono (by assumption) (by omega) | exact UB.none (by omega) | exact UB.mono (by assumption) (by omega) | exact EQ.none (by omega) | exact EQ.mono (by assumption) (by omega)) (fun r5 q15 => ?_)
    refine ⟨fun v_finish_6 => ((¬ p3 = 2 → (∀ z8 : Int32, z8 = (v_heard ||| (1 <<< (p1 &&& 31))) → (wp_X2_strokesFor p2 (fun (r9 : Int32) =>
 (∀ z10 : Int32, z10 = (v_strokes + r9) → (post f2 f4 v_finish_6 z8 z10)))))) ∧
 (p3 = 2 → (post f2 f4 v_finish_6 v_heard v_strokes))), fun v_finish_6 h => h, ?_⟩
    refine ⟨fun c16 => ?_, fun c16 => ?_⟩
    · skip
      have t17 := ieq (a := r5.toInt) (b := 0) rfl rfl c16
      show ((¬ p3 = 2 → (∀ z8 : Int32, z8 = (v_heard ||| (1 <<< (p1 &&& 31))) → (wp_X2_strokesFor p2 (fun (r9 : Int32) =>
 (∀ z10 : Int32, z10 = (v_strokes + r9) → (post f2 f4 v_finish z8 z10)))))) ∧
 (p3 = 2 → (post f2 f4 v_finish v_heard v_strokes)))
      refine ⟨fun c18 => ?_, fun c18 => ?_⟩
      · skip
        have t19 := ine (a := p3.toInt) (b := 2) rfl rfl c18
        try have t20 := i1s (x := p1) (a := p1.toInt) rfl (by omega) (by omega)
        intro z8 ez8
        have t21 : z8.toInt = (v_heard ||| (1 <<< (p1 &&& 31))).toInt := by rw [ez8] <;> rfl
        refine s_X2_strokesFor  (fun r9 => ?_)
        try have t22 : (v_strokes + r9).toInt = v_strokes.toInt + r9.toInt := ia rfl rfl (by omega) (by omega)
        intro z10 ez10
        have t23 : z10.toInt = (v_strokes + r9).toInt := by rw [ez10] <;> rfl
        exact hk _ _ _ _ _ (by first | omega | assumption | exact AB.none (by omega) | exact AB.mono (by assumption) (by omega) (by omega) (by omega) (by omega) | exact RB.none (by omega) | exact RB.mono (by assumption) (by omega) | exact UB.none (by omega) | exact UB.mono (by assumption) (by omega) | exact EQ.none (by omega) | exact EQ.mono (by assumption) (by omega))
      · skip
        have t24 := ieq (a := p3.toInt) (b := 2) rfl rfl c18
        exact hk _ _ _ _ _ (by first | omega | assumption | exact AB.none (by omega) | exact AB.mono (by assumption) (by omega) (by omega) (by omega) (by omega) | exact RB.none (by omega) | exact RB.mono (by assumption) (by omega) | exact UB.none (by omega) | exact UB.mono (by assumption) (by omega) | exact EQ.none (by omega) | exact EQ.mono (by assumption) (by omega))
    · skip
      have t25 := ine (a := r5.toInt) (b := 0) rfl rfl c16
      try have t26 : (v_hour + 1).toInt = v_hour.toInt + 1 := ia rfl rfl (by omega) (by omega)
      intro z12 ez12
      have t27 : z12.toInt = (v_hour + 1).toInt := by rw [ez12] <;> rfl
      refine ⟨ivp (a := p1.toInt) rfl (by omega) (by omega), ?_⟩
      intro f13 ef13
      have t28 : ((Int32.toNatClampNeg p1 : Nat) : Int) = p1.toInt := itn rfl (by omega)
      have t29 : (f13 (Int32.toNatClampNeg p1)).toInt = z12.toInt := by rw [ef13, upd_eq] <;> rfl
      show ((¬ p3 = 2 → (∀ z8 : Int32, z8 = (v_heard ||| (1 <<< (p1 &&& 31))) → (wp_X2_strokesFor p2 (fun (r9 : Int32) =>
 (∀ z10 : Int32, z10 = (v_strokes + r9) → (post f2 f4 f13 z8 z10)))))) ∧
 (p3 = 2 → (post f2 f4 f13 v_heard v_strokes)))
      refine ⟨fun c30 => ?_, fun c30 => ?_⟩
      · skip
        have t31 := ine (a := p3.toInt) (b := 2) rfl rfl c30
        try have t32 := i1s (x := p1) (a := p1.toInt) rfl (by omega) (by omega)
        intro z8 ez8
        have t33 : z8.toInt = (v_heard ||| (1 <<< (p1 &&& 31))).toInt := by rw [ez8] <;> rfl
        refine s_X2_strokesFor  (fun r9 => ?_)
        try have t34 : (v_strokes + r9).toInt = v_strokes.toInt + r9.toInt := ia rfl rfl (by omega) (by omega)
        intro z10 ez10
        have t35 : z10.toInt = (v_strokes + r9).toInt := by rw [ez10] <;> rfl
        exact hk _ _ _ _ _ (by first | omega | assumption | exact AB.none (by omega) | exact AB.mono (by assumption) (by omega) (by omega) (by omega) (by omega) | exact RB.none (by omega) | exact RB.mono (by assumption) (by omega) | exact UB.none (by omega) | exact UB.mono (by assumption) (by omega) | exact EQ.none (by omega) | exact EQ.mono (by assumption) (by omega))
      · skip
        have t36 := ieq (a := p3.toInt) (b := 2) rfl rfl c30
        exact hk _ _ _ _ _ (by first | omega | assumption | exact AB.none (by omega) | exact AB.mono (by assumption) (by omega) (by omega) (by omega) (by omega) | exact RB.none (by omega) | exact RB.mono (by assumption) (by omega) | exact UB.none (by omega) | exact UB.mono (by assumption) (by omega) | exact EQ.none (by omega) | exact EQ.mono (by assumption) (by omega))
  · skip
    have t37 := ieq (a := (v_kind (Int32.toNatClampNeg p1)).toInt) (b := 1) rfl rfl c1
    refine ⟨fun c38 => ?_, fun c38 => ?_⟩
    · skip
      have t39 := ine (a := p3.toInt) (b := 1) rfl rfl c38
      show (vp_in p1 9 ∧ (vp_in (v_window (Int32.toNatClampNeg p1)) 24 ∧ ∀ f2 : Nat → Int32, f2 = (upd v_dials (Int32.toNatClampNeg (v_window (Int32.toNatClampNeg p1))) p2) → (vp_in p1 9 ∧ (∀ z3 : Int32, z3 = (if (v_windows - 1) < ((v_window (Int32.toNatClampNeg p1)) + 1) then (v_windows - 1) else ((v_window (Int32.toNatClampNeg p1)) + 1)) → (vp_in p1 9 ∧ ∀ f4 : Nat → Int32, f4 = (upd v_window (Int32.toNatClampNeg p1) z3) → (wp_X2_isHome p1 v_windows f4 (fun (r5 : Int32) =>
 (∃ J6 : (Nat → Int32) → Prop, (∀ (v_finish_6 : Nat → Int32), J6 v_finish_6 →
 ((¬ p3 = 2 → (∀ z8 : Int32, z8 = (v_heard ||| (1 <<< (p1 &&& 31))) → (wp_X2_strokesFor p2 (fun (r9 : Int32) =>
 (∀ z10 : Int32, z10 = (v_strokes + r9) → (post f2 f4 v_finish_6 z8 z10)))))) ∧
 (p3 = 2 → (post f2 f4 v_finish_6 v_heard v_strokes)))) ∧
 ((r5 = 0 → (J6 v_finish)) ∧
 (¬ r5 = 0 → (∀ z12 : Int32, z12 = (v_hour + 1) → (vp_in p1 9 ∧ ∀ f13 : Nat → Int32, f13 = (upd v_finish (Int32.toNatClampNeg p1) z12) → (J6 f13)))))))))))))
      refine ⟨ivp (a := p1.toInt) rfl (by omega) (by omega), ?_⟩
      try have q40 := AB.get (f := v_window) (i := p1) (a := p1.toInt) (by assumption) rfl (by omega) (by omega) (by omega)
      refine ⟨ivp (a := (v_window (Int32.toNatClampNeg p1)).toInt) rfl (by omega) (by omega), ?_⟩
      intro f2 ef2
      have t41 : ((Int32.toNatClampNeg (v_window (Int32.toNatClampNeg p1)) : Nat) : Int) = (v_window (Int32.toNatClampNeg p1)).toInt := itn rfl (by omega)
      have t42 : (f2 (Int32.toNatClampNeg (v_window (Int32.toNatClampNeg p1)))).toInt = p2.toInt := by rw [ef2, upd_eq] <;> rfl
      refine ⟨ivp (a := p1.toInt) rfl (by omega) (by omega), ?_⟩
      try have q43 := AB.get (f := v_window) (i := p1) (a := p1.toInt) (by assumption) rfl (by omega) (by omega) (by omega)
      try have t44 : (v_windows - 1).toInt = v_windows.toInt - 1 := isb rfl rfl (by omega) (by omega)
      have t45 := isbi (x := v_windows) (y := 1) (b := 1) rfl
      try have t46 : ((v_window (Int32.toNatClampNeg p1)) + 1).toInt = (v_window (Int32.toNatClampNeg p1)).toInt + 1 := ia rfl rfl (by omega) (by omega)
      have t47 := iit (x := (v_windows - 1)) (y := ((v_window (Int32.toNatClampNeg p1)) + 1)) (p := (v_windows - 1)) (q := ((v_window (Int32.toNatClampNeg p1)) + 1)) (a := (v_windows - 1).toInt) (b := ((v_window (Int32.toNatClampNeg p1)) + 1).toInt) (c := (v_windows - 1).toInt) (d := ((v_window (Int32.toNatClampNeg p1)) + 1).toInt) rfl rfl rfl rfl
      intro z3 ez3
      have t48 : z3.toInt = (if (v_windows - 1) < ((v_window (Int32.toNatClampNeg p1)) + 1) then (v_windows - 1) else ((v_window (Int32.toNatClampNeg p1)) + 1)).toInt := by rw [ez3] <;> rfl
      refine ⟨ivp (a := p1.toInt) rfl (by omega) (by omega), ?_⟩
      intro f4 ef4
      have t49 : ((Int32.toNatClampNeg p1 : Nat) : Int) = p1.toInt := itn rfl (by omega)
      have t50 : (f4 (Int32.toNatClampNeg p1)).toInt = z3.toInt := by rw [ef4, upd_eq] <;> rfl
      try have q51 : AB f4 0 gh_v_clocks 0 (v_windows.toInt - 1) := by rw [ef4]; first | exact AB.updo (by assumption) (by omega) | exact AB.updv (by assumption) rfl (by omega) (by omega) | exact AB.none (by omega) | exact AB.updo (AB.mono (by assumption) (by omega) (by omega) (by omega) (by omega)) (by omega)
      refine s_X2_isHome (by first | omega | assumption | exact AB.none (by omega) | exact AB.mono (by assumption) (by omega) (by omega) (by omega) (by omega) | exact RB.none (by omega) | exact RB.mono (by assumption) (by omega) | exact UB.none (by omega) | exact UB.mono (by assumption) (by omega) | exact EQ.none (by omega) | exact EQ.mono (by assumption) (by omega)) (by first | omega | assumption | exact AB.none (by omega) | exact AB.mono (by assumption) (by omega) (by omega) (by omega) (by omega) | exact RB.none (by omega) | exact RB.mono (by assumption) (by omega) | exact UB.none (by omega) | exact UB.mono (by assumption) (by omega) | exact EQ.none (by omega) | exact EQ.mono (by assumption) (by omega)) (by first | omega | assumption | exact AB.none (by omega) | exact AB.mono (by assumption) (by omega) (by omega) (by omega) (by omega) | exact RB.none (by omega) | exact RB.mono (by assumption) (by omega) | exact UB.none (by omega) | exact UB.mono (by assumption) (by omega) | exact EQ.none (by omega) | exact EQ.mono (by assumption) (by omega)) (by first | omega | assumption | exact AB.none (by omega) | exact AB.mono (by assumption) (by omega) (by omega) (by omega) (by omega) | exact RB.none (by omega) | exact RB.mono (by assumption) (by omega) | exact UB.none (by omega) | exact UB.mono (by assumption) (by omega) | exact EQ.none (by omega) | exact EQ.mono (by assumption) (by omega)) (fun r5 q52 => ?_)
      refine ⟨fun v_finish_6 => ((¬ p3 = 2 → (∀ z8 : Int32, z8 = (v_heard ||| (1 <<< (p1 &&& 31))) → (wp_X2_strokesFor p2 (fun (r9 : Int32) =>
 (∀ z10 : Int32, z10 = (v_strokes + r9) → (post f2 f4 v_finish_6 z8 z10)))))) ∧
 (p3 = 2 → (post f2 f4 v_finish_6 v_heard v_strokes))), fun v_finish_6 h => h, ?_⟩
      refine ⟨fun c53 => ?_, fun c53 => ?_⟩
      · skip
        have t54 := ieq (a := r5.toInt) (b := 0) rfl rfl c53
        show ((¬ p3 = 2 → (∀ z8 : Int32, z8 = (v_heard ||| (1 <<< (p1 &&& 31))) → (wp_X2_strokesFor p2 (fun (r9 : Int32) =>
 (∀ z10 : Int32, z10 = (v_strokes + r9) → (post f2 f4 v_finish z8 z10)))))) ∧
 (p3 = 2 → (post f2 f4 v_finish v_heard v_strokes)))
        refine ⟨fun c55 => ?_, fun c55 => ?_⟩
        · skip
          have t56 := ine (a := p3.toInt) (b := 2) rfl rfl c55
          try have t57 := i1s (x := p1) (a := p1.toInt) rfl (by omega) (by omega)
          intro z8 ez8
          have t58 : z8.toInt = (v_heard ||| (1 <<< (p1 &&& 31))).toInt := by rw [ez8] <;> rfl
          refine s_X2_strokesFor  (fun r9 => ?_)
          try have t59 : (v_strokes + r9).toInt = v_strokes.toInt + r9.toInt := ia rfl rfl (by omega) (by omega)
          intro z10 ez10
          have t60 : z10.toInt = (v_strokes + r9).toInt := by rw [ez10] <;> rfl
          exact hk _ _ _ _ _ (by first | omega | assumption | exact AB.none (by omega) | exact AB.mono (by assumption) (by omega) (by omega) (by omega) (by omega) | exact RB.none (by omega) | exact RB.mono (by assumption) (by omega) | exact UB.none (by omega) | exact UB.mono (by assumption) (by omega) | exact EQ.none (by omega) | exact EQ.mono (by assumption) (by omega))
        · skip
          have t61 := ieq (a := p3.toInt) (b := 2) rfl rfl c55
          exact hk _ _ _ _ _ (by first | omega | assumption | exact AB.none (by omega) | exact AB.mono (by assumption) (by omega) (by omega) (by omega) (by omega) | exact RB.none (by omega) | exact RB.mono (by assumption) (by omega) | exact UB.none (by omega) | exact UB.mono (by assumption) (by omega) | exact EQ.none (by omega) | exact EQ.mono (by assumption) (by omega))
      · skip
        have t62 := ine (a := r5.toInt) (b := 0) rfl rfl c53
        try have t63 : (v_hour + 1).toInt = v_hour.toInt + 1 := ia rfl rfl (by omega) (by omega)
        intro z12 ez12
        have t64 : z12.toInt = (v_hour + 1).toInt := by rw [ez12] <;> rfl
        refine ⟨ivp (a := p1.toInt) rfl (by omega) (by omega), ?_⟩
        intro f13 ef13
        have t65 : ((Int32.toNatClampNeg p1 : Nat) : Int) = p1.toInt := itn rfl (by omega)
        have t66 : (f13 (Int32.toNatClampNeg p1)).toInt = z12.toInt := by rw [ef13, upd_eq] <;> rfl
        show ((¬ p3 = 2 → (∀ z8 : Int32, z8 = (v_heard ||| (1 <<< (p1 &&& 31))) → (wp_X2_strokesFor p2 (fun (r9 : Int32) =>
 (∀ z10 : Int32, z10 = (v_strokes + r9) → (post f2 f4 f13 z8 z10)))))) ∧
 (p3 = 2 → (post f2 f4 f13 v_heard v_strokes)))
        refine ⟨fun c67 => ?_, fun c67 => ?_⟩
        · skip
          have t68 := ine (a := p3.toInt) (b := 2) rfl rfl c67
          try have t69 := i1s (x := p1) (a := p1.toInt) rfl (by omega) (by omega)
          intro z8 ez8
          have t70 : z8.toInt = (v_heard ||| (1 <<< (p1 &&& 31))).toInt := by rw [ez8] <;> rfl
          refine s_X2_strokesFor  (fun r9 => ?_)
          try have t71 : (v_strokes + r9).toInt = v_strokes.toInt + r9.toInt := ia rfl rfl (by omega) (by omega)
          intro z10 ez10
          have t72 : z10.toInt = (v_strokes + r9).toInt := by rw [ez10] <;> rfl
          exact hk _ _ _ _ _ (by first | omega | assumption | exact AB.none (by omega) | exact AB.mono (by assumption) (by omega) (by omega) (by omega) (by omega) | exact RB.none (by omega) | exact RB.mono (by assumption) (by omega) | exact UB.none (by omega) | exact UB.mono (by assumption) (by omega) | exact EQ.none (by omega) | exact EQ.mono (by assumption) (by omega))
        · skip
          have t73 := ieq (a := p3.toInt) (b := 2) rfl rfl c67
          exact hk _ _ _ _ _ (by first | omega | assumption | exact AB.none (by omega) | exact AB.mono (by assumption) (by omega) (by omega) (by omega) (by omega) | exact RB.none (by omega) | exact RB.mono (by assumption) (by omega) | exact UB.none (by omega) | exact UB.mono (by assumption) (by omega) | exact EQ.none (by omega) | exact EQ.mono (by assumption) (by omega))
    · skip
      have t74 := ieq (a := p3.toInt) (b := 1) rfl rfl c38
      show (vp_in p1 9 ∧ (vp_in (v_window (Int32.toNatClampNeg p1)) 24 ∧ ∀ f2 : Nat → Int32, f2 = (upd v_dials (Int32.toNatClampNeg (v_window (Int32.toNatClampNeg p1))) p2) → (vp_in p1 9 ∧ (∀ z3 : Int32, z3 = (if (v_windows - 1) < ((v_window (Int32.toNatClampNeg p1)) + 2) then (v_windows - 1) else ((v_window (Int32.toNatClampNeg p1)) + 2)) → (vp_in p1 9 ∧ ∀ f4 : Nat → Int32, f4 = (upd v_window (Int32.toNatClampNeg p1) z3) → (wp_X2_isHome p1 v_windows f4 (fun (r5 : Int32) =>
 (∃ J6 : (Nat → Int32) → Prop, (∀ (v_finish_6 : Nat → Int32), J6 v_finish_6 →
 ((¬ p3 = 2 → (∀ z8 : Int32, z8 = (v_heard ||| (1 <<< (p1 &&& 31))) → (wp_X2_strokesFor p2 (fun (r9 : Int32) =>
 (∀ z10 : Int32, z10 = (v_strokes + r9) → (post f2 f4 v_finish_6 z8 z10)))))) ∧
 (p3 = 2 → (post f2 f4 v_finish_6 v_heard v_strokes)))) ∧
 ((r5 = 0 → (J6 v_finish)) ∧
 (¬ r5 = 0 → (∀ z12 : Int32, z12 = (v_hour + 1) → (vp_in p1 9 ∧ ∀ f13 : Nat → Int32, f13 = (upd v_finish (Int32.toNatClampNeg p1) z12) → (J6 f13)))))))))))))
      refine ⟨ivp (a := p1.toInt) rfl (by omega) (by omega), ?_⟩
      try have q75 := AB.get (f := v_window) (i := p1) (a := p1.toInt) (by assumption) rfl (by omega) (by omega) (by omega)
      refine ⟨ivp (a := (v_window (Int32.toNatClampNeg p1)).toInt) rfl (by omega) (by omega), ?_⟩
      intro f2 ef2
      have t76 : ((Int32.toNatClampNeg (v_window (Int32.toNatClampNeg p1)) : Nat) : Int) = (v_window (Int32.toNatClampNeg p1)).toInt := itn rfl (by omega)
      have t77 : (f2 (Int32.toNatClampNeg (v_window (Int32.toNatClampNeg p1)))).toInt = p2.toInt := by rw [ef2, upd_eq] <;> rfl
      refine ⟨ivp (a := p1.toInt) rfl (by omega) (by omega), ?_⟩
      try have q78 := AB.get (f := v_window) (i := p1) (a := p1.toInt) (by assumption) rfl (by omega) (by omega) (by omega)
      try have t79 : (v_windows - 1).toInt = v_windows.toInt - 1 := isb rfl rfl (by omega) (by omega)
      have t80 := isbi (x := v_windows) (y := 1) (b := 1) rfl
      try have t81 : ((v_window (Int32.toNatClampNeg p1)) + 2).toInt = (v_window (Int32.toNatClampNeg p1)).toInt + 2 := ia rfl rfl (by omega) (by omega)
      have t82 := iit (x := (v_windows - 1)) (y := ((v_window (Int32.toNatClampNeg p1)) + 2)) (p := (v_windows - 1)) (q := ((v_window (Int32.toNatClampNeg p1)) + 2)) (a := (v_windows - 1).toInt) (b := ((v_window (Int32.toNatClampNeg p1)) + 2).toInt) (c := (v_windows - 1).toInt) (d := ((v_window (Int32.toNatClampNeg p1)) + 2).toInt) rfl rfl rfl rfl
      intro z3 ez3
      have t83 : z3.toInt = (if (v_windows - 1) < ((v_window (Int32.toNatClampNeg p1)) + 2) then (v_windows - 1) else ((v_window (Int32.toNatClampNeg p1)) + 2)).toInt := by rw [ez3] <;> rfl
      refine ⟨ivp (a := p1.toInt) rfl (by omega) (by omega), ?_⟩
      intro f4 ef4
      have t84 : ((Int32.toNatClampNeg p1 : Nat) : Int) = p1.toInt := itn rfl (by omega)
      have t85 : (f4 (Int32.toNatClampNeg p1)).toInt = z3.toInt := by rw [ef4, upd_eq] <;> rfl
      try have q86 : AB f4 0 gh_v_clocks 0 (v_windows.toInt - 1) := by rw [ef4]; first | exact AB.updo (by assumption) (by omega) | exact AB.updv (by assumption) rfl (by omega) (by omega) | exact AB.none (by omega) | exact AB.updo (AB.mono (by assumption) (by omega) (by omega) (by omega) (by omega)) (by omega)
      refine s_X2_isHome (by first | omega | assumption | exact AB.none (by omega) | exact AB.mono (by assumption) (by omega) (by omega) (by omega) (by omega) | exact RB.none (by omega) | exact RB.mono (by assumption) (by omega) | exact UB.none (by omega) | exact UB.mono (by assumption) (by omega) | exact EQ.none (by omega) | exact EQ.mono (by assumption) (by omega)) (by first | omega | assumption | exact AB.none (by omega) | exact AB.mono (by assumption) (by omega) (by omega) (by omega) (by omega) | exact RB.none (by omega) | exact RB.mono (by assumption) (by omega) | exact UB.none (by omega) | exact UB.mono (by assumption) (by omega) | exact EQ.none (by omega) | exact EQ.mono (by assumption) (by omega)) (by first | omega | assumption | exact AB.none (by omega) | exact AB.mono (by assumption) (by omega) (by omega) (by omega) (by omega) | exact RB.none (by omega) | exact RB.mono (by assumption) (by omega) | exact UB.none (by omega) | exact UB.mono (by assumption) (by omega) | exact EQ.none (by omega) | exact EQ.mono (by assumption) (by omega)) (by first | omega | assumption | exact AB.none (by omega) | exact AB.mono (by assumption) (by omega) (by omega) (by omega) (by omega) | exact RB.none (by omega) | exact RB.mono (by assumption) (by omega) | exact UB.none (by omega) | exact UB.mono (by assumption) (by omega) | exact EQ.none (by omega) | exact EQ.mono (by assumption) (by omega)) (fun r5 q87 => ?_)
      refine ⟨fun v_finish_6 => ((¬ p3 = 2 → (∀ z8 : Int32, z8 = (v_heard ||| (1 <<< (p1 &&& 31))) → (wp_X2_strokesFor p2 (fun (r9 : Int32) =>
 (∀ z10 : Int32, z10 = (v_strokes + r9) → (post f2 f4 v_finish_6 z8 z10)))))) ∧
 (p3 = 2 → (post f2 f4 v_finish_6 v_heard v_strokes))), fun v_finish_6 h => h, ?_⟩
      refine ⟨fun c88 => ?_, fun c88 => ?_⟩
      · skip
        have t89 := ieq (a := r5.toInt) (b := 0) rfl rfl c88
        show ((¬ p3 = 2 → (∀ z8 : Int32, z8 = (v_heard ||| (1 <<< (p1 &&& 31))) → (wp_X2_strokesFor p2 (fun (r9 : Int32) =>
 (∀ z10 : Int32, z10 = (v_strokes + r9) → (post f2 f4 v_finish z8 z10)))))) ∧
 (p3 = 2 → (post f2 f4 v_finish v_heard v_strokes)))
        refine ⟨fun c90 => ?_, fun c90 => ?_⟩
        · skip
          have t91 := ine (a := p3.toInt) (b := 2) rfl rfl c90
          try have t92 := i1s (x := p1) (a := p1.toInt) rfl (by omega) (by omega)
          intro z8 ez8
          have t93 : z8.toInt = (v_heard ||| (1 <<< (p1 &&& 31))).toInt := by rw [ez8] <;> rfl
          refine s_X2_strokesFor  (fun r9 => ?_)
          try have t94 : (v_strokes + r9).toInt = v_strokes.toInt + r9.toInt := ia rfl rfl (by omega) (by omega)
          intro z10 ez10
          have t95 : z10.toInt = (v_strokes + r9).toInt := by rw [ez10] <;> rfl
          exact hk _ _ _ _ _ (by first | omega | assumption | exact AB.none (by omega) | exact AB.mono (by assumption) (by omega) (by omega) (by omega) (by omega) | exact RB.none (by omega) | exact RB.mono (by assumption) (by omega) | exact UB.none (by omega) | exact UB.mono (by assumption) (by omega) | exact EQ.none (by omega) | exact EQ.mono (by assumption) (by omega))
        · skip
          have t96 := ieq (a := p3.toInt) (b := 2) rfl rfl c90
          exfalso; omega
      · skip
        have t97 := ine (a := r5.toInt) (b := 0) rfl rfl c88
        try have t98 : (v_hour + 1).toInt = v_hour.toInt + 1 := ia rfl rfl (by omega) (by omega)
        intro z12 ez12
        have t99 : z12.toInt = (v_hour + 1).toInt := by rw [ez12] <;> rfl
        refine ⟨ivp (a := p1.toInt) rfl (by omega) (by omega), ?_⟩
        intro f13 ef13
        have t100 : ((Int32.toNatClampNeg p1 : Nat) : Int) = p1.toInt := itn rfl (by omega)
        have t101 : (f13 (Int32.toNatClampNeg p1)).toInt = z12.toInt := by rw [ef13, upd_eq] <;> rfl
        show ((¬ p3 = 2 → (∀ z8 : Int32, z8 = (v_heard ||| (1 <<< (p1 &&& 31))) → (wp_X2_strokesFor p2 (fun (r9 : Int32) =>
 (∀ z10 : Int32, z10 = (v_strokes + r9) → (post f2 f4 f13 z8 z10)))))) ∧
 (p3 = 2 → (post f2 f4 f13 v_heard v_strokes)))
        refine ⟨fun c102 => ?_, fun c102 => ?_⟩
        · skip
          have t103 := ine (a := p3.toInt) (b := 2) rfl rfl c102
          try have t104 := i1s (x := p1) (a := p1.toInt) rfl (by omega) (by omega)
          intro z8 ez8
          have t105 : z8.toInt = (v_heard ||| (1 <<< (p1 &&& 31))).toInt := by rw [ez8] <;> rfl
          refine s_X2_strokesFor  (fun r9 => ?_)
          try have t106 : (v_strokes + r9).toInt = v_strokes.toInt + r9.toInt := ia rfl rfl (by omega) (by omega)
          intro z10 ez10
          have t107 : z10.toInt = (v_strokes + r9).toInt := by rw [ez10] <;> rfl
          exact hk _ _ _ _ _ (by first | omega | assumption | exact AB.none (by omega) | exact AB.mono (by assumption) (by omega) (by omega) (by omega) (by omega) | exact RB.none (by omega) | exact RB.mono (by assumption) (by omega) | exact UB.none (by omega) | exact UB.mono (by assumption) (by omega) | exact EQ.none (by omega) | exact EQ.mono (by assumption) (by omega))
        · skip
          have t108 := ieq (a := p3.toInt) (b := 2) rfl rfl c102
          exfalso; omega
set_option maxHeartbeats 1000000 in
set_option maxRecDepth 10000 in
theorem s_X2_run {p1 : Int32} {v_kind : Nat → Int32} {v_hands : Nat → Int32} {v_rate : Nat → Int32} {v_spring : Nat → Int32} {post : (Nat → Int32) → (Nat → Int32) → Prop} (hp0 : 0 ≤ p1.toInt) (hp1 : p1.toInt ≤ 8) (hk : ∀ (v_hands' : Nat → Int32) (v_spring' : Nat → Int32), post v_hands' v_spring') : wp_X2_run p1 v_kind v_hands v_rate v_spring post := by
  unfold wp_X2_run
  have rp1 := Int32.toInt_lt p1
  have rq1 := Int32.le_toInt p1
  refine ⟨ivp (a := p1.toInt) rfl (by omega) (by omega), ?_⟩
  refine ⟨fun c1 => ?_, fun c1 => ?_⟩
  · skip
    have t2 := ieq (a := (v_kind (Int32.toNatClampNeg p1)).toInt) (b := 2) rfl rfl c1
    exact hk _ _
  · skip
    have t3 := ine (a := (v_kind (Int32.toNatClampNeg p1)).toInt) (b := 2) rfl rfl c1
    refine ⟨ivp (a := p1.toInt) rfl (by omega) (by omega), ?_⟩
    refine ⟨fun c4 => ?_, fun c4 => ?_⟩
    · skip
      have t5 := ieq (a := (v_kind (Int32.toNatClampNeg p1)).toInt) (b := 3) rfl rfl c4
      exact hk _ _
    · skip
      have t6 := ine (a := (v_kind (Int32.toNatClampNeg p1)).toInt) (b := 3) rfl rfl c4
      refine ⟨ivp (a := p1.toInt) rfl (by omega) (by omega), ?_⟩
      refine ⟨fun c7 => ?_, fun c7 => ?_⟩
      · skip
        have t8 := ine (a := (v_spring (Int32.toNatClampNeg p1)).toInt) (b := 0) rfl rfl c7
        refine ⟨ivp (a := p1.toInt) rfl (by omega) (by omega), ?_⟩
        try have t9 : (60 + (v_rate (Int32.toNatClampNeg p1))).toInt = 60 + (v_rate (Int32.toNatClampNeg p1)).toInt := ia rfl rfl (by omega) (by omega)
        refine s_X2_turnOn (by first | omega | assumption | exact AB.none (by omega) | exact AB.mono (by assumption) (by omega) (by omega) (by omega) (by omega) | exact RB.none (by omega) | exact RB.mono (by assumption) (by omega) | exact UB.none (by omega) | exact UB.mono (by assumption) (by omega) | exact EQ.none (by omega) | exact EQ.mono (by assumption) (by omega)) (by first | omega | assumption | exact AB.none (by omega) | exact AB.mono (by assumption) (by omega) (by omega) (by omega) (by omega) | exact RB.none (by omega) | exact RB.mono (by assumption) (by omega) | exact UB.none (by omega) | exact UB.mono (by assumption) (by omega) | exact EQ.none (by omega) | exact EQ.mono (by assumption) (by omega)) (fun v_hands_5 => ?_)
        refine ⟨ivp (a := p1.toInt) rfl (by omega) (by omega), ?_⟩
        try have t10 : ((v_spring (Int32.toNatClampNeg p1)) - 1).toInt = (v_spring (Int32.toNatClampNeg p1)).toInt - 1 := isb rfl rfl (by omega) (by omega)
        have t11 := isbi (x := (v_spring (Int32.toNatClampNeg p1))) (y := 1) (b := 1) rfl
        intro z6 ez6
        have t12 : z6.toInt = ((v_spring (Int32.toNatClampNeg p1)) - 1).toInt := by rw [ez6] <;> rfl
        refine ⟨ivp (a := p1.toInt) rfl (by omega) (by omega), ?_⟩
        intro f7 ef7
        have t13 : ((Int32.toNatClampNeg p1 : Nat) : Int) = p1.toInt := itn rfl (by omega)
        have t14 : (f7 (Int32.toNatClampNeg p1)).toInt = z6.toInt := by rw [ef7, upd_eq] <;> rfl
        exact hk _ _
      · skip
        have t15 := ieq (a := (v_spring (Int32.toNatClampNeg p1)).toInt) (b := 0) rfl rfl c7
        exact hk _ _
set_option maxHeartbeats 1000000 in
set_option maxRecDepth 10000 in
theorem s_X2_pass {p1 : Int32} {v_windows : Int32} {v_dials : Nat → Int32} {v_clocks : Int32} {v_kind : Nat → Int32} {v_hands : Nat → Int32} {v_rate : Nat → Int32} {v_spring : Nat → Int32} {v_window : Nat → Int32} {v_finish : Nat → Int32} {v_skies : Int32} {v_sky : Nat → Int32} {v_hour : Int32} {v_heard : Int32} {v_strokes : Int32} {post : Int32 → (Nat → Int32) → (Nat → Int32) → (Nat → Int32) → (Nat → Int32) → (Nat → Int32) → (Int32) → (Int32) → (Int32) → Prop} (hp0 : AB v_window 0 v_clocks.toInt 0 (v_windows.toInt - 1)) (hp1 : 2 ≤ v_windows.toInt) (hp2 : v_windows.toInt ≤ 24) (hp3 : 0 ≤ v_clocks.toInt) (hp4 : v_clocks.toInt ≤ 9) (hp5 : 1 ≤ v_skies.toInt) (hp6 : v_skies.toInt ≤ 12) (hp7 : 0 ≤ v_hour.toInt) (hp8 : v_hour.toInt ≤ 20000) (hk : ∀ (r : Int32) (v_dials' : Nat → Int32) (v_hands' : Nat → Int32) (v_spring' : Nat → Int32) (v_window' : Nat → Int32) (v_finish' : Nat → Int32) (v_hour' : Int32) (v_heard' : Int32) (v_strokes' : Int32), (AB v_window' 0 v_clocks.toInt 0 (v_windows.toInt - 1)) → (0 ≤ v_hour'.toInt) → (v_hour'.toInt = v_hour.toInt + 1) → (0 ≤ r.toInt) → (r.toInt ≤ 9) → post r v_dials' v_hands' v_spring' v_window' v_finish' v_hour' v_heard' v_strokes') : wp_X2_pass p1 v_windows v_dials v_clocks v_kind v_hands v_rate v_spring v_window v_finish v_skies v_sky v_hour v_heard v_strokes post := by
  unfold wp_X2_pass
  have rp1 := Int32.toInt_lt p1
  have rq1 := Int32.le_toInt p1
  refine ⟨fun y0_1 => (True), fun y0_1 hj1 => ?_, ?_⟩
  · skip
    refine s_X2_hush  (fun v_heard_3 v_strokes_4 => ?_)
    have t1 : ((0 : Int32)).toInt = 0 := rfl
    have t2 : ((0 : Int32)).toInt = 0 := rfl
    refine ⟨fun n5 x3_5 x4_5 v_dials_5 v_window_5 v_finish_5 v_heard_5 v_strokes_5 => n5 = (v_clocks.toInt - x4_5.toInt).toNat ∧ (AB v_window_5 0 v_clocks.toInt 0 (v_windows.toInt - 1)) ∧ (0 ≤ x4_5.toInt) ∧ (0 ≤ x3_5.toInt) ∧ (x3_5.toInt ≤ x4_5.toInt) ∧ (x4_5.toInt ≤ v_clocks.toInt), ⟨_, rfl, by first | omega | assumption | exact AB.none (by omega) | exact AB.mono (by assumption) (by omega) (by omega) (by omega) (by omega) | exact RB.none (by omega) | exact RB.mono (by assumption) (by omega) | exact UB.none (by omega) | exact UB.mono (by assumption) (by omega) | exact EQ.none (by omega) | exact EQ.mono (by assumption) (by omega), by first | omega | assumption | exact AB.none (by omega) | exact AB.mono (by assumption) (by omega) (by omega) (by omega) (by omega) | exact RB.none (by omega) | exact RB.mono (by assumption) (by omega) | exact UB.none (by omega) | exact UB.mono (by assumption) (by omega) | exact EQ.none (by omega) | exact EQ.mono (by assumption) (by omega), by first | omega | assumption | exact AB.none (by omega) | exact AB.mono (by assumption) (by omega) (by omega) (by omega) (by omega) | exact RB.none (by omega) | exact RB.mono (by assumption) (by omega) | exact UB.none (by omega) | exact UB.mono (by assumption) (by omega) | exact EQ.none (by omega) | exact EQ.mono (by assumption) (by omega), by first | omega | assumption | exact AB.none (by omega) | exact AB.mono (by assumption) (by omega) (by omega) (by omega) (by omega) | exact RB.none (by omega) | exact RB.mono (by assumption) (by omega) | exact UB.none (by omega) | exact UB.mono (by assumption) (by omega) | exact EQ.none (by omega) | exact EQ.mono (by assumption) (by omega), by first | omega | assumption | exact AB.none (by omega) | exact AB.mono (by assumption) (by omega) (by omega) (by omega) (by omega) | exact RB.none (by omega) | exact RB.mono (by assumption) (by omega) | exact UB.none (by omega) | exact UB.mono (by assumption) (by omega) | exact EQ.none (by omega) | exact EQ.mono (by assumption) (by omega)⟩, ?_⟩
    rintro n5 x3_5 x4_5 v_dials_5 v_window_5 v_finish_5 v_heard_5 v_strokes_5 ⟨hn5, q3, q4, q5, q6, q7⟩
    refine ⟨fun c8 => ?_, fun c8 => ?_⟩
    · skip
      have t9 := ile (a := v_clocks.toInt) (b := x4_5.toInt) rfl rfl c8
      have t10 : ((0 : Int32)).toInt = 0 := rfl
      refine ⟨fun n7 x4_7 v_hands_7 v_spring_7 => n7 = (v_clocks.toInt - x4_7.toInt).toNat ∧ (0 ≤ x4_7.toInt), ⟨_, rfl, by first | omega | assumption | exact AB.none (by omega) | exact AB.mono (by assumption) (by omega) (by omega) (by omega) (by omega) | exact RB.none (by omega) | exact RB.mono (by assumption) (by omega) | exact UB.none (by omega) | exact UB.mono (by assumption) (by omega) | exact EQ.none (by omega) | exact EQ.mono (by assumption) (by omega)⟩, ?_⟩
      rintro n7 x4_7 v_hands_7 v_spring_7 ⟨hn7, q11⟩
      refine ⟨fun c12 => ?_, fun c12 => ?_⟩
      · skip
        have t13 := ile (a := v_clocks.toInt) (b := x4_7.toInt) rfl rfl c12
        try have t14 : (v_hour + 1).toInt = v_hour.toInt + 1 := ia rfl rfl (by omega) (by omega)
        intro z9 ez9
        have t15 : z9.toInt = (v_hour + 1).toInt := by rw [ez9] <;> rfl
        exact hk _ _ _ _ _ _ _ _ _ (by first | omega | assumption | exact AB.none (by omega) | exact AB.mono (by assumption) (by omega) (by omega) (by omega) (by omega) | exact RB.none (by omega) | exact RB.mono (by assumption) (by omega) | exact UB.none (by omega) | exact UB.mono (by assumption) (by omega) | exact EQ.none (by omega) | exact EQ.mono (by assumption) (by omega)) (by first | omega | assumption | exact AB.none (by omega) | exact AB.mono (by assumption) (by omega) (by omega) (by omega) (by omega) | exact RB.none (by omega) | exact RB.mono (by assumption) (by omega) | exact UB.none (by omega) | exact UB.mono (by assumption) (by omega) | exact EQ.none (by omega) | exact EQ.mono (by assumption) (by omega)) (by first | omega | assumption | exact AB.none (by omega) | exact AB.mono (by assumption) (by omega) (by omega) (by omega) (by omega) | exact RB.none (by omega) | exact RB.mono (by assumption) (by omega) | exact UB.none (by omega) | exact UB.mono (by assumption) (by omega) | exact EQ.none (by omega) | exact EQ.mono (by assumption) (by omega)) (by first | omega | assumption | exact AB.none (by omega) | exact AB.mono (by assumption) (by omega) (by omega) (by omega) (by omega) | exact RB.none (by omega) | exact RB.mono (by assumption) (by omega) | exact UB.none (by omega) | exact UB.mono (by assumption) (by omega) | exact EQ.none (by omega) | exact EQ.mono (by assumption) (by omega)) (by first | omega | assumption | exact AB.none (by omega) | exact AB.mono (by assumption) (by omega) (by omega) (by omega) (by omega) | exact RB.none (by omega) | exact RB.mono (by assumption) (by omega) | exact UB.none (by omega) | exact UB.mono (by assumption) (by omega) | exact EQ.none (by omega) | exact EQ.mono (by assumption) (by omega))
      · skip
        have t16 := inle (a := v_clocks.toInt) (b := x4_7.toInt) rfl rfl c12
        refine s_X2_run (by first | omega | assumption | exact AB.none (by omega) | exact AB.mono (by assumption) (by omega) (by omega) (by omega) (by omega) | exact RB.none (by omega) | exact RB.mono (by assumption) (by omega) | exact UB.none (by omega) | exact UB.mono (by assumption) (by omega) | exact EQ.none (by omega) | exact EQ.mono (by assumption) (by omega)) (by first | omega | assumption | exact AB.none (by omega) | exact AB.mono (by assumption) (by omega) (by omega) (by omega) (by omega) | exact RB.none (by omega) | exact RB.mono (by assumption) (by omega) | exact UB.none (by omega) | exact UB.mono (by assumption) (by omega) | exact EQ.none (by omega) | exact EQ.mono (by assumption) (by omega)) (fun v_hands_11 v_spring_12 => ?_)
        try have t17 : (x4_7 + 1).toInt = x4_7.toInt + 1 := ia rfl rfl (by omega) (by omega)
        intro z13 ez13
        have t18 : z13.toInt = (x4_7 + 1).toInt := by rw [ez13] <;> rfl
        refine ⟨_, ?_, rfl, by first | omega | assumption | exact AB.none (by omega) | exact AB.mono (by assumption) (by omega) (by omega) (by omega) (by omega) | exact RB.none (by omega) | exact RB.mono (by assumption) (by omega) | exact UB.none (by omega) | exact UB.mono (by assumption) (by omega) | exact EQ.none (by omega) | exact EQ.mono (by assumption) (by omega)⟩
        omega
    · skip
      have t19 := inle (a := v_clocks.toInt) (b := x4_5.toInt) rfl rfl c8
      refine s_X2_isHome (by first | omega | assumption | exact AB.none (by omega) | exact AB.mono (by assumption) (by omega) (by omega) (by omega) (by omega) | exact RB.none (by omega) | exact RB.mono (by assumption) (by omega) | exact UB.none (by omega) | exact UB.mono (by assumption) (by omega) | exact EQ.none (by omega) | exact EQ.mono (by assumption) (by omega)) (by first | omega | assumption | exact AB.none (by omega) | exact AB.mono (by assumption) (by omega) (by omega) (by omega) (by omega) | exact RB.none (by omega) | exact RB.mono (by assumption) (by omega) | exact UB.none (by omega) | exact UB.mono (by assumption) (by omega) | exact EQ.none (by omega) | exact EQ.mono (by assumption) (by omega)) (by first | omega | assumption | exact AB.none (by omega) | exact AB.mono (by assumption) (by omega) (by omega) (by omega) (by omega) | exact RB.none (by omega) | exact RB.mono (by assumption) (by omega) | exact UB.none (by omega) | exact UB.mono (by assumption) (by omega) | exact EQ.none (by omega) | exact EQ.mono (by assumption) (by omega)) (by first | omega | assumption | exact AB.none (by omega) | exact AB.mono (by assumption) (by omega) (by omega) (by omega) (by omega) | exact RB.none (by omega) | exact RB.mono (by assumption) (by omega) | exact UB.none (by omega) | exact UB.mono (by assumption) (by omega) | exact EQ.none (by omega) | exact EQ.mono (by assumption) (by omega)) (fun r14 q20 => ?_)
      refine ⟨fun c21 => ?_, fun c21 => ?_⟩
      · skip
        have t22 := ieq (a := r14.toInt) (b := 0) rfl rfl c21
        refine s_X2_struckBy (by first | omega | assumption | exact AB.none (by omega) | exact AB.mono (by assumption) (by omega) (by omega) (by omega) (by omega) | exact RB.none (by omega) | exact RB.mono (by assumption) (by omega) | exact UB.none (by omega) | exact UB.mono (by assumption) (by omega) | exact EQ.none (by omega) | exact EQ.mono (by assumption) (by omega)) (by first | omega | assumption | exact AB.none (by omega) | exact AB.mono (by assumption) (by omega) (by omega) (by omega) (by omega) | exact RB.none (by omega) | exact RB.mono (by assumption) (by omega) | exact UB.none (by omega) | exact UB.mono (by assumption) (by omega) | exact EQ.none (by omega) | exact EQ.mono (by assumption) (by omega)) (by first | omega | assumption | exact AB.none (by omega) | exact AB.mono (by assumption) (by omega) (by omega) (by omega) (by omega) | exact RB.none (by omega) | exact RB.mono (by assumption) (by omega) | exact UB.none (by omega) | exact UB.mono (by assumption) (by omega) | exact EQ.none (by omega) | exact EQ.mono (by assumption) (by omega)) (fun r16 => ?_)
        try have q23 := AB.get (f := v_window_5) (i := x4_5) (a := x4_5.toInt) (by assumption) rfl (by omega) (by omega) (by omega)
        refine s_X2_mayGo (by first | omega | assumption | exact AB.none (by omega) | exact AB.mono (by assumption) (by omega) (by omega) (by omega) (by omega) | exact RB.none (by omega) | exact RB.mono (by assumption) (by omega) | exact UB.none (by omega) | exact UB.mono (by assumption) (by omega) | exact EQ.none (by omega) | exact EQ.mono (by assumption) (by omega)) (by first | omega | assumption | exact AB.none (by omega) | exact AB.mono (by assumption) (by omega) (by omega) (by omega) (by omega) | exact RB.none (by omega) | exact RB.mono (by assumption) (by omega) | exact UB.none (by omega) | exact UB.mono (by assumption) (by omega) | exact EQ.none (by omega) | exact EQ.mono (by assumption) (by omega)) (by first | omega | assumption | exact AB.none (by omega) | exact AB.mono (by assumption) (by omega) (by omega) (by omega) (by omega) | exact RB.none (by omega) | exact RB.mono (by assumption) (by omega) | exact UB.none (by omega) | exact UB.mono (by assumption) (by omega) | exact EQ.none (by omega) | exact EQ.mono (by assumption) (by omega)) (by first | omega | assumption | exact AB.none (by omega) | exact AB.mono (by assumption) (by omega) (by omega) (by omega) (by omega) | exact RB.none (by omega) | exact RB.mono (by assumption) (by omega) | exact UB.none (by omega) | exact UB.mono (by assumption) (by omega) | exact EQ.none (by omega) | exact EQ.mono (by assumption) (by omega)) (by first | omega | assumption | exact AB.none (by omega) | exact AB.mono (by assumption) (by omega) (by omega) (by omega) (by omega) | exact RB.none (by omega) | exact RB.mono (by assumption) (by omega) | exact UB.none (by omega) | exact UB.mono (by assumption) (by omega) | exact EQ.none (by omega) | exact EQ.mono (by assumption) (by omega)) (fun r17 q24 q25 => ?_)
        refine ⟨fun c26 => ?_, fun c26 => ?_⟩
        · skip
          have t27 := ine (a := r17.toInt) (b := 0) rfl rfl c26
          try have q28 := AB.get (f := v_window_5) (i := x4_5) (a := x4_5.toInt) (by assumption) rfl (by omega) (by omega) (by omega)
          refine s_X2_go (by first | omega | assumption | exact AB.none (by omega) | exact AB.mono (by assumption) (by omega) (by omega) (by omega) (by omega) | exact RB.none (by omega) | exact RB.mono (by assumption) (by omega) | exact UB.none (by omega) | exact UB.mono (by assumption) (by omega) | exact EQ.none (by omega) | exact EQ.mono (by assumption) (by omega)) (by first | omega | assumption | exact AB.none (by omega) | exact AB.mono (by assumption) (by omega) (by omega) (by omega) (by omega) | exact RB.none (by omega) | exact RB.mono (by assumption) (by omega) | exact UB.none (by omega) | exact UB.mono (by assumption) (by omega) | exact EQ.none (by omega) | exact EQ.mono (by assumption) (by omega)) (by first | omega | assumption | exact AB.none (by omega) | exact AB.mono (by assumption) (by omega) (by omega) (by omega) (by omega) | exact RB.none (by omega) | exact RB.mono (by assumption) (by omega) | exact UB.none (by omega) | exact UB.mono (by assumption) (by omega) | exact EQ.none (by omega) | exact EQ.mono (by assumption) (by omega)) (by first | omega | assumption | exact AB.none (by omega) | exact AB.mono (by assumption) (by omega) (by omega) (by omega) (by omega) | exact RB.none (by omega) | exact RB.mono (by assumption) (by omega) | exact UB.none (by omega) | exact UB.mono (by assumption) (by omega) | exact EQ.none (by omega) | exact EQ.mono (by assumption) (by omega)) (by first | omega | assumption | exact AB.none (by omega) | exact AB.mono (by assumption) (by omega) (by omega) (by omega) (by omega) | exact RB.none (by omega) | exact RB.mono (by assumption) (by omega) | exact UB.none (by omega) | exact UB.mono (by assumption) (by omega) | exact EQ.none (by omega) | exact EQ.mono (by assumption) (by omega)) (by first | omega | assumption | exact AB.none (by omega) | exact AB.mono (by assumption) (by omega) (by omega) (by omega) (by omega) | exact RB.none (by omega) | exact RB.mono (by assumption) (by omega) | exact UB.none (by omega) | exact UB.mono (by assumption) (by omega) | exact EQ.none (by omega) | exact EQ.mono (by assumption) (by omega)) (by first | omega | assumption | exact AB.none (by omega) | exact AB.mono (by assumption) (by omega) (by omega) (by omega) (by omega) | exact RB.none (by omega) | exact RB.mono (by assumption) (by omega) | exact UB.none (by omega) | exact UB.mono (by assumption) (by omega) | exact EQ.none (by omega) | exact EQ.mono (by assumption) (by omega)) (by first | omega | assumption | exact AB.none (by omega) | exact AB.mono (by assumption) (by omega) (by omega) (by omega) (by omega) | exact RB.none (by omega) | exact RB.mono (by assumption) (by omega) | exact UB.none (by omega) | exact UB.mono (by assumption) (by omega) | exact EQ.none (by omega) | exact EQ.mono (by assumption) (by omega)) (by first | omega | assumption | exact AB.none (by omega) | exact AB.mono (by assumption) (by omega) (by omega) (by omega) (by omega) | exact RB.none (by omega) | exact RB.mono (by assumption) (by omega) | exact UB.none (by omega) | exact UB.mono (by assumption) (by omega) | exact EQ.none (by omega) | exact EQ.mono (by assumption) (by omega)) (by first | omega | assumption | exact AB.none (by omega) | exact AB.mono (by assumption) (by omega) (by omega) (by omega) (by omega) | exact RB.none (by omega) | exact RB.mono (by assumption) (by omega) | exact UB.none (by omega) | exact UB.mono (by assumption) (by omega) | exact EQ.none (by omega) | exact EQ.mono (by assumption) (by omega)) (fun v_dials_20 v_window_21 v_finish_22 v_heard_23 v_strokes_24 q29 => ?_)
          try have t30 : (x3_5 + 1).toInt = x3_5.toInt + 1 := ia rfl rfl (by omega) (by omega)
          intro z25 ez25
          have t31 : z25.toInt = (x3_5 + 1).toInt := by rw [ez25] <;> rfl
          try have t32 : (x4_5 + 1).toInt = x4_5.toInt + 1 := ia rfl rfl (by omega) (by omega)
          intro z26 ez26
          have t33 : z26.toInt = (x4_5 + 1).toInt := by rw [ez26] <;> rfl
          refine ⟨_, ?_, rfl, by first | omega | assumption | exact AB.none (by omega) | exact AB.mono (by assumption) (by omega) (by omega) (by omega) (by omega) | exact RB.none (by omega) | exact RB.mono (by assumption) (by omega) | exact UB.none (by omega) | exact UB.mono (by assumption) (by omega) | exact EQ.none (by omega) | exact EQ.mono (by assumption) (by omega), by first | omega | assumption | exact AB.none (by omega) | exact AB.mono (by assumption) (by omega) (by omega) (by omega) (by omega) | exact RB.none (by omega) | exact RB.mono (by assumption) (by omega) | exact UB.none (by omega) | exact UB.mono (by assumption) (by omega) | exact EQ.none (by omega) | exact EQ.mono (by assumption) (by omega), by first | omega | assumption | exact AB.none (by omega) | exact AB.mono (by assumption) (by omega) (by omega) (by omega) (by omega) | exact RB.none (by omega) | exact RB.mono (by assumption) (by omega) | exact UB.none (by omega) | exact UB.mono (by assumption) (by omega) | exact EQ.none (by omega) | exact EQ.mono (by assumption) (by omega), by first | omega | assumption | exact AB.none (by omega) | exact AB.mono (by assumption) (by omega) (by omega) (by omega) (by omega) | exact RB.none (by omega) | exact RB.mono (by assumption) (by omega) | exact UB.none (by omega) | exact UB.mono (by assumption) (by omega) | exact EQ.none (by omega) | exact EQ.mono (by assumption) (by omega), by first | omega | assumption | exact AB.none (by omega) | exact AB.mono (by assumption) (by omega) (by omega) (by omega) (by omega) | exact RB.none (by omega) | exact RB.mono (by assumption) (by omega) | exact UB.none (by omega) | exact UB.mono (by assumption) (by omega) | exact EQ.none (by omega) | exact EQ.mono (by assumption) (by omega)⟩
          omega
        · skip
          have t34 := ieq (a := r17.toInt) (b := 0) rfl rfl c26
          try have t35 : (x4_5 + 1).toInt = x4_5.toInt + 1 := ia rfl rfl (by omega) (by omega)
          intro z27 ez27
          have t36 : z27.toInt = (x4_5 + 1).toInt := by rw [ez27] <;> rfl
          refine ⟨_, ?_, rfl, by first | omega | assumption | exact AB.none (by omega) | exact AB.mono (by assumption) (by omega) (by omega) (by omega) (by omega) | exact RB.none (by omega) | exact RB.mono (by assumption) (by omega) | exact UB.none (by omega) | exact UB.mono (by assumption) (by omega) | exact EQ.none (by omega) | exact EQ.mono (by assumption) (by omega), by first | omega | assumption | exact AB.none (by omega) | exact AB.mono (by assumption) (by omega) (by omega) (by omega) (by omega) | exact RB.none (by omega) | exact RB.mono (by assumption) (by omega) | exact UB.none (by omega) | exact UB.mono (by assumption) (by omega) | exact EQ.none (by omega) | exact EQ.mono (by assumption) (by omega), by first | omega | assumption | exact AB.none (by omega) | exact AB.mono (by assumption) (by omega) (by omega) (by omega) (by omega) | exact RB.none (by omega) | exact RB.mono (by assumption) (by omega) | exact UB.none (by omega) | exact UB.mono (by assumption) (by omega) | exact EQ.none (by omega) | exact EQ.mono (by assumption) (by omega), by first | omega | assumption | exact AB.none (by omega) | exact AB.mono (by assumption) (by omega) (by omega) (by omega) (by omega) | exact RB.none (by omega) | exact RB.mono (by assumption) (by omega) | exact UB.none (by omega) | exact UB.mono (by assumption) (by omega) | exact EQ.none (by omega) | exact EQ.mono (by assumption) (by omega), by first | omega | assumption | exact AB.none (by omega) | exact AB.mono (by assumption) (by omega) (by omega) (by omega) (by omega) | exact RB.none (by omega) | exact RB.mono (by assumption) (by omega) | exact UB.none (by omega) | exact UB.mono (by assumption) (by omega) | exact EQ.none (by omega) | exact EQ.mono (by assumption) (by omega)⟩
          omega
      · skip
        have t37 := ine (a := r14.toInt) (b := 0) rfl rfl c21
        try have t38 : (x4_5 + 1).toInt = x4_5.toInt + 1 := ia rfl rfl (by omega) (by omega)
        intro z28 ez28
        have t39 : z28.toInt = (x4_5 + 1).toInt := by rw [ez28] <;> rfl
        refine ⟨_, ?_, rfl, by first | omega | assumption | exact AB.none (by omega) | exact AB.mono (by assumption) (by omega) (by omega) (by omega) (by omega) | exact RB.none (by omega) | exact RB.mono (by assumption) (by omega) | exact UB.none (by omega) | exact UB.mono (by assumption) (by omega) | exact EQ.none (by omega) | exact EQ.mono (by assumption) (by omega), by first | omega | assumption | exact AB.none (by omega) | exact AB.mono (by assumption) (by omega) (by omega) (by omega) (by omega) | exact RB.none (by omega) | exact RB.mono (by assumption) (by omega) | exact UB.none (by omega) | exact UB.mono (by assumption) (by omega) | exact EQ.none (by omega) | exact EQ.mono (by assumption) (by omega), by first | omega | assumption | exact AB.none (by omega) | exact AB.mono (by assumption) (by omega) (by omega) (by omega) (by omega) | exact RB.none (by omega) | exact RB.mono (by assumption) (by omega) | exact UB.none (by omega) | exact UB.mono (by assumption) (by omega) | exact EQ.none (by omega) | exact EQ.mono (by assumption) (by omega), by first | omega | assumption | exact AB.none (by omega) | exact AB.mono (by assumption) (by omega) (by omega) (by omega) (by omega) | exact RB.none (by omega) | exact RB.mono (by assumption) (by omega) | exact UB.none (by omega) | exact UB.mono (by assumption) (by omega) | exact EQ.none (by omega) | exact EQ.mono (by assumption) (by omega), by first | omega | assumption | exact AB.none (by omega) | exact AB.mono (by assumption) (by omega) (by omega) (by omega) (by omega) | exact RB.none (by omega) | exact RB.mono (by assumption) (by omega) | exact UB.none (by omega) | exact UB.mono (by assumption) (by omega) | exact EQ.none (by omega) | exact EQ.mono (by assumption) (by omega)⟩
        omega
  refine ⟨fun c40 => ?_, fun c40 => ?_⟩
  · skip
    have t41 := ine (a := p1.toInt) (b := (-1)) rfl rfl c40
    exact trivial
  · skip
    have t42 := ieq (a := p1.toInt) (b := (-1)) rfl rfl c40
    refine s_X2_weatherAt (by first | omega | assumption | exact AB.none (by omega) | exact AB.mono (by assumption) (by omega) (by omega) (by omega) (by omega) | exact RB.none (by omega) | exact RB.mono (by assumption) (by omega) | exact UB.none (by omega) | exact UB.mono (by assumption) (by omega) | exact EQ.none (by omega) | exact EQ.mono (by assumption) (by omega)) (by first | omega | assumption | exact AB.none (by omega) | exact AB.mono (by assumption) (by omega) (by omega) (by omega) (by omega) | exact RB.none (by omega) | exact RB.mono (by assumption) (by omega) | exact UB.none (by omega) | exact UB.mono (by assumption) (by omega) | exact EQ.none (by omega) | exact EQ.mono (by assumption) (by omega)) (by first | omega | assumption | exact AB.none (by omega) | exact AB.mono (by assumption) (by omega) (by omega) (by omega) (by omega) | exact RB.none (by omega) | exact RB.mono (by assumption) (by omega) | exact UB.none (by omega) | exact UB.mono (by assumption) (by omega) | exact EQ.none (by omega) | exact EQ.mono (by assumption) (by omega)) (fun r30 => ?_)
    exact trivial
set_option maxHeartbeats 1000000 in
set_option maxRecDepth 10000 in
theorem s_X2_passMany {p1 : Int32} {p2 : Int32} {v_windows : Int32} {v_dials : Nat → Int32} {v_clocks : Int32} {v_kind : Nat → Int32} {v_hands : Nat → Int32} {v_rate : Nat → Int32} {v_spring : Nat → Int32} {v_window : Nat → Int32} {v_finish : Nat → Int32} {v_skies : Int32} {v_sky : Nat → Int32} {v_hour : Int32} {v_heard : Int32} {v_strokes : Int32} {post : (Nat → Int32) → (Nat → Int32) → (Nat → Int32) → (Nat → Int32) → (Nat → Int32) → (Int32) → (Int32) → (Int32) → Prop} (hp0 : AB v_window 0 v_clocks.toInt 0 (v_windows.toInt - 1)) (hp1 : 2 ≤ v_windows.toInt) (hp2 : v_windows.toInt ≤ 24) (hp3 : 0 ≤ v_clocks.toInt) (hp4 : v_clocks.toInt ≤ 9) (hp5 : 1 ≤ v_skies.toInt) (hp6 : v_skies.toInt ≤ 12) (hp7 : 0 ≤ v_hour.toInt) (hp8 : v_hour.toInt ≤ 10000) (hp9 : p1.toInt ≤ 200) (hk : ∀ (v_dials' : Nat → Int32) (v_hands' : Nat → Int32) (v_spring' : Nat → Int32) (v_window' : Nat → Int32) (v_finish' : Nat → Int32) (v_hour' : Int32) (v_heard' : Int32) (v_strokes' : Int32), (AB v_window' 0 v_clocks.toInt 0 (v_windows.toInt - 1)) → (0 ≤ v_hour'.toInt) → (v_hour'.toInt ≤ v_hour.toInt + 200) → post v_dials' v_hands' v_spring' v_window' v_finish' v_hour' v_heard' v_strokes') : wp_X2_passMany p1 p2 v_windows v_dials v_clocks v_kind v_hands v_rate v_spring v_window v_finish v_skies v_sky v_hour v_heard v_strokes post := by
  unfold wp_X2_passMany
  have rp1 := Int32.toInt_lt p1
  have rq1 := Int32.le_toInt p1
  have rp2 := Int32.toInt_lt p2
  have rq2 := Int32.le_toInt p2
  have t1 : ((0 : Int32)).toInt = 0 := rfl
  refine ⟨fun n1 x3_1 v_dials_1 v_hands_1 v_spring_1 v_window_1 v_finish_1 v_hour_1 v_heard_1 v_strokes_1 => n1 = (p1.toInt - x3_1.toInt).toNat ∧ (AB v_window_1 0 v_clocks.toInt 0 (v_windows.toInt - 1)) ∧ (0 ≤ v_hour_1.toInt) ∧ (0 ≤ x3_1.toInt) ∧ (v_hour_1.toInt ≤ v_hour.toInt + x3_1.toInt) ∧ (x3_1.toInt ≤ 200), ⟨_, rfl, by first | omega | assumption | exact AB.none (by omega) | exact AB.mono (by assumption) (by omega) (by omega) (by omega) (by omega) | exact RB.none (by omega) | exact RB.mono (by assumption) (by omega) | exact UB.none (by omega) | exact UB.mono (by assumption) (by omega) | exact EQ.none (by omega) | exact EQ.mono (by assumption) (by omega), by first | omega | assumption | exact AB.none (by omega) | exact AB.mono (by assumption) (by omega) (by omega) (by omega) (by omega) | exact RB.none (by omega) | exact RB.mono (by assumption) (by omega) | exact UB.none (by omega) | exact UB.mono (by assumption) (by omega) | exact EQ.none (by omega) | exact EQ.mono (by assumption) (by omega), by first | omega | assumption | exact AB.none (by omega) | exact AB.mono (by assumption) (by omega) (by omega) (by omega) (by omega) | exact RB.none (by omega) | exact RB.mono (by assumption) (by omega) | exact UB.none (by omega) | exact UB.mono (by assumption) (by omega) | exact EQ.none (by omega) | exact EQ.mono (by assumption) (by omega), by first | omega | assumption | exact AB.none (by omega) | exact AB.mono (by assumption) (by omega) (by omega) (by omega) (by omega) | exact RB.none (by omega) | exact RB.mono (by assumption) (by omega) | exact UB.none (by omega) | exact UB.mono (by assumption) (by omega) | exact EQ.none (by omega) | exact EQ.mono (by assumption) (by omega), by first | omega | assumption | exact AB.none (by omega) | exact AB.mono (by assumption) (by omega) (by omega) (by omega) (by omega) | exact RB.none (by omega) | exact RB.mono (by assumption) (by omega) | exact UB.none (by omega) | exact UB.mono (by assumption) (by omega) | exact EQ.none (by omega) | exact EQ.mono (by assumption) (by omega)⟩, ?_⟩
  rintro n1 x3_1 v_dials_1 v_hands_1 v_spring_1 v_window_1 v_finish_1 v_hour_1 v_heard_1 v_strokes_1 ⟨hn1, q2, q3, q4, q5, q6⟩
  refine ⟨fun c7 => ?_, fun c7 => ?_⟩
  · skip
    have t8 := ile (a := p1.toInt) (b := x3_1.toInt) rfl rfl c7
    exact hk _ _ _ _ _ _ _ _ (by first | omega | assumption | exact AB.none (by omega) | exact AB.mono (by assumption) (by omega) (by omega) (by omega) (by omega) | exact RB.none (by omega) | exact RB.mono (by assumption) (by omega) | exact UB.none (by omega) | exact UB.mono (by assumption) (by omega) | exact EQ.none (by omega) | exact EQ.mono (by assumption) (by omega)) (by first | omega | assumption | exact AB.none (by omega) | exact AB.mono (by assumption) (by omega) (by omega) (by omega) (by omega) | exact RB.none (by omega) | exact RB.mono (by assumption) (by omega) | exact UB.none (by omega) | exact UB.mono (by assumption) (by omega) | exact EQ.none (by omega) | exact EQ.mono (by assumption) (by omega)) (by first | omega | assumption | exact AB.none (by omega) | exact AB.mono (by assumption) (by omega) (by omega) (by omega) (by omega) | exact RB.none (by omega) | exact RB.mono (by assumption) (by omega) | exact UB.none (by omega) | exact UB.mono (by assumption) (by omega) | exact EQ.none (by omega) | exact EQ.mono (by assumption) (by omega))
  · skip
    have t9 := inle (a := p1.toInt) (b := x3_1.toInt) rfl rfl c7
    refine s_X2_allHome (by first | omega | assumption | exact AB.none (by omega) | exact AB.mono (by assumption) (by omega) (by omega) (by omega) (by omega) | exact RB.none (by omega) | exact RB.mono (by assumption) (by omega) | exact UB.none (by omega) | exact UB.mono (by assumption) (by omega) | exact EQ.none (by omega) | exact EQ.mono (by assumption) (by omega)) (by first | omega | assumption | exact AB.none (by omega) | exact AB.mono (by assumption) (by omega) (by omega) (by omega) (by omega) | exact RB.none (by omega) | exact RB.mono (by assumption) (by omega) | exact UB.none (by omega) | exact UB.mono (by assumption) (by omega) | exact EQ.none (by omega) | exact EQ.mono (by assumption) (by omega)) (by first | omega | assumption | exact AB.none (by omega) | exact AB.mono (by assumption) (by omega) (by omega) (by omega) (by omega) | exact RB.none (by omega) | exact RB.mono (by assumption) (by omega) | exact UB.none (by omega) | exact UB.mono (by assumption) (by omega) | exact EQ.none (by omega) | exact EQ.mono (by assumption) (by omega)) (by first | omega | assumption | exact AB.none (by omega) | exact AB.mono (by assumption) (by omega) (by omega) (by omega) (by omega) | exact RB.none (by omega) | exact RB.mono (by assumption) (by omega) | exact UB.none (by omega) | exact UB.mono (by assumption) (by omega) | exact EQ.none (by omega) | exact EQ.mono (by assumption) (by omega)) (by first | omega | assumption | exact AB.none (by omega) | exact AB.mono (by assumption) (by omega) (by omega) (by omega) (by omega) | exact RB.none (by omega) | exact RB.mono (by assumption) (by omega) | exact UB.none (by omega) | exact UB.mono (by assumption) (by omega) | exact EQ.none (by omega) | exact EQ.mono (by assumption) (by omega)) (fun r3 q10 q11 => ?_)
    refine ⟨fun c12 => ?_, fun c12 => ?_⟩
    · skip
      have t13 := ine (a := r3.toInt) (b := 0) rfl rfl c12
      exact hk _ _ _ _ _ _ _ _ (by first | omega | assumption | exact AB.none (by omega) | exact AB.mono (by assumption) (by omega) (by omega) (by omega) (by omega) | exact RB.none (by omega) | exact RB.mono (by assumption) (by omega) | exact UB.none (by omega) | exact UB.mono (by assumption) (by omega) | exact EQ.none (by omega) | exact EQ.mono (by assumption) (by omega)) (by first | omega | assumption | exact AB.none (by omega) | exact AB.mono (by assumption) (by omega) (by omega) (by omega) (by omega) | exact RB.none (by omega) | exact RB.mono (by assumption) (by omega) | exact UB.none (by omega) | exact UB.mono (by assumption) (by omega) | exact EQ.none (by omega) | exact EQ.mono (by assumption) (by omega)) (by first | omega | assumption | exact AB.none (by omega) | exact AB.mono (by assumption) (by omega) (by omega) (by omega) (by omega) | exact RB.none (by omega) | exact RB.mono (by assumption) (by omega) | exact UB.none (by omega) | exact UB.mono (by assumption) (by omega) | exact EQ.none (by omega) | exact EQ.mono (by assumption) (by omega))
    · skip
      have t14 := ieq (a := r3.toInt) (b := 0) rfl rfl c12
      refine s_X2_pass (by first | omega | assumption | exact AB.none (by omega) | exact AB.mono (by assumption) (by omega) (by omega) (by omega) (by omega) | exact RB.none (by omega) | exact RB.mono (by assumption) (by omega) | exact UB.none (by omega) | exact UB.mono (by assumption) (by omega) | exact EQ.none (by omega) | exact EQ.mono (by assumption) (by omega)) (by first | omega | assumption | exact AB.none (by omega) | exact AB.mono (by assumption) (by omega) (by omega) (by omega) (by omega) | exact RB.none (by omega) | exact RB.mono (by assumption) (by omega) | exact UB.none (by omega) | exact UB.mono (by assumption) (by omega) | exact EQ.none (by omega) | exact EQ.mono (by assumption) (by omega)) (by first | omega | assumption | exact AB.none (by omega) | exact AB.mono (by assumption) (by omega) (by omega) (by omega) (by omega) | exact RB.none (by omega) | exact RB.mono (by assumption) (by omega) | exact UB.none (by omega) | exact UB.mono (by assumption) (by omega) | exact EQ.none (by omega) | exact EQ.mono (by assumption) (by omega)) (by first | omega | assumption | exact AB.none (by omega) | exact AB.mono (by assumption) (by omega) (by omega) (by omega) (by omega) | exact RB.none (by omega) | exact RB.mono (by assumption) (by omega) | exact UB.none (by omega) | exact UB.mono (by assumption) (by omega) | exact EQ.none (by omega) | exact EQ.mono (by assumption) (by omega)) (by first | omega | assumption | exact AB.none (by omega) | exact AB.mono (by assumption) (by omega) (by omega) (by omega) (by omega) | exact RB.none (by omega) | exact RB.mono (by assumption) (by omega) | exact UB.none (by omega) | exact UB.mono (by assumption) (by omega) | exact EQ.none (by omega) | exact EQ.mono (by assumption) (by omega)) (by first | omega | assumption | exact AB.none (by omega) | exact AB.mono (by assumption) (by omega) (by omega) (by omega) (by omega) | exact RB.none (by omega) | exact RB.mono (by assumption) (by omega) | exact UB.none (by omega) | exact UB.mono (by assumption) (by omega) | exact EQ.none (by omega) | exact EQ.mono (by assumption) (by omega)) (by first | omega | assumption | exact AB.none (by omega) | exact AB.mono (by assumption) (by omega) (by omega) (by omega) (by omega) | exact RB.none (by omega) | exact RB.mono (by assumption) (by omega) | exact UB.none (by omega) | exact UB.mono (by assumption) (by omega) | exact EQ.none (by omega) | exact EQ.mono (by assumption) (by omega)) (by first | omega | assumption | exact AB.none (by omega) | exact AB.mono (by assumption) (by omega) (by omega) (by omega) (by omega) | exact RB.none (by omega) | exact RB.mono (by assumption) (by omega) | exact UB.none (by omega) | exact UB.mono (by assumption) (by omega) | exact EQ.none (by omega) | exact EQ.mono (by assumption) (by omega)) (by first | omega | assumption | exact AB.none (by omega) | exact AB.mono (by assumption) (by omega) (by omega) (by omega) (by omega) | exact RB.none (by omega) | exact RB.mono (by assumption) (by omega) | exact UB.none (by omega) | exact UB.mono (by assumption) (by omega) | exact EQ.none (by omega) | exact EQ.mono (by assumption) (by omega)) (fun r5 v_dials_6 v_hands_7 v_spring_8 v_window_9 v_finish_10 v_hour_11 v_heard_12 v_strokes_13 q15 q16 q17 q18 q19 => ?_)
      try have t20 : (x3_1 + 1).toInt = x3_1.toInt + 1 := ia rfl rfl (by omega) (by omega)
      intro z14 ez14
      have t21 : z14.toInt = (x3_1 + 1).toInt := by rw [ez14] <;> rfl
      refine ⟨_, ?_, rfl, by first | omega | assumption | exact AB.none (by omega) | exact AB.mono (by assumption) (by omega) (by omega) (by omega) (by omega) | exact RB.none (by omega) | exact RB.mono (by assumption) (by omega) | exact UB.none (by omega) | exact UB.mono (by assumption) (by omega) | exact EQ.none (by omega) | exact EQ.mono (by assumption) (by omega), by first | omega | assumption | exact AB.none (by omega) | exact AB.mono (by assumption) (by omega) (by omega) (by omega) (by omega) | exact RB.none (by omega) | exact RB.mono (by assumption) (by omega) | exact UB.none (by omega) | exact UB.mono (by assumption) (by omega) | exact EQ.none (by omega) | exact EQ.mono (by assumption) (by omega), by first | omega | assumption | exact AB.none (by omega) | exact AB.mono (by assumption) (by omega) (by omega) (by omega) (by omega) | exact RB.none (by omega) | exact RB.mono (by assumption) (by omega) | exact UB.none (by omega) | exact UB.mono (by assumption) (by omega) | exact EQ.none (by omega) | exact EQ.mono (by assumption) (by omega), by first | omega | assumption | exact AB.none (by omega) | exact AB.mono (by assumption) (by omega) (by omega) (by omega) (by omega) | exact RB.none (by omega) | exact RB.mono (by assumption) (by omega) | exact UB.none (by omega) | exact UB.mono (by assumption) (by omega) | exact EQ.none (by omega) | exact EQ.mono (by assumption) (by omega), by first | omega | assumption | exact AB.none (by omega) | exact AB.mono (by assumption) (by omega) (by omega) (by omega) (by omega) | exact RB.none (by omega) | exact RB.mono (by assumption) (by omega) | exact UB.none (by omega) | exact UB.mono (by assumption) (by omega) | exact EQ.none (by omega) | exact EQ.mono (by assumption) (by omega)⟩
      omega
set_option maxHeartbeats 1000000 in
set_option maxRecDepth 10000 in
theorem s_X2_isAhead {p1 : Int32} {p2 : Int32} {v_windows : Int32} {v_window : Nat → Int32} {v_finish : Nat → Int32} {post : Int32 → Prop} (hp0 : 2 ≤ v_windows.toInt) (hp1 : v_windows.toInt ≤ 24) (hp2 : 0 ≤ p1.toInt) (hp3 : p1.toInt ≤ 8) (hp4 : 0 ≤ p2.toInt) (hp5 : p2.toInt ≤ 8) (hk : ∀ (r : Int32), (0 ≤ r.toInt) → (r.toInt ≤ 1) → post r) : wp_X2_isAhead p1 p2 v_windows v_window v_finish post := by
  unfold wp_X2_isAhead
  have rp1 := Int32.toInt_lt p1
  have rq1 := Int32.le_toInt p1
  have rp2 := Int32.toInt_lt p2
  have rq2 := Int32.le_toInt p2
  refine s_X2_isHome (by first | omega | assumption | exact AB.none (by omega) | exact AB.mono (by assumption) (by omega) (by omega) (by omega) (by omega) | exact RB.none (by omega) | exact RB.mono (by assumption) (by omega) | exact UB.none (by omega) | exact UB.mono (by assumption) (by omega) | exact EQ.none (by omega) | exact EQ.mono (by assumption) (by omega)) (by first | omega | assumption | exact AB.none (by omega) | exact AB.mono (by assumption) (by omega) (by omega) (by omega) (by omega) | exact RB.none (by omega) | exact RB.mono (by assumption) (by omega) | exact UB.none (by omega) | exact UB.mono (by assumption) (by omega) | exact EQ.none (by omega) | exact EQ.mono (by assumption) (by omega)) (by first | omega | assumption | exact AB.none (by omega) | exact AB.mono (by assumption) (by omega) (by omega) (by omega) (by omega) | exact RB.none (by omega) | exact RB.mono (by assumption) (by omega) | exact UB.none (by omega) | exact UB.mono (by assumption) (by omega) | exact EQ.none (by omega) | exact EQ.mono (by assumption) (by omega)) (by first | omega | assumption | exact AB.none (by omega) | exact AB.mono (by assumption) (by omega) (by omega) (by omega) (by omega) | exact RB.none (by omega) | exact RB.mono (by assumption) (by omega) | exact UB.none (by omega) | exact UB.mono (by assumption) (by omega) | exact EQ.none (by omega) | exact EQ.mono (by assumption) (by omega)) (fun r1 q1 => ?_)
  refine ⟨fun c2 => ?_, fun c2 => ?_⟩
  · skip
    have t3 := ieq (a := r1.toInt) (b := 0) rfl rfl c2
    refine ⟨ivp (a := p1.toInt) rfl (by omega) (by omega), ?_⟩
    try have q4 := AB.get (f := v_window) (i := p1) (a := p1.toInt) (by assumption) rfl (by omega) (by omega) (by omega)
    refine ⟨ivp (a := p2.toInt) rfl (by omega) (by omega), ?_⟩
    try have q5 := AB.get (f := v_window) (i := p2) (a := p2.toInt) (by assumption) rfl (by omega) (by omega) (by omega)
    refine ⟨fun c6 => ?_, fun c6 => ?_⟩
    · skip
      have t7 := ile (a := (v_window (Int32.toNatClampNeg p1)).toInt) (b := (v_window (Int32.toNatClampNeg p2)).toInt) rfl rfl c6
      have t8 : (0 : Int32).toInt = 0 := rfl
      exact hk _ (by first | omega | assumption | exact AB.none (by omega) | exact AB.mono (by assumption) (by omega) (by omega) (by omega) (by omega) | exact RB.none (by omega) | exact RB.mono (by assumption) (by omega) | exact UB.none (by omega) | exact UB.mono (by assumption) (by omega) | exact EQ.none (by omega) | exact EQ.mono (by assumption) (by omega)) (by first | omega | assumption | exact AB.none (by omega) | exact AB.mono (by assumption) (by omega) (by omega) (by omega) (by omega) | exact RB.none (by omega) | exact RB.mono (by assumption) (by omega) | exact UB.none (by omega) | exact UB.mono (by assumption) (by omega) | exact EQ.none (by omega) | exact EQ.mono (by assumption) (by omega))
    · skip
      have t9 := inle (a := (v_window (Int32.toNatClampNeg p1)).toInt) (b := (v_window (Int32.toNatClampNeg p2)).toInt) rfl rfl c6
      have t10 : (1 : Int32).toInt = 1 := rfl
      exact hk _ (by first | omega | assumption | exact AB.none (by omega) | exact AB.mono (by assumption) (by omega) (by omega) (by omega) (by omega) | exact RB.none (by omega) | exact RB.mono (by assumption) (by omega) | exact UB.none (by omega) | exact UB.mono (by assumption) (by omega) | exact EQ.none (by omega) | exact EQ.mono (by assumption) (by omega)) (by first | omega | assumption | exact AB.none (by omega) | exact AB.mono (by assumption) (by omega) (by omega) (by omega) (by omega) | exact RB.none (by omega) | exact RB.mono (by assumption) (by omega) | exact UB.none (by omega) | exact UB.mono (by assumption) (by omega) | exact EQ.none (by omega) | exact EQ.mono (by assumption) (by omega))
  · skip
    have t11 := ine (a := r1.toInt) (b := 0) rfl rfl c2
    refine s_X2_isHome (by first | omega | assumption | exact AB.none (by omega) | exact AB.mono (by assumption) (by omega) (by omega) (by omega) (by omega) | exact RB.none (by omega) | exact RB.mono (by assumption) (by omega) | exact UB.none (by omega) | exact UB.mono (by assumption) (by omega) | exact EQ.none (by omega) | exact EQ.mono (by assumption) (by omega)) (by first | omega | assumption | exact AB.none (by omega) | exact AB.mono (by assumption) (by omega) (by omega) (by omega) (by omega) | exact RB.none (by omega) | exact RB.mono (by assumption) (by omega) | exact UB.none (by omega) | exact UB.mono (by assumption) (by omega) | exact EQ.none (by omega) | exact EQ.mono (by assumption) (by omega)) (by first | omega | assumption | exact AB.none (by omega) | exact AB.mono (by assumption) (by omega) (by omega) (by omega) (by omega) | exact RB.none (by omega) | exact RB.mono (by assumption) (by omega) | exact UB.none (by omega) | exact UB.mono (by assumption) (by omega) | exact EQ.none (by omega) | exact EQ.mono (by assumption) (by omega)) (by first | omega | assumption | exact AB.none (by omega) | exact AB.mono (by assumption) (by omega) (by omega) (by omega) (by omega) | exact RB.none (by omega) | exact RB.mono (by assumption) (by omega) | exact UB.none (by omega) | exact UB.mono (by assumption) (by omega) | exact EQ.none (by omega) | exact EQ.mono (by assumption) (by omega)) (fun r4 q12 => ?_)
    refine ⟨fun c13 => ?_, fun c13 => ?_⟩
    · skip
      have t14 := ieq (a := r4.toInt) (b := 0) rfl rfl c13
      refine ⟨ivp (a := p1.toInt) rfl (by omega) (by omega), ?_⟩
      try have q15 := AB.get (f := v_window) (i := p1) (a := p1.toInt) (by assumption) rfl (by omega) (by omega) (by omega)
      refine ⟨ivp (a := p2.toInt) rfl (by omega) (by omega), ?_⟩
      try have q16 := AB.get (f := v_window) (i := p2) (a := p2.toInt) (by assumption) rfl (by omega) (by omega) (by omega)
      refine ⟨fun c17 => ?_, fun c17 => ?_⟩
      · skip
        have t18 := ile (a := (v_window (Int32.toNatClampNeg p1)).toInt) (b := (v_window (Int32.toNatClampNeg p2)).toInt) rfl rfl c17
        have t19 : (0 : Int32).toInt = 0 := rfl
        exact hk _ (by first | omega | assumption | exact AB.none (by omega) | exact AB.mono (by assumption) (by omega) (by omega) (by omega) (by omega) | exact RB.none (by omega) | exact RB.mono (by assumption) (by omega) | exact UB.none (by omega) | exact UB.mono (by assumption) (by omega) | exact EQ.none (by omega) | exact EQ.mono (by assumption) (by omega)) (by first | omega | assumption | exact AB.none (by omega) | exact AB.mono (by assumption) (by omega) (by omega) (by omega) (by omega) | exact RB.none (by omega) | exact RB.mono (by assumption) (by omega) | exact UB.none (by omega) | exact UB.mono (by assumption) (by omega) | exact EQ.none (by omega) | exact EQ.mono (by assumption) (by omega))
      · skip
        have t20 := inle (a := (v_window (Int32.toNatClampNeg p1)).toInt) (b := (v_window (Int32.toNatClampNeg p2)).toInt) rfl rfl c17
        have t21 : (1 : Int32).toInt = 1 := rfl
        exact hk _ (by first | omega | assumption | exact AB.none (by omega) | exact AB.mono (by assumption) (by omega) (by omega) (by omega) (by omega) | exact RB.none (by omega) | exact RB.mono (by assumption) (by omega) | exact UB.none (by omega) | exact UB.mono (by assumption) (by omega) | exact EQ.none (by omega) | exact EQ.mono (by assumption) (by omega)) (by first | omega | assumption | exact AB.none (by omega) | exact AB.mono (by assumption) (by omega) (by omega) (by omega) (by omega) | exact RB.none (by omega) | exact RB.mono (by assumption) (by omega) | exact UB.none (by omega) | exact UB.mono (by assumption) (by omega) | exact EQ.none (by omega) | exact EQ.mono (by assumption) (by omega))
    · skip
      have t22 := ine (a := r4.toInt) (b := 0) rfl rfl c13
      refine ⟨ivp (a := p1.toInt) rfl (by omega) (by omega), ?_⟩
      refine ⟨ivp (a := p2.toInt) rfl (by omega) (by omega), ?_⟩
      refine ⟨fun c23 => ?_, fun c23 => ?_⟩
      · skip
        have t24 := ile (a := (v_finish (Int32.toNatClampNeg p2)).toInt) (b := (v_finish (Int32.toNatClampNeg p1)).toInt) rfl rfl c23
        have t25 : (0 : Int32).toInt = 0 := rfl
        exact hk _ (by first | omega | assumption | exact AB.none (by omega) | exact AB.mono (by assumption) (by omega) (by omega) (by omega) (by omega) | exact RB.none (by omega) | exact RB.mono (by assumption) (by omega) | exact UB.none (by omega) | exact UB.mono (by assumption) (by omega) | exact EQ.none (by omega) | exact EQ.mono (by assumption) (by omega)) (by first | omega | assumption | exact AB.none (by omega) | exact AB.mono (by assumption) (by omega) (by omega) (by omega) (by omega) | exact RB.none (by omega) | exact RB.mono (by assumption) (by omega) | exact UB.none (by omega) | exact UB.mono (by assumption) (by omega) | exact EQ.none (by omega) | exact EQ.mono (by assumption) (by omega))
      · skip
        have t26 := inle (a := (v_finish (Int32.toNatClampNeg p2)).toInt) (b := (v_finish (Int32.toNatClampNeg p1)).toInt) rfl rfl c23
        have t27 : (1 : Int32).toInt = 1 := rfl
        exact hk _ (by first | omega | assumption | exact AB.none (by omega) | exact AB.mono (by assumption) (by omega) (by omega) (by omega) (by omega) | exact RB.none (by omega) | exact RB.mono (by assumption) (by omega) | exact UB.none (by omega) | exact UB.mono (by assumption) (by omega) | exact EQ.none (by omega) | exact EQ.mono (by assumption) (by omega)) (by first | omega | assumption | exact AB.none (by omega) | exact AB.mono (by assumption) (by omega) (by omega) (by omega) (by omega) | exact RB.none (by omega) | exact RB.mono (by assumption) (by omega) | exact UB.none (by omega) | exact UB.mono (by assumption) (by omega) | exact EQ.none (by omega) | exact EQ.mono (by assumption) (by omega))
set_option maxHeartbeats 1000000 in
set_option maxRecDepth 10000 in
theorem s_X2_placeOf {p1 : Int32} {v_windows : Int32} {v_clocks : Int32} {v_window : Nat → Int32} {v_finish : Nat → Int32} {post : Int32 → Prop} (hp0 : AB v_window 0 v_clocks.toInt 0 (v_windows.toInt - 1)) (hp1 : 2 ≤ v_windows.toInt) (hp2 : v_windows.toInt ≤ 24) (hp3 : 0 ≤ v_clocks.toInt) (hp4 : v_clocks.toInt ≤ 9) (hp5 : 0 ≤ p1.toInt) (hp6 : p1.toInt ≤ 8) (hk : ∀ (r : Int32), (1 ≤ r.toInt) → (r.toInt ≤ 10) → post r) : wp_X2_placeOf p1 v_windows v_clocks v_window v_finish post := by
  unfold wp_X2_placeOf
  have rp1 := Int32.toInt_lt p1
  have rq1 := Int32.le_toInt p1
  have t1 : ((1 : Int32)).toInt = 1 := rfl
  have t2 : ((0 : Int32)).toInt = 0 := rfl
  refine ⟨fun n1 x2_1 x3_1 => n1 = (v_clocks.toInt - x3_1.toInt).toNat ∧ (0 ≤ x3_1.toInt) ∧ (1 ≤ x2_1.toInt) ∧ (x2_1.toInt ≤ x3_1.toInt + 1) ∧ (x3_1.toInt ≤ v_clocks.toInt), ⟨_, rfl, by first | omega | assumption | exact AB.none (by omega) | exact AB.mono (by assumption) (by omega) (by omega) (by omega) (by omega) | exact RB.none (by omega) | exact RB.mono (by assumption) (by omega) | exact UB.none (by omega) | exact UB.mono (by assumption) (by omega) | exact EQ.none (by omega) | exact EQ.mono (by assumption) (by omega), by first | omega | assumption | exact AB.none (by omega) | exact AB.mono (by assumption) (by omega) (by omega) (by omega) (by omega) | exact RB.none (by omega) | exact RB.mono (by assumption) (by omega) | exact UB.none (by omega) | exact UB.mono (by assumption) (by omega) | exact EQ.none (by omega) | exact EQ.mono (by assumption) (by omega), by first | omega | assumption | exact AB.none (by omega) | exact AB.mono (by assumption) (by omega) (by omega) (by omega) (by omega) | exact RB.none (by omega) | exact RB.mono (by assumption) (by omega) | exact UB.none (by omega) | exact UB.mono (by assumption) (by omega) | exact EQ.none (by omega) | exact EQ.mono (by assumption) (by omega), by first | omega | assumption | exact AB.none (by omega) | exact AB.mono (by assumption) (by omega) (by omega) (by omega) (by omega) | exact RB.none (by omega) | exact RB.mono (by assumption) (by omega) | exact UB.none (by omega) | exact UB.mono (by assumption) (by omega) | exact EQ.none (by omega) | exact EQ.mono (by assumption) (by omega)⟩, ?_⟩
  rintro n1 x2_1 x3_1 ⟨hn1, q3, q4, q5, q6⟩
  refine ⟨fun c7 => ?_, fun c7 => ?_⟩
  · skip
    have t8 := ile (a := v_clocks.toInt) (b := x3_1.toInt) rfl rfl c7
    exact hk _ (by first | omega | assumption | exact AB.none (by omega) | exact AB.mono (by assumption) (by omega) (by omega) (by omega) (by omega) | exact RB.none (by omega) | exact RB.mono (by assumption) (by omega) | exact UB.none (by omega) | exact UB.mono (by assumption) (by omega) | exact EQ.none (by omega) | exact EQ.mono (by assumption) (by omega)) (by first | omega | assumption | exact AB.none (by omega) | exact AB.mono (by assumption) (by omega) (by omega) (by omega) (by omega) | exact RB.none (by omega) | exact RB.mono (by assumption) (by omega) | exact UB.none (by omega) | exact UB.mono (by assumption) (by omega) | exact EQ.none (by omega) | exact EQ.mono (by assumption) (by omega))
  · skip
    have t9 := inle (a := v_clocks.toInt) (b := x3_1.toInt) rfl rfl c7
    refine s_X2_isAhead (by first | omega | assumption | exact AB.none (by omega) | exact AB.mono (by assumption) (by omega) (by omega) (by omega) (by omega) | exact RB.none (by omega) | exact RB.mono (by assumption) (by omega) | exact UB.none (by omega) | exact UB.mono (by assumption) (by omega) | exact EQ.none (by omega) | exact EQ.mono (by assumption) (by omega)) (by first | omega | assumption | exact AB.none (by omega) | exact AB.mono (by assumption) (by omega) (by omega) (by omega) (by omega) | exact RB.none (by omega) | exact RB.mono (by assumption) (by omega) | exact UB.none (by omega) | exact UB.mono (by assumption) (by omega) | exact EQ.none (by omega) | exact EQ.mono (by assumption) (by omega)) (by first | omega | assumption | exact AB.none (by omega) | exact AB.mono (by assumption) (by omega) (by omega) (by omega) (by omega) | exact RB.none (by omega) | exact RB.mono (by assumption) (by omega) | exact UB.none (by omega) | exact UB.mono (by assumption) (by omega) | exact EQ.none (by omega) | exact EQ.mono (by assumption) (by omega)) (by first | omega | assumption | exact AB.none (by omega) | exact AB.mono (by assumption) (by omega) (by omega) (by omega) (by omega) | exact RB.none (by omega) | exact RB.mono (by assumption) (by omega) | exact UB.none (by omega) | exact UB.mono (by assumption) (by omega) | exact EQ.none (by omega) | exact EQ.mono (by assumption) (by omega)) (by first | omega | assumption | exact AB.none (by omega) | exact AB.mono (by assumption) (by omega) (by omega) (by omega) (by omega) | exact RB.none (by omega) | exact RB.mono (by assumption) (by omega) | exact UB.none (by omega) | exact UB.mono (by assumption) (by omega) | exact EQ.none (by omega) | exact EQ.mono (by assumption) (by omega)) (by first | omega | assumption | exact AB.none (by omega) | exact AB.mono (by assumption) (by omega) (by omega) (by omega) (by omega) | exact RB.none (by omega) | exact RB.mono (by assumption) (by omega) | exact UB.none (by omega) | exact UB.mono (by assumption) (by omega) | exact EQ.none (by omega) | exact EQ.mono (by assumption) (by omega)) (fun r3 q10 q11 => ?_)
    refine ⟨fun c12 => ?_, fun c12 => ?_⟩
    · skip
      have t13 := ieq (a := r3.toInt) (b := 0) rfl rfl c12
      try have t14 : (x3_1 + 1).toInt = x3_1.toInt + 1 := ia rfl rfl (by omega) (by omega)
      intro z5 ez5
      have t15 : z5.toInt = (x3_1 + 1).toInt := by rw [ez5] <;> rfl
      refine ⟨_, ?_, rfl, by first | omega | assumption | exact AB.none (by omega) | exact AB.mono (by assumption) (by omega) (by omega) (by omega) (by omega) | exact RB.none (by omega) | exact RB.mono (by assumption) (by omega) | exact UB.none (by omega) | exact UB.mono (by assumption) (by omega) | exact EQ.none (by omega) | exact EQ.mono (by assumption) (by omega), by first | omega | assumption | exact AB.none (by omega) | exact AB.mono (by assumption) (by omega) (by omega) (by omega) (by omega) | exact RB.none (by omega) | exact RB.mono (by assumption) (by omega) | exact UB.none (by omega) | exact UB.mono (by assumption) (by omega) | exact EQ.none (by omega) | exact EQ.mono (by assumption) (by omega), by first | omega | assumption | exact AB.none (by omega) | exact AB.mono (by assumption) (by omega) (by omega) (by omega) (by omega) | exact RB.none (by omega) | exact RB.mono (by assumption) (by omega) | exact UB.none (by omega) | exact UB.mono (by assumption) (by omega) | exact EQ.none (by omega) | exact EQ.mono (by assumption) (by omega), by first | omega | assumption | exact AB.none (by omega) | exact AB.mono (by assumption) (by omega) (by omega) (by omega) (by omega) | exact RB.none (by omega) | exact RB.mono (by assumption) (by omega) | exact UB.none (by omega) | exact UB.mono (by assumption) (by omega) | exact EQ.none (by omega) | exact EQ.mono (by assumption) (by omega)⟩
      omega
    · skip
      have t16 := ine (a := r3.toInt) (b := 0) rfl rfl c12
      try have t17 : (x2_1 + 1).toInt = x2_1.toInt + 1 := ia rfl rfl (by omega) (by omega)
      intro z6 ez6
      have t18 : z6.toInt = (x2_1 + 1).toInt := by rw [ez6] <;> rfl
      try have t19 : (x3_1 + 1).toInt = x3_1.toInt + 1 := ia rfl rfl (by omega) (by omega)
      intro z7 ez7
      have t20 : z7.toInt = (x3_1 + 1).toInt := by rw [ez7] <;> rfl
      refine ⟨_, ?_, rfl, by first | omega | assumption | exact AB.none (by omega) | exact AB.mono (by assumption) (by omega) (by omega) (by omega) (by omega) | exact RB.none (by omega) | exact RB.mono (by assumption) (by omega) | exact UB.none (by omega) | exact UB.mono (by assumption) (by omega) | exact EQ.none (by omega) | exact EQ.mono (by assumption) (by omega), by first | omega | assumption | exact AB.none (by omega) | exact AB.mono (by assumption) (by omega) (by omega) (by omega) (by omega) | exact RB.none (by omega) | exact RB.mono (by assumption) (by omega) | exact UB.none (by omega) | exact UB.mono (by assumption) (by omega) | exact EQ.none (by omega) | exact EQ.mono (by assumption) (by omega), by first | omega | assumption | exact AB.none (by omega) | exact AB.mono (by assumption) (by omega) (by omega) (by omega) (by omega) | exact RB.none (by omega) | exact RB.mono (by assumption) (by omega) | exact UB.none (by omega) | exact UB.mono (by assumption) (by omega) | exact EQ.none (by omega) | exact EQ.mono (by assumption) (by omega), by first | omega | assumption | exact AB.none (by omega) | exact AB.mono (by assumption) (by omega) (by omega) (by omega) (by omega) | exact RB.none (by omega) | exact RB.mono (by assumption) (by omega) | exact UB.none (by omega) | exact UB.mono (by assumption) (by omega) | exact EQ.none (by omega) | exact EQ.mono (by assumption) (by omega)⟩
      omega
set_option maxHeartbeats 1000000 in
set_option maxRecDepth 10000 in
theorem s_X2_leaders {v_windows : Int32} {v_clocks : Int32} {v_window : Nat → Int32} {v_finish : Nat → Int32} {post : Int32 → Prop} (hp0 : AB v_window 0 v_clocks.toInt 0 (v_windows.toInt - 1)) (hp1 : 2 ≤ v_windows.toInt) (hp2 : v_windows.toInt ≤ 24) (hp3 : 0 ≤ v_clocks.toInt) (hp4 : v_clocks.toInt ≤ 9) (hk : ∀ (r : Int32), post r) : wp_X2_leaders v_windows v_clocks v_window v_finish post := by
  unfold wp_X2_leaders
  have t1 : ((0 : Int32)).toInt = 0 := rfl
  have t2 : ((0 : Int32)).toInt = 0 := rfl
  refine ⟨fun n1 x1_1 x2_1 => n1 = (v_clocks.toInt - x2_1.toInt).toNat ∧ (0 ≤ x2_1.toInt), ⟨_, rfl, by first | omega | assumption | exact AB.none (by omega) | exact AB.mono (by assumption) (by omega) (by omega) (by omega) (by omega) | exact RB.none (by omega) | exact RB.mono (by assumption) (by omega) | exact UB.none (by omega) | exact UB.mono (by assumption) (by omega) | exact EQ.none (by omega) | exact EQ.mono (by assumption) (by omega)⟩, ?_⟩
  rintro n1 x1_1 x2_1 ⟨hn1, q3⟩
  refine ⟨fun c4 => ?_, fun c4 => ?_⟩
  · skip
    have t5 := ile (a := v_clocks.toInt) (b := x2_1.toInt) rfl rfl c4
    exact hk _
  · skip
    have t6 := inle (a := v_clocks.toInt) (b := x2_1.toInt) rfl rfl c4
    refine s_X2_placeOf (by first | omega | assumption | exact AB.none (by omega) | exact AB.mono (by assumption) (by omega) (by omega) (by omega) (by omega) | exact RB.none (by omega) | exact RB.mono (by assumption) (by omega) | exact UB.none (by omega) | exact UB.mono (by assumption) (by omega) | exact EQ.none (by omega) | exact EQ.mono (by assumption) (by omega)) (by first | omega | assumption | exact AB.none (by omega) | exact AB.mono (by assumption) (by omega) (by omega) (by omega) (by omega) | exact RB.none (by omega) | exact RB.mono (by assumption) (by omega) | exact UB.none (by omega) | exact UB.mono (by assumption) (by omega) | exact EQ.none (by omega) | exact EQ.mono (by assumption) (by omega)) (by first | omega | assumption | exact AB.none (by omega) | exact AB.mono (by assumption) (by omega) (by omega) (by omega) (by omega) | exact RB.none (by omega) | exact RB.mono (by assumption) (by omega) | exact UB.none (by omega) | exact UB.mono (by assumption) (by omega) | exact EQ.none (by omega) | exact EQ.mono (by assumption) (by omega)) (by first | omega | assumption | exact AB.none (by omega) | exact AB.mono (by assumption) (by omega) (by omega) (by omega) (by omega) | exact RB.none (by omega) | exact RB.mono (by assumption) (by omega) | exact UB.none (by omega) | exact UB.mono (by assumption) (by omega) | exact EQ.none (by omega) | exact EQ.mono (by assumption) (by omega)) (by first | omega | assumption | exact AB.none (by omega) | exact AB.mono (by assumption) (by omega) (by omega) (by omega) (by omega) | exact RB.none (by omega) | exact RB.mono (by assumption) (by omega) | exact UB.none (by omega) | exact UB.mono (by assumption) (by omega) | exact EQ.none (by omega) | exact EQ.mono (by assumption) (by omega)) (by first | omega | assumption | exact AB.none (by omega) | exact AB.mono (by assumption) (by omega) (by omega) (by omega) (by omega) | exact RB.none (by omega) | exact RB.mono (by assumption) (by omega) | exact UB.none (by omega) | exact UB.mono (by assumption) (by omega) | exact EQ.none (by omega) | exact EQ.mono (by assumption) (by omega)) (by first | omega | assumption | exact AB.none (by omega) | exact AB.mono (by assumption) (by omega) (by omega) (by omega) (by omega) | exact RB.none (by omega) | exact RB.mono (by assumption) (by omega) | exact UB.none (by omega) | exact UB.mono (by assumption) (by omega) | exact EQ.none (by omega) | exact EQ.mono (by assumption) (by omega)) (fun r3 q7 q8 => ?_)
    refine ⟨fun c9 => ?_, fun c9 => ?_⟩
    · skip
      have t10 := ine (a := r3.toInt) (b := 1) rfl rfl c9
      try have t11 : (x2_1 + 1).toInt = x2_1.toInt + 1 := ia rfl rfl (by omega) (by omega)
      intro z5 ez5
      have t12 : z5.toInt = (x2_1 + 1).toInt := by rw [ez5] <;> rfl
      refine ⟨_, ?_, rfl, by first | omega | assumption | exact AB.none (by omega) | exact AB.mono (by assumption) (by omega) (by omega) (by omega) (by omega) | exact RB.none (by omega) | exact RB.mono (by assumption) (by omega) | exact UB.none (by omega) | exact UB.mono (by assumption) (by omega) | exact EQ.none (by omega) | exact EQ.mono (by assumption) (by omega)⟩
      omega
    · skip
      have t13 := ieq (a := r3.toInt) (b := 1) rfl rfl c9
      try have t14 := i1s (x := x2_1) (a := x2_1.toInt) rfl (by omega) (by omega)
      intro z6 ez6
      have t15 : z6.toInt = (x1_1 ||| (1 <<< (x2_1 &&& 31))).toInt := by rw [ez6] <;> rfl
      try have t16 : (x2_1 + 1).toInt = x2_1.toInt + 1 := ia rfl rfl (by omega) (by omega)
      intro z7 ez7
      have t17 : z7.toInt = (x2_1 + 1).toInt := by rw [ez7] <;> rfl
      refine ⟨_, ?_, rfl, by first | omega | assumption | exact AB.none (by omega) | exact AB.mono (by assumption) (by omega) (by omega) (by omega) (by omega) | exact RB.none (by omega) | exact RB.mono (by assumption) (by omega) | exact UB.none (by omega) | exact UB.mono (by assumption) (by omega) | exact EQ.none (by omega) | exact EQ.mono (by assumption) (by omega)⟩
      omega
set_option maxHeartbeats 1000000 in
set_option maxRecDepth 10000 in
theorem s_X2_tiedPairs {v_windows : Int32} {v_clocks : Int32} {v_window : Nat → Int32} {v_finish : Nat → Int32} {post : Int32 → Prop} (hp0 : AB v_window 0 v_clocks.toInt 0 (v_windows.toInt - 1)) (hp1 : 2 ≤ v_windows.toInt) (hp2 : v_windows.toInt ≤ 24) (hp3 : 0 ≤ v_clocks.toInt) (hp4 : v_clocks.toInt ≤ 9) (hk : ∀ (r : Int32), post r) : wp_X2_tiedPairs v_windows v_clocks v_window v_finish post := by
  unfold wp_X2_tiedPairs
  have t1 : ((0 : Int32)).toInt = 0 := rfl
  have t2 : ((0 : Int32)).toInt = 0 := rfl
  refine ⟨fun n1 x1_1 x2_1 => n1 = (v_clocks.toInt - x2_1.toInt).toNat ∧ (0 ≤ x2_1.toInt), ⟨_, rfl, by first | omega | assumption | exact AB.none (by omega) | exact AB.mono (by assumption) (by omega) (by omega) (by omega) (by omega) | exact RB.none (by omega) | exact RB.mono (by assumption) (by omega) | exact UB.none (by omega) | exact UB.mono (by assumption) (by omega) | exact EQ.none (by omega) | exact EQ.mono (by assumption) (by omega)⟩, ?_⟩
  rintro n1 x1_1 x2_1 ⟨hn1, q3⟩
  refine ⟨fun c4 => ?_, fun c4 => ?_⟩
  · skip
    have t5 := ile (a := v_clocks.toInt) (b := x2_1.toInt) rfl rfl c4
    exact hk _
  · skip
    have t6 := inle (a := v_clocks.toInt) (b := x2_1.toInt) rfl rfl c4
    have t7 : ((0 : Int32)).toInt = 0 := rfl
    refine ⟨fun n3 x1_3 x3_3 => n3 = (x2_1.toInt - x3_3.toInt).toNat ∧ (0 ≤ x3_3.toInt) ∧ (x3_3.toInt ≤ x2_1.toInt), ⟨_, rfl, by first | omega | assumption | exact AB.none (by omega) | exact AB.mono (by assumption) (by omega) (by omega) (by omega) (by omega) | exact RB.none (by omega) | exact RB.mono (by assumption) (by omega) | exact UB.none (by omega) | exact UB.mono (by assumption) (by omega) | exact EQ.none (by omega) | exact EQ.mono (by assumption) (by omega), by first | omega | assumption | exact AB.none (by omega) | exact AB.mono (by assumption) (by omega) (by omega) (by omega) (by omega) | exact RB.none (by omega) | exact RB.mono (by assumption) (by omega) | exact UB.none (by omega) | exact UB.mono (by assumption) (by omega) | exact EQ.none (by omega) | exact EQ.mono (by assumption) (by omega)⟩, ?_⟩
    rintro n3 x1_3 x3_3 ⟨hn3, q8, q9⟩
    refine ⟨fun c10 => ?_, fun c10 => ?_⟩
    · skip
      have t11 := ile (a := x2_1.toInt) (b := x3_3.toInt) rfl rfl c10
      try have t12 : (x2_1 + 1).toInt = x2_1.toInt + 1 := ia rfl rfl (by omega) (by omega)
      intro z5 ez5
      have t13 : z5.toInt = (x2_1 + 1).toInt := by rw [ez5] <;> rfl
      refine ⟨_, ?_, rfl, by first | omega | assumption | exact AB.none (by omega) | exact AB.mono (by assumption) (by omega) (by omega) (by omega) (by omega) | exact RB.none (by omega) | exact RB.mono (by assumption) (by omega) | exact UB.none (by omega) | exact UB.mono (by assumption) (by omega) | exact EQ.none (by omega) | exact EQ.mono (by assumption) (by omega)⟩
      omega
    · skip
      have t14 := inle (a := x2_1.toInt) (b := x3_3.toInt) rfl rfl c10
      refine s_X2_isAhead (by first | omega | assumption | exact AB.none (by omega) | exact AB.mono (by assumption) (by omega) (by omega) (by omega) (by omega) | exact RB.none (by omega) | exact RB.mono (by assumption) (by omega) | exact UB.none (by omega) | exact UB.mono (by assumption) (by omega) | exact EQ.none (by omega) | exact EQ.mono (by assumption) (by omega)) (by first | omega | assumption | exact AB.none (by omega) | exact AB.mono (by assumption) (by omega) (by omega) (by omega) (by omega) | exact RB.none (by omega) | exact RB.mono (by assumption) (by omega) | exact UB.none (by omega) | exact UB.mono (by assumption) (by omega) | exact EQ.none (by omega) | exact EQ.mono (by assumption) (by omega)) (by first | omega | assumption | exact AB.none (by omega) | exact AB.mono (by assumption) (by omega) (by omega) (by omega) (by omega) | exact RB.none (by omega) | exact RB.mono (by assumption) (by omega) | exact UB.none (by omega) | exact UB.mono (by assumption) (by omega) | exact EQ.none (by omega) | exact EQ.mono (by assumption) (by omega)) (by first | omega | assumption | exact AB.none (by omega) | exact AB.mono (by assumption) (by omega) (by omega) (by omega) (by omega) | exact RB.none (by omega) | exact RB.mono (by assumption) (by omega) | exact UB.none (by omega) | exact UB.mono (by assumption) (by omega) | exact EQ.none (by omega) | exact EQ.mono (by assumption) (by omega)) (by first | omega | assumption | exact AB.none (by omega) | exact AB.mono (by assumption) (by omega) (by omega) (by omega) (by omega) | exact RB.none (by omega) | exact RB.mono (by assumption) (by omega) | exact UB.none (by omega) | exact UB.mono (by assumption) (by omega) | exact EQ.none (by omega) | exact EQ.mono (by assumption) (by omega)) (by first | omega | assumption | exact AB.none (by omega) | exact AB.mono (by assumption) (by omega) (by omega) (by omega) (by omega) | exact RB.none (by omega) | exact RB.mono (by assumption) (by omega) | exact UB.none (by omega) | exact UB.mono (by assumption) (by omega) | exact EQ.none (by omega) | exact EQ.mono (by assumption) (by omega)) (fun r6 q15 q16 => ?_)
      refine ⟨fun c17 => ?_, fun c17 => ?_⟩
      · skip
        have t18 := ine (a := r6.toInt) (b := 0) rfl rfl c17
        try have t19 : (x3_3 + 1).toInt = x3_3.toInt + 1 := ia rfl rfl (by omega) (by omega)
        intro z8 ez8
        have t20 : z8.toInt = (x3_3 + 1).toInt := by rw [ez8] <;> rfl
        refine ⟨_, ?_, rfl, by first | omega | assumption | exact AB.none (by omega) | exact AB.mono (by assumption) (by omega) (by omega) (by omega) (by omega) | exact RB.none (by omega) | exact RB.mono (by assumption) (by omega) | exact UB.none (by omega) | exact UB.mono (by assumption) (by omega) | exact EQ.none (by omega) | exact EQ.mono (by assumption) (by omega), by first | omega | assumption | exact AB.none (by omega) | exact AB.mono (by assumption) (by omega) (by omega) (by omega) (by omega) | exact RB.none (by omega) | exact RB.mono (by assumption) (by omega) | exact UB.none (by omega) | exact UB.mono (by assumption) (by omega) | exact EQ.none (by omega) | exact EQ.mono (by assumption) (by omega)⟩
        omega
      · skip
        have t21 := ieq (a := r6.toInt) (b := 0) rfl rfl c17
        refine s_X2_isAhead (by first | omega | assumption | exact AB.none (by omega) | exact AB.mono (by assumption) (by omega) (by omega) (by omega) (by omega) | exact RB.none (by omega) | exact RB.mono (by assumption) (by omega) | exact UB.none (by omega) | exact UB.mono (by assumption) (by omega) | exact EQ.none (by omega) | exact EQ.mono (by assumption) (by omega)) (by first | omega | assumption | exact AB.none (by omega) | exact AB.mono (by assumption) (by omega) (by omega) (by omega) (by omega) | exact RB.none (by omega) | exact RB.mono (by assumption) (by omega) | exact UB.none (by omega) | exact UB.mono (by assumption) (by omega) | exact EQ.none (by omega) | exact EQ.mono (by assumption) (by omega)) (by first | omega | assumption | exact AB.none (by omega) | exact AB.mono (by assumption) (by omega) (by omega) (by omega) (by omega) | exact RB.none (by omega) | exact RB.mono (by assumption) (by omega) | exact UB.none (by omega) | exact UB.mono (by assumption) (by omega) | exact EQ.none (by omega) | exact EQ.mono (by assumption) (by omega)) (by first | omega | assumption | exact AB.none (by omega) | exact AB.mono (by assumption) (by omega) (by omega) (by omega) (by omega) | exact RB.none (by omega) | exact RB.mono (by assumption) (by omega) | exact UB.none (by omega) | exact UB.mono (by assumption) (by omega) | exact EQ.none (by omega) | exact EQ.mono (by assumption) (by omega)) (by first | omega | assumption | exact AB.none (by omega) | exact AB.mono (by assumption) (by omega) (by omega) (by omega) (by omega) | exact RB.none (by omega) | exact RB.mono (by assumption) (by omega) | exact UB.none (by omega) | exact UB.mono (by assumption) (by omega) | exact EQ.none (by omega) | exact EQ.mono (by assumption) (by omega)) (by first | omega | assumption | exact AB.none (by omega) | exact AB.mono (by assumption) (by omega) (by omega) (by omega) (by omega) | exact RB.none (by omega) | exact RB.mono (by assumption) (by omega) | exact UB.none (by omega) | exact UB.mono (by assumption) (by omega) | exact EQ.none (by omega) | exact EQ.mono (by assumption) (by omega)) (fun r9 q22 q23 => ?_)
        refine ⟨fun c24 => ?_, fun c24 => ?_⟩
        · skip
          have t25 := ine (a := r9.toInt) (b := 0) rfl rfl c24
          try have t26 : (x3_3 + 1).toInt = x3_3.toInt + 1 := ia rfl rfl (by omega) (by omega)
          intro z11 ez11
          have t27 : z11.toInt = (x3_3 + 1).toInt := by rw [ez11] <;> rfl
          refine ⟨_, ?_, rfl, by first | omega | assumption | exact AB.none (by omega) | exact AB.mono (by assumption) (by omega) (by omega) (by omega) (by omega) | exact RB.none (by omega) | exact RB.mono (by assumption) (by omega) | exact UB.none (by omega) | exact UB.mono (by assumption) (by omega) | exact EQ.none (by omega) | exact EQ.mono (by assumption) (by omega), by first | omega | assumption | exact AB.none (by omega) | exact AB.mono (by assumption) (by omega) (by omega) (by omega) (by omega) | exact RB.none (by omega) | exact RB.mono (by assumption) (by omega) | exact UB.none (by omega) | exact UB.mono (by assumption) (by omega) | exact EQ.none (by omega) | exact EQ.mono (by assumption) (by omega)⟩
          omega
        · skip
          have t28 := ieq (a := r9.toInt) (b := 0) rfl rfl c24
          try have t29 : (x1_3 + 1).toInt = x1_3.toInt + 1 := ia rfl rfl (by omega) (by omega)
          intro z12 ez12
          have t30 : z12.toInt = (x1_3 + 1).toInt := by rw [ez12] <;> rfl
          try have t31 : (x3_3 + 1).toInt = x3_3.toInt + 1 := ia rfl rfl (by omega) (by omega)
          intro z13 ez13
          have t32 : z13.toInt = (x3_3 + 1).toInt := by rw [ez13] <;> rfl
          refine ⟨_, ?_, rfl, by first | omega | assumption | exact AB.none (by omega) | exact AB.mono (by assumption) (by omega) (by omega) (by omega) (by omega) | exact RB.none (by omega) | exact RB.mono (by assumption) (by omega) | exact UB.none (by omega) | exact UB.mono (by assumption) (by omega) | exact EQ.none (by omega) | exact EQ.mono (by assumption) (by omega), by first | omega | assumption | exact AB.none (by omega) | exact AB.mono (by assumption) (by omega) (by omega) (by omega) (by omega) | exact RB.none (by omega) | exact RB.mono (by assumption) (by omega) | exact UB.none (by omega) | exact UB.mono (by assumption) (by omega) | exact EQ.none (by omega) | exact EQ.mono (by assumption) (by omega)⟩
          omega
set_option maxHeartbeats 1000000 in
set_option maxRecDepth 10000 in
theorem s_X6_become {v_draw : Int32} {race_windows : Int32} {race_dials : Nat → Int32} {race_clocks : Int32} {race_kind : Nat → Int32} {race_hands : Nat → Int32} {race_rate : Nat → Int32} {race_spring : Nat → Int32} {race_window : Nat → Int32} {race_finish : Nat → Int32} {race_skies : Int32} {race_sky : Nat → Int32} {race_hour : Int32} {race_heard : Int32} {race_strokes : Int32} {bets_size : Int32} {bets_on : Nat → Int32} {bets_stake : Nat → Int32} {repairs_known : Int32} {repairs_act : Nat → Int32} {repairs_whom : Nat → Int32} {repairs_was : Nat → Int32} {p1_draw : Int32} {p1_race_windows : Int32} {p1_race_dials : Nat → Int32} {p1_race_clocks : Int32} {p1_race_kind : Nat → Int32} {p1_race_hands : Nat → Int32} {p1_race_rate : Nat → Int32} {p1_race_spring : Nat → Int32} {p1_race_window : Nat → Int32} {p1_race_finish : Nat → Int32} {p1_race_skies : Int32} {p1_race_sky : Nat → Int32} {p1_race_hour : Int32} {p1_race_heard : Int32} {p1_race_strokes : Int32} {p1_bets_size : Int32} {p1_bets_on : Nat → Int32} {p1_bets_stake : Nat → Int32} {p1_repairs_known : Int32} {p1_repairs_act : Nat → Int32} {p1_repairs_whom : Nat → Int32} {p1_repairs_was : Nat → Int32} {post : (Int32) → (Int32) → (Nat → Int32) → (Int32) → (Nat → Int32) → (Nat → Int32) → (Nat → Int32) → (Nat → Int32) → (Nat → Int32) → (Nat → Int32) → (Int32) → (Nat → Int32) → (Int32) → (Int32) → (Int32) → (Int32) → (Nat → Int32) → (Nat → Int32) → (Int32) → (Nat → Int32) → (Nat → Int32) → (Nat → Int32) → Prop} (hp0 : race_hour.toInt ≤ 9999) (hp1 : AB race_window 0 race_clocks.toInt 0 (race_windows.toInt - 1)) (hp2 : 2 ≤ race_windows.toInt) (hp3 : race_windows.toInt ≤ 24) (hp4 : 0 ≤ race_clocks.toInt) (hp5 : race_clocks.toInt ≤ 9) (hp6 : 1 ≤ race_skies.toInt) (hp7 : race_skies.toInt ≤ 12) (hp8 : 0 ≤ race_hour.toInt) (hp9 : 0 ≤ bets_size.toInt) (hp10 : bets_size.toInt ≤ 6) (hp11 : 0 ≤ repairs_known.toInt) (hp12 : repairs_known.toInt ≤ 10) (hp13 : RB repairs_act repairs_whom repairs_known.toInt) (hp14 : p1_race_hour.toInt ≤ 9999) (hp15 : AB p1_race_window 0 p1_race_clocks.toInt 0 (p1_race_windows.toInt - 1)) (hp16 : 2 ≤ p1_race_windows.toInt) (hp17 : p1_race_windows.toInt ≤ 24) (hp18 : 0 ≤ p1_race_clocks.toInt) (hp19 : p1_race_clocks.toInt ≤ 9) (hp20 : 1 ≤ p1_race_skies.toInt) (hp21 : p1_race_skies.toInt ≤ 12) (hp22 : 0 ≤ p1_race_hour.toInt) (hp23 : 0 ≤ p1_bets_size.toInt) (hp24 : p1_bets_size.toInt ≤ 6) (hp25 : 0 ≤ p1_repairs_known.toInt) (hp26 : p1_repairs_known.toInt ≤ 10) (hp27 : RB p1_repairs_act p1_repairs_whom p1_repairs_known.toInt) (hk : ∀ (v_draw' : Int32) (race_windows' : Int32) (race_dials' : Nat → Int32) (race_clocks' : Int32) (race_kind' : Nat → Int32) (race_hands' : Nat → Int32) (race_rate' : Nat → Int32) (race_spring' : Nat → Int32) (race_window' : Nat → Int32) (race_finish' : Nat → Int32) (race_skies' : Int32) (race_sky' : Nat → Int32) (race_hour' : Int32) (race_heard' : Int32) (race_strokes' : Int32) (bets_size' : Int32) (bets_on' : Nat → Int32) (bets_stake' : Nat → Int32) (repairs_known' : Int32) (repairs_act' : Nat → Int32) (repairs_whom' : Nat → Int32) (repairs_was' : Nat → Int32), (race_hour'.toInt ≤ 9999) → (AB race_window' 0 race_clocks'.toInt 0 (race_windows'.toInt - 1)) → (2 ≤ race_windows'.toInt) → (race_windows'.toInt ≤ 24) → (0 ≤ race_clocks'.toInt) → (race_clocks'.toInt ≤ 9) → (1 ≤ race_skies'.toInt) → (race_skies'.toInt ≤ 12) → (0 ≤ race_hour'.toInt) → (0 ≤ bets_size'.toInt) → (bets_size'.toInt ≤ 6) → (0 ≤ repairs_known'.toInt) → (repairs_known'.toInt ≤ 10) → (RB repairs_act' repairs_whom' repairs_known'.toInt) → (v_draw'.toInt = p1_draw.toInt) → post v_draw' race_windows' race_dials' race_clocks' race_kind' race_hands' race_rate' race_spring' race_window' race_finish' race_skies' race_sky' race_hour' race_heard' race_strokes' bets_size' bets_on' bets_stake' repairs_known' repairs_act' repairs_whom' repairs_was') : wp_X6_become v_draw race_windows race_dials race_clocks race_kind race_hands race_rate race_spring race_window race_finish race_skies race_sky race_hour race_heard race_strokes bets_size bets_on bets_stake repairs_known repairs_act repairs_whom repairs_was p1_draw p1_race_windows p1_race_dials p1_race_clocks p1_race_kind p1_race_hands p1_race_rate p1_race_spring p1_race_window p1_race_finish p1_race_skies p1_race_sky p1_race_hour p1_race_heard p1_race_strokes p1_bets_size p1_bets_on p1_bets_stake p1_repairs_known p1_repairs_act p1_repairs_whom p1_repairs_was post := by
  unfold wp_X6_become
  refine s_X2_become (by first | omega | assumption | exact AB.none (by omega) | exact AB.mono (by assumption) (by omega) (by omega) (by omega) (by omega) | exact RB.none (by omega) | exact RB.mono (by assumption) (by omega) | exact UB.none (by omega) | exact UB.mono (by assumption) (by omega) | exact EQ.none (by omega) | exact EQ.mono (by assumption) (by omega)) (by first | omega | assumption | exact AB.none (by omega) | exact AB.mono (by assumption) (by omega) (by omega) (by omega) (by omega) | exact RB.none (by omega) | exact RB.mono (by assumption) (by omega) | exact UB.none (by omega) | exact UB.mono (by assumption) (by omega) | exact EQ.none (by omega) | exact EQ.mono (by assumption) (by omega)) (by first | omega | assumption | exact AB.none (by omega) | exact AB.mono (by assumption) (by omega) (by omega) (by omega) (by omega) | exact RB.none (by omega) | exact RB.mono (by assumption) (by omega) | exact UB.none (by omega) | exact UB.mono (by assumption) (by omega) | exact EQ.none (by omega) | exact EQ.mono (by assumption) (by omega)) (by first | omega | assumption | exact AB.none (by omega) | exact AB.mono (by assumption) (by omega) (by omega) (by omega) (by omega) | exact RB.none (by omega) | exact RB.mono (by assumption) (by omega) | exact UB.none (by omega) | exact UB.mono (by assumption) (by omega) | exact EQ.none (by omega) | exact EQ.mono (by assumption) (by omega)) (by first | omega | assumption | exact AB.none (by omega) | exact AB.mono (by assumption) (by omega) (by omega) (by omega) (by omega) | exact RB.none (by omega) | exact RB.mono (by assumption) (by omega) | exact UB.none (by omega) | exact UB.mono (by assumption) (by omega) | exact EQ.none (by omega) | exact EQ.mono (by assumption) (by omega)) (by first | omega | assumption | exact AB.none (by omega) | exact AB.mono (by assumption) (by omega) (by omega) (by omega) (by omega) | exact RB.none (by omega) | exact RB.mono (by assumption) (by omega) | exact UB.none (by omega) | exact UB.mono (by assumption) (by omega) | exact EQ.none (by omega) | exact EQ.mono (by assumption) (by omega)) (by first | omega | assumption | exact AB.none (by omega) | exact AB.mono (by assumption) (by omega) (by omega) (by omega) (by omega) | exact RB.none (by omega) | exact RB.mono (by assumption) (by omega) | exact UB.none (by omega) | exact UB.mono (by assumption) (by omega) | exact EQ.none (by omega) | exact EQ.mono (by assumption) (by omega)) (by first | omega | assumption | exact AB.none (by omega) | exact AB.mono (by assumption) (by omega) (by omega) (by omega) (by omega) | exact RB.none (by omega) | exact RB.mono (by assumption) (by omega) | exact UB.none (by omega) | exact UB.mono (by assumption) (by omega) | exact EQ.none (by omega) | exact EQ.mono (by assumption) (by omega)) (by first | omega | assumption | exact AB.none (by omega) | exact AB.mono (by assumption) (by omega) (by omega) (by omega) (by omega) | exact RB.none (by omega) | exact RB.mono (by assumption) (by omega) | exact UB.none (by omega) | exact UB.mono (by assumption) (by omega) | exact EQ.none (by omega) | exact EQ.mono (by assumption) (by omega)) (by first | omega | assumption | exact AB.none (by omega) | exact AB.mono (by assumption) (by omega) (by omega) (by omega) (by omega) | exact RB.none (by omega) | exact RB.mono (by assumption) (by omega) | exact UB.none (by omega) | exact UB.mono (by assumption) (by omega) | exact EQ.none (by omega) | exact EQ.mono (by assumption) (by omega)) (by first | omega | assumption | exact AB.none (by omega) | exact AB.mono (by assumption) (by omega) (by omega) (by omega) (by omega) | exact RB.none (by omega) | exact RB.mono (by assumption) (by omega) | exact UB.none (by omega) | exact UB.mono (by assumption) (by omega) | exact EQ.none (by omega) | exact EQ.mono (by assumption) (by omega)) (by first | omega | assumption | exact AB.none (by omega) | exact AB.mono (by assumption) (by omega) (by omega) (by omega) (by omega) | exact RB.none (by omega) | exact RB.mono (by assumption) (by omega) | exact UB.none (by omega) | exact UB.mono (by assumption) (by omega) | exact EQ.none (by omega) | exact EQ.mono (by assumption) (by omega)) (by first | omega | assumption | exact AB.none (by omega) | exact AB.mono (by assumption) (by omega) (by omega) (by omega) (by omega) | exact RB.none (by omega) | exact RB.mono (by assumption) (by omega) | exact UB.none (by omega) | exact UB.mono (by assumption) (by omega) | exact EQ.none (by omega) | exact EQ.mono (by assumption) (by omega)) (by first | omega | assumption | exact AB.none (by omega) | exact AB.mono (by assumption) (by omega) (by omega) (by omega) (by omega) | exact RB.none (by omega) | exact RB.mono (by assumption) (by omega) | exact UB.none (by omega) | exact UB.mono (by assumption) (by omega) | exact EQ.none (by omega) | exact EQ.mono (by assumption) (by omega)) (by first | omega | assumption | exact AB.none (by omega) | exact AB.mono (by assumption) (by omega) (by omega) (by omega) (by omega) | exact RB.none (by omega) | exact RB.mono (by assumption) (by omega) | exact UB.none (by omega) | exact UB.mono (by assumption) (by omega) | exact EQ.none (by omega) | exact EQ.mono (by assumption) (by omega)) (by first | omega | assumption | exact AB.none (by omega) | exact AB.mono (by assumption) (by omega) (by omega) (by omega) (by omega) | exact RB.none (by omega) | exact RB.mono (by assumption) (by omega) | exact UB.none (by omega) | exact UB.mono (by assumption) (by omega) | exact EQ.none (by omega) | exact EQ.mono (by assumption) (by omega)) (fun race_windows_2 race_dials_3 race_clocks_4 race_kind_5 race_hands_6 race_rate_7 race_spring_8 race_window_9 race_finish_10 race_skies_11 race_sky_12 race_hour_13 race_heard_14 race_strokes_15 q1 q2 q3 q4 q5 q6 q7 q8 q9 q10 q11 q12 => ?_)
  refine s_X0_become (by first | omega | assumption | exact AB.none (by omega) | exact AB.mono (by assumption) (by omega) (by omega) (by omega) (by omega) | exact RB.none (by omega) | exact RB.mono (by assumption) (by omega) | exact UB.none (by omega) | exact UB.mono (by assumption) (by omega) | exact EQ.none (by omega) | exact EQ.mono (by assumption) (by omega)) (by first | omega | assumption | exact AB.none (by omega) | exact AB.mono (by assumption) (by omega) (by omega) (by omega) (by omega) | exact RB.none (by omega) | exact RB.mono (by assumption) (by omega) | exact UB.none (by omega) | exact UB.mono (by assumption) (by omega) | exact EQ.none (by omega) | exact EQ.mono (by assumption) (by omega)) (by first | omega | assumption | exact AB.none (by omega) | exact AB.mono (by assumption) (by omega) (by omega) (by omega) (by omega) | exact RB.none (by omega) | exact RB.mono (by assumption) (by omega) | exact UB.none (by omega) | exact UB.mono (by assumption) (by omega) | exact EQ.none (by omega) | exact EQ.mono (by assumption) (by omega)) (by first | omega | assumption | exact AB.none (by omega) | exact AB.mono (by assumption) (by omega) (by omega) (by omega) (by omega) | exact RB.none (by omega) | exact RB.mono (by assumption) (by omega) | exact UB.none (by omega) | exact UB.mono (by assumption) (by omega) | exact EQ.none (by omega) | exact EQ.mono (by assumption) (by omega)) (fun bets_size_17 bets_on_18 bets_stake_19 q13 q14 q15 => ?_)
  refine s_X3_become (by first | omega | assumption | exact AB.none (by omega) | exact AB.mono (by assumption) (by omega) (by omega) (by omega) (by omega) | exact RB.none (by omega) | exact RB.mono (by assumption) (by omega) | exact UB.none (by omega) | exact UB.mono (by assumption) (by omega) | exact EQ.none (by omega) | exact EQ.mono (by assumption) (by omega)) (by first | omega | assumption | exact AB.none (by omega) | exact AB.mono (by assumption) (by omega) (by omega) (by omega) (by omega) | exact RB.none (by omega) | exact RB.mono (by assumption) (by omega) | exact UB.none (by omega) | exact UB.mono (by assumption) (by omega) | exact EQ.none (by omega) | exact EQ.mono (by assumption) (by omega)) (by first | omega | assumption | exact AB.none (by omega) | exact AB.mono (by assumption) (by omega) (by omega) (by omega) (by omega) | exact RB.none (by omega) | exact RB.mono (by assumption) (by omega) | exact UB.none (by omega) | exact UB.mono (by assumption) (by omega) | exact EQ.none (by omega) | exact EQ.mono (by assumption) (by omega)) (by first | omega | assumption | exact AB.none (by omega) | exact AB.mono (by assumption) (by omega) (by omega) (by omega) (by omega) | exact RB.none (by omega) | exact RB.mono (by assumption) (by omega) | exact UB.none (by omega) | exact UB.mono (by assumption) (by omega) | exact EQ.none (by omega) | exact EQ.mono (by assumption) (by omega)) (by first | omega | assumption | exact AB.none (by omega) | exact AB.mono (by assumption) (by omega) (by omega) (by omega) (by omega) | exact RB.none (by omega) | exact RB.mono (by assumption) (by omega) | exact UB.none (by omega) | exact UB.mono (by assumption) (by omega) | exact EQ.none (by omega) | exact EQ.mono (by assumption) (by omega)) (by first | omega | assumption | exact AB.none (by omega) | exact AB.mono (by assumption) (by omega) (by omega) (by omega) (by omega) | exact RB.none (by omega) | exact RB.mono (by assumption) (by omega) | exact UB.none (by omega) | exact UB.mono (by assumption) (by omega) | exact EQ.none (by omega) | exact EQ.mono (by assumption) (by omega)) (fun repairs_known_21 repairs_act_22 repairs_whom_23 repairs_was_24 q16 q17 q18 q19 => ?_)
  exact hk _ _ _ _ _ _ _ _ _ _ _ _ _ _ _ _ _ _ _ _ _ _ (by first | omega | assumption | exact AB.none (by omega) | exact AB.mono (by assumption) (by omega) (by omega) (by omega) (by omega) | exact RB.none (by omega) | exact RB.mono (by assumption) (by omega) | exact UB.none (by omega) | exact UB.mono (by assumption) (by omega) | exact EQ.none (by omega) | exact EQ.mono (by assumption) (by omega)) (by first | omega | assumption | exact AB.none (by omega) | exact AB.mono (by assumption) (by omega) (by omega) (by omega) (by omega) | exact RB.none (by omega) | exact RB.mono (by assumption) (by omega) | exact UB.none (by omega) | exact UB.mono (by assumption) (by omega) | exact EQ.none (by omega) | exact EQ.mono (by assumption) (by omega)) (by first | omega | assumption | exact AB.none (by omega) | exact AB.mono (by assumption) (by omega) (by omega) (by omega) (by omega) | exact RB.none (by omega) | exact RB.mono (by assumption) (by omega) | exact UB.none (by omega) | exact UB.mono (by assumption) (by omega) | exact EQ.none (by omega) | exact EQ.mono (by assumption) (by omega)) (by first | omega | assumption | exact AB.none (by omega) | exact AB.mono (by assumption) (by omega) (by omega) (by omega) (by omega) | exact RB.none (by omega) | exact RB.mono (by assumption) (by omega) | exact UB.none (by omega) | exact UB.mono (by assumption) (by omega) | exact EQ.none (by omega) | exact EQ.mono (by assumption) (by omega)) (by first | omega | assumption | exact AB.none (by omega) | exact AB.mono (by assumption) (by omega) (by omega) (by omega) (by omega) | exact RB.none (by omega) | exact RB.mono (by assumption) (by omega) | exact UB.none (by omega) | exact UB.mono (by assumption) (by omega) | exact EQ.none (by omega) | exact EQ.mono (by assumption) (by omega)) (by first | omega | assumption | exact AB.none (by omega) | exact AB.mono (by assumption) (by omega) (by omega) (by omega) (by omega) | exact RB.none (by omega) | exact RB.mono (by assumption) (by omega) | exact UB.none (by omega) | exact UB.mono (by assumption) (by omega) | exact EQ.none (by omega) | exact EQ.mono (by assumption) (by omega)) (by first | omega | assumption | exact AB.none (by omega) | exact AB.mono (by assumption) (by omega) (by omega) (by omega) (by omega) | exact RB.none (by omega) | exact RB.mono (by assumption) (by omega) | exact UB.none (by omega) | exact UB.mono (by assumption) (by omega) | exact EQ.none (by omega) | exact EQ.mono (by assumption) (by omega)) (by first | omega | assumption | exact AB.none (by omega) | exact AB.mono (by assumption) (by omega) (by omega) (by omega) (by omega) | exact RB.none (by omega) | exact RB.mono (by assumption) (by omega) | exact UB.none (by omega) | exact UB.mono (by assumption) (by omega) | exact EQ.none (by omega) | exact EQ.mono (by assumption) (by omega)) (by first | omega | assumption | exact AB.none (by omega) | exact AB.mono (by assumption) (by omega) (by omega) (by omega) (by omega) | exact RB.none (by omega) | exact RB.mono (by assumption) (by omega) | exact UB.none (by omega) | exact UB.mono (by assumption) (by omega) | exact EQ.none (by omega) | exact EQ.mono (by assumption) (by omega)) (by first | omega | assumption | exact AB.none (by omega) | exact AB.mono (by assumption) (by omega) (by omega) (by omega) (by omega) | exact RB.none (by omega) | exact RB.mono (by assumption) (by omega) | exact UB.none (by omega) | exact UB.mono (by assumption) (by omega) | exact EQ.none (by omega) | exact EQ.mono (by assumption) (by omega)) (by first | omega | assumption | exact AB.none (by omega) | exact AB.mono (by assumption) (by omega) (by omega) (by omega) (by omega) | exact RB.none (by omega) | exact RB.mono (by assumption) (by omega) | exact UB.none (by omega) | exact UB.mono (by assumption) (by omega) | exact EQ.none (by omega) | exact EQ.mono (by assumption) (by omega)) (by first | omega | assumption | exact AB.none (by omega) | exact AB.mono (by assumption) (by omega) (by omega) (by omega) (by omega) | exact RB.none (by omega) | exact RB.mono (by assumption) (by omega) | exact UB.none (by omega) | exact UB.mono (by assumption) (by omega) | exact EQ.none (by omega) | exact EQ.mono (by assumption) (by omega)) (by first | omega | assumption | exact AB.none (by omega) | exact AB.mono (by assumption) (by omega) (by omega) (by omega) (by omega) | exact RB.none (by omega) | exact RB.mono (by assumption) (by omega) | exact UB.none (by omega) | exact UB.mono (by assumption) (by omega) | exact EQ.none (by omega) | exact EQ.mono (by assumption) (by omega)) (by first | omega | assumption | exact AB.none (by omega) | exact AB.mono (by assumption) (by omega) (by omega) (by omega) (by omega) | exact RB.none (by omega) | exact RB.mono (by assumption) (by omega) | exact UB.none (by omega) | exact UB.mono (by assumption) (by omega) | exact EQ.none (by omega) | exact EQ.mono (by assumption) (by omega)) (by first | omega | assumption | exact AB.none (by omega) | exact AB.mono (by assumption) (by omega) (by omega) (by omega) (by omega) | exact RB.none (by omega) | exact RB.mono (by assumption) (by omega) | exact UB.none (by omega) | exact UB.mono (by assumption) (by omega) | exact EQ.none (by omega) | exact EQ.mono (by assumption) (by omega))
set_option maxHeartbeats 1000000 in
set_option maxRecDepth 10000 in
theorem s_X6_drawWeather {v_draw : Int32} {post : Int32 → (Int32) → Prop} (hk : ∀ (r : Int32) (v_draw' : Int32), post r v_draw') : wp_X6_drawWeather v_draw post := by
  unfold wp_X6_drawWeather
  try have t1 : (v_draw * 1103515245).toInt = v_draw.toInt * 1103515245 := im rfl rfl (by omega) (by omega)
  try have t2 : ((v_draw * 1103515245) + 12345).toInt = (v_draw * 1103515245).toInt + 12345 := ia rfl rfl (by omega) (by omega)
  intro z1 ez1
  have t3 : z1.toInt = (((v_draw * 1103515245) + 12345) &&& 2147483647).toInt := by rw [ez1] <;> rfl
  try have t4 : (z1 / 65536).toInt = z1.toInt / 65536 := idv rfl rfl (by omega) (by omega)
  try have t5 : ((z1 / 65536) - (z1 / 65536) / 4 * 4).toInt = (z1 / 65536).toInt % 4 := irm rfl rfl (by omega) (by omega)
  exact hk _ _
