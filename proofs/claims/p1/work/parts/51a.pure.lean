set_option maxHeartbeats 1000000 in
set_option maxRecDepth 10000 in
theorem f_X0_become {v_size : Int32} {v_on : Nat → Int32} {v_stake : Nat → Int32} {p1_size : Int32} {p1_on : Nat → Int32} {p1_stake : Nat → Int32} {post : (Int32) → (Nat → Int32) → (Nat → Int32) → Prop} (hp0 : v_size.toInt = 0) (hp1 : p1_size.toInt = 0) (hk : ∀ (v_size' : Int32) (v_on' : Nat → Int32) (v_stake' : Nat → Int32), (v_size'.toInt = 0) → post v_size' v_on' v_stake') : wp_X0_become v_size v_on v_stake p1_size p1_on p1_stake post := by
  unfold wp_X0_become
  have t1 : ((Int32.toNatClampNeg 0 : Nat) : Int) = 0 := itn rfl (by omega)
  have t2 : ((Int32.toNatClampNeg p1_size : Nat) : Int) = p1_size.toInt := itn rfl (by omega)
  refine ⟨fun h0 => absurd (ilt (a := 0) (b := 0) rfl rfl h0) (by omega), fun h0 => absurd (ilt (a := 0) (b := 0) rfl rfl h0) (by omega), fun h0 => absurd (ilt (a := p1_size.toInt) (b := 0) rfl rfl h0) (by omega), by omega, by omega, ?_⟩
  intro f1 ef1
  refine ⟨fun h0 => absurd (ilt (a := 0) (b := 0) rfl rfl h0) (by omega), fun h0 => absurd (ilt (a := 0) (b := 0) rfl rfl h0) (by omega), fun h0 => absurd (ilt (a := p1_size.toInt) (b := 0) rfl rfl h0) (by omega), by omega, by omega, ?_⟩
  intro f2 ef2
  exact hk _ _ _ (by first | omega | assumption | exact AB.none (by omega) | exact AB.mono (by assumption) (by omega) (by omega) (by omega) (by omega))
set_option maxHeartbeats 1000000 in
set_option maxRecDepth 10000 in
theorem f_X2_become {v_windows : Int32} {v_dials : Nat → Int32} {v_clocks : Int32} {v_kind : Nat → Int32} {v_hands : Nat → Int32} {v_rate : Nat → Int32} {v_spring : Nat → Int32} {v_window : Nat → Int32} {v_finish : Nat → Int32} {v_skies : Int32} {v_sky : Nat → Int32} {v_hour : Int32} {v_heard : Int32} {v_strokes : Int32} {p1_windows : Int32} {p1_dials : Nat → Int32} {p1_clocks : Int32} {p1_kind : Nat → Int32} {p1_hands : Nat → Int32} {p1_rate : Nat → Int32} {p1_spring : Nat → Int32} {p1_window : Nat → Int32} {p1_finish : Nat → Int32} {p1_skies : Int32} {p1_sky : Nat → Int32} {p1_hour : Int32} {p1_heard : Int32} {p1_strokes : Int32} {post : (Int32) → (Nat → Int32) → (Int32) → (Nat → Int32) → (Nat → Int32) → (Nat → Int32) → (Nat → Int32) → (Nat → Int32) → (Nat → Int32) → (Int32) → (Nat → Int32) → (Int32) → (Int32) → (Int32) → Prop} (hp0 : v_windows.toInt = 8) (hp1 : v_clocks.toInt = 0) (hp2 : v_skies.toInt = 1) (hp3 : 0 ≤ v_hour.toInt) (hp4 : v_hour.toInt ≤ 1000) (hp5 : AB v_dials 0 24 12 12) (hp6 : AB v_sky 0 12 0 0) (hp7 : v_heard.toInt = 0) (hp8 : v_strokes.toInt = 0) (hp9 : p1_windows.toInt = 8) (hp10 : p1_clocks.toInt = 0) (hp11 : p1_skies.toInt = 1) (hp12 : 0 ≤ p1_hour.toInt) (hp13 : p1_hour.toInt ≤ 1000) (hp14 : AB p1_dials 0 24 12 12) (hp15 : AB p1_sky 0 12 0 0) (hp16 : p1_heard.toInt = 0) (hp17 : p1_strokes.toInt = 0) (hk : ∀ (v_windows' : Int32) (v_dials' : Nat → Int32) (v_clocks' : Int32) (v_kind' : Nat → Int32) (v_hands' : Nat → Int32) (v_rate' : Nat → Int32) (v_spring' : Nat → Int32) (v_window' : Nat → Int32) (v_finish' : Nat → Int32) (v_skies' : Int32) (v_sky' : Nat → Int32) (v_hour' : Int32) (v_heard' : Int32) (v_strokes' : Int32), (v_windows'.toInt = 8) → (v_clocks'.toInt = 0) → (v_skies'.toInt = 1) → (0 ≤ v_hour'.toInt) → (v_hour'.toInt ≤ 1000) → (AB v_dials' 0 24 12 12) → (AB v_sky' 0 12 0 0) → (v_heard'.toInt = 0) → (v_strokes'.toInt = 0) → post v_windows' v_dials' v_clocks' v_kind' v_hands' v_rate' v_spring' v_window' v_finish' v_skies' v_sky' v_hour' v_heard' v_strokes') : wp_X2_become v_windows v_dials v_clocks v_kind v_hands v_rate v_spring v_window v_finish v_skies v_sky v_hour v_heard v_strokes p1_windows p1_dials p1_clocks p1_kind p1_hands p1_rate p1_spring p1_window p1_finish p1_skies p1_sky p1_hour p1_heard p1_strokes post := by
  unfold wp_X2_become
  have t1 : ((Int32.toNatClampNeg 0 : Nat) : Int) = 0 := itn rfl (by omega)
  have t2 : ((Int32.toNatClampNeg p1_windows : Nat) : Int) = p1_windows.toInt := itn rfl (by omega)
  refine ⟨fun h0 => absurd (ilt (a := 0) (b := 0) rfl rfl h0) (by omega), fun h0 => absurd (ilt (a := 0) (b := 0) rfl rfl h0) (by omega), fun h0 => absurd (ilt (a := p1_windows.toInt) (b := 0) rfl rfl h0) (by omega), by omega, by omega, ?_⟩
  intro f1 ef1
  try have q3 : AB f1 0 24 12 12 := by rw [ef1]; first | exact AB.cpy (by assumption) (by omega) | exact AB.cpy2 (by assumption) (by assumption) (by omega) | exact AB.none (by omega)
  have t4 : ((Int32.toNatClampNeg p1_clocks : Nat) : Int) = p1_clocks.toInt := itn rfl (by omega)
  refine ⟨fun h0 => absurd (ilt (a := 0) (b := 0) rfl rfl h0) (by omega), fun h0 => absurd (ilt (a := 0) (b := 0) rfl rfl h0) (by omega), fun h0 => absurd (ilt (a := p1_clocks.toInt) (b := 0) rfl rfl h0) (by omega), by omega, by omega, ?_⟩
  intro f2 ef2
  refine ⟨fun h0 => absurd (ilt (a := 0) (b := 0) rfl rfl h0) (by omega), fun h0 => absurd (ilt (a := 0) (b := 0) rfl rfl h0) (by omega), fun h0 => absurd (ilt (a := p1_clocks.toInt) (b := 0) rfl rfl h0) (by omega), by omega, by omega, ?_⟩
  intro f3 ef3
  refine ⟨fun h0 => absurd (ilt (a := 0) (b := 0) rfl rfl h0) (by omega), fun h0 => absurd (ilt (a := 0) (b := 0) rfl rfl h0) (by omega), fun h0 => absurd (ilt (a := p1_clocks.toInt) (b := 0) rfl rfl h0) (by omega), by omega, by omega, ?_⟩
  intro f4 ef4
  refine ⟨fun h0 => absurd (ilt (a := 0) (b := 0) rfl rfl h0) (by omega), fun h0 => absurd (ilt (a := 0) (b := 0) rfl rfl h0) (by omega), fun h0 => absurd (ilt (a := p1_clocks.toInt) (b := 0) rfl rfl h0) (by omega), by omega, by omega, ?_⟩
  intro f5 ef5
  refine ⟨fun h0 => absurd (ilt (a := 0) (b := 0) rfl rfl h0) (by omega), fun h0 => absurd (ilt (a := 0) (b := 0) rfl rfl h0) (by omega), fun h0 => absurd (ilt (a := p1_clocks.toInt) (b := 0) rfl rfl h0) (by omega), by omega, by omega, ?_⟩
  intro f6 ef6
  refine ⟨fun h0 => absurd (ilt (a := 0) (b := 0) rfl rfl h0) (by omega), fun h0 => absurd (ilt (a := 0) (b := 0) rfl rfl h0) (by omega), fun h0 => absurd (ilt (a := p1_clocks.toInt) (b := 0) rfl rfl h0) (by omega), by omega, by omega, ?_⟩
  intro f7 ef7
  have t5 : ((Int32.toNatClampNeg p1_skies : Nat) : Int) = p1_skies.toInt := itn rfl (by omega)
  refine ⟨fun h0 => absurd (ilt (a := 0) (b := 0) rfl rfl h0) (by omega), fun h0 => absurd (ilt (a := 0) (b := 0) rfl rfl h0) (by omega), fun h0 => absurd (ilt (a := p1_skies.toInt) (b := 0) rfl rfl h0) (by omega), by omega, by omega, ?_⟩
  intro f8 ef8
  try have q6 : AB f8 0 12 0 0 := by rw [ef8]; first | exact AB.cpy (by assumption) (by omega) | exact AB.cpy2 (by assumption) (by assumption) (by omega) | exact AB.none (by omega)
  exact hk _ _ _ _ _ _ _ _ _ _ _ _ _ _ (by first | omega | assumption | exact AB.none (by omega) | exact AB.mono (by assumption) (by omega) (by omega) (by omega) (by omega)) (by first | omega | assumption | exact AB.none (by omega) | exact AB.mono (by assumption) (by omega) (by omega) (by omega) (by omega)) (by first | omega | assumption | exact AB.none (by omega) | exact AB.mono (by assumption) (by omega) (by omega) (by omega) (by omega)) (by first | omega | assumption | exact AB.none (by omega) | exact AB.mono (by assumption) (by omega) (by omega) (by omega) (by omega)) (by first | omega | assumption | exact AB.none (by omega) | exact AB.mono (by assumption) (by omega) (by omega) (by omega) (by omega)) (by first | omega | assumption | exact AB.none (by omega) | exact AB.mono (by assumption) (by omega) (by omega) (by omega) (by omega)) (by first | omega | assumption | exact AB.none (by omega) | exact AB.mono (by assumption) (by omega) (by omega) (by omega) (by omega)) (by first | omega | assumption | exact AB.none (by omega) | exact AB.mono (by assumption) (by omega) (by omega) (by omega) (by omega)) (by first | omega | assumption | exact AB.none (by omega) | exact AB.mono (by assumption) (by omega) (by omega) (by omega) (by omega))
set_option maxHeartbeats 1000000 in
set_option maxRecDepth 10000 in
theorem f_X2_add {p1 : Int32} {p2 : Int32} {p3 : Int32} {p4 : Int32} {v_clocks : Int32} {v_kind : Nat → Int32} {v_hands : Nat → Int32} {v_rate : Nat → Int32} {v_spring : Nat → Int32} {v_window : Nat → Int32} {v_finish : Nat → Int32} {post : Int32 → (Int32) → (Nat → Int32) → (Nat → Int32) → (Nat → Int32) → (Nat → Int32) → (Nat → Int32) → (Nat → Int32) → Prop} (hp0 : v_clocks.toInt = 0) (hk : ∀ (r : Int32) (v_clocks' : Int32) (v_kind' : Nat → Int32) (v_hands' : Nat → Int32) (v_rate' : Nat → Int32) (v_spring' : Nat → Int32) (v_window' : Nat → Int32) (v_finish' : Nat → Int32), (r.toInt = 0) → post r v_clocks' v_kind' v_hands' v_rate' v_spring' v_window' v_finish') : wp_X2_add p1 p2 p3 p4 v_clocks v_kind v_hands v_rate v_spring v_window v_finish post := by
  unfold wp_X2_add
  refine ⟨ivp (a := v_clocks.toInt) rfl (by omega) (by omega), ?_⟩
  intro f1 ef1
  have t1 : ((Int32.toNatClampNeg v_clocks : Nat) : Int) = v_clocks.toInt := itn rfl (by omega)
  have t2 : (f1 (Int32.toNatClampNeg v_clocks)).toInt = p1.toInt := by rw [ef1, upd_eq] <;> rfl
  refine ⟨ivp (a := v_clocks.toInt) rfl (by omega) (by omega), ?_⟩
  intro f2 ef2
  have t3 : ((Int32.toNatClampNeg v_clocks : Nat) : Int) = v_clocks.toInt := itn rfl (by omega)
  have t4 : (f2 (Int32.toNatClampNeg v_clocks)).toInt = p2.toInt := by rw [ef2, upd_eq] <;> rfl
  refine ⟨ivp (a := v_clocks.toInt) rfl (by omega) (by omega), ?_⟩
  intro f3 ef3
  have t5 : ((Int32.toNatClampNeg v_clocks : Nat) : Int) = v_clocks.toInt := itn rfl (by omega)
  have t6 : (f3 (Int32.toNatClampNeg v_clocks)).toInt = p3.toInt := by rw [ef3, upd_eq] <;> rfl
  refine ⟨ivp (a := v_clocks.toInt) rfl (by omega) (by omega), ?_⟩
  intro f4 ef4
  have t7 : ((Int32.toNatClampNeg v_clocks : Nat) : Int) = v_clocks.toInt := itn rfl (by omega)
  have t8 : (f4 (Int32.toNatClampNeg v_clocks)).toInt = p4.toInt := by rw [ef4, upd_eq] <;> rfl
  refine ⟨ivp (a := v_clocks.toInt) rfl (by omega) (by omega), ?_⟩
  intro f5 ef5
  have t9 : ((Int32.toNatClampNeg v_clocks : Nat) : Int) = v_clocks.toInt := itn rfl (by omega)
  have t10 : (f5 (Int32.toNatClampNeg v_clocks)).toInt = 0 := by rw [ef5, upd_eq] <;> rfl
  refine ⟨ivp (a := v_clocks.toInt) rfl (by omega) (by omega), ?_⟩
  intro f6 ef6
  have t11 : ((Int32.toNatClampNeg v_clocks : Nat) : Int) = v_clocks.toInt := itn rfl (by omega)
  have t12 : (f6 (Int32.toNatClampNeg v_clocks)).toInt = 0 := by rw [ef6, upd_eq] <;> rfl
  try have t13 : (v_clocks + 1).toInt = v_clocks.toInt + 1 := ia rfl rfl (by omega) (by omega)
  intro z7 ez7
  have t14 : z7.toInt = (v_clocks + 1).toInt := by rw [ez7] <;> rfl
  exact hk _ _ _ _ _ _ _ _ (by first | omega | assumption | exact AB.none (by omega) | exact AB.mono (by assumption) (by omega) (by omega) (by omega) (by omega))
set_option maxHeartbeats 1000000 in
set_option maxRecDepth 10000 in
theorem f_X2_toStart {v_clocks : Int32} {v_window : Nat → Int32} {v_finish : Nat → Int32} {post : (Nat → Int32) → (Nat → Int32) → Prop} (hp0 : v_clocks.toInt = 0) (hk : ∀ (v_window' : Nat → Int32) (v_finish' : Nat → Int32), post v_window' v_finish') : wp_X2_toStart v_clocks v_window v_finish post := by
  unfold wp_X2_toStart
  have t1 : ((0 : Int32)).toInt = 0 := rfl
  refine ⟨fun n1 x1_1 v_window_1 v_finish_1 => n1 = ((0 : Int)).toNat ∧ (x1_1.toInt = 0) ∧ (0 ≤ x1_1.toInt), ⟨_, rfl, by first | omega | assumption | exact AB.none (by omega) | exact AB.mono (by assumption) (by omega) (by omega) (by omega) (by omega), by first | omega | assumption | exact AB.none (by omega) | exact AB.mono (by assumption) (by omega) (by omega) (by omega) (by omega)⟩, ?_⟩
  rintro n1 x1_1 v_window_1 v_finish_1 ⟨hn1, q2, q3⟩
  refine ⟨fun c4 => ?_, fun c4 => ?_⟩
  · skip
    have t5 := ile (a := v_clocks.toInt) (b := x1_1.toInt) rfl rfl c4
    first
      | exfalso; omega
      | skip
        exact hk _ _
  · skip
    have t6 := inle (a := v_clocks.toInt) (b := x1_1.toInt) rfl rfl c4
    exfalso; omega
set_option maxHeartbeats 1000000 in
set_option maxRecDepth 10000 in
theorem f_X2_hush {v_heard : Int32} {v_strokes : Int32} {post : (Int32) → (Int32) → Prop} (hp0 : v_heard.toInt = 0) (hp1 : v_strokes.toInt = 0) (hk : ∀ (v_heard' : Int32) (v_strokes' : Int32), (v_heard'.toInt = 0) → (v_strokes'.toInt = 0) → post v_heard' v_strokes') : wp_X2_hush v_heard v_strokes post := by
  unfold wp_X2_hush
  have t1 : (0 : Int32).toInt = 0 := rfl
  exact hk _ _ (by first | omega | assumption | exact AB.none (by omega) | exact AB.mono (by assumption) (by omega) (by omega) (by omega) (by omega)) (by first | omega | assumption | exact AB.none (by omega) | exact AB.mono (by assumption) (by omega) (by omega) (by omega) (by omega))
set_option maxHeartbeats 1000000 in
set_option maxRecDepth 10000 in
theorem f_X2_weatherAt {p1 : Int32} {v_skies : Int32} {v_sky : Nat → Int32} {post : Int32 → Prop} (hp0 : v_skies.toInt = 1) (hp1 : AB v_sky 0 12 0 0) (hp2 : 0 ≤ p1.toInt) (hk : ∀ (r : Int32), (r.toInt = 0) → post r) : wp_X2_weatherAt p1 v_skies v_sky post := by
  unfold wp_X2_weatherAt
  refine ⟨fun c1 => ?_, fun c1 => ?_⟩
  · skip
    have t2 := ile (a := v_skies.toInt) (b := 0) rfl rfl c1
    exfalso; omega
  · skip
    have t3 := inle (a := v_skies.toInt) (b := 0) rfl rfl c1
    first
      | exfalso; omega
      | skip
        refine ⟨fun h0 => absurd (ieq (a := v_skies.toInt) (b := 0) rfl rfl h0) (by omega), ?_⟩
        try have t4 := irb (x := p1) (y := v_skies) (a := p1.toInt) (b := v_skies.toInt) rfl rfl (by omega) (by omega)
        refine ⟨ivp (a := (p1 - p1 / v_skies * v_skies).toInt) rfl (by omega) (by omega), ?_⟩
        try have q5 := AB.get (f := v_sky) (i := (p1 - p1 / v_skies * v_skies)) (a := (p1 - p1 / v_skies * v_skies).toInt) (by assumption) rfl (by omega) (by omega) (by omega)
        exact hk _ (by first | omega | assumption | exact AB.none (by omega) | exact AB.mono (by assumption) (by omega) (by omega) (by omega) (by omega))
set_option maxHeartbeats 1000000 in
set_option maxRecDepth 10000 in
theorem f_X2_homeCount {v_windows : Int32} {v_clocks : Int32} {v_window : Nat → Int32} {post : Int32 → Prop} (hp0 : v_windows.toInt = 8) (hp1 : v_clocks.toInt = 0) (hk : ∀ (r : Int32), (r.toInt = 0) → post r) : wp_X2_homeCount v_windows v_clocks v_window post := by
  unfold wp_X2_homeCount
  have t1 : ((0 : Int32)).toInt = 0 := rfl
  have t2 : ((0 : Int32)).toInt = 0 := rfl
  refine ⟨fun n1 x1_1 x2_1 => n1 = ((0 : Int)).toNat ∧ (x1_1.toInt = 0) ∧ (x2_1.toInt = 0) ∧ (0 ≤ x2_1.toInt), ⟨_, rfl, by first | omega | assumption | exact AB.none (by omega) | exact AB.mono (by assumption) (by omega) (by omega) (by omega) (by omega), by first | omega | assumption | exact AB.none (by omega) | exact AB.mono (by assumption) (by omega) (by omega) (by omega) (by omega), by first | omega | assumption | exact AB.none (by omega) | exact AB.mono (by assumption) (by omega) (by omega) (by omega) (by omega)⟩, ?_⟩
  rintro n1 x1_1 x2_1 ⟨hn1, q3, q4, q5⟩
  refine ⟨fun c6 => ?_, fun c6 => ?_⟩
  · skip
    have t7 := ile (a := v_clocks.toInt) (b := x2_1.toInt) rfl rfl c6
    first
      | exfalso; omega
      | skip
        exact hk _ (by first | omega | assumption | exact AB.none (by omega) | exact AB.mono (by assumption) (by omega) (by omega) (by omega) (by omega))
  · skip
    have t8 := inle (a := v_clocks.toInt) (b := x2_1.toInt) rfl rfl c6
    exfalso; omega
set_option maxHeartbeats 1000000 in
set_option maxRecDepth 10000 in
theorem f_X2_allHome {v_windows : Int32} {v_clocks : Int32} {v_window : Nat → Int32} {post : Int32 → Prop} (hp0 : v_windows.toInt = 8) (hp1 : v_clocks.toInt = 0) (hk : ∀ (r : Int32), (r.toInt = 1) → post r) : wp_X2_allHome v_windows v_clocks v_window post := by
  unfold wp_X2_allHome
  refine f_X2_homeCount (by first | omega | assumption | exact AB.none (by omega) | exact AB.mono (by assumption) (by omega) (by omega) (by omega) (by omega)) (by first | omega | assumption | exact AB.none (by omega) | exact AB.mono (by assumption) (by omega) (by omega) (by omega) (by omega)) (fun r1 q1 => ?_)
  refine ⟨fun c2 => ?_, fun c2 => ?_⟩
  · skip
    have t3 := ine (a := r1.toInt) (b := v_clocks.toInt) rfl rfl c2
    exfalso; omega
  · skip
    have t4 := ieq (a := r1.toInt) (b := v_clocks.toInt) rfl rfl c2
    first
      | exfalso; omega
      | skip
        have t5 : (1 : Int32).toInt = 1 := rfl
        exact hk _ (by first | omega | assumption | exact AB.none (by omega) | exact AB.mono (by assumption) (by omega) (by omega) (by omega) (by omega))
set_option maxHeartbeats 1000000 in
set_option maxRecDepth 10000 in
theorem f_X2_pass {p1 : Int32} {v_windows : Int32} {v_dials : Nat → Int32} {v_clocks : Int32} {v_kind : Nat → Int32} {v_hands : Nat → Int32} {v_rate : Nat → Int32} {v_spring : Nat → Int32} {v_window : Nat → Int32} {v_finish : Nat → Int32} {v_skies : Int32} {v_sky : Nat → Int32} {v_hour : Int32} {v_heard : Int32} {v_strokes : Int32} {post : Int32 → (Nat → Int32) → (Nat → Int32) → (Nat → Int32) → (Nat → Int32) → (Nat → Int32) → (Int32) → (Int32) → (Int32) → Prop} (hp0 : v_windows.toInt = 8) (hp1 : v_clocks.toInt = 0) (hp2 : v_skies.toInt = 1) (hp3 : 0 ≤ v_hour.toInt) (hp4 : v_hour.toInt ≤ 1000) (hp5 : AB v_dials 0 24 12 12) (hp6 : AB v_sky 0 12 0 0) (hp7 : v_heard.toInt = 0) (hp8 : v_strokes.toInt = 0) (hp9 : v_hour.toInt ≤ 900) (hk : ∀ (r : Int32) (v_dials' : Nat → Int32) (v_hands' : Nat → Int32) (v_spring' : Nat → Int32) (v_window' : Nat → Int32) (v_finish' : Nat → Int32) (v_hour' : Int32) (v_heard' : Int32) (v_strokes' : Int32), (0 ≤ v_hour'.toInt) → (v_hour'.toInt ≤ 1000) → (AB v_dials' 0 24 12 12) → (v_heard'.toInt = 0) → (v_strokes'.toInt = 0) → (r.toInt = 0) → (v_hour'.toInt = v_hour.toInt + 1) → post r v_dials' v_hands' v_spring' v_window' v_finish' v_hour' v_heard' v_strokes') : wp_X2_pass p1 v_windows v_dials v_clocks v_kind v_hands v_rate v_spring v_window v_finish v_skies v_sky v_hour v_heard v_strokes post := by
  unfold wp_X2_pass
  refine ⟨fun y0_1 => (wp_X2_hush v_heard v_strokes (fun (v_heard_3 : Int32) (v_strokes_4 : Int32) =>
 (∃ I5 : Nat → (Int32) → (Int32) → (Nat → Int32) → (Nat → Int32) → (Nat → Int32) → (Int32) → (Int32) → Prop, (∃ n5, I5 n5 0 0 v_dials v_window v_finish v_heard_3 v_strokes_4) ∧ ∀ (n5 : Nat) (x3_5 : Int32) (x4_5 : Int32) (v_dials_5 : Nat → Int32) (v_window_5 : Nat → Int32) (v_finish_5 : Nat → Int32) (v_heard_5 : Int32) (v_strokes_5 : Int32), I5 n5 x3_5 x4_5 v_dials_5 v_window_5 v_finish_5 v_heard_5 v_strokes_5 →
 ((v_clocks ≤ x4_5 → (∃ I7 : Nat → (Int32) → (Nat → Int32) → (Nat → Int32) → Prop, (∃ n7, I7 n7 0 v_hands v_spring) ∧ ∀ (n7 : Nat) (x4_7 : Int32) (v_hands_7 : Nat → Int32) (v_spring_7 : Nat → Int32), I7 n7 x4_7 v_hands_7 v_spring_7 →
 ((v_clocks ≤ x4_7 → (∀ z9 : Int32, z9 = (v_hour + 1) → (post x3_5 v_dials_5 v_hands_7 v_spring_7 v_window_5 v_finish_5 z9 v_heard_5 v_strokes_5))) ∧
 (¬ v_clocks ≤ x4_7 → (wp_X2_run x4_7 v_kind v_hands_7 v_rate v_spring_7 (fun (v_hands_11 : Nat → Int32) (v_spring_12 : Nat → Int32) =>
 (∀ z13 : Int32, z13 = x4_7 + 1 → (∃ m9, m9 < n7 ∧ I7 m9 z13 v_hands_11 v_spring_12)))))))) ∧
 (¬ v_clocks ≤ x4_5 → (wp_X2_isHome x4_5 v_windows v_window_5 (fun (r14 : Int32) =>
 ((r14 = 0 → (wp_X2_struckBy x4_5 v_kind v_hands v_hour (fun (r16 : Int32) =>
 (wp_X2_mayGo x4_5 r16 y0_1 v_dials_5 v_kind v_window_5 v_hour (fun (r17 : Int32) =>
 ((¬ r17 = 0 → (wp_X2_go x4_5 r16 y0_1 v_windows v_dials_5 v_kind v_window_5 v_finish_5 v_hour v_heard_5 v_strokes_5 (fun (v_dials_20 : Nat → Int32) (v_window_21 : Nat → Int32) (v_finish_22 : Nat → Int32) (v_heard_23 : Int32) (v_strokes_24 : Int32) =>
 (∀ z25 : Int32, z25 = x3_5 + 1 → (∀ z26 : Int32, z26 = x4_5 + 1 → (∃ m9, m9 < n5 ∧ I5 m9 z25 z26 v_dials_20 v_window_21 v_finish_22 v_heard_23 v_strokes_24)))))) ∧
 (r17 = 0 → (∀ z27 : Int32, z27 = x4_5 + 1 → (∃ m9, m9 < n5 ∧ I5 m9 x3_5 z27 v_dials_5 v_window_5 v_finish_5 v_heard_5 v_strokes_5))))))))) ∧
 (¬ r14 = 0 → (∀ z28 : Int32, z28 = x4_5 + 1 → (∃ m9, m9 < n5 ∧ I5 m9 x3_5 z28 v_dials_5 v_window_5 v_finish_5 v_heard_5 v_strokes_5))))))))))), fun y0_1 h => h, ?_⟩
  refine ⟨fun c1 => ?_, fun c1 => ?_⟩
  · skip
    have t2 := ine (a := p1.toInt) (b := (-1)) rfl rfl c1
    first
      | exfalso; omega
      | skip
        show (wp_X2_hush v_heard v_strokes (fun (v_heard_3 : Int32) (v_strokes_4 : Int32) =>
 (∃ I5 : Nat → (Int32) → (Int32) → (Nat → Int32) → (Nat → Int32) → (Nat → Int32) → (Int32) → (Int32) → Prop, (∃ n5, I5 n5 0 0 v_dials v_window v_finish v_heard_3 v_strokes_4) ∧ ∀ (n5 : Nat) (x3_5 : Int32) (x4_5 : Int32) (v_dials_5 : Nat → Int32) (v_window_5 : Nat → Int32) (v_finish_5 : Nat → Int32) (v_heard_5 : Int32) (v_strokes_5 : Int32), I5 n5 x3_5 x4_5 v_dials_5 v_window_5 v_finish_5 v_heard_5 v_strokes_5 →
 ((v_clocks ≤ x4_5 → (∃ I7 : Nat → (Int32) → (Nat → Int32) → (Nat → Int32) → Prop, (∃ n7, I7 n7 0 v_hands v_spring) ∧ ∀ (n7 : Nat) (x4_7 : Int32) (v_hands_7 : Nat → Int32) (v_spring_7 : Nat → Int32), I7 n7 x4_7 v_hands_7 v_spring_7 →
 ((v_clocks ≤ x4_7 → (∀ z9 : Int32, z9 = (v_hour + 1) → (post x3_5 v_dials_5 v_hands_7 v_spring_7 v_window_5 v_finish_5 z9 v_heard_5 v_strokes_5))) ∧
 (¬ v_clocks ≤ x4_7 → (wp_X2_run x4_7 v_kind v_hands_7 v_rate v_spring_7 (fun (v_hands_11 : Nat → Int32) (v_spring_12 : Nat → Int32) =>
 (∀ z13 : Int32, z13 = x4_7 + 1 → (∃ m9, m9 < n7 ∧ I7 m9 z13 v_hands_11 v_spring_12)))))))) ∧
 (¬ v_clocks ≤ x4_5 → (wp_X2_isHome x4_5 v_windows v_window_5 (fun (r14 : Int32) =>
 ((r14 = 0 → (wp_X2_struckBy x4_5 v_kind v_hands v_hour (fun (r16 : Int32) =>
 (wp_X2_mayGo x4_5 r16 p1 v_dials_5 v_kind v_window_5 v_hour (fun (r17 : Int32) =>
 ((¬ r17 = 0 → (wp_X2_go x4_5 r16 p1 v_windows v_dials_5 v_kind v_window_5 v_finish_5 v_hour v_heard_5 v_strokes_5 (fun (v_dials_20 : Nat → Int32) (v_window_21 : Nat → Int32) (v_finish_22 : Nat → Int32) (v_heard_23 : Int32) (v_strokes_24 : Int32) =>
 (∀ z25 : Int32, z25 = x3_5 + 1 → (∀ z26 : Int32, z26 = x4_5 + 1 → (∃ m9, m9 < n5 ∧ I5 m9 z25 z26 v_dials_20 v_window_21 v_finish_22 v_heard_23 v_strokes_24)))))) ∧
 (r17 = 0 → (∀ z27 : Int32, z27 = x4_5 + 1 → (∃ m9, m9 < n5 ∧ I5 m9 x3_5 z27 v_dials_5 v_window_5 v_finish_5 v_heard_5 v_strokes_5))))))))) ∧
 (¬ r14 = 0 → (∀ z28 : Int32, z28 = x4_5 + 1 → (∃ m9, m9 < n5 ∧ I5 m9 x3_5 z28 v_dials_5 v_window_5 v_finish_5 v_heard_5 v_strokes_5)))))))))))
        refine f_X2_hush (by first | omega | assumption | exact AB.none (by omega) | exact AB.mono (by assumption) (by omega) (by omega) (by omega) (by omega)) (by first | omega | assumption | exact AB.none (by omega) | exact AB.mono (by assumption) (by omega) (by omega) (by omega) (by omega)) (fun v_heard_3 v_strokes_4 q3 q4 => ?_)
        have t5 : ((0 : Int32)).toInt = 0 := rfl
        have t6 : ((0 : Int32)).toInt = 0 := rfl
        refine ⟨fun n5 x3_5 x4_5 v_dials_5 v_window_5 v_finish_5 v_heard_5 v_strokes_5 => n5 = ((0 : Int)).toNat ∧ (AB v_dials_5 0 24 12 12) ∧ (v_heard_5.toInt = 0) ∧ (v_strokes_5.toInt = 0) ∧ (x3_5.toInt = 0) ∧ (x4_5.toInt = 0) ∧ (v_heard_5.toInt = v_heard_3.toInt) ∧ (v_strokes_5.toInt = v_strokes_4.toInt) ∧ (0 ≤ x4_5.toInt), ⟨_, rfl, by first | omega | assumption | exact AB.none (by omega) | exact AB.mono (by assumption) (by omega) (by omega) (by omega) (by omega), by first | omega | assumption | exact AB.none (by omega) | exact AB.mono (by assumption) (by omega) (by omega) (by omega) (by omega), by first | omega | assumption | exact AB.none (by omega) | exact AB.mono (by assumption) (by omega) (by omega) (by omega) (by omega), by first | omega | assumption | exact AB.none (by omega) | exact AB.mono (by assumption) (by omega) (by omega) (by omega) (by omega), by first | omega | assumption | exact AB.none (by omega) | exact AB.mono (by assumption) (by omega) (by omega) (by omega) (by omega), by first | omega | assumption | exact AB.none (by omega) | exact AB.mono (by assumption) (by omega) (by omega) (by omega) (by omega), by first | omega | assumption | exact AB.none (by omega) | exact AB.mono (by assumption) (by omega) (by omega) (by omega) (by omega), by first | omega | assumption | exact AB.none (by omega) | exact AB.mono (by assumption) (by omega) (by omega) (by omega) (by omega)⟩, ?_⟩
        rintro n5 x3_5 x4_5 v_dials_5 v_window_5 v_finish_5 v_heard_5 v_strokes_5 ⟨hn5, q7, q8, q9, q10, q11, q12, q13, q14⟩
        refine ⟨fun c15 => ?_, fun c15 => ?_⟩
        · skip
          have t16 := ile (a := v_clocks.toInt) (b := x4_5.toInt) rfl rfl c15
          first
            | exfalso; omega
            | skip
              have t17 : ((0 : Int32)).toInt = 0 := rfl
              refine ⟨fun n7 x4_7 v_hands_7 v_spring_7 => n7 = ((0 : Int)).toNat ∧ (x4_7.toInt = 0) ∧ (0 ≤ x4_7.toInt), ⟨_, rfl, by first | omega | assumption | exact AB.none (by omega) | exact AB.mono (by assumption) (by omega) (by omega) (by omega) (by omega), by first | omega | assumption | exact AB.none (by omega) | exact AB.mono (by assumption) (by omega) (by omega) (by omega) (by omega)⟩, ?_⟩
              rintro n7 x4_7 v_hands_7 v_spring_7 ⟨hn7, q18, q19⟩
              refine ⟨fun c20 => ?_, fun c20 => ?_⟩
              · skip
                have t21 := ile (a := v_clocks.toInt) (b := x4_7.toInt) rfl rfl c20
                first
                  | exfalso; omega
                  | skip
                    try have t22 : (v_hour + 1).toInt = v_hour.toInt + 1 := ia rfl rfl (by omega) (by omega)
                    intro z9 ez9
                    have t23 : z9.toInt = (v_hour + 1).toInt := by rw [ez9] <;> rfl
                    exact hk _ _ _ _ _ _ _ _ _ (by first | omega | assumption | exact AB.none (by omega) | exact AB.mono (by assumption) (by omega) (by omega) (by omega) (by omega)) (by first | omega | assumption | exact AB.none (by omega) | exact AB.mono (by assumption) (by omega) (by omega) (by omega) (by omega)) (by first | omega | assumption | exact AB.none (by omega) | exact AB.mono (by assumption) (by omega) (by omega) (by omega) (by omega)) (by first | omega | assumption | exact AB.none (by omega) | exact AB.mono (by assumption) (by omega) (by omega) (by omega) (by omega)) (by first | omega | assumption | exact AB.none (by omega) | exact AB.mono (by assumption) (by omega) (by omega) (by omega) (by omega)) (by first | omega | assumption | exact AB.none (by omega) | exact AB.mono (by assumption) (by omega) (by omega) (by omega) (by omega)) (by first | omega | assumption | exact AB.none (by omega) | exact AB.mono (by assumption) (by omega) (by omega) (by omega) (by omega))
              · skip
                have t24 := inle (a := v_clocks.toInt) (b := x4_7.toInt) rfl rfl c20
                exfalso; omega
        · skip
          have t25 := inle (a := v_clocks.toInt) (b := x4_5.toInt) rfl rfl c15
          exfalso; omega
  · skip
    have t26 := ieq (a := p1.toInt) (b := (-1)) rfl rfl c1
    first
      | exfalso; omega
      | skip
        refine f_X2_weatherAt (by first | omega | assumption | exact AB.none (by omega) | exact AB.mono (by assumption) (by omega) (by omega) (by omega) (by omega)) (by first | omega | assumption | exact AB.none (by omega) | exact AB.mono (by assumption) (by omega) (by omega) (by omega) (by omega)) (by first | omega | assumption | exact AB.none (by omega) | exact AB.mono (by assumption) (by omega) (by omega) (by omega) (by omega)) (fun r30 q27 => ?_)
        show (wp_X2_hush v_heard v_strokes (fun (v_heard_3 : Int32) (v_strokes_4 : Int32) =>
 (∃ I5 : Nat → (Int32) → (Int32) → (Nat → Int32) → (Nat → Int32) → (Nat → Int32) → (Int32) → (Int32) → Prop, (∃ n5, I5 n5 0 0 v_dials v_window v_finish v_heard_3 v_strokes_4) ∧ ∀ (n5 : Nat) (x3_5 : Int32) (x4_5 : Int32) (v_dials_5 : Nat → Int32) (v_window_5 : Nat → Int32) (v_finish_5 : Nat → Int32) (v_heard_5 : Int32) (v_strokes_5 : Int32), I5 n5 x3_5 x4_5 v_dials_5 v_window_5 v_finish_5 v_heard_5 v_strokes_5 →
 ((v_clocks ≤ x4_5 → (∃ I7 : Nat → (Int32) → (Nat → Int32) → (Nat → Int32) → Prop, (∃ n7, I7 n7 0 v_hands v_spring) ∧ ∀ (n7 : Nat) (x4_7 : Int32) (v_hands_7 : Nat → Int32) (v_spring_7 : Nat → Int32), I7 n7 x4_7 v_hands_7 v_spring_7 →
 ((v_clocks ≤ x4_7 → (∀ z9 : Int32, z9 = (v_hour + 1) → (post x3_5 v_dials_5 v_hands_7 v_spring_7 v_window_5 v_finish_5 z9 v_heard_5 v_strokes_5))) ∧
 (¬ v_clocks ≤ x4_7 → (wp_X2_run x4_7 v_kind v_hands_7 v_rate v_spring_7 (fun (v_hands_11 : Nat → Int32) (v_spring_12 : Nat → Int32) =>
 (∀ z13 : Int32, z13 = x4_7 + 1 → (∃ m9, m9 < n7 ∧ I7 m9 z13 v_hands_11 v_spring_12)))))))) ∧
 (¬ v_clocks ≤ x4_5 → (wp_X2_isHome x4_5 v_windows v_window_5 (fun (r14 : Int32) =>
 ((r14 = 0 → (wp_X2_struckBy x4_5 v_kind v_hands v_hour (fun (r16 : Int32) =>
 (wp_X2_mayGo x4_5 r16 r30 v_dials_5 v_kind v_window_5 v_hour (fun (r17 : Int32) =>
 ((¬ r17 = 0 → (wp_X2_go x4_5 r16 r30 v_windows v_dials_5 v_kind v_window_5 v_finish_5 v_hour v_heard_5 v_strokes_5 (fun (v_dials_20 : Nat → Int32) (v_window_21 : Nat → Int32) (v_finish_22 : Nat → Int32) (v_heard_23 : Int32) (v_strokes_24 : Int32) =>
 (∀ z25 : Int32, z25 = x3_5 + 1 → (∀ z26 : Int32, z26 = x4_5 + 1 → (∃ m9, m9 < n5 ∧ I5 m9 z25 z26 v_dials_20 v_window_21 v_finish_22 v_heard_23 v_strokes_24)))))) ∧
 (r17 = 0 → (∀ z27 : Int32, z27 = x4_5 + 1 → (∃ m9, m9 < n5 ∧ I5 m9 x3_5 z27 v_dials_5 v_window_5 v_finish_5 v_heard_5 v_strokes_5))))))))) ∧
 (¬ r14 = 0 → (∀ z28 : Int32, z28 = x4_5 + 1 → (∃ m9, m9 < n5 ∧ I5 m9 x3_5 z28 v_dials_5 v_window_5 v_finish_5 v_heard_5 v_strokes_5)))))))))))
        refine f_X2_hush (by first | omega | assumption | exact AB.none (by omega) | exact AB.mono (by assumption) (by omega) (by omega) (by omega) (by omega)) (by first | omega | assumption | exact AB.none (by omega) | exact AB.mono (by assumption) (by omega) (by omega) (by omega) (by omega)) (fun v_heard_3 v_strokes_4 q28 q29 => ?_)
        have t30 : ((0 : Int32)).toInt = 0 := rfl
        have t31 : ((0 : Int32)).toInt = 0 := rfl
        refine ⟨fun n5 x3_5 x4_5 v_dials_5 v_window_5 v_finish_5 v_heard_5 v_strokes_5 => n5 = ((0 : Int)).toNat ∧ (AB v_dials_5 0 24 12 12) ∧ (v_heard_5.toInt = 0) ∧ (v_strokes_5.toInt = 0) ∧ (x3_5.toInt = 0) ∧ (x4_5.toInt = 0) ∧ (v_heard_5.toInt = v_heard_3.toInt) ∧ (v_strokes_5.toInt = v_strokes_4.toInt) ∧ (0 ≤ x4_5.toInt), ⟨_, rfl, by first | omega | assumption | exact AB.none (by omega) | exact AB.mono (by assumption) (by omega) (by omega) (by omega) (by omega), by first | omega | assumption | exact AB.none (by omega) | exact AB.mono (by assumption) (by omega) (by omega) (by omega) (by omega), by first | omega | assumption | exact AB.none (by omega) | exact AB.mono (by assumption) (by omega) (by omega) (by omega) (by omega), by first | omega | assumption | exact AB.none (by omega) | exact AB.mono (by assumption) (by omega) (by omega) (by omega) (by omega), by first | omega | assumption | exact AB.none (by omega) | exact AB.mono (by assumption) (by omega) (by omega) (by omega) (by omega), by first | omega | assumption | exact AB.none (by omega) | exact AB.mono (by assumption) (by omega) (by omega) (by omega) (by omega), by first | omega | assumption | exact AB.none (by omega) | exact AB.mono (by assumption) (by omega) (by omega) (by omega) (by omega), by first | omega | assumption | exact AB.none (by omega) | exact AB.mono (by assumption) (by omega) (by omega) (by omega) (by omega)⟩, ?_⟩
        rintro n5 x3_5 x4_5 v_dials_5 v_window_5 v_finish_5 v_heard_5 v_strokes_5 ⟨hn5, q32, q33, q34, q35, q36, q37, q38, q39⟩
        refine ⟨fun c40 => ?_, fun c40 => ?_⟩
        · skip
          have t41 := ile (a := v_clocks.toInt) (b := x4_5.toInt) rfl rfl c40
          first
            | exfalso; omega
            | skip
              have t42 : ((0 : Int32)).toInt = 0 := rfl
              refine ⟨fun n7 x4_7 v_hands_7 v_spring_7 => n7 = ((0 : Int)).toNat ∧ (x4_7.toInt = 0) ∧ (0 ≤ x4_7.toInt), ⟨_, rfl, by first | omega | assumption | exact AB.none (by omega) | exact AB.mono (by assumption) (by omega) (by omega) (by omega) (by omega), by first | omega | assumption | exact AB.none (by omega) | exact AB.mono (by assumption) (by omega) (by omega) (by omega) (by omega)⟩, ?_⟩
              rintro n7 x4_7 v_hands_7 v_spring_7 ⟨hn7, q43, q44⟩
              refine ⟨fun c45 => ?_, fun c45 => ?_⟩
              · skip
                have t46 := ile (a := v_clocks.toInt) (b := x4_7.toInt) rfl rfl c45
                first
                  | exfalso; omega
                  | skip
                    try have t47 : (v_hour + 1).toInt = v_hour.toInt + 1 := ia rfl rfl (by omega) (by omega)
                    intro z9 ez9
                    have t48 : z9.toInt = (v_hour + 1).toInt := by rw [ez9] <;> rfl
                    exact hk _ _ _ _ _ _ _ _ _ (by first | omega | assumption | exact AB.none (by omega) | exact AB.mono (by assumption) (by omega) (by omega) (by omega) (by omega)) (by first | omega | assumption | exact AB.none (by omega) | exact AB.mono (by assumption) (by omega) (by omega) (by omega) (by omega)) (by first | omega | assumption | exact AB.none (by omega) | exact AB.mono (by assumption) (by omega) (by omega) (by omega) (by omega)) (by first | omega | assumption | exact AB.none (by omega) | exact AB.mono (by assumption) (by omega) (by omega) (by omega) (by omega)) (by first | omega | assumption | exact AB.none (by omega) | exact AB.mono (by assumption) (by omega) (by omega) (by omega) (by omega)) (by first | omega | assumption | exact AB.none (by omega) | exact AB.mono (by assumption) (by omega) (by omega) (by omega) (by omega)) (by first | omega | assumption | exact AB.none (by omega) | exact AB.mono (by assumption) (by omega) (by omega) (by omega) (by omega))
              · skip
                have t49 := inle (a := v_clocks.toInt) (b := x4_7.toInt) rfl rfl c45
                exfalso; omega
        · skip
          have t50 := inle (a := v_clocks.toInt) (b := x4_5.toInt) rfl rfl c40
          exfalso; omega
set_option maxHeartbeats 1000000 in
set_option maxRecDepth 10000 in
theorem f_X2_passMany {p1 : Int32} {p2 : Int32} {v_windows : Int32} {v_dials : Nat → Int32} {v_clocks : Int32} {v_kind : Nat → Int32} {v_hands : Nat → Int32} {v_rate : Nat → Int32} {v_spring : Nat → Int32} {v_window : Nat → Int32} {v_finish : Nat → Int32} {v_skies : Int32} {v_sky : Nat → Int32} {v_hour : Int32} {v_heard : Int32} {v_strokes : Int32} {post : (Nat → Int32) → (Nat → Int32) → (Nat → Int32) → (Nat → Int32) → (Nat → Int32) → (Int32) → (Int32) → (Int32) → Prop} (hp0 : v_windows.toInt = 8) (hp1 : v_clocks.toInt = 0) (hp2 : v_skies.toInt = 1) (hp3 : 0 ≤ v_hour.toInt) (hp4 : v_hour.toInt ≤ 1000) (hp5 : AB v_dials 0 24 12 12) (hp6 : AB v_sky 0 12 0 0) (hp7 : v_heard.toInt = 0) (hp8 : v_strokes.toInt = 0) (hk : ∀ (v_dials' : Nat → Int32) (v_hands' : Nat → Int32) (v_spring' : Nat → Int32) (v_window' : Nat → Int32) (v_finish' : Nat → Int32) (v_hour' : Int32) (v_heard' : Int32) (v_strokes' : Int32), (0 ≤ v_hour'.toInt) → (v_hour'.toInt ≤ 1000) → (AB v_dials' 0 24 12 12) → (v_heard'.toInt = 0) → (v_strokes'.toInt = 0) → post v_dials' v_hands' v_spring' v_window' v_finish' v_hour' v_heard' v_strokes') : wp_X2_passMany p1 p2 v_windows v_dials v_clocks v_kind v_hands v_rate v_spring v_window v_finish v_skies v_sky v_hour v_heard v_strokes post := by
  unfold wp_X2_passMany
  have t1 : ((0 : Int32)).toInt = 0 := rfl
  refine ⟨fun n1 x3_1 v_dials_1 v_hands_1 v_spring_1 v_window_1 v_finish_1 v_hour_1 v_heard_1 v_strokes_1 => n1 = ((0 : Int)).toNat ∧ (0 ≤ v_hour_1.toInt) ∧ (v_hour_1.toInt ≤ 1000) ∧ (AB v_dials_1 0 24 12 12) ∧ (v_heard_1.toInt = 0) ∧ (v_strokes_1.toInt = 0) ∧ (x3_1.toInt = 0) ∧ (v_hour_1.toInt = v_hour.toInt) ∧ (v_heard_1.toInt = v_heard.toInt) ∧ (v_strokes_1.toInt = v_strokes.toInt) ∧ (0 ≤ x3_1.toInt), ⟨_, rfl, by first | omega | assumption | exact AB.none (by omega) | exact AB.mono (by assumption) (by omega) (by omega) (by omega) (by omega), by first | omega | assumption | exact AB.none (by omega) | exact AB.mono (by assumption) (by omega) (by omega) (by omega) (by omega), by first | omega | assumption | exact AB.none (by omega) | exact AB.mono (by assumption) (by omega) (by omega) (by omega) (by omega), by first | omega | assumption | exact AB.none (by omega) | exact AB.mono (by assumption) (by omega) (by omega) (by omega) (by omega), by first | omega | assumption | exact AB.none (by omega) | exact AB.mono (by assumption) (by omega) (by omega) (by omega) (by omega), by first | omega | assumption | exact AB.none (by omega) | exact AB.mono (by assumption) (by omega) (by omega) (by omega) (by omega), by first | omega | assumption | exact AB.none (by omega) | exact AB.mono (by assumption) (by omega) (by omega) (by omega) (by omega), by first | omega | assumption | exact AB.none (by omega) | exact AB.mono (by assumption) (by omega) (by omega) (by omega) (by omega), by first | omega | assumption | exact AB.none (by omega) | exact AB.mono (by assumption) (by omega) (by omega) (by omega) (by omega), by first | omega | assumption | exact AB.none (by omega) | exact AB.mono (by assumption) (by omega) (by omega) (by omega) (by omega)⟩, ?_⟩
  rintro n1 x3_1 v_dials_1 v_hands_1 v_spring_1 v_window_1 v_finish_1 v_hour_1 v_heard_1 v_strokes_1 ⟨hn1, q2, q3, q4, q5, q6, q7, q8, q9, q10, q11⟩
  refine ⟨fun c12 => ?_, fun c12 => ?_⟩
  · skip
    have t13 := ile (a := p1.toInt) (b := x3_1.toInt) rfl rfl c12
    first
      | exfalso; omega
      | skip
        exact hk _ _ _ _ _ _ _ _ (by first | omega | assumption | exact AB.none (by omega) | exact AB.mono (by assumption) (by omega) (by omega) (by omega) (by omega)) (by first | omega | assumption | exact AB.none (by omega) | exact AB.mono (by assumption) (by omega) (by omega) (by omega) (by omega)) (by first | omega | assumption | exact AB.none (by omega) | exact AB.mono (by assumption) (by omega) (by omega) (by omega) (by omega)) (by first | omega | assumption | exact AB.none (by omega) | exact AB.mono (by assumption) (by omega) (by omega) (by omega) (by omega)) (by first | omega | assumption | exact AB.none (by omega) | exact AB.mono (by assumption) (by omega) (by omega) (by omega) (by omega))
  · skip
    have t14 := inle (a := p1.toInt) (b := x3_1.toInt) rfl rfl c12
    first
      | exfalso; omega
      | skip
        refine f_X2_allHome (by first | omega | assumption | exact AB.none (by omega) | exact AB.mono (by assumption) (by omega) (by omega) (by omega) (by omega)) (by first | omega | assumption | exact AB.none (by omega) | exact AB.mono (by assumption) (by omega) (by omega) (by omega) (by omega)) (fun r3 q15 => ?_)
        refine ⟨fun c16 => ?_, fun c16 => ?_⟩
        · skip
          have t17 := ine (a := r3.toInt) (b := 0) rfl rfl c16
          first
            | exfalso; omega
            | skip
              exact hk _ _ _ _ _ _ _ _ (by first | omega | assumption | exact AB.none (by omega) | exact AB.mono (by assumption) (by omega) (by omega) (by omega) (by omega)) (by first | omega | assumption | exact AB.none (by omega) | exact AB.mono (by assumption) (by omega) (by omega) (by omega) (by omega)) (by first | omega | assumption | exact AB.none (by omega) | exact AB.mono (by assumption) (by omega) (by omega) (by omega) (by omega)) (by first | omega | assumption | exact AB.none (by omega) | exact AB.mono (by assumption) (by omega) (by omega) (by omega) (by omega)) (by first | omega | assumption | exact AB.none (by omega) | exact AB.mono (by assumption) (by omega) (by omega) (by omega) (by omega))
        · skip
          have t18 := ieq (a := r3.toInt) (b := 0) rfl rfl c16
          exfalso; omega
set_option maxHeartbeats 1000000 in
set_option maxRecDepth 10000 in
theorem f_X2_leaders {v_windows : Int32} {v_clocks : Int32} {v_window : Nat → Int32} {v_finish : Nat → Int32} {post : Int32 → Prop} (hp0 : v_windows.toInt = 8) (hp1 : v_clocks.toInt = 0) (hk : ∀ (r : Int32), (r.toInt = 0) → post r) : wp_X2_leaders v_windows v_clocks v_window v_finish post := by
  unfold wp_X2_leaders
  have t1 : ((0 : Int32)).toInt = 0 := rfl
  have t2 : ((0 : Int32)).toInt = 0 := rfl
  refine ⟨fun n1 x1_1 x2_1 => n1 = ((0 : Int)).toNat ∧ (x1_1.toInt = 0) ∧ (x2_1.toInt = 0) ∧ (0 ≤ x2_1.toInt), ⟨_, rfl, by first | omega | assumption | exact AB.none (by omega) | exact AB.mono (by assumption) (by omega) (by omega) (by omega) (by omega), by first | omega | assumption | exact AB.none (by omega) | exact AB.mono (by assumption) (by omega) (by omega) (by omega) (by omega), by first | omega | assumption | exact AB.none (by omega) | exact AB.mono (by assumption) (by omega) (by omega) (by omega) (by omega)⟩, ?_⟩
  rintro n1 x1_1 x2_1 ⟨hn1, q3, q4, q5⟩
  refine ⟨fun c6 => ?_, fun c6 => ?_⟩
  · skip
    have t7 := ile (a := v_clocks.toInt) (b := x2_1.toInt) rfl rfl c6
    first
      | exfalso; omega
      | skip
        exact hk _ (by first | omega | assumption | exact AB.none (by omega) | exact AB.mono (by assumption) (by omega) (by omega) (by omega) (by omega))
  · skip
    have t8 := inle (a := v_clocks.toInt) (b := x2_1.toInt) rfl rfl c6
    exfalso; omega
set_option maxHeartbeats 1000000 in
set_option maxRecDepth 10000 in
theorem f_X2_tiedPairs {v_windows : Int32} {v_clocks : Int32} {v_window : Nat → Int32} {v_finish : Nat → Int32} {post : Int32 → Prop} (hp0 : v_windows.toInt = 8) (hp1 : v_clocks.toInt = 0) (hk : ∀ (r : Int32), (r.toInt = 0) → post r) : wp_X2_tiedPairs v_windows v_clocks v_window v_finish post := by
  unfold wp_X2_tiedPairs
  have t1 : ((0 : Int32)).toInt = 0 := rfl
  have t2 : ((0 : Int32)).toInt = 0 := rfl
  refine ⟨fun n1 x1_1 x2_1 => n1 = ((0 : Int)).toNat ∧ (x1_1.toInt = 0) ∧ (x2_1.toInt = 0) ∧ (0 ≤ x2_1.toInt), ⟨_, rfl, by first | omega | assumption | exact AB.none (by omega) | exact AB.mono (by assumption) (by omega) (by omega) (by omega) (by omega), by first | omega | assumption | exact AB.none (by omega) | exact AB.mono (by assumption) (by omega) (by omega) (by omega) (by omega), by first | omega | assumption | exact AB.none (by omega) | exact AB.mono (by assumption) (by omega) (by omega) (by omega) (by omega)⟩, ?_⟩
  rintro n1 x1_1 x2_1 ⟨hn1, q3, q4, q5⟩
  refine ⟨fun c6 => ?_, fun c6 => ?_⟩
  · skip
    have t7 := ile (a := v_clocks.toInt) (b := x2_1.toInt) rfl rfl c6
    first
      | exfalso; omega
      | skip
        exact hk _ (by first | omega | assumption | exact AB.none (by omega) | exact AB.mono (by assumption) (by omega) (by omega) (by omega) (by omega))
  · skip
    have t8 := inle (a := v_clocks.toInt) (b := x2_1.toInt) rfl rfl c6
    exfalso; omega
set_option maxHeartbeats 1000000 in
set_option maxRecDepth 10000 in
theorem f_X3_become {v_known : Int32} {v_act : Nat → Int32} {v_whom : Nat → Int32} {v_was : Nat → Int32} {p1_known : Int32} {p1_act : Nat → Int32} {p1_whom : Nat → Int32} {p1_was : Nat → Int32} {post : (Int32) → (Nat → Int32) → (Nat → Int32) → (Nat → Int32) → Prop} (hp0 : v_known.toInt = 0) (hp1 : p1_known.toInt = 0) (hk : ∀ (v_known' : Int32) (v_act' : Nat → Int32) (v_whom' : Nat → Int32) (v_was' : Nat → Int32), (v_known'.toInt = 0) → post v_known' v_act' v_whom' v_was') : wp_X3_become v_known v_act v_whom v_was p1_known p1_act p1_whom p1_was post := by
  unfold wp_X3_become
  have t1 : ((Int32.toNatClampNeg 0 : Nat) : Int) = 0 := itn rfl (by omega)
  have t2 : ((Int32.toNatClampNeg p1_known : Nat) : Int) = p1_known.toInt := itn rfl (by omega)
  refine ⟨fun h0 => absurd (ilt (a := 0) (b := 0) rfl rfl h0) (by omega), fun h0 => absurd (ilt (a := 0) (b := 0) rfl rfl h0) (by omega), fun h0 => absurd (ilt (a := p1_known.toInt) (b := 0) rfl rfl h0) (by omega), by omega, by omega, ?_⟩
  intro f1 ef1
  refine ⟨fun h0 => absurd (ilt (a := 0) (b := 0) rfl rfl h0) (by omega), fun h0 => absurd (ilt (a := 0) (b := 0) rfl rfl h0) (by omega), fun h0 => absurd (ilt (a := p1_known.toInt) (b := 0) rfl rfl h0) (by omega), by omega, by omega, ?_⟩
  intro f2 ef2
  refine ⟨fun h0 => absurd (ilt (a := 0) (b := 0) rfl rfl h0) (by omega), fun h0 => absurd (ilt (a := 0) (b := 0) rfl rfl h0) (by omega), fun h0 => absurd (ilt (a := p1_known.toInt) (b := 0) rfl rfl h0) (by omega), by omega, by omega, ?_⟩
  intro f3 ef3
  exact hk _ _ _ _ (by first | omega | assumption | exact AB.none (by omega) | exact AB.mono (by assumption) (by omega) (by omega) (by omega) (by omega))
set_option maxHeartbeats 1000000 in
set_option maxRecDepth 10000 in
theorem f_X4_renew {p1 : Int32} {p2 : Int32} {v_isThere : Int32} {v_lane : Int32} {v_size : Int32} {v_items : Nat → Int64} {post : (Int32) → (Int32) → (Int32) → (Nat → Int64) → Prop} (hp0 : v_isThere.toInt = 0) (hp1 : v_size.toInt = 0) (hp2 : 0 ≤ p2.toInt) (hp3 : p2.toInt ≤ 24) (hk : ∀ (v_isThere' : Int32) (v_lane' : Int32) (v_size' : Int32) (v_items' : Nat → Int64), post v_isThere' v_lane' v_size' v_items') : wp_X4_renew p1 p2 v_isThere v_lane v_size v_items post := by
  unfold wp_X4_renew
  have t1 : ((0 : Int32)).toInt = 0 := rfl
  refine ⟨fun n1 x3_1 v_items_1 => n1 = (p2.toInt - x3_1.toInt).toNat ∧ (0 ≤ x3_1.toInt), ⟨_, rfl, by first | omega | assumption | exact AB.none (by omega) | exact AB.mono (by assumption) (by omega) (by omega) (by omega) (by omega)⟩, ?_⟩
  rintro n1 x3_1 v_items_1 ⟨hn1, q2⟩
  refine ⟨fun c3 => ?_, fun c3 => ?_⟩
  · skip
    have t4 := ile (a := p2.toInt) (b := x3_1.toInt) rfl rfl c3
    first
      | exfalso; omega
      | skip
        have t5 : (1 : Int32).toInt = 1 := rfl
        exact hk _ _ _ _
  · skip
    have t6 := inle (a := p2.toInt) (b := x3_1.toInt) rfl rfl c3
    first
      | exfalso; omega
      | skip
        refine ⟨ivp (a := x3_1.toInt) rfl (by omega) (by omega), ?_⟩
        intro f3 ef3
        try have t7 : (x3_1 + 1).toInt = x3_1.toInt + 1 := ia rfl rfl (by omega) (by omega)
        intro z4 ez4
        have t8 : z4.toInt = (x3_1 + 1).toInt := by rw [ez4] <;> rfl
        refine ⟨_, ?_, rfl, by first | omega | assumption | exact AB.none (by omega) | exact AB.mono (by assumption) (by omega) (by omega) (by omega) (by omega)⟩
        omega
set_option maxHeartbeats 1000000 in
set_option maxRecDepth 10000 in
theorem f_X4_refusal {p1 : Int32} {p2 : Int32} {p3 : Int32} {v_isThere : Int32} {v_lane : Int32} {v_size : Int32} {post : Int32 → Prop} (hp0 : v_isThere.toInt = 0) (hp1 : v_size.toInt = 0) (hk : ∀ (r : Int32), (r.toInt = -11) → post r) : wp_X4_refusal p1 p2 p3 v_isThere v_lane v_size post := by
  unfold wp_X4_refusal
  refine ⟨fun c1 => ?_, fun c1 => ?_⟩
  · skip
    have t2 := ine (a := v_isThere.toInt) (b := 0) rfl rfl c1
    exfalso; omega
  · skip
    have t3 := ieq (a := v_isThere.toInt) (b := 0) rfl rfl c1
    first
      | exfalso; omega
      | skip
        have t4 : ((-11) : Int32).toInt = (-11) := rfl
        exact hk _ (by first | omega | assumption | exact AB.none (by omega) | exact AB.mono (by assumption) (by omega) (by omega) (by omega) (by omega))
set_option maxHeartbeats 1000000 in
set_option maxRecDepth 10000 in
theorem f_X5_rewind {v_at : Int32} {v_passed : Int32} {v_fault : Int32} {post : (Int32) → (Int32) → (Int32) → Prop} (hp0 : v_at.toInt = 0) (hp1 : v_passed.toInt = 0) (hk : ∀ (v_at' : Int32) (v_passed' : Int32) (v_fault' : Int32), (v_at'.toInt = 0) → (v_passed'.toInt = 0) → post v_at' v_passed' v_fault') : wp_X5_rewind v_at v_passed v_fault post := by
  unfold wp_X5_rewind
  have t1 : (0 : Int32).toInt = 0 := rfl
  exact hk _ _ _ (by first | omega | assumption | exact AB.none (by omega) | exact AB.mono (by assumption) (by omega) (by omega) (by omega) (by omega)) (by first | omega | assumption | exact AB.none (by omega) | exact AB.mono (by assumption) (by omega) (by omega) (by omega) (by omega))
set_option maxHeartbeats 1000000 in
set_option maxRecDepth 10000 in
theorem f_X5_next {v_letters : Nat → Int32} {v_size : Int32} {v_at : Int32} {post : Int32 → (Int32) → Prop} (hp0 : v_size.toInt = 0) (hp1 : v_at.toInt = 0) (hk : ∀ (r : Int32) (v_at' : Int32), (v_at'.toInt = 0) → (r.toInt = -1) → post r v_at') : wp_X5_next v_letters v_size v_at post := by
  unfold wp_X5_next
  refine ⟨fun n1 v_at_1 => n1 = ((0 : Int)).toNat ∧ (v_at_1.toInt = 0) ∧ (v_at_1.toInt = v_at.toInt) ∧ (v_at.toInt ≤ v_at_1.toInt), ⟨_, rfl, by first | omega | assumption | exact AB.none (by omega) | exact AB.mono (by assumption) (by omega) (by omega) (by omega) (by omega), by first | omega | assumption | exact AB.none (by omega) | exact AB.mono (by assumption) (by omega) (by omega) (by omega) (by omega), by first | omega | assumption | exact AB.none (by omega) | exact AB.mono (by assumption) (by omega) (by omega) (by omega) (by omega)⟩, ?_⟩
  rintro n1 v_at_1 ⟨hn1, q1, q2, q3⟩
  refine ⟨fun c4 => ?_, fun c4 => ?_⟩
  · skip
    have t5 := ile (a := v_size.toInt) (b := v_at_1.toInt) rfl rfl c4
    first
      | exfalso; omega
      | skip
        refine ⟨fun c6 => ?_, fun c6 => ?_⟩
        · skip
          have t7 := ile (a := v_size.toInt) (b := v_at_1.toInt) rfl rfl c6
          first
            | exfalso; omega
            | skip
              have t8 : ((-1) : Int32).toInt = (-1) := rfl
              exact hk _ _ (by first | omega | assumption | exact AB.none (by omega) | exact AB.mono (by assumption) (by omega) (by omega) (by omega) (by omega)) (by first | omega | assumption | exact AB.none (by omega) | exact AB.mono (by assumption) (by omega) (by omega) (by omega) (by omega))
        · skip
          have t9 := inle (a := v_size.toInt) (b := v_at_1.toInt) rfl rfl c6
          exfalso; omega
  · skip
    have t10 := inle (a := v_size.toInt) (b := v_at_1.toInt) rfl rfl c4
    exfalso; omega
set_option maxHeartbeats 1000000 in
set_option maxRecDepth 10000 in
theorem f_X5_here {v_passed : Int32} {post : Int32 → Prop} (hp0 : v_passed.toInt = 0) (hk : ∀ (r : Int32), (r.toInt = -20) → post r) : wp_X5_here v_passed post := by
  unfold wp_X5_here
  try have t1 : ((-20) - v_passed).toInt = (-20) - v_passed.toInt := isb rfl rfl (by omega) (by omega)
  exact hk _ (by first | omega | assumption | exact AB.none (by omega) | exact AB.mono (by assumption) (by omega) (by omega) (by omega) (by omega))
set_option maxHeartbeats 1000000 in
set_option maxRecDepth 10000 in
theorem f_X5_readSigns {p2 : Int32} {p3 : Int32} {n4 : Nat} {i1 : Nat} {v_letters : Nat → Int32} {v_size : Int32} {v_at : Int32} {v_passed : Int32} {v_fault : Int32} {p4_arr : Nat → Int32} {post : Int32 → (Int32) → (Int32) → (Int32) → (Nat → Int32) → Prop} (hp0 : v_size.toInt = 0) (hp1 : v_at.toInt = 0) (hp2 : v_passed.toInt = 0) (hp3 : i1 < 3) (hp4 : p2.toInt = 2 ∨ p2.toInt = 1) (hp5 : n4 ≤ 24) (hp6 : 1 ≤ p3.toInt) (hk : ∀ (r : Int32) (v_at' : Int32) (v_passed' : Int32) (v_fault' : Int32) (p4_arr' : Nat → Int32), (v_at'.toInt = 0) → (v_passed'.toInt = 0) → (r.toInt = -20) → post r v_at' v_passed' v_fault' p4_arr') : wp_X5_readSigns p2 p3 n4 i1 v_letters v_size v_at v_passed v_fault p4_arr post := by
  unfold wp_X5_readSigns
  refine ⟨hp3, ?_⟩
  refine f_X5_rewind (by first | omega | assumption | exact AB.none (by omega) | exact AB.mono (by assumption) (by omega) (by omega) (by omega) (by omega)) (by first | omega | assumption | exact AB.none (by omega) | exact AB.mono (by assumption) (by omega) (by omega) (by omega) (by omega)) (fun v_at_2 v_passed_3 v_fault_4 q1 q2 => ?_)
  have t3 : ((0 : Int32)).toInt = 0 := rfl
  refine ⟨fun n5 x5_5 v_at_5 v_passed_5 p4_arr_5 => n5 = ((0 : Int)).toNat ∧ (v_at_5.toInt = 0) ∧ (v_passed_5.toInt = 0) ∧ (x5_5.toInt = 0) ∧ (v_at_5.toInt = v_at_2.toInt) ∧ (v_passed_5.toInt = v_passed_3.toInt), ⟨_, rfl, by first | omega | assumption | exact AB.none (by omega) | exact AB.mono (by assumption) (by omega) (by omega) (by omega) (by omega), by first | omega | assumption | exact AB.none (by omega) | exact AB.mono (by assumption) (by omega) (by omega) (by omega) (by omega), by first | omega | assumption | exact AB.none (by omega) | exact AB.mono (by assumption) (by omega) (by omega) (by omega) (by omega), by first | omega | assumption | exact AB.none (by omega) | exact AB.mono (by assumption) (by omega) (by omega) (by omega) (by omega), by first | omega | assumption | exact AB.none (by omega) | exact AB.mono (by assumption) (by omega) (by omega) (by omega) (by omega)⟩, ?_⟩
  rintro n5 x5_5 v_at_5 v_passed_5 p4_arr_5 ⟨hn5, q4, q5, q6, q7, q8⟩
  refine ⟨fun v_at_6 => ((x5_5 < p2 → (wp_X5_here v_passed_5 (fun (r8 : Int32) =>
 (post r8 v_at_6 v_passed_5 v_fault_4 p4_arr_5)))) ∧
 (¬ x5_5 < p2 → (wp_X5_next v_letters v_size v_at_6 (fun (r9 : Int32) (v_at_10 : Int32) =>
 ((r9 = (-1) → (post x5_5 v_at_10 v_passed_5 v_fault_4 p4_arr_5)) ∧
 (¬ r9 = (-1) → (wp_X5_here v_passed_5 (fun (r12 : Int32) =>
 (post r12 v_at_10 v_passed_5 v_fault_4 p4_arr_5))))))))), fun v_at_6 h => h, ?_⟩
  refine ⟨fun c9 => ?_, fun c9 => ?_⟩
  · skip
    have t10 := ile (a := p3.toInt) (b := x5_5.toInt) rfl rfl c9
    first
      | exfalso; omega
      | skip
        show ((x5_5 < p2 → (wp_X5_here v_passed_5 (fun (r8 : Int32) =>
 (post r8 v_at_5 v_passed_5 v_fault_4 p4_arr_5)))) ∧
 (¬ x5_5 < p2 → (wp_X5_next v_letters v_size v_at_5 (fun (r9 : Int32) (v_at_10 : Int32) =>
 ((r9 = (-1) → (post x5_5 v_at_10 v_passed_5 v_fault_4 p4_arr_5)) ∧
 (¬ r9 = (-1) → (wp_X5_here v_passed_5 (fun (r12 : Int32) =>
 (post r12 v_at_10 v_passed_5 v_fault_4 p4_arr_5)))))))))
        refine ⟨fun c11 => ?_, fun c11 => ?_⟩
        · skip
          have t12 := ilt (a := x5_5.toInt) (b := p2.toInt) rfl rfl c11
          first
            | exfalso; omega
            | skip
              refine f_X5_here (by first | omega | assumption | exact AB.none (by omega) | exact AB.mono (by assumption) (by omega) (by omega) (by omega) (by omega)) (fun r8 q13 => ?_)
              exact hk _ _ _ _ _ (by first | omega | assumption | exact AB.none (by omega) | exact AB.mono (by assumption) (by omega) (by omega) (by omega) (by omega)) (by first | omega | assumption | exact AB.none (by omega) | exact AB.mono (by assumption) (by omega) (by omega) (by omega) (by omega)) (by first | omega | assumption | exact AB.none (by omega) | exact AB.mono (by assumption) (by omega) (by omega) (by omega) (by omega))
        · skip
          have t14 := inlt (a := x5_5.toInt) (b := p2.toInt) rfl rfl c11
          first
            | exfalso; omega
            | skip
              refine f_X5_next (by first | omega | assumption | exact AB.none (by omega) | exact AB.mono (by assumption) (by omega) (by omega) (by omega) (by omega)) (by first | omega | assumption | exact AB.none (by omega) | exact AB.mono (by assumption) (by omega) (by omega) (by omega) (by omega)) (fun r9 v_at_10 q15 q16 => ?_)
              refine ⟨fun c17 => ?_, fun c17 => ?_⟩
              · skip
                have t18 := ieq (a := r9.toInt) (b := (-1)) rfl rfl c17
                first
                  | exfalso; omega
                  | skip
                    exact hk _ _ _ _ _ (by first | omega | assumption | exact AB.none (by omega) | exact AB.mono (by assumption) (by omega) (by omega) (by omega) (by omega)) (by first | omega | assumption | exact AB.none (by omega) | exact AB.mono (by assumption) (by omega) (by omega) (by omega) (by omega)) (by first | omega | assumption | exact AB.none (by omega) | exact AB.mono (by assumption) (by omega) (by omega) (by omega) (by omega))
              · skip
                have t19 := ine (a := r9.toInt) (b := (-1)) rfl rfl c17
                exfalso; omega
  · skip
    have t20 := inle (a := p3.toInt) (b := x5_5.toInt) rfl rfl c9
    first
      | exfalso; omega
      | skip
        try have t21 : (Int32.ofNat n4).toInt = (n4 : Int) := Int32.toInt_ofNat_of_lt (by omega)
        refine ⟨fun c22 => ?_, fun c22 => ?_⟩
        · skip
          have t23 := ile (a := (Int32.ofNat n4).toInt) (b := x5_5.toInt) rfl rfl c22
          first
            | exfalso; omega
            | skip
              show ((x5_5 < p2 → (wp_X5_here v_passed_5 (fun (r8 : Int32) =>
 (post r8 v_at_5 v_passed_5 v_fault_4 p4_arr_5)))) ∧
 (¬ x5_5 < p2 → (wp_X5_next v_letters v_size v_at_5 (fun (r9 : Int32) (v_at_10 : Int32) =>
 ((r9 = (-1) → (post x5_5 v_at_10 v_passed_5 v_fault_4 p4_arr_5)) ∧
 (¬ r9 = (-1) → (wp_X5_here v_passed_5 (fun (r12 : Int32) =>
 (post r12 v_at_10 v_passed_5 v_fault_4 p4_arr_5)))))))))
              refine ⟨fun c24 => ?_, fun c24 => ?_⟩
              · skip
                have t25 := ilt (a := x5_5.toInt) (b := p2.toInt) rfl rfl c24
                first
                  | exfalso; omega
                  | skip
                    refine f_X5_here (by first | omega | assumption | exact AB.none (by omega) | exact AB.mono (by assumption) (by omega) (by omega) (by omega) (by omega)) (fun r8 q26 => ?_)
                    exact hk _ _ _ _ _ (by first | omega | assumption | exact AB.none (by omega) | exact AB.mono (by assumption) (by omega) (by omega) (by omega) (by omega)) (by first | omega | assumption | exact AB.none (by omega) | exact AB.mono (by assumption) (by omega) (by omega) (by omega) (by omega)) (by first | omega | assumption | exact AB.none (by omega) | exact AB.mono (by assumption) (by omega) (by omega) (by omega) (by omega))
              · skip
                have t27 := inlt (a := x5_5.toInt) (b := p2.toInt) rfl rfl c24
                first
                  | exfalso; omega
                  | skip
                    refine f_X5_next (by first | omega | assumption | exact AB.none (by omega) | exact AB.mono (by assumption) (by omega) (by omega) (by omega) (by omega)) (by first | omega | assumption | exact AB.none (by omega) | exact AB.mono (by assumption) (by omega) (by omega) (by omega) (by omega)) (fun r9 v_at_10 q28 q29 => ?_)
                    refine ⟨fun c30 => ?_, fun c30 => ?_⟩
                    · skip
                      have t31 := ieq (a := r9.toInt) (b := (-1)) rfl rfl c30
                      first
                        | exfalso; omega
                        | skip
                          exact hk _ _ _ _ _ (by first | omega | assumption | exact AB.none (by omega) | exact AB.mono (by assumption) (by omega) (by omega) (by omega) (by omega)) (by first | omega | assumption | exact AB.none (by omega) | exact AB.mono (by assumption) (by omega) (by omega) (by omega) (by omega)) (by first | omega | assumption | exact AB.none (by omega) | exact AB.mono (by assumption) (by omega) (by omega) (by omega) (by omega))
                    · skip
                      have t32 := ine (a := r9.toInt) (b := (-1)) rfl rfl c30
                      exfalso; omega
        · skip
          have t33 := inle (a := (Int32.ofNat n4).toInt) (b := x5_5.toInt) rfl rfl c22
          first
            | exfalso; omega
            | skip
              refine f_X5_next (by first | omega | assumption | exact AB.none (by omega) | exact AB.mono (by assumption) (by omega) (by omega) (by omega) (by omega)) (by first | omega | assumption | exact AB.none (by omega) | exact AB.mono (by assumption) (by omega) (by omega) (by omega) (by omega)) (fun r15 v_at_16 q34 q35 => ?_)
              refine ⟨fun c36 => ?_, fun c36 => ?_⟩
              · skip
                have t37 := ieq (a := r15.toInt) (b := (-1)) rfl rfl c36
                first
                  | exfalso; omega
                  | skip
                    show ((x5_5 < p2 → (wp_X5_here v_passed_5 (fun (r8 : Int32) =>
 (post r8 v_at_16 v_passed_5 v_fault_4 p4_arr_5)))) ∧
 (¬ x5_5 < p2 → (wp_X5_next v_letters v_size v_at_16 (fun (r9 : Int32) (v_at_10 : Int32) =>
 ((r9 = (-1) → (post x5_5 v_at_10 v_passed_5 v_fault_4 p4_arr_5)) ∧
 (¬ r9 = (-1) → (wp_X5_here v_passed_5 (fun (r12 : Int32) =>
 (post r12 v_at_10 v_passed_5 v_fault_4 p4_arr_5)))))))))
                    refine ⟨fun c38 => ?_, fun c38 => ?_⟩
                    · skip
                      have t39 := ilt (a := x5_5.toInt) (b := p2.toInt) rfl rfl c38
                      first
                        | exfalso; omega
                        | skip
                          refine f_X5_here (by first | omega | assumption | exact AB.none (by omega) | exact AB.mono (by assumption) (by omega) (by omega) (by omega) (by omega)) (fun r8 q40 => ?_)
                          exact hk _ _ _ _ _ (by first | omega | assumption | exact AB.none (by omega) | exact AB.mono (by assumption) (by omega) (by omega) (by omega) (by omega)) (by first | omega | assumption | exact AB.none (by omega) | exact AB.mono (by assumption) (by omega) (by omega) (by omega) (by omega)) (by first | omega | assumption | exact AB.none (by omega) | exact AB.mono (by assumption) (by omega) (by omega) (by omega) (by omega))
                    · skip
                      have t41 := inlt (a := x5_5.toInt) (b := p2.toInt) rfl rfl c38
                      first
                        | exfalso; omega
                        | skip
                          refine f_X5_next (by first | omega | assumption | exact AB.none (by omega) | exact AB.mono (by assumption) (by omega) (by omega) (by omega) (by omega)) (by first | omega | assumption | exact AB.none (by omega) | exact AB.mono (by assumption) (by omega) (by omega) (by omega) (by omega)) (fun r9 v_at_10 q42 q43 => ?_)
                          refine ⟨fun c44 => ?_, fun c44 => ?_⟩
                          · skip
                            have t45 := ieq (a := r9.toInt) (b := (-1)) rfl rfl c44
                            first
                              | exfalso; omega
                              | skip
                                exact hk _ _ _ _ _ (by first | omega | assumption | exact AB.none (by omega) | exact AB.mono (by assumption) (by omega) (by omega) (by omega) (by omega)) (by first | omega | assumption | exact AB.none (by omega) | exact AB.mono (by assumption) (by omega) (by omega) (by omega) (by omega)) (by first | omega | assumption | exact AB.none (by omega) | exact AB.mono (by assumption) (by omega) (by omega) (by omega) (by omega))
                          · skip
                            have t46 := ine (a := r9.toInt) (b := (-1)) rfl rfl c44
                            exfalso; omega
              · skip
                have t47 := ine (a := r15.toInt) (b := (-1)) rfl rfl c36
                exfalso; omega
set_option maxHeartbeats 1000000 in
set_option maxRecDepth 10000 in
theorem f_X5_fails {p1 : Int32} {v_fault : Int32} {post : Int32 → (Int32) → Prop} (hk : ∀ (r : Int32) (v_fault' : Int32), (r.toInt = 0) → (v_fault'.toInt = p1.toInt) → post r v_fault') : wp_X5_fails p1 v_fault post := by
  unfold wp_X5_fails
  have t1 : (0 : Int32).toInt = 0 := rfl
  exact hk _ _ (by first | omega | assumption | exact AB.none (by omega) | exact AB.mono (by assumption) (by omega) (by omega) (by omega) (by omega)) (by first | omega | assumption | exact AB.none (by omega) | exact AB.mono (by assumption) (by omega) (by omega) (by omega) (by omega))
set_option maxHeartbeats 1000000 in
set_option maxRecDepth 10000 in
theorem f_X5_readClock {v_letters : Nat → Int32} {v_size : Int32} {v_at : Int32} {v_passed : Int32} {v_fault : Int32} {p1_clocks : Int32} {p1_kind : Nat → Int32} {p1_hands : Nat → Int32} {p1_rate : Nat → Int32} {p1_spring : Nat → Int32} {p1_window : Nat → Int32} {p1_finish : Nat → Int32} {post : Int32 → (Int32) → (Int32) → (Int32) → (Int32) → (Nat → Int32) → (Nat → Int32) → (Nat → Int32) → (Nat → Int32) → (Nat → Int32) → (Nat → Int32) → Prop} (hp0 : v_size.toInt = 0) (hp1 : v_at.toInt = 0) (hp2 : v_passed.toInt = 0) (hp3 : p1_clocks.toInt = 0) (hk : ∀ (r : Int32) (v_at' : Int32) (v_passed' : Int32) (v_fault' : Int32) (p1_clocks' : Int32) (p1_kind' : Nat → Int32) (p1_hands' : Nat → Int32) (p1_rate' : Nat → Int32) (p1_spring' : Nat → Int32) (p1_window' : Nat → Int32) (p1_finish' : Nat → Int32), (r.toInt = 0) → (v_fault'.toInt = -20) → post r v_at' v_passed' v_fault' p1_clocks' p1_kind' p1_hands' p1_rate' p1_spring' p1_window' p1_finish') : wp_X5_readClock v_letters v_size v_at v_passed v_fault p1_clocks p1_kind p1_hands p1_rate p1_spring p1_window p1_finish post := by
  unfold wp_X5_readClock
  refine f_X5_next (by first | omega | assumption | exact AB.none (by omega) | exact AB.mono (by assumption) (by omega) (by omega) (by omega) (by omega)) (by first | omega | assumption | exact AB.none (by omega) | exact AB.mono (by assumption) (by omega) (by omega) (by omega) (by omega)) (fun r1 v_at_2 q1 q2 => ?_)
  refine ⟨fun v_at_3 y0_3 => ((0 ≤ y0_3 → (wp_X5_skip v_at_3 v_passed (fun (v_at_6 : Int32) (v_passed_7 : Int32) =>
 (wp_X5_number 0 719 v_letters v_size v_at_6 v_passed_7 v_fault (fun (r8 : Int32) (v_at_9 : Int32) (v_passed_10 : Int32) (v_fault_11 : Int32) =>
 ((0 ≤ r8 → (wp_X5_next v_letters v_size v_at_9 (fun (r13 : Int32) (v_at_14 : Int32) =>
 (∃ J15 : (Int32) → (Int32) → (Int32) → (Int32) → Prop, (∀ (x4_15 : Int32) (v_at_15 : Int32) (v_passed_15 : Int32) (v_fault_15 : Int32), J15 x4_15 v_at_15 v_passed_15 v_fault_15 →
 (wp_X5_next v_letters v_size v_at_15 (fun (r16 : Int32) (v_at_17 : Int32) =>
 ((¬ r16 = 42 → (wp_X2_add y0_3 r8 x4_15 0 p1_clocks p1_kind p1_hands p1_rate p1_spring p1_window p1_finish (fun (r19 : Int32) (p1_clocks_20 : Int32) (p1_kind_21 : Nat → Int32) (p1_hands_22 : Nat → Int32) (p1_rate_23 : Nat → Int32) (p1_spring_24 : Nat → Int32) (p1_window_25 : Nat → Int32) (p1_finish_26 : Nat → Int32) =>
 (post 1 v_at_17 v_passed_15 v_fault_15 p1_clocks_20 p1_kind_21 p1_hands_22 p1_rate_23 p1_spring_24 p1_window_25 p1_finish_26)))) ∧
 (r16 = 42 → (wp_X5_skip v_at_17 v_passed_15 (fun (v_at_28 : Int32) (v_passed_29 : Int32) =>
 (wp_X5_number 0 99 v_letters v_size v_at_28 v_passed_29 v_fault_15 (fun (r30 : Int32) (v_at_31 : Int32) (v_passed_32 : Int32) (v_fault_33 : Int32) =>
 ((0 ≤ r30 → (wp_X2_add y0_3 r8 x4_15 r30 p1_clocks p1_kind p1_hands p1_rate p1_spring p1_window p1_finish (fun (r35 : Int32) (p1_clocks_36 : Int32) (p1_kind_37 : Nat → Int32) (p1_hands_38 : Nat → Int32) (p1_rate_39 : Nat → Int32) (p1_spring_40 : Nat → Int32) (p1_window_41 : Nat → Int32) (p1_finish_42 : Nat → Int32) =>
 (post 1 v_at_31 v_passed_32 v_fault_33 p1_clocks_36 p1_kind_37 p1_hands_38 p1_rate_39 p1_spring_40 p1_window_41 p1_finish_42)))) ∧
 (¬ 0 ≤ r30 → (post 0 v_at_31 v_passed_32 v_fault_33 p1_clocks p1_kind p1_hands p1_rate p1_spring p1_window p1_finish)))))))))))) ∧
 (∃ J43 : (Int32) → Prop, (∀ (v_at_43 : Int32), J43 v_at_43 →
 (wp_X5_next v_letters v_size v_at_43 (fun (r44 : Int32) (v_at_45 : Int32) =>
 (∃ J46 : (Int32) → Prop, (∀ (y0_46 : Int32), J46 y0_46 →
 (wp_X5_skip v_at_45 v_passed_10 (fun (v_at_48 : Int32) (v_passed_49 : Int32) =>
 (wp_X5_number 0 30 v_letters v_size v_at_48 v_passed_49 v_fault_11 (fun (r50 : Int32) (v_at_51 : Int32) (v_passed_52 : Int32) (v_fault_53 : Int32) =>
 ((0 ≤ r50 → (∀ z55 : Int32, z55 = (r50 * y0_46) → (J15 z55 v_at_51 v_passed_52 v_fault_53))) ∧
 (¬ 0 ≤ r50 → (post 0 v_at_51 v_passed_52 v_fault_53 p1_clocks p1_kind p1_hands p1_rate p1_spring p1_window p1_finish)))))))) ∧
 ((¬ r44 = 43 → (J46 (-1))) ∧
 (r44 = 43 → (J46 1))))))) ∧
 ((r13 = 43 → (J43 v_at_14)) ∧
 (¬ r13 = 43 → (wp_X5_next v_letters v_size v_at_14 (fun (r58 : Int32) (v_at_59 : Int32) =>
 ((¬ r58 = 45 → (J15 0 v_at_59 v_passed_10 v_fault_11)) ∧
 (r58 = 45 → (J43 v_at_59)))))))))))) ∧
 (¬ 0 ≤ r8 → (post 0 v_at_9 v_passed_10 v_fault_11 p1_clocks p1_kind p1_hands p1_rate p1_spring p1_window p1_finish)))))))) ∧
 (¬ 0 ≤ y0_3 → (wp_X5_here v_passed (fun (r61 : Int32) =>
 (wp_X5_fails r61 v_fault (fun (r62 : Int32) (v_fault_63 : Int32) =>
 ((r62 = 0 ∨ r62 = 1) ∧ post r62 v_at_3 v_passed v_fault_63 p1_clocks p1_kind p1_hands p1_rate p1_spring p1_window p1_finish))))))), fun v_at_3 y0_3 h => h, ?_⟩
  refine ⟨fun c3 => ?_, fun c3 => ?_⟩
  · skip
    have t4 := ine (a := r1.toInt) (b := (-1)) rfl rfl c3
    exfalso; omega
  · skip
    have t5 := ieq (a := r1.toInt) (b := (-1)) rfl rfl c3
    first
      | exfalso; omega
      | skip
        show ((0 ≤ (-1) → (wp_X5_skip v_at_2 v_passed (fun (v_at_6 : Int32) (v_passed_7 : Int32) =>
 (wp_X5_number 0 719 v_letters v_size v_at_6 v_passed_7 v_fault (fun (r8 : Int32) (v_at_9 : Int32) (v_passed_10 : Int32) (v_fault_11 : Int32) =>
 ((0 ≤ r8 → (wp_X5_next v_letters v_size v_at_9 (fun (r13 : Int32) (v_at_14 : Int32) =>
 (∃ J15 : (Int32) → (Int32) → (Int32) → (Int32) → Prop, (∀ (x4_15 : Int32) (v_at_15 : Int32) (v_passed_15 : Int32) (v_fault_15 : Int32), J15 x4_15 v_at_15 v_passed_15 v_fault_15 →
 (wp_X5_next v_letters v_size v_at_15 (fun (r16 : Int32) (v_at_17 : Int32) =>
 ((¬ r16 = 42 → (wp_X2_add (-1) r8 x4_15 0 p1_clocks p1_kind p1_hands p1_rate p1_spring p1_window p1_finish (fun (r19 : Int32) (p1_clocks_20 : Int32) (p1_kind_21 : Nat → Int32) (p1_hands_22 : Nat → Int32) (p1_rate_23 : Nat → Int32) (p1_spring_24 : Nat → Int32) (p1_window_25 : Nat → Int32) (p1_finish_26 : Nat → Int32) =>
 (post 1 v_at_17 v_passed_15 v_fault_15 p1_clocks_20 p1_kind_21 p1_hands_22 p1_rate_23 p1_spring_24 p1_window_25 p1_finish_26)))) ∧
 (r16 = 42 → (wp_X5_skip v_at_17 v_passed_15 (fun (v_at_28 : Int32) (v_passed_29 : Int32) =>
 (wp_X5_number 0 99 v_letters v_size v_at_28 v_passed_29 v_fault_15 (fun (r30 : Int32) (v_at_31 : Int32) (v_passed_32 : Int32) (v_fault_33 : Int32) =>
 ((0 ≤ r30 → (wp_X2_add (-1) r8 x4_15 r30 p1_clocks p1_kind p1_hands p1_rate p1_spring p1_window p1_finish (fun (r35 : Int32) (p1_clocks_36 : Int32) (p1_kind_37 : Nat → Int32) (p1_hands_38 : Nat → Int32) (p1_rate_39 : Nat → Int32) (p1_spring_40 : Nat → Int32) (p1_window_41 : Nat → Int32) (p1_finish_42 : Nat → Int32) =>
 (post 1 v_at_31 v_passed_32 v_fault_33 p1_clocks_36 p1_kind_37 p1_hands_38 p1_rate_39 p1_spring_40 p1_window_41 p1_finish_42)))) ∧
 (¬ 0 ≤ r30 → (post 0 v_at_31 v_passed_32 v_fault_33 p1_clocks p1_kind p1_hands p1_rate p1_spring p1_window p1_finish)))))))))))) ∧
 (∃ J43 : (Int32) → Prop, (∀ (v_at_43 : Int32), J43 v_at_43 →
 (wp_X5_next v_letters v_size v_at_43 (fun (r44 : Int32) (v_at_45 : Int32) =>
 (∃ J46 : (Int32) → Prop, (∀ (y0_46 : Int32), J46 y0_46 →
 (wp_X5_skip v_at_45 v_passed_10 (fun (v_at_48 : Int32) (v_passed_49 : Int32) =>
 (wp_X5_number 0 30 v_letters v_size v_at_48 v_passed_49 v_fault_11 (fun (r50 : Int32) (v_at_51 : Int32) (v_passed_52 : Int32) (v_fault_53 : Int32) =>
 ((0 ≤ r50 → (∀ z55 : Int32, z55 = (r50 * y0_46) → (J15 z55 v_at_51 v_passed_52 v_fault_53))) ∧
 (¬ 0 ≤ r50 → (post 0 v_at_51 v_passed_52 v_fault_53 p1_clocks p1_kind p1_hands p1_rate p1_spring p1_window p1_finish)))))))) ∧
 ((¬ r44 = 43 → (J46 (-1))) ∧
 (r44 = 43 → (J46 1))))))) ∧
 ((r13 = 43 → (J43 v_at_14)) ∧
 (¬ r13 = 43 → (wp_X5_next v_letters v_size v_at_14 (fun (r58 : Int32) (v_at_59 : Int32) =>
 ((¬ r58 = 45 → (J15 0 v_at_59 v_passed_10 v_fault_11)) ∧
 (r58 = 45 → (J43 v_at_59)))))))))))) ∧
 (¬ 0 ≤ r8 → (post 0 v_at_9 v_passed_10 v_fault_11 p1_clocks p1_kind p1_hands p1_rate p1_spring p1_window p1_finish)))))))) ∧
 (¬ 0 ≤ (-1) → (wp_X5_here v_passed (fun (r61 : Int32) =>
 (wp_X5_fails r61 v_fault (fun (r62 : Int32) (v_fault_63 : Int32) =>
 ((r62 = 0 ∨ r62 = 1) ∧ post r62 v_at_2 v_passed v_fault_63 p1_clocks p1_kind p1_hands p1_rate p1_spring p1_window p1_finish)))))))
        refine ⟨fun c6 => ?_, fun c6 => ?_⟩
        · skip
          have t7 := ile (a := 0) (b := (-1)) rfl rfl c6
          exfalso; omega
        · skip
          have t8 := inle (a := 0) (b := (-1)) rfl rfl c6
          first
            | exfalso; omega
            | skip
              refine f_X5_here (by first | omega | assumption | exact AB.none (by omega) | exact AB.mono (by assumption) (by omega) (by omega) (by omega) (by omega)) (fun r61 q9 => ?_)
              refine f_X5_fails  (fun r62 v_fault_63 q10 q11 => ?_)
              refine ⟨i01 (a := r62.toInt) rfl (by omega), ?_⟩
              exact hk _ _ _ _ _ _ _ _ _ _ _ (by first | omega | assumption | exact AB.none (by omega) | exact AB.mono (by assumption) (by omega) (by omega) (by omega) (by omega)) (by first | omega | assumption | exact AB.none (by omega) | exact AB.mono (by assumption) (by omega) (by omega) (by omega) (by omega))
set_option maxHeartbeats 1000000 in
set_option maxRecDepth 10000 in
theorem f_X5_readStreet {v_letters : Nat → Int32} {v_size : Int32} {v_at : Int32} {v_passed : Int32} {v_fault : Int32} {p1_clocks : Int32} {p1_kind : Nat → Int32} {p1_hands : Nat → Int32} {p1_rate : Nat → Int32} {p1_spring : Nat → Int32} {p1_window : Nat → Int32} {p1_finish : Nat → Int32} {post : Int32 → (Int32) → (Int32) → (Int32) → (Int32) → (Nat → Int32) → (Nat → Int32) → (Nat → Int32) → (Nat → Int32) → (Nat → Int32) → (Nat → Int32) → Prop} (hp0 : v_size.toInt = 0) (hp1 : v_at.toInt = 0) (hp2 : v_passed.toInt = 0) (hp3 : p1_clocks.toInt = 0) (hk : ∀ (r : Int32) (v_at' : Int32) (v_passed' : Int32) (v_fault' : Int32) (p1_clocks' : Int32) (p1_kind' : Nat → Int32) (p1_hands' : Nat → Int32) (p1_rate' : Nat → Int32) (p1_spring' : Nat → Int32) (p1_window' : Nat → Int32) (p1_finish' : Nat → Int32), (r.toInt = -20) → post r v_at' v_passed' v_fault' p1_clocks' p1_kind' p1_hands' p1_rate' p1_spring' p1_window' p1_finish') : wp_X5_readStreet v_letters v_size v_at v_passed v_fault p1_clocks p1_kind p1_hands p1_rate p1_spring p1_window p1_finish post := by
  unfold wp_X5_readStreet
  refine f_X5_rewind (by first | omega | assumption | exact AB.none (by omega) | exact AB.mono (by assumption) (by omega) (by omega) (by omega) (by omega)) (by first | omega | assumption | exact AB.none (by omega) | exact AB.mono (by assumption) (by omega) (by omega) (by omega) (by omega)) (fun v_at_2 v_passed_3 v_fault_4 q1 q2 => ?_)
  have t3 : ((1 : Int32)).toInt = 1 := rfl
  refine ⟨fun n5 x2_5 v_at_5 v_passed_5 v_fault_5 p1_clocks_5 p1_kind_5 p1_hands_5 p1_rate_5 p1_spring_5 p1_window_5 p1_finish_5 => n5 = ((0 : Int)).toNat ∧ (v_at_5.toInt = 0) ∧ (v_passed_5.toInt = 0) ∧ (p1_clocks_5.toInt = 0) ∧ (x2_5.toInt = 1) ∧ (v_at_5.toInt = v_at_2.toInt) ∧ (v_passed_5.toInt = v_passed_3.toInt) ∧ (v_fault_5.toInt = v_fault_4.toInt) ∧ (p1_clocks_5.toInt = p1_clocks.toInt) ∧ (1 ≤ x2_5.toInt), ⟨_, rfl, by first | omega | assumption | exact AB.none (by omega) | exact AB.mono (by assumption) (by omega) (by omega) (by omega) (by omega), by first | omega | assumption | exact AB.none (by omega) | exact AB.mono (by assumption) (by omega) (by omega) (by omega) (by omega), by first | omega | assumption | exact AB.none (by omega) | exact AB.mono (by assumption) (by omega) (by omega) (by omega) (by omega), by first | omega | assumption | exact AB.none (by omega) | exact AB.mono (by assumption) (by omega) (by omega) (by omega) (by omega), by first | omega | assumption | exact AB.none (by omega) | exact AB.mono (by assumption) (by omega) (by omega) (by omega) (by omega), by first | omega | assumption | exact AB.none (by omega) | exact AB.mono (by assumption) (by omega) (by omega) (by omega) (by omega), by first | omega | assumption | exact AB.none (by omega) | exact AB.mono (by assumption) (by omega) (by omega) (by omega) (by omega), by first | omega | assumption | exact AB.none (by omega) | exact AB.mono (by assumption) (by omega) (by omega) (by omega) (by omega), by first | omega | assumption | exact AB.none (by omega) | exact AB.mono (by assumption) (by omega) (by omega) (by omega) (by omega)⟩, ?_⟩
  rintro n5 x2_5 v_at_5 v_passed_5 v_fault_5 p1_clocks_5 p1_kind_5 p1_hands_5 p1_rate_5 p1_spring_5 p1_window_5 p1_finish_5 ⟨hn5, q4, q5, q6, q7, q8, q9, q10, q11, q12⟩
  refine ⟨fun c13 => ?_, fun c13 => ?_⟩
  · skip
    have t14 := ilt (a := 9) (b := x2_5.toInt) rfl rfl c13
    exfalso; omega
  · skip
    have t15 := inlt (a := 9) (b := x2_5.toInt) rfl rfl c13
    first
      | exfalso; omega
      | skip
        refine f_X5_readClock (by first | omega | assumption | exact AB.none (by omega) | exact AB.mono (by assumption) (by omega) (by omega) (by omega) (by omega)) (by first | omega | assumption | exact AB.none (by omega) | exact AB.mono (by assumption) (by omega) (by omega) (by omega) (by omega)) (by first | omega | assumption | exact AB.none (by omega) | exact AB.mono (by assumption) (by omega) (by omega) (by omega) (by omega)) (by first | omega | assumption | exact AB.none (by omega) | exact AB.mono (by assumption) (by omega) (by omega) (by omega) (by omega)) (fun r8 v_at_9 v_passed_10 v_fault_11 p1_clocks_12 p1_kind_13 p1_hands_14 p1_rate_15 p1_spring_16 p1_window_17 p1_finish_18 q16 q17 => ?_)
        refine ⟨fun c18 => ?_, fun c18 => ?_⟩
        · skip
          have t19 := ine (a := r8.toInt) (b := 0) rfl rfl c18
          exfalso; omega
        · skip
          have t20 := ieq (a := r8.toInt) (b := 0) rfl rfl c18
          first
            | exfalso; omega
            | skip
              exact hk _ _ _ _ _ _ _ _ _ _ _ (by first | omega | assumption | exact AB.none (by omega) | exact AB.mono (by assumption) (by omega) (by omega) (by omega) (by omega))
set_option maxHeartbeats 1000000 in
set_option maxRecDepth 10000 in
theorem f_X5_readAct {v_letters : Nat → Int32} {v_size : Int32} {v_at : Int32} {v_passed : Int32} {v_fault : Int32} {p1_size : Int32} {p1_act : Nat → Int32} {p1_whom : Nat → Int32} {p1_amount : Nat → Int32} {post : Int32 → (Int32) → (Int32) → (Int32) → (Int32) → (Nat → Int32) → (Nat → Int32) → (Nat → Int32) → Prop} (hp0 : v_size.toInt = 0) (hp1 : v_at.toInt = 0) (hp2 : v_passed.toInt = 0) (hk : ∀ (r : Int32) (v_at' : Int32) (v_passed' : Int32) (v_fault' : Int32) (p1_size' : Int32) (p1_act' : Nat → Int32) (p1_whom' : Nat → Int32) (p1_amount' : Nat → Int32), (r.toInt = 0) → (v_fault'.toInt = -20) → post r v_at' v_passed' v_fault' p1_size' p1_act' p1_whom' p1_amount') : wp_X5_readAct v_letters v_size v_at v_passed v_fault p1_size p1_act p1_whom p1_amount post := by
  unfold wp_X5_readAct
  refine f_X5_next (by first | omega | assumption | exact AB.none (by omega) | exact AB.mono (by assumption) (by omega) (by omega) (by omega) (by omega)) (by first | omega | assumption | exact AB.none (by omega) | exact AB.mono (by assumption) (by omega) (by omega) (by omega) (by omega)) (fun r1 v_at_2 q1 q2 => ?_)
  refine ⟨fun c3 => ?_, fun c3 => ?_⟩
  · skip
    have t4 := ieq (a := r1.toInt) (b := 98) rfl rfl c3
    exfalso; omega
  · skip
    have t5 := ine (a := r1.toInt) (b := 98) rfl rfl c3
    first
      | exfalso; omega
      | skip
        refine ⟨fun c6 => ?_, fun c6 => ?_⟩
        · skip
          have t7 := ieq (a := r1.toInt) (b := 104) rfl rfl c6
          exfalso; omega
        · skip
          have t8 := ine (a := r1.toInt) (b := 104) rfl rfl c6
          first
            | exfalso; omega
            | skip
              refine ⟨fun c9 => ?_, fun c9 => ?_⟩
              · skip
                have t10 := ieq (a := r1.toInt) (b := 116) rfl rfl c9
                exfalso; omega
              · skip
                have t11 := ine (a := r1.toInt) (b := 116) rfl rfl c9
                first
                  | exfalso; omega
                  | skip
                    refine ⟨fun c12 => ?_, fun c12 => ?_⟩
                    · skip
                      have t13 := ieq (a := r1.toInt) (b := 119) rfl rfl c12
                      exfalso; omega
                    · skip
                      have t14 := ine (a := r1.toInt) (b := 119) rfl rfl c12
                      first
                        | exfalso; omega
                        | skip
                          refine f_X5_here (by first | omega | assumption | exact AB.none (by omega) | exact AB.mono (by assumption) (by omega) (by omega) (by omega) (by omega)) (fun r48 q15 => ?_)
                          refine f_X5_fails  (fun r49 v_fault_50 q16 q17 => ?_)
                          refine ⟨i01 (a := r49.toInt) rfl (by omega), ?_⟩
                          exact hk _ _ _ _ _ _ _ _ (by first | omega | assumption | exact AB.none (by omega) | exact AB.mono (by assumption) (by omega) (by omega) (by omega) (by omega)) (by first | omega | assumption | exact AB.none (by omega) | exact AB.mono (by assumption) (by omega) (by omega) (by omega) (by omega))
set_option maxHeartbeats 1000000 in
set_option maxRecDepth 10000 in
theorem f_X5_readDay {v_letters : Nat → Int32} {v_size : Int32} {v_at : Int32} {v_passed : Int32} {v_fault : Int32} {p1_size : Int32} {p1_act : Nat → Int32} {p1_whom : Nat → Int32} {p1_amount : Nat → Int32} {post : Int32 → (Int32) → (Int32) → (Int32) → (Int32) → (Nat → Int32) → (Nat → Int32) → (Nat → Int32) → Prop} (hp0 : v_size.toInt = 0) (hp1 : v_at.toInt = 0) (hp2 : v_passed.toInt = 0) (hk : ∀ (r : Int32) (v_at' : Int32) (v_passed' : Int32) (v_fault' : Int32) (p1_size' : Int32) (p1_act' : Nat → Int32) (p1_whom' : Nat → Int32) (p1_amount' : Nat → Int32), (r.toInt = -20) → post r v_at' v_passed' v_fault' p1_size' p1_act' p1_whom' p1_amount') : wp_X5_readDay v_letters v_size v_at v_passed v_fault p1_size p1_act p1_whom p1_amount post := by
  unfold wp_X5_readDay
  refine f_X5_rewind (by first | omega | assumption | exact AB.none (by omega) | exact AB.mono (by assumption) (by omega) (by omega) (by omega) (by omega)) (by first | omega | assumption | exact AB.none (by omega) | exact AB.mono (by assumption) (by omega) (by omega) (by omega) (by omega)) (fun v_at_2 v_passed_3 v_fault_4 q1 q2 => ?_)
  have t3 : ((1 : Int32)).toInt = 1 := rfl
  have t4 : ((0 : Int32)).toInt = 0 := rfl
  refine ⟨fun n5 x2_5 v_at_5 v_passed_5 v_fault_5 p1_size_5 p1_act_5 p1_whom_5 p1_amount_5 => n5 = ((0 : Int)).toNat ∧ (v_at_5.toInt = 0) ∧ (v_passed_5.toInt = 0) ∧ (x2_5.toInt = 1) ∧ (v_at_5.toInt = v_at_2.toInt) ∧ (v_passed_5.toInt = v_passed_3.toInt) ∧ (v_fault_5.toInt = v_fault_4.toInt) ∧ (p1_size_5.toInt = 0) ∧ (1 ≤ x2_5.toInt), ⟨_, rfl, by first | omega | assumption | exact AB.none (by omega) | exact AB.mono (by assumption) (by omega) (by omega) (by omega) (by omega), by first | omega | assumption | exact AB.none (by omega) | exact AB.mono (by assumption) (by omega) (by omega) (by omega) (by omega), by first | omega | assumption | exact AB.none (by omega) | exact AB.mono (by assumption) (by omega) (by omega) (by omega) (by omega), by first | omega | assumption | exact AB.none (by omega) | exact AB.mono (by assumption) (by omega) (by omega) (by omega) (by omega), by first | omega | assumption | exact AB.none (by omega) | exact AB.mono (by assumption) (by omega) (by omega) (by omega) (by omega), by first | omega | assumption | exact AB.none (by omega) | exact AB.mono (by assumption) (by omega) (by omega) (by omega) (by omega), by first | omega | assumption | exact AB.none (by omega) | exact AB.mono (by assumption) (by omega) (by omega) (by omega) (by omega), by first | omega | assumption | exact AB.none (by omega) | exact AB.mono (by assumption) (by omega) (by omega) (by omega) (by omega)⟩, ?_⟩
  rintro n5 x2_5 v_at_5 v_passed_5 v_fault_5 p1_size_5 p1_act_5 p1_whom_5 p1_amount_5 ⟨hn5, q5, q6, q7, q8, q9, q10, q11, q12⟩
  refine ⟨fun c13 => ?_, fun c13 => ?_⟩
  · skip
    have t14 := ilt (a := 80) (b := x2_5.toInt) rfl rfl c13
    exfalso; omega
  · skip
    have t15 := inlt (a := 80) (b := x2_5.toInt) rfl rfl c13
    first
      | exfalso; omega
      | skip
        refine f_X5_readAct (by first | omega | assumption | exact AB.none (by omega) | exact AB.mono (by assumption) (by omega) (by omega) (by omega) (by omega)) (by first | omega | assumption | exact AB.none (by omega) | exact AB.mono (by assumption) (by omega) (by omega) (by omega) (by omega)) (by first | omega | assumption | exact AB.none (by omega) | exact AB.mono (by assumption) (by omega) (by omega) (by omega) (by omega)) (fun r8 v_at_9 v_passed_10 v_fault_11 p1_size_12 p1_act_13 p1_whom_14 p1_amount_15 q16 q17 => ?_)
        refine ⟨fun c18 => ?_, fun c18 => ?_⟩
        · skip
          have t19 := ine (a := r8.toInt) (b := 0) rfl rfl c18
          exfalso; omega
        · skip
          have t20 := ieq (a := r8.toInt) (b := 0) rfl rfl c18
          first
            | exfalso; omega
            | skip
              exact hk _ _ _ _ _ _ _ _ (by first | omega | assumption | exact AB.none (by omega) | exact AB.mono (by assumption) (by omega) (by omega) (by omega) (by omega))
set_option maxHeartbeats 1000000 in
set_option maxRecDepth 10000 in
theorem f_X6_become {v_draw : Int32} {race_windows : Int32} {race_dials : Nat → Int32} {race_clocks : Int32} {race_kind : Nat → Int32} {race_hands : Nat → Int32} {race_rate : Nat → Int32} {race_spring : Nat → Int32} {race_window : Nat → Int32} {race_finish : Nat → Int32} {race_skies : Int32} {race_sky : Nat → Int32} {race_hour : Int32} {race_heard : Int32} {race_strokes : Int32} {bets_size : Int32} {bets_on : Nat → Int32} {bets_stake : Nat → Int32} {repairs_known : Int32} {repairs_act : Nat → Int32} {repairs_whom : Nat → Int32} {repairs_was : Nat → Int32} {p1_draw : Int32} {p1_race_windows : Int32} {p1_race_dials : Nat → Int32} {p1_race_clocks : Int32} {p1_race_kind : Nat → Int32} {p1_race_hands : Nat → Int32} {p1_race_rate : Nat → Int32} {p1_race_spring : Nat → Int32} {p1_race_window : Nat → Int32} {p1_race_finish : Nat → Int32} {p1_race_skies : Int32} {p1_race_sky : Nat → Int32} {p1_race_hour : Int32} {p1_race_heard : Int32} {p1_race_strokes : Int32} {p1_bets_size : Int32} {p1_bets_on : Nat → Int32} {p1_bets_stake : Nat → Int32} {p1_repairs_known : Int32} {p1_repairs_act : Nat → Int32} {p1_repairs_whom : Nat → Int32} {p1_repairs_was : Nat → Int32} {post : (Int32) → (Int32) → (Nat → Int32) → (Int32) → (Nat → Int32) → (Nat → Int32) → (Nat → Int32) → (Nat → Int32) → (Nat → Int32) → (Nat → Int32) → (Int32) → (Nat → Int32) → (Int32) → (Int32) → (Int32) → (Int32) → (Nat → Int32) → (Nat → Int32) → (Int32) → (Nat → Int32) → (Nat → Int32) → (Nat → Int32) → Prop} (hp0 : v_draw.toInt = 1) (hp1 : race_windows.toInt = 8) (hp2 : race_clocks.toInt = 0) (hp3 : race_skies.toInt = 1) (hp4 : 0 ≤ race_hour.toInt) (hp5 : race_hour.toInt ≤ 1000) (hp6 : AB race_dials 0 24 12 12) (hp7 : AB race_sky 0 12 0 0) (hp8 : race_heard.toInt = 0) (hp9 : race_strokes.toInt = 0) (hp10 : bets_size.toInt = 0) (hp11 : repairs_known.toInt = 0) (hp12 : p1_draw.toInt = 1) (hp13 : p1_race_windows.toInt = 8) (hp14 : p1_race_clocks.toInt = 0) (hp15 : p1_race_skies.toInt = 1) (hp16 : 0 ≤ p1_race_hour.toInt) (hp17 : p1_race_hour.toInt ≤ 1000) (hp18 : AB p1_race_dials 0 24 12 12) (hp19 : AB p1_race_sky 0 12 0 0) (hp20 : p1_race_heard.toInt = 0) (hp21 : p1_race_strokes.toInt = 0) (hp22 : p1_bets_size.toInt = 0) (hp23 : p1_repairs_known.toInt = 0) (hk : ∀ (v_draw' : Int32) (race_windows' : Int32) (race_dials' : Nat → Int32) (race_clocks' : Int32) (race_kind' : Nat → Int32) (race_hands' : Nat → Int32) (race_rate' : Nat → Int32) (race_spring' : Nat → Int32) (race_window' : Nat → Int32) (race_finish' : Nat → Int32) (race_skies' : Int32) (race_sky' : Nat → Int32) (race_hour' : Int32) (race_heard' : Int32) (race_strokes' : Int32) (bets_size' : Int32) (bets_on' : Nat → Int32) (bets_stake' : Nat → Int32) (repairs_known' : Int32) (repairs_act' : Nat → Int32) (repairs_whom' : Nat → Int32) (repairs_was' : Nat → Int32), (v_draw'.toInt = 1) → (race_windows'.toInt = 8) → (race_clocks'.toInt = 0) → (race_skies'.toInt = 1) → (0 ≤ race_hour'.toInt) → (race_hour'.toInt ≤ 1000) → (AB race_dials' 0 24 12 12) → (AB race_sky' 0 12 0 0) → (race_heard'.toInt = 0) → (race_strokes'.toInt = 0) → (bets_size'.toInt = 0) → (repairs_known'.toInt = 0) → post v_draw' race_windows' race_dials' race_clocks' race_kind' race_hands' race_rate' race_spring' race_window' race_finish' race_skies' race_sky' race_hour' race_heard' race_strokes' bets_size' bets_on' bets_stake' repairs_known' repairs_act' repairs_whom' repairs_was') : wp_X6_become v_draw race_windows race_dials race_clocks race_kind race_hands race_rate race_spring race_window race_finish race_skies race_sky race_hour race_heard race_strokes bets_size bets_on bets_stake repairs_known repairs_act repairs_whom repairs_was p1_draw p1_race_windows p1_race_dials p1_race_clocks p1_race_kind p1_race_hands p1_race_rate p1_race_spring p1_race_window p1_race_finish p1_race_skies p1_race_sky p1_race_hour p1_race_heard p1_race_strokes p1_bets_size p1_bets_on p1_bets_stake p1_repairs_known p1_repairs_act p1_repairs_whom p1_repairs_was post := by
  unfold wp_X6_become
  refine f_X2_become (by first | omega | assumption | exact AB.none (by omega) | exact AB.mono (by assumption) (by omega) (by omega) (by omega) (by omega)) (by first | omega | assumption | exact AB.none (by omega) | exact AB.mono (by assumption) (by omega) (by omega) (by omega) (by omega)) (by first | omega | assumption | exact AB.none (by omega) | exact AB.mono (by assumption) (by omega) (by omega) (by omega) (by omega)) (by first | omega | assumption | exact AB.none (by omega) | exact AB.mono (by assumption) (by omega) (by omega) (by omega) (by omega)) (by first | omega | assumption | exact AB.none (by omega) | exact AB.mono (by assumption) (by omega) (by omega) (by omega) (by omega)) (by first | omega | assumption | exact AB.none (by omega) | exact AB.mono (by assumption) (by omega) (by omega) (by omega) (by omega)) (by first | omega | assumption | exact AB.none (by omega) | exact AB.mono (by assumption) (by omega) (by omega) (by omega) (by omega)) (by first | omega | assumption | exact AB.none (by omega) | exact AB.mono (by assumption) (by omega) (by omega) (by omega) (by omega)) (by first | omega | assumption | exact AB.none (by omega) | exact AB.mono (by assumption) (by omega) (by omega) (by omega) (by omega)) (by first | omega | assumption | exact AB.none (by omega) | exact AB.mono (by assumption) (by omega) (by omega) (by omega) (by omega)) (by first | omega | assumption | exact AB.none (by omega) | exact AB.mono (by assumption) (by omega) (by omega) (by omega) (by omega)) (by first | omega | assumption | exact AB.none (by omega) | exact AB.mono (by assumption) (by omega) (by omega) (by omega) (by omega)) (by first | omega | assumption | exact AB.none (by omega) | exact AB.mono (by assumption) (by omega) (by omega) (by omega) (by omega)) (by first | omega | assumption | exact AB.none (by omega) | exact AB.mono (by assumption) (by omega) (by omega) (by omega) (by omega)) (by first | omega | assumption | exact AB.none (by omega) | exact AB.mono (by assumption) (by omega) (by omega) (by omega) (by omega)) (by first | omega | assumption | exact AB.none (by omega) | exact AB.mono (by assumption) (by omega) (by omega) (by omega) (by omega)) (by first | omega | assumption | exact AB.none (by omega) | exact AB.mono (by assumption) (by omega) (by omega) (by omega) (by omega)) (by first | omega | assumption | exact AB.none (by omega) | exact AB.mono (by assumption) (by omega) (by omega) (by omega) (by omega)) (fun race_windows_2 race_dials_3 race_clocks_4 race_kind_5 race_hands_6 race_rate_7 race_spring_8 race_window_9 race_finish_10 race_skies_11 race_sky_12 race_hour_13 race_heard_14 race_strokes_15 q1 q2 q3 q4 q5 q6 q7 q8 q9 => ?_)
  refine f_X0_become (by first | omega | assumption | exact AB.none (by omega) | exact AB.mono (by assumption) (by omega) (by omega) (by omega) (by omega)) (by first | omega | assumption | exact AB.none (by omega) | exact AB.mono (by assumption) (by omega) (by omega) (by omega) (by omega)) (fun bets_size_17 bets_on_18 bets_stake_19 q10 => ?_)
  refine f_X3_become (by first | omega | assumption | exact AB.none (by omega) | exact AB.mono (by assumption) (by omega) (by omega) (by omega) (by omega)) (by first | omega | assumption | exact AB.none (by omega) | exact AB.mono (by assumption) (by omega) (by omega) (by omega) (by omega)) (fun repairs_known_21 repairs_act_22 repairs_whom_23 repairs_was_24 q11 => ?_)
  exact hk _ _ _ _ _ _ _ _ _ _ _ _ _ _ _ _ _ _ _ _ _ _ (by first | omega | assumption | exact AB.none (by omega) | exact AB.mono (by assumption) (by omega) (by omega) (by omega) (by omega)) (by first | omega | assumption | exact AB.none (by omega) | exact AB.mono (by assumption) (by omega) (by omega) (by omega) (by omega)) (by first | omega | assumption | exact AB.none (by omega) | exact AB.mono (by assumption) (by omega) (by omega) (by omega) (by omega)) (by first | omega | assumption | exact AB.none (by omega) | exact AB.mono (by assumption) (by omega) (by omega) (by omega) (by omega)) (by first | omega | assumption | exact AB.none (by omega) | exact AB.mono (by assumption) (by omega) (by omega) (by omega) (by omega)) (by first | omega | assumption | exact AB.none (by omega) | exact AB.mono (by assumption) (by omega) (by omega) (by omega) (by omega)) (by first | omega | assumption | exact AB.none (by omega) | exact AB.mono (by assumption) (by omega) (by omega) (by omega) (by omega)) (by first | omega | assumption | exact AB.none (by omega) | exact AB.mono (by assumption) (by omega) (by omega) (by omega) (by omega)) (by first | omega | assumption | exact AB.none (by omega) | exact AB.mono (by assumption) (by omega) (by omega) (by omega) (by omega)) (by first | omega | assumption | exact AB.none (by omega) | exact AB.mono (by assumption) (by omega) (by omega) (by omega) (by omega)) (by first | omega | assumption | exact AB.none (by omega) | exact AB.mono (by assumption) (by omega) (by omega) (by omega) (by omega)) (by first | omega | assumption | exact AB.none (by omega) | exact AB.mono (by assumption) (by omega) (by omega) (by omega) (by omega))
set_option maxHeartbeats 1000000 in
set_option maxRecDepth 10000 in
theorem f_X6_drawWeather {v_draw : Int32} {post : Int32 → (Int32) → Prop} (hk : ∀ (r : Int32) (v_draw' : Int32), post r v_draw') : wp_X6_drawWeather v_draw post := by
  unfold wp_X6_drawWeather
  try have t1 : (v_draw * 1103515245).toInt = v_draw.toInt * 1103515245 := im rfl rfl (by omega) (by omega)
  try have t2 : ((v_draw * 1103515245) + 12345).toInt = (v_draw * 1103515245).toInt + 12345 := ia rfl rfl (by omega) (by omega)
  intro z1 ez1
  have t3 : z1.toInt = (((v_draw * 1103515245) + 12345) &&& 2147483647).toInt := by rw [ez1] <;> rfl
  try have t4 : (z1 / 65536).toInt = z1.toInt / 65536 := idv rfl rfl (by omega) (by omega)
  try have t5 : ((z1 / 65536) - (z1 / 65536) / 4 * 4).toInt = (z1 / 65536).toInt % 4 := irm rfl rfl (by omega) (by omega)
  exact hk _ _
set_option maxHeartbeats 1000000 in
set_option maxRecDepth 10000 in
theorem f_X7_isIn {p1 : Int32} {p2 : Int32} {p3 : Int32} {post : Int32 → Prop} (hk : ∀ (r : Int32), (((p2.toInt ≤ p1.toInt ∧ p1.toInt ≤ p3.toInt) ∧ r.toInt = 1) ∨ (¬ (p2.toInt ≤ p1.toInt ∧ p1.toInt ≤ p3.toInt) ∧ r.toInt = 0)) → post r) : wp_X7_isIn p1 p2 p3 post := by
  unfold wp_X7_isIn
  refine ⟨fun c1 => ?_, fun c1 => ?_⟩
  · skip
    have t2 := ilt (a := p1.toInt) (b := p2.toInt) rfl rfl c1
    first
      | exfalso; omega
      | skip
        have t3 : (0 : Int32).toInt = 0 := rfl
        exact hk _ (by first | omega | assumption | exact AB.none (by omega) | exact AB.mono (by assumption) (by omega) (by omega) (by omega) (by omega))
  · skip
    have t4 := inlt (a := p1.toInt) (b := p2.toInt) rfl rfl c1
    first
      | exfalso; omega
      | skip
        refine ⟨fun c5 => ?_, fun c5 => ?_⟩
        · skip
          have t6 := ilt (a := p3.toInt) (b := p1.toInt) rfl rfl c5
          first
            | exfalso; omega
            | skip
              have t7 : (0 : Int32).toInt = 0 := rfl
              exact hk _ (by first | omega | assumption | exact AB.none (by omega) | exact AB.mono (by assumption) (by omega) (by omega) (by omega) (by omega))
        · skip
          have t8 := inlt (a := p3.toInt) (b := p1.toInt) rfl rfl c5
          first
            | exfalso; omega
            | skip
              have t9 : (1 : Int32).toInt = 1 := rfl
              exact hk _ (by first | omega | assumption | exact AB.none (by omega) | exact AB.mono (by assumption) (by omega) (by omega) (by omega) (by omega))
set_option maxHeartbeats 1000000 in
set_option maxRecDepth 10000 in
theorem f_X7_isRate {p1 : Int32} {post : Int32 → Prop} (hk : ∀ (r : Int32), (((-30 ≤ p1.toInt ∧ p1.toInt ≤ 30) ∧ r.toInt = 1) ∨ (¬ (-30 ≤ p1.toInt ∧ p1.toInt ≤ 30) ∧ r.toInt = 0)) → post r) : wp_X7_isRate p1 post := by
  unfold wp_X7_isRate
  have t1 : ((-30) : Int32).toInt = (-30) := rfl
  have t2 : (30 : Int32).toInt = 30 := rfl
  refine f_X7_isIn  (fun r1 q3 => ?_)
  refine ⟨i01 (a := r1.toInt) rfl (by omega), ?_⟩
  exact hk _ (by first | omega | assumption | exact AB.none (by omega) | exact AB.mono (by assumption) (by omega) (by omega) (by omega) (by omega))
set_option maxHeartbeats 1000000 in
set_option maxRecDepth 10000 in
theorem f_X7_clock {p1 : Int32} {p2 : Int32} {p3 : Int32} {p4 : Int32} {now_race_clocks : Int32} {now_race_kind : Nat → Int32} {now_race_hands : Nat → Int32} {now_race_rate : Nat → Int32} {now_race_spring : Nat → Int32} {now_race_window : Nat → Int32} {now_race_finish : Nat → Int32} {post : Int32 → (Int32) → (Nat → Int32) → (Nat → Int32) → (Nat → Int32) → (Nat → Int32) → (Nat → Int32) → (Nat → Int32) → Prop} (hp0 : now_race_clocks.toInt = 0) (hk : ∀ (r : Int32) (now_race_clocks' : Int32) (now_race_kind' : Nat → Int32) (now_race_hands' : Nat → Int32) (now_race_rate' : Nat → Int32) (now_race_spring' : Nat → Int32) (now_race_window' : Nat → Int32) (now_race_finish' : Nat → Int32), (((0 ≤ p1.toInt ∧ p1.toInt ≤ 5 ∧ 0 ≤ p2.toInt ∧ p2.toInt ≤ 719 ∧ -30 ≤ p3.toInt ∧ p3.toInt ≤ 30 ∧ 0 ≤ p4.toInt ∧ p4.toInt ≤ 99) ∧ r.toInt = 0) ∨ (¬ (0 ≤ p1.toInt ∧ p1.toInt ≤ 5 ∧ 0 ≤ p2.toInt ∧ p2.toInt ≤ 719 ∧ -30 ≤ p3.toInt ∧ p3.toInt ≤ 30 ∧ 0 ≤ p4.toInt ∧ p4.toInt ≤ 99) ∧ r.toInt = -1)) → post r now_race_clocks' now_race_kind' now_race_hands' now_race_rate' now_race_spring' now_race_window' now_race_finish') : wp_X7_clock p1 p2 p3 p4 now_race_clocks now_race_kind now_race_hands now_race_rate now_race_spring now_race_window now_race_finish post := by
  unfold wp_X7_clock
  have t1 : (0 : Int32).toInt = 0 := rfl
  have t2 : (5 : Int32).toInt = 5 := rfl
  refine f_X7_isIn  (fun r1 q3 => ?_)
  refine ⟨fun c4 => ?_, fun c4 => ?_⟩
  · skip
    have t5 := ieq (a := r1.toInt) (b := 0) rfl rfl c4
    first
      | exfalso; omega
      | skip
        have t6 : ((-1) : Int32).toInt = (-1) := rfl
        exact hk _ _ _ _ _ _ _ _ (by first | omega | assumption | exact AB.none (by omega) | exact AB.mono (by assumption) (by omega) (by omega) (by omega) (by omega))
  · skip
    have t7 := ine (a := r1.toInt) (b := 0) rfl rfl c4
    first
      | exfalso; omega
      | skip
        have t8 : (719 : Int32).toInt = 719 := rfl
        refine f_X7_isIn  (fun r3 q9 => ?_)
        refine ⟨fun c10 => ?_, fun c10 => ?_⟩
        · skip
          have t11 := ine (a := r3.toInt) (b := 0) rfl rfl c10
          first
            | exfalso; omega
            | skip
              refine f_X7_isRate  (fun r5 q12 => ?_)
              refine ⟨fun c13 => ?_, fun c13 => ?_⟩
              · skip
                have t14 := ieq (a := r5.toInt) (b := 0) rfl rfl c13
                first
                  | exfalso; omega
                  | skip
                    have t15 : ((-1) : Int32).toInt = (-1) := rfl
                    exact hk _ _ _ _ _ _ _ _ (by first | omega | assumption | exact AB.none (by omega) | exact AB.mono (by assumption) (by omega) (by omega) (by omega) (by omega))
              · skip
                have t16 := ine (a := r5.toInt) (b := 0) rfl rfl c13
                first
                  | exfalso; omega
                  | skip
                    have t17 : (99 : Int32).toInt = 99 := rfl
                    refine f_X7_isIn  (fun r7 q18 => ?_)
                    refine ⟨fun c19 => ?_, fun c19 => ?_⟩
                    · skip
                      have t20 := ine (a := r7.toInt) (b := 0) rfl rfl c19
                      first
                        | exfalso; omega
                        | skip
                          refine ⟨fun c21 => ?_, fun c21 => ?_⟩
                          · skip
                            have t22 := ilt (a := now_race_clocks.toInt) (b := 9) rfl rfl c21
                            first
                              | exfalso; omega
                              | skip
                                refine f_X2_add (by first | omega | assumption | exact AB.none (by omega) | exact AB.mono (by assumption) (by omega) (by omega) (by omega) (by omega)) (fun r10 now_race_clocks_11 now_race_kind_12 now_race_hands_13 now_race_rate_14 now_race_spring_15 now_race_window_16 now_race_finish_17 q23 => ?_)
                                exact hk _ _ _ _ _ _ _ _ (by first | omega | assumption | exact AB.none (by omega) | exact AB.mono (by assumption) (by omega) (by omega) (by omega) (by omega))
                          · skip
                            have t24 := inlt (a := now_race_clocks.toInt) (b := 9) rfl rfl c21
                            exfalso; omega
                    · skip
                      have t25 := ieq (a := r7.toInt) (b := 0) rfl rfl c19
                      first
                        | exfalso; omega
                        | skip
                          have t26 : ((-1) : Int32).toInt = (-1) := rfl
                          exact hk _ _ _ _ _ _ _ _ (by first | omega | assumption | exact AB.none (by omega) | exact AB.mono (by assumption) (by omega) (by omega) (by omega) (by omega))
        · skip
          have t27 := ieq (a := r3.toInt) (b := 0) rfl rfl c10
          first
            | exfalso; omega
            | skip
              have t28 : ((-1) : Int32).toInt = (-1) := rfl
              exact hk _ _ _ _ _ _ _ _ (by first | omega | assumption | exact AB.none (by omega) | exact AB.mono (by assumption) (by omega) (by omega) (by omega) (by omega))
set_option maxHeartbeats 1000000 in
set_option maxRecDepth 10000 in
theorem f_X7_strike {now_race_clocks : Int32} {now_race_heard : Int32} {now_bets_size : Int32} {now_bets_on : Nat → Int32} {now_bets_stake : Nat → Int32} {now_repairs_known : Int32} {post : Int32 → (Int32) → (Int32) → (Int32) → (Nat → Int32) → (Nat → Int32) → (Int32) → Prop} (hp0 : now_race_clocks.toInt = 0) (hp1 : now_race_heard.toInt = 0) (hp2 : now_bets_size.toInt = 0) (hp3 : now_repairs_known.toInt = 0) (hk : ∀ (r : Int32) (now_race_clocks' : Int32) (now_race_heard' : Int32) (now_bets_size' : Int32) (now_bets_on' : Nat → Int32) (now_bets_stake' : Nat → Int32) (now_repairs_known' : Int32), (r.toInt = -4) → post r now_race_clocks' now_race_heard' now_bets_size' now_bets_on' now_bets_stake' now_repairs_known') : wp_X7_strike now_race_clocks now_race_heard now_bets_size now_bets_on now_bets_stake now_repairs_known post := by
  unfold wp_X7_strike
  refine ⟨fun c1 => ?_, fun c1 => ?_⟩
  · skip
    have t2 := ine (a := now_race_clocks.toInt) (b := 0) rfl rfl c1
    exfalso; omega
  · skip
    have t3 := ieq (a := now_race_clocks.toInt) (b := 0) rfl rfl c1
    first
      | exfalso; omega
      | skip
        have t4 : ((-4) : Int32).toInt = (-4) := rfl
        exact hk _ _ _ _ _ _ _ (by first | omega | assumption | exact AB.none (by omega) | exact AB.mono (by assumption) (by omega) (by omega) (by omega) (by omega))
set_option maxHeartbeats 1000000 in
set_option maxRecDepth 10000 in
theorem f_X7_isClock {p1 : Int32} {now_race_clocks : Int32} {post : Int32 → Prop} (hp0 : now_race_clocks.toInt = 0) (hk : ∀ (r : Int32), (r.toInt = 0) → post r) : wp_X7_isClock p1 now_race_clocks post := by
  unfold wp_X7_isClock
  have t1 : (0 : Int32).toInt = 0 := rfl
  try have t2 : (now_race_clocks - 1).toInt = now_race_clocks.toInt - 1 := isb rfl rfl (by omega) (by omega)
  refine f_X7_isIn  (fun r1 q3 => ?_)
  refine ⟨i01 (a := r1.toInt) rfl (by omega), ?_⟩
  exact hk _ (by first | omega | assumption | exact AB.none (by omega) | exact AB.mono (by assumption) (by omega) (by omega) (by omega) (by omega))
set_option maxHeartbeats 1000000 in
set_option maxRecDepth 10000 in
theorem f_X7_told {p1 : Int32} {p2 : Int32} {now_race_windows : Int32} {now_race_clocks : Int32} {now_race_kind : Nat → Int32} {now_race_hands : Nat → Int32} {now_race_spring : Nat → Int32} {now_race_window : Nat → Int32} {now_race_finish : Nat → Int32} {now_race_hour : Int32} {post : Int32 → Prop} (hp0 : now_race_windows.toInt = 8) (hp1 : now_race_clocks.toInt = 0) (hp2 : 0 ≤ now_race_hour.toInt) (hp3 : now_race_hour.toInt ≤ 1000) (hp4 : now_race_hour.toInt = 0) (hk : ∀ (r : Int32), (r.toInt = -1) → post r) : wp_X7_told p1 p2 now_race_windows now_race_clocks now_race_kind now_race_hands now_race_spring now_race_window now_race_finish now_race_hour post := by
  unfold wp_X7_told
  refine f_X7_isClock (by first | omega | assumption | exact AB.none (by omega) | exact AB.mono (by assumption) (by omega) (by omega) (by omega) (by omega)) (fun r1 q1 => ?_)
  refine ⟨fun c2 => ?_, fun c2 => ?_⟩
  · skip
    have t3 := ine (a := r1.toInt) (b := 0) rfl rfl c2
    exfalso; omega
  · skip
    have t4 := ieq (a := r1.toInt) (b := 0) rfl rfl c2
    first
      | exfalso; omega
      | skip
        have t5 : ((-1) : Int32).toInt = (-1) := rfl
        exact hk _ (by first | omega | assumption | exact AB.none (by omega) | exact AB.mono (by assumption) (by omega) (by omega) (by omega) (by omega))
set_option maxHeartbeats 1000000 in
set_option maxRecDepth 10000 in
theorem f_X7_rate {p1 : Int32} {now_race_clocks : Int32} {now_race_rate : Nat → Int32} {post : Int32 → Prop} (hp0 : now_race_clocks.toInt = 0) (hk : ∀ (r : Int32), (r.toInt = -1001) → post r) : wp_X7_rate p1 now_race_clocks now_race_rate post := by
  unfold wp_X7_rate
  refine f_X7_isClock (by first | omega | assumption | exact AB.none (by omega) | exact AB.mono (by assumption) (by omega) (by omega) (by omega) (by omega)) (fun r1 q1 => ?_)
  refine ⟨fun c2 => ?_, fun c2 => ?_⟩
  · skip
    have t3 := ieq (a := r1.toInt) (b := 0) rfl rfl c2
    first
      | exfalso; omega
      | skip
        have t4 : ((-1001) : Int32).toInt = (-1001) := rfl
        exact hk _ (by first | omega | assumption | exact AB.none (by omega) | exact AB.mono (by assumption) (by omega) (by omega) (by omega) (by omega))
  · skip
    have t5 := ine (a := r1.toInt) (b := 0) rfl rfl c2
    exfalso; omega
set_option maxHeartbeats 1000000 in
set_option maxRecDepth 10000 in
theorem f_X7_isWindow {p1 : Int32} {now_race_windows : Int32} {post : Int32 → Prop} (hp0 : now_race_windows.toInt = 8) (hk : ∀ (r : Int32), (((0 ≤ p1.toInt ∧ p1.toInt ≤ 7) ∧ r.toInt = 1) ∨ (¬ (0 ≤ p1.toInt ∧ p1.toInt ≤ 7) ∧ r.toInt = 0)) → post r) : wp_X7_isWindow p1 now_race_windows post := by
  unfold wp_X7_isWindow
  have t1 : (0 : Int32).toInt = 0 := rfl
  try have t2 : (now_race_windows - 1).toInt = now_race_windows.toInt - 1 := isb rfl rfl (by omega) (by omega)
  refine f_X7_isIn  (fun r1 q3 => ?_)
  refine ⟨i01 (a := r1.toInt) rfl (by omega), ?_⟩
  exact hk _ (by first | omega | assumption | exact AB.none (by omega) | exact AB.mono (by assumption) (by omega) (by omega) (by omega) (by omega))
set_option maxHeartbeats 1000000 in
set_option maxRecDepth 10000 in
theorem f_X7_dial {p1 : Int32} {now_race_windows : Int32} {now_race_dials : Nat → Int32} {post : Int32 → Prop} (hp0 : now_race_windows.toInt = 8) (hp1 : AB now_race_dials 0 24 12 12) (hk : ∀ (r : Int32), (((0 ≤ p1.toInt ∧ p1.toInt ≤ 7) ∧ r.toInt = 12) ∨ (¬ (0 ≤ p1.toInt ∧ p1.toInt ≤ 7) ∧ r.toInt = -1)) → post r) : wp_X7_dial p1 now_race_windows now_race_dials post := by
  unfold wp_X7_dial
  refine f_X7_isWindow (by first | omega | assumption | exact AB.none (by omega) | exact AB.mono (by assumption) (by omega) (by omega) (by omega) (by omega)) (fun r1 q1 => ?_)
  refine ⟨fun c2 => ?_, fun c2 => ?_⟩
  · skip
    have t3 := ieq (a := r1.toInt) (b := 0) rfl rfl c2
    first
      | exfalso; omega
      | skip
        have t4 : ((-1) : Int32).toInt = (-1) := rfl
        exact hk _ (by first | omega | assumption | exact AB.none (by omega) | exact AB.mono (by assumption) (by omega) (by omega) (by omega) (by omega))
  · skip
    have t5 := ine (a := r1.toInt) (b := 0) rfl rfl c2
    first
      | exfalso; omega
      | skip
        refine ⟨ivp (a := p1.toInt) rfl (by omega) (by omega), ?_⟩
        try have q6 := AB.get (f := now_race_dials) (i := p1) (a := p1.toInt) (by assumption) rfl (by omega) (by omega) (by omega)
        exact hk _ (by first | omega | assumption | exact AB.none (by omega) | exact AB.mono (by assumption) (by omega) (by omega) (by omega) (by omega))
set_option maxHeartbeats 1000000 in
set_option maxRecDepth 10000 in
theorem f_X7_paint {p1 : Int32} {p2 : Int32} {now_race_windows : Int32} {now_race_dials : Nat → Int32} {post : Int32 → (Nat → Int32) → Prop} (hp0 : now_race_windows.toInt = 8) (hp1 : AB now_race_dials 0 24 12 12) (hk : ∀ (r : Int32) (now_race_dials' : Nat → Int32), (((0 ≤ p1.toInt ∧ p1.toInt ≤ 7 ∧ 0 ≤ p2.toInt ∧ p2.toInt ≤ 12) ∧ r.toInt = 12) ∨ (¬ (0 ≤ p1.toInt ∧ p1.toInt ≤ 7 ∧ 0 ≤ p2.toInt ∧ p2.toInt ≤ 12) ∧ r.toInt = -1)) → post r now_race_dials') : wp_X7_paint p1 p2 now_race_windows now_race_dials post := by
  unfold wp_X7_paint
  refine f_X7_isWindow (by first | omega | assumption | exact AB.none (by omega) | exact AB.mono (by assumption) (by omega) (by omega) (by omega) (by omega)) (fun r1 q1 => ?_)
  refine ⟨fun c2 => ?_, fun c2 => ?_⟩
  · skip
    have t3 := ieq (a := r1.toInt) (b := 0) rfl rfl c2
    first
      | exfalso; omega
      | skip
        have t4 : ((-1) : Int32).toInt = (-1) := rfl
        exact hk _ _ (by first | omega | assumption | exact AB.none (by omega) | exact AB.mono (by assumption) (by omega) (by omega) (by omega) (by omega))
  · skip
    have t5 := ine (a := r1.toInt) (b := 0) rfl rfl c2
    first
      | exfalso; omega
      | skip
        have t6 : (0 : Int32).toInt = 0 := rfl
        have t7 : (12 : Int32).toInt = 12 := rfl
        refine f_X7_isIn  (fun r3 q8 => ?_)
        refine ⟨fun c9 => ?_, fun c9 => ?_⟩
        · skip
          have t10 := ine (a := r3.toInt) (b := 0) rfl rfl c9
          first
            | exfalso; omega
            | skip
              refine ⟨ivp (a := p1.toInt) rfl (by omega) (by omega), ?_⟩
              try have q11 := AB.get (f := now_race_dials) (i := p1) (a := p1.toInt) (by assumption) rfl (by omega) (by omega) (by omega)
              intro z5 ez5
              have t12 : z5.toInt = (now_race_dials (Int32.toNatClampNeg p1)).toInt := by rw [ez5] <;> rfl
              refine ⟨ivp (a := p1.toInt) rfl (by omega) (by omega), ?_⟩
              intro f6 ef6
              have t13 : ((Int32.toNatClampNeg p1 : Nat) : Int) = p1.toInt := itn rfl (by omega)
              have t14 : (f6 (Int32.toNatClampNeg p1)).toInt = p2.toInt := by rw [ef6, upd_eq] <;> rfl
              try have q15 : AB f6 0 24 12 12 := by rw [ef6]; first | exact AB.updo (by assumption) (by omega) | exact AB.updv (by assumption) rfl (by omega) (by omega) | exact AB.none (by omega)
              exact hk _ _ (by first | omega | assumption | exact AB.none (by omega) | exact AB.mono (by assumption) (by omega) (by omega) (by omega) (by omega))
        · skip
          have t16 := ieq (a := r3.toInt) (b := 0) rfl rfl c9
          first
            | exfalso; omega
            | skip
              have t17 : ((-1) : Int32).toInt = (-1) := rfl
              exact hk _ _ (by first | omega | assumption | exact AB.none (by omega) | exact AB.mono (by assumption) (by omega) (by omega) (by omega) (by omega))
set_option maxHeartbeats 1000000 in
set_option maxRecDepth 10000 in
theorem f_X7_weather {p1 : Int32} {now_race_skies : Int32} {now_race_sky : Nat → Int32} {post : Int32 → Prop} (hp0 : now_race_skies.toInt = 1) (hp1 : AB now_race_sky 0 12 0 0) (hk : ∀ (r : Int32), (((0 ≤ p1.toInt ∧ p1.toInt ≤ 9999) ∧ r.toInt = 0) ∨ (¬ (0 ≤ p1.toInt ∧ p1.toInt ≤ 9999) ∧ r.toInt = -1)) → post r) : wp_X7_weather p1 now_race_skies now_race_sky post := by
  unfold wp_X7_weather
  have t1 : (0 : Int32).toInt = 0 := rfl
  have t2 : (9999 : Int32).toInt = 9999 := rfl
  refine f_X7_isIn  (fun r1 q3 => ?_)
  refine ⟨fun c4 => ?_, fun c4 => ?_⟩
  · skip
    have t5 := ieq (a := r1.toInt) (b := 0) rfl rfl c4
    first
      | exfalso; omega
      | skip
        have t6 : ((-1) : Int32).toInt = (-1) := rfl
        exact hk _ (by first | omega | assumption | exact AB.none (by omega) | exact AB.mono (by assumption) (by omega) (by omega) (by omega) (by omega))
  · skip
    have t7 := ine (a := r1.toInt) (b := 0) rfl rfl c4
    first
      | exfalso; omega
      | skip
        refine f_X2_weatherAt (by first | omega | assumption | exact AB.none (by omega) | exact AB.mono (by assumption) (by omega) (by omega) (by omega) (by omega)) (by first | omega | assumption | exact AB.none (by omega) | exact AB.mono (by assumption) (by omega) (by omega) (by omega) (by omega)) (by first | omega | assumption | exact AB.none (by omega) | exact AB.mono (by assumption) (by omega) (by omega) (by omega) (by omega)) (fun r3 q8 => ?_)
        exact hk _ (by first | omega | assumption | exact AB.none (by omega) | exact AB.mono (by assumption) (by omega) (by omega) (by omega) (by omega))
set_option maxHeartbeats 1000000 in
set_option maxRecDepth 10000 in
theorem f_X7_type {p1 : Int32} {tape_letters : Nat → Int32} {tape_size : Int32} {post : Int32 → (Nat → Int32) → (Int32) → Prop} (hp0 : tape_size.toInt = 0) (hk : ∀ (r : Int32) (tape_letters' : Nat → Int32) (tape_size' : Int32), (((32 ≤ p1.toInt ∧ p1.toInt ≤ 126) ∧ r.toInt = 1) ∨ (¬ (32 ≤ p1.toInt ∧ p1.toInt ≤ 126) ∧ r.toInt = -1)) → post r tape_letters' tape_size') : wp_X7_type p1 tape_letters tape_size post := by
  unfold wp_X7_type
  have t1 : (32 : Int32).toInt = 32 := rfl
  have t2 : (126 : Int32).toInt = 126 := rfl
  refine f_X7_isIn  (fun r1 q3 => ?_)
  refine ⟨fun c4 => ?_, fun c4 => ?_⟩
  · skip
    have t5 := ine (a := r1.toInt) (b := 0) rfl rfl c4
    first
      | exfalso; omega
      | skip
        refine ⟨fun c6 => ?_, fun c6 => ?_⟩
        · skip
          have t7 := ilt (a := tape_size.toInt) (b := 160) rfl rfl c6
          first
            | exfalso; omega
            | skip
              intro z4 ez4
              have t8 : z4.toInt = (UInt32.toInt32 (Int32.toUInt32 p1 % 65536)).toInt := by rw [ez4] <;> rfl
              refine ⟨ivp (a := tape_size.toInt) rfl (by omega) (by omega), ?_⟩
              intro f5 ef5
              try have t9 : (tape_size + 1).toInt = tape_size.toInt + 1 := ia rfl rfl (by omega) (by omega)
              intro z6 ez6
              have t10 : z6.toInt = (tape_size + 1).toInt := by rw [ez6] <;> rfl
              exact hk _ _ _ (by first | omega | assumption | exact AB.none (by omega) | exact AB.mono (by assumption) (by omega) (by omega) (by omega) (by omega))
        · skip
          have t11 := inlt (a := tape_size.toInt) (b := 160) rfl rfl c6
          exfalso; omega
  · skip
    have t12 := ieq (a := r1.toInt) (b := 0) rfl rfl c4
    first
      | exfalso; omega
      | skip
        have t13 : ((-1) : Int32).toInt = (-1) := rfl
        exact hk _ _ _ (by first | omega | assumption | exact AB.none (by omega) | exact AB.mono (by assumption) (by omega) (by omega) (by omega) (by omega))
set_option maxHeartbeats 1000000 in
set_option maxRecDepth 10000 in
theorem f_X7_course {now_race_windows : Int32} {now_race_dials : Nat → Int32} {now_race_clocks : Int32} {now_race_kind : Nat → Int32} {now_race_hands : Nat → Int32} {now_race_rate : Nat → Int32} {now_race_spring : Nat → Int32} {now_race_window : Nat → Int32} {now_race_finish : Nat → Int32} {now_race_skies : Int32} {now_race_sky : Nat → Int32} {now_race_hour : Int32} {now_race_heard : Int32} {now_race_strokes : Int32} {now_repairs_known : Int32} {trial_windows : Int32} {trial_dials : Nat → Int32} {trial_clocks : Int32} {trial_kind : Nat → Int32} {trial_hands : Nat → Int32} {trial_rate : Nat → Int32} {trial_spring : Nat → Int32} {trial_window : Nat → Int32} {trial_finish : Nat → Int32} {trial_skies : Int32} {trial_sky : Nat → Int32} {trial_hour : Int32} {trial_heard : Int32} {trial_strokes : Int32} {tape_letters : Nat → Int32} {tape_size : Int32} {tape_at : Int32} {tape_passed : Int32} {tape_fault : Int32} {post : Int32 → (Int32) → (Nat → Int32) → (Int32) → (Nat → Int32) → (Nat → Int32) → (Nat → Int32) → (Nat → Int32) → (Nat → Int32) → (Nat → Int32) → (Int32) → (Nat → Int32) → (Int32) → (Int32) → (Int32) → (Int32) → (Int32) → (Nat → Int32) → (Int32) → (Nat → Int32) → (Nat → Int32) → (Nat → Int32) → (Nat → Int32) → (Nat → Int32) → (Nat → Int32) → (Int32) → (Nat → Int32) → (Int32) → (Int32) → (Int32) → (Int32) → (Int32) → (Int32) → (Int32) → Prop} (hp0 : now_race_windows.toInt = 8) (hp1 : now_race_clocks.toInt = 0) (hp2 : now_race_skies.toInt = 1) (hp3 : 0 ≤ now_race_hour.toInt) (hp4 : now_race_hour.toInt ≤ 1000) (hp5 : AB now_race_dials 0 24 12 12) (hp6 : AB now_race_sky 0 12 0 0) (hp7 : now_race_heard.toInt = 0) (hp8 : now_race_strokes.toInt = 0) (hp9 : now_repairs_known.toInt = 0) (hp10 : trial_windows.toInt = 8) (hp11 : trial_clocks.toInt = 0) (hp12 : trial_skies.toInt = 1) (hp13 : 0 ≤ trial_hour.toInt) (hp14 : trial_hour.toInt ≤ 1000) (hp15 : AB trial_dials 0 24 12 12) (hp16 : AB trial_sky 0 12 0 0) (hp17 : trial_heard.toInt = 0) (hp18 : trial_strokes.toInt = 0) (hp19 : tape_size.toInt = 0) (hp20 : tape_at.toInt = 0) (hp21 : tape_passed.toInt = 0) (hp22 : now_race_hour.toInt = 0) (hk : ∀ (r : Int32) (now_race_windows' : Int32) (now_race_dials' : Nat → Int32) (now_race_clocks' : Int32) (now_race_kind' : Nat → Int32) (now_race_hands' : Nat → Int32) (now_race_rate' : Nat → Int32) (now_race_spring' : Nat → Int32) (now_race_window' : Nat → Int32) (now_race_finish' : Nat → Int32) (now_race_skies' : Int32) (now_race_sky' : Nat → Int32) (now_race_hour' : Int32) (now_race_heard' : Int32) (now_race_strokes' : Int32) (now_repairs_known' : Int32) (trial_windows' : Int32) (trial_dials' : Nat → Int32) (trial_clocks' : Int32) (trial_kind' : Nat → Int32) (trial_hands' : Nat → Int32) (trial_rate' : Nat → Int32) (trial_spring' : Nat → Int32) (trial_window' : Nat → Int32) (trial_finish' : Nat → Int32) (trial_skies' : Int32) (trial_sky' : Nat → Int32) (trial_hour' : Int32) (trial_heard' : Int32) (trial_strokes' : Int32) (tape_size' : Int32) (tape_at' : Int32) (tape_passed' : Int32) (tape_fault' : Int32), (r.toInt = -20) → post r now_race_windows' now_race_dials' now_race_clocks' now_race_kind' now_race_hands' now_race_rate' now_race_spring' now_race_window' now_race_finish' now_race_skies' now_race_sky' now_race_hour' now_race_heard' now_race_strokes' now_repairs_known' trial_windows' trial_dials' trial_clocks' trial_kind' trial_hands' trial_rate' trial_spring' trial_window' trial_finish' trial_skies' trial_sky' trial_hour' trial_heard' trial_strokes' tape_size' tape_at' tape_passed' tape_fault') : wp_X7_course now_race_windows now_race_dials now_race_clocks now_race_kind now_race_hands now_race_rate now_race_spring now_race_window now_race_finish now_race_skies now_race_sky now_race_hour now_race_heard now_race_strokes now_repairs_known trial_windows trial_dials trial_clocks trial_kind trial_hands trial_rate trial_spring trial_window trial_finish trial_skies trial_sky trial_hour trial_heard trial_strokes tape_letters tape_size tape_at tape_passed tape_fault post := by
  unfold wp_X7_course
  refine f_X2_become (by first | omega | assumption | exact AB.none (by omega) | exact AB.mono (by assumption) (by omega) (by omega) (by omega) (by omega)) (by first | omega | assumption | exact AB.none (by omega) | exact AB.mono (by assumption) (by omega) (by omega) (by omega) (by omega)) (by first | omega | assumption | exact AB.none (by omega) | exact AB.mono (by assumption) (by omega) (by omega) (by omega) (by omega)) (by first | omega | assumption | exact AB.none (by omega) | exact AB.mono (by assumption) (by omega) (by omega) (by omega) (by omega)) (by first | omega | assumption | exact AB.none (by omega) | exact AB.mono (by assumption) (by omega) (by omega) (by omega) (by omega)) (by first | omega | assumption | exact AB.none (by omega) | exact AB.mono (by assumption) (by omega) (by omega) (by omega) (by omega)) (by first | omega | assumption | exact AB.none (by omega) | exact AB.mono (by assumption) (by omega) (by omega) (by omega) (by omega)) (by first | omega | assumption | exact AB.none (by omega) | exact AB.mono (by assumption) (by omega) (by omega) (by omega) (by omega)) (by first | omega | assumption | exact AB.none (by omega) | exact AB.mono (by assumption) (by omega) (by omega) (by omega) (by omega)) (by first | omega | assumption | exact AB.none (by omega) | exact AB.mono (by assumption) (by omega) (by omega) (by omega) (by omega)) (by first | omega | assumption | exact AB.none (by omega) | exact AB.mono (by assumption) (by omega) (by omega) (by omega) (by omega)) (by first | omega | assumption | exact AB.none (by omega) | exact AB.mono (by assumption) (by omega) (by omega) (by omega) (by omega)) (by first | omega | assumption | exact AB.none (by omega) | exact AB.mono (by assumption) (by omega) (by omega) (by omega) (by omega)) (by first | omega | assumption | exact AB.none (by omega) | exact AB.mono (by assumption) (by omega) (by omega) (by omega) (by omega)) (by first | omega | assumption | exact AB.none (by omega) | exact AB.mono (by assumption) (by omega) (by omega) (by omega) (by omega)) (by first | omega | assumption | exact AB.none (by omega) | exact AB.mono (by assumption) (by omega) (by omega) (by omega) (by omega)) (by first | omega | assumption | exact AB.none (by omega) | exact AB.mono (by assumption) (by omega) (by omega) (by omega) (by omega)) (by first | omega | assumption | exact AB.none (by omega) | exact AB.mono (by assumption) (by omega) (by omega) (by omega) (by omega)) (fun trial_windows_2 trial_dials_3 trial_clocks_4 trial_kind_5 trial_hands_6 trial_rate_7 trial_spring_8 trial_window_9 trial_finish_10 trial_skies_11 trial_sky_12 trial_hour_13 trial_heard_14 trial_strokes_15 q1 q2 q3 q4 q5 q6 q7 q8 q9 => ?_)
  have t10 : (2 : Int32).toInt = 2 := rfl
  have t11 : (24 : Int32).toInt = 24 := rfl
  refine f_X5_readSigns (by first | omega | assumption | exact AB.none (by omega) | exact AB.mono (by assumption) (by omega) (by omega) (by omega) (by omega)) (by first | omega | assumption | exact AB.none (by omega) | exact AB.mono (by assumption) (by omega) (by omega) (by omega) (by omega)) (by first | omega | assumption | exact AB.none (by omega) | exact AB.mono (by assumption) (by omega) (by omega) (by omega) (by omega)) (by first | omega | assumption | exact AB.none (by omega) | exact AB.mono (by assumption) (by omega) (by omega) (by omega) (by omega)) (by first | omega | assumption | exact AB.none (by omega) | exact AB.mono (by assumption) (by omega) (by omega) (by omega) (by omega)) (by first | omega | assumption | exact AB.none (by omega) | exact AB.mono (by assumption) (by omega) (by omega) (by omega) (by omega)) (by first | omega | assumption | exact AB.none (by omega) | exact AB.mono (by assumption) (by omega) (by omega) (by omega) (by omega)) (fun r16 tape_at_17 tape_passed_18 tape_fault_19 trial_dials_20 q12 q13 q14 => ?_)
  refine ⟨fun c15 => ?_, fun c15 => ?_⟩
  · skip
    have t16 := ile (a := 0) (b := r16.toInt) rfl rfl c15
    exfalso; omega
  · skip
    have t17 := inle (a := 0) (b := r16.toInt) rfl rfl c15
    first
      | exfalso; omega
      | skip
        have t18 : (0 : Int32).toInt = 0 := rfl
        exact hk _ _ _ _ _ _ _ _ _ _ _ _ _ _ _ _ _ _ _ _ _ _ _ _ _ _ _ _ _ _ _ _ _ _ (by first | omega | assumption | exact AB.none (by omega) | exact AB.mono (by assumption) (by omega) (by omega) (by omega) (by omega))
set_option maxHeartbeats 1000000 in
set_option maxRecDepth 10000 in
theorem f_X7_skies {now_race_windows : Int32} {now_race_dials : Nat → Int32} {now_race_clocks : Int32} {now_race_kind : Nat → Int32} {now_race_hands : Nat → Int32} {now_race_rate : Nat → Int32} {now_race_spring : Nat → Int32} {now_race_window : Nat → Int32} {now_race_finish : Nat → Int32} {now_race_skies : Int32} {now_race_sky : Nat → Int32} {now_race_hour : Int32} {now_race_heard : Int32} {now_race_strokes : Int32} {trial_windows : Int32} {trial_dials : Nat → Int32} {trial_clocks : Int32} {trial_kind : Nat → Int32} {trial_hands : Nat → Int32} {trial_rate : Nat → Int32} {trial_spring : Nat → Int32} {trial_window : Nat → Int32} {trial_finish : Nat → Int32} {trial_skies : Int32} {trial_sky : Nat → Int32} {trial_hour : Int32} {trial_heard : Int32} {trial_strokes : Int32} {tape_letters : Nat → Int32} {tape_size : Int32} {tape_at : Int32} {tape_passed : Int32} {tape_fault : Int32} {post : Int32 → (Int32) → (Nat → Int32) → (Int32) → (Nat → Int32) → (Nat → Int32) → (Nat → Int32) → (Nat → Int32) → (Nat → Int32) → (Nat → Int32) → (Int32) → (Nat → Int32) → (Int32) → (Int32) → (Int32) → (Int32) → (Nat → Int32) → (Int32) → (Nat → Int32) → (Nat → Int32) → (Nat → Int32) → (Nat → Int32) → (Nat → Int32) → (Nat → Int32) → (Int32) → (Nat → Int32) → (Int32) → (Int32) → (Int32) → (Int32) → (Int32) → (Int32) → (Int32) → Prop} (hp0 : now_race_windows.toInt = 8) (hp1 : now_race_clocks.toInt = 0) (hp2 : now_race_skies.toInt = 1) (hp3 : 0 ≤ now_race_hour.toInt) (hp4 : now_race_hour.toInt ≤ 1000) (hp5 : AB now_race_dials 0 24 12 12) (hp6 : AB now_race_sky 0 12 0 0) (hp7 : now_race_heard.toInt = 0) (hp8 : now_race_strokes.toInt = 0) (hp9 : trial_windows.toInt = 8) (hp10 : trial_clocks.toInt = 0) (hp11 : trial_skies.toInt = 1) (hp12 : 0 ≤ trial_hour.toInt) (hp13 : trial_hour.toInt ≤ 1000) (hp14 : AB trial_dials 0 24 12 12) (hp15 : AB trial_sky 0 12 0 0) (hp16 : trial_heard.toInt = 0) (hp17 : trial_strokes.toInt = 0) (hp18 : tape_size.toInt = 0) (hp19 : tape_at.toInt = 0) (hp20 : tape_passed.toInt = 0) (hp21 : now_race_hour.toInt = 0) (hk : ∀ (r : Int32) (now_race_windows' : Int32) (now_race_dials' : Nat → Int32) (now_race_clocks' : Int32) (now_race_kind' : Nat → Int32) (now_race_hands' : Nat → Int32) (now_race_rate' : Nat → Int32) (now_race_spring' : Nat → Int32) (now_race_window' : Nat → Int32) (now_race_finish' : Nat → Int32) (now_race_skies' : Int32) (now_race_sky' : Nat → Int32) (now_race_hour' : Int32) (now_race_heard' : Int32) (now_race_strokes' : Int32) (trial_windows' : Int32) (trial_dials' : Nat → Int32) (trial_clocks' : Int32) (trial_kind' : Nat → Int32) (trial_hands' : Nat → Int32) (trial_rate' : Nat → Int32) (trial_spring' : Nat → Int32) (trial_window' : Nat → Int32) (trial_finish' : Nat → Int32) (trial_skies' : Int32) (trial_sky' : Nat → Int32) (trial_hour' : Int32) (trial_heard' : Int32) (trial_strokes' : Int32) (tape_size' : Int32) (tape_at' : Int32) (tape_passed' : Int32) (tape_fault' : Int32), (r.toInt = -20) → post r now_race_windows' now_race_dials' now_race_clocks' now_race_kind' now_race_hands' now_race_rate' now_race_spring' now_race_window' now_race_finish' now_race_skies' now_race_sky' now_race_hour' now_race_heard' now_race_strokes' trial_windows' trial_dials' trial_clocks' trial_kind' trial_hands' trial_rate' trial_spring' trial_window' trial_finish' trial_skies' trial_sky' trial_hour' trial_heard' trial_strokes' tape_size' tape_at' tape_passed' tape_fault') : wp_X7_skies now_race_windows now_race_dials now_race_clocks now_race_kind now_race_hands now_race_rate now_race_spring now_race_window now_race_finish now_race_skies now_race_sky now_race_hour now_race_heard now_race_strokes trial_windows trial_dials trial_clocks trial_kind trial_hands trial_rate trial_spring trial_window trial_finish trial_skies trial_sky trial_hour trial_heard trial_strokes tape_letters tape_size tape_at tape_passed tape_fault post := by
  unfold wp_X7_skies
  refine f_X2_become (by first | omega | assumption | exact AB.none (by omega) | exact AB.mono (by assumption) (by omega) (by omega) (by omega) (by omega)) (by first | omega | assumption | exact AB.none (by omega) | exact AB.mono (by assumption) (by omega) (by omega) (by omega) (by omega)) (by first | omega | assumption | exact AB.none (by omega) | exact AB.mono (by assumption) (by omega) (by omega) (by omega) (by omega)) (by first | omega | assumption | exact AB.none (by omega) | exact AB.mono (by assumption) (by omega) (by omega) (by omega) (by omega)) (by first | omega | assumption | exact AB.none (by omega) | exact AB.mono (by assumption) (by omega) (by omega) (by omega) (by omega)) (by first | omega | assumption | exact AB.none (by omega) | exact AB.mono (by assumption) (by omega) (by omega) (by omega) (by omega)) (by first | omega | assumption | exact AB.none (by omega) | exact AB.mono (by assumption) (by omega) (by omega) (by omega) (by omega)) (by first | omega | assumption | exact AB.none (by omega) | exact AB.mono (by assumption) (by omega) (by omega) (by omega) (by omega)) (by first | omega | assumption | exact AB.none (by omega) | exact AB.mono (by assumption) (by omega) (by omega) (by omega) (by omega)) (by first | omega | assumption | exact AB.none (by omega) | exact AB.mono (by assumption) (by omega) (by omega) (by omega) (by omega)) (by first | omega | assumption | exact AB.none (by omega) | exact AB.mono (by assumption) (by omega) (by omega) (by omega) (by omega)) (by first | omega | assumption | exact AB.none (by omega) | exact AB.mono (by assumption) (by omega) (by omega) (by omega) (by omega)) (by first | omega | assumption | exact AB.none (by omega) | exact AB.mono (by assumption) (by omega) (by omega) (by omega) (by omega)) (by first | omega | assumption | exact AB.none (by omega) | exact AB.mono (by assumption) (by omega) (by omega) (by omega) (by omega)) (by first | omega | assumption | exact AB.none (by omega) | exact AB.mono (by assumption) (by omega) (by omega) (by omega) (by omega)) (by first | omega | assumption | exact AB.none (by omega) | exact AB.mono (by assumption) (by omega) (by omega) (by omega) (by omega)) (by first | omega | assumption | exact AB.none (by omega) | exact AB.mono (by assumption) (by omega) (by omega) (by omega) (by omega)) (by first | omega | assumption | exact AB.none (by omega) | exact AB.mono (by assumption) (by omega) (by omega) (by omega) (by omega)) (fun trial_windows_2 trial_dials_3 trial_clocks_4 trial_kind_5 trial_hands_6 trial_rate_7 trial_spring_8 trial_window_9 trial_finish_10 trial_skies_11 trial_sky_12 trial_hour_13 trial_heard_14 trial_strokes_15 q1 q2 q3 q4 q5 q6 q7 q8 q9 => ?_)
  have t10 : (1 : Int32).toInt = 1 := rfl
  have t11 : (12 : Int32).toInt = 12 := rfl
  refine f_X5_readSigns (by first | omega | assumption | exact AB.none (by omega) | exact AB.mono (by assumption) (by omega) (by omega) (by omega) (by omega)) (by first | omega | assumption | exact AB.none (by omega) | exact AB.mono (by assumption) (by omega) (by omega) (by omega) (by omega)) (by first | omega | assumption | exact AB.none (by omega) | exact AB.mono (by assumption) (by omega) (by omega) (by omega) (by omega)) (by first | omega | assumption | exact AB.none (by omega) | exact AB.mono (by assumption) (by omega) (by omega) (by omega) (by omega)) (by first | omega | assumption | exact AB.none (by omega) | exact AB.mono (by assumption) (by omega) (by omega) (by omega) (by omega)) (by first | omega | assumption | exact AB.none (by omega) | exact AB.mono (by assumption) (by omega) (by omega) (by omega) (by omega)) (by first | omega | assumption | exact AB.none (by omega) | exact AB.mono (by assumption) (by omega) (by omega) (by omega) (by omega)) (fun r16 tape_at_17 tape_passed_18 tape_fault_19 trial_sky_20 q12 q13 q14 => ?_)
  refine ⟨fun c15 => ?_, fun c15 => ?_⟩
  · skip
    have t16 := ile (a := 0) (b := r16.toInt) rfl rfl c15
    exfalso; omega
  · skip
    have t17 := inle (a := 0) (b := r16.toInt) rfl rfl c15
    first
      | exfalso; omega
      | skip
        have t18 : (0 : Int32).toInt = 0 := rfl
        exact hk _ _ _ _ _ _ _ _ _ _ _ _ _ _ _ _ _ _ _ _ _ _ _ _ _ _ _ _ _ _ _ _ _ (by first | omega | assumption | exact AB.none (by omega) | exact AB.mono (by assumption) (by omega) (by omega) (by omega) (by omega))
