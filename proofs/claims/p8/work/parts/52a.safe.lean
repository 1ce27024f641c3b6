set_option maxHeartbeats 1000000 in
set_option maxRecDepth 10000 in
theorem s_J0_coder_7d493 {i0 : Nat} {post : Int32 → Prop} (hp0 : i0 < 3) (hk : ∀ (r : Int32), (r.toInt = 0) → post r) : wp_J0_coder_7d493 i0 post := by
  unfold wp_J0_coder_7d493
  refine ⟨hp0, ?_⟩
  refine ⟨fun c1 => ?_, fun c1 => ?_⟩
  · skip
    have t2 := ieq (a := 1) (b := 0) rfl rfl c1
    exfalso; omega
  · skip
    have t3 := ine (a := 1) (b := 0) rfl rfl c1
    have t4 : (0 : Int32).toInt = 0 := rfl
    exact hk _ (by first | omega | assumption | exact AB.none (by omega) | exact AB.mono (by assumption) (by omega) (by omega) (by omega) (by omega) | exact RB.none (by omega) | exact RB.mono (by assumption) (by omega) | exact UB.none (by omega) | exact UB.mono (by assumption) (by omega) | exact EQ.none (by omega) | exact EQ.mono (by assumption) (by omega))
set_option maxHeartbeats 1000000 in
set_option maxRecDepth 10000 in
theorem s_J0_length_8abf5 {i0 : Nat} {post : Int32 → Prop} (hp0 : i0 < 3) (hk : ∀ (r : Int32), post r) : wp_J0_length_8abf5 i0 post := by
  unfold wp_J0_length_8abf5
  refine ⟨hp0, ?_⟩
  refine s_J0_coder_7d493 (by first | omega | assumption | exact AB.none (by omega) | exact AB.mono (by assumption) (by omega) (by omega) (by omega) (by omega) | exact RB.none (by omega) | exact RB.mono (by assumption) (by omega) | exact UB.none (by omega) | exact UB.mono (by assumption) (by omega) | exact EQ.none (by omega) | exact EQ.mono (by assumption) (by omega)) (fun r1 q1 => ?_)
  try have t2 : (Int32.ofNat (STL.getD i0 0)).toInt = ((STL.getD i0 0) : Int) := Int32.toInt_ofNat_of_lt (by omega)
  exact hk _
set_option maxHeartbeats 1000000 in
set_option maxRecDepth 10000 in
theorem s_J0_isLatin1_aae02 {i0 : Nat} {post : Int32 → Prop} (hp0 : i0 < 3) (hk : ∀ (r : Int32), (r.toInt = 1) → post r) : wp_J0_isLatin1_aae02 i0 post := by
  unfold wp_J0_isLatin1_aae02
  refine ⟨hp0, ?_⟩
  refine ⟨fun c1 => ?_, fun c1 => ?_⟩
  · skip
    have t2 := ieq (a := 1) (b := 0) rfl rfl c1
    exfalso; omega
  · skip
    have t3 := ine (a := 1) (b := 0) rfl rfl c1
    refine ⟨fun c4 => ?_, fun c4 => ?_⟩
    · skip
      have t5 := ine (a := 0) (b := 0) rfl rfl c4
      exfalso; omega
    · skip
      have t6 := ieq (a := 0) (b := 0) rfl rfl c4
      have t7 : (1 : Int32).toInt = 1 := rfl
      exact hk _ (by first | omega | assumption | exact AB.none (by omega) | exact AB.mono (by assumption) (by omega) (by omega) (by omega) (by omega) | exact RB.none (by omega) | exact RB.mono (by assumption) (by omega) | exact UB.none (by omega) | exact UB.mono (by assumption) (by omega) | exact EQ.none (by omega) | exact EQ.mono (by assumption) (by omega))
set_option maxHeartbeats 1000000 in
set_option maxRecDepth 10000 in
theorem s_J1_canEncode_9a6ad {p1 : Int32} {post : Int32 → Prop} (hk : ∀ (r : Int32), (0 ≤ r.toInt) → (r.toInt ≤ 1) → post r) : wp_J1_canEncode_9a6ad p1 post := by
  unfold wp_J1_canEncode_9a6ad
  have rp1 := Int32.toInt_lt p1
  have rq1 := Int32.le_toInt p1
  refine ⟨fun c1 => ?_, fun c1 => ?_⟩
  · skip
    have t2 := ilt (a := p1.toInt) (b := 0) rfl rfl c1
    have t3 : (0 : Int32).toInt = 0 := rfl
    exact hk _ (by first | omega | assumption | exact AB.none (by omega) | exact AB.mono (by assumption) (by omega) (by omega) (by omega) (by omega) | exact RB.none (by omega) | exact RB.mono (by assumption) (by omega) | exact UB.none (by omega) | exact UB.mono (by assumption) (by omega) | exact EQ.none (by omega) | exact EQ.mono (by assumption) (by omega)) (by first | omega | assumption | exact AB.none (by omega) | exact AB.mono (by assumption) (by omega) (by omega) (by omega) (by omega) | exact RB.none (by omega) | exact RB.mono (by assumption) (by omega) | exact UB.none (by omega) | exact UB.mono (by assumption) (by omega) | exact EQ.none (by omega) | exact EQ.mono (by assumption) (by omega))
  · skip
    have t4 := inlt (a := p1.toInt) (b := 0) rfl rfl c1
    refine ⟨fun c5 => ?_, fun c5 => ?_⟩
    · skip
      have t6 := ilt (a := 255) (b := p1.toInt) rfl rfl c5
      have t7 : (0 : Int32).toInt = 0 := rfl
      exact hk _ (by first | omega | assumption | exact AB.none (by omega) | exact AB.mono (by assumption) (by omega) (by omega) (by omega) (by omega) | exact RB.none (by omega) | exact RB.mono (by assumption) (by omega) | exact UB.none (by omega) | exact UB.mono (by assumption) (by omega) | exact EQ.none (by omega) | exact EQ.mono (by assumption) (by omega)) (by first | omega | assumption | exact AB.none (by omega) | exact AB.mono (by assumption) (by omega) (by omega) (by omega) (by omega) | exact RB.none (by omega) | exact RB.mono (by assumption) (by omega) | exact UB.none (by omega) | exact UB.mono (by assumption) (by omega) | exact EQ.none (by omega) | exact EQ.mono (by assumption) (by omega))
    · skip
      have t8 := inlt (a := 255) (b := p1.toInt) rfl rfl c5
      have t9 : (1 : Int32).toInt = 1 := rfl
      exact hk _ (by first | omega | assumption | exact AB.none (by omega) | exact AB.mono (by assumption) (by omega) (by omega) (by omega) (by omega) | exact RB.none (by omega) | exact RB.mono (by assumption) (by omega) | exact UB.none (by omega) | exact UB.mono (by assumption) (by omega) | exact EQ.none (by omega) | exact EQ.mono (by assumption) (by omega)) (by first | omega | assumption | exact AB.none (by omega) | exact AB.mono (by assumption) (by omega) (by omega) (by omega) (by omega) | exact RB.none (by omega) | exact RB.mono (by assumption) (by omega) | exact UB.none (by omega) | exact UB.mono (by assumption) (by omega) | exact EQ.none (by omega) | exact EQ.mono (by assumption) (by omega))
set_option maxHeartbeats 1000000 in
set_option maxRecDepth 10000 in
theorem s_J1_indexOfChar_4cfef {p2 : Int32} {p3 : Int32} {p4 : Int32} {i1 : Nat} {post : Int32 → Prop} (hp0 : i1 < 3) (hp1 : 0 ≤ p3.toInt) (hp2 : p4.toInt ≤ (STL.getD i1 0 : Int)) (hk : ∀ (r : Int32), post r) : wp_J1_indexOfChar_4cfef p2 p3 p4 i1 post := by
  unfold wp_J1_indexOfChar_4cfef
  refine ⟨hp0, ?_⟩
  have rp2 := Int32.toInt_lt p2
  have rq2 := Int32.le_toInt p2
  have rp3 := Int32.toInt_lt p3
  have rq3 := Int32.le_toInt p3
  have rp4 := Int32.toInt_lt p4
  have rq4 := Int32.le_toInt p4
  have hstl := stl13 i1
  intro z1 ez1
  have t1 : z1.toInt = (Int8.toInt32 (Int32.toInt8 p2)).toInt := by rw [ez1] <;> rfl
  refine ⟨fun n2 x5_2 => n2 = (p4.toInt - x5_2.toInt).toNat ∧ (p3.toInt ≤ x5_2.toInt), ⟨_, rfl, by first | omega | assumption | exact AB.none (by omega) | exact AB.mono (by assumption) (by omega) (by omega) (by omega) (by omega) | exact RB.none (by omega) | exact RB.mono (by assumption) (by omega) | exact UB.none (by omega) | exact UB.mono (by assumption) (by omega) | exact EQ.none (by omega) | exact EQ.mono (by assumption) (by omega)⟩, ?_⟩
  rintro n2 x5_2 ⟨hn2, q2⟩
  refine ⟨fun c3 => ?_, fun c3 => ?_⟩
  · skip
    have t4 := ile (a := p4.toInt) (b := x5_2.toInt) rfl rfl c3
    have t5 : ((-1) : Int32).toInt = (-1) := rfl
    exact hk _
  · skip
    have t6 := inle (a := p4.toInt) (b := x5_2.toInt) rfl rfl c3
    refine ⟨ivp (a := x5_2.toInt) rfl (by omega) (by omega), ?_⟩
    refine ⟨fun c7 => ?_, fun c7 => ?_⟩
    · skip
      have t8 := ine (a := ((STB.getD i1 []).getD (Int32.toNatClampNeg x5_2) 0).toInt) (b := z1.toInt) rfl rfl c7
      try have t9 : (x5_2 + 1).toInt = x5_2.toInt + 1 := ia rfl rfl (by omega) (by omega)
      intro z5 ez5
      have t10 : z5.toInt = (x5_2 + 1).toInt := by rw [ez5] <;> rfl
      refine ⟨_, ?_, rfl, by first | omega | assumption | exact AB.none (by omega) | exact AB.mono (by assumption) (by omega) (by omega) (by omega) (by omega) | exact RB.none (by omega) | exact RB.mono (by assumption) (by omega) | exact UB.none (by omega) | exact UB.mono (by assumption) (by omega) | exact EQ.none (by omega) | exact EQ.mono (by assumption) (by omega)⟩
      omega
    · skip
      have t11 := ieq (a := ((STB.getD i1 []).getD (Int32.toNatClampNeg x5_2) 0).toInt) (b := z1.toInt) rfl rfl c7
      exact hk _
set_option maxHeartbeats 1000000 in
set_option maxRecDepth 10000 in
theorem s_J1_indexOf_4cfef {p2 : Int32} {p3 : Int32} {p4 : Int32} {i1 : Nat} {post : Int32 → Prop} (hp0 : i1 < 3) (hk : ∀ (r : Int32), post r) : wp_J1_indexOf_4cfef p2 p3 p4 i1 post := by
  unfold wp_J1_indexOf_4cfef
  refine ⟨hp0, ?_⟩
  have rp2 := Int32.toInt_lt p2
  have rq2 := Int32.le_toInt p2
  have rp3 := Int32.toInt_lt p3
  have rq3 := Int32.le_toInt p3
  have rp4 := Int32.toInt_lt p4
  have rq4 := Int32.le_toInt p4
  have hstl := stl13 i1
  refine s_J1_canEncode_9a6ad  (fun r1 q1 q2 => ?_)
  refine ⟨fun c3 => ?_, fun c3 => ?_⟩
  · skip
    have t4 := ine (a := r1.toInt) (b := 0) rfl rfl c3
    have t5 := iit (x := p3) (y := 0) (p := 0) (q := p3) (a := p3.toInt) (b := 0) (c := 0) (d := p3.toInt) rfl rfl rfl rfl
    intro z3 ez3
    have t6 : z3.toInt = (if p3 < 0 then 0 else p3).toInt := by rw [ez3] <;> rfl
    try have t7 : (Int32.ofNat (STL.getD i1 0)).toInt = ((STL.getD i1 0) : Int) := Int32.toInt_ofNat_of_lt (by omega)
    have t8 := iit (x := (Int32.ofNat (STL.getD i1 0))) (y := p4) (p := (Int32.ofNat (STL.getD i1 0))) (q := p4) (a := (Int32.ofNat (STL.getD i1 0)).toInt) (b := p4.toInt) (c := (Int32.ofNat (STL.getD i1 0)).toInt) (d := p4.toInt) rfl rfl rfl rfl
    intro z4 ez4
    have t9 : z4.toInt = (if (Int32.ofNat (STL.getD i1 0)) < p4 then (Int32.ofNat (STL.getD i1 0)) else p4).toInt := by rw [ez4] <;> rfl
    refine ⟨fun c10 => ?_, fun c10 => ?_⟩
    · skip
      have t11 := ilt (a := z3.toInt) (b := z4.toInt) rfl rfl c10
      refine s_J1_indexOfChar_4cfef (by first | omega | assumption | exact AB.none (by omega) | exact AB.mono (by assumption) (by omega) (by omega) (by omega) (by omega) | exact RB.none (by omega) | exact RB.mono (by assumption) (by omega) | exact UB.none (by omega) | exact UB.mono (by assumption) (by omega) | exact EQ.none (by omega) | exact EQ.mono (by assumption) (by omega)) (by first | omega | assumption | exact AB.none (by omega) | exact AB.mono (by assumption) (by omega) (by omega) (by omega) (by omega) | exact RB.none (by omega) | exact RB.mono (by assumption) (by omega) | exact UB.none (by omega) | exact UB.mono (by assumption) (by omega) | exact EQ.none (by omega) | exact EQ.mono (by assumption) (by omega)) (by first | omega | assumption | exact AB.none (by omega) | exact AB.mono (by assumption) (by omega) (by omega) (by omega) (by omega) | exact RB.none (by omega) | exact RB.mono (by assumption) (by omega) | exact UB.none (by omega) | exact UB.mono (by assumption) (by omega) | exact EQ.none (by omega) | exact EQ.mono (by assumption) (by omega)) (fun r6 => ?_)
      exact hk _
    · skip
      have t12 := inlt (a := z3.toInt) (b := z4.toInt) rfl rfl c10
      have t13 : ((-1) : Int32).toInt = (-1) := rfl
      exact hk _
  · skip
    have t14 := ieq (a := r1.toInt) (b := 0) rfl rfl c3
    have t15 : ((-1) : Int32).toInt = (-1) := rfl
    exact hk _
set_option maxHeartbeats 1000000 in
set_option maxRecDepth 10000 in
theorem s_J0_indexOf_7cf53 {p1 : Int32} {p2 : Int32} {i0 : Nat} {post : Int32 → Prop} (hp0 : i0 < 3) (hk : ∀ (r : Int32), post r) : wp_J0_indexOf_7cf53 p1 p2 i0 post := by
  unfold wp_J0_indexOf_7cf53
  refine ⟨hp0, ?_⟩
  have rp1 := Int32.toInt_lt p1
  have rq1 := Int32.le_toInt p1
  have rp2 := Int32.toInt_lt p2
  have rq2 := Int32.le_toInt p2
  refine s_J0_isLatin1_aae02 (by first | omega | assumption | exact AB.none (by omega) | exact AB.mono (by assumption) (by omega) (by omega) (by omega) (by omega) | exact RB.none (by omega) | exact RB.mono (by assumption) (by omega) | exact UB.none (by omega) | exact UB.mono (by assumption) (by omega) | exact EQ.none (by omega) | exact EQ.mono (by assumption) (by omega)) (fun r1 q1 => ?_)
  refine ⟨fun c2 => ?_, fun c2 => ?_⟩
  · skip
    have t3 := ieq (a := r1.toInt) (b := 0) rfl rfl c2
    exfalso; omega
  · skip
    have t4 := ine (a := r1.toInt) (b := 0) rfl rfl c2
    refine s_J0_length_8abf5 (by first | omega | assumption | exact AB.none (by omega) | exact AB.mono (by assumption) (by omega) (by omega) (by omega) (by omega) | exact RB.none (by omega) | exact RB.mono (by assumption) (by omega) | exact UB.none (by omega) | exact UB.mono (by assumption) (by omega) | exact EQ.none (by omega) | exact EQ.mono (by assumption) (by omega)) (fun r3 => ?_)
    refine s_J1_indexOf_4cfef (by first | omega | assumption | exact AB.none (by omega) | exact AB.mono (by assumption) (by omega) (by omega) (by omega) (by omega) | exact RB.none (by omega) | exact RB.mono (by assumption) (by omega) | exact UB.none (by omega) | exact UB.mono (by assumption) (by omega) | exact EQ.none (by omega) | exact EQ.mono (by assumption) (by omega)) (fun r4 => ?_)
    exact hk _
set_option maxHeartbeats 1000000 in
set_option maxRecDepth 10000 in
theorem s_J0_indexOf_0f7a4 {p1 : Int32} {i0 : Nat} {post : Int32 → Prop} (hp0 : i0 < 3) (hk : ∀ (r : Int32), post r) : wp_J0_indexOf_0f7a4 p1 i0 post := by
  unfold wp_J0_indexOf_0f7a4
  refine ⟨hp0, ?_⟩
  have rp1 := Int32.toInt_lt p1
  have rq1 := Int32.le_toInt p1
  have t1 : (0 : Int32).toInt = 0 := rfl
  refine s_J0_indexOf_7cf53 (by first | omega | assumption | exact AB.none (by omega) | exact AB.mono (by assumption) (by omega) (by omega) (by omega) (by omega) | exact RB.none (by omega) | exact RB.mono (by assumption) (by omega) | exact UB.none (by omega) | exact UB.mono (by assumption) (by omega) | exact EQ.none (by omega) | exact EQ.mono (by assumption) (by omega)) (fun r1 => ?_)
  exact hk _
set_option maxHeartbeats 1000000 in
set_option maxRecDepth 10000 in
theorem s_X0_become {v_size : Int32} {v_on : Nat → Int32} {v_stake : Nat → Int32} {p1_size : Int32} {p1_on : Nat → Int32} {p1_stake : Nat → Int32} {post : (Int32) → (Nat → Int32) → (Nat → Int32) → Prop} (hp0 : 0 ≤ v_size.toInt) (hp1 : v_size.toInt ≤ 6) (hp2 : 0 ≤ p1_size.toInt) (hp3 : p1_size.toInt ≤ 6) (hk : ∀ (v_size' : Int32) (v_on' : Nat → Int32) (v_stake' : Nat → Int32), (0 ≤ v_size'.toInt) → (v_size'.toInt ≤ 6) → (v_size'.toInt = p1_size.toInt) → post v_size' v_on' v_stake') : wp_X0_become v_size v_on v_stake p1_size p1_on p1_stake post := by
  unfold wp_X0_become
  have t1 : ((Int32.toNatClampNeg 0 : Nat) : Int) = 0 := itn rfl (by omega)
  have t2 : ((Int32.toNatClampNeg p1_size : Nat) : Int) = p1_size.toInt := itn rfl (by omega)
  refine ⟨fun h0 => absurd (ilt (a := 0) (b := 0) rfl rfl h0) (by omega), fun h0 => absurd (ilt (a := 0) (b := 0) rfl rfl h0) (by omega), fun h0 => absurd (ilt (a := p1_size.toInt) (b := 0) rfl rfl h0) (by omega), by omega, by omega, ?_⟩
  intro f1 ef1
  refine ⟨fun h0 => absurd (ilt (a := 0) (b := 0) rfl rfl h0) (by omega), fun h0 => absurd (ilt (a := 0) (b := 0) rfl rfl h0) (by omega), fun h0 => absurd (ilt (a := p1_size.toInt) (b := 0) rfl rfl h0) (by omega), by omega, by omega, ?_⟩
  intro f2 ef2
  exact hk _ _ _ (by first | omega | assumption | exact AB.none (by omega) | exact AB.mono (by assumption) (by omega) (by omega) (by omega) (by omega) | exact RB.none (by omega) | exact RB.mono (by assumption) (by omega) | exact UB.none (by omega) | exact UB.mono (by assumption) (by omega) | exact EQ.none (by omega) | exact EQ.mono (by assumption) (by omega)) (by first | omega | assumption | exact AB.none (by omega) | exact AB.mono (by assumption) (by omega) (by omega) (by omega) (by omega) | exact RB.none (by omega) | exact RB.mono (by assumption) (by omega) | exact UB.none (by omega) | exact UB.mono (by assumption) (by omega) | exact EQ.none (by omega) | exact EQ.mono (by assumption) (by omega)) (by first | omega | assumption | exact AB.none (by omega) | exact AB.mono (by assumption) (by omega) (by omega) (by omega) (by omega) | exact RB.none (by omega) | exact RB.mono (by assumption) (by omega) | exact UB.none (by omega) | exact UB.mono (by assumption) (by omega) | exact EQ.none (by omega) | exact EQ.mono (by assumption) (by omega))
set_option maxHeartbeats 1000000 in
set_option maxRecDepth 10000 in
theorem s_X0_add {p1 : Int32} {p2 : Int32} {v_size : Int32} {v_on : Nat → Int32} {v_stake : Nat → Int32} {post : Int32 → (Int32) → (Nat → Int32) → (Nat → Int32) → Prop} (hp0 : 0 ≤ v_size.toInt) (hp1 : v_size.toInt ≤ 6) (hp2 : v_size.toInt ≤ 5) (hk : ∀ (r : Int32) (v_size' : Int32) (v_on' : Nat → Int32) (v_stake' : Nat → Int32), (0 ≤ v_size'.toInt) → (v_size'.toInt ≤ 6) → (r.toInt = v_size.toInt) → (v_size'.toInt = v_size.toInt + 1) → post r v_size' v_on' v_stake') : wp_X0_add p1 p2 v_size v_on v_stake post := by
  unfold wp_X0_add
  have rp1 := Int32.toInt_lt p1
  have rq1 := Int32.le_toInt p1
  have rp2 := Int32.toInt_lt p2
  have rq2 := Int32.le_toInt p2
  refine ⟨ivp (a := v_size.toInt) rfl (by omega) (by omega), ?_⟩
  intro f1 ef1
  have t1 : ((Int32.toNatClampNeg v_size : Nat) : Int) = v_size.toInt := itn rfl (by omega)
  have t2 : (f1 (Int32.toNatClampNeg v_size)).toInt = p1.toInt := by rw [ef1, upd_eq] <;> rfl
  refine ⟨ivp (a := v_size.toInt) rfl (by omega) (by omega), ?_⟩
  intro f2 ef2
  have t3 : ((Int32.toNatClampNeg v_size : Nat) : Int) = v_size.toInt := itn rfl (by omega)
  have t4 : (f2 (Int32.toNatClampNeg v_size)).toInt = p2.toInt := by rw [ef2, upd_eq] <;> rfl
  try have t5 : (v_size + 1).toInt = v_size.toInt + 1 := ia rfl rfl (by omega) (by omega)
  intro z3 ez3
  have t6 : z3.toInt = (v_size + 1).toInt := by rw [ez3] <;> rfl
  exact hk _ _ _ _ (by first | omega | assumption | exact AB.none (by omega) | exact AB.mono (by assumption) (by omega) (by omega) (by omega) (by omega) | exact RB.none (by omega) | exact RB.mono (by assumption) (by omega) | exact UB.none (by omega) | exact UB.mono (by assumption) (by omega) | exact EQ.none (by omega) | exact EQ.mono (by assumption) (by omega)) (by first | omega | assumption | exact AB.none (by omega) | exact AB.mono (by assumption) (by omega) (by omega) (by omega) (by omega) | exact RB.none (by omega) | exact RB.mono (by assumption) (by omega) | exact UB.none (by omega) | exact UB.mono (by assumption) (by omega) | exact EQ.none (by omega) | exact EQ.mono (by assumption) (by omega)) (by first | omega | assumption | exact AB.none (by omega) | exact AB.mono (by assumption) (by omega) (by omega) (by omega) (by omega) | exact RB.none (by omega) | exact RB.mono (by assumption) (by omega) | exact UB.none (by omega) | exact UB.mono (by assumption) (by omega) | exact EQ.none (by omega) | exact EQ.mono (by assumption) (by omega)) (by first | omega | assumption | exact AB.none (by omega) | exact AB.mono (by assumption) (by omega) (by omega) (by omega) (by omega) | exact RB.none (by omega) | exact RB.mono (by assumption) (by omega) | exact UB.none (by omega) | exact UB.mono (by assumption) (by omega) | exact EQ.none (by omega) | exact EQ.mono (by assumption) (by omega))
set_option maxHeartbeats 1000000 in
set_option maxRecDepth 10000 in
theorem s_X0_removeOn {p1 : Int32} {v_size : Int32} {v_on : Nat → Int32} {v_stake : Nat → Int32} {post : (Int32) → (Nat → Int32) → (Nat → Int32) → Prop} (hp0 : 0 ≤ v_size.toInt) (hp1 : v_size.toInt ≤ 6) (hk : ∀ (v_size' : Int32) (v_on' : Nat → Int32) (v_stake' : Nat → Int32), (0 ≤ v_size'.toInt) → (v_size'.toInt ≤ 6) → post v_size' v_on' v_stake') : wp_X0_removeOn p1 v_size v_on v_stake post := by
  unfold wp_X0_removeOn
  have rp1 := Int32.toInt_lt p1
  have rq1 := Int32.le_toInt p1
  have t1 : ((0 : Int32)).toInt = 0 := rfl
  have t2 : ((0 : Int32)).toInt = 0 := rfl
  refine ⟨fun n1 x2_1 x3_1 v_on_1 v_stake_1 => n1 = (v_size.toInt - x3_1.toInt).toNat ∧ (0 ≤ x3_1.toInt) ∧ (0 ≤ x2_1.toInt) ∧ (x2_1.toInt ≤ x3_1.toInt) ∧ (x3_1.toInt ≤ v_size.toInt), ⟨_, rfl, by first | omega | assumption | exact AB.none (by omega) | exact AB.mono (by assumption) (by omega) (by omega) (by omega) (by omega) | exact RB.none (by omega) | exact RB.mono (by assumption) (by omega) | exact UB.none (by omega) | exact UB.mono (by assumption) (by omega) | exact EQ.none (by omega) | exact EQ.mono (by assumption) (by omega), by first | omega | assumption | exact AB.none (by omega) | exact AB.mono (by assumption) (by omega) (by omega) (by omega) (by omega) | exact RB.none (by omega) | exact RB.mono (by assumption) (by omega) | exact UB.none (by omega) | exact UB.mono (by assumption) (by omega) | exact EQ.none (by omega) | exact EQ.mono (by assumption) (by omega), by first | omega | assumption | exact AB.none (by omega) | exact AB.mono (by assumption) (by omega) (by omega) (by omega) (by omega) | exact RB.none (by omega) | exact RB.mono (by assumption) (by omega) | exact UB.none (by omega) | exact UB.mono (by assumption) (by omega) | exact EQ.none (by omega) | exact EQ.mono (by assumption) (by omega), by first | omega | assumption | exact AB.none (by omega) | exact AB.mono (by assumption) (by omega) (by omega) (by omega) (by omega) | exact RB.none (by omega) | exact RB.mono (by assumption) (by omega) | exact UB.none (by omega) | exact UB.mono (by assumption) (by omega) | exact EQ.none (by omega) | exact EQ.mono (by assumption) (by omega)⟩, ?_⟩
  rintro n1 x2_1 x3_1 v_on_1 v_stake_1 ⟨hn1, q3, q4, q5, q6⟩
  refine ⟨fun c7 => ?_, fun c7 => ?_⟩
  · skip
    have t8 := ile (a := v_size.toInt) (b := x3_1.toInt) rfl rfl c7
    exact hk _ _ _ (by first | omega | assumption | exact AB.none (by omega) | exact AB.mono (by assumption) (by omega) (by omega) (by omega) (by omega) | exact RB.none (by omega) | exact RB.mono (by assumption) (by omega) | exact UB.none (by omega) | exact UB.mono (by assumption) (by omega) | exact EQ.none (by omega) | exact EQ.mono (by assumption) (by omega)) (by first | omega | assumption | exact AB.none (by omega) | exact AB.mono (by assumption) (by omega) (by omega) (by omega) (by omega) | exact RB.none (by omega) | exact RB.mono (by assumption) (by omega) | exact UB.none (by omega) | exact UB.mono (by assumption) (by omega) | exact EQ.none (by omega) | exact EQ.mono (by assumption) (by omega))
  · skip
    have t9 := inle (a := v_size.toInt) (b := x3_1.toInt) rfl rfl c7
    refine ⟨ivp (a := x3_1.toInt) rfl (by omega) (by omega), ?_⟩
    refine ⟨fun c10 => ?_, fun c10 => ?_⟩
    · skip
      have t11 := ine (a := (v_on_1 (Int32.toNatClampNeg x3_1)).toInt) (b := p1.toInt) rfl rfl c10
      refine ⟨ivp (a := x3_1.toInt) rfl (by omega) (by omega), ?_⟩
      intro z4 ez4
      have t12 : z4.toInt = (v_on_1 (Int32.toNatClampNeg x3_1)).toInt := by rw [ez4] <;> rfl
      refine ⟨ivp (a := x2_1.toInt) rfl (by omega) (by omega), ?_⟩
      intro f5 ef5
      have t13 : ((Int32.toNatClampNeg x2_1 : Nat) : Int) = x2_1.toInt := itn rfl (by omega)
      have t14 : (f5 (Int32.toNatClampNeg x2_1)).toInt = z4.toInt := by rw [ef5, upd_eq] <;> rfl
      refine ⟨ivp (a := x3_1.toInt) rfl (by omega) (by omega), ?_⟩
      intro z6 ez6
      have t15 : z6.toInt = (v_stake_1 (Int32.toNatClampNeg x3_1)).toInt := by rw [ez6] <;> rfl
      refine ⟨ivp (a := x2_1.toInt) rfl (by omega) (by omega), ?_⟩
      intro f7 ef7
      have t16 : ((Int32.toNatClampNeg x2_1 : Nat) : Int) = x2_1.toInt := itn rfl (by omega)
      have t17 : (f7 (Int32.toNatClampNeg x2_1)).toInt = z6.toInt := by rw [ef7, upd_eq] <;> rfl
      try have t18 : (x2_1 + 1).toInt = x2_1.toInt + 1 := ia rfl rfl (by omega) (by omega)
      intro z8 ez8
      have t19 : z8.toInt = (x2_1 + 1).toInt := by rw [ez8] <;> rfl
      try have t20 : (x3_1 + 1).toInt = x3_1.toInt + 1 := ia rfl rfl (by omega) (by omega)
      intro z9 ez9
      have t21 : z9.toInt = (x3_1 + 1).toInt := by rw [ez9] <;> rfl
      refine ⟨_, ?_, rfl, by first | omega | assumption | exact AB.none (by omega) | exact AB.mono (by assumption) (by omega) (by omega) (by omega) (by omega) | exact RB.none (by omega) | exact RB.mono (by assumption) (by omega) | exact UB.none (by omega) | exact UB.mono (by assumption) (by omega) | exact EQ.none (by omega) | exact EQ.mono (by assumption) (by omega), by first | omega | assumption | exact AB.none (by omega) | exact AB.mono (by assumption) (by omega) (by omega) (by omega) (by omega) | exact RB.none (by omega) | exact RB.mono (by assumption) (by omega) | exact UB.none (by omega) | exact UB.mono (by assumption) (by omega) | exact EQ.none (by omega) | exact EQ.mono (by assumption) (by omega), by first | omega | assumption | exact AB.none (by omega) | exact AB.mono (by assumption) (by omega) (by omega) (by omega) (by omega) | exact RB.none (by omega) | exact RB.mono (by assumption) (by omega) | exact UB.none (by omega) | exact UB.mono (by assumption) (by omega) | exact EQ.none (by omega) | exact EQ.mono (by assumption) (by omega), by first | omega | assumption | exact AB.none (by omega) | exact AB.mono (by assumption) (by omega) (by omega) (by omega) (by omega) | exact RB.none (by omega) | exact RB.mono (by assumption) (by omega) | exact UB.none (by omega) | exact UB.mono (by assumption) (by omega) | exact EQ.none (by omega) | exact EQ.mono (by assumption) (by omega)⟩
      omega
    · skip
      have t22 := ieq (a := (v_on_1 (Int32.toNatClampNeg x3_1)).toInt) (b := p1.toInt) rfl rfl c10
      try have t23 : (x3_1 + 1).toInt = x3_1.toInt + 1 := ia rfl rfl (by omega) (by omega)
      intro z10 ez10
      have t24 : z10.toInt = (x3_1 + 1).toInt := by rw [ez10] <;> rfl
      refine ⟨_, ?_, rfl, by first | omega | assumption | exact AB.none (by omega) | exact AB.mono (by assumption) (by omega) (by omega) (by omega) (by omega) | exact RB.none (by omega) | exact RB.mono (by assumption) (by omega) | exact UB.none (by omega) | exact UB.mono (by assumption) (by omega) | exact EQ.none (by omega) | exact EQ.mono (by assumption) (by omega), by first | omega | assumption | exact AB.none (by omega) | exact AB.mono (by assumption) (by omega) (by omega) (by omega) (by omega) | exact RB.none (by omega) | exact RB.mono (by assumption) (by omega) | exact UB.none (by omega) | exact UB.mono (by assumption) (by omega) | exact EQ.none (by omega) | exact EQ.mono (by assumption) (by omega), by first | omega | assumption | exact AB.none (by omega) | exact AB.mono (by assumption) (by omega) (by omega) (by omega) (by omega) | exact RB.none (by omega) | exact RB.mono (by assumption) (by omega) | exact UB.none (by omega) | exact UB.mono (by assumption) (by omega) | exact EQ.none (by omega) | exact EQ.mono (by assumption) (by omega), by first | omega | assumption | exact AB.none (by omega) | exact AB.mono (by assumption) (by omega) (by omega) (by omega) (by omega) | exact RB.none (by omega) | exact RB.mono (by assumption) (by omega) | exact UB.none (by omega) | exact UB.mono (by assumption) (by omega) | exact EQ.none (by omega) | exact EQ.mono (by assumption) (by omega)⟩
      omega
set_option maxHeartbeats 1000000 in
set_option maxRecDepth 10000 in
theorem s_X0_wins {p1 : Int32} {p2 : Int32} {v_on : Nat → Int32} {post : Int32 → Prop} (hp0 : 0 ≤ p1.toInt) (hp1 : p1.toInt ≤ 5) (hk : ∀ (r : Int32), (0 ≤ r.toInt) → (r.toInt ≤ 1) → post r) : wp_X0_wins p1 p2 v_on post := by
  unfold wp_X0_wins
  have rp1 := Int32.toInt_lt p1
  have rq1 := Int32.le_toInt p1
  have rp2 := Int32.toInt_lt p2
  have rq2 := Int32.le_toInt p2
  refine ⟨ivp (a := p1.toInt) rfl (by omega) (by omega), ?_⟩
  refine ⟨fun c1 => ?_, fun c1 => ?_⟩
  · skip
    have t2 := ine (a := ((p2 >>> ((v_on (Int32.toNatClampNeg p1)) &&& 31)) &&& 1).toInt) (b := 1) rfl rfl c1
    have t3 : (0 : Int32).toInt = 0 := rfl
    exact hk _ (by first | omega | assumption | exact AB.none (by omega) | exact AB.mono (by assumption) (by omega) (by omega) (by omega) (by omega) | exact RB.none (by omega) | exact RB.mono (by assumption) (by omega) | exact UB.none (by omega) | exact UB.mono (by assumption) (by omega) | exact EQ.none (by omega) | exact EQ.mono (by assumption) (by omega)) (by first | omega | assumption | exact AB.none (by omega) | exact AB.mono (by assumption) (by omega) (by omega) (by omega) (by omega) | exact RB.none (by omega) | exact RB.mono (by assumption) (by omega) | exact UB.none (by omega) | exact UB.mono (by assumption) (by omega) | exact EQ.none (by omega) | exact EQ.mono (by assumption) (by omega))
  · skip
    have t4 := ieq (a := ((p2 >>> ((v_on (Int32.toNatClampNeg p1)) &&& 31)) &&& 1).toInt) (b := 1) rfl rfl c1
    have t5 : (1 : Int32).toInt = 1 := rfl
    exact hk _ (by first | omega | assumption | exact AB.none (by omega) | exact AB.mono (by assumption) (by omega) (by omega) (by omega) (by omega) | exact RB.none (by omega) | exact RB.mono (by assumption) (by omega) | exact UB.none (by omega) | exact UB.mono (by assumption) (by omega) | exact EQ.none (by omega) | exact EQ.mono (by assumption) (by omega)) (by first | omega | assumption | exact AB.none (by omega) | exact AB.mono (by assumption) (by omega) (by omega) (by omega) (by omega) | exact RB.none (by omega) | exact RB.mono (by assumption) (by omega) | exact UB.none (by omega) | exact UB.mono (by assumption) (by omega) | exact EQ.none (by omega) | exact EQ.mono (by assumption) (by omega))
set_option maxHeartbeats 1000000 in
set_option maxRecDepth 10000 in
theorem s_X0_share {p1 : Int32} {p2 : Int32} {v_size : Int32} {v_on : Nat → Int32} {v_stake : Nat → Int32} {post : Int32 → Prop} (hp0 : 0 ≤ v_size.toInt) (hp1 : v_size.toInt ≤ 6) (hp2 : 0 ≤ p1.toInt) (hp3 : p1.toInt < v_size.toInt) (hk : ∀ (r : Int32), post r) : wp_X0_share p1 p2 v_size v_on v_stake post := by
  unfold wp_X0_share
  have rp1 := Int32.toInt_lt p1
  have rq1 := Int32.le_toInt p1
  have rp2 := Int32.toInt_lt p2
  have rq2 := Int32.le_toInt p2
  have t1 : ((0 : Int32)).toInt = 0 := rfl
  have t2 : ((0 : Int32)).toInt = 0 := rfl
  have t3 : ((0 : Int32)).toInt = 0 := rfl
  refine ⟨fun n1 x3_1 x4_1 x5_1 => n1 = (v_size.toInt - x5_1.toInt).toNat ∧ (0 ≤ x5_1.toInt), ⟨_, rfl, by first | omega | assumption | exact AB.none (by omega) | exact AB.mono (by assumption) (by omega) (by omega) (by omega) (by omega) | exact RB.none (by omega) | exact RB.mono (by assumption) (by omega) | exact UB.none (by omega) | exact UB.mono (by assumption) (by omega) | exact EQ.none (by omega) | exact EQ.mono (by assumption) (by omega)⟩, ?_⟩
  rintro n1 x3_1 x4_1 x5_1 ⟨hn1, q4⟩
  refine ⟨fun c5 => ?_, fun c5 => ?_⟩
  · skip
    have t6 := ile (a := v_size.toInt) (b := x5_1.toInt) rfl rfl c5
    refine ⟨fun c7 => ?_, fun c7 => ?_⟩
    · skip
      have t8 := ine (a := x4_1.toInt) (b := 0) rfl rfl c7
      refine s_X0_wins (by first | omega | assumption | exact AB.none (by omega) | exact AB.mono (by assumption) (by omega) (by omega) (by omega) (by omega) | exact RB.none (by omega) | exact RB.mono (by assumption) (by omega) | exact UB.none (by omega) | exact UB.mono (by assumption) (by omega) | exact EQ.none (by omega) | exact EQ.mono (by assumption) (by omega)) (by first | omega | assumption | exact AB.none (by omega) | exact AB.mono (by assumption) (by omega) (by omega) (by omega) (by omega) | exact RB.none (by omega) | exact RB.mono (by assumption) (by omega) | exact UB.none (by omega) | exact UB.mono (by assumption) (by omega) | exact EQ.none (by omega) | exact EQ.mono (by assumption) (by omega)) (fun r4 q9 q10 => ?_)
      refine ⟨fun c11 => ?_, fun c11 => ?_⟩
      · skip
        have t12 := ieq (a := r4.toInt) (b := 0) rfl rfl c11
        have t13 : (0 : Int32).toInt = 0 := rfl
        exact hk _
      · skip
        have t14 := ine (a := r4.toInt) (b := 0) rfl rfl c11
        refine ⟨ivp (a := p1.toInt) rfl (by omega) (by omega), ?_⟩
        refine ⟨fun h0 => absurd (ieq (a := x4_1.toInt) (b := 0) rfl rfl h0) (by omega), ?_⟩
        exact hk _
    · skip
      have t15 := ieq (a := x4_1.toInt) (b := 0) rfl rfl c7
      refine ⟨ivp (a := p1.toInt) rfl (by omega) (by omega), ?_⟩
      exact hk _
  · skip
    have t16 := inle (a := v_size.toInt) (b := x5_1.toInt) rfl rfl c5
    refine ⟨ivp (a := x5_1.toInt) rfl (by omega) (by omega), ?_⟩
    try have t17 : (x3_1 + (v_stake (Int32.toNatClampNeg x5_1))).toInt = x3_1.toInt + (v_stake (Int32.toNatClampNeg x5_1)).toInt := ia rfl rfl (by omega) (by omega)
    intro z6 ez6
    have t18 : z6.toInt = (x3_1 + (v_stake (Int32.toNatClampNeg x5_1))).toInt := by rw [ez6] <;> rfl
    refine s_X0_wins (by first | omega | assumption | exact AB.none (by omega) | exact AB.mono (by assumption) (by omega) (by omega) (by omega) (by omega) | exact RB.none (by omega) | exact RB.mono (by assumption) (by omega) | exact UB.none (by omega) | exact UB.mono (by assumption) (by omega) | exact EQ.none (by omega) | exact EQ.mono (by assumption) (by omega)) (by first | omega | assumption | exact AB.none (by omega) | exact AB.mono (by assumption) (by omega) (by omega) (by omega) (by omega) | exact RB.none (by omega) | exact RB.mono (by assumption) (by omega) | exact UB.none (by omega) | exact UB.mono (by assumption) (by omega) | exact EQ.none (by omega) | exact EQ.mono (by assumption) (by omega)) (fun r7 q19 q20 => ?_)
    refine ⟨fun c21 => ?_, fun c21 => ?_⟩
    · skip
      have t22 := ieq (a := r7.toInt) (b := 0) rfl rfl c21
      try have t23 : (x5_1 + 1).toInt = x5_1.toInt + 1 := ia rfl rfl (by omega) (by omega)
      intro z9 ez9
      have t24 : z9.toInt = (x5_1 + 1).toInt := by rw [ez9] <;> rfl
      refine ⟨_, ?_, rfl, by first | omega | assumption | exact AB.none (by omega) | exact AB.mono (by assumption) (by omega) (by omega) (by omega) (by omega) | exact RB.none (by omega) | exact RB.mono (by assumption) (by omega) | exact UB.none (by omega) | exact UB.mono (by assumption) (by omega) | exact EQ.none (by omega) | exact EQ.mono (by assumption) (by omega)⟩
      omega
    · skip
      have t25 := ine (a := r7.toInt) (b := 0) rfl rfl c21
      refine ⟨ivp (a := x5_1.toInt) rfl (by omega) (by omega), ?_⟩
      try have t26 : (x4_1 + (v_stake (Int32.toNatClampNeg x5_1))).toInt = x4_1.toInt + (v_stake (Int32.toNatClampNeg x5_1)).toInt := ia rfl rfl (by omega) (by omega)
      intro z10 ez10
      have t27 : z10.toInt = (x4_1 + (v_stake (Int32.toNatClampNeg x5_1))).toInt := by rw [ez10] <;> rfl
      try have t28 : (x5_1 + 1).toInt = x5_1.toInt + 1 := ia rfl rfl (by omega) (by omega)
      intro z11 ez11
      have t29 : z11.toInt = (x5_1 + 1).toInt := by rw [ez11] <;> rfl
      refine ⟨_, ?_, rfl, by first | omega | assumption | exact AB.none (by omega) | exact AB.mono (by assumption) (by omega) (by omega) (by omega) (by omega) | exact RB.none (by omega) | exact RB.mono (by assumption) (by omega) | exact UB.none (by omega) | exact UB.mono (by assumption) (by omega) | exact EQ.none (by omega) | exact EQ.mono (by assumption) (by omega)⟩
      omega
set_option maxHeartbeats 1000000 in
set_option maxRecDepth 10000 in
theorem s_X1_add {p1 : Int32} {p2 : Int32} {p3 : Int32} {v_size : Int32} {v_act : Nat → Int32} {v_whom : Nat → Int32} {v_amount : Nat → Int32} {post : (Int32) → (Nat → Int32) → (Nat → Int32) → (Nat → Int32) → Prop} (hp0 : 0 ≤ v_size.toInt) (hp1 : v_size.toInt ≤ 80) (hp2 : v_size.toInt ≤ 79) (hk : ∀ (v_size' : Int32) (v_act' : Nat → Int32) (v_whom' : Nat → Int32) (v_amount' : Nat → Int32), (0 ≤ v_size'.toInt) → (v_size'.toInt ≤ 80) → (v_size'.toInt = v_size.toInt + 1) → post v_size' v_act' v_whom' v_amount') : wp_X1_add p1 p2 p3 v_size v_act v_whom v_amount post := by
  unfold wp_X1_add
  have rp1 := Int32.toInt_lt p1
  have rq1 := Int32.le_toInt p1
  have rp2 := Int32.toInt_lt p2
  have rq2 := Int32.le_toInt p2
  have rp3 := Int32.toInt_lt p3
  have rq3 := Int32.le_toInt p3
  refine ⟨ivp (a := v_size.toInt) rfl (by omega) (by omega), ?_⟩
  intro f1 ef1
  have t1 : ((Int32.toNatClampNeg v_size : Nat) : Int) = v_size.toInt := itn rfl (by omega)
  have t2 : (f1 (Int32.toNatClampNeg v_size)).toInt = p1.toInt := by rw [ef1, upd_eq] <;> rfl
  refine ⟨ivp (a := v_size.toInt) rfl (by omega) (by omega), ?_⟩
  intro f2 ef2
  have t3 : ((Int32.toNatClampNeg v_size : Nat) : Int) = v_size.toInt := itn rfl (by omega)
  have t4 : (f2 (Int32.toNatClampNeg v_size)).toInt = p2.toInt := by rw [ef2, upd_eq] <;> rfl
  refine ⟨ivp (a := v_size.toInt) rfl (by omega) (by omega), ?_⟩
  intro f3 ef3
  have t5 : ((Int32.toNatClampNeg v_size : Nat) : Int) = v_size.toInt := itn rfl (by omega)
  have t6 : (f3 (Int32.toNatClampNeg v_size)).toInt = p3.toInt := by rw [ef3, upd_eq] <;> rfl
  try have t7 : (v_size + 1).toInt = v_size.toInt + 1 := ia rfl rfl (by omega) (by omega)
  intro z4 ez4
  have t8 : z4.toInt = (v_size + 1).toInt := by rw [ez4] <;> rfl
  exact hk _ _ _ _ (by first | omega | assumption | exact AB.none (by omega) | exact AB.mono (by assumption) (by omega) (by omega) (by omega) (by omega) | exact RB.none (by omega) | exact RB.mono (by assumption) (by omega) | exact UB.none (by omega) | exact UB.mono (by assumption) (by omega) | exact EQ.none (by omega) | exact EQ.mono (by assumption) (by omega)) (by first | omega | assumption | exact AB.none (by omega) | exact AB.mono (by assumption) (by omega) (by omega) (by omega) (by omega) | exact RB.none (by omega) | exact RB.mono (by assumption) (by omega) | exact UB.none (by omega) | exact UB.mono (by assumption) (by omega) | exact EQ.none (by omega) | exact EQ.mono (by assumption) (by omega)) (by first | omega | assumption | exact AB.none (by omega) | exact AB.mono (by assumption) (by omega) (by omega) (by omega) (by omega) | exact RB.none (by omega) | exact RB.mono (by assumption) (by omega) | exact UB.none (by omega) | exact UB.mono (by assumption) (by omega) | exact EQ.none (by omega) | exact EQ.mono (by assumption) (by omega))
set_option maxHeartbeats 1000000 in
set_option maxRecDepth 10000 in
theorem s_X3_become {v_known : Int32} {v_act : Nat → Int32} {v_whom : Nat → Int32} {v_was : Nat → Int32} {p1_known : Int32} {p1_act : Nat → Int32} {p1_whom : Nat → Int32} {p1_was : Nat → Int32} {post : (Int32) → (Nat → Int32) → (Nat → Int32) → (Nat → Int32) → Prop} (hp0 : 0 ≤ v_known.toInt) (hp1 : v_known.toInt ≤ 10) (hp2 : RB v_act v_whom v_known.toInt) (hp3 : 0 ≤ p1_known.toInt) (hp4 : p1_known.toInt ≤ 10) (hp5 : RB p1_act p1_whom p1_known.toInt) (hk : ∀ (v_known' : Int32) (v_act' : Nat → Int32) (v_whom' : Nat → Int32) (v_was' : Nat → Int32), (0 ≤ v_known'.toInt) → (v_known'.toInt ≤ 10) → (RB v_act' v_whom' v_known'.toInt) → (v_known'.toInt = p1_known.toInt) → post v_known' v_act' v_whom' v_was') : wp_X3_become v_known v_act v_whom v_was p1_known p1_act p1_whom p1_was post := by
  unfold wp_X3_become
  have t1 : ((Int32.toNatClampNeg 0 : Nat) : Int) = 0 := itn rfl (by omega)
  have t2 : ((Int32.toNatClampNeg p1_known : Nat) : Int) = p1_known.toInt := itn rfl (by omega)
  refine ⟨fun h0 => absurd (ilt (a := 0) (b := 0) rfl rfl h0) (by omega), fun h0 => absurd (ilt (a := 0) (b := 0) rfl rfl h0) (by omega), fun h0 => absurd (ilt (a := p1_known.toInt) (b := 0) rfl rfl h0) (by omega), by omega, by omega, ?_⟩
  intro f1 ef1
  refine ⟨fun h0 => absurd (ilt (a := 0) (b := 0) rfl rfl h0) (by omega), fun h0 => absurd (ilt (a := 0) (b := 0) rfl rfl h0) (by omega), fun h0 => absurd (ilt (a := p1_known.toInt) (b := 0) rfl rfl h0) (by omega), by omega, by omega, ?_⟩
  intro f2 ef2
  have q3 : RB f1 f2 p1_known.toInt := by rw [ef1, ef2]; exact RB.cpy (by assumption) (by omega)
  refine ⟨fun h0 => absurd (ilt (a := 0) (b := 0) rfl rfl h0) (by omega), fun h0 => absurd (ilt (a := 0) (b := 0) rfl rfl h0) (by omega), fun h0 => absurd (ilt (a := p1_known.toInt) (b := 0) rfl rfl h0) (by omega), by omega, by omega, ?_⟩
  intro f3 ef3
  exact hk _ _ _ _ (by first | omega | assumption | exact AB.none (by omega) | exact AB.mono (by assumption) (by omega) (by omega) (by omega) (by omega) | exact RB.none (by omega) | exact RB.mono (by assumption) (by omega) | exact UB.none (by omega) | exact UB.mono (by assumption) (by omega) | exact EQ.none (by omega) | exact EQ.mono (by assumption) (by omega)) (by first | omega | assumption | exact AB.none (by omega) | exact AB.mono (by assumption) (by omega) (by omega) (by omega) (by omega) | exact RB.none (by omega) | exact RB.mono (by assumption) (by omega) | exact UB.none (by omega) | exact UB.mono (by assumption) (by omega) | exact EQ.none (by omega) | exact EQ.mono (by assumption) (by omega)) (by first | omega | assumption | exact AB.none (by omega) | exact AB.mono (by assumption) (by omega) (by omega) (by omega) (by omega) | exact RB.none (by omega) | exact RB.mono (by assumption) (by omega) | exact UB.none (by omega) | exact UB.mono (by assumption) (by omega) | exact EQ.none (by omega) | exact EQ.mono (by assumption) (by omega)) (by first | omega | assumption | exact AB.none (by omega) | exact AB.mono (by assumption) (by omega) (by omega) (by omega) (by omega) | exact RB.none (by omega) | exact RB.mono (by assumption) (by omega) | exact UB.none (by omega) | exact UB.mono (by assumption) (by omega) | exact EQ.none (by omega) | exact EQ.mono (by assumption) (by omega))
set_option maxHeartbeats 1000000 in
set_option maxRecDepth 10000 in
theorem s_X3_forgetOldest {v_known : Int32} {v_act : Nat → Int32} {v_whom : Nat → Int32} {v_was : Nat → Int32} {post : (Int32) → (Nat → Int32) → (Nat → Int32) → (Nat → Int32) → Prop} (hp0 : 0 ≤ v_known.toInt) (hp1 : v_known.toInt ≤ 10) (hp2 : RB v_act v_whom v_known.toInt) (hp3 : v_known.toInt = 10) (hk : ∀ (v_known' : Int32) (v_act' : Nat → Int32) (v_whom' : Nat → Int32) (v_was' : Nat → Int32), (0 ≤ v_known'.toInt) → (v_known'.toInt ≤ 10) → (RB v_act' v_whom' v_known'.toInt) → (v_known'.toInt = 9) → post v_known' v_act' v_whom' v_was') : wp_X3_forgetOldest v_known v_act v_whom v_was post := by
  unfold wp_X3_forgetOldest
  try have t1 : (v_known - 1).toInt = v_known.toInt - 1 := isb rfl rfl (by omega) (by omega)
  have t2 := isbi (x := v_known) (y := 1) (b := 1) rfl
  intro z1 ez1
  have t3 : z1.toInt = (v_known - 1).toInt := by rw [ez1] <;> rfl
  have t4 : ((Int32.toNatClampNeg 1 : Nat) : Int) = 1 := itn rfl (by omega)
  have t5 : ((Int32.toNatClampNeg 0 : Nat) : Int) = 0 := itn rfl (by omega)
  have t6 : ((Int32.toNatClampNeg z1 : Nat) : Int) = z1.toInt := itn rfl (by omega)
  refine ⟨fun h0 => absurd (ilt (a := 1) (b := 0) rfl rfl h0) (by omega), fun h0 => absurd (ilt (a := 0) (b := 0) rfl rfl h0) (by omega), fun h0 => absurd (ilt (a := z1.toInt) (b := 0) rfl rfl h0) (by omega), by omega, by omega, ?_⟩
  intro f2 ef2
  refine ⟨fun h0 => absurd (ilt (a := 1) (b := 0) rfl rfl h0) (by omega), fun h0 => absurd (ilt (a := 0) (b := 0) rfl rfl h0) (by omega), fun h0 => absurd (ilt (a := z1.toInt) (b := 0) rfl rfl h0) (by omega), by omega, by omega, ?_⟩
  intro f3 ef3
  have q7 : RB f2 f3 9 := by rw [ef2, ef3]; exact RB.shift (RB.mono (by assumption) (by omega)) (by omega)
  refine ⟨fun h0 => absurd (ilt (a := 1) (b := 0) rfl rfl h0) (by omega), fun h0 => absurd (ilt (a := 0) (b := 0) rfl rfl h0) (by omega), fun h0 => absurd (ilt (a := z1.toInt) (b := 0) rfl rfl h0) (by omega), by omega, by omega, ?_⟩
  intro f4 ef4
  exact hk _ _ _ _ (by first | omega | assumption | exact AB.none (by omega) | exact AB.mono (by assumption) (by omega) (by omega) (by omega) (by omega) | exact RB.none (by omega) | exact RB.mono (by assumption) (by omega) | exact UB.none (by omega) | exact UB.mono (by assumption) (by omega) | exact EQ.none (by omega) | exact EQ.mono (by assumption) (by omega)) (by first | omega | assumption | exact AB.none (by omega) | exact AB.mono (by assumption) (by omega) (by omega) (by omega) (by omega) | exact RB.none (by omega) | exact RB.mono (by assumption) (by omega) | exact UB.none (by omega) | exact UB.mono (by assumption) (by omega) | exact EQ.none (by omega) | exact EQ.mono (by assumption) (by omega)) (by first | omega | assumption | exact AB.none (by omega) | exact AB.mono (by assumption) (by omega) (by omega) (by omega) (by omega) | exact RB.none (by omega) | exact RB.mono (by assumption) (by omega) | exact UB.none (by omega) | exact UB.mono (by assumption) (by omega) | exact EQ.none (by omega) | exact EQ.mono (by assumption) (by omega)) (by first | omega | assumption | exact AB.none (by omega) | exact AB.mono (by assumption) (by omega) (by omega) (by omega) (by omega) | exact RB.none (by omega) | exact RB.mono (by assumption) (by omega) | exact UB.none (by omega) | exact UB.mono (by assumption) (by omega) | exact EQ.none (by omega) | exact EQ.mono (by assumption) (by omega))
set_option maxHeartbeats 1000000 in
set_option maxRecDepth 10000 in
theorem s_X3_note {p1 : Int32} {p2 : Int32} {p3 : Int32} {v_known : Int32} {v_act : Nat → Int32} {v_whom : Nat → Int32} {v_was : Nat → Int32} {post : (Int32) → (Nat → Int32) → (Nat → Int32) → (Nat → Int32) → Prop} (hp0 : 0 ≤ v_known.toInt) (hp1 : v_known.toInt ≤ 10) (hp2 : RB v_act v_whom v_known.toInt) (hp3 : 0 ≤ p2.toInt) (hp4 : p2.toInt ≤ 23) (hp5 : p1.toInt = 0 ∨ p1.toInt = 1 ∨ p1.toInt = 2 → p2.toInt ≤ 8) (hk : ∀ (v_known' : Int32) (v_act' : Nat → Int32) (v_whom' : Nat → Int32) (v_was' : Nat → Int32), (0 ≤ v_known'.toInt) → (v_known'.toInt ≤ 10) → (RB v_act' v_whom' v_known'.toInt) → post v_known' v_act' v_whom' v_was') : wp_X3_note p1 p2 p3 v_known v_act v_whom v_was post := by
  unfold wp_X3_note
  have rp1 := Int32.toInt_lt p1
  have rq1 := Int32.le_toInt p1
  have rp2 := Int32.toInt_lt p2
  have rq2 := Int32.le_toInt p2
  have rp3 := Int32.toInt_lt p3
  have rq3 := Int32.le_toInt p3
  refine ⟨fun v_known_1 v_act_1 v_whom_1 v_was_1 => (vp_in v_known_1 10 ∧ ∀ f2 : Nat → Int32, f2 = (upd v_act_1 (Int32.toNatClampNeg v_known_1) p1) → (vp_in v_known_1 10 ∧ ∀ f3 : Nat → Int32, f3 = (upd v_whom_1 (Int32.toNatClampNeg v_known_1) p2) → (vp_in v_known_1 10 ∧ ∀ f4 : Nat → Int32, f4 = (upd v_was_1 (Int32.toNatClampNeg v_known_1) p3) → (∀ z5 : Int32, z5 = (v_known_1 + 1) → (post z5 f2 f3 f4))))), fun v_known_1 v_act_1 v_whom_1 v_was_1 h => h, ?_⟩
  refine ⟨fun c1 => ?_, fun c1 => ?_⟩
  · skip
    have t2 := ine (a := v_known.toInt) (b := 10) rfl rfl c1
    show (vp_in v_known 10 ∧ ∀ f2 : Nat → Int32, f2 = (upd v_act (Int32.toNatClampNeg v_known) p1) → (vp_in v_known 10 ∧ ∀ f3 : Nat → Int32, f3 = (upd v_whom (Int32.toNatClampNeg v_known) p2) → (vp_in v_known 10 ∧ ∀ f4 : Nat → Int32, f4 = (upd v_was (Int32.toNatClampNeg v_known) p3) → (∀ z5 : Int32, z5 = (v_known + 1) → (post z5 f2 f3 f4)))))
    refine ⟨ivp (a := v_known.toInt) rfl (by omega) (by omega), ?_⟩
    intro f2 ef2
    have t3 : ((Int32.toNatClampNeg v_known : Nat) : Int) = v_known.toInt := itn rfl (by omega)
    have t4 : (f2 (Int32.toNatClampNeg v_known)).toInt = p1.toInt := by rw [ef2, upd_eq] <;> rfl
    try have q5 : RB f2 v_whom v_known.toInt := by rw [ef2]; exact RB.updA (by assumption) (by omega)
    refine ⟨ivp (a := v_known.toInt) rfl (by omega) (by omega), ?_⟩
    intro f3 ef3
    have t6 : ((Int32.toNatClampNeg v_known : Nat) : Int) = v_known.toInt := itn rfl (by omega)
    have t7 : (f3 (Int32.toNatClampNeg v_known)).toInt = p2.toInt := by rw [ef3, upd_eq] <;> rfl
    try have q8 : RB f2 f3 (v_known.toInt + 1) := by rw [ef3]; exact RB.pushW (by assumption) (by omega) rfl (by omega) (by omega) (by omega)
    refine ⟨ivp (a := v_known.toInt) rfl (by omega) (by omega), ?_⟩
    intro f4 ef4
    have t9 : ((Int32.toNatClampNeg v_known : Nat) : Int) = v_known.toInt := itn rfl (by omega)
    have t10 : (f4 (Int32.toNatClampNeg v_known)).toInt = p3.toInt := by rw [ef4, upd_eq] <;> rfl
    try have t11 : (v_known + 1).toInt = v_known.toInt + 1 := ia rfl rfl (by omega) (by omega)
    intro z5 ez5
    have t12 : z5.toInt = (v_known + 1).toInt := by rw [ez5] <;> rfl
    exact hk _ _ _ _ (by first | omega | assumption | exact AB.none (by omega) | exact AB.mono (by assumption) (by omega) (by omega) (by omega) (by omega) | exact RB.none (by omega) | exact RB.mono (by assumption) (by omega) | exact UB.none (by omega) | exact UB.mono (by assumption) (by omega) | exact EQ.none (by omega) | exact EQ.mono (by assumption) (by omega)) (by first | omega | assumption | exact AB.none (by omega) | exact AB.mono (by assumption) (by omega) (by omega) (by omega) (by omega) | exact RB.none (by omega) | exact RB.mono (by assumption) (by omega) | exact UB.none (by omega) | exact UB.mono (by assumption) (by omega) | exact EQ.none (by omega) | exact EQ.mono (by assumption) (by omega)) (by first | omega | assumption | exact AB.none (by omega) | exact AB.mono (by assumption) (by omega) (by omega) (by omega) (by omega) | exact RB.none (by omega) | exact RB.mono (by assumption) (by omega) | exact UB.none (by omega) | exact UB.mono (by assumption) (by omega) | exact EQ.none (by omega) | exact EQ.mono (by assumption) (by omega))
  · skip
    have t13 := ieq (a := v_known.toInt) (b := 10) rfl rfl c1
    refine s_X3_forgetOldest (by first | omega | assumption | exact AB.none (by omega) | exact AB.mono (by assumption) (by omega) (by omega) (by omega) (by omega) | exact RB.none (by omega) | exact RB.mono (by assumption) (by omega) | exact UB.none (by omega) | exact UB.mono (by assumption) (by omega) | exact EQ.none (by omega) | exact EQ.mono (by assumption) (by omega)) (by first | omega | assumption | exact AB.none (by omega) | exact AB.mono (by assumption) (by omega) (by omega) (by omega) (by omega) | exact RB.none (by omega) | exact RB.mono (by assumption) (by omega) | exact UB.none (by omega) | exact UB.mono (by assumption) (by omega) | exact EQ.none (by omega) | exact EQ.mono (by assumption) (by omega)) (by first | omega | assumption | exact AB.none (by omega) | exact AB.mono (by assumption) (by omega) (by omega) (by omega) (by omega) | exact RB.none (by omega) | exact RB.mono (by assumption) (by omega) | exact UB.none (by omega) | exact UB.mono (by assumption) (by omega) | exact EQ.none (by omega) | exact EQ.mono (by assumption) (by omega)) (by first | omega | assumption | exact AB.none (by omega) | exact AB.mono (by assumption) (by omega) (by omega) (by omega) (by omega) | exact RB.none (by omega) | exact RB.mono (by assumption) (by omega) | exact UB.none (by omega) | exact UB.mono (by assumption) (by omega) | exact EQ.none (by omega) | exact EQ.mono (by assumption) (by omega)) (fun v_known_8 v_act_9 v_whom_10 v_was_11 q14 q15 q16 q17 => ?_)
    show (vp_in v_known_8 10 ∧ ∀ f2 : Nat → Int32, f2 = (upd v_act_9 (Int32.toNatClampNeg v_known_8) p1) → (vp_in v_known_8 10 ∧ ∀ f3 : Nat → Int32, f3 = (upd v_whom_10 (Int32.toNatClampNeg v_known_8) p2) → (vp_in v_known_8 10 ∧ ∀ f4 : Nat → Int32, f4 = (upd v_was_11 (Int32.toNatClampNeg v_known_8) p3) → (∀ z5 : Int32, z5 = (v_known_8 + 1) → (post z5 f2 f3 f4)))))
    refine ⟨ivp (a := v_known_8.toInt) rfl (by omega) (by omega), ?_⟩
    intro f2 ef2
    have t18 : ((Int32.toNatClampNeg v_known_8 : Nat) : Int) = v_known_8.toInt := itn rfl (by omega)
    have t19 : (f2 (Int32.toNatClampNeg v_known_8)).toInt = p1.toInt := by rw [ef2, upd_eq] <;> rfl
    try have q20 : RB f2 v_whom_10 v_known_8.toInt := by rw [ef2]; exact RB.updA (by assumption) (by omega)
    refine ⟨ivp (a := v_known_8.toInt) rfl (by omega) (by omega), ?_⟩
    intro f3 ef3
    have t21 : ((Int32.toNatClampNeg v_known_8 : Nat) : Int) = v_known_8.toInt := itn rfl (by omega)
    have t22 : (f3 (Int32.toNatClampNeg v_known_8)).toInt = p2.toInt := by rw [ef3, upd_eq] <;> rfl
    try have q23 : RB f2 f3 (v_known_8.toInt + 1) := by rw [ef3]; exact RB.pushW (by assumption) (by omega) rfl (by omega) (by omega) (by omega)
    refine ⟨ivp (a := v_known_8.toInt) rfl (by omega) (by omega), ?_⟩
    intro f4 ef4
    have t24 : ((Int32.toNatClampNeg v_known_8 : Nat) : Int) = v_known_8.toInt := itn rfl (by omega)
    have t25 : (f4 (Int32.toNatClampNeg v_known_8)).toInt = p3.toInt := by rw [ef4, upd_eq] <;> rfl
    try have t26 : (v_known_8 + 1).toInt = v_known_8.toInt + 1 := ia rfl rfl (by omega) (by omega)
    intro z5 ez5
    have t27 : z5.toInt = (v_known_8 + 1).toInt := by rw [ez5] <;> rfl
    exact hk _ _ _ _ (by first | omega | assumption | exact AB.none (by omega) | exact AB.mono (by assumption) (by omega) (by omega) (by omega) (by omega) | exact RB.none (by omega) | exact RB.mono (by assumption) (by omega) | exact UB.none (by omega) | exact UB.mono (by assumption) (by omega) | exact EQ.none (by omega) | exact EQ.mono (by assumption) (by omega)) (by first | omega | assumption | exact AB.none (by omega) | exact AB.mono (by assumption) (by omega) (by omega) (by omega) (by omega) | exact RB.none (by omega) | exact RB.mono (by assumption) (by omega) | exact UB.none (by omega) | exact UB.mono (by assumption) (by omega) | exact EQ.none (by omega) | exact EQ.mono (by assumption) (by omega)) (by first | omega | assumption | exact AB.none (by omega) | exact AB.mono (by assumption) (by omega) (by omega) (by omega) (by omega) | exact RB.none (by omega) | exact RB.mono (by assumption) (by omega) | exact UB.none (by omega) | exact UB.mono (by assumption) (by omega) | exact EQ.none (by omega) | exact EQ.mono (by assumption) (by omega))
set_option maxHeartbeats 1000000 in
set_option maxRecDepth 10000 in
theorem s_X3_takeBack {v_known : Int32} {v_act : Nat → Int32} {v_whom : Nat → Int32} {v_was : Nat → Int32} {p1_dials : Nat → Int32} {p1_hands : Nat → Int32} {p1_rate : Nat → Int32} {p1_spring : Nat → Int32} {post : (Int32) → (Nat → Int32) → (Nat → Int32) → (Nat → Int32) → (Nat → Int32) → Prop} (hp0 : 0 ≤ v_known.toInt) (hp1 : v_known.toInt ≤ 10) (hp2 : RB v_act v_whom v_known.toInt) (hp3 : 1 ≤ v_known.toInt) (hk : ∀ (v_known' : Int32) (p1_dials' : Nat → Int32) (p1_hands' : Nat → Int32) (p1_rate' : Nat → Int32) (p1_spring' : Nat → Int32), (0 ≤ v_known'.toInt) → (v_known'.toInt ≤ 10) → (RB v_act v_whom v_known'.toInt) → (v_known'.toInt = v_known.toInt - 1) → post v_known' p1_dials' p1_hands' p1_rate' p1_spring') : wp_X3_takeBack v_known v_act v_whom v_was p1_dials p1_hands p1_rate p1_spring post := by
  unfold wp_X3_takeBack
  try have t1 : (v_known - 1).toInt = v_known.toInt - 1 := isb rfl rfl (by omega) (by omega)
  have t2 := isbi (x := v_known) (y := 1) (b := 1) rfl
  intro z1 ez1
  have t3 : z1.toInt = (v_known - 1).toInt := by rw [ez1] <;> rfl
  refine ⟨ivp (a := z1.toInt) rfl (by omega) (by omega), ?_⟩
  try have q4 := RB.get (act := v_act) (whom := v_whom) (i := z1) (a := z1.toInt) (by assumption) rfl (by omega) (by omega)
  intro z2 ez2
  have t5 : z2.toInt = (v_whom (Int32.toNatClampNeg z1)).toInt := by rw [ez2] <;> rfl
  refine ⟨ivp (a := z1.toInt) rfl (by omega) (by omega), ?_⟩
  refine ⟨fun c6 => ?_, fun c6 => ?_⟩
  · skip
    have t7 := ieq (a := (v_act (Int32.toNatClampNeg z1)).toInt) (b := 0) rfl rfl c6
    refine ⟨ivp (a := z1.toInt) rfl (by omega) (by omega), ?_⟩
    intro z4 ez4
    have t8 : z4.toInt = (v_was (Int32.toNatClampNeg z1)).toInt := by rw [ez4] <;> rfl
    refine ⟨ivp (a := z2.toInt) rfl (by omega) (by omega), ?_⟩
    intro f5 ef5
    have t9 : ((Int32.toNatClampNeg z2 : Nat) : Int) = z2.toInt := itn rfl (by omega)
    have t10 : (f5 (Int32.toNatClampNeg z2)).toInt = z4.toInt := by rw [ef5, upd_eq] <;> rfl
    exact hk _ _ _ _ _ (by first | omega | assumption | exact AB.none (by omega) | exact AB.mono (by assumption) (by omega) (by omega) (by omega) (by omega) | exact RB.none (by omega) | exact RB.mono (by assumption) (by omega) | exact UB.none (by omega) | exact UB.mono (by assumption) (by omega) | exact EQ.none (by omega) | exact EQ.mono (by assumption) (by omega)) (by first | omega | assumption | exact AB.none (by omega) | exact AB.mono (by assumption) (by omega) (by omega) (by omega) (by omega) | exact RB.none (by omega) | exact RB.mono (by assumption) (by omega) | exact UB.none (by omega) | exact UB.mono (by assumption) (by omega) | exact EQ.none (by omega) | exact EQ.mono (by assumption) (by omega)) (by first | omega | assumption | exact AB.none (by omega) | exact AB.mono (by assumption) (by omega) (by omega) (by omega) (by omega) | exact RB.none (by omega) | exact RB.mono (by assumption) (by omega) | exact UB.none (by omega) | exact UB.mono (by assumption) (by omega) | exact EQ.none (by omega) | exact EQ.mono (by assumption) (by omega)) (by first | omega | assumption | exact AB.none (by omega) | exact AB.mono (by assumption) (by omega) (by omega) (by omega) (by omega) | exact RB.none (by omega) | exact RB.mono (by assumption) (by omega) | exact UB.none (by omega) | exact UB.mono (by assumption) (by omega) | exact EQ.none (by omega) | exact EQ.mono (by assumption) (by omega))
  · skip
    have t11 := ine (a := (v_act (Int32.toNatClampNeg z1)).toInt) (b := 0) rfl rfl c6
    refine ⟨fun c12 => ?_, fun c12 => ?_⟩
    · skip
      have t13 := ieq (a := (v_act (Int32.toNatClampNeg z1)).toInt) (b := 1) rfl rfl c12
      refine ⟨ivp (a := z1.toInt) rfl (by omega) (by omega), ?_⟩
      intro z7 ez7
      have t14 : z7.toInt = (v_was (Int32.toNatClampNeg z1)).toInt := by rw [ez7] <;> rfl
      refine ⟨ivp (a := z2.toInt) rfl (by omega) (by omega), ?_⟩
      intro f8 ef8
      have t15 : ((Int32.toNatClampNeg z2 : Nat) : Int) = z2.toInt := itn rfl (by omega)
      have t16 : (f8 (Int32.toNatClampNeg z2)).toInt = z7.toInt := by rw [ef8, upd_eq] <;> rfl
      exact hk _ _ _ _ _ (by first | omega | assumption | exact AB.none (by omega) | exact AB.mono (by assumption) (by omega) (by omega) (by omega) (by omega) | exact RB.none (by omega) | exact RB.mono (by assumption) (by omega) | exact UB.none (by omega) | exact UB.mono (by assumption) (by omega) | exact EQ.none (by omega) | exact EQ.mono (by assumption) (by omega)) (by first | omega | assumption | exact AB.none (by omega) | exact AB.mono (by assumption) (by omega) (by omega) (by omega) (by omega) | exact RB.none (by omega) | exact RB.mono (by assumption) (by omega) | exact UB.none (by omega) | exact UB.mono (by assumption) (by omega) | exact EQ.none (by omega) | exact EQ.mono (by assumption) (by omega)) (by first | omega | assumption | exact AB.none (by omega) | exact AB.mono (by assumption) (by omega) (by omega) (by omega) (by omega) | exact RB.none (by omega) | exact RB.mono (by assumption) (by omega) | exact UB.none (by omega) | exact UB.mono (by assumption) (by omega) | exact EQ.none (by omega) | exact EQ.mono (by assumption) (by omega)) (by first | omega | assumption | exact AB.none (by omega) | exact AB.mono (by assumption) (by omega) (by omega) (by omega) (by omega) | exact RB.none (by omega) | exact RB.mono (by assumption) (by omega) | exact UB.none (by omega) | exact UB.mono (by assumption) (by omega) | exact EQ.none (by omega) | exact EQ.mono (by assumption) (by omega))
    · skip
      have t17 := ine (a := (v_act (Int32.toNatClampNeg z1)).toInt) (b := 1) rfl rfl c12
      refine ⟨fun c18 => ?_, fun c18 => ?_⟩
      · skip
        have t19 := ieq (a := (v_act (Int32.toNatClampNeg z1)).toInt) (b := 2) rfl rfl c18
        refine ⟨ivp (a := z1.toInt) rfl (by omega) (by omega), ?_⟩
        intro z10 ez10
        have t20 : z10.toInt = (v_was (Int32.toNatClampNeg z1)).toInt := by rw [ez10] <;> rfl
        refine ⟨ivp (a := z2.toInt) rfl (by omega) (by omega), ?_⟩
        intro f11 ef11
        have t21 : ((Int32.toNatClampNeg z2 : Nat) : Int) = z2.toInt := itn rfl (by omega)
        have t22 : (f11 (Int32.toNatClampNeg z2)).toInt = z10.toInt := by rw [ef11, upd_eq] <;> rfl
        exact hk _ _ _ _ _ (by first | omega | assumption | exact AB.none (by omega) | exact AB.mono (by assumption) (by omega) (by omega) (by omega) (by omega) | exact RB.none (by omega) | exact RB.mono (by assumption) (by omega) | exact UB.none (by omega) | exact UB.mono (by assumption) (by omega) | exact EQ.none (by omega) | exact EQ.mono (by assumption) (by omega)) (by first | omega | assumption | exact AB.none (by omega) | exact AB.mono (by assumption) (by omega) (by omega) (by omega) (by omega) | exact RB.none (by omega) | exact RB.mono (by assumption) (by omega) | exact UB.none (by omega) | exact UB.mono (by assumption) (by omega) | exact EQ.none (by omega) | exact EQ.mono (by assumption) (by omega)) (by first | omega | assumption | exact AB.none (by omega) | exact AB.mono (by assumption) (by omega) (by omega) (by omega) (by omega) | exact RB.none (by omega) | exact RB.mono (by assumption) (by omega) | exact UB.none (by omega) | exact UB.mono (by assumption) (by omega) | exact EQ.none (by omega) | exact EQ.mono (by assumption) (by omega)) (by first | omega | assumption | exact AB.none (by omega) | exact AB.mono (by assumption) (by omega) (by omega) (by omega) (by omega) | exact RB.none (by omega) | exact RB.mono (by assumption) (by omega) | exact UB.none (by omega) | exact UB.mono (by assumption) (by omega) | exact EQ.none (by omega) | exact EQ.mono (by assumption) (by omega))
      · skip
        have t23 := ine (a := (v_act (Int32.toNatClampNeg z1)).toInt) (b := 2) rfl rfl c18
        refine ⟨ivp (a := z1.toInt) rfl (by omega) (by omega), ?_⟩
        intro z12 ez12
        have t24 : z12.toInt = (v_was (Int32.toNatClampNeg z1)).toInt := by rw [ez12] <;> rfl
        refine ⟨ivp (a := z2.toInt) rfl (by omega) (by omega), ?_⟩
        intro f13 ef13
        have t25 : ((Int32.toNatClampNeg z2 : Nat) : Int) = z2.toInt := itn rfl (by omega)
        have t26 : (f13 (Int32.toNatClampNeg z2)).toInt = z12.toInt := by rw [ef13, upd_eq] <;> rfl
        exact hk _ _ _ _ _ (by first | omega | assumption | exact AB.none (by omega) | exact AB.mono (by assumption) (by omega) (by omega) (by omega) (by omega) | exact RB.none (by omega) | exact RB.mono (by assumption) (by omega) | exact UB.none (by omega) | exact UB.mono (by assumption) (by omega) | exact EQ.none (by omega) | exact EQ.mono (by assumption) (by omega)) (by first | omega | assumption | exact AB.none (by omega) | exact AB.mono (by assumption) (by omega) (by omega) (by omega) (by omega) | exact RB.none (by omega) | exact RB.mono (by assumption) (by omega) | exact UB.none (by omega) | exact UB.mono (by assumption) (by omega) | exact EQ.none (by omega) | exact EQ.mono (by assumption) (by omega)) (by first | omega | assumption | exact AB.none (by omega) | exact AB.mono (by assumption) (by omega) (by omega) (by omega) (by omega) | exact RB.none (by omega) | exact RB.mono (by assumption) (by omega) | exact UB.none (by omega) | exact UB.mono (by assumption) (by omega) | exact EQ.none (by omega) | exact EQ.mono (by assumption) (by omega)) (by first | omega | assumption | exact AB.none (by omega) | exact AB.mono (by assumption) (by omega) (by omega) (by omega) (by omega) | exact RB.none (by omega) | exact RB.mono (by assumption) (by omega) | exact UB.none (by omega) | exact UB.mono (by assumption) (by omega) | exact EQ.none (by omega) | exact EQ.mono (by assumption) (by omega))
set_option maxHeartbeats 1000000 in
set_option maxRecDepth 10000 in
theorem s_X4_renew {p1 : Int32} {p2 : Int32} {v_isThere : Int32} {v_lane : Int32} {v_size : Int32} {v_items : Nat → Int64} {post : (Int32) → (Int32) → (Int32) → (Nat → Int64) → Prop} (hp0 : 0 ≤ v_size.toInt) (hp1 : v_size.toInt ≤ 24) (hp2 : 0 ≤ p2.toInt) (hp3 : p2.toInt ≤ 24) (hk : ∀ (v_isThere' : Int32) (v_lane' : Int32) (v_size' : Int32) (v_items' : Nat → Int64), (0 ≤ v_size'.toInt) → (v_size'.toInt ≤ 24) → (v_size'.toInt = p2.toInt) → (v_isThere'.toInt = 1) → (v_lane'.toInt = p1.toInt) → post v_isThere' v_lane' v_size' v_items') : wp_X4_renew p1 p2 v_isThere v_lane v_size v_items post := by
  unfold wp_X4_renew
  have rp1 := Int32.toInt_lt p1
  have rq1 := Int32.le_toInt p1
  have rp2 := Int32.toInt_lt p2
  have rq2 := Int32.le_toInt p2
  have t1 : ((0 : Int32)).toInt = 0 := rfl
  refine ⟨fun n1 x3_1 v_items_1 => n1 = (p2.toInt - x3_1.toInt).toNat ∧ (0 ≤ x3_1.toInt), ⟨_, rfl, by first | omega | assumption | exact AB.none (by omega) | exact AB.mono (by assumption) (by omega) (by omega) (by omega) (by omega) | exact RB.none (by omega) | exact RB.mono (by assumption) (by omega) | exact UB.none (by omega) | exact UB.mono (by assumption) (by omega) | exact EQ.none (by omega) | exact EQ.mono (by assumption) (by omega)⟩, ?_⟩
  rintro n1 x3_1 v_items_1 ⟨hn1, q2⟩
  refine ⟨fun c3 => ?_, fun c3 => ?_⟩
  · skip
    have t4 := ile (a := p2.toInt) (b := x3_1.toInt) rfl rfl c3
    have t5 : (1 : Int32).toInt = 1 := rfl
    exact hk _ _ _ _ (by first | omega | assumption | exact AB.none (by omega) | exact AB.mono (by assumption) (by omega) (by omega) (by omega) (by omega) | exact RB.none (by omega) | exact RB.mono (by assumption) (by omega) | exact UB.none (by omega) | exact UB.mono (by assumption) (by omega) | exact EQ.none (by omega) | exact EQ.mono (by assumption) (by omega)) (by first | omega | assumption | exact AB.none (by omega) | exact AB.mono (by assumption) (by omega) (by omega) (by omega) (by omega) | exact RB.none (by omega) | exact RB.mono (by assumption) (by omega) | exact UB.none (by omega) | exact UB.mono (by assumption) (by omega) | exact EQ.none (by omega) | exact EQ.mono (by assumption) (by omega)) (by first | omega | assumption | exact AB.none (by omega) | exact AB.mono (by assumption) (by omega) (by omega) (by omega) (by omega) | exact RB.none (by omega) | exact RB.mono (by assumption) (by omega) | exact UB.none (by omega) | exact UB.mono (by assumption) (by omega) | exact EQ.none (by omega) | exact EQ.mono (by assumption) (by omega)) (by first | omega | assumption | exact AB.none (by omega) | exact AB.mono (by assumption) (by omega) (by omega) (by omega) (by omega) | exact RB.none (by omega) | exact RB.mono (by assumption) (by omega) | exact UB.none (by omega) | exact UB.mono (by assumption) (by omega) | exact EQ.none (by omega) | exact EQ.mono (by assumption) (by omega)) (by first | omega | assumption | exact AB.none (by omega) | exact AB.mono (by assumption) (by omega) (by omega) (by omega) (by omega) | exact RB.none (by omega) | exact RB.mono (by assumption) (by omega) | exact UB.none (by omega) | exact UB.mono (by assumption) (by omega) | exact EQ.none (by omega) | exact EQ.mono (by assumption) (by omega))
  · skip
    have t6 := inle (a := p2.toInt) (b := x3_1.toInt) rfl rfl c3
    refine ⟨ivp (a := x3_1.toInt) rfl (by omega) (by omega), ?_⟩
    intro f3 ef3
    try have t7 : (x3_1 + 1).toInt = x3_1.toInt + 1 := ia rfl rfl (by omega) (by omega)
    intro z4 ez4
    have t8 : z4.toInt = (x3_1 + 1).toInt := by rw [ez4] <;> rfl
    refine ⟨_, ?_, rfl, by first | omega | assumption | exact AB.none (by omega) | exact AB.mono (by assumption) (by omega) (by omega) (by omega) (by omega) | exact RB.none (by omega) | exact RB.mono (by assumption) (by omega) | exact UB.none (by omega) | exact UB.mono (by assumption) (by omega) | exact EQ.none (by omega) | exact EQ.mono (by assumption) (by omega)⟩
    omega
set_option maxHeartbeats 1000000 in
set_option maxRecDepth 10000 in
theorem s_X4_holds {p1 : Int32} {p2 : Int32} {v_size : Int32} {post : Int32 → Prop} (hp0 : 0 ≤ v_size.toInt) (hp1 : v_size.toInt ≤ 24) (hk : ∀ (r : Int32), (((0 ≤ p1.toInt ∧ 0 ≤ p2.toInt ∧ p1.toInt + p2.toInt ≤ v_size.toInt) ∧ r.toInt = 1) ∨ (¬ (0 ≤ p1.toInt ∧ 0 ≤ p2.toInt ∧ p1.toInt + p2.toInt ≤ v_size.toInt) ∧ r.toInt = 0)) → post r) : wp_X4_holds p1 p2 v_size post := by
  unfold wp_X4_holds
  have rp1 := Int32.toInt_lt p1
  have rq1 := Int32.le_toInt p1
  have rp2 := Int32.toInt_lt p2
  have rq2 := Int32.le_toInt p2
  refine ⟨fun c1 => ?_, fun c1 => ?_⟩
  · skip
    have t2 := ilt (a := p1.toInt) (b := 0) rfl rfl c1
    have t3 : (0 : Int32).toInt = 0 := rfl
    exact hk _ (by first | omega | assumption | exact AB.none (by omega) | exact AB.mono (by assumption) (by omega) (by omega) (by omega) (by omega) | exact RB.none (by omega) | exact RB.mono (by assumption) (by omega) | exact UB.none (by omega) | exact UB.mono (by assumption) (by omega) | exact EQ.none (by omega) | exact EQ.mono (by assumption) (by omega))
  · skip
    have t4 := inlt (a := p1.toInt) (b := 0) rfl rfl c1
    refine ⟨fun c5 => ?_, fun c5 => ?_⟩
    · skip
      have t6 := ilt (a := p2.toInt) (b := 0) rfl rfl c5
      have t7 : (0 : Int32).toInt = 0 := rfl
      exact hk _ (by first | omega | assumption | exact AB.none (by omega) | exact AB.mono (by assumption) (by omega) (by omega) (by omega) (by omega) | exact RB.none (by omega) | exact RB.mono (by assumption) (by omega) | exact UB.none (by omega) | exact UB.mono (by assumption) (by omega) | exact EQ.none (by omega) | exact EQ.mono (by assumption) (by omega))
    · skip
      have t8 := inlt (a := p2.toInt) (b := 0) rfl rfl c5
      try have t9 : (v_size - p2).toInt = v_size.toInt - p2.toInt := isb rfl rfl (by omega) (by omega)
      refine ⟨fun c10 => ?_, fun c10 => ?_⟩
      · skip
        have t11 := ilt (a := (v_size - p2).toInt) (b := p1.toInt) rfl rfl c10
        have t12 : (0 : Int32).toInt = 0 := rfl
        exact hk _ (by first | omega | assumption | exact AB.none (by omega) | exact AB.mono (by assumption) (by omega) (by omega) (by omega) (by omega) | exact RB.none (by omega) | exact RB.mono (by assumption) (by omega) | exact UB.none (by omega) | exact UB.mono (by assumption) (by omega) | exact EQ.none (by omega) | exact EQ.mono (by assumption) (by omega))
      · skip
        have t13 := inlt (a := (v_size - p2).toInt) (b := p1.toInt) rfl rfl c10
        have t14 : (1 : Int32).toInt = 1 := rfl
        exact hk _ (by first | omega | assumption | exact AB.none (by omega) | exact AB.mono (by assumption) (by omega) (by omega) (by omega) (by omega) | exact RB.none (by omega) | exact RB.mono (by assumption) (by omega) | exact UB.none (by omega) | exact UB.mono (by assumption) (by omega) | exact EQ.none (by omega) | exact EQ.mono (by assumption) (by omega))
set_option maxHeartbeats 1000000 in
set_option maxRecDepth 10000 in
theorem s_X4_refusal {p1 : Int32} {p2 : Int32} {p3 : Int32} {v_isThere : Int32} {v_lane : Int32} {v_size : Int32} {post : Int32 → Prop} (hp0 : 0 ≤ v_size.toInt) (hp1 : v_size.toInt ≤ 24) (hk : ∀ (r : Int32), ((v_isThere.toInt = 0 ∧ r.toInt = -11) ∨ (¬ v_isThere.toInt = 0 ∧ ¬ v_lane.toInt = p1.toInt ∧ r.toInt = -12) ∨ (¬ v_isThere.toInt = 0 ∧ v_lane.toInt = p1.toInt ∧ ¬ (0 ≤ p2.toInt ∧ 0 ≤ p3.toInt ∧ p2.toInt + p3.toInt ≤ v_size.toInt) ∧ r.toInt = -13) ∨ (¬ v_isThere.toInt = 0 ∧ v_lane.toInt = p1.toInt ∧ (0 ≤ p2.toInt ∧ 0 ≤ p3.toInt ∧ p2.toInt + p3.toInt ≤ v_size.toInt) ∧ r.toInt = 0)) → post r) : wp_X4_refusal p1 p2 p3 v_isThere v_lane v_size post := by
  unfold wp_X4_refusal
  have rp1 := Int32.toInt_lt p1
  have rq1 := Int32.le_toInt p1
  have rp2 := Int32.toInt_lt p2
  have rq2 := Int32.le_toInt p2
  have rp3 := Int32.toInt_lt p3
  have rq3 := Int32.le_toInt p3
  refine ⟨fun c1 => ?_, fun c1 => ?_⟩
  · skip
    have t2 := ine (a := v_isThere.toInt) (b := 0) rfl rfl c1
    refine ⟨fun c3 => ?_, fun c3 => ?_⟩
    · skip
      have t4 := ieq (a := v_lane.toInt) (b := p1.toInt) rfl rfl c3
      refine s_X4_holds (by first | omega | assumption | exact AB.none (by omega) | exact AB.mono (by assumption) (by omega) (by omega) (by omega) (by omega) | exact RB.none (by omega) | exact RB.mono (by assumption) (by omega) | exact UB.none (by omega) | exact UB.mono (by assumption) (by omega) | exact EQ.none (by omega) | exact EQ.mono (by assumption) (by omega)) (by first | omega | assumption | exact AB.none (by omega) | exact AB.mono (by assumption) (by omega) (by omega) (by omega) (by omega) | exact RB.none (by omega) | exact RB.mono (by assumption) (by omega) | exact UB.none (by omega) | exact UB.mono (by assumption) (by omega) | exact EQ.none (by omega) | exact EQ.mono (by assumption) (by omega)) (fun r3 q5 => ?_)
      refine ⟨fun c6 => ?_, fun c6 => ?_⟩
      · skip
        have t7 := ieq (a := r3.toInt) (b := 0) rfl rfl c6
        rcases q5 with q5 | q5
        · exfalso; omega
        have t8 : ((-13) : Int32).toInt = (-13) := rfl
        exact hk _ (by first | omega | assumption | exact AB.none (by omega) | exact AB.mono (by assumption) (by omega) (by omega) (by omega) (by omega) | exact RB.none (by omega) | exact RB.mono (by assumption) (by omega) | exact UB.none (by omega) | exact UB.mono (by assumption) (by omega) | exact EQ.none (by omega) | exact EQ.mono (by assumption) (by omega))
      · skip
        have t9 := ine (a := r3.toInt) (b := 0) rfl rfl c6
        rcases q5.symm with q5 | q5
        · exfalso; omega
        have t10 : (0 : Int32).toInt = 0 := rfl
        exact hk _ (by first | omega | assumption | exact AB.none (by omega) | exact AB.mono (by assumption) (by omega) (by omega) (by omega) (by omega) | exact RB.none (by omega) | exact RB.mono (by assumption) (by omega) | exact UB.none (by omega) | exact UB.mono (by assumption) (by omega) | exact EQ.none (by omega) | exact EQ.mono (by assumption) (by omega))
    · skip
      have t11 := ine (a := v_lane.toInt) (b := p1.toInt) rfl rfl c3
      have t12 : ((-12) : Int32).toInt = (-12) := rfl
      exact hk _ (by first | omega | assumption | exact AB.none (by omega) | exact AB.mono (by assumption) (by omega) (by omega) (by omega) (by omega) | exact RB.none (by omega) | exact RB.mono (by assumption) (by omega) | exact UB.none (by omega) | exact UB.mono (by assumption) (by omega) | exact EQ.none (by omega) | exact EQ.mono (by assumption) (by omega))
  · skip
    have t13 := ieq (a := v_isThere.toInt) (b := 0) rfl rfl c1
    have t14 : ((-11) : Int32).toInt = (-11) := rfl
    exact hk _ (by first | omega | assumption | exact AB.none (by omega) | exact AB.mono (by assumption) (by omega) (by omega) (by omega) (by omega) | exact RB.none (by omega) | exact RB.mono (by assumption) (by omega) | exact UB.none (by omega) | exact UB.mono (by assumption) (by omega) | exact EQ.none (by omega) | exact EQ.mono (by assumption) (by omega))
set_option maxHeartbeats 1000000 in
set_option maxRecDepth 10000 in
theorem s_X4_put {p1 : Int32} {p2 : Int64} {v_lane : Int32} {v_items : Nat → Int64} {post : (Nat → Int64) → Prop} (hp0 : 0 ≤ p1.toInt) (hp1 : p1.toInt ≤ 23) (hk : ∀ (v_items' : Nat → Int64), post v_items') : wp_X4_put p1 p2 v_lane v_items post := by
  unfold wp_X4_put
  have rp1 := Int32.toInt_lt p1
  have rq1 := Int32.le_toInt p1
  refine ⟨fun c1 => ?_, fun c1 => ?_⟩
  · skip
    have t2 := ieq (a := v_lane.toInt) (b := 0) rfl rfl c1
    intro z2 ez2
    refine ⟨ivp (a := p1.toInt) rfl (by omega) (by omega), ?_⟩
    intro f3 ef3
    exact hk _
  · skip
    have t3 := ine (a := v_lane.toInt) (b := 0) rfl rfl c1
    refine ⟨fun c4 => ?_, fun c4 => ?_⟩
    · skip
      have t5 := ieq (a := v_lane.toInt) (b := 1) rfl rfl c4
      intro z5 ez5
      refine ⟨ivp (a := p1.toInt) rfl (by omega) (by omega), ?_⟩
      intro f6 ef6
      exact hk _
    · skip
      have t6 := ine (a := v_lane.toInt) (b := 1) rfl rfl c4
      refine ⟨fun c7 => ?_, fun c7 => ?_⟩
      · skip
        have t8 := ieq (a := v_lane.toInt) (b := 2) rfl rfl c7
        intro z8 ez8
        refine ⟨ivp (a := p1.toInt) rfl (by omega) (by omega), ?_⟩
        intro f9 ef9
        exact hk _
      · skip
        have t9 := ine (a := v_lane.toInt) (b := 2) rfl rfl c7
        refine ⟨ivp (a := p1.toInt) rfl (by omega) (by omega), ?_⟩
        intro f10 ef10
        exact hk _
