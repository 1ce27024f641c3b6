set_option maxHeartbeats 1000000 in
set_option maxRecDepth 10000 in
theorem f_X8_heard {v_st : Nat → Int32} {post : Int32 → Prop} (hp0 : AB v_st 0 24 12 12) (hp1 : 0 ≤ (v_st (Int32.toNatClampNeg 60)).toInt) (hp2 : (v_st (Int32.toNatClampNeg 60)).toInt ≤ 1000) (hp3 : (v_st (Int32.toNatClampNeg 61)).toInt = 0) (hp4 : (v_st (Int32.toNatClampNeg 62)).toInt = 0) (hp5 : (v_st (Int32.toNatClampNeg 60)).toInt = 0) (hk : ∀ (r : Int32), (r.toInt = 0) → post r) : wp_X8_heard v_st post := by
  unfold wp_X8_heard
  have tn60 : ((Int32.toNatClampNeg 60 : Nat) : Int) = 60 := rfl
  have tn61 : ((Int32.toNatClampNeg 61 : Nat) : Int) = 61 := rfl
  have tn62 : ((Int32.toNatClampNeg 62 : Nat) : Int) = 62 := rfl
  refine ⟨ivp (a := 61) rfl (by omega) (by omega), ?_⟩
  try have q1 := AB.get (f := v_st) (i := 61) (a := 61) (by assumption) rfl (by omega) (by omega) (by omega)
  exact hk _ (by first | omega | assumption | exact AB.none (by omega) | exact AB.mono (by assumption) (by omega) (by omega) (by omega) (by omega))
set_option maxHeartbeats 1000000 in
set_option maxRecDepth 10000 in
theorem f_X8_tune {p1 : Int32} {p2 : Int32} {v_rates : Nat → Int32} {v_clocks : Int32} {v_undos : Nat → Int32} {v_undoMany : Int32} {post : Int32 → (Nat → Int32) → (Nat → Int32) → (Int32) → Prop} (hp0 : v_clocks.toInt = 0) (hp1 : v_undoMany.toInt = 0) (hk : ∀ (r : Int32) (v_rates' : Nat → Int32) (v_undos' : Nat → Int32) (v_undoMany' : Int32), (r.toInt = -1001) → post r v_rates' v_undos' v_undoMany') : wp_X8_tune p1 p2 v_rates v_clocks v_undos v_undoMany post := by
  unfold wp_X8_tune
  have tn60 : ((Int32.toNatClampNeg 60 : Nat) : Int) = 60 := rfl
  have tn61 : ((Int32.toNatClampNeg 61 : Nat) : Int) = 61 := rfl
  have tn62 : ((Int32.toNatClampNeg 62 : Nat) : Int) = 62 := rfl
  refine f_X8_isClock (by first | omega | assumption | exact AB.none (by omega) | exact AB.mono (by assumption) (by omega) (by omega) (by omega) (by omega)) (fun r1 q1 => ?_)
  refine ⟨fun c2 => ?_, fun c2 => ?_⟩
  · skip
    have t3 := ieq (a := r1.toInt) (b := 0) rfl rfl c2
    first
      | exfalso; omega
      | skip
        have t4 : ((-1001) : Int32).toInt = (-1001) := rfl
        exact hk _ _ _ _ (by first | omega | assumption | exact AB.none (by omega) | exact AB.mono (by assumption) (by omega) (by omega) (by omega) (by omega))
  · skip
    have t5 := ine (a := r1.toInt) (b := 0) rfl rfl c2
    exfalso; omega
set_option maxHeartbeats 1000000 in
set_option maxRecDepth 10000 in
theorem f_X8_undo {v_st : Nat → Int32} {v_rates : Nat → Int32} {v_undos : Nat → Int32} {v_undoMany : Int32} {post : Int32 → (Nat → Int32) → (Nat → Int32) → (Int32) → Prop} (hp0 : v_undoMany.toInt = 0) (hp1 : AB v_st 0 24 12 12) (hp2 : 0 ≤ (v_st (Int32.toNatClampNeg 60)).toInt) (hp3 : (v_st (Int32.toNatClampNeg 60)).toInt ≤ 1000) (hp4 : (v_st (Int32.toNatClampNeg 61)).toInt = 0) (hp5 : (v_st (Int32.toNatClampNeg 62)).toInt = 0) (hp6 : (v_st (Int32.toNatClampNeg 60)).toInt = 0) (hk : ∀ (r : Int32) (v_st' : Nat → Int32) (v_rates' : Nat → Int32) (v_undoMany' : Int32), (r.toInt = -4) → post r v_st' v_rates' v_undoMany') : wp_X8_undo v_st v_rates v_undos v_undoMany post := by
  unfold wp_X8_undo
  have tn60 : ((Int32.toNatClampNeg 60 : Nat) : Int) = 60 := rfl
  have tn61 : ((Int32.toNatClampNeg 61 : Nat) : Int) = 61 := rfl
  have tn62 : ((Int32.toNatClampNeg 62 : Nat) : Int) = 62 := rfl
  refine ⟨fun c1 => ?_, fun c1 => ?_⟩
  · skip
    have t2 := ine (a := v_undoMany.toInt) (b := 0) rfl rfl c1
    exfalso; omega
  · skip
    have t3 := ieq (a := v_undoMany.toInt) (b := 0) rfl rfl c1
    first
      | exfalso; omega
      | skip
        have t4 : ((-4) : Int32).toInt = (-4) := rfl
        exact hk _ _ _ _ (by first | omega | assumption | exact AB.none (by omega) | exact AB.mono (by assumption) (by omega) (by omega) (by omega) (by omega))
set_option maxHeartbeats 1000000 in
set_option maxRecDepth 10000 in
theorem f_X8_restart {v_st : Nat → Int32} {v_clocks : Int32} {v_windows : Int32} {v_undoMany : Int32} {post : Int32 → (Nat → Int32) → (Int32) → Prop} (hp0 : v_clocks.toInt = 0) (hp1 : v_windows.toInt = 8) (hp2 : v_undoMany.toInt = 0) (hp3 : AB v_st 0 24 12 12) (hp4 : 0 ≤ (v_st (Int32.toNatClampNeg 60)).toInt) (hp5 : (v_st (Int32.toNatClampNeg 60)).toInt ≤ 1000) (hp6 : (v_st (Int32.toNatClampNeg 61)).toInt = 0) (hp7 : (v_st (Int32.toNatClampNeg 62)).toInt = 0) (hp8 : (v_st (Int32.toNatClampNeg 60)).toInt = 0) (hk : ∀ (r : Int32) (v_st' : Nat → Int32) (v_undoMany' : Int32), (r.toInt = 0) → post r v_st' v_undoMany') : wp_X8_restart v_st v_clocks v_windows v_undoMany post := by
  unfold wp_X8_restart
  have tn60 : ((Int32.toNatClampNeg 60 : Nat) : Int) = 60 := rfl
  have tn61 : ((Int32.toNatClampNeg 61 : Nat) : Int) = 61 := rfl
  have tn62 : ((Int32.toNatClampNeg 62 : Nat) : Int) = 62 := rfl
  refine f_X8_homes (by first | omega | assumption | exact AB.none (by omega) | exact AB.mono (by assumption) (by omega) (by omega) (by omega) (by omega)) (by first | omega | assumption | exact AB.none (by omega) | exact AB.mono (by assumption) (by omega) (by omega) (by omega) (by omega)) (by first | omega | assumption | exact AB.none (by omega) | exact AB.mono (by assumption) (by omega) (by omega) (by omega) (by omega)) (by first | omega | assumption | exact AB.none (by omega) | exact AB.mono (by assumption) (by omega) (by omega) (by omega) (by omega)) (by first | omega | assumption | exact AB.none (by omega) | exact AB.mono (by assumption) (by omega) (by omega) (by omega) (by omega)) (by first | omega | assumption | exact AB.none (by omega) | exact AB.mono (by assumption) (by omega) (by omega) (by omega) (by omega)) (by first | omega | assumption | exact AB.none (by omega) | exact AB.mono (by assumption) (by omega) (by omega) (by omega) (by omega)) (fun r1 q1 => ?_)
  refine f_X8_allBack (by first | omega | assumption | exact AB.none (by omega) | exact AB.mono (by assumption) (by omega) (by omega) (by omega) (by omega)) (by first | omega | assumption | exact AB.none (by omega) | exact AB.mono (by assumption) (by omega) (by omega) (by omega) (by omega)) (by first | omega | assumption | exact AB.none (by omega) | exact AB.mono (by assumption) (by omega) (by omega) (by omega) (by omega)) (by first | omega | assumption | exact AB.none (by omega) | exact AB.mono (by assumption) (by omega) (by omega) (by omega) (by omega)) (by first | omega | assumption | exact AB.none (by omega) | exact AB.mono (by assumption) (by omega) (by omega) (by omega) (by omega)) (by first | omega | assumption | exact AB.none (by omega) | exact AB.mono (by assumption) (by omega) (by omega) (by omega) (by omega)) (by first | omega | assumption | exact AB.none (by omega) | exact AB.mono (by assumption) (by omega) (by omega) (by omega) (by omega)) (fun v_st_3 v_undoMany_4 => ?_)
  refine ⟨ivp (a := 60) rfl (by omega) (by omega), ?_⟩
  intro f5 ef5
  have t2 : ((Int32.toNatClampNeg 60 : Nat) : Int) = 60 := itn rfl (by omega)
  have t3 : (f5 (Int32.toNatClampNeg 60)).toInt = 0 := by rw [ef5, upd_eq] <;> rfl
  try have t4 : (f5 (Int32.toNatClampNeg 60)).toInt = (v_st_3 (Int32.toNatClampNeg 60)).toInt := by rw [ef5, upd_ne (by omega)]
  try have t5 : (f5 (Int32.toNatClampNeg 61)).toInt = (v_st_3 (Int32.toNatClampNeg 61)).toInt := by rw [ef5, upd_ne (by omega)]
  try have t6 : (f5 (Int32.toNatClampNeg 62)).toInt = (v_st_3 (Int32.toNatClampNeg 62)).toInt := by rw [ef5, upd_ne (by omega)]
  try have q7 : AB f5 0 24 12 12 := by rw [ef5]; first | exact AB.updo (by assumption) (by omega) | exact AB.updv (by assumption) rfl (by omega) (by omega) | exact AB.none (by omega)
  refine ⟨ivp (a := 61) rfl (by omega) (by omega), ?_⟩
  intro f6 ef6
  have t8 : ((Int32.toNatClampNeg 61 : Nat) : Int) = 61 := itn rfl (by omega)
  have t9 : (f6 (Int32.toNatClampNeg 61)).toInt = 0 := by rw [ef6, upd_eq] <;> rfl
  try have t10 : (f6 (Int32.toNatClampNeg 60)).toInt = (f5 (Int32.toNatClampNeg 60)).toInt := by rw [ef6, upd_ne (by omega)]
  try have t11 : (f6 (Int32.toNatClampNeg 61)).toInt = (f5 (Int32.toNatClampNeg 61)).toInt := by rw [ef6, upd_ne (by omega)]
  try have t12 : (f6 (Int32.toNatClampNeg 62)).toInt = (f5 (Int32.toNatClampNeg 62)).toInt := by rw [ef6, upd_ne (by omega)]
  try have q13 : AB f6 0 24 12 12 := by rw [ef6]; first | exact AB.updo (by assumption) (by omega) | exact AB.updv (by assumption) rfl (by omega) (by omega) | exact AB.none (by omega)
  refine ⟨ivp (a := 62) rfl (by omega) (by omega), ?_⟩
  intro f7 ef7
  have t14 : ((Int32.toNatClampNeg 62 : Nat) : Int) = 62 := itn rfl (by omega)
  have t15 : (f7 (Int32.toNatClampNeg 62)).toInt = 0 := by rw [ef7, upd_eq] <;> rfl
  try have t16 : (f7 (Int32.toNatClampNeg 60)).toInt = (f6 (Int32.toNatClampNeg 60)).toInt := by rw [ef7, upd_ne (by omega)]
  try have t17 : (f7 (Int32.toNatClampNeg 61)).toInt = (f6 (Int32.toNatClampNeg 61)).toInt := by rw [ef7, upd_ne (by omega)]
  try have t18 : (f7 (Int32.toNatClampNeg 62)).toInt = (f6 (Int32.toNatClampNeg 62)).toInt := by rw [ef7, upd_ne (by omega)]
  try have q19 : AB f7 0 24 12 12 := by rw [ef7]; first | exact AB.updo (by assumption) (by omega) | exact AB.updv (by assumption) rfl (by omega) (by omega) | exact AB.none (by omega)
  exact hk _ _ _ (by first | omega | assumption | exact AB.none (by omega) | exact AB.mono (by assumption) (by omega) (by omega) (by omega) (by omega))
set_option maxHeartbeats 1000000 in
set_option maxRecDepth 10000 in
theorem f_X8_keepAside {v_st : Nat → Int32} {v_aside : Nat → Int32} {post : (Nat → Int32) → Prop} (hp0 : AB v_st 0 24 12 12) (hp1 : 0 ≤ (v_st (Int32.toNatClampNeg 60)).toInt) (hp2 : (v_st (Int32.toNatClampNeg 60)).toInt ≤ 1000) (hp3 : (v_st (Int32.toNatClampNeg 61)).toInt = 0) (hp4 : (v_st (Int32.toNatClampNeg 62)).toInt = 0) (hk : ∀ (v_aside' : Nat → Int32), post v_aside') : wp_X8_keepAside v_st v_aside post := by
  unfold wp_X8_keepAside
  have tn60 : ((Int32.toNatClampNeg 60 : Nat) : Int) = 60 := rfl
  have tn61 : ((Int32.toNatClampNeg 61 : Nat) : Int) = 61 := rfl
  have tn62 : ((Int32.toNatClampNeg 62 : Nat) : Int) = 62 := rfl
  have t1 : ((0 : Int32)).toInt = 0 := rfl
  refine ⟨fun n1 x1_1 v_aside_1 => n1 = (63 - x1_1.toInt).toNat ∧ (0 ≤ x1_1.toInt), ⟨_, rfl, by first | omega | assumption | exact AB.none (by omega) | exact AB.mono (by assumption) (by omega) (by omega) (by omega) (by omega)⟩, ?_⟩
  rintro n1 x1_1 v_aside_1 ⟨hn1, q2⟩
  refine ⟨fun c3 => ?_, fun c3 => ?_⟩
  · skip
    have t4 := ile (a := 63) (b := x1_1.toInt) rfl rfl c3
    first
      | exfalso; omega
      | skip
        exact hk _
  · skip
    have t5 := inle (a := 63) (b := x1_1.toInt) rfl rfl c3
    first
      | exfalso; omega
      | skip
        refine ⟨ivp (a := x1_1.toInt) rfl (by omega) (by omega), ?_⟩
        try have q6 := AB.get (f := v_st) (i := x1_1) (a := x1_1.toInt) (by assumption) rfl (by omega) (by omega) (by omega)
        intro z3 ez3
        have t7 : z3.toInt = (v_st (Int32.toNatClampNeg x1_1)).toInt := by rw [ez3] <;> rfl
        refine ⟨ivp (a := x1_1.toInt) rfl (by omega) (by omega), ?_⟩
        intro f4 ef4
        have t8 : ((Int32.toNatClampNeg x1_1 : Nat) : Int) = x1_1.toInt := itn rfl (by omega)
        have t9 : (f4 (Int32.toNatClampNeg x1_1)).toInt = z3.toInt := by rw [ef4, upd_eq] <;> rfl
        try have t10 : (x1_1 + 1).toInt = x1_1.toInt + 1 := ia rfl rfl (by omega) (by omega)
        intro z5 ez5
        have t11 : z5.toInt = (x1_1 + 1).toInt := by rw [ez5] <;> rfl
        refine ⟨_, ?_, rfl, by first | omega | assumption | exact AB.none (by omega) | exact AB.mono (by assumption) (by omega) (by omega) (by omega) (by omega)⟩
        omega
set_option maxHeartbeats 1000000 in
set_option maxRecDepth 10000 in
theorem f_X8_bringBack {v_st : Nat → Int32} {v_aside : Nat → Int32} {post : (Nat → Int32) → Prop} (hk : ∀ (v_st' : Nat → Int32), post v_st') : wp_X8_bringBack v_st v_aside post := by
  unfold wp_X8_bringBack
  have tn60 : ((Int32.toNatClampNeg 60 : Nat) : Int) = 60 := rfl
  have tn61 : ((Int32.toNatClampNeg 61 : Nat) : Int) = 61 := rfl
  have tn62 : ((Int32.toNatClampNeg 62 : Nat) : Int) = 62 := rfl
  have t1 : ((0 : Int32)).toInt = 0 := rfl
  refine ⟨fun n1 x1_1 v_st_1 => n1 = (63 - x1_1.toInt).toNat ∧ (0 ≤ x1_1.toInt), ⟨_, rfl, by first | omega | assumption | exact AB.none (by omega) | exact AB.mono (by assumption) (by omega) (by omega) (by omega) (by omega)⟩, ?_⟩
  rintro n1 x1_1 v_st_1 ⟨hn1, q2⟩
  refine ⟨fun c3 => ?_, fun c3 => ?_⟩
  · skip
    have t4 := ile (a := 63) (b := x1_1.toInt) rfl rfl c3
    first
      | exfalso; omega
      | skip
        exact hk _
  · skip
    have t5 := inle (a := 63) (b := x1_1.toInt) rfl rfl c3
    first
      | exfalso; omega
      | skip
        refine ⟨ivp (a := x1_1.toInt) rfl (by omega) (by omega), ?_⟩
        intro z3 ez3
        have t6 : z3.toInt = (v_aside (Int32.toNatClampNeg x1_1)).toInt := by rw [ez3] <;> rfl
        refine ⟨ivp (a := x1_1.toInt) rfl (by omega) (by omega), ?_⟩
        intro f4 ef4
        have t7 : ((Int32.toNatClampNeg x1_1 : Nat) : Int) = x1_1.toInt := itn rfl (by omega)
        have t8 : (f4 (Int32.toNatClampNeg x1_1)).toInt = z3.toInt := by rw [ef4, upd_eq] <;> rfl
        try have t9 : (f4 (Int32.toNatClampNeg 60)).toInt = (v_st_1 (Int32.toNatClampNeg 60)).toInt := by rw [ef4, upd_ne (by omega)]
        try have t10 : (f4 (Int32.toNatClampNeg 61)).toInt = (v_st_1 (Int32.toNatClampNeg 61)).toInt := by rw [ef4, upd_ne (by omega)]
        try have t11 : (f4 (Int32.toNatClampNeg 62)).toInt = (v_st_1 (Int32.toNatClampNeg 62)).toInt := by rw [ef4, upd_ne (by omega)]
        try have q12 : AB f4 0 24 12 12 := by rw [ef4]; first | exact AB.updo (by assumption) (by omega) | exact AB.updv (by assumption) rfl (by omega) (by omega) | exact AB.none (by omega)
        try have t13 : (x1_1 + 1).toInt = x1_1.toInt + 1 := ia rfl rfl (by omega) (by omega)
        intro z5 ez5
        have t14 : z5.toInt = (x1_1 + 1).toInt := by rw [ez5] <;> rfl
        refine ⟨_, ?_, rfl, by first | omega | assumption | exact AB.none (by omega) | exact AB.mono (by assumption) (by omega) (by omega) (by omega) (by omega)⟩
        omega
set_option maxHeartbeats 1000000 in
set_option maxRecDepth 10000 in
theorem f_X8_goHours {p1 : Int32} {v_st : Nat → Int32} {v_kinds : Nat → Int32} {v_rates : Nat → Int32} {v_clocks : Int32} {v_windows : Int32} {v_skyRow : Nat → Int32} {v_skyMany : Int32} {v_sky : Int32} {post : (Nat → Int32) → Prop} (hp0 : v_clocks.toInt = 0) (hp1 : v_windows.toInt = 8) (hp2 : v_skyMany.toInt = 1) (hp3 : v_sky.toInt = -1) (hp4 : AB v_st 0 24 12 12) (hp5 : 0 ≤ (v_st (Int32.toNatClampNeg 60)).toInt) (hp6 : (v_st (Int32.toNatClampNeg 60)).toInt ≤ 1000) (hp7 : (v_st (Int32.toNatClampNeg 61)).toInt = 0) (hp8 : (v_st (Int32.toNatClampNeg 62)).toInt = 0) (hp9 : AB v_skyRow 0 12 0 0) (hp10 : (v_st (Int32.toNatClampNeg 60)).toInt ≤ 600) (hp11 : p1.toInt ≤ 200) (hk : ∀ (v_st' : Nat → Int32), (AB v_st' 0 24 12 12) → (0 ≤ (v_st' (Int32.toNatClampNeg 60)).toInt) → ((v_st' (Int32.toNatClampNeg 60)).toInt ≤ 1000) → ((v_st' (Int32.toNatClampNeg 61)).toInt = 0) → ((v_st' (Int32.toNatClampNeg 62)).toInt = 0) → post v_st') : wp_X8_goHours p1 v_st v_kinds v_rates v_clocks v_windows v_skyRow v_skyMany v_sky post := by
  unfold wp_X8_goHours
  have tn60 : ((Int32.toNatClampNeg 60 : Nat) : Int) = 60 := rfl
  have tn61 : ((Int32.toNatClampNeg 61 : Nat) : Int) = 61 := rfl
  have tn62 : ((Int32.toNatClampNeg 62 : Nat) : Int) = 62 := rfl
  have t1 : ((0 : Int32)).toInt = 0 := rfl
  refine ⟨fun n1 x2_1 v_st_1 => n1 = (p1.toInt - x2_1.toInt).toNat ∧ (AB v_st_1 0 24 12 12) ∧ (0 ≤ (v_st_1 (Int32.toNatClampNeg 60)).toInt) ∧ ((v_st_1 (Int32.toNatClampNeg 60)).toInt ≤ 1000) ∧ ((v_st_1 (Int32.toNatClampNeg 61)).toInt = 0) ∧ ((v_st_1 (Int32.toNatClampNeg 62)).toInt = 0) ∧ (0 ≤ x2_1.toInt) ∧ ((v_st_1 (Int32.toNatClampNeg 60)).toInt ≤ (v_st (Int32.toNatClampNeg 60)).toInt + x2_1.toInt) ∧ (x2_1.toInt = 0 ∨ x2_1.toInt ≤ p1.toInt), ⟨_, rfl, by first | omega | assumption | exact AB.none (by omega) | exact AB.mono (by assumption) (by omega) (by omega) (by omega) (by omega), by first | omega | assumption | exact AB.none (by omega) | exact AB.mono (by assumption) (by omega) (by omega) (by omega) (by omega), by first | omega | assumption | exact AB.none (by omega) | exact AB.mono (by assumption) (by omega) (by omega) (by omega) (by omega), by first | omega | assumption | exact AB.none (by omega) | exact AB.mono (by assumption) (by omega) (by omega) (by omega) (by omega), by first | omega | assumption | exact AB.none (by omega) | exact AB.mono (by assumption) (by omega) (by omega) (by omega) (by omega), by first | omega | assumption | exact AB.none (by omega) | exact AB.mono (by assumption) (by omega) (by omega) (by omega) (by omega), by first | omega | assumption | exact AB.none (by omega) | exact AB.mono (by assumption) (by omega) (by omega) (by omega) (by omega), by first | omega | assumption | exact AB.none (by omega) | exact AB.mono (by assumption) (by omega) (by omega) (by omega) (by omega)⟩, ?_⟩
  rintro n1 x2_1 v_st_1 ⟨hn1, q2, q3, q4, q5, q6, q7, q8, q9⟩
  refine ⟨fun c10 => ?_, fun c10 => ?_⟩
  · skip
    have t11 := ile (a := p1.toInt) (b := x2_1.toInt) rfl rfl c10
    first
      | exfalso; omega
      | skip
        exact hk _ (by first | omega | assumption | exact AB.none (by omega) | exact AB.mono (by assumption) (by omega) (by omega) (by omega) (by omega)) (by first | omega | assumption | exact AB.none (by omega) | exact AB.mono (by assumption) (by omega) (by omega) (by omega) (by omega)) (by first | omega | assumption | exact AB.none (by omega) | exact AB.mono (by assumption) (by omega) (by omega) (by omega) (by omega)) (by first | omega | assumption | exact AB.none (by omega) | exact AB.mono (by assumption) (by omega) (by omega) (by omega) (by omega)) (by first | omega | assumption | exact AB.none (by omega) | exact AB.mono (by assumption) (by omega) (by omega) (by omega) (by omega))
  · skip
    have t12 := inle (a := p1.toInt) (b := x2_1.toInt) rfl rfl c10
    first
      | exfalso; omega
      | skip
        refine f_X8_skyNow (by first | omega | assumption | exact AB.none (by omega) | exact AB.mono (by assumption) (by omega) (by omega) (by omega) (by omega)) (by first | omega | assumption | exact AB.none (by omega) | exact AB.mono (by assumption) (by omega) (by omega) (by omega) (by omega)) (by first | omega | assumption | exact AB.none (by omega) | exact AB.mono (by assumption) (by omega) (by omega) (by omega) (by omega)) (by first | omega | assumption | exact AB.none (by omega) | exact AB.mono (by assumption) (by omega) (by omega) (by omega) (by omega)) (by first | omega | assumption | exact AB.none (by omega) | exact AB.mono (by assumption) (by omega) (by omega) (by omega) (by omega)) (by first | omega | assumption | exact AB.none (by omega) | exact AB.mono (by assumption) (by omega) (by omega) (by omega) (by omega)) (by first | omega | assumption | exact AB.none (by omega) | exact AB.mono (by assumption) (by omega) (by omega) (by omega) (by omega)) (by first | omega | assumption | exact AB.none (by omega) | exact AB.mono (by assumption) (by omega) (by omega) (by omega) (by omega)) (fun r3 => ?_)
        refine f_X8_goOn (by first | omega | assumption | exact AB.none (by omega) | exact AB.mono (by assumption) (by omega) (by omega) (by omega) (by omega)) (by first | omega | assumption | exact AB.none (by omega) | exact AB.mono (by assumption) (by omega) (by omega) (by omega) (by omega)) (by first | omega | assumption | exact AB.none (by omega) | exact AB.mono (by assumption) (by omega) (by omega) (by omega) (by omega)) (by first | omega | assumption | exact AB.none (by omega) | exact AB.mono (by assumption) (by omega) (by omega) (by omega) (by omega)) (by first | omega | assumption | exact AB.none (by omega) | exact AB.mono (by assumption) (by omega) (by omega) (by omega) (by omega)) (by first | omega | assumption | exact AB.none (by omega) | exact AB.mono (by assumption) (by omega) (by omega) (by omega) (by omega)) (by first | omega | assumption | exact AB.none (by omega) | exact AB.mono (by assumption) (by omega) (by omega) (by omega) (by omega)) (by first | omega | assumption | exact AB.none (by omega) | exact AB.mono (by assumption) (by omega) (by omega) (by omega) (by omega)) (fun r4 v_st_5 q13 q14 q15 q16 q17 q18 q19 => ?_)
        try have t20 : (x2_1 + 1).toInt = x2_1.toInt + 1 := ia rfl rfl (by omega) (by omega)
        intro z6 ez6
        have t21 : z6.toInt = (x2_1 + 1).toInt := by rw [ez6] <;> rfl
        refine ⟨_, ?_, rfl, by first | omega | assumption | exact AB.none (by omega) | exact AB.mono (by assumption) (by omega) (by omega) (by omega) (by omega), by first | omega | assumption | exact AB.none (by omega) | exact AB.mono (by assumption) (by omega) (by omega) (by omega) (by omega), by first | omega | assumption | exact AB.none (by omega) | exact AB.mono (by assumption) (by omega) (by omega) (by omega) (by omega), by first | omega | assumption | exact AB.none (by omega) | exact AB.mono (by assumption) (by omega) (by omega) (by omega) (by omega), by first | omega | assumption | exact AB.none (by omega) | exact AB.mono (by assumption) (by omega) (by omega) (by omega) (by omega), by first | omega | assumption | exact AB.none (by omega) | exact AB.mono (by assumption) (by omega) (by omega) (by omega) (by omega), by first | omega | assumption | exact AB.none (by omega) | exact AB.mono (by assumption) (by omega) (by omega) (by omega) (by omega), by first | omega | assumption | exact AB.none (by omega) | exact AB.mono (by assumption) (by omega) (by omega) (by omega) (by omega)⟩
        omega
set_option maxHeartbeats 1000000 in
set_option maxRecDepth 10000 in
theorem f_X8_isLong {p1 : Int32} {post : Int32 → Prop} (hk : ∀ (r : Int32), (((0 ≤ p1.toInt ∧ p1.toInt ≤ 200) ∧ r.toInt = 1) ∨ (¬ (0 ≤ p1.toInt ∧ p1.toInt ≤ 200) ∧ r.toInt = 0)) → post r) : wp_X8_isLong p1 post := by
  unfold wp_X8_isLong
  have tn60 : ((Int32.toNatClampNeg 60 : Nat) : Int) = 60 := rfl
  have tn61 : ((Int32.toNatClampNeg 61 : Nat) : Int) = 61 := rfl
  have tn62 : ((Int32.toNatClampNeg 62 : Nat) : Int) = 62 := rfl
  have t1 : (Int32.toInt64 p1).toInt = p1.toInt := i2l rfl
  have t2 : (0 : Int64).toInt = 0 := rfl
  have t3 : (200 : Int64).toInt = 200 := rfl
  refine f_X8_in  (fun r1 q4 => ?_)
  refine ⟨i01 (a := r1.toInt) rfl (by omega), ?_⟩
  exact hk _ (by first | omega | assumption | exact AB.none (by omega) | exact AB.mono (by assumption) (by omega) (by omega) (by omega) (by omega))
set_option maxHeartbeats 1000000 in
set_option maxRecDepth 10000 in
theorem f_X8_behind {p1 : Int32} {p2 : Int32} {p3 : Int32} {v_st : Nat → Int32} {v_kinds : Nat → Int32} {v_rates : Nat → Int32} {v_clocks : Int32} {v_windows : Int32} {v_skyRow : Nat → Int32} {v_skyMany : Int32} {v_sky : Int32} {v_aside : Nat → Int32} {post : Int32 → (Nat → Int32) → (Nat → Int32) → Prop} (hp0 : v_clocks.toInt = 0) (hp1 : v_windows.toInt = 8) (hp2 : v_skyMany.toInt = 1) (hp3 : v_sky.toInt = -1) (hp4 : AB v_st 0 24 12 12) (hp5 : 0 ≤ (v_st (Int32.toNatClampNeg 60)).toInt) (hp6 : (v_st (Int32.toNatClampNeg 60)).toInt ≤ 1000) (hp7 : (v_st (Int32.toNatClampNeg 61)).toInt = 0) (hp8 : (v_st (Int32.toNatClampNeg 62)).toInt = 0) (hp9 : AB v_skyRow 0 12 0 0) (hp10 : (v_st (Int32.toNatClampNeg 60)).toInt = 0) (hk : ∀ (r : Int32) (v_st' : Nat → Int32) (v_aside' : Nat → Int32), (r.toInt = -1) → post r v_st' v_aside') : wp_X8_behind p1 p2 p3 v_st v_kinds v_rates v_clocks v_windows v_skyRow v_skyMany v_sky v_aside post := by
  unfold wp_X8_behind
  have tn60 : ((Int32.toNatClampNeg 60 : Nat) : Int) = 60 := rfl
  have tn61 : ((Int32.toNatClampNeg 61 : Nat) : Int) = 61 := rfl
  have tn62 : ((Int32.toNatClampNeg 62 : Nat) : Int) = 62 := rfl
  refine f_X8_isClock (by first | omega | assumption | exact AB.none (by omega) | exact AB.mono (by assumption) (by omega) (by omega) (by omega) (by omega)) (fun r1 q1 => ?_)
  refine ⟨fun c2 => ?_, fun c2 => ?_⟩
  · skip
    have t3 := ieq (a := r1.toInt) (b := 0) rfl rfl c2
    first
      | exfalso; omega
      | skip
        have t4 : ((-1) : Int32).toInt = (-1) := rfl
        exact hk _ _ _ (by first | omega | assumption | exact AB.none (by omega) | exact AB.mono (by assumption) (by omega) (by omega) (by omega) (by omega))
  · skip
    have t5 := ine (a := r1.toInt) (b := 0) rfl rfl c2
    exfalso; omega
set_option maxHeartbeats 1000000 in
set_option maxRecDepth 10000 in
theorem f_X8_leads {p1 : Int32} {v_st : Nat → Int32} {v_kinds : Nat → Int32} {v_rates : Nat → Int32} {v_clocks : Int32} {v_windows : Int32} {v_skyRow : Nat → Int32} {v_skyMany : Int32} {v_sky : Int32} {v_aside : Nat → Int32} {post : Int32 → (Nat → Int32) → (Nat → Int32) → Prop} (hp0 : v_clocks.toInt = 0) (hp1 : v_windows.toInt = 8) (hp2 : v_skyMany.toInt = 1) (hp3 : v_sky.toInt = -1) (hp4 : AB v_st 0 24 12 12) (hp5 : 0 ≤ (v_st (Int32.toNatClampNeg 60)).toInt) (hp6 : (v_st (Int32.toNatClampNeg 60)).toInt ≤ 1000) (hp7 : (v_st (Int32.toNatClampNeg 61)).toInt = 0) (hp8 : (v_st (Int32.toNatClampNeg 62)).toInt = 0) (hp9 : AB v_skyRow 0 12 0 0) (hp10 : (v_st (Int32.toNatClampNeg 60)).toInt = 0) (hk : ∀ (r : Int32) (v_st' : Nat → Int32) (v_aside' : Nat → Int32), (((0 ≤ p1.toInt ∧ p1.toInt ≤ 200) ∧ r.toInt = 0) ∨ (¬ (0 ≤ p1.toInt ∧ p1.toInt ≤ 200) ∧ r.toInt = -1)) → post r v_st' v_aside') : wp_X8_leads p1 v_st v_kinds v_rates v_clocks v_windows v_skyRow v_skyMany v_sky v_aside post := by
  unfold wp_X8_leads
  have tn60 : ((Int32.toNatClampNeg 60 : Nat) : Int) = 60 := rfl
  have tn61 : ((Int32.toNatClampNeg 61 : Nat) : Int) = 61 := rfl
  have tn62 : ((Int32.toNatClampNeg 62 : Nat) : Int) = 62 := rfl
  refine f_X8_isLong  (fun r1 q1 => ?_)
  refine ⟨fun c2 => ?_, fun c2 => ?_⟩
  · skip
    have t3 := ine (a := r1.toInt) (b := 0) rfl rfl c2
    first
      | exfalso; omega
      | skip
        refine f_X8_keepAside (by first | omega | assumption | exact AB.none (by omega) | exact AB.mono (by assumption) (by omega) (by omega) (by omega) (by omega)) (by first | omega | assumption | exact AB.none (by omega) | exact AB.mono (by assumption) (by omega) (by omega) (by omega) (by omega)) (by first | omega | assumption | exact AB.none (by omega) | exact AB.mono (by assumption) (by omega) (by omega) (by omega) (by omega)) (by first | omega | assumption | exact AB.none (by omega) | exact AB.mono (by assumption) (by omega) (by omega) (by omega) (by omega)) (by first | omega | assumption | exact AB.none (by omega) | exact AB.mono (by assumption) (by omega) (by omega) (by omega) (by omega)) (fun v_aside_4 => ?_)
        refine f_X8_goHours (by first | omega | assumption | exact AB.none (by omega) | exact AB.mono (by assumption) (by omega) (by omega) (by omega) (by omega)) (by first | omega | assumption | exact AB.none (by omega) | exact AB.mono (by assumption) (by omega) (by omega) (by omega) (by omega)) (by first | omega | assumption | exact AB.none (by omega) | exact AB.mono (by assumption) (by omega) (by omega) (by omega) (by omega)) (by first | omega | assumption | exact AB.none (by omega) | exact AB.mono (by assumption) (by omega) (by omega) (by omega) (by omega)) (by first | omega | assumption | exact AB.none (by omega) | exact AB.mono (by assumption) (by omega) (by omega) (by omega) (by omega)) (by first | omega | assumption | exact AB.none (by omega) | exact AB.mono (by assumption) (by omega) (by omega) (by omega) (by omega)) (by first | omega | assumption | exact AB.none (by omega) | exact AB.mono (by assumption) (by omega) (by omega) (by omega) (by omega)) (by first | omega | assumption | exact AB.none (by omega) | exact AB.mono (by assumption) (by omega) (by omega) (by omega) (by omega)) (by first | omega | assumption | exact AB.none (by omega) | exact AB.mono (by assumption) (by omega) (by omega) (by omega) (by omega)) (by first | omega | assumption | exact AB.none (by omega) | exact AB.mono (by assumption) (by omega) (by omega) (by omega) (by omega)) (by first | omega | assumption | exact AB.none (by omega) | exact AB.mono (by assumption) (by omega) (by omega) (by omega) (by omega)) (by first | omega | assumption | exact AB.none (by omega) | exact AB.mono (by assumption) (by omega) (by omega) (by omega) (by omega)) (fun v_st_6 q4 q5 q6 q7 q8 => ?_)
        have t9 : ((0 : Int32)).toInt = 0 := rfl
        have t10 : ((0 : Int32)).toInt = 0 := rfl
        refine ⟨fun n7 x2_7 x3_7 => n7 = ((0 : Int)).toNat ∧ (x2_7.toInt = 0) ∧ (x3_7.toInt = 0) ∧ (0 ≤ x3_7.toInt), ⟨_, rfl, by first | omega | assumption | exact AB.none (by omega) | exact AB.mono (by assumption) (by omega) (by omega) (by omega) (by omega), by first | omega | assumption | exact AB.none (by omega) | exact AB.mono (by assumption) (by omega) (by omega) (by omega) (by omega), by first | omega | assumption | exact AB.none (by omega) | exact AB.mono (by assumption) (by omega) (by omega) (by omega) (by omega)⟩, ?_⟩
        rintro n7 x2_7 x3_7 ⟨hn7, q11, q12, q13⟩
        refine ⟨fun c14 => ?_, fun c14 => ?_⟩
        · skip
          have t15 := ile (a := v_clocks.toInt) (b := x3_7.toInt) rfl rfl c14
          first
            | exfalso; omega
            | skip
              refine f_X8_bringBack  (fun v_st_10 => ?_)
              exact hk _ _ _ (by first | omega | assumption | exact AB.none (by omega) | exact AB.mono (by assumption) (by omega) (by omega) (by omega) (by omega))
        · skip
          have t16 := inle (a := v_clocks.toInt) (b := x3_7.toInt) rfl rfl c14
          exfalso; omega
  · skip
    have t17 := ieq (a := r1.toInt) (b := 0) rfl rfl c2
    first
      | exfalso; omega
      | skip
        have t18 : ((-1) : Int32).toInt = (-1) := rfl
        exact hk _ _ _ (by first | omega | assumption | exact AB.none (by omega) | exact AB.mono (by assumption) (by omega) (by omega) (by omega) (by omega))
set_option maxHeartbeats 1000000 in
set_option maxRecDepth 10000 in
theorem f_X8_finish {p1 : Int32} {v_st : Nat → Int32} {v_kinds : Nat → Int32} {v_rates : Nat → Int32} {v_clocks : Int32} {v_windows : Int32} {v_skyRow : Nat → Int32} {v_skyMany : Int32} {v_sky : Int32} {v_aside : Nat → Int32} {post : Int32 → (Nat → Int32) → (Nat → Int32) → Prop} (hp0 : v_clocks.toInt = 0) (hp1 : v_windows.toInt = 8) (hp2 : v_skyMany.toInt = 1) (hp3 : v_sky.toInt = -1) (hp4 : AB v_st 0 24 12 12) (hp5 : 0 ≤ (v_st (Int32.toNatClampNeg 60)).toInt) (hp6 : (v_st (Int32.toNatClampNeg 60)).toInt ≤ 1000) (hp7 : (v_st (Int32.toNatClampNeg 61)).toInt = 0) (hp8 : (v_st (Int32.toNatClampNeg 62)).toInt = 0) (hp9 : AB v_skyRow 0 12 0 0) (hp10 : (v_st (Int32.toNatClampNeg 60)).toInt = 0) (hk : ∀ (r : Int32) (v_st' : Nat → Int32) (v_aside' : Nat → Int32), (r.toInt = -1) → post r v_st' v_aside') : wp_X8_finish p1 v_st v_kinds v_rates v_clocks v_windows v_skyRow v_skyMany v_sky v_aside post := by
  unfold wp_X8_finish
  have tn60 : ((Int32.toNatClampNeg 60 : Nat) : Int) = 60 := rfl
  have tn61 : ((Int32.toNatClampNeg 61 : Nat) : Int) = 61 := rfl
  have tn62 : ((Int32.toNatClampNeg 62 : Nat) : Int) = 62 := rfl
  refine f_X8_isClock (by first | omega | assumption | exact AB.none (by omega) | exact AB.mono (by assumption) (by omega) (by omega) (by omega) (by omega)) (fun r1 q1 => ?_)
  refine ⟨fun c2 => ?_, fun c2 => ?_⟩
  · skip
    have t3 := ine (a := r1.toInt) (b := 0) rfl rfl c2
    exfalso; omega
  · skip
    have t4 := ieq (a := r1.toInt) (b := 0) rfl rfl c2
    first
      | exfalso; omega
      | skip
        have t5 : ((-1) : Int32).toInt = (-1) := rfl
        exact hk _ _ _ (by first | omega | assumption | exact AB.none (by omega) | exact AB.mono (by assumption) (by omega) (by omega) (by omega) (by omega))
set_option maxHeartbeats 1000000 in
set_option maxRecDepth 10000 in
theorem f_X8_over {v_st : Nat → Int32} {v_kinds : Nat → Int32} {v_rates : Nat → Int32} {v_clocks : Int32} {v_windows : Int32} {v_skyRow : Nat → Int32} {v_skyMany : Int32} {v_sky : Int32} {v_aside : Nat → Int32} {post : Int32 → (Nat → Int32) → (Nat → Int32) → Prop} (hp0 : v_clocks.toInt = 0) (hp1 : v_windows.toInt = 8) (hp2 : v_skyMany.toInt = 1) (hp3 : v_sky.toInt = -1) (hp4 : AB v_st 0 24 12 12) (hp5 : 0 ≤ (v_st (Int32.toNatClampNeg 60)).toInt) (hp6 : (v_st (Int32.toNatClampNeg 60)).toInt ≤ 1000) (hp7 : (v_st (Int32.toNatClampNeg 61)).toInt = 0) (hp8 : (v_st (Int32.toNatClampNeg 62)).toInt = 0) (hp9 : AB v_skyRow 0 12 0 0) (hp10 : (v_st (Int32.toNatClampNeg 60)).toInt = 0) (hk : ∀ (r : Int32) (v_st' : Nat → Int32) (v_aside' : Nat → Int32), (r.toInt = 0) → post r v_st' v_aside') : wp_X8_over v_st v_kinds v_rates v_clocks v_windows v_skyRow v_skyMany v_sky v_aside post := by
  unfold wp_X8_over
  have tn60 : ((Int32.toNatClampNeg 60 : Nat) : Int) = 60 := rfl
  have tn61 : ((Int32.toNatClampNeg 61 : Nat) : Int) = 61 := rfl
  have tn62 : ((Int32.toNatClampNeg 62 : Nat) : Int) = 62 := rfl
  refine f_X8_keepAside (by first | omega | assumption | exact AB.none (by omega) | exact AB.mono (by assumption) (by omega) (by omega) (by omega) (by omega)) (by first | omega | assumption | exact AB.none (by omega) | exact AB.mono (by assumption) (by omega) (by omega) (by omega) (by omega)) (by first | omega | assumption | exact AB.none (by omega) | exact AB.mono (by assumption) (by omega) (by omega) (by omega) (by omega)) (by first | omega | assumption | exact AB.none (by omega) | exact AB.mono (by assumption) (by omega) (by omega) (by omega) (by omega)) (by first | omega | assumption | exact AB.none (by omega) | exact AB.mono (by assumption) (by omega) (by omega) (by omega) (by omega)) (fun v_aside_2 => ?_)
  have t1 : ((0 : Int32)).toInt = 0 := rfl
  refine ⟨fun n3 x1_3 v_st_3 => n3 = ((0 : Int)).toNat ∧ (AB v_st_3 0 24 12 12) ∧ (0 ≤ (v_st_3 (Int32.toNatClampNeg 60)).toInt) ∧ ((v_st_3 (Int32.toNatClampNeg 60)).toInt ≤ 1000) ∧ ((v_st_3 (Int32.toNatClampNeg 61)).toInt = 0) ∧ ((v_st_3 (Int32.toNatClampNeg 62)).toInt = 0) ∧ (x1_3.toInt = 0) ∧ ((v_st_3 (Int32.toNatClampNeg 60)).toInt = (v_st (Int32.toNatClampNeg 60)).toInt) ∧ ((v_st_3 (Int32.toNatClampNeg 61)).toInt = (v_st (Int32.toNatClampNeg 61)).toInt) ∧ ((v_st_3 (Int32.toNatClampNeg 62)).toInt = (v_st (Int32.toNatClampNeg 62)).toInt), ⟨_, rfl, by first | omega | assumption | exact AB.none (by omega) | exact AB.mono (by assumption) (by omega) (by omega) (by omega) (by omega), by first | omega | assumption | exact AB.none (by omega) | exact AB.mono (by assumption) (by omega) (by omega) (by omega) (by omega), by first | omega | assumption | exact AB.none (by omega) | exact AB.mono (by assumption) (by omega) (by omega) (by omega) (by omega), by first | omega | assumption | exact AB.none (by omega) | exact AB.mono (by assumption) (by omega) (by omega) (by omega) (by omega), by first | omega | assumption | exact AB.none (by omega) | exact AB.mono (by assumption) (by omega) (by omega) (by omega) (by omega), by first | omega | assumption | exact AB.none (by omega) | exact AB.mono (by assumption) (by omega) (by omega) (by omega) (by omega), by first | omega | assumption | exact AB.none (by omega) | exact AB.mono (by assumption) (by omega) (by omega) (by omega) (by omega), by first | omega | assumption | exact AB.none (by omega) | exact AB.mono (by assumption) (by omega) (by omega) (by omega) (by omega), by first | omega | assumption | exact AB.none (by omega) | exact AB.mono (by assumption) (by omega) (by omega) (by omega) (by omega)⟩, ?_⟩
  rintro n3 x1_3 v_st_3 ⟨hn3, q2, q3, q4, q5, q6, q7, q8, q9, q10⟩
  refine ⟨(wp_X8_homes v_st_3 v_clocks v_windows (fun (r5 : Int32) =>
 ((v_clocks ≤ r5 → (wp_X8_bringBack v_st_3 v_aside_2 (fun (v_st_8 : Nat → Int32) =>
 (post x1_3 v_st_8 v_aside_2)))) ∧
 (¬ v_clocks ≤ r5 → (wp_X8_bringBack v_st_3 v_aside_2 (fun (v_st_10 : Nat → Int32) =>
 (post (-4) v_st_10 v_aside_2))))))), fun h => h, ?_⟩
  refine ⟨fun c11 => ?_, fun c11 => ?_⟩
  · skip
    have t12 := ile (a := 200) (b := x1_3.toInt) rfl rfl c11
    exfalso; omega
  · skip
    have t13 := inle (a := 200) (b := x1_3.toInt) rfl rfl c11
    first
      | exfalso; omega
      | skip
        refine f_X8_homes (by first | omega | assumption | exact AB.none (by omega) | exact AB.mono (by assumption) (by omega) (by omega) (by omega) (by omega)) (by first | omega | assumption | exact AB.none (by omega) | exact AB.mono (by assumption) (by omega) (by omega) (by omega) (by omega)) (by first | omega | assumption | exact AB.none (by omega) | exact AB.mono (by assumption) (by omega) (by omega) (by omega) (by omega)) (by first | omega | assumption | exact AB.none (by omega) | exact AB.mono (by assumption) (by omega) (by omega) (by omega) (by omega)) (by first | omega | assumption | exact AB.none (by omega) | exact AB.mono (by assumption) (by omega) (by omega) (by omega) (by omega)) (by first | omega | assumption | exact AB.none (by omega) | exact AB.mono (by assumption) (by omega) (by omega) (by omega) (by omega)) (by first | omega | assumption | exact AB.none (by omega) | exact AB.mono (by assumption) (by omega) (by omega) (by omega) (by omega)) (fun r12 q14 => ?_)
        refine ⟨fun c15 => ?_, fun c15 => ?_⟩
        · skip
          have t16 := ile (a := v_clocks.toInt) (b := r12.toInt) rfl rfl c15
          first
            | exfalso; omega
            | skip
              show (wp_X8_homes v_st_3 v_clocks v_windows (fun (r5 : Int32) =>
 ((v_clocks ≤ r5 → (wp_X8_bringBack v_st_3 v_aside_2 (fun (v_st_8 : Nat → Int32) =>
 (post x1_3 v_st_8 v_aside_2)))) ∧
 (¬ v_clocks ≤ r5 → (wp_X8_bringBack v_st_3 v_aside_2 (fun (v_st_10 : Nat → Int32) =>
 (post (-4) v_st_10 v_aside_2)))))))
              refine f_X8_homes (by first | omega | assumption | exact AB.none (by omega) | exact AB.mono (by assumption) (by omega) (by omega) (by omega) (by omega)) (by first | omega | assumption | exact AB.none (by omega) | exact AB.mono (by assumption) (by omega) (by omega) (by omega) (by omega)) (by first | omega | assumption | exact AB.none (by omega) | exact AB.mono (by assumption) (by omega) (by omega) (by omega) (by omega)) (by first | omega | assumption | exact AB.none (by omega) | exact AB.mono (by assumption) (by omega) (by omega) (by omega) (by omega)) (by first | omega | assumption | exact AB.none (by omega) | exact AB.mono (by assumption) (by omega) (by omega) (by omega) (by omega)) (by first | omega | assumption | exact AB.none (by omega) | exact AB.mono (by assumption) (by omega) (by omega) (by omega) (by omega)) (by first | omega | assumption | exact AB.none (by omega) | exact AB.mono (by assumption) (by omega) (by omega) (by omega) (by omega)) (fun r5 q17 => ?_)
              refine ⟨fun c18 => ?_, fun c18 => ?_⟩
              · skip
                have t19 := ile (a := v_clocks.toInt) (b := r5.toInt) rfl rfl c18
                first
                  | exfalso; omega
                  | skip
                    refine f_X8_bringBack  (fun v_st_8 => ?_)
                    exact hk _ _ _ (by first | omega | assumption | exact AB.none (by omega) | exact AB.mono (by assumption) (by omega) (by omega) (by omega) (by omega))
              · skip
                have t20 := inle (a := v_clocks.toInt) (b := r5.toInt) rfl rfl c18
                exfalso; omega
        · skip
          have t21 := inle (a := v_clocks.toInt) (b := r12.toInt) rfl rfl c15
          exfalso; omega
set_option maxHeartbeats 1000000 in
set_option maxRecDepth 10000 in
theorem f_X8_isAsked {p1 : Int32} {p2 : Int32} {p3 : Int32} {v_clocks : Int32} {post : Int32 → Prop} (hp0 : v_clocks.toInt = 0) (hk : ∀ (r : Int32), (r.toInt = 0) → post r) : wp_X8_isAsked p1 p2 p3 v_clocks post := by
  unfold wp_X8_isAsked
  have tn60 : ((Int32.toNatClampNeg 60 : Nat) : Int) = 60 := rfl
  have tn61 : ((Int32.toNatClampNeg 61 : Nat) : Int) = 61 := rfl
  have tn62 : ((Int32.toNatClampNeg 62 : Nat) : Int) = 62 := rfl
  refine f_X8_isClock (by first | omega | assumption | exact AB.none (by omega) | exact AB.mono (by assumption) (by omega) (by omega) (by omega) (by omega)) (fun r1 q1 => ?_)
  refine ⟨fun c2 => ?_, fun c2 => ?_⟩
  · skip
    have t3 := ieq (a := r1.toInt) (b := 0) rfl rfl c2
    first
      | exfalso; omega
      | skip
        have t4 : (0 : Int32).toInt = 0 := rfl
        exact hk _ (by first | omega | assumption | exact AB.none (by omega) | exact AB.mono (by assumption) (by omega) (by omega) (by omega) (by omega))
  · skip
    have t5 := ine (a := r1.toInt) (b := 0) rfl rfl c2
    exfalso; omega
set_option maxHeartbeats 1000000 in
set_option maxRecDepth 10000 in
theorem f_X8_turns {p1 : Int32} {p2 : Int32} {p3 : Int32} {v_st : Nat → Int32} {v_kinds : Nat → Int32} {v_rates : Nat → Int32} {v_clocks : Int32} {v_windows : Int32} {v_skyRow : Nat → Int32} {v_skyMany : Int32} {v_sky : Int32} {v_aside : Nat → Int32} {post : Int32 → (Nat → Int32) → (Nat → Int32) → Prop} (hp0 : v_clocks.toInt = 0) (hp1 : v_windows.toInt = 8) (hp2 : v_skyMany.toInt = 1) (hp3 : v_sky.toInt = -1) (hp4 : AB v_st 0 24 12 12) (hp5 : 0 ≤ (v_st (Int32.toNatClampNeg 60)).toInt) (hp6 : (v_st (Int32.toNatClampNeg 60)).toInt ≤ 1000) (hp7 : (v_st (Int32.toNatClampNeg 61)).toInt = 0) (hp8 : (v_st (Int32.toNatClampNeg 62)).toInt = 0) (hp9 : AB v_skyRow 0 12 0 0) (hp10 : (v_st (Int32.toNatClampNeg 60)).toInt = 0) (hk : ∀ (r : Int32) (v_st' : Nat → Int32) (v_aside' : Nat → Int32), (r.toInt = -1) → post r v_st' v_aside') : wp_X8_turns p1 p2 p3 v_st v_kinds v_rates v_clocks v_windows v_skyRow v_skyMany v_sky v_aside post := by
  unfold wp_X8_turns
  have tn60 : ((Int32.toNatClampNeg 60 : Nat) : Int) = 60 := rfl
  have tn61 : ((Int32.toNatClampNeg 61 : Nat) : Int) = 61 := rfl
  have tn62 : ((Int32.toNatClampNeg 62 : Nat) : Int) = 62 := rfl
  refine f_X8_isAsked (by first | omega | assumption | exact AB.none (by omega) | exact AB.mono (by assumption) (by omega) (by omega) (by omega) (by omega)) (fun r1 q1 => ?_)
  refine ⟨fun c2 => ?_, fun c2 => ?_⟩
  · skip
    have t3 := ine (a := r1.toInt) (b := 0) rfl rfl c2
    exfalso; omega
  · skip
    have t4 := ieq (a := r1.toInt) (b := 0) rfl rfl c2
    first
      | exfalso; omega
      | skip
        have t5 : ((-1) : Int32).toInt = (-1) := rfl
        exact hk _ _ _ (by first | omega | assumption | exact AB.none (by omega) | exact AB.mono (by assumption) (by omega) (by omega) (by omega) (by omega))
set_option maxHeartbeats 1000000 in
set_option maxRecDepth 10000 in
theorem f_X8_hands {p1 : Int32} {p2 : Int32} {p3 : Int32} {v_st : Nat → Int32} {v_kinds : Nat → Int32} {v_rates : Nat → Int32} {v_clocks : Int32} {v_windows : Int32} {v_skyRow : Nat → Int32} {v_skyMany : Int32} {v_sky : Int32} {v_aside : Nat → Int32} {post : Int32 → (Nat → Int32) → (Nat → Int32) → Prop} (hp0 : v_clocks.toInt = 0) (hp1 : v_windows.toInt = 8) (hp2 : v_skyMany.toInt = 1) (hp3 : v_sky.toInt = -1) (hp4 : AB v_st 0 24 12 12) (hp5 : 0 ≤ (v_st (Int32.toNatClampNeg 60)).toInt) (hp6 : (v_st (Int32.toNatClampNeg 60)).toInt ≤ 1000) (hp7 : (v_st (Int32.toNatClampNeg 61)).toInt = 0) (hp8 : (v_st (Int32.toNatClampNeg 62)).toInt = 0) (hp9 : AB v_skyRow 0 12 0 0) (hp10 : (v_st (Int32.toNatClampNeg 60)).toInt = 0) (hk : ∀ (r : Int32) (v_st' : Nat → Int32) (v_aside' : Nat → Int32), (r.toInt = -1) → post r v_st' v_aside') : wp_X8_hands p1 p2 p3 v_st v_kinds v_rates v_clocks v_windows v_skyRow v_skyMany v_sky v_aside post := by
  unfold wp_X8_hands
  have tn60 : ((Int32.toNatClampNeg 60 : Nat) : Int) = 60 := rfl
  have tn61 : ((Int32.toNatClampNeg 61 : Nat) : Int) = 61 := rfl
  have tn62 : ((Int32.toNatClampNeg 62 : Nat) : Int) = 62 := rfl
  refine f_X8_isAsked (by first | omega | assumption | exact AB.none (by omega) | exact AB.mono (by assumption) (by omega) (by omega) (by omega) (by omega)) (fun r1 q1 => ?_)
  refine ⟨fun c2 => ?_, fun c2 => ?_⟩
  · skip
    have t3 := ine (a := r1.toInt) (b := 0) rfl rfl c2
    exfalso; omega
  · skip
    have t4 := ieq (a := r1.toInt) (b := 0) rfl rfl c2
    first
      | exfalso; omega
      | skip
        have t5 : ((-1) : Int32).toInt = (-1) := rfl
        exact hk _ _ _ (by first | omega | assumption | exact AB.none (by omega) | exact AB.mono (by assumption) (by omega) (by omega) (by omega) (by omega))
set_option maxHeartbeats 1000000 in
set_option maxRecDepth 10000 in
theorem f_X8_both {p1 : Int32} {p2 : Int32} {p3 : Int32} {p4 : Int32} {v_st : Nat → Int32} {v_kinds : Nat → Int32} {v_rates : Nat → Int32} {v_clocks : Int32} {v_windows : Int32} {v_skyRow : Nat → Int32} {v_skyMany : Int32} {v_sky : Int32} {v_aside : Nat → Int32} {post : Int32 → (Nat → Int32) → (Nat → Int32) → Prop} (hp0 : v_clocks.toInt = 0) (hp1 : v_windows.toInt = 8) (hp2 : v_skyMany.toInt = 1) (hp3 : v_sky.toInt = -1) (hp4 : AB v_st 0 24 12 12) (hp5 : 0 ≤ (v_st (Int32.toNatClampNeg 60)).toInt) (hp6 : (v_st (Int32.toNatClampNeg 60)).toInt ≤ 1000) (hp7 : (v_st (Int32.toNatClampNeg 61)).toInt = 0) (hp8 : (v_st (Int32.toNatClampNeg 62)).toInt = 0) (hp9 : AB v_skyRow 0 12 0 0) (hp10 : (v_st (Int32.toNatClampNeg 60)).toInt = 0) (hk : ∀ (r : Int32) (v_st' : Nat → Int32) (v_aside' : Nat → Int32), (r.toInt = -1) → post r v_st' v_aside') : wp_X8_both p1 p2 p3 p4 v_st v_kinds v_rates v_clocks v_windows v_skyRow v_skyMany v_sky v_aside post := by
  unfold wp_X8_both
  have tn60 : ((Int32.toNatClampNeg 60 : Nat) : Int) = 60 := rfl
  have tn61 : ((Int32.toNatClampNeg 61 : Nat) : Int) = 61 := rfl
  have tn62 : ((Int32.toNatClampNeg 62 : Nat) : Int) = 62 := rfl
  refine f_X8_isAsked (by first | omega | assumption | exact AB.none (by omega) | exact AB.mono (by assumption) (by omega) (by omega) (by omega) (by omega)) (fun r1 q1 => ?_)
  refine ⟨fun c2 => ?_, fun c2 => ?_⟩
  · skip
    have t3 := ieq (a := r1.toInt) (b := 0) rfl rfl c2
    first
      | exfalso; omega
      | skip
        have t4 : ((-1) : Int32).toInt = (-1) := rfl
        exact hk _ _ _ (by first | omega | assumption | exact AB.none (by omega) | exact AB.mono (by assumption) (by omega) (by omega) (by omega) (by omega))
  · skip
    have t5 := ine (a := r1.toInt) (b := 0) rfl rfl c2
    exfalso; omega
set_option maxHeartbeats 1000000 in
set_option maxRecDepth 10000 in
theorem f_X8_duel {p1 : Int32} {p2 : Int32} {p3 : Int32} {p4 : Int32} {v_st : Nat → Int32} {v_kinds : Nat → Int32} {v_rates : Nat → Int32} {v_clocks : Int32} {v_windows : Int32} {v_skyRow : Nat → Int32} {v_skyMany : Int32} {v_sky : Int32} {v_aside : Nat → Int32} {v_duels : Nat → Int32} {post : Int32 → (Nat → Int32) → (Nat → Int32) → (Nat → Int32) → Prop} (hp0 : v_clocks.toInt = 0) (hp1 : v_windows.toInt = 8) (hp2 : v_skyMany.toInt = 1) (hp3 : v_sky.toInt = -1) (hp4 : AB v_st 0 24 12 12) (hp5 : 0 ≤ (v_st (Int32.toNatClampNeg 60)).toInt) (hp6 : (v_st (Int32.toNatClampNeg 60)).toInt ≤ 1000) (hp7 : (v_st (Int32.toNatClampNeg 61)).toInt = 0) (hp8 : (v_st (Int32.toNatClampNeg 62)).toInt = 0) (hp9 : AB v_skyRow 0 12 0 0) (hp10 : (v_st (Int32.toNatClampNeg 60)).toInt = 0) (hk : ∀ (r : Int32) (v_st' : Nat → Int32) (v_aside' : Nat → Int32) (v_duels' : Nat → Int32), (r.toInt = -1) → post r v_st' v_aside' v_duels') : wp_X8_duel p1 p2 p3 p4 v_st v_kinds v_rates v_clocks v_windows v_skyRow v_skyMany v_sky v_aside v_duels post := by
  unfold wp_X8_duel
  have tn60 : ((Int32.toNatClampNeg 60 : Nat) : Int) = 60 := rfl
  have tn61 : ((Int32.toNatClampNeg 61 : Nat) : Int) = 61 := rfl
  have tn62 : ((Int32.toNatClampNeg 62 : Nat) : Int) = 62 := rfl
  refine f_X8_isClock (by first | omega | assumption | exact AB.none (by omega) | exact AB.mono (by assumption) (by omega) (by omega) (by omega) (by omega)) (fun r1 q1 => ?_)
  refine ⟨fun c2 => ?_, fun c2 => ?_⟩
  · skip
    have t3 := ieq (a := r1.toInt) (b := 0) rfl rfl c2
    first
      | exfalso; omega
      | skip
        have t4 : ((-1) : Int32).toInt = (-1) := rfl
        exact hk _ _ _ _ (by first | omega | assumption | exact AB.none (by omega) | exact AB.mono (by assumption) (by omega) (by omega) (by omega) (by omega))
  · skip
    have t5 := ine (a := r1.toInt) (b := 0) rfl rfl c2
    exfalso; omega
set_option maxHeartbeats 1000000 in
set_option maxRecDepth 10000 in
theorem f_X8_breath {p1 : Int32} {p2 : Int32} {v_st : Nat → Int32} {v_kinds : Nat → Int32} {v_rates : Nat → Int32} {v_clocks : Int32} {v_windows : Int32} {v_skyRow : Nat → Int32} {v_skyMany : Int32} {v_sky : Int32} {v_aside : Nat → Int32} {post : Int32 → (Nat → Int32) → (Nat → Int32) → Prop} (hp0 : v_clocks.toInt = 0) (hp1 : v_windows.toInt = 8) (hp2 : v_skyMany.toInt = 1) (hp3 : v_sky.toInt = -1) (hp4 : AB v_st 0 24 12 12) (hp5 : 0 ≤ (v_st (Int32.toNatClampNeg 60)).toInt) (hp6 : (v_st (Int32.toNatClampNeg 60)).toInt ≤ 1000) (hp7 : (v_st (Int32.toNatClampNeg 61)).toInt = 0) (hp8 : (v_st (Int32.toNatClampNeg 62)).toInt = 0) (hp9 : AB v_skyRow 0 12 0 0) (hp10 : (v_st (Int32.toNatClampNeg 60)).toInt = 0) (hk : ∀ (r : Int32) (v_st' : Nat → Int32) (v_aside' : Nat → Int32), (r.toInt = -1) → post r v_st' v_aside') : wp_X8_breath p1 p2 v_st v_kinds v_rates v_clocks v_windows v_skyRow v_skyMany v_sky v_aside post := by
  unfold wp_X8_breath
  have tn60 : ((Int32.toNatClampNeg 60 : Nat) : Int) = 60 := rfl
  have tn61 : ((Int32.toNatClampNeg 61 : Nat) : Int) = 61 := rfl
  have tn62 : ((Int32.toNatClampNeg 62 : Nat) : Int) = 62 := rfl
  refine f_X8_isClock (by first | omega | assumption | exact AB.none (by omega) | exact AB.mono (by assumption) (by omega) (by omega) (by omega) (by omega)) (fun r1 q1 => ?_)
  refine ⟨fun c2 => ?_, fun c2 => ?_⟩
  · skip
    have t3 := ieq (a := r1.toInt) (b := 0) rfl rfl c2
    first
      | exfalso; omega
      | skip
        have t4 : ((-1) : Int32).toInt = (-1) := rfl
        exact hk _ _ _ (by first | omega | assumption | exact AB.none (by omega) | exact AB.mono (by assumption) (by omega) (by omega) (by omega) (by omega))
  · skip
    have t5 := ine (a := r1.toInt) (b := 0) rfl rfl c2
    exfalso; omega
set_option maxHeartbeats 1000000 in
set_option maxRecDepth 10000 in
theorem f_X8_right {p1 : Int32} {p2 : Int32} {v_st : Nat → Int32} {v_kinds : Nat → Int32} {v_rates : Nat → Int32} {v_clocks : Int32} {v_windows : Int32} {v_skyRow : Nat → Int32} {v_skyMany : Int32} {v_sky : Int32} {v_aside : Nat → Int32} {post : Int32 → (Nat → Int32) → (Nat → Int32) → Prop} (hp0 : v_clocks.toInt = 0) (hp1 : v_windows.toInt = 8) (hp2 : v_skyMany.toInt = 1) (hp3 : v_sky.toInt = -1) (hp4 : AB v_st 0 24 12 12) (hp5 : 0 ≤ (v_st (Int32.toNatClampNeg 60)).toInt) (hp6 : (v_st (Int32.toNatClampNeg 60)).toInt ≤ 1000) (hp7 : (v_st (Int32.toNatClampNeg 61)).toInt = 0) (hp8 : (v_st (Int32.toNatClampNeg 62)).toInt = 0) (hp9 : AB v_skyRow 0 12 0 0) (hp10 : (v_st (Int32.toNatClampNeg 60)).toInt = 0) (hk : ∀ (r : Int32) (v_st' : Nat → Int32) (v_aside' : Nat → Int32), (r.toInt = -1) → post r v_st' v_aside') : wp_X8_right p1 p2 v_st v_kinds v_rates v_clocks v_windows v_skyRow v_skyMany v_sky v_aside post := by
  unfold wp_X8_right
  have tn60 : ((Int32.toNatClampNeg 60 : Nat) : Int) = 60 := rfl
  have tn61 : ((Int32.toNatClampNeg 61 : Nat) : Int) = 61 := rfl
  have tn62 : ((Int32.toNatClampNeg 62 : Nat) : Int) = 62 := rfl
  refine f_X8_isClock (by first | omega | assumption | exact AB.none (by omega) | exact AB.mono (by assumption) (by omega) (by omega) (by omega) (by omega)) (fun r1 q1 => ?_)
  refine ⟨fun c2 => ?_, fun c2 => ?_⟩
  · skip
    have t3 := ieq (a := r1.toInt) (b := 0) rfl rfl c2
    first
      | exfalso; omega
      | skip
        have t4 : ((-1) : Int32).toInt = (-1) := rfl
        exact hk _ _ _ (by first | omega | assumption | exact AB.none (by omega) | exact AB.mono (by assumption) (by omega) (by omega) (by omega) (by omega))
  · skip
    have t5 := ine (a := r1.toInt) (b := 0) rfl rfl c2
    exfalso; omega
set_option maxHeartbeats 1000000 in
set_option maxRecDepth 10000 in
theorem f_X8_appeal {p1 : Int32} {p2 : Int32} {v_st : Nat → Int32} {v_kinds : Nat → Int32} {v_rates : Nat → Int32} {v_clocks : Int32} {v_windows : Int32} {v_skyRow : Nat → Int32} {v_skyMany : Int32} {v_sky : Int32} {v_aside : Nat → Int32} {post : Int32 → (Nat → Int32) → (Int32) → (Nat → Int32) → Prop} (hp0 : v_clocks.toInt = 0) (hp1 : v_windows.toInt = 8) (hp2 : v_skyMany.toInt = 1) (hp3 : v_sky.toInt = -1) (hp4 : AB v_st 0 24 12 12) (hp5 : 0 ≤ (v_st (Int32.toNatClampNeg 60)).toInt) (hp6 : (v_st (Int32.toNatClampNeg 60)).toInt ≤ 1000) (hp7 : (v_st (Int32.toNatClampNeg 61)).toInt = 0) (hp8 : (v_st (Int32.toNatClampNeg 62)).toInt = 0) (hp9 : AB v_skyRow 0 12 0 0) (hp10 : (v_st (Int32.toNatClampNeg 60)).toInt = 0) (hk : ∀ (r : Int32) (v_st' : Nat → Int32) (v_sky' : Int32) (v_aside' : Nat → Int32), (r.toInt = -1) → post r v_st' v_sky' v_aside') : wp_X8_appeal p1 p2 v_st v_kinds v_rates v_clocks v_windows v_skyRow v_skyMany v_sky v_aside post := by
  unfold wp_X8_appeal
  have tn60 : ((Int32.toNatClampNeg 60 : Nat) : Int) = 60 := rfl
  have tn61 : ((Int32.toNatClampNeg 61 : Nat) : Int) = 61 := rfl
  have tn62 : ((Int32.toNatClampNeg 62 : Nat) : Int) = 62 := rfl
  refine f_X8_isClock (by first | omega | assumption | exact AB.none (by omega) | exact AB.mono (by assumption) (by omega) (by omega) (by omega) (by omega)) (fun r1 q1 => ?_)
  refine ⟨fun c2 => ?_, fun c2 => ?_⟩
  · skip
    have t3 := ieq (a := r1.toInt) (b := 0) rfl rfl c2
    first
      | exfalso; omega
      | skip
        have t4 : ((-1) : Int32).toInt = (-1) := rfl
        exact hk _ _ _ _ (by first | omega | assumption | exact AB.none (by omega) | exact AB.mono (by assumption) (by omega) (by omega) (by omega) (by omega))
  · skip
    have t5 := ine (a := r1.toInt) (b := 0) rfl rfl c2
    exfalso; omega
set_option maxHeartbeats 1000000 in
set_option maxRecDepth 10000 in
theorem f_X8_spans {p1 : Int32} {p2 : Int32} {v_st : Nat → Int32} {v_kinds : Nat → Int32} {v_rates : Nat → Int32} {v_clocks : Int32} {v_windows : Int32} {v_aside : Nat → Int32} {post : Int32 → (Nat → Int32) → (Nat → Int32) → Prop} (hp0 : v_clocks.toInt = 0) (hp1 : v_windows.toInt = 8) (hp2 : AB v_st 0 24 12 12) (hp3 : 0 ≤ (v_st (Int32.toNatClampNeg 60)).toInt) (hp4 : (v_st (Int32.toNatClampNeg 60)).toInt ≤ 1000) (hp5 : (v_st (Int32.toNatClampNeg 61)).toInt = 0) (hp6 : (v_st (Int32.toNatClampNeg 62)).toInt = 0) (hp7 : (v_st (Int32.toNatClampNeg 60)).toInt = 0) (hk : ∀ (r : Int32) (v_st' : Nat → Int32) (v_aside' : Nat → Int32), (r.toInt = -1) → post r v_st' v_aside') : wp_X8_spans p1 p2 v_st v_kinds v_rates v_clocks v_windows v_aside post := by
  unfold wp_X8_spans
  have tn60 : ((Int32.toNatClampNeg 60 : Nat) : Int) = 60 := rfl
  have tn61 : ((Int32.toNatClampNeg 61 : Nat) : Int) = 61 := rfl
  have tn62 : ((Int32.toNatClampNeg 62 : Nat) : Int) = 62 := rfl
  refine f_X8_isClock (by first | omega | assumption | exact AB.none (by omega) | exact AB.mono (by assumption) (by omega) (by omega) (by omega) (by omega)) (fun r1 q1 => ?_)
  refine ⟨fun c2 => ?_, fun c2 => ?_⟩
  · skip
    have t3 := ieq (a := r1.toInt) (b := 0) rfl rfl c2
    first
      | exfalso; omega
      | skip
        have t4 : ((-1) : Int32).toInt = (-1) := rfl
        exact hk _ _ _ (by first | omega | assumption | exact AB.none (by omega) | exact AB.mono (by assumption) (by omega) (by omega) (by omega) (by omega))
  · skip
    have t5 := ine (a := r1.toInt) (b := 0) rfl rfl c2
    exfalso; omega
set_option maxHeartbeats 1000000 in
set_option maxRecDepth 10000 in
theorem f_X8_areClocks {p1 : Int32} {v_clocks : Int32} {post : Int32 → Prop} (hp0 : v_clocks.toInt = 0) (hk : ∀ (r : Int32), (((p1.toInt = 0) ∧ r.toInt = 1) ∨ (¬ (p1.toInt = 0) ∧ r.toInt = 0)) → post r) : wp_X8_areClocks p1 v_clocks post := by
  unfold wp_X8_areClocks
  have tn60 : ((Int32.toNatClampNeg 60 : Nat) : Int) = 60 := rfl
  have tn61 : ((Int32.toNatClampNeg 61 : Nat) : Int) = 61 := rfl
  have tn62 : ((Int32.toNatClampNeg 62 : Nat) : Int) = 62 := rfl
  have t1 : (Int32.toInt64 p1).toInt = p1.toInt := i2l rfl
  have t2 : (0 : Int64).toInt = 0 := rfl
  try have t3 := i1s (x := v_clocks) (a := v_clocks.toInt) rfl (by omega) (by omega)
  try have t4 : ((1 <<< (v_clocks &&& 31)) - 1).toInt = (1 <<< (v_clocks &&& 31)).toInt - 1 := isb rfl rfl (by omega) (by omega)
  have t5 : (Int32.toInt64 ((1 <<< (v_clocks &&& 31)) - 1)).toInt = ((1 <<< (v_clocks &&& 31)) - 1).toInt := i2l rfl
  refine f_X8_in  (fun r1 q6 => ?_)
  refine ⟨i01 (a := r1.toInt) rfl (by omega), ?_⟩
  exact hk _ (by first | omega | assumption | exact AB.none (by omega) | exact AB.mono (by assumption) (by omega) (by omega) (by omega) (by omega))
set_option maxHeartbeats 1000000 in
set_option maxRecDepth 10000 in
theorem f_X8_struck {p1 : Int32} {p2 : Int32} {p3 : Int32} {v_st : Nat → Int32} {v_kinds : Nat → Int32} {v_clocks : Int32} {post : Int32 → Prop} (hp0 : v_clocks.toInt = 0) (hp1 : AB v_st 0 24 12 12) (hp2 : 0 ≤ (v_st (Int32.toNatClampNeg 60)).toInt) (hp3 : (v_st (Int32.toNatClampNeg 60)).toInt ≤ 1000) (hp4 : (v_st (Int32.toNatClampNeg 61)).toInt = 0) (hp5 : (v_st (Int32.toNatClampNeg 62)).toInt = 0) (hp6 : (v_st (Int32.toNatClampNeg 60)).toInt = 0) (hk : ∀ (r : Int32), ((p1.toInt = 0 ∧ 1 ≤ p2.toInt ∧ p2.toInt ≤ 108 ∧ p3.toInt = 0 ∧ r.toInt = 0) ∨ (p1.toInt = 0 ∧ 1 ≤ p2.toInt ∧ p2.toInt ≤ 108 ∧ 1 ≤ p3.toInt ∧ p3.toInt ≤ 2 ∧ r.toInt = -4) ∨ (¬ (p1.toInt = 0 ∧ 1 ≤ p2.toInt ∧ p2.toInt ≤ 108 ∧ 0 ≤ p3.toInt ∧ p3.toInt ≤ 2) ∧ r.toInt = -1)) → post r) : wp_X8_struck p1 p2 p3 v_st v_kinds v_clocks post := by
  unfold wp_X8_struck
  have tn60 : ((Int32.toNatClampNeg 60 : Nat) : Int) = 60 := rfl
  have tn61 : ((Int32.toNatClampNeg 61 : Nat) : Int) = 61 := rfl
  have tn62 : ((Int32.toNatClampNeg 62 : Nat) : Int) = 62 := rfl
  refine f_X8_areClocks (by first | omega | assumption | exact AB.none (by omega) | exact AB.mono (by assumption) (by omega) (by omega) (by omega) (by omega)) (fun r1 q1 => ?_)
  refine ⟨fun c2 => ?_, fun c2 => ?_⟩
  · skip
    have t3 := ieq (a := r1.toInt) (b := 0) rfl rfl c2
    first
      | exfalso; omega
      | skip
        have t4 : ((-1) : Int32).toInt = (-1) := rfl
        exact hk _ (by first | omega | assumption | exact AB.none (by omega) | exact AB.mono (by assumption) (by omega) (by omega) (by omega) (by omega))
  · skip
    have t5 := ine (a := r1.toInt) (b := 0) rfl rfl c2
    first
      | exfalso; omega
      | skip
        have t6 : (Int32.toInt64 p2).toInt = p2.toInt := i2l rfl
        have t7 : (1 : Int64).toInt = 1 := rfl
        have t8 : (108 : Int64).toInt = 108 := rfl
        refine f_X8_in  (fun r3 q9 => ?_)
        refine ⟨fun c10 => ?_, fun c10 => ?_⟩
        · skip
          have t11 := ieq (a := r3.toInt) (b := 0) rfl rfl c10
          first
            | exfalso; omega
            | skip
              have t12 : ((-1) : Int32).toInt = (-1) := rfl
              exact hk _ (by first | omega | assumption | exact AB.none (by omega) | exact AB.mono (by assumption) (by omega) (by omega) (by omega) (by omega))
        · skip
          have t13 := ine (a := r3.toInt) (b := 0) rfl rfl c10
          first
            | exfalso; omega
            | skip
              have t14 : (Int32.toInt64 p3).toInt = p3.toInt := i2l rfl
              have t15 : (0 : Int64).toInt = 0 := rfl
              have t16 : (2 : Int64).toInt = 2 := rfl
              refine f_X8_in  (fun r5 q17 => ?_)
              refine ⟨fun c18 => ?_, fun c18 => ?_⟩
              · skip
                have t19 := ine (a := r5.toInt) (b := 0) rfl rfl c18
                first
                  | exfalso; omega
                  | skip
                    have t20 : ((0 : Int32)).toInt = 0 := rfl
                    have t21 : (((-4) : Int32)).toInt = (-4) := rfl
                    have t22 : ((1 : Int32)).toInt = 1 := rfl
                    refine ⟨fun n7 x4_7 x5_7 x6_7 x7_7 => n7 = ((0 : Int)).toNat ∧ (x4_7.toInt = 0) ∧ (x5_7.toInt = (-4)) ∧ (x6_7.toInt = p1.toInt) ∧ (x7_7.toInt = 1) ∧ (1 ≤ x7_7.toInt), ⟨_, rfl, by first | omega | assumption | exact AB.none (by omega) | exact AB.mono (by assumption) (by omega) (by omega) (by omega) (by omega), by first | omega | assumption | exact AB.none (by omega) | exact AB.mono (by assumption) (by omega) (by omega) (by omega) (by omega), by first | omega | assumption | exact AB.none (by omega) | exact AB.mono (by assumption) (by omega) (by omega) (by omega) (by omega), by first | omega | assumption | exact AB.none (by omega) | exact AB.mono (by assumption) (by omega) (by omega) (by omega) (by omega), by first | omega | assumption | exact AB.none (by omega) | exact AB.mono (by assumption) (by omega) (by omega) (by omega) (by omega)⟩, ?_⟩
                    rintro n7 x4_7 x5_7 x6_7 x7_7 ⟨hn7, q23, q24, q25, q26, q27⟩
                    try have t28 := i1s (x := v_clocks) (a := v_clocks.toInt) rfl (by omega) (by omega)
                    refine ⟨fun c29 => ?_, fun c29 => ?_⟩
                    · skip
                      have t30 := ile (a := (1 <<< (v_clocks &&& 31)).toInt) (b := x7_7.toInt) rfl rfl c29
                      first
                        | exfalso; omega
                        | skip
                          refine ⟨fun c31 => ?_, fun c31 => ?_⟩
                          · skip
                            have t32 := ine (a := p3.toInt) (b := 0) rfl rfl c31
                            first
                              | exfalso; omega
                              | skip
                                refine ⟨fun c33 => ?_, fun c33 => ?_⟩
                                · skip
                                  have t34 := ine (a := x4_7.toInt) (b := 0) rfl rfl c33
                                  exfalso; omega
                                · skip
                                  have t35 := ieq (a := x4_7.toInt) (b := 0) rfl rfl c33
                                  first
                                    | exfalso; omega
                                    | skip
                                      have t36 : ((-4) : Int32).toInt = (-4) := rfl
                                      exact hk _ (by first | omega | assumption | exact AB.none (by omega) | exact AB.mono (by assumption) (by omega) (by omega) (by omega) (by omega))
                          · skip
                            have t37 := ieq (a := p3.toInt) (b := 0) rfl rfl c31
                            first
                              | exfalso; omega
                              | skip
                                exact hk _ (by first | omega | assumption | exact AB.none (by omega) | exact AB.mono (by assumption) (by omega) (by omega) (by omega) (by omega))
                    · skip
                      have t38 := inle (a := (1 <<< (v_clocks &&& 31)).toInt) (b := x7_7.toInt) rfl rfl c29
                      first
                        | exfalso; omega
                        | skip
                          have t39 : ((0 : Int32)).toInt = 0 := rfl
                          have t40 : ((0 : Int32)).toInt = 0 := rfl
                          refine ⟨fun n12 x8_12 x9_12 => n12 = ((0 : Int)).toNat ∧ (x8_12.toInt = 0) ∧ (x9_12.toInt = 0) ∧ (0 ≤ x9_12.toInt), ⟨_, rfl, by first | omega | assumption | exact AB.none (by omega) | exact AB.mono (by assumption) (by omega) (by omega) (by omega) (by omega), by first | omega | assumption | exact AB.none (by omega) | exact AB.mono (by assumption) (by omega) (by omega) (by omega) (by omega), by first | omega | assumption | exact AB.none (by omega) | exact AB.mono (by assumption) (by omega) (by omega) (by omega) (by omega)⟩, ?_⟩
                          rintro n12 x8_12 x9_12 ⟨hn12, q41, q42, q43⟩
                          refine ⟨fun c44 => ?_, fun c44 => ?_⟩
                          · skip
                            have t45 := ile (a := v_clocks.toInt) (b := x9_12.toInt) rfl rfl c44
                            first
                              | exfalso; omega
                              | skip
                                refine ⟨fun c46 => ?_, fun c46 => ?_⟩
                                · skip
                                  have t47 := ine (a := (x7_7 &&& (p1 ^^^ (-1))).toInt) (b := 0) rfl rfl c46
                                  first
                                    | exfalso; omega
                                    | skip
                                      try have t48 : (x7_7 + 1).toInt = x7_7.toInt + 1 := ia rfl rfl (by omega) (by omega)
                                      intro z15 ez15
                                      have t49 : z15.toInt = (x7_7 + 1).toInt := by rw [ez15] <;> rfl
                                      refine ⟨_, ?_, rfl, by first | omega | assumption | exact AB.none (by omega) | exact AB.mono (by assumption) (by omega) (by omega) (by omega) (by omega), by first | omega | assumption | exact AB.none (by omega) | exact AB.mono (by assumption) (by omega) (by omega) (by omega) (by omega), by first | omega | assumption | exact AB.none (by omega) | exact AB.mono (by assumption) (by omega) (by omega) (by omega) (by omega), by first | omega | assumption | exact AB.none (by omega) | exact AB.mono (by assumption) (by omega) (by omega) (by omega) (by omega), by first | omega | assumption | exact AB.none (by omega) | exact AB.mono (by assumption) (by omega) (by omega) (by omega) (by omega)⟩
                                      omega
                                · skip
                                  have t50 := ieq (a := (x7_7 &&& (p1 ^^^ (-1))).toInt) (b := 0) rfl rfl c46
                                  first
                                    | exfalso; omega
                                    | skip
                                      refine ⟨fun c51 => ?_, fun c51 => ?_⟩
                                      · skip
                                        have t52 := ine (a := x8_12.toInt) (b := p2.toInt) rfl rfl c51
                                        first
                                          | exfalso; omega
                                          | skip
                                            try have t53 : (x7_7 + 1).toInt = x7_7.toInt + 1 := ia rfl rfl (by omega) (by omega)
                                            intro z17 ez17
                                            have t54 : z17.toInt = (x7_7 + 1).toInt := by rw [ez17] <;> rfl
                                            refine ⟨_, ?_, rfl, by first | omega | assumption | exact AB.none (by omega) | exact AB.mono (by assumption) (by omega) (by omega) (by omega) (by omega), by first | omega | assumption | exact AB.none (by omega) | exact AB.mono (by assumption) (by omega) (by omega) (by omega) (by omega), by first | omega | assumption | exact AB.none (by omega) | exact AB.mono (by assumption) (by omega) (by omega) (by omega) (by omega), by first | omega | assumption | exact AB.none (by omega) | exact AB.mono (by assumption) (by omega) (by omega) (by omega) (by omega), by first | omega | assumption | exact AB.none (by omega) | exact AB.mono (by assumption) (by omega) (by omega) (by omega) (by omega)⟩
                                            omega
                                      · skip
                                        have t55 := ieq (a := x8_12.toInt) (b := p2.toInt) rfl rfl c51
                                        first
                                          | exfalso; omega
                                          | skip
                                            refine ⟨fun c56 => ?_, fun c56 => ?_⟩
                                            · skip
                                              have t57 := ine (a := x4_7.toInt) (b := 0) rfl rfl c56
                                              exfalso; omega
                                            · skip
                                              have t58 := ieq (a := x4_7.toInt) (b := 0) rfl rfl c56
                                              first
                                                | exfalso; omega
                                                | skip
                                                  try have t59 : (x4_7 + 1).toInt = x4_7.toInt + 1 := ia rfl rfl (by omega) (by omega)
                                                  intro z22 ez22
                                                  have t60 : z22.toInt = (x4_7 + 1).toInt := by rw [ez22] <;> rfl
                                                  intro z23 ez23
                                                  have t61 : z23.toInt = (x6_7 &&& x7_7).toInt := by rw [ez23] <;> rfl
                                                  try have t62 : (x7_7 + 1).toInt = x7_7.toInt + 1 := ia rfl rfl (by omega) (by omega)
                                                  intro z24 ez24
                                                  have t63 : z24.toInt = (x7_7 + 1).toInt := by rw [ez24] <;> rfl
                                                  refine ⟨_, ?_, rfl, by first | omega | assumption | exact AB.none (by omega) | exact AB.mono (by assumption) (by omega) (by omega) (by omega) (by omega), by first | omega | assumption | exact AB.none (by omega) | exact AB.mono (by assumption) (by omega) (by omega) (by omega) (by omega), by first | omega | assumption | exact AB.none (by omega) | exact AB.mono (by assumption) (by omega) (by omega) (by omega) (by omega), by first | omega | assumption | exact AB.none (by omega) | exact AB.mono (by assumption) (by omega) (by omega) (by omega) (by omega), by first | omega | assumption | exact AB.none (by omega) | exact AB.mono (by assumption) (by omega) (by omega) (by omega) (by omega)⟩
                                                  omega
                          · skip
                            have t64 := inle (a := v_clocks.toInt) (b := x9_12.toInt) rfl rfl c44
                            exfalso; omega
              · skip
                have t65 := ieq (a := r5.toInt) (b := 0) rfl rfl c18
                first
                  | exfalso; omega
                  | skip
                    have t66 : ((-1) : Int32).toInt = (-1) := rfl
                    exact hk _ (by first | omega | assumption | exact AB.none (by omega) | exact AB.mono (by assumption) (by omega) (by omega) (by omega) (by omega))
set_option maxHeartbeats 1000000 in
set_option maxRecDepth 10000 in
theorem f_X8_bet {p1 : Int32} {p2 : Int32} {v_clocks : Int32} {v_betOn : Nat → Int32} {v_stakes : Nat → Int32} {v_bets : Int32} {post : Int32 → (Nat → Int32) → (Nat → Int32) → (Int32) → Prop} (hp0 : v_clocks.toInt = 0) (hp1 : v_bets.toInt = 0) (hk : ∀ (r : Int32) (v_betOn' : Nat → Int32) (v_stakes' : Nat → Int32) (v_bets' : Int32), (r.toInt = -1) → post r v_betOn' v_stakes' v_bets') : wp_X8_bet p1 p2 v_clocks v_betOn v_stakes v_bets post := by
  unfold wp_X8_bet
  have tn60 : ((Int32.toNatClampNeg 60 : Nat) : Int) = 60 := rfl
  have tn61 : ((Int32.toNatClampNeg 61 : Nat) : Int) = 61 := rfl
  have tn62 : ((Int32.toNatClampNeg 62 : Nat) : Int) = 62 := rfl
  refine f_X8_isClock (by first | omega | assumption | exact AB.none (by omega) | exact AB.mono (by assumption) (by omega) (by omega) (by omega) (by omega)) (fun r1 q1 => ?_)
  refine ⟨fun c2 => ?_, fun c2 => ?_⟩
  · skip
    have t3 := ieq (a := r1.toInt) (b := 0) rfl rfl c2
    first
      | exfalso; omega
      | skip
        have t4 : ((-1) : Int32).toInt = (-1) := rfl
        exact hk _ _ _ _ (by first | omega | assumption | exact AB.none (by omega) | exact AB.mono (by assumption) (by omega) (by omega) (by omega) (by omega))
  · skip
    have t5 := ine (a := r1.toInt) (b := 0) rfl rfl c2
    exfalso; omega
set_option maxHeartbeats 1000000 in
set_option maxRecDepth 10000 in
theorem f_X8_pays {p1 : Int32} {p2 : Int32} {v_clocks : Int32} {v_betOn : Nat → Int32} {v_stakes : Nat → Int32} {v_bets : Int32} {post : Int32 → Prop} (hp0 : v_clocks.toInt = 0) (hp1 : v_bets.toInt = 0) (hk : ∀ (r : Int32), (r.toInt = -1) → post r) : wp_X8_pays p1 p2 v_clocks v_betOn v_stakes v_bets post := by
  unfold wp_X8_pays
  have tn60 : ((Int32.toNatClampNeg 60 : Nat) : Int) = 60 := rfl
  have tn61 : ((Int32.toNatClampNeg 61 : Nat) : Int) = 61 := rfl
  have tn62 : ((Int32.toNatClampNeg 62 : Nat) : Int) = 62 := rfl
  have t1 : (Int32.toInt64 p1).toInt = p1.toInt := i2l rfl
  have t2 : (0 : Int64).toInt = 0 := rfl
  try have t3 : (v_bets - 1).toInt = v_bets.toInt - 1 := isb rfl rfl (by omega) (by omega)
  have t4 : (Int32.toInt64 (v_bets - 1)).toInt = (v_bets - 1).toInt := i2l rfl
  refine f_X8_in  (fun r1 q5 => ?_)
  refine ⟨fun c6 => ?_, fun c6 => ?_⟩
  · skip
    have t7 := ieq (a := r1.toInt) (b := 0) rfl rfl c6
    first
      | exfalso; omega
      | skip
        have t8 : ((-1) : Int32).toInt = (-1) := rfl
        exact hk _ (by first | omega | assumption | exact AB.none (by omega) | exact AB.mono (by assumption) (by omega) (by omega) (by omega) (by omega))
  · skip
    have t9 := ine (a := r1.toInt) (b := 0) rfl rfl c6
    first
      | exfalso; omega
      | skip
        refine f_X8_areClocks (by first | omega | assumption | exact AB.none (by omega) | exact AB.mono (by assumption) (by omega) (by omega) (by omega) (by omega)) (fun r3 q10 => ?_)
        refine ⟨fun c11 => ?_, fun c11 => ?_⟩
        · skip
          have t12 := ine (a := r3.toInt) (b := 0) rfl rfl c11
          first
            | exfalso; omega
            | skip
              have t13 : ((0 : Int32)).toInt = 0 := rfl
              have t14 : ((0 : Int32)).toInt = 0 := rfl
              have t15 : ((0 : Int32)).toInt = 0 := rfl
              refine ⟨fun n5 x3_5 x4_5 x5_5 => n5 = ((0 : Int)).toNat ∧ (x3_5.toInt = 0) ∧ (x4_5.toInt = 0) ∧ (x5_5.toInt = 0) ∧ (0 ≤ x5_5.toInt), ⟨_, rfl, by first | omega | assumption | exact AB.none (by omega) | exact AB.mono (by assumption) (by omega) (by omega) (by omega) (by omega), by first | omega | assumption | exact AB.none (by omega) | exact AB.mono (by assumption) (by omega) (by omega) (by omega) (by omega), by first | omega | assumption | exact AB.none (by omega) | exact AB.mono (by assumption) (by omega) (by omega) (by omega) (by omega), by first | omega | assumption | exact AB.none (by omega) | exact AB.mono (by assumption) (by omega) (by omega) (by omega) (by omega)⟩, ?_⟩
              rintro n5 x3_5 x4_5 x5_5 ⟨hn5, q16, q17, q18, q19⟩
              refine ⟨fun c20 => ?_, fun c20 => ?_⟩
              · skip
                have t21 := ile (a := v_bets.toInt) (b := x5_5.toInt) rfl rfl c20
                first
                  | exfalso; omega
                  | skip
                    refine ⟨fun c22 => ?_, fun c22 => ?_⟩
                    · skip
                      have t23 := ine (a := x4_5.toInt) (b := 0) rfl rfl c22
                      exfalso; omega
                    · skip
                      have t24 := ieq (a := x4_5.toInt) (b := 0) rfl rfl c22
                      first
                        | exfalso; omega
                        | skip
                          refine ⟨ivp (a := p1.toInt) rfl (by omega) (by omega), ?_⟩
                          exact hk _ (by first | omega | assumption | exact AB.none (by omega) | exact AB.mono (by assumption) (by omega) (by omega) (by omega) (by omega))
              · skip
                have t25 := inle (a := v_bets.toInt) (b := x5_5.toInt) rfl rfl c20
                exfalso; omega
        · skip
          have t26 := ieq (a := r3.toInt) (b := 0) rfl rfl c11
          first
            | exfalso; omega
            | skip
              have t27 : ((-1) : Int32).toInt = (-1) := rfl
              exact hk _ (by first | omega | assumption | exact AB.none (by omega) | exact AB.mono (by assumption) (by omega) (by omega) (by omega) (by omega))
set_option maxHeartbeats 1000000 in
set_option maxRecDepth 10000 in
theorem f_X8_settle {v_bets : Int32} {post : Int32 → (Int32) → Prop} (hp0 : v_bets.toInt = 0) (hk : ∀ (r : Int32) (v_bets' : Int32), (r.toInt = 0) → post r v_bets') : wp_X8_settle v_bets post := by
  unfold wp_X8_settle
  have tn60 : ((Int32.toNatClampNeg 60 : Nat) : Int) = 60 := rfl
  have tn61 : ((Int32.toNatClampNeg 61 : Nat) : Int) = 61 := rfl
  have tn62 : ((Int32.toNatClampNeg 62 : Nat) : Int) = 62 := rfl
  have t1 : (0 : Int32).toInt = 0 := rfl
  exact hk _ _ (by first | omega | assumption | exact AB.none (by omega) | exact AB.mono (by assumption) (by omega) (by omega) (by omega) (by omega))
set_option maxHeartbeats 1000000 in
set_option maxRecDepth 10000 in
theorem f_X8_lots {p1 : Int32} {v_st : Nat → Int32} {v_kinds : Nat → Int32} {v_rates : Nat → Int32} {v_clocks : Int32} {v_windows : Int32} {v_drawn : Int32} {post : Int32 → (Nat → Int32) → (Int32) → Prop} (hp0 : v_clocks.toInt = 0) (hp1 : v_windows.toInt = 8) (hp2 : AB v_st 0 24 12 12) (hp3 : 0 ≤ (v_st (Int32.toNatClampNeg 60)).toInt) (hp4 : (v_st (Int32.toNatClampNeg 60)).toInt ≤ 1000) (hp5 : (v_st (Int32.toNatClampNeg 61)).toInt = 0) (hp6 : (v_st (Int32.toNatClampNeg 62)).toInt = 0) (hp7 : v_drawn.toInt = 1) (hp8 : (v_st (Int32.toNatClampNeg 60)).toInt = 0) (hk : ∀ (r : Int32) (v_st' : Nat → Int32) (v_drawn' : Int32), (((1 ≤ p1.toInt ∧ p1.toInt ≤ 60) ∧ r.toInt = 0) ∨ (¬ (1 ≤ p1.toInt ∧ p1.toInt ≤ 60) ∧ r.toInt = -1)) → post r v_st' v_drawn') : wp_X8_lots p1 v_st v_kinds v_rates v_clocks v_windows v_drawn post := by
  unfold wp_X8_lots
  have tn60 : ((Int32.toNatClampNeg 60 : Nat) : Int) = 60 := rfl
  have tn61 : ((Int32.toNatClampNeg 61 : Nat) : Int) = 61 := rfl
  have tn62 : ((Int32.toNatClampNeg 62 : Nat) : Int) = 62 := rfl
  have t1 : (Int32.toInt64 p1).toInt = p1.toInt := i2l rfl
  have t2 : (1 : Int64).toInt = 1 := rfl
  have t3 : (60 : Int64).toInt = 60 := rfl
  refine f_X8_in  (fun r1 q4 => ?_)
  refine ⟨fun c5 => ?_, fun c5 => ?_⟩
  · skip
    have t6 := ine (a := r1.toInt) (b := 0) rfl rfl c5
    first
      | exfalso; omega
      | skip
        refine ⟨ivp (a := 60) rfl (by omega) (by omega), ?_⟩
        try have q7 := AB.get (f := v_st) (i := 60) (a := 60) (by assumption) rfl (by omega) (by omega) (by omega)
        try have t8 : ((v_st (Int32.toNatClampNeg 60)) + p1).toInt = (v_st (Int32.toNatClampNeg 60)).toInt + p1.toInt := ia rfl rfl (by omega) (by omega)
        refine ⟨fun c9 => ?_, fun c9 => ?_⟩
        · skip
          have t10 := ile (a := ((v_st (Int32.toNatClampNeg 60)) + p1).toInt) (b := 9999) rfl rfl c9
          first
            | exfalso; omega
            | skip
              have t11 : ((0 : Int32)).toInt = 0 := rfl
              have t12 : ((0 : Int32)).toInt = 0 := rfl
              refine ⟨fun n4 x2_4 x3_4 v_st_4 v_drawn_4 => n4 = (p1.toInt - x3_4.toInt).toNat ∧ (AB v_st_4 0 24 12 12) ∧ (0 ≤ (v_st_4 (Int32.toNatClampNeg 60)).toInt) ∧ ((v_st_4 (Int32.toNatClampNeg 60)).toInt ≤ 1000) ∧ ((v_st_4 (Int32.toNatClampNeg 61)).toInt = 0) ∧ ((v_st_4 (Int32.toNatClampNeg 62)).toInt = 0) ∧ (0 ≤ x3_4.toInt) ∧ (x2_4.toInt = 0) ∧ ((v_st_4 (Int32.toNatClampNeg 60)).toInt ≤ (v_st (Int32.toNatClampNeg 60)).toInt + x3_4.toInt), ⟨_, rfl, by first | omega | assumption | exact AB.none (by omega) | exact AB.mono (by assumption) (by omega) (by omega) (by omega) (by omega), by first | omega | assumption | exact AB.none (by omega) | exact AB.mono (by assumption) (by omega) (by omega) (by omega) (by omega), by first | omega | assumption | exact AB.none (by omega) | exact AB.mono (by assumption) (by omega) (by omega) (by omega) (by omega), by first | omega | assumption | exact AB.none (by omega) | exact AB.mono (by assumption) (by omega) (by omega) (by omega) (by omega), by first | omega | assumption | exact AB.none (by omega) | exact AB.mono (by assumption) (by omega) (by omega) (by omega) (by omega), by first | omega | assumption | exact AB.none (by omega) | exact AB.mono (by assumption) (by omega) (by omega) (by omega) (by omega), by first | omega | assumption | exact AB.none (by omega) | exact AB.mono (by assumption) (by omega) (by omega) (by omega) (by omega), by first | omega | assumption | exact AB.none (by omega) | exact AB.mono (by assumption) (by omega) (by omega) (by omega) (by omega)⟩, ?_⟩
              rintro n4 x2_4 x3_4 v_st_4 v_drawn_4 ⟨hn4, q13, q14, q15, q16, q17, q18, q19, q20⟩
              refine ⟨fun c21 => ?_, fun c21 => ?_⟩
              · skip
                have t22 := ile (a := p1.toInt) (b := x3_4.toInt) rfl rfl c21
                first
                  | exfalso; omega
                  | skip
                    exact hk _ _ _ (by first | omega | assumption | exact AB.none (by omega) | exact AB.mono (by assumption) (by omega) (by omega) (by omega) (by omega))
              · skip
                have t23 := inle (a := p1.toInt) (b := x3_4.toInt) rfl rfl c21
                first
                  | exfalso; omega
                  | skip
                    have t24 : (Int32.toInt64 v_drawn_4).toInt = v_drawn_4.toInt := i2l rfl
                    try have t25 : (((Int32.toInt64 v_drawn_4) * 1103515245) + 12345).toInt = ((Int32.toInt64 v_drawn_4) * 1103515245).toInt + 12345 := lad rfl rfl (by omega) (by omega)
                    intro z6 ez6
                    have t26 : z6.toInt = (Int64.toInt32 ((((Int32.toInt64 v_drawn_4) * 1103515245) + 12345) &&& 2147483647)).toInt := by rw [ez6] <;> rfl
                    try have t27 : (z6 / 65536).toInt = z6.toInt / 65536 := idv rfl rfl (by omega) (by omega)
                    try have t28 : ((z6 / 65536) - (z6 / 65536) / 4 * 4).toInt = (z6 / 65536).toInt % 4 := irm rfl rfl (by omega) (by omega)
                    refine f_X8_goOn (by first | omega | assumption | exact AB.none (by omega) | exact AB.mono (by assumption) (by omega) (by omega) (by omega) (by omega)) (by first | omega | assumption | exact AB.none (by omega) | exact AB.mono (by assumption) (by omega) (by omega) (by omega) (by omega)) (by first | omega | assumption | exact AB.none (by omega) | exact AB.mono (by assumption) (by omega) (by omega) (by omega) (by omega)) (by first | omega | assumption | exact AB.none (by omega) | exact AB.mono (by assumption) (by omega) (by omega) (by omega) (by omega)) (by first | omega | assumption | exact AB.none (by omega) | exact AB.mono (by assumption) (by omega) (by omega) (by omega) (by omega)) (by first | omega | assumption | exact AB.none (by omega) | exact AB.mono (by assumption) (by omega) (by omega) (by omega) (by omega)) (by first | omega | assumption | exact AB.none (by omega) | exact AB.mono (by assumption) (by omega) (by omega) (by omega) (by omega)) (by first | omega | assumption | exact AB.none (by omega) | exact AB.mono (by assumption) (by omega) (by omega) (by omega) (by omega)) (fun r7 v_st_8 q29 q30 q31 q32 q33 q34 q35 => ?_)
                    try have t36 : (x2_4 + r7).toInt = x2_4.toInt + r7.toInt := ia rfl rfl (by omega) (by omega)
                    intro z9 ez9
                    have t37 : z9.toInt = (x2_4 + r7).toInt := by rw [ez9] <;> rfl
                    try have t38 : (x3_4 + 1).toInt = x3_4.toInt + 1 := ia rfl rfl (by omega) (by omega)
                    intro z10 ez10
                    have t39 : z10.toInt = (x3_4 + 1).toInt := by rw [ez10] <;> rfl
                    refine ⟨_, ?_, rfl, by first | omega | assumption | exact AB.none (by omega) | exact AB.mono (by assumption) (by omega) (by omega) (by omega) (by omega), by first | omega | assumption | exact AB.none (by omega) | exact AB.mono (by assumption) (by omega) (by omega) (by omega) (by omega), by first | omega | assumption | exact AB.none (by omega) | exact AB.mono (by assumption) (by omega) (by omega) (by omega) (by omega), by first | omega | assumption | exact AB.none (by omega) | exact AB.mono (by assumption) (by omega) (by omega) (by omega) (by omega), by first | omega | assumption | exact AB.none (by omega) | exact AB.mono (by assumption) (by omega) (by omega) (by omega) (by omega), by first | omega | assumption | exact AB.none (by omega) | exact AB.mono (by assumption) (by omega) (by omega) (by omega) (by omega), by first | omega | assumption | exact AB.none (by omega) | exact AB.mono (by assumption) (by omega) (by omega) (by omega) (by omega), by first | omega | assumption | exact AB.none (by omega) | exact AB.mono (by assumption) (by omega) (by omega) (by omega) (by omega)⟩
                    omega
        · skip
          have t40 := inle (a := ((v_st (Int32.toNatClampNeg 60)) + p1).toInt) (b := 9999) rfl rfl c9
          first
            | exfalso; omega
            | skip
              have t41 : ((-3) : Int32).toInt = (-3) := rfl
              exact hk _ _ _ (by first | omega | assumption | exact AB.none (by omega) | exact AB.mono (by assumption) (by omega) (by omega) (by omega) (by omega))
  · skip
    have t42 := ieq (a := r1.toInt) (b := 0) rfl rfl c5
    first
      | exfalso; omega
      | skip
        have t43 : ((-1) : Int32).toInt = (-1) := rfl
        exact hk _ _ _ (by first | omega | assumption | exact AB.none (by omega) | exact AB.mono (by assumption) (by omega) (by omega) (by omega) (by omega))
set_option maxHeartbeats 1000000 in
set_option maxRecDepth 10000 in
theorem f_X8_seed {p1 : Int32} {v_drawn : Int32} {post : Int32 → (Int32) → Prop} (hp0 : v_drawn.toInt = 1) (hk : ∀ (r : Int32) (v_drawn' : Int32), (((0 ≤ p1.toInt) ∧ r.toInt = 1) ∨ (¬ (0 ≤ p1.toInt) ∧ r.toInt = -1)) → post r v_drawn') : wp_X8_seed p1 v_drawn post := by
  unfold wp_X8_seed
  have tn60 : ((Int32.toNatClampNeg 60 : Nat) : Int) = 60 := rfl
  have tn61 : ((Int32.toNatClampNeg 61 : Nat) : Int) = 61 := rfl
  have tn62 : ((Int32.toNatClampNeg 62 : Nat) : Int) = 62 := rfl
  refine ⟨fun c1 => ?_, fun c1 => ?_⟩
  · skip
    have t2 := ile (a := 0) (b := p1.toInt) rfl rfl c1
    first
      | exfalso; omega
      | skip
        exact hk _ _ (by first | omega | assumption | exact AB.none (by omega) | exact AB.mono (by assumption) (by omega) (by omega) (by omega) (by omega))
  · skip
    have t3 := inle (a := 0) (b := p1.toInt) rfl rfl c1
    first
      | exfalso; omega
      | skip
        have t4 : ((-1) : Int32).toInt = (-1) := rfl
        exact hk _ _ (by first | omega | assumption | exact AB.none (by omega) | exact AB.mono (by assumption) (by omega) (by omega) (by omega) (by omega))
set_option maxHeartbeats 1000000 in
set_option maxRecDepth 10000 in
theorem f_X8_carried {p1 : Int32} {p2 : Int32} {p3 : Int32} {v_st : Nat → Int32} {v_kinds : Nat → Int32} {v_rates : Nat → Int32} {v_clocks : Int32} {v_windows : Int32} {v_skyRow : Nat → Int32} {v_skyMany : Int32} {v_betOn : Nat → Int32} {v_stakes : Nat → Int32} {v_bets : Int32} {v_undos : Nat → Int32} {v_undoMany : Int32} {v_drawn : Int32} {post : Int32 → (Nat → Int32) → (Nat → Int32) → (Nat → Int32) → (Int32) → (Int32) → (Nat → Int32) → (Int32) → (Nat → Int32) → (Nat → Int32) → (Int32) → (Nat → Int32) → (Int32) → (Int32) → Prop} (hp0 : 0 ≤ p1.toInt) (hp1 : p1.toInt < 141) (hk : ∀ (r : Int32) (v_st' : Nat → Int32) (v_kinds' : Nat → Int32) (v_rates' : Nat → Int32) (v_clocks' : Int32) (v_windows' : Int32) (v_skyRow' : Nat → Int32) (v_skyMany' : Int32) (v_betOn' : Nat → Int32) (v_stakes' : Nat → Int32) (v_bets' : Int32) (v_undos' : Nat → Int32) (v_undoMany' : Int32) (v_drawn' : Int32), post r v_st' v_kinds' v_rates' v_clocks' v_windows' v_skyRow' v_skyMany' v_betOn' v_stakes' v_bets' v_undos' v_undoMany' v_drawn') : wp_X8_carried p1 p2 p3 v_st v_kinds v_rates v_clocks v_windows v_skyRow v_skyMany v_betOn v_stakes v_bets v_undos v_undoMany v_drawn post := by
  unfold wp_X8_carried
  have tn60 : ((Int32.toNatClampNeg 60 : Nat) : Int) = 60 := rfl
  have tn61 : ((Int32.toNatClampNeg 61 : Nat) : Int) = 61 := rfl
  have tn62 : ((Int32.toNatClampNeg 62 : Nat) : Int) = 62 := rfl
  refine ⟨fun c1 => ?_, fun c1 => ?_⟩
  · skip
    have t2 := ile (a := 63) (b := p1.toInt) rfl rfl c1
    first
      | exfalso; omega
      | skip
        refine ⟨fun c3 => ?_, fun c3 => ?_⟩
        · skip
          have t4 := ile (a := 81) (b := p1.toInt) rfl rfl c3
          first
            | exfalso; omega
            | skip
              refine ⟨fun c5 => ?_, fun c5 => ?_⟩
              · skip
                have t6 := ile (a := 93) (b := p1.toInt) rfl rfl c5
                first
                  | exfalso; omega
                  | skip
                    refine ⟨fun c7 => ?_, fun c7 => ?_⟩
                    · skip
                      have t8 := ile (a := 105) (b := p1.toInt) rfl rfl c7
                      first
                        | exfalso; omega
                        | skip
                          refine ⟨fun c9 => ?_, fun c9 => ?_⟩
                          · skip
                            have t10 := ile (a := 135) (b := p1.toInt) rfl rfl c9
                            first
                              | exfalso; omega
                              | skip
                                refine ⟨fun y1_6 => (True), fun y1_6 hj6 => ?_, ?_⟩
                                · skip
                                  refine ⟨fun y1_7 => (True), fun y1_7 hj7 => ?_, ?_⟩
                                  · skip
                                    refine ⟨fun y1_8 => (True), fun y1_8 hj8 => ?_, ?_⟩
                                    · skip
                                      refine ⟨fun y1_9 => (True), fun y1_9 hj9 => ?_, ?_⟩
                                      · skip
                                        refine ⟨fun y1_10 => (True), fun y1_10 hj10 => ?_, ?_⟩
                                        · skip
                                          refine ⟨fun y1_11 => (True), fun y1_11 hj11 => ?_, ?_⟩
                                          · skip
                                            refine ⟨fun c11 => ?_, fun c11 => ?_⟩
                                            · skip
                                              have t12 := ine (a := p1.toInt) (b := 135) rfl rfl c11
                                              first
                                                | exfalso; omega
                                                | skip
                                                  refine ⟨fun c13 => ?_, fun c13 => ?_⟩
                                                  · skip
                                                    have t14 := ine (a := p1.toInt) (b := 136) rfl rfl c13
                                                    first
                                                      | exfalso; omega
                                                      | skip
                                                        refine ⟨fun c15 => ?_, fun c15 => ?_⟩
                                                        · skip
                                                          have t16 := ine (a := p1.toInt) (b := 137) rfl rfl c15
                                                          first
                                                            | exfalso; omega
                                                            | skip
                                                              refine ⟨fun c17 => ?_, fun c17 => ?_⟩
                                                              · skip
                                                                have t18 := ine (a := p1.toInt) (b := 138) rfl rfl c17
                                                                first
                                                                  | exfalso; omega
                                                                  | skip
                                                                    refine ⟨fun c19 => ?_, fun c19 => ?_⟩
                                                                    · skip
                                                                      have t20 := ine (a := p1.toInt) (b := 139) rfl rfl c19
                                                                      first
                                                                        | exfalso; omega
                                                                        | skip
                                                                          exact hk _ _ _ _ _ _ _ _ _ _ _ _ _ _
                                                                    · skip
                                                                      have t21 := ieq (a := p1.toInt) (b := 139) rfl rfl c19
                                                                      first
                                                                        | exfalso; omega
                                                                        | skip
                                                                          exact hk _ _ _ _ _ _ _ _ _ _ _ _ _ _
                                                              · skip
                                                                have t22 := ieq (a := p1.toInt) (b := 138) rfl rfl c17
                                                                first
                                                                  | exfalso; omega
                                                                  | skip
                                                                    exact hk _ _ _ _ _ _ _ _ _ _ _ _ _ _
                                                        · skip
                                                          have t23 := ieq (a := p1.toInt) (b := 137) rfl rfl c15
                                                          first
                                                            | exfalso; omega
                                                            | skip
                                                              exact hk _ _ _ _ _ _ _ _ _ _ _ _ _ _
                                                  · skip
                                                    have t24 := ieq (a := p1.toInt) (b := 136) rfl rfl c13
                                                    first
                                                      | exfalso; omega
                                                      | skip
                                                        exact hk _ _ _ _ _ _ _ _ _ _ _ _ _ _
                                            · skip
                                              have t25 := ieq (a := p1.toInt) (b := 135) rfl rfl c11
                                              first
                                                | exfalso; omega
                                                | skip
                                                  exact hk _ _ _ _ _ _ _ _ _ _ _ _ _ _
                                          refine ⟨fun c26 => ?_, fun c26 => ?_⟩
                                          · skip
                                            have t27 := ieq (a := p3.toInt) (b := 0) rfl rfl c26
                                            first
                                              | exfalso; omega
                                              | skip
                                                exact trivial
                                          · skip
                                            have t28 := ine (a := p3.toInt) (b := 0) rfl rfl c26
                                            first
                                              | exfalso; omega
                                              | skip
                                                refine ⟨fun c29 => ?_, fun c29 => ?_⟩
                                                · skip
                                                  have t30 := ine (a := p1.toInt) (b := 140) rfl rfl c29
                                                  first
                                                    | exfalso; omega
                                                    | skip
                                                      exact trivial
                                                · skip
                                                  have t31 := ieq (a := p1.toInt) (b := 140) rfl rfl c29
                                                  first
                                                    | exfalso; omega
                                                    | skip
                                                      exact trivial
                                        refine ⟨fun c32 => ?_, fun c32 => ?_⟩
                                        · skip
                                          have t33 := ieq (a := p3.toInt) (b := 0) rfl rfl c32
                                          first
                                            | exfalso; omega
                                            | skip
                                              exact trivial
                                        · skip
                                          have t34 := ine (a := p3.toInt) (b := 0) rfl rfl c32
                                          first
                                            | exfalso; omega
                                            | skip
                                              refine ⟨fun c35 => ?_, fun c35 => ?_⟩
                                              · skip
                                                have t36 := ine (a := p1.toInt) (b := 139) rfl rfl c35
                                                first
                                                  | exfalso; omega
                                                  | skip
                                                    exact trivial
                                              · skip
                                                have t37 := ieq (a := p1.toInt) (b := 139) rfl rfl c35
                                                first
                                                  | exfalso; omega
                                                  | skip
                                                    exact trivial
                                      refine ⟨fun c38 => ?_, fun c38 => ?_⟩
                                      · skip
                                        have t39 := ieq (a := p3.toInt) (b := 0) rfl rfl c38
                                        first
                                          | exfalso; omega
                                          | skip
                                            exact trivial
                                      · skip
                                        have t40 := ine (a := p3.toInt) (b := 0) rfl rfl c38
                                        first
                                          | exfalso; omega
                                          | skip
                                            refine ⟨fun c41 => ?_, fun c41 => ?_⟩
                                            · skip
                                              have t42 := ine (a := p1.toInt) (b := 138) rfl rfl c41
                                              first
                                                | exfalso; omega
                                                | skip
                                                  exact trivial
                                            · skip
                                              have t43 := ieq (a := p1.toInt) (b := 138) rfl rfl c41
                                              first
                                                | exfalso; omega
                                                | skip
                                                  exact trivial
                                    refine ⟨fun c44 => ?_, fun c44 => ?_⟩
                                    · skip
                                      have t45 := ieq (a := p3.toInt) (b := 0) rfl rfl c44
                                      first
                                        | exfalso; omega
                                        | skip
                                          exact trivial
                                    · skip
                                      have t46 := ine (a := p3.toInt) (b := 0) rfl rfl c44
                                      first
                                        | exfalso; omega
                                        | skip
                                          refine ⟨fun c47 => ?_, fun c47 => ?_⟩
                                          · skip
                                            have t48 := ine (a := p1.toInt) (b := 137) rfl rfl c47
                                            first
                                              | exfalso; omega
                                              | skip
                                                exact trivial
                                          · skip
                                            have t49 := ieq (a := p1.toInt) (b := 137) rfl rfl c47
                                            first
                                              | exfalso; omega
                                              | skip
                                                exact trivial
                                  refine ⟨fun c50 => ?_, fun c50 => ?_⟩
                                  · skip
                                    have t51 := ieq (a := p3.toInt) (b := 0) rfl rfl c50
                                    first
                                      | exfalso; omega
                                      | skip
                                        exact trivial
                                  · skip
                                    have t52 := ine (a := p3.toInt) (b := 0) rfl rfl c50
                                    first
                                      | exfalso; omega
                                      | skip
                                        refine ⟨fun c53 => ?_, fun c53 => ?_⟩
                                        · skip
                                          have t54 := ine (a := p1.toInt) (b := 136) rfl rfl c53
                                          first
                                            | exfalso; omega
                                            | skip
                                              exact trivial
                                        · skip
                                          have t55 := ieq (a := p1.toInt) (b := 136) rfl rfl c53
                                          first
                                            | exfalso; omega
                                            | skip
                                              exact trivial
                                refine ⟨fun c56 => ?_, fun c56 => ?_⟩
                                · skip
                                  have t57 := ieq (a := p3.toInt) (b := 0) rfl rfl c56
                                  first
                                    | exfalso; omega
                                    | skip
                                      exact trivial
                                · skip
                                  have t58 := ine (a := p3.toInt) (b := 0) rfl rfl c56
                                  first
                                    | exfalso; omega
                                    | skip
                                      refine ⟨fun c59 => ?_, fun c59 => ?_⟩
                                      · skip
                                        have t60 := ine (a := p1.toInt) (b := 135) rfl rfl c59
                                        first
                                          | exfalso; omega
                                          | skip
                                            exact trivial
                                      · skip
                                        have t61 := ieq (a := p1.toInt) (b := 135) rfl rfl c59
                                        first
                                          | exfalso; omega
                                          | skip
                                            exact trivial
                          · skip
                            have t62 := inle (a := 135) (b := p1.toInt) rfl rfl c9
                            first
                              | exfalso; omega
                              | skip
                                refine ⟨fun c63 => ?_, fun c63 => ?_⟩
                                · skip
                                  have t64 := ieq (a := p3.toInt) (b := 0) rfl rfl c63
                                  first
                                    | exfalso; omega
                                    | skip
                                      try have t65 : (p1 - 105).toInt = p1.toInt - 105 := isb rfl rfl (by omega) (by omega)
                                      refine ⟨ivp (a := (p1 - 105).toInt) rfl (by omega) (by omega), ?_⟩
                                      intro z30 ez30
                                      have t66 : z30.toInt = (v_undos (Int32.toNatClampNeg (p1 - 105))).toInt := by rw [ez30] <;> rfl
                                      refine ⟨ivp (a := (p1 - 105).toInt) rfl (by omega) (by omega), ?_⟩
                                      intro f31 ef31
                                      have t67 : ((Int32.toNatClampNeg (p1 - 105) : Nat) : Int) = (p1 - 105).toInt := itn rfl (by omega)
                                      have t68 : (f31 (Int32.toNatClampNeg (p1 - 105))).toInt = z30.toInt := by rw [ef31, upd_eq] <;> rfl
                                      refine ⟨ivp (a := (p1 - 105).toInt) rfl (by omega) (by omega), ?_⟩
                                      exact hk _ _ _ _ _ _ _ _ _ _ _ _ _ _
                                · skip
                                  have t69 := ine (a := p3.toInt) (b := 0) rfl rfl c63
                                  first
                                    | exfalso; omega
                                    | skip
                                      try have t70 : (p1 - 105).toInt = p1.toInt - 105 := isb rfl rfl (by omega) (by omega)
                                      refine ⟨ivp (a := (p1 - 105).toInt) rfl (by omega) (by omega), ?_⟩
                                      intro f32 ef32
                                      have t71 : ((Int32.toNatClampNeg (p1 - 105) : Nat) : Int) = (p1 - 105).toInt := itn rfl (by omega)
                                      have t72 : (f32 (Int32.toNatClampNeg (p1 - 105))).toInt = p2.toInt := by rw [ef32, upd_eq] <;> rfl
                                      refine ⟨ivp (a := (p1 - 105).toInt) rfl (by omega) (by omega), ?_⟩
                                      exact hk _ _ _ _ _ _ _ _ _ _ _ _ _ _
                    · skip
                      have t73 := inle (a := 105) (b := p1.toInt) rfl rfl c7
                      first
                        | exfalso; omega
                        | skip
                          try have t74 : (p1 - 93).toInt = p1.toInt - 93 := isb rfl rfl (by omega) (by omega)
                          try have t75 : ((p1 - 93) - (p1 - 93) / 6 * 6).toInt = (p1 - 93).toInt % 6 := irm rfl rfl (by omega) (by omega)
                          intro z33 ez33
                          have t76 : z33.toInt = ((p1 - 93) - (p1 - 93) / 6 * 6).toInt := by rw [ez33] <;> rfl
                          refine ⟨fun y2_34 => (True), fun y2_34 hj34 => ?_, ?_⟩
                          · skip
                            refine ⟨ivp (a := z33.toInt) rfl (by omega) (by omega), ?_⟩
                            intro f35 ef35
                            have t77 : ((Int32.toNatClampNeg z33 : Nat) : Int) = z33.toInt := itn rfl (by omega)
                            have t78 : (f35 (Int32.toNatClampNeg z33)).toInt = y2_34.toInt := by rw [ef35, upd_eq] <;> rfl
                            refine ⟨fun y2_36 => (True), fun y2_36 hj36 => ?_, ?_⟩
                            · skip
                              refine ⟨ivp (a := z33.toInt) rfl (by omega) (by omega), ?_⟩
                              intro f37 ef37
                              have t79 : ((Int32.toNatClampNeg z33 : Nat) : Int) = z33.toInt := itn rfl (by omega)
                              have t80 : (f37 (Int32.toNatClampNeg z33)).toInt = y2_36.toInt := by rw [ef37, upd_eq] <;> rfl
                              refine ⟨fun c81 => ?_, fun c81 => ?_⟩
                              · skip
                                have t82 := ile (a := 99) (b := p1.toInt) rfl rfl c81
                                first
                                  | exfalso; omega
                                  | skip
                                    refine ⟨ivp (a := z33.toInt) rfl (by omega) (by omega), ?_⟩
                                    exact hk _ _ _ _ _ _ _ _ _ _ _ _ _ _
                              · skip
                                have t83 := inle (a := 99) (b := p1.toInt) rfl rfl c81
                                first
                                  | exfalso; omega
                                  | skip
                                    refine ⟨ivp (a := z33.toInt) rfl (by omega) (by omega), ?_⟩
                                    exact hk _ _ _ _ _ _ _ _ _ _ _ _ _ _
                            refine ⟨fun c84 => ?_, fun c84 => ?_⟩
                            · skip
                              have t85 := ieq (a := p3.toInt) (b := 0) rfl rfl c84
                              first
                                | exfalso; omega
                                | skip
                                  refine ⟨ivp (a := z33.toInt) rfl (by omega) (by omega), ?_⟩
                                  exact trivial
                            · skip
                              have t86 := ine (a := p3.toInt) (b := 0) rfl rfl c84
                              first
                                | exfalso; omega
                                | skip
                                  refine ⟨fun c87 => ?_, fun c87 => ?_⟩
                                  · skip
                                    have t88 := ilt (a := p1.toInt) (b := 99) rfl rfl c87
                                    first
                                      | exfalso; omega
                                      | skip
                                        refine ⟨ivp (a := z33.toInt) rfl (by omega) (by omega), ?_⟩
                                        exact trivial
                                  · skip
                                    have t89 := inlt (a := p1.toInt) (b := 99) rfl rfl c87
                                    first
                                      | exfalso; omega
                                      | skip
                                        exact trivial
                          refine ⟨fun c90 => ?_, fun c90 => ?_⟩
                          · skip
                            have t91 := ieq (a := p3.toInt) (b := 0) rfl rfl c90
                            first
                              | exfalso; omega
                              | skip
                                refine ⟨ivp (a := z33.toInt) rfl (by omega) (by omega), ?_⟩
                                exact trivial
                          · skip
                            have t92 := ine (a := p3.toInt) (b := 0) rfl rfl c90
                            first
                              | exfalso; omega
                              | skip
                                refine ⟨fun c93 => ?_, fun c93 => ?_⟩
                                · skip
                                  have t94 := ile (a := 99) (b := p1.toInt) rfl rfl c93
                                  first
                                    | exfalso; omega
                                    | skip
                                      refine ⟨ivp (a := z33.toInt) rfl (by omega) (by omega), ?_⟩
                                      exact trivial
                                · skip
                                  have t95 := inle (a := 99) (b := p1.toInt) rfl rfl c93
                                  first
                                    | exfalso; omega
                                    | skip
                                      exact trivial
              · skip
                have t96 := inle (a := 93) (b := p1.toInt) rfl rfl c5
                first
                  | exfalso; omega
                  | skip
                    refine ⟨fun c97 => ?_, fun c97 => ?_⟩
                    · skip
                      have t98 := ieq (a := p3.toInt) (b := 0) rfl rfl c97
                      first
                        | exfalso; omega
                        | skip
                          try have t99 : (p1 - 81).toInt = p1.toInt - 81 := isb rfl rfl (by omega) (by omega)
                          refine ⟨ivp (a := (p1 - 81).toInt) rfl (by omega) (by omega), ?_⟩
                          try have q100 := AB.get (f := v_skyRow) (i := (p1 - 81)) (a := (p1 - 81).toInt) (by assumption) rfl (by omega) (by omega) (by omega)
                          intro z44 ez44
                          have t101 : z44.toInt = (v_skyRow (Int32.toNatClampNeg (p1 - 81))).toInt := by rw [ez44] <;> rfl
                          refine ⟨ivp (a := (p1 - 81).toInt) rfl (by omega) (by omega), ?_⟩
                          intro f45 ef45
                          have t102 : ((Int32.toNatClampNeg (p1 - 81) : Nat) : Int) = (p1 - 81).toInt := itn rfl (by omega)
                          have t103 : (f45 (Int32.toNatClampNeg (p1 - 81))).toInt = z44.toInt := by rw [ef45, upd_eq] <;> rfl
                          try have q104 : AB f45 0 12 0 0 := by rw [ef45]; first | exact AB.updo (by assumption) (by omega) | exact AB.updv (by assumption) rfl (by omega) (by omega) | exact AB.none (by omega)
                          refine ⟨ivp (a := (p1 - 81).toInt) rfl (by omega) (by omega), ?_⟩
                          try have q105 := AB.get (f := f45) (i := (p1 - 81)) (a := (p1 - 81).toInt) (by assumption) rfl (by omega) (by omega) (by omega)
                          exact hk _ _ _ _ _ _ _ _ _ _ _ _ _ _
                    · skip
                      have t106 := ine (a := p3.toInt) (b := 0) rfl rfl c97
                      first
                        | exfalso; omega
                        | skip
                          try have t107 : (p1 - 81).toInt = p1.toInt - 81 := isb rfl rfl (by omega) (by omega)
                          refine ⟨ivp (a := (p1 - 81).toInt) rfl (by omega) (by omega), ?_⟩
                          intro f46 ef46
                          have t108 : ((Int32.toNatClampNeg (p1 - 81) : Nat) : Int) = (p1 - 81).toInt := itn rfl (by omega)
                          have t109 : (f46 (Int32.toNatClampNeg (p1 - 81))).toInt = p2.toInt := by rw [ef46, upd_eq] <;> rfl
                          try have q110 : AB f46 0 12 0 0 := by rw [ef46]; first | exact AB.updo (by assumption) (by omega) | exact AB.updv (by assumption) rfl (by omega) (by omega) | exact AB.none (by omega)
                          refine ⟨ivp (a := (p1 - 81).toInt) rfl (by omega) (by omega), ?_⟩
                          try have q111 := AB.get (f := f46) (i := (p1 - 81)) (a := (p1 - 81).toInt) (by assumption) rfl (by omega) (by omega) (by omega)
                          exact hk _ _ _ _ _ _ _ _ _ _ _ _ _ _
        · skip
          have t112 := inle (a := 81) (b := p1.toInt) rfl rfl c3
          first
            | exfalso; omega
            | skip
              try have t113 : (p1 - 63).toInt = p1.toInt - 63 := isb rfl rfl (by omega) (by omega)
              try have t114 : ((p1 - 63) - (p1 - 63) / 9 * 9).toInt = (p1 - 63).toInt % 9 := irm rfl rfl (by omega) (by omega)
              intro z47 ez47
              have t115 : z47.toInt = ((p1 - 63) - (p1 - 63) / 9 * 9).toInt := by rw [ez47] <;> rfl
              refine ⟨fun y2_48 => (True), fun y2_48 hj48 => ?_, ?_⟩
              · skip
                refine ⟨ivp (a := z47.toInt) rfl (by omega) (by omega), ?_⟩
                intro f49 ef49
                have t116 : ((Int32.toNatClampNeg z47 : Nat) : Int) = z47.toInt := itn rfl (by omega)
                have t117 : (f49 (Int32.toNatClampNeg z47)).toInt = y2_48.toInt := by rw [ef49, upd_eq] <;> rfl
                refine ⟨fun y2_50 => (True), fun y2_50 hj50 => ?_, ?_⟩
                · skip
                  refine ⟨ivp (a := z47.toInt) rfl (by omega) (by omega), ?_⟩
                  intro f51 ef51
                  have t118 : ((Int32.toNatClampNeg z47 : Nat) : Int) = z47.toInt := itn rfl (by omega)
                  have t119 : (f51 (Int32.toNatClampNeg z47)).toInt = y2_50.toInt := by rw [ef51, upd_eq] <;> rfl
                  refine ⟨fun c120 => ?_, fun c120 => ?_⟩
                  · skip
                    have t121 := ile (a := 72) (b := p1.toInt) rfl rfl c120
                    first
                      | exfalso; omega
                      | skip
                        refine ⟨ivp (a := z47.toInt) rfl (by omega) (by omega), ?_⟩
                        exact hk _ _ _ _ _ _ _ _ _ _ _ _ _ _
                  · skip
                    have t122 := inle (a := 72) (b := p1.toInt) rfl rfl c120
                    first
                      | exfalso; omega
                      | skip
                        refine ⟨ivp (a := z47.toInt) rfl (by omega) (by omega), ?_⟩
                        exact hk _ _ _ _ _ _ _ _ _ _ _ _ _ _
                refine ⟨fun c123 => ?_, fun c123 => ?_⟩
                · skip
                  have t124 := ieq (a := p3.toInt) (b := 0) rfl rfl c123
                  first
                    | exfalso; omega
                    | skip
                      refine ⟨ivp (a := z47.toInt) rfl (by omega) (by omega), ?_⟩
                      exact trivial
                · skip
                  have t125 := ine (a := p3.toInt) (b := 0) rfl rfl c123
                  first
                    | exfalso; omega
                    | skip
                      refine ⟨fun c126 => ?_, fun c126 => ?_⟩
                      · skip
                        have t127 := ilt (a := p1.toInt) (b := 72) rfl rfl c126
                        first
                          | exfalso; omega
                          | skip
                            refine ⟨ivp (a := z47.toInt) rfl (by omega) (by omega), ?_⟩
                            exact trivial
                      · skip
                        have t128 := inlt (a := p1.toInt) (b := 72) rfl rfl c126
                        first
                          | exfalso; omega
                          | skip
                            exact trivial
              refine ⟨fun c129 => ?_, fun c129 => ?_⟩
              · skip
                have t130 := ieq (a := p3.toInt) (b := 0) rfl rfl c129
                first
                  | exfalso; omega
                  | skip
                    refine ⟨ivp (a := z47.toInt) rfl (by omega) (by omega), ?_⟩
                    exact trivial
              · skip
                have t131 := ine (a := p3.toInt) (b := 0) rfl rfl c129
                first
                  | exfalso; omega
                  | skip
                    refine ⟨fun c132 => ?_, fun c132 => ?_⟩
                    · skip
                      have t133 := ile (a := 72) (b := p1.toInt) rfl rfl c132
                      first
                        | exfalso; omega
                        | skip
                          refine ⟨ivp (a := z47.toInt) rfl (by omega) (by omega), ?_⟩
                          exact trivial
                    · skip
                      have t134 := inle (a := 72) (b := p1.toInt) rfl rfl c132
                      first
                        | exfalso; omega
                        | skip
                          exact trivial
  · skip
    have t135 := inle (a := 63) (b := p1.toInt) rfl rfl c1
    first
      | exfalso; omega
      | skip
        refine ⟨fun c136 => ?_, fun c136 => ?_⟩
        · skip
          have t137 := ieq (a := p3.toInt) (b := 0) rfl rfl c136
          first
            | exfalso; omega
            | skip
              refine ⟨ivp (a := p1.toInt) rfl (by omega) (by omega), ?_⟩
              try have q138 := AB.get (f := v_st) (i := p1) (a := p1.toInt) (by assumption) rfl (by omega) (by omega) (by omega)
              intro z58 ez58
              have t139 : z58.toInt = (v_st (Int32.toNatClampNeg p1)).toInt := by rw [ez58] <;> rfl
              refine ⟨ivp (a := p1.toInt) rfl (by omega) (by omega), ?_⟩
              intro f59 ef59
              have t140 : ((Int32.toNatClampNeg p1 : Nat) : Int) = p1.toInt := itn rfl (by omega)
              have t141 : (f59 (Int32.toNatClampNeg p1)).toInt = z58.toInt := by rw [ef59, upd_eq] <;> rfl
              try have t142 : (f59 (Int32.toNatClampNeg 60)).toInt = (v_st (Int32.toNatClampNeg 60)).toInt := by rw [ef59, upd_ne (by omega)]
              try have t143 : (f59 (Int32.toNatClampNeg 61)).toInt = (v_st (Int32.toNatClampNeg 61)).toInt := by rw [ef59, upd_ne (by omega)]
              try have t144 : (f59 (Int32.toNatClampNeg 62)).toInt = (v_st (Int32.toNatClampNeg 62)).toInt := by rw [ef59, upd_ne (by omega)]
              try have q145 : AB f59 0 24 12 12 := by rw [ef59]; first | exact AB.updo (by assumption) (by omega) | exact AB.updv (by assumption) rfl (by omega) (by omega) | exact AB.none (by omega)
              refine ⟨ivp (a := p1.toInt) rfl (by omega) (by omega), ?_⟩
              try have q146 := AB.get (f := f59) (i := p1) (a := p1.toInt) (by assumption) rfl (by omega) (by omega) (by omega)
              exact hk _ _ _ _ _ _ _ _ _ _ _ _ _ _
        · skip
          have t147 := ine (a := p3.toInt) (b := 0) rfl rfl c136
          first
            | exfalso; omega
            | skip
              refine ⟨ivp (a := p1.toInt) rfl (by omega) (by omega), ?_⟩
              intro f60 ef60
              have t148 : ((Int32.toNatClampNeg p1 : Nat) : Int) = p1.toInt := itn rfl (by omega)
              have t149 : (f60 (Int32.toNatClampNeg p1)).toInt = p2.toInt := by rw [ef60, upd_eq] <;> rfl
              try have t150 : (f60 (Int32.toNatClampNeg 60)).toInt = (v_st (Int32.toNatClampNeg 60)).toInt := by rw [ef60, upd_ne (by omega)]
              try have t151 : (f60 (Int32.toNatClampNeg 61)).toInt = (v_st (Int32.toNatClampNeg 61)).toInt := by rw [ef60, upd_ne (by omega)]
              try have t152 : (f60 (Int32.toNatClampNeg 62)).toInt = (v_st (Int32.toNatClampNeg 62)).toInt := by rw [ef60, upd_ne (by omega)]
              try have q153 : AB f60 0 24 12 12 := by rw [ef60]; first | exact AB.updo (by assumption) (by omega) | exact AB.updv (by assumption) rfl (by omega) (by omega) | exact AB.none (by omega)
              refine ⟨ivp (a := p1.toInt) rfl (by omega) (by omega), ?_⟩
              try have q154 := AB.get (f := f60) (i := p1) (a := p1.toInt) (by assumption) rfl (by omega) (by omega) (by omega)
              exact hk _ _ _ _ _ _ _ _ _ _ _ _ _ _
set_option maxHeartbeats 1000000 in
set_option maxRecDepth 10000 in
theorem f_X8_image {v_st : Nat → Int32} {v_kinds : Nat → Int32} {v_rates : Nat → Int32} {v_clocks : Int32} {v_windows : Int32} {v_skyRow : Nat → Int32} {v_skyMany : Int32} {v_betOn : Nat → Int32} {v_stakes : Nat → Int32} {v_bets : Int32} {v_undos : Nat → Int32} {v_undoMany : Int32} {v_drawn : Int32} {v_isKept : Int32} {v_kept : Nat → Int32} {post : Int32 → (Nat → Int32) → (Nat → Int32) → (Nat → Int32) → (Int32) → (Int32) → (Nat → Int32) → (Int32) → (Nat → Int32) → (Nat → Int32) → (Int32) → (Nat → Int32) → (Int32) → (Int32) → (Int32) → (Nat → Int32) → Prop} (hp0 : v_clocks.toInt = 0) (hp1 : v_windows.toInt = 8) (hp2 : v_skyMany.toInt = 1) (hp3 : v_bets.toInt = 0) (hp4 : v_undoMany.toInt = 0) (hp5 : v_isKept.toInt = 0) (hp6 : AB v_st 0 24 12 12) (hp7 : 0 ≤ (v_st (Int32.toNatClampNeg 60)).toInt) (hp8 : (v_st (Int32.toNatClampNeg 60)).toInt ≤ 1000) (hp9 : (v_st (Int32.toNatClampNeg 61)).toInt = 0) (hp10 : (v_st (Int32.toNatClampNeg 62)).toInt = 0) (hp11 : AB v_skyRow 0 12 0 0) (hp12 : v_drawn.toInt = 1) (hp13 : (v_st (Int32.toNatClampNeg 60)).toInt = 0) (hk : ∀ (r : Int32) (v_st' : Nat → Int32) (v_kinds' : Nat → Int32) (v_rates' : Nat → Int32) (v_clocks' : Int32) (v_windows' : Int32) (v_skyRow' : Nat → Int32) (v_skyMany' : Int32) (v_betOn' : Nat → Int32) (v_stakes' : Nat → Int32) (v_bets' : Int32) (v_undos' : Nat → Int32) (v_undoMany' : Int32) (v_drawn' : Int32) (v_isKept' : Int32) (v_kept' : Nat → Int32), (r.toInt = 1) → post r v_st' v_kinds' v_rates' v_clocks' v_windows' v_skyRow' v_skyMany' v_betOn' v_stakes' v_bets' v_undos' v_undoMany' v_drawn' v_isKept' v_kept') : wp_X8_image v_st v_kinds v_rates v_clocks v_windows v_skyRow v_skyMany v_betOn v_stakes v_bets v_undos v_undoMany v_drawn v_isKept v_kept post := by
  unfold wp_X8_image
  have tn60 : ((Int32.toNatClampNeg 60 : Nat) : Int) = 60 := rfl
  have tn61 : ((Int32.toNatClampNeg 61 : Nat) : Int) = 61 := rfl
  have tn62 : ((Int32.toNatClampNeg 62 : Nat) : Int) = 62 := rfl
  have t1 : ((0 : Int32)).toInt = 0 := rfl
  refine ⟨fun n1 x1_1 v_st_1 v_kinds_1 v_rates_1 v_clocks_1 v_windows_1 v_skyRow_1 v_skyMany_1 v_betOn_1 v_stakes_1 v_bets_1 v_undos_1 v_undoMany_1 v_drawn_1 v_kept_1 => n1 = (141 - x1_1.toInt).toNat ∧ (0 ≤ x1_1.toInt), ⟨_, rfl, by first | omega | assumption | exact AB.none (by omega) | exact AB.mono (by assumption) (by omega) (by omega) (by omega) (by omega)⟩, ?_⟩
  rintro n1 x1_1 v_st_1 v_kinds_1 v_rates_1 v_clocks_1 v_windows_1 v_skyRow_1 v_skyMany_1 v_betOn_1 v_stakes_1 v_bets_1 v_undos_1 v_undoMany_1 v_drawn_1 v_kept_1 ⟨hn1, q2⟩
  refine ⟨fun c3 => ?_, fun c3 => ?_⟩
  · skip
    have t4 := ile (a := 141) (b := x1_1.toInt) rfl rfl c3
    first
      | exfalso; omega
      | skip
        have t5 : (1 : Int32).toInt = 1 := rfl
        exact hk _ _ _ _ _ _ _ _ _ _ _ _ _ _ _ _ (by first | omega | assumption | exact AB.none (by omega) | exact AB.mono (by assumption) (by omega) (by omega) (by omega) (by omega))
  · skip
    have t6 := inle (a := 141) (b := x1_1.toInt) rfl rfl c3
    first
      | exfalso; omega
      | skip
        have t7 : (0 : Int32).toInt = 0 := rfl
        refine f_X8_carried (by first | omega | assumption | exact AB.none (by omega) | exact AB.mono (by assumption) (by omega) (by omega) (by omega) (by omega)) (by first | omega | assumption | exact AB.none (by omega) | exact AB.mono (by assumption) (by omega) (by omega) (by omega) (by omega)) (fun r3 v_st_4 v_kinds_5 v_rates_6 v_clocks_7 v_windows_8 v_skyRow_9 v_skyMany_10 v_betOn_11 v_stakes_12 v_bets_13 v_undos_14 v_undoMany_15 v_drawn_16 => ?_)
        refine ⟨ivp (a := x1_1.toInt) rfl (by omega) (by omega), ?_⟩
        intro f17 ef17
        have t8 : ((Int32.toNatClampNeg x1_1 : Nat) : Int) = x1_1.toInt := itn rfl (by omega)
        have t9 : (f17 (Int32.toNatClampNeg x1_1)).toInt = r3.toInt := by rw [ef17, upd_eq] <;> rfl
        try have t10 : (x1_1 + 1).toInt = x1_1.toInt + 1 := ia rfl rfl (by omega) (by omega)
        intro z18 ez18
        have t11 : z18.toInt = (x1_1 + 1).toInt := by rw [ez18] <;> rfl
        refine ⟨_, ?_, rfl, by first | omega | assumption | exact AB.none (by omega) | exact AB.mono (by assumption) (by omega) (by omega) (by omega) (by omega)⟩
        omega
set_option maxHeartbeats 1000000 in
set_option maxRecDepth 10000 in
theorem f_X8_restore {v_st : Nat → Int32} {v_kinds : Nat → Int32} {v_rates : Nat → Int32} {v_clocks : Int32} {v_windows : Int32} {v_skyRow : Nat → Int32} {v_skyMany : Int32} {v_betOn : Nat → Int32} {v_stakes : Nat → Int32} {v_bets : Int32} {v_undos : Nat → Int32} {v_undoMany : Int32} {v_drawn : Int32} {v_isKept : Int32} {v_kept : Nat → Int32} {post : Int32 → (Nat → Int32) → (Nat → Int32) → (Nat → Int32) → (Int32) → (Int32) → (Nat → Int32) → (Int32) → (Nat → Int32) → (Nat → Int32) → (Int32) → (Nat → Int32) → (Int32) → (Int32) → Prop} (hp0 : v_clocks.toInt = 0) (hp1 : v_windows.toInt = 8) (hp2 : v_skyMany.toInt = 1) (hp3 : v_bets.toInt = 0) (hp4 : v_undoMany.toInt = 0) (hp5 : v_isKept.toInt = 0) (hp6 : AB v_st 0 24 12 12) (hp7 : 0 ≤ (v_st (Int32.toNatClampNeg 60)).toInt) (hp8 : (v_st (Int32.toNatClampNeg 60)).toInt ≤ 1000) (hp9 : (v_st (Int32.toNatClampNeg 61)).toInt = 0) (hp10 : (v_st (Int32.toNatClampNeg 62)).toInt = 0) (hp11 : AB v_skyRow 0 12 0 0) (hp12 : v_drawn.toInt = 1) (hp13 : (v_st (Int32.toNatClampNeg 60)).toInt = 0) (hk : ∀ (r : Int32) (v_st' : Nat → Int32) (v_kinds' : Nat → Int32) (v_rates' : Nat → Int32) (v_clocks' : Int32) (v_windows' : Int32) (v_skyRow' : Nat → Int32) (v_skyMany' : Int32) (v_betOn' : Nat → Int32) (v_stakes' : Nat → Int32) (v_bets' : Int32) (v_undos' : Nat → Int32) (v_undoMany' : Int32) (v_drawn' : Int32), (r.toInt = -4) → post r v_st' v_kinds' v_rates' v_clocks' v_windows' v_skyRow' v_skyMany' v_betOn' v_stakes' v_bets' v_undos' v_undoMany' v_drawn') : wp_X8_restore v_st v_kinds v_rates v_clocks v_windows v_skyRow v_skyMany v_betOn v_stakes v_bets v_undos v_undoMany v_drawn v_isKept v_kept post := by
  unfold wp_X8_restore
  have tn60 : ((Int32.toNatClampNeg 60 : Nat) : Int) = 60 := rfl
  have tn61 : ((Int32.toNatClampNeg 61 : Nat) : Int) = 61 := rfl
  have tn62 : ((Int32.toNatClampNeg 62 : Nat) : Int) = 62 := rfl
  refine ⟨fun c1 => ?_, fun c1 => ?_⟩
  · skip
    have t2 := ine (a := v_isKept.toInt) (b := 0) rfl rfl c1
    exfalso; omega
  · skip
    have t3 := ieq (a := v_isKept.toInt) (b := 0) rfl rfl c1
    first
      | exfalso; omega
      | skip
        have t4 : ((-4) : Int32).toInt = (-4) := rfl
        exact hk _ _ _ _ _ _ _ _ _ _ _ _ _ _ (by first | omega | assumption | exact AB.none (by omega) | exact AB.mono (by assumption) (by omega) (by omega) (by omega) (by omega))
set_option maxHeartbeats 1000000 in
set_option maxRecDepth 10000 in
theorem f_X8_isSheet {p1 : Int32} {p2 : Int32} {post : Int32 → Prop} (hk : ∀ (r : Int32), (((0 ≤ p1.toInt ∧ p1.toInt ≤ 3 ∧ 0 ≤ p2.toInt ∧ p2.toInt ≤ 3) ∧ r.toInt = 1) ∨ (¬ (0 ≤ p1.toInt ∧ p1.toInt ≤ 3 ∧ 0 ≤ p2.toInt ∧ p2.toInt ≤ 3) ∧ r.toInt = 0)) → post r) : wp_X8_isSheet p1 p2 post := by
  unfold wp_X8_isSheet
  have tn60 : ((Int32.toNatClampNeg 60 : Nat) : Int) = 60 := rfl
  have tn61 : ((Int32.toNatClampNeg 61 : Nat) : Int) = 61 := rfl
  have tn62 : ((Int32.toNatClampNeg 62 : Nat) : Int) = 62 := rfl
  have t1 : (Int32.toInt64 p1).toInt = p1.toInt := i2l rfl
  have t2 : (0 : Int64).toInt = 0 := rfl
  have t3 : (3 : Int64).toInt = 3 := rfl
  refine f_X8_in  (fun r1 q4 => ?_)
  refine ⟨fun c5 => ?_, fun c5 => ?_⟩
  · skip
    have t6 := ieq (a := r1.toInt) (b := 0) rfl rfl c5
    first
      | exfalso; omega
      | skip
        have t7 : (0 : Int32).toInt = 0 := rfl
        exact hk _ (by first | omega | assumption | exact AB.none (by omega) | exact AB.mono (by assumption) (by omega) (by omega) (by omega) (by omega))
  · skip
    have t8 := ine (a := r1.toInt) (b := 0) rfl rfl c5
    first
      | exfalso; omega
      | skip
        have t9 : (Int32.toInt64 p2).toInt = p2.toInt := i2l rfl
        refine f_X8_in  (fun r3 q10 => ?_)
        refine ⟨fun c11 => ?_, fun c11 => ?_⟩
        · skip
          have t12 := ieq (a := r3.toInt) (b := 0) rfl rfl c11
          first
            | exfalso; omega
            | skip
              have t13 : (0 : Int32).toInt = 0 := rfl
              exact hk _ (by first | omega | assumption | exact AB.none (by omega) | exact AB.mono (by assumption) (by omega) (by omega) (by omega) (by omega))
        · skip
          have t14 := ine (a := r3.toInt) (b := 0) rfl rfl c11
          first
            | exfalso; omega
            | skip
              have t15 : (1 : Int32).toInt = 1 := rfl
              exact hk _ (by first | omega | assumption | exact AB.none (by omega) | exact AB.mono (by assumption) (by omega) (by omega) (by omega) (by omega))
set_option maxHeartbeats 1000000 in
set_option maxRecDepth 10000 in
theorem f_X8_sheet {p1 : Int32} {p2 : Int32} {p3 : Int32} {v_lanes : Nat → Int32} {v_rowSizes : Nat → Int32} {v_items : Nat → Int64} {post : Int32 → (Nat → Int32) → (Nat → Int32) → (Nat → Int64) → Prop} (hp0 : AB v_lanes 0 4 (-1) (-1)) (hk : ∀ (r : Int32) (v_lanes' : Nat → Int32) (v_rowSizes' : Nat → Int32) (v_items' : Nat → Int64), ((¬ (0 ≤ p1.toInt ∧ p1.toInt ≤ 3 ∧ 0 ≤ p2.toInt ∧ p2.toInt ≤ 3 ∧ p3.toInt ≤ 24) ∧ r.toInt = -1) ∨ ((0 ≤ p1.toInt ∧ p1.toInt ≤ 3 ∧ 0 ≤ p2.toInt ∧ p2.toInt ≤ 3 ∧ p3.toInt < 0) ∧ r.toInt = -14) ∨ ((0 ≤ p1.toInt ∧ p1.toInt ≤ 3 ∧ 0 ≤ p2.toInt ∧ p2.toInt ≤ 3 ∧ 0 ≤ p3.toInt ∧ p3.toInt ≤ 24) ∧ r.toInt = p3.toInt)) → post r v_lanes' v_rowSizes' v_items') : wp_X8_sheet p1 p2 p3 v_lanes v_rowSizes v_items post := by
  unfold wp_X8_sheet
  have tn60 : ((Int32.toNatClampNeg 60 : Nat) : Int) = 60 := rfl
  have tn61 : ((Int32.toNatClampNeg 61 : Nat) : Int) = 61 := rfl
  have tn62 : ((Int32.toNatClampNeg 62 : Nat) : Int) = 62 := rfl
  refine f_X8_isSheet  (fun r1 q1 => ?_)
  refine ⟨fun c2 => ?_, fun c2 => ?_⟩
  · skip
    have t3 := ieq (a := r1.toInt) (b := 0) rfl rfl c2
    first
      | exfalso; omega
      | skip
        have t4 : ((-1) : Int32).toInt = (-1) := rfl
        exact hk _ _ _ _ (by first | omega | assumption | exact AB.none (by omega) | exact AB.mono (by assumption) (by omega) (by omega) (by omega) (by omega))
  · skip
    have t5 := ine (a := r1.toInt) (b := 0) rfl rfl c2
    first
      | exfalso; omega
      | skip
        refine ⟨fun c6 => ?_, fun c6 => ?_⟩
        · skip
          have t7 := ile (a := p3.toInt) (b := 24) rfl rfl c6
          first
            | exfalso; omega
            | skip
              refine ⟨fun c8 => ?_, fun c8 => ?_⟩
              · skip
                have t9 := ile (a := 0) (b := p3.toInt) rfl rfl c8
                first
                  | exfalso; omega
                  | skip
                    refine ⟨ivp (a := p1.toInt) rfl (by omega) (by omega), ?_⟩
                    intro f5 ef5
                    have t10 : ((Int32.toNatClampNeg p1 : Nat) : Int) = p1.toInt := itn rfl (by omega)
                    have t11 : (f5 (Int32.toNatClampNeg p1)).toInt = p2.toInt := by rw [ef5, upd_eq] <;> rfl
                    try have q12 : AB f5 0 4 (-1) (-1) := by rw [ef5]; first | exact AB.updo (by assumption) (by omega) | exact AB.updv (by assumption) rfl (by omega) (by omega) | exact AB.none (by omega)
                    refine ⟨ivp (a := p1.toInt) rfl (by omega) (by omega), ?_⟩
                    intro f6 ef6
                    have t13 : ((Int32.toNatClampNeg p1 : Nat) : Int) = p1.toInt := itn rfl (by omega)
                    have t14 : (f6 (Int32.toNatClampNeg p1)).toInt = p3.toInt := by rw [ef6, upd_eq] <;> rfl
                    have t15 : ((0 : Int32)).toInt = 0 := rfl
                    refine ⟨fun n7 x4_7 v_items_7 => n7 = (24 - x4_7.toInt).toNat ∧ (0 ≤ x4_7.toInt), ⟨_, rfl, by first | omega | assumption | exact AB.none (by omega) | exact AB.mono (by assumption) (by omega) (by omega) (by omega) (by omega)⟩, ?_⟩
                    rintro n7 x4_7 v_items_7 ⟨hn7, q16⟩
                    refine ⟨fun c17 => ?_, fun c17 => ?_⟩
                    · skip
                      have t18 := ile (a := 24) (b := x4_7.toInt) rfl rfl c17
                      first
                        | exfalso; omega
                        | skip
                          exact hk _ _ _ _ (by first | omega | assumption | exact AB.none (by omega) | exact AB.mono (by assumption) (by omega) (by omega) (by omega) (by omega))
                    · skip
                      have t19 := inle (a := 24) (b := x4_7.toInt) rfl rfl c17
                      first
                        | exfalso; omega
                        | skip
                          try have t20 : (24 * p1).toInt = 24 * p1.toInt := im rfl rfl (by omega) (by omega)
                          try have t21 : ((24 * p1) + x4_7).toInt = (24 * p1).toInt + x4_7.toInt := ia rfl rfl (by omega) (by omega)
                          refine ⟨ivp (a := ((24 * p1) + x4_7).toInt) rfl (by omega) (by omega), ?_⟩
                          intro f9 ef9
                          try have t22 : (x4_7 + 1).toInt = x4_7.toInt + 1 := ia rfl rfl (by omega) (by omega)
                          intro z10 ez10
                          have t23 : z10.toInt = (x4_7 + 1).toInt := by rw [ez10] <;> rfl
                          refine ⟨_, ?_, rfl, by first | omega | assumption | exact AB.none (by omega) | exact AB.mono (by assumption) (by omega) (by omega) (by omega) (by omega)⟩
                          omega
              · skip
                have t24 := inle (a := 0) (b := p3.toInt) rfl rfl c8
                first
                  | exfalso; omega
                  | skip
                    have t25 : ((-14) : Int32).toInt = (-14) := rfl
                    exact hk _ _ _ _ (by first | omega | assumption | exact AB.none (by omega) | exact AB.mono (by assumption) (by omega) (by omega) (by omega) (by omega))
        · skip
          have t26 := inle (a := p3.toInt) (b := 24) rfl rfl c6
          first
            | exfalso; omega
            | skip
              have t27 : ((-1) : Int32).toInt = (-1) := rfl
              exact hk _ _ _ _ (by first | omega | assumption | exact AB.none (by omega) | exact AB.mono (by assumption) (by omega) (by omega) (by omega) (by omega))
set_option maxHeartbeats 1000000 in
set_option maxRecDepth 10000 in
theorem f_X8_drop {p1 : Int32} {v_lanes : Nat → Int32} {v_rowSizes : Nat → Int32} {post : Int32 → (Nat → Int32) → Prop} (hp0 : AB v_lanes 0 4 (-1) (-1)) (hk : ∀ (r : Int32) (v_lanes' : Nat → Int32), (((0 ≤ p1.toInt ∧ p1.toInt ≤ 3) ∧ r.toInt = -11) ∨ (¬ (0 ≤ p1.toInt ∧ p1.toInt ≤ 3) ∧ r.toInt = -1)) → post r v_lanes') : wp_X8_drop p1 v_lanes v_rowSizes post := by
  unfold wp_X8_drop
  have tn60 : ((Int32.toNatClampNeg 60 : Nat) : Int) = 60 := rfl
  have tn61 : ((Int32.toNatClampNeg 61 : Nat) : Int) = 61 := rfl
  have tn62 : ((Int32.toNatClampNeg 62 : Nat) : Int) = 62 := rfl
  have t1 : (Int32.toInt64 p1).toInt = p1.toInt := i2l rfl
  have t2 : (0 : Int64).toInt = 0 := rfl
  have t3 : (3 : Int64).toInt = 3 := rfl
  refine f_X8_in  (fun r1 q4 => ?_)
  refine ⟨fun c5 => ?_, fun c5 => ?_⟩
  · skip
    have t6 := ine (a := r1.toInt) (b := 0) rfl rfl c5
    first
      | exfalso; omega
      | skip
        refine ⟨ivp (a := p1.toInt) rfl (by omega) (by omega), ?_⟩
        try have q7 := AB.get (f := v_lanes) (i := p1) (a := p1.toInt) (by assumption) rfl (by omega) (by omega) (by omega)
        refine ⟨fun c8 => ?_, fun c8 => ?_⟩
        · skip
          have t9 := ile (a := 0) (b := (v_lanes (Int32.toNatClampNeg p1)).toInt) rfl rfl c8
          first
            | exfalso; omega
            | skip
              refine ⟨ivp (a := p1.toInt) rfl (by omega) (by omega), ?_⟩
              intro f4 ef4
              have t10 : ((Int32.toNatClampNeg p1 : Nat) : Int) = p1.toInt := itn rfl (by omega)
              have t11 : (f4 (Int32.toNatClampNeg p1)).toInt = (-1) := by rw [ef4, upd_eq] <;> rfl
              try have q12 : AB f4 0 4 (-1) (-1) := by rw [ef4]; first | exact AB.updo (by assumption) (by omega) | exact AB.updv (by assumption) rfl (by omega) (by omega) | exact AB.none (by omega)
              refine ⟨ivp (a := p1.toInt) rfl (by omega) (by omega), ?_⟩
              exact hk _ _ (by first | omega | assumption | exact AB.none (by omega) | exact AB.mono (by assumption) (by omega) (by omega) (by omega) (by omega))
        · skip
          have t13 := inle (a := 0) (b := (v_lanes (Int32.toNatClampNeg p1)).toInt) rfl rfl c8
          first
            | exfalso; omega
            | skip
              have t14 : ((-11) : Int32).toInt = (-11) := rfl
              exact hk _ _ (by first | omega | assumption | exact AB.none (by omega) | exact AB.mono (by assumption) (by omega) (by omega) (by omega) (by omega))
  · skip
    have t15 := ieq (a := r1.toInt) (b := 0) rfl rfl c5
    first
      | exfalso; omega
      | skip
        have t16 : ((-1) : Int32).toInt = (-1) := rfl
        exact hk _ _ (by first | omega | assumption | exact AB.none (by omega) | exact AB.mono (by assumption) (by omega) (by omega) (by omega) (by omega))
set_option maxHeartbeats 1000000 in
set_option maxRecDepth 10000 in
theorem f_X8_lacksRow {p1 : Int32} {p2 : Int32} {p3 : Int32} {p4 : Int32} {v_lanes : Nat → Int32} {v_rowSizes : Nat → Int32} {post : Int32 → Prop} (hp0 : AB v_lanes 0 4 (-1) (-1)) (hp1 : 0 ≤ p1.toInt) (hp2 : p1.toInt ≤ 3) (hp3 : 0 ≤ p2.toInt) (hk : ∀ (r : Int32), (r.toInt = -11) → post r) : wp_X8_lacksRow p1 p2 p3 p4 v_lanes v_rowSizes post := by
  unfold wp_X8_lacksRow
  have tn60 : ((Int32.toNatClampNeg 60 : Nat) : Int) = 60 := rfl
  have tn61 : ((Int32.toNatClampNeg 61 : Nat) : Int) = 61 := rfl
  have tn62 : ((Int32.toNatClampNeg 62 : Nat) : Int) = 62 := rfl
  refine ⟨ivp (a := p1.toInt) rfl (by omega) (by omega), ?_⟩
  try have q1 := AB.get (f := v_lanes) (i := p1) (a := p1.toInt) (by assumption) rfl (by omega) (by omega) (by omega)
  refine ⟨fun c2 => ?_, fun c2 => ?_⟩
  · skip
    have t3 := ieq (a := (v_lanes (Int32.toNatClampNeg p1)).toInt) (b := p2.toInt) rfl rfl c2
    first
      | exfalso; omega
      | skip
        refine ⟨ivp (a := p1.toInt) rfl (by omega) (by omega), ?_⟩
        have t4 : (Int32.toInt64 p3).toInt = p3.toInt := i2l rfl
        have t5 : (0 : Int64).toInt = 0 := rfl
        try have t6 : ((v_rowSizes (Int32.toNatClampNeg p1)) - p4).toInt = (v_rowSizes (Int32.toNatClampNeg p1)).toInt - p4.toInt := isb rfl rfl (by omega) (by omega)
        have t7 : (Int32.toInt64 ((v_rowSizes (Int32.toNatClampNeg p1)) - p4)).toInt = ((v_rowSizes (Int32.toNatClampNeg p1)) - p4).toInt := i2l rfl
        refine f_X8_in  (fun r2 q8 => ?_)
        refine ⟨fun c9 => ?_, fun c9 => ?_⟩
        · skip
          have t10 := ieq (a := r2.toInt) (b := 0) rfl rfl c9
          first
            | exfalso; omega
            | skip
              have t11 : ((-13) : Int32).toInt = (-13) := rfl
              exact hk _ (by first | omega | assumption | exact AB.none (by omega) | exact AB.mono (by assumption) (by omega) (by omega) (by omega) (by omega))
        · skip
          have t12 := ine (a := r2.toInt) (b := 0) rfl rfl c9
          first
            | exfalso; omega
            | skip
              have t13 : (0 : Int32).toInt = 0 := rfl
              exact hk _ (by first | omega | assumption | exact AB.none (by omega) | exact AB.mono (by assumption) (by omega) (by omega) (by omega) (by omega))
  · skip
    have t14 := ine (a := (v_lanes (Int32.toNatClampNeg p1)).toInt) (b := p2.toInt) rfl rfl c2
    first
      | exfalso; omega
      | skip
        refine ⟨ivp (a := p1.toInt) rfl (by omega) (by omega), ?_⟩
        try have q15 := AB.get (f := v_lanes) (i := p1) (a := p1.toInt) (by assumption) rfl (by omega) (by omega) (by omega)
        refine ⟨fun c16 => ?_, fun c16 => ?_⟩
        · skip
          have t17 := ile (a := 0) (b := (v_lanes (Int32.toNatClampNeg p1)).toInt) rfl rfl c16
          first
            | exfalso; omega
            | skip
              have t18 : ((-12) : Int32).toInt = (-12) := rfl
              exact hk _ (by first | omega | assumption | exact AB.none (by omega) | exact AB.mono (by assumption) (by omega) (by omega) (by omega) (by omega))
        · skip
          have t19 := inle (a := 0) (b := (v_lanes (Int32.toNatClampNeg p1)).toInt) rfl rfl c16
          first
            | exfalso; omega
            | skip
              have t20 : ((-11) : Int32).toInt = (-11) := rfl
              exact hk _ (by first | omega | assumption | exact AB.none (by omega) | exact AB.mono (by assumption) (by omega) (by omega) (by omega) (by omega))
set_option maxHeartbeats 1000000 in
set_option maxRecDepth 10000 in
theorem f_X8_item {p1 : Int32} {p2 : Int32} {p3 : Int32} {p4 : Int64} {v_lanes : Nat → Int32} {v_rowSizes : Nat → Int32} {v_items : Nat → Int64} {post : Int32 → (Nat → Int64) → Prop} (hp0 : AB v_lanes 0 4 (-1) (-1)) (hk : ∀ (r : Int32) (v_items' : Nat → Int64), (((0 ≤ p1.toInt ∧ p1.toInt ≤ 3 ∧ 0 ≤ p2.toInt ∧ p2.toInt ≤ 3) ∧ r.toInt = -11) ∨ (¬ (0 ≤ p1.toInt ∧ p1.toInt ≤ 3 ∧ 0 ≤ p2.toInt ∧ p2.toInt ≤ 3) ∧ r.toInt = -1)) → post r v_items') : wp_X8_item p1 p2 p3 p4 v_lanes v_rowSizes v_items post := by
  unfold wp_X8_item
  have tn60 : ((Int32.toNatClampNeg 60 : Nat) : Int) = 60 := rfl
  have tn61 : ((Int32.toNatClampNeg 61 : Nat) : Int) = 61 := rfl
  have tn62 : ((Int32.toNatClampNeg 62 : Nat) : Int) = 62 := rfl
  refine f_X8_isSheet  (fun r1 q1 => ?_)
  refine ⟨fun c2 => ?_, fun c2 => ?_⟩
  · skip
    have t3 := ine (a := r1.toInt) (b := 0) rfl rfl c2
    first
      | exfalso; omega
      | skip
        have t4 : (1 : Int32).toInt = 1 := rfl
        refine f_X8_lacksRow (by first | omega | assumption | exact AB.none (by omega) | exact AB.mono (by assumption) (by omega) (by omega) (by omega) (by omega)) (by first | omega | assumption | exact AB.none (by omega) | exact AB.mono (by assumption) (by omega) (by omega) (by omega) (by omega)) (by first | omega | assumption | exact AB.none (by omega) | exact AB.mono (by assumption) (by omega) (by omega) (by omega) (by omega)) (by first | omega | assumption | exact AB.none (by omega) | exact AB.mono (by assumption) (by omega) (by omega) (by omega) (by omega)) (fun r3 q5 => ?_)
        refine ⟨fun c6 => ?_, fun c6 => ?_⟩
        · skip
          have t7 := ile (a := 0) (b := r3.toInt) rfl rfl c6
          exfalso; omega
        · skip
          have t8 := inle (a := 0) (b := r3.toInt) rfl rfl c6
          first
            | exfalso; omega
            | skip
              exact hk _ _ (by first | omega | assumption | exact AB.none (by omega) | exact AB.mono (by assumption) (by omega) (by omega) (by omega) (by omega))
  · skip
    have t9 := ieq (a := r1.toInt) (b := 0) rfl rfl c2
    first
      | exfalso; omega
      | skip
        have t10 : ((-1) : Int32).toInt = (-1) := rfl
        exact hk _ _ (by first | omega | assumption | exact AB.none (by omega) | exact AB.mono (by assumption) (by omega) (by omega) (by omega) (by omega))
set_option maxHeartbeats 1000000 in
set_option maxRecDepth 10000 in
theorem f_X8_dress {p1 : Int32} {p2 : Int32} {p3 : Int32} {p4 : Int32} {v_st : Nat → Int32} {v_windows : Int32} {v_lanes : Nat → Int32} {v_rowSizes : Nat → Int32} {v_items : Nat → Int64} {post : Int32 → (Nat → Int32) → Prop} (hp0 : v_windows.toInt = 8) (hp1 : AB v_lanes 0 4 (-1) (-1)) (hp2 : AB v_st 0 24 12 12) (hp3 : 0 ≤ (v_st (Int32.toNatClampNeg 60)).toInt) (hp4 : (v_st (Int32.toNatClampNeg 60)).toInt ≤ 1000) (hp5 : (v_st (Int32.toNatClampNeg 61)).toInt = 0) (hp6 : (v_st (Int32.toNatClampNeg 62)).toInt = 0) (hp7 : (v_st (Int32.toNatClampNeg 60)).toInt = 0) (hk : ∀ (r : Int32) (v_st' : Nat → Int32), (((0 ≤ p1.toInt ∧ p1.toInt ≤ 3 ∧ 0 ≤ p2.toInt ∧ p2.toInt ≤ 3 ∧ 1 ≤ p4.toInt ∧ p4.toInt ≤ 8) ∧ r.toInt = -11) ∨ (¬ (0 ≤ p1.toInt ∧ p1.toInt ≤ 3 ∧ 0 ≤ p2.toInt ∧ p2.toInt ≤ 3 ∧ 1 ≤ p4.toInt ∧ p4.toInt ≤ 8) ∧ r.toInt = -1)) → post r v_st') : wp_X8_dress p1 p2 p3 p4 v_st v_windows v_lanes v_rowSizes v_items post := by
  unfold wp_X8_dress
  have tn60 : ((Int32.toNatClampNeg 60 : Nat) : Int) = 60 := rfl
  have tn61 : ((Int32.toNatClampNeg 61 : Nat) : Int) = 61 := rfl
  have tn62 : ((Int32.toNatClampNeg 62 : Nat) : Int) = 62 := rfl
  refine f_X8_isSheet  (fun r1 q1 => ?_)
  refine ⟨fun c2 => ?_, fun c2 => ?_⟩
  · skip
    have t3 := ieq (a := r1.toInt) (b := 0) rfl rfl c2
    first
      | exfalso; omega
      | skip
        have t4 : ((-1) : Int32).toInt = (-1) := rfl
        exact hk _ _ (by first | omega | assumption | exact AB.none (by omega) | exact AB.mono (by assumption) (by omega) (by omega) (by omega) (by omega))
  · skip
    have t5 := ine (a := r1.toInt) (b := 0) rfl rfl c2
    first
      | exfalso; omega
      | skip
        have t6 : (Int32.toInt64 p4).toInt = p4.toInt := i2l rfl
        have t7 : (1 : Int64).toInt = 1 := rfl
        have t8 : (Int32.toInt64 v_windows).toInt = v_windows.toInt := i2l rfl
        refine f_X8_in  (fun r3 q9 => ?_)
        refine ⟨fun c10 => ?_, fun c10 => ?_⟩
        · skip
          have t11 := ine (a := r3.toInt) (b := 0) rfl rfl c10
          first
            | exfalso; omega
            | skip
              refine f_X8_lacksRow (by first | omega | assumption | exact AB.none (by omega) | exact AB.mono (by assumption) (by omega) (by omega) (by omega) (by omega)) (by first | omega | assumption | exact AB.none (by omega) | exact AB.mono (by assumption) (by omega) (by omega) (by omega) (by omega)) (by first | omega | assumption | exact AB.none (by omega) | exact AB.mono (by assumption) (by omega) (by omega) (by omega) (by omega)) (by first | omega | assumption | exact AB.none (by omega) | exact AB.mono (by assumption) (by omega) (by omega) (by omega) (by omega)) (fun r5 q12 => ?_)
              have t13 : ((0 : Int32)).toInt = 0 := rfl
              refine ⟨fun n6 x5_6 x6_6 => n6 = ((0 : Int)).toNat ∧ (x5_6.toInt = r5.toInt) ∧ (x6_6.toInt = 0), ⟨_, rfl, by first | omega | assumption | exact AB.none (by omega) | exact AB.mono (by assumption) (by omega) (by omega) (by omega) (by omega), by first | omega | assumption | exact AB.none (by omega) | exact AB.mono (by assumption) (by omega) (by omega) (by omega) (by omega)⟩, ?_⟩
              rintro n6 x5_6 x6_6 ⟨hn6, q14, q15⟩
              refine ⟨((0 ≤ x5_6 → (∃ I9 : Nat → (Int32) → (Nat → Int32) → Prop, (∃ n9, I9 n9 0 v_st) ∧ ∀ (n9 : Nat) (x6_9 : Int32) (v_st_9 : Nat → Int32), I9 n9 x6_9 v_st_9 →
 ((p4 ≤ x6_9 → (post p4 v_st_9)) ∧
 (¬ p4 ≤ x6_9 → (vp_in (((24 * p1) + p3) + x6_9) 96 ∧ (∀ z11 : Int32, z11 = (Int64.toInt32 (v_items (Int32.toNatClampNeg (((24 * p1) + p3) + x6_9)))) → (vp_in x6_9 63 ∧ ∀ f12 : Nat → Int32, f12 = (upd v_st_9 (Int32.toNatClampNeg x6_9) z11) → (∀ z13 : Int32, z13 = x6_9 + 1 → (∃ m9, m9 < n9 ∧ I9 m9 z13 f12))))))))) ∧
 (¬ 0 ≤ x5_6 → (post x5_6 v_st))), fun h => h, ?_⟩
              refine ⟨fun c16 => ?_, fun c16 => ?_⟩
              · skip
                have t17 := ile (a := p4.toInt) (b := x6_6.toInt) rfl rfl c16
                first
                  | exfalso; omega
                  | skip
                    show ((0 ≤ x5_6 → (∃ I9 : Nat → (Int32) → (Nat → Int32) → Prop, (∃ n9, I9 n9 0 v_st) ∧ ∀ (n9 : Nat) (x6_9 : Int32) (v_st_9 : Nat → Int32), I9 n9 x6_9 v_st_9 →
 ((p4 ≤ x6_9 → (post p4 v_st_9)) ∧
 (¬ p4 ≤ x6_9 → (vp_in (((24 * p1) + p3) + x6_9) 96 ∧ (∀ z11 : Int32, z11 = (Int64.toInt32 (v_items (Int32.toNatClampNeg (((24 * p1) + p3) + x6_9)))) → (vp_in x6_9 63 ∧ ∀ f12 : Nat → Int32, f12 = (upd v_st_9 (Int32.toNatClampNeg x6_9) z11) → (∀ z13 : Int32, z13 = x6_9 + 1 → (∃ m9, m9 < n9 ∧ I9 m9 z13 f12))))))))) ∧
 (¬ 0 ≤ x5_6 → (post x5_6 v_st)))
                    refine ⟨fun c18 => ?_, fun c18 => ?_⟩
                    · skip
                      have t19 := ile (a := 0) (b := x5_6.toInt) rfl rfl c18
                      first
                        | exfalso; omega
                        | skip
                          have t20 : ((0 : Int32)).toInt = 0 := rfl
                          refine ⟨fun n9 x6_9 v_st_9 => n9 = ((0 : Int)).toNat ∧ (AB v_st_9 0 24 12 12) ∧ (0 ≤ (v_st_9 (Int32.toNatClampNeg 60)).toInt) ∧ ((v_st_9 (Int32.toNatClampNeg 60)).toInt ≤ 1000) ∧ ((v_st_9 (Int32.toNatClampNeg 61)).toInt = 0) ∧ ((v_st_9 (Int32.toNatClampNeg 62)).toInt = 0) ∧ (x6_9.toInt = 0) ∧ ((v_st_9 (Int32.toNatClampNeg 60)).toInt = (v_st (Int32.toNatClampNeg 60)).toInt) ∧ ((v_st_9 (Int32.toNatClampNeg 61)).toInt = (v_st (Int32.toNatClampNeg 61)).toInt) ∧ ((v_st_9 (Int32.toNatClampNeg 62)).toInt = (v_st (Int32.toNatClampNeg 62)).toInt) ∧ (0 ≤ x6_9.toInt), ⟨_, rfl, by first | omega | assumption | exact AB.none (by omega) | exact AB.mono (by assumption) (by omega) (by omega) (by omega) (by omega), by first | omega | assumption | exact AB.none (by omega) | exact AB.mono (by assumption) (by omega) (by omega) (by omega) (by omega), by first | omega | assumption | exact AB.none (by omega) | exact AB.mono (by assumption) (by omega) (by omega) (by omega) (by omega), by first | omega | assumption | exact AB.none (by omega) | exact AB.mono (by assumption) (by omega) (by omega) (by omega) (by omega), by first | omega | assumption | exact AB.none (by omega) | exact AB.mono (by assumption) (by omega) (by omega) (by omega) (by omega), by first | omega | assumption | exact AB.none (by omega) | exact AB.mono (by assumption) (by omega) (by omega) (by omega) (by omega), by first | omega | assumption | exact AB.none (by omega) | exact AB.mono (by assumption) (by omega) (by omega) (by omega) (by omega), by first | omega | assumption | exact AB.none (by omega) | exact AB.mono (by assumption) (by omega) (by omega) (by omega) (by omega), by first | omega | assumption | exact AB.none (by omega) | exact AB.mono (by assumption) (by omega) (by omega) (by omega) (by omega), by first | omega | assumption | exact AB.none (by omega) | exact AB.mono (by assumption) (by omega) (by omega) (by omega) (by omega)⟩, ?_⟩
                          rintro n9 x6_9 v_st_9 ⟨hn9, q21, q22, q23, q24, q25, q26, q27, q28, q29, q30⟩
                          refine ⟨fun c31 => ?_, fun c31 => ?_⟩
                          · skip
                            have t32 := ile (a := p4.toInt) (b := x6_9.toInt) rfl rfl c31
                            first
                              | exfalso; omega
                              | skip
                                exact hk _ _ (by first | omega | assumption | exact AB.none (by omega) | exact AB.mono (by assumption) (by omega) (by omega) (by omega) (by omega))
                          · skip
                            have t33 := inle (a := p4.toInt) (b := x6_9.toInt) rfl rfl c31
                            first
                              | exfalso; omega
                              | skip
                                try have t34 : (24 * p1).toInt = 24 * p1.toInt := im rfl rfl (by omega) (by omega)
                                try have t35 : ((24 * p1) + p3).toInt = (24 * p1).toInt + p3.toInt := ia rfl rfl (by omega) (by omega)
                                try have t36 : (((24 * p1) + p3) + x6_9).toInt = ((24 * p1) + p3).toInt + x6_9.toInt := ia rfl rfl (by omega) (by omega)
                                refine ⟨ivp (a := (((24 * p1) + p3) + x6_9).toInt) rfl (by omega) (by omega), ?_⟩
                                intro z11 ez11
                                have t37 : z11.toInt = (Int64.toInt32 (v_items (Int32.toNatClampNeg (((24 * p1) + p3) + x6_9)))).toInt := by rw [ez11] <;> rfl
                                refine ⟨ivp (a := x6_9.toInt) rfl (by omega) (by omega), ?_⟩
                                intro f12 ef12
                                have t38 : ((Int32.toNatClampNeg x6_9 : Nat) : Int) = x6_9.toInt := itn rfl (by omega)
                                have t39 : (f12 (Int32.toNatClampNeg x6_9)).toInt = z11.toInt := by rw [ef12, upd_eq] <;> rfl
                                try have t40 : (f12 (Int32.toNatClampNeg 60)).toInt = (v_st_9 (Int32.toNatClampNeg 60)).toInt := by rw [ef12, upd_ne (by omega)]
                                try have t41 : (f12 (Int32.toNatClampNeg 61)).toInt = (v_st_9 (Int32.toNatClampNeg 61)).toInt := by rw [ef12, upd_ne (by omega)]
                                try have t42 : (f12 (Int32.toNatClampNeg 62)).toInt = (v_st_9 (Int32.toNatClampNeg 62)).toInt := by rw [ef12, upd_ne (by omega)]
                                try have q43 : AB f12 0 24 12 12 := by rw [ef12]; first | exact AB.updo (by assumption) (by omega) | exact AB.updv (by assumption) rfl (by omega) (by omega) | exact AB.none (by omega)
                                try have t44 : (x6_9 + 1).toInt = x6_9.toInt + 1 := ia rfl rfl (by omega) (by omega)
                                intro z13 ez13
                                have t45 : z13.toInt = (x6_9 + 1).toInt := by rw [ez13] <;> rfl
                                refine ⟨_, ?_, rfl, by first | omega | assumption | exact AB.none (by omega) | exact AB.mono (by assumption) (by omega) (by omega) (by omega) (by omega), by first | omega | assumption | exact AB.none (by omega) | exact AB.mono (by assumption) (by omega) (by omega) (by omega) (by omega), by first | omega | assumption | exact AB.none (by omega) | exact AB.mono (by assumption) (by omega) (by omega) (by omega) (by omega), by first | omega | assumption | exact AB.none (by omega) | exact AB.mono (by assumption) (by omega) (by omega) (by omega) (by omega), by first | omega | assumption | exact AB.none (by omega) | exact AB.mono (by assumption) (by omega) (by omega) (by omega) (by omega), by first | omega | assumption | exact AB.none (by omega) | exact AB.mono (by assumption) (by omega) (by omega) (by omega) (by omega), by first | omega | assumption | exact AB.none (by omega) | exact AB.mono (by assumption) (by omega) (by omega) (by omega) (by omega), by first | omega | assumption | exact AB.none (by omega) | exact AB.mono (by assumption) (by omega) (by omega) (by omega) (by omega), by first | omega | assumption | exact AB.none (by omega) | exact AB.mono (by assumption) (by omega) (by omega) (by omega) (by omega), by first | omega | assumption | exact AB.none (by omega) | exact AB.mono (by assumption) (by omega) (by omega) (by omega) (by omega)⟩
                                omega
                    · skip
                      have t46 := inle (a := 0) (b := x5_6.toInt) rfl rfl c18
                      first
                        | exfalso; omega
                        | skip
                          exact hk _ _ (by first | omega | assumption | exact AB.none (by omega) | exact AB.mono (by assumption) (by omega) (by omega) (by omega) (by omega))
              · skip
                have t47 := inle (a := p4.toInt) (b := x6_6.toInt) rfl rfl c16
                first
                  | exfalso; omega
                  | skip
                    refine ⟨fun c48 => ?_, fun c48 => ?_⟩
                    · skip
                      have t49 := ine (a := x5_6.toInt) (b := 0) rfl rfl c48
                      first
                        | exfalso; omega
                        | skip
                          show ((0 ≤ x5_6 → (∃ I9 : Nat → (Int32) → (Nat → Int32) → Prop, (∃ n9, I9 n9 0 v_st) ∧ ∀ (n9 : Nat) (x6_9 : Int32) (v_st_9 : Nat → Int32), I9 n9 x6_9 v_st_9 →
 ((p4 ≤ x6_9 → (post p4 v_st_9)) ∧
 (¬ p4 ≤ x6_9 → (vp_in (((24 * p1) + p3) + x6_9) 96 ∧ (∀ z11 : Int32, z11 = (Int64.toInt32 (v_items (Int32.toNatClampNeg (((24 * p1) + p3) + x6_9)))) → (vp_in x6_9 63 ∧ ∀ f12 : Nat → Int32, f12 = (upd v_st_9 (Int32.toNatClampNeg x6_9) z11) → (∀ z13 : Int32, z13 = x6_9 + 1 → (∃ m9, m9 < n9 ∧ I9 m9 z13 f12))))))))) ∧
 (¬ 0 ≤ x5_6 → (post x5_6 v_st)))
                          refine ⟨fun c50 => ?_, fun c50 => ?_⟩
                          · skip
                            have t51 := ile (a := 0) (b := x5_6.toInt) rfl rfl c50
                            first
                              | exfalso; omega
                              | skip
                                have t52 : ((0 : Int32)).toInt = 0 := rfl
                                refine ⟨fun n9 x6_9 v_st_9 => n9 = ((0 : Int)).toNat ∧ (AB v_st_9 0 24 12 12) ∧ (0 ≤ (v_st_9 (Int32.toNatClampNeg 60)).toInt) ∧ ((v_st_9 (Int32.toNatClampNeg 60)).toInt ≤ 1000) ∧ ((v_st_9 (Int32.toNatClampNeg 61)).toInt = 0) ∧ ((v_st_9 (Int32.toNatClampNeg 62)).toInt = 0) ∧ (x6_9.toInt = 0) ∧ ((v_st_9 (Int32.toNatClampNeg 60)).toInt = (v_st (Int32.toNatClampNeg 60)).toInt) ∧ ((v_st_9 (Int32.toNatClampNeg 61)).toInt = (v_st (Int32.toNatClampNeg 61)).toInt) ∧ ((v_st_9 (Int32.toNatClampNeg 62)).toInt = (v_st (Int32.toNatClampNeg 62)).toInt) ∧ (0 ≤ x6_9.toInt), ⟨_, rfl, by first | omega | assumption | exact AB.none (by omega) | exact AB.mono (by assumption) (by omega) (by omega) (by omega) (by omega), by first | omega | assumption | exact AB.none (by omega) | exact AB.mono (by assumption) (by omega) (by omega) (by omega) (by omega), by first | omega | assumption | exact AB.none (by omega) | exact AB.mono (by assumption) (by omega) (by omega) (by omega) (by omega), by first | omega | assumption | exact AB.none (by omega) | exact AB.mono (by assumption) (by omega) (by omega) (by omega) (by omega), by first | omega | assumption | exact AB.none (by omega) | exact AB.mono (by assumption) (by omega) (by omega) (by omega) (by omega), by first | omega | assumption | exact AB.none (by omega) | exact AB.mono (by assumption) (by omega) (by omega) (by omega) (by omega), by first | omega | assumption | exact AB.none (by omega) | exact AB.mono (by assumption) (by omega) (by omega) (by omega) (by omega), by first | omega | assumption | exact AB.none (by omega) | exact AB.mono (by assumption) (by omega) (by omega) (by omega) (by omega), by first | omega | assumption | exact AB.none (by omega) | exact AB.mono (by assumption) (by omega) (by omega) (by omega) (by omega), by first | omega | assumption | exact AB.none (by omega) | exact AB.mono (by assumption) (by omega) (by omega) (by omega) (by omega)⟩, ?_⟩
                                rintro n9 x6_9 v_st_9 ⟨hn9, q53, q54, q55, q56, q57, q58, q59, q60, q61, q62⟩
                                refine ⟨fun c63 => ?_, fun c63 => ?_⟩
                                · skip
                                  have t64 := ile (a := p4.toInt) (b := x6_9.toInt) rfl rfl c63
                                  first
                                    | exfalso; omega
                                    | skip
                                      exact hk _ _ (by first | omega | assumption | exact AB.none (by omega) | exact AB.mono (by assumption) (by omega) (by omega) (by omega) (by omega))
                                · skip
                                  have t65 := inle (a := p4.toInt) (b := x6_9.toInt) rfl rfl c63
                                  first
                                    | exfalso; omega
                                    | skip
                                      try have t66 : (24 * p1).toInt = 24 * p1.toInt := im rfl rfl (by omega) (by omega)
                                      try have t67 : ((24 * p1) + p3).toInt = (24 * p1).toInt + p3.toInt := ia rfl rfl (by omega) (by omega)
                                      try have t68 : (((24 * p1) + p3) + x6_9).toInt = ((24 * p1) + p3).toInt + x6_9.toInt := ia rfl rfl (by omega) (by omega)
                                      refine ⟨ivp (a := (((24 * p1) + p3) + x6_9).toInt) rfl (by omega) (by omega), ?_⟩
                                      intro z11 ez11
                                      have t69 : z11.toInt = (Int64.toInt32 (v_items (Int32.toNatClampNeg (((24 * p1) + p3) + x6_9)))).toInt := by rw [ez11] <;> rfl
                                      refine ⟨ivp (a := x6_9.toInt) rfl (by omega) (by omega), ?_⟩
                                      intro f12 ef12
                                      have t70 : ((Int32.toNatClampNeg x6_9 : Nat) : Int) = x6_9.toInt := itn rfl (by omega)
                                      have t71 : (f12 (Int32.toNatClampNeg x6_9)).toInt = z11.toInt := by rw [ef12, upd_eq] <;> rfl
                                      try have t72 : (f12 (Int32.toNatClampNeg 60)).toInt = (v_st_9 (Int32.toNatClampNeg 60)).toInt := by rw [ef12, upd_ne (by omega)]
                                      try have t73 : (f12 (Int32.toNatClampNeg 61)).toInt = (v_st_9 (Int32.toNatClampNeg 61)).toInt := by rw [ef12, upd_ne (by omega)]
                                      try have t74 : (f12 (Int32.toNatClampNeg 62)).toInt = (v_st_9 (Int32.toNatClampNeg 62)).toInt := by rw [ef12, upd_ne (by omega)]
                                      try have q75 : AB f12 0 24 12 12 := by rw [ef12]; first | exact AB.updo (by assumption) (by omega) | exact AB.updv (by assumption) rfl (by omega) (by omega) | exact AB.none (by omega)
                                      try have t76 : (x6_9 + 1).toInt = x6_9.toInt + 1 := ia rfl rfl (by omega) (by omega)
                                      intro z13 ez13
                                      have t77 : z13.toInt = (x6_9 + 1).toInt := by rw [ez13] <;> rfl
                                      refine ⟨_, ?_, rfl, by first | omega | assumption | exact AB.none (by omega) | exact AB.mono (by assumption) (by omega) (by omega) (by omega) (by omega), by first | omega | assumption | exact AB.none (by omega) | exact AB.mono (by assumption) (by omega) (by omega) (by omega) (by omega), by first | omega | assumption | exact AB.none (by omega) | exact AB.mono (by assumption) (by omega) (by omega) (by omega) (by omega), by first | omega | assumption | exact AB.none (by omega) | exact AB.mono (by assumption) (by omega) (by omega) (by omega) (by omega), by first | omega | assumption | exact AB.none (by omega) | exact AB.mono (by assumption) (by omega) (by omega) (by omega) (by omega), by first | omega | assumption | exact AB.none (by omega) | exact AB.mono (by assumption) (by omega) (by omega) (by omega) (by omega), by first | omega | assumption | exact AB.none (by omega) | exact AB.mono (by assumption) (by omega) (by omega) (by omega) (by omega), by first | omega | assumption | exact AB.none (by omega) | exact AB.mono (by assumption) (by omega) (by omega) (by omega) (by omega), by first | omega | assumption | exact AB.none (by omega) | exact AB.mono (by assumption) (by omega) (by omega) (by omega) (by omega), by first | omega | assumption | exact AB.none (by omega) | exact AB.mono (by assumption) (by omega) (by omega) (by omega) (by omega)⟩
                                      omega
                          · skip
                            have t78 := inle (a := 0) (b := x5_6.toInt) rfl rfl c50
                            first
                              | exfalso; omega
                              | skip
                                exact hk _ _ (by first | omega | assumption | exact AB.none (by omega) | exact AB.mono (by assumption) (by omega) (by omega) (by omega) (by omega))
                    · skip
                      have t79 := ieq (a := x5_6.toInt) (b := 0) rfl rfl c48
                      first
                        | exfalso; omega
                        | skip
                          try have t80 : (24 * p1).toInt = 24 * p1.toInt := im rfl rfl (by omega) (by omega)
                          try have t81 : ((24 * p1) + p3).toInt = (24 * p1).toInt + p3.toInt := ia rfl rfl (by omega) (by omega)
                          try have t82 : (((24 * p1) + p3) + x6_6).toInt = ((24 * p1) + p3).toInt + x6_6.toInt := ia rfl rfl (by omega) (by omega)
                          refine ⟨ivp (a := (((24 * p1) + p3) + x6_6).toInt) rfl (by omega) (by omega), ?_⟩
                          have t83 : (0 : Int64).toInt = 0 := rfl
                          have t84 : (12 : Int64).toInt = 12 := rfl
                          refine f_X8_in  (fun r16 q85 => ?_)
                          refine ⟨fun c86 => ?_, fun c86 => ?_⟩
                          · skip
                            have t87 := ieq (a := r16.toInt) (b := 0) rfl rfl c86
                            first
                              | exfalso; omega
                              | skip
                                try have t88 : (x6_6 + 1).toInt = x6_6.toInt + 1 := ia rfl rfl (by omega) (by omega)
                                intro z18 ez18
                                have t89 : z18.toInt = (x6_6 + 1).toInt := by rw [ez18] <;> rfl
                                refine ⟨_, ?_, rfl, by first | omega | assumption | exact AB.none (by omega) | exact AB.mono (by assumption) (by omega) (by omega) (by omega) (by omega), by first | omega | assumption | exact AB.none (by omega) | exact AB.mono (by assumption) (by omega) (by omega) (by omega) (by omega)⟩
                                omega
                          · skip
                            have t90 := ine (a := r16.toInt) (b := 0) rfl rfl c86
                            first
                              | exfalso; omega
                              | skip
                                try have t91 : (x6_6 + 1).toInt = x6_6.toInt + 1 := ia rfl rfl (by omega) (by omega)
                                intro z19 ez19
                                have t92 : z19.toInt = (x6_6 + 1).toInt := by rw [ez19] <;> rfl
                                refine ⟨_, ?_, rfl, by first | omega | assumption | exact AB.none (by omega) | exact AB.mono (by assumption) (by omega) (by omega) (by omega) (by omega), by first | omega | assumption | exact AB.none (by omega) | exact AB.mono (by assumption) (by omega) (by omega) (by omega) (by omega)⟩
                                omega
        · skip
          have t93 := ieq (a := r3.toInt) (b := 0) rfl rfl c10
          first
            | exfalso; omega
            | skip
              have t94 : ((-1) : Int32).toInt = (-1) := rfl
              exact hk _ _ (by first | omega | assumption | exact AB.none (by omega) | exact AB.mono (by assumption) (by omega) (by omega) (by omega) (by omega))
set_option maxHeartbeats 1000000 in
set_option maxRecDepth 10000 in
theorem f_X8_film {p1 : Int32} {p2 : Int32} {p3 : Int32} {v_st : Nat → Int32} {v_clocks : Int32} {v_lanes : Nat → Int32} {v_rowSizes : Nat → Int32} {v_items : Nat → Int64} {post : Int32 → (Nat → Int64) → Prop} (hp0 : v_clocks.toInt = 0) (hp1 : AB v_lanes 0 4 (-1) (-1)) (hp2 : AB v_st 0 24 12 12) (hp3 : 0 ≤ (v_st (Int32.toNatClampNeg 60)).toInt) (hp4 : (v_st (Int32.toNatClampNeg 60)).toInt ≤ 1000) (hp5 : (v_st (Int32.toNatClampNeg 61)).toInt = 0) (hp6 : (v_st (Int32.toNatClampNeg 62)).toInt = 0) (hp7 : (v_st (Int32.toNatClampNeg 60)).toInt = 0) (hk : ∀ (r : Int32) (v_items' : Nat → Int64), (((0 ≤ p1.toInt ∧ p1.toInt ≤ 3 ∧ 0 ≤ p2.toInt ∧ p2.toInt ≤ 3) ∧ r.toInt = -11) ∨ (¬ (0 ≤ p1.toInt ∧ p1.toInt ≤ 3 ∧ 0 ≤ p2.toInt ∧ p2.toInt ≤ 3) ∧ r.toInt = -1)) → post r v_items') : wp_X8_film p1 p2 p3 v_st v_clocks v_lanes v_rowSizes v_items post := by
  unfold wp_X8_film
  have tn60 : ((Int32.toNatClampNeg 60 : Nat) : Int) = 60 := rfl
  have tn61 : ((Int32.toNatClampNeg 61 : Nat) : Int) = 61 := rfl
  have tn62 : ((Int32.toNatClampNeg 62 : Nat) : Int) = 62 := rfl
  refine f_X8_isSheet  (fun r1 q1 => ?_)
  refine ⟨fun c2 => ?_, fun c2 => ?_⟩
  · skip
    have t3 := ine (a := r1.toInt) (b := 0) rfl rfl c2
    first
      | exfalso; omega
      | skip
        refine f_X8_lacksRow (by first | omega | assumption | exact AB.none (by omega) | exact AB.mono (by assumption) (by omega) (by omega) (by omega) (by omega)) (by first | omega | assumption | exact AB.none (by omega) | exact AB.mono (by assumption) (by omega) (by omega) (by omega) (by omega)) (by first | omega | assumption | exact AB.none (by omega) | exact AB.mono (by assumption) (by omega) (by omega) (by omega) (by omega)) (by first | omega | assumption | exact AB.none (by omega) | exact AB.mono (by assumption) (by omega) (by omega) (by omega) (by omega)) (fun r3 q4 => ?_)
        refine ⟨fun c5 => ?_, fun c5 => ?_⟩
        · skip
          have t6 := ile (a := 0) (b := r3.toInt) rfl rfl c5
          exfalso; omega
        · skip
          have t7 := inle (a := 0) (b := r3.toInt) rfl rfl c5
          first
            | exfalso; omega
            | skip
              exact hk _ _ (by first | omega | assumption | exact AB.none (by omega) | exact AB.mono (by assumption) (by omega) (by omega) (by omega) (by omega))
  · skip
    have t8 := ieq (a := r1.toInt) (b := 0) rfl rfl c2
    first
      | exfalso; omega
      | skip
        have t9 : ((-1) : Int32).toInt = (-1) := rfl
        exact hk _ _ (by first | omega | assumption | exact AB.none (by omega) | exact AB.mono (by assumption) (by omega) (by omega) (by omega) (by omega))
set_option maxHeartbeats 1000000 in
set_option maxRecDepth 10000 in
theorem f_X8_seen {p1 : Int32} {p2 : Int32} {p3 : Int32} {v_st : Nat → Int32} {v_kinds : Nat → Int32} {v_rates : Nat → Int32} {v_clocks : Int32} {v_windows : Int32} {v_skyRow : Nat → Int32} {v_skyMany : Int32} {v_sky : Int32} {v_aside : Nat → Int32} {v_lanes : Nat → Int32} {v_rowSizes : Nat → Int32} {v_items : Nat → Int64} {post : Int32 → (Nat → Int32) → (Nat → Int32) → Prop} (hp0 : v_clocks.toInt = 0) (hp1 : v_windows.toInt = 8) (hp2 : v_skyMany.toInt = 1) (hp3 : v_sky.toInt = -1) (hp4 : AB v_lanes 0 4 (-1) (-1)) (hp5 : AB v_st 0 24 12 12) (hp6 : 0 ≤ (v_st (Int32.toNatClampNeg 60)).toInt) (hp7 : (v_st (Int32.toNatClampNeg 60)).toInt ≤ 1000) (hp8 : (v_st (Int32.toNatClampNeg 61)).toInt = 0) (hp9 : (v_st (Int32.toNatClampNeg 62)).toInt = 0) (hp10 : AB v_skyRow 0 12 0 0) (hp11 : (v_st (Int32.toNatClampNeg 60)).toInt = 0) (hk : ∀ (r : Int32) (v_st' : Nat → Int32) (v_aside' : Nat → Int32), (((0 ≤ p1.toInt ∧ p1.toInt ≤ 3 ∧ 0 ≤ p2.toInt ∧ p2.toInt ≤ 3) ∧ r.toInt = -11) ∨ (¬ (0 ≤ p1.toInt ∧ p1.toInt ≤ 3 ∧ 0 ≤ p2.toInt ∧ p2.toInt ≤ 3) ∧ r.toInt = -1)) → post r v_st' v_aside') : wp_X8_seen p1 p2 p3 v_st v_kinds v_rates v_clocks v_windows v_skyRow v_skyMany v_sky v_aside v_lanes v_rowSizes v_items post := by
  unfold wp_X8_seen
  have tn60 : ((Int32.toNatClampNeg 60 : Nat) : Int) = 60 := rfl
  have tn61 : ((Int32.toNatClampNeg 61 : Nat) : Int) = 61 := rfl
  have tn62 : ((Int32.toNatClampNeg 62 : Nat) : Int) = 62 := rfl
  refine f_X8_isSheet  (fun r1 q1 => ?_)
  refine ⟨fun c2 => ?_, fun c2 => ?_⟩
  · skip
    have t3 := ine (a := r1.toInt) (b := 0) rfl rfl c2
    first
      | exfalso; omega
      | skip
        refine f_X8_lacksRow (by first | omega | assumption | exact AB.none (by omega) | exact AB.mono (by assumption) (by omega) (by omega) (by omega) (by omega)) (by first | omega | assumption | exact AB.none (by omega) | exact AB.mono (by assumption) (by omega) (by omega) (by omega) (by omega)) (by first | omega | assumption | exact AB.none (by omega) | exact AB.mono (by assumption) (by omega) (by omega) (by omega) (by omega)) (by first | omega | assumption | exact AB.none (by omega) | exact AB.mono (by assumption) (by omega) (by omega) (by omega) (by omega)) (fun r3 q4 => ?_)
        refine ⟨fun c5 => ?_, fun c5 => ?_⟩
        · skip
          have t6 := ile (a := 0) (b := r3.toInt) rfl rfl c5
          exfalso; omega
        · skip
          have t7 := inle (a := 0) (b := r3.toInt) rfl rfl c5
          first
            | exfalso; omega
            | skip
              exact hk _ _ _ (by first | omega | assumption | exact AB.none (by omega) | exact AB.mono (by assumption) (by omega) (by omega) (by omega) (by omega))
  · skip
    have t8 := ieq (a := r1.toInt) (b := 0) rfl rfl c2
    first
      | exfalso; omega
      | skip
        have t9 : ((-1) : Int32).toInt = (-1) := rfl
        exact hk _ _ _ (by first | omega | assumption | exact AB.none (by omega) | exact AB.mono (by assumption) (by omega) (by omega) (by omega) (by omega))
set_option maxHeartbeats 1000000 in
set_option maxRecDepth 10000 in
theorem f_X8_copy {p1 : Int32} {p2 : Int32} {p3 : Int32} {p4 : Int32} {p5 : Int32} {v_lanes : Nat → Int32} {v_rowSizes : Nat → Int32} {v_items : Nat → Int64} {v_moved : Nat → Int64} {post : Int32 → (Nat → Int64) → (Nat → Int64) → Prop} (hp0 : AB v_lanes 0 4 (-1) (-1)) (hk : ∀ (r : Int32) (v_items' : Nat → Int64) (v_moved' : Nat → Int64), (((0 ≤ p1.toInt ∧ p1.toInt ≤ 3 ∧ 0 ≤ p3.toInt ∧ p3.toInt ≤ 3) ∧ r.toInt = -11) ∨ (¬ (0 ≤ p1.toInt ∧ p1.toInt ≤ 3 ∧ 0 ≤ p3.toInt ∧ p3.toInt ≤ 3) ∧ r.toInt = -1)) → post r v_items' v_moved') : wp_X8_copy p1 p2 p3 p4 p5 v_lanes v_rowSizes v_items v_moved post := by
  unfold wp_X8_copy
  have tn60 : ((Int32.toNatClampNeg 60 : Nat) : Int) = 60 := rfl
  have tn61 : ((Int32.toNatClampNeg 61 : Nat) : Int) = 61 := rfl
  have tn62 : ((Int32.toNatClampNeg 62 : Nat) : Int) = 62 := rfl
  have t1 : (Int32.toInt64 p1).toInt = p1.toInt := i2l rfl
  have t2 : (0 : Int64).toInt = 0 := rfl
  have t3 : (3 : Int64).toInt = 3 := rfl
  refine f_X8_in  (fun r1 q4 => ?_)
  refine ⟨fun c5 => ?_, fun c5 => ?_⟩
  · skip
    have t6 := ieq (a := r1.toInt) (b := 0) rfl rfl c5
    first
      | exfalso; omega
      | skip
        have t7 : ((-1) : Int32).toInt = (-1) := rfl
        exact hk _ _ _ (by first | omega | assumption | exact AB.none (by omega) | exact AB.mono (by assumption) (by omega) (by omega) (by omega) (by omega))
  · skip
    have t8 := ine (a := r1.toInt) (b := 0) rfl rfl c5
    first
      | exfalso; omega
      | skip
        have t9 : (Int32.toInt64 p3).toInt = p3.toInt := i2l rfl
        refine f_X8_in  (fun r3 q10 => ?_)
        refine ⟨fun c11 => ?_, fun c11 => ?_⟩
        · skip
          have t12 := ine (a := r3.toInt) (b := 0) rfl rfl c11
          first
            | exfalso; omega
            | skip
              refine ⟨ivp (a := p1.toInt) rfl (by omega) (by omega), ?_⟩
              try have q13 := AB.get (f := v_lanes) (i := p1) (a := p1.toInt) (by assumption) rfl (by omega) (by omega) (by omega)
              refine ⟨fun c14 => ?_, fun c14 => ?_⟩
              · skip
                have t15 := ilt (a := (v_lanes (Int32.toNatClampNeg p1)).toInt) (b := 0) rfl rfl c14
                first
                  | exfalso; omega
                  | skip
                    have t16 : ((-11) : Int32).toInt = (-11) := rfl
                    exact hk _ _ _ (by first | omega | assumption | exact AB.none (by omega) | exact AB.mono (by assumption) (by omega) (by omega) (by omega) (by omega))
              · skip
                have t17 := inlt (a := (v_lanes (Int32.toNatClampNeg p1)).toInt) (b := 0) rfl rfl c14
                first
                  | exfalso; omega
                  | skip
                    refine ⟨ivp (a := p3.toInt) rfl (by omega) (by omega), ?_⟩
                    try have q18 := AB.get (f := v_lanes) (i := p3) (a := p3.toInt) (by assumption) rfl (by omega) (by omega) (by omega)
                    refine ⟨fun c19 => ?_, fun c19 => ?_⟩
                    · skip
                      have t20 := ile (a := 0) (b := (v_lanes (Int32.toNatClampNeg p3)).toInt) rfl rfl c19
                      first
                        | exfalso; omega
                        | skip
                          refine ⟨ivp (a := p1.toInt) rfl (by omega) (by omega), ?_⟩
                          try have q21 := AB.get (f := v_lanes) (i := p1) (a := p1.toInt) (by assumption) rfl (by omega) (by omega) (by omega)
                          refine ⟨ivp (a := p3.toInt) rfl (by omega) (by omega), ?_⟩
                          try have q22 := AB.get (f := v_lanes) (i := p3) (a := p3.toInt) (by assumption) rfl (by omega) (by omega) (by omega)
                          refine ⟨fun c23 => ?_, fun c23 => ?_⟩
                          · skip
                            have t24 := ieq (a := (v_lanes (Int32.toNatClampNeg p1)).toInt) (b := (v_lanes (Int32.toNatClampNeg p3)).toInt) rfl rfl c23
                            first
                              | exfalso; omega
                              | skip
                                refine ⟨fun c25 => ?_, fun c25 => ?_⟩
                                · skip
                                  have t26 := ilt (a := p5.toInt) (b := 0) rfl rfl c25
                                  first
                                    | exfalso; omega
                                    | skip
                                      have t27 : ((-13) : Int32).toInt = (-13) := rfl
                                      exact hk _ _ _ (by first | omega | assumption | exact AB.none (by omega) | exact AB.mono (by assumption) (by omega) (by omega) (by omega) (by omega))
                                · skip
                                  have t28 := inlt (a := p5.toInt) (b := 0) rfl rfl c25
                                  first
                                    | exfalso; omega
                                    | skip
                                      refine ⟨ivp (a := p1.toInt) rfl (by omega) (by omega), ?_⟩
                                      have t29 : (Int32.toInt64 p2).toInt = p2.toInt := i2l rfl
                                      have t30 : (Int32.toInt64 (v_rowSizes (Int32.toNatClampNeg p1))).toInt = (v_rowSizes (Int32.toNatClampNeg p1)).toInt := i2l rfl
                                      have t31 : (Int32.toInt64 p5).toInt = p5.toInt := i2l rfl
                                      try have t32 : ((Int32.toInt64 (v_rowSizes (Int32.toNatClampNeg p1))) - (Int32.toInt64 p5)).toInt = (Int32.toInt64 (v_rowSizes (Int32.toNatClampNeg p1))).toInt - (Int32.toInt64 p5).toInt := lsb rfl rfl (by omega) (by omega)
                                      refine f_X8_in  (fun r9 q33 => ?_)
                                      refine ⟨fun c34 => ?_, fun c34 => ?_⟩
                                      · skip
                                        have t35 := ieq (a := r9.toInt) (b := 0) rfl rfl c34
                                        first
                                          | exfalso; omega
                                          | skip
                                            have t36 : ((-13) : Int32).toInt = (-13) := rfl
                                            exact hk _ _ _ (by first | omega | assumption | exact AB.none (by omega) | exact AB.mono (by assumption) (by omega) (by omega) (by omega) (by omega))
                                      · skip
                                        have t37 := ine (a := r9.toInt) (b := 0) rfl rfl c34
                                        first
                                          | exfalso; omega
                                          | skip
                                            refine ⟨ivp (a := p3.toInt) rfl (by omega) (by omega), ?_⟩
                                            have t38 : (Int32.toInt64 p4).toInt = p4.toInt := i2l rfl
                                            have t39 : (Int32.toInt64 (v_rowSizes (Int32.toNatClampNeg p3))).toInt = (v_rowSizes (Int32.toNatClampNeg p3)).toInt := i2l rfl
                                            try have t40 : ((Int32.toInt64 (v_rowSizes (Int32.toNatClampNeg p3))) - (Int32.toInt64 p5)).toInt = (Int32.toInt64 (v_rowSizes (Int32.toNatClampNeg p3))).toInt - (Int32.toInt64 p5).toInt := lsb rfl rfl (by omega) (by omega)
                                            refine f_X8_in  (fun r11 q41 => ?_)
                                            refine ⟨fun c42 => ?_, fun c42 => ?_⟩
                                            · skip
                                              have t43 := ine (a := r11.toInt) (b := 0) rfl rfl c42
                                              first
                                                | exfalso; omega
                                                | skip
                                                  have t44 : ((0 : Int32)).toInt = 0 := rfl
                                                  refine ⟨fun n13 x6_13 v_moved_13 => n13 = ((0 : Int)).toNat ∧ (x6_13.toInt = 0) ∧ (0 ≤ x6_13.toInt), ⟨_, rfl, by first | omega | assumption | exact AB.none (by omega) | exact AB.mono (by assumption) (by omega) (by omega) (by omega) (by omega), by first | omega | assumption | exact AB.none (by omega) | exact AB.mono (by assumption) (by omega) (by omega) (by omega) (by omega)⟩, ?_⟩
                                                  rintro n13 x6_13 v_moved_13 ⟨hn13, q45, q46⟩
                                                  refine ⟨fun c47 => ?_, fun c47 => ?_⟩
                                                  · skip
                                                    have t48 := ile (a := p5.toInt) (b := x6_13.toInt) rfl rfl c47
                                                    first
                                                      | exfalso; omega
                                                      | skip
                                                        have t49 : ((0 : Int32)).toInt = 0 := rfl
                                                        refine ⟨fun n15 x6_15 v_items_15 => n15 = ((0 : Int)).toNat ∧ (x6_15.toInt = 0) ∧ (0 ≤ x6_15.toInt), ⟨_, rfl, by first | omega | assumption | exact AB.none (by omega) | exact AB.mono (by assumption) (by omega) (by omega) (by omega) (by omega), by first | omega | assumption | exact AB.none (by omega) | exact AB.mono (by assumption) (by omega) (by omega) (by omega) (by omega)⟩, ?_⟩
                                                        rintro n15 x6_15 v_items_15 ⟨hn15, q50, q51⟩
                                                        refine ⟨fun c52 => ?_, fun c52 => ?_⟩
                                                        · skip
                                                          have t53 := ile (a := p5.toInt) (b := x6_15.toInt) rfl rfl c52
                                                          first
                                                            | exfalso; omega
                                                            | skip
                                                              exact hk _ _ _ (by first | omega | assumption | exact AB.none (by omega) | exact AB.mono (by assumption) (by omega) (by omega) (by omega) (by omega))
                                                        · skip
                                                          have t54 := inle (a := p5.toInt) (b := x6_15.toInt) rfl rfl c52
                                                          first
                                                            | exfalso; omega
                                                            | skip
                                                              refine ⟨ivp (a := x6_15.toInt) rfl (by omega) (by omega), ?_⟩
                                                              intro z17 ez17
                                                              try have t55 : (24 * p3).toInt = 24 * p3.toInt := im rfl rfl (by omega) (by omega)
                                                              try have t56 : ((24 * p3) + p4).toInt = (24 * p3).toInt + p4.toInt := ia rfl rfl (by omega) (by omega)
                                                              try have t57 : (((24 * p3) + p4) + x6_15).toInt = ((24 * p3) + p4).toInt + x6_15.toInt := ia rfl rfl (by omega) (by omega)
                                                              refine ⟨ivp (a := (((24 * p3) + p4) + x6_15).toInt) rfl (by omega) (by omega), ?_⟩
                                                              intro f18 ef18
                                                              try have t58 : (x6_15 + 1).toInt = x6_15.toInt + 1 := ia rfl rfl (by omega) (by omega)
                                                              intro z19 ez19
                                                              have t59 : z19.toInt = (x6_15 + 1).toInt := by rw [ez19] <;> rfl
                                                              refine ⟨_, ?_, rfl, by first | omega | assumption | exact AB.none (by omega) | exact AB.mono (by assumption) (by omega) (by omega) (by omega) (by omega), by first | omega | assumption | exact AB.none (by omega) | exact AB.mono (by assumption) (by omega) (by omega) (by omega) (by omega)⟩
                                                              omega
                                                  · skip
                                                    have t60 := inle (a := p5.toInt) (b := x6_13.toInt) rfl rfl c47
                                                    first
                                                      | exfalso; omega
                                                      | skip
                                                        try have t61 : (24 * p1).toInt = 24 * p1.toInt := im rfl rfl (by omega) (by omega)
                                                        try have t62 : ((24 * p1) + p2).toInt = (24 * p1).toInt + p2.toInt := ia rfl rfl (by omega) (by omega)
                                                        try have t63 : (((24 * p1) + p2) + x6_13).toInt = ((24 * p1) + p2).toInt + x6_13.toInt := ia rfl rfl (by omega) (by omega)
                                                        refine ⟨ivp (a := (((24 * p1) + p2) + x6_13).toInt) rfl (by omega) (by omega), ?_⟩
                                                        intro z20 ez20
                                                        refine ⟨ivp (a := x6_13.toInt) rfl (by omega) (by omega), ?_⟩
                                                        intro f21 ef21
                                                        try have t64 : (x6_13 + 1).toInt = x6_13.toInt + 1 := ia rfl rfl (by omega) (by omega)
                                                        intro z22 ez22
                                                        have t65 : z22.toInt = (x6_13 + 1).toInt := by rw [ez22] <;> rfl
                                                        refine ⟨_, ?_, rfl, by first | omega | assumption | exact AB.none (by omega) | exact AB.mono (by assumption) (by omega) (by omega) (by omega) (by omega), by first | omega | assumption | exact AB.none (by omega) | exact AB.mono (by assumption) (by omega) (by omega) (by omega) (by omega)⟩
                                                        omega
                                            · skip
                                              have t66 := ieq (a := r11.toInt) (b := 0) rfl rfl c42
                                              first
                                                | exfalso; omega
                                                | skip
                                                  have t67 : ((-13) : Int32).toInt = (-13) := rfl
                                                  exact hk _ _ _ (by first | omega | assumption | exact AB.none (by omega) | exact AB.mono (by assumption) (by omega) (by omega) (by omega) (by omega))
                          · skip
                            have t68 := ine (a := (v_lanes (Int32.toNatClampNeg p1)).toInt) (b := (v_lanes (Int32.toNatClampNeg p3)).toInt) rfl rfl c23
                            first
                              | exfalso; omega
                              | skip
                                have t69 : ((-12) : Int32).toInt = (-12) := rfl
                                exact hk _ _ _ (by first | omega | assumption | exact AB.none (by omega) | exact AB.mono (by assumption) (by omega) (by omega) (by omega) (by omega))
                    · skip
                      have t70 := inle (a := 0) (b := (v_lanes (Int32.toNatClampNeg p3)).toInt) rfl rfl c19
                      first
                        | exfalso; omega
                        | skip
                          have t71 : ((-11) : Int32).toInt = (-11) := rfl
                          exact hk _ _ _ (by first | omega | assumption | exact AB.none (by omega) | exact AB.mono (by assumption) (by omega) (by omega) (by omega) (by omega))
        · skip
          have t72 := ieq (a := r3.toInt) (b := 0) rfl rfl c11
          first
            | exfalso; omega
            | skip
              have t73 : ((-1) : Int32).toInt = (-1) := rfl
              exact hk _ _ _ (by first | omega | assumption | exact AB.none (by omega) | exact AB.mono (by assumption) (by omega) (by omega) (by omega) (by omega))
