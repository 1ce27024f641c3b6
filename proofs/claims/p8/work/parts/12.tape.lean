def wp_X5_rewind (v_at : Int32) (v_passed : Int32) (v_fault : Int32) (post : (Int32) → (Int32) → (Int32) → Prop) : Prop :=
  (post 0 0 0)
set_option maxHeartbeats 4000000 in
set_option maxRecDepth 100000 in
theorem c_X5_rewind (l : Launch) (G : va_G) (k : Nat → ClassId) (a : Nat → Nat) (v_letters : Nat → Int32) (v_size : Int32) (v_at : Int32) (v_passed : Int32) (v_fault : Int32) (post : (Int32) → (Int32) → (Int32) → Prop) (hf : wp_X5_rewind v_at v_passed v_fault post) : MV (S := (Int32) × (Int32) × (Int32)) l G k yX5_rewind (Cond.code yX5_rewind cX5_rewind 1 none :: wT) 0 0 [.ref (a 0)] (sgX5 k a v_letters v_size v_at v_passed v_fault) (fun u => (sgX5 k a v_letters v_size u.1 u.2.1 u.2.2)) (fun u => post u.1 u.2.1 u.2.2) := by
  refine mv_start (cc := cX5_rewind) (maxL := 1) (ret := none) (by decide) [(0, .ref (a 0))] rfl (Nat.le_of_ble_eq_true rfl) ?_
  intro p e s m below meth c A ls hx hb hr hlk hml hown hts hK hP hD hA hS hX hl
  have hown : s.vm.findClass RX5 = some m.cls := hown
  unfold wp_X5_rewind at hf
  have hH0 : s.heap = s.heap := rfl
  refine lv_aload_n hx hb dX5_rewind_0 rfl (lv_at hl 0 rfl) ?_
  refine lv_iconst (v := 0) hx hb dX5_rewind_1 (by decide) ?_
  refine va_put (D := G) (ci := 5) (v := .int 0) (ty := .int) (C := RX5) (T := TX5) (N := 5) hx hb hts inX5 tyX5 tyX5_ok nmX5 hown hK hP hD hS 0 rfl rfl 2 (by decide) (hts _ mw233) (fun _ h9 => h9) rfl (by decide +kernel) rfl rfl (Nat.le_of_ble_eq_true rfl) dX5_rewind_2 (fun H locs hP hD hS => ?_)
  have hP : va_P G vwCl (sgX5 k a v_letters v_size 0 v_passed v_fault) H := hP
  have hD : va_D A (sgX5 k a v_letters v_size 0 v_passed v_fault) := hD
  refine lv_aload_n hx hb dX5_rewind_5 rfl (lv_at hl 0 rfl) ?_
  refine lv_iconst (v := 0) hx hb dX5_rewind_6 (by decide) ?_
  refine va_put (D := G) (ci := 5) (v := .int 0) (ty := .int) (C := RX5) (T := TX5) (N := 5) hx hb hts inX5 tyX5 tyX5_ok nmX5 hown hK hP hD hS 0 rfl rfl 3 (by decide) (hts _ mw234) (fun _ h9 => h9) rfl (by decide +kernel) rfl rfl (Nat.le_of_ble_eq_true rfl) dX5_rewind_7 (fun H locs hP hD hS => ?_)
  have hP : va_P G vwCl (sgX5 k a v_letters v_size 0 0 v_fault) H := hP
  have hD : va_D A (sgX5 k a v_letters v_size 0 0 v_fault) := hD
  refine lv_aload_n hx hb dX5_rewind_10 rfl (lv_at hl 0 rfl) ?_
  refine lv_iconst (v := 0) hx hb dX5_rewind_11 (by decide) ?_
  refine va_put (D := G) (ci := 5) (v := .int 0) (ty := .int) (C := RX5) (T := TX5) (N := 5) hx hb hts inX5 tyX5 tyX5_ok nmX5 hown hK hP hD hS 0 rfl rfl 4 (by decide) (hts _ mw235) (fun _ h9 => h9) rfl (by decide +kernel) rfl rfl (Nat.le_of_ble_eq_true rfl) dX5_rewind_12 (fun H locs hP hD hS => ?_)
  have hP : va_P G vwCl (sgX5 k a v_letters v_size 0 0 0) H := hP
  have hD : va_D A (sgX5 k a v_letters v_size 0 0 0) := hD
  exact ret_v hx hb hr hlk (0, 0, 0) hf hP hD hS dX5_rewind_15
def wp_X5_next (v_letters : Nat → Int32) (v_size : Int32) (v_at : Int32) (post : Int32 → (Int32) → Prop) : Prop :=
  (∃ I1 : Nat → (Int32) → Prop, (∃ n1, I1 n1 v_at) ∧ ∀ (n1 : Nat) (v_at_1 : Int32), I1 n1 v_at_1 →
 ((v_size ≤ v_at_1 → ((v_size ≤ v_at_1 → (post (-1) v_at_1)) ∧
 (¬ v_size ≤ v_at_1 → (vp_in v_at_1 160 ∧ (post (v_letters (Int32.toNatClampNeg v_at_1)) v_at_1))))) ∧
 (¬ v_size ≤ v_at_1 → (vp_in v_at_1 160 ∧ ((¬ (v_letters (Int32.toNatClampNeg v_at_1)) = 32 → ((v_size ≤ v_at_1 → (post (-1) v_at_1)) ∧
 (¬ v_size ≤ v_at_1 → (vp_in v_at_1 160 ∧ (post (v_letters (Int32.toNatClampNeg v_at_1)) v_at_1))))) ∧
 ((v_letters (Int32.toNatClampNeg v_at_1)) = 32 → (∀ z6 : Int32, z6 = (v_at_1 + 1) → (∃ m9, m9 < n1 ∧ I1 m9 z6))))))))
set_option maxHeartbeats 4000000 in
set_option maxRecDepth 100000 in
theorem c_X5_next (l : Launch) (G : va_G) (k : Nat → ClassId) (a : Nat → Nat) (v_letters : Nat → Int32) (v_size : Int32) (v_at : Int32) (v_passed : Int32) (v_fault : Int32) (post : Int32 → (Int32) → Prop) (hf : wp_X5_next v_letters v_size v_at post) : MI (S := (Int32)) l G k yX5_next (Cond.code yX5_next cX5_next 1 (some .int) :: wT) 0 0 [.ref (a 0)] (sgX5 k a v_letters v_size v_at v_passed v_fault) (fun u => (sgX5 k a v_letters v_size u v_passed v_fault)) (fun r u => post r u) := by
  refine mi_start (cc := cX5_next) (maxL := 1) (ret := (some .int)) (by decide) [(0, .ref (a 0))] rfl (Nat.le_of_ble_eq_true rfl) ?_
  intro p e s m below meth c A ls hx hb hr hlk hml hown hts hK hP hD hA hS hX hl
  have hown : s.vm.findClass RX5 = some m.cls := hown
  unfold wp_X5_next at hf
  have hH0 : s.heap = s.heap := rfl
  obtain ⟨I1, ⟨n1, hi1⟩, hs1⟩ := hf
  refine w_loop (G := G) (A := A) (H0 := s.heap) (nL := 1) (σ := (Int32)) (I := fun n v => I1 n v) (wl := fun v => (sgX5 k a v_letters v_size v v_passed v_fault)) (lv := fun v => [(0, .ref (a 0))]) (st := fun _ => []) n1 v_at hi1 hP hD hS (lv_sub hl [0] rfl) (fun n1 v hi ih1 H locs ls hP hD hS hl => ?_)
  obtain ⟨v_at_1, rfl⟩ : ∃ z, z = v := ⟨_, rfl⟩
  have hf := hs1 n1 v_at_1 hi
  have hP : va_P G vwCl (sgX5 k a v_letters v_size v_at_1 v_passed v_fault) H := hP
  have hD : va_D A (sgX5 k a v_letters v_size v_at_1 v_passed v_fault) := hD
  have hl : lv_has ls 1 [(0, .ref (a 0))] := hl
  refine lv_aload_n hx hb dX5_next_0 rfl (lv_at hl 0 rfl) ?_
  refine va_get (D := G) (ci := 5) (v := .int v_at_1) (C := RX5) (T := TX5) (N := 5) hx hb hts inX5 hown hK hP 0 rfl rfl 2 (by decide) (hts _ mw233) (fun _ h9 => h9) rfl dX5_next_1 ?_
  refine lv_aload_n hx hb dX5_next_4 rfl (lv_at hl 0 rfl) ?_
  refine va_get (D := G) (ci := 5) (v := .int v_size) (C := RX5) (T := TX5) (N := 5) hx hb hts inX5 hown hK hP 0 rfl rfl 1 (by decide) (hts _ mw231) (fun _ h9 => h9) rfl dX5_next_5 ?_
  refine lv_icmp_ge (tgt := 38) hx hb dX5_next_8 (by decide) (fun c2 => ?_) (fun c2 => ?_)
  · have hf := hf.1 c2
    refine lv_aload_n hx hb dX5_next_38 rfl (lv_at hl 0 rfl) ?_
    refine va_get (D := G) (ci := 5) (v := .int v_at_1) (C := RX5) (T := TX5) (N := 5) hx hb hts inX5 hown hK hP 0 rfl rfl 2 (by decide) (hts _ mw233) (fun _ h9 => h9) rfl dX5_next_39 ?_
    refine lv_aload_n hx hb dX5_next_42 rfl (lv_at hl 0 rfl) ?_
    refine va_get (D := G) (ci := 5) (v := .int v_size) (C := RX5) (T := TX5) (N := 5) hx hb hts inX5 hown hK hP 0 rfl rfl 1 (by decide) (hts _ mw231) (fun _ h9 => h9) rfl dX5_next_43 ?_
    refine lv_icmp_ge (tgt := 61) hx hb dX5_next_46 (by decide) (fun c3 => ?_) (fun c3 => ?_)
    · have hf := hf.1 c3
      refine lv_iconst (v := (-1)) hx hb dX5_next_61 (by decide) ?_
      exact ret_i hx hb hr hlk v_at_1 hf hP hD hS dX5_next_62
    have hf := hf.2 c3
    refine lv_aload_n hx hb dX5_next_49 rfl (lv_at hl 0 rfl) ?_
    refine va_get (D := G) (ci := 5) (v := .ref (a 1)) (C := RX5) (T := TX5) (N := 5) hx hb hts inX5 hown hK hP 0 rfl rfl 0 (by decide) (hts _ mw229) (fun _ h9 => h9) rfl dX5_next_50 ?_
    refine lv_aload_n hx hb dX5_next_53 rfl (lv_at hl 0 rfl) ?_
    refine va_get (D := G) (ci := 5) (v := .int v_at_1) (C := RX5) (T := TX5) (N := 5) hx hb hts inX5 hown hK hP 0 rfl rfl 2 (by decide) (hts _ mw233) (fun _ h9 => h9) rfl dX5_next_54 ?_
    obtain ⟨hin, hf⟩ := hf
    refine va_cald hx hb hK hP 1 1 rfl rfl hin dX5_next_57 ?_
    refine lv_goto (tgt := 62) hx hb dX5_next_58 (by decide) ?_
    exact ret_i hx hb hr hlk v_at_1 hf hP hD hS dX5_next_62
  have hf := hf.2 c2
  refine lv_aload_n hx hb dX5_next_11 rfl (lv_at hl 0 rfl) ?_
  refine va_get (D := G) (ci := 5) (v := .ref (a 1)) (C := RX5) (T := TX5) (N := 5) hx hb hts inX5 hown hK hP 0 rfl rfl 0 (by decide) (hts _ mw229) (fun _ h9 => h9) rfl dX5_next_12 ?_
  refine lv_aload_n hx hb dX5_next_15 rfl (lv_at hl 0 rfl) ?_
  refine va_get (D := G) (ci := 5) (v := .int v_at_1) (C := RX5) (T := TX5) (N := 5) hx hb hts inX5 hown hK hP 0 rfl rfl 2 (by decide) (hts _ mw233) (fun _ h9 => h9) rfl dX5_next_16 ?_
  obtain ⟨hin, hf⟩ := hf
  refine va_cald hx hb hK hP 1 1 rfl rfl hin dX5_next_19 ?_
  refine lv_bipush (v := 32) hx hb dX5_next_20 (by decide) ?_
  refine lv_icmp_ne (tgt := 38) hx hb dX5_next_22 (by decide) (fun c4 => ?_) (fun c4 => ?_)
  · have hf := hf.1 c4
    refine lv_aload_n hx hb dX5_next_38 rfl (lv_at hl 0 rfl) ?_
    refine va_get (D := G) (ci := 5) (v := .int v_at_1) (C := RX5) (T := TX5) (N := 5) hx hb hts inX5 hown hK hP 0 rfl rfl 2 (by decide) (hts _ mw233) (fun _ h9 => h9) rfl dX5_next_39 ?_
    refine lv_aload_n hx hb dX5_next_42 rfl (lv_at hl 0 rfl) ?_
    refine va_get (D := G) (ci := 5) (v := .int v_size) (C := RX5) (T := TX5) (N := 5) hx hb hts inX5 hown hK hP 0 rfl rfl 1 (by decide) (hts _ mw231) (fun _ h9 => h9) rfl dX5_next_43 ?_
    refine lv_icmp_ge (tgt := 61) hx hb dX5_next_46 (by decide) (fun c5 => ?_) (fun c5 => ?_)
    · have hf := hf.1 c5
      refine lv_iconst (v := (-1)) hx hb dX5_next_61 (by decide) ?_
      exact ret_i hx hb hr hlk v_at_1 hf hP hD hS dX5_next_62
    have hf := hf.2 c5
    refine lv_aload_n hx hb dX5_next_49 rfl (lv_at hl 0 rfl) ?_
    refine va_get (D := G) (ci := 5) (v := .ref (a 1)) (C := RX5) (T := TX5) (N := 5) hx hb hts inX5 hown hK hP 0 rfl rfl 0 (by decide) (hts _ mw229) (fun _ h9 => h9) rfl dX5_next_50 ?_
    refine lv_aload_n hx hb dX5_next_53 rfl (lv_at hl 0 rfl) ?_
    refine va_get (D := G) (ci := 5) (v := .int v_at_1) (C := RX5) (T := TX5) (N := 5) hx hb hts inX5 hown hK hP 0 rfl rfl 2 (by decide) (hts _ mw233) (fun _ h9 => h9) rfl dX5_next_54 ?_
    obtain ⟨hin, hf⟩ := hf
    refine va_cald hx hb hK hP 1 1 rfl rfl hin dX5_next_57 ?_
    refine lv_goto (tgt := 62) hx hb dX5_next_58 (by decide) ?_
    exact ret_i hx hb hr hlk v_at_1 hf hP hD hS dX5_next_62
  have hf := hf.2 c4
  refine lv_aload_n hx hb dX5_next_25 rfl (lv_at hl 0 rfl) ?_
  refine lv_dup hx hb dX5_next_26 rfl ?_
  refine va_get (D := G) (ci := 5) (v := .int v_at_1) (C := RX5) (T := TX5) (N := 5) hx hb hts inX5 hown hK hP 0 rfl rfl 2 (by decide) (hts _ mw233) (fun _ h9 => h9) rfl dX5_next_27 ?_
  refine lv_iconst (v := 1) hx hb dX5_next_30 (by decide) ?_
  refine lv_iadd hx hb dX5_next_31 ?_
  refine lv_topi (fun z6 ez6 => ?_)
  have hf := hf z6 ez6
  refine va_put (D := G) (ci := 5) (v := .int z6) (ty := .int) (C := RX5) (T := TX5) (N := 5) hx hb hts inX5 tyX5 tyX5_ok nmX5 hown hK hP hD hS 0 rfl rfl 2 (by decide) (hts _ mw233) (fun _ h9 => h9) rfl (by decide +kernel) rfl rfl (Nat.le_of_ble_eq_true rfl) dX5_next_32 (fun H locs hP hD hS => ?_)
  have hP : va_P G vwCl (sgX5 k a v_letters v_size z6 v_passed v_fault) H := hP
  have hD : va_D A (sgX5 k a v_letters v_size z6 v_passed v_fault) := hD
  refine lv_goto (tgt := 0) hx hb dX5_next_35 (by decide) ?_
  obtain ⟨m9, hm9, hi9⟩ := hf
  exact ih1 m9 z6 hm9 hi9 _ _ _ hP hD hS (lv_sub hl [0] rfl)
def wp_X5_here (v_passed : Int32) (post : Int32 → Prop) : Prop :=
  (post ((-20) - v_passed) )
set_option maxHeartbeats 4000000 in
set_option maxRecDepth 100000 in
theorem c_X5_here (l : Launch) (G : va_G) (k : Nat → ClassId) (a : Nat → Nat) (v_letters : Nat → Int32) (v_size : Int32) (v_at : Int32) (v_passed : Int32) (v_fault : Int32) (post : Int32 → Prop) (hf : wp_X5_here v_passed post) : MI (S := Unit) l G k yX5_here (Cond.code yX5_here cX5_here 1 (some .int) :: wT) 0 0 [.ref (a 0)] (sgX5 k a v_letters v_size v_at v_passed v_fault) (fun u => (sgX5 k a v_letters v_size v_at v_passed v_fault)) (fun r u => post r ) := by
  refine mi_start (cc := cX5_here) (maxL := 1) (ret := (some .int)) (by decide) [(0, .ref (a 0))] rfl (Nat.le_of_ble_eq_true rfl) ?_
  intro p e s m below meth c A ls hx hb hr hlk hml hown hts hK hP hD hA hS hX hl
  have hown : s.vm.findClass RX5 = some m.cls := hown
  unfold wp_X5_here at hf
  have hH0 : s.heap = s.heap := rfl
  refine lv_bipush (v := (-20)) hx hb dX5_here_0 (by decide) ?_
  refine lv_aload_n hx hb dX5_here_2 rfl (lv_at hl 0 rfl) ?_
  refine va_get (D := G) (ci := 5) (v := .int v_passed) (C := RX5) (T := TX5) (N := 5) hx hb hts inX5 hown hK hP 0 rfl rfl 3 (by decide) (hts _ mw234) (fun _ h9 => h9) rfl dX5_here_3 ?_
  refine lv_isub hx hb dX5_here_6 ?_
  exact ret_i hx hb hr hlk () hf hP hD hS dX5_here_7
def wp_X5_skip (v_at : Int32) (v_passed : Int32) (post : (Int32) → (Int32) → Prop) : Prop :=
  (∀ z1 : Int32, z1 = (v_at + 1) → (∀ z2 : Int32, z2 = (v_passed + 1) → (post z1 z2)))
set_option maxHeartbeats 4000000 in
set_option maxRecDepth 100000 in
theorem c_X5_skip (l : Launch) (G : va_G) (k : Nat → ClassId) (a : Nat → Nat) (v_letters : Nat → Int32) (v_size : Int32) (v_at : Int32) (v_passed : Int32) (v_fault : Int32) (post : (Int32) → (Int32) → Prop) (hf : wp_X5_skip v_at v_passed post) : MV (S := (Int32) × (Int32)) l G k yX5_skip (Cond.code yX5_skip cX5_skip 1 none :: wT) 0 0 [.ref (a 0)] (sgX5 k a v_letters v_size v_at v_passed v_fault) (fun u => (sgX5 k a v_letters v_size u.1 u.2 v_fault)) (fun u => post u.1 u.2) := by
  refine mv_start (cc := cX5_skip) (maxL := 1) (ret := none) (by decide) [(0, .ref (a 0))] rfl (Nat.le_of_ble_eq_true rfl) ?_
  intro p e s m below meth c A ls hx hb hr hlk hml hown hts hK hP hD hA hS hX hl
  have hown : s.vm.findClass RX5 = some m.cls := hown
  unfold wp_X5_skip at hf
  have hH0 : s.heap = s.heap := rfl
  refine lv_aload_n hx hb dX5_skip_0 rfl (lv_at hl 0 rfl) ?_
  refine lv_dup hx hb dX5_skip_1 rfl ?_
  refine va_get (D := G) (ci := 5) (v := .int v_at) (C := RX5) (T := TX5) (N := 5) hx hb hts inX5 hown hK hP 0 rfl rfl 2 (by decide) (hts _ mw233) (fun _ h9 => h9) rfl dX5_skip_2 ?_
  refine lv_iconst (v := 1) hx hb dX5_skip_5 (by decide) ?_
  refine lv_iadd hx hb dX5_skip_6 ?_
  refine lv_topi (fun z1 ez1 => ?_)
  have hf := hf z1 ez1
  refine va_put (D := G) (ci := 5) (v := .int z1) (ty := .int) (C := RX5) (T := TX5) (N := 5) hx hb hts inX5 tyX5 tyX5_ok nmX5 hown hK hP hD hS 0 rfl rfl 2 (by decide) (hts _ mw233) (fun _ h9 => h9) rfl (by decide +kernel) rfl rfl (Nat.le_of_ble_eq_true rfl) dX5_skip_7 (fun H locs hP hD hS => ?_)
  have hP : va_P G vwCl (sgX5 k a v_letters v_size z1 v_passed v_fault) H := hP
  have hD : va_D A (sgX5 k a v_letters v_size z1 v_passed v_fault) := hD
  refine lv_aload_n hx hb dX5_skip_10 rfl (lv_at hl 0 rfl) ?_
  refine lv_dup hx hb dX5_skip_11 rfl ?_
  refine va_get (D := G) (ci := 5) (v := .int v_passed) (C := RX5) (T := TX5) (N := 5) hx hb hts inX5 hown hK hP 0 rfl rfl 3 (by decide) (hts _ mw234) (fun _ h9 => h9) rfl dX5_skip_12 ?_
  refine lv_iconst (v := 1) hx hb dX5_skip_15 (by decide) ?_
  refine lv_iadd hx hb dX5_skip_16 ?_
  refine lv_topi (fun z2 ez2 => ?_)
  have hf := hf z2 ez2
  refine va_put (D := G) (ci := 5) (v := .int z2) (ty := .int) (C := RX5) (T := TX5) (N := 5) hx hb hts inX5 tyX5 tyX5_ok nmX5 hown hK hP hD hS 0 rfl rfl 3 (by decide) (hts _ mw234) (fun _ h9 => h9) rfl (by decide +kernel) rfl rfl (Nat.le_of_ble_eq_true rfl) dX5_skip_17 (fun H locs hP hD hS => ?_)
  have hP : va_P G vwCl (sgX5 k a v_letters v_size z1 z2 v_fault) H := hP
  have hD : va_D A (sgX5 k a v_letters v_size z1 z2 v_fault) := hD
  exact ret_v hx hb hr hlk (z1, z2) hf hP hD hS dX5_skip_20
def wp_X5_readSigns (p2 : Int32) (p3 : Int32) (n4 : Nat) (i1 : Nat) (v_letters : Nat → Int32) (v_size : Int32) (v_at : Int32) (v_passed : Int32) (v_fault : Int32) (p4_arr : Nat → Int32) (post : Int32 → (Int32) → (Int32) → (Int32) → (Nat → Int32) → Prop) : Prop :=
  (i1 < 3 ∧ (wp_X5_rewind v_at v_passed v_fault (fun (v_at_2 : Int32) (v_passed_3 : Int32) (v_fault_4 : Int32) =>
 (∃ I5 : Nat → (Int32) → (Int32) → (Int32) → (Nat → Int32) → Prop, (∃ n5, I5 n5 0 v_at_2 v_passed_3 p4_arr) ∧ ∀ (n5 : Nat) (x5_5 : Int32) (v_at_5 : Int32) (v_passed_5 : Int32) (p4_arr_5 : Nat → Int32), I5 n5 x5_5 v_at_5 v_passed_5 p4_arr_5 →
 (∃ J6 : (Int32) → Prop, (∀ (v_at_6 : Int32), J6 v_at_6 →
 ((x5_5 < p2 → (wp_X5_here v_passed_5 (fun (r8 : Int32) =>
 (post r8 v_at_6 v_passed_5 v_fault_4 p4_arr_5)))) ∧
 (¬ x5_5 < p2 → (wp_X5_next v_letters v_size v_at_6 (fun (r9 : Int32) (v_at_10 : Int32) =>
 ((r9 = (-1) → (post x5_5 v_at_10 v_passed_5 v_fault_4 p4_arr_5)) ∧
 (¬ r9 = (-1) → (wp_X5_here v_passed_5 (fun (r12 : Int32) =>
 (post r12 v_at_10 v_passed_5 v_fault_4 p4_arr_5)))))))))) ∧
 ((p3 ≤ x5_5 → (J6 v_at_5)) ∧
 (¬ p3 ≤ x5_5 → (((Int32.ofNat n4) ≤ x5_5 → (J6 v_at_5)) ∧
 (¬ (Int32.ofNat n4) ≤ x5_5 → (wp_X5_next v_letters v_size v_at_5 (fun (r15 : Int32) (v_at_16 : Int32) =>
 ((r15 = (-1) → (J6 v_at_16)) ∧
 (¬ r15 = (-1) → (wp_X5_next v_letters v_size v_at_16 (fun (r18 : Int32) (v_at_19 : Int32) =>
 (wp_J0_indexOf_0f7a4 (UInt32.toInt32 (Int32.toUInt32 r18 % 65536)) i1 (fun (r20 : Int32) =>
 ((0 ≤ r20 → (vp_in x5_5 n4 ∧ ∀ f22 : Nat → Int32, f22 = (upd p4_arr_5 (Int32.toNatClampNeg x5_5) r20) → (wp_X5_skip v_at_19 v_passed_5 (fun (v_at_24 : Int32) (v_passed_25 : Int32) =>
 (∀ z26 : Int32, z26 = x5_5 + 1 → (∃ m9, m9 < n5 ∧ I5 m9 z26 v_at_24 v_passed_25 f22)))))) ∧
 (¬ 0 ≤ r20 → (wp_X5_here v_passed_5 (fun (r27 : Int32) =>
 (post r27 v_at_19 v_passed_5 v_fault_4 p4_arr_5))))))))))))))))))))))
set_option maxHeartbeats 4000000 in
set_option maxRecDepth 100000 in
theorem c_X5_readSigns (l : Launch) (G : va_G) (k : Nat → ClassId) (a : Nat → Nat) (b4 : Nat → Nat) (p2 : Int32) (p3 : Int32) (n4 : Nat) (i1 : Nat) (v_letters : Nat → Int32) (v_size : Int32) (v_at : Int32) (v_passed : Int32) (v_fault : Int32) (p4_arr : Nat → Int32) (post : Int32 → (Int32) → (Int32) → (Int32) → (Nat → Int32) → Prop) (hf : wp_X5_readSigns p2 p3 n4 i1 v_letters v_size v_at v_passed v_fault p4_arr post) : MI (S := (Int32) × (Int32) × (Int32) × (Nat → Int32)) l G k yX5_readSigns (Cond.code yX5_readSigns cX5_readSigns 7 (some .int) :: wT) 4 91 [.ref (a 0), .ref (k (10 + i1)), .int p2, .int p3, .ref (b4 0)] (sgX5 k a v_letters v_size v_at v_passed v_fault ++ [(b4 0, .inl (k 0, n4, .inl p4_arr))]) (fun u => (sgX5 k a v_letters v_size u.1 u.2.1 u.2.2.1 ++ [(b4 0, .inl (k 0, n4, .inl u.2.2.2))])) (fun r u => post r u.1 u.2.1 u.2.2.1 u.2.2.2) := by
  refine mi_start (cc := cX5_readSigns) (maxL := 7) (ret := (some .int)) (by decide) [(0, .ref (a 0)), (1, .ref (k (10 + i1))), (2, .int p2), (3, .int p3), (4, .ref (b4 0))] rfl (Nat.le_of_ble_eq_true rfl) ?_
  intro p e s m below meth c A ls hx hb hr hlk hml hown hts hK hP hD hA hS hX hl
  have hown : s.vm.findClass RX5 = some m.cls := hown
  unfold wp_X5_readSigns at hf
  have hH0 : s.heap = s.heap := rfl
  obtain ⟨hi1, hf⟩ := hf
  refine lv_aload_n hx hb dX5_readSigns_0 rfl (lv_at hl 0 rfl) ?_
  refine cvv (As := []) (rest := []) (wr := ([(b4 0, .inl (k 0, n4, .inl p4_arr))])) (wn := (fun u => (sgX5 k a v_letters v_size u.1 u.2.1 u.2.2 ++ [(b4 0, .inl (k 0, n4, .inl p4_arr))]))) ⟨hx, hb, hml, hown, hts⟩ (c_X5_rewind l G k a v_letters v_size v_at v_passed v_fault _ hf) (cwT 0 hts mw417 mw419 mw2 mw74 mw420 rfl hd_X5_rewind ⟨Nat.le_of_ble_eq_true rfl, Nat.le_of_ble_eq_true rfl⟩) hK hP hD hS hX hA [0, 1] [2] [1, 2, 0] rfl rfl (by decide) (by decide) (by decide) (fun u => rfl) (by decide) rfl rfl rfl rfl hl.1 rfl (Nat.le_of_ble_eq_true rfl) dX5_readSigns_1 (Nat.zero_le _) (Nat.zero_le _) (fun u H locs hf hP hD hS => ?_)
  obtain ⟨v_at_2, v_passed_3, v_fault_4⟩ := u
  have hP : va_P G vwCl (sgX5 k a v_letters v_size v_at_2 v_passed_3 v_fault_4 ++ [(b4 0, .inl (k 0, n4, .inl p4_arr))]) H := hP
  have hD : va_D A (sgX5 k a v_letters v_size v_at_2 v_passed_3 v_fault_4 ++ [(b4 0, .inl (k 0, n4, .inl p4_arr))]) := hD
  refine lv_iconst (v := 0) hx hb dX5_readSigns_4 (by decide) ?_
  refine lv_istore (lv' := [(5, .int 0), (0, .ref (a 0)), (1, .ref (k (10 + i1))), (2, .int p2), (3, .int p3), (4, .ref (b4 0))]) hx hb dX5_readSigns_5 hl (by decide) rfl (fun ls hl => ?_)
  obtain ⟨I5, ⟨n5, hi5⟩, hs5⟩ := hf
  refine w_loop (G := G) (A := A) (H0 := s.heap) (nL := 7) (σ := (Int32) × (Int32) × (Int32) × (Nat → Int32)) (I := fun n v => I5 n v.1 v.2.1 v.2.2.1 v.2.2.2) (wl := fun v => (sgX5 k a v_letters v_size v.2.1 v.2.2.1 v_fault_4 ++ [(b4 0, .inl (k 0, n4, .inl v.2.2.2))])) (lv := fun v => [(0, .ref (a 0)), (1, .ref (k (10 + i1))), (2, .int p2), (3, .int p3), (4, .ref (b4 0)), (5, .int v.1)]) (st := fun _ => []) n5 (0, v_at_2, v_passed_3, p4_arr) hi5 hP hD hS (lv_sub hl [1, 2, 3, 4, 5, 0] rfl) (fun n5 v hi ih5 H locs ls hP hD hS hl => ?_)
  obtain ⟨x5_5, v_at_5, v_passed_5, p4_arr_5⟩ := v
  have hf := hs5 n5 x5_5 v_at_5 v_passed_5 p4_arr_5 hi
  have hP : va_P G vwCl (sgX5 k a v_letters v_size v_at_5 v_passed_5 v_fault_4 ++ [(b4 0, .inl (k 0, n4, .inl p4_arr_5))]) H := hP
  have hD : va_D A (sgX5 k a v_letters v_size v_at_5 v_passed_5 v_fault_4 ++ [(b4 0, .inl (k 0, n4, .inl p4_arr_5))]) := hD
  have hl : lv_has ls 7 [(0, .ref (a 0)), (1, .ref (k (10 + i1))), (2, .int p2), (3, .int p3), (4, .ref (b4 0)), (5, .int x5_5)] := hl
  refine lv_iload hx hb dX5_readSigns_7 (lv_at hl 5 rfl) ?_
  refine lv_iload_n hx hb dX5_readSigns_9 rfl (lv_at hl 3 rfl) ?_
  obtain ⟨J6, hj6, hf⟩ := hf
  refine w_join (G := G) (A := A) (H0 := s.heap) (nL := 7) (jpc := 67) (σ := (Int32)) (J := fun v => J6 v) (wl := fun v => (sgX5 k a v_letters v_size v v_passed_5 v_fault_4 ++ [(b4 0, .inl (k 0, n4, .inl p4_arr_5))])) (lv := fun v => [(0, .ref (a 0)), (2, .int p2), (5, .int x5_5)]) (st := fun v => []) (fun v hj H locs ls hP hD hS hl => ?_) (fun jn6 => ?_)
  · skip
    obtain ⟨v_at_6, rfl⟩ : ∃ z, z = v := ⟨_, rfl⟩
    have hf := hj6 v_at_6 hj
    have hP : va_P G vwCl (sgX5 k a v_letters v_size v_at_6 v_passed_5 v_fault_4 ++ [(b4 0, .inl (k 0, n4, .inl p4_arr_5))]) H := hP
    have hD : va_D A (sgX5 k a v_letters v_size v_at_6 v_passed_5 v_fault_4 ++ [(b4 0, .inl (k 0, n4, .inl p4_arr_5))]) := hD
    have hl : lv_has ls 7 [(0, .ref (a 0)), (2, .int p2), (5, .int x5_5)] := hl
    refine lv_iload hx hb dX5_readSigns_67 (lv_at hl 2 rfl) ?_
    refine lv_iload_n hx hb dX5_readSigns_69 rfl (lv_at hl 1 rfl) ?_
    refine lv_icmp_lt (tgt := 81) hx hb dX5_readSigns_70 (by decide) (fun c7 => ?_) (fun c7 => ?_)
    · have hf := hf.1 c7
      refine lv_aload_n hx hb dX5_readSigns_81 rfl (lv_at hl 0 rfl) ?_
      refine cvi (As := []) (rest := []) (wr := ([(b4 0, .inl (k 0, n4, .inl p4_arr_5))])) (wn := (fun u => (sgX5 k a v_letters v_size v_at_6 v_passed_5 v_fault_4 ++ [(b4 0, .inl (k 0, n4, .inl p4_arr_5))]))) ⟨hx, hb, hml, hown, hts⟩ (c_X5_here l G k a v_letters v_size v_at_6 v_passed_5 v_fault_4 _ hf) (cwT 0 hts mw511 mw513 mw4 mw74 mw514 rfl hd_X5_here ⟨Nat.le_of_ble_eq_true rfl, Nat.le_of_ble_eq_true rfl⟩) hK hP hD hS hX hA [0, 1] [2] [1, 2, 0] rfl rfl (by decide) (by decide) (by decide) (fun u => rfl) (by decide) rfl rfl rfl rfl hl.1 rfl (Nat.le_of_ble_eq_true rfl) dX5_readSigns_82 (Nat.zero_le _) (Nat.zero_le _) (fun r8 u H locs hf hP hD hS => ?_)
      have hP : va_P G vwCl (sgX5 k a v_letters v_size v_at_6 v_passed_5 v_fault_4 ++ [(b4 0, .inl (k 0, n4, .inl p4_arr_5))]) H := hP
      have hD : va_D A (sgX5 k a v_letters v_size v_at_6 v_passed_5 v_fault_4 ++ [(b4 0, .inl (k 0, n4, .inl p4_arr_5))]) := hD
      refine lv_goto (tgt := 90) hx hb dX5_readSigns_85 (by decide) ?_
      exact ret_i hx hb hr hlk (v_at_6, v_passed_5, v_fault_4, p4_arr_5) hf hP hD hS dX5_readSigns_90
    have hf := hf.2 c7
    refine lv_aload_n hx hb dX5_readSigns_73 rfl (lv_at hl 0 rfl) ?_
    refine cvi (As := []) (rest := []) (wr := ([(b4 0, .inl (k 0, n4, .inl p4_arr_5))])) (wn := (fun u => (sgX5 k a v_letters v_size u v_passed_5 v_fault_4 ++ [(b4 0, .inl (k 0, n4, .inl p4_arr_5))]))) ⟨hx, hb, hml, hown, hts⟩ (c_X5_next l G k a v_letters v_size v_at_6 v_passed_5 v_fault_4 _ hf) (cwT 0 hts mw421 mw423 mw3 mw74 mw424 rfl hd_X5_next ⟨Nat.le_of_ble_eq_true rfl, Nat.le_of_ble_eq_true rfl⟩) hK hP hD hS hX hA [0, 1] [2] [1, 2, 0] rfl rfl (by decide) (by decide) (by decide) (fun u => rfl) (by decide) rfl rfl rfl rfl hl.1 rfl (Nat.le_of_ble_eq_true rfl) dX5_readSigns_74 (Nat.zero_le _) (Nat.zero_le _) (fun r9 u H locs hf hP hD hS => ?_)
    obtain ⟨v_at_10, rfl⟩ : ∃ z, z = u := ⟨_, rfl⟩
    have hP : va_P G vwCl (sgX5 k a v_letters v_size v_at_10 v_passed_5 v_fault_4 ++ [(b4 0, .inl (k 0, n4, .inl p4_arr_5))]) H := hP
    have hD : va_D A (sgX5 k a v_letters v_size v_at_10 v_passed_5 v_fault_4 ++ [(b4 0, .inl (k 0, n4, .inl p4_arr_5))]) := hD
    refine lv_iconst (v := (-1)) hx hb dX5_readSigns_77 (by decide) ?_
    refine lv_icmp_eq (tgt := 88) hx hb dX5_readSigns_78 (by decide) (fun c11 => ?_) (fun c11 => ?_)
    · have hf := hf.1 c11
      refine lv_iload hx hb dX5_readSigns_88 (lv_at hl 2 rfl) ?_
      exact ret_i hx hb hr hlk (v_at_10, v_passed_5, v_fault_4, p4_arr_5) hf hP hD hS dX5_readSigns_90
    have hf := hf.2 c11
    refine lv_aload_n hx hb dX5_readSigns_81 rfl (lv_at hl 0 rfl) ?_
    refine cvi (As := []) (rest := []) (wr := ([(b4 0, .inl (k 0, n4, .inl p4_arr_5))])) (wn := (fun u => (sgX5 k a v_letters v_size v_at_10 v_passed_5 v_fault_4 ++ [(b4 0, .inl (k 0, n4, .inl p4_arr_5))]))) ⟨hx, hb, hml, hown, hts⟩ (c_X5_here l G k a v_letters v_size v_at_10 v_passed_5 v_fault_4 _ hf) (cwT 0 hts mw511 mw513 mw4 mw74 mw514 rfl hd_X5_here ⟨Nat.le_of_ble_eq_true rfl, Nat.le_of_ble_eq_true rfl⟩) hK hP hD hS hX hA [0, 1] [2] [1, 2, 0] rfl rfl (by decide) (by decide) (by decide) (fun u => rfl) (by decide) rfl rfl rfl rfl hl.1 rfl (Nat.le_of_ble_eq_true rfl) dX5_readSigns_82 (Nat.zero_le _) (Nat.zero_le _) (fun r12 u H locs hf hP hD hS => ?_)
    have hP : va_P G vwCl (sgX5 k a v_letters v_size v_at_10 v_passed_5 v_fault_4 ++ [(b4 0, .inl (k 0, n4, .inl p4_arr_5))]) H := hP
    have hD : va_D A (sgX5 k a v_letters v_size v_at_10 v_passed_5 v_fault_4 ++ [(b4 0, .inl (k 0, n4, .inl p4_arr_5))]) := hD
    refine lv_goto (tgt := 90) hx hb dX5_readSigns_85 (by decide) ?_
    exact ret_i hx hb hr hlk (v_at_10, v_passed_5, v_fault_4, p4_arr_5) hf hP hD hS dX5_readSigns_90
  refine lv_icmp_ge (tgt := 67) hx hb dX5_readSigns_10 (by decide) (fun c13 => ?_) (fun c13 => ?_)
  · have hf := hf.1 c13
    exact jn6 v_at_5 hf _ _ _ hP hD hS (lv_sub hl [0, 2, 5] rfl)
  have hf := hf.2 c13
  refine lv_iload hx hb dX5_readSigns_13 (lv_at hl 5 rfl) ?_
  refine lv_aload hx hb dX5_readSigns_15 (lv_at hl 4 rfl) ?_
  refine va_alen hx hb hK hP 2 0 rfl rfl rfl dX5_readSigns_17 ?_
  refine lv_icmp_ge (tgt := 67) hx hb dX5_readSigns_18 (by decide) (fun c14 => ?_) (fun c14 => ?_)
  · have hf := hf.1 c14
    exact jn6 v_at_5 hf _ _ _ hP hD hS (lv_sub hl [0, 2, 5] rfl)
  have hf := hf.2 c14
  refine lv_aload_n hx hb dX5_readSigns_21 rfl (lv_at hl 0 rfl) ?_
  refine cvi (As := []) (rest := []) (wr := ([(b4 0, .inl (k 0, n4, .inl p4_arr_5))])) (wn := (fun u => (sgX5 k a v_letters v_size u v_passed_5 v_fault_4 ++ [(b4 0, .inl (k 0, n4, .inl p4_arr_5))]))) ⟨hx, hb, hml, hown, hts⟩ (c_X5_next l G k a v_letters v_size v_at_5 v_passed_5 v_fault_4 _ hf) (cwT 0 hts mw421 mw423 mw3 mw74 mw424 rfl hd_X5_next ⟨Nat.le_of_ble_eq_true rfl, Nat.le_of_ble_eq_true rfl⟩) hK hP hD hS hX hA [0, 1] [2] [1, 2, 0] rfl rfl (by decide) (by decide) (by decide) (fun u => rfl) (by decide) rfl rfl rfl rfl hl.1 rfl (Nat.le_of_ble_eq_true rfl) dX5_readSigns_22 (Nat.zero_le _) (Nat.zero_le _) (fun r15 u H locs hf hP hD hS => ?_)
  obtain ⟨v_at_16, rfl⟩ : ∃ z, z = u := ⟨_, rfl⟩
  have hP : va_P G vwCl (sgX5 k a v_letters v_size v_at_16 v_passed_5 v_fault_4 ++ [(b4 0, .inl (k 0, n4, .inl p4_arr_5))]) H := hP
  have hD : va_D A (sgX5 k a v_letters v_size v_at_16 v_passed_5 v_fault_4 ++ [(b4 0, .inl (k 0, n4, .inl p4_arr_5))]) := hD
  refine lv_iconst (v := (-1)) hx hb dX5_readSigns_25 (by decide) ?_
  refine lv_icmp_eq (tgt := 67) hx hb dX5_readSigns_26 (by decide) (fun c17 => ?_) (fun c17 => ?_)
  · have hf := hf.1 c17
    exact jn6 v_at_16 hf _ _ _ hP hD hS (lv_sub hl [0, 2, 5] rfl)
  have hf := hf.2 c17
  refine lv_aload_n hx hb dX5_readSigns_29 rfl (lv_at hl 1 rfl) ?_
  refine lv_aload_n hx hb dX5_readSigns_30 rfl (lv_at hl 0 rfl) ?_
  refine cvi (As := []) (rest := [.ref (k (10 + i1))]) (wr := ([(b4 0, .inl (k 0, n4, .inl p4_arr_5))])) (wn := (fun u => (sgX5 k a v_letters v_size u v_passed_5 v_fault_4 ++ [(b4 0, .inl (k 0, n4, .inl p4_arr_5))]))) ⟨hx, hb, hml, hown, hts⟩ (c_X5_next l G k a v_letters v_size v_at_16 v_passed_5 v_fault_4 _ hf) (cwT 0 hts mw421 mw423 mw3 mw74 mw424 rfl hd_X5_next ⟨Nat.le_of_ble_eq_true rfl, Nat.le_of_ble_eq_true rfl⟩) hK hP hD hS hX hA [0, 1] [2] [1, 2, 0] rfl rfl (by decide) (by decide) (by decide) (fun u => rfl) (by decide) rfl rfl rfl rfl hl.1 rfl (Nat.le_of_ble_eq_true rfl) dX5_readSigns_31 (Nat.zero_le _) (Nat.zero_le _) (fun r18 u H locs hf hP hD hS => ?_)
  obtain ⟨v_at_19, rfl⟩ : ∃ z, z = u := ⟨_, rfl⟩
  have hP : va_P G vwCl (sgX5 k a v_letters v_size v_at_19 v_passed_5 v_fault_4 ++ [(b4 0, .inl (k 0, n4, .inl p4_arr_5))]) H := hP
  have hD : va_D A (sgX5 k a v_letters v_size v_at_19 v_passed_5 v_fault_4 ++ [(b4 0, .inl (k 0, n4, .inl p4_arr_5))]) := hD
  refine lv_i2c hx hb dX5_readSigns_34 rfl ?_
  refine cst (i := i1) (As := [.int (UInt32.toInt32 (Int32.toUInt32 r18 % 65536))]) (rest := []) ⟨hx, hb, hml, hown, hts⟩ (c_J0_indexOf_0f7a4 l G k (UInt32.toInt32 (Int32.toUInt32 r18 % 65536)) i1 _ hf) (cwT 1 hts mw425 mw426 mw427 mw79 mw428 rfl hd_J0_indexOf_0f7a4 ⟨Nat.le_of_ble_eq_true rfl, Nat.le_of_ble_eq_true rfl⟩) hK hP hS hX hA hi1 rfl hl.1 rfl (Nat.le_of_ble_eq_true rfl) dX5_readSigns_35 (Nat.zero_le _) (Nat.zero_le _) (fun r20 H locs hf hP hS => ?_)
  refine lv_istore (lv' := [(6, .int r20), (0, .ref (a 0)), (1, .ref (k (10 + i1))), (2, .int p2), (3, .int p3), (4, .ref (b4 0)), (5, .int x5_5)]) hx hb dX5_readSigns_38 hl (by decide) rfl (fun ls hl => ?_)
  refine lv_iload hx hb dX5_readSigns_40 (lv_at hl 0 rfl) ?_
  refine lv_if_ge (tgt := 50) hx hb dX5_readSigns_42 (by decide) (fun c21 => ?_) (fun c21 => ?_)
  · have hf := hf.1 c21
    refine lv_aload hx hb dX5_readSigns_50 (lv_at hl 5 rfl) ?_
    refine lv_iload hx hb dX5_readSigns_52 (lv_at hl 6 rfl) ?_
    refine lv_iload hx hb dX5_readSigns_54 (lv_at hl 0 rfl) ?_
    obtain ⟨hin, hf⟩ := hf
    refine va_iast hx hb hK hP hD hS 2 0 rfl rfl hin dX5_readSigns_56 (fun H locs hP hD hS => ?_)
    have hP : va_P G vwCl (sgX5 k a v_letters v_size v_at_19 v_passed_5 v_fault_4 ++ [(b4 0, .inl (k 0, n4, .inl (upd p4_arr_5 (Int32.toNatClampNeg x5_5) r20)))]) H := hP
    have hD : va_D A (sgX5 k a v_letters v_size v_at_19 v_passed_5 v_fault_4 ++ [(b4 0, .inl (k 0, n4, .inl (upd p4_arr_5 (Int32.toNatClampNeg x5_5) r20)))]) := hD
    generalize ef22 : (upd p4_arr_5 (Int32.toNatClampNeg x5_5) r20) = f22 at hP hD
    have hf := hf f22 ef22.symm
    refine lv_aload_n hx hb dX5_readSigns_57 rfl (lv_at hl 1 rfl) ?_
    refine cvv (As := []) (rest := []) (wr := ([(b4 0, .inl (k 0, n4, .inl f22))])) (wn := (fun u => (sgX5 k a v_letters v_size u.1 u.2 v_fault_4 ++ [(b4 0, .inl (k 0, n4, .inl f22))]))) ⟨hx, hb, hml, hown, hts⟩ (c_X5_skip l G k a v_letters v_size v_at_19 v_passed_5 v_fault_4 _ hf) (cwT 0 hts mw515 mw517 mw5 mw74 mw518 rfl hd_X5_skip ⟨Nat.le_of_ble_eq_true rfl, Nat.le_of_ble_eq_true rfl⟩) hK hP hD hS hX hA [0, 1] [2] [1, 2, 0] rfl rfl (by decide) (by decide) (by decide) (fun u => rfl) (by decide) rfl rfl rfl rfl hl.1 rfl (Nat.le_of_ble_eq_true rfl) dX5_readSigns_58 (Nat.zero_le _) (Nat.zero_le _) (fun u H locs hf hP hD hS => ?_)
    obtain ⟨v_at_24, v_passed_25⟩ := u
    have hP : va_P G vwCl (sgX5 k a v_letters v_size v_at_24 v_passed_25 v_fault_4 ++ [(b4 0, .inl (k 0, n4, .inl f22))]) H := hP
    have hD : va_D A (sgX5 k a v_letters v_size v_at_24 v_passed_25 v_fault_4 ++ [(b4 0, .inl (k 0, n4, .inl f22))]) := hD
    obtain ⟨z26, ez26⟩ : ∃ y : Int32, y = x5_5 + 1 := ⟨_, rfl⟩
    have hf := hf z26 ez26
    refine lv_iinc (v := z26) (lv' := [(5, .int z26), (6, .int r20), (0, .ref (a 0)), (1, .ref (k (10 + i1))), (2, .int p2), (3, .int p3), (4, .ref (b4 0))]) hx hb dX5_readSigns_61 hl (k := 6) rfl (by rw [ez26]; rfl) (by decide) rfl (fun ls hl => ?_)
    refine lv_goto (tgt := 7) hx hb dX5_readSigns_64 (by decide) ?_
    obtain ⟨m9, hm9, hi9⟩ := hf
    exact ih5 m9 (z26, v_at_24, v_passed_25, f22) hm9 hi9 _ _ _ hP hD hS (lv_sub hl [2, 3, 4, 5, 6, 0] rfl)
  have hf := hf.2 c21
  refine lv_aload_n hx hb dX5_readSigns_45 rfl (lv_at hl 1 rfl) ?_
  refine cvi (As := []) (rest := []) (wr := ([(b4 0, .inl (k 0, n4, .inl p4_arr_5))])) (wn := (fun u => (sgX5 k a v_letters v_size v_at_19 v_passed_5 v_fault_4 ++ [(b4 0, .inl (k 0, n4, .inl p4_arr_5))]))) ⟨hx, hb, hml, hown, hts⟩ (c_X5_here l G k a v_letters v_size v_at_19 v_passed_5 v_fault_4 _ hf) (cwT 0 hts mw511 mw513 mw4 mw74 mw514 rfl hd_X5_here ⟨Nat.le_of_ble_eq_true rfl, Nat.le_of_ble_eq_true rfl⟩) hK hP hD hS hX hA [0, 1] [2] [1, 2, 0] rfl rfl (by decide) (by decide) (by decide) (fun u => rfl) (by decide) rfl rfl rfl rfl hl.1 rfl (Nat.le_of_ble_eq_true rfl) dX5_readSigns_46 (Nat.zero_le _) (Nat.zero_le _) (fun r27 u H locs hf hP hD hS => ?_)
  have hP : va_P G vwCl (sgX5 k a v_letters v_size v_at_19 v_passed_5 v_fault_4 ++ [(b4 0, .inl (k 0, n4, .inl p4_arr_5))]) H := hP
  have hD : va_D A (sgX5 k a v_letters v_size v_at_19 v_passed_5 v_fault_4 ++ [(b4 0, .inl (k 0, n4, .inl p4_arr_5))]) := hD
  exact ret_i hx hb hr hlk (v_at_19, v_passed_5, v_fault_4, p4_arr_5) hf hP hD hS dX5_readSigns_49
def wp_X5_fails (p1 : Int32) (v_fault : Int32) (post : Int32 → (Int32) → Prop) : Prop :=
  (post 0 p1)
set_option maxHeartbeats 4000000 in
set_option maxRecDepth 100000 in
theorem c_X5_fails (l : Launch) (G : va_G) (k : Nat → ClassId) (a : Nat → Nat) (p1 : Int32) (v_letters : Nat → Int32) (v_size : Int32) (v_at : Int32) (v_passed : Int32) (v_fault : Int32) (post : Int32 → (Int32) → Prop) (hf : wp_X5_fails p1 v_fault post) : MI (S := (Int32)) l G k yX5_fails (Cond.code yX5_fails cX5_fails 2 (some .boolean) :: wT) 0 0 [.ref (a 0), .int p1] (sgX5 k a v_letters v_size v_at v_passed v_fault) (fun u => (sgX5 k a v_letters v_size v_at v_passed u)) (fun r u => post r u) := by
  refine mi_start (cc := cX5_fails) (maxL := 2) (ret := (some .boolean)) (by decide) [(0, .ref (a 0)), (1, .int p1)] rfl (Nat.le_of_ble_eq_true rfl) ?_
  intro p e s m below meth c A ls hx hb hr hlk hml hown hts hK hP hD hA hS hX hl
  have hown : s.vm.findClass RX5 = some m.cls := hown
  unfold wp_X5_fails at hf
  have hH0 : s.heap = s.heap := rfl
  refine lv_aload_n hx hb dX5_fails_0 rfl (lv_at hl 0 rfl) ?_
  refine lv_iload_n hx hb dX5_fails_1 rfl (lv_at hl 1 rfl) ?_
  refine va_put (D := G) (ci := 5) (v := .int p1) (ty := .int) (C := RX5) (T := TX5) (N := 5) hx hb hts inX5 tyX5 tyX5_ok nmX5 hown hK hP hD hS 0 rfl rfl 4 (by decide) (hts _ mw235) (fun _ h9 => h9) rfl (by decide +kernel) rfl rfl (Nat.le_of_ble_eq_true rfl) dX5_fails_2 (fun H locs hP hD hS => ?_)
  have hP : va_P G vwCl (sgX5 k a v_letters v_size v_at v_passed p1) H := hP
  have hD : va_D A (sgX5 k a v_letters v_size v_at v_passed p1) := hD
  refine lv_iconst (v := 0) hx hb dX5_fails_5 (by decide) ?_
  exact ret_z hx hb hr hlk (Or.inl rfl) p1 hf hP hD hS dX5_fails_6
def wp_X5_isDigit (p1 : Int32) (post : Int32 → Prop) : Prop :=
  ((p1 < 48 → (post 0 )) ∧
 (¬ p1 < 48 → ((57 < p1 → (post 0 )) ∧
 (¬ 57 < p1 → (post 1 )))))
set_option maxHeartbeats 4000000 in
set_option maxRecDepth 100000 in
theorem c_X5_isDigit (l : Launch) (G : va_G) (k : Nat → ClassId) (p1 : Int32) (post : Int32 → Prop) (hf : wp_X5_isDigit p1 post) : MI (S := Unit) l G k yX5_isDigit (Cond.code yX5_isDigit cX5_isDigit 1 (some .boolean) :: wT) 0 0 [.int p1] ([] : va_W) (fun u => ([] : va_W)) (fun r u => post r ) := by
  refine mi_start (cc := cX5_isDigit) (maxL := 1) (ret := (some .boolean)) (by decide) [(0, .int p1)] rfl (Nat.le_of_ble_eq_true rfl) ?_
  intro p e s m below meth c A ls hx hb hr hlk hml hown hts hK hP hD hA hS hX hl
  have hown : s.vm.findClass RX5 = some m.cls := hown
  unfold wp_X5_isDigit at hf
  have hH0 : s.heap = s.heap := rfl
  refine lv_iload_n hx hb dX5_isDigit_0 rfl (lv_at hl 0 rfl) ?_
  refine lv_bipush (v := 48) hx hb dX5_isDigit_1 (by decide) ?_
  refine lv_icmp_lt (tgt := 16) hx hb dX5_isDigit_3 (by decide) (fun c1 => ?_) (fun c1 => ?_)
  · have hf := hf.1 c1
    refine lv_iconst (v := 0) hx hb dX5_isDigit_16 (by decide) ?_
    exact ret_z hx hb hr hlk (Or.inl rfl) () hf hP hD hS dX5_isDigit_17
  have hf := hf.2 c1
  refine lv_iload_n hx hb dX5_isDigit_6 rfl (lv_at hl 0 rfl) ?_
  refine lv_bipush (v := 57) hx hb dX5_isDigit_7 (by decide) ?_
  refine lv_icmp_gt (tgt := 16) hx hb dX5_isDigit_9 (by decide) (fun c2 => ?_) (fun c2 => ?_)
  · have hf := hf.1 c2
    refine lv_iconst (v := 0) hx hb dX5_isDigit_16 (by decide) ?_
    exact ret_z hx hb hr hlk (Or.inl rfl) () hf hP hD hS dX5_isDigit_17
  have hf := hf.2 c2
  refine lv_iconst (v := 1) hx hb dX5_isDigit_12 (by decide) ?_
  refine lv_goto (tgt := 17) hx hb dX5_isDigit_13 (by decide) ?_
  exact ret_z hx hb hr hlk (Or.inr rfl) () hf hP hD hS dX5_isDigit_17
def wp_X5_number (p1 : Int32) (p2 : Int32) (v_letters : Nat → Int32) (v_size : Int32) (v_at : Int32) (v_passed : Int32) (v_fault : Int32) (post : Int32 → (Int32) → (Int32) → (Int32) → Prop) : Prop :=
  (wp_X5_next v_letters v_size v_at (fun (r1 : Int32) (v_at_2 : Int32) =>
 (wp_X5_isDigit r1 (fun (r3 : Int32) =>
 ((¬ r3 = 0 → (wp_X5_here v_passed (fun (r5 : Int32) =>
 (∃ I6 : Nat → (Int32) → (Int32) → (Int32) → Prop, (∃ n6, I6 n6 0 v_at_2 v_passed) ∧ ∀ (n6 : Nat) (x4_6 : Int32) (v_at_6 : Int32) (v_passed_6 : Int32), I6 n6 x4_6 v_at_6 v_passed_6 →
 (∃ J7 : Prop, (J7 →
 ((x4_6 < p1 → (wp_X5_fails r5 v_fault (fun (r9 : Int32) (v_fault_10 : Int32) =>
 (post (-1) v_at_6 v_passed_6 v_fault_10)))) ∧
 (¬ x4_6 < p1 → ((p2 < x4_6 → (wp_X5_fails r5 v_fault (fun (r12 : Int32) (v_fault_13 : Int32) =>
 (post (-1) v_at_6 v_passed_6 v_fault_13)))) ∧
 (¬ p2 < x4_6 → (post x4_6 v_at_6 v_passed_6 v_fault)))))) ∧
 ((v_size ≤ v_at_6 → J7) ∧
 (¬ v_size ≤ v_at_6 → (vp_in v_at_6 160 ∧ (wp_X5_isDigit (v_letters (Int32.toNatClampNeg v_at_6)) (fun (r15 : Int32) =>
 ((r15 = 0 → J7) ∧
 (¬ r15 = 0 → (vp_in v_at_6 160 ∧ (∀ z17 : Int32, z17 = (if (((x4_6 * 10) + (v_letters (Int32.toNatClampNeg v_at_6))) - 48) < 100000 then (((x4_6 * 10) + (v_letters (Int32.toNatClampNeg v_at_6))) - 48) else 100000) → (∀ z18 : Int32, z18 = (v_passed_6 + 1) → (∀ z19 : Int32, z19 = (v_at_6 + 1) → (∃ m9, m9 < n6 ∧ I6 m9 z17 z19 z18))))))))))))))))) ∧
 (r3 = 0 → (wp_X5_here v_passed (fun (r20 : Int32) =>
 (wp_X5_fails r20 v_fault (fun (r21 : Int32) (v_fault_22 : Int32) =>
 (post (-1) v_at_2 v_passed v_fault_22)))))))))))
set_option maxHeartbeats 4000000 in
set_option maxRecDepth 100000 in
theorem c_X5_number (l : Launch) (G : va_G) (k : Nat → ClassId) (a : Nat → Nat) (p1 : Int32) (p2 : Int32) (v_letters : Nat → Int32) (v_size : Int32) (v_at : Int32) (v_passed : Int32) (v_fault : Int32) (post : Int32 → (Int32) → (Int32) → (Int32) → Prop) (hf : wp_X5_number p1 p2 v_letters v_size v_at v_passed v_fault post) : MI (S := (Int32) × (Int32) × (Int32)) l G k yX5_number (Cond.code yX5_number cX5_number 5 (some .int) :: wT) 1 21 [.ref (a 0), .int p1, .int p2] (sgX5 k a v_letters v_size v_at v_passed v_fault) (fun u => (sgX5 k a v_letters v_size u.1 u.2.1 u.2.2)) (fun r u => post r u.1 u.2.1 u.2.2) := by
  refine mi_start (cc := cX5_number) (maxL := 5) (ret := (some .int)) (by decide) [(0, .ref (a 0)), (1, .int p1), (2, .int p2)] rfl (Nat.le_of_ble_eq_true rfl) ?_
  intro p e s m below meth c A ls hx hb hr hlk hml hown hts hK hP hD hA hS hX hl
  have hown : s.vm.findClass RX5 = some m.cls := hown
  unfold wp_X5_number at hf
  have hH0 : s.heap = s.heap := rfl
  refine lv_aload_n hx hb dX5_number_0 rfl (lv_at hl 0 rfl) ?_
  refine cvi (As := []) (rest := []) (wr := []) (wn := (fun u => (sgX5 k a v_letters v_size u v_passed v_fault))) ⟨hx, hb, hml, hown, hts⟩ (c_X5_next l G k a v_letters v_size v_at v_passed v_fault _ hf) (cwT 0 hts mw421 mw423 mw3 mw74 mw424 rfl hd_X5_next ⟨Nat.le_of_ble_eq_true rfl, Nat.le_of_ble_eq_true rfl⟩) hK hP hD hS hX hA [0, 1] [] [0, 1] rfl rfl (by decide) (by decide) (by decide) (fun u => rfl) (by decide) rfl rfl rfl rfl hl.1 rfl (Nat.le_of_ble_eq_true rfl) dX5_number_1 (Nat.zero_le _) (Nat.zero_le _) (fun r1 u H locs hf hP hD hS => ?_)
  obtain ⟨v_at_2, rfl⟩ : ∃ z, z = u := ⟨_, rfl⟩
  have hP : va_P G vwCl (sgX5 k a v_letters v_size v_at_2 v_passed v_fault) H := hP
  have hD : va_D A (sgX5 k a v_letters v_size v_at_2 v_passed v_fault) := hD
  refine csi (As := [.int r1]) (rest := []) ⟨hx, hb, hml, hown, hts⟩ (c_X5_isDigit l G k r1 _ hf) (csT 1 hts mw554 mw555 mw74 mw556 hd_X5_isDigit ⟨Nat.le_of_ble_eq_true rfl, Nat.le_of_ble_eq_true rfl⟩) hK hP hS hX hA rfl hl.1 rfl (Nat.le_of_ble_eq_true rfl) dX5_number_4 (Nat.zero_le _) (Nat.zero_le _) (fun r3 H locs hf hP hS => ?_)
  refine lv_if_ne (tgt := 21) hx hb dX5_number_7 (by decide) (fun c4 => ?_) (fun c4 => ?_)
  · have hf := hf.1 c4
    refine lv_aload_n hx hb dX5_number_21 rfl (lv_at hl 0 rfl) ?_
    refine cvi (As := []) (rest := []) (wr := []) (wn := (fun u => (sgX5 k a v_letters v_size v_at_2 v_passed v_fault))) ⟨hx, hb, hml, hown, hts⟩ (c_X5_here l G k a v_letters v_size v_at_2 v_passed v_fault _ hf) (cwT 0 hts mw511 mw513 mw4 mw74 mw514 rfl hd_X5_here ⟨Nat.le_of_ble_eq_true rfl, Nat.le_of_ble_eq_true rfl⟩) hK hP hD hS hX hA [0, 1] [] [0, 1] rfl rfl (by decide) (by decide) (by decide) (fun u => rfl) (by decide) rfl rfl rfl rfl hl.1 rfl (Nat.le_of_ble_eq_true rfl) dX5_number_22 (Nat.zero_le _) (Nat.zero_le _) (fun r5 u H locs hf hP hD hS => ?_)
    have hP : va_P G vwCl (sgX5 k a v_letters v_size v_at_2 v_passed v_fault) H := hP
    have hD : va_D A (sgX5 k a v_letters v_size v_at_2 v_passed v_fault) := hD
    refine lv_istore_n (lv' := [(3, .int r5), (0, .ref (a 0)), (1, .int p1), (2, .int p2)]) hx hb dX5_number_25 rfl hl (by decide) rfl (fun ls hl => ?_)
    refine lv_iconst (v := 0) hx hb dX5_number_26 (by decide) ?_
    refine lv_istore (lv' := [(4, .int 0), (3, .int r5), (0, .ref (a 0)), (1, .int p1), (2, .int p2)]) hx hb dX5_number_27 hl (by decide) rfl (fun ls hl => ?_)
    obtain ⟨I6, ⟨n6, hi6⟩, hs6⟩ := hf
    refine w_loop (G := G) (A := A) (H0 := s.heap) (nL := 5) (σ := (Int32) × (Int32) × (Int32)) (I := fun n v => I6 n v.1 v.2.1 v.2.2) (wl := fun v => (sgX5 k a v_letters v_size v.2.1 v.2.2 v_fault)) (lv := fun v => [(0, .ref (a 0)), (1, .int p1), (2, .int p2), (3, .int r5), (4, .int v.1)]) (st := fun _ => []) n6 (0, v_at_2, v_passed) hi6 hP hD hS (lv_sub hl [2, 3, 4, 1, 0] rfl) (fun n6 v hi ih6 H locs ls hP hD hS hl => ?_)
    obtain ⟨x4_6, v_at_6, v_passed_6⟩ := v
    have hf := hs6 n6 x4_6 v_at_6 v_passed_6 hi
    have hP : va_P G vwCl (sgX5 k a v_letters v_size v_at_6 v_passed_6 v_fault) H := hP
    have hD : va_D A (sgX5 k a v_letters v_size v_at_6 v_passed_6 v_fault) := hD
    have hl : lv_has ls 5 [(0, .ref (a 0)), (1, .int p1), (2, .int p2), (3, .int r5), (4, .int x4_6)] := hl
    refine lv_aload_n hx hb dX5_number_29 rfl (lv_at hl 0 rfl) ?_
    refine va_get (D := G) (ci := 5) (v := .int v_at_6) (C := RX5) (T := TX5) (N := 5) hx hb hts inX5 hown hK hP 0 rfl rfl 2 (by decide) (hts _ mw233) (fun _ h9 => h9) rfl dX5_number_30 ?_
    refine lv_aload_n hx hb dX5_number_33 rfl (lv_at hl 0 rfl) ?_
    refine va_get (D := G) (ci := 5) (v := .int v_size) (C := RX5) (T := TX5) (N := 5) hx hb hts inX5 hown hK hP 0 rfl rfl 1 (by decide) (hts _ mw231) (fun _ h9 => h9) rfl dX5_number_34 ?_
    obtain ⟨J7, hj7, hf⟩ := hf
    refine w_join (G := G) (A := A) (H0 := s.heap) (nL := 5) (jpc := 103) (σ := Unit) (J := fun v => J7 ) (wl := fun v => (sgX5 k a v_letters v_size v_at_6 v_passed_6 v_fault)) (lv := fun v => [(0, .ref (a 0)), (1, .int p1), (2, .int p2), (3, .int r5), (4, .int x4_6)]) (st := fun v => []) (fun v hj H locs ls hP hD hS hl => ?_) (fun jn7 => ?_)
    · skip
      have hf := hj7  hj
      have hP : va_P G vwCl (sgX5 k a v_letters v_size v_at_6 v_passed_6 v_fault) H := hP
      have hD : va_D A (sgX5 k a v_letters v_size v_at_6 v_passed_6 v_fault) := hD
      have hl : lv_has ls 5 [(0, .ref (a 0)), (1, .int p1), (2, .int p2), (3, .int r5), (4, .int x4_6)] := hl
      refine lv_iload hx hb dX5_number_103 (lv_at hl 4 rfl) ?_
      refine lv_iload_n hx hb dX5_number_105 rfl (lv_at hl 1 rfl) ?_
      refine lv_icmp_lt (tgt := 118) hx hb dX5_number_106 (by decide) (fun c8 => ?_) (fun c8 => ?_)
      · have hf := hf.1 c8
        refine lv_aload_n hx hb dX5_number_118 rfl (lv_at hl 0 rfl) ?_
        refine lv_iload_n hx hb dX5_number_119 rfl (lv_at hl 3 rfl) ?_
        refine cvi (As := [.int r5]) (rest := []) (wr := []) (wn := (fun u => (sgX5 k a v_letters v_size v_at_6 v_passed_6 u))) ⟨hx, hb, hml, hown, hts⟩ (c_X5_fails l G k a r5 v_letters v_size v_at_6 v_passed_6 v_fault _ hf) (cwT 1 hts mw546 mw548 mw7 mw74 mw549 rfl hd_X5_fails ⟨Nat.le_of_ble_eq_true rfl, Nat.le_of_ble_eq_true rfl⟩) hK hP hD hS hX hA [0, 1] [] [0, 1] rfl rfl (by decide) (by decide) (by decide) (fun u => rfl) (by decide) rfl rfl rfl rfl hl.1 rfl (Nat.le_of_ble_eq_true rfl) dX5_number_120 (Nat.zero_le _) (Nat.zero_le _) (fun r9 u H locs hf hP hD hS => ?_)
        obtain ⟨v_fault_10, rfl⟩ : ∃ z, z = u := ⟨_, rfl⟩
        have hP : va_P G vwCl (sgX5 k a v_letters v_size v_at_6 v_passed_6 v_fault_10) H := hP
        have hD : va_D A (sgX5 k a v_letters v_size v_at_6 v_passed_6 v_fault_10) := hD
        refine lv_pop hx hb dX5_number_123 rfl ?_
        refine lv_iconst (v := (-1)) hx hb dX5_number_124 (by decide) ?_
        exact ret_i hx hb hr hlk (v_at_6, v_passed_6, v_fault_10) hf hP hD hS dX5_number_125
      have hf := hf.2 c8
      refine lv_iload hx hb dX5_number_109 (lv_at hl 4 rfl) ?_
      refine lv_iload_n hx hb dX5_number_111 rfl (lv_at hl 2 rfl) ?_
      refine lv_icmp_gt (tgt := 118) hx hb dX5_number_112 (by decide) (fun c11 => ?_) (fun c11 => ?_)
      · have hf := hf.1 c11
        refine lv_aload_n hx hb dX5_number_118 rfl (lv_at hl 0 rfl) ?_
        refine lv_iload_n hx hb dX5_number_119 rfl (lv_at hl 3 rfl) ?_
        refine cvi (As := [.int r5]) (rest := []) (wr := []) (wn := (fun u => (sgX5 k a v_letters v_size v_at_6 v_passed_6 u))) ⟨hx, hb, hml, hown, hts⟩ (c_X5_fails l G k a r5 v_letters v_size v_at_6 v_passed_6 v_fault _ hf) (cwT 1 hts mw546 mw548 mw7 mw74 mw549 rfl hd_X5_fails ⟨Nat.le_of_ble_eq_true rfl, Nat.le_of_ble_eq_true rfl⟩) hK hP hD hS hX hA [0, 1] [] [0, 1] rfl rfl (by decide) (by decide) (by decide) (fun u => rfl) (by decide) rfl rfl rfl rfl hl.1 rfl (Nat.le_of_ble_eq_true rfl) dX5_number_120 (Nat.zero_le _) (Nat.zero_le _) (fun r12 u H locs hf hP hD hS => ?_)
        obtain ⟨v_fault_13, rfl⟩ : ∃ z, z = u := ⟨_, rfl⟩
        have hP : va_P G vwCl (sgX5 k a v_letters v_size v_at_6 v_passed_6 v_fault_13) H := hP
        have hD : va_D A (sgX5 k a v_letters v_size v_at_6 v_passed_6 v_fault_13) := hD
        refine lv_pop hx hb dX5_number_123 rfl ?_
        refine lv_iconst (v := (-1)) hx hb dX5_number_124 (by decide) ?_
        exact ret_i hx hb hr hlk (v_at_6, v_passed_6, v_fault_13) hf hP hD hS dX5_number_125
      have hf := hf.2 c11
      refine lv_iload hx hb dX5_number_115 (lv_at hl 4 rfl) ?_
      exact ret_i hx hb hr hlk (v_at_6, v_passed_6, v_fault) hf hP hD hS dX5_number_117
    refine lv_icmp_ge (tgt := 103) hx hb dX5_number_37 (by decide) (fun c14 => ?_) (fun c14 => ?_)
    · have hf := hf.1 c14
      exact jn7 () hf _ _ _ hP hD hS (lv_sub hl [0, 1, 2, 3, 4] rfl)
    have hf := hf.2 c14
    refine lv_aload_n hx hb dX5_number_40 rfl (lv_at hl 0 rfl) ?_
    refine va_get (D := G) (ci := 5) (v := .ref (a 1)) (C := RX5) (T := TX5) (N := 5) hx hb hts inX5 hown hK hP 0 rfl rfl 0 (by decide) (hts _ mw229) (fun _ h9 => h9) rfl dX5_number_41 ?_
    refine lv_aload_n hx hb dX5_number_44 rfl (lv_at hl 0 rfl) ?_
    refine va_get (D := G) (ci := 5) (v := .int v_at_6) (C := RX5) (T := TX5) (N := 5) hx hb hts inX5 hown hK hP 0 rfl rfl 2 (by decide) (hts _ mw233) (fun _ h9 => h9) rfl dX5_number_45 ?_
    obtain ⟨hin, hf⟩ := hf
    refine va_cald hx hb hK hP 1 1 rfl rfl hin dX5_number_48 ?_
    refine csi (As := [.int (v_letters (Int32.toNatClampNeg v_at_6))]) (rest := []) ⟨hx, hb, hml, hown, hts⟩ (c_X5_isDigit l G k (v_letters (Int32.toNatClampNeg v_at_6)) _ hf) (csT 1 hts mw554 mw555 mw74 mw556 hd_X5_isDigit ⟨Nat.le_of_ble_eq_true rfl, Nat.le_of_ble_eq_true rfl⟩) hK hP hS hX hA rfl hl.1 rfl (Nat.le_of_ble_eq_true rfl) dX5_number_49 (Nat.zero_le _) (Nat.zero_le _) (fun r15 H locs hf hP hS => ?_)
    refine lv_if_eq (tgt := 103) hx hb dX5_number_52 (by decide) (fun c16 => ?_) (fun c16 => ?_)
    · have hf := hf.1 c16
      exact jn7 () hf _ _ _ hP hD hS (lv_sub hl [0, 1, 2, 3, 4] rfl)
    have hf := hf.2 c16
    refine lv_ldc hx hb hown (hts _ mw557) dX5_number_55 ?_
    refine lv_iload hx hb dX5_number_57 (lv_at hl 4 rfl) ?_
    refine lv_bipush (v := 10) hx hb dX5_number_59 (by decide) ?_
    refine lv_imul hx hb dX5_number_61 ?_
    refine lv_aload_n hx hb dX5_number_62 rfl (lv_at hl 0 rfl) ?_
    refine va_get (D := G) (ci := 5) (v := .ref (a 1)) (C := RX5) (T := TX5) (N := 5) hx hb hts inX5 hown hK hP 0 rfl rfl 0 (by decide) (hts _ mw229) (fun _ h9 => h9) rfl dX5_number_63 ?_
    refine lv_aload_n hx hb dX5_number_66 rfl (lv_at hl 0 rfl) ?_
    refine va_get (D := G) (ci := 5) (v := .int v_at_6) (C := RX5) (T := TX5) (N := 5) hx hb hts inX5 hown hK hP 0 rfl rfl 2 (by decide) (hts _ mw233) (fun _ h9 => h9) rfl dX5_number_67 ?_
    obtain ⟨hin, hf⟩ := hf
    refine va_cald hx hb hK hP 1 1 rfl rfl hin dX5_number_70 ?_
    refine lv_iadd hx hb dX5_number_71 ?_
    refine lv_bipush (v := 48) hx hb dX5_number_72 (by decide) ?_
    refine lv_isub hx hb dX5_number_74 ?_
    refine va_mmin hx hb (hml.trans hl.1.symm) hown (hts _ mw558) (hts _ mw457) (hts _ mw81) (hts _ mw458) (Nat.le_of_ble_eq_true rfl) (Nat.le_of_ble_eq_true rfl) (Nat.zero_le _) (Nat.zero_le _) dX5_number_75 ?_
    refine lv_topi (fun z17 ez17 => ?_)
    have hf := hf z17 ez17
    refine lv_istore (lv' := [(4, .int z17), (0, .ref (a 0)), (1, .int p1), (2, .int p2), (3, .int r5)]) hx hb dX5_number_78 hl (by decide) rfl (fun ls hl => ?_)
    refine lv_aload_n hx hb dX5_number_80 rfl (lv_at hl 1 rfl) ?_
    refine lv_dup hx hb dX5_number_81 rfl ?_
    refine va_get (D := G) (ci := 5) (v := .int v_passed_6) (C := RX5) (T := TX5) (N := 5) hx hb hts inX5 hown hK hP 0 rfl rfl 3 (by decide) (hts _ mw234) (fun _ h9 => h9) rfl dX5_number_82 ?_
    refine lv_iconst (v := 1) hx hb dX5_number_85 (by decide) ?_
    refine lv_iadd hx hb dX5_number_86 ?_
    refine lv_topi (fun z18 ez18 => ?_)
    have hf := hf z18 ez18
    refine va_put (D := G) (ci := 5) (v := .int z18) (ty := .int) (C := RX5) (T := TX5) (N := 5) hx hb hts inX5 tyX5 tyX5_ok nmX5 hown hK hP hD hS 0 rfl rfl 3 (by decide) (hts _ mw234) (fun _ h9 => h9) rfl (by decide +kernel) rfl rfl (Nat.le_of_ble_eq_true rfl) dX5_number_87 (fun H locs hP hD hS => ?_)
    have hP : va_P G vwCl (sgX5 k a v_letters v_size v_at_6 z18 v_fault) H := hP
    have hD : va_D A (sgX5 k a v_letters v_size v_at_6 z18 v_fault) := hD
    refine lv_aload_n hx hb dX5_number_90 rfl (lv_at hl 1 rfl) ?_
    refine lv_dup hx hb dX5_number_91 rfl ?_
    refine va_get (D := G) (ci := 5) (v := .int v_at_6) (C := RX5) (T := TX5) (N := 5) hx hb hts inX5 hown hK hP 0 rfl rfl 2 (by decide) (hts _ mw233) (fun _ h9 => h9) rfl dX5_number_92 ?_
    refine lv_iconst (v := 1) hx hb dX5_number_95 (by decide) ?_
    refine lv_iadd hx hb dX5_number_96 ?_
    refine lv_topi (fun z19 ez19 => ?_)
    have hf := hf z19 ez19
    refine va_put (D := G) (ci := 5) (v := .int z19) (ty := .int) (C := RX5) (T := TX5) (N := 5) hx hb hts inX5 tyX5 tyX5_ok nmX5 hown hK hP hD hS 0 rfl rfl 2 (by decide) (hts _ mw233) (fun _ h9 => h9) rfl (by decide +kernel) rfl rfl (Nat.le_of_ble_eq_true rfl) dX5_number_97 (fun H locs hP hD hS => ?_)
    have hP : va_P G vwCl (sgX5 k a v_letters v_size z19 z18 v_fault) H := hP
    have hD : va_D A (sgX5 k a v_letters v_size z19 z18 v_fault) := hD
    refine lv_goto (tgt := 29) hx hb dX5_number_100 (by decide) ?_
    obtain ⟨m9, hm9, hi9⟩ := hf
    exact ih6 m9 (z17, z19, z18) hm9 hi9 _ _ _ hP hD hS (lv_sub hl [1, 2, 3, 4, 0] rfl)
  have hf := hf.2 c4
  refine lv_aload_n hx hb dX5_number_10 rfl (lv_at hl 0 rfl) ?_
  refine lv_aload_n hx hb dX5_number_11 rfl (lv_at hl 0 rfl) ?_
  refine cvi (As := []) (rest := [.ref (a 0)]) (wr := []) (wn := (fun u => (sgX5 k a v_letters v_size v_at_2 v_passed v_fault))) ⟨hx, hb, hml, hown, hts⟩ (c_X5_here l G k a v_letters v_size v_at_2 v_passed v_fault _ hf) (cwT 0 hts mw511 mw513 mw4 mw74 mw514 rfl hd_X5_here ⟨Nat.le_of_ble_eq_true rfl, Nat.le_of_ble_eq_true rfl⟩) hK hP hD hS hX hA [0, 1] [] [0, 1] rfl rfl (by decide) (by decide) (by decide) (fun u => rfl) (by decide) rfl rfl rfl rfl hl.1 rfl (Nat.le_of_ble_eq_true rfl) dX5_number_12 (Nat.zero_le _) (Nat.zero_le _) (fun r20 u H locs hf hP hD hS => ?_)
  have hP : va_P G vwCl (sgX5 k a v_letters v_size v_at_2 v_passed v_fault) H := hP
  have hD : va_D A (sgX5 k a v_letters v_size v_at_2 v_passed v_fault) := hD
  refine cvi (As := [.int r20]) (rest := []) (wr := []) (wn := (fun u => (sgX5 k a v_letters v_size v_at_2 v_passed u))) ⟨hx, hb, hml, hown, hts⟩ (c_X5_fails l G k a r20 v_letters v_size v_at_2 v_passed v_fault _ hf) (cwT 1 hts mw546 mw548 mw7 mw74 mw549 rfl hd_X5_fails ⟨Nat.le_of_ble_eq_true rfl, Nat.le_of_ble_eq_true rfl⟩) hK hP hD hS hX hA [0, 1] [] [0, 1] rfl rfl (by decide) (by decide) (by decide) (fun u => rfl) (by decide) rfl rfl rfl rfl hl.1 rfl (Nat.le_of_ble_eq_true rfl) dX5_number_15 (Nat.zero_le _) (Nat.zero_le _) (fun r21 u H locs hf hP hD hS => ?_)
  obtain ⟨v_fault_22, rfl⟩ : ∃ z, z = u := ⟨_, rfl⟩
  have hP : va_P G vwCl (sgX5 k a v_letters v_size v_at_2 v_passed v_fault_22) H := hP
  have hD : va_D A (sgX5 k a v_letters v_size v_at_2 v_passed v_fault_22) := hD
  refine lv_pop hx hb dX5_number_18 rfl ?_
  refine lv_iconst (v := (-1)) hx hb dX5_number_19 (by decide) ?_
  exact ret_i hx hb hr hlk (v_at_2, v_passed, v_fault_22) hf hP hD hS dX5_number_20
def wp_X5_readClock (v_letters : Nat → Int32) (v_size : Int32) (v_at : Int32) (v_passed : Int32) (v_fault : Int32) (p1_clocks : Int32) (p1_kind : Nat → Int32) (p1_hands : Nat → Int32) (p1_rate : Nat → Int32) (p1_spring : Nat → Int32) (p1_window : Nat → Int32) (p1_finish : Nat → Int32) (post : Int32 → (Int32) → (Int32) → (Int32) → (Int32) → (Nat → Int32) → (Nat → Int32) → (Nat → Int32) → (Nat → Int32) → (Nat → Int32) → (Nat → Int32) → Prop) : Prop :=
  (wp_X5_next v_letters v_size v_at (fun (r1 : Int32) (v_at_2 : Int32) =>
 (∃ J3 : (Int32) → (Int32) → Prop, (∀ (v_at_3 : Int32) (y0_3 : Int32), J3 v_at_3 y0_3 →
 ((0 ≤ y0_3 → (wp_X5_skip v_at_3 v_passed (fun (v_at_6 : Int32) (v_passed_7 : Int32) =>
 (wp_X5_number 0 719 v_letters v_size v_at_6 v_passed_7 v_fault (fun (r8 : Int32) (v_at_9 : Int32) (v_passed_10 : Int32) (v_fault_11 : Int32) =>
 ((0 ≤ r8 → (wp_X5_next v_letters v_size v_at_9 (fun (r13 : Int32) (v_at_14 : Int32) =>
 (∃ J15 : (Int32) → (Int32) → (Int32) → (Int32) → Prop, (∀ (x4_15 : Int32) (v_at_15 : Int32) (v_passed_15 : Int32) (v_fault_15 : Int32), J15 x4_15 v_at_15 v_passed_15 v_fault_15 →
 (wp_X5_next v_letters v_size v_at_15 (fun (r16 : Int32) (v_at_17 : Int32) =>
 ((¬ r16 = 42 → (wp_X2_add y0_3 r8 x4_15 0 p1_clocks p1_kind p1_hands p1_rate p1_spring p1_window p1_finish (fun (r19 : Int32) (p1_clocks_20 : Int32) (p1_kind_21 : Nat → Int32) (p1_hands_22 : Nat → Int32) (p1_rate_23 : Nat → Int32) (p1_spring_24 : Nat → Int32) (p1_window_25 : Nat → Int32) (p1_finish_26 : Nat → Int32) =>
 (post 1 v_at_17 v_passed_15 v_fault_15 p1_clocks_20 p1_kind_21 p1_hands_22 p1_rate_23 p1_spring_24 p1_window_25 p1_finish_26)))) ∧
 (r16 = 42 → (wp_X5_skip v_at_17 v_passed_15 (fun (v_at_28 : Int32) (v_passed_29 : Int32) =>
 (wp_X5_number 0 99 v_letters v_size v_at_28 v_passed_29 v_fault_15 (fun (r30 : Int32) (v_at_31 : Int32) (v_passed_32 : Int32) (v_fault_33 : Int32) =>
 ((0 ≤ r30 → (wp_X2_add y0_3 r8 x4_15 r30 p1_clocks p1_kind p1_hands p1_rate p1_spring p1_window p1_finish (fun (r35 : Int32) (p1_clocks_36 : Int32) (p1_kind_37 : Nat → Int32) (p1_hands_38 : Nat → Int32) (p1_rate_39 : Nat → Int32) (p1_spring_40 : Nat → Int32) (p1_window_41 : Nat → Int32) (p1_finish_42 : Nat → Int32) =>
 (post 1 v_at_31 v_passed_32 v_fault_33 p1_clocks_36 p1_kind_37 p1_hands_38 p1_rate_39 p1_spring_40 p1_window_41 p1_finish_42)))) ∧
 (¬ 0 ≤ r30 → (post 0 v_at_31 v_passed_32 v_fault_33 p1_clocks p1_kind p1_hands p1_rate p1_spring p1_window p1_finish)))))))))))) ∧
 (∃ J43 : (Int32) → Prop, (∀ (v_at_43 : Int32), J43 v_at_43 →
 (wp_X5_next v_letters v_size v_at_43 (fun (r44 : Int32) (v_at_45 : Int32) =>
 (∃ J46 : (Int32) → Prop, (∀ (y0_46 : Int32), J46 y0_46 →
 (wp_X5_skip v_at_45 v_passed_10 (fun (v_at_48 : Int32) (v_passed_49 : Int32) =>
 (wp_X5_number 0 30 v_letters v_size v_at_48 v_passed_49 v_fault_11 (fun (r50 : Int32) (v_at_51 : Int32) (v_passed_52 : Int32) (v_fault_53 : Int32) =>
 ((0 ≤ r50 → (∀ z55 : Int32, z55 = (r50 * y0_46) → (J15 z55 v_at_51 v_passed_52 v_fault_53))) ∧
 (¬ 0 ≤ r50 → (post 0 v_at_51 v_passed_52 v_fault_53 p1_clocks p1_kind p1_hands p1_rate p1_spring p1_window p1_finish)))))))) ∧
 ((¬ r44 = 43 → (J46 (-1))) ∧
 (r44 = 43 → (J46 1))))))) ∧
 ((r13 = 43 → (J43 v_at_14)) ∧
 (¬ r13 = 43 → (wp_X5_next v_letters v_size v_at_14 (fun (r58 : Int32) (v_at_59 : Int32) =>
 ((¬ r58 = 45 → (J15 0 v_at_59 v_passed_10 v_fault_11)) ∧
 (r58 = 45 → (J43 v_at_59)))))))))))) ∧
 (¬ 0 ≤ r8 → (post 0 v_at_9 v_passed_10 v_fault_11 p1_clocks p1_kind p1_hands p1_rate p1_spring p1_window p1_finish)))))))) ∧
 (¬ 0 ≤ y0_3 → (wp_X5_here v_passed (fun (r61 : Int32) =>
 (wp_X5_fails r61 v_fault (fun (r62 : Int32) (v_fault_63 : Int32) =>
 ((r62 = 0 ∨ r62 = 1) ∧ post r62 v_at_3 v_passed v_fault_63 p1_clocks p1_kind p1_hands p1_rate p1_spring p1_window p1_finish)))))))) ∧
 ((¬ r1 = (-1) → (wp_X5_next v_letters v_size v_at_2 (fun (r65 : Int32) (v_at_66 : Int32) =>
 (wp_J0_indexOf_0f7a4 (UInt32.toInt32 (Int32.toUInt32 r65 % 65536)) 2 (fun (r67 : Int32) =>
 (J3 v_at_66 r67)))))) ∧
 (r1 = (-1) → (J3 v_at_2 (-1)))))))
set_option maxHeartbeats 4000000 in
set_option maxRecDepth 100000 in
theorem c_X5_readClock (l : Launch) (G : va_G) (k : Nat → ClassId) (a : Nat → Nat) (b1 : Nat → Nat) (v_letters : Nat → Int32) (v_size : Int32) (v_at : Int32) (v_passed : Int32) (v_fault : Int32) (p1_windows : Int32) (p1_dials : Nat → Int32) (p1_clocks : Int32) (p1_kind : Nat → Int32) (p1_hands : Nat → Int32) (p1_rate : Nat → Int32) (p1_spring : Nat → Int32) (p1_window : Nat → Int32) (p1_finish : Nat → Int32) (p1_skies : Int32) (p1_sky : Nat → Int32) (p1_hour : Int32) (p1_heard : Int32) (p1_strokes : Int32) (post : Int32 → (Int32) → (Int32) → (Int32) → (Int32) → (Nat → Int32) → (Nat → Int32) → (Nat → Int32) → (Nat → Int32) → (Nat → Int32) → (Nat → Int32) → Prop) (hf : wp_X5_readClock v_letters v_size v_at v_passed v_fault p1_clocks p1_kind p1_hands p1_rate p1_spring p1_window p1_finish post) : MI (S := (Int32) × (Int32) × (Int32) × (Int32) × (Nat → Int32) × (Nat → Int32) × (Nat → Int32) × (Nat → Int32) × (Nat → Int32) × (Nat → Int32)) l G k yX5_readClock (Cond.code yX5_readClock cX5_readClock 6 (some .boolean) :: wT) 4 91 [.ref (a 0), .ref (b1 0)] (sgX5 k a v_letters v_size v_at v_passed v_fault ++ sgX2 k b1 p1_windows p1_dials p1_clocks p1_kind p1_hands p1_rate p1_spring p1_window p1_finish p1_skies p1_sky p1_hour p1_heard p1_strokes) (fun u => (sgX5 k a v_letters v_size u.1 u.2.1 u.2.2.1 ++ sgX2 k b1 p1_windows p1_dials u.2.2.2.1 u.2.2.2.2.1 u.2.2.2.2.2.1 u.2.2.2.2.2.2.1 u.2.2.2.2.2.2.2.1 u.2.2.2.2.2.2.2.2.1 u.2.2.2.2.2.2.2.2.2 p1_skies p1_sky p1_hour p1_heard p1_strokes)) (fun r u => post r u.1 u.2.1 u.2.2.1 u.2.2.2.1 u.2.2.2.2.1 u.2.2.2.2.2.1 u.2.2.2.2.2.2.1 u.2.2.2.2.2.2.2.1 u.2.2.2.2.2.2.2.2.1 u.2.2.2.2.2.2.2.2.2) := by
  refine mi_start (cc := cX5_readClock) (maxL := 6) (ret := (some .boolean)) (by decide) [(0, .ref (a 0)), (1, .ref (b1 0))] rfl (Nat.le_of_ble_eq_true rfl) ?_
  intro p e s m below meth c A ls hx hb hr hlk hml hown hts hK hP hD hA hS hX hl
  have hown : s.vm.findClass RX5 = some m.cls := hown
  unfold wp_X5_readClock at hf
  have hH0 : s.heap = s.heap := rfl
  refine lv_aload_n hx hb dX5_readClock_0 rfl (lv_at hl 0 rfl) ?_
  refine cvi (As := []) (rest := []) (wr := (sgX2 k b1 p1_windows p1_dials p1_clocks p1_kind p1_hands p1_rate p1_spring p1_window p1_finish p1_skies p1_sky p1_hour p1_heard p1_strokes)) (wn := (fun u => (sgX5 k a v_letters v_size u v_passed v_fault ++ sgX2 k b1 p1_windows p1_dials p1_clocks p1_kind p1_hands p1_rate p1_spring p1_window p1_finish p1_skies p1_sky p1_hour p1_heard p1_strokes))) ⟨hx, hb, hml, hown, hts⟩ (c_X5_next l G k a v_letters v_size v_at v_passed v_fault _ hf) (cwT 0 hts mw421 mw423 mw3 mw74 mw424 rfl hd_X5_next ⟨Nat.le_of_ble_eq_true rfl, Nat.le_of_ble_eq_true rfl⟩) hK hP hD hS hX hA [0, 1] [2, 3, 4, 5, 6, 7, 8, 9, 10] [9, 10, 0, 1, 2, 3, 4, 5, 6, 7, 8] rfl rfl (by decide) (by decide) (by decide) (fun u => rfl) (by decide) rfl rfl rfl rfl hl.1 rfl (Nat.le_of_ble_eq_true rfl) dX5_readClock_1 (Nat.zero_le _) (Nat.zero_le _) (fun r1 u H locs hf hP hD hS => ?_)
  obtain ⟨v_at_2, rfl⟩ : ∃ z, z = u := ⟨_, rfl⟩
  have hP : va_P G vwCl (sgX5 k a v_letters v_size v_at_2 v_passed v_fault ++ sgX2 k b1 p1_windows p1_dials p1_clocks p1_kind p1_hands p1_rate p1_spring p1_window p1_finish p1_skies p1_sky p1_hour p1_heard p1_strokes) H := hP
  have hD : va_D A (sgX5 k a v_letters v_size v_at_2 v_passed v_fault ++ sgX2 k b1 p1_windows p1_dials p1_clocks p1_kind p1_hands p1_rate p1_spring p1_window p1_finish p1_skies p1_sky p1_hour p1_heard p1_strokes) := hD
  refine lv_iconst (v := (-1)) hx hb dX5_readClock_4 (by decide) ?_
  obtain ⟨J3, hj3, hf⟩ := hf
  refine w_join (G := G) (A := A) (H0 := s.heap) (nL := 6) (jpc := 22) (σ := (Int32) × (Int32)) (J := fun v => J3 v.1 v.2) (wl := fun v => (sgX5 k a v_letters v_size v.1 v_passed v_fault ++ sgX2 k b1 p1_windows p1_dials p1_clocks p1_kind p1_hands p1_rate p1_spring p1_window p1_finish p1_skies p1_sky p1_hour p1_heard p1_strokes)) (lv := fun v => [(0, .ref (a 0)), (1, .ref (b1 0))]) (st := fun v => [.int v.2]) (fun v hj H locs ls hP hD hS hl => ?_) (fun jn3 => ?_)
  · skip
    obtain ⟨v_at_3, y0_3⟩ := v
    have hf := hj3 v_at_3 y0_3 hj
    have hP : va_P G vwCl (sgX5 k a v_letters v_size v_at_3 v_passed v_fault ++ sgX2 k b1 p1_windows p1_dials p1_clocks p1_kind p1_hands p1_rate p1_spring p1_window p1_finish p1_skies p1_sky p1_hour p1_heard p1_strokes) H := hP
    have hD : va_D A (sgX5 k a v_letters v_size v_at_3 v_passed v_fault ++ sgX2 k b1 p1_windows p1_dials p1_clocks p1_kind p1_hands p1_rate p1_spring p1_window p1_finish p1_skies p1_sky p1_hour p1_heard p1_strokes) := hD
    have hl : lv_has ls 6 [(0, .ref (a 0)), (1, .ref (b1 0))] := hl
    refine lv_istore_n (lv' := [(2, .int y0_3), (0, .ref (a 0)), (1, .ref (b1 0))]) hx hb dX5_readClock_22 rfl hl (by decide) rfl (fun ls hl => ?_)
    refine lv_iload_n hx hb dX5_readClock_23 rfl (lv_at hl 0 rfl) ?_
    refine lv_if_ge (tgt := 36) hx hb dX5_readClock_24 (by decide) (fun c4 => ?_) (fun c4 => ?_)
    · have hf := hf.1 c4
      refine lv_aload_n hx hb dX5_readClock_36 rfl (lv_at hl 1 rfl) ?_
      refine cvv (As := []) (rest := []) (wr := (sgX2 k b1 p1_windows p1_dials p1_clocks p1_kind p1_hands p1_rate p1_spring p1_window p1_finish p1_skies p1_sky p1_hour p1_heard p1_strokes)) (wn := (fun u => (sgX5 k a v_letters v_size u.1 u.2 v_fault ++ sgX2 k b1 p1_windows p1_dials p1_clocks p1_kind p1_hands p1_rate p1_spring p1_window p1_finish p1_skies p1_sky p1_hour p1_heard p1_strokes))) ⟨hx, hb, hml, hown, hts⟩ (c_X5_skip l G k a v_letters v_size v_at_3 v_passed v_fault _ hf) (cwT 0 hts mw515 mw517 mw5 mw74 mw518 rfl hd_X5_skip ⟨Nat.le_of_ble_eq_true rfl, Nat.le_of_ble_eq_true rfl⟩) hK hP hD hS hX hA [0, 1] [2, 3, 4, 5, 6, 7, 8, 9, 10] [9, 10, 0, 1, 2, 3, 4, 5, 6, 7, 8] rfl rfl (by decide) (by decide) (by decide) (fun u => rfl) (by decide) rfl rfl rfl rfl hl.1 rfl (Nat.le_of_ble_eq_true rfl) dX5_readClock_37 (Nat.zero_le _) (Nat.zero_le _) (fun u H locs hf hP hD hS => ?_)
      obtain ⟨v_at_6, v_passed_7⟩ := u
      have hP : va_P G vwCl (sgX5 k a v_letters v_size v_at_6 v_passed_7 v_fault ++ sgX2 k b1 p1_windows p1_dials p1_clocks p1_kind p1_hands p1_rate p1_spring p1_window p1_finish p1_skies p1_sky p1_hour p1_heard p1_strokes) H := hP
      have hD : va_D A (sgX5 k a v_letters v_size v_at_6 v_passed_7 v_fault ++ sgX2 k b1 p1_windows p1_dials p1_clocks p1_kind p1_hands p1_rate p1_spring p1_window p1_finish p1_skies p1_sky p1_hour p1_heard p1_strokes) := hD
      refine lv_aload_n hx hb dX5_readClock_40 rfl (lv_at hl 1 rfl) ?_
      refine lv_iconst (v := 0) hx hb dX5_readClock_41 (by decide) ?_
      refine lv_sipush (v := 719) hx hb dX5_readClock_42 (by decide) ?_
      refine cvi (As := [.int 0, .int 719]) (rest := []) (wr := (sgX2 k b1 p1_windows p1_dials p1_clocks p1_kind p1_hands p1_rate p1_spring p1_window p1_finish p1_skies p1_sky p1_hour p1_heard p1_strokes)) (wn := (fun u => (sgX5 k a v_letters v_size u.1 u.2.1 u.2.2 ++ sgX2 k b1 p1_windows p1_dials p1_clocks p1_kind p1_hands p1_rate p1_spring p1_window p1_finish p1_skies p1_sky p1_hour p1_heard p1_strokes))) ⟨hx, hb, hml, hown, hts⟩ (c_X5_number l G k a 0 719 v_letters v_size v_at_6 v_passed_7 v_fault _ hf) (cwT 2 hts mw550 mw552 mw8 mw74 mw553 rfl hd_X5_number ⟨Nat.le_of_ble_eq_true rfl, Nat.le_of_ble_eq_true rfl⟩) hK hP hD hS hX hA [0, 1] [2, 3, 4, 5, 6, 7, 8, 9, 10] [9, 10, 0, 1, 2, 3, 4, 5, 6, 7, 8] rfl rfl (by decide) (by decide) (by decide) (fun u => rfl) (by decide) rfl rfl rfl rfl hl.1 rfl (Nat.le_of_ble_eq_true rfl) dX5_readClock_45 (Nat.zero_le _) (Nat.zero_le _) (fun r8 u H locs hf hP hD hS => ?_)
      obtain ⟨v_at_9, v_passed_10, v_fault_11⟩ := u
      have hP : va_P G vwCl (sgX5 k a v_letters v_size v_at_9 v_passed_10 v_fault_11 ++ sgX2 k b1 p1_windows p1_dials p1_clocks p1_kind p1_hands p1_rate p1_spring p1_window p1_finish p1_skies p1_sky p1_hour p1_heard p1_strokes) H := hP
      have hD : va_D A (sgX5 k a v_letters v_size v_at_9 v_passed_10 v_fault_11 ++ sgX2 k b1 p1_windows p1_dials p1_clocks p1_kind p1_hands p1_rate p1_spring p1_window p1_finish p1_skies p1_sky p1_hour p1_heard p1_strokes) := hD
      refine lv_istore_n (lv' := [(3, .int r8), (2, .int y0_3), (0, .ref (a 0)), (1, .ref (b1 0))]) hx hb dX5_readClock_48 rfl hl (by decide) rfl (fun ls hl => ?_)
      refine lv_iload_n hx hb dX5_readClock_49 rfl (lv_at hl 0 rfl) ?_
      refine lv_if_ge (tgt := 55) hx hb dX5_readClock_50 (by decide) (fun c12 => ?_) (fun c12 => ?_)
      · have hf := hf.1 c12
        refine lv_iconst (v := 0) hx hb dX5_readClock_55 (by decide) ?_
        refine lv_istore (lv' := [(4, .int 0), (3, .int r8), (2, .int y0_3), (0, .ref (a 0)), (1, .ref (b1 0))]) hx hb dX5_readClock_56 hl (by decide) rfl (fun ls hl => ?_)
        refine lv_aload_n hx hb dX5_readClock_58 rfl (lv_at hl 3 rfl) ?_
        refine cvi (As := []) (rest := []) (wr := (sgX2 k b1 p1_windows p1_dials p1_clocks p1_kind p1_hands p1_rate p1_spring p1_window p1_finish p1_skies p1_sky p1_hour p1_heard p1_strokes)) (wn := (fun u => (sgX5 k a v_letters v_size u v_passed_10 v_fault_11 ++ sgX2 k b1 p1_windows p1_dials p1_clocks p1_kind p1_hands p1_rate p1_spring p1_window p1_finish p1_skies p1_sky p1_hour p1_heard p1_strokes))) ⟨hx, hb, hml, hown, hts⟩ (c_X5_next l G k a v_letters v_size v_at_9 v_passed_10 v_fault_11 _ hf) (cwT 0 hts mw421 mw423 mw3 mw74 mw424 rfl hd_X5_next ⟨Nat.le_of_ble_eq_true rfl, Nat.le_of_ble_eq_true rfl⟩) hK hP hD hS hX hA [0, 1] [2, 3, 4, 5, 6, 7, 8, 9, 10] [9, 10, 0, 1, 2, 3, 4, 5, 6, 7, 8] rfl rfl (by decide) (by decide) (by decide) (fun u => rfl) (by decide) rfl rfl rfl rfl hl.1 rfl (Nat.le_of_ble_eq_true rfl) dX5_readClock_59 (Nat.zero_le _) (Nat.zero_le _) (fun r13 u H locs hf hP hD hS => ?_)
        obtain ⟨v_at_14, rfl⟩ : ∃ z, z = u := ⟨_, rfl⟩
        have hP : va_P G vwCl (sgX5 k a v_letters v_size v_at_14 v_passed_10 v_fault_11 ++ sgX2 k b1 p1_windows p1_dials p1_clocks p1_kind p1_hands p1_rate p1_spring p1_window p1_finish p1_skies p1_sky p1_hour p1_heard p1_strokes) H := hP
        have hD : va_D A (sgX5 k a v_letters v_size v_at_14 v_passed_10 v_fault_11 ++ sgX2 k b1 p1_windows p1_dials p1_clocks p1_kind p1_hands p1_rate p1_spring p1_window p1_finish p1_skies p1_sky p1_hour p1_heard p1_strokes) := hD
        refine lv_bipush (v := 43) hx hb dX5_readClock_62 (by decide) ?_
        obtain ⟨J15, hj15, hf⟩ := hf
        refine w_join (G := G) (A := A) (H0 := s.heap) (nL := 6) (jpc := 119) (σ := (Int32) × (Int32) × (Int32) × (Int32)) (J := fun v => J15 v.1 v.2.1 v.2.2.1 v.2.2.2) (wl := fun v => (sgX5 k a v_letters v_size v.2.1 v.2.2.1 v.2.2.2 ++ sgX2 k b1 p1_windows p1_dials p1_clocks p1_kind p1_hands p1_rate p1_spring p1_window p1_finish p1_skies p1_sky p1_hour p1_heard p1_strokes)) (lv := fun v => [(0, .ref (a 0)), (1, .ref (b1 0)), (2, .int y0_3), (3, .int r8), (4, .int v.1)]) (st := fun v => []) (fun v hj H locs ls hP hD hS hl => ?_) (fun jn15 => ?_)
        · skip
          obtain ⟨x4_15, v_at_15, v_passed_15, v_fault_15⟩ := v
          have hf := hj15 x4_15 v_at_15 v_passed_15 v_fault_15 hj
          have hP : va_P G vwCl (sgX5 k a v_letters v_size v_at_15 v_passed_15 v_fault_15 ++ sgX2 k b1 p1_windows p1_dials p1_clocks p1_kind p1_hands p1_rate p1_spring p1_window p1_finish p1_skies p1_sky p1_hour p1_heard p1_strokes) H := hP
          have hD : va_D A (sgX5 k a v_letters v_size v_at_15 v_passed_15 v_fault_15 ++ sgX2 k b1 p1_windows p1_dials p1_clocks p1_kind p1_hands p1_rate p1_spring p1_window p1_finish p1_skies p1_sky p1_hour p1_heard p1_strokes) := hD
          have hl : lv_has ls 6 [(0, .ref (a 0)), (1, .ref (b1 0)), (2, .int y0_3), (3, .int r8), (4, .int x4_15)] := hl
          refine lv_iconst (v := 0) hx hb dX5_readClock_119 (by decide) ?_
          refine lv_istore (lv' := [(5, .int 0), (0, .ref (a 0)), (1, .ref (b1 0)), (2, .int y0_3), (3, .int r8), (4, .int x4_15)]) hx hb dX5_readClock_120 hl (by decide) rfl (fun ls hl => ?_)
          refine lv_aload_n hx hb dX5_readClock_122 rfl (lv_at hl 1 rfl) ?_
          refine cvi (As := []) (rest := []) (wr := (sgX2 k b1 p1_windows p1_dials p1_clocks p1_kind p1_hands p1_rate p1_spring p1_window p1_finish p1_skies p1_sky p1_hour p1_heard p1_strokes)) (wn := (fun u => (sgX5 k a v_letters v_size u v_passed_15 v_fault_15 ++ sgX2 k b1 p1_windows p1_dials p1_clocks p1_kind p1_hands p1_rate p1_spring p1_window p1_finish p1_skies p1_sky p1_hour p1_heard p1_strokes))) ⟨hx, hb, hml, hown, hts⟩ (c_X5_next l G k a v_letters v_size v_at_15 v_passed_15 v_fault_15 _ hf) (cwT 0 hts mw421 mw423 mw3 mw74 mw424 rfl hd_X5_next ⟨Nat.le_of_ble_eq_true rfl, Nat.le_of_ble_eq_true rfl⟩) hK hP hD hS hX hA [0, 1] [2, 3, 4, 5, 6, 7, 8, 9, 10] [9, 10, 0, 1, 2, 3, 4, 5, 6, 7, 8] rfl rfl (by decide) (by decide) (by decide) (fun u => rfl) (by decide) rfl rfl rfl rfl hl.1 rfl (Nat.le_of_ble_eq_true rfl) dX5_readClock_123 (Nat.zero_le _) (Nat.zero_le _) (fun r16 u H locs hf hP hD hS => ?_)
          obtain ⟨v_at_17, rfl⟩ : ∃ z, z = u := ⟨_, rfl⟩
          have hP : va_P G vwCl (sgX5 k a v_letters v_size v_at_17 v_passed_15 v_fault_15 ++ sgX2 k b1 p1_windows p1_dials p1_clocks p1_kind p1_hands p1_rate p1_spring p1_window p1_finish p1_skies p1_sky p1_hour p1_heard p1_strokes) H := hP
          have hD : va_D A (sgX5 k a v_letters v_size v_at_17 v_passed_15 v_fault_15 ++ sgX2 k b1 p1_windows p1_dials p1_clocks p1_kind p1_hands p1_rate p1_spring p1_window p1_finish p1_skies p1_sky p1_hour p1_heard p1_strokes) := hD
          refine lv_bipush (v := 42) hx hb dX5_readClock_126 (by decide) ?_
          refine lv_icmp_ne (tgt := 151) hx hb dX5_readClock_128 (by decide) (fun c18 => ?_) (fun c18 => ?_)
          · have hf := hf.1 c18
            refine lv_aload_n hx hb dX5_readClock_151 rfl (lv_at hl 2 rfl) ?_
            refine lv_iload_n hx hb dX5_readClock_152 rfl (lv_at hl 3 rfl) ?_
            refine lv_iload_n hx hb dX5_readClock_153 rfl (lv_at hl 4 rfl) ?_
            refine lv_iload hx hb dX5_readClock_154 (lv_at hl 5 rfl) ?_
            refine lv_iload hx hb dX5_readClock_156 (lv_at hl 0 rfl) ?_
            refine cvi (As := [.int y0_3, .int r8, .int x4_15, .int 0]) (rest := []) (wr := (sgX5 k a v_letters v_size v_at_17 v_passed_15 v_fault_15)) (wn := (fun u => (sgX5 k a v_letters v_size v_at_17 v_passed_15 v_fault_15 ++ sgX2 k b1 p1_windows p1_dials u.1 u.2.1 u.2.2.1 u.2.2.2.1 u.2.2.2.2.1 u.2.2.2.2.2.1 u.2.2.2.2.2.2 p1_skies p1_sky p1_hour p1_heard p1_strokes))) ⟨hx, hb, hml, hown, hts⟩ (c_X2_add l G k b1 y0_3 r8 x4_15 0 p1_windows p1_dials p1_clocks p1_kind p1_hands p1_rate p1_spring p1_window p1_finish p1_skies p1_sky p1_hour p1_heard p1_strokes _ hf) (cwT 4 hts mw559 mw333 mw334 mw71 mw335 rfl hd_X2_add ⟨Nat.le_of_ble_eq_true rfl, Nat.le_of_ble_eq_true rfl⟩) hK hP hD hS hX hA [2, 3, 4, 5, 6, 7, 8, 9, 10] [0, 1] [0, 1, 2, 3, 4, 5, 6, 7, 8, 9, 10] rfl rfl (by decide) (by decide) (by decide) (fun u => rfl) (by decide) rfl rfl rfl rfl hl.1 rfl (Nat.le_of_ble_eq_true rfl) dX5_readClock_158 (Nat.zero_le _) (Nat.zero_le _) (fun r19 u H locs hf hP hD hS => ?_)
            obtain ⟨p1_clocks_20, p1_kind_21, p1_hands_22, p1_rate_23, p1_spring_24, p1_window_25, p1_finish_26⟩ := u
            have hP : va_P G vwCl (sgX5 k a v_letters v_size v_at_17 v_passed_15 v_fault_15 ++ sgX2 k b1 p1_windows p1_dials p1_clocks_20 p1_kind_21 p1_hands_22 p1_rate_23 p1_spring_24 p1_window_25 p1_finish_26 p1_skies p1_sky p1_hour p1_heard p1_strokes) H := hP
            have hD : va_D A (sgX5 k a v_letters v_size v_at_17 v_passed_15 v_fault_15 ++ sgX2 k b1 p1_windows p1_dials p1_clocks_20 p1_kind_21 p1_hands_22 p1_rate_23 p1_spring_24 p1_window_25 p1_finish_26 p1_skies p1_sky p1_hour p1_heard p1_strokes) := hD
            refine lv_pop hx hb dX5_readClock_161 rfl ?_
            refine lv_iconst (v := 1) hx hb dX5_readClock_162 (by decide) ?_
            exact ret_z hx hb hr hlk (Or.inr rfl) (v_at_17, v_passed_15, v_fault_15, p1_clocks_20, p1_kind_21, p1_hands_22, p1_rate_23, p1_spring_24, p1_window_25, p1_finish_26) hf hP hD hS dX5_readClock_163
          have hf := hf.2 c18
          refine lv_aload_n hx hb dX5_readClock_131 rfl (lv_at hl 1 rfl) ?_
          refine cvv (As := []) (rest := []) (wr := (sgX2 k b1 p1_windows p1_dials p1_clocks p1_kind p1_hands p1_rate p1_spring p1_window p1_finish p1_skies p1_sky p1_hour p1_heard p1_strokes)) (wn := (fun u => (sgX5 k a v_letters v_size u.1 u.2 v_fault_15 ++ sgX2 k b1 p1_windows p1_dials p1_clocks p1_kind p1_hands p1_rate p1_spring p1_window p1_finish p1_skies p1_sky p1_hour p1_heard p1_strokes))) ⟨hx, hb, hml, hown, hts⟩ (c_X5_skip l G k a v_letters v_size v_at_17 v_passed_15 v_fault_15 _ hf) (cwT 0 hts mw515 mw517 mw5 mw74 mw518 rfl hd_X5_skip ⟨Nat.le_of_ble_eq_true rfl, Nat.le_of_ble_eq_true rfl⟩) hK hP hD hS hX hA [0, 1] [2, 3, 4, 5, 6, 7, 8, 9, 10] [9, 10, 0, 1, 2, 3, 4, 5, 6, 7, 8] rfl rfl (by decide) (by decide) (by decide) (fun u => rfl) (by decide) rfl rfl rfl rfl hl.1 rfl (Nat.le_of_ble_eq_true rfl) dX5_readClock_132 (Nat.zero_le _) (Nat.zero_le _) (fun u H locs hf hP hD hS => ?_)
          obtain ⟨v_at_28, v_passed_29⟩ := u
          have hP : va_P G vwCl (sgX5 k a v_letters v_size v_at_28 v_passed_29 v_fault_15 ++ sgX2 k b1 p1_windows p1_dials p1_clocks p1_kind p1_hands p1_rate p1_spring p1_window p1_finish p1_skies p1_sky p1_hour p1_heard p1_strokes) H := hP
          have hD : va_D A (sgX5 k a v_letters v_size v_at_28 v_passed_29 v_fault_15 ++ sgX2 k b1 p1_windows p1_dials p1_clocks p1_kind p1_hands p1_rate p1_spring p1_window p1_finish p1_skies p1_sky p1_hour p1_heard p1_strokes) := hD
          refine lv_aload_n hx hb dX5_readClock_135 rfl (lv_at hl 1 rfl) ?_
          refine lv_iconst (v := 0) hx hb dX5_readClock_136 (by decide) ?_
          refine lv_bipush (v := 99) hx hb dX5_readClock_137 (by decide) ?_
          refine cvi (As := [.int 0, .int 99]) (rest := []) (wr := (sgX2 k b1 p1_windows p1_dials p1_clocks p1_kind p1_hands p1_rate p1_spring p1_window p1_finish p1_skies p1_sky p1_hour p1_heard p1_strokes)) (wn := (fun u => (sgX5 k a v_letters v_size u.1 u.2.1 u.2.2 ++ sgX2 k b1 p1_windows p1_dials p1_clocks p1_kind p1_hands p1_rate p1_spring p1_window p1_finish p1_skies p1_sky p1_hour p1_heard p1_strokes))) ⟨hx, hb, hml, hown, hts⟩ (c_X5_number l G k a 0 99 v_letters v_size v_at_28 v_passed_29 v_fault_15 _ hf) (cwT 2 hts mw550 mw552 mw8 mw74 mw553 rfl hd_X5_number ⟨Nat.le_of_ble_eq_true rfl, Nat.le_of_ble_eq_true rfl⟩) hK hP hD hS hX hA [0, 1] [2, 3, 4, 5, 6, 7, 8, 9, 10] [9, 10, 0, 1, 2, 3, 4, 5, 6, 7, 8] rfl rfl (by decide) (by decide) (by decide) (fun u => rfl) (by decide) rfl rfl rfl rfl hl.1 rfl (Nat.le_of_ble_eq_true rfl) dX5_readClock_139 (Nat.zero_le _) (Nat.zero_le _) (fun r30 u H locs hf hP hD hS => ?_)
          obtain ⟨v_at_31, v_passed_32, v_fault_33⟩ := u
          have hP : va_P G vwCl (sgX5 k a v_letters v_size v_at_31 v_passed_32 v_fault_33 ++ sgX2 k b1 p1_windows p1_dials p1_clocks p1_kind p1_hands p1_rate p1_spring p1_window p1_finish p1_skies p1_sky p1_hour p1_heard p1_strokes) H := hP
          have hD : va_D A (sgX5 k a v_letters v_size v_at_31 v_passed_32 v_fault_33 ++ sgX2 k b1 p1_windows p1_dials p1_clocks p1_kind p1_hands p1_rate p1_spring p1_window p1_finish p1_skies p1_sky p1_hour p1_heard p1_strokes) := hD
          refine lv_istore (lv' := [(5, .int r30), (0, .ref (a 0)), (1, .ref (b1 0)), (2, .int y0_3), (3, .int r8), (4, .int x4_15)]) hx hb dX5_readClock_142 hl (by decide) rfl (fun ls hl => ?_)
          refine lv_iload hx hb dX5_readClock_144 (lv_at hl 0 rfl) ?_
          refine lv_if_ge (tgt := 151) hx hb dX5_readClock_146 (by decide) (fun c34 => ?_) (fun c34 => ?_)
          · have hf := hf.1 c34
            refine lv_aload_n hx hb dX5_readClock_151 rfl (lv_at hl 2 rfl) ?_
            refine lv_iload_n hx hb dX5_readClock_152 rfl (lv_at hl 3 rfl) ?_
            refine lv_iload_n hx hb dX5_readClock_153 rfl (lv_at hl 4 rfl) ?_
            refine lv_iload hx hb dX5_readClock_154 (lv_at hl 5 rfl) ?_
            refine lv_iload hx hb dX5_readClock_156 (lv_at hl 0 rfl) ?_
            refine cvi (As := [.int y0_3, .int r8, .int x4_15, .int r30]) (rest := []) (wr := (sgX5 k a v_letters v_size v_at_31 v_passed_32 v_fault_33)) (wn := (fun u => (sgX5 k a v_letters v_size v_at_31 v_passed_32 v_fault_33 ++ sgX2 k b1 p1_windows p1_dials u.1 u.2.1 u.2.2.1 u.2.2.2.1 u.2.2.2.2.1 u.2.2.2.2.2.1 u.2.2.2.2.2.2 p1_skies p1_sky p1_hour p1_heard p1_strokes))) ⟨hx, hb, hml, hown, hts⟩ (c_X2_add l G k b1 y0_3 r8 x4_15 r30 p1_windows p1_dials p1_clocks p1_kind p1_hands p1_rate p1_spring p1_window p1_finish p1_skies p1_sky p1_hour p1_heard p1_strokes _ hf) (cwT 4 hts mw559 mw333 mw334 mw71 mw335 rfl hd_X2_add ⟨Nat.le_of_ble_eq_true rfl, Nat.le_of_ble_eq_true rfl⟩) hK hP hD hS hX hA [2, 3, 4, 5, 6, 7, 8, 9, 10] [0, 1] [0, 1, 2, 3, 4, 5, 6, 7, 8, 9, 10] rfl rfl (by decide) (by decide) (by decide) (fun u => rfl) (by decide) rfl rfl rfl rfl hl.1 rfl (Nat.le_of_ble_eq_true rfl) dX5_readClock_158 (Nat.zero_le _) (Nat.zero_le _) (fun r35 u H locs hf hP hD hS => ?_)
            obtain ⟨p1_clocks_36, p1_kind_37, p1_hands_38, p1_rate_39, p1_spring_40, p1_window_41, p1_finish_42⟩ := u
            have hP : va_P G vwCl (sgX5 k a v_letters v_size v_at_31 v_passed_32 v_fault_33 ++ sgX2 k b1 p1_windows p1_dials p1_clocks_36 p1_kind_37 p1_hands_38 p1_rate_39 p1_spring_40 p1_window_41 p1_finish_42 p1_skies p1_sky p1_hour p1_heard p1_strokes) H := hP
            have hD : va_D A (sgX5 k a v_letters v_size v_at_31 v_passed_32 v_fault_33 ++ sgX2 k b1 p1_windows p1_dials p1_clocks_36 p1_kind_37 p1_hands_38 p1_rate_39 p1_spring_40 p1_window_41 p1_finish_42 p1_skies p1_sky p1_hour p1_heard p1_strokes) := hD
            refine lv_pop hx hb dX5_readClock_161 rfl ?_
            refine lv_iconst (v := 1) hx hb dX5_readClock_162 (by decide) ?_
            exact ret_z hx hb hr hlk (Or.inr rfl) (v_at_31, v_passed_32, v_fault_33, p1_clocks_36, p1_kind_37, p1_hands_38, p1_rate_39, p1_spring_40, p1_window_41, p1_finish_42) hf hP hD hS dX5_readClock_163
          have hf := hf.2 c34
          refine lv_iconst (v := 0) hx hb dX5_readClock_149 (by decide) ?_
          exact ret_z hx hb hr hlk (Or.inl rfl) (v_at_31, v_passed_32, v_fault_33, p1_clocks, p1_kind, p1_hands, p1_rate, p1_spring, p1_window, p1_finish) hf hP hD hS dX5_readClock_150
        obtain ⟨J43, hj43, hf⟩ := hf
        refine w_join (G := G) (A := A) (H0 := s.heap) (nL := 6) (jpc := 76) (σ := (Int32)) (J := fun v => J43 v) (wl := fun v => (sgX5 k a v_letters v_size v v_passed_10 v_fault_11 ++ sgX2 k b1 p1_windows p1_dials p1_clocks p1_kind p1_hands p1_rate p1_spring p1_window p1_finish p1_skies p1_sky p1_hour p1_heard p1_strokes)) (lv := fun v => [(0, .ref (a 0)), (1, .ref (b1 0)), (2, .int y0_3), (3, .int r8)]) (st := fun v => []) (fun v hj H locs ls hP hD hS hl => ?_) (fun jn43 => ?_)
        · skip
          obtain ⟨v_at_43, rfl⟩ : ∃ z, z = v := ⟨_, rfl⟩
          have hf := hj43 v_at_43 hj
          have hP : va_P G vwCl (sgX5 k a v_letters v_size v_at_43 v_passed_10 v_fault_11 ++ sgX2 k b1 p1_windows p1_dials p1_clocks p1_kind p1_hands p1_rate p1_spring p1_window p1_finish p1_skies p1_sky p1_hour p1_heard p1_strokes) H := hP
          have hD : va_D A (sgX5 k a v_letters v_size v_at_43 v_passed_10 v_fault_11 ++ sgX2 k b1 p1_windows p1_dials p1_clocks p1_kind p1_hands p1_rate p1_spring p1_window p1_finish p1_skies p1_sky p1_hour p1_heard p1_strokes) := hD
          have hl : lv_has ls 6 [(0, .ref (a 0)), (1, .ref (b1 0)), (2, .int y0_3), (3, .int r8)] := hl
          refine lv_aload_n hx hb dX5_readClock_76 rfl (lv_at hl 0 rfl) ?_
          refine cvi (As := []) (rest := []) (wr := (sgX2 k b1 p1_windows p1_dials p1_clocks p1_kind p1_hands p1_rate p1_spring p1_window p1_finish p1_skies p1_sky p1_hour p1_heard p1_strokes)) (wn := (fun u => (sgX5 k a v_letters v_size u v_passed_10 v_fault_11 ++ sgX2 k b1 p1_windows p1_dials p1_clocks p1_kind p1_hands p1_rate p1_spring p1_window p1_finish p1_skies p1_sky p1_hour p1_heard p1_strokes))) ⟨hx, hb, hml, hown, hts⟩ (c_X5_next l G k a v_letters v_size v_at_43 v_passed_10 v_fault_11 _ hf) (cwT 0 hts mw421 mw423 mw3 mw74 mw424 rfl hd_X5_next ⟨Nat.le_of_ble_eq_true rfl, Nat.le_of_ble_eq_true rfl⟩) hK hP hD hS hX hA [0, 1] [2, 3, 4, 5, 6, 7, 8, 9, 10] [9, 10, 0, 1, 2, 3, 4, 5, 6, 7, 8] rfl rfl (by decide) (by decide) (by decide) (fun u => rfl) (by decide) rfl rfl rfl rfl hl.1 rfl (Nat.le_of_ble_eq_true rfl) dX5_readClock_77 (Nat.zero_le _) (Nat.zero_le _) (fun r44 u H locs hf hP hD hS => ?_)
          obtain ⟨v_at_45, rfl⟩ : ∃ z, z = u := ⟨_, rfl⟩
          have hP : va_P G vwCl (sgX5 k a v_letters v_size v_at_45 v_passed_10 v_fault_11 ++ sgX2 k b1 p1_windows p1_dials p1_clocks p1_kind p1_hands p1_rate p1_spring p1_window p1_finish p1_skies p1_sky p1_hour p1_heard p1_strokes) H := hP
          have hD : va_D A (sgX5 k a v_letters v_size v_at_45 v_passed_10 v_fault_11 ++ sgX2 k b1 p1_windows p1_dials p1_clocks p1_kind p1_hands p1_rate p1_spring p1_window p1_finish p1_skies p1_sky p1_hour p1_heard p1_strokes) := hD
          refine lv_bipush (v := 43) hx hb dX5_readClock_80 (by decide) ?_
          obtain ⟨J46, hj46, hf⟩ := hf
          refine w_join (G := G) (A := A) (H0 := s.heap) (nL := 6) (jpc := 90) (σ := (Int32)) (J := fun v => J46 v) (wl := fun v => (sgX5 k a v_letters v_size v_at_45 v_passed_10 v_fault_11 ++ sgX2 k b1 p1_windows p1_dials p1_clocks p1_kind p1_hands p1_rate p1_spring p1_window p1_finish p1_skies p1_sky p1_hour p1_heard p1_strokes)) (lv := fun v => [(0, .ref (a 0)), (1, .ref (b1 0)), (2, .int y0_3), (3, .int r8)]) (st := fun v => [.int v]) (fun v hj H locs ls hP hD hS hl => ?_) (fun jn46 => ?_)
          · skip
            obtain ⟨y0_46, rfl⟩ : ∃ z, z = v := ⟨_, rfl⟩
            have hf := hj46 y0_46 hj
            have hP : va_P G vwCl (sgX5 k a v_letters v_size v_at_45 v_passed_10 v_fault_11 ++ sgX2 k b1 p1_windows p1_dials p1_clocks p1_kind p1_hands p1_rate p1_spring p1_window p1_finish p1_skies p1_sky p1_hour p1_heard p1_strokes) H := hP
            have hD : va_D A (sgX5 k a v_letters v_size v_at_45 v_passed_10 v_fault_11 ++ sgX2 k b1 p1_windows p1_dials p1_clocks p1_kind p1_hands p1_rate p1_spring p1_window p1_finish p1_skies p1_sky p1_hour p1_heard p1_strokes) := hD
            have hl : lv_has ls 6 [(0, .ref (a 0)), (1, .ref (b1 0)), (2, .int y0_3), (3, .int r8)] := hl
            refine lv_istore (lv' := [(5, .int y0_46), (0, .ref (a 0)), (1, .ref (b1 0)), (2, .int y0_3), (3, .int r8)]) hx hb dX5_readClock_90 hl (by decide) rfl (fun ls hl => ?_)
            refine lv_aload_n hx hb dX5_readClock_92 rfl (lv_at hl 1 rfl) ?_
            refine cvv (As := []) (rest := []) (wr := (sgX2 k b1 p1_windows p1_dials p1_clocks p1_kind p1_hands p1_rate p1_spring p1_window p1_finish p1_skies p1_sky p1_hour p1_heard p1_strokes)) (wn := (fun u => (sgX5 k a v_letters v_size u.1 u.2 v_fault_11 ++ sgX2 k b1 p1_windows p1_dials p1_clocks p1_kind p1_hands p1_rate p1_spring p1_window p1_finish p1_skies p1_sky p1_hour p1_heard p1_strokes))) ⟨hx, hb, hml, hown, hts⟩ (c_X5_skip l G k a v_letters v_size v_at_45 v_passed_10 v_fault_11 _ hf) (cwT 0 hts mw515 mw517 mw5 mw74 mw518 rfl hd_X5_skip ⟨Nat.le_of_ble_eq_true rfl, Nat.le_of_ble_eq_true rfl⟩) hK hP hD hS hX hA [0, 1] [2, 3, 4, 5, 6, 7, 8, 9, 10] [9, 10, 0, 1, 2, 3, 4, 5, 6, 7, 8] rfl rfl (by decide) (by decide) (by decide) (fun u => rfl) (by decide) rfl rfl rfl rfl hl.1 rfl (Nat.le_of_ble_eq_true rfl) dX5_readClock_93 (Nat.zero_le _) (Nat.zero_le _) (fun u H locs hf hP hD hS => ?_)
            obtain ⟨v_at_48, v_passed_49⟩ := u
            have hP : va_P G vwCl (sgX5 k a v_letters v_size v_at_48 v_passed_49 v_fault_11 ++ sgX2 k b1 p1_windows p1_dials p1_clocks p1_kind p1_hands p1_rate p1_spring p1_window p1_finish p1_skies p1_sky p1_hour p1_heard p1_strokes) H := hP
            have hD : va_D A (sgX5 k a v_letters v_size v_at_48 v_passed_49 v_fault_11 ++ sgX2 k b1 p1_windows p1_dials p1_clocks p1_kind p1_hands p1_rate p1_spring p1_window p1_finish p1_skies p1_sky p1_hour p1_heard p1_strokes) := hD
            refine lv_aload_n hx hb dX5_readClock_96 rfl (lv_at hl 1 rfl) ?_
            refine lv_iconst (v := 0) hx hb dX5_readClock_97 (by decide) ?_
            refine lv_bipush (v := 30) hx hb dX5_readClock_98 (by decide) ?_
            refine cvi (As := [.int 0, .int 30]) (rest := []) (wr := (sgX2 k b1 p1_windows p1_dials p1_clocks p1_kind p1_hands p1_rate p1_spring p1_window p1_finish p1_skies p1_sky p1_hour p1_heard p1_strokes)) (wn := (fun u => (sgX5 k a v_letters v_size u.1 u.2.1 u.2.2 ++ sgX2 k b1 p1_windows p1_dials p1_clocks p1_kind p1_hands p1_rate p1_spring p1_window p1_finish p1_skies p1_sky p1_hour p1_heard p1_strokes))) ⟨hx, hb, hml, hown, hts⟩ (c_X5_number l G k a 0 30 v_letters v_size v_at_48 v_passed_49 v_fault_11 _ hf) (cwT 2 hts mw550 mw552 mw8 mw74 mw553 rfl hd_X5_number ⟨Nat.le_of_ble_eq_true rfl, Nat.le_of_ble_eq_true rfl⟩) hK hP hD hS hX hA [0, 1] [2, 3, 4, 5, 6, 7, 8, 9, 10] [9, 10, 0, 1, 2, 3, 4, 5, 6, 7, 8] rfl rfl (by decide) (by decide) (by decide) (fun u => rfl) (by decide) rfl rfl rfl rfl hl.1 rfl (Nat.le_of_ble_eq_true rfl) dX5_readClock_100 (Nat.zero_le _) (Nat.zero_le _) (fun r50 u H locs hf hP hD hS => ?_)
            obtain ⟨v_at_51, v_passed_52, v_fault_53⟩ := u
            have hP : va_P G vwCl (sgX5 k a v_letters v_size v_at_51 v_passed_52 v_fault_53 ++ sgX2 k b1 p1_windows p1_dials p1_clocks p1_kind p1_hands p1_rate p1_spring p1_window p1_finish p1_skies p1_sky p1_hour p1_heard p1_strokes) H := hP
            have hD : va_D A (sgX5 k a v_letters v_size v_at_51 v_passed_52 v_fault_53 ++ sgX2 k b1 p1_windows p1_dials p1_clocks p1_kind p1_hands p1_rate p1_spring p1_window p1_finish p1_skies p1_sky p1_hour p1_heard p1_strokes) := hD
            refine lv_istore (lv' := [(4, .int r50), (5, .int y0_46), (0, .ref (a 0)), (1, .ref (b1 0)), (2, .int y0_3), (3, .int r8)]) hx hb dX5_readClock_103 hl (by decide) rfl (fun ls hl => ?_)
            refine lv_iload hx hb dX5_readClock_105 (lv_at hl 0 rfl) ?_
            refine lv_if_ge (tgt := 112) hx hb dX5_readClock_107 (by decide) (fun c54 => ?_) (fun c54 => ?_)
            · have hf := hf.1 c54
              refine lv_iload hx hb dX5_readClock_112 (lv_at hl 0 rfl) ?_
              refine lv_iload hx hb dX5_readClock_114 (lv_at hl 1 rfl) ?_
              refine lv_imul hx hb dX5_readClock_116 ?_
              refine lv_topi (fun z55 ez55 => ?_)
              have hf := hf z55 ez55
              refine lv_istore (lv' := [(4, .int z55), (5, .int y0_46), (0, .ref (a 0)), (1, .ref (b1 0)), (2, .int y0_3), (3, .int r8)]) hx hb dX5_readClock_117 hl (by decide) rfl (fun ls hl => ?_)
              exact jn15 (z55, v_at_51, v_passed_52, v_fault_53) hf _ _ _ hP hD hS (lv_sub hl [2, 3, 4, 5, 0] rfl)
            have hf := hf.2 c54
            refine lv_iconst (v := 0) hx hb dX5_readClock_110 (by decide) ?_
            exact ret_z hx hb hr hlk (Or.inl rfl) (v_at_51, v_passed_52, v_fault_53, p1_clocks, p1_kind, p1_hands, p1_rate, p1_spring, p1_window, p1_finish) hf hP hD hS dX5_readClock_111
          refine lv_icmp_ne (tgt := 89) hx hb dX5_readClock_82 (by decide) (fun c56 => ?_) (fun c56 => ?_)
          · have hf := hf.1 c56
            refine lv_iconst (v := (-1)) hx hb dX5_readClock_89 (by decide) ?_
            exact jn46 (-1) hf _ _ _ hP hD hS (lv_sub hl [0, 1, 2, 3] rfl)
          have hf := hf.2 c56
          refine lv_iconst (v := 1) hx hb dX5_readClock_85 (by decide) ?_
          refine lv_goto (tgt := 90) hx hb dX5_readClock_86 (by decide) ?_
          exact jn46 1 hf _ _ _ hP hD hS (lv_sub hl [0, 1, 2, 3] rfl)
        refine lv_icmp_eq (tgt := 76) hx hb dX5_readClock_64 (by decide) (fun c57 => ?_) (fun c57 => ?_)
        · have hf := hf.1 c57
          exact jn43 v_at_14 hf _ _ _ hP hD hS (lv_sub hl [3, 4, 2, 1] rfl)
        have hf := hf.2 c57
        refine lv_aload_n hx hb dX5_readClock_67 rfl (lv_at hl 3 rfl) ?_
        refine cvi (As := []) (rest := []) (wr := (sgX2 k b1 p1_windows p1_dials p1_clocks p1_kind p1_hands p1_rate p1_spring p1_window p1_finish p1_skies p1_sky p1_hour p1_heard p1_strokes)) (wn := (fun u => (sgX5 k a v_letters v_size u v_passed_10 v_fault_11 ++ sgX2 k b1 p1_windows p1_dials p1_clocks p1_kind p1_hands p1_rate p1_spring p1_window p1_finish p1_skies p1_sky p1_hour p1_heard p1_strokes))) ⟨hx, hb, hml, hown, hts⟩ (c_X5_next l G k a v_letters v_size v_at_14 v_passed_10 v_fault_11 _ hf) (cwT 0 hts mw421 mw423 mw3 mw74 mw424 rfl hd_X5_next ⟨Nat.le_of_ble_eq_true rfl, Nat.le_of_ble_eq_true rfl⟩) hK hP hD hS hX hA [0, 1] [2, 3, 4, 5, 6, 7, 8, 9, 10] [9, 10, 0, 1, 2, 3, 4, 5, 6, 7, 8] rfl rfl (by decide) (by decide) (by decide) (fun u => rfl) (by decide) rfl rfl rfl rfl hl.1 rfl (Nat.le_of_ble_eq_true rfl) dX5_readClock_68 (Nat.zero_le _) (Nat.zero_le _) (fun r58 u H locs hf hP hD hS => ?_)
        obtain ⟨v_at_59, rfl⟩ : ∃ z, z = u := ⟨_, rfl⟩
        have hP : va_P G vwCl (sgX5 k a v_letters v_size v_at_59 v_passed_10 v_fault_11 ++ sgX2 k b1 p1_windows p1_dials p1_clocks p1_kind p1_hands p1_rate p1_spring p1_window p1_finish p1_skies p1_sky p1_hour p1_heard p1_strokes) H := hP
        have hD : va_D A (sgX5 k a v_letters v_size v_at_59 v_passed_10 v_fault_11 ++ sgX2 k b1 p1_windows p1_dials p1_clocks p1_kind p1_hands p1_rate p1_spring p1_window p1_finish p1_skies p1_sky p1_hour p1_heard p1_strokes) := hD
        refine lv_bipush (v := 45) hx hb dX5_readClock_71 (by decide) ?_
        refine lv_icmp_ne (tgt := 119) hx hb dX5_readClock_73 (by decide) (fun c60 => ?_) (fun c60 => ?_)
        · have hf := hf.1 c60
          exact jn15 (0, v_at_59, v_passed_10, v_fault_11) hf _ _ _ hP hD hS (lv_sub hl [3, 4, 2, 1, 0] rfl)
        have hf := hf.2 c60
        exact jn43 v_at_59 hf _ _ _ hP hD hS (lv_sub hl [3, 4, 2, 1] rfl)
      have hf := hf.2 c12
      refine lv_iconst (v := 0) hx hb dX5_readClock_53 (by decide) ?_
      exact ret_z hx hb hr hlk (Or.inl rfl) (v_at_9, v_passed_10, v_fault_11, p1_clocks, p1_kind, p1_hands, p1_rate, p1_spring, p1_window, p1_finish) hf hP hD hS dX5_readClock_54
    have hf := hf.2 c4
    refine lv_aload_n hx hb dX5_readClock_27 rfl (lv_at hl 1 rfl) ?_
    refine lv_aload_n hx hb dX5_readClock_28 rfl (lv_at hl 1 rfl) ?_
    refine cvi (As := []) (rest := [.ref (a 0)]) (wr := (sgX2 k b1 p1_windows p1_dials p1_clocks p1_kind p1_hands p1_rate p1_spring p1_window p1_finish p1_skies p1_sky p1_hour p1_heard p1_strokes)) (wn := (fun u => (sgX5 k a v_letters v_size v_at_3 v_passed v_fault ++ sgX2 k b1 p1_windows p1_dials p1_clocks p1_kind p1_hands p1_rate p1_spring p1_window p1_finish p1_skies p1_sky p1_hour p1_heard p1_strokes))) ⟨hx, hb, hml, hown, hts⟩ (c_X5_here l G k a v_letters v_size v_at_3 v_passed v_fault _ hf) (cwT 0 hts mw511 mw513 mw4 mw74 mw514 rfl hd_X5_here ⟨Nat.le_of_ble_eq_true rfl, Nat.le_of_ble_eq_true rfl⟩) hK hP hD hS hX hA [0, 1] [2, 3, 4, 5, 6, 7, 8, 9, 10] [9, 10, 0, 1, 2, 3, 4, 5, 6, 7, 8] rfl rfl (by decide) (by decide) (by decide) (fun u => rfl) (by decide) rfl rfl rfl rfl hl.1 rfl (Nat.le_of_ble_eq_true rfl) dX5_readClock_29 (Nat.zero_le _) (Nat.zero_le _) (fun r61 u H locs hf hP hD hS => ?_)
    have hP : va_P G vwCl (sgX5 k a v_letters v_size v_at_3 v_passed v_fault ++ sgX2 k b1 p1_windows p1_dials p1_clocks p1_kind p1_hands p1_rate p1_spring p1_window p1_finish p1_skies p1_sky p1_hour p1_heard p1_strokes) H := hP
    have hD : va_D A (sgX5 k a v_letters v_size v_at_3 v_passed v_fault ++ sgX2 k b1 p1_windows p1_dials p1_clocks p1_kind p1_hands p1_rate p1_spring p1_window p1_finish p1_skies p1_sky p1_hour p1_heard p1_strokes) := hD
    refine cvi (As := [.int r61]) (rest := []) (wr := (sgX2 k b1 p1_windows p1_dials p1_clocks p1_kind p1_hands p1_rate p1_spring p1_window p1_finish p1_skies p1_sky p1_hour p1_heard p1_strokes)) (wn := (fun u => (sgX5 k a v_letters v_size v_at_3 v_passed u ++ sgX2 k b1 p1_windows p1_dials p1_clocks p1_kind p1_hands p1_rate p1_spring p1_window p1_finish p1_skies p1_sky p1_hour p1_heard p1_strokes))) ⟨hx, hb, hml, hown, hts⟩ (c_X5_fails l G k a r61 v_letters v_size v_at_3 v_passed v_fault _ hf) (cwT 1 hts mw546 mw548 mw7 mw74 mw549 rfl hd_X5_fails ⟨Nat.le_of_ble_eq_true rfl, Nat.le_of_ble_eq_true rfl⟩) hK hP hD hS hX hA [0, 1] [2, 3, 4, 5, 6, 7, 8, 9, 10] [9, 10, 0, 1, 2, 3, 4, 5, 6, 7, 8] rfl rfl (by decide) (by decide) (by decide) (fun u => rfl) (by decide) rfl rfl rfl rfl hl.1 rfl (Nat.le_of_ble_eq_true rfl) dX5_readClock_32 (Nat.zero_le _) (Nat.zero_le _) (fun r62 u H locs hf hP hD hS => ?_)
    obtain ⟨v_fault_63, rfl⟩ : ∃ z, z = u := ⟨_, rfl⟩
    have hP : va_P G vwCl (sgX5 k a v_letters v_size v_at_3 v_passed v_fault_63 ++ sgX2 k b1 p1_windows p1_dials p1_clocks p1_kind p1_hands p1_rate p1_spring p1_window p1_finish p1_skies p1_sky p1_hour p1_heard p1_strokes) H := hP
    have hD : va_D A (sgX5 k a v_letters v_size v_at_3 v_passed v_fault_63 ++ sgX2 k b1 p1_windows p1_dials p1_clocks p1_kind p1_hands p1_rate p1_spring p1_window p1_finish p1_skies p1_sky p1_hour p1_heard p1_strokes) := hD
    obtain ⟨hz, hf⟩ := hf
    exact ret_z hx hb hr hlk hz (v_at_3, v_passed, v_fault_63, p1_clocks, p1_kind, p1_hands, p1_rate, p1_spring, p1_window, p1_finish) hf hP hD hS dX5_readClock_35
  refine lv_icmp_ne (tgt := 12) hx hb dX5_readClock_5 (by decide) (fun c64 => ?_) (fun c64 => ?_)
  · have hf := hf.1 c64
    refine va_ldcS hx hb hown hX.2.2.2.2.1 dX5_readClock_12 ?_
    refine lv_aload_n hx hb dX5_readClock_14 rfl (lv_at hl 0 rfl) ?_
    refine cvi (As := []) (rest := [.ref (k (10 + 2))]) (wr := (sgX2 k b1 p1_windows p1_dials p1_clocks p1_kind p1_hands p1_rate p1_spring p1_window p1_finish p1_skies p1_sky p1_hour p1_heard p1_strokes)) (wn := (fun u => (sgX5 k a v_letters v_size u v_passed v_fault ++ sgX2 k b1 p1_windows p1_dials p1_clocks p1_kind p1_hands p1_rate p1_spring p1_window p1_finish p1_skies p1_sky p1_hour p1_heard p1_strokes))) ⟨hx, hb, hml, hown, hts⟩ (c_X5_next l G k a v_letters v_size v_at_2 v_passed v_fault _ hf) (cwT 0 hts mw421 mw423 mw3 mw74 mw424 rfl hd_X5_next ⟨Nat.le_of_ble_eq_true rfl, Nat.le_of_ble_eq_true rfl⟩) hK hP hD hS hX hA [0, 1] [2, 3, 4, 5, 6, 7, 8, 9, 10] [9, 10, 0, 1, 2, 3, 4, 5, 6, 7, 8] rfl rfl (by decide) (by decide) (by decide) (fun u => rfl) (by decide) rfl rfl rfl rfl hl.1 rfl (Nat.le_of_ble_eq_true rfl) dX5_readClock_15 (Nat.zero_le _) (Nat.zero_le _) (fun r65 u H locs hf hP hD hS => ?_)
    obtain ⟨v_at_66, rfl⟩ : ∃ z, z = u := ⟨_, rfl⟩
    have hP : va_P G vwCl (sgX5 k a v_letters v_size v_at_66 v_passed v_fault ++ sgX2 k b1 p1_windows p1_dials p1_clocks p1_kind p1_hands p1_rate p1_spring p1_window p1_finish p1_skies p1_sky p1_hour p1_heard p1_strokes) H := hP
    have hD : va_D A (sgX5 k a v_letters v_size v_at_66 v_passed v_fault ++ sgX2 k b1 p1_windows p1_dials p1_clocks p1_kind p1_hands p1_rate p1_spring p1_window p1_finish p1_skies p1_sky p1_hour p1_heard p1_strokes) := hD
    refine lv_i2c hx hb dX5_readClock_18 rfl ?_
    refine cst (i := 2) (As := [.int (UInt32.toInt32 (Int32.toUInt32 r65 % 65536))]) (rest := []) ⟨hx, hb, hml, hown, hts⟩ (c_J0_indexOf_0f7a4 l G k (UInt32.toInt32 (Int32.toUInt32 r65 % 65536)) 2 _ hf) (cwT 1 hts mw425 mw426 mw427 mw79 mw428 rfl hd_J0_indexOf_0f7a4 ⟨Nat.le_of_ble_eq_true rfl, Nat.le_of_ble_eq_true rfl⟩) hK hP hS hX hA (by decide) rfl hl.1 rfl (Nat.le_of_ble_eq_true rfl) dX5_readClock_19 (Nat.zero_le _) (Nat.zero_le _) (fun r67 H locs hf hP hS => ?_)
    exact jn3 (v_at_66, r67) hf _ _ _ hP hD hS (lv_sub hl [0, 1] rfl)
  have hf := hf.2 c64
  refine lv_iconst (v := (-1)) hx hb dX5_readClock_8 (by decide) ?_
  refine lv_goto (tgt := 22) hx hb dX5_readClock_9 (by decide) ?_
  exact jn3 (v_at_2, (-1)) hf _ _ _ hP hD hS (lv_sub hl [0, 1] rfl)
def wp_X5_takes (p1 : Int32) (v_letters : Nat → Int32) (v_size : Int32) (v_at : Int32) (v_passed : Int32) (v_fault : Int32) (post : Int32 → (Int32) → (Int32) → (Int32) → Prop) : Prop :=
  (wp_X5_next v_letters v_size v_at (fun (r1 : Int32) (v_at_2 : Int32) =>
 ((r1 = p1 → (wp_X5_skip v_at_2 v_passed (fun (v_at_5 : Int32) (v_passed_6 : Int32) =>
 (post 1 v_at_5 v_passed_6 v_fault)))) ∧
 (¬ r1 = p1 → (wp_X5_here v_passed (fun (r7 : Int32) =>
 (wp_X5_fails r7 v_fault (fun (r8 : Int32) (v_fault_9 : Int32) =>
 ((r8 = 0 ∨ r8 = 1) ∧ post r8 v_at_2 v_passed v_fault_9)))))))))
set_option maxHeartbeats 4000000 in
set_option maxRecDepth 100000 in
theorem c_X5_takes (l : Launch) (G : va_G) (k : Nat → ClassId) (a : Nat → Nat) (p1 : Int32) (v_letters : Nat → Int32) (v_size : Int32) (v_at : Int32) (v_passed : Int32) (v_fault : Int32) (post : Int32 → (Int32) → (Int32) → (Int32) → Prop) (hf : wp_X5_takes p1 v_letters v_size v_at v_passed v_fault post) : MI (S := (Int32) × (Int32) × (Int32)) l G k yX5_takes (Cond.code yX5_takes cX5_takes 2 (some .boolean) :: wT) 1 21 [.ref (a 0), .int p1] (sgX5 k a v_letters v_size v_at v_passed v_fault) (fun u => (sgX5 k a v_letters v_size u.1 u.2.1 u.2.2)) (fun r u => post r u.1 u.2.1 u.2.2) := by
  refine mi_start (cc := cX5_takes) (maxL := 2) (ret := (some .boolean)) (by decide) [(0, .ref (a 0)), (1, .int p1)] rfl (Nat.le_of_ble_eq_true rfl) ?_
  intro p e s m below meth c A ls hx hb hr hlk hml hown hts hK hP hD hA hS hX hl
  have hown : s.vm.findClass RX5 = some m.cls := hown
  unfold wp_X5_takes at hf
  have hH0 : s.heap = s.heap := rfl
  refine lv_aload_n hx hb dX5_takes_0 rfl (lv_at hl 0 rfl) ?_
  refine cvi (As := []) (rest := []) (wr := []) (wn := (fun u => (sgX5 k a v_letters v_size u v_passed v_fault))) ⟨hx, hb, hml, hown, hts⟩ (c_X5_next l G k a v_letters v_size v_at v_passed v_fault _ hf) (cwT 0 hts mw421 mw423 mw3 mw74 mw424 rfl hd_X5_next ⟨Nat.le_of_ble_eq_true rfl, Nat.le_of_ble_eq_true rfl⟩) hK hP hD hS hX hA [0, 1] [] [0, 1] rfl rfl (by decide) (by decide) (by decide) (fun u => rfl) (by decide) rfl rfl rfl rfl hl.1 rfl (Nat.le_of_ble_eq_true rfl) dX5_takes_1 (Nat.zero_le _) (Nat.zero_le _) (fun r1 u H locs hf hP hD hS => ?_)
  obtain ⟨v_at_2, rfl⟩ : ∃ z, z = u := ⟨_, rfl⟩
  have hP : va_P G vwCl (sgX5 k a v_letters v_size v_at_2 v_passed v_fault) H := hP
  have hD : va_D A (sgX5 k a v_letters v_size v_at_2 v_passed v_fault) := hD
  refine lv_iload_n hx hb dX5_takes_4 rfl (lv_at hl 1 rfl) ?_
  refine lv_icmp_eq (tgt := 17) hx hb dX5_takes_5 (by decide) (fun c3 => ?_) (fun c3 => ?_)
  · have hf := hf.1 c3
    refine lv_aload_n hx hb dX5_takes_17 rfl (lv_at hl 0 rfl) ?_
    refine cvv (As := []) (rest := []) (wr := []) (wn := (fun u => (sgX5 k a v_letters v_size u.1 u.2 v_fault))) ⟨hx, hb, hml, hown, hts⟩ (c_X5_skip l G k a v_letters v_size v_at_2 v_passed v_fault _ hf) (cwT 0 hts mw515 mw517 mw5 mw74 mw518 rfl hd_X5_skip ⟨Nat.le_of_ble_eq_true rfl, Nat.le_of_ble_eq_true rfl⟩) hK hP hD hS hX hA [0, 1] [] [0, 1] rfl rfl (by decide) (by decide) (by decide) (fun u => rfl) (by decide) rfl rfl rfl rfl hl.1 rfl (Nat.le_of_ble_eq_true rfl) dX5_takes_18 (Nat.zero_le _) (Nat.zero_le _) (fun u H locs hf hP hD hS => ?_)
    obtain ⟨v_at_5, v_passed_6⟩ := u
    have hP : va_P G vwCl (sgX5 k a v_letters v_size v_at_5 v_passed_6 v_fault) H := hP
    have hD : va_D A (sgX5 k a v_letters v_size v_at_5 v_passed_6 v_fault) := hD
    refine lv_iconst (v := 1) hx hb dX5_takes_21 (by decide) ?_
    exact ret_z hx hb hr hlk (Or.inr rfl) (v_at_5, v_passed_6, v_fault) hf hP hD hS dX5_takes_22
  have hf := hf.2 c3
  refine lv_aload_n hx hb dX5_takes_8 rfl (lv_at hl 0 rfl) ?_
  refine lv_aload_n hx hb dX5_takes_9 rfl (lv_at hl 0 rfl) ?_
  refine cvi (As := []) (rest := [.ref (a 0)]) (wr := []) (wn := (fun u => (sgX5 k a v_letters v_size v_at_2 v_passed v_fault))) ⟨hx, hb, hml, hown, hts⟩ (c_X5_here l G k a v_letters v_size v_at_2 v_passed v_fault _ hf) (cwT 0 hts mw511 mw513 mw4 mw74 mw514 rfl hd_X5_here ⟨Nat.le_of_ble_eq_true rfl, Nat.le_of_ble_eq_true rfl⟩) hK hP hD hS hX hA [0, 1] [] [0, 1] rfl rfl (by decide) (by decide) (by decide) (fun u => rfl) (by decide) rfl rfl rfl rfl hl.1 rfl (Nat.le_of_ble_eq_true rfl) dX5_takes_10 (Nat.zero_le _) (Nat.zero_le _) (fun r7 u H locs hf hP hD hS => ?_)
  have hP : va_P G vwCl (sgX5 k a v_letters v_size v_at_2 v_passed v_fault) H := hP
  have hD : va_D A (sgX5 k a v_letters v_size v_at_2 v_passed v_fault) := hD
  refine cvi (As := [.int r7]) (rest := []) (wr := []) (wn := (fun u => (sgX5 k a v_letters v_size v_at_2 v_passed u))) ⟨hx, hb, hml, hown, hts⟩ (c_X5_fails l G k a r7 v_letters v_size v_at_2 v_passed v_fault _ hf) (cwT 1 hts mw546 mw548 mw7 mw74 mw549 rfl hd_X5_fails ⟨Nat.le_of_ble_eq_true rfl, Nat.le_of_ble_eq_true rfl⟩) hK hP hD hS hX hA [0, 1] [] [0, 1] rfl rfl (by decide) (by decide) (by decide) (fun u => rfl) (by decide) rfl rfl rfl rfl hl.1 rfl (Nat.le_of_ble_eq_true rfl) dX5_takes_13 (Nat.zero_le _) (Nat.zero_le _) (fun r8 u H locs hf hP hD hS => ?_)
  obtain ⟨v_fault_9, rfl⟩ : ∃ z, z = u := ⟨_, rfl⟩
  have hP : va_P G vwCl (sgX5 k a v_letters v_size v_at_2 v_passed v_fault_9) H := hP
  have hD : va_D A (sgX5 k a v_letters v_size v_at_2 v_passed v_fault_9) := hD
  obtain ⟨hz, hf⟩ := hf
  exact ret_z hx hb hr hlk hz (v_at_2, v_passed, v_fault_9) hf hP hD hS dX5_takes_16
def wp_X5_readStreet (v_letters : Nat → Int32) (v_size : Int32) (v_at : Int32) (v_passed : Int32) (v_fault : Int32) (p1_clocks : Int32) (p1_kind : Nat → Int32) (p1_hands : Nat → Int32) (p1_rate : Nat → Int32) (p1_spring : Nat → Int32) (p1_window : Nat → Int32) (p1_finish : Nat → Int32) (post : Int32 → (Int32) → (Int32) → (Int32) → (Int32) → (Nat → Int32) → (Nat → Int32) → (Nat → Int32) → (Nat → Int32) → (Nat → Int32) → (Nat → Int32) → Prop) : Prop :=
  (wp_X5_rewind v_at v_passed v_fault (fun (v_at_2 : Int32) (v_passed_3 : Int32) (v_fault_4 : Int32) =>
 (∃ I5 : Nat → (Int32) → (Int32) → (Int32) → (Int32) → (Int32) → (Nat → Int32) → (Nat → Int32) → (Nat → Int32) → (Nat → Int32) → (Nat → Int32) → (Nat → Int32) → Prop, (∃ n5, I5 n5 1 v_at_2 v_passed_3 v_fault_4 p1_clocks p1_kind p1_hands p1_rate p1_spring p1_window p1_finish) ∧ ∀ (n5 : Nat) (x2_5 : Int32) (v_at_5 : Int32) (v_passed_5 : Int32) (v_fault_5 : Int32) (p1_clocks_5 : Int32) (p1_kind_5 : Nat → Int32) (p1_hands_5 : Nat → Int32) (p1_rate_5 : Nat → Int32) (p1_spring_5 : Nat → Int32) (p1_window_5 : Nat → Int32) (p1_finish_5 : Nat → Int32), I5 n5 x2_5 v_at_5 v_passed_5 v_fault_5 p1_clocks_5 p1_kind_5 p1_hands_5 p1_rate_5 p1_spring_5 p1_window_5 p1_finish_5 →
 ((9 < x2_5 → (wp_X5_here v_passed_5 (fun (r7 : Int32) =>
 (post r7 v_at_5 v_passed_5 v_fault_5 p1_clocks_5 p1_kind_5 p1_hands_5 p1_rate_5 p1_spring_5 p1_window_5 p1_finish_5)))) ∧
 (¬ 9 < x2_5 → (wp_X5_readClock v_letters v_size v_at_5 v_passed_5 v_fault_5 p1_clocks_5 p1_kind_5 p1_hands_5 p1_rate_5 p1_spring_5 p1_window_5 p1_finish_5 (fun (r8 : Int32) (v_at_9 : Int32) (v_passed_10 : Int32) (v_fault_11 : Int32) (p1_clocks_12 : Int32) (p1_kind_13 : Nat → Int32) (p1_hands_14 : Nat → Int32) (p1_rate_15 : Nat → Int32) (p1_spring_16 : Nat → Int32) (p1_window_17 : Nat → Int32) (p1_finish_18 : Nat → Int32) =>
 ((¬ r8 = 0 → (wp_X5_next v_letters v_size v_at_9 (fun (r20 : Int32) (v_at_21 : Int32) =>
 ((¬ r20 = (-1) → ((9 ≤ x2_5 → (∀ z24 : Int32, z24 = x2_5 + 1 → (∃ m9, m9 < n5 ∧ I5 m9 z24 v_at_21 v_passed_10 v_fault_11 p1_clocks_12 p1_kind_13 p1_hands_14 p1_rate_15 p1_spring_16 p1_window_17 p1_finish_18))) ∧
 (¬ 9 ≤ x2_5 → (wp_X5_takes 44 v_letters v_size v_at_21 v_passed_10 v_fault_11 (fun (r25 : Int32) (v_at_26 : Int32) (v_passed_27 : Int32) (v_fault_28 : Int32) =>
 ((¬ r25 = 0 → (∀ z30 : Int32, z30 = x2_5 + 1 → (∃ m9, m9 < n5 ∧ I5 m9 z30 v_at_26 v_passed_27 v_fault_28 p1_clocks_12 p1_kind_13 p1_hands_14 p1_rate_15 p1_spring_16 p1_window_17 p1_finish_18))) ∧
 (r25 = 0 → (post v_fault_28 v_at_26 v_passed_27 v_fault_28 p1_clocks_12 p1_kind_13 p1_hands_14 p1_rate_15 p1_spring_16 p1_window_17 p1_finish_18)))))))) ∧
 (r20 = (-1) → (post x2_5 v_at_21 v_passed_10 v_fault_11 p1_clocks_12 p1_kind_13 p1_hands_14 p1_rate_15 p1_spring_16 p1_window_17 p1_finish_18)))))) ∧
 (r8 = 0 → (post v_fault_11 v_at_9 v_passed_10 v_fault_11 p1_clocks_12 p1_kind_13 p1_hands_14 p1_rate_15 p1_spring_16 p1_window_17 p1_finish_18))))))))))
set_option maxHeartbeats 4000000 in
set_option maxRecDepth 100000 in
theorem c_X5_readStreet (l : Launch) (G : va_G) (k : Nat → ClassId) (a : Nat → Nat) (b1 : Nat → Nat) (v_letters : Nat → Int32) (v_size : Int32) (v_at : Int32) (v_passed : Int32) (v_fault : Int32) (p1_windows : Int32) (p1_dials : Nat → Int32) (p1_clocks : Int32) (p1_kind : Nat → Int32) (p1_hands : Nat → Int32) (p1_rate : Nat → Int32) (p1_spring : Nat → Int32) (p1_window : Nat → Int32) (p1_finish : Nat → Int32) (p1_skies : Int32) (p1_sky : Nat → Int32) (p1_hour : Int32) (p1_heard : Int32) (p1_strokes : Int32) (post : Int32 → (Int32) → (Int32) → (Int32) → (Int32) → (Nat → Int32) → (Nat → Int32) → (Nat → Int32) → (Nat → Int32) → (Nat → Int32) → (Nat → Int32) → Prop) (hf : wp_X5_readStreet v_letters v_size v_at v_passed v_fault p1_clocks p1_kind p1_hands p1_rate p1_spring p1_window p1_finish post) : MI (S := (Int32) × (Int32) × (Int32) × (Int32) × (Nat → Int32) × (Nat → Int32) × (Nat → Int32) × (Nat → Int32) × (Nat → Int32) × (Nat → Int32)) l G k yX5_readStreet (Cond.code yX5_readStreet cX5_readStreet 3 (some .int) :: wT) 5 116 [.ref (a 0), .ref (b1 0)] (sgX5 k a v_letters v_size v_at v_passed v_fault ++ sgX2 k b1 p1_windows p1_dials p1_clocks p1_kind p1_hands p1_rate p1_spring p1_window p1_finish p1_skies p1_sky p1_hour p1_heard p1_strokes) (fun u => (sgX5 k a v_letters v_size u.1 u.2.1 u.2.2.1 ++ sgX2 k b1 p1_windows p1_dials u.2.2.2.1 u.2.2.2.2.1 u.2.2.2.2.2.1 u.2.2.2.2.2.2.1 u.2.2.2.2.2.2.2.1 u.2.2.2.2.2.2.2.2.1 u.2.2.2.2.2.2.2.2.2 p1_skies p1_sky p1_hour p1_heard p1_strokes)) (fun r u => post r u.1 u.2.1 u.2.2.1 u.2.2.2.1 u.2.2.2.2.1 u.2.2.2.2.2.1 u.2.2.2.2.2.2.1 u.2.2.2.2.2.2.2.1 u.2.2.2.2.2.2.2.2.1 u.2.2.2.2.2.2.2.2.2) := by
  refine mi_start (cc := cX5_readStreet) (maxL := 3) (ret := (some .int)) (by decide) [(0, .ref (a 0)), (1, .ref (b1 0))] rfl (Nat.le_of_ble_eq_true rfl) ?_
  intro p e s m below meth c A ls hx hb hr hlk hml hown hts hK hP hD hA hS hX hl
  have hown : s.vm.findClass RX5 = some m.cls := hown
  unfold wp_X5_readStreet at hf
  have hH0 : s.heap = s.heap := rfl
  refine lv_aload_n hx hb dX5_readStreet_0 rfl (lv_at hl 0 rfl) ?_
  refine cvv (As := []) (rest := []) (wr := (sgX2 k b1 p1_windows p1_dials p1_clocks p1_kind p1_hands p1_rate p1_spring p1_window p1_finish p1_skies p1_sky p1_hour p1_heard p1_strokes)) (wn := (fun u => (sgX5 k a v_letters v_size u.1 u.2.1 u.2.2 ++ sgX2 k b1 p1_windows p1_dials p1_clocks p1_kind p1_hands p1_rate p1_spring p1_window p1_finish p1_skies p1_sky p1_hour p1_heard p1_strokes))) ⟨hx, hb, hml, hown, hts⟩ (c_X5_rewind l G k a v_letters v_size v_at v_passed v_fault _ hf) (cwT 0 hts mw417 mw419 mw2 mw74 mw420 rfl hd_X5_rewind ⟨Nat.le_of_ble_eq_true rfl, Nat.le_of_ble_eq_true rfl⟩) hK hP hD hS hX hA [0, 1] [2, 3, 4, 5, 6, 7, 8, 9, 10] [9, 10, 0, 1, 2, 3, 4, 5, 6, 7, 8] rfl rfl (by decide) (by decide) (by decide) (fun u => rfl) (by decide) rfl rfl rfl rfl hl.1 rfl (Nat.le_of_ble_eq_true rfl) dX5_readStreet_1 (Nat.zero_le _) (Nat.zero_le _) (fun u H locs hf hP hD hS => ?_)
  obtain ⟨v_at_2, v_passed_3, v_fault_4⟩ := u
  have hP : va_P G vwCl (sgX5 k a v_letters v_size v_at_2 v_passed_3 v_fault_4 ++ sgX2 k b1 p1_windows p1_dials p1_clocks p1_kind p1_hands p1_rate p1_spring p1_window p1_finish p1_skies p1_sky p1_hour p1_heard p1_strokes) H := hP
  have hD : va_D A (sgX5 k a v_letters v_size v_at_2 v_passed_3 v_fault_4 ++ sgX2 k b1 p1_windows p1_dials p1_clocks p1_kind p1_hands p1_rate p1_spring p1_window p1_finish p1_skies p1_sky p1_hour p1_heard p1_strokes) := hD
  refine lv_iconst (v := 1) hx hb dX5_readStreet_4 (by decide) ?_
  refine lv_istore_n (lv' := [(2, .int 1), (0, .ref (a 0)), (1, .ref (b1 0))]) hx hb dX5_readStreet_5 rfl hl (by decide) rfl (fun ls hl => ?_)
  obtain ⟨I5, ⟨n5, hi5⟩, hs5⟩ := hf
  refine w_loop (G := G) (A := A) (H0 := s.heap) (nL := 3) (σ := (Int32) × (Int32) × (Int32) × (Int32) × (Int32) × (Nat → Int32) × (Nat → Int32) × (Nat → Int32) × (Nat → Int32) × (Nat → Int32) × (Nat → Int32)) (I := fun n v => I5 n v.1 v.2.1 v.2.2.1 v.2.2.2.1 v.2.2.2.2.1 v.2.2.2.2.2.1 v.2.2.2.2.2.2.1 v.2.2.2.2.2.2.2.1 v.2.2.2.2.2.2.2.2.1 v.2.2.2.2.2.2.2.2.2.1 v.2.2.2.2.2.2.2.2.2.2) (wl := fun v => (sgX5 k a v_letters v_size v.2.1 v.2.2.1 v.2.2.2.1 ++ sgX2 k b1 p1_windows p1_dials v.2.2.2.2.1 v.2.2.2.2.2.1 v.2.2.2.2.2.2.1 v.2.2.2.2.2.2.2.1 v.2.2.2.2.2.2.2.2.1 v.2.2.2.2.2.2.2.2.2.1 v.2.2.2.2.2.2.2.2.2.2 p1_skies p1_sky p1_hour p1_heard p1_strokes)) (lv := fun v => [(0, .ref (a 0)), (1, .ref (b1 0)), (2, .int v.1)]) (st := fun _ => []) n5 (1, v_at_2, v_passed_3, v_fault_4, p1_clocks, p1_kind, p1_hands, p1_rate, p1_spring, p1_window, p1_finish) hi5 hP hD hS (lv_sub hl [1, 2, 0] rfl) (fun n5 v hi ih5 H locs ls hP hD hS hl => ?_)
  obtain ⟨x2_5, v_at_5, v_passed_5, v_fault_5, p1_clocks_5, p1_kind_5, p1_hands_5, p1_rate_5, p1_spring_5, p1_window_5, p1_finish_5⟩ := v
  have hf := hs5 n5 x2_5 v_at_5 v_passed_5 v_fault_5 p1_clocks_5 p1_kind_5 p1_hands_5 p1_rate_5 p1_spring_5 p1_window_5 p1_finish_5 hi
  have hP : va_P G vwCl (sgX5 k a v_letters v_size v_at_5 v_passed_5 v_fault_5 ++ sgX2 k b1 p1_windows p1_dials p1_clocks_5 p1_kind_5 p1_hands_5 p1_rate_5 p1_spring_5 p1_window_5 p1_finish_5 p1_skies p1_sky p1_hour p1_heard p1_strokes) H := hP
  have hD : va_D A (sgX5 k a v_letters v_size v_at_5 v_passed_5 v_fault_5 ++ sgX2 k b1 p1_windows p1_dials p1_clocks_5 p1_kind_5 p1_hands_5 p1_rate_5 p1_spring_5 p1_window_5 p1_finish_5 p1_skies p1_sky p1_hour p1_heard p1_strokes) := hD
  have hl : lv_has ls 3 [(0, .ref (a 0)), (1, .ref (b1 0)), (2, .int x2_5)] := hl
  refine lv_iload_n hx hb dX5_readStreet_6 rfl (lv_at hl 2 rfl) ?_
  refine lv_bipush (v := 9) hx hb dX5_readStreet_7 (by decide) ?_
  refine lv_icmp_gt (tgt := 61) hx hb dX5_readStreet_9 (by decide) (fun c6 => ?_) (fun c6 => ?_)
  · have hf := hf.1 c6
    refine lv_aload_n hx hb dX5_readStreet_61 rfl (lv_at hl 0 rfl) ?_
    refine cvi (As := []) (rest := []) (wr := (sgX2 k b1 p1_windows p1_dials p1_clocks_5 p1_kind_5 p1_hands_5 p1_rate_5 p1_spring_5 p1_window_5 p1_finish_5 p1_skies p1_sky p1_hour p1_heard p1_strokes)) (wn := (fun u => (sgX5 k a v_letters v_size v_at_5 v_passed_5 v_fault_5 ++ sgX2 k b1 p1_windows p1_dials p1_clocks_5 p1_kind_5 p1_hands_5 p1_rate_5 p1_spring_5 p1_window_5 p1_finish_5 p1_skies p1_sky p1_hour p1_heard p1_strokes))) ⟨hx, hb, hml, hown, hts⟩ (c_X5_here l G k a v_letters v_size v_at_5 v_passed_5 v_fault_5 _ hf) (cwT 0 hts mw511 mw513 mw4 mw74 mw514 rfl hd_X5_here ⟨Nat.le_of_ble_eq_true rfl, Nat.le_of_ble_eq_true rfl⟩) hK hP hD hS hX hA [0, 1] [2, 3, 4, 5, 6, 7, 8, 9, 10] [9, 10, 0, 1, 2, 3, 4, 5, 6, 7, 8] rfl rfl (by decide) (by decide) (by decide) (fun u => rfl) (by decide) rfl rfl rfl rfl hl.1 rfl (Nat.le_of_ble_eq_true rfl) dX5_readStreet_62 (Nat.zero_le _) (Nat.zero_le _) (fun r7 u H locs hf hP hD hS => ?_)
    have hP : va_P G vwCl (sgX5 k a v_letters v_size v_at_5 v_passed_5 v_fault_5 ++ sgX2 k b1 p1_windows p1_dials p1_clocks_5 p1_kind_5 p1_hands_5 p1_rate_5 p1_spring_5 p1_window_5 p1_finish_5 p1_skies p1_sky p1_hour p1_heard p1_strokes) H := hP
    have hD : va_D A (sgX5 k a v_letters v_size v_at_5 v_passed_5 v_fault_5 ++ sgX2 k b1 p1_windows p1_dials p1_clocks_5 p1_kind_5 p1_hands_5 p1_rate_5 p1_spring_5 p1_window_5 p1_finish_5 p1_skies p1_sky p1_hour p1_heard p1_strokes) := hD
    exact ret_i hx hb hr hlk (v_at_5, v_passed_5, v_fault_5, p1_clocks_5, p1_kind_5, p1_hands_5, p1_rate_5, p1_spring_5, p1_window_5, p1_finish_5) hf hP hD hS dX5_readStreet_65
  have hf := hf.2 c6
  refine lv_aload_n hx hb dX5_readStreet_12 rfl (lv_at hl 0 rfl) ?_
  refine lv_aload_n hx hb dX5_readStreet_13 rfl (lv_at hl 1 rfl) ?_
  refine cvi (As := [.ref (b1 0)]) (rest := []) (wr := []) (wn := (fun u => (sgX5 k a v_letters v_size u.1 u.2.1 u.2.2.1 ++ sgX2 k b1 p1_windows p1_dials u.2.2.2.1 u.2.2.2.2.1 u.2.2.2.2.2.1 u.2.2.2.2.2.2.1 u.2.2.2.2.2.2.2.1 u.2.2.2.2.2.2.2.2.1 u.2.2.2.2.2.2.2.2.2 p1_skies p1_sky p1_hour p1_heard p1_strokes))) ⟨hx, hb, hml, hown, hts⟩ (c_X5_readClock l G k a b1 v_letters v_size v_at_5 v_passed_5 v_fault_5 p1_windows p1_dials p1_clocks_5 p1_kind_5 p1_hands_5 p1_rate_5 p1_spring_5 p1_window_5 p1_finish_5 p1_skies p1_sky p1_hour p1_heard p1_strokes _ hf) (cwT 1 hts mw541 mw543 mw6 mw74 mw544 rfl hd_X5_readClock ⟨Nat.le_of_ble_eq_true rfl, Nat.le_of_ble_eq_true rfl⟩) hK hP hD hS hX hA [0, 1, 2, 3, 4, 5, 6, 7, 8, 9, 10] [] [0, 1, 2, 3, 4, 5, 6, 7, 8, 9, 10] rfl rfl (by decide) (by decide) (by decide) (fun u => rfl) (by decide) rfl rfl rfl rfl hl.1 rfl (Nat.le_of_ble_eq_true rfl) dX5_readStreet_14 (Nat.zero_le _) (Nat.zero_le _) (fun r8 u H locs hf hP hD hS => ?_)
  obtain ⟨v_at_9, v_passed_10, v_fault_11, p1_clocks_12, p1_kind_13, p1_hands_14, p1_rate_15, p1_spring_16, p1_window_17, p1_finish_18⟩ := u
  have hP : va_P G vwCl (sgX5 k a v_letters v_size v_at_9 v_passed_10 v_fault_11 ++ sgX2 k b1 p1_windows p1_dials p1_clocks_12 p1_kind_13 p1_hands_14 p1_rate_15 p1_spring_16 p1_window_17 p1_finish_18 p1_skies p1_sky p1_hour p1_heard p1_strokes) H := hP
  have hD : va_D A (sgX5 k a v_letters v_size v_at_9 v_passed_10 v_fault_11 ++ sgX2 k b1 p1_windows p1_dials p1_clocks_12 p1_kind_13 p1_hands_14 p1_rate_15 p1_spring_16 p1_window_17 p1_finish_18 p1_skies p1_sky p1_hour p1_heard p1_strokes) := hD
  refine lv_if_ne (tgt := 25) hx hb dX5_readStreet_17 (by decide) (fun c19 => ?_) (fun c19 => ?_)
  · have hf := hf.1 c19
    refine lv_aload_n hx hb dX5_readStreet_25 rfl (lv_at hl 0 rfl) ?_
    refine cvi (As := []) (rest := []) (wr := (sgX2 k b1 p1_windows p1_dials p1_clocks_12 p1_kind_13 p1_hands_14 p1_rate_15 p1_spring_16 p1_window_17 p1_finish_18 p1_skies p1_sky p1_hour p1_heard p1_strokes)) (wn := (fun u => (sgX5 k a v_letters v_size u v_passed_10 v_fault_11 ++ sgX2 k b1 p1_windows p1_dials p1_clocks_12 p1_kind_13 p1_hands_14 p1_rate_15 p1_spring_16 p1_window_17 p1_finish_18 p1_skies p1_sky p1_hour p1_heard p1_strokes))) ⟨hx, hb, hml, hown, hts⟩ (c_X5_next l G k a v_letters v_size v_at_9 v_passed_10 v_fault_11 _ hf) (cwT 0 hts mw421 mw423 mw3 mw74 mw424 rfl hd_X5_next ⟨Nat.le_of_ble_eq_true rfl, Nat.le_of_ble_eq_true rfl⟩) hK hP hD hS hX hA [0, 1] [2, 3, 4, 5, 6, 7, 8, 9, 10] [9, 10, 0, 1, 2, 3, 4, 5, 6, 7, 8] rfl rfl (by decide) (by decide) (by decide) (fun u => rfl) (by decide) rfl rfl rfl rfl hl.1 rfl (Nat.le_of_ble_eq_true rfl) dX5_readStreet_26 (Nat.zero_le _) (Nat.zero_le _) (fun r20 u H locs hf hP hD hS => ?_)
    obtain ⟨v_at_21, rfl⟩ : ∃ z, z = u := ⟨_, rfl⟩
    have hP : va_P G vwCl (sgX5 k a v_letters v_size v_at_21 v_passed_10 v_fault_11 ++ sgX2 k b1 p1_windows p1_dials p1_clocks_12 p1_kind_13 p1_hands_14 p1_rate_15 p1_spring_16 p1_window_17 p1_finish_18 p1_skies p1_sky p1_hour p1_heard p1_strokes) H := hP
    have hD : va_D A (sgX5 k a v_letters v_size v_at_21 v_passed_10 v_fault_11 ++ sgX2 k b1 p1_windows p1_dials p1_clocks_12 p1_kind_13 p1_hands_14 p1_rate_15 p1_spring_16 p1_window_17 p1_finish_18 p1_skies p1_sky p1_hour p1_heard p1_strokes) := hD
    refine lv_iconst (v := (-1)) hx hb dX5_readStreet_29 (by decide) ?_
    refine lv_icmp_ne (tgt := 35) hx hb dX5_readStreet_30 (by decide) (fun c22 => ?_) (fun c22 => ?_)
    · have hf := hf.1 c22
      refine lv_iload_n hx hb dX5_readStreet_35 rfl (lv_at hl 2 rfl) ?_
      refine lv_bipush (v := 9) hx hb dX5_readStreet_36 (by decide) ?_
      refine lv_icmp_ge (tgt := 55) hx hb dX5_readStreet_38 (by decide) (fun c23 => ?_) (fun c23 => ?_)
      · have hf := hf.1 c23
        obtain ⟨z24, ez24⟩ : ∃ y : Int32, y = x2_5 + 1 := ⟨_, rfl⟩
        have hf := hf z24 ez24
        refine lv_iinc (v := z24) (lv' := [(2, .int z24), (0, .ref (a 0)), (1, .ref (b1 0))]) hx hb dX5_readStreet_55 hl (k := 2) rfl (by rw [ez24]; rfl) (by decide) rfl (fun ls hl => ?_)
        refine lv_goto (tgt := 6) hx hb dX5_readStreet_58 (by decide) ?_
        obtain ⟨m9, hm9, hi9⟩ := hf
        exact ih5 m9 (z24, v_at_21, v_passed_10, v_fault_11, p1_clocks_12, p1_kind_13, p1_hands_14, p1_rate_15, p1_spring_16, p1_window_17, p1_finish_18) hm9 hi9 _ _ _ hP hD hS (lv_sub hl [1, 2, 0] rfl)
      have hf := hf.2 c23
      refine lv_aload_n hx hb dX5_readStreet_41 rfl (lv_at hl 0 rfl) ?_
      refine lv_bipush (v := 44) hx hb dX5_readStreet_42 (by decide) ?_
      refine cvi (As := [.int 44]) (rest := []) (wr := (sgX2 k b1 p1_windows p1_dials p1_clocks_12 p1_kind_13 p1_hands_14 p1_rate_15 p1_spring_16 p1_window_17 p1_finish_18 p1_skies p1_sky p1_hour p1_heard p1_strokes)) (wn := (fun u => (sgX5 k a v_letters v_size u.1 u.2.1 u.2.2 ++ sgX2 k b1 p1_windows p1_dials p1_clocks_12 p1_kind_13 p1_hands_14 p1_rate_15 p1_spring_16 p1_window_17 p1_finish_18 p1_skies p1_sky p1_hour p1_heard p1_strokes))) ⟨hx, hb, hml, hown, hts⟩ (c_X5_takes l G k a 44 v_letters v_size v_at_21 v_passed_10 v_fault_11 _ hf) (cwT 1 hts mw560 mw562 mw9 mw74 mw563 rfl hd_X5_takes ⟨Nat.le_of_ble_eq_true rfl, Nat.le_of_ble_eq_true rfl⟩) hK hP hD hS hX hA [0, 1] [2, 3, 4, 5, 6, 7, 8, 9, 10] [9, 10, 0, 1, 2, 3, 4, 5, 6, 7, 8] rfl rfl (by decide) (by decide) (by decide) (fun u => rfl) (by decide) rfl rfl rfl rfl hl.1 rfl (Nat.le_of_ble_eq_true rfl) dX5_readStreet_44 (Nat.zero_le _) (Nat.zero_le _) (fun r25 u H locs hf hP hD hS => ?_)
      obtain ⟨v_at_26, v_passed_27, v_fault_28⟩ := u
      have hP : va_P G vwCl (sgX5 k a v_letters v_size v_at_26 v_passed_27 v_fault_28 ++ sgX2 k b1 p1_windows p1_dials p1_clocks_12 p1_kind_13 p1_hands_14 p1_rate_15 p1_spring_16 p1_window_17 p1_finish_18 p1_skies p1_sky p1_hour p1_heard p1_strokes) H := hP
      have hD : va_D A (sgX5 k a v_letters v_size v_at_26 v_passed_27 v_fault_28 ++ sgX2 k b1 p1_windows p1_dials p1_clocks_12 p1_kind_13 p1_hands_14 p1_rate_15 p1_spring_16 p1_window_17 p1_finish_18 p1_skies p1_sky p1_hour p1_heard p1_strokes) := hD
      refine lv_if_ne (tgt := 55) hx hb dX5_readStreet_47 (by decide) (fun c29 => ?_) (fun c29 => ?_)
      · have hf := hf.1 c29
        obtain ⟨z30, ez30⟩ : ∃ y : Int32, y = x2_5 + 1 := ⟨_, rfl⟩
        have hf := hf z30 ez30
        refine lv_iinc (v := z30) (lv' := [(2, .int z30), (0, .ref (a 0)), (1, .ref (b1 0))]) hx hb dX5_readStreet_55 hl (k := 2) rfl (by rw [ez30]; rfl) (by decide) rfl (fun ls hl => ?_)
        refine lv_goto (tgt := 6) hx hb dX5_readStreet_58 (by decide) ?_
        obtain ⟨m9, hm9, hi9⟩ := hf
        exact ih5 m9 (z30, v_at_26, v_passed_27, v_fault_28, p1_clocks_12, p1_kind_13, p1_hands_14, p1_rate_15, p1_spring_16, p1_window_17, p1_finish_18) hm9 hi9 _ _ _ hP hD hS (lv_sub hl [1, 2, 0] rfl)
      have hf := hf.2 c29
      refine lv_aload_n hx hb dX5_readStreet_50 rfl (lv_at hl 0 rfl) ?_
      refine va_get (D := G) (ci := 5) (v := .int v_fault_28) (C := RX5) (T := TX5) (N := 5) hx hb hts inX5 hown hK hP 0 rfl rfl 4 (by decide) (hts _ mw235) (fun _ h9 => h9) rfl dX5_readStreet_51 ?_
      exact ret_i hx hb hr hlk (v_at_26, v_passed_27, v_fault_28, p1_clocks_12, p1_kind_13, p1_hands_14, p1_rate_15, p1_spring_16, p1_window_17, p1_finish_18) hf hP hD hS dX5_readStreet_54
    have hf := hf.2 c22
    refine lv_iload_n hx hb dX5_readStreet_33 rfl (lv_at hl 2 rfl) ?_
    exact ret_i hx hb hr hlk (v_at_21, v_passed_10, v_fault_11, p1_clocks_12, p1_kind_13, p1_hands_14, p1_rate_15, p1_spring_16, p1_window_17, p1_finish_18) hf hP hD hS dX5_readStreet_34
  have hf := hf.2 c19
  refine lv_aload_n hx hb dX5_readStreet_20 rfl (lv_at hl 0 rfl) ?_
  refine va_get (D := G) (ci := 5) (v := .int v_fault_11) (C := RX5) (T := TX5) (N := 5) hx hb hts inX5 hown hK hP 0 rfl rfl 4 (by decide) (hts _ mw235) (fun _ h9 => h9) rfl dX5_readStreet_21 ?_
  exact ret_i hx hb hr hlk (v_at_9, v_passed_10, v_fault_11, p1_clocks_12, p1_kind_13, p1_hands_14, p1_rate_15, p1_spring_16, p1_window_17, p1_finish_18) hf hP hD hS dX5_readStreet_24
def wp_X5_readBreath (v_letters : Nat → Int32) (v_size : Int32) (v_at : Int32) (v_passed : Int32) (v_fault : Int32) (p1_size : Int32) (p1_act : Nat → Int32) (p1_whom : Nat → Int32) (p1_amount : Nat → Int32) (post : Int32 → (Int32) → (Int32) → (Int32) → (Int32) → (Nat → Int32) → (Nat → Int32) → (Nat → Int32) → Prop) : Prop :=
  (wp_X5_number 0 100000 v_letters v_size v_at v_passed v_fault (fun (r1 : Int32) (v_at_2 : Int32) (v_passed_3 : Int32) (v_fault_4 : Int32) =>
 ((0 ≤ r1 → (wp_X1_add 3 r1 0 p1_size p1_act p1_whom p1_amount (fun (p1_size_7 : Int32) (p1_act_8 : Nat → Int32) (p1_whom_9 : Nat → Int32) (p1_amount_10 : Nat → Int32) =>
 (post 1 v_at_2 v_passed_3 v_fault_4 p1_size_7 p1_act_8 p1_whom_9 p1_amount_10)))) ∧
 (¬ 0 ≤ r1 → (post 0 v_at_2 v_passed_3 v_fault_4 p1_size p1_act p1_whom p1_amount)))))
set_option maxHeartbeats 4000000 in
set_option maxRecDepth 100000 in
theorem c_X5_readBreath (l : Launch) (G : va_G) (k : Nat → ClassId) (a : Nat → Nat) (b1 : Nat → Nat) (v_letters : Nat → Int32) (v_size : Int32) (v_at : Int32) (v_passed : Int32) (v_fault : Int32) (p1_size : Int32) (p1_act : Nat → Int32) (p1_whom : Nat → Int32) (p1_amount : Nat → Int32) (post : Int32 → (Int32) → (Int32) → (Int32) → (Int32) → (Nat → Int32) → (Nat → Int32) → (Nat → Int32) → Prop) (hf : wp_X5_readBreath v_letters v_size v_at v_passed v_fault p1_size p1_act p1_whom p1_amount post) : MI (S := (Int32) × (Int32) × (Int32) × (Int32) × (Nat → Int32) × (Nat → Int32) × (Nat → Int32)) l G k yX5_readBreath (Cond.code yX5_readBreath cX5_readBreath 3 (some .boolean) :: wT) 2 45 [.ref (a 0), .ref (b1 0)] (sgX5 k a v_letters v_size v_at v_passed v_fault ++ sgX1 k b1 p1_size p1_act p1_whom p1_amount) (fun u => (sgX5 k a v_letters v_size u.1 u.2.1 u.2.2.1 ++ sgX1 k b1 u.2.2.2.1 u.2.2.2.2.1 u.2.2.2.2.2.1 u.2.2.2.2.2.2)) (fun r u => post r u.1 u.2.1 u.2.2.1 u.2.2.2.1 u.2.2.2.2.1 u.2.2.2.2.2.1 u.2.2.2.2.2.2) := by
  refine mi_start (cc := cX5_readBreath) (maxL := 3) (ret := (some .boolean)) (by decide) [(0, .ref (a 0)), (1, .ref (b1 0))] rfl (Nat.le_of_ble_eq_true rfl) ?_
  intro p e s m below meth c A ls hx hb hr hlk hml hown hts hK hP hD hA hS hX hl
  have hown : s.vm.findClass RX5 = some m.cls := hown
  unfold wp_X5_readBreath at hf
  have hH0 : s.heap = s.heap := rfl
  refine lv_aload_n hx hb dX5_readBreath_0 rfl (lv_at hl 0 rfl) ?_
  refine lv_iconst (v := 0) hx hb dX5_readBreath_1 (by decide) ?_
  refine lv_ldc hx hb hown (hts _ mw557) dX5_readBreath_2 ?_
  refine cvi (As := [.int 0, .int 100000]) (rest := []) (wr := (sgX1 k b1 p1_size p1_act p1_whom p1_amount)) (wn := (fun u => (sgX5 k a v_letters v_size u.1 u.2.1 u.2.2 ++ sgX1 k b1 p1_size p1_act p1_whom p1_amount))) ⟨hx, hb, hml, hown, hts⟩ (c_X5_number l G k a 0 100000 v_letters v_size v_at v_passed v_fault _ hf) (cwT 2 hts mw550 mw552 mw8 mw74 mw553 rfl hd_X5_number ⟨Nat.le_of_ble_eq_true rfl, Nat.le_of_ble_eq_true rfl⟩) hK hP hD hS hX hA [0, 1] [2, 3, 4, 5] [4, 5, 0, 1, 2, 3] rfl rfl (by decide) (by decide) (by decide) (fun u => rfl) (by decide) rfl rfl rfl rfl hl.1 rfl (Nat.le_of_ble_eq_true rfl) dX5_readBreath_4 (Nat.zero_le _) (Nat.zero_le _) (fun r1 u H locs hf hP hD hS => ?_)
  obtain ⟨v_at_2, v_passed_3, v_fault_4⟩ := u
  have hP : va_P G vwCl (sgX5 k a v_letters v_size v_at_2 v_passed_3 v_fault_4 ++ sgX1 k b1 p1_size p1_act p1_whom p1_amount) H := hP
  have hD : va_D A (sgX5 k a v_letters v_size v_at_2 v_passed_3 v_fault_4 ++ sgX1 k b1 p1_size p1_act p1_whom p1_amount) := hD
  refine lv_istore_n (lv' := [(2, .int r1), (0, .ref (a 0)), (1, .ref (b1 0))]) hx hb dX5_readBreath_7 rfl hl (by decide) rfl (fun ls hl => ?_)
  refine lv_iload_n hx hb dX5_readBreath_8 rfl (lv_at hl 0 rfl) ?_
  refine lv_if_ge (tgt := 14) hx hb dX5_readBreath_9 (by decide) (fun c5 => ?_) (fun c5 => ?_)
  · have hf := hf.1 c5
    refine lv_aload_n hx hb dX5_readBreath_14 rfl (lv_at hl 2 rfl) ?_
    refine lv_iconst (v := 3) hx hb dX5_readBreath_15 (by decide) ?_
    refine lv_iload_n hx hb dX5_readBreath_16 rfl (lv_at hl 0 rfl) ?_
    refine lv_iconst (v := 0) hx hb dX5_readBreath_17 (by decide) ?_
    refine cvv (As := [.int 3, .int r1, .int 0]) (rest := []) (wr := (sgX5 k a v_letters v_size v_at_2 v_passed_3 v_fault_4)) (wn := (fun u => (sgX5 k a v_letters v_size v_at_2 v_passed_3 v_fault_4 ++ sgX1 k b1 u.1 u.2.1 u.2.2.1 u.2.2.2))) ⟨hx, hb, hml, hown, hts⟩ (c_X1_add l G k b1 3 r1 0 p1_size p1_act p1_whom p1_amount _ hf) (cwT 3 hts mw576 mw577 mw578 mw75 mw579 rfl hd_X1_add ⟨Nat.le_of_ble_eq_true rfl, Nat.le_of_ble_eq_true rfl⟩) hK hP hD hS hX hA [2, 3, 4, 5] [0, 1] [0, 1, 2, 3, 4, 5] rfl rfl (by decide) (by decide) (by decide) (fun u => rfl) (by decide) rfl rfl rfl rfl hl.1 rfl (Nat.le_of_ble_eq_true rfl) dX5_readBreath_18 (Nat.zero_le _) (Nat.zero_le _) (fun u H locs hf hP hD hS => ?_)
    obtain ⟨p1_size_7, p1_act_8, p1_whom_9, p1_amount_10⟩ := u
    have hP : va_P G vwCl (sgX5 k a v_letters v_size v_at_2 v_passed_3 v_fault_4 ++ sgX1 k b1 p1_size_7 p1_act_8 p1_whom_9 p1_amount_10) H := hP
    have hD : va_D A (sgX5 k a v_letters v_size v_at_2 v_passed_3 v_fault_4 ++ sgX1 k b1 p1_size_7 p1_act_8 p1_whom_9 p1_amount_10) := hD
    refine lv_iconst (v := 1) hx hb dX5_readBreath_21 (by decide) ?_
    exact ret_z hx hb hr hlk (Or.inr rfl) (v_at_2, v_passed_3, v_fault_4, p1_size_7, p1_act_8, p1_whom_9, p1_amount_10) hf hP hD hS dX5_readBreath_22
  have hf := hf.2 c5
  refine lv_iconst (v := 0) hx hb dX5_readBreath_12 (by decide) ?_
  exact ret_z hx hb hr hlk (Or.inl rfl) (v_at_2, v_passed_3, v_fault_4, p1_size, p1_act, p1_whom, p1_amount) hf hP hD hS dX5_readBreath_13
def wp_X5_readByClock (p2 : Int32) (p3 : Int32) (v_letters : Nat → Int32) (v_size : Int32) (v_at : Int32) (v_passed : Int32) (v_fault : Int32) (p1_size : Int32) (p1_act : Nat → Int32) (p1_whom : Nat → Int32) (p1_amount : Nat → Int32) (post : Int32 → (Int32) → (Int32) → (Int32) → (Int32) → (Nat → Int32) → (Nat → Int32) → (Nat → Int32) → Prop) : Prop :=
  (wp_X5_next v_letters v_size v_at (fun (r1 : Int32) (v_at_2 : Int32) =>
 (wp_X5_isDigit r1 (fun (r3 : Int32) =>
 ((¬ r3 = 0 → (wp_X5_next v_letters v_size v_at_2 (fun (r5 : Int32) (v_at_6 : Int32) =>
 (∀ z7 : Int32, z7 = (r5 - 48) → (wp_X5_skip v_at_6 v_passed (fun (v_at_9 : Int32) (v_passed_10 : Int32) =>
 (wp_X5_takes 43 v_letters v_size v_at_9 v_passed_10 v_fault (fun (r11 : Int32) (v_at_12 : Int32) (v_passed_13 : Int32) (v_fault_14 : Int32) =>
 ((¬ r11 = 0 → (wp_X5_number 1 p3 v_letters v_size v_at_12 v_passed_13 v_fault_14 (fun (r16 : Int32) (v_at_17 : Int32) (v_passed_18 : Int32) (v_fault_19 : Int32) =>
 ((0 ≤ r16 → (wp_X1_add p2 z7 r16 p1_size p1_act p1_whom p1_amount (fun (p1_size_22 : Int32) (p1_act_23 : Nat → Int32) (p1_whom_24 : Nat → Int32) (p1_amount_25 : Nat → Int32) =>
 (post 1 v_at_17 v_passed_18 v_fault_19 p1_size_22 p1_act_23 p1_whom_24 p1_amount_25)))) ∧
 (¬ 0 ≤ r16 → (post 0 v_at_17 v_passed_18 v_fault_19 p1_size p1_act p1_whom p1_amount)))))) ∧
 (r11 = 0 → (post 0 v_at_12 v_passed_13 v_fault_14 p1_size p1_act p1_whom p1_amount))))))))))) ∧
 (r3 = 0 → (wp_X5_here v_passed (fun (r26 : Int32) =>
 (wp_X5_fails r26 v_fault (fun (r27 : Int32) (v_fault_28 : Int32) =>
 ((r27 = 0 ∨ r27 = 1) ∧ post r27 v_at_2 v_passed v_fault_28 p1_size p1_act p1_whom p1_amount)))))))))))
set_option maxHeartbeats 4000000 in
set_option maxRecDepth 100000 in
theorem c_X5_readByClock (l : Launch) (G : va_G) (k : Nat → ClassId) (a : Nat → Nat) (b1 : Nat → Nat) (p2 : Int32) (p3 : Int32) (v_letters : Nat → Int32) (v_size : Int32) (v_at : Int32) (v_passed : Int32) (v_fault : Int32) (p1_size : Int32) (p1_act : Nat → Int32) (p1_whom : Nat → Int32) (p1_amount : Nat → Int32) (post : Int32 → (Int32) → (Int32) → (Int32) → (Int32) → (Nat → Int32) → (Nat → Int32) → (Nat → Int32) → Prop) (hf : wp_X5_readByClock p2 p3 v_letters v_size v_at v_passed v_fault p1_size p1_act p1_whom p1_amount post) : MI (S := (Int32) × (Int32) × (Int32) × (Int32) × (Nat → Int32) × (Nat → Int32) × (Nat → Int32)) l G k yX5_readByClock (Cond.code yX5_readByClock cX5_readByClock 6 (some .boolean) :: wT) 2 45 [.ref (a 0), .ref (b1 0), .int p2, .int p3] (sgX5 k a v_letters v_size v_at v_passed v_fault ++ sgX1 k b1 p1_size p1_act p1_whom p1_amount) (fun u => (sgX5 k a v_letters v_size u.1 u.2.1 u.2.2.1 ++ sgX1 k b1 u.2.2.2.1 u.2.2.2.2.1 u.2.2.2.2.2.1 u.2.2.2.2.2.2)) (fun r u => post r u.1 u.2.1 u.2.2.1 u.2.2.2.1 u.2.2.2.2.1 u.2.2.2.2.2.1 u.2.2.2.2.2.2) := by
  refine mi_start (cc := cX5_readByClock) (maxL := 6) (ret := (some .boolean)) (by decide) [(0, .ref (a 0)), (1, .ref (b1 0)), (2, .int p2), (3, .int p3)] rfl (Nat.le_of_ble_eq_true rfl) ?_
  intro p e s m below meth c A ls hx hb hr hlk hml hown hts hK hP hD hA hS hX hl
  have hown : s.vm.findClass RX5 = some m.cls := hown
  unfold wp_X5_readByClock at hf
  have hH0 : s.heap = s.heap := rfl
  refine lv_aload_n hx hb dX5_readByClock_0 rfl (lv_at hl 0 rfl) ?_
  refine cvi (As := []) (rest := []) (wr := (sgX1 k b1 p1_size p1_act p1_whom p1_amount)) (wn := (fun u => (sgX5 k a v_letters v_size u v_passed v_fault ++ sgX1 k b1 p1_size p1_act p1_whom p1_amount))) ⟨hx, hb, hml, hown, hts⟩ (c_X5_next l G k a v_letters v_size v_at v_passed v_fault _ hf) (cwT 0 hts mw421 mw423 mw3 mw74 mw424 rfl hd_X5_next ⟨Nat.le_of_ble_eq_true rfl, Nat.le_of_ble_eq_true rfl⟩) hK hP hD hS hX hA [0, 1] [2, 3, 4, 5] [4, 5, 0, 1, 2, 3] rfl rfl (by decide) (by decide) (by decide) (fun u => rfl) (by decide) rfl rfl rfl rfl hl.1 rfl (Nat.le_of_ble_eq_true rfl) dX5_readByClock_1 (Nat.zero_le _) (Nat.zero_le _) (fun r1 u H locs hf hP hD hS => ?_)
  obtain ⟨v_at_2, rfl⟩ : ∃ z, z = u := ⟨_, rfl⟩
  have hP : va_P G vwCl (sgX5 k a v_letters v_size v_at_2 v_passed v_fault ++ sgX1 k b1 p1_size p1_act p1_whom p1_amount) H := hP
  have hD : va_D A (sgX5 k a v_letters v_size v_at_2 v_passed v_fault ++ sgX1 k b1 p1_size p1_act p1_whom p1_amount) := hD
  refine csi (As := [.int r1]) (rest := []) ⟨hx, hb, hml, hown, hts⟩ (c_X5_isDigit l G k r1 _ hf) (csT 1 hts mw554 mw555 mw74 mw556 hd_X5_isDigit ⟨Nat.le_of_ble_eq_true rfl, Nat.le_of_ble_eq_true rfl⟩) hK hP hS hX hA rfl hl.1 rfl (Nat.le_of_ble_eq_true rfl) dX5_readByClock_4 (Nat.zero_le _) (Nat.zero_le _) (fun r3 H locs hf hP hS => ?_)
  refine lv_if_ne (tgt := 19) hx hb dX5_readByClock_7 (by decide) (fun c4 => ?_) (fun c4 => ?_)
  · have hf := hf.1 c4
    refine lv_aload_n hx hb dX5_readByClock_19 rfl (lv_at hl 0 rfl) ?_
    refine cvi (As := []) (rest := []) (wr := (sgX1 k b1 p1_size p1_act p1_whom p1_amount)) (wn := (fun u => (sgX5 k a v_letters v_size u v_passed v_fault ++ sgX1 k b1 p1_size p1_act p1_whom p1_amount))) ⟨hx, hb, hml, hown, hts⟩ (c_X5_next l G k a v_letters v_size v_at_2 v_passed v_fault _ hf) (cwT 0 hts mw421 mw423 mw3 mw74 mw424 rfl hd_X5_next ⟨Nat.le_of_ble_eq_true rfl, Nat.le_of_ble_eq_true rfl⟩) hK hP hD hS hX hA [0, 1] [2, 3, 4, 5] [4, 5, 0, 1, 2, 3] rfl rfl (by decide) (by decide) (by decide) (fun u => rfl) (by decide) rfl rfl rfl rfl hl.1 rfl (Nat.le_of_ble_eq_true rfl) dX5_readByClock_20 (Nat.zero_le _) (Nat.zero_le _) (fun r5 u H locs hf hP hD hS => ?_)
    obtain ⟨v_at_6, rfl⟩ : ∃ z, z = u := ⟨_, rfl⟩
    have hP : va_P G vwCl (sgX5 k a v_letters v_size v_at_6 v_passed v_fault ++ sgX1 k b1 p1_size p1_act p1_whom p1_amount) H := hP
    have hD : va_D A (sgX5 k a v_letters v_size v_at_6 v_passed v_fault ++ sgX1 k b1 p1_size p1_act p1_whom p1_amount) := hD
    refine lv_bipush (v := 48) hx hb dX5_readByClock_23 (by decide) ?_
    refine lv_isub hx hb dX5_readByClock_25 ?_
    refine lv_topi (fun z7 ez7 => ?_)
    have hf := hf z7 ez7
    refine lv_istore (lv' := [(4, .int z7), (0, .ref (a 0)), (1, .ref (b1 0)), (2, .int p2), (3, .int p3)]) hx hb dX5_readByClock_26 hl (by decide) rfl (fun ls hl => ?_)
    refine lv_aload_n hx hb dX5_readByClock_28 rfl (lv_at hl 1 rfl) ?_
    refine cvv (As := []) (rest := []) (wr := (sgX1 k b1 p1_size p1_act p1_whom p1_amount)) (wn := (fun u => (sgX5 k a v_letters v_size u.1 u.2 v_fault ++ sgX1 k b1 p1_size p1_act p1_whom p1_amount))) ⟨hx, hb, hml, hown, hts⟩ (c_X5_skip l G k a v_letters v_size v_at_6 v_passed v_fault _ hf) (cwT 0 hts mw515 mw517 mw5 mw74 mw518 rfl hd_X5_skip ⟨Nat.le_of_ble_eq_true rfl, Nat.le_of_ble_eq_true rfl⟩) hK hP hD hS hX hA [0, 1] [2, 3, 4, 5] [4, 5, 0, 1, 2, 3] rfl rfl (by decide) (by decide) (by decide) (fun u => rfl) (by decide) rfl rfl rfl rfl hl.1 rfl (Nat.le_of_ble_eq_true rfl) dX5_readByClock_29 (Nat.zero_le _) (Nat.zero_le _) (fun u H locs hf hP hD hS => ?_)
    obtain ⟨v_at_9, v_passed_10⟩ := u
    have hP : va_P G vwCl (sgX5 k a v_letters v_size v_at_9 v_passed_10 v_fault ++ sgX1 k b1 p1_size p1_act p1_whom p1_amount) H := hP
    have hD : va_D A (sgX5 k a v_letters v_size v_at_9 v_passed_10 v_fault ++ sgX1 k b1 p1_size p1_act p1_whom p1_amount) := hD
    refine lv_aload_n hx hb dX5_readByClock_32 rfl (lv_at hl 1 rfl) ?_
    refine lv_bipush (v := 43) hx hb dX5_readByClock_33 (by decide) ?_
    refine cvi (As := [.int 43]) (rest := []) (wr := (sgX1 k b1 p1_size p1_act p1_whom p1_amount)) (wn := (fun u => (sgX5 k a v_letters v_size u.1 u.2.1 u.2.2 ++ sgX1 k b1 p1_size p1_act p1_whom p1_amount))) ⟨hx, hb, hml, hown, hts⟩ (c_X5_takes l G k a 43 v_letters v_size v_at_9 v_passed_10 v_fault _ hf) (cwT 1 hts mw560 mw562 mw9 mw74 mw563 rfl hd_X5_takes ⟨Nat.le_of_ble_eq_true rfl, Nat.le_of_ble_eq_true rfl⟩) hK hP hD hS hX hA [0, 1] [2, 3, 4, 5] [4, 5, 0, 1, 2, 3] rfl rfl (by decide) (by decide) (by decide) (fun u => rfl) (by decide) rfl rfl rfl rfl hl.1 rfl (Nat.le_of_ble_eq_true rfl) dX5_readByClock_35 (Nat.zero_le _) (Nat.zero_le _) (fun r11 u H locs hf hP hD hS => ?_)
    obtain ⟨v_at_12, v_passed_13, v_fault_14⟩ := u
    have hP : va_P G vwCl (sgX5 k a v_letters v_size v_at_12 v_passed_13 v_fault_14 ++ sgX1 k b1 p1_size p1_act p1_whom p1_amount) H := hP
    have hD : va_D A (sgX5 k a v_letters v_size v_at_12 v_passed_13 v_fault_14 ++ sgX1 k b1 p1_size p1_act p1_whom p1_amount) := hD
    refine lv_if_ne (tgt := 43) hx hb dX5_readByClock_38 (by decide) (fun c15 => ?_) (fun c15 => ?_)
    · have hf := hf.1 c15
      refine lv_aload_n hx hb dX5_readByClock_43 rfl (lv_at hl 1 rfl) ?_
      refine lv_iconst (v := 1) hx hb dX5_readByClock_44 (by decide) ?_
      refine lv_iload_n hx hb dX5_readByClock_45 rfl (lv_at hl 4 rfl) ?_
      refine cvi (As := [.int 1, .int p3]) (rest := []) (wr := (sgX1 k b1 p1_size p1_act p1_whom p1_amount)) (wn := (fun u => (sgX5 k a v_letters v_size u.1 u.2.1 u.2.2 ++ sgX1 k b1 p1_size p1_act p1_whom p1_amount))) ⟨hx, hb, hml, hown, hts⟩ (c_X5_number l G k a 1 p3 v_letters v_size v_at_12 v_passed_13 v_fault_14 _ hf) (cwT 2 hts mw550 mw552 mw8 mw74 mw553 rfl hd_X5_number ⟨Nat.le_of_ble_eq_true rfl, Nat.le_of_ble_eq_true rfl⟩) hK hP hD hS hX hA [0, 1] [2, 3, 4, 5] [4, 5, 0, 1, 2, 3] rfl rfl (by decide) (by decide) (by decide) (fun u => rfl) (by decide) rfl rfl rfl rfl hl.1 rfl (Nat.le_of_ble_eq_true rfl) dX5_readByClock_46 (Nat.zero_le _) (Nat.zero_le _) (fun r16 u H locs hf hP hD hS => ?_)
      obtain ⟨v_at_17, v_passed_18, v_fault_19⟩ := u
      have hP : va_P G vwCl (sgX5 k a v_letters v_size v_at_17 v_passed_18 v_fault_19 ++ sgX1 k b1 p1_size p1_act p1_whom p1_amount) H := hP
      have hD : va_D A (sgX5 k a v_letters v_size v_at_17 v_passed_18 v_fault_19 ++ sgX1 k b1 p1_size p1_act p1_whom p1_amount) := hD
      refine lv_istore (lv' := [(5, .int r16), (4, .int z7), (0, .ref (a 0)), (1, .ref (b1 0)), (2, .int p2), (3, .int p3)]) hx hb dX5_readByClock_49 hl (by decide) rfl (fun ls hl => ?_)
      refine lv_iload hx hb dX5_readByClock_51 (lv_at hl 0 rfl) ?_
      refine lv_if_ge (tgt := 58) hx hb dX5_readByClock_53 (by decide) (fun c20 => ?_) (fun c20 => ?_)
      · have hf := hf.1 c20
        refine lv_aload_n hx hb dX5_readByClock_58 rfl (lv_at hl 3 rfl) ?_
        refine lv_iload_n hx hb dX5_readByClock_59 rfl (lv_at hl 4 rfl) ?_
        refine lv_iload hx hb dX5_readByClock_60 (lv_at hl 1 rfl) ?_
        refine lv_iload hx hb dX5_readByClock_62 (lv_at hl 0 rfl) ?_
        refine cvv (As := [.int p2, .int z7, .int r16]) (rest := []) (wr := (sgX5 k a v_letters v_size v_at_17 v_passed_18 v_fault_19)) (wn := (fun u => (sgX5 k a v_letters v_size v_at_17 v_passed_18 v_fault_19 ++ sgX1 k b1 u.1 u.2.1 u.2.2.1 u.2.2.2))) ⟨hx, hb, hml, hown, hts⟩ (c_X1_add l G k b1 p2 z7 r16 p1_size p1_act p1_whom p1_amount _ hf) (cwT 3 hts mw576 mw577 mw578 mw75 mw579 rfl hd_X1_add ⟨Nat.le_of_ble_eq_true rfl, Nat.le_of_ble_eq_true rfl⟩) hK hP hD hS hX hA [2, 3, 4, 5] [0, 1] [0, 1, 2, 3, 4, 5] rfl rfl (by decide) (by decide) (by decide) (fun u => rfl) (by decide) rfl rfl rfl rfl hl.1 rfl (Nat.le_of_ble_eq_true rfl) dX5_readByClock_64 (Nat.zero_le _) (Nat.zero_le _) (fun u H locs hf hP hD hS => ?_)
        obtain ⟨p1_size_22, p1_act_23, p1_whom_24, p1_amount_25⟩ := u
        have hP : va_P G vwCl (sgX5 k a v_letters v_size v_at_17 v_passed_18 v_fault_19 ++ sgX1 k b1 p1_size_22 p1_act_23 p1_whom_24 p1_amount_25) H := hP
        have hD : va_D A (sgX5 k a v_letters v_size v_at_17 v_passed_18 v_fault_19 ++ sgX1 k b1 p1_size_22 p1_act_23 p1_whom_24 p1_amount_25) := hD
        refine lv_iconst (v := 1) hx hb dX5_readByClock_67 (by decide) ?_
        exact ret_z hx hb hr hlk (Or.inr rfl) (v_at_17, v_passed_18, v_fault_19, p1_size_22, p1_act_23, p1_whom_24, p1_amount_25) hf hP hD hS dX5_readByClock_68
      have hf := hf.2 c20
      refine lv_iconst (v := 0) hx hb dX5_readByClock_56 (by decide) ?_
      exact ret_z hx hb hr hlk (Or.inl rfl) (v_at_17, v_passed_18, v_fault_19, p1_size, p1_act, p1_whom, p1_amount) hf hP hD hS dX5_readByClock_57
    have hf := hf.2 c15
    refine lv_iconst (v := 0) hx hb dX5_readByClock_41 (by decide) ?_
    exact ret_z hx hb hr hlk (Or.inl rfl) (v_at_12, v_passed_13, v_fault_14, p1_size, p1_act, p1_whom, p1_amount) hf hP hD hS dX5_readByClock_42
  have hf := hf.2 c4
  refine lv_aload_n hx hb dX5_readByClock_10 rfl (lv_at hl 0 rfl) ?_
  refine lv_aload_n hx hb dX5_readByClock_11 rfl (lv_at hl 0 rfl) ?_
  refine cvi (As := []) (rest := [.ref (a 0)]) (wr := (sgX1 k b1 p1_size p1_act p1_whom p1_amount)) (wn := (fun u => (sgX5 k a v_letters v_size v_at_2 v_passed v_fault ++ sgX1 k b1 p1_size p1_act p1_whom p1_amount))) ⟨hx, hb, hml, hown, hts⟩ (c_X5_here l G k a v_letters v_size v_at_2 v_passed v_fault _ hf) (cwT 0 hts mw511 mw513 mw4 mw74 mw514 rfl hd_X5_here ⟨Nat.le_of_ble_eq_true rfl, Nat.le_of_ble_eq_true rfl⟩) hK hP hD hS hX hA [0, 1] [2, 3, 4, 5] [4, 5, 0, 1, 2, 3] rfl rfl (by decide) (by decide) (by decide) (fun u => rfl) (by decide) rfl rfl rfl rfl hl.1 rfl (Nat.le_of_ble_eq_true rfl) dX5_readByClock_12 (Nat.zero_le _) (Nat.zero_le _) (fun r26 u H locs hf hP hD hS => ?_)
  have hP : va_P G vwCl (sgX5 k a v_letters v_size v_at_2 v_passed v_fault ++ sgX1 k b1 p1_size p1_act p1_whom p1_amount) H := hP
  have hD : va_D A (sgX5 k a v_letters v_size v_at_2 v_passed v_fault ++ sgX1 k b1 p1_size p1_act p1_whom p1_amount) := hD
  refine cvi (As := [.int r26]) (rest := []) (wr := (sgX1 k b1 p1_size p1_act p1_whom p1_amount)) (wn := (fun u => (sgX5 k a v_letters v_size v_at_2 v_passed u ++ sgX1 k b1 p1_size p1_act p1_whom p1_amount))) ⟨hx, hb, hml, hown, hts⟩ (c_X5_fails l G k a r26 v_letters v_size v_at_2 v_passed v_fault _ hf) (cwT 1 hts mw546 mw548 mw7 mw74 mw549 rfl hd_X5_fails ⟨Nat.le_of_ble_eq_true rfl, Nat.le_of_ble_eq_true rfl⟩) hK hP hD hS hX hA [0, 1] [2, 3, 4, 5] [4, 5, 0, 1, 2, 3] rfl rfl (by decide) (by decide) (by decide) (fun u => rfl) (by decide) rfl rfl rfl rfl hl.1 rfl (Nat.le_of_ble_eq_true rfl) dX5_readByClock_15 (Nat.zero_le _) (Nat.zero_le _) (fun r27 u H locs hf hP hD hS => ?_)
  obtain ⟨v_fault_28, rfl⟩ : ∃ z, z = u := ⟨_, rfl⟩
  have hP : va_P G vwCl (sgX5 k a v_letters v_size v_at_2 v_passed v_fault_28 ++ sgX1 k b1 p1_size p1_act p1_whom p1_amount) H := hP
  have hD : va_D A (sgX5 k a v_letters v_size v_at_2 v_passed v_fault_28 ++ sgX1 k b1 p1_size p1_act p1_whom p1_amount) := hD
  obtain ⟨hz, hf⟩ := hf
  exact ret_z hx hb hr hlk hz (v_at_2, v_passed, v_fault_28, p1_size, p1_act, p1_whom, p1_amount) hf hP hD hS dX5_readByClock_18
def wp_X5_readAct (v_letters : Nat → Int32) (v_size : Int32) (v_at : Int32) (v_passed : Int32) (v_fault : Int32) (p1_size : Int32) (p1_act : Nat → Int32) (p1_whom : Nat → Int32) (p1_amount : Nat → Int32) (post : Int32 → (Int32) → (Int32) → (Int32) → (Int32) → (Nat → Int32) → (Nat → Int32) → (Nat → Int32) → Prop) : Prop :=
  (wp_X5_next v_letters v_size v_at (fun (r1 : Int32) (v_at_2 : Int32) =>
 ((r1 = 98 → (wp_X5_skip v_at_2 v_passed (fun (v_at_5 : Int32) (v_passed_6 : Int32) =>
 (wp_X5_readBreath v_letters v_size v_at_5 v_passed_6 v_fault p1_size p1_act p1_whom p1_amount (fun (r7 : Int32) (v_at_8 : Int32) (v_passed_9 : Int32) (v_fault_10 : Int32) (p1_size_11 : Int32) (p1_act_12 : Nat → Int32) (p1_whom_13 : Nat → Int32) (p1_amount_14 : Nat → Int32) =>
 ((r7 = 0 ∨ r7 = 1) ∧ post r7 v_at_8 v_passed_9 v_fault_10 p1_size_11 p1_act_12 p1_whom_13 p1_amount_14)))))) ∧
 (¬ r1 = 98 → ((r1 = 104 → (wp_X5_skip v_at_2 v_passed (fun (v_at_17 : Int32) (v_passed_18 : Int32) =>
 (wp_X1_add 4 0 0 p1_size p1_act p1_whom p1_amount (fun (p1_size_20 : Int32) (p1_act_21 : Nat → Int32) (p1_whom_22 : Nat → Int32) (p1_amount_23 : Nat → Int32) =>
 (post 1 v_at_17 v_passed_18 v_fault p1_size_20 p1_act_21 p1_whom_22 p1_amount_23)))))) ∧
 (¬ r1 = 104 → ((r1 = 116 → (wp_X5_skip v_at_2 v_passed (fun (v_at_26 : Int32) (v_passed_27 : Int32) =>
 (wp_X5_readByClock 1 719 v_letters v_size v_at_26 v_passed_27 v_fault p1_size p1_act p1_whom p1_amount (fun (r28 : Int32) (v_at_29 : Int32) (v_passed_30 : Int32) (v_fault_31 : Int32) (p1_size_32 : Int32) (p1_act_33 : Nat → Int32) (p1_whom_34 : Nat → Int32) (p1_amount_35 : Nat → Int32) =>
 ((r28 = 0 ∨ r28 = 1) ∧ post r28 v_at_29 v_passed_30 v_fault_31 p1_size_32 p1_act_33 p1_whom_34 p1_amount_35)))))) ∧
 (¬ r1 = 116 → ((r1 = 119 → (wp_X5_skip v_at_2 v_passed (fun (v_at_38 : Int32) (v_passed_39 : Int32) =>
 (wp_X5_readByClock 0 99 v_letters v_size v_at_38 v_passed_39 v_fault p1_size p1_act p1_whom p1_amount (fun (r40 : Int32) (v_at_41 : Int32) (v_passed_42 : Int32) (v_fault_43 : Int32) (p1_size_44 : Int32) (p1_act_45 : Nat → Int32) (p1_whom_46 : Nat → Int32) (p1_amount_47 : Nat → Int32) =>
 ((r40 = 0 ∨ r40 = 1) ∧ post r40 v_at_41 v_passed_42 v_fault_43 p1_size_44 p1_act_45 p1_whom_46 p1_amount_47)))))) ∧
 (¬ r1 = 119 → (wp_X5_here v_passed (fun (r48 : Int32) =>
 (wp_X5_fails r48 v_fault (fun (r49 : Int32) (v_fault_50 : Int32) =>
 ((r49 = 0 ∨ r49 = 1) ∧ post r49 v_at_2 v_passed v_fault_50 p1_size p1_act p1_whom p1_amount)))))))))))))))
set_option maxHeartbeats 4000000 in
set_option maxRecDepth 100000 in
theorem c_X5_readAct (l : Launch) (G : va_G) (k : Nat → ClassId) (a : Nat → Nat) (b1 : Nat → Nat) (v_letters : Nat → Int32) (v_size : Int32) (v_at : Int32) (v_passed : Int32) (v_fault : Int32) (p1_size : Int32) (p1_act : Nat → Int32) (p1_whom : Nat → Int32) (p1_amount : Nat → Int32) (post : Int32 → (Int32) → (Int32) → (Int32) → (Int32) → (Nat → Int32) → (Nat → Int32) → (Nat → Int32) → Prop) (hf : wp_X5_readAct v_letters v_size v_at v_passed v_fault p1_size p1_act p1_whom p1_amount post) : MI (S := (Int32) × (Int32) × (Int32) × (Int32) × (Nat → Int32) × (Nat → Int32) × (Nat → Int32)) l G k yX5_readAct (Cond.code yX5_readAct cX5_readAct 3 (some .boolean) :: wT) 3 70 [.ref (a 0), .ref (b1 0)] (sgX5 k a v_letters v_size v_at v_passed v_fault ++ sgX1 k b1 p1_size p1_act p1_whom p1_amount) (fun u => (sgX5 k a v_letters v_size u.1 u.2.1 u.2.2.1 ++ sgX1 k b1 u.2.2.2.1 u.2.2.2.2.1 u.2.2.2.2.2.1 u.2.2.2.2.2.2)) (fun r u => post r u.1 u.2.1 u.2.2.1 u.2.2.2.1 u.2.2.2.2.1 u.2.2.2.2.2.1 u.2.2.2.2.2.2) := by
  refine mi_start (cc := cX5_readAct) (maxL := 3) (ret := (some .boolean)) (by decide) [(0, .ref (a 0)), (1, .ref (b1 0))] rfl (Nat.le_of_ble_eq_true rfl) ?_
  intro p e s m below meth c A ls hx hb hr hlk hml hown hts hK hP hD hA hS hX hl
  have hown : s.vm.findClass RX5 = some m.cls := hown
  unfold wp_X5_readAct at hf
  have hH0 : s.heap = s.heap := rfl
  refine lv_aload_n hx hb dX5_readAct_0 rfl (lv_at hl 0 rfl) ?_
  refine cvi (As := []) (rest := []) (wr := (sgX1 k b1 p1_size p1_act p1_whom p1_amount)) (wn := (fun u => (sgX5 k a v_letters v_size u v_passed v_fault ++ sgX1 k b1 p1_size p1_act p1_whom p1_amount))) ⟨hx, hb, hml, hown, hts⟩ (c_X5_next l G k a v_letters v_size v_at v_passed v_fault _ hf) (cwT 0 hts mw421 mw423 mw3 mw74 mw424 rfl hd_X5_next ⟨Nat.le_of_ble_eq_true rfl, Nat.le_of_ble_eq_true rfl⟩) hK hP hD hS hX hA [0, 1] [2, 3, 4, 5] [4, 5, 0, 1, 2, 3] rfl rfl (by decide) (by decide) (by decide) (fun u => rfl) (by decide) rfl rfl rfl rfl hl.1 rfl (Nat.le_of_ble_eq_true rfl) dX5_readAct_1 (Nat.zero_le _) (Nat.zero_le _) (fun r1 u H locs hf hP hD hS => ?_)
  obtain ⟨v_at_2, rfl⟩ : ∃ z, z = u := ⟨_, rfl⟩
  have hP : va_P G vwCl (sgX5 k a v_letters v_size v_at_2 v_passed v_fault ++ sgX1 k b1 p1_size p1_act p1_whom p1_amount) H := hP
  have hD : va_D A (sgX5 k a v_letters v_size v_at_2 v_passed v_fault ++ sgX1 k b1 p1_size p1_act p1_whom p1_amount) := hD
  refine lv_istore_n (lv' := [(2, .int r1), (0, .ref (a 0)), (1, .ref (b1 0))]) hx hb dX5_readAct_4 rfl hl (by decide) rfl (fun ls hl => ?_)
  refine lv_iload_n hx hb dX5_readAct_5 rfl (lv_at hl 0 rfl) ?_
  by_cases c3 : r1 = 98
  · have hf := hf.1 c3
    refine lv_lookup (tgt := 61) hx hb dX5_readAct_6 (by decide) (by rw [c3] <;> rfl) (by decide) ?_
    refine lv_aload_n hx hb dX5_readAct_61 rfl (lv_at hl 1 rfl) ?_
    refine cvv (As := []) (rest := []) (wr := (sgX1 k b1 p1_size p1_act p1_whom p1_amount)) (wn := (fun u => (sgX5 k a v_letters v_size u.1 u.2 v_fault ++ sgX1 k b1 p1_size p1_act p1_whom p1_amount))) ⟨hx, hb, hml, hown, hts⟩ (c_X5_skip l G k a v_letters v_size v_at_2 v_passed v_fault _ hf) (cwT 0 hts mw515 mw517 mw5 mw74 mw518 rfl hd_X5_skip ⟨Nat.le_of_ble_eq_true rfl, Nat.le_of_ble_eq_true rfl⟩) hK hP hD hS hX hA [0, 1] [2, 3, 4, 5] [4, 5, 0, 1, 2, 3] rfl rfl (by decide) (by decide) (by decide) (fun u => rfl) (by decide) rfl rfl rfl rfl hl.1 rfl (Nat.le_of_ble_eq_true rfl) dX5_readAct_62 (Nat.zero_le _) (Nat.zero_le _) (fun u H locs hf hP hD hS => ?_)
    obtain ⟨v_at_5, v_passed_6⟩ := u
    have hP : va_P G vwCl (sgX5 k a v_letters v_size v_at_5 v_passed_6 v_fault ++ sgX1 k b1 p1_size p1_act p1_whom p1_amount) H := hP
    have hD : va_D A (sgX5 k a v_letters v_size v_at_5 v_passed_6 v_fault ++ sgX1 k b1 p1_size p1_act p1_whom p1_amount) := hD
    refine lv_aload_n hx hb dX5_readAct_65 rfl (lv_at hl 1 rfl) ?_
    refine lv_aload_n hx hb dX5_readAct_66 rfl (lv_at hl 2 rfl) ?_
    refine cvi (As := [.ref (b1 0)]) (rest := []) (wr := []) (wn := (fun u => (sgX5 k a v_letters v_size u.1 u.2.1 u.2.2.1 ++ sgX1 k b1 u.2.2.2.1 u.2.2.2.2.1 u.2.2.2.2.2.1 u.2.2.2.2.2.2))) ⟨hx, hb, hml, hown, hts⟩ (c_X5_readBreath l G k a b1 v_letters v_size v_at_5 v_passed_6 v_fault p1_size p1_act p1_whom p1_amount _ hf) (cwT 1 hts mw580 mw582 mw11 mw74 mw583 rfl hd_X5_readBreath ⟨Nat.le_of_ble_eq_true rfl, Nat.le_of_ble_eq_true rfl⟩) hK hP hD hS hX hA [0, 1, 2, 3, 4, 5] [] [0, 1, 2, 3, 4, 5] rfl rfl (by decide) (by decide) (by decide) (fun u => rfl) (by decide) rfl rfl rfl rfl hl.1 rfl (Nat.le_of_ble_eq_true rfl) dX5_readAct_67 (Nat.zero_le _) (Nat.zero_le _) (fun r7 u H locs hf hP hD hS => ?_)
    obtain ⟨v_at_8, v_passed_9, v_fault_10, p1_size_11, p1_act_12, p1_whom_13, p1_amount_14⟩ := u
    have hP : va_P G vwCl (sgX5 k a v_letters v_size v_at_8 v_passed_9 v_fault_10 ++ sgX1 k b1 p1_size_11 p1_act_12 p1_whom_13 p1_amount_14) H := hP
    have hD : va_D A (sgX5 k a v_letters v_size v_at_8 v_passed_9 v_fault_10 ++ sgX1 k b1 p1_size_11 p1_act_12 p1_whom_13 p1_amount_14) := hD
    obtain ⟨hz, hf⟩ := hf
    exact ret_z hx hb hr hlk hz (v_at_8, v_passed_9, v_fault_10, p1_size_11, p1_act_12, p1_whom_13, p1_amount_14) hf hP hD hS dX5_readAct_70
  have hf := hf.2 c3
  by_cases c15 : r1 = 104
  · have hf := hf.1 c15
    refine lv_lookup (tgt := 48) hx hb dX5_readAct_6 (by decide) (by rw [c15] <;> rfl) (by decide) ?_
    refine lv_aload_n hx hb dX5_readAct_48 rfl (lv_at hl 1 rfl) ?_
    refine cvv (As := []) (rest := []) (wr := (sgX1 k b1 p1_size p1_act p1_whom p1_amount)) (wn := (fun u => (sgX5 k a v_letters v_size u.1 u.2 v_fault ++ sgX1 k b1 p1_size p1_act p1_whom p1_amount))) ⟨hx, hb, hml, hown, hts⟩ (c_X5_skip l G k a v_letters v_size v_at_2 v_passed v_fault _ hf) (cwT 0 hts mw515 mw517 mw5 mw74 mw518 rfl hd_X5_skip ⟨Nat.le_of_ble_eq_true rfl, Nat.le_of_ble_eq_true rfl⟩) hK hP hD hS hX hA [0, 1] [2, 3, 4, 5] [4, 5, 0, 1, 2, 3] rfl rfl (by decide) (by decide) (by decide) (fun u => rfl) (by decide) rfl rfl rfl rfl hl.1 rfl (Nat.le_of_ble_eq_true rfl) dX5_readAct_49 (Nat.zero_le _) (Nat.zero_le _) (fun u H locs hf hP hD hS => ?_)
    obtain ⟨v_at_17, v_passed_18⟩ := u
    have hP : va_P G vwCl (sgX5 k a v_letters v_size v_at_17 v_passed_18 v_fault ++ sgX1 k b1 p1_size p1_act p1_whom p1_amount) H := hP
    have hD : va_D A (sgX5 k a v_letters v_size v_at_17 v_passed_18 v_fault ++ sgX1 k b1 p1_size p1_act p1_whom p1_amount) := hD
    refine lv_aload_n hx hb dX5_readAct_52 rfl (lv_at hl 2 rfl) ?_
    refine lv_iconst (v := 4) hx hb dX5_readAct_53 (by decide) ?_
    refine lv_iconst (v := 0) hx hb dX5_readAct_54 (by decide) ?_
    refine lv_iconst (v := 0) hx hb dX5_readAct_55 (by decide) ?_
    refine cvv (As := [.int 4, .int 0, .int 0]) (rest := []) (wr := (sgX5 k a v_letters v_size v_at_17 v_passed_18 v_fault)) (wn := (fun u => (sgX5 k a v_letters v_size v_at_17 v_passed_18 v_fault ++ sgX1 k b1 u.1 u.2.1 u.2.2.1 u.2.2.2))) ⟨hx, hb, hml, hown, hts⟩ (c_X1_add l G k b1 4 0 0 p1_size p1_act p1_whom p1_amount _ hf) (cwT 3 hts mw576 mw577 mw578 mw75 mw579 rfl hd_X1_add ⟨Nat.le_of_ble_eq_true rfl, Nat.le_of_ble_eq_true rfl⟩) hK hP hD hS hX hA [2, 3, 4, 5] [0, 1] [0, 1, 2, 3, 4, 5] rfl rfl (by decide) (by decide) (by decide) (fun u => rfl) (by decide) rfl rfl rfl rfl hl.1 rfl (Nat.le_of_ble_eq_true rfl) dX5_readAct_56 (Nat.zero_le _) (Nat.zero_le _) (fun u H locs hf hP hD hS => ?_)
    obtain ⟨p1_size_20, p1_act_21, p1_whom_22, p1_amount_23⟩ := u
    have hP : va_P G vwCl (sgX5 k a v_letters v_size v_at_17 v_passed_18 v_fault ++ sgX1 k b1 p1_size_20 p1_act_21 p1_whom_22 p1_amount_23) H := hP
    have hD : va_D A (sgX5 k a v_letters v_size v_at_17 v_passed_18 v_fault ++ sgX1 k b1 p1_size_20 p1_act_21 p1_whom_22 p1_amount_23) := hD
    refine lv_iconst (v := 1) hx hb dX5_readAct_59 (by decide) ?_
    exact ret_z hx hb hr hlk (Or.inr rfl) (v_at_17, v_passed_18, v_fault, p1_size_20, p1_act_21, p1_whom_22, p1_amount_23) hf hP hD hS dX5_readAct_60
  have hf := hf.2 c15
  by_cases c24 : r1 = 116
  · have hf := hf.1 c24
    refine lv_lookup (tgt := 84) hx hb dX5_readAct_6 (by decide) (by rw [c24] <;> rfl) (by decide) ?_
    refine lv_aload_n hx hb dX5_readAct_84 rfl (lv_at hl 1 rfl) ?_
    refine cvv (As := []) (rest := []) (wr := (sgX1 k b1 p1_size p1_act p1_whom p1_amount)) (wn := (fun u => (sgX5 k a v_letters v_size u.1 u.2 v_fault ++ sgX1 k b1 p1_size p1_act p1_whom p1_amount))) ⟨hx, hb, hml, hown, hts⟩ (c_X5_skip l G k a v_letters v_size v_at_2 v_passed v_fault _ hf) (cwT 0 hts mw515 mw517 mw5 mw74 mw518 rfl hd_X5_skip ⟨Nat.le_of_ble_eq_true rfl, Nat.le_of_ble_eq_true rfl⟩) hK hP hD hS hX hA [0, 1] [2, 3, 4, 5] [4, 5, 0, 1, 2, 3] rfl rfl (by decide) (by decide) (by decide) (fun u => rfl) (by decide) rfl rfl rfl rfl hl.1 rfl (Nat.le_of_ble_eq_true rfl) dX5_readAct_85 (Nat.zero_le _) (Nat.zero_le _) (fun u H locs hf hP hD hS => ?_)
    obtain ⟨v_at_26, v_passed_27⟩ := u
    have hP : va_P G vwCl (sgX5 k a v_letters v_size v_at_26 v_passed_27 v_fault ++ sgX1 k b1 p1_size p1_act p1_whom p1_amount) H := hP
    have hD : va_D A (sgX5 k a v_letters v_size v_at_26 v_passed_27 v_fault ++ sgX1 k b1 p1_size p1_act p1_whom p1_amount) := hD
    refine lv_aload_n hx hb dX5_readAct_88 rfl (lv_at hl 1 rfl) ?_
    refine lv_aload_n hx hb dX5_readAct_89 rfl (lv_at hl 2 rfl) ?_
    refine lv_iconst (v := 1) hx hb dX5_readAct_90 (by decide) ?_
    refine lv_sipush (v := 719) hx hb dX5_readAct_91 (by decide) ?_
    refine cvi (As := [.ref (b1 0), .int 1, .int 719]) (rest := []) (wr := []) (wn := (fun u => (sgX5 k a v_letters v_size u.1 u.2.1 u.2.2.1 ++ sgX1 k b1 u.2.2.2.1 u.2.2.2.2.1 u.2.2.2.2.2.1 u.2.2.2.2.2.2))) ⟨hx, hb, hml, hown, hts⟩ (c_X5_readByClock l G k a b1 1 719 v_letters v_size v_at_26 v_passed_27 v_fault p1_size p1_act p1_whom p1_amount _ hf) (cwT 3 hts mw584 mw586 mw12 mw74 mw587 rfl hd_X5_readByClock ⟨Nat.le_of_ble_eq_true rfl, Nat.le_of_ble_eq_true rfl⟩) hK hP hD hS hX hA [0, 1, 2, 3, 4, 5] [] [0, 1, 2, 3, 4, 5] rfl rfl (by decide) (by decide) (by decide) (fun u => rfl) (by decide) rfl rfl rfl rfl hl.1 rfl (Nat.le_of_ble_eq_true rfl) dX5_readAct_94 (Nat.zero_le _) (Nat.zero_le _) (fun r28 u H locs hf hP hD hS => ?_)
    obtain ⟨v_at_29, v_passed_30, v_fault_31, p1_size_32, p1_act_33, p1_whom_34, p1_amount_35⟩ := u
    have hP : va_P G vwCl (sgX5 k a v_letters v_size v_at_29 v_passed_30 v_fault_31 ++ sgX1 k b1 p1_size_32 p1_act_33 p1_whom_34 p1_amount_35) H := hP
    have hD : va_D A (sgX5 k a v_letters v_size v_at_29 v_passed_30 v_fault_31 ++ sgX1 k b1 p1_size_32 p1_act_33 p1_whom_34 p1_amount_35) := hD
    obtain ⟨hz, hf⟩ := hf
    exact ret_z hx hb hr hlk hz (v_at_29, v_passed_30, v_fault_31, p1_size_32, p1_act_33, p1_whom_34, p1_amount_35) hf hP hD hS dX5_readAct_97
  have hf := hf.2 c24
  by_cases c36 : r1 = 119
  · have hf := hf.1 c36
    refine lv_lookup (tgt := 71) hx hb dX5_readAct_6 (by decide) (by rw [c36] <;> rfl) (by decide) ?_
    refine lv_aload_n hx hb dX5_readAct_71 rfl (lv_at hl 1 rfl) ?_
    refine cvv (As := []) (rest := []) (wr := (sgX1 k b1 p1_size p1_act p1_whom p1_amount)) (wn := (fun u => (sgX5 k a v_letters v_size u.1 u.2 v_fault ++ sgX1 k b1 p1_size p1_act p1_whom p1_amount))) ⟨hx, hb, hml, hown, hts⟩ (c_X5_skip l G k a v_letters v_size v_at_2 v_passed v_fault _ hf) (cwT 0 hts mw515 mw517 mw5 mw74 mw518 rfl hd_X5_skip ⟨Nat.le_of_ble_eq_true rfl, Nat.le_of_ble_eq_true rfl⟩) hK hP hD hS hX hA [0, 1] [2, 3, 4, 5] [4, 5, 0, 1, 2, 3] rfl rfl (by decide) (by decide) (by decide) (fun u => rfl) (by decide) rfl rfl rfl rfl hl.1 rfl (Nat.le_of_ble_eq_true rfl) dX5_readAct_72 (Nat.zero_le _) (Nat.zero_le _) (fun u H locs hf hP hD hS => ?_)
    obtain ⟨v_at_38, v_passed_39⟩ := u
    have hP : va_P G vwCl (sgX5 k a v_letters v_size v_at_38 v_passed_39 v_fault ++ sgX1 k b1 p1_size p1_act p1_whom p1_amount) H := hP
    have hD : va_D A (sgX5 k a v_letters v_size v_at_38 v_passed_39 v_fault ++ sgX1 k b1 p1_size p1_act p1_whom p1_amount) := hD
    refine lv_aload_n hx hb dX5_readAct_75 rfl (lv_at hl 1 rfl) ?_
    refine lv_aload_n hx hb dX5_readAct_76 rfl (lv_at hl 2 rfl) ?_
    refine lv_iconst (v := 0) hx hb dX5_readAct_77 (by decide) ?_
    refine lv_bipush (v := 99) hx hb dX5_readAct_78 (by decide) ?_
    refine cvi (As := [.ref (b1 0), .int 0, .int 99]) (rest := []) (wr := []) (wn := (fun u => (sgX5 k a v_letters v_size u.1 u.2.1 u.2.2.1 ++ sgX1 k b1 u.2.2.2.1 u.2.2.2.2.1 u.2.2.2.2.2.1 u.2.2.2.2.2.2))) ⟨hx, hb, hml, hown, hts⟩ (c_X5_readByClock l G k a b1 0 99 v_letters v_size v_at_38 v_passed_39 v_fault p1_size p1_act p1_whom p1_amount _ hf) (cwT 3 hts mw584 mw586 mw12 mw74 mw587 rfl hd_X5_readByClock ⟨Nat.le_of_ble_eq_true rfl, Nat.le_of_ble_eq_true rfl⟩) hK hP hD hS hX hA [0, 1, 2, 3, 4, 5] [] [0, 1, 2, 3, 4, 5] rfl rfl (by decide) (by decide) (by decide) (fun u => rfl) (by decide) rfl rfl rfl rfl hl.1 rfl (Nat.le_of_ble_eq_true rfl) dX5_readAct_80 (Nat.zero_le _) (Nat.zero_le _) (fun r40 u H locs hf hP hD hS => ?_)
    obtain ⟨v_at_41, v_passed_42, v_fault_43, p1_size_44, p1_act_45, p1_whom_46, p1_amount_47⟩ := u
    have hP : va_P G vwCl (sgX5 k a v_letters v_size v_at_41 v_passed_42 v_fault_43 ++ sgX1 k b1 p1_size_44 p1_act_45 p1_whom_46 p1_amount_47) H := hP
    have hD : va_D A (sgX5 k a v_letters v_size v_at_41 v_passed_42 v_fault_43 ++ sgX1 k b1 p1_size_44 p1_act_45 p1_whom_46 p1_amount_47) := hD
    obtain ⟨hz, hf⟩ := hf
    exact ret_z hx hb hr hlk hz (v_at_41, v_passed_42, v_fault_43, p1_size_44, p1_act_45, p1_whom_46, p1_amount_47) hf hP hD hS dX5_readAct_83
  have hf := hf.2 c36
  refine lv_lookup (off := 92) (tgt := 98) hx hb dX5_readAct_6 (by decide) ((lv_osw c3 (by decide)).trans ((lv_osw c15 (by decide)).trans ((lv_osw c24 (by decide)).trans ((lv_osw c36 (by decide)).trans rfl)))) (by decide) ?_
  refine lv_aload_n hx hb dX5_readAct_98 rfl (lv_at hl 1 rfl) ?_
  refine lv_aload_n hx hb dX5_readAct_99 rfl (lv_at hl 1 rfl) ?_
  refine cvi (As := []) (rest := [.ref (a 0)]) (wr := (sgX1 k b1 p1_size p1_act p1_whom p1_amount)) (wn := (fun u => (sgX5 k a v_letters v_size v_at_2 v_passed v_fault ++ sgX1 k b1 p1_size p1_act p1_whom p1_amount))) ⟨hx, hb, hml, hown, hts⟩ (c_X5_here l G k a v_letters v_size v_at_2 v_passed v_fault _ hf) (cwT 0 hts mw511 mw513 mw4 mw74 mw514 rfl hd_X5_here ⟨Nat.le_of_ble_eq_true rfl, Nat.le_of_ble_eq_true rfl⟩) hK hP hD hS hX hA [0, 1] [2, 3, 4, 5] [4, 5, 0, 1, 2, 3] rfl rfl (by decide) (by decide) (by decide) (fun u => rfl) (by decide) rfl rfl rfl rfl hl.1 rfl (Nat.le_of_ble_eq_true rfl) dX5_readAct_100 (Nat.zero_le _) (Nat.zero_le _) (fun r48 u H locs hf hP hD hS => ?_)
  have hP : va_P G vwCl (sgX5 k a v_letters v_size v_at_2 v_passed v_fault ++ sgX1 k b1 p1_size p1_act p1_whom p1_amount) H := hP
  have hD : va_D A (sgX5 k a v_letters v_size v_at_2 v_passed v_fault ++ sgX1 k b1 p1_size p1_act p1_whom p1_amount) := hD
  refine cvi (As := [.int r48]) (rest := []) (wr := (sgX1 k b1 p1_size p1_act p1_whom p1_amount)) (wn := (fun u => (sgX5 k a v_letters v_size v_at_2 v_passed u ++ sgX1 k b1 p1_size p1_act p1_whom p1_amount))) ⟨hx, hb, hml, hown, hts⟩ (c_X5_fails l G k a r48 v_letters v_size v_at_2 v_passed v_fault _ hf) (cwT 1 hts mw546 mw548 mw7 mw74 mw549 rfl hd_X5_fails ⟨Nat.le_of_ble_eq_true rfl, Nat.le_of_ble_eq_true rfl⟩) hK hP hD hS hX hA [0, 1] [2, 3, 4, 5] [4, 5, 0, 1, 2, 3] rfl rfl (by decide) (by decide) (by decide) (fun u => rfl) (by decide) rfl rfl rfl rfl hl.1 rfl (Nat.le_of_ble_eq_true rfl) dX5_readAct_103 (Nat.zero_le _) (Nat.zero_le _) (fun r49 u H locs hf hP hD hS => ?_)
  obtain ⟨v_fault_50, rfl⟩ : ∃ z, z = u := ⟨_, rfl⟩
  have hP : va_P G vwCl (sgX5 k a v_letters v_size v_at_2 v_passed v_fault_50 ++ sgX1 k b1 p1_size p1_act p1_whom p1_amount) H := hP
  have hD : va_D A (sgX5 k a v_letters v_size v_at_2 v_passed v_fault_50 ++ sgX1 k b1 p1_size p1_act p1_whom p1_amount) := hD
  obtain ⟨hz, hf⟩ := hf
  exact ret_z hx hb hr hlk hz (v_at_2, v_passed, v_fault_50, p1_size, p1_act, p1_whom, p1_amount) hf hP hD hS dX5_readAct_106
def wp_X5_readDay (v_letters : Nat → Int32) (v_size : Int32) (v_at : Int32) (v_passed : Int32) (v_fault : Int32) (p1_size : Int32) (p1_act : Nat → Int32) (p1_whom : Nat → Int32) (p1_amount : Nat → Int32) (post : Int32 → (Int32) → (Int32) → (Int32) → (Int32) → (Nat → Int32) → (Nat → Int32) → (Nat → Int32) → Prop) : Prop :=
  (wp_X5_rewind v_at v_passed v_fault (fun (v_at_2 : Int32) (v_passed_3 : Int32) (v_fault_4 : Int32) =>
 (∃ I5 : Nat → (Int32) → (Int32) → (Int32) → (Int32) → (Int32) → (Nat → Int32) → (Nat → Int32) → (Nat → Int32) → Prop, (∃ n5, I5 n5 1 v_at_2 v_passed_3 v_fault_4 0 p1_act p1_whom p1_amount) ∧ ∀ (n5 : Nat) (x2_5 : Int32) (v_at_5 : Int32) (v_passed_5 : Int32) (v_fault_5 : Int32) (p1_size_5 : Int32) (p1_act_5 : Nat → Int32) (p1_whom_5 : Nat → Int32) (p1_amount_5 : Nat → Int32), I5 n5 x2_5 v_at_5 v_passed_5 v_fault_5 p1_size_5 p1_act_5 p1_whom_5 p1_amount_5 →
 ((80 < x2_5 → (wp_X5_here v_passed_5 (fun (r7 : Int32) =>
 (post r7 v_at_5 v_passed_5 v_fault_5 p1_size_5 p1_act_5 p1_whom_5 p1_amount_5)))) ∧
 (¬ 80 < x2_5 → (wp_X5_readAct v_letters v_size v_at_5 v_passed_5 v_fault_5 p1_size_5 p1_act_5 p1_whom_5 p1_amount_5 (fun (r8 : Int32) (v_at_9 : Int32) (v_passed_10 : Int32) (v_fault_11 : Int32) (p1_size_12 : Int32) (p1_act_13 : Nat → Int32) (p1_whom_14 : Nat → Int32) (p1_amount_15 : Nat → Int32) =>
 ((¬ r8 = 0 → (wp_X5_next v_letters v_size v_at_9 (fun (r17 : Int32) (v_at_18 : Int32) =>
 ((¬ r17 = (-1) → (wp_X5_takes 59 v_letters v_size v_at_18 v_passed_10 v_fault_11 (fun (r20 : Int32) (v_at_21 : Int32) (v_passed_22 : Int32) (v_fault_23 : Int32) =>
 ((¬ r20 = 0 → (∀ z25 : Int32, z25 = x2_5 + 1 → (∃ m9, m9 < n5 ∧ I5 m9 z25 v_at_21 v_passed_22 v_fault_23 p1_size_12 p1_act_13 p1_whom_14 p1_amount_15))) ∧
 (r20 = 0 → (post v_fault_23 v_at_21 v_passed_22 v_fault_23 p1_size_12 p1_act_13 p1_whom_14 p1_amount_15)))))) ∧
 (r17 = (-1) → (post x2_5 v_at_18 v_passed_10 v_fault_11 p1_size_12 p1_act_13 p1_whom_14 p1_amount_15)))))) ∧
 (r8 = 0 → (post v_fault_11 v_at_9 v_passed_10 v_fault_11 p1_size_12 p1_act_13 p1_whom_14 p1_amount_15))))))))))
set_option maxHeartbeats 4000000 in
set_option maxRecDepth 100000 in
theorem c_X5_readDay (l : Launch) (G : va_G) (k : Nat → ClassId) (a : Nat → Nat) (b1 : Nat → Nat) (v_letters : Nat → Int32) (v_size : Int32) (v_at : Int32) (v_passed : Int32) (v_fault : Int32) (p1_size : Int32) (p1_act : Nat → Int32) (p1_whom : Nat → Int32) (p1_amount : Nat → Int32) (post : Int32 → (Int32) → (Int32) → (Int32) → (Int32) → (Nat → Int32) → (Nat → Int32) → (Nat → Int32) → Prop) (hf : wp_X5_readDay v_letters v_size v_at v_passed v_fault p1_size p1_act p1_whom p1_amount post) : MI (S := (Int32) × (Int32) × (Int32) × (Int32) × (Nat → Int32) × (Nat → Int32) × (Nat → Int32)) l G k yX5_readDay (Cond.code yX5_readDay cX5_readDay 3 (some .int) :: wT) 4 92 [.ref (a 0), .ref (b1 0)] (sgX5 k a v_letters v_size v_at v_passed v_fault ++ sgX1 k b1 p1_size p1_act p1_whom p1_amount) (fun u => (sgX5 k a v_letters v_size u.1 u.2.1 u.2.2.1 ++ sgX1 k b1 u.2.2.2.1 u.2.2.2.2.1 u.2.2.2.2.2.1 u.2.2.2.2.2.2)) (fun r u => post r u.1 u.2.1 u.2.2.1 u.2.2.2.1 u.2.2.2.2.1 u.2.2.2.2.2.1 u.2.2.2.2.2.2) := by
  refine mi_start (cc := cX5_readDay) (maxL := 3) (ret := (some .int)) (by decide) [(0, .ref (a 0)), (1, .ref (b1 0))] rfl (Nat.le_of_ble_eq_true rfl) ?_
  intro p e s m below meth c A ls hx hb hr hlk hml hown hts hK hP hD hA hS hX hl
  have hown : s.vm.findClass RX5 = some m.cls := hown
  unfold wp_X5_readDay at hf
  have hH0 : s.heap = s.heap := rfl
  refine lv_aload_n hx hb dX5_readDay_0 rfl (lv_at hl 0 rfl) ?_
  refine cvv (As := []) (rest := []) (wr := (sgX1 k b1 p1_size p1_act p1_whom p1_amount)) (wn := (fun u => (sgX5 k a v_letters v_size u.1 u.2.1 u.2.2 ++ sgX1 k b1 p1_size p1_act p1_whom p1_amount))) ⟨hx, hb, hml, hown, hts⟩ (c_X5_rewind l G k a v_letters v_size v_at v_passed v_fault _ hf) (cwT 0 hts mw417 mw419 mw2 mw74 mw420 rfl hd_X5_rewind ⟨Nat.le_of_ble_eq_true rfl, Nat.le_of_ble_eq_true rfl⟩) hK hP hD hS hX hA [0, 1] [2, 3, 4, 5] [4, 5, 0, 1, 2, 3] rfl rfl (by decide) (by decide) (by decide) (fun u => rfl) (by decide) rfl rfl rfl rfl hl.1 rfl (Nat.le_of_ble_eq_true rfl) dX5_readDay_1 (Nat.zero_le _) (Nat.zero_le _) (fun u H locs hf hP hD hS => ?_)
  obtain ⟨v_at_2, v_passed_3, v_fault_4⟩ := u
  have hP : va_P G vwCl (sgX5 k a v_letters v_size v_at_2 v_passed_3 v_fault_4 ++ sgX1 k b1 p1_size p1_act p1_whom p1_amount) H := hP
  have hD : va_D A (sgX5 k a v_letters v_size v_at_2 v_passed_3 v_fault_4 ++ sgX1 k b1 p1_size p1_act p1_whom p1_amount) := hD
  refine lv_aload_n hx hb dX5_readDay_4 rfl (lv_at hl 1 rfl) ?_
  refine lv_iconst (v := 0) hx hb dX5_readDay_5 (by decide) ?_
  refine va_put (D := G) (ci := 1) (v := .int 0) (ty := .int) (C := RX1) (T := TX1) (N := 4) hx hb hts inX1 tyX1 tyX1_ok nmX1 hown hK hP hD hS 2 rfl rfl 0 (by decide) (hts _ mw255) (fun _ h9 => h9) rfl (by decide +kernel) rfl rfl (Nat.le_of_ble_eq_true rfl) dX5_readDay_6 (fun H locs hP hD hS => ?_)
  have hP : va_P G vwCl (sgX5 k a v_letters v_size v_at_2 v_passed_3 v_fault_4 ++ sgX1 k b1 0 p1_act p1_whom p1_amount) H := hP
  have hD : va_D A (sgX5 k a v_letters v_size v_at_2 v_passed_3 v_fault_4 ++ sgX1 k b1 0 p1_act p1_whom p1_amount) := hD
  refine lv_iconst (v := 1) hx hb dX5_readDay_9 (by decide) ?_
  refine lv_istore_n (lv' := [(2, .int 1), (0, .ref (a 0)), (1, .ref (b1 0))]) hx hb dX5_readDay_10 rfl hl (by decide) rfl (fun ls hl => ?_)
  obtain ⟨I5, ⟨n5, hi5⟩, hs5⟩ := hf
  refine w_loop (G := G) (A := A) (H0 := s.heap) (nL := 3) (σ := (Int32) × (Int32) × (Int32) × (Int32) × (Int32) × (Nat → Int32) × (Nat → Int32) × (Nat → Int32)) (I := fun n v => I5 n v.1 v.2.1 v.2.2.1 v.2.2.2.1 v.2.2.2.2.1 v.2.2.2.2.2.1 v.2.2.2.2.2.2.1 v.2.2.2.2.2.2.2) (wl := fun v => (sgX5 k a v_letters v_size v.2.1 v.2.2.1 v.2.2.2.1 ++ sgX1 k b1 v.2.2.2.2.1 v.2.2.2.2.2.1 v.2.2.2.2.2.2.1 v.2.2.2.2.2.2.2)) (lv := fun v => [(0, .ref (a 0)), (1, .ref (b1 0)), (2, .int v.1)]) (st := fun _ => []) n5 (1, v_at_2, v_passed_3, v_fault_4, 0, p1_act, p1_whom, p1_amount) hi5 hP hD hS (lv_sub hl [1, 2, 0] rfl) (fun n5 v hi ih5 H locs ls hP hD hS hl => ?_)
  obtain ⟨x2_5, v_at_5, v_passed_5, v_fault_5, p1_size_5, p1_act_5, p1_whom_5, p1_amount_5⟩ := v
  have hf := hs5 n5 x2_5 v_at_5 v_passed_5 v_fault_5 p1_size_5 p1_act_5 p1_whom_5 p1_amount_5 hi
  have hP : va_P G vwCl (sgX5 k a v_letters v_size v_at_5 v_passed_5 v_fault_5 ++ sgX1 k b1 p1_size_5 p1_act_5 p1_whom_5 p1_amount_5) H := hP
  have hD : va_D A (sgX5 k a v_letters v_size v_at_5 v_passed_5 v_fault_5 ++ sgX1 k b1 p1_size_5 p1_act_5 p1_whom_5 p1_amount_5) := hD
  have hl : lv_has ls 3 [(0, .ref (a 0)), (1, .ref (b1 0)), (2, .int x2_5)] := hl
  refine lv_iload_n hx hb dX5_readDay_11 rfl (lv_at hl 2 rfl) ?_
  refine lv_bipush (v := 80) hx hb dX5_readDay_12 (by decide) ?_
  refine lv_icmp_gt (tgt := 60) hx hb dX5_readDay_14 (by decide) (fun c6 => ?_) (fun c6 => ?_)
  · have hf := hf.1 c6
    refine lv_aload_n hx hb dX5_readDay_60 rfl (lv_at hl 0 rfl) ?_
    refine cvi (As := []) (rest := []) (wr := (sgX1 k b1 p1_size_5 p1_act_5 p1_whom_5 p1_amount_5)) (wn := (fun u => (sgX5 k a v_letters v_size v_at_5 v_passed_5 v_fault_5 ++ sgX1 k b1 p1_size_5 p1_act_5 p1_whom_5 p1_amount_5))) ⟨hx, hb, hml, hown, hts⟩ (c_X5_here l G k a v_letters v_size v_at_5 v_passed_5 v_fault_5 _ hf) (cwT 0 hts mw511 mw513 mw4 mw74 mw514 rfl hd_X5_here ⟨Nat.le_of_ble_eq_true rfl, Nat.le_of_ble_eq_true rfl⟩) hK hP hD hS hX hA [0, 1] [2, 3, 4, 5] [4, 5, 0, 1, 2, 3] rfl rfl (by decide) (by decide) (by decide) (fun u => rfl) (by decide) rfl rfl rfl rfl hl.1 rfl (Nat.le_of_ble_eq_true rfl) dX5_readDay_61 (Nat.zero_le _) (Nat.zero_le _) (fun r7 u H locs hf hP hD hS => ?_)
    have hP : va_P G vwCl (sgX5 k a v_letters v_size v_at_5 v_passed_5 v_fault_5 ++ sgX1 k b1 p1_size_5 p1_act_5 p1_whom_5 p1_amount_5) H := hP
    have hD : va_D A (sgX5 k a v_letters v_size v_at_5 v_passed_5 v_fault_5 ++ sgX1 k b1 p1_size_5 p1_act_5 p1_whom_5 p1_amount_5) := hD
    exact ret_i hx hb hr hlk (v_at_5, v_passed_5, v_fault_5, p1_size_5, p1_act_5, p1_whom_5, p1_amount_5) hf hP hD hS dX5_readDay_64
  have hf := hf.2 c6
  refine lv_aload_n hx hb dX5_readDay_17 rfl (lv_at hl 0 rfl) ?_
  refine lv_aload_n hx hb dX5_readDay_18 rfl (lv_at hl 1 rfl) ?_
  refine cvi (As := [.ref (b1 0)]) (rest := []) (wr := []) (wn := (fun u => (sgX5 k a v_letters v_size u.1 u.2.1 u.2.2.1 ++ sgX1 k b1 u.2.2.2.1 u.2.2.2.2.1 u.2.2.2.2.2.1 u.2.2.2.2.2.2))) ⟨hx, hb, hml, hown, hts⟩ (c_X5_readAct l G k a b1 v_letters v_size v_at_5 v_passed_5 v_fault_5 p1_size_5 p1_act_5 p1_whom_5 p1_amount_5 _ hf) (cwT 1 hts mw572 mw574 mw10 mw74 mw575 rfl hd_X5_readAct ⟨Nat.le_of_ble_eq_true rfl, Nat.le_of_ble_eq_true rfl⟩) hK hP hD hS hX hA [0, 1, 2, 3, 4, 5] [] [0, 1, 2, 3, 4, 5] rfl rfl (by decide) (by decide) (by decide) (fun u => rfl) (by decide) rfl rfl rfl rfl hl.1 rfl (Nat.le_of_ble_eq_true rfl) dX5_readDay_19 (Nat.zero_le _) (Nat.zero_le _) (fun r8 u H locs hf hP hD hS => ?_)
  obtain ⟨v_at_9, v_passed_10, v_fault_11, p1_size_12, p1_act_13, p1_whom_14, p1_amount_15⟩ := u
  have hP : va_P G vwCl (sgX5 k a v_letters v_size v_at_9 v_passed_10 v_fault_11 ++ sgX1 k b1 p1_size_12 p1_act_13 p1_whom_14 p1_amount_15) H := hP
  have hD : va_D A (sgX5 k a v_letters v_size v_at_9 v_passed_10 v_fault_11 ++ sgX1 k b1 p1_size_12 p1_act_13 p1_whom_14 p1_amount_15) := hD
  refine lv_if_ne (tgt := 30) hx hb dX5_readDay_22 (by decide) (fun c16 => ?_) (fun c16 => ?_)
  · have hf := hf.1 c16
    refine lv_aload_n hx hb dX5_readDay_30 rfl (lv_at hl 0 rfl) ?_
    refine cvi (As := []) (rest := []) (wr := (sgX1 k b1 p1_size_12 p1_act_13 p1_whom_14 p1_amount_15)) (wn := (fun u => (sgX5 k a v_letters v_size u v_passed_10 v_fault_11 ++ sgX1 k b1 p1_size_12 p1_act_13 p1_whom_14 p1_amount_15))) ⟨hx, hb, hml, hown, hts⟩ (c_X5_next l G k a v_letters v_size v_at_9 v_passed_10 v_fault_11 _ hf) (cwT 0 hts mw421 mw423 mw3 mw74 mw424 rfl hd_X5_next ⟨Nat.le_of_ble_eq_true rfl, Nat.le_of_ble_eq_true rfl⟩) hK hP hD hS hX hA [0, 1] [2, 3, 4, 5] [4, 5, 0, 1, 2, 3] rfl rfl (by decide) (by decide) (by decide) (fun u => rfl) (by decide) rfl rfl rfl rfl hl.1 rfl (Nat.le_of_ble_eq_true rfl) dX5_readDay_31 (Nat.zero_le _) (Nat.zero_le _) (fun r17 u H locs hf hP hD hS => ?_)
    obtain ⟨v_at_18, rfl⟩ : ∃ z, z = u := ⟨_, rfl⟩
    have hP : va_P G vwCl (sgX5 k a v_letters v_size v_at_18 v_passed_10 v_fault_11 ++ sgX1 k b1 p1_size_12 p1_act_13 p1_whom_14 p1_amount_15) H := hP
    have hD : va_D A (sgX5 k a v_letters v_size v_at_18 v_passed_10 v_fault_11 ++ sgX1 k b1 p1_size_12 p1_act_13 p1_whom_14 p1_amount_15) := hD
    refine lv_iconst (v := (-1)) hx hb dX5_readDay_34 (by decide) ?_
    refine lv_icmp_ne (tgt := 40) hx hb dX5_readDay_35 (by decide) (fun c19 => ?_) (fun c19 => ?_)
    · have hf := hf.1 c19
      refine lv_aload_n hx hb dX5_readDay_40 rfl (lv_at hl 0 rfl) ?_
      refine lv_bipush (v := 59) hx hb dX5_readDay_41 (by decide) ?_
      refine cvi (As := [.int 59]) (rest := []) (wr := (sgX1 k b1 p1_size_12 p1_act_13 p1_whom_14 p1_amount_15)) (wn := (fun u => (sgX5 k a v_letters v_size u.1 u.2.1 u.2.2 ++ sgX1 k b1 p1_size_12 p1_act_13 p1_whom_14 p1_amount_15))) ⟨hx, hb, hml, hown, hts⟩ (c_X5_takes l G k a 59 v_letters v_size v_at_18 v_passed_10 v_fault_11 _ hf) (cwT 1 hts mw560 mw562 mw9 mw74 mw563 rfl hd_X5_takes ⟨Nat.le_of_ble_eq_true rfl, Nat.le_of_ble_eq_true rfl⟩) hK hP hD hS hX hA [0, 1] [2, 3, 4, 5] [4, 5, 0, 1, 2, 3] rfl rfl (by decide) (by decide) (by decide) (fun u => rfl) (by decide) rfl rfl rfl rfl hl.1 rfl (Nat.le_of_ble_eq_true rfl) dX5_readDay_43 (Nat.zero_le _) (Nat.zero_le _) (fun r20 u H locs hf hP hD hS => ?_)
      obtain ⟨v_at_21, v_passed_22, v_fault_23⟩ := u
      have hP : va_P G vwCl (sgX5 k a v_letters v_size v_at_21 v_passed_22 v_fault_23 ++ sgX1 k b1 p1_size_12 p1_act_13 p1_whom_14 p1_amount_15) H := hP
      have hD : va_D A (sgX5 k a v_letters v_size v_at_21 v_passed_22 v_fault_23 ++ sgX1 k b1 p1_size_12 p1_act_13 p1_whom_14 p1_amount_15) := hD
      refine lv_if_ne (tgt := 54) hx hb dX5_readDay_46 (by decide) (fun c24 => ?_) (fun c24 => ?_)
      · have hf := hf.1 c24
        obtain ⟨z25, ez25⟩ : ∃ y : Int32, y = x2_5 + 1 := ⟨_, rfl⟩
        have hf := hf z25 ez25
        refine lv_iinc (v := z25) (lv' := [(2, .int z25), (0, .ref (a 0)), (1, .ref (b1 0))]) hx hb dX5_readDay_54 hl (k := 2) rfl (by rw [ez25]; rfl) (by decide) rfl (fun ls hl => ?_)
        refine lv_goto (tgt := 11) hx hb dX5_readDay_57 (by decide) ?_
        obtain ⟨m9, hm9, hi9⟩ := hf
        exact ih5 m9 (z25, v_at_21, v_passed_22, v_fault_23, p1_size_12, p1_act_13, p1_whom_14, p1_amount_15) hm9 hi9 _ _ _ hP hD hS (lv_sub hl [1, 2, 0] rfl)
      have hf := hf.2 c24
      refine lv_aload_n hx hb dX5_readDay_49 rfl (lv_at hl 0 rfl) ?_
      refine va_get (D := G) (ci := 5) (v := .int v_fault_23) (C := RX5) (T := TX5) (N := 5) hx hb hts inX5 hown hK hP 0 rfl rfl 4 (by decide) (hts _ mw235) (fun _ h9 => h9) rfl dX5_readDay_50 ?_
      exact ret_i hx hb hr hlk (v_at_21, v_passed_22, v_fault_23, p1_size_12, p1_act_13, p1_whom_14, p1_amount_15) hf hP hD hS dX5_readDay_53
    have hf := hf.2 c19
    refine lv_iload_n hx hb dX5_readDay_38 rfl (lv_at hl 2 rfl) ?_
    exact ret_i hx hb hr hlk (v_at_18, v_passed_10, v_fault_11, p1_size_12, p1_act_13, p1_whom_14, p1_amount_15) hf hP hD hS dX5_readDay_39
  have hf := hf.2 c16
  refine lv_aload_n hx hb dX5_readDay_25 rfl (lv_at hl 0 rfl) ?_
  refine va_get (D := G) (ci := 5) (v := .int v_fault_11) (C := RX5) (T := TX5) (N := 5) hx hb hts inX5 hown hK hP 0 rfl rfl 4 (by decide) (hts _ mw235) (fun _ h9 => h9) rfl dX5_readDay_26 ?_
  exact ret_i hx hb hr hlk (v_at_9, v_passed_10, v_fault_11, p1_size_12, p1_act_13, p1_whom_14, p1_amount_15) hf hP hD hS dX5_readDay_29
