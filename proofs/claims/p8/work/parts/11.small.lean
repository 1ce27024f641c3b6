def wp_X0_become (v_size : Int32) (v_on : Nat → Int32) (v_stake : Nat → Int32) (p1_size : Int32) (p1_on : Nat → Int32) (p1_stake : Nat → Int32) (post : (Int32) → (Nat → Int32) → (Nat → Int32) → Prop) : Prop :=
  (¬ (0 : Int32) < 0 ∧ ¬ (0 : Int32) < 0 ∧ ¬ (p1_size : Int32) < 0 ∧ Int32.toNatClampNeg 0 + Int32.toNatClampNeg p1_size ≤ 6 ∧ Int32.toNatClampNeg 0 + Int32.toNatClampNeg p1_size ≤ 6 ∧ ∀ f1 : Nat → Int32, f1 = (va_cpy p1_on v_on (Int32.toNatClampNeg 0) (Int32.toNatClampNeg 0) (Int32.toNatClampNeg p1_size)) → (¬ (0 : Int32) < 0 ∧ ¬ (0 : Int32) < 0 ∧ ¬ (p1_size : Int32) < 0 ∧ Int32.toNatClampNeg 0 + Int32.toNatClampNeg p1_size ≤ 6 ∧ Int32.toNatClampNeg 0 + Int32.toNatClampNeg p1_size ≤ 6 ∧ ∀ f2 : Nat → Int32, f2 = (va_cpy p1_stake v_stake (Int32.toNatClampNeg 0) (Int32.toNatClampNeg 0) (Int32.toNatClampNeg p1_size)) → (post p1_size f1 f2)))
set_option maxHeartbeats 4000000 in
set_option maxRecDepth 100000 in
theorem c_X0_become (l : Launch) (G : va_G) (k : Nat → ClassId) (a : Nat → Nat) (b1 : Nat → Nat) (v_size : Int32) (v_on : Nat → Int32) (v_stake : Nat → Int32) (p1_size : Int32) (p1_on : Nat → Int32) (p1_stake : Nat → Int32) (post : (Int32) → (Nat → Int32) → (Nat → Int32) → Prop) (hf : wp_X0_become v_size v_on v_stake p1_size p1_on p1_stake post) : MV (S := (Int32) × (Nat → Int32) × (Nat → Int32)) l G k yX0_become (Cond.code yX0_become cX0_become 2 none :: wT) 1 18 [.ref (a 0), .ref (b1 0)] (sgX0 k a v_size v_on v_stake ++ sgX0 k b1 p1_size p1_on p1_stake) (fun u => (sgX0 k a u.1 u.2.1 u.2.2 ++ sgX0 k b1 p1_size p1_on p1_stake)) (fun u => post u.1 u.2.1 u.2.2) := by
  refine mv_start (cc := cX0_become) (maxL := 2) (ret := none) (by decide) [(0, .ref (a 0)), (1, .ref (b1 0))] rfl (Nat.le_of_ble_eq_true rfl) ?_
  intro p e s m below meth c A ls hx hb hr hlk hml hown hts hK hP hD hA hS hX hl
  have hown : s.vm.findClass RX0 = some m.cls := hown
  unfold wp_X0_become at hf
  have hH0 : s.heap = s.heap := rfl
  refine lv_aload_n hx hb dX0_become_0 rfl (lv_at hl 0 rfl) ?_
  refine lv_aload_n hx hb dX0_become_1 rfl (lv_at hl 1 rfl) ?_
  refine va_get (D := G) (ci := 0) (v := .int p1_size) (C := RX0) (T := TX0) (N := 3) hx hb hts inX0 hown hK hP 3 rfl rfl 0 (by decide) (hts _ mw173) (fun _ h9 => h9) rfl dX0_become_2 ?_
  refine va_put (D := G) (ci := 0) (v := .int p1_size) (ty := .int) (C := RX0) (T := TX0) (N := 3) hx hb hts inX0 tyX0 tyX0_ok nmX0 hown hK hP hD hS 0 rfl rfl 0 (by decide) (hts _ mw173) (fun _ h9 => h9) rfl (by decide +kernel) rfl rfl (Nat.le_of_ble_eq_true rfl) dX0_become_5 (fun H locs hP hD hS => ?_)
  have hP : va_P G vwCl (sgX0 k a p1_size v_on v_stake ++ sgX0 k b1 p1_size p1_on p1_stake) H := hP
  have hD : va_D A (sgX0 k a p1_size v_on v_stake ++ sgX0 k b1 p1_size p1_on p1_stake) := hD
  refine lv_aload_n hx hb dX0_become_8 rfl (lv_at hl 1 rfl) ?_
  refine va_get (D := G) (ci := 0) (v := .ref (b1 1)) (C := RX0) (T := TX0) (N := 3) hx hb hts inX0 hown hK hP 3 rfl rfl 1 (by decide) (hts _ mw175) (fun _ h9 => h9) rfl dX0_become_9 ?_
  refine lv_iconst (v := 0) hx hb dX0_become_12 (by decide) ?_
  refine lv_aload_n hx hb dX0_become_13 rfl (lv_at hl 0 rfl) ?_
  refine va_get (D := G) (ci := 0) (v := .ref (a 1)) (C := RX0) (T := TX0) (N := 3) hx hb hts inX0 hown hK hP 0 rfl rfl 1 (by decide) (hts _ mw175) (fun _ h9 => h9) rfl dX0_become_14 ?_
  refine lv_iconst (v := 0) hx hb dX0_become_17 (by decide) ?_
  refine lv_aload_n hx hb dX0_become_18 rfl (lv_at hl 0 rfl) ?_
  refine va_get (D := G) (ci := 0) (v := .int p1_size) (C := RX0) (T := TX0) (N := 3) hx hb hts inX0 hown hK hP 0 rfl rfl 0 (by decide) (hts _ mw173) (fun _ h9 => h9) rfl dX0_become_19 ?_
  obtain ⟨h1, h2, h3, h4, h5, hf⟩ := hf
  refine va_copyi (ty := .int) hx hb (hml.trans hl.1.symm) hown (hts _ mw860) (hts _ mw411) (hts _ mw410) (hts _ mw78) hK hP hD hS 4 1 0 0 rfl rfl rfl rfl rfl h1 h2 h3 h4 h5 (fun _ _ => rfl) (Nat.le_of_ble_eq_true rfl) (Nat.le_of_ble_eq_true rfl) dX0_become_22 (fun H locs hP hD hS => ?_)
  have hP : va_P G vwCl (sgX0 k a p1_size (va_cpy p1_on v_on (Int32.toNatClampNeg 0) (Int32.toNatClampNeg 0) (Int32.toNatClampNeg p1_size)) v_stake ++ sgX0 k b1 p1_size p1_on p1_stake) H := hP
  have hD : va_D A (sgX0 k a p1_size (va_cpy p1_on v_on (Int32.toNatClampNeg 0) (Int32.toNatClampNeg 0) (Int32.toNatClampNeg p1_size)) v_stake ++ sgX0 k b1 p1_size p1_on p1_stake) := hD
  generalize ef1 : (va_cpy p1_on v_on (Int32.toNatClampNeg 0) (Int32.toNatClampNeg 0) (Int32.toNatClampNeg p1_size)) = f1 at hP hD
  have hf := hf f1 ef1.symm
  refine lv_aload_n hx hb dX0_become_25 rfl (lv_at hl 1 rfl) ?_
  refine va_get (D := G) (ci := 0) (v := .ref (b1 2)) (C := RX0) (T := TX0) (N := 3) hx hb hts inX0 hown hK hP 3 rfl rfl 2 (by decide) (hts _ mw176) (fun _ h9 => h9) rfl dX0_become_26 ?_
  refine lv_iconst (v := 0) hx hb dX0_become_29 (by decide) ?_
  refine lv_aload_n hx hb dX0_become_30 rfl (lv_at hl 0 rfl) ?_
  refine va_get (D := G) (ci := 0) (v := .ref (a 2)) (C := RX0) (T := TX0) (N := 3) hx hb hts inX0 hown hK hP 0 rfl rfl 2 (by decide) (hts _ mw176) (fun _ h9 => h9) rfl dX0_become_31 ?_
  refine lv_iconst (v := 0) hx hb dX0_become_34 (by decide) ?_
  refine lv_aload_n hx hb dX0_become_35 rfl (lv_at hl 0 rfl) ?_
  refine va_get (D := G) (ci := 0) (v := .int p1_size) (C := RX0) (T := TX0) (N := 3) hx hb hts inX0 hown hK hP 0 rfl rfl 0 (by decide) (hts _ mw173) (fun _ h9 => h9) rfl dX0_become_36 ?_
  obtain ⟨h1, h2, h3, h4, h5, hf⟩ := hf
  refine va_copyi (ty := .int) hx hb (hml.trans hl.1.symm) hown (hts _ mw860) (hts _ mw411) (hts _ mw410) (hts _ mw78) hK hP hD hS 5 2 0 0 rfl rfl rfl rfl rfl h1 h2 h3 h4 h5 (fun _ _ => rfl) (Nat.le_of_ble_eq_true rfl) (Nat.le_of_ble_eq_true rfl) dX0_become_39 (fun H locs hP hD hS => ?_)
  have hP : va_P G vwCl (sgX0 k a p1_size f1 (va_cpy p1_stake v_stake (Int32.toNatClampNeg 0) (Int32.toNatClampNeg 0) (Int32.toNatClampNeg p1_size)) ++ sgX0 k b1 p1_size p1_on p1_stake) H := hP
  have hD : va_D A (sgX0 k a p1_size f1 (va_cpy p1_stake v_stake (Int32.toNatClampNeg 0) (Int32.toNatClampNeg 0) (Int32.toNatClampNeg p1_size)) ++ sgX0 k b1 p1_size p1_on p1_stake) := hD
  generalize ef2 : (va_cpy p1_stake v_stake (Int32.toNatClampNeg 0) (Int32.toNatClampNeg 0) (Int32.toNatClampNeg p1_size)) = f2 at hP hD
  have hf := hf f2 ef2.symm
  exact ret_v hx hb hr hlk (p1_size, f1, f2) hf hP hD hS dX0_become_42
def wp_X0_add (p1 : Int32) (p2 : Int32) (v_size : Int32) (v_on : Nat → Int32) (v_stake : Nat → Int32) (post : Int32 → (Int32) → (Nat → Int32) → (Nat → Int32) → Prop) : Prop :=
  (vp_in v_size 6 ∧ ∀ f1 : Nat → Int32, f1 = (upd v_on (Int32.toNatClampNeg v_size) p1) → (vp_in v_size 6 ∧ ∀ f2 : Nat → Int32, f2 = (upd v_stake (Int32.toNatClampNeg v_size) p2) → (∀ z3 : Int32, z3 = (v_size + 1) → (post v_size z3 f1 f2))))
set_option maxHeartbeats 4000000 in
set_option maxRecDepth 100000 in
theorem c_X0_add (l : Launch) (G : va_G) (k : Nat → ClassId) (a : Nat → Nat) (p1 : Int32) (p2 : Int32) (v_size : Int32) (v_on : Nat → Int32) (v_stake : Nat → Int32) (post : Int32 → (Int32) → (Nat → Int32) → (Nat → Int32) → Prop) (hf : wp_X0_add p1 p2 v_size v_on v_stake post) : MI (S := (Int32) × (Nat → Int32) × (Nat → Int32)) l G k yX0_add (Cond.code yX0_add cX0_add 4 (some .int) :: wT) 0 0 [.ref (a 0), .int p1, .int p2] (sgX0 k a v_size v_on v_stake) (fun u => (sgX0 k a u.1 u.2.1 u.2.2)) (fun r u => post r u.1 u.2.1 u.2.2) := by
  refine mi_start (cc := cX0_add) (maxL := 4) (ret := (some .int)) (by decide) [(0, .ref (a 0)), (1, .int p1), (2, .int p2)] rfl (Nat.le_of_ble_eq_true rfl) ?_
  intro p e s m below meth c A ls hx hb hr hlk hml hown hts hK hP hD hA hS hX hl
  have hown : s.vm.findClass RX0 = some m.cls := hown
  unfold wp_X0_add at hf
  have hH0 : s.heap = s.heap := rfl
  refine lv_aload_n hx hb dX0_add_0 rfl (lv_at hl 0 rfl) ?_
  refine va_get (D := G) (ci := 0) (v := .int v_size) (C := RX0) (T := TX0) (N := 3) hx hb hts inX0 hown hK hP 0 rfl rfl 0 (by decide) (hts _ mw173) (fun _ h9 => h9) rfl dX0_add_1 ?_
  refine lv_istore_n (lv' := [(3, .int v_size), (0, .ref (a 0)), (1, .int p1), (2, .int p2)]) hx hb dX0_add_4 rfl hl (by decide) rfl (fun ls hl => ?_)
  refine lv_aload_n hx hb dX0_add_5 rfl (lv_at hl 1 rfl) ?_
  refine va_get (D := G) (ci := 0) (v := .ref (a 1)) (C := RX0) (T := TX0) (N := 3) hx hb hts inX0 hown hK hP 0 rfl rfl 1 (by decide) (hts _ mw175) (fun _ h9 => h9) rfl dX0_add_6 ?_
  refine lv_iload_n hx hb dX0_add_9 rfl (lv_at hl 0 rfl) ?_
  refine lv_iload_n hx hb dX0_add_10 rfl (lv_at hl 2 rfl) ?_
  obtain ⟨hin, hf⟩ := hf
  refine va_iast hx hb hK hP hD hS 1 0 rfl rfl hin dX0_add_11 (fun H locs hP hD hS => ?_)
  have hP : va_P G vwCl (sgX0 k a v_size (upd v_on (Int32.toNatClampNeg v_size) p1) v_stake) H := hP
  have hD : va_D A (sgX0 k a v_size (upd v_on (Int32.toNatClampNeg v_size) p1) v_stake) := hD
  generalize ef1 : (upd v_on (Int32.toNatClampNeg v_size) p1) = f1 at hP hD
  have hf := hf f1 ef1.symm
  refine lv_aload_n hx hb dX0_add_12 rfl (lv_at hl 1 rfl) ?_
  refine va_get (D := G) (ci := 0) (v := .ref (a 2)) (C := RX0) (T := TX0) (N := 3) hx hb hts inX0 hown hK hP 0 rfl rfl 2 (by decide) (hts _ mw176) (fun _ h9 => h9) rfl dX0_add_13 ?_
  refine lv_iload_n hx hb dX0_add_16 rfl (lv_at hl 0 rfl) ?_
  refine lv_iload_n hx hb dX0_add_17 rfl (lv_at hl 3 rfl) ?_
  obtain ⟨hin, hf⟩ := hf
  refine va_iast hx hb hK hP hD hS 2 0 rfl rfl hin dX0_add_18 (fun H locs hP hD hS => ?_)
  have hP : va_P G vwCl (sgX0 k a v_size f1 (upd v_stake (Int32.toNatClampNeg v_size) p2)) H := hP
  have hD : va_D A (sgX0 k a v_size f1 (upd v_stake (Int32.toNatClampNeg v_size) p2)) := hD
  generalize ef2 : (upd v_stake (Int32.toNatClampNeg v_size) p2) = f2 at hP hD
  have hf := hf f2 ef2.symm
  refine lv_aload_n hx hb dX0_add_19 rfl (lv_at hl 1 rfl) ?_
  refine lv_dup hx hb dX0_add_20 rfl ?_
  refine va_get (D := G) (ci := 0) (v := .int v_size) (C := RX0) (T := TX0) (N := 3) hx hb hts inX0 hown hK hP 0 rfl rfl 0 (by decide) (hts _ mw173) (fun _ h9 => h9) rfl dX0_add_21 ?_
  refine lv_iconst (v := 1) hx hb dX0_add_24 (by decide) ?_
  refine lv_iadd hx hb dX0_add_25 ?_
  refine lv_topi (fun z3 ez3 => ?_)
  have hf := hf z3 ez3
  refine va_put (D := G) (ci := 0) (v := .int z3) (ty := .int) (C := RX0) (T := TX0) (N := 3) hx hb hts inX0 tyX0 tyX0_ok nmX0 hown hK hP hD hS 0 rfl rfl 0 (by decide) (hts _ mw173) (fun _ h9 => h9) rfl (by decide +kernel) rfl rfl (Nat.le_of_ble_eq_true rfl) dX0_add_26 (fun H locs hP hD hS => ?_)
  have hP : va_P G vwCl (sgX0 k a z3 f1 f2) H := hP
  have hD : va_D A (sgX0 k a z3 f1 f2) := hD
  refine lv_iload_n hx hb dX0_add_29 rfl (lv_at hl 0 rfl) ?_
  exact ret_i hx hb hr hlk (z3, f1, f2) hf hP hD hS dX0_add_30
def wp_X0_removeOn (p1 : Int32) (v_size : Int32) (v_on : Nat → Int32) (v_stake : Nat → Int32) (post : (Int32) → (Nat → Int32) → (Nat → Int32) → Prop) : Prop :=
  (∃ I1 : Nat → (Int32) → (Int32) → (Nat → Int32) → (Nat → Int32) → Prop, (∃ n1, I1 n1 0 0 v_on v_stake) ∧ ∀ (n1 : Nat) (x2_1 : Int32) (x3_1 : Int32) (v_on_1 : Nat → Int32) (v_stake_1 : Nat → Int32), I1 n1 x2_1 x3_1 v_on_1 v_stake_1 →
 ((v_size ≤ x3_1 → (post x2_1 v_on_1 v_stake_1)) ∧
 (¬ v_size ≤ x3_1 → (vp_in x3_1 6 ∧ ((¬ (v_on_1 (Int32.toNatClampNeg x3_1)) = p1 → (vp_in x3_1 6 ∧ (∀ z4 : Int32, z4 = (v_on_1 (Int32.toNatClampNeg x3_1)) → (vp_in x2_1 6 ∧ ∀ f5 : Nat → Int32, f5 = (upd v_on_1 (Int32.toNatClampNeg x2_1) z4) → (vp_in x3_1 6 ∧ (∀ z6 : Int32, z6 = (v_stake_1 (Int32.toNatClampNeg x3_1)) → (vp_in x2_1 6 ∧ ∀ f7 : Nat → Int32, f7 = (upd v_stake_1 (Int32.toNatClampNeg x2_1) z6) → (∀ z8 : Int32, z8 = x2_1 + 1 → (∀ z9 : Int32, z9 = x3_1 + 1 → (∃ m9, m9 < n1 ∧ I1 m9 z8 z9 f5 f7)))))))))) ∧
 ((v_on_1 (Int32.toNatClampNeg x3_1)) = p1 → (∀ z10 : Int32, z10 = x3_1 + 1 → (∃ m9, m9 < n1 ∧ I1 m9 x2_1 z10 v_on_1 v_stake_1))))))))
set_option maxHeartbeats 4000000 in
set_option maxRecDepth 100000 in
theorem c_X0_removeOn (l : Launch) (G : va_G) (k : Nat → ClassId) (a : Nat → Nat) (p1 : Int32) (v_size : Int32) (v_on : Nat → Int32) (v_stake : Nat → Int32) (post : (Int32) → (Nat → Int32) → (Nat → Int32) → Prop) (hf : wp_X0_removeOn p1 v_size v_on v_stake post) : MV (S := (Int32) × (Nat → Int32) × (Nat → Int32)) l G k yX0_removeOn (Cond.code yX0_removeOn cX0_removeOn 4 none :: wT) 0 0 [.ref (a 0), .int p1] (sgX0 k a v_size v_on v_stake) (fun u => (sgX0 k a u.1 u.2.1 u.2.2)) (fun u => post u.1 u.2.1 u.2.2) := by
  refine mv_start (cc := cX0_removeOn) (maxL := 4) (ret := none) (by decide) [(0, .ref (a 0)), (1, .int p1)] rfl (Nat.le_of_ble_eq_true rfl) ?_
  intro p e s m below meth c A ls hx hb hr hlk hml hown hts hK hP hD hA hS hX hl
  have hown : s.vm.findClass RX0 = some m.cls := hown
  unfold wp_X0_removeOn at hf
  have hH0 : s.heap = s.heap := rfl
  refine lv_iconst (v := 0) hx hb dX0_removeOn_0 (by decide) ?_
  refine lv_istore_n (lv' := [(2, .int 0), (0, .ref (a 0)), (1, .int p1)]) hx hb dX0_removeOn_1 rfl hl (by decide) rfl (fun ls hl => ?_)
  refine lv_iconst (v := 0) hx hb dX0_removeOn_2 (by decide) ?_
  refine lv_istore_n (lv' := [(3, .int 0), (2, .int 0), (0, .ref (a 0)), (1, .int p1)]) hx hb dX0_removeOn_3 rfl hl (by decide) rfl (fun ls hl => ?_)
  obtain ⟨I1, ⟨n1, hi1⟩, hs1⟩ := hf
  refine w_loop (G := G) (A := A) (H0 := s.heap) (nL := 4) (σ := (Int32) × (Int32) × (Nat → Int32) × (Nat → Int32)) (I := fun n v => I1 n v.1 v.2.1 v.2.2.1 v.2.2.2) (wl := fun v => (sgX0 k a v_size v.2.2.1 v.2.2.2)) (lv := fun v => [(0, .ref (a 0)), (1, .int p1), (2, .int v.1), (3, .int v.2.1)]) (st := fun _ => []) n1 (0, 0, v_on, v_stake) hi1 hP hD hS (lv_sub hl [2, 3, 1, 0] rfl) (fun n1 v hi ih1 H locs ls hP hD hS hl => ?_)
  obtain ⟨x2_1, x3_1, v_on_1, v_stake_1⟩ := v
  have hf := hs1 n1 x2_1 x3_1 v_on_1 v_stake_1 hi
  have hP : va_P G vwCl (sgX0 k a v_size v_on_1 v_stake_1) H := hP
  have hD : va_D A (sgX0 k a v_size v_on_1 v_stake_1) := hD
  have hl : lv_has ls 4 [(0, .ref (a 0)), (1, .int p1), (2, .int x2_1), (3, .int x3_1)] := hl
  refine lv_iload_n hx hb dX0_removeOn_4 rfl (lv_at hl 3 rfl) ?_
  refine lv_aload_n hx hb dX0_removeOn_5 rfl (lv_at hl 0 rfl) ?_
  refine va_get (D := G) (ci := 0) (v := .int v_size) (C := RX0) (T := TX0) (N := 3) hx hb hts inX0 hown hK hP 0 rfl rfl 0 (by decide) (hts _ mw173) (fun _ h9 => h9) rfl dX0_removeOn_6 ?_
  refine lv_icmp_ge (tgt := 58) hx hb dX0_removeOn_9 (by decide) (fun c2 => ?_) (fun c2 => ?_)
  · have hf := hf.1 c2
    refine lv_aload_n hx hb dX0_removeOn_58 rfl (lv_at hl 0 rfl) ?_
    refine lv_iload_n hx hb dX0_removeOn_59 rfl (lv_at hl 2 rfl) ?_
    refine va_put (D := G) (ci := 0) (v := .int x2_1) (ty := .int) (C := RX0) (T := TX0) (N := 3) hx hb hts inX0 tyX0 tyX0_ok nmX0 hown hK hP hD hS 0 rfl rfl 0 (by decide) (hts _ mw173) (fun _ h9 => h9) rfl (by decide +kernel) rfl rfl (Nat.le_of_ble_eq_true rfl) dX0_removeOn_60 (fun H locs hP hD hS => ?_)
    have hP : va_P G vwCl (sgX0 k a x2_1 v_on_1 v_stake_1) H := hP
    have hD : va_D A (sgX0 k a x2_1 v_on_1 v_stake_1) := hD
    exact ret_v hx hb hr hlk (x2_1, v_on_1, v_stake_1) hf hP hD hS dX0_removeOn_63
  have hf := hf.2 c2
  refine lv_aload_n hx hb dX0_removeOn_12 rfl (lv_at hl 0 rfl) ?_
  refine va_get (D := G) (ci := 0) (v := .ref (a 1)) (C := RX0) (T := TX0) (N := 3) hx hb hts inX0 hown hK hP 0 rfl rfl 1 (by decide) (hts _ mw175) (fun _ h9 => h9) rfl dX0_removeOn_13 ?_
  refine lv_iload_n hx hb dX0_removeOn_16 rfl (lv_at hl 3 rfl) ?_
  obtain ⟨hin, hf⟩ := hf
  refine va_iald hx hb hK hP 1 0 rfl rfl hin dX0_removeOn_17 ?_
  refine lv_iload_n hx hb dX0_removeOn_18 rfl (lv_at hl 1 rfl) ?_
  refine lv_icmp_ne (tgt := 25) hx hb dX0_removeOn_19 (by decide) (fun c3 => ?_) (fun c3 => ?_)
  · have hf := hf.1 c3
    refine lv_aload_n hx hb dX0_removeOn_25 rfl (lv_at hl 0 rfl) ?_
    refine va_get (D := G) (ci := 0) (v := .ref (a 1)) (C := RX0) (T := TX0) (N := 3) hx hb hts inX0 hown hK hP 0 rfl rfl 1 (by decide) (hts _ mw175) (fun _ h9 => h9) rfl dX0_removeOn_26 ?_
    refine lv_iload_n hx hb dX0_removeOn_29 rfl (lv_at hl 2 rfl) ?_
    refine lv_aload_n hx hb dX0_removeOn_30 rfl (lv_at hl 0 rfl) ?_
    refine va_get (D := G) (ci := 0) (v := .ref (a 1)) (C := RX0) (T := TX0) (N := 3) hx hb hts inX0 hown hK hP 0 rfl rfl 1 (by decide) (hts _ mw175) (fun _ h9 => h9) rfl dX0_removeOn_31 ?_
    refine lv_iload_n hx hb dX0_removeOn_34 rfl (lv_at hl 3 rfl) ?_
    obtain ⟨hin, hf⟩ := hf
    refine va_iald hx hb hK hP 1 0 rfl rfl hin dX0_removeOn_35 ?_
    refine lv_topi (fun z4 ez4 => ?_)
    have hf := hf z4 ez4
    obtain ⟨hin, hf⟩ := hf
    refine va_iast hx hb hK hP hD hS 1 0 rfl rfl hin dX0_removeOn_36 (fun H locs hP hD hS => ?_)
    have hP : va_P G vwCl (sgX0 k a v_size (upd v_on_1 (Int32.toNatClampNeg x2_1) z4) v_stake_1) H := hP
    have hD : va_D A (sgX0 k a v_size (upd v_on_1 (Int32.toNatClampNeg x2_1) z4) v_stake_1) := hD
    generalize ef5 : (upd v_on_1 (Int32.toNatClampNeg x2_1) z4) = f5 at hP hD
    have hf := hf f5 ef5.symm
    refine lv_aload_n hx hb dX0_removeOn_37 rfl (lv_at hl 0 rfl) ?_
    refine va_get (D := G) (ci := 0) (v := .ref (a 2)) (C := RX0) (T := TX0) (N := 3) hx hb hts inX0 hown hK hP 0 rfl rfl 2 (by decide) (hts _ mw176) (fun _ h9 => h9) rfl dX0_removeOn_38 ?_
    refine lv_iload_n hx hb dX0_removeOn_41 rfl (lv_at hl 2 rfl) ?_
    refine lv_aload_n hx hb dX0_removeOn_42 rfl (lv_at hl 0 rfl) ?_
    refine va_get (D := G) (ci := 0) (v := .ref (a 2)) (C := RX0) (T := TX0) (N := 3) hx hb hts inX0 hown hK hP 0 rfl rfl 2 (by decide) (hts _ mw176) (fun _ h9 => h9) rfl dX0_removeOn_43 ?_
    refine lv_iload_n hx hb dX0_removeOn_46 rfl (lv_at hl 3 rfl) ?_
    obtain ⟨hin, hf⟩ := hf
    refine va_iald hx hb hK hP 2 0 rfl rfl hin dX0_removeOn_47 ?_
    refine lv_topi (fun z6 ez6 => ?_)
    have hf := hf z6 ez6
    obtain ⟨hin, hf⟩ := hf
    refine va_iast hx hb hK hP hD hS 2 0 rfl rfl hin dX0_removeOn_48 (fun H locs hP hD hS => ?_)
    have hP : va_P G vwCl (sgX0 k a v_size f5 (upd v_stake_1 (Int32.toNatClampNeg x2_1) z6)) H := hP
    have hD : va_D A (sgX0 k a v_size f5 (upd v_stake_1 (Int32.toNatClampNeg x2_1) z6)) := hD
    generalize ef7 : (upd v_stake_1 (Int32.toNatClampNeg x2_1) z6) = f7 at hP hD
    have hf := hf f7 ef7.symm
    obtain ⟨z8, ez8⟩ : ∃ y : Int32, y = x2_1 + 1 := ⟨_, rfl⟩
    have hf := hf z8 ez8
    refine lv_iinc (v := z8) (lv' := [(2, .int z8), (0, .ref (a 0)), (1, .int p1), (3, .int x3_1)]) hx hb dX0_removeOn_49 hl (k := 2) rfl (by rw [ez8]; rfl) (by decide) rfl (fun ls hl => ?_)
    obtain ⟨z9, ez9⟩ : ∃ y : Int32, y = x3_1 + 1 := ⟨_, rfl⟩
    have hf := hf z9 ez9
    refine lv_iinc (v := z9) (lv' := [(3, .int z9), (2, .int z8), (0, .ref (a 0)), (1, .int p1)]) hx hb dX0_removeOn_52 hl (k := 3) rfl (by rw [ez9]; rfl) (by decide) rfl (fun ls hl => ?_)
    refine lv_goto (tgt := 4) hx hb dX0_removeOn_55 (by decide) ?_
    obtain ⟨m9, hm9, hi9⟩ := hf
    exact ih1 m9 (z8, z9, f5, f7) hm9 hi9 _ _ _ hP hD hS (lv_sub hl [2, 3, 1, 0] rfl)
  have hf := hf.2 c3
  refine lv_goto (tgt := 52) hx hb dX0_removeOn_22 (by decide) ?_
  obtain ⟨z10, ez10⟩ : ∃ y : Int32, y = x3_1 + 1 := ⟨_, rfl⟩
  have hf := hf z10 ez10
  refine lv_iinc (v := z10) (lv' := [(3, .int z10), (0, .ref (a 0)), (1, .int p1), (2, .int x2_1)]) hx hb dX0_removeOn_52 hl (k := 3) rfl (by rw [ez10]; rfl) (by decide) rfl (fun ls hl => ?_)
  refine lv_goto (tgt := 4) hx hb dX0_removeOn_55 (by decide) ?_
  obtain ⟨m9, hm9, hi9⟩ := hf
  exact ih1 m9 (x2_1, z10, v_on_1, v_stake_1) hm9 hi9 _ _ _ hP hD hS (lv_sub hl [1, 2, 3, 0] rfl)
def wp_X0_wins (p1 : Int32) (p2 : Int32) (v_on : Nat → Int32) (post : Int32 → Prop) : Prop :=
  (vp_in p1 6 ∧ ((¬ ((p2 >>> ((v_on (Int32.toNatClampNeg p1)) &&& 31)) &&& 1) = 1 → (post 0 )) ∧
 (((p2 >>> ((v_on (Int32.toNatClampNeg p1)) &&& 31)) &&& 1) = 1 → (post 1 ))))
set_option maxHeartbeats 4000000 in
set_option maxRecDepth 100000 in
theorem c_X0_wins (l : Launch) (G : va_G) (k : Nat → ClassId) (a : Nat → Nat) (p1 : Int32) (p2 : Int32) (v_size : Int32) (v_on : Nat → Int32) (v_stake : Nat → Int32) (post : Int32 → Prop) (hf : wp_X0_wins p1 p2 v_on post) : MI (S := Unit) l G k yX0_wins (Cond.code yX0_wins cX0_wins 3 (some .boolean) :: wT) 0 0 [.ref (a 0), .int p1, .int p2] (sgX0 k a v_size v_on v_stake) (fun u => (sgX0 k a v_size v_on v_stake)) (fun r u => post r ) := by
  refine mi_start (cc := cX0_wins) (maxL := 3) (ret := (some .boolean)) (by decide) [(0, .ref (a 0)), (1, .int p1), (2, .int p2)] rfl (Nat.le_of_ble_eq_true rfl) ?_
  intro p e s m below meth c A ls hx hb hr hlk hml hown hts hK hP hD hA hS hX hl
  have hown : s.vm.findClass RX0 = some m.cls := hown
  unfold wp_X0_wins at hf
  have hH0 : s.heap = s.heap := rfl
  refine lv_iload_n hx hb dX0_wins_0 rfl (lv_at hl 2 rfl) ?_
  refine lv_aload_n hx hb dX0_wins_1 rfl (lv_at hl 0 rfl) ?_
  refine va_get (D := G) (ci := 0) (v := .ref (a 1)) (C := RX0) (T := TX0) (N := 3) hx hb hts inX0 hown hK hP 0 rfl rfl 1 (by decide) (hts _ mw175) (fun _ h9 => h9) rfl dX0_wins_2 ?_
  refine lv_iload_n hx hb dX0_wins_5 rfl (lv_at hl 1 rfl) ?_
  obtain ⟨hin, hf⟩ := hf
  refine va_iald hx hb hK hP 1 0 rfl rfl hin dX0_wins_6 ?_
  refine lv_ishr hx hb dX0_wins_7 ?_
  refine lv_iconst (v := 1) hx hb dX0_wins_8 (by decide) ?_
  refine lv_iand hx hb dX0_wins_9 ?_
  refine lv_iconst (v := 1) hx hb dX0_wins_10 (by decide) ?_
  refine lv_icmp_ne (tgt := 18) hx hb dX0_wins_11 (by decide) (fun c1 => ?_) (fun c1 => ?_)
  · have hf := hf.1 c1
    refine lv_iconst (v := 0) hx hb dX0_wins_18 (by decide) ?_
    exact ret_z hx hb hr hlk (Or.inl rfl) () hf hP hD hS dX0_wins_19
  have hf := hf.2 c1
  refine lv_iconst (v := 1) hx hb dX0_wins_14 (by decide) ?_
  refine lv_goto (tgt := 19) hx hb dX0_wins_15 (by decide) ?_
  exact ret_z hx hb hr hlk (Or.inr rfl) () hf hP hD hS dX0_wins_19
def wp_X0_share (p1 : Int32) (p2 : Int32) (v_size : Int32) (v_on : Nat → Int32) (v_stake : Nat → Int32) (post : Int32 → Prop) : Prop :=
  (∃ I1 : Nat → (Int32) → (Int32) → (Int32) → Prop, (∃ n1, I1 n1 0 0 0) ∧ ∀ (n1 : Nat) (x3_1 : Int32) (x4_1 : Int32) (x5_1 : Int32), I1 n1 x3_1 x4_1 x5_1 →
 ((v_size ≤ x5_1 → ((¬ x4_1 = 0 → (wp_X0_wins p1 p2 v_on (fun (r4 : Int32) =>
 ((r4 = 0 → (post 0 )) ∧
 (¬ r4 = 0 → (vp_in p1 6 ∧ (¬ x4_1 = 0 ∧ (post ((x3_1 * (v_stake (Int32.toNatClampNeg p1))) / x4_1) )))))))) ∧
 (x4_1 = 0 → (vp_in p1 6 ∧ (post (v_stake (Int32.toNatClampNeg p1)) ))))) ∧
 (¬ v_size ≤ x5_1 → (vp_in x5_1 6 ∧ (∀ z6 : Int32, z6 = (x3_1 + (v_stake (Int32.toNatClampNeg x5_1))) → (wp_X0_wins x5_1 p2 v_on (fun (r7 : Int32) =>
 ((r7 = 0 → (∀ z9 : Int32, z9 = x5_1 + 1 → (∃ m9, m9 < n1 ∧ I1 m9 z6 x4_1 z9))) ∧
 (¬ r7 = 0 → (vp_in x5_1 6 ∧ (∀ z10 : Int32, z10 = (x4_1 + (v_stake (Int32.toNatClampNeg x5_1))) → (∀ z11 : Int32, z11 = x5_1 + 1 → (∃ m9, m9 < n1 ∧ I1 m9 z6 z10 z11)))))))))))))
set_option maxHeartbeats 4000000 in
set_option maxRecDepth 100000 in
theorem c_X0_share (l : Launch) (G : va_G) (k : Nat → ClassId) (a : Nat → Nat) (p1 : Int32) (p2 : Int32) (v_size : Int32) (v_on : Nat → Int32) (v_stake : Nat → Int32) (post : Int32 → Prop) (hf : wp_X0_share p1 p2 v_size v_on v_stake post) : MI (S := Unit) l G k yX0_share (Cond.code yX0_share cX0_share 6 (some .int) :: wT) 1 22 [.ref (a 0), .int p1, .int p2] (sgX0 k a v_size v_on v_stake) (fun u => (sgX0 k a v_size v_on v_stake)) (fun r u => post r ) := by
  refine mi_start (cc := cX0_share) (maxL := 6) (ret := (some .int)) (by decide) [(0, .ref (a 0)), (1, .int p1), (2, .int p2)] rfl (Nat.le_of_ble_eq_true rfl) ?_
  intro p e s m below meth c A ls hx hb hr hlk hml hown hts hK hP hD hA hS hX hl
  have hown : s.vm.findClass RX0 = some m.cls := hown
  unfold wp_X0_share at hf
  have hH0 : s.heap = s.heap := rfl
  refine lv_iconst (v := 0) hx hb dX0_share_0 (by decide) ?_
  refine lv_istore_n (lv' := [(3, .int 0), (0, .ref (a 0)), (1, .int p1), (2, .int p2)]) hx hb dX0_share_1 rfl hl (by decide) rfl (fun ls hl => ?_)
  refine lv_iconst (v := 0) hx hb dX0_share_2 (by decide) ?_
  refine lv_istore (lv' := [(4, .int 0), (3, .int 0), (0, .ref (a 0)), (1, .int p1), (2, .int p2)]) hx hb dX0_share_3 hl (by decide) rfl (fun ls hl => ?_)
  refine lv_iconst (v := 0) hx hb dX0_share_5 (by decide) ?_
  refine lv_istore (lv' := [(5, .int 0), (4, .int 0), (3, .int 0), (0, .ref (a 0)), (1, .int p1), (2, .int p2)]) hx hb dX0_share_6 hl (by decide) rfl (fun ls hl => ?_)
  obtain ⟨I1, ⟨n1, hi1⟩, hs1⟩ := hf
  refine w_loop (G := G) (A := A) (H0 := s.heap) (nL := 6) (σ := (Int32) × (Int32) × (Int32)) (I := fun n v => I1 n v.1 v.2.1 v.2.2) (wl := fun v => (sgX0 k a v_size v_on v_stake)) (lv := fun v => [(0, .ref (a 0)), (1, .int p1), (2, .int p2), (3, .int v.1), (4, .int v.2.1), (5, .int v.2.2)]) (st := fun _ => []) n1 (0, 0, 0) hi1 hP hD hS (lv_sub hl [3, 4, 5, 2, 1, 0] rfl) (fun n1 v hi ih1 H locs ls hP hD hS hl => ?_)
  obtain ⟨x3_1, x4_1, x5_1⟩ := v
  have hf := hs1 n1 x3_1 x4_1 x5_1 hi
  have hP : va_P G vwCl (sgX0 k a v_size v_on v_stake) H := hP
  have hD : va_D A (sgX0 k a v_size v_on v_stake) := hD
  have hl : lv_has ls 6 [(0, .ref (a 0)), (1, .int p1), (2, .int p2), (3, .int x3_1), (4, .int x4_1), (5, .int x5_1)] := hl
  refine lv_iload hx hb dX0_share_8 (lv_at hl 5 rfl) ?_
  refine lv_aload_n hx hb dX0_share_10 rfl (lv_at hl 0 rfl) ?_
  refine va_get (D := G) (ci := 0) (v := .int v_size) (C := RX0) (T := TX0) (N := 3) hx hb hts inX0 hown hK hP 0 rfl rfl 0 (by decide) (hts _ mw173) (fun _ h9 => h9) rfl dX0_share_11 ?_
  refine lv_icmp_ge (tgt := 55) hx hb dX0_share_14 (by decide) (fun c2 => ?_) (fun c2 => ?_)
  · have hf := hf.1 c2
    refine lv_iload hx hb dX0_share_55 (lv_at hl 4 rfl) ?_
    refine lv_if_ne (tgt := 67) hx hb dX0_share_57 (by decide) (fun c3 => ?_) (fun c3 => ?_)
    · have hf := hf.1 c3
      refine lv_aload_n hx hb dX0_share_67 rfl (lv_at hl 0 rfl) ?_
      refine lv_iload_n hx hb dX0_share_68 rfl (lv_at hl 1 rfl) ?_
      refine lv_iload_n hx hb dX0_share_69 rfl (lv_at hl 2 rfl) ?_
      refine cvi (As := [.int p1, .int p2]) (rest := []) (wr := []) (wn := (fun u => (sgX0 k a v_size v_on v_stake))) ⟨hx, hb, hml, hown, hts⟩ (c_X0_wins l G k a p1 p2 v_size v_on v_stake _ hf) (cwT 2 hts mw824 mw826 mw27 mw72 mw827 rfl hd_X0_wins ⟨Nat.le_of_ble_eq_true rfl, Nat.le_of_ble_eq_true rfl⟩) hK hP hD hS hX hA [0, 1, 2] [] [0, 1, 2] rfl rfl (by decide) (by decide) (by decide) (fun u => rfl) (by decide) rfl rfl rfl rfl hl.1 rfl (Nat.le_of_ble_eq_true rfl) dX0_share_70 (Nat.zero_le _) (Nat.zero_le _) (fun r4 u H locs hf hP hD hS => ?_)
      have hP : va_P G vwCl (sgX0 k a v_size v_on v_stake) H := hP
      have hD : va_D A (sgX0 k a v_size v_on v_stake) := hD
      refine lv_if_eq (tgt := 90) hx hb dX0_share_73 (by decide) (fun c5 => ?_) (fun c5 => ?_)
      · have hf := hf.1 c5
        refine lv_iconst (v := 0) hx hb dX0_share_90 (by decide) ?_
        exact ret_i hx hb hr hlk () hf hP hD hS dX0_share_91
      have hf := hf.2 c5
      refine lv_iload_n hx hb dX0_share_76 rfl (lv_at hl 3 rfl) ?_
      refine lv_aload_n hx hb dX0_share_77 rfl (lv_at hl 0 rfl) ?_
      refine va_get (D := G) (ci := 0) (v := .ref (a 2)) (C := RX0) (T := TX0) (N := 3) hx hb hts inX0 hown hK hP 0 rfl rfl 2 (by decide) (hts _ mw176) (fun _ h9 => h9) rfl dX0_share_78 ?_
      refine lv_iload_n hx hb dX0_share_81 rfl (lv_at hl 1 rfl) ?_
      obtain ⟨hin, hf⟩ := hf
      refine va_iald hx hb hK hP 2 0 rfl rfl hin dX0_share_82 ?_
      refine lv_imul hx hb dX0_share_83 ?_
      refine lv_iload hx hb dX0_share_84 (lv_at hl 4 rfl) ?_
      obtain ⟨hne, hf⟩ := hf
      refine lv_idiv hx hb dX0_share_86 hne ?_
      refine lv_goto (tgt := 91) hx hb dX0_share_87 (by decide) ?_
      exact ret_i hx hb hr hlk () hf hP hD hS dX0_share_91
    have hf := hf.2 c3
    refine lv_aload_n hx hb dX0_share_60 rfl (lv_at hl 0 rfl) ?_
    refine va_get (D := G) (ci := 0) (v := .ref (a 2)) (C := RX0) (T := TX0) (N := 3) hx hb hts inX0 hown hK hP 0 rfl rfl 2 (by decide) (hts _ mw176) (fun _ h9 => h9) rfl dX0_share_61 ?_
    refine lv_iload_n hx hb dX0_share_64 rfl (lv_at hl 1 rfl) ?_
    obtain ⟨hin, hf⟩ := hf
    refine va_iald hx hb hK hP 2 0 rfl rfl hin dX0_share_65 ?_
    exact ret_i hx hb hr hlk () hf hP hD hS dX0_share_66
  have hf := hf.2 c2
  refine lv_iload_n hx hb dX0_share_17 rfl (lv_at hl 3 rfl) ?_
  refine lv_aload_n hx hb dX0_share_18 rfl (lv_at hl 0 rfl) ?_
  refine va_get (D := G) (ci := 0) (v := .ref (a 2)) (C := RX0) (T := TX0) (N := 3) hx hb hts inX0 hown hK hP 0 rfl rfl 2 (by decide) (hts _ mw176) (fun _ h9 => h9) rfl dX0_share_19 ?_
  refine lv_iload hx hb dX0_share_22 (lv_at hl 5 rfl) ?_
  obtain ⟨hin, hf⟩ := hf
  refine va_iald hx hb hK hP 2 0 rfl rfl hin dX0_share_24 ?_
  refine lv_iadd hx hb dX0_share_25 ?_
  refine lv_topi (fun z6 ez6 => ?_)
  have hf := hf z6 ez6
  refine lv_istore_n (lv' := [(3, .int z6), (0, .ref (a 0)), (1, .int p1), (2, .int p2), (4, .int x4_1), (5, .int x5_1)]) hx hb dX0_share_26 rfl hl (by decide) rfl (fun ls hl => ?_)
  refine lv_aload_n hx hb dX0_share_27 rfl (lv_at hl 1 rfl) ?_
  refine lv_iload hx hb dX0_share_28 (lv_at hl 5 rfl) ?_
  refine lv_iload_n hx hb dX0_share_30 rfl (lv_at hl 3 rfl) ?_
  refine cvi (As := [.int x5_1, .int p2]) (rest := []) (wr := []) (wn := (fun u => (sgX0 k a v_size v_on v_stake))) ⟨hx, hb, hml, hown, hts⟩ (c_X0_wins l G k a x5_1 p2 v_size v_on v_stake _ hf) (cwT 2 hts mw824 mw826 mw27 mw72 mw827 rfl hd_X0_wins ⟨Nat.le_of_ble_eq_true rfl, Nat.le_of_ble_eq_true rfl⟩) hK hP hD hS hX hA [0, 1, 2] [] [0, 1, 2] rfl rfl (by decide) (by decide) (by decide) (fun u => rfl) (by decide) rfl rfl rfl rfl hl.1 rfl (Nat.le_of_ble_eq_true rfl) dX0_share_31 (Nat.zero_le _) (Nat.zero_le _) (fun r7 u H locs hf hP hD hS => ?_)
  have hP : va_P G vwCl (sgX0 k a v_size v_on v_stake) H := hP
  have hD : va_D A (sgX0 k a v_size v_on v_stake) := hD
  refine lv_if_eq (tgt := 49) hx hb dX0_share_34 (by decide) (fun c8 => ?_) (fun c8 => ?_)
  · have hf := hf.1 c8
    obtain ⟨z9, ez9⟩ : ∃ y : Int32, y = x5_1 + 1 := ⟨_, rfl⟩
    have hf := hf z9 ez9
    refine lv_iinc (v := z9) (lv' := [(5, .int z9), (3, .int z6), (0, .ref (a 0)), (1, .int p1), (2, .int p2), (4, .int x4_1)]) hx hb dX0_share_49 hl (k := 5) rfl (by rw [ez9]; rfl) (by decide) rfl (fun ls hl => ?_)
    refine lv_goto (tgt := 8) hx hb dX0_share_52 (by decide) ?_
    obtain ⟨m9, hm9, hi9⟩ := hf
    exact ih1 m9 (z6, x4_1, z9) hm9 hi9 _ _ _ hP hD hS (lv_sub hl [2, 3, 4, 1, 5, 0] rfl)
  have hf := hf.2 c8
  refine lv_iload hx hb dX0_share_37 (lv_at hl 4 rfl) ?_
  refine lv_aload_n hx hb dX0_share_39 rfl (lv_at hl 1 rfl) ?_
  refine va_get (D := G) (ci := 0) (v := .ref (a 2)) (C := RX0) (T := TX0) (N := 3) hx hb hts inX0 hown hK hP 0 rfl rfl 2 (by decide) (hts _ mw176) (fun _ h9 => h9) rfl dX0_share_40 ?_
  refine lv_iload hx hb dX0_share_43 (lv_at hl 5 rfl) ?_
  obtain ⟨hin, hf⟩ := hf
  refine va_iald hx hb hK hP 2 0 rfl rfl hin dX0_share_45 ?_
  refine lv_iadd hx hb dX0_share_46 ?_
  refine lv_topi (fun z10 ez10 => ?_)
  have hf := hf z10 ez10
  refine lv_istore (lv' := [(4, .int z10), (3, .int z6), (0, .ref (a 0)), (1, .int p1), (2, .int p2), (5, .int x5_1)]) hx hb dX0_share_47 hl (by decide) rfl (fun ls hl => ?_)
  obtain ⟨z11, ez11⟩ : ∃ y : Int32, y = x5_1 + 1 := ⟨_, rfl⟩
  have hf := hf z11 ez11
  refine lv_iinc (v := z11) (lv' := [(5, .int z11), (4, .int z10), (3, .int z6), (0, .ref (a 0)), (1, .int p1), (2, .int p2)]) hx hb dX0_share_49 hl (k := 5) rfl (by rw [ez11]; rfl) (by decide) rfl (fun ls hl => ?_)
  refine lv_goto (tgt := 8) hx hb dX0_share_52 (by decide) ?_
  obtain ⟨m9, hm9, hi9⟩ := hf
  exact ih1 m9 (z6, z10, z11) hm9 hi9 _ _ _ hP hD hS (lv_sub hl [3, 4, 5, 2, 1, 0] rfl)
def wp_X1_add (p1 : Int32) (p2 : Int32) (p3 : Int32) (v_size : Int32) (v_act : Nat → Int32) (v_whom : Nat → Int32) (v_amount : Nat → Int32) (post : (Int32) → (Nat → Int32) → (Nat → Int32) → (Nat → Int32) → Prop) : Prop :=
  (vp_in v_size 80 ∧ ∀ f1 : Nat → Int32, f1 = (upd v_act (Int32.toNatClampNeg v_size) p1) → (vp_in v_size 80 ∧ ∀ f2 : Nat → Int32, f2 = (upd v_whom (Int32.toNatClampNeg v_size) p2) → (vp_in v_size 80 ∧ ∀ f3 : Nat → Int32, f3 = (upd v_amount (Int32.toNatClampNeg v_size) p3) → (∀ z4 : Int32, z4 = (v_size + 1) → (post z4 f1 f2 f3)))))
set_option maxHeartbeats 4000000 in
set_option maxRecDepth 100000 in
theorem c_X1_add (l : Launch) (G : va_G) (k : Nat → ClassId) (a : Nat → Nat) (p1 : Int32) (p2 : Int32) (p3 : Int32) (v_size : Int32) (v_act : Nat → Int32) (v_whom : Nat → Int32) (v_amount : Nat → Int32) (post : (Int32) → (Nat → Int32) → (Nat → Int32) → (Nat → Int32) → Prop) (hf : wp_X1_add p1 p2 p3 v_size v_act v_whom v_amount post) : MV (S := (Int32) × (Nat → Int32) × (Nat → Int32) × (Nat → Int32)) l G k yX1_add (Cond.code yX1_add cX1_add 4 none :: wT) 0 0 [.ref (a 0), .int p1, .int p2, .int p3] (sgX1 k a v_size v_act v_whom v_amount) (fun u => (sgX1 k a u.1 u.2.1 u.2.2.1 u.2.2.2)) (fun u => post u.1 u.2.1 u.2.2.1 u.2.2.2) := by
  refine mv_start (cc := cX1_add) (maxL := 4) (ret := none) (by decide) [(0, .ref (a 0)), (1, .int p1), (2, .int p2), (3, .int p3)] rfl (Nat.le_of_ble_eq_true rfl) ?_
  intro p e s m below meth c A ls hx hb hr hlk hml hown hts hK hP hD hA hS hX hl
  have hown : s.vm.findClass RX1 = some m.cls := hown
  unfold wp_X1_add at hf
  have hH0 : s.heap = s.heap := rfl
  refine lv_aload_n hx hb dX1_add_0 rfl (lv_at hl 0 rfl) ?_
  refine va_get (D := G) (ci := 1) (v := .ref (a 1)) (C := RX1) (T := TX1) (N := 4) hx hb hts inX1 hown hK hP 0 rfl rfl 1 (by decide) (hts _ mw257) (fun _ h9 => h9) rfl dX1_add_1 ?_
  refine lv_aload_n hx hb dX1_add_4 rfl (lv_at hl 0 rfl) ?_
  refine va_get (D := G) (ci := 1) (v := .int v_size) (C := RX1) (T := TX1) (N := 4) hx hb hts inX1 hown hK hP 0 rfl rfl 0 (by decide) (hts _ mw254) (fun _ h9 => h9) rfl dX1_add_5 ?_
  refine lv_iload_n hx hb dX1_add_8 rfl (lv_at hl 1 rfl) ?_
  obtain ⟨hin, hf⟩ := hf
  refine va_iast hx hb hK hP hD hS 1 0 rfl rfl hin dX1_add_9 (fun H locs hP hD hS => ?_)
  have hP : va_P G vwCl (sgX1 k a v_size (upd v_act (Int32.toNatClampNeg v_size) p1) v_whom v_amount) H := hP
  have hD : va_D A (sgX1 k a v_size (upd v_act (Int32.toNatClampNeg v_size) p1) v_whom v_amount) := hD
  generalize ef1 : (upd v_act (Int32.toNatClampNeg v_size) p1) = f1 at hP hD
  have hf := hf f1 ef1.symm
  refine lv_aload_n hx hb dX1_add_10 rfl (lv_at hl 0 rfl) ?_
  refine va_get (D := G) (ci := 1) (v := .ref (a 2)) (C := RX1) (T := TX1) (N := 4) hx hb hts inX1 hown hK hP 0 rfl rfl 2 (by decide) (hts _ mw259) (fun _ h9 => h9) rfl dX1_add_11 ?_
  refine lv_aload_n hx hb dX1_add_14 rfl (lv_at hl 0 rfl) ?_
  refine va_get (D := G) (ci := 1) (v := .int v_size) (C := RX1) (T := TX1) (N := 4) hx hb hts inX1 hown hK hP 0 rfl rfl 0 (by decide) (hts _ mw254) (fun _ h9 => h9) rfl dX1_add_15 ?_
  refine lv_iload_n hx hb dX1_add_18 rfl (lv_at hl 2 rfl) ?_
  obtain ⟨hin, hf⟩ := hf
  refine va_iast hx hb hK hP hD hS 2 0 rfl rfl hin dX1_add_19 (fun H locs hP hD hS => ?_)
  have hP : va_P G vwCl (sgX1 k a v_size f1 (upd v_whom (Int32.toNatClampNeg v_size) p2) v_amount) H := hP
  have hD : va_D A (sgX1 k a v_size f1 (upd v_whom (Int32.toNatClampNeg v_size) p2) v_amount) := hD
  generalize ef2 : (upd v_whom (Int32.toNatClampNeg v_size) p2) = f2 at hP hD
  have hf := hf f2 ef2.symm
  refine lv_aload_n hx hb dX1_add_20 rfl (lv_at hl 0 rfl) ?_
  refine va_get (D := G) (ci := 1) (v := .ref (a 3)) (C := RX1) (T := TX1) (N := 4) hx hb hts inX1 hown hK hP 0 rfl rfl 3 (by decide) (hts _ mw261) (fun _ h9 => h9) rfl dX1_add_21 ?_
  refine lv_aload_n hx hb dX1_add_24 rfl (lv_at hl 0 rfl) ?_
  refine va_get (D := G) (ci := 1) (v := .int v_size) (C := RX1) (T := TX1) (N := 4) hx hb hts inX1 hown hK hP 0 rfl rfl 0 (by decide) (hts _ mw254) (fun _ h9 => h9) rfl dX1_add_25 ?_
  refine lv_iload_n hx hb dX1_add_28 rfl (lv_at hl 3 rfl) ?_
  obtain ⟨hin, hf⟩ := hf
  refine va_iast hx hb hK hP hD hS 3 0 rfl rfl hin dX1_add_29 (fun H locs hP hD hS => ?_)
  have hP : va_P G vwCl (sgX1 k a v_size f1 f2 (upd v_amount (Int32.toNatClampNeg v_size) p3)) H := hP
  have hD : va_D A (sgX1 k a v_size f1 f2 (upd v_amount (Int32.toNatClampNeg v_size) p3)) := hD
  generalize ef3 : (upd v_amount (Int32.toNatClampNeg v_size) p3) = f3 at hP hD
  have hf := hf f3 ef3.symm
  refine lv_aload_n hx hb dX1_add_30 rfl (lv_at hl 0 rfl) ?_
  refine lv_dup hx hb dX1_add_31 rfl ?_
  refine va_get (D := G) (ci := 1) (v := .int v_size) (C := RX1) (T := TX1) (N := 4) hx hb hts inX1 hown hK hP 0 rfl rfl 0 (by decide) (hts _ mw254) (fun _ h9 => h9) rfl dX1_add_32 ?_
  refine lv_iconst (v := 1) hx hb dX1_add_35 (by decide) ?_
  refine lv_iadd hx hb dX1_add_36 ?_
  refine lv_topi (fun z4 ez4 => ?_)
  have hf := hf z4 ez4
  refine va_put (D := G) (ci := 1) (v := .int z4) (ty := .int) (C := RX1) (T := TX1) (N := 4) hx hb hts inX1 tyX1 tyX1_ok nmX1 hown hK hP hD hS 0 rfl rfl 0 (by decide) (hts _ mw254) (fun _ h9 => h9) rfl (by decide +kernel) rfl rfl (Nat.le_of_ble_eq_true rfl) dX1_add_37 (fun H locs hP hD hS => ?_)
  have hP : va_P G vwCl (sgX1 k a z4 f1 f2 f3) H := hP
  have hD : va_D A (sgX1 k a z4 f1 f2 f3) := hD
  exact ret_v hx hb hr hlk (z4, f1, f2, f3) hf hP hD hS dX1_add_40
def wp_X3_become (v_known : Int32) (v_act : Nat → Int32) (v_whom : Nat → Int32) (v_was : Nat → Int32) (p1_known : Int32) (p1_act : Nat → Int32) (p1_whom : Nat → Int32) (p1_was : Nat → Int32) (post : (Int32) → (Nat → Int32) → (Nat → Int32) → (Nat → Int32) → Prop) : Prop :=
  (¬ (0 : Int32) < 0 ∧ ¬ (0 : Int32) < 0 ∧ ¬ (p1_known : Int32) < 0 ∧ Int32.toNatClampNeg 0 + Int32.toNatClampNeg p1_known ≤ 10 ∧ Int32.toNatClampNeg 0 + Int32.toNatClampNeg p1_known ≤ 10 ∧ ∀ f1 : Nat → Int32, f1 = (va_cpy p1_act v_act (Int32.toNatClampNeg 0) (Int32.toNatClampNeg 0) (Int32.toNatClampNeg p1_known)) → (¬ (0 : Int32) < 0 ∧ ¬ (0 : Int32) < 0 ∧ ¬ (p1_known : Int32) < 0 ∧ Int32.toNatClampNeg 0 + Int32.toNatClampNeg p1_known ≤ 10 ∧ Int32.toNatClampNeg 0 + Int32.toNatClampNeg p1_known ≤ 10 ∧ ∀ f2 : Nat → Int32, f2 = (va_cpy p1_whom v_whom (Int32.toNatClampNeg 0) (Int32.toNatClampNeg 0) (Int32.toNatClampNeg p1_known)) → (¬ (0 : Int32) < 0 ∧ ¬ (0 : Int32) < 0 ∧ ¬ (p1_known : Int32) < 0 ∧ Int32.toNatClampNeg 0 + Int32.toNatClampNeg p1_known ≤ 10 ∧ Int32.toNatClampNeg 0 + Int32.toNatClampNeg p1_known ≤ 10 ∧ ∀ f3 : Nat → Int32, f3 = (va_cpy p1_was v_was (Int32.toNatClampNeg 0) (Int32.toNatClampNeg 0) (Int32.toNatClampNeg p1_known)) → (post p1_known f1 f2 f3))))
set_option maxHeartbeats 4000000 in
set_option maxRecDepth 100000 in
theorem c_X3_become (l : Launch) (G : va_G) (k : Nat → ClassId) (a : Nat → Nat) (b1 : Nat → Nat) (v_known : Int32) (v_act : Nat → Int32) (v_whom : Nat → Int32) (v_was : Nat → Int32) (p1_known : Int32) (p1_act : Nat → Int32) (p1_whom : Nat → Int32) (p1_was : Nat → Int32) (post : (Int32) → (Nat → Int32) → (Nat → Int32) → (Nat → Int32) → Prop) (hf : wp_X3_become v_known v_act v_whom v_was p1_known p1_act p1_whom p1_was post) : MV (S := (Int32) × (Nat → Int32) × (Nat → Int32) × (Nat → Int32)) l G k yX3_become (Cond.code yX3_become cX3_become 2 none :: wT) 1 18 [.ref (a 0), .ref (b1 0)] (sgX3 k a v_known v_act v_whom v_was ++ sgX3 k b1 p1_known p1_act p1_whom p1_was) (fun u => (sgX3 k a u.1 u.2.1 u.2.2.1 u.2.2.2 ++ sgX3 k b1 p1_known p1_act p1_whom p1_was)) (fun u => post u.1 u.2.1 u.2.2.1 u.2.2.2) := by
  refine mv_start (cc := cX3_become) (maxL := 2) (ret := none) (by decide) [(0, .ref (a 0)), (1, .ref (b1 0))] rfl (Nat.le_of_ble_eq_true rfl) ?_
  intro p e s m below meth c A ls hx hb hr hlk hml hown hts hK hP hD hA hS hX hl
  have hown : s.vm.findClass RX3 = some m.cls := hown
  unfold wp_X3_become at hf
  have hH0 : s.heap = s.heap := rfl
  refine lv_aload_n hx hb dX3_become_0 rfl (lv_at hl 0 rfl) ?_
  refine lv_aload_n hx hb dX3_become_1 rfl (lv_at hl 1 rfl) ?_
  refine va_get (D := G) (ci := 3) (v := .int p1_known) (C := RX3) (T := TX3) (N := 4) hx hb hts inX3 hown hK hP 4 rfl rfl 0 (by decide) (hts _ mw190) (fun _ h9 => h9) rfl dX3_become_2 ?_
  refine va_put (D := G) (ci := 3) (v := .int p1_known) (ty := .int) (C := RX3) (T := TX3) (N := 4) hx hb hts inX3 tyX3 tyX3_ok nmX3 hown hK hP hD hS 0 rfl rfl 0 (by decide) (hts _ mw190) (fun _ h9 => h9) rfl (by decide +kernel) rfl rfl (Nat.le_of_ble_eq_true rfl) dX3_become_5 (fun H locs hP hD hS => ?_)
  have hP : va_P G vwCl (sgX3 k a p1_known v_act v_whom v_was ++ sgX3 k b1 p1_known p1_act p1_whom p1_was) H := hP
  have hD : va_D A (sgX3 k a p1_known v_act v_whom v_was ++ sgX3 k b1 p1_known p1_act p1_whom p1_was) := hD
  refine lv_aload_n hx hb dX3_become_8 rfl (lv_at hl 1 rfl) ?_
  refine va_get (D := G) (ci := 3) (v := .ref (b1 1)) (C := RX3) (T := TX3) (N := 4) hx hb hts inX3 hown hK hP 4 rfl rfl 1 (by decide) (hts _ mw192) (fun _ h9 => h9) rfl dX3_become_9 ?_
  refine lv_iconst (v := 0) hx hb dX3_become_12 (by decide) ?_
  refine lv_aload_n hx hb dX3_become_13 rfl (lv_at hl 0 rfl) ?_
  refine va_get (D := G) (ci := 3) (v := .ref (a 1)) (C := RX3) (T := TX3) (N := 4) hx hb hts inX3 hown hK hP 0 rfl rfl 1 (by decide) (hts _ mw192) (fun _ h9 => h9) rfl dX3_become_14 ?_
  refine lv_iconst (v := 0) hx hb dX3_become_17 (by decide) ?_
  refine lv_aload_n hx hb dX3_become_18 rfl (lv_at hl 0 rfl) ?_
  refine va_get (D := G) (ci := 3) (v := .int p1_known) (C := RX3) (T := TX3) (N := 4) hx hb hts inX3 hown hK hP 0 rfl rfl 0 (by decide) (hts _ mw190) (fun _ h9 => h9) rfl dX3_become_19 ?_
  obtain ⟨h1, h2, h3, h4, h5, hf⟩ := hf
  refine va_copyi (ty := .int) hx hb (hml.trans hl.1.symm) hown (hts _ mw604) (hts _ mw411) (hts _ mw410) (hts _ mw78) hK hP hD hS 5 1 0 0 rfl rfl rfl rfl rfl h1 h2 h3 h4 h5 (fun _ _ => rfl) (Nat.le_of_ble_eq_true rfl) (Nat.le_of_ble_eq_true rfl) dX3_become_22 (fun H locs hP hD hS => ?_)
  have hP : va_P G vwCl (sgX3 k a p1_known (va_cpy p1_act v_act (Int32.toNatClampNeg 0) (Int32.toNatClampNeg 0) (Int32.toNatClampNeg p1_known)) v_whom v_was ++ sgX3 k b1 p1_known p1_act p1_whom p1_was) H := hP
  have hD : va_D A (sgX3 k a p1_known (va_cpy p1_act v_act (Int32.toNatClampNeg 0) (Int32.toNatClampNeg 0) (Int32.toNatClampNeg p1_known)) v_whom v_was ++ sgX3 k b1 p1_known p1_act p1_whom p1_was) := hD
  generalize ef1 : (va_cpy p1_act v_act (Int32.toNatClampNeg 0) (Int32.toNatClampNeg 0) (Int32.toNatClampNeg p1_known)) = f1 at hP hD
  have hf := hf f1 ef1.symm
  refine lv_aload_n hx hb dX3_become_25 rfl (lv_at hl 1 rfl) ?_
  refine va_get (D := G) (ci := 3) (v := .ref (b1 2)) (C := RX3) (T := TX3) (N := 4) hx hb hts inX3 hown hK hP 4 rfl rfl 2 (by decide) (hts _ mw193) (fun _ h9 => h9) rfl dX3_become_26 ?_
  refine lv_iconst (v := 0) hx hb dX3_become_29 (by decide) ?_
  refine lv_aload_n hx hb dX3_become_30 rfl (lv_at hl 0 rfl) ?_
  refine va_get (D := G) (ci := 3) (v := .ref (a 2)) (C := RX3) (T := TX3) (N := 4) hx hb hts inX3 hown hK hP 0 rfl rfl 2 (by decide) (hts _ mw193) (fun _ h9 => h9) rfl dX3_become_31 ?_
  refine lv_iconst (v := 0) hx hb dX3_become_34 (by decide) ?_
  refine lv_aload_n hx hb dX3_become_35 rfl (lv_at hl 0 rfl) ?_
  refine va_get (D := G) (ci := 3) (v := .int p1_known) (C := RX3) (T := TX3) (N := 4) hx hb hts inX3 hown hK hP 0 rfl rfl 0 (by decide) (hts _ mw190) (fun _ h9 => h9) rfl dX3_become_36 ?_
  obtain ⟨h1, h2, h3, h4, h5, hf⟩ := hf
  refine va_copyi (ty := .int) hx hb (hml.trans hl.1.symm) hown (hts _ mw604) (hts _ mw411) (hts _ mw410) (hts _ mw78) hK hP hD hS 6 2 0 0 rfl rfl rfl rfl rfl h1 h2 h3 h4 h5 (fun _ _ => rfl) (Nat.le_of_ble_eq_true rfl) (Nat.le_of_ble_eq_true rfl) dX3_become_39 (fun H locs hP hD hS => ?_)
  have hP : va_P G vwCl (sgX3 k a p1_known f1 (va_cpy p1_whom v_whom (Int32.toNatClampNeg 0) (Int32.toNatClampNeg 0) (Int32.toNatClampNeg p1_known)) v_was ++ sgX3 k b1 p1_known p1_act p1_whom p1_was) H := hP
  have hD : va_D A (sgX3 k a p1_known f1 (va_cpy p1_whom v_whom (Int32.toNatClampNeg 0) (Int32.toNatClampNeg 0) (Int32.toNatClampNeg p1_known)) v_was ++ sgX3 k b1 p1_known p1_act p1_whom p1_was) := hD
  generalize ef2 : (va_cpy p1_whom v_whom (Int32.toNatClampNeg 0) (Int32.toNatClampNeg 0) (Int32.toNatClampNeg p1_known)) = f2 at hP hD
  have hf := hf f2 ef2.symm
  refine lv_aload_n hx hb dX3_become_42 rfl (lv_at hl 1 rfl) ?_
  refine va_get (D := G) (ci := 3) (v := .ref (b1 3)) (C := RX3) (T := TX3) (N := 4) hx hb hts inX3 hown hK hP 4 rfl rfl 3 (by decide) (hts _ mw194) (fun _ h9 => h9) rfl dX3_become_43 ?_
  refine lv_iconst (v := 0) hx hb dX3_become_46 (by decide) ?_
  refine lv_aload_n hx hb dX3_become_47 rfl (lv_at hl 0 rfl) ?_
  refine va_get (D := G) (ci := 3) (v := .ref (a 3)) (C := RX3) (T := TX3) (N := 4) hx hb hts inX3 hown hK hP 0 rfl rfl 3 (by decide) (hts _ mw194) (fun _ h9 => h9) rfl dX3_become_48 ?_
  refine lv_iconst (v := 0) hx hb dX3_become_51 (by decide) ?_
  refine lv_aload_n hx hb dX3_become_52 rfl (lv_at hl 0 rfl) ?_
  refine va_get (D := G) (ci := 3) (v := .int p1_known) (C := RX3) (T := TX3) (N := 4) hx hb hts inX3 hown hK hP 0 rfl rfl 0 (by decide) (hts _ mw190) (fun _ h9 => h9) rfl dX3_become_53 ?_
  obtain ⟨h1, h2, h3, h4, h5, hf⟩ := hf
  refine va_copyi (ty := .int) hx hb (hml.trans hl.1.symm) hown (hts _ mw604) (hts _ mw411) (hts _ mw410) (hts _ mw78) hK hP hD hS 7 3 0 0 rfl rfl rfl rfl rfl h1 h2 h3 h4 h5 (fun _ _ => rfl) (Nat.le_of_ble_eq_true rfl) (Nat.le_of_ble_eq_true rfl) dX3_become_56 (fun H locs hP hD hS => ?_)
  have hP : va_P G vwCl (sgX3 k a p1_known f1 f2 (va_cpy p1_was v_was (Int32.toNatClampNeg 0) (Int32.toNatClampNeg 0) (Int32.toNatClampNeg p1_known)) ++ sgX3 k b1 p1_known p1_act p1_whom p1_was) H := hP
  have hD : va_D A (sgX3 k a p1_known f1 f2 (va_cpy p1_was v_was (Int32.toNatClampNeg 0) (Int32.toNatClampNeg 0) (Int32.toNatClampNeg p1_known)) ++ sgX3 k b1 p1_known p1_act p1_whom p1_was) := hD
  generalize ef3 : (va_cpy p1_was v_was (Int32.toNatClampNeg 0) (Int32.toNatClampNeg 0) (Int32.toNatClampNeg p1_known)) = f3 at hP hD
  have hf := hf f3 ef3.symm
  exact ret_v hx hb hr hlk (p1_known, f1, f2, f3) hf hP hD hS dX3_become_59
def wp_X3_forgetOldest (v_known : Int32) (v_act : Nat → Int32) (v_whom : Nat → Int32) (v_was : Nat → Int32) (post : (Int32) → (Nat → Int32) → (Nat → Int32) → (Nat → Int32) → Prop) : Prop :=
  (∀ z1 : Int32, z1 = (v_known - 1) → (¬ (1 : Int32) < 0 ∧ ¬ (0 : Int32) < 0 ∧ ¬ (z1 : Int32) < 0 ∧ Int32.toNatClampNeg 1 + Int32.toNatClampNeg z1 ≤ 10 ∧ Int32.toNatClampNeg 0 + Int32.toNatClampNeg z1 ≤ 10 ∧ ∀ f2 : Nat → Int32, f2 = (va_cpy v_act v_act (Int32.toNatClampNeg 1) (Int32.toNatClampNeg 0) (Int32.toNatClampNeg z1)) → (¬ (1 : Int32) < 0 ∧ ¬ (0 : Int32) < 0 ∧ ¬ (z1 : Int32) < 0 ∧ Int32.toNatClampNeg 1 + Int32.toNatClampNeg z1 ≤ 10 ∧ Int32.toNatClampNeg 0 + Int32.toNatClampNeg z1 ≤ 10 ∧ ∀ f3 : Nat → Int32, f3 = (va_cpy v_whom v_whom (Int32.toNatClampNeg 1) (Int32.toNatClampNeg 0) (Int32.toNatClampNeg z1)) → (¬ (1 : Int32) < 0 ∧ ¬ (0 : Int32) < 0 ∧ ¬ (z1 : Int32) < 0 ∧ Int32.toNatClampNeg 1 + Int32.toNatClampNeg z1 ≤ 10 ∧ Int32.toNatClampNeg 0 + Int32.toNatClampNeg z1 ≤ 10 ∧ ∀ f4 : Nat → Int32, f4 = (va_cpy v_was v_was (Int32.toNatClampNeg 1) (Int32.toNatClampNeg 0) (Int32.toNatClampNeg z1)) → (post z1 f2 f3 f4)))))
set_option maxHeartbeats 4000000 in
set_option maxRecDepth 100000 in
theorem c_X3_forgetOldest (l : Launch) (G : va_G) (k : Nat → ClassId) (a : Nat → Nat) (v_known : Int32) (v_act : Nat → Int32) (v_whom : Nat → Int32) (v_was : Nat → Int32) (post : (Int32) → (Nat → Int32) → (Nat → Int32) → (Nat → Int32) → Prop) (hf : wp_X3_forgetOldest v_known v_act v_whom v_was post) : MV (S := (Int32) × (Nat → Int32) × (Nat → Int32) × (Nat → Int32)) l G k yX3_forgetOldest (Cond.code yX3_forgetOldest cX3_forgetOldest 1 none :: wT) 1 18 [.ref (a 0)] (sgX3 k a v_known v_act v_whom v_was) (fun u => (sgX3 k a u.1 u.2.1 u.2.2.1 u.2.2.2)) (fun u => post u.1 u.2.1 u.2.2.1 u.2.2.2) := by
  refine mv_start (cc := cX3_forgetOldest) (maxL := 1) (ret := none) (by decide) [(0, .ref (a 0))] rfl (Nat.le_of_ble_eq_true rfl) ?_
  intro p e s m below meth c A ls hx hb hr hlk hml hown hts hK hP hD hA hS hX hl
  have hown : s.vm.findClass RX3 = some m.cls := hown
  unfold wp_X3_forgetOldest at hf
  have hH0 : s.heap = s.heap := rfl
  refine lv_aload_n hx hb dX3_forgetOldest_0 rfl (lv_at hl 0 rfl) ?_
  refine lv_dup hx hb dX3_forgetOldest_1 rfl ?_
  refine va_get (D := G) (ci := 3) (v := .int v_known) (C := RX3) (T := TX3) (N := 4) hx hb hts inX3 hown hK hP 0 rfl rfl 0 (by decide) (hts _ mw190) (fun _ h9 => h9) rfl dX3_forgetOldest_2 ?_
  refine lv_iconst (v := 1) hx hb dX3_forgetOldest_5 (by decide) ?_
  refine lv_isub hx hb dX3_forgetOldest_6 ?_
  refine lv_topi (fun z1 ez1 => ?_)
  have hf := hf z1 ez1
  refine va_put (D := G) (ci := 3) (v := .int z1) (ty := .int) (C := RX3) (T := TX3) (N := 4) hx hb hts inX3 tyX3 tyX3_ok nmX3 hown hK hP hD hS 0 rfl rfl 0 (by decide) (hts _ mw190) (fun _ h9 => h9) rfl (by decide +kernel) rfl rfl (Nat.le_of_ble_eq_true rfl) dX3_forgetOldest_7 (fun H locs hP hD hS => ?_)
  have hP : va_P G vwCl (sgX3 k a z1 v_act v_whom v_was) H := hP
  have hD : va_D A (sgX3 k a z1 v_act v_whom v_was) := hD
  refine lv_aload_n hx hb dX3_forgetOldest_10 rfl (lv_at hl 0 rfl) ?_
  refine va_get (D := G) (ci := 3) (v := .ref (a 1)) (C := RX3) (T := TX3) (N := 4) hx hb hts inX3 hown hK hP 0 rfl rfl 1 (by decide) (hts _ mw192) (fun _ h9 => h9) rfl dX3_forgetOldest_11 ?_
  refine lv_iconst (v := 1) hx hb dX3_forgetOldest_14 (by decide) ?_
  refine lv_aload_n hx hb dX3_forgetOldest_15 rfl (lv_at hl 0 rfl) ?_
  refine va_get (D := G) (ci := 3) (v := .ref (a 1)) (C := RX3) (T := TX3) (N := 4) hx hb hts inX3 hown hK hP 0 rfl rfl 1 (by decide) (hts _ mw192) (fun _ h9 => h9) rfl dX3_forgetOldest_16 ?_
  refine lv_iconst (v := 0) hx hb dX3_forgetOldest_19 (by decide) ?_
  refine lv_aload_n hx hb dX3_forgetOldest_20 rfl (lv_at hl 0 rfl) ?_
  refine va_get (D := G) (ci := 3) (v := .int z1) (C := RX3) (T := TX3) (N := 4) hx hb hts inX3 hown hK hP 0 rfl rfl 0 (by decide) (hts _ mw190) (fun _ h9 => h9) rfl dX3_forgetOldest_21 ?_
  obtain ⟨h1, h2, h3, h4, h5, hf⟩ := hf
  refine va_copyi (ty := .int) hx hb (hml.trans hl.1.symm) hown (hts _ mw604) (hts _ mw411) (hts _ mw410) (hts _ mw78) hK hP hD hS 1 1 0 0 rfl rfl rfl rfl rfl h1 h2 h3 h4 h5 (fun _ _ => rfl) (Nat.le_of_ble_eq_true rfl) (Nat.le_of_ble_eq_true rfl) dX3_forgetOldest_24 (fun H locs hP hD hS => ?_)
  have hP : va_P G vwCl (sgX3 k a z1 (va_cpy v_act v_act (Int32.toNatClampNeg 1) (Int32.toNatClampNeg 0) (Int32.toNatClampNeg z1)) v_whom v_was) H := hP
  have hD : va_D A (sgX3 k a z1 (va_cpy v_act v_act (Int32.toNatClampNeg 1) (Int32.toNatClampNeg 0) (Int32.toNatClampNeg z1)) v_whom v_was) := hD
  generalize ef2 : (va_cpy v_act v_act (Int32.toNatClampNeg 1) (Int32.toNatClampNeg 0) (Int32.toNatClampNeg z1)) = f2 at hP hD
  have hf := hf f2 ef2.symm
  refine lv_aload_n hx hb dX3_forgetOldest_27 rfl (lv_at hl 0 rfl) ?_
  refine va_get (D := G) (ci := 3) (v := .ref (a 2)) (C := RX3) (T := TX3) (N := 4) hx hb hts inX3 hown hK hP 0 rfl rfl 2 (by decide) (hts _ mw193) (fun _ h9 => h9) rfl dX3_forgetOldest_28 ?_
  refine lv_iconst (v := 1) hx hb dX3_forgetOldest_31 (by decide) ?_
  refine lv_aload_n hx hb dX3_forgetOldest_32 rfl (lv_at hl 0 rfl) ?_
  refine va_get (D := G) (ci := 3) (v := .ref (a 2)) (C := RX3) (T := TX3) (N := 4) hx hb hts inX3 hown hK hP 0 rfl rfl 2 (by decide) (hts _ mw193) (fun _ h9 => h9) rfl dX3_forgetOldest_33 ?_
  refine lv_iconst (v := 0) hx hb dX3_forgetOldest_36 (by decide) ?_
  refine lv_aload_n hx hb dX3_forgetOldest_37 rfl (lv_at hl 0 rfl) ?_
  refine va_get (D := G) (ci := 3) (v := .int z1) (C := RX3) (T := TX3) (N := 4) hx hb hts inX3 hown hK hP 0 rfl rfl 0 (by decide) (hts _ mw190) (fun _ h9 => h9) rfl dX3_forgetOldest_38 ?_
  obtain ⟨h1, h2, h3, h4, h5, hf⟩ := hf
  refine va_copyi (ty := .int) hx hb (hml.trans hl.1.symm) hown (hts _ mw604) (hts _ mw411) (hts _ mw410) (hts _ mw78) hK hP hD hS 2 2 0 0 rfl rfl rfl rfl rfl h1 h2 h3 h4 h5 (fun _ _ => rfl) (Nat.le_of_ble_eq_true rfl) (Nat.le_of_ble_eq_true rfl) dX3_forgetOldest_41 (fun H locs hP hD hS => ?_)
  have hP : va_P G vwCl (sgX3 k a z1 f2 (va_cpy v_whom v_whom (Int32.toNatClampNeg 1) (Int32.toNatClampNeg 0) (Int32.toNatClampNeg z1)) v_was) H := hP
  have hD : va_D A (sgX3 k a z1 f2 (va_cpy v_whom v_whom (Int32.toNatClampNeg 1) (Int32.toNatClampNeg 0) (Int32.toNatClampNeg z1)) v_was) := hD
  generalize ef3 : (va_cpy v_whom v_whom (Int32.toNatClampNeg 1) (Int32.toNatClampNeg 0) (Int32.toNatClampNeg z1)) = f3 at hP hD
  have hf := hf f3 ef3.symm
  refine lv_aload_n hx hb dX3_forgetOldest_44 rfl (lv_at hl 0 rfl) ?_
  refine va_get (D := G) (ci := 3) (v := .ref (a 3)) (C := RX3) (T := TX3) (N := 4) hx hb hts inX3 hown hK hP 0 rfl rfl 3 (by decide) (hts _ mw194) (fun _ h9 => h9) rfl dX3_forgetOldest_45 ?_
  refine lv_iconst (v := 1) hx hb dX3_forgetOldest_48 (by decide) ?_
  refine lv_aload_n hx hb dX3_forgetOldest_49 rfl (lv_at hl 0 rfl) ?_
  refine va_get (D := G) (ci := 3) (v := .ref (a 3)) (C := RX3) (T := TX3) (N := 4) hx hb hts inX3 hown hK hP 0 rfl rfl 3 (by decide) (hts _ mw194) (fun _ h9 => h9) rfl dX3_forgetOldest_50 ?_
  refine lv_iconst (v := 0) hx hb dX3_forgetOldest_53 (by decide) ?_
  refine lv_aload_n hx hb dX3_forgetOldest_54 rfl (lv_at hl 0 rfl) ?_
  refine va_get (D := G) (ci := 3) (v := .int z1) (C := RX3) (T := TX3) (N := 4) hx hb hts inX3 hown hK hP 0 rfl rfl 0 (by decide) (hts _ mw190) (fun _ h9 => h9) rfl dX3_forgetOldest_55 ?_
  obtain ⟨h1, h2, h3, h4, h5, hf⟩ := hf
  refine va_copyi (ty := .int) hx hb (hml.trans hl.1.symm) hown (hts _ mw604) (hts _ mw411) (hts _ mw410) (hts _ mw78) hK hP hD hS 3 3 0 0 rfl rfl rfl rfl rfl h1 h2 h3 h4 h5 (fun _ _ => rfl) (Nat.le_of_ble_eq_true rfl) (Nat.le_of_ble_eq_true rfl) dX3_forgetOldest_58 (fun H locs hP hD hS => ?_)
  have hP : va_P G vwCl (sgX3 k a z1 f2 f3 (va_cpy v_was v_was (Int32.toNatClampNeg 1) (Int32.toNatClampNeg 0) (Int32.toNatClampNeg z1))) H := hP
  have hD : va_D A (sgX3 k a z1 f2 f3 (va_cpy v_was v_was (Int32.toNatClampNeg 1) (Int32.toNatClampNeg 0) (Int32.toNatClampNeg z1))) := hD
  generalize ef4 : (va_cpy v_was v_was (Int32.toNatClampNeg 1) (Int32.toNatClampNeg 0) (Int32.toNatClampNeg z1)) = f4 at hP hD
  have hf := hf f4 ef4.symm
  exact ret_v hx hb hr hlk (z1, f2, f3, f4) hf hP hD hS dX3_forgetOldest_61
def wp_X3_note (p1 : Int32) (p2 : Int32) (p3 : Int32) (v_known : Int32) (v_act : Nat → Int32) (v_whom : Nat → Int32) (v_was : Nat → Int32) (post : (Int32) → (Nat → Int32) → (Nat → Int32) → (Nat → Int32) → Prop) : Prop :=
  (∃ J1 : (Int32) → (Nat → Int32) → (Nat → Int32) → (Nat → Int32) → Prop, (∀ (v_known_1 : Int32) (v_act_1 : Nat → Int32) (v_whom_1 : Nat → Int32) (v_was_1 : Nat → Int32), J1 v_known_1 v_act_1 v_whom_1 v_was_1 →
 (vp_in v_known_1 10 ∧ ∀ f2 : Nat → Int32, f2 = (upd v_act_1 (Int32.toNatClampNeg v_known_1) p1) → (vp_in v_known_1 10 ∧ ∀ f3 : Nat → Int32, f3 = (upd v_whom_1 (Int32.toNatClampNeg v_known_1) p2) → (vp_in v_known_1 10 ∧ ∀ f4 : Nat → Int32, f4 = (upd v_was_1 (Int32.toNatClampNeg v_known_1) p3) → (∀ z5 : Int32, z5 = (v_known_1 + 1) → (post z5 f2 f3 f4)))))) ∧
 ((¬ v_known = 10 → (J1 v_known v_act v_whom v_was)) ∧
 (v_known = 10 → (wp_X3_forgetOldest v_known v_act v_whom v_was (fun (v_known_8 : Int32) (v_act_9 : Nat → Int32) (v_whom_10 : Nat → Int32) (v_was_11 : Nat → Int32) =>
 (J1 v_known_8 v_act_9 v_whom_10 v_was_11))))))
set_option maxHeartbeats 4000000 in
set_option maxRecDepth 100000 in
theorem c_X3_note (l : Launch) (G : va_G) (k : Nat → ClassId) (a : Nat → Nat) (p1 : Int32) (p2 : Int32) (p3 : Int32) (v_known : Int32) (v_act : Nat → Int32) (v_whom : Nat → Int32) (v_was : Nat → Int32) (post : (Int32) → (Nat → Int32) → (Nat → Int32) → (Nat → Int32) → Prop) (hf : wp_X3_note p1 p2 p3 v_known v_act v_whom v_was post) : MV (S := (Int32) × (Nat → Int32) × (Nat → Int32) × (Nat → Int32)) l G k yX3_note (Cond.code yX3_note cX3_note 4 none :: wT) 2 38 [.ref (a 0), .int p1, .int p2, .int p3] (sgX3 k a v_known v_act v_whom v_was) (fun u => (sgX3 k a u.1 u.2.1 u.2.2.1 u.2.2.2)) (fun u => post u.1 u.2.1 u.2.2.1 u.2.2.2) := by
  refine mv_start (cc := cX3_note) (maxL := 4) (ret := none) (by decide) [(0, .ref (a 0)), (1, .int p1), (2, .int p2), (3, .int p3)] rfl (Nat.le_of_ble_eq_true rfl) ?_
  intro p e s m below meth c A ls hx hb hr hlk hml hown hts hK hP hD hA hS hX hl
  have hown : s.vm.findClass RX3 = some m.cls := hown
  unfold wp_X3_note at hf
  have hH0 : s.heap = s.heap := rfl
  refine lv_aload_n hx hb dX3_note_0 rfl (lv_at hl 0 rfl) ?_
  refine va_get (D := G) (ci := 3) (v := .int v_known) (C := RX3) (T := TX3) (N := 4) hx hb hts inX3 hown hK hP 0 rfl rfl 0 (by decide) (hts _ mw190) (fun _ h9 => h9) rfl dX3_note_1 ?_
  refine lv_bipush (v := 10) hx hb dX3_note_4 (by decide) ?_
  obtain ⟨J1, hj1, hf⟩ := hf
  refine w_join (G := G) (A := A) (H0 := s.heap) (nL := 4) (jpc := 13) (σ := (Int32) × (Nat → Int32) × (Nat → Int32) × (Nat → Int32)) (J := fun v => J1 v.1 v.2.1 v.2.2.1 v.2.2.2) (wl := fun v => (sgX3 k a v.1 v.2.1 v.2.2.1 v.2.2.2)) (lv := fun v => [(0, .ref (a 0)), (1, .int p1), (2, .int p2), (3, .int p3)]) (st := fun v => []) (fun v hj H locs ls hP hD hS hl => ?_) (fun jn1 => ?_)
  · skip
    obtain ⟨v_known_1, v_act_1, v_whom_1, v_was_1⟩ := v
    have hf := hj1 v_known_1 v_act_1 v_whom_1 v_was_1 hj
    have hP : va_P G vwCl (sgX3 k a v_known_1 v_act_1 v_whom_1 v_was_1) H := hP
    have hD : va_D A (sgX3 k a v_known_1 v_act_1 v_whom_1 v_was_1) := hD
    have hl : lv_has ls 4 [(0, .ref (a 0)), (1, .int p1), (2, .int p2), (3, .int p3)] := hl
    refine lv_aload_n hx hb dX3_note_13 rfl (lv_at hl 0 rfl) ?_
    refine va_get (D := G) (ci := 3) (v := .ref (a 1)) (C := RX3) (T := TX3) (N := 4) hx hb hts inX3 hown hK hP 0 rfl rfl 1 (by decide) (hts _ mw192) (fun _ h9 => h9) rfl dX3_note_14 ?_
    refine lv_aload_n hx hb dX3_note_17 rfl (lv_at hl 0 rfl) ?_
    refine va_get (D := G) (ci := 3) (v := .int v_known_1) (C := RX3) (T := TX3) (N := 4) hx hb hts inX3 hown hK hP 0 rfl rfl 0 (by decide) (hts _ mw190) (fun _ h9 => h9) rfl dX3_note_18 ?_
    refine lv_iload_n hx hb dX3_note_21 rfl (lv_at hl 1 rfl) ?_
    obtain ⟨hin, hf⟩ := hf
    refine va_iast hx hb hK hP hD hS 1 0 rfl rfl hin dX3_note_22 (fun H locs hP hD hS => ?_)
    have hP : va_P G vwCl (sgX3 k a v_known_1 (upd v_act_1 (Int32.toNatClampNeg v_known_1) p1) v_whom_1 v_was_1) H := hP
    have hD : va_D A (sgX3 k a v_known_1 (upd v_act_1 (Int32.toNatClampNeg v_known_1) p1) v_whom_1 v_was_1) := hD
    generalize ef2 : (upd v_act_1 (Int32.toNatClampNeg v_known_1) p1) = f2 at hP hD
    have hf := hf f2 ef2.symm
    refine lv_aload_n hx hb dX3_note_23 rfl (lv_at hl 0 rfl) ?_
    refine va_get (D := G) (ci := 3) (v := .ref (a 2)) (C := RX3) (T := TX3) (N := 4) hx hb hts inX3 hown hK hP 0 rfl rfl 2 (by decide) (hts _ mw193) (fun _ h9 => h9) rfl dX3_note_24 ?_
    refine lv_aload_n hx hb dX3_note_27 rfl (lv_at hl 0 rfl) ?_
    refine va_get (D := G) (ci := 3) (v := .int v_known_1) (C := RX3) (T := TX3) (N := 4) hx hb hts inX3 hown hK hP 0 rfl rfl 0 (by decide) (hts _ mw190) (fun _ h9 => h9) rfl dX3_note_28 ?_
    refine lv_iload_n hx hb dX3_note_31 rfl (lv_at hl 2 rfl) ?_
    obtain ⟨hin, hf⟩ := hf
    refine va_iast hx hb hK hP hD hS 2 0 rfl rfl hin dX3_note_32 (fun H locs hP hD hS => ?_)
    have hP : va_P G vwCl (sgX3 k a v_known_1 f2 (upd v_whom_1 (Int32.toNatClampNeg v_known_1) p2) v_was_1) H := hP
    have hD : va_D A (sgX3 k a v_known_1 f2 (upd v_whom_1 (Int32.toNatClampNeg v_known_1) p2) v_was_1) := hD
    generalize ef3 : (upd v_whom_1 (Int32.toNatClampNeg v_known_1) p2) = f3 at hP hD
    have hf := hf f3 ef3.symm
    refine lv_aload_n hx hb dX3_note_33 rfl (lv_at hl 0 rfl) ?_
    refine va_get (D := G) (ci := 3) (v := .ref (a 3)) (C := RX3) (T := TX3) (N := 4) hx hb hts inX3 hown hK hP 0 rfl rfl 3 (by decide) (hts _ mw194) (fun _ h9 => h9) rfl dX3_note_34 ?_
    refine lv_aload_n hx hb dX3_note_37 rfl (lv_at hl 0 rfl) ?_
    refine va_get (D := G) (ci := 3) (v := .int v_known_1) (C := RX3) (T := TX3) (N := 4) hx hb hts inX3 hown hK hP 0 rfl rfl 0 (by decide) (hts _ mw190) (fun _ h9 => h9) rfl dX3_note_38 ?_
    refine lv_iload_n hx hb dX3_note_41 rfl (lv_at hl 3 rfl) ?_
    obtain ⟨hin, hf⟩ := hf
    refine va_iast hx hb hK hP hD hS 3 0 rfl rfl hin dX3_note_42 (fun H locs hP hD hS => ?_)
    have hP : va_P G vwCl (sgX3 k a v_known_1 f2 f3 (upd v_was_1 (Int32.toNatClampNeg v_known_1) p3)) H := hP
    have hD : va_D A (sgX3 k a v_known_1 f2 f3 (upd v_was_1 (Int32.toNatClampNeg v_known_1) p3)) := hD
    generalize ef4 : (upd v_was_1 (Int32.toNatClampNeg v_known_1) p3) = f4 at hP hD
    have hf := hf f4 ef4.symm
    refine lv_aload_n hx hb dX3_note_43 rfl (lv_at hl 0 rfl) ?_
    refine lv_dup hx hb dX3_note_44 rfl ?_
    refine va_get (D := G) (ci := 3) (v := .int v_known_1) (C := RX3) (T := TX3) (N := 4) hx hb hts inX3 hown hK hP 0 rfl rfl 0 (by decide) (hts _ mw190) (fun _ h9 => h9) rfl dX3_note_45 ?_
    refine lv_iconst (v := 1) hx hb dX3_note_48 (by decide) ?_
    refine lv_iadd hx hb dX3_note_49 ?_
    refine lv_topi (fun z5 ez5 => ?_)
    have hf := hf z5 ez5
    refine va_put (D := G) (ci := 3) (v := .int z5) (ty := .int) (C := RX3) (T := TX3) (N := 4) hx hb hts inX3 tyX3 tyX3_ok nmX3 hown hK hP hD hS 0 rfl rfl 0 (by decide) (hts _ mw190) (fun _ h9 => h9) rfl (by decide +kernel) rfl rfl (Nat.le_of_ble_eq_true rfl) dX3_note_50 (fun H locs hP hD hS => ?_)
    have hP : va_P G vwCl (sgX3 k a z5 f2 f3 f4) H := hP
    have hD : va_D A (sgX3 k a z5 f2 f3 f4) := hD
    exact ret_v hx hb hr hlk (z5, f2, f3, f4) hf hP hD hS dX3_note_53
  refine lv_icmp_ne (tgt := 13) hx hb dX3_note_6 (by decide) (fun c6 => ?_) (fun c6 => ?_)
  · have hf := hf.1 c6
    exact jn1 (v_known, v_act, v_whom, v_was) hf _ _ _ hP hD hS (lv_sub hl [0, 1, 2, 3] rfl)
  have hf := hf.2 c6
  refine lv_aload_n hx hb dX3_note_9 rfl (lv_at hl 0 rfl) ?_
  refine cvv (As := []) (rest := []) (wr := []) (wn := (fun u => (sgX3 k a u.1 u.2.1 u.2.2.1 u.2.2.2))) ⟨hx, hb, hml, hown, hts⟩ (c_X3_forgetOldest l G k a v_known v_act v_whom v_was _ hf) (cwT 0 hts mw600 mw602 mw14 mw73 mw603 rfl hd_X3_forgetOldest ⟨Nat.le_of_ble_eq_true rfl, Nat.le_of_ble_eq_true rfl⟩) hK hP hD hS hX hA [0, 1, 2, 3] [] [0, 1, 2, 3] rfl rfl (by decide) (by decide) (by decide) (fun u => rfl) (by decide) rfl rfl rfl rfl hl.1 rfl (Nat.le_of_ble_eq_true rfl) dX3_note_10 (Nat.zero_le _) (Nat.zero_le _) (fun u H locs hf hP hD hS => ?_)
  obtain ⟨v_known_8, v_act_9, v_whom_10, v_was_11⟩ := u
  have hP : va_P G vwCl (sgX3 k a v_known_8 v_act_9 v_whom_10 v_was_11) H := hP
  have hD : va_D A (sgX3 k a v_known_8 v_act_9 v_whom_10 v_was_11) := hD
  exact jn1 (v_known_8, v_act_9, v_whom_10, v_was_11) hf _ _ _ hP hD hS (lv_sub hl [0, 1, 2, 3] rfl)
def wp_X3_takeBack (v_known : Int32) (v_act : Nat → Int32) (v_whom : Nat → Int32) (v_was : Nat → Int32) (p1_dials : Nat → Int32) (p1_hands : Nat → Int32) (p1_rate : Nat → Int32) (p1_spring : Nat → Int32) (post : (Int32) → (Nat → Int32) → (Nat → Int32) → (Nat → Int32) → (Nat → Int32) → Prop) : Prop :=
  (∀ z1 : Int32, z1 = (v_known - 1) → (vp_in z1 10 ∧ (∀ z2 : Int32, z2 = (v_whom (Int32.toNatClampNeg z1)) → (vp_in z1 10 ∧ (((v_act (Int32.toNatClampNeg z1)) = 0 → (vp_in z1 10 ∧ (∀ z4 : Int32, z4 = (v_was (Int32.toNatClampNeg z1)) → (vp_in z2 9 ∧ ∀ f5 : Nat → Int32, f5 = (upd p1_spring (Int32.toNatClampNeg z2) z4) → (post z1 p1_dials p1_hands p1_rate f5))))) ∧
 (¬ (v_act (Int32.toNatClampNeg z1)) = 0 → (((v_act (Int32.toNatClampNeg z1)) = 1 → (vp_in z1 10 ∧ (∀ z7 : Int32, z7 = (v_was (Int32.toNatClampNeg z1)) → (vp_in z2 9 ∧ ∀ f8 : Nat → Int32, f8 = (upd p1_hands (Int32.toNatClampNeg z2) z7) → (post z1 p1_dials f8 p1_rate p1_spring))))) ∧
 (¬ (v_act (Int32.toNatClampNeg z1)) = 1 → (((v_act (Int32.toNatClampNeg z1)) = 2 → (vp_in z1 10 ∧ (∀ z10 : Int32, z10 = (v_was (Int32.toNatClampNeg z1)) → (vp_in z2 9 ∧ ∀ f11 : Nat → Int32, f11 = (upd p1_rate (Int32.toNatClampNeg z2) z10) → (post z1 p1_dials p1_hands f11 p1_spring))))) ∧
 (¬ (v_act (Int32.toNatClampNeg z1)) = 2 → (vp_in z1 10 ∧ (∀ z12 : Int32, z12 = (v_was (Int32.toNatClampNeg z1)) → (vp_in z2 24 ∧ ∀ f13 : Nat → Int32, f13 = (upd p1_dials (Int32.toNatClampNeg z2) z12) → (post z1 f13 p1_hands p1_rate p1_spring))))))))))))))
set_option maxHeartbeats 4000000 in
set_option maxRecDepth 100000 in
theorem c_X3_takeBack (l : Launch) (G : va_G) (k : Nat → ClassId) (a : Nat → Nat) (b1 : Nat → Nat) (v_known : Int32) (v_act : Nat → Int32) (v_whom : Nat → Int32) (v_was : Nat → Int32) (p1_windows : Int32) (p1_dials : Nat → Int32) (p1_clocks : Int32) (p1_kind : Nat → Int32) (p1_hands : Nat → Int32) (p1_rate : Nat → Int32) (p1_spring : Nat → Int32) (p1_window : Nat → Int32) (p1_finish : Nat → Int32) (p1_skies : Int32) (p1_sky : Nat → Int32) (p1_hour : Int32) (p1_heard : Int32) (p1_strokes : Int32) (post : (Int32) → (Nat → Int32) → (Nat → Int32) → (Nat → Int32) → (Nat → Int32) → Prop) (hf : wp_X3_takeBack v_known v_act v_whom v_was p1_dials p1_hands p1_rate p1_spring post) : MV (S := (Int32) × (Nat → Int32) × (Nat → Int32) × (Nat → Int32) × (Nat → Int32)) l G k yX3_takeBack (Cond.code yX3_takeBack cX3_takeBack 3 none :: wT) 0 0 [.ref (a 0), .ref (b1 0)] (sgX3 k a v_known v_act v_whom v_was ++ sgX2 k b1 p1_windows p1_dials p1_clocks p1_kind p1_hands p1_rate p1_spring p1_window p1_finish p1_skies p1_sky p1_hour p1_heard p1_strokes) (fun u => (sgX3 k a u.1 v_act v_whom v_was ++ sgX2 k b1 p1_windows u.2.1 p1_clocks p1_kind u.2.2.1 u.2.2.2.1 u.2.2.2.2 p1_window p1_finish p1_skies p1_sky p1_hour p1_heard p1_strokes)) (fun u => post u.1 u.2.1 u.2.2.1 u.2.2.2.1 u.2.2.2.2) := by
  refine mv_start (cc := cX3_takeBack) (maxL := 3) (ret := none) (by decide) [(0, .ref (a 0)), (1, .ref (b1 0))] rfl (Nat.le_of_ble_eq_true rfl) ?_
  intro p e s m below meth c A ls hx hb hr hlk hml hown hts hK hP hD hA hS hX hl
  have hown : s.vm.findClass RX3 = some m.cls := hown
  unfold wp_X3_takeBack at hf
  have hH0 : s.heap = s.heap := rfl
  refine lv_aload_n hx hb dX3_takeBack_0 rfl (lv_at hl 0 rfl) ?_
  refine lv_dup hx hb dX3_takeBack_1 rfl ?_
  refine va_get (D := G) (ci := 3) (v := .int v_known) (C := RX3) (T := TX3) (N := 4) hx hb hts inX3 hown hK hP 0 rfl rfl 0 (by decide) (hts _ mw190) (fun _ h9 => h9) rfl dX3_takeBack_2 ?_
  refine lv_iconst (v := 1) hx hb dX3_takeBack_5 (by decide) ?_
  refine lv_isub hx hb dX3_takeBack_6 ?_
  refine lv_topi (fun z1 ez1 => ?_)
  have hf := hf z1 ez1
  refine va_put (D := G) (ci := 3) (v := .int z1) (ty := .int) (C := RX3) (T := TX3) (N := 4) hx hb hts inX3 tyX3 tyX3_ok nmX3 hown hK hP hD hS 0 rfl rfl 0 (by decide) (hts _ mw190) (fun _ h9 => h9) rfl (by decide +kernel) rfl rfl (Nat.le_of_ble_eq_true rfl) dX3_takeBack_7 (fun H locs hP hD hS => ?_)
  have hP : va_P G vwCl (sgX3 k a z1 v_act v_whom v_was ++ sgX2 k b1 p1_windows p1_dials p1_clocks p1_kind p1_hands p1_rate p1_spring p1_window p1_finish p1_skies p1_sky p1_hour p1_heard p1_strokes) H := hP
  have hD : va_D A (sgX3 k a z1 v_act v_whom v_was ++ sgX2 k b1 p1_windows p1_dials p1_clocks p1_kind p1_hands p1_rate p1_spring p1_window p1_finish p1_skies p1_sky p1_hour p1_heard p1_strokes) := hD
  refine lv_aload_n hx hb dX3_takeBack_10 rfl (lv_at hl 0 rfl) ?_
  refine va_get (D := G) (ci := 3) (v := .ref (a 2)) (C := RX3) (T := TX3) (N := 4) hx hb hts inX3 hown hK hP 0 rfl rfl 2 (by decide) (hts _ mw193) (fun _ h9 => h9) rfl dX3_takeBack_11 ?_
  refine lv_aload_n hx hb dX3_takeBack_14 rfl (lv_at hl 0 rfl) ?_
  refine va_get (D := G) (ci := 3) (v := .int z1) (C := RX3) (T := TX3) (N := 4) hx hb hts inX3 hown hK hP 0 rfl rfl 0 (by decide) (hts _ mw190) (fun _ h9 => h9) rfl dX3_takeBack_15 ?_
  obtain ⟨hin, hf⟩ := hf
  refine va_iald hx hb hK hP 2 0 rfl rfl hin dX3_takeBack_18 ?_
  refine lv_topi (fun z2 ez2 => ?_)
  have hf := hf z2 ez2
  refine lv_istore_n (lv' := [(2, .int z2), (0, .ref (a 0)), (1, .ref (b1 0))]) hx hb dX3_takeBack_19 rfl hl (by decide) rfl (fun ls hl => ?_)
  refine lv_aload_n hx hb dX3_takeBack_20 rfl (lv_at hl 1 rfl) ?_
  refine va_get (D := G) (ci := 3) (v := .ref (a 1)) (C := RX3) (T := TX3) (N := 4) hx hb hts inX3 hown hK hP 0 rfl rfl 1 (by decide) (hts _ mw192) (fun _ h9 => h9) rfl dX3_takeBack_21 ?_
  refine lv_aload_n hx hb dX3_takeBack_24 rfl (lv_at hl 1 rfl) ?_
  refine va_get (D := G) (ci := 3) (v := .int z1) (C := RX3) (T := TX3) (N := 4) hx hb hts inX3 hown hK hP 0 rfl rfl 0 (by decide) (hts _ mw190) (fun _ h9 => h9) rfl dX3_takeBack_25 ?_
  obtain ⟨hin, hf⟩ := hf
  refine va_iald hx hb hK hP 1 0 rfl rfl hin dX3_takeBack_28 ?_
  by_cases c3 : (v_act (Int32.toNatClampNeg z1)) = 0
  · have hf := hf.1 c3
    refine lv_tableIn (tgt := 56) hx hb dX3_takeBack_29 (by rw [c3] <;> decide) (by rw [c3] <;> decide) (by rw [c3] <;> rfl) (by decide) ?_
    refine lv_aload_n hx hb dX3_takeBack_56 rfl (lv_at hl 2 rfl) ?_
    refine va_get (D := G) (ci := 2) (v := .ref (b1 5)) (C := RX2) (T := TX2) (N := 14) hx hb hts inX2 hown hK hP 4 rfl rfl 6 (by decide) (hts _ mw122) (fun _ h9 => h9) rfl dX3_takeBack_57 ?_
    refine lv_iload_n hx hb dX3_takeBack_60 rfl (lv_at hl 0 rfl) ?_
    refine lv_aload_n hx hb dX3_takeBack_61 rfl (lv_at hl 1 rfl) ?_
    refine va_get (D := G) (ci := 3) (v := .ref (a 3)) (C := RX3) (T := TX3) (N := 4) hx hb hts inX3 hown hK hP 0 rfl rfl 3 (by decide) (hts _ mw194) (fun _ h9 => h9) rfl dX3_takeBack_62 ?_
    refine lv_aload_n hx hb dX3_takeBack_65 rfl (lv_at hl 1 rfl) ?_
    refine va_get (D := G) (ci := 3) (v := .int z1) (C := RX3) (T := TX3) (N := 4) hx hb hts inX3 hown hK hP 0 rfl rfl 0 (by decide) (hts _ mw190) (fun _ h9 => h9) rfl dX3_takeBack_66 ?_
    obtain ⟨hin, hf⟩ := hf
    refine va_iald hx hb hK hP 3 0 rfl rfl hin dX3_takeBack_69 ?_
    refine lv_topi (fun z4 ez4 => ?_)
    have hf := hf z4 ez4
    obtain ⟨hin, hf⟩ := hf
    refine va_iast hx hb hK hP hD hS 9 0 rfl rfl hin dX3_takeBack_70 (fun H locs hP hD hS => ?_)
    have hP : va_P G vwCl (sgX3 k a z1 v_act v_whom v_was ++ sgX2 k b1 p1_windows p1_dials p1_clocks p1_kind p1_hands p1_rate (upd p1_spring (Int32.toNatClampNeg z2) z4) p1_window p1_finish p1_skies p1_sky p1_hour p1_heard p1_strokes) H := hP
    have hD : va_D A (sgX3 k a z1 v_act v_whom v_was ++ sgX2 k b1 p1_windows p1_dials p1_clocks p1_kind p1_hands p1_rate (upd p1_spring (Int32.toNatClampNeg z2) z4) p1_window p1_finish p1_skies p1_sky p1_hour p1_heard p1_strokes) := hD
    generalize ef5 : (upd p1_spring (Int32.toNatClampNeg z2) z4) = f5 at hP hD
    have hf := hf f5 ef5.symm
    refine lv_goto (tgt := 125) hx hb dX3_takeBack_71 (by decide) ?_
    exact ret_v hx hb hr hlk (z1, p1_dials, p1_hands, p1_rate, f5) hf hP hD hS dX3_takeBack_125
  have hf := hf.2 c3
  by_cases c6 : (v_act (Int32.toNatClampNeg z1)) = 1
  · have hf := hf.1 c6
    refine lv_tableIn (tgt := 74) hx hb dX3_takeBack_29 (by rw [c6] <;> decide) (by rw [c6] <;> decide) (by rw [c6] <;> rfl) (by decide) ?_
    refine lv_aload_n hx hb dX3_takeBack_74 rfl (lv_at hl 2 rfl) ?_
    refine va_get (D := G) (ci := 2) (v := .ref (b1 3)) (C := RX2) (T := TX2) (N := 14) hx hb hts inX2 hown hK hP 4 rfl rfl 4 (by decide) (hts _ mw116) (fun _ h9 => h9) rfl dX3_takeBack_75 ?_
    refine lv_iload_n hx hb dX3_takeBack_78 rfl (lv_at hl 0 rfl) ?_
    refine lv_aload_n hx hb dX3_takeBack_79 rfl (lv_at hl 1 rfl) ?_
    refine va_get (D := G) (ci := 3) (v := .ref (a 3)) (C := RX3) (T := TX3) (N := 4) hx hb hts inX3 hown hK hP 0 rfl rfl 3 (by decide) (hts _ mw194) (fun _ h9 => h9) rfl dX3_takeBack_80 ?_
    refine lv_aload_n hx hb dX3_takeBack_83 rfl (lv_at hl 1 rfl) ?_
    refine va_get (D := G) (ci := 3) (v := .int z1) (C := RX3) (T := TX3) (N := 4) hx hb hts inX3 hown hK hP 0 rfl rfl 0 (by decide) (hts _ mw190) (fun _ h9 => h9) rfl dX3_takeBack_84 ?_
    obtain ⟨hin, hf⟩ := hf
    refine va_iald hx hb hK hP 3 0 rfl rfl hin dX3_takeBack_87 ?_
    refine lv_topi (fun z7 ez7 => ?_)
    have hf := hf z7 ez7
    obtain ⟨hin, hf⟩ := hf
    refine va_iast hx hb hK hP hD hS 7 0 rfl rfl hin dX3_takeBack_88 (fun H locs hP hD hS => ?_)
    have hP : va_P G vwCl (sgX3 k a z1 v_act v_whom v_was ++ sgX2 k b1 p1_windows p1_dials p1_clocks p1_kind (upd p1_hands (Int32.toNatClampNeg z2) z7) p1_rate p1_spring p1_window p1_finish p1_skies p1_sky p1_hour p1_heard p1_strokes) H := hP
    have hD : va_D A (sgX3 k a z1 v_act v_whom v_was ++ sgX2 k b1 p1_windows p1_dials p1_clocks p1_kind (upd p1_hands (Int32.toNatClampNeg z2) z7) p1_rate p1_spring p1_window p1_finish p1_skies p1_sky p1_hour p1_heard p1_strokes) := hD
    generalize ef8 : (upd p1_hands (Int32.toNatClampNeg z2) z7) = f8 at hP hD
    have hf := hf f8 ef8.symm
    refine lv_goto (tgt := 125) hx hb dX3_takeBack_89 (by decide) ?_
    exact ret_v hx hb hr hlk (z1, p1_dials, f8, p1_rate, p1_spring) hf hP hD hS dX3_takeBack_125
  have hf := hf.2 c6
  by_cases c9 : (v_act (Int32.toNatClampNeg z1)) = 2
  · have hf := hf.1 c9
    refine lv_tableIn (tgt := 92) hx hb dX3_takeBack_29 (by rw [c9] <;> decide) (by rw [c9] <;> decide) (by rw [c9] <;> rfl) (by decide) ?_
    refine lv_aload_n hx hb dX3_takeBack_92 rfl (lv_at hl 2 rfl) ?_
    refine va_get (D := G) (ci := 2) (v := .ref (b1 4)) (C := RX2) (T := TX2) (N := 14) hx hb hts inX2 hown hK hP 4 rfl rfl 5 (by decide) (hts _ mw119) (fun _ h9 => h9) rfl dX3_takeBack_93 ?_
    refine lv_iload_n hx hb dX3_takeBack_96 rfl (lv_at hl 0 rfl) ?_
    refine lv_aload_n hx hb dX3_takeBack_97 rfl (lv_at hl 1 rfl) ?_
    refine va_get (D := G) (ci := 3) (v := .ref (a 3)) (C := RX3) (T := TX3) (N := 4) hx hb hts inX3 hown hK hP 0 rfl rfl 3 (by decide) (hts _ mw194) (fun _ h9 => h9) rfl dX3_takeBack_98 ?_
    refine lv_aload_n hx hb dX3_takeBack_101 rfl (lv_at hl 1 rfl) ?_
    refine va_get (D := G) (ci := 3) (v := .int z1) (C := RX3) (T := TX3) (N := 4) hx hb hts inX3 hown hK hP 0 rfl rfl 0 (by decide) (hts _ mw190) (fun _ h9 => h9) rfl dX3_takeBack_102 ?_
    obtain ⟨hin, hf⟩ := hf
    refine va_iald hx hb hK hP 3 0 rfl rfl hin dX3_takeBack_105 ?_
    refine lv_topi (fun z10 ez10 => ?_)
    have hf := hf z10 ez10
    obtain ⟨hin, hf⟩ := hf
    refine va_iast hx hb hK hP hD hS 8 0 rfl rfl hin dX3_takeBack_106 (fun H locs hP hD hS => ?_)
    have hP : va_P G vwCl (sgX3 k a z1 v_act v_whom v_was ++ sgX2 k b1 p1_windows p1_dials p1_clocks p1_kind p1_hands (upd p1_rate (Int32.toNatClampNeg z2) z10) p1_spring p1_window p1_finish p1_skies p1_sky p1_hour p1_heard p1_strokes) H := hP
    have hD : va_D A (sgX3 k a z1 v_act v_whom v_was ++ sgX2 k b1 p1_windows p1_dials p1_clocks p1_kind p1_hands (upd p1_rate (Int32.toNatClampNeg z2) z10) p1_spring p1_window p1_finish p1_skies p1_sky p1_hour p1_heard p1_strokes) := hD
    generalize ef11 : (upd p1_rate (Int32.toNatClampNeg z2) z10) = f11 at hP hD
    have hf := hf f11 ef11.symm
    refine lv_goto (tgt := 125) hx hb dX3_takeBack_107 (by decide) ?_
    exact ret_v hx hb hr hlk (z1, p1_dials, p1_hands, f11, p1_spring) hf hP hD hS dX3_takeBack_125
  have hf := hf.2 c9
  refine lv_tableOut (tgt := 110) hx hb dX3_takeBack_29 (sw3 c3 c6 c9) (by decide) ?_
  refine lv_aload_n hx hb dX3_takeBack_110 rfl (lv_at hl 2 rfl) ?_
  refine va_get (D := G) (ci := 2) (v := .ref (b1 1)) (C := RX2) (T := TX2) (N := 14) hx hb hts inX2 hown hK hP 4 rfl rfl 1 (by decide) (hts _ mw108) (fun _ h9 => h9) rfl dX3_takeBack_111 ?_
  refine lv_iload_n hx hb dX3_takeBack_114 rfl (lv_at hl 0 rfl) ?_
  refine lv_aload_n hx hb dX3_takeBack_115 rfl (lv_at hl 1 rfl) ?_
  refine va_get (D := G) (ci := 3) (v := .ref (a 3)) (C := RX3) (T := TX3) (N := 4) hx hb hts inX3 hown hK hP 0 rfl rfl 3 (by decide) (hts _ mw194) (fun _ h9 => h9) rfl dX3_takeBack_116 ?_
  refine lv_aload_n hx hb dX3_takeBack_119 rfl (lv_at hl 1 rfl) ?_
  refine va_get (D := G) (ci := 3) (v := .int z1) (C := RX3) (T := TX3) (N := 4) hx hb hts inX3 hown hK hP 0 rfl rfl 0 (by decide) (hts _ mw190) (fun _ h9 => h9) rfl dX3_takeBack_120 ?_
  obtain ⟨hin, hf⟩ := hf
  refine va_iald hx hb hK hP 3 0 rfl rfl hin dX3_takeBack_123 ?_
  refine lv_topi (fun z12 ez12 => ?_)
  have hf := hf z12 ez12
  obtain ⟨hin, hf⟩ := hf
  refine va_iast hx hb hK hP hD hS 5 0 rfl rfl hin dX3_takeBack_124 (fun H locs hP hD hS => ?_)
  have hP : va_P G vwCl (sgX3 k a z1 v_act v_whom v_was ++ sgX2 k b1 p1_windows (upd p1_dials (Int32.toNatClampNeg z2) z12) p1_clocks p1_kind p1_hands p1_rate p1_spring p1_window p1_finish p1_skies p1_sky p1_hour p1_heard p1_strokes) H := hP
  have hD : va_D A (sgX3 k a z1 v_act v_whom v_was ++ sgX2 k b1 p1_windows (upd p1_dials (Int32.toNatClampNeg z2) z12) p1_clocks p1_kind p1_hands p1_rate p1_spring p1_window p1_finish p1_skies p1_sky p1_hour p1_heard p1_strokes) := hD
  generalize ef13 : (upd p1_dials (Int32.toNatClampNeg z2) z12) = f13 at hP hD
  have hf := hf f13 ef13.symm
  exact ret_v hx hb hr hlk (z1, f13, p1_hands, p1_rate, p1_spring) hf hP hD hS dX3_takeBack_125
def wp_X4_renew (p1 : Int32) (p2 : Int32) (v_isThere : Int32) (v_lane : Int32) (v_size : Int32) (v_items : Nat → Int64) (post : (Int32) → (Int32) → (Int32) → (Nat → Int64) → Prop) : Prop :=
  (∃ I1 : Nat → (Int32) → (Nat → Int64) → Prop, (∃ n1, I1 n1 0 v_items) ∧ ∀ (n1 : Nat) (x3_1 : Int32) (v_items_1 : Nat → Int64), I1 n1 x3_1 v_items_1 →
 ((p2 ≤ x3_1 → (post 1 p1 p2 v_items_1)) ∧
 (¬ p2 ≤ x3_1 → (vp_in x3_1 24 ∧ ∀ f3 : Nat → Int64, f3 = (vp_updL v_items_1 (Int32.toNatClampNeg x3_1) 0) → (∀ z4 : Int32, z4 = x3_1 + 1 → (∃ m9, m9 < n1 ∧ I1 m9 z4 f3))))))
set_option maxHeartbeats 4000000 in
set_option maxRecDepth 100000 in
theorem c_X4_renew (l : Launch) (G : va_G) (k : Nat → ClassId) (a : Nat → Nat) (p1 : Int32) (p2 : Int32) (v_isThere : Int32) (v_lane : Int32) (v_size : Int32) (v_items : Nat → Int64) (post : (Int32) → (Int32) → (Int32) → (Nat → Int64) → Prop) (hf : wp_X4_renew p1 p2 v_isThere v_lane v_size v_items post) : MV (S := (Int32) × (Int32) × (Int32) × (Nat → Int64)) l G k yX4_renew (Cond.code yX4_renew cX4_renew 4 none :: wT) 0 0 [.ref (a 0), .int p1, .int p2] (sgX4 k a v_isThere v_lane v_size v_items) (fun u => (sgX4 k a u.1 u.2.1 u.2.2.1 u.2.2.2)) (fun u => post u.1 u.2.1 u.2.2.1 u.2.2.2) := by
  refine mv_start (cc := cX4_renew) (maxL := 4) (ret := none) (by decide) [(0, .ref (a 0)), (1, .int p1), (2, .int p2)] rfl (Nat.le_of_ble_eq_true rfl) ?_
  intro p e s m below meth c A ls hx hb hr hlk hml hown hts hK hP hD hA hS hX hl
  have hown : s.vm.findClass RX4 = some m.cls := hown
  unfold wp_X4_renew at hf
  have hH0 : s.heap = s.heap := rfl
  refine lv_aload_n hx hb dX4_renew_0 rfl (lv_at hl 0 rfl) ?_
  refine lv_iconst (v := 1) hx hb dX4_renew_1 (by decide) ?_
  refine va_put (D := G) (ci := 4) (v := .int 1) (ty := .boolean) (C := RX4) (T := TX4) (N := 4) hx hb hts inX4 tyX4 tyX4_ok nmX4 hown hK hP hD hS 0 rfl rfl 0 (by decide) (hts _ mw279) (fun _ h9 => h9) rfl (by decide +kernel) (by decide) (by decide) (Nat.le_of_ble_eq_true rfl) dX4_renew_2 (fun H locs hP hD hS => ?_)
  have hP : va_P G vwCl (sgX4 k a 1 v_lane v_size v_items) H := hP
  have hD : va_D A (sgX4 k a 1 v_lane v_size v_items) := hD
  refine lv_aload_n hx hb dX4_renew_5 rfl (lv_at hl 0 rfl) ?_
  refine lv_iload_n hx hb dX4_renew_6 rfl (lv_at hl 1 rfl) ?_
  refine va_put (D := G) (ci := 4) (v := .int p1) (ty := .int) (C := RX4) (T := TX4) (N := 4) hx hb hts inX4 tyX4 tyX4_ok nmX4 hown hK hP hD hS 0 rfl rfl 1 (by decide) (hts _ mw281) (fun _ h9 => h9) rfl (by decide +kernel) rfl rfl (Nat.le_of_ble_eq_true rfl) dX4_renew_7 (fun H locs hP hD hS => ?_)
  have hP : va_P G vwCl (sgX4 k a 1 p1 v_size v_items) H := hP
  have hD : va_D A (sgX4 k a 1 p1 v_size v_items) := hD
  refine lv_aload_n hx hb dX4_renew_10 rfl (lv_at hl 0 rfl) ?_
  refine lv_iload_n hx hb dX4_renew_11 rfl (lv_at hl 2 rfl) ?_
  refine va_put (D := G) (ci := 4) (v := .int p2) (ty := .int) (C := RX4) (T := TX4) (N := 4) hx hb hts inX4 tyX4 tyX4_ok nmX4 hown hK hP hD hS 0 rfl rfl 2 (by decide) (hts _ mw283) (fun _ h9 => h9) rfl (by decide +kernel) rfl rfl (Nat.le_of_ble_eq_true rfl) dX4_renew_12 (fun H locs hP hD hS => ?_)
  have hP : va_P G vwCl (sgX4 k a 1 p1 p2 v_items) H := hP
  have hD : va_D A (sgX4 k a 1 p1 p2 v_items) := hD
  refine lv_iconst (v := 0) hx hb dX4_renew_15 (by decide) ?_
  refine lv_istore_n (lv' := [(3, .int 0), (0, .ref (a 0)), (1, .int p1), (2, .int p2)]) hx hb dX4_renew_16 rfl hl (by decide) rfl (fun ls hl => ?_)
  obtain ⟨I1, ⟨n1, hi1⟩, hs1⟩ := hf
  refine w_loop (G := G) (A := A) (H0 := s.heap) (nL := 4) (σ := (Int32) × (Nat → Int64)) (I := fun n v => I1 n v.1 v.2) (wl := fun v => (sgX4 k a 1 p1 p2 v.2)) (lv := fun v => [(0, .ref (a 0)), (2, .int p2), (3, .int v.1)]) (st := fun _ => []) n1 (0, v_items) hi1 hP hD hS (lv_sub hl [1, 3, 0] rfl) (fun n1 v hi ih1 H locs ls hP hD hS hl => ?_)
  obtain ⟨x3_1, v_items_1⟩ := v
  have hf := hs1 n1 x3_1 v_items_1 hi
  have hP : va_P G vwCl (sgX4 k a 1 p1 p2 v_items_1) H := hP
  have hD : va_D A (sgX4 k a 1 p1 p2 v_items_1) := hD
  have hl : lv_has ls 4 [(0, .ref (a 0)), (2, .int p2), (3, .int x3_1)] := hl
  refine lv_iload_n hx hb dX4_renew_17 rfl (lv_at hl 2 rfl) ?_
  refine lv_iload_n hx hb dX4_renew_18 rfl (lv_at hl 1 rfl) ?_
  refine lv_icmp_ge (tgt := 35) hx hb dX4_renew_19 (by decide) (fun c2 => ?_) (fun c2 => ?_)
  · have hf := hf.1 c2
    exact ret_v hx hb hr hlk (1, p1, p2, v_items_1) hf hP hD hS dX4_renew_35
  have hf := hf.2 c2
  refine lv_aload_n hx hb dX4_renew_22 rfl (lv_at hl 0 rfl) ?_
  refine va_get (D := G) (ci := 4) (v := .ref (a 1)) (C := RX4) (T := TX4) (N := 4) hx hb hts inX4 hown hK hP 0 rfl rfl 3 (by decide) (hts _ mw285) (fun _ h9 => h9) rfl dX4_renew_23 ?_
  refine lv_iload_n hx hb dX4_renew_26 rfl (lv_at hl 2 rfl) ?_
  refine lv_lconst (v := 0) hx hb dX4_renew_27 (by decide) ?_
  obtain ⟨hin, hf⟩ := hf
  refine va_last hx hb hK hP hD hS 1 2 rfl rfl hin dX4_renew_28 (fun H locs hP hD hS => ?_)
  have hP : va_P G vwCl (sgX4 k a 1 p1 p2 (vp_updL v_items_1 (Int32.toNatClampNeg x3_1) 0)) H := hP
  have hD : va_D A (sgX4 k a 1 p1 p2 (vp_updL v_items_1 (Int32.toNatClampNeg x3_1) 0)) := hD
  generalize ef3 : (vp_updL v_items_1 (Int32.toNatClampNeg x3_1) 0) = f3 at hP hD
  have hf := hf f3 ef3.symm
  obtain ⟨z4, ez4⟩ : ∃ y : Int32, y = x3_1 + 1 := ⟨_, rfl⟩
  have hf := hf z4 ez4
  refine lv_iinc (v := z4) (lv' := [(3, .int z4), (0, .ref (a 0)), (2, .int p2)]) hx hb dX4_renew_29 hl (k := 2) rfl (by rw [ez4]; rfl) (by decide) rfl (fun ls hl => ?_)
  refine lv_goto (tgt := 17) hx hb dX4_renew_32 (by decide) ?_
  obtain ⟨m9, hm9, hi9⟩ := hf
  exact ih1 m9 (z4, f3) hm9 hi9 _ _ _ hP hD hS (lv_sub hl [1, 2, 0] rfl)
def wp_X4_holds (p1 : Int32) (p2 : Int32) (v_size : Int32) (post : Int32 → Prop) : Prop :=
  ((p1 < 0 → (post 0 )) ∧
 (¬ p1 < 0 → ((p2 < 0 → (post 0 )) ∧
 (¬ p2 < 0 → (((v_size - p2) < p1 → (post 0 )) ∧
 (¬ (v_size - p2) < p1 → (post 1 )))))))
set_option maxHeartbeats 4000000 in
set_option maxRecDepth 100000 in
theorem c_X4_holds (l : Launch) (G : va_G) (k : Nat → ClassId) (a : Nat → Nat) (p1 : Int32) (p2 : Int32) (v_isThere : Int32) (v_lane : Int32) (v_size : Int32) (v_items : Nat → Int64) (post : Int32 → Prop) (hf : wp_X4_holds p1 p2 v_size post) : MI (S := Unit) l G k yX4_holds (Cond.code yX4_holds cX4_holds 3 (some .boolean) :: wT) 0 0 [.ref (a 0), .int p1, .int p2] (sgX4 k a v_isThere v_lane v_size v_items) (fun u => (sgX4 k a v_isThere v_lane v_size v_items)) (fun r u => post r ) := by
  refine mi_start (cc := cX4_holds) (maxL := 3) (ret := (some .boolean)) (by decide) [(0, .ref (a 0)), (1, .int p1), (2, .int p2)] rfl (Nat.le_of_ble_eq_true rfl) ?_
  intro p e s m below meth c A ls hx hb hr hlk hml hown hts hK hP hD hA hS hX hl
  have hown : s.vm.findClass RX4 = some m.cls := hown
  unfold wp_X4_holds at hf
  have hH0 : s.heap = s.heap := rfl
  refine lv_iload_n hx hb dX4_holds_0 rfl (lv_at hl 1 rfl) ?_
  refine lv_if_lt (tgt := 22) hx hb dX4_holds_1 (by decide) (fun c1 => ?_) (fun c1 => ?_)
  · have hf := hf.1 c1
    refine lv_iconst (v := 0) hx hb dX4_holds_22 (by decide) ?_
    exact ret_z hx hb hr hlk (Or.inl rfl) () hf hP hD hS dX4_holds_23
  have hf := hf.2 c1
  refine lv_iload_n hx hb dX4_holds_4 rfl (lv_at hl 2 rfl) ?_
  refine lv_if_lt (tgt := 22) hx hb dX4_holds_5 (by decide) (fun c2 => ?_) (fun c2 => ?_)
  · have hf := hf.1 c2
    refine lv_iconst (v := 0) hx hb dX4_holds_22 (by decide) ?_
    exact ret_z hx hb hr hlk (Or.inl rfl) () hf hP hD hS dX4_holds_23
  have hf := hf.2 c2
  refine lv_iload_n hx hb dX4_holds_8 rfl (lv_at hl 1 rfl) ?_
  refine lv_aload_n hx hb dX4_holds_9 rfl (lv_at hl 0 rfl) ?_
  refine va_get (D := G) (ci := 4) (v := .int v_size) (C := RX4) (T := TX4) (N := 4) hx hb hts inX4 hown hK hP 0 rfl rfl 2 (by decide) (hts _ mw283) (fun _ h9 => h9) rfl dX4_holds_10 ?_
  refine lv_iload_n hx hb dX4_holds_13 rfl (lv_at hl 2 rfl) ?_
  refine lv_isub hx hb dX4_holds_14 ?_
  refine lv_icmp_gt (tgt := 22) hx hb dX4_holds_15 (by decide) (fun c3 => ?_) (fun c3 => ?_)
  · have hf := hf.1 c3
    refine lv_iconst (v := 0) hx hb dX4_holds_22 (by decide) ?_
    exact ret_z hx hb hr hlk (Or.inl rfl) () hf hP hD hS dX4_holds_23
  have hf := hf.2 c3
  refine lv_iconst (v := 1) hx hb dX4_holds_18 (by decide) ?_
  refine lv_goto (tgt := 23) hx hb dX4_holds_19 (by decide) ?_
  exact ret_z hx hb hr hlk (Or.inr rfl) () hf hP hD hS dX4_holds_23
def wp_X4_refusal (p1 : Int32) (p2 : Int32) (p3 : Int32) (v_isThere : Int32) (v_lane : Int32) (v_size : Int32) (post : Int32 → Prop) : Prop :=
  ((¬ v_isThere = 0 → ((v_lane = p1 → (wp_X4_holds p2 p3 v_size (fun (r3 : Int32) =>
 ((r3 = 0 → (post (-13) )) ∧
 (¬ r3 = 0 → (post 0 )))))) ∧
 (¬ v_lane = p1 → (post (-12) )))) ∧
 (v_isThere = 0 → (post (-11) )))
set_option maxHeartbeats 4000000 in
set_option maxRecDepth 100000 in
theorem c_X4_refusal (l : Launch) (G : va_G) (k : Nat → ClassId) (a : Nat → Nat) (p1 : Int32) (p2 : Int32) (p3 : Int32) (v_isThere : Int32) (v_lane : Int32) (v_size : Int32) (v_items : Nat → Int64) (post : Int32 → Prop) (hf : wp_X4_refusal p1 p2 p3 v_isThere v_lane v_size post) : MI (S := Unit) l G k yX4_refusal (Cond.code yX4_refusal cX4_refusal 4 (some .int) :: wT) 1 22 [.ref (a 0), .int p1, .int p2, .int p3] (sgX4 k a v_isThere v_lane v_size v_items) (fun u => (sgX4 k a v_isThere v_lane v_size v_items)) (fun r u => post r ) := by
  refine mi_start (cc := cX4_refusal) (maxL := 4) (ret := (some .int)) (by decide) [(0, .ref (a 0)), (1, .int p1), (2, .int p2), (3, .int p3)] rfl (Nat.le_of_ble_eq_true rfl) ?_
  intro p e s m below meth c A ls hx hb hr hlk hml hown hts hK hP hD hA hS hX hl
  have hown : s.vm.findClass RX4 = some m.cls := hown
  unfold wp_X4_refusal at hf
  have hH0 : s.heap = s.heap := rfl
  refine lv_aload_n hx hb dX4_refusal_0 rfl (lv_at hl 0 rfl) ?_
  refine va_get (D := G) (ci := 4) (v := .int v_isThere) (C := RX4) (T := TX4) (N := 4) hx hb hts inX4 hown hK hP 0 rfl rfl 0 (by decide) (hts _ mw279) (fun _ h9 => h9) rfl dX4_refusal_1 ?_
  refine lv_if_ne (tgt := 10) hx hb dX4_refusal_4 (by decide) (fun c1 => ?_) (fun c1 => ?_)
  · have hf := hf.1 c1
    refine lv_aload_n hx hb dX4_refusal_10 rfl (lv_at hl 0 rfl) ?_
    refine va_get (D := G) (ci := 4) (v := .int v_lane) (C := RX4) (T := TX4) (N := 4) hx hb hts inX4 hown hK hP 0 rfl rfl 1 (by decide) (hts _ mw281) (fun _ h9 => h9) rfl dX4_refusal_11 ?_
    refine lv_iload_n hx hb dX4_refusal_14 rfl (lv_at hl 1 rfl) ?_
    refine lv_icmp_eq (tgt := 21) hx hb dX4_refusal_15 (by decide) (fun c2 => ?_) (fun c2 => ?_)
    · have hf := hf.1 c2
      refine lv_aload_n hx hb dX4_refusal_21 rfl (lv_at hl 0 rfl) ?_
      refine lv_iload_n hx hb dX4_refusal_22 rfl (lv_at hl 2 rfl) ?_
      refine lv_iload_n hx hb dX4_refusal_23 rfl (lv_at hl 3 rfl) ?_
      refine cvi (As := [.int p2, .int p3]) (rest := []) (wr := []) (wn := (fun u => (sgX4 k a v_isThere v_lane v_size v_items))) ⟨hx, hb, hml, hown, hts⟩ (c_X4_holds l G k a p2 p3 v_isThere v_lane v_size v_items _ hf) (cwT 2 hts mw883 mw884 mw885 mw76 mw886 rfl hd_X4_holds ⟨Nat.le_of_ble_eq_true rfl, Nat.le_of_ble_eq_true rfl⟩) hK hP hD hS hX hA [0, 1] [] [0, 1] rfl rfl (by decide) (by decide) (by decide) (fun u => rfl) (by decide) rfl rfl rfl rfl hl.1 rfl (Nat.le_of_ble_eq_true rfl) dX4_refusal_24 (Nat.zero_le _) (Nat.zero_le _) (fun r3 u H locs hf hP hD hS => ?_)
      have hP : va_P G vwCl (sgX4 k a v_isThere v_lane v_size v_items) H := hP
      have hD : va_D A (sgX4 k a v_isThere v_lane v_size v_items) := hD
      refine lv_if_eq (tgt := 34) hx hb dX4_refusal_27 (by decide) (fun c4 => ?_) (fun c4 => ?_)
      · have hf := hf.1 c4
        refine lv_bipush (v := (-13)) hx hb dX4_refusal_34 (by decide) ?_
        exact ret_i hx hb hr hlk () hf hP hD hS dX4_refusal_36
      have hf := hf.2 c4
      refine lv_iconst (v := 0) hx hb dX4_refusal_30 (by decide) ?_
      refine lv_goto (tgt := 36) hx hb dX4_refusal_31 (by decide) ?_
      exact ret_i hx hb hr hlk () hf hP hD hS dX4_refusal_36
    have hf := hf.2 c2
    refine lv_bipush (v := (-12)) hx hb dX4_refusal_18 (by decide) ?_
    exact ret_i hx hb hr hlk () hf hP hD hS dX4_refusal_20
  have hf := hf.2 c1
  refine lv_bipush (v := (-11)) hx hb dX4_refusal_7 (by decide) ?_
  exact ret_i hx hb hr hlk () hf hP hD hS dX4_refusal_9
def wp_X4_put (p1 : Int32) (p2 : Int64) (v_lane : Int32) (v_items : Nat → Int64) (post : (Nat → Int64) → Prop) : Prop :=
  ((v_lane = 0 → (∀ z2 : Int64, z2 = (Int32.toInt64 (Int8.toInt32 (Int32.toInt8 (Int64.toInt32 p2)))) → (vp_in p1 24 ∧ ∀ f3 : Nat → Int64, f3 = (vp_updL v_items (Int32.toNatClampNeg p1) z2) → (post f3)))) ∧
 (¬ v_lane = 0 → ((v_lane = 1 → (∀ z5 : Int64, z5 = (Int32.toInt64 (Int16.toInt32 (Int32.toInt16 (Int64.toInt32 p2)))) → (vp_in p1 24 ∧ ∀ f6 : Nat → Int64, f6 = (vp_updL v_items (Int32.toNatClampNeg p1) z5) → (post f6)))) ∧
 (¬ v_lane = 1 → ((v_lane = 2 → (∀ z8 : Int64, z8 = (Int32.toInt64 (Int64.toInt32 p2)) → (vp_in p1 24 ∧ ∀ f9 : Nat → Int64, f9 = (vp_updL v_items (Int32.toNatClampNeg p1) z8) → (post f9)))) ∧
 (¬ v_lane = 2 → (vp_in p1 24 ∧ ∀ f10 : Nat → Int64, f10 = (vp_updL v_items (Int32.toNatClampNeg p1) p2) → (post f10))))))))
set_option maxHeartbeats 4000000 in
set_option maxRecDepth 100000 in
theorem c_X4_put (l : Launch) (G : va_G) (k : Nat → ClassId) (a : Nat → Nat) (p1 : Int32) (p2 : Int64) (v_isThere : Int32) (v_lane : Int32) (v_size : Int32) (v_items : Nat → Int64) (post : (Nat → Int64) → Prop) (hf : wp_X4_put p1 p2 v_lane v_items post) : MV (S := (Nat → Int64)) l G k yX4_put (Cond.code yX4_put cX4_put 4 none :: wT) 0 0 [.ref (a 0), .int p1, .long p2] (sgX4 k a v_isThere v_lane v_size v_items) (fun u => (sgX4 k a v_isThere v_lane v_size u)) (fun u => post u) := by
  refine mv_start (cc := cX4_put) (maxL := 4) (ret := none) (by decide) [(0, .ref (a 0)), (1, .int p1), (2, .long p2)] rfl (Nat.le_of_ble_eq_true rfl) ?_
  intro p e s m below meth c A ls hx hb hr hlk hml hown hts hK hP hD hA hS hX hl
  have hown : s.vm.findClass RX4 = some m.cls := hown
  unfold wp_X4_put at hf
  have hH0 : s.heap = s.heap := rfl
  refine lv_aload_n hx hb dX4_put_0 rfl (lv_at hl 0 rfl) ?_
  refine va_get (D := G) (ci := 4) (v := .int v_lane) (C := RX4) (T := TX4) (N := 4) hx hb hts inX4 hown hK hP 0 rfl rfl 1 (by decide) (hts _ mw281) (fun _ h9 => h9) rfl dX4_put_1 ?_
  by_cases c1 : v_lane = 0
  · have hf := hf.1 c1
    refine lv_tableIn (tgt := 32) hx hb dX4_put_4 (by rw [c1] <;> decide) (by rw [c1] <;> decide) (by rw [c1] <;> rfl) (by decide) ?_
    refine lv_aload_n hx hb dX4_put_32 rfl (lv_at hl 0 rfl) ?_
    refine va_get (D := G) (ci := 4) (v := .ref (a 1)) (C := RX4) (T := TX4) (N := 4) hx hb hts inX4 hown hK hP 0 rfl rfl 3 (by decide) (hts _ mw285) (fun _ h9 => h9) rfl dX4_put_33 ?_
    refine lv_iload_n hx hb dX4_put_36 rfl (lv_at hl 1 rfl) ?_
    refine lv_lload_n hx hb dX4_put_37 rfl (lv_at hl 2 rfl) ?_
    refine lv_l2i hx hb dX4_put_38 rfl ?_
    refine lv_i2b hx hb dX4_put_39 rfl ?_
    refine lv_i2l hx hb dX4_put_40 rfl ?_
    refine lv_topl (fun z2 ez2 => ?_)
    have hf := hf z2 ez2
    obtain ⟨hin, hf⟩ := hf
    refine va_last hx hb hK hP hD hS 1 2 rfl rfl hin dX4_put_41 (fun H locs hP hD hS => ?_)
    have hP : va_P G vwCl (sgX4 k a v_isThere v_lane v_size (vp_updL v_items (Int32.toNatClampNeg p1) z2)) H := hP
    have hD : va_D A (sgX4 k a v_isThere v_lane v_size (vp_updL v_items (Int32.toNatClampNeg p1) z2)) := hD
    generalize ef3 : (vp_updL v_items (Int32.toNatClampNeg p1) z2) = f3 at hP hD
    have hf := hf f3 ef3.symm
    refine lv_goto (tgt := 77) hx hb dX4_put_42 (by decide) ?_
    exact ret_v hx hb hr hlk f3 hf hP hD hS dX4_put_77
  have hf := hf.2 c1
  by_cases c4 : v_lane = 1
  · have hf := hf.1 c4
    refine lv_tableIn (tgt := 45) hx hb dX4_put_4 (by rw [c4] <;> decide) (by rw [c4] <;> decide) (by rw [c4] <;> rfl) (by decide) ?_
    refine lv_aload_n hx hb dX4_put_45 rfl (lv_at hl 0 rfl) ?_
    refine va_get (D := G) (ci := 4) (v := .ref (a 1)) (C := RX4) (T := TX4) (N := 4) hx hb hts inX4 hown hK hP 0 rfl rfl 3 (by decide) (hts _ mw285) (fun _ h9 => h9) rfl dX4_put_46 ?_
    refine lv_iload_n hx hb dX4_put_49 rfl (lv_at hl 1 rfl) ?_
    refine lv_lload_n hx hb dX4_put_50 rfl (lv_at hl 2 rfl) ?_
    refine lv_l2i hx hb dX4_put_51 rfl ?_
    refine lv_i2s hx hb dX4_put_52 rfl ?_
    refine lv_i2l hx hb dX4_put_53 rfl ?_
    refine lv_topl (fun z5 ez5 => ?_)
    have hf := hf z5 ez5
    obtain ⟨hin, hf⟩ := hf
    refine va_last hx hb hK hP hD hS 1 2 rfl rfl hin dX4_put_54 (fun H locs hP hD hS => ?_)
    have hP : va_P G vwCl (sgX4 k a v_isThere v_lane v_size (vp_updL v_items (Int32.toNatClampNeg p1) z5)) H := hP
    have hD : va_D A (sgX4 k a v_isThere v_lane v_size (vp_updL v_items (Int32.toNatClampNeg p1) z5)) := hD
    generalize ef6 : (vp_updL v_items (Int32.toNatClampNeg p1) z5) = f6 at hP hD
    have hf := hf f6 ef6.symm
    refine lv_goto (tgt := 77) hx hb dX4_put_55 (by decide) ?_
    exact ret_v hx hb hr hlk f6 hf hP hD hS dX4_put_77
  have hf := hf.2 c4
  by_cases c7 : v_lane = 2
  · have hf := hf.1 c7
    refine lv_tableIn (tgt := 58) hx hb dX4_put_4 (by rw [c7] <;> decide) (by rw [c7] <;> decide) (by rw [c7] <;> rfl) (by decide) ?_
    refine lv_aload_n hx hb dX4_put_58 rfl (lv_at hl 0 rfl) ?_
    refine va_get (D := G) (ci := 4) (v := .ref (a 1)) (C := RX4) (T := TX4) (N := 4) hx hb hts inX4 hown hK hP 0 rfl rfl 3 (by decide) (hts _ mw285) (fun _ h9 => h9) rfl dX4_put_59 ?_
    refine lv_iload_n hx hb dX4_put_62 rfl (lv_at hl 1 rfl) ?_
    refine lv_lload_n hx hb dX4_put_63 rfl (lv_at hl 2 rfl) ?_
    refine lv_l2i hx hb dX4_put_64 rfl ?_
    refine lv_i2l hx hb dX4_put_65 rfl ?_
    refine lv_topl (fun z8 ez8 => ?_)
    have hf := hf z8 ez8
    obtain ⟨hin, hf⟩ := hf
    refine va_last hx hb hK hP hD hS 1 2 rfl rfl hin dX4_put_66 (fun H locs hP hD hS => ?_)
    have hP : va_P G vwCl (sgX4 k a v_isThere v_lane v_size (vp_updL v_items (Int32.toNatClampNeg p1) z8)) H := hP
    have hD : va_D A (sgX4 k a v_isThere v_lane v_size (vp_updL v_items (Int32.toNatClampNeg p1) z8)) := hD
    generalize ef9 : (vp_updL v_items (Int32.toNatClampNeg p1) z8) = f9 at hP hD
    have hf := hf f9 ef9.symm
    refine lv_goto (tgt := 77) hx hb dX4_put_67 (by decide) ?_
    exact ret_v hx hb hr hlk f9 hf hP hD hS dX4_put_77
  have hf := hf.2 c7
  refine lv_tableOut (tgt := 70) hx hb dX4_put_4 (sw3 c1 c4 c7) (by decide) ?_
  refine lv_aload_n hx hb dX4_put_70 rfl (lv_at hl 0 rfl) ?_
  refine va_get (D := G) (ci := 4) (v := .ref (a 1)) (C := RX4) (T := TX4) (N := 4) hx hb hts inX4 hown hK hP 0 rfl rfl 3 (by decide) (hts _ mw285) (fun _ h9 => h9) rfl dX4_put_71 ?_
  refine lv_iload_n hx hb dX4_put_74 rfl (lv_at hl 1 rfl) ?_
  refine lv_lload_n hx hb dX4_put_75 rfl (lv_at hl 2 rfl) ?_
  obtain ⟨hin, hf⟩ := hf
  refine va_last hx hb hK hP hD hS 1 2 rfl rfl hin dX4_put_76 (fun H locs hP hD hS => ?_)
  have hP : va_P G vwCl (sgX4 k a v_isThere v_lane v_size (vp_updL v_items (Int32.toNatClampNeg p1) p2)) H := hP
  have hD : va_D A (sgX4 k a v_isThere v_lane v_size (vp_updL v_items (Int32.toNatClampNeg p1) p2)) := hD
  generalize ef10 : (vp_updL v_items (Int32.toNatClampNeg p1) p2) = f10 at hP hD
  have hf := hf f10 ef10.symm
  exact ret_v hx hb hr hlk f10 hf hP hD hS dX4_put_77
