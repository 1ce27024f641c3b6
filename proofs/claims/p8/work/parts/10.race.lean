def wp_X2_become (v_windows : Int32) (v_dials : Nat → Int32) (v_clocks : Int32) (v_kind : Nat → Int32) (v_hands : Nat → Int32) (v_rate : Nat → Int32) (v_spring : Nat → Int32) (v_window : Nat → Int32) (v_finish : Nat → Int32) (v_skies : Int32) (v_sky : Nat → Int32) (v_hour : Int32) (v_heard : Int32) (v_strokes : Int32) (p1_windows : Int32) (p1_dials : Nat → Int32) (p1_clocks : Int32) (p1_kind : Nat → Int32) (p1_hands : Nat → Int32) (p1_rate : Nat → Int32) (p1_spring : Nat → Int32) (p1_window : Nat → Int32) (p1_finish : Nat → Int32) (p1_skies : Int32) (p1_sky : Nat → Int32) (p1_hour : Int32) (p1_heard : Int32) (p1_strokes : Int32) (post : (Int32) → (Nat → Int32) → (Int32) → (Nat → Int32) → (Nat → Int32) → (Nat → Int32) → (Nat → Int32) → (Nat → Int32) → (Nat → Int32) → (Int32) → (Nat → Int32) → (Int32) → (Int32) → (Int32) → Prop) : Prop :=
  (¬ (0 : Int32) < 0 ∧ ¬ (0 : Int32) < 0 ∧ ¬ (p1_windows : Int32) < 0 ∧ Int32.toNatClampNeg 0 + Int32.toNatClampNeg p1_windows ≤ 24 ∧ Int32.toNatClampNeg 0 + Int32.toNatClampNeg p1_windows ≤ 24 ∧ ∀ f1 : Nat → Int32, f1 = (va_cpy p1_dials v_dials (Int32.toNatClampNeg 0) (Int32.toNatClampNeg 0) (Int32.toNatClampNeg p1_windows)) → (¬ (0 : Int32) < 0 ∧ ¬ (0 : Int32) < 0 ∧ ¬ (p1_clocks : Int32) < 0 ∧ Int32.toNatClampNeg 0 + Int32.toNatClampNeg p1_clocks ≤ 9 ∧ Int32.toNatClampNeg 0 + Int32.toNatClampNeg p1_clocks ≤ 9 ∧ ∀ f2 : Nat → Int32, f2 = (va_cpy p1_kind v_kind (Int32.toNatClampNeg 0) (Int32.toNatClampNeg 0) (Int32.toNatClampNeg p1_clocks)) → (¬ (0 : Int32) < 0 ∧ ¬ (0 : Int32) < 0 ∧ ¬ (p1_clocks : Int32) < 0 ∧ Int32.toNatClampNeg 0 + Int32.toNatClampNeg p1_clocks ≤ 9 ∧ Int32.toNatClampNeg 0 + Int32.toNatClampNeg p1_clocks ≤ 9 ∧ ∀ f3 : Nat → Int32, f3 = (va_cpy p1_hands v_hands (Int32.toNatClampNeg 0) (Int32.toNatClampNeg 0) (Int32.toNatClampNeg p1_clocks)) → (¬ (0 : Int32) < 0 ∧ ¬ (0 : Int32) < 0 ∧ ¬ (p1_clocks : Int32) < 0 ∧ Int32.toNatClampNeg 0 + Int32.toNatClampNeg p1_clocks ≤ 9 ∧ Int32.toNatClampNeg 0 + Int32.toNatClampNeg p1_clocks ≤ 9 ∧ ∀ f4 : Nat → Int32, f4 = (va_cpy p1_rate v_rate (Int32.toNatClampNeg 0) (Int32.toNatClampNeg 0) (Int32.toNatClampNeg p1_clocks)) → (¬ (0 : Int32) < 0 ∧ ¬ (0 : Int32) < 0 ∧ ¬ (p1_clocks : Int32) < 0 ∧ Int32.toNatClampNeg 0 + Int32.toNatClampNeg p1_clocks ≤ 9 ∧ Int32.toNatClampNeg 0 + Int32.toNatClampNeg p1_clocks ≤ 9 ∧ ∀ f5 : Nat → Int32, f5 = (va_cpy p1_spring v_spring (Int32.toNatClampNeg 0) (Int32.toNatClampNeg 0) (Int32.toNatClampNeg p1_clocks)) → (¬ (0 : Int32) < 0 ∧ ¬ (0 : Int32) < 0 ∧ ¬ (p1_clocks : Int32) < 0 ∧ Int32.toNatClampNeg 0 + Int32.toNatClampNeg p1_clocks ≤ 9 ∧ Int32.toNatClampNeg 0 + Int32.toNatClampNeg p1_clocks ≤ 9 ∧ ∀ f6 : Nat → Int32, f6 = (va_cpy p1_window v_window (Int32.toNatClampNeg 0) (Int32.toNatClampNeg 0) (Int32.toNatClampNeg p1_clocks)) → (¬ (0 : Int32) < 0 ∧ ¬ (0 : Int32) < 0 ∧ ¬ (p1_clocks : Int32) < 0 ∧ Int32.toNatClampNeg 0 + Int32.toNatClampNeg p1_clocks ≤ 9 ∧ Int32.toNatClampNeg 0 + Int32.toNatClampNeg p1_clocks ≤ 9 ∧ ∀ f7 : Nat → Int32, f7 = (va_cpy p1_finish v_finish (Int32.toNatClampNeg 0) (Int32.toNatClampNeg 0) (Int32.toNatClampNeg p1_clocks)) → (¬ (0 : Int32) < 0 ∧ ¬ (0 : Int32) < 0 ∧ ¬ (p1_skies : Int32) < 0 ∧ Int32.toNatClampNeg 0 + Int32.toNatClampNeg p1_skies ≤ 12 ∧ Int32.toNatClampNeg 0 + Int32.toNatClampNeg p1_skies ≤ 12 ∧ ∀ f8 : Nat → Int32, f8 = (va_cpy p1_sky v_sky (Int32.toNatClampNeg 0) (Int32.toNatClampNeg 0) (Int32.toNatClampNeg p1_skies)) → (post p1_windows f1 p1_clocks f2 f3 f4 f5 f6 f7 p1_skies f8 p1_hour p1_heard p1_strokes)))))))))
set_option maxHeartbeats 4000000 in
set_option maxRecDepth 100000 in
theorem c_X2_become (l : Launch) (G : va_G) (k : Nat → ClassId) (a : Nat → Nat) (b1 : Nat → Nat) (v_windows : Int32) (v_dials : Nat → Int32) (v_clocks : Int32) (v_kind : Nat → Int32) (v_hands : Nat → Int32) (v_rate : Nat → Int32) (v_spring : Nat → Int32) (v_window : Nat → Int32) (v_finish : Nat → Int32) (v_skies : Int32) (v_sky : Nat → Int32) (v_hour : Int32) (v_heard : Int32) (v_strokes : Int32) (p1_windows : Int32) (p1_dials : Nat → Int32) (p1_clocks : Int32) (p1_kind : Nat → Int32) (p1_hands : Nat → Int32) (p1_rate : Nat → Int32) (p1_spring : Nat → Int32) (p1_window : Nat → Int32) (p1_finish : Nat → Int32) (p1_skies : Int32) (p1_sky : Nat → Int32) (p1_hour : Int32) (p1_heard : Int32) (p1_strokes : Int32) (post : (Int32) → (Nat → Int32) → (Int32) → (Nat → Int32) → (Nat → Int32) → (Nat → Int32) → (Nat → Int32) → (Nat → Int32) → (Nat → Int32) → (Int32) → (Nat → Int32) → (Int32) → (Int32) → (Int32) → Prop) (hf : wp_X2_become v_windows v_dials v_clocks v_kind v_hands v_rate v_spring v_window v_finish v_skies v_sky v_hour v_heard v_strokes p1_windows p1_dials p1_clocks p1_kind p1_hands p1_rate p1_spring p1_window p1_finish p1_skies p1_sky p1_hour p1_heard p1_strokes post) : MV (S := (Int32) × (Nat → Int32) × (Int32) × (Nat → Int32) × (Nat → Int32) × (Nat → Int32) × (Nat → Int32) × (Nat → Int32) × (Nat → Int32) × (Int32) × (Nat → Int32) × (Int32) × (Int32) × (Int32)) l G k yX2_become (Cond.code yX2_become cX2_become 2 none :: wT) 1 18 [.ref (a 0), .ref (b1 0)] (sgX2 k a v_windows v_dials v_clocks v_kind v_hands v_rate v_spring v_window v_finish v_skies v_sky v_hour v_heard v_strokes ++ sgX2 k b1 p1_windows p1_dials p1_clocks p1_kind p1_hands p1_rate p1_spring p1_window p1_finish p1_skies p1_sky p1_hour p1_heard p1_strokes) (fun u => (sgX2 k a u.1 u.2.1 u.2.2.1 u.2.2.2.1 u.2.2.2.2.1 u.2.2.2.2.2.1 u.2.2.2.2.2.2.1 u.2.2.2.2.2.2.2.1 u.2.2.2.2.2.2.2.2.1 u.2.2.2.2.2.2.2.2.2.1 u.2.2.2.2.2.2.2.2.2.2.1 u.2.2.2.2.2.2.2.2.2.2.2.1 u.2.2.2.2.2.2.2.2.2.2.2.2.1 u.2.2.2.2.2.2.2.2.2.2.2.2.2 ++ sgX2 k b1 p1_windows p1_dials p1_clocks p1_kind p1_hands p1_rate p1_spring p1_window p1_finish p1_skies p1_sky p1_hour p1_heard p1_strokes)) (fun u => post u.1 u.2.1 u.2.2.1 u.2.2.2.1 u.2.2.2.2.1 u.2.2.2.2.2.1 u.2.2.2.2.2.2.1 u.2.2.2.2.2.2.2.1 u.2.2.2.2.2.2.2.2.1 u.2.2.2.2.2.2.2.2.2.1 u.2.2.2.2.2.2.2.2.2.2.1 u.2.2.2.2.2.2.2.2.2.2.2.1 u.2.2.2.2.2.2.2.2.2.2.2.2.1 u.2.2.2.2.2.2.2.2.2.2.2.2.2) := by
  refine mv_start (cc := cX2_become) (maxL := 2) (ret := none) (by decide) [(0, .ref (a 0)), (1, .ref (b1 0))] rfl (Nat.le_of_ble_eq_true rfl) ?_
  intro p e s m below meth c A ls hx hb hr hlk hml hown hts hK hP hD hA hS hX hl
  have hown : s.vm.findClass RX2 = some m.cls := hown
  unfold wp_X2_become at hf
  have hH0 : s.heap = s.heap := rfl
  refine lv_aload_n hx hb dX2_become_0 rfl (lv_at hl 0 rfl) ?_
  refine lv_aload_n hx hb dX2_become_1 rfl (lv_at hl 1 rfl) ?_
  refine va_get (D := G) (ci := 2) (v := .int p1_windows) (C := RX2) (T := TX2) (N := 14) hx hb hts inX2 hown hK hP 9 rfl rfl 0 (by decide) (hts _ mw105) (fun _ h9 => h9) rfl dX2_become_2 ?_
  refine va_put (D := G) (ci := 2) (v := .int p1_windows) (ty := .int) (C := RX2) (T := TX2) (N := 14) hx hb hts inX2 tyX2 tyX2_ok nmX2 hown hK hP hD hS 0 rfl rfl 0 (by decide) (hts _ mw105) (fun _ h9 => h9) rfl (by decide +kernel) rfl rfl (Nat.le_of_ble_eq_true rfl) dX2_become_5 (fun H locs hP hD hS => ?_)
  have hP : va_P G vwCl (sgX2 k a p1_windows v_dials v_clocks v_kind v_hands v_rate v_spring v_window v_finish v_skies v_sky v_hour v_heard v_strokes ++ sgX2 k b1 p1_windows p1_dials p1_clocks p1_kind p1_hands p1_rate p1_spring p1_window p1_finish p1_skies p1_sky p1_hour p1_heard p1_strokes) H := hP
  have hD : va_D A (sgX2 k a p1_windows v_dials v_clocks v_kind v_hands v_rate v_spring v_window v_finish v_skies v_sky v_hour v_heard v_strokes ++ sgX2 k b1 p1_windows p1_dials p1_clocks p1_kind p1_hands p1_rate p1_spring p1_window p1_finish p1_skies p1_sky p1_hour p1_heard p1_strokes) := hD
  refine lv_aload_n hx hb dX2_become_8 rfl (lv_at hl 1 rfl) ?_
  refine va_get (D := G) (ci := 2) (v := .ref (b1 1)) (C := RX2) (T := TX2) (N := 14) hx hb hts inX2 hown hK hP 9 rfl rfl 1 (by decide) (hts _ mw107) (fun _ h9 => h9) rfl dX2_become_9 ?_
  refine lv_iconst (v := 0) hx hb dX2_become_12 (by decide) ?_
  refine lv_aload_n hx hb dX2_become_13 rfl (lv_at hl 0 rfl) ?_
  refine va_get (D := G) (ci := 2) (v := .ref (a 1)) (C := RX2) (T := TX2) (N := 14) hx hb hts inX2 hown hK hP 0 rfl rfl 1 (by decide) (hts _ mw107) (fun _ h9 => h9) rfl dX2_become_14 ?_
  refine lv_iconst (v := 0) hx hb dX2_become_17 (by decide) ?_
  refine lv_aload_n hx hb dX2_become_18 rfl (lv_at hl 0 rfl) ?_
  refine va_get (D := G) (ci := 2) (v := .int p1_windows) (C := RX2) (T := TX2) (N := 14) hx hb hts inX2 hown hK hP 0 rfl rfl 0 (by decide) (hts _ mw105) (fun _ h9 => h9) rfl dX2_become_19 ?_
  obtain ⟨h1, h2, h3, h4, h5, hf⟩ := hf
  refine va_copyi (ty := .int) hx hb (hml.trans hl.1.symm) hown (hts _ mw409) (hts _ mw411) (hts _ mw410) (hts _ mw78) hK hP hD hS 10 1 0 0 rfl rfl rfl rfl rfl h1 h2 h3 h4 h5 (fun _ _ => rfl) (Nat.le_of_ble_eq_true rfl) (Nat.le_of_ble_eq_true rfl) dX2_become_22 (fun H locs hP hD hS => ?_)
  have hP : va_P G vwCl (sgX2 k a p1_windows (va_cpy p1_dials v_dials (Int32.toNatClampNeg 0) (Int32.toNatClampNeg 0) (Int32.toNatClampNeg p1_windows)) v_clocks v_kind v_hands v_rate v_spring v_window v_finish v_skies v_sky v_hour v_heard v_strokes ++ sgX2 k b1 p1_windows p1_dials p1_clocks p1_kind p1_hands p1_rate p1_spring p1_window p1_finish p1_skies p1_sky p1_hour p1_heard p1_strokes) H := hP
  have hD : va_D A (sgX2 k a p1_windows (va_cpy p1_dials v_dials (Int32.toNatClampNeg 0) (Int32.toNatClampNeg 0) (Int32.toNatClampNeg p1_windows)) v_clocks v_kind v_hands v_rate v_spring v_window v_finish v_skies v_sky v_hour v_heard v_strokes ++ sgX2 k b1 p1_windows p1_dials p1_clocks p1_kind p1_hands p1_rate p1_spring p1_window p1_finish p1_skies p1_sky p1_hour p1_heard p1_strokes) := hD
  generalize ef1 : (va_cpy p1_dials v_dials (Int32.toNatClampNeg 0) (Int32.toNatClampNeg 0) (Int32.toNatClampNeg p1_windows)) = f1 at hP hD
  have hf := hf f1 ef1.symm
  refine lv_aload_n hx hb dX2_become_25 rfl (lv_at hl 0 rfl) ?_
  refine lv_aload_n hx hb dX2_become_26 rfl (lv_at hl 1 rfl) ?_
  refine va_get (D := G) (ci := 2) (v := .int p1_clocks) (C := RX2) (T := TX2) (N := 14) hx hb hts inX2 hown hK hP 9 rfl rfl 2 (by decide) (hts _ mw110) (fun _ h9 => h9) rfl dX2_become_27 ?_
  refine va_put (D := G) (ci := 2) (v := .int p1_clocks) (ty := .int) (C := RX2) (T := TX2) (N := 14) hx hb hts inX2 tyX2 tyX2_ok nmX2 hown hK hP hD hS 0 rfl rfl 2 (by decide) (hts _ mw110) (fun _ h9 => h9) rfl (by decide +kernel) rfl rfl (Nat.le_of_ble_eq_true rfl) dX2_become_30 (fun H locs hP hD hS => ?_)
  have hP : va_P G vwCl (sgX2 k a p1_windows f1 p1_clocks v_kind v_hands v_rate v_spring v_window v_finish v_skies v_sky v_hour v_heard v_strokes ++ sgX2 k b1 p1_windows p1_dials p1_clocks p1_kind p1_hands p1_rate p1_spring p1_window p1_finish p1_skies p1_sky p1_hour p1_heard p1_strokes) H := hP
  have hD : va_D A (sgX2 k a p1_windows f1 p1_clocks v_kind v_hands v_rate v_spring v_window v_finish v_skies v_sky v_hour v_heard v_strokes ++ sgX2 k b1 p1_windows p1_dials p1_clocks p1_kind p1_hands p1_rate p1_spring p1_window p1_finish p1_skies p1_sky p1_hour p1_heard p1_strokes) := hD
  refine lv_aload_n hx hb dX2_become_33 rfl (lv_at hl 1 rfl) ?_
  refine va_get (D := G) (ci := 2) (v := .ref (b1 2)) (C := RX2) (T := TX2) (N := 14) hx hb hts inX2 hown hK hP 9 rfl rfl 3 (by decide) (hts _ mw112) (fun _ h9 => h9) rfl dX2_become_34 ?_
  refine lv_iconst (v := 0) hx hb dX2_become_37 (by decide) ?_
  refine lv_aload_n hx hb dX2_become_38 rfl (lv_at hl 0 rfl) ?_
  refine va_get (D := G) (ci := 2) (v := .ref (a 2)) (C := RX2) (T := TX2) (N := 14) hx hb hts inX2 hown hK hP 0 rfl rfl 3 (by decide) (hts _ mw112) (fun _ h9 => h9) rfl dX2_become_39 ?_
  refine lv_iconst (v := 0) hx hb dX2_become_42 (by decide) ?_
  refine lv_aload_n hx hb dX2_become_43 rfl (lv_at hl 0 rfl) ?_
  refine va_get (D := G) (ci := 2) (v := .int p1_clocks) (C := RX2) (T := TX2) (N := 14) hx hb hts inX2 hown hK hP 0 rfl rfl 2 (by decide) (hts _ mw110) (fun _ h9 => h9) rfl dX2_become_44 ?_
  obtain ⟨h1, h2, h3, h4, h5, hf⟩ := hf
  refine va_copyi (ty := .int) hx hb (hml.trans hl.1.symm) hown (hts _ mw409) (hts _ mw411) (hts _ mw410) (hts _ mw78) hK hP hD hS 11 2 0 0 rfl rfl rfl rfl rfl h1 h2 h3 h4 h5 (fun _ _ => rfl) (Nat.le_of_ble_eq_true rfl) (Nat.le_of_ble_eq_true rfl) dX2_become_47 (fun H locs hP hD hS => ?_)
  have hP : va_P G vwCl (sgX2 k a p1_windows f1 p1_clocks (va_cpy p1_kind v_kind (Int32.toNatClampNeg 0) (Int32.toNatClampNeg 0) (Int32.toNatClampNeg p1_clocks)) v_hands v_rate v_spring v_window v_finish v_skies v_sky v_hour v_heard v_strokes ++ sgX2 k b1 p1_windows p1_dials p1_clocks p1_kind p1_hands p1_rate p1_spring p1_window p1_finish p1_skies p1_sky p1_hour p1_heard p1_strokes) H := hP
  have hD : va_D A (sgX2 k a p1_windows f1 p1_clocks (va_cpy p1_kind v_kind (Int32.toNatClampNeg 0) (Int32.toNatClampNeg 0) (Int32.toNatClampNeg p1_clocks)) v_hands v_rate v_spring v_window v_finish v_skies v_sky v_hour v_heard v_strokes ++ sgX2 k b1 p1_windows p1_dials p1_clocks p1_kind p1_hands p1_rate p1_spring p1_window p1_finish p1_skies p1_sky p1_hour p1_heard p1_strokes) := hD
  generalize ef2 : (va_cpy p1_kind v_kind (Int32.toNatClampNeg 0) (Int32.toNatClampNeg 0) (Int32.toNatClampNeg p1_clocks)) = f2 at hP hD
  have hf := hf f2 ef2.symm
  refine lv_aload_n hx hb dX2_become_50 rfl (lv_at hl 1 rfl) ?_
  refine va_get (D := G) (ci := 2) (v := .ref (b1 3)) (C := RX2) (T := TX2) (N := 14) hx hb hts inX2 hown hK hP 9 rfl rfl 4 (by decide) (hts _ mw114) (fun _ h9 => h9) rfl dX2_become_51 ?_
  refine lv_iconst (v := 0) hx hb dX2_become_54 (by decide) ?_
  refine lv_aload_n hx hb dX2_become_55 rfl (lv_at hl 0 rfl) ?_
  refine va_get (D := G) (ci := 2) (v := .ref (a 3)) (C := RX2) (T := TX2) (N := 14) hx hb hts inX2 hown hK hP 0 rfl rfl 4 (by decide) (hts _ mw114) (fun _ h9 => h9) rfl dX2_become_56 ?_
  refine lv_iconst (v := 0) hx hb dX2_become_59 (by decide) ?_
  refine lv_aload_n hx hb dX2_become_60 rfl (lv_at hl 0 rfl) ?_
  refine va_get (D := G) (ci := 2) (v := .int p1_clocks) (C := RX2) (T := TX2) (N := 14) hx hb hts inX2 hown hK hP 0 rfl rfl 2 (by decide) (hts _ mw110) (fun _ h9 => h9) rfl dX2_become_61 ?_
  obtain ⟨h1, h2, h3, h4, h5, hf⟩ := hf
  refine va_copyi (ty := .int) hx hb (hml.trans hl.1.symm) hown (hts _ mw409) (hts _ mw411) (hts _ mw410) (hts _ mw78) hK hP hD hS 12 3 0 0 rfl rfl rfl rfl rfl h1 h2 h3 h4 h5 (fun _ _ => rfl) (Nat.le_of_ble_eq_true rfl) (Nat.le_of_ble_eq_true rfl) dX2_become_64 (fun H locs hP hD hS => ?_)
  have hP : va_P G vwCl (sgX2 k a p1_windows f1 p1_clocks f2 (va_cpy p1_hands v_hands (Int32.toNatClampNeg 0) (Int32.toNatClampNeg 0) (Int32.toNatClampNeg p1_clocks)) v_rate v_spring v_window v_finish v_skies v_sky v_hour v_heard v_strokes ++ sgX2 k b1 p1_windows p1_dials p1_clocks p1_kind p1_hands p1_rate p1_spring p1_window p1_finish p1_skies p1_sky p1_hour p1_heard p1_strokes) H := hP
  have hD : va_D A (sgX2 k a p1_windows f1 p1_clocks f2 (va_cpy p1_hands v_hands (Int32.toNatClampNeg 0) (Int32.toNatClampNeg 0) (Int32.toNatClampNeg p1_clocks)) v_rate v_spring v_window v_finish v_skies v_sky v_hour v_heard v_strokes ++ sgX2 k b1 p1_windows p1_dials p1_clocks p1_kind p1_hands p1_rate p1_spring p1_window p1_finish p1_skies p1_sky p1_hour p1_heard p1_strokes) := hD
  generalize ef3 : (va_cpy p1_hands v_hands (Int32.toNatClampNeg 0) (Int32.toNatClampNeg 0) (Int32.toNatClampNeg p1_clocks)) = f3 at hP hD
  have hf := hf f3 ef3.symm
  refine lv_aload_n hx hb dX2_become_67 rfl (lv_at hl 1 rfl) ?_
  refine va_get (D := G) (ci := 2) (v := .ref (b1 4)) (C := RX2) (T := TX2) (N := 14) hx hb hts inX2 hown hK hP 9 rfl rfl 5 (by decide) (hts _ mw117) (fun _ h9 => h9) rfl dX2_become_68 ?_
  refine lv_iconst (v := 0) hx hb dX2_become_71 (by decide) ?_
  refine lv_aload_n hx hb dX2_become_72 rfl (lv_at hl 0 rfl) ?_
  refine va_get (D := G) (ci := 2) (v := .ref (a 4)) (C := RX2) (T := TX2) (N := 14) hx hb hts inX2 hown hK hP 0 rfl rfl 5 (by decide) (hts _ mw117) (fun _ h9 => h9) rfl dX2_become_73 ?_
  refine lv_iconst (v := 0) hx hb dX2_become_76 (by decide) ?_
  refine lv_aload_n hx hb dX2_become_77 rfl (lv_at hl 0 rfl) ?_
  refine va_get (D := G) (ci := 2) (v := .int p1_clocks) (C := RX2) (T := TX2) (N := 14) hx hb hts inX2 hown hK hP 0 rfl rfl 2 (by decide) (hts _ mw110) (fun _ h9 => h9) rfl dX2_become_78 ?_
  obtain ⟨h1, h2, h3, h4, h5, hf⟩ := hf
  refine va_copyi (ty := .int) hx hb (hml.trans hl.1.symm) hown (hts _ mw409) (hts _ mw411) (hts _ mw410) (hts _ mw78) hK hP hD hS 13 4 0 0 rfl rfl rfl rfl rfl h1 h2 h3 h4 h5 (fun _ _ => rfl) (Nat.le_of_ble_eq_true rfl) (Nat.le_of_ble_eq_true rfl) dX2_become_81 (fun H locs hP hD hS => ?_)
  have hP : va_P G vwCl (sgX2 k a p1_windows f1 p1_clocks f2 f3 (va_cpy p1_rate v_rate (Int32.toNatClampNeg 0) (Int32.toNatClampNeg 0) (Int32.toNatClampNeg p1_clocks)) v_spring v_window v_finish v_skies v_sky v_hour v_heard v_strokes ++ sgX2 k b1 p1_windows p1_dials p1_clocks p1_kind p1_hands p1_rate p1_spring p1_window p1_finish p1_skies p1_sky p1_hour p1_heard p1_strokes) H := hP
  have hD : va_D A (sgX2 k a p1_windows f1 p1_clocks f2 f3 (va_cpy p1_rate v_rate (Int32.toNatClampNeg 0) (Int32.toNatClampNeg 0) (Int32.toNatClampNeg p1_clocks)) v_spring v_window v_finish v_skies v_sky v_hour v_heard v_strokes ++ sgX2 k b1 p1_windows p1_dials p1_clocks p1_kind p1_hands p1_rate p1_spring p1_window p1_finish p1_skies p1_sky p1_hour p1_heard p1_strokes) := hD
  generalize ef4 : (va_cpy p1_rate v_rate (Int32.toNatClampNeg 0) (Int32.toNatClampNeg 0) (Int32.toNatClampNeg p1_clocks)) = f4 at hP hD
  have hf := hf f4 ef4.symm
  refine lv_aload_n hx hb dX2_become_84 rfl (lv_at hl 1 rfl) ?_
  refine va_get (D := G) (ci := 2) (v := .ref (b1 5)) (C := RX2) (T := TX2) (N := 14) hx hb hts inX2 hown hK hP 9 rfl rfl 6 (by decide) (hts _ mw120) (fun _ h9 => h9) rfl dX2_become_85 ?_
  refine lv_iconst (v := 0) hx hb dX2_become_88 (by decide) ?_
  refine lv_aload_n hx hb dX2_become_89 rfl (lv_at hl 0 rfl) ?_
  refine va_get (D := G) (ci := 2) (v := .ref (a 5)) (C := RX2) (T := TX2) (N := 14) hx hb hts inX2 hown hK hP 0 rfl rfl 6 (by decide) (hts _ mw120) (fun _ h9 => h9) rfl dX2_become_90 ?_
  refine lv_iconst (v := 0) hx hb dX2_become_93 (by decide) ?_
  refine lv_aload_n hx hb dX2_become_94 rfl (lv_at hl 0 rfl) ?_
  refine va_get (D := G) (ci := 2) (v := .int p1_clocks) (C := RX2) (T := TX2) (N := 14) hx hb hts inX2 hown hK hP 0 rfl rfl 2 (by decide) (hts _ mw110) (fun _ h9 => h9) rfl dX2_become_95 ?_
  obtain ⟨h1, h2, h3, h4, h5, hf⟩ := hf
  refine va_copyi (ty := .int) hx hb (hml.trans hl.1.symm) hown (hts _ mw409) (hts _ mw411) (hts _ mw410) (hts _ mw78) hK hP hD hS 14 5 0 0 rfl rfl rfl rfl rfl h1 h2 h3 h4 h5 (fun _ _ => rfl) (Nat.le_of_ble_eq_true rfl) (Nat.le_of_ble_eq_true rfl) dX2_become_98 (fun H locs hP hD hS => ?_)
  have hP : va_P G vwCl (sgX2 k a p1_windows f1 p1_clocks f2 f3 f4 (va_cpy p1_spring v_spring (Int32.toNatClampNeg 0) (Int32.toNatClampNeg 0) (Int32.toNatClampNeg p1_clocks)) v_window v_finish v_skies v_sky v_hour v_heard v_strokes ++ sgX2 k b1 p1_windows p1_dials p1_clocks p1_kind p1_hands p1_rate p1_spring p1_window p1_finish p1_skies p1_sky p1_hour p1_heard p1_strokes) H := hP
  have hD : va_D A (sgX2 k a p1_windows f1 p1_clocks f2 f3 f4 (va_cpy p1_spring v_spring (Int32.toNatClampNeg 0) (Int32.toNatClampNeg 0) (Int32.toNatClampNeg p1_clocks)) v_window v_finish v_skies v_sky v_hour v_heard v_strokes ++ sgX2 k b1 p1_windows p1_dials p1_clocks p1_kind p1_hands p1_rate p1_spring p1_window p1_finish p1_skies p1_sky p1_hour p1_heard p1_strokes) := hD
  generalize ef5 : (va_cpy p1_spring v_spring (Int32.toNatClampNeg 0) (Int32.toNatClampNeg 0) (Int32.toNatClampNeg p1_clocks)) = f5 at hP hD
  have hf := hf f5 ef5.symm
  refine lv_aload_n hx hb dX2_become_101 rfl (lv_at hl 1 rfl) ?_
  refine va_get (D := G) (ci := 2) (v := .ref (b1 6)) (C := RX2) (T := TX2) (N := 14) hx hb hts inX2 hown hK hP 9 rfl rfl 7 (by decide) (hts _ mw123) (fun _ h9 => h9) rfl dX2_become_102 ?_
  refine lv_iconst (v := 0) hx hb dX2_become_105 (by decide) ?_
  refine lv_aload_n hx hb dX2_become_106 rfl (lv_at hl 0 rfl) ?_
  refine va_get (D := G) (ci := 2) (v := .ref (a 6)) (C := RX2) (T := TX2) (N := 14) hx hb hts inX2 hown hK hP 0 rfl rfl 7 (by decide) (hts _ mw123) (fun _ h9 => h9) rfl dX2_become_107 ?_
  refine lv_iconst (v := 0) hx hb dX2_become_110 (by decide) ?_
  refine lv_aload_n hx hb dX2_become_111 rfl (lv_at hl 0 rfl) ?_
  refine va_get (D := G) (ci := 2) (v := .int p1_clocks) (C := RX2) (T := TX2) (N := 14) hx hb hts inX2 hown hK hP 0 rfl rfl 2 (by decide) (hts _ mw110) (fun _ h9 => h9) rfl dX2_become_112 ?_
  obtain ⟨h1, h2, h3, h4, h5, hf⟩ := hf
  refine va_copyi (ty := .int) hx hb (hml.trans hl.1.symm) hown (hts _ mw409) (hts _ mw411) (hts _ mw410) (hts _ mw78) hK hP hD hS 15 6 0 0 rfl rfl rfl rfl rfl h1 h2 h3 h4 h5 (fun _ _ => rfl) (Nat.le_of_ble_eq_true rfl) (Nat.le_of_ble_eq_true rfl) dX2_become_115 (fun H locs hP hD hS => ?_)
  have hP : va_P G vwCl (sgX2 k a p1_windows f1 p1_clocks f2 f3 f4 f5 (va_cpy p1_window v_window (Int32.toNatClampNeg 0) (Int32.toNatClampNeg 0) (Int32.toNatClampNeg p1_clocks)) v_finish v_skies v_sky v_hour v_heard v_strokes ++ sgX2 k b1 p1_windows p1_dials p1_clocks p1_kind p1_hands p1_rate p1_spring p1_window p1_finish p1_skies p1_sky p1_hour p1_heard p1_strokes) H := hP
  have hD : va_D A (sgX2 k a p1_windows f1 p1_clocks f2 f3 f4 f5 (va_cpy p1_window v_window (Int32.toNatClampNeg 0) (Int32.toNatClampNeg 0) (Int32.toNatClampNeg p1_clocks)) v_finish v_skies v_sky v_hour v_heard v_strokes ++ sgX2 k b1 p1_windows p1_dials p1_clocks p1_kind p1_hands p1_rate p1_spring p1_window p1_finish p1_skies p1_sky p1_hour p1_heard p1_strokes) := hD
  generalize ef6 : (va_cpy p1_window v_window (Int32.toNatClampNeg 0) (Int32.toNatClampNeg 0) (Int32.toNatClampNeg p1_clocks)) = f6 at hP hD
  have hf := hf f6 ef6.symm
  refine lv_aload_n hx hb dX2_become_118 rfl (lv_at hl 1 rfl) ?_
  refine va_get (D := G) (ci := 2) (v := .ref (b1 7)) (C := RX2) (T := TX2) (N := 14) hx hb hts inX2 hown hK hP 9 rfl rfl 8 (by decide) (hts _ mw125) (fun _ h9 => h9) rfl dX2_become_119 ?_
  refine lv_iconst (v := 0) hx hb dX2_become_122 (by decide) ?_
  refine lv_aload_n hx hb dX2_become_123 rfl (lv_at hl 0 rfl) ?_
  refine va_get (D := G) (ci := 2) (v := .ref (a 7)) (C := RX2) (T := TX2) (N := 14) hx hb hts inX2 hown hK hP 0 rfl rfl 8 (by decide) (hts _ mw125) (fun _ h9 => h9) rfl dX2_become_124 ?_
  refine lv_iconst (v := 0) hx hb dX2_become_127 (by decide) ?_
  refine lv_aload_n hx hb dX2_become_128 rfl (lv_at hl 0 rfl) ?_
  refine va_get (D := G) (ci := 2) (v := .int p1_clocks) (C := RX2) (T := TX2) (N := 14) hx hb hts inX2 hown hK hP 0 rfl rfl 2 (by decide) (hts _ mw110) (fun _ h9 => h9) rfl dX2_become_129 ?_
  obtain ⟨h1, h2, h3, h4, h5, hf⟩ := hf
  refine va_copyi (ty := .int) hx hb (hml.trans hl.1.symm) hown (hts _ mw409) (hts _ mw411) (hts _ mw410) (hts _ mw78) hK hP hD hS 16 7 0 0 rfl rfl rfl rfl rfl h1 h2 h3 h4 h5 (fun _ _ => rfl) (Nat.le_of_ble_eq_true rfl) (Nat.le_of_ble_eq_true rfl) dX2_become_132 (fun H locs hP hD hS => ?_)
  have hP : va_P G vwCl (sgX2 k a p1_windows f1 p1_clocks f2 f3 f4 f5 f6 (va_cpy p1_finish v_finish (Int32.toNatClampNeg 0) (Int32.toNatClampNeg 0) (Int32.toNatClampNeg p1_clocks)) v_skies v_sky v_hour v_heard v_strokes ++ sgX2 k b1 p1_windows p1_dials p1_clocks p1_kind p1_hands p1_rate p1_spring p1_window p1_finish p1_skies p1_sky p1_hour p1_heard p1_strokes) H := hP
  have hD : va_D A (sgX2 k a p1_windows f1 p1_clocks f2 f3 f4 f5 f6 (va_cpy p1_finish v_finish (Int32.toNatClampNeg 0) (Int32.toNatClampNeg 0) (Int32.toNatClampNeg p1_clocks)) v_skies v_sky v_hour v_heard v_strokes ++ sgX2 k b1 p1_windows p1_dials p1_clocks p1_kind p1_hands p1_rate p1_spring p1_window p1_finish p1_skies p1_sky p1_hour p1_heard p1_strokes) := hD
  generalize ef7 : (va_cpy p1_finish v_finish (Int32.toNatClampNeg 0) (Int32.toNatClampNeg 0) (Int32.toNatClampNeg p1_clocks)) = f7 at hP hD
  have hf := hf f7 ef7.symm
  refine lv_aload_n hx hb dX2_become_135 rfl (lv_at hl 0 rfl) ?_
  refine lv_aload_n hx hb dX2_become_136 rfl (lv_at hl 1 rfl) ?_
  refine va_get (D := G) (ci := 2) (v := .int p1_skies) (C := RX2) (T := TX2) (N := 14) hx hb hts inX2 hown hK hP 9 rfl rfl 9 (by decide) (hts _ mw127) (fun _ h9 => h9) rfl dX2_become_137 ?_
  refine va_put (D := G) (ci := 2) (v := .int p1_skies) (ty := .int) (C := RX2) (T := TX2) (N := 14) hx hb hts inX2 tyX2 tyX2_ok nmX2 hown hK hP hD hS 0 rfl rfl 9 (by decide) (hts _ mw127) (fun _ h9 => h9) rfl (by decide +kernel) rfl rfl (Nat.le_of_ble_eq_true rfl) dX2_become_140 (fun H locs hP hD hS => ?_)
  have hP : va_P G vwCl (sgX2 k a p1_windows f1 p1_clocks f2 f3 f4 f5 f6 f7 p1_skies v_sky v_hour v_heard v_strokes ++ sgX2 k b1 p1_windows p1_dials p1_clocks p1_kind p1_hands p1_rate p1_spring p1_window p1_finish p1_skies p1_sky p1_hour p1_heard p1_strokes) H := hP
  have hD : va_D A (sgX2 k a p1_windows f1 p1_clocks f2 f3 f4 f5 f6 f7 p1_skies v_sky v_hour v_heard v_strokes ++ sgX2 k b1 p1_windows p1_dials p1_clocks p1_kind p1_hands p1_rate p1_spring p1_window p1_finish p1_skies p1_sky p1_hour p1_heard p1_strokes) := hD
  refine lv_aload_n hx hb dX2_become_143 rfl (lv_at hl 1 rfl) ?_
  refine va_get (D := G) (ci := 2) (v := .ref (b1 8)) (C := RX2) (T := TX2) (N := 14) hx hb hts inX2 hown hK hP 9 rfl rfl 10 (by decide) (hts _ mw129) (fun _ h9 => h9) rfl dX2_become_144 ?_
  refine lv_iconst (v := 0) hx hb dX2_become_147 (by decide) ?_
  refine lv_aload_n hx hb dX2_become_148 rfl (lv_at hl 0 rfl) ?_
  refine va_get (D := G) (ci := 2) (v := .ref (a 8)) (C := RX2) (T := TX2) (N := 14) hx hb hts inX2 hown hK hP 0 rfl rfl 10 (by decide) (hts _ mw129) (fun _ h9 => h9) rfl dX2_become_149 ?_
  refine lv_iconst (v := 0) hx hb dX2_become_152 (by decide) ?_
  refine lv_aload_n hx hb dX2_become_153 rfl (lv_at hl 0 rfl) ?_
  refine va_get (D := G) (ci := 2) (v := .int p1_skies) (C := RX2) (T := TX2) (N := 14) hx hb hts inX2 hown hK hP 0 rfl rfl 9 (by decide) (hts _ mw127) (fun _ h9 => h9) rfl dX2_become_154 ?_
  obtain ⟨h1, h2, h3, h4, h5, hf⟩ := hf
  refine va_copyi (ty := .int) hx hb (hml.trans hl.1.symm) hown (hts _ mw409) (hts _ mw411) (hts _ mw410) (hts _ mw78) hK hP hD hS 17 8 0 0 rfl rfl rfl rfl rfl h1 h2 h3 h4 h5 (fun _ _ => rfl) (Nat.le_of_ble_eq_true rfl) (Nat.le_of_ble_eq_true rfl) dX2_become_157 (fun H locs hP hD hS => ?_)
  have hP : va_P G vwCl (sgX2 k a p1_windows f1 p1_clocks f2 f3 f4 f5 f6 f7 p1_skies (va_cpy p1_sky v_sky (Int32.toNatClampNeg 0) (Int32.toNatClampNeg 0) (Int32.toNatClampNeg p1_skies)) v_hour v_heard v_strokes ++ sgX2 k b1 p1_windows p1_dials p1_clocks p1_kind p1_hands p1_rate p1_spring p1_window p1_finish p1_skies p1_sky p1_hour p1_heard p1_strokes) H := hP
  have hD : va_D A (sgX2 k a p1_windows f1 p1_clocks f2 f3 f4 f5 f6 f7 p1_skies (va_cpy p1_sky v_sky (Int32.toNatClampNeg 0) (Int32.toNatClampNeg 0) (Int32.toNatClampNeg p1_skies)) v_hour v_heard v_strokes ++ sgX2 k b1 p1_windows p1_dials p1_clocks p1_kind p1_hands p1_rate p1_spring p1_window p1_finish p1_skies p1_sky p1_hour p1_heard p1_strokes) := hD
  generalize ef8 : (va_cpy p1_sky v_sky (Int32.toNatClampNeg 0) (Int32.toNatClampNeg 0) (Int32.toNatClampNeg p1_skies)) = f8 at hP hD
  have hf := hf f8 ef8.symm
  refine lv_aload_n hx hb dX2_become_160 rfl (lv_at hl 0 rfl) ?_
  refine lv_aload_n hx hb dX2_become_161 rfl (lv_at hl 1 rfl) ?_
  refine va_get (D := G) (ci := 2) (v := .int p1_hour) (C := RX2) (T := TX2) (N := 14) hx hb hts inX2 hown hK hP 9 rfl rfl 11 (by decide) (hts _ mw131) (fun _ h9 => h9) rfl dX2_become_162 ?_
  refine va_put (D := G) (ci := 2) (v := .int p1_hour) (ty := .int) (C := RX2) (T := TX2) (N := 14) hx hb hts inX2 tyX2 tyX2_ok nmX2 hown hK hP hD hS 0 rfl rfl 11 (by decide) (hts _ mw131) (fun _ h9 => h9) rfl (by decide +kernel) rfl rfl (Nat.le_of_ble_eq_true rfl) dX2_become_165 (fun H locs hP hD hS => ?_)
  have hP : va_P G vwCl (sgX2 k a p1_windows f1 p1_clocks f2 f3 f4 f5 f6 f7 p1_skies f8 p1_hour v_heard v_strokes ++ sgX2 k b1 p1_windows p1_dials p1_clocks p1_kind p1_hands p1_rate p1_spring p1_window p1_finish p1_skies p1_sky p1_hour p1_heard p1_strokes) H := hP
  have hD : va_D A (sgX2 k a p1_windows f1 p1_clocks f2 f3 f4 f5 f6 f7 p1_skies f8 p1_hour v_heard v_strokes ++ sgX2 k b1 p1_windows p1_dials p1_clocks p1_kind p1_hands p1_rate p1_spring p1_window p1_finish p1_skies p1_sky p1_hour p1_heard p1_strokes) := hD
  refine lv_aload_n hx hb dX2_become_168 rfl (lv_at hl 0 rfl) ?_
  refine lv_aload_n hx hb dX2_become_169 rfl (lv_at hl 1 rfl) ?_
  refine va_get (D := G) (ci := 2) (v := .int p1_heard) (C := RX2) (T := TX2) (N := 14) hx hb hts inX2 hown hK hP 9 rfl rfl 12 (by decide) (hts _ mw133) (fun _ h9 => h9) rfl dX2_become_170 ?_
  refine va_put (D := G) (ci := 2) (v := .int p1_heard) (ty := .int) (C := RX2) (T := TX2) (N := 14) hx hb hts inX2 tyX2 tyX2_ok nmX2 hown hK hP hD hS 0 rfl rfl 12 (by decide) (hts _ mw133) (fun _ h9 => h9) rfl (by decide +kernel) rfl rfl (Nat.le_of_ble_eq_true rfl) dX2_become_173 (fun H locs hP hD hS => ?_)
  have hP : va_P G vwCl (sgX2 k a p1_windows f1 p1_clocks f2 f3 f4 f5 f6 f7 p1_skies f8 p1_hour p1_heard v_strokes ++ sgX2 k b1 p1_windows p1_dials p1_clocks p1_kind p1_hands p1_rate p1_spring p1_window p1_finish p1_skies p1_sky p1_hour p1_heard p1_strokes) H := hP
  have hD : va_D A (sgX2 k a p1_windows f1 p1_clocks f2 f3 f4 f5 f6 f7 p1_skies f8 p1_hour p1_heard v_strokes ++ sgX2 k b1 p1_windows p1_dials p1_clocks p1_kind p1_hands p1_rate p1_spring p1_window p1_finish p1_skies p1_sky p1_hour p1_heard p1_strokes) := hD
  refine lv_aload_n hx hb dX2_become_176 rfl (lv_at hl 0 rfl) ?_
  refine lv_aload_n hx hb dX2_become_177 rfl (lv_at hl 1 rfl) ?_
  refine va_get (D := G) (ci := 2) (v := .int p1_strokes) (C := RX2) (T := TX2) (N := 14) hx hb hts inX2 hown hK hP 9 rfl rfl 13 (by decide) (hts _ mw135) (fun _ h9 => h9) rfl dX2_become_178 ?_
  refine va_put (D := G) (ci := 2) (v := .int p1_strokes) (ty := .int) (C := RX2) (T := TX2) (N := 14) hx hb hts inX2 tyX2 tyX2_ok nmX2 hown hK hP hD hS 0 rfl rfl 13 (by decide) (hts _ mw135) (fun _ h9 => h9) rfl (by decide +kernel) rfl rfl (Nat.le_of_ble_eq_true rfl) dX2_become_181 (fun H locs hP hD hS => ?_)
  have hP : va_P G vwCl (sgX2 k a p1_windows f1 p1_clocks f2 f3 f4 f5 f6 f7 p1_skies f8 p1_hour p1_heard p1_strokes ++ sgX2 k b1 p1_windows p1_dials p1_clocks p1_kind p1_hands p1_rate p1_spring p1_window p1_finish p1_skies p1_sky p1_hour p1_heard p1_strokes) H := hP
  have hD : va_D A (sgX2 k a p1_windows f1 p1_clocks f2 f3 f4 f5 f6 f7 p1_skies f8 p1_hour p1_heard p1_strokes ++ sgX2 k b1 p1_windows p1_dials p1_clocks p1_kind p1_hands p1_rate p1_spring p1_window p1_finish p1_skies p1_sky p1_hour p1_heard p1_strokes) := hD
  exact ret_v hx hb hr hlk (p1_windows, f1, p1_clocks, f2, f3, f4, f5, f6, f7, p1_skies, f8, p1_hour, p1_heard, p1_strokes) hf hP hD hS dX2_become_184
def wp_X2_add (p1 : Int32) (p2 : Int32) (p3 : Int32) (p4 : Int32) (v_clocks : Int32) (v_kind : Nat → Int32) (v_hands : Nat → Int32) (v_rate : Nat → Int32) (v_spring : Nat → Int32) (v_window : Nat → Int32) (v_finish : Nat → Int32) (post : Int32 → (Int32) → (Nat → Int32) → (Nat → Int32) → (Nat → Int32) → (Nat → Int32) → (Nat → Int32) → (Nat → Int32) → Prop) : Prop :=
  (vp_in v_clocks 9 ∧ ∀ f1 : Nat → Int32, f1 = (upd v_kind (Int32.toNatClampNeg v_clocks) p1) → (vp_in v_clocks 9 ∧ ∀ f2 : Nat → Int32, f2 = (upd v_hands (Int32.toNatClampNeg v_clocks) p2) → (vp_in v_clocks 9 ∧ ∀ f3 : Nat → Int32, f3 = (upd v_rate (Int32.toNatClampNeg v_clocks) p3) → (vp_in v_clocks 9 ∧ ∀ f4 : Nat → Int32, f4 = (upd v_spring (Int32.toNatClampNeg v_clocks) p4) → (vp_in v_clocks 9 ∧ ∀ f5 : Nat → Int32, f5 = (upd v_window (Int32.toNatClampNeg v_clocks) 0) → (vp_in v_clocks 9 ∧ ∀ f6 : Nat → Int32, f6 = (upd v_finish (Int32.toNatClampNeg v_clocks) 0) → (∀ z7 : Int32, z7 = (v_clocks + 1) → (post v_clocks z7 f1 f2 f3 f4 f5 f6))))))))
set_option maxHeartbeats 4000000 in
set_option maxRecDepth 100000 in
theorem c_X2_add (l : Launch) (G : va_G) (k : Nat → ClassId) (a : Nat → Nat) (p1 : Int32) (p2 : Int32) (p3 : Int32) (p4 : Int32) (v_windows : Int32) (v_dials : Nat → Int32) (v_clocks : Int32) (v_kind : Nat → Int32) (v_hands : Nat → Int32) (v_rate : Nat → Int32) (v_spring : Nat → Int32) (v_window : Nat → Int32) (v_finish : Nat → Int32) (v_skies : Int32) (v_sky : Nat → Int32) (v_hour : Int32) (v_heard : Int32) (v_strokes : Int32) (post : Int32 → (Int32) → (Nat → Int32) → (Nat → Int32) → (Nat → Int32) → (Nat → Int32) → (Nat → Int32) → (Nat → Int32) → Prop) (hf : wp_X2_add p1 p2 p3 p4 v_clocks v_kind v_hands v_rate v_spring v_window v_finish post) : MI (S := (Int32) × (Nat → Int32) × (Nat → Int32) × (Nat → Int32) × (Nat → Int32) × (Nat → Int32) × (Nat → Int32)) l G k yX2_add (Cond.code yX2_add cX2_add 6 (some .int) :: wT) 0 0 [.ref (a 0), .int p1, .int p2, .int p3, .int p4] (sgX2 k a v_windows v_dials v_clocks v_kind v_hands v_rate v_spring v_window v_finish v_skies v_sky v_hour v_heard v_strokes) (fun u => (sgX2 k a v_windows v_dials u.1 u.2.1 u.2.2.1 u.2.2.2.1 u.2.2.2.2.1 u.2.2.2.2.2.1 u.2.2.2.2.2.2 v_skies v_sky v_hour v_heard v_strokes)) (fun r u => post r u.1 u.2.1 u.2.2.1 u.2.2.2.1 u.2.2.2.2.1 u.2.2.2.2.2.1 u.2.2.2.2.2.2) := by
  refine mi_start (cc := cX2_add) (maxL := 6) (ret := (some .int)) (by decide) [(0, .ref (a 0)), (1, .int p1), (2, .int p2), (3, .int p3), (4, .int p4)] rfl (Nat.le_of_ble_eq_true rfl) ?_
  intro p e s m below meth c A ls hx hb hr hlk hml hown hts hK hP hD hA hS hX hl
  have hown : s.vm.findClass RX2 = some m.cls := hown
  unfold wp_X2_add at hf
  have hH0 : s.heap = s.heap := rfl
  refine lv_aload_n hx hb dX2_add_0 rfl (lv_at hl 0 rfl) ?_
  refine va_get (D := G) (ci := 2) (v := .int v_clocks) (C := RX2) (T := TX2) (N := 14) hx hb hts inX2 hown hK hP 0 rfl rfl 2 (by decide) (hts _ mw110) (fun _ h9 => h9) rfl dX2_add_1 ?_
  refine lv_istore (lv' := [(5, .int v_clocks), (0, .ref (a 0)), (1, .int p1), (2, .int p2), (3, .int p3), (4, .int p4)]) hx hb dX2_add_4 hl (by decide) rfl (fun ls hl => ?_)
  refine lv_aload_n hx hb dX2_add_6 rfl (lv_at hl 1 rfl) ?_
  refine va_get (D := G) (ci := 2) (v := .ref (a 2)) (C := RX2) (T := TX2) (N := 14) hx hb hts inX2 hown hK hP 0 rfl rfl 3 (by decide) (hts _ mw112) (fun _ h9 => h9) rfl dX2_add_7 ?_
  refine lv_iload hx hb dX2_add_10 (lv_at hl 0 rfl) ?_
  refine lv_iload_n hx hb dX2_add_12 rfl (lv_at hl 2 rfl) ?_
  obtain ⟨hin, hf⟩ := hf
  refine va_iast hx hb hK hP hD hS 2 0 rfl rfl hin dX2_add_13 (fun H locs hP hD hS => ?_)
  have hP : va_P G vwCl (sgX2 k a v_windows v_dials v_clocks (upd v_kind (Int32.toNatClampNeg v_clocks) p1) v_hands v_rate v_spring v_window v_finish v_skies v_sky v_hour v_heard v_strokes) H := hP
  have hD : va_D A (sgX2 k a v_windows v_dials v_clocks (upd v_kind (Int32.toNatClampNeg v_clocks) p1) v_hands v_rate v_spring v_window v_finish v_skies v_sky v_hour v_heard v_strokes) := hD
  generalize ef1 : (upd v_kind (Int32.toNatClampNeg v_clocks) p1) = f1 at hP hD
  have hf := hf f1 ef1.symm
  refine lv_aload_n hx hb dX2_add_14 rfl (lv_at hl 1 rfl) ?_
  refine va_get (D := G) (ci := 2) (v := .ref (a 3)) (C := RX2) (T := TX2) (N := 14) hx hb hts inX2 hown hK hP 0 rfl rfl 4 (by decide) (hts _ mw114) (fun _ h9 => h9) rfl dX2_add_15 ?_
  refine lv_iload hx hb dX2_add_18 (lv_at hl 0 rfl) ?_
  refine lv_iload_n hx hb dX2_add_20 rfl (lv_at hl 3 rfl) ?_
  obtain ⟨hin, hf⟩ := hf
  refine va_iast hx hb hK hP hD hS 3 0 rfl rfl hin dX2_add_21 (fun H locs hP hD hS => ?_)
  have hP : va_P G vwCl (sgX2 k a v_windows v_dials v_clocks f1 (upd v_hands (Int32.toNatClampNeg v_clocks) p2) v_rate v_spring v_window v_finish v_skies v_sky v_hour v_heard v_strokes) H := hP
  have hD : va_D A (sgX2 k a v_windows v_dials v_clocks f1 (upd v_hands (Int32.toNatClampNeg v_clocks) p2) v_rate v_spring v_window v_finish v_skies v_sky v_hour v_heard v_strokes) := hD
  generalize ef2 : (upd v_hands (Int32.toNatClampNeg v_clocks) p2) = f2 at hP hD
  have hf := hf f2 ef2.symm
  refine lv_aload_n hx hb dX2_add_22 rfl (lv_at hl 1 rfl) ?_
  refine va_get (D := G) (ci := 2) (v := .ref (a 4)) (C := RX2) (T := TX2) (N := 14) hx hb hts inX2 hown hK hP 0 rfl rfl 5 (by decide) (hts _ mw117) (fun _ h9 => h9) rfl dX2_add_23 ?_
  refine lv_iload hx hb dX2_add_26 (lv_at hl 0 rfl) ?_
  refine lv_iload_n hx hb dX2_add_28 rfl (lv_at hl 4 rfl) ?_
  obtain ⟨hin, hf⟩ := hf
  refine va_iast hx hb hK hP hD hS 4 0 rfl rfl hin dX2_add_29 (fun H locs hP hD hS => ?_)
  have hP : va_P G vwCl (sgX2 k a v_windows v_dials v_clocks f1 f2 (upd v_rate (Int32.toNatClampNeg v_clocks) p3) v_spring v_window v_finish v_skies v_sky v_hour v_heard v_strokes) H := hP
  have hD : va_D A (sgX2 k a v_windows v_dials v_clocks f1 f2 (upd v_rate (Int32.toNatClampNeg v_clocks) p3) v_spring v_window v_finish v_skies v_sky v_hour v_heard v_strokes) := hD
  generalize ef3 : (upd v_rate (Int32.toNatClampNeg v_clocks) p3) = f3 at hP hD
  have hf := hf f3 ef3.symm
  refine lv_aload_n hx hb dX2_add_30 rfl (lv_at hl 1 rfl) ?_
  refine va_get (D := G) (ci := 2) (v := .ref (a 5)) (C := RX2) (T := TX2) (N := 14) hx hb hts inX2 hown hK hP 0 rfl rfl 6 (by decide) (hts _ mw120) (fun _ h9 => h9) rfl dX2_add_31 ?_
  refine lv_iload hx hb dX2_add_34 (lv_at hl 0 rfl) ?_
  refine lv_iload hx hb dX2_add_36 (lv_at hl 5 rfl) ?_
  obtain ⟨hin, hf⟩ := hf
  refine va_iast hx hb hK hP hD hS 5 0 rfl rfl hin dX2_add_38 (fun H locs hP hD hS => ?_)
  have hP : va_P G vwCl (sgX2 k a v_windows v_dials v_clocks f1 f2 f3 (upd v_spring (Int32.toNatClampNeg v_clocks) p4) v_window v_finish v_skies v_sky v_hour v_heard v_strokes) H := hP
  have hD : va_D A (sgX2 k a v_windows v_dials v_clocks f1 f2 f3 (upd v_spring (Int32.toNatClampNeg v_clocks) p4) v_window v_finish v_skies v_sky v_hour v_heard v_strokes) := hD
  generalize ef4 : (upd v_spring (Int32.toNatClampNeg v_clocks) p4) = f4 at hP hD
  have hf := hf f4 ef4.symm
  refine lv_aload_n hx hb dX2_add_39 rfl (lv_at hl 1 rfl) ?_
  refine va_get (D := G) (ci := 2) (v := .ref (a 6)) (C := RX2) (T := TX2) (N := 14) hx hb hts inX2 hown hK hP 0 rfl rfl 7 (by decide) (hts _ mw123) (fun _ h9 => h9) rfl dX2_add_40 ?_
  refine lv_iload hx hb dX2_add_43 (lv_at hl 0 rfl) ?_
  refine lv_iconst (v := 0) hx hb dX2_add_45 (by decide) ?_
  obtain ⟨hin, hf⟩ := hf
  refine va_iast hx hb hK hP hD hS 6 0 rfl rfl hin dX2_add_46 (fun H locs hP hD hS => ?_)
  have hP : va_P G vwCl (sgX2 k a v_windows v_dials v_clocks f1 f2 f3 f4 (upd v_window (Int32.toNatClampNeg v_clocks) 0) v_finish v_skies v_sky v_hour v_heard v_strokes) H := hP
  have hD : va_D A (sgX2 k a v_windows v_dials v_clocks f1 f2 f3 f4 (upd v_window (Int32.toNatClampNeg v_clocks) 0) v_finish v_skies v_sky v_hour v_heard v_strokes) := hD
  generalize ef5 : (upd v_window (Int32.toNatClampNeg v_clocks) 0) = f5 at hP hD
  have hf := hf f5 ef5.symm
  refine lv_aload_n hx hb dX2_add_47 rfl (lv_at hl 1 rfl) ?_
  refine va_get (D := G) (ci := 2) (v := .ref (a 7)) (C := RX2) (T := TX2) (N := 14) hx hb hts inX2 hown hK hP 0 rfl rfl 8 (by decide) (hts _ mw125) (fun _ h9 => h9) rfl dX2_add_48 ?_
  refine lv_iload hx hb dX2_add_51 (lv_at hl 0 rfl) ?_
  refine lv_iconst (v := 0) hx hb dX2_add_53 (by decide) ?_
  obtain ⟨hin, hf⟩ := hf
  refine va_iast hx hb hK hP hD hS 7 0 rfl rfl hin dX2_add_54 (fun H locs hP hD hS => ?_)
  have hP : va_P G vwCl (sgX2 k a v_windows v_dials v_clocks f1 f2 f3 f4 f5 (upd v_finish (Int32.toNatClampNeg v_clocks) 0) v_skies v_sky v_hour v_heard v_strokes) H := hP
  have hD : va_D A (sgX2 k a v_windows v_dials v_clocks f1 f2 f3 f4 f5 (upd v_finish (Int32.toNatClampNeg v_clocks) 0) v_skies v_sky v_hour v_heard v_strokes) := hD
  generalize ef6 : (upd v_finish (Int32.toNatClampNeg v_clocks) 0) = f6 at hP hD
  have hf := hf f6 ef6.symm
  refine lv_aload_n hx hb dX2_add_55 rfl (lv_at hl 1 rfl) ?_
  refine lv_dup hx hb dX2_add_56 rfl ?_
  refine va_get (D := G) (ci := 2) (v := .int v_clocks) (C := RX2) (T := TX2) (N := 14) hx hb hts inX2 hown hK hP 0 rfl rfl 2 (by decide) (hts _ mw110) (fun _ h9 => h9) rfl dX2_add_57 ?_
  refine lv_iconst (v := 1) hx hb dX2_add_60 (by decide) ?_
  refine lv_iadd hx hb dX2_add_61 ?_
  refine lv_topi (fun z7 ez7 => ?_)
  have hf := hf z7 ez7
  refine va_put (D := G) (ci := 2) (v := .int z7) (ty := .int) (C := RX2) (T := TX2) (N := 14) hx hb hts inX2 tyX2 tyX2_ok nmX2 hown hK hP hD hS 0 rfl rfl 2 (by decide) (hts _ mw110) (fun _ h9 => h9) rfl (by decide +kernel) rfl rfl (Nat.le_of_ble_eq_true rfl) dX2_add_62 (fun H locs hP hD hS => ?_)
  have hP : va_P G vwCl (sgX2 k a v_windows v_dials z7 f1 f2 f3 f4 f5 f6 v_skies v_sky v_hour v_heard v_strokes) H := hP
  have hD : va_D A (sgX2 k a v_windows v_dials z7 f1 f2 f3 f4 f5 f6 v_skies v_sky v_hour v_heard v_strokes) := hD
  refine lv_iload hx hb dX2_add_65 (lv_at hl 0 rfl) ?_
  exact ret_i hx hb hr hlk (z7, f1, f2, f3, f4, f5, f6) hf hP hD hS dX2_add_67
def wp_X2_removeLast (v_clocks : Int32) (v_heard : Int32) (post : (Int32) → (Int32) → Prop) : Prop :=
  (∀ z1 : Int32, z1 = (v_clocks - 1) → (∀ z2 : Int32, z2 = (v_heard &&& ((1 <<< (z1 &&& 31)) ^^^ (-1))) → (post z1 z2)))
set_option maxHeartbeats 4000000 in
set_option maxRecDepth 100000 in
theorem c_X2_removeLast (l : Launch) (G : va_G) (k : Nat → ClassId) (a : Nat → Nat) (v_windows : Int32) (v_dials : Nat → Int32) (v_clocks : Int32) (v_kind : Nat → Int32) (v_hands : Nat → Int32) (v_rate : Nat → Int32) (v_spring : Nat → Int32) (v_window : Nat → Int32) (v_finish : Nat → Int32) (v_skies : Int32) (v_sky : Nat → Int32) (v_hour : Int32) (v_heard : Int32) (v_strokes : Int32) (post : (Int32) → (Int32) → Prop) (hf : wp_X2_removeLast v_clocks v_heard post) : MV (S := (Int32) × (Int32)) l G k yX2_removeLast (Cond.code yX2_removeLast cX2_removeLast 1 none :: wT) 0 0 [.ref (a 0)] (sgX2 k a v_windows v_dials v_clocks v_kind v_hands v_rate v_spring v_window v_finish v_skies v_sky v_hour v_heard v_strokes) (fun u => (sgX2 k a v_windows v_dials u.1 v_kind v_hands v_rate v_spring v_window v_finish v_skies v_sky v_hour u.2 v_strokes)) (fun u => post u.1 u.2) := by
  refine mv_start (cc := cX2_removeLast) (maxL := 1) (ret := none) (by decide) [(0, .ref (a 0))] rfl (Nat.le_of_ble_eq_true rfl) ?_
  intro p e s m below meth c A ls hx hb hr hlk hml hown hts hK hP hD hA hS hX hl
  have hown : s.vm.findClass RX2 = some m.cls := hown
  unfold wp_X2_removeLast at hf
  have hH0 : s.heap = s.heap := rfl
  refine lv_aload_n hx hb dX2_removeLast_0 rfl (lv_at hl 0 rfl) ?_
  refine lv_dup hx hb dX2_removeLast_1 rfl ?_
  refine va_get (D := G) (ci := 2) (v := .int v_clocks) (C := RX2) (T := TX2) (N := 14) hx hb hts inX2 hown hK hP 0 rfl rfl 2 (by decide) (hts _ mw110) (fun _ h9 => h9) rfl dX2_removeLast_2 ?_
  refine lv_iconst (v := 1) hx hb dX2_removeLast_5 (by decide) ?_
  refine lv_isub hx hb dX2_removeLast_6 ?_
  refine lv_topi (fun z1 ez1 => ?_)
  have hf := hf z1 ez1
  refine va_put (D := G) (ci := 2) (v := .int z1) (ty := .int) (C := RX2) (T := TX2) (N := 14) hx hb hts inX2 tyX2 tyX2_ok nmX2 hown hK hP hD hS 0 rfl rfl 2 (by decide) (hts _ mw110) (fun _ h9 => h9) rfl (by decide +kernel) rfl rfl (Nat.le_of_ble_eq_true rfl) dX2_removeLast_7 (fun H locs hP hD hS => ?_)
  have hP : va_P G vwCl (sgX2 k a v_windows v_dials z1 v_kind v_hands v_rate v_spring v_window v_finish v_skies v_sky v_hour v_heard v_strokes) H := hP
  have hD : va_D A (sgX2 k a v_windows v_dials z1 v_kind v_hands v_rate v_spring v_window v_finish v_skies v_sky v_hour v_heard v_strokes) := hD
  refine lv_aload_n hx hb dX2_removeLast_10 rfl (lv_at hl 0 rfl) ?_
  refine lv_dup hx hb dX2_removeLast_11 rfl ?_
  refine va_get (D := G) (ci := 2) (v := .int v_heard) (C := RX2) (T := TX2) (N := 14) hx hb hts inX2 hown hK hP 0 rfl rfl 12 (by decide) (hts _ mw133) (fun _ h9 => h9) rfl dX2_removeLast_12 ?_
  refine lv_iconst (v := 1) hx hb dX2_removeLast_15 (by decide) ?_
  refine lv_aload_n hx hb dX2_removeLast_16 rfl (lv_at hl 0 rfl) ?_
  refine va_get (D := G) (ci := 2) (v := .int z1) (C := RX2) (T := TX2) (N := 14) hx hb hts inX2 hown hK hP 0 rfl rfl 2 (by decide) (hts _ mw110) (fun _ h9 => h9) rfl dX2_removeLast_17 ?_
  refine lv_ishl hx hb dX2_removeLast_20 ?_
  refine lv_iconst (v := (-1)) hx hb dX2_removeLast_21 (by decide) ?_
  refine lv_ixor hx hb dX2_removeLast_22 ?_
  refine lv_iand hx hb dX2_removeLast_23 ?_
  refine lv_topi (fun z2 ez2 => ?_)
  have hf := hf z2 ez2
  refine va_put (D := G) (ci := 2) (v := .int z2) (ty := .int) (C := RX2) (T := TX2) (N := 14) hx hb hts inX2 tyX2 tyX2_ok nmX2 hown hK hP hD hS 0 rfl rfl 12 (by decide) (hts _ mw133) (fun _ h9 => h9) rfl (by decide +kernel) rfl rfl (Nat.le_of_ble_eq_true rfl) dX2_removeLast_24 (fun H locs hP hD hS => ?_)
  have hP : va_P G vwCl (sgX2 k a v_windows v_dials z1 v_kind v_hands v_rate v_spring v_window v_finish v_skies v_sky v_hour z2 v_strokes) H := hP
  have hD : va_D A (sgX2 k a v_windows v_dials z1 v_kind v_hands v_rate v_spring v_window v_finish v_skies v_sky v_hour z2 v_strokes) := hD
  exact ret_v hx hb hr hlk (z1, z2) hf hP hD hS dX2_removeLast_27
def wp_X2_toStart (v_clocks : Int32) (v_window : Nat → Int32) (v_finish : Nat → Int32) (post : (Nat → Int32) → (Nat → Int32) → Prop) : Prop :=
  (∃ I1 : Nat → (Int32) → (Nat → Int32) → (Nat → Int32) → Prop, (∃ n1, I1 n1 0 v_window v_finish) ∧ ∀ (n1 : Nat) (x1_1 : Int32) (v_window_1 : Nat → Int32) (v_finish_1 : Nat → Int32), I1 n1 x1_1 v_window_1 v_finish_1 →
 ((v_clocks ≤ x1_1 → (post v_window_1 v_finish_1)) ∧
 (¬ v_clocks ≤ x1_1 → (vp_in x1_1 9 ∧ ∀ f3 : Nat → Int32, f3 = (upd v_window_1 (Int32.toNatClampNeg x1_1) 0) → (vp_in x1_1 9 ∧ ∀ f4 : Nat → Int32, f4 = (upd v_finish_1 (Int32.toNatClampNeg x1_1) 0) → (∀ z5 : Int32, z5 = x1_1 + 1 → (∃ m9, m9 < n1 ∧ I1 m9 z5 f3 f4)))))))
set_option maxHeartbeats 4000000 in
set_option maxRecDepth 100000 in
theorem c_X2_toStart (l : Launch) (G : va_G) (k : Nat → ClassId) (a : Nat → Nat) (v_windows : Int32) (v_dials : Nat → Int32) (v_clocks : Int32) (v_kind : Nat → Int32) (v_hands : Nat → Int32) (v_rate : Nat → Int32) (v_spring : Nat → Int32) (v_window : Nat → Int32) (v_finish : Nat → Int32) (v_skies : Int32) (v_sky : Nat → Int32) (v_hour : Int32) (v_heard : Int32) (v_strokes : Int32) (post : (Nat → Int32) → (Nat → Int32) → Prop) (hf : wp_X2_toStart v_clocks v_window v_finish post) : MV (S := (Nat → Int32) × (Nat → Int32)) l G k yX2_toStart (Cond.code yX2_toStart cX2_toStart 2 none :: wT) 0 0 [.ref (a 0)] (sgX2 k a v_windows v_dials v_clocks v_kind v_hands v_rate v_spring v_window v_finish v_skies v_sky v_hour v_heard v_strokes) (fun u => (sgX2 k a v_windows v_dials v_clocks v_kind v_hands v_rate v_spring u.1 u.2 v_skies v_sky v_hour v_heard v_strokes)) (fun u => post u.1 u.2) := by
  refine mv_start (cc := cX2_toStart) (maxL := 2) (ret := none) (by decide) [(0, .ref (a 0))] rfl (Nat.le_of_ble_eq_true rfl) ?_
  intro p e s m below meth c A ls hx hb hr hlk hml hown hts hK hP hD hA hS hX hl
  have hown : s.vm.findClass RX2 = some m.cls := hown
  unfold wp_X2_toStart at hf
  have hH0 : s.heap = s.heap := rfl
  refine lv_iconst (v := 0) hx hb dX2_toStart_0 (by decide) ?_
  refine lv_istore_n (lv' := [(1, .int 0), (0, .ref (a 0))]) hx hb dX2_toStart_1 rfl hl (by decide) rfl (fun ls hl => ?_)
  obtain ⟨I1, ⟨n1, hi1⟩, hs1⟩ := hf
  refine w_loop (G := G) (A := A) (H0 := s.heap) (nL := 2) (σ := (Int32) × (Nat → Int32) × (Nat → Int32)) (I := fun n v => I1 n v.1 v.2.1 v.2.2) (wl := fun v => (sgX2 k a v_windows v_dials v_clocks v_kind v_hands v_rate v_spring v.2.1 v.2.2 v_skies v_sky v_hour v_heard v_strokes)) (lv := fun v => [(0, .ref (a 0)), (1, .int v.1)]) (st := fun _ => []) n1 (0, v_window, v_finish) hi1 hP hD hS (lv_sub hl [1, 0] rfl) (fun n1 v hi ih1 H locs ls hP hD hS hl => ?_)
  obtain ⟨x1_1, v_window_1, v_finish_1⟩ := v
  have hf := hs1 n1 x1_1 v_window_1 v_finish_1 hi
  have hP : va_P G vwCl (sgX2 k a v_windows v_dials v_clocks v_kind v_hands v_rate v_spring v_window_1 v_finish_1 v_skies v_sky v_hour v_heard v_strokes) H := hP
  have hD : va_D A (sgX2 k a v_windows v_dials v_clocks v_kind v_hands v_rate v_spring v_window_1 v_finish_1 v_skies v_sky v_hour v_heard v_strokes) := hD
  have hl : lv_has ls 2 [(0, .ref (a 0)), (1, .int x1_1)] := hl
  refine lv_iload_n hx hb dX2_toStart_2 rfl (lv_at hl 1 rfl) ?_
  refine lv_aload_n hx hb dX2_toStart_3 rfl (lv_at hl 0 rfl) ?_
  refine va_get (D := G) (ci := 2) (v := .int v_clocks) (C := RX2) (T := TX2) (N := 14) hx hb hts inX2 hown hK hP 0 rfl rfl 2 (by decide) (hts _ mw110) (fun _ h9 => h9) rfl dX2_toStart_4 ?_
  refine lv_icmp_ge (tgt := 30) hx hb dX2_toStart_7 (by decide) (fun c2 => ?_) (fun c2 => ?_)
  · have hf := hf.1 c2
    exact ret_v hx hb hr hlk (v_window_1, v_finish_1) hf hP hD hS dX2_toStart_30
  have hf := hf.2 c2
  refine lv_aload_n hx hb dX2_toStart_10 rfl (lv_at hl 0 rfl) ?_
  refine va_get (D := G) (ci := 2) (v := .ref (a 6)) (C := RX2) (T := TX2) (N := 14) hx hb hts inX2 hown hK hP 0 rfl rfl 7 (by decide) (hts _ mw123) (fun _ h9 => h9) rfl dX2_toStart_11 ?_
  refine lv_iload_n hx hb dX2_toStart_14 rfl (lv_at hl 1 rfl) ?_
  refine lv_iconst (v := 0) hx hb dX2_toStart_15 (by decide) ?_
  obtain ⟨hin, hf⟩ := hf
  refine va_iast hx hb hK hP hD hS 6 0 rfl rfl hin dX2_toStart_16 (fun H locs hP hD hS => ?_)
  have hP : va_P G vwCl (sgX2 k a v_windows v_dials v_clocks v_kind v_hands v_rate v_spring (upd v_window_1 (Int32.toNatClampNeg x1_1) 0) v_finish_1 v_skies v_sky v_hour v_heard v_strokes) H := hP
  have hD : va_D A (sgX2 k a v_windows v_dials v_clocks v_kind v_hands v_rate v_spring (upd v_window_1 (Int32.toNatClampNeg x1_1) 0) v_finish_1 v_skies v_sky v_hour v_heard v_strokes) := hD
  generalize ef3 : (upd v_window_1 (Int32.toNatClampNeg x1_1) 0) = f3 at hP hD
  have hf := hf f3 ef3.symm
  refine lv_aload_n hx hb dX2_toStart_17 rfl (lv_at hl 0 rfl) ?_
  refine va_get (D := G) (ci := 2) (v := .ref (a 7)) (C := RX2) (T := TX2) (N := 14) hx hb hts inX2 hown hK hP 0 rfl rfl 8 (by decide) (hts _ mw125) (fun _ h9 => h9) rfl dX2_toStart_18 ?_
  refine lv_iload_n hx hb dX2_toStart_21 rfl (lv_at hl 1 rfl) ?_
  refine lv_iconst (v := 0) hx hb dX2_toStart_22 (by decide) ?_
  obtain ⟨hin, hf⟩ := hf
  refine va_iast hx hb hK hP hD hS 7 0 rfl rfl hin dX2_toStart_23 (fun H locs hP hD hS => ?_)
  have hP : va_P G vwCl (sgX2 k a v_windows v_dials v_clocks v_kind v_hands v_rate v_spring f3 (upd v_finish_1 (Int32.toNatClampNeg x1_1) 0) v_skies v_sky v_hour v_heard v_strokes) H := hP
  have hD : va_D A (sgX2 k a v_windows v_dials v_clocks v_kind v_hands v_rate v_spring f3 (upd v_finish_1 (Int32.toNatClampNeg x1_1) 0) v_skies v_sky v_hour v_heard v_strokes) := hD
  generalize ef4 : (upd v_finish_1 (Int32.toNatClampNeg x1_1) 0) = f4 at hP hD
  have hf := hf f4 ef4.symm
  obtain ⟨z5, ez5⟩ : ∃ y : Int32, y = x1_1 + 1 := ⟨_, rfl⟩
  have hf := hf z5 ez5
  refine lv_iinc (v := z5) (lv' := [(1, .int z5), (0, .ref (a 0))]) hx hb dX2_toStart_24 hl (k := 1) rfl (by rw [ez5]; rfl) (by decide) rfl (fun ls hl => ?_)
  refine lv_goto (tgt := 2) hx hb dX2_toStart_27 (by decide) ?_
  obtain ⟨m9, hm9, hi9⟩ := hf
  exact ih1 m9 (z5, f3, f4) hm9 hi9 _ _ _ hP hD hS (lv_sub hl [1, 0] rfl)
def wp_X2_hush (v_heard : Int32) (v_strokes : Int32) (post : (Int32) → (Int32) → Prop) : Prop :=
  (post 0 0)
set_option maxHeartbeats 4000000 in
set_option maxRecDepth 100000 in
theorem c_X2_hush (l : Launch) (G : va_G) (k : Nat → ClassId) (a : Nat → Nat) (v_windows : Int32) (v_dials : Nat → Int32) (v_clocks : Int32) (v_kind : Nat → Int32) (v_hands : Nat → Int32) (v_rate : Nat → Int32) (v_spring : Nat → Int32) (v_window : Nat → Int32) (v_finish : Nat → Int32) (v_skies : Int32) (v_sky : Nat → Int32) (v_hour : Int32) (v_heard : Int32) (v_strokes : Int32) (post : (Int32) → (Int32) → Prop) (hf : wp_X2_hush v_heard v_strokes post) : MV (S := (Int32) × (Int32)) l G k yX2_hush (Cond.code yX2_hush cX2_hush 1 none :: wT) 0 0 [.ref (a 0)] (sgX2 k a v_windows v_dials v_clocks v_kind v_hands v_rate v_spring v_window v_finish v_skies v_sky v_hour v_heard v_strokes) (fun u => (sgX2 k a v_windows v_dials v_clocks v_kind v_hands v_rate v_spring v_window v_finish v_skies v_sky v_hour u.1 u.2)) (fun u => post u.1 u.2) := by
  refine mv_start (cc := cX2_hush) (maxL := 1) (ret := none) (by decide) [(0, .ref (a 0))] rfl (Nat.le_of_ble_eq_true rfl) ?_
  intro p e s m below meth c A ls hx hb hr hlk hml hown hts hK hP hD hA hS hX hl
  have hown : s.vm.findClass RX2 = some m.cls := hown
  unfold wp_X2_hush at hf
  have hH0 : s.heap = s.heap := rfl
  refine lv_aload_n hx hb dX2_hush_0 rfl (lv_at hl 0 rfl) ?_
  refine lv_iconst (v := 0) hx hb dX2_hush_1 (by decide) ?_
  refine va_put (D := G) (ci := 2) (v := .int 0) (ty := .int) (C := RX2) (T := TX2) (N := 14) hx hb hts inX2 tyX2 tyX2_ok nmX2 hown hK hP hD hS 0 rfl rfl 12 (by decide) (hts _ mw133) (fun _ h9 => h9) rfl (by decide +kernel) rfl rfl (Nat.le_of_ble_eq_true rfl) dX2_hush_2 (fun H locs hP hD hS => ?_)
  have hP : va_P G vwCl (sgX2 k a v_windows v_dials v_clocks v_kind v_hands v_rate v_spring v_window v_finish v_skies v_sky v_hour 0 v_strokes) H := hP
  have hD : va_D A (sgX2 k a v_windows v_dials v_clocks v_kind v_hands v_rate v_spring v_window v_finish v_skies v_sky v_hour 0 v_strokes) := hD
  refine lv_aload_n hx hb dX2_hush_5 rfl (lv_at hl 0 rfl) ?_
  refine lv_iconst (v := 0) hx hb dX2_hush_6 (by decide) ?_
  refine va_put (D := G) (ci := 2) (v := .int 0) (ty := .int) (C := RX2) (T := TX2) (N := 14) hx hb hts inX2 tyX2 tyX2_ok nmX2 hown hK hP hD hS 0 rfl rfl 13 (by decide) (hts _ mw135) (fun _ h9 => h9) rfl (by decide +kernel) rfl rfl (Nat.le_of_ble_eq_true rfl) dX2_hush_7 (fun H locs hP hD hS => ?_)
  have hP : va_P G vwCl (sgX2 k a v_windows v_dials v_clocks v_kind v_hands v_rate v_spring v_window v_finish v_skies v_sky v_hour 0 0) H := hP
  have hD : va_D A (sgX2 k a v_windows v_dials v_clocks v_kind v_hands v_rate v_spring v_window v_finish v_skies v_sky v_hour 0 0) := hD
  exact ret_v hx hb hr hlk (0, 0) hf hP hD hS dX2_hush_10
def wp_X2_weatherAt (p1 : Int32) (v_skies : Int32) (v_sky : Nat → Int32) (post : Int32 → Prop) : Prop :=
  ((v_skies ≤ 0 → (post 0 )) ∧
 (¬ v_skies ≤ 0 → (¬ v_skies = 0 ∧ (vp_in (p1 - p1 / v_skies * v_skies) 12 ∧ (post (v_sky (Int32.toNatClampNeg (p1 - p1 / v_skies * v_skies))) )))))
set_option maxHeartbeats 4000000 in
set_option maxRecDepth 100000 in
theorem c_X2_weatherAt (l : Launch) (G : va_G) (k : Nat → ClassId) (a : Nat → Nat) (p1 : Int32) (v_windows : Int32) (v_dials : Nat → Int32) (v_clocks : Int32) (v_kind : Nat → Int32) (v_hands : Nat → Int32) (v_rate : Nat → Int32) (v_spring : Nat → Int32) (v_window : Nat → Int32) (v_finish : Nat → Int32) (v_skies : Int32) (v_sky : Nat → Int32) (v_hour : Int32) (v_heard : Int32) (v_strokes : Int32) (post : Int32 → Prop) (hf : wp_X2_weatherAt p1 v_skies v_sky post) : MI (S := Unit) l G k yX2_weatherAt (Cond.code yX2_weatherAt cX2_weatherAt 2 (some .int) :: wT) 0 0 [.ref (a 0), .int p1] (sgX2 k a v_windows v_dials v_clocks v_kind v_hands v_rate v_spring v_window v_finish v_skies v_sky v_hour v_heard v_strokes) (fun u => (sgX2 k a v_windows v_dials v_clocks v_kind v_hands v_rate v_spring v_window v_finish v_skies v_sky v_hour v_heard v_strokes)) (fun r u => post r ) := by
  refine mi_start (cc := cX2_weatherAt) (maxL := 2) (ret := (some .int)) (by decide) [(0, .ref (a 0)), (1, .int p1)] rfl (Nat.le_of_ble_eq_true rfl) ?_
  intro p e s m below meth c A ls hx hb hr hlk hml hown hts hK hP hD hA hS hX hl
  have hown : s.vm.findClass RX2 = some m.cls := hown
  unfold wp_X2_weatherAt at hf
  have hH0 : s.heap = s.heap := rfl
  refine lv_aload_n hx hb dX2_weatherAt_0 rfl (lv_at hl 0 rfl) ?_
  refine va_get (D := G) (ci := 2) (v := .int v_skies) (C := RX2) (T := TX2) (N := 14) hx hb hts inX2 hown hK hP 0 rfl rfl 9 (by decide) (hts _ mw127) (fun _ h9 => h9) rfl dX2_weatherAt_1 ?_
  refine lv_if_le (tgt := 21) hx hb dX2_weatherAt_4 (by decide) (fun c1 => ?_) (fun c1 => ?_)
  · have hf := hf.1 c1
    refine lv_iconst (v := 0) hx hb dX2_weatherAt_21 (by decide) ?_
    exact ret_i hx hb hr hlk () hf hP hD hS dX2_weatherAt_22
  have hf := hf.2 c1
  refine lv_aload_n hx hb dX2_weatherAt_7 rfl (lv_at hl 0 rfl) ?_
  refine va_get (D := G) (ci := 2) (v := .ref (a 8)) (C := RX2) (T := TX2) (N := 14) hx hb hts inX2 hown hK hP 0 rfl rfl 10 (by decide) (hts _ mw129) (fun _ h9 => h9) rfl dX2_weatherAt_8 ?_
  refine lv_iload_n hx hb dX2_weatherAt_11 rfl (lv_at hl 1 rfl) ?_
  refine lv_aload_n hx hb dX2_weatherAt_12 rfl (lv_at hl 0 rfl) ?_
  refine va_get (D := G) (ci := 2) (v := .int v_skies) (C := RX2) (T := TX2) (N := 14) hx hb hts inX2 hown hK hP 0 rfl rfl 9 (by decide) (hts _ mw127) (fun _ h9 => h9) rfl dX2_weatherAt_13 ?_
  obtain ⟨hne, hf⟩ := hf
  refine lv_irem hx hb dX2_weatherAt_16 hne ?_
  obtain ⟨hin, hf⟩ := hf
  refine va_iald hx hb hK hP 8 0 rfl rfl hin dX2_weatherAt_17 ?_
  refine lv_goto (tgt := 22) hx hb dX2_weatherAt_18 (by decide) ?_
  exact ret_i hx hb hr hlk () hf hP hD hS dX2_weatherAt_22
def wp_X2_trueMinutes (v_hour : Int32) (post : Int32 → Prop) : Prop :=
  (post ((60 * v_hour) - (60 * v_hour) / 720 * 720) )
set_option maxHeartbeats 4000000 in
set_option maxRecDepth 100000 in
theorem c_X2_trueMinutes (l : Launch) (G : va_G) (k : Nat → ClassId) (a : Nat → Nat) (v_windows : Int32) (v_dials : Nat → Int32) (v_clocks : Int32) (v_kind : Nat → Int32) (v_hands : Nat → Int32) (v_rate : Nat → Int32) (v_spring : Nat → Int32) (v_window : Nat → Int32) (v_finish : Nat → Int32) (v_skies : Int32) (v_sky : Nat → Int32) (v_hour : Int32) (v_heard : Int32) (v_strokes : Int32) (post : Int32 → Prop) (hf : wp_X2_trueMinutes v_hour post) : MI (S := Unit) l G k yX2_trueMinutes (Cond.code yX2_trueMinutes cX2_trueMinutes 1 (some .int) :: wT) 0 0 [.ref (a 0)] (sgX2 k a v_windows v_dials v_clocks v_kind v_hands v_rate v_spring v_window v_finish v_skies v_sky v_hour v_heard v_strokes) (fun u => (sgX2 k a v_windows v_dials v_clocks v_kind v_hands v_rate v_spring v_window v_finish v_skies v_sky v_hour v_heard v_strokes)) (fun r u => post r ) := by
  refine mi_start (cc := cX2_trueMinutes) (maxL := 1) (ret := (some .int)) (by decide) [(0, .ref (a 0))] rfl (Nat.le_of_ble_eq_true rfl) ?_
  intro p e s m below meth c A ls hx hb hr hlk hml hown hts hK hP hD hA hS hX hl
  have hown : s.vm.findClass RX2 = some m.cls := hown
  unfold wp_X2_trueMinutes at hf
  have hH0 : s.heap = s.heap := rfl
  refine lv_bipush (v := 60) hx hb dX2_trueMinutes_0 (by decide) ?_
  refine lv_aload_n hx hb dX2_trueMinutes_2 rfl (lv_at hl 0 rfl) ?_
  refine va_get (D := G) (ci := 2) (v := .int v_hour) (C := RX2) (T := TX2) (N := 14) hx hb hts inX2 hown hK hP 0 rfl rfl 11 (by decide) (hts _ mw131) (fun _ h9 => h9) rfl dX2_trueMinutes_3 ?_
  refine lv_imul hx hb dX2_trueMinutes_6 ?_
  refine lv_sipush (v := 720) hx hb dX2_trueMinutes_7 (by decide) ?_
  refine lv_irem hx hb dX2_trueMinutes_10 (by decide) ?_
  exact ret_i hx hb hr hlk () hf hP hD hS dX2_trueMinutes_11
def wp_X2_shownBy (p1 : Int32) (v_kind : Nat → Int32) (v_hands : Nat → Int32) (v_hour : Int32) (post : Int32 → Prop) : Prop :=
  (∃ I1 : Nat → (Int32) → Prop, (∃ n1, I1 n1 p1) ∧ ∀ (n1 : Nat) (x2_1 : Int32), I1 n1 x2_1 →
 (∃ J2 : Prop, (J2 →
 (vp_in x2_1 9 ∧ ((¬ (v_kind (Int32.toNatClampNeg x2_1)) = 3 → (vp_in x2_1 9 ∧ (post (v_hands (Int32.toNatClampNeg x2_1)) ))) ∧
 ((v_kind (Int32.toNatClampNeg x2_1)) = 3 → (wp_X2_trueMinutes v_hour (fun (r4 : Int32) =>
 (post r4 ))))))) ∧
 ((x2_1 ≤ 0 → J2) ∧
 (¬ x2_1 ≤ 0 → (vp_in x2_1 9 ∧ ((¬ (v_kind (Int32.toNatClampNeg x2_1)) = 4 → J2) ∧
 ((v_kind (Int32.toNatClampNeg x2_1)) = 4 → (∀ z7 : Int32, z7 = x2_1 + (-1) → (∃ m9, m9 < n1 ∧ I1 m9 z7)))))))))
set_option maxHeartbeats 4000000 in
set_option maxRecDepth 100000 in
theorem c_X2_shownBy (l : Launch) (G : va_G) (k : Nat → ClassId) (a : Nat → Nat) (p1 : Int32) (v_windows : Int32) (v_dials : Nat → Int32) (v_clocks : Int32) (v_kind : Nat → Int32) (v_hands : Nat → Int32) (v_rate : Nat → Int32) (v_spring : Nat → Int32) (v_window : Nat → Int32) (v_finish : Nat → Int32) (v_skies : Int32) (v_sky : Nat → Int32) (v_hour : Int32) (v_heard : Int32) (v_strokes : Int32) (post : Int32 → Prop) (hf : wp_X2_shownBy p1 v_kind v_hands v_hour post) : MI (S := Unit) l G k yX2_shownBy (Cond.code yX2_shownBy cX2_shownBy 3 (some .int) :: wT) 1 20 [.ref (a 0), .int p1] (sgX2 k a v_windows v_dials v_clocks v_kind v_hands v_rate v_spring v_window v_finish v_skies v_sky v_hour v_heard v_strokes) (fun u => (sgX2 k a v_windows v_dials v_clocks v_kind v_hands v_rate v_spring v_window v_finish v_skies v_sky v_hour v_heard v_strokes)) (fun r u => post r ) := by
  refine mi_start (cc := cX2_shownBy) (maxL := 3) (ret := (some .int)) (by decide) [(0, .ref (a 0)), (1, .int p1)] rfl (Nat.le_of_ble_eq_true rfl) ?_
  intro p e s m below meth c A ls hx hb hr hlk hml hown hts hK hP hD hA hS hX hl
  have hown : s.vm.findClass RX2 = some m.cls := hown
  unfold wp_X2_shownBy at hf
  have hH0 : s.heap = s.heap := rfl
  refine lv_iload_n hx hb dX2_shownBy_0 rfl (lv_at hl 1 rfl) ?_
  refine lv_istore_n (lv' := [(2, .int p1), (0, .ref (a 0)), (1, .int p1)]) hx hb dX2_shownBy_1 rfl hl (by decide) rfl (fun ls hl => ?_)
  obtain ⟨I1, ⟨n1, hi1⟩, hs1⟩ := hf
  refine w_loop (G := G) (A := A) (H0 := s.heap) (nL := 3) (σ := (Int32)) (I := fun n v => I1 n v) (wl := fun v => (sgX2 k a v_windows v_dials v_clocks v_kind v_hands v_rate v_spring v_window v_finish v_skies v_sky v_hour v_heard v_strokes)) (lv := fun v => [(0, .ref (a 0)), (2, .int v)]) (st := fun _ => []) n1 p1 hi1 hP hD hS (lv_sub hl [1, 0] rfl) (fun n1 v hi ih1 H locs ls hP hD hS hl => ?_)
  obtain ⟨x2_1, rfl⟩ : ∃ z, z = v := ⟨_, rfl⟩
  have hf := hs1 n1 x2_1 hi
  have hP : va_P G vwCl (sgX2 k a v_windows v_dials v_clocks v_kind v_hands v_rate v_spring v_window v_finish v_skies v_sky v_hour v_heard v_strokes) H := hP
  have hD : va_D A (sgX2 k a v_windows v_dials v_clocks v_kind v_hands v_rate v_spring v_window v_finish v_skies v_sky v_hour v_heard v_strokes) := hD
  have hl : lv_has ls 3 [(0, .ref (a 0)), (2, .int x2_1)] := hl
  refine lv_iload_n hx hb dX2_shownBy_2 rfl (lv_at hl 1 rfl) ?_
  obtain ⟨J2, hj2, hf⟩ := hf
  refine w_join (G := G) (A := A) (H0 := s.heap) (nL := 3) (jpc := 22) (σ := Unit) (J := fun v => J2 ) (wl := fun v => (sgX2 k a v_windows v_dials v_clocks v_kind v_hands v_rate v_spring v_window v_finish v_skies v_sky v_hour v_heard v_strokes)) (lv := fun v => [(0, .ref (a 0)), (2, .int x2_1)]) (st := fun v => []) (fun v hj H locs ls hP hD hS hl => ?_) (fun jn2 => ?_)
  · skip
    have hf := hj2  hj
    have hP : va_P G vwCl (sgX2 k a v_windows v_dials v_clocks v_kind v_hands v_rate v_spring v_window v_finish v_skies v_sky v_hour v_heard v_strokes) H := hP
    have hD : va_D A (sgX2 k a v_windows v_dials v_clocks v_kind v_hands v_rate v_spring v_window v_finish v_skies v_sky v_hour v_heard v_strokes) := hD
    have hl : lv_has ls 3 [(0, .ref (a 0)), (2, .int x2_1)] := hl
    refine lv_aload_n hx hb dX2_shownBy_22 rfl (lv_at hl 0 rfl) ?_
    refine va_get (D := G) (ci := 2) (v := .ref (a 2)) (C := RX2) (T := TX2) (N := 14) hx hb hts inX2 hown hK hP 0 rfl rfl 3 (by decide) (hts _ mw112) (fun _ h9 => h9) rfl dX2_shownBy_23 ?_
    refine lv_iload_n hx hb dX2_shownBy_26 rfl (lv_at hl 1 rfl) ?_
    obtain ⟨hin, hf⟩ := hf
    refine va_iald hx hb hK hP 2 0 rfl rfl hin dX2_shownBy_27 ?_
    refine lv_iconst (v := 3) hx hb dX2_shownBy_28 (by decide) ?_
    refine lv_icmp_ne (tgt := 39) hx hb dX2_shownBy_29 (by decide) (fun c3 => ?_) (fun c3 => ?_)
    · have hf := hf.1 c3
      refine lv_aload_n hx hb dX2_shownBy_39 rfl (lv_at hl 0 rfl) ?_
      refine va_get (D := G) (ci := 2) (v := .ref (a 3)) (C := RX2) (T := TX2) (N := 14) hx hb hts inX2 hown hK hP 0 rfl rfl 4 (by decide) (hts _ mw114) (fun _ h9 => h9) rfl dX2_shownBy_40 ?_
      refine lv_iload_n hx hb dX2_shownBy_43 rfl (lv_at hl 1 rfl) ?_
      obtain ⟨hin, hf⟩ := hf
      refine va_iald hx hb hK hP 3 0 rfl rfl hin dX2_shownBy_44 ?_
      exact ret_i hx hb hr hlk () hf hP hD hS dX2_shownBy_45
    have hf := hf.2 c3
    refine lv_aload_n hx hb dX2_shownBy_32 rfl (lv_at hl 0 rfl) ?_
    refine cvi (As := []) (rest := []) (wr := []) (wn := (fun u => (sgX2 k a v_windows v_dials v_clocks v_kind v_hands v_rate v_spring v_window v_finish v_skies v_sky v_hour v_heard v_strokes))) ⟨hx, hb, hml, hown, hts⟩ (c_X2_trueMinutes l G k a v_windows v_dials v_clocks v_kind v_hands v_rate v_spring v_window v_finish v_skies v_sky v_hour v_heard v_strokes _ hf) (cwT 0 hts mw364 mw365 mw366 mw71 mw367 rfl hd_X2_trueMinutes ⟨Nat.le_of_ble_eq_true rfl, Nat.le_of_ble_eq_true rfl⟩) hK hP hD hS hX hA [0, 1, 2, 3, 4, 5, 6, 7, 8] [] [0, 1, 2, 3, 4, 5, 6, 7, 8] rfl rfl (by decide) (by decide) (by decide) (fun u => rfl) (by decide) rfl rfl rfl rfl hl.1 rfl (Nat.le_of_ble_eq_true rfl) dX2_shownBy_33 (Nat.zero_le _) (Nat.zero_le _) (fun r4 u H locs hf hP hD hS => ?_)
    have hP : va_P G vwCl (sgX2 k a v_windows v_dials v_clocks v_kind v_hands v_rate v_spring v_window v_finish v_skies v_sky v_hour v_heard v_strokes) H := hP
    have hD : va_D A (sgX2 k a v_windows v_dials v_clocks v_kind v_hands v_rate v_spring v_window v_finish v_skies v_sky v_hour v_heard v_strokes) := hD
    refine lv_goto (tgt := 45) hx hb dX2_shownBy_36 (by decide) ?_
    exact ret_i hx hb hr hlk () hf hP hD hS dX2_shownBy_45
  refine lv_if_le (tgt := 22) hx hb dX2_shownBy_3 (by decide) (fun c5 => ?_) (fun c5 => ?_)
  · have hf := hf.1 c5
    exact jn2 () hf _ _ _ hP hD hS (lv_sub hl [0, 1] rfl)
  have hf := hf.2 c5
  refine lv_aload_n hx hb dX2_shownBy_6 rfl (lv_at hl 0 rfl) ?_
  refine va_get (D := G) (ci := 2) (v := .ref (a 2)) (C := RX2) (T := TX2) (N := 14) hx hb hts inX2 hown hK hP 0 rfl rfl 3 (by decide) (hts _ mw112) (fun _ h9 => h9) rfl dX2_shownBy_7 ?_
  refine lv_iload_n hx hb dX2_shownBy_10 rfl (lv_at hl 1 rfl) ?_
  obtain ⟨hin, hf⟩ := hf
  refine va_iald hx hb hK hP 2 0 rfl rfl hin dX2_shownBy_11 ?_
  refine lv_iconst (v := 4) hx hb dX2_shownBy_12 (by decide) ?_
  refine lv_icmp_ne (tgt := 22) hx hb dX2_shownBy_13 (by decide) (fun c6 => ?_) (fun c6 => ?_)
  · have hf := hf.1 c6
    exact jn2 () hf _ _ _ hP hD hS (lv_sub hl [0, 1] rfl)
  have hf := hf.2 c6
  obtain ⟨z7, ez7⟩ : ∃ y : Int32, y = x2_1 + (-1) := ⟨_, rfl⟩
  have hf := hf z7 ez7
  refine lv_iinc (v := z7) (lv' := [(2, .int z7), (0, .ref (a 0))]) hx hb dX2_shownBy_16 hl (k := 1) rfl (by rw [ez7]; rfl) (by decide) rfl (fun ls hl => ?_)
  refine lv_goto (tgt := 2) hx hb dX2_shownBy_19 (by decide) ?_
  obtain ⟨m9, hm9, hi9⟩ := hf
  exact ih1 m9 z7 hm9 hi9 _ _ _ hP hD hS (lv_sub hl [1, 0] rfl)
def wp_X2_struckBy (p1 : Int32) (v_kind : Nat → Int32) (v_hands : Nat → Int32) (v_hour : Int32) (post : Int32 → Prop) : Prop :=
  (wp_X2_shownBy p1 v_kind v_hands v_hour (fun (r1 : Int32) =>
 (post (r1 / 60) )))
set_option maxHeartbeats 4000000 in
set_option maxRecDepth 100000 in
theorem c_X2_struckBy (l : Launch) (G : va_G) (k : Nat → ClassId) (a : Nat → Nat) (p1 : Int32) (v_windows : Int32) (v_dials : Nat → Int32) (v_clocks : Int32) (v_kind : Nat → Int32) (v_hands : Nat → Int32) (v_rate : Nat → Int32) (v_spring : Nat → Int32) (v_window : Nat → Int32) (v_finish : Nat → Int32) (v_skies : Int32) (v_sky : Nat → Int32) (v_hour : Int32) (v_heard : Int32) (v_strokes : Int32) (post : Int32 → Prop) (hf : wp_X2_struckBy p1 v_kind v_hands v_hour post) : MI (S := Unit) l G k yX2_struckBy (Cond.code yX2_struckBy cX2_struckBy 2 (some .int) :: wT) 2 42 [.ref (a 0), .int p1] (sgX2 k a v_windows v_dials v_clocks v_kind v_hands v_rate v_spring v_window v_finish v_skies v_sky v_hour v_heard v_strokes) (fun u => (sgX2 k a v_windows v_dials v_clocks v_kind v_hands v_rate v_spring v_window v_finish v_skies v_sky v_hour v_heard v_strokes)) (fun r u => post r ) := by
  refine mi_start (cc := cX2_struckBy) (maxL := 2) (ret := (some .int)) (by decide) [(0, .ref (a 0)), (1, .int p1)] rfl (Nat.le_of_ble_eq_true rfl) ?_
  intro p e s m below meth c A ls hx hb hr hlk hml hown hts hK hP hD hA hS hX hl
  have hown : s.vm.findClass RX2 = some m.cls := hown
  unfold wp_X2_struckBy at hf
  have hH0 : s.heap = s.heap := rfl
  refine lv_aload_n hx hb dX2_struckBy_0 rfl (lv_at hl 0 rfl) ?_
  refine lv_iload_n hx hb dX2_struckBy_1 rfl (lv_at hl 1 rfl) ?_
  refine cvi (As := [.int p1]) (rest := []) (wr := []) (wn := (fun u => (sgX2 k a v_windows v_dials v_clocks v_kind v_hands v_rate v_spring v_window v_finish v_skies v_sky v_hour v_heard v_strokes))) ⟨hx, hb, hml, hown, hts⟩ (c_X2_shownBy l G k a p1 v_windows v_dials v_clocks v_kind v_hands v_rate v_spring v_window v_finish v_skies v_sky v_hour v_heard v_strokes _ hf) (cwT 1 hts mw372 mw361 mw362 mw71 mw363 rfl hd_X2_shownBy ⟨Nat.le_of_ble_eq_true rfl, Nat.le_of_ble_eq_true rfl⟩) hK hP hD hS hX hA [0, 1, 2, 3, 4, 5, 6, 7, 8] [] [0, 1, 2, 3, 4, 5, 6, 7, 8] rfl rfl (by decide) (by decide) (by decide) (fun u => rfl) (by decide) rfl rfl rfl rfl hl.1 rfl (Nat.le_of_ble_eq_true rfl) dX2_struckBy_2 (Nat.zero_le _) (Nat.zero_le _) (fun r1 u H locs hf hP hD hS => ?_)
  have hP : va_P G vwCl (sgX2 k a v_windows v_dials v_clocks v_kind v_hands v_rate v_spring v_window v_finish v_skies v_sky v_hour v_heard v_strokes) H := hP
  have hD : va_D A (sgX2 k a v_windows v_dials v_clocks v_kind v_hands v_rate v_spring v_window v_finish v_skies v_sky v_hour v_heard v_strokes) := hD
  refine lv_bipush (v := 60) hx hb dX2_struckBy_5 (by decide) ?_
  refine lv_idiv hx hb dX2_struckBy_7 (by decide) ?_
  exact ret_i hx hb hr hlk () hf hP hD hS dX2_struckBy_8
def wp_X2_strokesFor (p1 : Int32) (post : Int32 → Prop) : Prop :=
  ((¬ p1 = 0 → (post p1 )) ∧
 (p1 = 0 → (post 12 )))
set_option maxHeartbeats 4000000 in
set_option maxRecDepth 100000 in
theorem c_X2_strokesFor (l : Launch) (G : va_G) (k : Nat → ClassId) (p1 : Int32) (post : Int32 → Prop) (hf : wp_X2_strokesFor p1 post) : MI (S := Unit) l G k yX2_strokesFor (Cond.code yX2_strokesFor cX2_strokesFor 1 (some .int) :: wT) 0 0 [.int p1] ([] : va_W) (fun u => ([] : va_W)) (fun r u => post r ) := by
  refine mi_start (cc := cX2_strokesFor) (maxL := 1) (ret := (some .int)) (by decide) [(0, .int p1)] rfl (Nat.le_of_ble_eq_true rfl) ?_
  intro p e s m below meth c A ls hx hb hr hlk hml hown hts hK hP hD hA hS hX hl
  have hown : s.vm.findClass RX2 = some m.cls := hown
  unfold wp_X2_strokesFor at hf
  have hH0 : s.heap = s.heap := rfl
  refine lv_iload_n hx hb dX2_strokesFor_0 rfl (lv_at hl 0 rfl) ?_
  refine lv_if_ne (tgt := 9) hx hb dX2_strokesFor_1 (by decide) (fun c1 => ?_) (fun c1 => ?_)
  · have hf := hf.1 c1
    refine lv_iload_n hx hb dX2_strokesFor_9 rfl (lv_at hl 0 rfl) ?_
    exact ret_i hx hb hr hlk () hf hP hD hS dX2_strokesFor_10
  have hf := hf.2 c1
  refine lv_bipush (v := 12) hx hb dX2_strokesFor_4 (by decide) ?_
  refine lv_goto (tgt := 10) hx hb dX2_strokesFor_6 (by decide) ?_
  exact ret_i hx hb hr hlk () hf hP hD hS dX2_strokesFor_10
def wp_X2_strokesOfSet (p1 : Int32) (v_clocks : Int32) (v_kind : Nat → Int32) (v_hands : Nat → Int32) (v_hour : Int32) (post : Int32 → Prop) : Prop :=
  (∃ I1 : Nat → (Int32) → (Int32) → Prop, (∃ n1, I1 n1 0 0) ∧ ∀ (n1 : Nat) (x2_1 : Int32) (x3_1 : Int32), I1 n1 x2_1 x3_1 →
 ((v_clocks ≤ x3_1 → (post x2_1 )) ∧
 (¬ v_clocks ≤ x3_1 → ((¬ ((p1 >>> (x3_1 &&& 31)) &&& 1) = 1 → (∀ z4 : Int32, z4 = x3_1 + 1 → (∃ m9, m9 < n1 ∧ I1 m9 x2_1 z4))) ∧
 (((p1 >>> (x3_1 &&& 31)) &&& 1) = 1 → (wp_X2_struckBy x3_1 v_kind v_hands v_hour (fun (r5 : Int32) =>
 (wp_X2_strokesFor r5 (fun (r6 : Int32) =>
 (∀ z7 : Int32, z7 = (x2_1 + r6) → (∀ z8 : Int32, z8 = x3_1 + 1 → (∃ m9, m9 < n1 ∧ I1 m9 z7 z8))))))))))))
set_option maxHeartbeats 4000000 in
set_option maxRecDepth 100000 in
theorem c_X2_strokesOfSet (l : Launch) (G : va_G) (k : Nat → ClassId) (a : Nat → Nat) (p1 : Int32) (v_windows : Int32) (v_dials : Nat → Int32) (v_clocks : Int32) (v_kind : Nat → Int32) (v_hands : Nat → Int32) (v_rate : Nat → Int32) (v_spring : Nat → Int32) (v_window : Nat → Int32) (v_finish : Nat → Int32) (v_skies : Int32) (v_sky : Nat → Int32) (v_hour : Int32) (v_heard : Int32) (v_strokes : Int32) (post : Int32 → Prop) (hf : wp_X2_strokesOfSet p1 v_clocks v_kind v_hands v_hour post) : MI (S := Unit) l G k yX2_strokesOfSet (Cond.code yX2_strokesOfSet cX2_strokesOfSet 4 (some .int) :: wT) 3 63 [.ref (a 0), .int p1] (sgX2 k a v_windows v_dials v_clocks v_kind v_hands v_rate v_spring v_window v_finish v_skies v_sky v_hour v_heard v_strokes) (fun u => (sgX2 k a v_windows v_dials v_clocks v_kind v_hands v_rate v_spring v_window v_finish v_skies v_sky v_hour v_heard v_strokes)) (fun r u => post r ) := by
  refine mi_start (cc := cX2_strokesOfSet) (maxL := 4) (ret := (some .int)) (by decide) [(0, .ref (a 0)), (1, .int p1)] rfl (Nat.le_of_ble_eq_true rfl) ?_
  intro p e s m below meth c A ls hx hb hr hlk hml hown hts hK hP hD hA hS hX hl
  have hown : s.vm.findClass RX2 = some m.cls := hown
  unfold wp_X2_strokesOfSet at hf
  have hH0 : s.heap = s.heap := rfl
  refine lv_iconst (v := 0) hx hb dX2_strokesOfSet_0 (by decide) ?_
  refine lv_istore_n (lv' := [(2, .int 0), (0, .ref (a 0)), (1, .int p1)]) hx hb dX2_strokesOfSet_1 rfl hl (by decide) rfl (fun ls hl => ?_)
  refine lv_iconst (v := 0) hx hb dX2_strokesOfSet_2 (by decide) ?_
  refine lv_istore_n (lv' := [(3, .int 0), (2, .int 0), (0, .ref (a 0)), (1, .int p1)]) hx hb dX2_strokesOfSet_3 rfl hl (by decide) rfl (fun ls hl => ?_)
  obtain ⟨I1, ⟨n1, hi1⟩, hs1⟩ := hf
  refine w_loop (G := G) (A := A) (H0 := s.heap) (nL := 4) (σ := (Int32) × (Int32)) (I := fun n v => I1 n v.1 v.2) (wl := fun v => (sgX2 k a v_windows v_dials v_clocks v_kind v_hands v_rate v_spring v_window v_finish v_skies v_sky v_hour v_heard v_strokes)) (lv := fun v => [(0, .ref (a 0)), (1, .int p1), (2, .int v.1), (3, .int v.2)]) (st := fun _ => []) n1 (0, 0) hi1 hP hD hS (lv_sub hl [2, 3, 1, 0] rfl) (fun n1 v hi ih1 H locs ls hP hD hS hl => ?_)
  obtain ⟨x2_1, x3_1⟩ := v
  have hf := hs1 n1 x2_1 x3_1 hi
  have hP : va_P G vwCl (sgX2 k a v_windows v_dials v_clocks v_kind v_hands v_rate v_spring v_window v_finish v_skies v_sky v_hour v_heard v_strokes) H := hP
  have hD : va_D A (sgX2 k a v_windows v_dials v_clocks v_kind v_hands v_rate v_spring v_window v_finish v_skies v_sky v_hour v_heard v_strokes) := hD
  have hl : lv_has ls 4 [(0, .ref (a 0)), (1, .int p1), (2, .int x2_1), (3, .int x3_1)] := hl
  refine lv_iload_n hx hb dX2_strokesOfSet_4 rfl (lv_at hl 3 rfl) ?_
  refine lv_aload_n hx hb dX2_strokesOfSet_5 rfl (lv_at hl 0 rfl) ?_
  refine va_get (D := G) (ci := 2) (v := .int v_clocks) (C := RX2) (T := TX2) (N := 14) hx hb hts inX2 hown hK hP 0 rfl rfl 2 (by decide) (hts _ mw110) (fun _ h9 => h9) rfl dX2_strokesOfSet_6 ?_
  refine lv_icmp_ge (tgt := 38) hx hb dX2_strokesOfSet_9 (by decide) (fun c2 => ?_) (fun c2 => ?_)
  · have hf := hf.1 c2
    refine lv_iload_n hx hb dX2_strokesOfSet_38 rfl (lv_at hl 2 rfl) ?_
    exact ret_i hx hb hr hlk () hf hP hD hS dX2_strokesOfSet_39
  have hf := hf.2 c2
  refine lv_iload_n hx hb dX2_strokesOfSet_12 rfl (lv_at hl 1 rfl) ?_
  refine lv_iload_n hx hb dX2_strokesOfSet_13 rfl (lv_at hl 3 rfl) ?_
  refine lv_ishr hx hb dX2_strokesOfSet_14 ?_
  refine lv_iconst (v := 1) hx hb dX2_strokesOfSet_15 (by decide) ?_
  refine lv_iand hx hb dX2_strokesOfSet_16 ?_
  refine lv_iconst (v := 1) hx hb dX2_strokesOfSet_17 (by decide) ?_
  refine lv_icmp_ne (tgt := 32) hx hb dX2_strokesOfSet_18 (by decide) (fun c3 => ?_) (fun c3 => ?_)
  · have hf := hf.1 c3
    obtain ⟨z4, ez4⟩ : ∃ y : Int32, y = x3_1 + 1 := ⟨_, rfl⟩
    have hf := hf z4 ez4
    refine lv_iinc (v := z4) (lv' := [(3, .int z4), (0, .ref (a 0)), (1, .int p1), (2, .int x2_1)]) hx hb dX2_strokesOfSet_32 hl (k := 3) rfl (by rw [ez4]; rfl) (by decide) rfl (fun ls hl => ?_)
    refine lv_goto (tgt := 4) hx hb dX2_strokesOfSet_35 (by decide) ?_
    obtain ⟨m9, hm9, hi9⟩ := hf
    exact ih1 m9 (x2_1, z4) hm9 hi9 _ _ _ hP hD hS (lv_sub hl [1, 2, 3, 0] rfl)
  have hf := hf.2 c3
  refine lv_iload_n hx hb dX2_strokesOfSet_21 rfl (lv_at hl 2 rfl) ?_
  refine lv_aload_n hx hb dX2_strokesOfSet_22 rfl (lv_at hl 0 rfl) ?_
  refine lv_iload_n hx hb dX2_strokesOfSet_23 rfl (lv_at hl 3 rfl) ?_
  refine cvi (As := [.int x3_1]) (rest := [.int x2_1]) (wr := []) (wn := (fun u => (sgX2 k a v_windows v_dials v_clocks v_kind v_hands v_rate v_spring v_window v_finish v_skies v_sky v_hour v_heard v_strokes))) ⟨hx, hb, hml, hown, hts⟩ (c_X2_struckBy l G k a x3_1 v_windows v_dials v_clocks v_kind v_hands v_rate v_spring v_window v_finish v_skies v_sky v_hour v_heard v_strokes _ hf) (cwT 1 hts mw633 mw369 mw370 mw71 mw371 rfl hd_X2_struckBy ⟨Nat.le_of_ble_eq_true rfl, Nat.le_of_ble_eq_true rfl⟩) hK hP hD hS hX hA [0, 1, 2, 3, 4, 5, 6, 7, 8] [] [0, 1, 2, 3, 4, 5, 6, 7, 8] rfl rfl (by decide) (by decide) (by decide) (fun u => rfl) (by decide) rfl rfl rfl rfl hl.1 rfl (Nat.le_of_ble_eq_true rfl) dX2_strokesOfSet_24 (Nat.zero_le _) (Nat.zero_le _) (fun r5 u H locs hf hP hD hS => ?_)
  have hP : va_P G vwCl (sgX2 k a v_windows v_dials v_clocks v_kind v_hands v_rate v_spring v_window v_finish v_skies v_sky v_hour v_heard v_strokes) H := hP
  have hD : va_D A (sgX2 k a v_windows v_dials v_clocks v_kind v_hands v_rate v_spring v_window v_finish v_skies v_sky v_hour v_heard v_strokes) := hD
  refine csi (As := [.int r5]) (rest := [.int x2_1]) ⟨hx, hb, hml, hown, hts⟩ (c_X2_strokesFor l G k r5 _ hf) (csT 1 hts mw642 mw643 mw71 mw644 hd_X2_strokesFor ⟨Nat.le_of_ble_eq_true rfl, Nat.le_of_ble_eq_true rfl⟩) hK hP hS hX hA rfl hl.1 rfl (Nat.le_of_ble_eq_true rfl) dX2_strokesOfSet_27 (Nat.zero_le _) (Nat.zero_le _) (fun r6 H locs hf hP hS => ?_)
  refine lv_iadd hx hb dX2_strokesOfSet_30 ?_
  refine lv_topi (fun z7 ez7 => ?_)
  have hf := hf z7 ez7
  refine lv_istore_n (lv' := [(2, .int z7), (0, .ref (a 0)), (1, .int p1), (3, .int x3_1)]) hx hb dX2_strokesOfSet_31 rfl hl (by decide) rfl (fun ls hl => ?_)
  obtain ⟨z8, ez8⟩ : ∃ y : Int32, y = x3_1 + 1 := ⟨_, rfl⟩
  have hf := hf z8 ez8
  refine lv_iinc (v := z8) (lv' := [(3, .int z8), (2, .int z7), (0, .ref (a 0)), (1, .int p1)]) hx hb dX2_strokesOfSet_32 hl (k := 3) rfl (by rw [ez8]; rfl) (by decide) rfl (fun ls hl => ?_)
  refine lv_goto (tgt := 4) hx hb dX2_strokesOfSet_35 (by decide) ?_
  obtain ⟨m9, hm9, hi9⟩ := hf
  exact ih1 m9 (z7, z8) hm9 hi9 _ _ _ hP hD hS (lv_sub hl [2, 3, 1, 0] rfl)
def wp_X2_isHome (p1 : Int32) (v_windows : Int32) (v_window : Nat → Int32) (post : Int32 → Prop) : Prop :=
  (vp_in p1 9 ∧ ((¬ (v_window (Int32.toNatClampNeg p1)) = (v_windows - 1) → (post 0 )) ∧
 ((v_window (Int32.toNatClampNeg p1)) = (v_windows - 1) → (post 1 ))))
set_option maxHeartbeats 4000000 in
set_option maxRecDepth 100000 in
theorem c_X2_isHome (l : Launch) (G : va_G) (k : Nat → ClassId) (a : Nat → Nat) (p1 : Int32) (v_windows : Int32) (v_dials : Nat → Int32) (v_clocks : Int32) (v_kind : Nat → Int32) (v_hands : Nat → Int32) (v_rate : Nat → Int32) (v_spring : Nat → Int32) (v_window : Nat → Int32) (v_finish : Nat → Int32) (v_skies : Int32) (v_sky : Nat → Int32) (v_hour : Int32) (v_heard : Int32) (v_strokes : Int32) (post : Int32 → Prop) (hf : wp_X2_isHome p1 v_windows v_window post) : MI (S := Unit) l G k yX2_isHome (Cond.code yX2_isHome cX2_isHome 2 (some .boolean) :: wT) 0 0 [.ref (a 0), .int p1] (sgX2 k a v_windows v_dials v_clocks v_kind v_hands v_rate v_spring v_window v_finish v_skies v_sky v_hour v_heard v_strokes) (fun u => (sgX2 k a v_windows v_dials v_clocks v_kind v_hands v_rate v_spring v_window v_finish v_skies v_sky v_hour v_heard v_strokes)) (fun r u => post r ) := by
  refine mi_start (cc := cX2_isHome) (maxL := 2) (ret := (some .boolean)) (by decide) [(0, .ref (a 0)), (1, .int p1)] rfl (Nat.le_of_ble_eq_true rfl) ?_
  intro p e s m below meth c A ls hx hb hr hlk hml hown hts hK hP hD hA hS hX hl
  have hown : s.vm.findClass RX2 = some m.cls := hown
  unfold wp_X2_isHome at hf
  have hH0 : s.heap = s.heap := rfl
  refine lv_aload_n hx hb dX2_isHome_0 rfl (lv_at hl 0 rfl) ?_
  refine va_get (D := G) (ci := 2) (v := .ref (a 6)) (C := RX2) (T := TX2) (N := 14) hx hb hts inX2 hown hK hP 0 rfl rfl 7 (by decide) (hts _ mw123) (fun _ h9 => h9) rfl dX2_isHome_1 ?_
  refine lv_iload_n hx hb dX2_isHome_4 rfl (lv_at hl 1 rfl) ?_
  obtain ⟨hin, hf⟩ := hf
  refine va_iald hx hb hK hP 6 0 rfl rfl hin dX2_isHome_5 ?_
  refine lv_aload_n hx hb dX2_isHome_6 rfl (lv_at hl 0 rfl) ?_
  refine va_get (D := G) (ci := 2) (v := .int v_windows) (C := RX2) (T := TX2) (N := 14) hx hb hts inX2 hown hK hP 0 rfl rfl 0 (by decide) (hts _ mw105) (fun _ h9 => h9) rfl dX2_isHome_7 ?_
  refine lv_iconst (v := 1) hx hb dX2_isHome_10 (by decide) ?_
  refine lv_isub hx hb dX2_isHome_11 ?_
  refine lv_icmp_ne (tgt := 19) hx hb dX2_isHome_12 (by decide) (fun c1 => ?_) (fun c1 => ?_)
  · have hf := hf.1 c1
    refine lv_iconst (v := 0) hx hb dX2_isHome_19 (by decide) ?_
    exact ret_z hx hb hr hlk (Or.inl rfl) () hf hP hD hS dX2_isHome_20
  have hf := hf.2 c1
  refine lv_iconst (v := 1) hx hb dX2_isHome_15 (by decide) ?_
  refine lv_goto (tgt := 20) hx hb dX2_isHome_16 (by decide) ?_
  exact ret_z hx hb hr hlk (Or.inr rfl) () hf hP hD hS dX2_isHome_20
def wp_X2_homeCount (v_windows : Int32) (v_clocks : Int32) (v_window : Nat → Int32) (post : Int32 → Prop) : Prop :=
  (∃ I1 : Nat → (Int32) → (Int32) → Prop, (∃ n1, I1 n1 0 0) ∧ ∀ (n1 : Nat) (x1_1 : Int32) (x2_1 : Int32), I1 n1 x1_1 x2_1 →
 ((v_clocks ≤ x2_1 → (post x1_1 )) ∧
 (¬ v_clocks ≤ x2_1 → (wp_X2_isHome x2_1 v_windows v_window (fun (r3 : Int32) =>
 ((r3 = 0 → (∀ z5 : Int32, z5 = x2_1 + 1 → (∃ m9, m9 < n1 ∧ I1 m9 x1_1 z5))) ∧
 (¬ r3 = 0 → (∀ z6 : Int32, z6 = x1_1 + 1 → (∀ z7 : Int32, z7 = x2_1 + 1 → (∃ m9, m9 < n1 ∧ I1 m9 z6 z7))))))))))
set_option maxHeartbeats 4000000 in
set_option maxRecDepth 100000 in
theorem c_X2_homeCount (l : Launch) (G : va_G) (k : Nat → ClassId) (a : Nat → Nat) (v_windows : Int32) (v_dials : Nat → Int32) (v_clocks : Int32) (v_kind : Nat → Int32) (v_hands : Nat → Int32) (v_rate : Nat → Int32) (v_spring : Nat → Int32) (v_window : Nat → Int32) (v_finish : Nat → Int32) (v_skies : Int32) (v_sky : Nat → Int32) (v_hour : Int32) (v_heard : Int32) (v_strokes : Int32) (post : Int32 → Prop) (hf : wp_X2_homeCount v_windows v_clocks v_window post) : MI (S := Unit) l G k yX2_homeCount (Cond.code yX2_homeCount cX2_homeCount 3 (some .int) :: wT) 1 21 [.ref (a 0)] (sgX2 k a v_windows v_dials v_clocks v_kind v_hands v_rate v_spring v_window v_finish v_skies v_sky v_hour v_heard v_strokes) (fun u => (sgX2 k a v_windows v_dials v_clocks v_kind v_hands v_rate v_spring v_window v_finish v_skies v_sky v_hour v_heard v_strokes)) (fun r u => post r ) := by
  refine mi_start (cc := cX2_homeCount) (maxL := 3) (ret := (some .int)) (by decide) [(0, .ref (a 0))] rfl (Nat.le_of_ble_eq_true rfl) ?_
  intro p e s m below meth c A ls hx hb hr hlk hml hown hts hK hP hD hA hS hX hl
  have hown : s.vm.findClass RX2 = some m.cls := hown
  unfold wp_X2_homeCount at hf
  have hH0 : s.heap = s.heap := rfl
  refine lv_iconst (v := 0) hx hb dX2_homeCount_0 (by decide) ?_
  refine lv_istore_n (lv' := [(1, .int 0), (0, .ref (a 0))]) hx hb dX2_homeCount_1 rfl hl (by decide) rfl (fun ls hl => ?_)
  refine lv_iconst (v := 0) hx hb dX2_homeCount_2 (by decide) ?_
  refine lv_istore_n (lv' := [(2, .int 0), (1, .int 0), (0, .ref (a 0))]) hx hb dX2_homeCount_3 rfl hl (by decide) rfl (fun ls hl => ?_)
  obtain ⟨I1, ⟨n1, hi1⟩, hs1⟩ := hf
  refine w_loop (G := G) (A := A) (H0 := s.heap) (nL := 3) (σ := (Int32) × (Int32)) (I := fun n v => I1 n v.1 v.2) (wl := fun v => (sgX2 k a v_windows v_dials v_clocks v_kind v_hands v_rate v_spring v_window v_finish v_skies v_sky v_hour v_heard v_strokes)) (lv := fun v => [(0, .ref (a 0)), (1, .int v.1), (2, .int v.2)]) (st := fun _ => []) n1 (0, 0) hi1 hP hD hS (lv_sub hl [2, 1, 0] rfl) (fun n1 v hi ih1 H locs ls hP hD hS hl => ?_)
  obtain ⟨x1_1, x2_1⟩ := v
  have hf := hs1 n1 x1_1 x2_1 hi
  have hP : va_P G vwCl (sgX2 k a v_windows v_dials v_clocks v_kind v_hands v_rate v_spring v_window v_finish v_skies v_sky v_hour v_heard v_strokes) H := hP
  have hD : va_D A (sgX2 k a v_windows v_dials v_clocks v_kind v_hands v_rate v_spring v_window v_finish v_skies v_sky v_hour v_heard v_strokes) := hD
  have hl : lv_has ls 3 [(0, .ref (a 0)), (1, .int x1_1), (2, .int x2_1)] := hl
  refine lv_iload_n hx hb dX2_homeCount_4 rfl (lv_at hl 2 rfl) ?_
  refine lv_aload_n hx hb dX2_homeCount_5 rfl (lv_at hl 0 rfl) ?_
  refine va_get (D := G) (ci := 2) (v := .int v_clocks) (C := RX2) (T := TX2) (N := 14) hx hb hts inX2 hown hK hP 0 rfl rfl 2 (by decide) (hts _ mw110) (fun _ h9 => h9) rfl dX2_homeCount_6 ?_
  refine lv_icmp_ge (tgt := 29) hx hb dX2_homeCount_9 (by decide) (fun c2 => ?_) (fun c2 => ?_)
  · have hf := hf.1 c2
    refine lv_iload_n hx hb dX2_homeCount_29 rfl (lv_at hl 1 rfl) ?_
    exact ret_i hx hb hr hlk () hf hP hD hS dX2_homeCount_30
  have hf := hf.2 c2
  refine lv_aload_n hx hb dX2_homeCount_12 rfl (lv_at hl 0 rfl) ?_
  refine lv_iload_n hx hb dX2_homeCount_13 rfl (lv_at hl 2 rfl) ?_
  refine cvi (As := [.int x2_1]) (rest := []) (wr := []) (wn := (fun u => (sgX2 k a v_windows v_dials v_clocks v_kind v_hands v_rate v_spring v_window v_finish v_skies v_sky v_hour v_heard v_strokes))) ⟨hx, hb, hml, hown, hts⟩ (c_X2_isHome l G k a x2_1 v_windows v_dials v_clocks v_kind v_hands v_rate v_spring v_window v_finish v_skies v_sky v_hour v_heard v_strokes _ hf) (cwT 1 hts mw632 mw357 mw358 mw71 mw359 rfl hd_X2_isHome ⟨Nat.le_of_ble_eq_true rfl, Nat.le_of_ble_eq_true rfl⟩) hK hP hD hS hX hA [0, 1, 2, 3, 4, 5, 6, 7, 8] [] [0, 1, 2, 3, 4, 5, 6, 7, 8] rfl rfl (by decide) (by decide) (by decide) (fun u => rfl) (by decide) rfl rfl rfl rfl hl.1 rfl (Nat.le_of_ble_eq_true rfl) dX2_homeCount_14 (Nat.zero_le _) (Nat.zero_le _) (fun r3 u H locs hf hP hD hS => ?_)
  have hP : va_P G vwCl (sgX2 k a v_windows v_dials v_clocks v_kind v_hands v_rate v_spring v_window v_finish v_skies v_sky v_hour v_heard v_strokes) H := hP
  have hD : va_D A (sgX2 k a v_windows v_dials v_clocks v_kind v_hands v_rate v_spring v_window v_finish v_skies v_sky v_hour v_heard v_strokes) := hD
  refine lv_if_eq (tgt := 23) hx hb dX2_homeCount_17 (by decide) (fun c4 => ?_) (fun c4 => ?_)
  · have hf := hf.1 c4
    obtain ⟨z5, ez5⟩ : ∃ y : Int32, y = x2_1 + 1 := ⟨_, rfl⟩
    have hf := hf z5 ez5
    refine lv_iinc (v := z5) (lv' := [(2, .int z5), (0, .ref (a 0)), (1, .int x1_1)]) hx hb dX2_homeCount_23 hl (k := 2) rfl (by rw [ez5]; rfl) (by decide) rfl (fun ls hl => ?_)
    refine lv_goto (tgt := 4) hx hb dX2_homeCount_26 (by decide) ?_
    obtain ⟨m9, hm9, hi9⟩ := hf
    exact ih1 m9 (x1_1, z5) hm9 hi9 _ _ _ hP hD hS (lv_sub hl [1, 2, 0] rfl)
  have hf := hf.2 c4
  obtain ⟨z6, ez6⟩ : ∃ y : Int32, y = x1_1 + 1 := ⟨_, rfl⟩
  have hf := hf z6 ez6
  refine lv_iinc (v := z6) (lv' := [(1, .int z6), (0, .ref (a 0)), (2, .int x2_1)]) hx hb dX2_homeCount_20 hl (k := 1) rfl (by rw [ez6]; rfl) (by decide) rfl (fun ls hl => ?_)
  obtain ⟨z7, ez7⟩ : ∃ y : Int32, y = x2_1 + 1 := ⟨_, rfl⟩
  have hf := hf z7 ez7
  refine lv_iinc (v := z7) (lv' := [(2, .int z7), (1, .int z6), (0, .ref (a 0))]) hx hb dX2_homeCount_23 hl (k := 2) rfl (by rw [ez7]; rfl) (by decide) rfl (fun ls hl => ?_)
  refine lv_goto (tgt := 4) hx hb dX2_homeCount_26 (by decide) ?_
  obtain ⟨m9, hm9, hi9⟩ := hf
  exact ih1 m9 (z6, z7) hm9 hi9 _ _ _ hP hD hS (lv_sub hl [2, 1, 0] rfl)
def wp_X2_allHome (v_windows : Int32) (v_clocks : Int32) (v_window : Nat → Int32) (post : Int32 → Prop) : Prop :=
  (wp_X2_homeCount v_windows v_clocks v_window (fun (r1 : Int32) =>
 ((¬ r1 = v_clocks → (post 0 )) ∧
 (r1 = v_clocks → (post 1 )))))
set_option maxHeartbeats 4000000 in
set_option maxRecDepth 100000 in
theorem c_X2_allHome (l : Launch) (G : va_G) (k : Nat → ClassId) (a : Nat → Nat) (v_windows : Int32) (v_dials : Nat → Int32) (v_clocks : Int32) (v_kind : Nat → Int32) (v_hands : Nat → Int32) (v_rate : Nat → Int32) (v_spring : Nat → Int32) (v_window : Nat → Int32) (v_finish : Nat → Int32) (v_skies : Int32) (v_sky : Nat → Int32) (v_hour : Int32) (v_heard : Int32) (v_strokes : Int32) (post : Int32 → Prop) (hf : wp_X2_allHome v_windows v_clocks v_window post) : MI (S := Unit) l G k yX2_allHome (Cond.code yX2_allHome cX2_allHome 1 (some .boolean) :: wT) 2 43 [.ref (a 0)] (sgX2 k a v_windows v_dials v_clocks v_kind v_hands v_rate v_spring v_window v_finish v_skies v_sky v_hour v_heard v_strokes) (fun u => (sgX2 k a v_windows v_dials v_clocks v_kind v_hands v_rate v_spring v_window v_finish v_skies v_sky v_hour v_heard v_strokes)) (fun r u => post r ) := by
  refine mi_start (cc := cX2_allHome) (maxL := 1) (ret := (some .boolean)) (by decide) [(0, .ref (a 0))] rfl (Nat.le_of_ble_eq_true rfl) ?_
  intro p e s m below meth c A ls hx hb hr hlk hml hown hts hK hP hD hA hS hX hl
  have hown : s.vm.findClass RX2 = some m.cls := hown
  unfold wp_X2_allHome at hf
  have hH0 : s.heap = s.heap := rfl
  refine lv_aload_n hx hb dX2_allHome_0 rfl (lv_at hl 0 rfl) ?_
  refine cvi (As := []) (rest := []) (wr := []) (wn := (fun u => (sgX2 k a v_windows v_dials v_clocks v_kind v_hands v_rate v_spring v_window v_finish v_skies v_sky v_hour v_heard v_strokes))) ⟨hx, hb, hml, hown, hts⟩ (c_X2_homeCount l G k a v_windows v_dials v_clocks v_kind v_hands v_rate v_spring v_window v_finish v_skies v_sky v_hour v_heard v_strokes _ hf) (cwT 0 hts mw717 mw655 mw656 mw71 mw657 rfl hd_X2_homeCount ⟨Nat.le_of_ble_eq_true rfl, Nat.le_of_ble_eq_true rfl⟩) hK hP hD hS hX hA [0, 1, 2, 3, 4, 5, 6, 7, 8] [] [0, 1, 2, 3, 4, 5, 6, 7, 8] rfl rfl (by decide) (by decide) (by decide) (fun u => rfl) (by decide) rfl rfl rfl rfl hl.1 rfl (Nat.le_of_ble_eq_true rfl) dX2_allHome_1 (Nat.zero_le _) (Nat.zero_le _) (fun r1 u H locs hf hP hD hS => ?_)
  have hP : va_P G vwCl (sgX2 k a v_windows v_dials v_clocks v_kind v_hands v_rate v_spring v_window v_finish v_skies v_sky v_hour v_heard v_strokes) H := hP
  have hD : va_D A (sgX2 k a v_windows v_dials v_clocks v_kind v_hands v_rate v_spring v_window v_finish v_skies v_sky v_hour v_heard v_strokes) := hD
  refine lv_aload_n hx hb dX2_allHome_4 rfl (lv_at hl 0 rfl) ?_
  refine va_get (D := G) (ci := 2) (v := .int v_clocks) (C := RX2) (T := TX2) (N := 14) hx hb hts inX2 hown hK hP 0 rfl rfl 2 (by decide) (hts _ mw110) (fun _ h9 => h9) rfl dX2_allHome_5 ?_
  refine lv_icmp_ne (tgt := 15) hx hb dX2_allHome_8 (by decide) (fun c2 => ?_) (fun c2 => ?_)
  · have hf := hf.1 c2
    refine lv_iconst (v := 0) hx hb dX2_allHome_15 (by decide) ?_
    exact ret_z hx hb hr hlk (Or.inl rfl) () hf hP hD hS dX2_allHome_16
  have hf := hf.2 c2
  refine lv_iconst (v := 1) hx hb dX2_allHome_11 (by decide) ?_
  refine lv_goto (tgt := 16) hx hb dX2_allHome_12 (by decide) ?_
  exact ret_z hx hb hr hlk (Or.inr rfl) () hf hP hD hS dX2_allHome_16
def wp_X2_windOn (p1 : Int32) (p2 : Int32) (v_spring : Nat → Int32) (post : (Nat → Int32) → Prop) : Prop :=
  (vp_in p1 9 ∧ (∀ z1 : Int32, z1 = (if ((v_spring (Int32.toNatClampNeg p1)) + p2) < 99 then ((v_spring (Int32.toNatClampNeg p1)) + p2) else 99) → (vp_in p1 9 ∧ ∀ f2 : Nat → Int32, f2 = (upd v_spring (Int32.toNatClampNeg p1) z1) → (post f2))))
set_option maxHeartbeats 4000000 in
set_option maxRecDepth 100000 in
theorem c_X2_windOn (l : Launch) (G : va_G) (k : Nat → ClassId) (a : Nat → Nat) (p1 : Int32) (p2 : Int32) (v_windows : Int32) (v_dials : Nat → Int32) (v_clocks : Int32) (v_kind : Nat → Int32) (v_hands : Nat → Int32) (v_rate : Nat → Int32) (v_spring : Nat → Int32) (v_window : Nat → Int32) (v_finish : Nat → Int32) (v_skies : Int32) (v_sky : Nat → Int32) (v_hour : Int32) (v_heard : Int32) (v_strokes : Int32) (post : (Nat → Int32) → Prop) (hf : wp_X2_windOn p1 p2 v_spring post) : MV (S := (Nat → Int32)) l G k yX2_windOn (Cond.code yX2_windOn cX2_windOn 3 none :: wT) 1 15 [.ref (a 0), .int p1, .int p2] (sgX2 k a v_windows v_dials v_clocks v_kind v_hands v_rate v_spring v_window v_finish v_skies v_sky v_hour v_heard v_strokes) (fun u => (sgX2 k a v_windows v_dials v_clocks v_kind v_hands v_rate u v_window v_finish v_skies v_sky v_hour v_heard v_strokes)) (fun u => post u) := by
  refine mv_start (cc := cX2_windOn) (maxL := 3) (ret := none) (by decide) [(0, .ref (a 0)), (1, .int p1), (2, .int p2)] rfl (Nat.le_of_ble_eq_true rfl) ?_
  intro p e s m below meth c A ls hx hb hr hlk hml hown hts hK hP hD hA hS hX hl
  have hown : s.vm.findClass RX2 = some m.cls := hown
  unfold wp_X2_windOn at hf
  have hH0 : s.heap = s.heap := rfl
  refine lv_aload_n hx hb dX2_windOn_0 rfl (lv_at hl 0 rfl) ?_
  refine va_get (D := G) (ci := 2) (v := .ref (a 5)) (C := RX2) (T := TX2) (N := 14) hx hb hts inX2 hown hK hP 0 rfl rfl 6 (by decide) (hts _ mw120) (fun _ h9 => h9) rfl dX2_windOn_1 ?_
  refine lv_iload_n hx hb dX2_windOn_4 rfl (lv_at hl 1 rfl) ?_
  refine lv_bipush (v := 99) hx hb dX2_windOn_5 (by decide) ?_
  refine lv_aload_n hx hb dX2_windOn_7 rfl (lv_at hl 0 rfl) ?_
  refine va_get (D := G) (ci := 2) (v := .ref (a 5)) (C := RX2) (T := TX2) (N := 14) hx hb hts inX2 hown hK hP 0 rfl rfl 6 (by decide) (hts _ mw120) (fun _ h9 => h9) rfl dX2_windOn_8 ?_
  refine lv_iload_n hx hb dX2_windOn_11 rfl (lv_at hl 1 rfl) ?_
  obtain ⟨hin, hf⟩ := hf
  refine va_iald hx hb hK hP 5 0 rfl rfl hin dX2_windOn_12 ?_
  refine lv_iload_n hx hb dX2_windOn_13 rfl (lv_at hl 2 rfl) ?_
  refine lv_iadd hx hb dX2_windOn_14 ?_
  refine va_mmin hx hb (hml.trans hl.1.symm) hown (hts _ mw609) (hts _ mw457) (hts _ mw81) (hts _ mw458) (Nat.le_of_ble_eq_true rfl) (Nat.le_of_ble_eq_true rfl) (Nat.zero_le _) (Nat.zero_le _) dX2_windOn_15 ?_
  refine lv_topi (fun z1 ez1 => ?_)
  have hf := hf z1 ez1
  obtain ⟨hin, hf⟩ := hf
  refine va_iast hx hb hK hP hD hS 5 0 rfl rfl hin dX2_windOn_18 (fun H locs hP hD hS => ?_)
  have hP : va_P G vwCl (sgX2 k a v_windows v_dials v_clocks v_kind v_hands v_rate (upd v_spring (Int32.toNatClampNeg p1) z1) v_window v_finish v_skies v_sky v_hour v_heard v_strokes) H := hP
  have hD : va_D A (sgX2 k a v_windows v_dials v_clocks v_kind v_hands v_rate (upd v_spring (Int32.toNatClampNeg p1) z1) v_window v_finish v_skies v_sky v_hour v_heard v_strokes) := hD
  generalize ef2 : (upd v_spring (Int32.toNatClampNeg p1) z1) = f2 at hP hD
  have hf := hf f2 ef2.symm
  exact ret_v hx hb hr hlk f2 hf hP hD hS dX2_windOn_19
def wp_X2_turnOn (p1 : Int32) (p2 : Int32) (v_hands : Nat → Int32) (post : (Nat → Int32) → Prop) : Prop :=
  (vp_in p1 9 ∧ (∀ z1 : Int32, z1 = (((v_hands (Int32.toNatClampNeg p1)) + p2) - ((v_hands (Int32.toNatClampNeg p1)) + p2) / 720 * 720) → (vp_in p1 9 ∧ ∀ f2 : Nat → Int32, f2 = (upd v_hands (Int32.toNatClampNeg p1) z1) → (post f2))))
set_option maxHeartbeats 4000000 in
set_option maxRecDepth 100000 in
theorem c_X2_turnOn (l : Launch) (G : va_G) (k : Nat → ClassId) (a : Nat → Nat) (p1 : Int32) (p2 : Int32) (v_windows : Int32) (v_dials : Nat → Int32) (v_clocks : Int32) (v_kind : Nat → Int32) (v_hands : Nat → Int32) (v_rate : Nat → Int32) (v_spring : Nat → Int32) (v_window : Nat → Int32) (v_finish : Nat → Int32) (v_skies : Int32) (v_sky : Nat → Int32) (v_hour : Int32) (v_heard : Int32) (v_strokes : Int32) (post : (Nat → Int32) → Prop) (hf : wp_X2_turnOn p1 p2 v_hands post) : MV (S := (Nat → Int32)) l G k yX2_turnOn (Cond.code yX2_turnOn cX2_turnOn 3 none :: wT) 0 0 [.ref (a 0), .int p1, .int p2] (sgX2 k a v_windows v_dials v_clocks v_kind v_hands v_rate v_spring v_window v_finish v_skies v_sky v_hour v_heard v_strokes) (fun u => (sgX2 k a v_windows v_dials v_clocks v_kind u v_rate v_spring v_window v_finish v_skies v_sky v_hour v_heard v_strokes)) (fun u => post u) := by
  refine mv_start (cc := cX2_turnOn) (maxL := 3) (ret := none) (by decide) [(0, .ref (a 0)), (1, .int p1), (2, .int p2)] rfl (Nat.le_of_ble_eq_true rfl) ?_
  intro p e s m below meth c A ls hx hb hr hlk hml hown hts hK hP hD hA hS hX hl
  have hown : s.vm.findClass RX2 = some m.cls := hown
  unfold wp_X2_turnOn at hf
  have hH0 : s.heap = s.heap := rfl
  refine lv_aload_n hx hb dX2_turnOn_0 rfl (lv_at hl 0 rfl) ?_
  refine va_get (D := G) (ci := 2) (v := .ref (a 3)) (C := RX2) (T := TX2) (N := 14) hx hb hts inX2 hown hK hP 0 rfl rfl 4 (by decide) (hts _ mw114) (fun _ h9 => h9) rfl dX2_turnOn_1 ?_
  refine lv_iload_n hx hb dX2_turnOn_4 rfl (lv_at hl 1 rfl) ?_
  refine lv_aload_n hx hb dX2_turnOn_5 rfl (lv_at hl 0 rfl) ?_
  refine va_get (D := G) (ci := 2) (v := .ref (a 3)) (C := RX2) (T := TX2) (N := 14) hx hb hts inX2 hown hK hP 0 rfl rfl 4 (by decide) (hts _ mw114) (fun _ h9 => h9) rfl dX2_turnOn_6 ?_
  refine lv_iload_n hx hb dX2_turnOn_9 rfl (lv_at hl 1 rfl) ?_
  obtain ⟨hin, hf⟩ := hf
  refine va_iald hx hb hK hP 3 0 rfl rfl hin dX2_turnOn_10 ?_
  refine lv_iload_n hx hb dX2_turnOn_11 rfl (lv_at hl 2 rfl) ?_
  refine lv_iadd hx hb dX2_turnOn_12 ?_
  refine lv_sipush (v := 720) hx hb dX2_turnOn_13 (by decide) ?_
  refine lv_irem hx hb dX2_turnOn_16 (by decide) ?_
  refine lv_topi (fun z1 ez1 => ?_)
  have hf := hf z1 ez1
  obtain ⟨hin, hf⟩ := hf
  refine va_iast hx hb hK hP hD hS 3 0 rfl rfl hin dX2_turnOn_17 (fun H locs hP hD hS => ?_)
  have hP : va_P G vwCl (sgX2 k a v_windows v_dials v_clocks v_kind (upd v_hands (Int32.toNatClampNeg p1) z1) v_rate v_spring v_window v_finish v_skies v_sky v_hour v_heard v_strokes) H := hP
  have hD : va_D A (sgX2 k a v_windows v_dials v_clocks v_kind (upd v_hands (Int32.toNatClampNeg p1) z1) v_rate v_spring v_window v_finish v_skies v_sky v_hour v_heard v_strokes) := hD
  generalize ef2 : (upd v_hands (Int32.toNatClampNeg p1) z1) = f2 at hP hD
  have hf := hf f2 ef2.symm
  exact ret_v hx hb hr hlk f2 hf hP hD hS dX2_turnOn_18
def wp_X2_mayGo (p1 : Int32) (p2 : Int32) (p3 : Int32) (v_dials : Nat → Int32) (v_kind : Nat → Int32) (v_window : Nat → Int32) (v_hour : Int32) (post : Int32 → Prop) : Prop :=
  (vp_in p1 9 ∧ (∃ J1 : Prop, (J1 →
 (vp_in p1 9 ∧ (∃ J2 : Prop, (J2 →
 (vp_in p1 9 ∧ (vp_in ((v_window (Int32.toNatClampNeg p1)) + 1) 24 ∧ (∀ z3 : Int32, z3 = (v_dials (Int32.toNatClampNeg ((v_window (Int32.toNatClampNeg p1)) + 1))) → ((z3 = 12 → (post 1 )) ∧
 (¬ z3 = 12 → ((¬ z3 = p2 → (post 0 )) ∧
 (z3 = p2 → (post 1 ))))))))) ∧
 ((¬ (v_kind (Int32.toNatClampNeg p1)) = 3 → J2) ∧
 ((v_kind (Int32.toNatClampNeg p1)) = 3 → ((p3 = 0 → J2) ∧
 (¬ p3 = 0 → (post 0 )))))))) ∧
 ((¬ (v_kind (Int32.toNatClampNeg p1)) = 5 → J1) ∧
 ((v_kind (Int32.toNatClampNeg p1)) = 5 → ((¬ (v_hour - v_hour / 6 * 6) = 0 → J1) ∧
 ((v_hour - v_hour / 6 * 6) = 0 → (post 1 )))))))
set_option maxHeartbeats 4000000 in
set_option maxRecDepth 100000 in
theorem c_X2_mayGo (l : Launch) (G : va_G) (k : Nat → ClassId) (a : Nat → Nat) (p1 : Int32) (p2 : Int32) (p3 : Int32) (v_windows : Int32) (v_dials : Nat → Int32) (v_clocks : Int32) (v_kind : Nat → Int32) (v_hands : Nat → Int32) (v_rate : Nat → Int32) (v_spring : Nat → Int32) (v_window : Nat → Int32) (v_finish : Nat → Int32) (v_skies : Int32) (v_sky : Nat → Int32) (v_hour : Int32) (v_heard : Int32) (v_strokes : Int32) (post : Int32 → Prop) (hf : wp_X2_mayGo p1 p2 p3 v_dials v_kind v_window v_hour post) : MI (S := Unit) l G k yX2_mayGo (Cond.code yX2_mayGo cX2_mayGo 5 (some .boolean) :: wT) 0 0 [.ref (a 0), .int p1, .int p2, .int p3] (sgX2 k a v_windows v_dials v_clocks v_kind v_hands v_rate v_spring v_window v_finish v_skies v_sky v_hour v_heard v_strokes) (fun u => (sgX2 k a v_windows v_dials v_clocks v_kind v_hands v_rate v_spring v_window v_finish v_skies v_sky v_hour v_heard v_strokes)) (fun r u => post r ) := by
  refine mi_start (cc := cX2_mayGo) (maxL := 5) (ret := (some .boolean)) (by decide) [(0, .ref (a 0)), (1, .int p1), (2, .int p2), (3, .int p3)] rfl (Nat.le_of_ble_eq_true rfl) ?_
  intro p e s m below meth c A ls hx hb hr hlk hml hown hts hK hP hD hA hS hX hl
  have hown : s.vm.findClass RX2 = some m.cls := hown
  unfold wp_X2_mayGo at hf
  have hH0 : s.heap = s.heap := rfl
  refine lv_aload_n hx hb dX2_mayGo_0 rfl (lv_at hl 0 rfl) ?_
  refine va_get (D := G) (ci := 2) (v := .ref (a 2)) (C := RX2) (T := TX2) (N := 14) hx hb hts inX2 hown hK hP 0 rfl rfl 3 (by decide) (hts _ mw112) (fun _ h9 => h9) rfl dX2_mayGo_1 ?_
  refine lv_iload_n hx hb dX2_mayGo_4 rfl (lv_at hl 1 rfl) ?_
  obtain ⟨hin, hf⟩ := hf
  refine va_iald hx hb hK hP 2 0 rfl rfl hin dX2_mayGo_5 ?_
  refine lv_iconst (v := 5) hx hb dX2_mayGo_6 (by decide) ?_
  obtain ⟨J1, hj1, hf⟩ := hf
  refine w_join (G := G) (A := A) (H0 := s.heap) (nL := 5) (jpc := 22) (σ := Unit) (J := fun v => J1 ) (wl := fun v => (sgX2 k a v_windows v_dials v_clocks v_kind v_hands v_rate v_spring v_window v_finish v_skies v_sky v_hour v_heard v_strokes)) (lv := fun v => [(0, .ref (a 0)), (1, .int p1), (2, .int p2), (3, .int p3)]) (st := fun v => []) (fun v hj H locs ls hP hD hS hl => ?_) (fun jn1 => ?_)
  · skip
    have hf := hj1  hj
    have hP : va_P G vwCl (sgX2 k a v_windows v_dials v_clocks v_kind v_hands v_rate v_spring v_window v_finish v_skies v_sky v_hour v_heard v_strokes) H := hP
    have hD : va_D A (sgX2 k a v_windows v_dials v_clocks v_kind v_hands v_rate v_spring v_window v_finish v_skies v_sky v_hour v_heard v_strokes) := hD
    have hl : lv_has ls 5 [(0, .ref (a 0)), (1, .int p1), (2, .int p2), (3, .int p3)] := hl
    refine lv_aload_n hx hb dX2_mayGo_22 rfl (lv_at hl 0 rfl) ?_
    refine va_get (D := G) (ci := 2) (v := .ref (a 2)) (C := RX2) (T := TX2) (N := 14) hx hb hts inX2 hown hK hP 0 rfl rfl 3 (by decide) (hts _ mw112) (fun _ h9 => h9) rfl dX2_mayGo_23 ?_
    refine lv_iload_n hx hb dX2_mayGo_26 rfl (lv_at hl 1 rfl) ?_
    obtain ⟨hin, hf⟩ := hf
    refine va_iald hx hb hK hP 2 0 rfl rfl hin dX2_mayGo_27 ?_
    refine lv_iconst (v := 3) hx hb dX2_mayGo_28 (by decide) ?_
    obtain ⟨J2, hj2, hf⟩ := hf
    refine w_join (G := G) (A := A) (H0 := s.heap) (nL := 5) (jpc := 38) (σ := Unit) (J := fun v => J2 ) (wl := fun v => (sgX2 k a v_windows v_dials v_clocks v_kind v_hands v_rate v_spring v_window v_finish v_skies v_sky v_hour v_heard v_strokes)) (lv := fun v => [(0, .ref (a 0)), (1, .int p1), (2, .int p2)]) (st := fun v => []) (fun v hj H locs ls hP hD hS hl => ?_) (fun jn2 => ?_)
    · skip
      have hf := hj2  hj
      have hP : va_P G vwCl (sgX2 k a v_windows v_dials v_clocks v_kind v_hands v_rate v_spring v_window v_finish v_skies v_sky v_hour v_heard v_strokes) H := hP
      have hD : va_D A (sgX2 k a v_windows v_dials v_clocks v_kind v_hands v_rate v_spring v_window v_finish v_skies v_sky v_hour v_heard v_strokes) := hD
      have hl : lv_has ls 5 [(0, .ref (a 0)), (1, .int p1), (2, .int p2)] := hl
      refine lv_aload_n hx hb dX2_mayGo_38 rfl (lv_at hl 0 rfl) ?_
      refine va_get (D := G) (ci := 2) (v := .ref (a 1)) (C := RX2) (T := TX2) (N := 14) hx hb hts inX2 hown hK hP 0 rfl rfl 1 (by decide) (hts _ mw107) (fun _ h9 => h9) rfl dX2_mayGo_39 ?_
      refine lv_aload_n hx hb dX2_mayGo_42 rfl (lv_at hl 0 rfl) ?_
      refine va_get (D := G) (ci := 2) (v := .ref (a 6)) (C := RX2) (T := TX2) (N := 14) hx hb hts inX2 hown hK hP 0 rfl rfl 7 (by decide) (hts _ mw123) (fun _ h9 => h9) rfl dX2_mayGo_43 ?_
      refine lv_iload_n hx hb dX2_mayGo_46 rfl (lv_at hl 1 rfl) ?_
      obtain ⟨hin, hf⟩ := hf
      refine va_iald hx hb hK hP 6 0 rfl rfl hin dX2_mayGo_47 ?_
      refine lv_iconst (v := 1) hx hb dX2_mayGo_48 (by decide) ?_
      refine lv_iadd hx hb dX2_mayGo_49 ?_
      obtain ⟨hin, hf⟩ := hf
      refine va_iald hx hb hK hP 1 0 rfl rfl hin dX2_mayGo_50 ?_
      refine lv_topi (fun z3 ez3 => ?_)
      have hf := hf z3 ez3
      refine lv_istore (lv' := [(4, .int z3), (0, .ref (a 0)), (1, .int p1), (2, .int p2)]) hx hb dX2_mayGo_51 hl (by decide) rfl (fun ls hl => ?_)
      refine lv_iload hx hb dX2_mayGo_53 (lv_at hl 0 rfl) ?_
      refine lv_bipush (v := 12) hx hb dX2_mayGo_55 (by decide) ?_
      refine lv_icmp_eq (tgt := 66) hx hb dX2_mayGo_57 (by decide) (fun c4 => ?_) (fun c4 => ?_)
      · have hf := hf.1 c4
        refine lv_iconst (v := 1) hx hb dX2_mayGo_66 (by decide) ?_
        refine lv_goto (tgt := 71) hx hb dX2_mayGo_67 (by decide) ?_
        exact ret_z hx hb hr hlk (Or.inr rfl) () hf hP hD hS dX2_mayGo_71
      have hf := hf.2 c4
      refine lv_iload hx hb dX2_mayGo_60 (lv_at hl 0 rfl) ?_
      refine lv_iload_n hx hb dX2_mayGo_62 rfl (lv_at hl 3 rfl) ?_
      refine lv_icmp_ne (tgt := 70) hx hb dX2_mayGo_63 (by decide) (fun c5 => ?_) (fun c5 => ?_)
      · have hf := hf.1 c5
        refine lv_iconst (v := 0) hx hb dX2_mayGo_70 (by decide) ?_
        exact ret_z hx hb hr hlk (Or.inl rfl) () hf hP hD hS dX2_mayGo_71
      have hf := hf.2 c5
      refine lv_iconst (v := 1) hx hb dX2_mayGo_66 (by decide) ?_
      refine lv_goto (tgt := 71) hx hb dX2_mayGo_67 (by decide) ?_
      exact ret_z hx hb hr hlk (Or.inr rfl) () hf hP hD hS dX2_mayGo_71
    refine lv_icmp_ne (tgt := 38) hx hb dX2_mayGo_29 (by decide) (fun c6 => ?_) (fun c6 => ?_)
    · have hf := hf.1 c6
      exact jn2 () hf _ _ _ hP hD hS (lv_sub hl [0, 1, 2] rfl)
    have hf := hf.2 c6
    refine lv_iload_n hx hb dX2_mayGo_32 rfl (lv_at hl 3 rfl) ?_
    refine lv_if_eq (tgt := 38) hx hb dX2_mayGo_33 (by decide) (fun c7 => ?_) (fun c7 => ?_)
    · have hf := hf.1 c7
      exact jn2 () hf _ _ _ hP hD hS (lv_sub hl [0, 1, 2] rfl)
    have hf := hf.2 c7
    refine lv_iconst (v := 0) hx hb dX2_mayGo_36 (by decide) ?_
    exact ret_z hx hb hr hlk (Or.inl rfl) () hf hP hD hS dX2_mayGo_37
  refine lv_icmp_ne (tgt := 22) hx hb dX2_mayGo_7 (by decide) (fun c8 => ?_) (fun c8 => ?_)
  · have hf := hf.1 c8
    exact jn1 () hf _ _ _ hP hD hS (lv_sub hl [0, 1, 2, 3] rfl)
  have hf := hf.2 c8
  refine lv_aload_n hx hb dX2_mayGo_10 rfl (lv_at hl 0 rfl) ?_
  refine va_get (D := G) (ci := 2) (v := .int v_hour) (C := RX2) (T := TX2) (N := 14) hx hb hts inX2 hown hK hP 0 rfl rfl 11 (by decide) (hts _ mw131) (fun _ h9 => h9) rfl dX2_mayGo_11 ?_
  refine lv_bipush (v := 6) hx hb dX2_mayGo_14 (by decide) ?_
  refine lv_irem hx hb dX2_mayGo_16 (by decide) ?_
  refine lv_if_ne (tgt := 22) hx hb dX2_mayGo_17 (by decide) (fun c9 => ?_) (fun c9 => ?_)
  · have hf := hf.1 c9
    exact jn1 () hf _ _ _ hP hD hS (lv_sub hl [0, 1, 2, 3] rfl)
  have hf := hf.2 c9
  refine lv_iconst (v := 1) hx hb dX2_mayGo_20 (by decide) ?_
  exact ret_z hx hb hr hlk (Or.inr rfl) () hf hP hD hS dX2_mayGo_21
def wp_X2_go (p1 : Int32) (p2 : Int32) (p3 : Int32) (v_windows : Int32) (v_dials : Nat → Int32) (v_kind : Nat → Int32) (v_window : Nat → Int32) (v_finish : Nat → Int32) (v_hour : Int32) (v_heard : Int32) (v_strokes : Int32) (post : (Nat → Int32) → (Nat → Int32) → (Nat → Int32) → (Int32) → (Int32) → Prop) : Prop :=
  (vp_in p1 9 ∧ (∃ J1 : (Int32) → Prop, (∀ (y0_1 : Int32), J1 y0_1 →
 (vp_in p1 9 ∧ (vp_in (v_window (Int32.toNatClampNeg p1)) 24 ∧ ∀ f2 : Nat → Int32, f2 = (upd v_dials (Int32.toNatClampNeg (v_window (Int32.toNatClampNeg p1))) p2) → (vp_in p1 9 ∧ (∀ z3 : Int32, z3 = (if (v_windows - 1) < ((v_window (Int32.toNatClampNeg p1)) + y0_1) then (v_windows - 1) else ((v_window (Int32.toNatClampNeg p1)) + y0_1)) → (vp_in p1 9 ∧ ∀ f4 : Nat → Int32, f4 = (upd v_window (Int32.toNatClampNeg p1) z3) → (wp_X2_isHome p1 v_windows f4 (fun (r5 : Int32) =>
 (∃ J6 : (Nat → Int32) → Prop, (∀ (v_finish_6 : Nat → Int32), J6 v_finish_6 →
 ((¬ p3 = 2 → (∀ z8 : Int32, z8 = (v_heard ||| (1 <<< (p1 &&& 31))) → (wp_X2_strokesFor p2 (fun (r9 : Int32) =>
 (∀ z10 : Int32, z10 = (v_strokes + r9) → (post f2 f4 v_finish_6 z8 z10)))))) ∧
 (p3 = 2 → (post f2 f4 v_finish_6 v_heard v_strokes)))) ∧
 ((r5 = 0 → (J6 v_finish)) ∧
 (¬ r5 = 0 → (∀ z12 : Int32, z12 = (v_hour + 1) → (vp_in p1 9 ∧ ∀ f13 : Nat → Int32, f13 = (upd v_finish (Int32.toNatClampNeg p1) z12) → (J6 f13)))))))))))))) ∧
 ((¬ (v_kind (Int32.toNatClampNeg p1)) = 1 → (J1 1)) ∧
 ((v_kind (Int32.toNatClampNeg p1)) = 1 → ((¬ p3 = 1 → (J1 1)) ∧
 (p3 = 1 → (J1 2)))))))
set_option maxHeartbeats 4000000 in
set_option maxRecDepth 100000 in
theorem c_X2_go (l : Launch) (G : va_G) (k : Nat → ClassId) (a : Nat → Nat) (p1 : Int32) (p2 : Int32) (p3 : Int32) (v_windows : Int32) (v_dials : Nat → Int32) (v_clocks : Int32) (v_kind : Nat → Int32) (v_hands : Nat → Int32) (v_rate : Nat → Int32) (v_spring : Nat → Int32) (v_window : Nat → Int32) (v_finish : Nat → Int32) (v_skies : Int32) (v_sky : Nat → Int32) (v_hour : Int32) (v_heard : Int32) (v_strokes : Int32) (post : (Nat → Int32) → (Nat → Int32) → (Nat → Int32) → (Int32) → (Int32) → Prop) (hf : wp_X2_go p1 p2 p3 v_windows v_dials v_kind v_window v_finish v_hour v_heard v_strokes post) : MV (S := (Nat → Int32) × (Nat → Int32) × (Nat → Int32) × (Int32) × (Int32)) l G k yX2_go (Cond.code yX2_go cX2_go 5 none :: wT) 1 21 [.ref (a 0), .int p1, .int p2, .int p3] (sgX2 k a v_windows v_dials v_clocks v_kind v_hands v_rate v_spring v_window v_finish v_skies v_sky v_hour v_heard v_strokes) (fun u => (sgX2 k a v_windows u.1 v_clocks v_kind v_hands v_rate v_spring u.2.1 u.2.2.1 v_skies v_sky v_hour u.2.2.2.1 u.2.2.2.2)) (fun u => post u.1 u.2.1 u.2.2.1 u.2.2.2.1 u.2.2.2.2) := by
  refine mv_start (cc := cX2_go) (maxL := 5) (ret := none) (by decide) [(0, .ref (a 0)), (1, .int p1), (2, .int p2), (3, .int p3)] rfl (Nat.le_of_ble_eq_true rfl) ?_
  intro p e s m below meth c A ls hx hb hr hlk hml hown hts hK hP hD hA hS hX hl
  have hown : s.vm.findClass RX2 = some m.cls := hown
  unfold wp_X2_go at hf
  have hH0 : s.heap = s.heap := rfl
  refine lv_aload_n hx hb dX2_go_0 rfl (lv_at hl 0 rfl) ?_
  refine va_get (D := G) (ci := 2) (v := .ref (a 2)) (C := RX2) (T := TX2) (N := 14) hx hb hts inX2 hown hK hP 0 rfl rfl 3 (by decide) (hts _ mw112) (fun _ h9 => h9) rfl dX2_go_1 ?_
  refine lv_iload_n hx hb dX2_go_4 rfl (lv_at hl 1 rfl) ?_
  obtain ⟨hin, hf⟩ := hf
  refine va_iald hx hb hK hP 2 0 rfl rfl hin dX2_go_5 ?_
  refine lv_iconst (v := 1) hx hb dX2_go_6 (by decide) ?_
  obtain ⟨J1, hj1, hf⟩ := hf
  refine w_join (G := G) (A := A) (H0 := s.heap) (nL := 5) (jpc := 20) (σ := (Int32)) (J := fun v => J1 v) (wl := fun v => (sgX2 k a v_windows v_dials v_clocks v_kind v_hands v_rate v_spring v_window v_finish v_skies v_sky v_hour v_heard v_strokes)) (lv := fun v => [(0, .ref (a 0)), (1, .int p1), (2, .int p2), (3, .int p3)]) (st := fun v => [.int v]) (fun v hj H locs ls hP hD hS hl => ?_) (fun jn1 => ?_)
  · skip
    obtain ⟨y0_1, rfl⟩ : ∃ z, z = v := ⟨_, rfl⟩
    have hf := hj1 y0_1 hj
    have hP : va_P G vwCl (sgX2 k a v_windows v_dials v_clocks v_kind v_hands v_rate v_spring v_window v_finish v_skies v_sky v_hour v_heard v_strokes) H := hP
    have hD : va_D A (sgX2 k a v_windows v_dials v_clocks v_kind v_hands v_rate v_spring v_window v_finish v_skies v_sky v_hour v_heard v_strokes) := hD
    have hl : lv_has ls 5 [(0, .ref (a 0)), (1, .int p1), (2, .int p2), (3, .int p3)] := hl
    refine lv_istore (lv' := [(4, .int y0_1), (0, .ref (a 0)), (1, .int p1), (2, .int p2), (3, .int p3)]) hx hb dX2_go_20 hl (by decide) rfl (fun ls hl => ?_)
    refine lv_aload_n hx hb dX2_go_22 rfl (lv_at hl 1 rfl) ?_
    refine va_get (D := G) (ci := 2) (v := .ref (a 1)) (C := RX2) (T := TX2) (N := 14) hx hb hts inX2 hown hK hP 0 rfl rfl 1 (by decide) (hts _ mw107) (fun _ h9 => h9) rfl dX2_go_23 ?_
    refine lv_aload_n hx hb dX2_go_26 rfl (lv_at hl 1 rfl) ?_
    refine va_get (D := G) (ci := 2) (v := .ref (a 6)) (C := RX2) (T := TX2) (N := 14) hx hb hts inX2 hown hK hP 0 rfl rfl 7 (by decide) (hts _ mw123) (fun _ h9 => h9) rfl dX2_go_27 ?_
    refine lv_iload_n hx hb dX2_go_30 rfl (lv_at hl 2 rfl) ?_
    obtain ⟨hin, hf⟩ := hf
    refine va_iald hx hb hK hP 6 0 rfl rfl hin dX2_go_31 ?_
    refine lv_iload_n hx hb dX2_go_32 rfl (lv_at hl 3 rfl) ?_
    obtain ⟨hin, hf⟩ := hf
    refine va_iast hx hb hK hP hD hS 1 0 rfl rfl hin dX2_go_33 (fun H locs hP hD hS => ?_)
    have hP : va_P G vwCl (sgX2 k a v_windows (upd v_dials (Int32.toNatClampNeg (v_window (Int32.toNatClampNeg p1))) p2) v_clocks v_kind v_hands v_rate v_spring v_window v_finish v_skies v_sky v_hour v_heard v_strokes) H := hP
    have hD : va_D A (sgX2 k a v_windows (upd v_dials (Int32.toNatClampNeg (v_window (Int32.toNatClampNeg p1))) p2) v_clocks v_kind v_hands v_rate v_spring v_window v_finish v_skies v_sky v_hour v_heard v_strokes) := hD
    generalize ef2 : (upd v_dials (Int32.toNatClampNeg (v_window (Int32.toNatClampNeg p1))) p2) = f2 at hP hD
    have hf := hf f2 ef2.symm
    refine lv_aload_n hx hb dX2_go_34 rfl (lv_at hl 1 rfl) ?_
    refine va_get (D := G) (ci := 2) (v := .ref (a 6)) (C := RX2) (T := TX2) (N := 14) hx hb hts inX2 hown hK hP 0 rfl rfl 7 (by decide) (hts _ mw123) (fun _ h9 => h9) rfl dX2_go_35 ?_
    refine lv_iload_n hx hb dX2_go_38 rfl (lv_at hl 2 rfl) ?_
    refine lv_aload_n hx hb dX2_go_39 rfl (lv_at hl 1 rfl) ?_
    refine va_get (D := G) (ci := 2) (v := .ref (a 6)) (C := RX2) (T := TX2) (N := 14) hx hb hts inX2 hown hK hP 0 rfl rfl 7 (by decide) (hts _ mw123) (fun _ h9 => h9) rfl dX2_go_40 ?_
    refine lv_iload_n hx hb dX2_go_43 rfl (lv_at hl 2 rfl) ?_
    obtain ⟨hin, hf⟩ := hf
    refine va_iald hx hb hK hP 6 0 rfl rfl hin dX2_go_44 ?_
    refine lv_iload hx hb dX2_go_45 (lv_at hl 0 rfl) ?_
    refine lv_iadd hx hb dX2_go_47 ?_
    refine lv_aload_n hx hb dX2_go_48 rfl (lv_at hl 1 rfl) ?_
    refine va_get (D := G) (ci := 2) (v := .int v_windows) (C := RX2) (T := TX2) (N := 14) hx hb hts inX2 hown hK hP 0 rfl rfl 0 (by decide) (hts _ mw105) (fun _ h9 => h9) rfl dX2_go_49 ?_
    refine lv_iconst (v := 1) hx hb dX2_go_52 (by decide) ?_
    refine lv_isub hx hb dX2_go_53 ?_
    refine va_mmin hx hb (hml.trans hl.1.symm) hown (hts _ mw609) (hts _ mw457) (hts _ mw81) (hts _ mw458) (Nat.le_of_ble_eq_true rfl) (Nat.le_of_ble_eq_true rfl) (Nat.zero_le _) (Nat.zero_le _) dX2_go_54 ?_
    refine lv_topi (fun z3 ez3 => ?_)
    have hf := hf z3 ez3
    obtain ⟨hin, hf⟩ := hf
    refine va_iast hx hb hK hP hD hS 6 0 rfl rfl hin dX2_go_57 (fun H locs hP hD hS => ?_)
    have hP : va_P G vwCl (sgX2 k a v_windows f2 v_clocks v_kind v_hands v_rate v_spring (upd v_window (Int32.toNatClampNeg p1) z3) v_finish v_skies v_sky v_hour v_heard v_strokes) H := hP
    have hD : va_D A (sgX2 k a v_windows f2 v_clocks v_kind v_hands v_rate v_spring (upd v_window (Int32.toNatClampNeg p1) z3) v_finish v_skies v_sky v_hour v_heard v_strokes) := hD
    generalize ef4 : (upd v_window (Int32.toNatClampNeg p1) z3) = f4 at hP hD
    have hf := hf f4 ef4.symm
    refine lv_aload_n hx hb dX2_go_58 rfl (lv_at hl 1 rfl) ?_
    refine lv_iload_n hx hb dX2_go_59 rfl (lv_at hl 2 rfl) ?_
    refine cvi (As := [.int p1]) (rest := []) (wr := []) (wn := (fun u => (sgX2 k a v_windows f2 v_clocks v_kind v_hands v_rate v_spring f4 v_finish v_skies v_sky v_hour v_heard v_strokes))) ⟨hx, hb, hml, hown, hts⟩ (c_X2_isHome l G k a p1 v_windows f2 v_clocks v_kind v_hands v_rate v_spring f4 v_finish v_skies v_sky v_hour v_heard v_strokes _ hf) (cwT 1 hts mw632 mw357 mw358 mw71 mw359 rfl hd_X2_isHome ⟨Nat.le_of_ble_eq_true rfl, Nat.le_of_ble_eq_true rfl⟩) hK hP hD hS hX hA [0, 1, 2, 3, 4, 5, 6, 7, 8] [] [0, 1, 2, 3, 4, 5, 6, 7, 8] rfl rfl (by decide) (by decide) (by decide) (fun u => rfl) (by decide) rfl rfl rfl rfl hl.1 rfl (Nat.le_of_ble_eq_true rfl) dX2_go_60 (Nat.zero_le _) (Nat.zero_le _) (fun r5 u H locs hf hP hD hS => ?_)
    have hP : va_P G vwCl (sgX2 k a v_windows f2 v_clocks v_kind v_hands v_rate v_spring f4 v_finish v_skies v_sky v_hour v_heard v_strokes) H := hP
    have hD : va_D A (sgX2 k a v_windows f2 v_clocks v_kind v_hands v_rate v_spring f4 v_finish v_skies v_sky v_hour v_heard v_strokes) := hD
    obtain ⟨J6, hj6, hf⟩ := hf
    refine w_join (G := G) (A := A) (H0 := s.heap) (nL := 5) (jpc := 78) (σ := (Nat → Int32)) (J := fun v => J6 v) (wl := fun v => (sgX2 k a v_windows f2 v_clocks v_kind v_hands v_rate v_spring f4 v v_skies v_sky v_hour v_heard v_strokes)) (lv := fun v => [(0, .ref (a 0)), (1, .int p1), (2, .int p2), (3, .int p3)]) (st := fun v => []) (fun v hj H locs ls hP hD hS hl => ?_) (fun jn6 => ?_)
    · skip
      obtain ⟨v_finish_6, rfl⟩ : ∃ z, z = v := ⟨_, rfl⟩
      have hf := hj6 v_finish_6 hj
      have hP : va_P G vwCl (sgX2 k a v_windows f2 v_clocks v_kind v_hands v_rate v_spring f4 v_finish_6 v_skies v_sky v_hour v_heard v_strokes) H := hP
      have hD : va_D A (sgX2 k a v_windows f2 v_clocks v_kind v_hands v_rate v_spring f4 v_finish_6 v_skies v_sky v_hour v_heard v_strokes) := hD
      have hl : lv_has ls 5 [(0, .ref (a 0)), (1, .int p1), (2, .int p2), (3, .int p3)] := hl
      refine lv_iload_n hx hb dX2_go_78 rfl (lv_at hl 3 rfl) ?_
      refine lv_iconst (v := 2) hx hb dX2_go_79 (by decide) ?_
      refine lv_icmp_ne (tgt := 84) hx hb dX2_go_80 (by decide) (fun c7 => ?_) (fun c7 => ?_)
      · have hf := hf.1 c7
        refine lv_aload_n hx hb dX2_go_84 rfl (lv_at hl 0 rfl) ?_
        refine lv_dup hx hb dX2_go_85 rfl ?_
        refine va_get (D := G) (ci := 2) (v := .int v_heard) (C := RX2) (T := TX2) (N := 14) hx hb hts inX2 hown hK hP 0 rfl rfl 12 (by decide) (hts _ mw133) (fun _ h9 => h9) rfl dX2_go_86 ?_
        refine lv_iconst (v := 1) hx hb dX2_go_89 (by decide) ?_
        refine lv_iload_n hx hb dX2_go_90 rfl (lv_at hl 1 rfl) ?_
        refine lv_ishl hx hb dX2_go_91 ?_
        refine lv_ior hx hb dX2_go_92 ?_
        refine lv_topi (fun z8 ez8 => ?_)
        have hf := hf z8 ez8
        refine va_put (D := G) (ci := 2) (v := .int z8) (ty := .int) (C := RX2) (T := TX2) (N := 14) hx hb hts inX2 tyX2 tyX2_ok nmX2 hown hK hP hD hS 0 rfl rfl 12 (by decide) (hts _ mw133) (fun _ h9 => h9) rfl (by decide +kernel) rfl rfl (Nat.le_of_ble_eq_true rfl) dX2_go_93 (fun H locs hP hD hS => ?_)
        have hP : va_P G vwCl (sgX2 k a v_windows f2 v_clocks v_kind v_hands v_rate v_spring f4 v_finish_6 v_skies v_sky v_hour z8 v_strokes) H := hP
        have hD : va_D A (sgX2 k a v_windows f2 v_clocks v_kind v_hands v_rate v_spring f4 v_finish_6 v_skies v_sky v_hour z8 v_strokes) := hD
        refine lv_aload_n hx hb dX2_go_96 rfl (lv_at hl 0 rfl) ?_
        refine lv_dup hx hb dX2_go_97 rfl ?_
        refine va_get (D := G) (ci := 2) (v := .int v_strokes) (C := RX2) (T := TX2) (N := 14) hx hb hts inX2 hown hK hP 0 rfl rfl 13 (by decide) (hts _ mw135) (fun _ h9 => h9) rfl dX2_go_98 ?_
        refine lv_iload_n hx hb dX2_go_101 rfl (lv_at hl 2 rfl) ?_
        refine csi (As := [.int p2]) (rest := [.int v_strokes, .ref (a 0)]) ⟨hx, hb, hml, hown, hts⟩ (c_X2_strokesFor l G k p2 _ hf) (csT 1 hts mw642 mw643 mw71 mw644 hd_X2_strokesFor ⟨Nat.le_of_ble_eq_true rfl, Nat.le_of_ble_eq_true rfl⟩) hK hP hS hX hA rfl hl.1 rfl (Nat.le_of_ble_eq_true rfl) dX2_go_102 (Nat.zero_le _) (Nat.zero_le _) (fun r9 H locs hf hP hS => ?_)
        refine lv_iadd hx hb dX2_go_105 ?_
        refine lv_topi (fun z10 ez10 => ?_)
        have hf := hf z10 ez10
        refine va_put (D := G) (ci := 2) (v := .int z10) (ty := .int) (C := RX2) (T := TX2) (N := 14) hx hb hts inX2 tyX2 tyX2_ok nmX2 hown hK hP hD hS 0 rfl rfl 13 (by decide) (hts _ mw135) (fun _ h9 => h9) rfl (by decide +kernel) rfl rfl (Nat.le_of_ble_eq_true rfl) dX2_go_106 (fun H locs hP hD hS => ?_)
        have hP : va_P G vwCl (sgX2 k a v_windows f2 v_clocks v_kind v_hands v_rate v_spring f4 v_finish_6 v_skies v_sky v_hour z8 z10) H := hP
        have hD : va_D A (sgX2 k a v_windows f2 v_clocks v_kind v_hands v_rate v_spring f4 v_finish_6 v_skies v_sky v_hour z8 z10) := hD
        exact ret_v hx hb hr hlk (f2, f4, v_finish_6, z8, z10) hf hP hD hS dX2_go_109
      have hf := hf.2 c7
      exact ret_v hx hb hr hlk (f2, f4, v_finish_6, v_heard, v_strokes) hf hP hD hS dX2_go_83
    refine lv_if_eq (tgt := 78) hx hb dX2_go_63 (by decide) (fun c11 => ?_) (fun c11 => ?_)
    · have hf := hf.1 c11
      exact jn6 v_finish hf _ _ _ hP hD hS (lv_sub hl [1, 2, 3, 4] rfl)
    have hf := hf.2 c11
    refine lv_aload_n hx hb dX2_go_66 rfl (lv_at hl 1 rfl) ?_
    refine va_get (D := G) (ci := 2) (v := .ref (a 7)) (C := RX2) (T := TX2) (N := 14) hx hb hts inX2 hown hK hP 0 rfl rfl 8 (by decide) (hts _ mw125) (fun _ h9 => h9) rfl dX2_go_67 ?_
    refine lv_iload_n hx hb dX2_go_70 rfl (lv_at hl 2 rfl) ?_
    refine lv_aload_n hx hb dX2_go_71 rfl (lv_at hl 1 rfl) ?_
    refine va_get (D := G) (ci := 2) (v := .int v_hour) (C := RX2) (T := TX2) (N := 14) hx hb hts inX2 hown hK hP 0 rfl rfl 11 (by decide) (hts _ mw131) (fun _ h9 => h9) rfl dX2_go_72 ?_
    refine lv_iconst (v := 1) hx hb dX2_go_75 (by decide) ?_
    refine lv_iadd hx hb dX2_go_76 ?_
    refine lv_topi (fun z12 ez12 => ?_)
    have hf := hf z12 ez12
    obtain ⟨hin, hf⟩ := hf
    refine va_iast hx hb hK hP hD hS 7 0 rfl rfl hin dX2_go_77 (fun H locs hP hD hS => ?_)
    have hP : va_P G vwCl (sgX2 k a v_windows f2 v_clocks v_kind v_hands v_rate v_spring f4 (upd v_finish (Int32.toNatClampNeg p1) z12) v_skies v_sky v_hour v_heard v_strokes) H := hP
    have hD : va_D A (sgX2 k a v_windows f2 v_clocks v_kind v_hands v_rate v_spring f4 (upd v_finish (Int32.toNatClampNeg p1) z12) v_skies v_sky v_hour v_heard v_strokes) := hD
    generalize ef13 : (upd v_finish (Int32.toNatClampNeg p1) z12) = f13 at hP hD
    have hf := hf f13 ef13.symm
    exact jn6 f13 hf _ _ _ hP hD hS (lv_sub hl [1, 2, 3, 4] rfl)
  refine lv_icmp_ne (tgt := 19) hx hb dX2_go_7 (by decide) (fun c14 => ?_) (fun c14 => ?_)
  · have hf := hf.1 c14
    refine lv_iconst (v := 1) hx hb dX2_go_19 (by decide) ?_
    exact jn1 1 hf _ _ _ hP hD hS (lv_sub hl [0, 1, 2, 3] rfl)
  have hf := hf.2 c14
  refine lv_iload_n hx hb dX2_go_10 rfl (lv_at hl 3 rfl) ?_
  refine lv_iconst (v := 1) hx hb dX2_go_11 (by decide) ?_
  refine lv_icmp_ne (tgt := 19) hx hb dX2_go_12 (by decide) (fun c15 => ?_) (fun c15 => ?_)
  · have hf := hf.1 c15
    refine lv_iconst (v := 1) hx hb dX2_go_19 (by decide) ?_
    exact jn1 1 hf _ _ _ hP hD hS (lv_sub hl [0, 1, 2, 3] rfl)
  have hf := hf.2 c15
  refine lv_iconst (v := 2) hx hb dX2_go_15 (by decide) ?_
  refine lv_goto (tgt := 20) hx hb dX2_go_16 (by decide) ?_
  exact jn1 2 hf _ _ _ hP hD hS (lv_sub hl [0, 1, 2, 3] rfl)
def wp_X2_run (p1 : Int32) (v_kind : Nat → Int32) (v_hands : Nat → Int32) (v_rate : Nat → Int32) (v_spring : Nat → Int32) (post : (Nat → Int32) → (Nat → Int32) → Prop) : Prop :=
  (vp_in p1 9 ∧ (((v_kind (Int32.toNatClampNeg p1)) = 2 → (post v_hands v_spring)) ∧
 (¬ (v_kind (Int32.toNatClampNeg p1)) = 2 → (vp_in p1 9 ∧ (((v_kind (Int32.toNatClampNeg p1)) = 3 → (post v_hands v_spring)) ∧
 (¬ (v_kind (Int32.toNatClampNeg p1)) = 3 → (vp_in p1 9 ∧ ((¬ (v_spring (Int32.toNatClampNeg p1)) = 0 → (vp_in p1 9 ∧ (wp_X2_turnOn p1 (60 + (v_rate (Int32.toNatClampNeg p1))) v_hands (fun (v_hands_5 : Nat → Int32) =>
 (vp_in p1 9 ∧ (∀ z6 : Int32, z6 = ((v_spring (Int32.toNatClampNeg p1)) - 1) → (vp_in p1 9 ∧ ∀ f7 : Nat → Int32, f7 = (upd v_spring (Int32.toNatClampNeg p1) z6) → (post v_hands_5 f7)))))))) ∧
 ((v_spring (Int32.toNatClampNeg p1)) = 0 → (post v_hands v_spring))))))))))
set_option maxHeartbeats 4000000 in
set_option maxRecDepth 100000 in
theorem c_X2_run (l : Launch) (G : va_G) (k : Nat → ClassId) (a : Nat → Nat) (p1 : Int32) (v_windows : Int32) (v_dials : Nat → Int32) (v_clocks : Int32) (v_kind : Nat → Int32) (v_hands : Nat → Int32) (v_rate : Nat → Int32) (v_spring : Nat → Int32) (v_window : Nat → Int32) (v_finish : Nat → Int32) (v_skies : Int32) (v_sky : Nat → Int32) (v_hour : Int32) (v_heard : Int32) (v_strokes : Int32) (post : (Nat → Int32) → (Nat → Int32) → Prop) (hf : wp_X2_run p1 v_kind v_hands v_rate v_spring post) : MV (S := (Nat → Int32) × (Nat → Int32)) l G k yX2_run (Cond.code yX2_run cX2_run 2 none :: wT) 1 22 [.ref (a 0), .int p1] (sgX2 k a v_windows v_dials v_clocks v_kind v_hands v_rate v_spring v_window v_finish v_skies v_sky v_hour v_heard v_strokes) (fun u => (sgX2 k a v_windows v_dials v_clocks v_kind u.1 v_rate u.2 v_window v_finish v_skies v_sky v_hour v_heard v_strokes)) (fun u => post u.1 u.2) := by
  refine mv_start (cc := cX2_run) (maxL := 2) (ret := none) (by decide) [(0, .ref (a 0)), (1, .int p1)] rfl (Nat.le_of_ble_eq_true rfl) ?_
  intro p e s m below meth c A ls hx hb hr hlk hml hown hts hK hP hD hA hS hX hl
  have hown : s.vm.findClass RX2 = some m.cls := hown
  unfold wp_X2_run at hf
  have hH0 : s.heap = s.heap := rfl
  refine lv_aload_n hx hb dX2_run_0 rfl (lv_at hl 0 rfl) ?_
  refine va_get (D := G) (ci := 2) (v := .ref (a 2)) (C := RX2) (T := TX2) (N := 14) hx hb hts inX2 hown hK hP 0 rfl rfl 3 (by decide) (hts _ mw112) (fun _ h9 => h9) rfl dX2_run_1 ?_
  refine lv_iload_n hx hb dX2_run_4 rfl (lv_at hl 1 rfl) ?_
  obtain ⟨hin, hf⟩ := hf
  refine va_iald hx hb hK hP 2 0 rfl rfl hin dX2_run_5 ?_
  refine lv_iconst (v := 2) hx hb dX2_run_6 (by decide) ?_
  refine lv_icmp_eq (tgt := 29) hx hb dX2_run_7 (by decide) (fun c1 => ?_) (fun c1 => ?_)
  · have hf := hf.1 c1
    exact ret_v hx hb hr hlk (v_hands, v_spring) hf hP hD hS dX2_run_29
  have hf := hf.2 c1
  refine lv_aload_n hx hb dX2_run_10 rfl (lv_at hl 0 rfl) ?_
  refine va_get (D := G) (ci := 2) (v := .ref (a 2)) (C := RX2) (T := TX2) (N := 14) hx hb hts inX2 hown hK hP 0 rfl rfl 3 (by decide) (hts _ mw112) (fun _ h9 => h9) rfl dX2_run_11 ?_
  refine lv_iload_n hx hb dX2_run_14 rfl (lv_at hl 1 rfl) ?_
  obtain ⟨hin, hf⟩ := hf
  refine va_iald hx hb hK hP 2 0 rfl rfl hin dX2_run_15 ?_
  refine lv_iconst (v := 3) hx hb dX2_run_16 (by decide) ?_
  refine lv_icmp_eq (tgt := 29) hx hb dX2_run_17 (by decide) (fun c2 => ?_) (fun c2 => ?_)
  · have hf := hf.1 c2
    exact ret_v hx hb hr hlk (v_hands, v_spring) hf hP hD hS dX2_run_29
  have hf := hf.2 c2
  refine lv_aload_n hx hb dX2_run_20 rfl (lv_at hl 0 rfl) ?_
  refine va_get (D := G) (ci := 2) (v := .ref (a 5)) (C := RX2) (T := TX2) (N := 14) hx hb hts inX2 hown hK hP 0 rfl rfl 6 (by decide) (hts _ mw120) (fun _ h9 => h9) rfl dX2_run_21 ?_
  refine lv_iload_n hx hb dX2_run_24 rfl (lv_at hl 1 rfl) ?_
  obtain ⟨hin, hf⟩ := hf
  refine va_iald hx hb hK hP 5 0 rfl rfl hin dX2_run_25 ?_
  refine lv_if_ne (tgt := 30) hx hb dX2_run_26 (by decide) (fun c3 => ?_) (fun c3 => ?_)
  · have hf := hf.1 c3
    refine lv_aload_n hx hb dX2_run_30 rfl (lv_at hl 0 rfl) ?_
    refine lv_iload_n hx hb dX2_run_31 rfl (lv_at hl 1 rfl) ?_
    refine lv_bipush (v := 60) hx hb dX2_run_32 (by decide) ?_
    refine lv_aload_n hx hb dX2_run_34 rfl (lv_at hl 0 rfl) ?_
    refine va_get (D := G) (ci := 2) (v := .ref (a 4)) (C := RX2) (T := TX2) (N := 14) hx hb hts inX2 hown hK hP 0 rfl rfl 5 (by decide) (hts _ mw117) (fun _ h9 => h9) rfl dX2_run_35 ?_
    refine lv_iload_n hx hb dX2_run_38 rfl (lv_at hl 1 rfl) ?_
    obtain ⟨hin, hf⟩ := hf
    refine va_iald hx hb hK hP 4 0 rfl rfl hin dX2_run_39 ?_
    refine lv_iadd hx hb dX2_run_40 ?_
    refine cvv (As := [.int p1, .int (60 + (v_rate (Int32.toNatClampNeg p1)))]) (rest := []) (wr := []) (wn := (fun u => (sgX2 k a v_windows v_dials v_clocks v_kind u v_rate v_spring v_window v_finish v_skies v_sky v_hour v_heard v_strokes))) ⟨hx, hb, hml, hown, hts⟩ (c_X2_turnOn l G k a p1 (60 + (v_rate (Int32.toNatClampNeg p1))) v_windows v_dials v_clocks v_kind v_hands v_rate v_spring v_window v_finish v_skies v_sky v_hour v_heard v_strokes _ hf) (cwT 2 hts mw649 mw615 mw616 mw71 mw617 rfl hd_X2_turnOn ⟨Nat.le_of_ble_eq_true rfl, Nat.le_of_ble_eq_true rfl⟩) hK hP hD hS hX hA [0, 1, 2, 3, 4, 5, 6, 7, 8] [] [0, 1, 2, 3, 4, 5, 6, 7, 8] rfl rfl (by decide) (by decide) (by decide) (fun u => rfl) (by decide) rfl rfl rfl rfl hl.1 rfl (Nat.le_of_ble_eq_true rfl) dX2_run_41 (Nat.zero_le _) (Nat.zero_le _) (fun u H locs hf hP hD hS => ?_)
    obtain ⟨v_hands_5, rfl⟩ : ∃ z, z = u := ⟨_, rfl⟩
    have hP : va_P G vwCl (sgX2 k a v_windows v_dials v_clocks v_kind v_hands_5 v_rate v_spring v_window v_finish v_skies v_sky v_hour v_heard v_strokes) H := hP
    have hD : va_D A (sgX2 k a v_windows v_dials v_clocks v_kind v_hands_5 v_rate v_spring v_window v_finish v_skies v_sky v_hour v_heard v_strokes) := hD
    refine lv_aload_n hx hb dX2_run_44 rfl (lv_at hl 0 rfl) ?_
    refine va_get (D := G) (ci := 2) (v := .ref (a 5)) (C := RX2) (T := TX2) (N := 14) hx hb hts inX2 hown hK hP 0 rfl rfl 6 (by decide) (hts _ mw120) (fun _ h9 => h9) rfl dX2_run_45 ?_
    refine lv_iload_n hx hb dX2_run_48 rfl (lv_at hl 1 rfl) ?_
    refine lv_dup2_11 hx hb dX2_run_49 rfl rfl ?_
    obtain ⟨hin, hf⟩ := hf
    refine va_iald hx hb hK hP 5 0 rfl rfl hin dX2_run_50 ?_
    refine lv_iconst (v := 1) hx hb dX2_run_51 (by decide) ?_
    refine lv_isub hx hb dX2_run_52 ?_
    refine lv_topi (fun z6 ez6 => ?_)
    have hf := hf z6 ez6
    obtain ⟨hin, hf⟩ := hf
    refine va_iast hx hb hK hP hD hS 5 0 rfl rfl hin dX2_run_53 (fun H locs hP hD hS => ?_)
    have hP : va_P G vwCl (sgX2 k a v_windows v_dials v_clocks v_kind v_hands_5 v_rate (upd v_spring (Int32.toNatClampNeg p1) z6) v_window v_finish v_skies v_sky v_hour v_heard v_strokes) H := hP
    have hD : va_D A (sgX2 k a v_windows v_dials v_clocks v_kind v_hands_5 v_rate (upd v_spring (Int32.toNatClampNeg p1) z6) v_window v_finish v_skies v_sky v_hour v_heard v_strokes) := hD
    generalize ef7 : (upd v_spring (Int32.toNatClampNeg p1) z6) = f7 at hP hD
    have hf := hf f7 ef7.symm
    exact ret_v hx hb hr hlk (v_hands_5, f7) hf hP hD hS dX2_run_54
  have hf := hf.2 c3
  exact ret_v hx hb hr hlk (v_hands, v_spring) hf hP hD hS dX2_run_29
def wp_X2_pass (p1 : Int32) (v_windows : Int32) (v_dials : Nat → Int32) (v_clocks : Int32) (v_kind : Nat → Int32) (v_hands : Nat → Int32) (v_rate : Nat → Int32) (v_spring : Nat → Int32) (v_window : Nat → Int32) (v_finish : Nat → Int32) (v_skies : Int32) (v_sky : Nat → Int32) (v_hour : Int32) (v_heard : Int32) (v_strokes : Int32) (post : Int32 → (Nat → Int32) → (Nat → Int32) → (Nat → Int32) → (Nat → Int32) → (Nat → Int32) → (Int32) → (Int32) → (Int32) → Prop) : Prop :=
  (∃ J1 : (Int32) → Prop, (∀ (y0_1 : Int32), J1 y0_1 →
 (wp_X2_hush v_heard v_strokes (fun (v_heard_3 : Int32) (v_strokes_4 : Int32) =>
 (∃ I5 : Nat → (Int32) → (Int32) → (Nat → Int32) → (Nat → Int32) → (Nat → Int32) → (Int32) → (Int32) → Prop, (∃ n5, I5 n5 0 0 v_dials v_window v_finish v_heard_3 v_strokes_4) ∧ ∀ (n5 : Nat) (x3_5 : Int32) (x4_5 : Int32) (v_dials_5 : Nat → Int32) (v_window_5 : Nat → Int32) (v_finish_5 : Nat → Int32) (v_heard_5 : Int32) (v_strokes_5 : Int32), I5 n5 x3_5 x4_5 v_dials_5 v_window_5 v_finish_5 v_heard_5 v_strokes_5 →
 ((v_clocks ≤ x4_5 → (∃ I7 : Nat → (Int32) → (Nat → Int32) → (Nat → Int32) → Prop, (∃ n7, I7 n7 0 v_hands v_spring) ∧ ∀ (n7 : Nat) (x4_7 : Int32) (v_hands_7 : Nat → Int32) (v_spring_7 : Nat → Int32), I7 n7 x4_7 v_hands_7 v_spring_7 →
 ((v_clocks ≤ x4_7 → (∀ z9 : Int32, z9 = (v_hour + 1) → (post x3_5 v_dials_5 v_hands_7 v_spring_7 v_window_5 v_finish_5 z9 v_heard_5 v_strokes_5))) ∧
 (¬ v_clocks ≤ x4_7 → (wp_X2_run x4_7 v_kind v_hands_7 v_rate v_spring_7 (fun (v_hands_11 : Nat → Int32) (v_spring_12 : Nat → Int32) =>
 (∀ z13 : Int32, z13 = x4_7 + 1 → (∃ m9, m9 < n7 ∧ I7 m9 z13 v_hands_11 v_spring_12)))))))) ∧
 (¬ v_clocks ≤ x4_5 → (wp_X2_isHome x4_5 v_windows v_window_5 (fun (r14 : Int32) =>
 ((r14 = 0 → (wp_X2_struckBy x4_5 v_kind v_hands v_hour (fun (r16 : Int32) =>
 (wp_X2_mayGo x4_5 r16 y0_1 v_dials_5 v_kind v_window_5 v_hour (fun (r17 : Int32) =>
 ((¬ r17 = 0 → (wp_X2_go x4_5 r16 y0_1 v_windows v_dials_5 v_kind v_window_5 v_finish_5 v_hour v_heard_5 v_strokes_5 (fun (v_dials_20 : Nat → Int32) (v_window_21 : Nat → Int32) (v_finish_22 : Nat → Int32) (v_heard_23 : Int32) (v_strokes_24 : Int32) =>
 (∀ z25 : Int32, z25 = x3_5 + 1 → (∀ z26 : Int32, z26 = x4_5 + 1 → (∃ m9, m9 < n5 ∧ I5 m9 z25 z26 v_dials_20 v_window_21 v_finish_22 v_heard_23 v_strokes_24)))))) ∧
 (r17 = 0 → (∀ z27 : Int32, z27 = x4_5 + 1 → (∃ m9, m9 < n5 ∧ I5 m9 x3_5 z27 v_dials_5 v_window_5 v_finish_5 v_heard_5 v_strokes_5))))))))) ∧
 (¬ r14 = 0 → (∀ z28 : Int32, z28 = x4_5 + 1 → (∃ m9, m9 < n5 ∧ I5 m9 x3_5 z28 v_dials_5 v_window_5 v_finish_5 v_heard_5 v_strokes_5)))))))))))) ∧
 ((¬ p1 = (-1) → (J1 p1)) ∧
 (p1 = (-1) → (wp_X2_weatherAt v_hour v_skies v_sky (fun (r30 : Int32) =>
 (J1 r30))))))
set_option maxHeartbeats 4000000 in
set_option maxRecDepth 100000 in
theorem c_X2_pass (l : Launch) (G : va_G) (k : Nat → ClassId) (a : Nat → Nat) (p1 : Int32) (v_windows : Int32) (v_dials : Nat → Int32) (v_clocks : Int32) (v_kind : Nat → Int32) (v_hands : Nat → Int32) (v_rate : Nat → Int32) (v_spring : Nat → Int32) (v_window : Nat → Int32) (v_finish : Nat → Int32) (v_skies : Int32) (v_sky : Nat → Int32) (v_hour : Int32) (v_heard : Int32) (v_strokes : Int32) (post : Int32 → (Nat → Int32) → (Nat → Int32) → (Nat → Int32) → (Nat → Int32) → (Nat → Int32) → (Int32) → (Int32) → (Int32) → Prop) (hf : wp_X2_pass p1 v_windows v_dials v_clocks v_kind v_hands v_rate v_spring v_window v_finish v_skies v_sky v_hour v_heard v_strokes post) : MI (S := (Nat → Int32) × (Nat → Int32) × (Nat → Int32) × (Nat → Int32) × (Nat → Int32) × (Int32) × (Int32) × (Int32)) l G k yX2_pass (Cond.code yX2_pass cX2_pass 6 (some .int) :: wT) 3 63 [.ref (a 0), .int p1] (sgX2 k a v_windows v_dials v_clocks v_kind v_hands v_rate v_spring v_window v_finish v_skies v_sky v_hour v_heard v_strokes) (fun u => (sgX2 k a v_windows u.1 v_clocks v_kind u.2.1 v_rate u.2.2.1 u.2.2.2.1 u.2.2.2.2.1 v_skies v_sky u.2.2.2.2.2.1 u.2.2.2.2.2.2.1 u.2.2.2.2.2.2.2)) (fun r u => post r u.1 u.2.1 u.2.2.1 u.2.2.2.1 u.2.2.2.2.1 u.2.2.2.2.2.1 u.2.2.2.2.2.2.1 u.2.2.2.2.2.2.2) := by
  refine mi_start (cc := cX2_pass) (maxL := 6) (ret := (some .int)) (by decide) [(0, .ref (a 0)), (1, .int p1)] rfl (Nat.le_of_ble_eq_true rfl) ?_
  intro p e s m below meth c A ls hx hb hr hlk hml hown hts hK hP hD hA hS hX hl
  have hown : s.vm.findClass RX2 = some m.cls := hown
  unfold wp_X2_pass at hf
  have hH0 : s.heap = s.heap := rfl
  refine lv_iload_n hx hb dX2_pass_0 rfl (lv_at hl 1 rfl) ?_
  refine lv_iconst (v := (-1)) hx hb dX2_pass_1 (by decide) ?_
  obtain ⟨J1, hj1, hf⟩ := hf
  refine w_join (G := G) (A := A) (H0 := s.heap) (nL := 6) (jpc := 17) (σ := (Int32)) (J := fun v => J1 v) (wl := fun v => (sgX2 k a v_windows v_dials v_clocks v_kind v_hands v_rate v_spring v_window v_finish v_skies v_sky v_hour v_heard v_strokes)) (lv := fun v => [(0, .ref (a 0))]) (st := fun v => [.int v]) (fun v hj H locs ls hP hD hS hl => ?_) (fun jn1 => ?_)
  · skip
    obtain ⟨y0_1, rfl⟩ : ∃ z, z = v := ⟨_, rfl⟩
    have hf := hj1 y0_1 hj
    have hP : va_P G vwCl (sgX2 k a v_windows v_dials v_clocks v_kind v_hands v_rate v_spring v_window v_finish v_skies v_sky v_hour v_heard v_strokes) H := hP
    have hD : va_D A (sgX2 k a v_windows v_dials v_clocks v_kind v_hands v_rate v_spring v_window v_finish v_skies v_sky v_hour v_heard v_strokes) := hD
    have hl : lv_has ls 6 [(0, .ref (a 0))] := hl
    refine lv_istore_n (lv' := [(2, .int y0_1), (0, .ref (a 0))]) hx hb dX2_pass_17 rfl hl (by decide) rfl (fun ls hl => ?_)
    refine lv_aload_n hx hb dX2_pass_18 rfl (lv_at hl 1 rfl) ?_
    refine cvv (As := []) (rest := []) (wr := []) (wn := (fun u => (sgX2 k a v_windows v_dials v_clocks v_kind v_hands v_rate v_spring v_window v_finish v_skies v_sky v_hour u.1 u.2))) ⟨hx, hb, hml, hown, hts⟩ (c_X2_hush l G k a v_windows v_dials v_clocks v_kind v_hands v_rate v_spring v_window v_finish v_skies v_sky v_hour v_heard v_strokes _ hf) (cwT 0 hts mw631 mw534 mw535 mw71 mw536 rfl hd_X2_hush ⟨Nat.le_of_ble_eq_true rfl, Nat.le_of_ble_eq_true rfl⟩) hK hP hD hS hX hA [0, 1, 2, 3, 4, 5, 6, 7, 8] [] [0, 1, 2, 3, 4, 5, 6, 7, 8] rfl rfl (by decide) (by decide) (by decide) (fun u => rfl) (by decide) rfl rfl rfl rfl hl.1 rfl (Nat.le_of_ble_eq_true rfl) dX2_pass_19 (Nat.zero_le _) (Nat.zero_le _) (fun u H locs hf hP hD hS => ?_)
    obtain ⟨v_heard_3, v_strokes_4⟩ := u
    have hP : va_P G vwCl (sgX2 k a v_windows v_dials v_clocks v_kind v_hands v_rate v_spring v_window v_finish v_skies v_sky v_hour v_heard_3 v_strokes_4) H := hP
    have hD : va_D A (sgX2 k a v_windows v_dials v_clocks v_kind v_hands v_rate v_spring v_window v_finish v_skies v_sky v_hour v_heard_3 v_strokes_4) := hD
    refine lv_iconst (v := 0) hx hb dX2_pass_22 (by decide) ?_
    refine lv_istore_n (lv' := [(3, .int 0), (2, .int y0_1), (0, .ref (a 0))]) hx hb dX2_pass_23 rfl hl (by decide) rfl (fun ls hl => ?_)
    refine lv_iconst (v := 0) hx hb dX2_pass_24 (by decide) ?_
    refine lv_istore (lv' := [(4, .int 0), (3, .int 0), (2, .int y0_1), (0, .ref (a 0))]) hx hb dX2_pass_25 hl (by decide) rfl (fun ls hl => ?_)
    obtain ⟨I5, ⟨n5, hi5⟩, hs5⟩ := hf
    refine w_loop (G := G) (A := A) (H0 := s.heap) (nL := 6) (σ := (Int32) × (Int32) × (Nat → Int32) × (Nat → Int32) × (Nat → Int32) × (Int32) × (Int32)) (I := fun n v => I5 n v.1 v.2.1 v.2.2.1 v.2.2.2.1 v.2.2.2.2.1 v.2.2.2.2.2.1 v.2.2.2.2.2.2) (wl := fun v => (sgX2 k a v_windows v.2.2.1 v_clocks v_kind v_hands v_rate v_spring v.2.2.2.1 v.2.2.2.2.1 v_skies v_sky v_hour v.2.2.2.2.2.1 v.2.2.2.2.2.2)) (lv := fun v => [(0, .ref (a 0)), (2, .int y0_1), (3, .int v.1), (4, .int v.2.1)]) (st := fun _ => []) n5 (0, 0, v_dials, v_window, v_finish, v_heard_3, v_strokes_4) hi5 hP hD hS (lv_sub hl [3, 2, 1, 0] rfl) (fun n5 v hi ih5 H locs ls hP hD hS hl => ?_)
    obtain ⟨x3_5, x4_5, v_dials_5, v_window_5, v_finish_5, v_heard_5, v_strokes_5⟩ := v
    have hf := hs5 n5 x3_5 x4_5 v_dials_5 v_window_5 v_finish_5 v_heard_5 v_strokes_5 hi
    have hP : va_P G vwCl (sgX2 k a v_windows v_dials_5 v_clocks v_kind v_hands v_rate v_spring v_window_5 v_finish_5 v_skies v_sky v_hour v_heard_5 v_strokes_5) H := hP
    have hD : va_D A (sgX2 k a v_windows v_dials_5 v_clocks v_kind v_hands v_rate v_spring v_window_5 v_finish_5 v_skies v_sky v_hour v_heard_5 v_strokes_5) := hD
    have hl : lv_has ls 6 [(0, .ref (a 0)), (2, .int y0_1), (3, .int x3_5), (4, .int x4_5)] := hl
    refine lv_iload hx hb dX2_pass_27 (lv_at hl 3 rfl) ?_
    refine lv_aload_n hx hb dX2_pass_29 rfl (lv_at hl 0 rfl) ?_
    refine va_get (D := G) (ci := 2) (v := .int v_clocks) (C := RX2) (T := TX2) (N := 14) hx hb hts inX2 hown hK hP 0 rfl rfl 2 (by decide) (hts _ mw110) (fun _ h9 => h9) rfl dX2_pass_30 ?_
    refine lv_icmp_ge (tgt := 89) hx hb dX2_pass_33 (by decide) (fun c6 => ?_) (fun c6 => ?_)
    · have hf := hf.1 c6
      refine lv_iconst (v := 0) hx hb dX2_pass_89 (by decide) ?_
      refine lv_istore (lv' := [(4, .int 0), (0, .ref (a 0)), (2, .int y0_1), (3, .int x3_5)]) hx hb dX2_pass_90 hl (by decide) rfl (fun ls hl => ?_)
      obtain ⟨I7, ⟨n7, hi7⟩, hs7⟩ := hf
      refine w_loop (G := G) (A := A) (H0 := s.heap) (nL := 6) (σ := (Int32) × (Nat → Int32) × (Nat → Int32)) (I := fun n v => I7 n v.1 v.2.1 v.2.2) (wl := fun v => (sgX2 k a v_windows v_dials_5 v_clocks v_kind v.2.1 v_rate v.2.2 v_window_5 v_finish_5 v_skies v_sky v_hour v_heard_5 v_strokes_5)) (lv := fun v => [(0, .ref (a 0)), (3, .int x3_5), (4, .int v.1)]) (st := fun _ => []) n7 (0, v_hands, v_spring) hi7 hP hD hS (lv_sub hl [1, 3, 0] rfl) (fun n7 v hi ih7 H locs ls hP hD hS hl => ?_)
      obtain ⟨x4_7, v_hands_7, v_spring_7⟩ := v
      have hf := hs7 n7 x4_7 v_hands_7 v_spring_7 hi
      have hP : va_P G vwCl (sgX2 k a v_windows v_dials_5 v_clocks v_kind v_hands_7 v_rate v_spring_7 v_window_5 v_finish_5 v_skies v_sky v_hour v_heard_5 v_strokes_5) H := hP
      have hD : va_D A (sgX2 k a v_windows v_dials_5 v_clocks v_kind v_hands_7 v_rate v_spring_7 v_window_5 v_finish_5 v_skies v_sky v_hour v_heard_5 v_strokes_5) := hD
      have hl : lv_has ls 6 [(0, .ref (a 0)), (3, .int x3_5), (4, .int x4_7)] := hl
      refine lv_iload hx hb dX2_pass_92 (lv_at hl 2 rfl) ?_
      refine lv_aload_n hx hb dX2_pass_94 rfl (lv_at hl 0 rfl) ?_
      refine va_get (D := G) (ci := 2) (v := .int v_clocks) (C := RX2) (T := TX2) (N := 14) hx hb hts inX2 hown hK hP 0 rfl rfl 2 (by decide) (hts _ mw110) (fun _ h9 => h9) rfl dX2_pass_95 ?_
      refine lv_icmp_ge (tgt := 113) hx hb dX2_pass_98 (by decide) (fun c8 => ?_) (fun c8 => ?_)
      · have hf := hf.1 c8
        refine lv_aload_n hx hb dX2_pass_113 rfl (lv_at hl 0 rfl) ?_
        refine lv_dup hx hb dX2_pass_114 rfl ?_
        refine va_get (D := G) (ci := 2) (v := .int v_hour) (C := RX2) (T := TX2) (N := 14) hx hb hts inX2 hown hK hP 0 rfl rfl 11 (by decide) (hts _ mw131) (fun _ h9 => h9) rfl dX2_pass_115 ?_
        refine lv_iconst (v := 1) hx hb dX2_pass_118 (by decide) ?_
        refine lv_iadd hx hb dX2_pass_119 ?_
        refine lv_topi (fun z9 ez9 => ?_)
        have hf := hf z9 ez9
        refine va_put (D := G) (ci := 2) (v := .int z9) (ty := .int) (C := RX2) (T := TX2) (N := 14) hx hb hts inX2 tyX2 tyX2_ok nmX2 hown hK hP hD hS 0 rfl rfl 11 (by decide) (hts _ mw131) (fun _ h9 => h9) rfl (by decide +kernel) rfl rfl (Nat.le_of_ble_eq_true rfl) dX2_pass_120 (fun H locs hP hD hS => ?_)
        have hP : va_P G vwCl (sgX2 k a v_windows v_dials_5 v_clocks v_kind v_hands_7 v_rate v_spring_7 v_window_5 v_finish_5 v_skies v_sky z9 v_heard_5 v_strokes_5) H := hP
        have hD : va_D A (sgX2 k a v_windows v_dials_5 v_clocks v_kind v_hands_7 v_rate v_spring_7 v_window_5 v_finish_5 v_skies v_sky z9 v_heard_5 v_strokes_5) := hD
        refine lv_iload_n hx hb dX2_pass_123 rfl (lv_at hl 1 rfl) ?_
        exact ret_i hx hb hr hlk (v_dials_5, v_hands_7, v_spring_7, v_window_5, v_finish_5, z9, v_heard_5, v_strokes_5) hf hP hD hS dX2_pass_124
      have hf := hf.2 c8
      refine lv_aload_n hx hb dX2_pass_101 rfl (lv_at hl 0 rfl) ?_
      refine lv_iload hx hb dX2_pass_102 (lv_at hl 2 rfl) ?_
      refine cvv (As := [.int x4_7]) (rest := []) (wr := []) (wn := (fun u => (sgX2 k a v_windows v_dials_5 v_clocks v_kind u.1 v_rate u.2 v_window_5 v_finish_5 v_skies v_sky v_hour v_heard_5 v_strokes_5))) ⟨hx, hb, hml, hown, hts⟩ (c_X2_run l G k a x4_7 v_windows v_dials_5 v_clocks v_kind v_hands_7 v_rate v_spring_7 v_window_5 v_finish_5 v_skies v_sky v_hour v_heard_5 v_strokes_5 _ hf) (cwT 1 hts mw645 mw647 mw17 mw71 mw648 rfl hd_X2_run ⟨Nat.le_of_ble_eq_true rfl, Nat.le_of_ble_eq_true rfl⟩) hK hP hD hS hX hA [0, 1, 2, 3, 4, 5, 6, 7, 8] [] [0, 1, 2, 3, 4, 5, 6, 7, 8] rfl rfl (by decide) (by decide) (by decide) (fun u => rfl) (by decide) rfl rfl rfl rfl hl.1 rfl (Nat.le_of_ble_eq_true rfl) dX2_pass_104 (Nat.zero_le _) (Nat.zero_le _) (fun u H locs hf hP hD hS => ?_)
      obtain ⟨v_hands_11, v_spring_12⟩ := u
      have hP : va_P G vwCl (sgX2 k a v_windows v_dials_5 v_clocks v_kind v_hands_11 v_rate v_spring_12 v_window_5 v_finish_5 v_skies v_sky v_hour v_heard_5 v_strokes_5) H := hP
      have hD : va_D A (sgX2 k a v_windows v_dials_5 v_clocks v_kind v_hands_11 v_rate v_spring_12 v_window_5 v_finish_5 v_skies v_sky v_hour v_heard_5 v_strokes_5) := hD
      obtain ⟨z13, ez13⟩ : ∃ y : Int32, y = x4_7 + 1 := ⟨_, rfl⟩
      have hf := hf z13 ez13
      refine lv_iinc (v := z13) (lv' := [(4, .int z13), (0, .ref (a 0)), (3, .int x3_5)]) hx hb dX2_pass_107 hl (k := 2) rfl (by rw [ez13]; rfl) (by decide) rfl (fun ls hl => ?_)
      refine lv_goto (tgt := 92) hx hb dX2_pass_110 (by decide) ?_
      obtain ⟨m9, hm9, hi9⟩ := hf
      exact ih7 m9 (z13, v_hands_11, v_spring_12) hm9 hi9 _ _ _ hP hD hS (lv_sub hl [1, 2, 0] rfl)
    have hf := hf.2 c6
    refine lv_aload_n hx hb dX2_pass_36 rfl (lv_at hl 0 rfl) ?_
    refine lv_iload hx hb dX2_pass_37 (lv_at hl 3 rfl) ?_
    refine cvi (As := [.int x4_5]) (rest := []) (wr := []) (wn := (fun u => (sgX2 k a v_windows v_dials_5 v_clocks v_kind v_hands v_rate v_spring v_window_5 v_finish_5 v_skies v_sky v_hour v_heard_5 v_strokes_5))) ⟨hx, hb, hml, hown, hts⟩ (c_X2_isHome l G k a x4_5 v_windows v_dials_5 v_clocks v_kind v_hands v_rate v_spring v_window_5 v_finish_5 v_skies v_sky v_hour v_heard_5 v_strokes_5 _ hf) (cwT 1 hts mw632 mw357 mw358 mw71 mw359 rfl hd_X2_isHome ⟨Nat.le_of_ble_eq_true rfl, Nat.le_of_ble_eq_true rfl⟩) hK hP hD hS hX hA [0, 1, 2, 3, 4, 5, 6, 7, 8] [] [0, 1, 2, 3, 4, 5, 6, 7, 8] rfl rfl (by decide) (by decide) (by decide) (fun u => rfl) (by decide) rfl rfl rfl rfl hl.1 rfl (Nat.le_of_ble_eq_true rfl) dX2_pass_39 (Nat.zero_le _) (Nat.zero_le _) (fun r14 u H locs hf hP hD hS => ?_)
    have hP : va_P G vwCl (sgX2 k a v_windows v_dials_5 v_clocks v_kind v_hands v_rate v_spring v_window_5 v_finish_5 v_skies v_sky v_hour v_heard_5 v_strokes_5) H := hP
    have hD : va_D A (sgX2 k a v_windows v_dials_5 v_clocks v_kind v_hands v_rate v_spring v_window_5 v_finish_5 v_skies v_sky v_hour v_heard_5 v_strokes_5) := hD
    refine lv_if_eq (tgt := 48) hx hb dX2_pass_42 (by decide) (fun c15 => ?_) (fun c15 => ?_)
    · have hf := hf.1 c15
      refine lv_aload_n hx hb dX2_pass_48 rfl (lv_at hl 0 rfl) ?_
      refine lv_iload hx hb dX2_pass_49 (lv_at hl 3 rfl) ?_
      refine cvi (As := [.int x4_5]) (rest := []) (wr := []) (wn := (fun u => (sgX2 k a v_windows v_dials_5 v_clocks v_kind v_hands v_rate v_spring v_window_5 v_finish_5 v_skies v_sky v_hour v_heard_5 v_strokes_5))) ⟨hx, hb, hml, hown, hts⟩ (c_X2_struckBy l G k a x4_5 v_windows v_dials_5 v_clocks v_kind v_hands v_rate v_spring v_window_5 v_finish_5 v_skies v_sky v_hour v_heard_5 v_strokes_5 _ hf) (cwT 1 hts mw633 mw369 mw370 mw71 mw371 rfl hd_X2_struckBy ⟨Nat.le_of_ble_eq_true rfl, Nat.le_of_ble_eq_true rfl⟩) hK hP hD hS hX hA [0, 1, 2, 3, 4, 5, 6, 7, 8] [] [0, 1, 2, 3, 4, 5, 6, 7, 8] rfl rfl (by decide) (by decide) (by decide) (fun u => rfl) (by decide) rfl rfl rfl rfl hl.1 rfl (Nat.le_of_ble_eq_true rfl) dX2_pass_51 (Nat.zero_le _) (Nat.zero_le _) (fun r16 u H locs hf hP hD hS => ?_)
      have hP : va_P G vwCl (sgX2 k a v_windows v_dials_5 v_clocks v_kind v_hands v_rate v_spring v_window_5 v_finish_5 v_skies v_sky v_hour v_heard_5 v_strokes_5) H := hP
      have hD : va_D A (sgX2 k a v_windows v_dials_5 v_clocks v_kind v_hands v_rate v_spring v_window_5 v_finish_5 v_skies v_sky v_hour v_heard_5 v_strokes_5) := hD
      refine lv_istore (lv' := [(5, .int r16), (0, .ref (a 0)), (2, .int y0_1), (3, .int x3_5), (4, .int x4_5)]) hx hb dX2_pass_54 hl (by decide) rfl (fun ls hl => ?_)
      refine lv_aload_n hx hb dX2_pass_56 rfl (lv_at hl 1 rfl) ?_
      refine lv_iload hx hb dX2_pass_57 (lv_at hl 4 rfl) ?_
      refine lv_iload hx hb dX2_pass_59 (lv_at hl 0 rfl) ?_
      refine lv_iload_n hx hb dX2_pass_61 rfl (lv_at hl 2 rfl) ?_
      refine cvi (As := [.int x4_5, .int r16, .int y0_1]) (rest := []) (wr := []) (wn := (fun u => (sgX2 k a v_windows v_dials_5 v_clocks v_kind v_hands v_rate v_spring v_window_5 v_finish_5 v_skies v_sky v_hour v_heard_5 v_strokes_5))) ⟨hx, hb, hml, hown, hts⟩ (c_X2_mayGo l G k a x4_5 r16 y0_1 v_windows v_dials_5 v_clocks v_kind v_hands v_rate v_spring v_window_5 v_finish_5 v_skies v_sky v_hour v_heard_5 v_strokes_5 _ hf) (cwT 3 hts mw634 mw636 mw15 mw71 mw637 rfl hd_X2_mayGo ⟨Nat.le_of_ble_eq_true rfl, Nat.le_of_ble_eq_true rfl⟩) hK hP hD hS hX hA [0, 1, 2, 3, 4, 5, 6, 7, 8] [] [0, 1, 2, 3, 4, 5, 6, 7, 8] rfl rfl (by decide) (by decide) (by decide) (fun u => rfl) (by decide) rfl rfl rfl rfl hl.1 rfl (Nat.le_of_ble_eq_true rfl) dX2_pass_62 (Nat.zero_le _) (Nat.zero_le _) (fun r17 u H locs hf hP hD hS => ?_)
      have hP : va_P G vwCl (sgX2 k a v_windows v_dials_5 v_clocks v_kind v_hands v_rate v_spring v_window_5 v_finish_5 v_skies v_sky v_hour v_heard_5 v_strokes_5) H := hP
      have hD : va_D A (sgX2 k a v_windows v_dials_5 v_clocks v_kind v_hands v_rate v_spring v_window_5 v_finish_5 v_skies v_sky v_hour v_heard_5 v_strokes_5) := hD
      refine lv_if_ne (tgt := 71) hx hb dX2_pass_65 (by decide) (fun c18 => ?_) (fun c18 => ?_)
      · have hf := hf.1 c18
        refine lv_aload_n hx hb dX2_pass_71 rfl (lv_at hl 1 rfl) ?_
        refine lv_iload hx hb dX2_pass_72 (lv_at hl 4 rfl) ?_
        refine lv_iload hx hb dX2_pass_74 (lv_at hl 0 rfl) ?_
        refine lv_iload_n hx hb dX2_pass_76 rfl (lv_at hl 2 rfl) ?_
        refine cvv (As := [.int x4_5, .int r16, .int y0_1]) (rest := []) (wr := []) (wn := (fun u => (sgX2 k a v_windows u.1 v_clocks v_kind v_hands v_rate v_spring u.2.1 u.2.2.1 v_skies v_sky v_hour u.2.2.2.1 u.2.2.2.2))) ⟨hx, hb, hml, hown, hts⟩ (c_X2_go l G k a x4_5 r16 y0_1 v_windows v_dials_5 v_clocks v_kind v_hands v_rate v_spring v_window_5 v_finish_5 v_skies v_sky v_hour v_heard_5 v_strokes_5 _ hf) (cwT 3 hts mw638 mw640 mw16 mw71 mw641 rfl hd_X2_go ⟨Nat.le_of_ble_eq_true rfl, Nat.le_of_ble_eq_true rfl⟩) hK hP hD hS hX hA [0, 1, 2, 3, 4, 5, 6, 7, 8] [] [0, 1, 2, 3, 4, 5, 6, 7, 8] rfl rfl (by decide) (by decide) (by decide) (fun u => rfl) (by decide) rfl rfl rfl rfl hl.1 rfl (Nat.le_of_ble_eq_true rfl) dX2_pass_77 (Nat.zero_le _) (Nat.zero_le _) (fun u H locs hf hP hD hS => ?_)
        obtain ⟨v_dials_20, v_window_21, v_finish_22, v_heard_23, v_strokes_24⟩ := u
        have hP : va_P G vwCl (sgX2 k a v_windows v_dials_20 v_clocks v_kind v_hands v_rate v_spring v_window_21 v_finish_22 v_skies v_sky v_hour v_heard_23 v_strokes_24) H := hP
        have hD : va_D A (sgX2 k a v_windows v_dials_20 v_clocks v_kind v_hands v_rate v_spring v_window_21 v_finish_22 v_skies v_sky v_hour v_heard_23 v_strokes_24) := hD
        obtain ⟨z25, ez25⟩ : ∃ y : Int32, y = x3_5 + 1 := ⟨_, rfl⟩
        have hf := hf z25 ez25
        refine lv_iinc (v := z25) (lv' := [(3, .int z25), (5, .int r16), (0, .ref (a 0)), (2, .int y0_1), (4, .int x4_5)]) hx hb dX2_pass_80 hl (k := 3) rfl (by rw [ez25]; rfl) (by decide) rfl (fun ls hl => ?_)
        obtain ⟨z26, ez26⟩ : ∃ y : Int32, y = x4_5 + 1 := ⟨_, rfl⟩
        have hf := hf z26 ez26
        refine lv_iinc (v := z26) (lv' := [(4, .int z26), (3, .int z25), (5, .int r16), (0, .ref (a 0)), (2, .int y0_1)]) hx hb dX2_pass_83 hl (k := 4) rfl (by rw [ez26]; rfl) (by decide) rfl (fun ls hl => ?_)
        refine lv_goto (tgt := 27) hx hb dX2_pass_86 (by decide) ?_
        obtain ⟨m9, hm9, hi9⟩ := hf
        exact ih5 m9 (z25, z26, v_dials_20, v_window_21, v_finish_22, v_heard_23, v_strokes_24) hm9 hi9 _ _ _ hP hD hS (lv_sub hl [3, 4, 1, 0] rfl)
      have hf := hf.2 c18
      refine lv_goto (tgt := 83) hx hb dX2_pass_68 (by decide) ?_
      obtain ⟨z27, ez27⟩ : ∃ y : Int32, y = x4_5 + 1 := ⟨_, rfl⟩
      have hf := hf z27 ez27
      refine lv_iinc (v := z27) (lv' := [(4, .int z27), (5, .int r16), (0, .ref (a 0)), (2, .int y0_1), (3, .int x3_5)]) hx hb dX2_pass_83 hl (k := 4) rfl (by rw [ez27]; rfl) (by decide) rfl (fun ls hl => ?_)
      refine lv_goto (tgt := 27) hx hb dX2_pass_86 (by decide) ?_
      obtain ⟨m9, hm9, hi9⟩ := hf
      exact ih5 m9 (x3_5, z27, v_dials_5, v_window_5, v_finish_5, v_heard_5, v_strokes_5) hm9 hi9 _ _ _ hP hD hS (lv_sub hl [2, 3, 4, 0] rfl)
    have hf := hf.2 c15
    refine lv_goto (tgt := 83) hx hb dX2_pass_45 (by decide) ?_
    obtain ⟨z28, ez28⟩ : ∃ y : Int32, y = x4_5 + 1 := ⟨_, rfl⟩
    have hf := hf z28 ez28
    refine lv_iinc (v := z28) (lv' := [(4, .int z28), (0, .ref (a 0)), (2, .int y0_1), (3, .int x3_5)]) hx hb dX2_pass_83 hl (k := 3) rfl (by rw [ez28]; rfl) (by decide) rfl (fun ls hl => ?_)
    refine lv_goto (tgt := 27) hx hb dX2_pass_86 (by decide) ?_
    obtain ⟨m9, hm9, hi9⟩ := hf
    exact ih5 m9 (x3_5, z28, v_dials_5, v_window_5, v_finish_5, v_heard_5, v_strokes_5) hm9 hi9 _ _ _ hP hD hS (lv_sub hl [1, 2, 3, 0] rfl)
  refine lv_icmp_ne (tgt := 16) hx hb dX2_pass_2 (by decide) (fun c29 => ?_) (fun c29 => ?_)
  · have hf := hf.1 c29
    refine lv_iload_n hx hb dX2_pass_16 rfl (lv_at hl 1 rfl) ?_
    exact jn1 p1 hf _ _ _ hP hD hS (lv_sub hl [0] rfl)
  have hf := hf.2 c29
  refine lv_aload_n hx hb dX2_pass_5 rfl (lv_at hl 0 rfl) ?_
  refine lv_aload_n hx hb dX2_pass_6 rfl (lv_at hl 0 rfl) ?_
  refine va_get (D := G) (ci := 2) (v := .int v_hour) (C := RX2) (T := TX2) (N := 14) hx hb hts inX2 hown hK hP 0 rfl rfl 11 (by decide) (hts _ mw131) (fun _ h9 => h9) rfl dX2_pass_7 ?_
  refine cvi (As := [.int v_hour]) (rest := []) (wr := []) (wn := (fun u => (sgX2 k a v_windows v_dials v_clocks v_kind v_hands v_rate v_spring v_window v_finish v_skies v_sky v_hour v_heard v_strokes))) ⟨hx, hb, hml, hown, hts⟩ (c_X2_weatherAt l G k a v_hour v_windows v_dials v_clocks v_kind v_hands v_rate v_spring v_window v_finish v_skies v_sky v_hour v_heard v_strokes _ hf) (cwT 1 hts mw630 mw394 mw395 mw71 mw396 rfl hd_X2_weatherAt ⟨Nat.le_of_ble_eq_true rfl, Nat.le_of_ble_eq_true rfl⟩) hK hP hD hS hX hA [0, 1, 2, 3, 4, 5, 6, 7, 8] [] [0, 1, 2, 3, 4, 5, 6, 7, 8] rfl rfl (by decide) (by decide) (by decide) (fun u => rfl) (by decide) rfl rfl rfl rfl hl.1 rfl (Nat.le_of_ble_eq_true rfl) dX2_pass_10 (Nat.zero_le _) (Nat.zero_le _) (fun r30 u H locs hf hP hD hS => ?_)
  have hP : va_P G vwCl (sgX2 k a v_windows v_dials v_clocks v_kind v_hands v_rate v_spring v_window v_finish v_skies v_sky v_hour v_heard v_strokes) H := hP
  have hD : va_D A (sgX2 k a v_windows v_dials v_clocks v_kind v_hands v_rate v_spring v_window v_finish v_skies v_sky v_hour v_heard v_strokes) := hD
  refine lv_goto (tgt := 17) hx hb dX2_pass_13 (by decide) ?_
  exact jn1 r30 hf _ _ _ hP hD hS (lv_sub hl [0] rfl)
def wp_X2_passMany (p1 : Int32) (p2 : Int32) (v_windows : Int32) (v_dials : Nat → Int32) (v_clocks : Int32) (v_kind : Nat → Int32) (v_hands : Nat → Int32) (v_rate : Nat → Int32) (v_spring : Nat → Int32) (v_window : Nat → Int32) (v_finish : Nat → Int32) (v_skies : Int32) (v_sky : Nat → Int32) (v_hour : Int32) (v_heard : Int32) (v_strokes : Int32) (post : (Nat → Int32) → (Nat → Int32) → (Nat → Int32) → (Nat → Int32) → (Nat → Int32) → (Int32) → (Int32) → (Int32) → Prop) : Prop :=
  (∃ I1 : Nat → (Int32) → (Nat → Int32) → (Nat → Int32) → (Nat → Int32) → (Nat → Int32) → (Nat → Int32) → (Int32) → (Int32) → (Int32) → Prop, (∃ n1, I1 n1 0 v_dials v_hands v_spring v_window v_finish v_hour v_heard v_strokes) ∧ ∀ (n1 : Nat) (x3_1 : Int32) (v_dials_1 : Nat → Int32) (v_hands_1 : Nat → Int32) (v_spring_1 : Nat → Int32) (v_window_1 : Nat → Int32) (v_finish_1 : Nat → Int32) (v_hour_1 : Int32) (v_heard_1 : Int32) (v_strokes_1 : Int32), I1 n1 x3_1 v_dials_1 v_hands_1 v_spring_1 v_window_1 v_finish_1 v_hour_1 v_heard_1 v_strokes_1 →
 ((p1 ≤ x3_1 → (post v_dials_1 v_hands_1 v_spring_1 v_window_1 v_finish_1 v_hour_1 v_heard_1 v_strokes_1)) ∧
 (¬ p1 ≤ x3_1 → (wp_X2_allHome v_windows v_clocks v_window_1 (fun (r3 : Int32) =>
 ((¬ r3 = 0 → (post v_dials_1 v_hands_1 v_spring_1 v_window_1 v_finish_1 v_hour_1 v_heard_1 v_strokes_1)) ∧
 (r3 = 0 → (wp_X2_pass p2 v_windows v_dials_1 v_clocks v_kind v_hands_1 v_rate v_spring_1 v_window_1 v_finish_1 v_skies v_sky v_hour_1 v_heard_1 v_strokes_1 (fun (r5 : Int32) (v_dials_6 : Nat → Int32) (v_hands_7 : Nat → Int32) (v_spring_8 : Nat → Int32) (v_window_9 : Nat → Int32) (v_finish_10 : Nat → Int32) (v_hour_11 : Int32) (v_heard_12 : Int32) (v_strokes_13 : Int32) =>
 (∀ z14 : Int32, z14 = x3_1 + 1 → (∃ m9, m9 < n1 ∧ I1 m9 z14 v_dials_6 v_hands_7 v_spring_8 v_window_9 v_finish_10 v_hour_11 v_heard_12 v_strokes_13)))))))))))
set_option maxHeartbeats 4000000 in
set_option maxRecDepth 100000 in
theorem c_X2_passMany (l : Launch) (G : va_G) (k : Nat → ClassId) (a : Nat → Nat) (p1 : Int32) (p2 : Int32) (v_windows : Int32) (v_dials : Nat → Int32) (v_clocks : Int32) (v_kind : Nat → Int32) (v_hands : Nat → Int32) (v_rate : Nat → Int32) (v_spring : Nat → Int32) (v_window : Nat → Int32) (v_finish : Nat → Int32) (v_skies : Int32) (v_sky : Nat → Int32) (v_hour : Int32) (v_heard : Int32) (v_strokes : Int32) (post : (Nat → Int32) → (Nat → Int32) → (Nat → Int32) → (Nat → Int32) → (Nat → Int32) → (Int32) → (Int32) → (Int32) → Prop) (hf : wp_X2_passMany p1 p2 v_windows v_dials v_clocks v_kind v_hands v_rate v_spring v_window v_finish v_skies v_sky v_hour v_heard v_strokes post) : MV (S := (Nat → Int32) × (Nat → Int32) × (Nat → Int32) × (Nat → Int32) × (Nat → Int32) × (Int32) × (Int32) × (Int32)) l G k yX2_passMany (Cond.code yX2_passMany cX2_passMany 4 none :: wT) 4 88 [.ref (a 0), .int p1, .int p2] (sgX2 k a v_windows v_dials v_clocks v_kind v_hands v_rate v_spring v_window v_finish v_skies v_sky v_hour v_heard v_strokes) (fun u => (sgX2 k a v_windows u.1 v_clocks v_kind u.2.1 v_rate u.2.2.1 u.2.2.2.1 u.2.2.2.2.1 v_skies v_sky u.2.2.2.2.2.1 u.2.2.2.2.2.2.1 u.2.2.2.2.2.2.2)) (fun u => post u.1 u.2.1 u.2.2.1 u.2.2.2.1 u.2.2.2.2.1 u.2.2.2.2.2.1 u.2.2.2.2.2.2.1 u.2.2.2.2.2.2.2) := by
  refine mv_start (cc := cX2_passMany) (maxL := 4) (ret := none) (by decide) [(0, .ref (a 0)), (1, .int p1), (2, .int p2)] rfl (Nat.le_of_ble_eq_true rfl) ?_
  intro p e s m below meth c A ls hx hb hr hlk hml hown hts hK hP hD hA hS hX hl
  have hown : s.vm.findClass RX2 = some m.cls := hown
  unfold wp_X2_passMany at hf
  have hH0 : s.heap = s.heap := rfl
  refine lv_iconst (v := 0) hx hb dX2_passMany_0 (by decide) ?_
  refine lv_istore_n (lv' := [(3, .int 0), (0, .ref (a 0)), (1, .int p1), (2, .int p2)]) hx hb dX2_passMany_1 rfl hl (by decide) rfl (fun ls hl => ?_)
  obtain ⟨I1, ⟨n1, hi1⟩, hs1⟩ := hf
  refine w_loop (G := G) (A := A) (H0 := s.heap) (nL := 4) (σ := (Int32) × (Nat → Int32) × (Nat → Int32) × (Nat → Int32) × (Nat → Int32) × (Nat → Int32) × (Int32) × (Int32) × (Int32)) (I := fun n v => I1 n v.1 v.2.1 v.2.2.1 v.2.2.2.1 v.2.2.2.2.1 v.2.2.2.2.2.1 v.2.2.2.2.2.2.1 v.2.2.2.2.2.2.2.1 v.2.2.2.2.2.2.2.2) (wl := fun v => (sgX2 k a v_windows v.2.1 v_clocks v_kind v.2.2.1 v_rate v.2.2.2.1 v.2.2.2.2.1 v.2.2.2.2.2.1 v_skies v_sky v.2.2.2.2.2.2.1 v.2.2.2.2.2.2.2.1 v.2.2.2.2.2.2.2.2)) (lv := fun v => [(0, .ref (a 0)), (1, .int p1), (2, .int p2), (3, .int v.1)]) (st := fun _ => []) n1 (0, v_dials, v_hands, v_spring, v_window, v_finish, v_hour, v_heard, v_strokes) hi1 hP hD hS (lv_sub hl [1, 2, 3, 0] rfl) (fun n1 v hi ih1 H locs ls hP hD hS hl => ?_)
  obtain ⟨x3_1, v_dials_1, v_hands_1, v_spring_1, v_window_1, v_finish_1, v_hour_1, v_heard_1, v_strokes_1⟩ := v
  have hf := hs1 n1 x3_1 v_dials_1 v_hands_1 v_spring_1 v_window_1 v_finish_1 v_hour_1 v_heard_1 v_strokes_1 hi
  have hP : va_P G vwCl (sgX2 k a v_windows v_dials_1 v_clocks v_kind v_hands_1 v_rate v_spring_1 v_window_1 v_finish_1 v_skies v_sky v_hour_1 v_heard_1 v_strokes_1) H := hP
  have hD : va_D A (sgX2 k a v_windows v_dials_1 v_clocks v_kind v_hands_1 v_rate v_spring_1 v_window_1 v_finish_1 v_skies v_sky v_hour_1 v_heard_1 v_strokes_1) := hD
  have hl : lv_has ls 4 [(0, .ref (a 0)), (1, .int p1), (2, .int p2), (3, .int x3_1)] := hl
  refine lv_iload_n hx hb dX2_passMany_2 rfl (lv_at hl 3 rfl) ?_
  refine lv_iload_n hx hb dX2_passMany_3 rfl (lv_at hl 1 rfl) ?_
  refine lv_icmp_ge (tgt := 26) hx hb dX2_passMany_4 (by decide) (fun c2 => ?_) (fun c2 => ?_)
  · have hf := hf.1 c2
    exact ret_v hx hb hr hlk (v_dials_1, v_hands_1, v_spring_1, v_window_1, v_finish_1, v_hour_1, v_heard_1, v_strokes_1) hf hP hD hS dX2_passMany_26
  have hf := hf.2 c2
  refine lv_aload_n hx hb dX2_passMany_7 rfl (lv_at hl 0 rfl) ?_
  refine cvi (As := []) (rest := []) (wr := []) (wn := (fun u => (sgX2 k a v_windows v_dials_1 v_clocks v_kind v_hands_1 v_rate v_spring_1 v_window_1 v_finish_1 v_skies v_sky v_hour_1 v_heard_1 v_strokes_1))) ⟨hx, hb, hml, hown, hts⟩ (c_X2_allHome l G k a v_windows v_dials_1 v_clocks v_kind v_hands_1 v_rate v_spring_1 v_window_1 v_finish_1 v_skies v_sky v_hour_1 v_heard_1 v_strokes_1 _ hf) (cwT 0 hts mw713 mw714 mw715 mw71 mw716 rfl hd_X2_allHome ⟨Nat.le_of_ble_eq_true rfl, Nat.le_of_ble_eq_true rfl⟩) hK hP hD hS hX hA [0, 1, 2, 3, 4, 5, 6, 7, 8] [] [0, 1, 2, 3, 4, 5, 6, 7, 8] rfl rfl (by decide) (by decide) (by decide) (fun u => rfl) (by decide) rfl rfl rfl rfl hl.1 rfl (Nat.le_of_ble_eq_true rfl) dX2_passMany_8 (Nat.zero_le _) (Nat.zero_le _) (fun r3 u H locs hf hP hD hS => ?_)
  have hP : va_P G vwCl (sgX2 k a v_windows v_dials_1 v_clocks v_kind v_hands_1 v_rate v_spring_1 v_window_1 v_finish_1 v_skies v_sky v_hour_1 v_heard_1 v_strokes_1) H := hP
  have hD : va_D A (sgX2 k a v_windows v_dials_1 v_clocks v_kind v_hands_1 v_rate v_spring_1 v_window_1 v_finish_1 v_skies v_sky v_hour_1 v_heard_1 v_strokes_1) := hD
  refine lv_if_ne (tgt := 26) hx hb dX2_passMany_11 (by decide) (fun c4 => ?_) (fun c4 => ?_)
  · have hf := hf.1 c4
    exact ret_v hx hb hr hlk (v_dials_1, v_hands_1, v_spring_1, v_window_1, v_finish_1, v_hour_1, v_heard_1, v_strokes_1) hf hP hD hS dX2_passMany_26
  have hf := hf.2 c4
  refine lv_aload_n hx hb dX2_passMany_14 rfl (lv_at hl 0 rfl) ?_
  refine lv_iload_n hx hb dX2_passMany_15 rfl (lv_at hl 2 rfl) ?_
  refine cvi (As := [.int p2]) (rest := []) (wr := []) (wn := (fun u => (sgX2 k a v_windows u.1 v_clocks v_kind u.2.1 v_rate u.2.2.1 u.2.2.2.1 u.2.2.2.2.1 v_skies v_sky u.2.2.2.2.2.1 u.2.2.2.2.2.2.1 u.2.2.2.2.2.2.2))) ⟨hx, hb, hml, hown, hts⟩ (c_X2_pass l G k a p2 v_windows v_dials_1 v_clocks v_kind v_hands_1 v_rate v_spring_1 v_window_1 v_finish_1 v_skies v_sky v_hour_1 v_heard_1 v_strokes_1 _ hf) (cwT 1 hts mw718 mw627 mw628 mw71 mw629 rfl hd_X2_pass ⟨Nat.le_of_ble_eq_true rfl, Nat.le_of_ble_eq_true rfl⟩) hK hP hD hS hX hA [0, 1, 2, 3, 4, 5, 6, 7, 8] [] [0, 1, 2, 3, 4, 5, 6, 7, 8] rfl rfl (by decide) (by decide) (by decide) (fun u => rfl) (by decide) rfl rfl rfl rfl hl.1 rfl (Nat.le_of_ble_eq_true rfl) dX2_passMany_16 (Nat.zero_le _) (Nat.zero_le _) (fun r5 u H locs hf hP hD hS => ?_)
  obtain ⟨v_dials_6, v_hands_7, v_spring_8, v_window_9, v_finish_10, v_hour_11, v_heard_12, v_strokes_13⟩ := u
  have hP : va_P G vwCl (sgX2 k a v_windows v_dials_6 v_clocks v_kind v_hands_7 v_rate v_spring_8 v_window_9 v_finish_10 v_skies v_sky v_hour_11 v_heard_12 v_strokes_13) H := hP
  have hD : va_D A (sgX2 k a v_windows v_dials_6 v_clocks v_kind v_hands_7 v_rate v_spring_8 v_window_9 v_finish_10 v_skies v_sky v_hour_11 v_heard_12 v_strokes_13) := hD
  refine lv_pop hx hb dX2_passMany_19 rfl ?_
  obtain ⟨z14, ez14⟩ : ∃ y : Int32, y = x3_1 + 1 := ⟨_, rfl⟩
  have hf := hf z14 ez14
  refine lv_iinc (v := z14) (lv' := [(3, .int z14), (0, .ref (a 0)), (1, .int p1), (2, .int p2)]) hx hb dX2_passMany_20 hl (k := 3) rfl (by rw [ez14]; rfl) (by decide) rfl (fun ls hl => ?_)
  refine lv_goto (tgt := 2) hx hb dX2_passMany_23 (by decide) ?_
  obtain ⟨m9, hm9, hi9⟩ := hf
  exact ih1 m9 (z14, v_dials_6, v_hands_7, v_spring_8, v_window_9, v_finish_10, v_hour_11, v_heard_12, v_strokes_13) hm9 hi9 _ _ _ hP hD hS (lv_sub hl [1, 2, 3, 0] rfl)
def wp_X2_isAhead (p1 : Int32) (p2 : Int32) (v_windows : Int32) (v_window : Nat → Int32) (v_finish : Nat → Int32) (post : Int32 → Prop) : Prop :=
  (wp_X2_isHome p1 v_windows v_window (fun (r1 : Int32) =>
 ((r1 = 0 → (vp_in p1 9 ∧ (vp_in p2 9 ∧ (((v_window (Int32.toNatClampNeg p1)) ≤ (v_window (Int32.toNatClampNeg p2)) → (post 0 )) ∧
 (¬ (v_window (Int32.toNatClampNeg p1)) ≤ (v_window (Int32.toNatClampNeg p2)) → (post 1 )))))) ∧
 (¬ r1 = 0 → (wp_X2_isHome p2 v_windows v_window (fun (r4 : Int32) =>
 ((r4 = 0 → (vp_in p1 9 ∧ (vp_in p2 9 ∧ (((v_window (Int32.toNatClampNeg p1)) ≤ (v_window (Int32.toNatClampNeg p2)) → (post 0 )) ∧
 (¬ (v_window (Int32.toNatClampNeg p1)) ≤ (v_window (Int32.toNatClampNeg p2)) → (post 1 )))))) ∧
 (¬ r4 = 0 → (vp_in p1 9 ∧ (vp_in p2 9 ∧ (((v_finish (Int32.toNatClampNeg p2)) ≤ (v_finish (Int32.toNatClampNeg p1)) → (post 0 )) ∧
 (¬ (v_finish (Int32.toNatClampNeg p2)) ≤ (v_finish (Int32.toNatClampNeg p1)) → (post 1 )))))))))))))
set_option maxHeartbeats 4000000 in
set_option maxRecDepth 100000 in
theorem c_X2_isAhead (l : Launch) (G : va_G) (k : Nat → ClassId) (a : Nat → Nat) (p1 : Int32) (p2 : Int32) (v_windows : Int32) (v_dials : Nat → Int32) (v_clocks : Int32) (v_kind : Nat → Int32) (v_hands : Nat → Int32) (v_rate : Nat → Int32) (v_spring : Nat → Int32) (v_window : Nat → Int32) (v_finish : Nat → Int32) (v_skies : Int32) (v_sky : Nat → Int32) (v_hour : Int32) (v_heard : Int32) (v_strokes : Int32) (post : Int32 → Prop) (hf : wp_X2_isAhead p1 p2 v_windows v_window v_finish post) : MI (S := Unit) l G k yX2_isAhead (Cond.code yX2_isAhead cX2_isAhead 3 (some .boolean) :: wT) 1 21 [.ref (a 0), .int p1, .int p2] (sgX2 k a v_windows v_dials v_clocks v_kind v_hands v_rate v_spring v_window v_finish v_skies v_sky v_hour v_heard v_strokes) (fun u => (sgX2 k a v_windows v_dials v_clocks v_kind v_hands v_rate v_spring v_window v_finish v_skies v_sky v_hour v_heard v_strokes)) (fun r u => post r ) := by
  refine mi_start (cc := cX2_isAhead) (maxL := 3) (ret := (some .boolean)) (by decide) [(0, .ref (a 0)), (1, .int p1), (2, .int p2)] rfl (Nat.le_of_ble_eq_true rfl) ?_
  intro p e s m below meth c A ls hx hb hr hlk hml hown hts hK hP hD hA hS hX hl
  have hown : s.vm.findClass RX2 = some m.cls := hown
  unfold wp_X2_isAhead at hf
  have hH0 : s.heap = s.heap := rfl
  refine lv_aload_n hx hb dX2_isAhead_0 rfl (lv_at hl 0 rfl) ?_
  refine lv_iload_n hx hb dX2_isAhead_1 rfl (lv_at hl 1 rfl) ?_
  refine cvi (As := [.int p1]) (rest := []) (wr := []) (wn := (fun u => (sgX2 k a v_windows v_dials v_clocks v_kind v_hands v_rate v_spring v_window v_finish v_skies v_sky v_hour v_heard v_strokes))) ⟨hx, hb, hml, hown, hts⟩ (c_X2_isHome l G k a p1 v_windows v_dials v_clocks v_kind v_hands v_rate v_spring v_window v_finish v_skies v_sky v_hour v_heard v_strokes _ hf) (cwT 1 hts mw632 mw357 mw358 mw71 mw359 rfl hd_X2_isHome ⟨Nat.le_of_ble_eq_true rfl, Nat.le_of_ble_eq_true rfl⟩) hK hP hD hS hX hA [0, 1, 2, 3, 4, 5, 6, 7, 8] [] [0, 1, 2, 3, 4, 5, 6, 7, 8] rfl rfl (by decide) (by decide) (by decide) (fun u => rfl) (by decide) rfl rfl rfl rfl hl.1 rfl (Nat.le_of_ble_eq_true rfl) dX2_isAhead_2 (Nat.zero_le _) (Nat.zero_le _) (fun r1 u H locs hf hP hD hS => ?_)
  have hP : va_P G vwCl (sgX2 k a v_windows v_dials v_clocks v_kind v_hands v_rate v_spring v_window v_finish v_skies v_sky v_hour v_heard v_strokes) H := hP
  have hD : va_D A (sgX2 k a v_windows v_dials v_clocks v_kind v_hands v_rate v_spring v_window v_finish v_skies v_sky v_hour v_heard v_strokes) := hD
  refine lv_if_eq (tgt := 37) hx hb dX2_isAhead_5 (by decide) (fun c2 => ?_) (fun c2 => ?_)
  · have hf := hf.1 c2
    refine lv_aload_n hx hb dX2_isAhead_37 rfl (lv_at hl 0 rfl) ?_
    refine va_get (D := G) (ci := 2) (v := .ref (a 6)) (C := RX2) (T := TX2) (N := 14) hx hb hts inX2 hown hK hP 0 rfl rfl 7 (by decide) (hts _ mw123) (fun _ h9 => h9) rfl dX2_isAhead_38 ?_
    refine lv_iload_n hx hb dX2_isAhead_41 rfl (lv_at hl 1 rfl) ?_
    obtain ⟨hin, hf⟩ := hf
    refine va_iald hx hb hK hP 6 0 rfl rfl hin dX2_isAhead_42 ?_
    refine lv_aload_n hx hb dX2_isAhead_43 rfl (lv_at hl 0 rfl) ?_
    refine va_get (D := G) (ci := 2) (v := .ref (a 6)) (C := RX2) (T := TX2) (N := 14) hx hb hts inX2 hown hK hP 0 rfl rfl 7 (by decide) (hts _ mw123) (fun _ h9 => h9) rfl dX2_isAhead_44 ?_
    refine lv_iload_n hx hb dX2_isAhead_47 rfl (lv_at hl 2 rfl) ?_
    obtain ⟨hin, hf⟩ := hf
    refine va_iald hx hb hK hP 6 0 rfl rfl hin dX2_isAhead_48 ?_
    refine lv_icmp_le (tgt := 56) hx hb dX2_isAhead_49 (by decide) (fun c3 => ?_) (fun c3 => ?_)
    · have hf := hf.1 c3
      refine lv_iconst (v := 0) hx hb dX2_isAhead_56 (by decide) ?_
      exact ret_z hx hb hr hlk (Or.inl rfl) () hf hP hD hS dX2_isAhead_57
    have hf := hf.2 c3
    refine lv_iconst (v := 1) hx hb dX2_isAhead_52 (by decide) ?_
    refine lv_goto (tgt := 57) hx hb dX2_isAhead_53 (by decide) ?_
    exact ret_z hx hb hr hlk (Or.inr rfl) () hf hP hD hS dX2_isAhead_57
  have hf := hf.2 c2
  refine lv_aload_n hx hb dX2_isAhead_8 rfl (lv_at hl 0 rfl) ?_
  refine lv_iload_n hx hb dX2_isAhead_9 rfl (lv_at hl 2 rfl) ?_
  refine cvi (As := [.int p2]) (rest := []) (wr := []) (wn := (fun u => (sgX2 k a v_windows v_dials v_clocks v_kind v_hands v_rate v_spring v_window v_finish v_skies v_sky v_hour v_heard v_strokes))) ⟨hx, hb, hml, hown, hts⟩ (c_X2_isHome l G k a p2 v_windows v_dials v_clocks v_kind v_hands v_rate v_spring v_window v_finish v_skies v_sky v_hour v_heard v_strokes _ hf) (cwT 1 hts mw632 mw357 mw358 mw71 mw359 rfl hd_X2_isHome ⟨Nat.le_of_ble_eq_true rfl, Nat.le_of_ble_eq_true rfl⟩) hK hP hD hS hX hA [0, 1, 2, 3, 4, 5, 6, 7, 8] [] [0, 1, 2, 3, 4, 5, 6, 7, 8] rfl rfl (by decide) (by decide) (by decide) (fun u => rfl) (by decide) rfl rfl rfl rfl hl.1 rfl (Nat.le_of_ble_eq_true rfl) dX2_isAhead_10 (Nat.zero_le _) (Nat.zero_le _) (fun r4 u H locs hf hP hD hS => ?_)
  have hP : va_P G vwCl (sgX2 k a v_windows v_dials v_clocks v_kind v_hands v_rate v_spring v_window v_finish v_skies v_sky v_hour v_heard v_strokes) H := hP
  have hD : va_D A (sgX2 k a v_windows v_dials v_clocks v_kind v_hands v_rate v_spring v_window v_finish v_skies v_sky v_hour v_heard v_strokes) := hD
  refine lv_if_eq (tgt := 37) hx hb dX2_isAhead_13 (by decide) (fun c5 => ?_) (fun c5 => ?_)
  · have hf := hf.1 c5
    refine lv_aload_n hx hb dX2_isAhead_37 rfl (lv_at hl 0 rfl) ?_
    refine va_get (D := G) (ci := 2) (v := .ref (a 6)) (C := RX2) (T := TX2) (N := 14) hx hb hts inX2 hown hK hP 0 rfl rfl 7 (by decide) (hts _ mw123) (fun _ h9 => h9) rfl dX2_isAhead_38 ?_
    refine lv_iload_n hx hb dX2_isAhead_41 rfl (lv_at hl 1 rfl) ?_
    obtain ⟨hin, hf⟩ := hf
    refine va_iald hx hb hK hP 6 0 rfl rfl hin dX2_isAhead_42 ?_
    refine lv_aload_n hx hb dX2_isAhead_43 rfl (lv_at hl 0 rfl) ?_
    refine va_get (D := G) (ci := 2) (v := .ref (a 6)) (C := RX2) (T := TX2) (N := 14) hx hb hts inX2 hown hK hP 0 rfl rfl 7 (by decide) (hts _ mw123) (fun _ h9 => h9) rfl dX2_isAhead_44 ?_
    refine lv_iload_n hx hb dX2_isAhead_47 rfl (lv_at hl 2 rfl) ?_
    obtain ⟨hin, hf⟩ := hf
    refine va_iald hx hb hK hP 6 0 rfl rfl hin dX2_isAhead_48 ?_
    refine lv_icmp_le (tgt := 56) hx hb dX2_isAhead_49 (by decide) (fun c6 => ?_) (fun c6 => ?_)
    · have hf := hf.1 c6
      refine lv_iconst (v := 0) hx hb dX2_isAhead_56 (by decide) ?_
      exact ret_z hx hb hr hlk (Or.inl rfl) () hf hP hD hS dX2_isAhead_57
    have hf := hf.2 c6
    refine lv_iconst (v := 1) hx hb dX2_isAhead_52 (by decide) ?_
    refine lv_goto (tgt := 57) hx hb dX2_isAhead_53 (by decide) ?_
    exact ret_z hx hb hr hlk (Or.inr rfl) () hf hP hD hS dX2_isAhead_57
  have hf := hf.2 c5
  refine lv_aload_n hx hb dX2_isAhead_16 rfl (lv_at hl 0 rfl) ?_
  refine va_get (D := G) (ci := 2) (v := .ref (a 7)) (C := RX2) (T := TX2) (N := 14) hx hb hts inX2 hown hK hP 0 rfl rfl 8 (by decide) (hts _ mw125) (fun _ h9 => h9) rfl dX2_isAhead_17 ?_
  refine lv_iload_n hx hb dX2_isAhead_20 rfl (lv_at hl 1 rfl) ?_
  obtain ⟨hin, hf⟩ := hf
  refine va_iald hx hb hK hP 7 0 rfl rfl hin dX2_isAhead_21 ?_
  refine lv_aload_n hx hb dX2_isAhead_22 rfl (lv_at hl 0 rfl) ?_
  refine va_get (D := G) (ci := 2) (v := .ref (a 7)) (C := RX2) (T := TX2) (N := 14) hx hb hts inX2 hown hK hP 0 rfl rfl 8 (by decide) (hts _ mw125) (fun _ h9 => h9) rfl dX2_isAhead_23 ?_
  refine lv_iload_n hx hb dX2_isAhead_26 rfl (lv_at hl 2 rfl) ?_
  obtain ⟨hin, hf⟩ := hf
  refine va_iald hx hb hK hP 7 0 rfl rfl hin dX2_isAhead_27 ?_
  refine lv_icmp_ge (tgt := 35) hx hb dX2_isAhead_28 (by decide) (fun c7 => ?_) (fun c7 => ?_)
  · have hf := hf.1 c7
    refine lv_iconst (v := 0) hx hb dX2_isAhead_35 (by decide) ?_
    exact ret_z hx hb hr hlk (Or.inl rfl) () hf hP hD hS dX2_isAhead_36
  have hf := hf.2 c7
  refine lv_iconst (v := 1) hx hb dX2_isAhead_31 (by decide) ?_
  refine lv_goto (tgt := 36) hx hb dX2_isAhead_32 (by decide) ?_
  exact ret_z hx hb hr hlk (Or.inr rfl) () hf hP hD hS dX2_isAhead_36
def wp_X2_placeOf (p1 : Int32) (v_windows : Int32) (v_clocks : Int32) (v_window : Nat → Int32) (v_finish : Nat → Int32) (post : Int32 → Prop) : Prop :=
  (∃ I1 : Nat → (Int32) → (Int32) → Prop, (∃ n1, I1 n1 1 0) ∧ ∀ (n1 : Nat) (x2_1 : Int32) (x3_1 : Int32), I1 n1 x2_1 x3_1 →
 ((v_clocks ≤ x3_1 → (post x2_1 )) ∧
 (¬ v_clocks ≤ x3_1 → (wp_X2_isAhead x3_1 p1 v_windows v_window v_finish (fun (r3 : Int32) =>
 ((r3 = 0 → (∀ z5 : Int32, z5 = x3_1 + 1 → (∃ m9, m9 < n1 ∧ I1 m9 x2_1 z5))) ∧
 (¬ r3 = 0 → (∀ z6 : Int32, z6 = x2_1 + 1 → (∀ z7 : Int32, z7 = x3_1 + 1 → (∃ m9, m9 < n1 ∧ I1 m9 z6 z7))))))))))
set_option maxHeartbeats 4000000 in
set_option maxRecDepth 100000 in
theorem c_X2_placeOf (l : Launch) (G : va_G) (k : Nat → ClassId) (a : Nat → Nat) (p1 : Int32) (v_windows : Int32) (v_dials : Nat → Int32) (v_clocks : Int32) (v_kind : Nat → Int32) (v_hands : Nat → Int32) (v_rate : Nat → Int32) (v_spring : Nat → Int32) (v_window : Nat → Int32) (v_finish : Nat → Int32) (v_skies : Int32) (v_sky : Nat → Int32) (v_hour : Int32) (v_heard : Int32) (v_strokes : Int32) (post : Int32 → Prop) (hf : wp_X2_placeOf p1 v_windows v_clocks v_window v_finish post) : MI (S := Unit) l G k yX2_placeOf (Cond.code yX2_placeOf cX2_placeOf 4 (some .int) :: wT) 2 43 [.ref (a 0), .int p1] (sgX2 k a v_windows v_dials v_clocks v_kind v_hands v_rate v_spring v_window v_finish v_skies v_sky v_hour v_heard v_strokes) (fun u => (sgX2 k a v_windows v_dials v_clocks v_kind v_hands v_rate v_spring v_window v_finish v_skies v_sky v_hour v_heard v_strokes)) (fun r u => post r ) := by
  refine mi_start (cc := cX2_placeOf) (maxL := 4) (ret := (some .int)) (by decide) [(0, .ref (a 0)), (1, .int p1)] rfl (Nat.le_of_ble_eq_true rfl) ?_
  intro p e s m below meth c A ls hx hb hr hlk hml hown hts hK hP hD hA hS hX hl
  have hown : s.vm.findClass RX2 = some m.cls := hown
  unfold wp_X2_placeOf at hf
  have hH0 : s.heap = s.heap := rfl
  refine lv_iconst (v := 1) hx hb dX2_placeOf_0 (by decide) ?_
  refine lv_istore_n (lv' := [(2, .int 1), (0, .ref (a 0)), (1, .int p1)]) hx hb dX2_placeOf_1 rfl hl (by decide) rfl (fun ls hl => ?_)
  refine lv_iconst (v := 0) hx hb dX2_placeOf_2 (by decide) ?_
  refine lv_istore_n (lv' := [(3, .int 0), (2, .int 1), (0, .ref (a 0)), (1, .int p1)]) hx hb dX2_placeOf_3 rfl hl (by decide) rfl (fun ls hl => ?_)
  obtain ⟨I1, ⟨n1, hi1⟩, hs1⟩ := hf
  refine w_loop (G := G) (A := A) (H0 := s.heap) (nL := 4) (σ := (Int32) × (Int32)) (I := fun n v => I1 n v.1 v.2) (wl := fun v => (sgX2 k a v_windows v_dials v_clocks v_kind v_hands v_rate v_spring v_window v_finish v_skies v_sky v_hour v_heard v_strokes)) (lv := fun v => [(0, .ref (a 0)), (1, .int p1), (2, .int v.1), (3, .int v.2)]) (st := fun _ => []) n1 (1, 0) hi1 hP hD hS (lv_sub hl [2, 3, 1, 0] rfl) (fun n1 v hi ih1 H locs ls hP hD hS hl => ?_)
  obtain ⟨x2_1, x3_1⟩ := v
  have hf := hs1 n1 x2_1 x3_1 hi
  have hP : va_P G vwCl (sgX2 k a v_windows v_dials v_clocks v_kind v_hands v_rate v_spring v_window v_finish v_skies v_sky v_hour v_heard v_strokes) H := hP
  have hD : va_D A (sgX2 k a v_windows v_dials v_clocks v_kind v_hands v_rate v_spring v_window v_finish v_skies v_sky v_hour v_heard v_strokes) := hD
  have hl : lv_has ls 4 [(0, .ref (a 0)), (1, .int p1), (2, .int x2_1), (3, .int x3_1)] := hl
  refine lv_iload_n hx hb dX2_placeOf_4 rfl (lv_at hl 3 rfl) ?_
  refine lv_aload_n hx hb dX2_placeOf_5 rfl (lv_at hl 0 rfl) ?_
  refine va_get (D := G) (ci := 2) (v := .int v_clocks) (C := RX2) (T := TX2) (N := 14) hx hb hts inX2 hown hK hP 0 rfl rfl 2 (by decide) (hts _ mw110) (fun _ h9 => h9) rfl dX2_placeOf_6 ?_
  refine lv_icmp_ge (tgt := 30) hx hb dX2_placeOf_9 (by decide) (fun c2 => ?_) (fun c2 => ?_)
  · have hf := hf.1 c2
    refine lv_iload_n hx hb dX2_placeOf_30 rfl (lv_at hl 2 rfl) ?_
    exact ret_i hx hb hr hlk () hf hP hD hS dX2_placeOf_31
  have hf := hf.2 c2
  refine lv_aload_n hx hb dX2_placeOf_12 rfl (lv_at hl 0 rfl) ?_
  refine lv_iload_n hx hb dX2_placeOf_13 rfl (lv_at hl 3 rfl) ?_
  refine lv_iload_n hx hb dX2_placeOf_14 rfl (lv_at hl 1 rfl) ?_
  refine cvi (As := [.int x3_1, .int p1]) (rest := []) (wr := []) (wn := (fun u => (sgX2 k a v_windows v_dials v_clocks v_kind v_hands v_rate v_spring v_window v_finish v_skies v_sky v_hour v_heard v_strokes))) ⟨hx, hb, hml, hown, hts⟩ (c_X2_isAhead l G k a x3_1 p1 v_windows v_dials v_clocks v_kind v_hands v_rate v_spring v_window v_finish v_skies v_sky v_hour v_heard v_strokes _ hf) (cwT 2 hts mw662 mw664 mw18 mw71 mw665 rfl hd_X2_isAhead ⟨Nat.le_of_ble_eq_true rfl, Nat.le_of_ble_eq_true rfl⟩) hK hP hD hS hX hA [0, 1, 2, 3, 4, 5, 6, 7, 8] [] [0, 1, 2, 3, 4, 5, 6, 7, 8] rfl rfl (by decide) (by decide) (by decide) (fun u => rfl) (by decide) rfl rfl rfl rfl hl.1 rfl (Nat.le_of_ble_eq_true rfl) dX2_placeOf_15 (Nat.zero_le _) (Nat.zero_le _) (fun r3 u H locs hf hP hD hS => ?_)
  have hP : va_P G vwCl (sgX2 k a v_windows v_dials v_clocks v_kind v_hands v_rate v_spring v_window v_finish v_skies v_sky v_hour v_heard v_strokes) H := hP
  have hD : va_D A (sgX2 k a v_windows v_dials v_clocks v_kind v_hands v_rate v_spring v_window v_finish v_skies v_sky v_hour v_heard v_strokes) := hD
  refine lv_if_eq (tgt := 24) hx hb dX2_placeOf_18 (by decide) (fun c4 => ?_) (fun c4 => ?_)
  · have hf := hf.1 c4
    obtain ⟨z5, ez5⟩ : ∃ y : Int32, y = x3_1 + 1 := ⟨_, rfl⟩
    have hf := hf z5 ez5
    refine lv_iinc (v := z5) (lv' := [(3, .int z5), (0, .ref (a 0)), (1, .int p1), (2, .int x2_1)]) hx hb dX2_placeOf_24 hl (k := 3) rfl (by rw [ez5]; rfl) (by decide) rfl (fun ls hl => ?_)
    refine lv_goto (tgt := 4) hx hb dX2_placeOf_27 (by decide) ?_
    obtain ⟨m9, hm9, hi9⟩ := hf
    exact ih1 m9 (x2_1, z5) hm9 hi9 _ _ _ hP hD hS (lv_sub hl [1, 2, 3, 0] rfl)
  have hf := hf.2 c4
  obtain ⟨z6, ez6⟩ : ∃ y : Int32, y = x2_1 + 1 := ⟨_, rfl⟩
  have hf := hf z6 ez6
  refine lv_iinc (v := z6) (lv' := [(2, .int z6), (0, .ref (a 0)), (1, .int p1), (3, .int x3_1)]) hx hb dX2_placeOf_21 hl (k := 2) rfl (by rw [ez6]; rfl) (by decide) rfl (fun ls hl => ?_)
  obtain ⟨z7, ez7⟩ : ∃ y : Int32, y = x3_1 + 1 := ⟨_, rfl⟩
  have hf := hf z7 ez7
  refine lv_iinc (v := z7) (lv' := [(3, .int z7), (2, .int z6), (0, .ref (a 0)), (1, .int p1)]) hx hb dX2_placeOf_24 hl (k := 3) rfl (by rw [ez7]; rfl) (by decide) rfl (fun ls hl => ?_)
  refine lv_goto (tgt := 4) hx hb dX2_placeOf_27 (by decide) ?_
  obtain ⟨m9, hm9, hi9⟩ := hf
  exact ih1 m9 (z6, z7) hm9 hi9 _ _ _ hP hD hS (lv_sub hl [2, 3, 1, 0] rfl)
def wp_X2_leaders (v_windows : Int32) (v_clocks : Int32) (v_window : Nat → Int32) (v_finish : Nat → Int32) (post : Int32 → Prop) : Prop :=
  (∃ I1 : Nat → (Int32) → (Int32) → Prop, (∃ n1, I1 n1 0 0) ∧ ∀ (n1 : Nat) (x1_1 : Int32) (x2_1 : Int32), I1 n1 x1_1 x2_1 →
 ((v_clocks ≤ x2_1 → (post x1_1 )) ∧
 (¬ v_clocks ≤ x2_1 → (wp_X2_placeOf x2_1 v_windows v_clocks v_window v_finish (fun (r3 : Int32) =>
 ((¬ r3 = 1 → (∀ z5 : Int32, z5 = x2_1 + 1 → (∃ m9, m9 < n1 ∧ I1 m9 x1_1 z5))) ∧
 (r3 = 1 → (∀ z6 : Int32, z6 = (x1_1 ||| (1 <<< (x2_1 &&& 31))) → (∀ z7 : Int32, z7 = x2_1 + 1 → (∃ m9, m9 < n1 ∧ I1 m9 z6 z7))))))))))
set_option maxHeartbeats 4000000 in
set_option maxRecDepth 100000 in
theorem c_X2_leaders (l : Launch) (G : va_G) (k : Nat → ClassId) (a : Nat → Nat) (v_windows : Int32) (v_dials : Nat → Int32) (v_clocks : Int32) (v_kind : Nat → Int32) (v_hands : Nat → Int32) (v_rate : Nat → Int32) (v_spring : Nat → Int32) (v_window : Nat → Int32) (v_finish : Nat → Int32) (v_skies : Int32) (v_sky : Nat → Int32) (v_hour : Int32) (v_heard : Int32) (v_strokes : Int32) (post : Int32 → Prop) (hf : wp_X2_leaders v_windows v_clocks v_window v_finish post) : MI (S := Unit) l G k yX2_leaders (Cond.code yX2_leaders cX2_leaders 3 (some .int) :: wT) 3 66 [.ref (a 0)] (sgX2 k a v_windows v_dials v_clocks v_kind v_hands v_rate v_spring v_window v_finish v_skies v_sky v_hour v_heard v_strokes) (fun u => (sgX2 k a v_windows v_dials v_clocks v_kind v_hands v_rate v_spring v_window v_finish v_skies v_sky v_hour v_heard v_strokes)) (fun r u => post r ) := by
  refine mi_start (cc := cX2_leaders) (maxL := 3) (ret := (some .int)) (by decide) [(0, .ref (a 0))] rfl (Nat.le_of_ble_eq_true rfl) ?_
  intro p e s m below meth c A ls hx hb hr hlk hml hown hts hK hP hD hA hS hX hl
  have hown : s.vm.findClass RX2 = some m.cls := hown
  unfold wp_X2_leaders at hf
  have hH0 : s.heap = s.heap := rfl
  refine lv_iconst (v := 0) hx hb dX2_leaders_0 (by decide) ?_
  refine lv_istore_n (lv' := [(1, .int 0), (0, .ref (a 0))]) hx hb dX2_leaders_1 rfl hl (by decide) rfl (fun ls hl => ?_)
  refine lv_iconst (v := 0) hx hb dX2_leaders_2 (by decide) ?_
  refine lv_istore_n (lv' := [(2, .int 0), (1, .int 0), (0, .ref (a 0))]) hx hb dX2_leaders_3 rfl hl (by decide) rfl (fun ls hl => ?_)
  obtain ⟨I1, ⟨n1, hi1⟩, hs1⟩ := hf
  refine w_loop (G := G) (A := A) (H0 := s.heap) (nL := 3) (σ := (Int32) × (Int32)) (I := fun n v => I1 n v.1 v.2) (wl := fun v => (sgX2 k a v_windows v_dials v_clocks v_kind v_hands v_rate v_spring v_window v_finish v_skies v_sky v_hour v_heard v_strokes)) (lv := fun v => [(0, .ref (a 0)), (1, .int v.1), (2, .int v.2)]) (st := fun _ => []) n1 (0, 0) hi1 hP hD hS (lv_sub hl [2, 1, 0] rfl) (fun n1 v hi ih1 H locs ls hP hD hS hl => ?_)
  obtain ⟨x1_1, x2_1⟩ := v
  have hf := hs1 n1 x1_1 x2_1 hi
  have hP : va_P G vwCl (sgX2 k a v_windows v_dials v_clocks v_kind v_hands v_rate v_spring v_window v_finish v_skies v_sky v_hour v_heard v_strokes) H := hP
  have hD : va_D A (sgX2 k a v_windows v_dials v_clocks v_kind v_hands v_rate v_spring v_window v_finish v_skies v_sky v_hour v_heard v_strokes) := hD
  have hl : lv_has ls 3 [(0, .ref (a 0)), (1, .int x1_1), (2, .int x2_1)] := hl
  refine lv_iload_n hx hb dX2_leaders_4 rfl (lv_at hl 2 rfl) ?_
  refine lv_aload_n hx hb dX2_leaders_5 rfl (lv_at hl 0 rfl) ?_
  refine va_get (D := G) (ci := 2) (v := .int v_clocks) (C := RX2) (T := TX2) (N := 14) hx hb hts inX2 hown hK hP 0 rfl rfl 2 (by decide) (hts _ mw110) (fun _ h9 => h9) rfl dX2_leaders_6 ?_
  refine lv_icmp_ge (tgt := 33) hx hb dX2_leaders_9 (by decide) (fun c2 => ?_) (fun c2 => ?_)
  · have hf := hf.1 c2
    refine lv_iload_n hx hb dX2_leaders_33 rfl (lv_at hl 1 rfl) ?_
    exact ret_i hx hb hr hlk () hf hP hD hS dX2_leaders_34
  have hf := hf.2 c2
  refine lv_aload_n hx hb dX2_leaders_12 rfl (lv_at hl 0 rfl) ?_
  refine lv_iload_n hx hb dX2_leaders_13 rfl (lv_at hl 2 rfl) ?_
  refine cvi (As := [.int x2_1]) (rest := []) (wr := []) (wn := (fun u => (sgX2 k a v_windows v_dials v_clocks v_kind v_hands v_rate v_spring v_window v_finish v_skies v_sky v_hour v_heard v_strokes))) ⟨hx, hb, hml, hown, hts⟩ (c_X2_placeOf l G k a x2_1 v_windows v_dials v_clocks v_kind v_hands v_rate v_spring v_window v_finish v_skies v_sky v_hour v_heard v_strokes _ hf) (cwT 1 hts mw727 mw675 mw676 mw71 mw677 rfl hd_X2_placeOf ⟨Nat.le_of_ble_eq_true rfl, Nat.le_of_ble_eq_true rfl⟩) hK hP hD hS hX hA [0, 1, 2, 3, 4, 5, 6, 7, 8] [] [0, 1, 2, 3, 4, 5, 6, 7, 8] rfl rfl (by decide) (by decide) (by decide) (fun u => rfl) (by decide) rfl rfl rfl rfl hl.1 rfl (Nat.le_of_ble_eq_true rfl) dX2_leaders_14 (Nat.zero_le _) (Nat.zero_le _) (fun r3 u H locs hf hP hD hS => ?_)
  have hP : va_P G vwCl (sgX2 k a v_windows v_dials v_clocks v_kind v_hands v_rate v_spring v_window v_finish v_skies v_sky v_hour v_heard v_strokes) H := hP
  have hD : va_D A (sgX2 k a v_windows v_dials v_clocks v_kind v_hands v_rate v_spring v_window v_finish v_skies v_sky v_hour v_heard v_strokes) := hD
  refine lv_iconst (v := 1) hx hb dX2_leaders_17 (by decide) ?_
  refine lv_icmp_ne (tgt := 27) hx hb dX2_leaders_18 (by decide) (fun c4 => ?_) (fun c4 => ?_)
  · have hf := hf.1 c4
    obtain ⟨z5, ez5⟩ : ∃ y : Int32, y = x2_1 + 1 := ⟨_, rfl⟩
    have hf := hf z5 ez5
    refine lv_iinc (v := z5) (lv' := [(2, .int z5), (0, .ref (a 0)), (1, .int x1_1)]) hx hb dX2_leaders_27 hl (k := 2) rfl (by rw [ez5]; rfl) (by decide) rfl (fun ls hl => ?_)
    refine lv_goto (tgt := 4) hx hb dX2_leaders_30 (by decide) ?_
    obtain ⟨m9, hm9, hi9⟩ := hf
    exact ih1 m9 (x1_1, z5) hm9 hi9 _ _ _ hP hD hS (lv_sub hl [1, 2, 0] rfl)
  have hf := hf.2 c4
  refine lv_iload_n hx hb dX2_leaders_21 rfl (lv_at hl 1 rfl) ?_
  refine lv_iconst (v := 1) hx hb dX2_leaders_22 (by decide) ?_
  refine lv_iload_n hx hb dX2_leaders_23 rfl (lv_at hl 2 rfl) ?_
  refine lv_ishl hx hb dX2_leaders_24 ?_
  refine lv_ior hx hb dX2_leaders_25 ?_
  refine lv_topi (fun z6 ez6 => ?_)
  have hf := hf z6 ez6
  refine lv_istore_n (lv' := [(1, .int z6), (0, .ref (a 0)), (2, .int x2_1)]) hx hb dX2_leaders_26 rfl hl (by decide) rfl (fun ls hl => ?_)
  obtain ⟨z7, ez7⟩ : ∃ y : Int32, y = x2_1 + 1 := ⟨_, rfl⟩
  have hf := hf z7 ez7
  refine lv_iinc (v := z7) (lv' := [(2, .int z7), (1, .int z6), (0, .ref (a 0))]) hx hb dX2_leaders_27 hl (k := 2) rfl (by rw [ez7]; rfl) (by decide) rfl (fun ls hl => ?_)
  refine lv_goto (tgt := 4) hx hb dX2_leaders_30 (by decide) ?_
  obtain ⟨m9, hm9, hi9⟩ := hf
  exact ih1 m9 (z6, z7) hm9 hi9 _ _ _ hP hD hS (lv_sub hl [2, 1, 0] rfl)
def wp_X2_tiedPairs (v_windows : Int32) (v_clocks : Int32) (v_window : Nat → Int32) (v_finish : Nat → Int32) (post : Int32 → Prop) : Prop :=
  (∃ I1 : Nat → (Int32) → (Int32) → Prop, (∃ n1, I1 n1 0 0) ∧ ∀ (n1 : Nat) (x1_1 : Int32) (x2_1 : Int32), I1 n1 x1_1 x2_1 →
 ((v_clocks ≤ x2_1 → (post x1_1 )) ∧
 (¬ v_clocks ≤ x2_1 → (∃ I3 : Nat → (Int32) → (Int32) → Prop, (∃ n3, I3 n3 x1_1 0) ∧ ∀ (n3 : Nat) (x1_3 : Int32) (x3_3 : Int32), I3 n3 x1_3 x3_3 →
 ((x2_1 ≤ x3_3 → (∀ z5 : Int32, z5 = x2_1 + 1 → (∃ m9, m9 < n1 ∧ I1 m9 x1_3 z5))) ∧
 (¬ x2_1 ≤ x3_3 → (wp_X2_isAhead x2_1 x3_3 v_windows v_window v_finish (fun (r6 : Int32) =>
 ((¬ r6 = 0 → (∀ z8 : Int32, z8 = x3_3 + 1 → (∃ m9, m9 < n3 ∧ I3 m9 x1_3 z8))) ∧
 (r6 = 0 → (wp_X2_isAhead x3_3 x2_1 v_windows v_window v_finish (fun (r9 : Int32) =>
 ((¬ r9 = 0 → (∀ z11 : Int32, z11 = x3_3 + 1 → (∃ m9, m9 < n3 ∧ I3 m9 x1_3 z11))) ∧
 (r9 = 0 → (∀ z12 : Int32, z12 = x1_3 + 1 → (∀ z13 : Int32, z13 = x3_3 + 1 → (∃ m9, m9 < n3 ∧ I3 m9 z12 z13)))))))))))))))))
set_option maxHeartbeats 4000000 in
set_option maxRecDepth 100000 in
theorem c_X2_tiedPairs (l : Launch) (G : va_G) (k : Nat → ClassId) (a : Nat → Nat) (v_windows : Int32) (v_dials : Nat → Int32) (v_clocks : Int32) (v_kind : Nat → Int32) (v_hands : Nat → Int32) (v_rate : Nat → Int32) (v_spring : Nat → Int32) (v_window : Nat → Int32) (v_finish : Nat → Int32) (v_skies : Int32) (v_sky : Nat → Int32) (v_hour : Int32) (v_heard : Int32) (v_strokes : Int32) (post : Int32 → Prop) (hf : wp_X2_tiedPairs v_windows v_clocks v_window v_finish post) : MI (S := Unit) l G k yX2_tiedPairs (Cond.code yX2_tiedPairs cX2_tiedPairs 4 (some .int) :: wT) 2 43 [.ref (a 0)] (sgX2 k a v_windows v_dials v_clocks v_kind v_hands v_rate v_spring v_window v_finish v_skies v_sky v_hour v_heard v_strokes) (fun u => (sgX2 k a v_windows v_dials v_clocks v_kind v_hands v_rate v_spring v_window v_finish v_skies v_sky v_hour v_heard v_strokes)) (fun r u => post r ) := by
  refine mi_start (cc := cX2_tiedPairs) (maxL := 4) (ret := (some .int)) (by decide) [(0, .ref (a 0))] rfl (Nat.le_of_ble_eq_true rfl) ?_
  intro p e s m below meth c A ls hx hb hr hlk hml hown hts hK hP hD hA hS hX hl
  have hown : s.vm.findClass RX2 = some m.cls := hown
  unfold wp_X2_tiedPairs at hf
  have hH0 : s.heap = s.heap := rfl
  refine lv_iconst (v := 0) hx hb dX2_tiedPairs_0 (by decide) ?_
  refine lv_istore_n (lv' := [(1, .int 0), (0, .ref (a 0))]) hx hb dX2_tiedPairs_1 rfl hl (by decide) rfl (fun ls hl => ?_)
  refine lv_iconst (v := 0) hx hb dX2_tiedPairs_2 (by decide) ?_
  refine lv_istore_n (lv' := [(2, .int 0), (1, .int 0), (0, .ref (a 0))]) hx hb dX2_tiedPairs_3 rfl hl (by decide) rfl (fun ls hl => ?_)
  obtain ⟨I1, ⟨n1, hi1⟩, hs1⟩ := hf
  refine w_loop (G := G) (A := A) (H0 := s.heap) (nL := 4) (σ := (Int32) × (Int32)) (I := fun n v => I1 n v.1 v.2) (wl := fun v => (sgX2 k a v_windows v_dials v_clocks v_kind v_hands v_rate v_spring v_window v_finish v_skies v_sky v_hour v_heard v_strokes)) (lv := fun v => [(0, .ref (a 0)), (1, .int v.1), (2, .int v.2)]) (st := fun _ => []) n1 (0, 0) hi1 hP hD hS (lv_sub hl [2, 1, 0] rfl) (fun n1 v hi ih1 H locs ls hP hD hS hl => ?_)
  obtain ⟨x1_1, x2_1⟩ := v
  have hf := hs1 n1 x1_1 x2_1 hi
  have hP : va_P G vwCl (sgX2 k a v_windows v_dials v_clocks v_kind v_hands v_rate v_spring v_window v_finish v_skies v_sky v_hour v_heard v_strokes) H := hP
  have hD : va_D A (sgX2 k a v_windows v_dials v_clocks v_kind v_hands v_rate v_spring v_window v_finish v_skies v_sky v_hour v_heard v_strokes) := hD
  have hl : lv_has ls 4 [(0, .ref (a 0)), (1, .int x1_1), (2, .int x2_1)] := hl
  refine lv_iload_n hx hb dX2_tiedPairs_4 rfl (lv_at hl 2 rfl) ?_
  refine lv_aload_n hx hb dX2_tiedPairs_5 rfl (lv_at hl 0 rfl) ?_
  refine va_get (D := G) (ci := 2) (v := .int v_clocks) (C := RX2) (T := TX2) (N := 14) hx hb hts inX2 hown hK hP 0 rfl rfl 2 (by decide) (hts _ mw110) (fun _ h9 => h9) rfl dX2_tiedPairs_6 ?_
  refine lv_icmp_ge (tgt := 52) hx hb dX2_tiedPairs_9 (by decide) (fun c2 => ?_) (fun c2 => ?_)
  · have hf := hf.1 c2
    refine lv_iload_n hx hb dX2_tiedPairs_52 rfl (lv_at hl 1 rfl) ?_
    exact ret_i hx hb hr hlk () hf hP hD hS dX2_tiedPairs_53
  have hf := hf.2 c2
  refine lv_iconst (v := 0) hx hb dX2_tiedPairs_12 (by decide) ?_
  refine lv_istore_n (lv' := [(3, .int 0), (0, .ref (a 0)), (1, .int x1_1), (2, .int x2_1)]) hx hb dX2_tiedPairs_13 rfl hl (by decide) rfl (fun ls hl => ?_)
  obtain ⟨I3, ⟨n3, hi3⟩, hs3⟩ := hf
  refine w_loop (G := G) (A := A) (H0 := s.heap) (nL := 4) (σ := (Int32) × (Int32)) (I := fun n v => I3 n v.1 v.2) (wl := fun v => (sgX2 k a v_windows v_dials v_clocks v_kind v_hands v_rate v_spring v_window v_finish v_skies v_sky v_hour v_heard v_strokes)) (lv := fun v => [(0, .ref (a 0)), (1, .int v.1), (2, .int x2_1), (3, .int v.2)]) (st := fun _ => []) n3 (x1_1, 0) hi3 hP hD hS (lv_sub hl [1, 2, 3, 0] rfl) (fun n3 v hi ih3 H locs ls hP hD hS hl => ?_)
  obtain ⟨x1_3, x3_3⟩ := v
  have hf := hs3 n3 x1_3 x3_3 hi
  have hP : va_P G vwCl (sgX2 k a v_windows v_dials v_clocks v_kind v_hands v_rate v_spring v_window v_finish v_skies v_sky v_hour v_heard v_strokes) H := hP
  have hD : va_D A (sgX2 k a v_windows v_dials v_clocks v_kind v_hands v_rate v_spring v_window v_finish v_skies v_sky v_hour v_heard v_strokes) := hD
  have hl : lv_has ls 4 [(0, .ref (a 0)), (1, .int x1_3), (2, .int x2_1), (3, .int x3_3)] := hl
  refine lv_iload_n hx hb dX2_tiedPairs_14 rfl (lv_at hl 3 rfl) ?_
  refine lv_iload_n hx hb dX2_tiedPairs_15 rfl (lv_at hl 2 rfl) ?_
  refine lv_icmp_ge (tgt := 46) hx hb dX2_tiedPairs_16 (by decide) (fun c4 => ?_) (fun c4 => ?_)
  · have hf := hf.1 c4
    obtain ⟨z5, ez5⟩ : ∃ y : Int32, y = x2_1 + 1 := ⟨_, rfl⟩
    have hf := hf z5 ez5
    refine lv_iinc (v := z5) (lv' := [(2, .int z5), (0, .ref (a 0)), (1, .int x1_3), (3, .int x3_3)]) hx hb dX2_tiedPairs_46 hl (k := 2) rfl (by rw [ez5]; rfl) (by decide) rfl (fun ls hl => ?_)
    refine lv_goto (tgt := 4) hx hb dX2_tiedPairs_49 (by decide) ?_
    obtain ⟨m9, hm9, hi9⟩ := hf
    exact ih1 m9 (x1_3, z5) hm9 hi9 _ _ _ hP hD hS (lv_sub hl [1, 2, 0] rfl)
  have hf := hf.2 c4
  refine lv_aload_n hx hb dX2_tiedPairs_19 rfl (lv_at hl 0 rfl) ?_
  refine lv_iload_n hx hb dX2_tiedPairs_20 rfl (lv_at hl 2 rfl) ?_
  refine lv_iload_n hx hb dX2_tiedPairs_21 rfl (lv_at hl 3 rfl) ?_
  refine cvi (As := [.int x2_1, .int x3_3]) (rest := []) (wr := []) (wn := (fun u => (sgX2 k a v_windows v_dials v_clocks v_kind v_hands v_rate v_spring v_window v_finish v_skies v_sky v_hour v_heard v_strokes))) ⟨hx, hb, hml, hown, hts⟩ (c_X2_isAhead l G k a x2_1 x3_3 v_windows v_dials v_clocks v_kind v_hands v_rate v_spring v_window v_finish v_skies v_sky v_hour v_heard v_strokes _ hf) (cwT 2 hts mw662 mw664 mw18 mw71 mw665 rfl hd_X2_isAhead ⟨Nat.le_of_ble_eq_true rfl, Nat.le_of_ble_eq_true rfl⟩) hK hP hD hS hX hA [0, 1, 2, 3, 4, 5, 6, 7, 8] [] [0, 1, 2, 3, 4, 5, 6, 7, 8] rfl rfl (by decide) (by decide) (by decide) (fun u => rfl) (by decide) rfl rfl rfl rfl hl.1 rfl (Nat.le_of_ble_eq_true rfl) dX2_tiedPairs_22 (Nat.zero_le _) (Nat.zero_le _) (fun r6 u H locs hf hP hD hS => ?_)
  have hP : va_P G vwCl (sgX2 k a v_windows v_dials v_clocks v_kind v_hands v_rate v_spring v_window v_finish v_skies v_sky v_hour v_heard v_strokes) H := hP
  have hD : va_D A (sgX2 k a v_windows v_dials v_clocks v_kind v_hands v_rate v_spring v_window v_finish v_skies v_sky v_hour v_heard v_strokes) := hD
  refine lv_if_ne (tgt := 40) hx hb dX2_tiedPairs_25 (by decide) (fun c7 => ?_) (fun c7 => ?_)
  · have hf := hf.1 c7
    obtain ⟨z8, ez8⟩ : ∃ y : Int32, y = x3_3 + 1 := ⟨_, rfl⟩
    have hf := hf z8 ez8
    refine lv_iinc (v := z8) (lv' := [(3, .int z8), (0, .ref (a 0)), (1, .int x1_3), (2, .int x2_1)]) hx hb dX2_tiedPairs_40 hl (k := 3) rfl (by rw [ez8]; rfl) (by decide) rfl (fun ls hl => ?_)
    refine lv_goto (tgt := 14) hx hb dX2_tiedPairs_43 (by decide) ?_
    obtain ⟨m9, hm9, hi9⟩ := hf
    exact ih3 m9 (x1_3, z8) hm9 hi9 _ _ _ hP hD hS (lv_sub hl [1, 2, 3, 0] rfl)
  have hf := hf.2 c7
  refine lv_aload_n hx hb dX2_tiedPairs_28 rfl (lv_at hl 0 rfl) ?_
  refine lv_iload_n hx hb dX2_tiedPairs_29 rfl (lv_at hl 3 rfl) ?_
  refine lv_iload_n hx hb dX2_tiedPairs_30 rfl (lv_at hl 2 rfl) ?_
  refine cvi (As := [.int x3_3, .int x2_1]) (rest := []) (wr := []) (wn := (fun u => (sgX2 k a v_windows v_dials v_clocks v_kind v_hands v_rate v_spring v_window v_finish v_skies v_sky v_hour v_heard v_strokes))) ⟨hx, hb, hml, hown, hts⟩ (c_X2_isAhead l G k a x3_3 x2_1 v_windows v_dials v_clocks v_kind v_hands v_rate v_spring v_window v_finish v_skies v_sky v_hour v_heard v_strokes _ hf) (cwT 2 hts mw662 mw664 mw18 mw71 mw665 rfl hd_X2_isAhead ⟨Nat.le_of_ble_eq_true rfl, Nat.le_of_ble_eq_true rfl⟩) hK hP hD hS hX hA [0, 1, 2, 3, 4, 5, 6, 7, 8] [] [0, 1, 2, 3, 4, 5, 6, 7, 8] rfl rfl (by decide) (by decide) (by decide) (fun u => rfl) (by decide) rfl rfl rfl rfl hl.1 rfl (Nat.le_of_ble_eq_true rfl) dX2_tiedPairs_31 (Nat.zero_le _) (Nat.zero_le _) (fun r9 u H locs hf hP hD hS => ?_)
  have hP : va_P G vwCl (sgX2 k a v_windows v_dials v_clocks v_kind v_hands v_rate v_spring v_window v_finish v_skies v_sky v_hour v_heard v_strokes) H := hP
  have hD : va_D A (sgX2 k a v_windows v_dials v_clocks v_kind v_hands v_rate v_spring v_window v_finish v_skies v_sky v_hour v_heard v_strokes) := hD
  refine lv_if_ne (tgt := 40) hx hb dX2_tiedPairs_34 (by decide) (fun c10 => ?_) (fun c10 => ?_)
  · have hf := hf.1 c10
    obtain ⟨z11, ez11⟩ : ∃ y : Int32, y = x3_3 + 1 := ⟨_, rfl⟩
    have hf := hf z11 ez11
    refine lv_iinc (v := z11) (lv' := [(3, .int z11), (0, .ref (a 0)), (1, .int x1_3), (2, .int x2_1)]) hx hb dX2_tiedPairs_40 hl (k := 3) rfl (by rw [ez11]; rfl) (by decide) rfl (fun ls hl => ?_)
    refine lv_goto (tgt := 14) hx hb dX2_tiedPairs_43 (by decide) ?_
    obtain ⟨m9, hm9, hi9⟩ := hf
    exact ih3 m9 (x1_3, z11) hm9 hi9 _ _ _ hP hD hS (lv_sub hl [1, 2, 3, 0] rfl)
  have hf := hf.2 c10
  obtain ⟨z12, ez12⟩ : ∃ y : Int32, y = x1_3 + 1 := ⟨_, rfl⟩
  have hf := hf z12 ez12
  refine lv_iinc (v := z12) (lv' := [(1, .int z12), (0, .ref (a 0)), (2, .int x2_1), (3, .int x3_3)]) hx hb dX2_tiedPairs_37 hl (k := 1) rfl (by rw [ez12]; rfl) (by decide) rfl (fun ls hl => ?_)
  obtain ⟨z13, ez13⟩ : ∃ y : Int32, y = x3_3 + 1 := ⟨_, rfl⟩
  have hf := hf z13 ez13
  refine lv_iinc (v := z13) (lv' := [(3, .int z13), (1, .int z12), (0, .ref (a 0)), (2, .int x2_1)]) hx hb dX2_tiedPairs_40 hl (k := 3) rfl (by rw [ez13]; rfl) (by decide) rfl (fun ls hl => ?_)
  refine lv_goto (tgt := 14) hx hb dX2_tiedPairs_43 (by decide) ?_
  obtain ⟨m9, hm9, hi9⟩ := hf
  exact ih3 m9 (z12, z13) hm9 hi9 _ _ _ hP hD hS (lv_sub hl [2, 1, 3, 0] rfl)
