set_option maxHeartbeats 4000000 in
set_option maxRecDepth 100000 in
theorem ci_X2 (l : Launch) (G : va_G) (k : Nat → ClassId) (h0 : Nat) : MC (S := Unit) l G k yX2_init (Cond.code yX2_init cX2_init 2 none :: wT) 1 20 8 90 h0 ([(h0, .inr (2, [.int 0, .null, .int 0, .null, .null, .null, .null, .null, .null, .int 0, .null, .int 0, .int 0, .int 0]))]) (fun _ a => (sgX2 k a 8 (fl 12 (fun _ => 0) 24) 0 (fun _ => 0) (fun _ => 0) (fun _ => 0) (fun _ => 0) (fun _ => 0) (fun _ => 0) 1 (fun _ => 0) 0 0 0)) (fun _ => True) := by
  refine mc_start (cc := cX2_init) (maxL := 2) (by decide) (Nat.le_of_ble_eq_true rfl) ?_
  intro p e s m below meth c A ls hx hb hr hlk hml hown hin hts hK hP hD hA hS hX hl
  have hown : s.vm.findClass RX2 = some m.cls := hown
  have hin : meth.name = "<init>" := hin
  have hl : lv_has ls 2 [(0, .ref h0)] := hl
  refine lv_aload_n hx hb dX2_init_0 rfl (lv_at hl 0 rfl) ?_
  refine W.objInit hx hb hown (hts _ mw104) (hts _ mw91) (hts _ mw92) rfl (by rw [hml]; exact hl.1) rfl dX2_init_1 (Nat.le_of_ble_eq_true rfl) (Nat.le_of_ble_eq_true rfl) ?_
  refine W.eq (g2 := F0 m 4 ls []) rfl ?_
  refine lv_aload_n hx hb dX2_init_4 rfl (lv_at hl 0 rfl) ?_
  refine lv_bipush (v := 8) hx hb dX2_init_5 (by decide) ?_
  refine va_put (D := G) (ci := 2) (v := .int 8) (ty := .int) (C := RX2) (T := TX2) (N := 14) hx hb hts inX2 tyX2 tyX2_ok nmX2 hown hK hP hD hS 0 rfl rfl 0 (by decide) (hts _ mw105) (fun _ h9 => h9) rfl (by decide +kernel) rfl rfl (Nat.le_of_ble_eq_true rfl) dX2_init_7 (fun H locs hP hD hS => ?_)
  have hP : va_P G vwCl ([(h0, .inr (2, [.int 8, .null, .int 0, .null, .null, .null, .null, .null, .null, .int 0, .null, .int 0, .int 0, .int 0]))]) H := hP
  have hD : va_D A ([(h0, .inr (2, [.int 8, .null, .int 0, .null, .null, .null, .null, .null, .null, .int 0, .null, .int 0, .int 0, .int 0]))]) := hD
  refine lv_aload_n hx hb dX2_init_10 rfl (lv_at hl 0 rfl) ?_
  refine lv_bipush (v := 24) hx hb dX2_init_11 (by decide) ?_
  refine va_newa (atype := .int) (ty := .int) (N' := 24) (a0 := (24, .inl (fun _ => 0))) hx hb (hts _ mw166) rfl hK hP hD hS hA (fun _ => rfl) (by decide) rfl (by decide) (Nat.le_of_ble_eq_true rfl) (Nat.le_of_ble_eq_true rfl) dX2_init_13 (fun q1 cA H hK9 hP hD hS => ?_)
  obtain rfl := sm_I hK9
  have hP : va_P G vwCl ([(h0, .inr (2, [.int 8, .null, .int 0, .null, .null, .null, .null, .null, .null, .int 0, .null, .int 0, .int 0, .int 0])), (q1, .inl (k 0, 24, .inl (fun _ => 0)))]) H := hP
  have hD : va_D A ([(h0, .inr (2, [.int 8, .null, .int 0, .null, .null, .null, .null, .null, .null, .int 0, .null, .int 0, .int 0, .int 0])), (q1, .inl (k 0, 24, .inl (fun _ => 0)))]) := hD
  refine W.widen (k := 1) (n := 24) (Nat.le_of_ble_eq_true rfl) (Nat.le_of_ble_eq_true rfl) ?_
  refine va_putF (D := G) (ci := 2) (v := .ref q1) (ty := .array .int) (C := RX2) (T := TX2) (N := 14) hx hb hts inX2 tyX2 tyX2_ok nmX2 hown hK hP hD hS 0 rfl rfl 1 (by decide) (hts _ mw107) (fun _ h9 => h9) rfl hin rfl (by decide +kernel) rfl rfl (Nat.le_of_ble_eq_true rfl) dX2_init_15 (fun H locs hP hD hS => ?_)
  have hP : va_P G vwCl ([(h0, .inr (2, [.int 8, .ref q1, .int 0, .null, .null, .null, .null, .null, .null, .int 0, .null, .int 0, .int 0, .int 0])), (q1, .inl (k 0, 24, .inl (fun _ => 0)))]) H := hP
  have hD : va_D A ([(h0, .inr (2, [.int 8, .ref q1, .int 0, .null, .null, .null, .null, .null, .null, .int 0, .null, .int 0, .int 0, .int 0])), (q1, .inl (k 0, 24, .inl (fun _ => 0)))]) := hD
  refine lv_aload_n hx hb dX2_init_18 rfl (lv_at hl 0 rfl) ?_
  refine lv_iconst (v := 0) hx hb dX2_init_19 (by decide) ?_
  refine va_put (D := G) (ci := 2) (v := .int 0) (ty := .int) (C := RX2) (T := TX2) (N := 14) hx hb hts inX2 tyX2 tyX2_ok nmX2 hown hK hP hD hS 0 rfl rfl 2 (by decide) (hts _ mw110) (fun _ h9 => h9) rfl (by decide +kernel) rfl rfl (Nat.le_of_ble_eq_true rfl) dX2_init_20 (fun H locs hP hD hS => ?_)
  have hP : va_P G vwCl ([(h0, .inr (2, [.int 8, .ref q1, .int 0, .null, .null, .null, .null, .null, .null, .int 0, .null, .int 0, .int 0, .int 0])), (q1, .inl (k 0, 24, .inl (fun _ => 0)))]) H := hP
  have hD : va_D A ([(h0, .inr (2, [.int 8, .ref q1, .int 0, .null, .null, .null, .null, .null, .null, .int 0, .null, .int 0, .int 0, .int 0])), (q1, .inl (k 0, 24, .inl (fun _ => 0)))]) := hD
  refine lv_aload_n hx hb dX2_init_23 rfl (lv_at hl 0 rfl) ?_
  refine lv_bipush (v := 9) hx hb dX2_init_24 (by decide) ?_
  refine va_newa (atype := .int) (ty := .int) (N' := 9) (a0 := (9, .inl (fun _ => 0))) hx hb (hts _ mw166) rfl hK hP hD hS hA (fun _ => rfl) (by decide) rfl (by decide) (Nat.le_of_ble_eq_true rfl) (Nat.le_of_ble_eq_true rfl) dX2_init_26 (fun q2 cA H hK9 hP hD hS => ?_)
  obtain rfl := sm_I hK9
  have hP : va_P G vwCl ([(h0, .inr (2, [.int 8, .ref q1, .int 0, .null, .null, .null, .null, .null, .null, .int 0, .null, .int 0, .int 0, .int 0])), (q1, .inl (k 0, 24, .inl (fun _ => 0))), (q2, .inl (k 0, 9, .inl (fun _ => 0)))]) H := hP
  have hD : va_D A ([(h0, .inr (2, [.int 8, .ref q1, .int 0, .null, .null, .null, .null, .null, .null, .int 0, .null, .int 0, .int 0, .int 0])), (q1, .inl (k 0, 24, .inl (fun _ => 0))), (q2, .inl (k 0, 9, .inl (fun _ => 0)))]) := hD
  refine W.widen (k := 2) (n := 33) (Nat.le_of_ble_eq_true rfl) (Nat.le_of_ble_eq_true rfl) ?_
  refine va_putF (D := G) (ci := 2) (v := .ref q2) (ty := .array .int) (C := RX2) (T := TX2) (N := 14) hx hb hts inX2 tyX2 tyX2_ok nmX2 hown hK hP hD hS 0 rfl rfl 3 (by decide) (hts _ mw112) (fun _ h9 => h9) rfl hin rfl (by decide +kernel) rfl rfl (Nat.le_of_ble_eq_true rfl) dX2_init_28 (fun H locs hP hD hS => ?_)
  have hP : va_P G vwCl ([(h0, .inr (2, [.int 8, .ref q1, .int 0, .ref q2, .null, .null, .null, .null, .null, .int 0, .null, .int 0, .int 0, .int 0])), (q1, .inl (k 0, 24, .inl (fun _ => 0))), (q2, .inl (k 0, 9, .inl (fun _ => 0)))]) H := hP
  have hD : va_D A ([(h0, .inr (2, [.int 8, .ref q1, .int 0, .ref q2, .null, .null, .null, .null, .null, .int 0, .null, .int 0, .int 0, .int 0])), (q1, .inl (k 0, 24, .inl (fun _ => 0))), (q2, .inl (k 0, 9, .inl (fun _ => 0)))]) := hD
  refine lv_aload_n hx hb dX2_init_31 rfl (lv_at hl 0 rfl) ?_
  refine lv_bipush (v := 9) hx hb dX2_init_32 (by decide) ?_
  refine va_newa (atype := .int) (ty := .int) (N' := 9) (a0 := (9, .inl (fun _ => 0))) hx hb (hts _ mw166) rfl hK hP hD hS hA (fun _ => rfl) (by decide) rfl (by decide) (Nat.le_of_ble_eq_true rfl) (Nat.le_of_ble_eq_true rfl) dX2_init_34 (fun q3 cA H hK9 hP hD hS => ?_)
  obtain rfl := sm_I hK9
  have hP : va_P G vwCl ([(h0, .inr (2, [.int 8, .ref q1, .int 0, .ref q2, .null, .null, .null, .null, .null, .int 0, .null, .int 0, .int 0, .int 0])), (q1, .inl (k 0, 24, .inl (fun _ => 0))), (q2, .inl (k 0, 9, .inl (fun _ => 0))), (q3, .inl (k 0, 9, .inl (fun _ => 0)))]) H := hP
  have hD : va_D A ([(h0, .inr (2, [.int 8, .ref q1, .int 0, .ref q2, .null, .null, .null, .null, .null, .int 0, .null, .int 0, .int 0, .int 0])), (q1, .inl (k 0, 24, .inl (fun _ => 0))), (q2, .inl (k 0, 9, .inl (fun _ => 0))), (q3, .inl (k 0, 9, .inl (fun _ => 0)))]) := hD
  refine W.widen (k := 3) (n := 42) (Nat.le_of_ble_eq_true rfl) (Nat.le_of_ble_eq_true rfl) ?_
  refine va_putF (D := G) (ci := 2) (v := .ref q3) (ty := .array .int) (C := RX2) (T := TX2) (N := 14) hx hb hts inX2 tyX2 tyX2_ok nmX2 hown hK hP hD hS 0 rfl rfl 4 (by decide) (hts _ mw114) (fun _ h9 => h9) rfl hin rfl (by decide +kernel) rfl rfl (Nat.le_of_ble_eq_true rfl) dX2_init_36 (fun H locs hP hD hS => ?_)
  have hP : va_P G vwCl ([(h0, .inr (2, [.int 8, .ref q1, .int 0, .ref q2, .ref q3, .null, .null, .null, .null, .int 0, .null, .int 0, .int 0, .int 0])), (q1, .inl (k 0, 24, .inl (fun _ => 0))), (q2, .inl (k 0, 9, .inl (fun _ => 0))), (q3, .inl (k 0, 9, .inl (fun _ => 0)))]) H := hP
  have hD : va_D A ([(h0, .inr (2, [.int 8, .ref q1, .int 0, .ref q2, .ref q3, .null, .null, .null, .null, .int 0, .null, .int 0, .int 0, .int 0])), (q1, .inl (k 0, 24, .inl (fun _ => 0))), (q2, .inl (k 0, 9, .inl (fun _ => 0))), (q3, .inl (k 0, 9, .inl (fun _ => 0)))]) := hD
  refine lv_aload_n hx hb dX2_init_39 rfl (lv_at hl 0 rfl) ?_
  refine lv_bipush (v := 9) hx hb dX2_init_40 (by decide) ?_
  refine va_newa (atype := .int) (ty := .int) (N' := 9) (a0 := (9, .inl (fun _ => 0))) hx hb (hts _ mw166) rfl hK hP hD hS hA (fun _ => rfl) (by decide) rfl (by decide) (Nat.le_of_ble_eq_true rfl) (Nat.le_of_ble_eq_true rfl) dX2_init_42 (fun q4 cA H hK9 hP hD hS => ?_)
  obtain rfl := sm_I hK9
  have hP : va_P G vwCl ([(h0, .inr (2, [.int 8, .ref q1, .int 0, .ref q2, .ref q3, .null, .null, .null, .null, .int 0, .null, .int 0, .int 0, .int 0])), (q1, .inl (k 0, 24, .inl (fun _ => 0))), (q2, .inl (k 0, 9, .inl (fun _ => 0))), (q3, .inl (k 0, 9, .inl (fun _ => 0))), (q4, .inl (k 0, 9, .inl (fun _ => 0)))]) H := hP
  have hD : va_D A ([(h0, .inr (2, [.int 8, .ref q1, .int 0, .ref q2, .ref q3, .null, .null, .null, .null, .int 0, .null, .int 0, .int 0, .int 0])), (q1, .inl (k 0, 24, .inl (fun _ => 0))), (q2, .inl (k 0, 9, .inl (fun _ => 0))), (q3, .inl (k 0, 9, .inl (fun _ => 0))), (q4, .inl (k 0, 9, .inl (fun _ => 0)))]) := hD
  refine W.widen (k := 4) (n := 51) (Nat.le_of_ble_eq_true rfl) (Nat.le_of_ble_eq_true rfl) ?_
  refine va_putF (D := G) (ci := 2) (v := .ref q4) (ty := .array .int) (C := RX2) (T := TX2) (N := 14) hx hb hts inX2 tyX2 tyX2_ok nmX2 hown hK hP hD hS 0 rfl rfl 5 (by decide) (hts _ mw117) (fun _ h9 => h9) rfl hin rfl (by decide +kernel) rfl rfl (Nat.le_of_ble_eq_true rfl) dX2_init_44 (fun H locs hP hD hS => ?_)
  have hP : va_P G vwCl ([(h0, .inr (2, [.int 8, .ref q1, .int 0, .ref q2, .ref q3, .ref q4, .null, .null, .null, .int 0, .null, .int 0, .int 0, .int 0])), (q1, .inl (k 0, 24, .inl (fun _ => 0))), (q2, .inl (k 0, 9, .inl (fun _ => 0))), (q3, .inl (k 0, 9, .inl (fun _ => 0))), (q4, .inl (k 0, 9, .inl (fun _ => 0)))]) H := hP
  have hD : va_D A ([(h0, .inr (2, [.int 8, .ref q1, .int 0, .ref q2, .ref q3, .ref q4, .null, .null, .null, .int 0, .null, .int 0, .int 0, .int 0])), (q1, .inl (k 0, 24, .inl (fun _ => 0))), (q2, .inl (k 0, 9, .inl (fun _ => 0))), (q3, .inl (k 0, 9, .inl (fun _ => 0))), (q4, .inl (k 0, 9, .inl (fun _ => 0)))]) := hD
  refine lv_aload_n hx hb dX2_init_47 rfl (lv_at hl 0 rfl) ?_
  refine lv_bipush (v := 9) hx hb dX2_init_48 (by decide) ?_
  refine va_newa (atype := .int) (ty := .int) (N' := 9) (a0 := (9, .inl (fun _ => 0))) hx hb (hts _ mw166) rfl hK hP hD hS hA (fun _ => rfl) (by decide) rfl (by decide) (Nat.le_of_ble_eq_true rfl) (Nat.le_of_ble_eq_true rfl) dX2_init_50 (fun q5 cA H hK9 hP hD hS => ?_)
  obtain rfl := sm_I hK9
  have hP : va_P G vwCl ([(h0, .inr (2, [.int 8, .ref q1, .int 0, .ref q2, .ref q3, .ref q4, .null, .null, .null, .int 0, .null, .int 0, .int 0, .int 0])), (q1, .inl (k 0, 24, .inl (fun _ => 0))), (q2, .inl (k 0, 9, .inl (fun _ => 0))), (q3, .inl (k 0, 9, .inl (fun _ => 0))), (q4, .inl (k 0, 9, .inl (fun _ => 0))), (q5, .inl (k 0, 9, .inl (fun _ => 0)))]) H := hP
  have hD : va_D A ([(h0, .inr (2, [.int 8, .ref q1, .int 0, .ref q2, .ref q3, .ref q4, .null, .null, .null, .int 0, .null, .int 0, .int 0, .int 0])), (q1, .inl (k 0, 24, .inl (fun _ => 0))), (q2, .inl (k 0, 9, .inl (fun _ => 0))), (q3, .inl (k 0, 9, .inl (fun _ => 0))), (q4, .inl (k 0, 9, .inl (fun _ => 0))), (q5, .inl (k 0, 9, .inl (fun _ => 0)))]) := hD
  refine W.widen (k := 5) (n := 60) (Nat.le_of_ble_eq_true rfl) (Nat.le_of_ble_eq_true rfl) ?_
  refine va_putF (D := G) (ci := 2) (v := .ref q5) (ty := .array .int) (C := RX2) (T := TX2) (N := 14) hx hb hts inX2 tyX2 tyX2_ok nmX2 hown hK hP hD hS 0 rfl rfl 6 (by decide) (hts _ mw120) (fun _ h9 => h9) rfl hin rfl (by decide +kernel) rfl rfl (Nat.le_of_ble_eq_true rfl) dX2_init_52 (fun H locs hP hD hS => ?_)
  have hP : va_P G vwCl ([(h0, .inr (2, [.int 8, .ref q1, .int 0, .ref q2, .ref q3, .ref q4, .ref q5, .null, .null, .int 0, .null, .int 0, .int 0, .int 0])), (q1, .inl (k 0, 24, .inl (fun _ => 0))), (q2, .inl (k 0, 9, .inl (fun _ => 0))), (q3, .inl (k 0, 9, .inl (fun _ => 0))), (q4, .inl (k 0, 9, .inl (fun _ => 0))), (q5, .inl (k 0, 9, .inl (fun _ => 0)))]) H := hP
  have hD : va_D A ([(h0, .inr (2, [.int 8, .ref q1, .int 0, .ref q2, .ref q3, .ref q4, .ref q5, .null, .null, .int 0, .null, .int 0, .int 0, .int 0])), (q1, .inl (k 0, 24, .inl (fun _ => 0))), (q2, .inl (k 0, 9, .inl (fun _ => 0))), (q3, .inl (k 0, 9, .inl (fun _ => 0))), (q4, .inl (k 0, 9, .inl (fun _ => 0))), (q5, .inl (k 0, 9, .inl (fun _ => 0)))]) := hD
  refine lv_aload_n hx hb dX2_init_55 rfl (lv_at hl 0 rfl) ?_
  refine lv_bipush (v := 9) hx hb dX2_init_56 (by decide) ?_
  refine va_newa (atype := .int) (ty := .int) (N' := 9) (a0 := (9, .inl (fun _ => 0))) hx hb (hts _ mw166) rfl hK hP hD hS hA (fun _ => rfl) (by decide) rfl (by decide) (Nat.le_of_ble_eq_true rfl) (Nat.le_of_ble_eq_true rfl) dX2_init_58 (fun q6 cA H hK9 hP hD hS => ?_)
  obtain rfl := sm_I hK9
  have hP : va_P G vwCl ([(h0, .inr (2, [.int 8, .ref q1, .int 0, .ref q2, .ref q3, .ref q4, .ref q5, .null, .null, .int 0, .null, .int 0, .int 0, .int 0])), (q1, .inl (k 0, 24, .inl (fun _ => 0))), (q2, .inl (k 0, 9, .inl (fun _ => 0))), (q3, .inl (k 0, 9, .inl (fun _ => 0))), (q4, .inl (k 0, 9, .inl (fun _ => 0))), (q5, .inl (k 0, 9, .inl (fun _ => 0))), (q6, .inl (k 0, 9, .inl (fun _ => 0)))]) H := hP
  have hD : va_D A ([(h0, .inr (2, [.int 8, .ref q1, .int 0, .ref q2, .ref q3, .ref q4, .ref q5, .null, .null, .int 0, .null, .int 0, .int 0, .int 0])), (q1, .inl (k 0, 24, .inl (fun _ => 0))), (q2, .inl (k 0, 9, .inl (fun _ => 0))), (q3, .inl (k 0, 9, .inl (fun _ => 0))), (q4, .inl (k 0, 9, .inl (fun _ => 0))), (q5, .inl (k 0, 9, .inl (fun _ => 0))), (q6, .inl (k 0, 9, .inl (fun _ => 0)))]) := hD
  refine W.widen (k := 6) (n := 69) (Nat.le_of_ble_eq_true rfl) (Nat.le_of_ble_eq_true rfl) ?_
  refine va_putF (D := G) (ci := 2) (v := .ref q6) (ty := .array .int) (C := RX2) (T := TX2) (N := 14) hx hb hts inX2 tyX2 tyX2_ok nmX2 hown hK hP hD hS 0 rfl rfl 7 (by decide) (hts _ mw123) (fun _ h9 => h9) rfl hin rfl (by decide +kernel) rfl rfl (Nat.le_of_ble_eq_true rfl) dX2_init_60 (fun H locs hP hD hS => ?_)
  have hP : va_P G vwCl ([(h0, .inr (2, [.int 8, .ref q1, .int 0, .ref q2, .ref q3, .ref q4, .ref q5, .ref q6, .null, .int 0, .null, .int 0, .int 0, .int 0])), (q1, .inl (k 0, 24, .inl (fun _ => 0))), (q2, .inl (k 0, 9, .inl (fun _ => 0))), (q3, .inl (k 0, 9, .inl (fun _ => 0))), (q4, .inl (k 0, 9, .inl (fun _ => 0))), (q5, .inl (k 0, 9, .inl (fun _ => 0))), (q6, .inl (k 0, 9, .inl (fun _ => 0)))]) H := hP
  have hD : va_D A ([(h0, .inr (2, [.int 8, .ref q1, .int 0, .ref q2, .ref q3, .ref q4, .ref q5, .ref q6, .null, .int 0, .null, .int 0, .int 0, .int 0])), (q1, .inl (k 0, 24, .inl (fun _ => 0))), (q2, .inl (k 0, 9, .inl (fun _ => 0))), (q3, .inl (k 0, 9, .inl (fun _ => 0))), (q4, .inl (k 0, 9, .inl (fun _ => 0))), (q5, .inl (k 0, 9, .inl (fun _ => 0))), (q6, .inl (k 0, 9, .inl (fun _ => 0)))]) := hD
  refine lv_aload_n hx hb dX2_init_63 rfl (lv_at hl 0 rfl) ?_
  refine lv_bipush (v := 9) hx hb dX2_init_64 (by decide) ?_
  refine va_newa (atype := .int) (ty := .int) (N' := 9) (a0 := (9, .inl (fun _ => 0))) hx hb (hts _ mw166) rfl hK hP hD hS hA (fun _ => rfl) (by decide) rfl (by decide) (Nat.le_of_ble_eq_true rfl) (Nat.le_of_ble_eq_true rfl) dX2_init_66 (fun q7 cA H hK9 hP hD hS => ?_)
  obtain rfl := sm_I hK9
  have hP : va_P G vwCl ([(h0, .inr (2, [.int 8, .ref q1, .int 0, .ref q2, .ref q3, .ref q4, .ref q5, .ref q6, .null, .int 0, .null, .int 0, .int 0, .int 0])), (q1, .inl (k 0, 24, .inl (fun _ => 0))), (q2, .inl (k 0, 9, .inl (fun _ => 0))), (q3, .inl (k 0, 9, .inl (fun _ => 0))), (q4, .inl (k 0, 9, .inl (fun _ => 0))), (q5, .inl (k 0, 9, .inl (fun _ => 0))), (q6, .inl (k 0, 9, .inl (fun _ => 0))), (q7, .inl (k 0, 9, .inl (fun _ => 0)))]) H := hP
  have hD : va_D A ([(h0, .inr (2, [.int 8, .ref q1, .int 0, .ref q2, .ref q3, .ref q4, .ref q5, .ref q6, .null, .int 0, .null, .int 0, .int 0, .int 0])), (q1, .inl (k 0, 24, .inl (fun _ => 0))), (q2, .inl (k 0, 9, .inl (fun _ => 0))), (q3, .inl (k 0, 9, .inl (fun _ => 0))), (q4, .inl (k 0, 9, .inl (fun _ => 0))), (q5, .inl (k 0, 9, .inl (fun _ => 0))), (q6, .inl (k 0, 9, .inl (fun _ => 0))), (q7, .inl (k 0, 9, .inl (fun _ => 0)))]) := hD
  refine W.widen (k := 7) (n := 78) (Nat.le_of_ble_eq_true rfl) (Nat.le_of_ble_eq_true rfl) ?_
  refine va_putF (D := G) (ci := 2) (v := .ref q7) (ty := .array .int) (C := RX2) (T := TX2) (N := 14) hx hb hts inX2 tyX2 tyX2_ok nmX2 hown hK hP hD hS 0 rfl rfl 8 (by decide) (hts _ mw125) (fun _ h9 => h9) rfl hin rfl (by decide +kernel) rfl rfl (Nat.le_of_ble_eq_true rfl) dX2_init_68 (fun H locs hP hD hS => ?_)
  have hP : va_P G vwCl ([(h0, .inr (2, [.int 8, .ref q1, .int 0, .ref q2, .ref q3, .ref q4, .ref q5, .ref q6, .ref q7, .int 0, .null, .int 0, .int 0, .int 0])), (q1, .inl (k 0, 24, .inl (fun _ => 0))), (q2, .inl (k 0, 9, .inl (fun _ => 0))), (q3, .inl (k 0, 9, .inl (fun _ => 0))), (q4, .inl (k 0, 9, .inl (fun _ => 0))), (q5, .inl (k 0, 9, .inl (fun _ => 0))), (q6, .inl (k 0, 9, .inl (fun _ => 0))), (q7, .inl (k 0, 9, .inl (fun _ => 0)))]) H := hP
  have hD : va_D A ([(h0, .inr (2, [.int 8, .ref q1, .int 0, .ref q2, .ref q3, .ref q4, .ref q5, .ref q6, .ref q7, .int 0, .null, .int 0, .int 0, .int 0])), (q1, .inl (k 0, 24, .inl (fun _ => 0))), (q2, .inl (k 0, 9, .inl (fun _ => 0))), (q3, .inl (k 0, 9, .inl (fun _ => 0))), (q4, .inl (k 0, 9, .inl (fun _ => 0))), (q5, .inl (k 0, 9, .inl (fun _ => 0))), (q6, .inl (k 0, 9, .inl (fun _ => 0))), (q7, .inl (k 0, 9, .inl (fun _ => 0)))]) := hD
  refine lv_aload_n hx hb dX2_init_71 rfl (lv_at hl 0 rfl) ?_
  refine lv_iconst (v := 1) hx hb dX2_init_72 (by decide) ?_
  refine va_put (D := G) (ci := 2) (v := .int 1) (ty := .int) (C := RX2) (T := TX2) (N := 14) hx hb hts inX2 tyX2 tyX2_ok nmX2 hown hK hP hD hS 0 rfl rfl 9 (by decide) (hts _ mw127) (fun _ h9 => h9) rfl (by decide +kernel) rfl rfl (Nat.le_of_ble_eq_true rfl) dX2_init_73 (fun H locs hP hD hS => ?_)
  have hP : va_P G vwCl ([(h0, .inr (2, [.int 8, .ref q1, .int 0, .ref q2, .ref q3, .ref q4, .ref q5, .ref q6, .ref q7, .int 1, .null, .int 0, .int 0, .int 0])), (q1, .inl (k 0, 24, .inl (fun _ => 0))), (q2, .inl (k 0, 9, .inl (fun _ => 0))), (q3, .inl (k 0, 9, .inl (fun _ => 0))), (q4, .inl (k 0, 9, .inl (fun _ => 0))), (q5, .inl (k 0, 9, .inl (fun _ => 0))), (q6, .inl (k 0, 9, .inl (fun _ => 0))), (q7, .inl (k 0, 9, .inl (fun _ => 0)))]) H := hP
  have hD : va_D A ([(h0, .inr (2, [.int 8, .ref q1, .int 0, .ref q2, .ref q3, .ref q4, .ref q5, .ref q6, .ref q7, .int 1, .null, .int 0, .int 0, .int 0])), (q1, .inl (k 0, 24, .inl (fun _ => 0))), (q2, .inl (k 0, 9, .inl (fun _ => 0))), (q3, .inl (k 0, 9, .inl (fun _ => 0))), (q4, .inl (k 0, 9, .inl (fun _ => 0))), (q5, .inl (k 0, 9, .inl (fun _ => 0))), (q6, .inl (k 0, 9, .inl (fun _ => 0))), (q7, .inl (k 0, 9, .inl (fun _ => 0)))]) := hD
  refine lv_aload_n hx hb dX2_init_76 rfl (lv_at hl 0 rfl) ?_
  refine lv_bipush (v := 12) hx hb dX2_init_77 (by decide) ?_
  refine va_newa (atype := .int) (ty := .int) (N' := 12) (a0 := (12, .inl (fun _ => 0))) hx hb (hts _ mw166) rfl hK hP hD hS hA (fun _ => rfl) (by decide) rfl (by decide) (Nat.le_of_ble_eq_true rfl) (Nat.le_of_ble_eq_true rfl) dX2_init_79 (fun q8 cA H hK9 hP hD hS => ?_)
  obtain rfl := sm_I hK9
  have hP : va_P G vwCl ([(h0, .inr (2, [.int 8, .ref q1, .int 0, .ref q2, .ref q3, .ref q4, .ref q5, .ref q6, .ref q7, .int 1, .null, .int 0, .int 0, .int 0])), (q1, .inl (k 0, 24, .inl (fun _ => 0))), (q2, .inl (k 0, 9, .inl (fun _ => 0))), (q3, .inl (k 0, 9, .inl (fun _ => 0))), (q4, .inl (k 0, 9, .inl (fun _ => 0))), (q5, .inl (k 0, 9, .inl (fun _ => 0))), (q6, .inl (k 0, 9, .inl (fun _ => 0))), (q7, .inl (k 0, 9, .inl (fun _ => 0))), (q8, .inl (k 0, 12, .inl (fun _ => 0)))]) H := hP
  have hD : va_D A ([(h0, .inr (2, [.int 8, .ref q1, .int 0, .ref q2, .ref q3, .ref q4, .ref q5, .ref q6, .ref q7, .int 1, .null, .int 0, .int 0, .int 0])), (q1, .inl (k 0, 24, .inl (fun _ => 0))), (q2, .inl (k 0, 9, .inl (fun _ => 0))), (q3, .inl (k 0, 9, .inl (fun _ => 0))), (q4, .inl (k 0, 9, .inl (fun _ => 0))), (q5, .inl (k 0, 9, .inl (fun _ => 0))), (q6, .inl (k 0, 9, .inl (fun _ => 0))), (q7, .inl (k 0, 9, .inl (fun _ => 0))), (q8, .inl (k 0, 12, .inl (fun _ => 0)))]) := hD
  refine W.widen (k := 8) (n := 90) (Nat.le_of_ble_eq_true rfl) (Nat.le_of_ble_eq_true rfl) ?_
  refine va_putF (D := G) (ci := 2) (v := .ref q8) (ty := .array .int) (C := RX2) (T := TX2) (N := 14) hx hb hts inX2 tyX2 tyX2_ok nmX2 hown hK hP hD hS 0 rfl rfl 10 (by decide) (hts _ mw129) (fun _ h9 => h9) rfl hin rfl (by decide +kernel) rfl rfl (Nat.le_of_ble_eq_true rfl) dX2_init_81 (fun H locs hP hD hS => ?_)
  have hP : va_P G vwCl ([(h0, .inr (2, [.int 8, .ref q1, .int 0, .ref q2, .ref q3, .ref q4, .ref q5, .ref q6, .ref q7, .int 1, .ref q8, .int 0, .int 0, .int 0])), (q1, .inl (k 0, 24, .inl (fun _ => 0))), (q2, .inl (k 0, 9, .inl (fun _ => 0))), (q3, .inl (k 0, 9, .inl (fun _ => 0))), (q4, .inl (k 0, 9, .inl (fun _ => 0))), (q5, .inl (k 0, 9, .inl (fun _ => 0))), (q6, .inl (k 0, 9, .inl (fun _ => 0))), (q7, .inl (k 0, 9, .inl (fun _ => 0))), (q8, .inl (k 0, 12, .inl (fun _ => 0)))]) H := hP
  have hD : va_D A ([(h0, .inr (2, [.int 8, .ref q1, .int 0, .ref q2, .ref q3, .ref q4, .ref q5, .ref q6, .ref q7, .int 1, .ref q8, .int 0, .int 0, .int 0])), (q1, .inl (k 0, 24, .inl (fun _ => 0))), (q2, .inl (k 0, 9, .inl (fun _ => 0))), (q3, .inl (k 0, 9, .inl (fun _ => 0))), (q4, .inl (k 0, 9, .inl (fun _ => 0))), (q5, .inl (k 0, 9, .inl (fun _ => 0))), (q6, .inl (k 0, 9, .inl (fun _ => 0))), (q7, .inl (k 0, 9, .inl (fun _ => 0))), (q8, .inl (k 0, 12, .inl (fun _ => 0)))]) := hD
  refine lv_aload_n hx hb dX2_init_84 rfl (lv_at hl 0 rfl) ?_
  refine lv_iconst (v := 0) hx hb dX2_init_85 (by decide) ?_
  refine va_put (D := G) (ci := 2) (v := .int 0) (ty := .int) (C := RX2) (T := TX2) (N := 14) hx hb hts inX2 tyX2 tyX2_ok nmX2 hown hK hP hD hS 0 rfl rfl 11 (by decide) (hts _ mw131) (fun _ h9 => h9) rfl (by decide +kernel) rfl rfl (Nat.le_of_ble_eq_true rfl) dX2_init_86 (fun H locs hP hD hS => ?_)
  have hP : va_P G vwCl ([(h0, .inr (2, [.int 8, .ref q1, .int 0, .ref q2, .ref q3, .ref q4, .ref q5, .ref q6, .ref q7, .int 1, .ref q8, .int 0, .int 0, .int 0])), (q1, .inl (k 0, 24, .inl (fun _ => 0))), (q2, .inl (k 0, 9, .inl (fun _ => 0))), (q3, .inl (k 0, 9, .inl (fun _ => 0))), (q4, .inl (k 0, 9, .inl (fun _ => 0))), (q5, .inl (k 0, 9, .inl (fun _ => 0))), (q6, .inl (k 0, 9, .inl (fun _ => 0))), (q7, .inl (k 0, 9, .inl (fun _ => 0))), (q8, .inl (k 0, 12, .inl (fun _ => 0)))]) H := hP
  have hD : va_D A ([(h0, .inr (2, [.int 8, .ref q1, .int 0, .ref q2, .ref q3, .ref q4, .ref q5, .ref q6, .ref q7, .int 1, .ref q8, .int 0, .int 0, .int 0])), (q1, .inl (k 0, 24, .inl (fun _ => 0))), (q2, .inl (k 0, 9, .inl (fun _ => 0))), (q3, .inl (k 0, 9, .inl (fun _ => 0))), (q4, .inl (k 0, 9, .inl (fun _ => 0))), (q5, .inl (k 0, 9, .inl (fun _ => 0))), (q6, .inl (k 0, 9, .inl (fun _ => 0))), (q7, .inl (k 0, 9, .inl (fun _ => 0))), (q8, .inl (k 0, 12, .inl (fun _ => 0)))]) := hD
  refine lv_aload_n hx hb dX2_init_89 rfl (lv_at hl 0 rfl) ?_
  refine lv_iconst (v := 0) hx hb dX2_init_90 (by decide) ?_
  refine va_put (D := G) (ci := 2) (v := .int 0) (ty := .int) (C := RX2) (T := TX2) (N := 14) hx hb hts inX2 tyX2 tyX2_ok nmX2 hown hK hP hD hS 0 rfl rfl 12 (by decide) (hts _ mw133) (fun _ h9 => h9) rfl (by decide +kernel) rfl rfl (Nat.le_of_ble_eq_true rfl) dX2_init_91 (fun H locs hP hD hS => ?_)
  have hP : va_P G vwCl ([(h0, .inr (2, [.int 8, .ref q1, .int 0, .ref q2, .ref q3, .ref q4, .ref q5, .ref q6, .ref q7, .int 1, .ref q8, .int 0, .int 0, .int 0])), (q1, .inl (k 0, 24, .inl (fun _ => 0))), (q2, .inl (k 0, 9, .inl (fun _ => 0))), (q3, .inl (k 0, 9, .inl (fun _ => 0))), (q4, .inl (k 0, 9, .inl (fun _ => 0))), (q5, .inl (k 0, 9, .inl (fun _ => 0))), (q6, .inl (k 0, 9, .inl (fun _ => 0))), (q7, .inl (k 0, 9, .inl (fun _ => 0))), (q8, .inl (k 0, 12, .inl (fun _ => 0)))]) H := hP
  have hD : va_D A ([(h0, .inr (2, [.int 8, .ref q1, .int 0, .ref q2, .ref q3, .ref q4, .ref q5, .ref q6, .ref q7, .int 1, .ref q8, .int 0, .int 0, .int 0])), (q1, .inl (k 0, 24, .inl (fun _ => 0))), (q2, .inl (k 0, 9, .inl (fun _ => 0))), (q3, .inl (k 0, 9, .inl (fun _ => 0))), (q4, .inl (k 0, 9, .inl (fun _ => 0))), (q5, .inl (k 0, 9, .inl (fun _ => 0))), (q6, .inl (k 0, 9, .inl (fun _ => 0))), (q7, .inl (k 0, 9, .inl (fun _ => 0))), (q8, .inl (k 0, 12, .inl (fun _ => 0)))]) := hD
  refine lv_aload_n hx hb dX2_init_94 rfl (lv_at hl 0 rfl) ?_
  refine lv_iconst (v := 0) hx hb dX2_init_95 (by decide) ?_
  refine va_put (D := G) (ci := 2) (v := .int 0) (ty := .int) (C := RX2) (T := TX2) (N := 14) hx hb hts inX2 tyX2 tyX2_ok nmX2 hown hK hP hD hS 0 rfl rfl 13 (by decide) (hts _ mw135) (fun _ h9 => h9) rfl (by decide +kernel) rfl rfl (Nat.le_of_ble_eq_true rfl) dX2_init_96 (fun H locs hP hD hS => ?_)
  have hP : va_P G vwCl ([(h0, .inr (2, [.int 8, .ref q1, .int 0, .ref q2, .ref q3, .ref q4, .ref q5, .ref q6, .ref q7, .int 1, .ref q8, .int 0, .int 0, .int 0])), (q1, .inl (k 0, 24, .inl (fun _ => 0))), (q2, .inl (k 0, 9, .inl (fun _ => 0))), (q3, .inl (k 0, 9, .inl (fun _ => 0))), (q4, .inl (k 0, 9, .inl (fun _ => 0))), (q5, .inl (k 0, 9, .inl (fun _ => 0))), (q6, .inl (k 0, 9, .inl (fun _ => 0))), (q7, .inl (k 0, 9, .inl (fun _ => 0))), (q8, .inl (k 0, 12, .inl (fun _ => 0)))]) H := hP
  have hD : va_D A ([(h0, .inr (2, [.int 8, .ref q1, .int 0, .ref q2, .ref q3, .ref q4, .ref q5, .ref q6, .ref q7, .int 1, .ref q8, .int 0, .int 0, .int 0])), (q1, .inl (k 0, 24, .inl (fun _ => 0))), (q2, .inl (k 0, 9, .inl (fun _ => 0))), (q3, .inl (k 0, 9, .inl (fun _ => 0))), (q4, .inl (k 0, 9, .inl (fun _ => 0))), (q5, .inl (k 0, 9, .inl (fun _ => 0))), (q6, .inl (k 0, 9, .inl (fun _ => 0))), (q7, .inl (k 0, 9, .inl (fun _ => 0))), (q8, .inl (k 0, 12, .inl (fun _ => 0)))]) := hD
  refine lv_iconst (v := 0) hx hb dX2_init_99 (by decide) ?_
  refine lv_istore_n (lv' := [(1, .int 0), (0, .ref h0)]) hx hb dX2_init_100 rfl hl (by decide) rfl (fun ls hl => ?_)
  refine lv_iload_n hx hb dX2_init_101 rfl (lv_at hl 0 rfl) ?_
  refine lv_bipush (v := 24) hx hb dX2_init_102 (by decide) ?_
  refine lv_icmp_ge (tgt := 121) hx hb dX2_init_104 (by decide) (fun c9 => absurd c9 (by decide)) (fun _ => ?_)
  refine lv_aload_n hx hb dX2_init_107 rfl (lv_at hl 1 rfl) ?_
  refine va_get (D := G) (ci := 2) (v := .ref q1) (C := RX2) (T := TX2) (N := 14) hx hb hts inX2 hown hK hP 0 rfl rfl 1 (by decide) (hts _ mw107) (fun _ h9 => h9) rfl dX2_init_108 ?_
  refine lv_iload_n hx hb dX2_init_111 rfl (lv_at hl 0 rfl) ?_
  refine lv_bipush (v := 12) hx hb dX2_init_112 (by decide) ?_
  refine va_iast hx hb hK hP hD hS 1 0 rfl rfl (show vp_in 0 24 by unfold vp_in; decide) dX2_init_114 (fun H locs hP hD hS => ?_)
  have hP : va_P G vwCl ([(h0, .inr (2, [.int 8, .ref q1, .int 0, .ref q2, .ref q3, .ref q4, .ref q5, .ref q6, .ref q7, .int 1, .ref q8, .int 0, .int 0, .int 0])), (q1, .inl (k 0, 24, .inl (fl 12 (fun _ => 0) 1))), (q2, .inl (k 0, 9, .inl (fun _ => 0))), (q3, .inl (k 0, 9, .inl (fun _ => 0))), (q4, .inl (k 0, 9, .inl (fun _ => 0))), (q5, .inl (k 0, 9, .inl (fun _ => 0))), (q6, .inl (k 0, 9, .inl (fun _ => 0))), (q7, .inl (k 0, 9, .inl (fun _ => 0))), (q8, .inl (k 0, 12, .inl (fun _ => 0)))]) H := hP
  have hD : va_D A ([(h0, .inr (2, [.int 8, .ref q1, .int 0, .ref q2, .ref q3, .ref q4, .ref q5, .ref q6, .ref q7, .int 1, .ref q8, .int 0, .int 0, .int 0])), (q1, .inl (k 0, 24, .inl (fl 12 (fun _ => 0) 1))), (q2, .inl (k 0, 9, .inl (fun _ => 0))), (q3, .inl (k 0, 9, .inl (fun _ => 0))), (q4, .inl (k 0, 9, .inl (fun _ => 0))), (q5, .inl (k 0, 9, .inl (fun _ => 0))), (q6, .inl (k 0, 9, .inl (fun _ => 0))), (q7, .inl (k 0, 9, .inl (fun _ => 0))), (q8, .inl (k 0, 12, .inl (fun _ => 0)))]) := hD
  refine lv_iinc (v := 1) (lv' := [(1, .int 1), (0, .ref h0)]) hx hb dX2_init_115 hl (k := 0) rfl (by decide) (by decide) rfl (fun ls hl => ?_)
  refine lv_goto (tgt := 101) hx hb dX2_init_118 (by decide) ?_
  refine lv_iload_n hx hb dX2_init_101 rfl (lv_at hl 0 rfl) ?_
  refine lv_bipush (v := 24) hx hb dX2_init_102 (by decide) ?_
  refine lv_icmp_ge (tgt := 121) hx hb dX2_init_104 (by decide) (fun c9 => absurd c9 (by decide)) (fun _ => ?_)
  refine lv_aload_n hx hb dX2_init_107 rfl (lv_at hl 1 rfl) ?_
  refine va_get (D := G) (ci := 2) (v := .ref q1) (C := RX2) (T := TX2) (N := 14) hx hb hts inX2 hown hK hP 0 rfl rfl 1 (by decide) (hts _ mw107) (fun _ h9 => h9) rfl dX2_init_108 ?_
  refine lv_iload_n hx hb dX2_init_111 rfl (lv_at hl 0 rfl) ?_
  refine lv_bipush (v := 12) hx hb dX2_init_112 (by decide) ?_
  refine va_iast hx hb hK hP hD hS 1 0 rfl rfl (show vp_in 1 24 by unfold vp_in; decide) dX2_init_114 (fun H locs hP hD hS => ?_)
  have hP : va_P G vwCl ([(h0, .inr (2, [.int 8, .ref q1, .int 0, .ref q2, .ref q3, .ref q4, .ref q5, .ref q6, .ref q7, .int 1, .ref q8, .int 0, .int 0, .int 0])), (q1, .inl (k 0, 24, .inl (fl 12 (fun _ => 0) 2))), (q2, .inl (k 0, 9, .inl (fun _ => 0))), (q3, .inl (k 0, 9, .inl (fun _ => 0))), (q4, .inl (k 0, 9, .inl (fun _ => 0))), (q5, .inl (k 0, 9, .inl (fun _ => 0))), (q6, .inl (k 0, 9, .inl (fun _ => 0))), (q7, .inl (k 0, 9, .inl (fun _ => 0))), (q8, .inl (k 0, 12, .inl (fun _ => 0)))]) H := hP
  have hD : va_D A ([(h0, .inr (2, [.int 8, .ref q1, .int 0, .ref q2, .ref q3, .ref q4, .ref q5, .ref q6, .ref q7, .int 1, .ref q8, .int 0, .int 0, .int 0])), (q1, .inl (k 0, 24, .inl (fl 12 (fun _ => 0) 2))), (q2, .inl (k 0, 9, .inl (fun _ => 0))), (q3, .inl (k 0, 9, .inl (fun _ => 0))), (q4, .inl (k 0, 9, .inl (fun _ => 0))), (q5, .inl (k 0, 9, .inl (fun _ => 0))), (q6, .inl (k 0, 9, .inl (fun _ => 0))), (q7, .inl (k 0, 9, .inl (fun _ => 0))), (q8, .inl (k 0, 12, .inl (fun _ => 0)))]) := hD
  refine lv_iinc (v := 2) (lv' := [(1, .int 2), (0, .ref h0)]) hx hb dX2_init_115 hl (k := 0) rfl (by decide) (by decide) rfl (fun ls hl => ?_)
  refine lv_goto (tgt := 101) hx hb dX2_init_118 (by decide) ?_
  refine lv_iload_n hx hb dX2_init_101 rfl (lv_at hl 0 rfl) ?_
  refine lv_bipush (v := 24) hx hb dX2_init_102 (by decide) ?_
  refine lv_icmp_ge (tgt := 121) hx hb dX2_init_104 (by decide) (fun c9 => absurd c9 (by decide)) (fun _ => ?_)
  refine lv_aload_n hx hb dX2_init_107 rfl (lv_at hl 1 rfl) ?_
  refine va_get (D := G) (ci := 2) (v := .ref q1) (C := RX2) (T := TX2) (N := 14) hx hb hts inX2 hown hK hP 0 rfl rfl 1 (by decide) (hts _ mw107) (fun _ h9 => h9) rfl dX2_init_108 ?_
  refine lv_iload_n hx hb dX2_init_111 rfl (lv_at hl 0 rfl) ?_
  refine lv_bipush (v := 12) hx hb dX2_init_112 (by decide) ?_
  refine va_iast hx hb hK hP hD hS 1 0 rfl rfl (show vp_in 2 24 by unfold vp_in; decide) dX2_init_114 (fun H locs hP hD hS => ?_)
  have hP : va_P G vwCl ([(h0, .inr (2, [.int 8, .ref q1, .int 0, .ref q2, .ref q3, .ref q4, .ref q5, .ref q6, .ref q7, .int 1, .ref q8, .int 0, .int 0, .int 0])), (q1, .inl (k 0, 24, .inl (fl 12 (fun _ => 0) 3))), (q2, .inl (k 0, 9, .inl (fun _ => 0))), (q3, .inl (k 0, 9, .inl (fun _ => 0))), (q4, .inl (k 0, 9, .inl (fun _ => 0))), (q5, .inl (k 0, 9, .inl (fun _ => 0))), (q6, .inl (k 0, 9, .inl (fun _ => 0))), (q7, .inl (k 0, 9, .inl (fun _ => 0))), (q8, .inl (k 0, 12, .inl (fun _ => 0)))]) H := hP
  have hD : va_D A ([(h0, .inr (2, [.int 8, .ref q1, .int 0, .ref q2, .ref q3, .ref q4, .ref q5, .ref q6, .ref q7, .int 1, .ref q8, .int 0, .int 0, .int 0])), (q1, .inl (k 0, 24, .inl (fl 12 (fun _ => 0) 3))), (q2, .inl (k 0, 9, .inl (fun _ => 0))), (q3, .inl (k 0, 9, .inl (fun _ => 0))), (q4, .inl (k 0, 9, .inl (fun _ => 0))), (q5, .inl (k 0, 9, .inl (fun _ => 0))), (q6, .inl (k 0, 9, .inl (fun _ => 0))), (q7, .inl (k 0, 9, .inl (fun _ => 0))), (q8, .inl (k 0, 12, .inl (fun _ => 0)))]) := hD
  refine lv_iinc (v := 3) (lv' := [(1, .int 3), (0, .ref h0)]) hx hb dX2_init_115 hl (k := 0) rfl (by decide) (by decide) rfl (fun ls hl => ?_)
  refine lv_goto (tgt := 101) hx hb dX2_init_118 (by decide) ?_
  refine lv_iload_n hx hb dX2_init_101 rfl (lv_at hl 0 rfl) ?_
  refine lv_bipush (v := 24) hx hb dX2_init_102 (by decide) ?_
  refine lv_icmp_ge (tgt := 121) hx hb dX2_init_104 (by decide) (fun c9 => absurd c9 (by decide)) (fun _ => ?_)
  refine lv_aload_n hx hb dX2_init_107 rfl (lv_at hl 1 rfl) ?_
  refine va_get (D := G) (ci := 2) (v := .ref q1) (C := RX2) (T := TX2) (N := 14) hx hb hts inX2 hown hK hP 0 rfl rfl 1 (by decide) (hts _ mw107) (fun _ h9 => h9) rfl dX2_init_108 ?_
  refine lv_iload_n hx hb dX2_init_111 rfl (lv_at hl 0 rfl) ?_
  refine lv_bipush (v := 12) hx hb dX2_init_112 (by decide) ?_
  refine va_iast hx hb hK hP hD hS 1 0 rfl rfl (show vp_in 3 24 by unfold vp_in; decide) dX2_init_114 (fun H locs hP hD hS => ?_)
  have hP : va_P G vwCl ([(h0, .inr (2, [.int 8, .ref q1, .int 0, .ref q2, .ref q3, .ref q4, .ref q5, .ref q6, .ref q7, .int 1, .ref q8, .int 0, .int 0, .int 0])), (q1, .inl (k 0, 24, .inl (fl 12 (fun _ => 0) 4))), (q2, .inl (k 0, 9, .inl (fun _ => 0))), (q3, .inl (k 0, 9, .inl (fun _ => 0))), (q4, .inl (k 0, 9, .inl (fun _ => 0))), (q5, .inl (k 0, 9, .inl (fun _ => 0))), (q6, .inl (k 0, 9, .inl (fun _ => 0))), (q7, .inl (k 0, 9, .inl (fun _ => 0))), (q8, .inl (k 0, 12, .inl (fun _ => 0)))]) H := hP
  have hD : va_D A ([(h0, .inr (2, [.int 8, .ref q1, .int 0, .ref q2, .ref q3, .ref q4, .ref q5, .ref q6, .ref q7, .int 1, .ref q8, .int 0, .int 0, .int 0])), (q1, .inl (k 0, 24, .inl (fl 12 (fun _ => 0) 4))), (q2, .inl (k 0, 9, .inl (fun _ => 0))), (q3, .inl (k 0, 9, .inl (fun _ => 0))), (q4, .inl (k 0, 9, .inl (fun _ => 0))), (q5, .inl (k 0, 9, .inl (fun _ => 0))), (q6, .inl (k 0, 9, .inl (fun _ => 0))), (q7, .inl (k 0, 9, .inl (fun _ => 0))), (q8, .inl (k 0, 12, .inl (fun _ => 0)))]) := hD
  refine lv_iinc (v := 4) (lv' := [(1, .int 4), (0, .ref h0)]) hx hb dX2_init_115 hl (k := 0) rfl (by decide) (by decide) rfl (fun ls hl => ?_)
  refine lv_goto (tgt := 101) hx hb dX2_init_118 (by decide) ?_
  refine lv_iload_n hx hb dX2_init_101 rfl (lv_at hl 0 rfl) ?_
  refine lv_bipush (v := 24) hx hb dX2_init_102 (by decide) ?_
  refine lv_icmp_ge (tgt := 121) hx hb dX2_init_104 (by decide) (fun c9 => absurd c9 (by decide)) (fun _ => ?_)
  refine lv_aload_n hx hb dX2_init_107 rfl (lv_at hl 1 rfl) ?_
  refine va_get (D := G) (ci := 2) (v := .ref q1) (C := RX2) (T := TX2) (N := 14) hx hb hts inX2 hown hK hP 0 rfl rfl 1 (by decide) (hts _ mw107) (fun _ h9 => h9) rfl dX2_init_108 ?_
  refine lv_iload_n hx hb dX2_init_111 rfl (lv_at hl 0 rfl) ?_
  refine lv_bipush (v := 12) hx hb dX2_init_112 (by decide) ?_
  refine va_iast hx hb hK hP hD hS 1 0 rfl rfl (show vp_in 4 24 by unfold vp_in; decide) dX2_init_114 (fun H locs hP hD hS => ?_)
  have hP : va_P G vwCl ([(h0, .inr (2, [.int 8, .ref q1, .int 0, .ref q2, .ref q3, .ref q4, .ref q5, .ref q6, .ref q7, .int 1, .ref q8, .int 0, .int 0, .int 0])), (q1, .inl (k 0, 24, .inl (fl 12 (fun _ => 0) 5))), (q2, .inl (k 0, 9, .inl (fun _ => 0))), (q3, .inl (k 0, 9, .inl (fun _ => 0))), (q4, .inl (k 0, 9, .inl (fun _ => 0))), (q5, .inl (k 0, 9, .inl (fun _ => 0))), (q6, .inl (k 0, 9, .inl (fun _ => 0))), (q7, .inl (k 0, 9, .inl (fun _ => 0))), (q8, .inl (k 0, 12, .inl (fun _ => 0)))]) H := hP
  have hD : va_D A ([(h0, .inr (2, [.int 8, .ref q1, .int 0, .ref q2, .ref q3, .ref q4, .ref q5, .ref q6, .ref q7, .int 1, .ref q8, .int 0, .int 0, .int 0])), (q1, .inl (k 0, 24, .inl (fl 12 (fun _ => 0) 5))), (q2, .inl (k 0, 9, .inl (fun _ => 0))), (q3, .inl (k 0, 9, .inl (fun _ => 0))), (q4, .inl (k 0, 9, .inl (fun _ => 0))), (q5, .inl (k 0, 9, .inl (fun _ => 0))), (q6, .inl (k 0, 9, .inl (fun _ => 0))), (q7, .inl (k 0, 9, .inl (fun _ => 0))), (q8, .inl (k 0, 12, .inl (fun _ => 0)))]) := hD
  refine lv_iinc (v := 5) (lv' := [(1, .int 5), (0, .ref h0)]) hx hb dX2_init_115 hl (k := 0) rfl (by decide) (by decide) rfl (fun ls hl => ?_)
  refine lv_goto (tgt := 101) hx hb dX2_init_118 (by decide) ?_
  refine lv_iload_n hx hb dX2_init_101 rfl (lv_at hl 0 rfl) ?_
  refine lv_bipush (v := 24) hx hb dX2_init_102 (by decide) ?_
  refine lv_icmp_ge (tgt := 121) hx hb dX2_init_104 (by decide) (fun c9 => absurd c9 (by decide)) (fun _ => ?_)
  refine lv_aload_n hx hb dX2_init_107 rfl (lv_at hl 1 rfl) ?_
  refine va_get (D := G) (ci := 2) (v := .ref q1) (C := RX2) (T := TX2) (N := 14) hx hb hts inX2 hown hK hP 0 rfl rfl 1 (by decide) (hts _ mw107) (fun _ h9 => h9) rfl dX2_init_108 ?_
  refine lv_iload_n hx hb dX2_init_111 rfl (lv_at hl 0 rfl) ?_
  refine lv_bipush (v := 12) hx hb dX2_init_112 (by decide) ?_
  refine va_iast hx hb hK hP hD hS 1 0 rfl rfl (show vp_in 5 24 by unfold vp_in; decide) dX2_init_114 (fun H locs hP hD hS => ?_)
  have hP : va_P G vwCl ([(h0, .inr (2, [.int 8, .ref q1, .int 0, .ref q2, .ref q3, .ref q4, .ref q5, .ref q6, .ref q7, .int 1, .ref q8, .int 0, .int 0, .int 0])), (q1, .inl (k 0, 24, .inl (fl 12 (fun _ => 0) 6))), (q2, .inl (k 0, 9, .inl (fun _ => 0))), (q3, .inl (k 0, 9, .inl (fun _ => 0))), (q4, .inl (k 0, 9, .inl (fun _ => 0))), (q5, .inl (k 0, 9, .inl (fun _ => 0))), (q6, .inl (k 0, 9, .inl (fun _ => 0))), (q7, .inl (k 0, 9, .inl (fun _ => 0))), (q8, .inl (k 0, 12, .inl (fun _ => 0)))]) H := hP
  have hD : va_D A ([(h0, .inr (2, [.int 8, .ref q1, .int 0, .ref q2, .ref q3, .ref q4, .ref q5, .ref q6, .ref q7, .int 1, .ref q8, .int 0, .int 0, .int 0])), (q1, .inl (k 0, 24, .inl (fl 12 (fun _ => 0) 6))), (q2, .inl (k 0, 9, .inl (fun _ => 0))), (q3, .inl (k 0, 9, .inl (fun _ => 0))), (q4, .inl (k 0, 9, .inl (fun _ => 0))), (q5, .inl (k 0, 9, .inl (fun _ => 0))), (q6, .inl (k 0, 9, .inl (fun _ => 0))), (q7, .inl (k 0, 9, .inl (fun _ => 0))), (q8, .inl (k 0, 12, .inl (fun _ => 0)))]) := hD
  refine lv_iinc (v := 6) (lv' := [(1, .int 6), (0, .ref h0)]) hx hb dX2_init_115 hl (k := 0) rfl (by decide) (by decide) rfl (fun ls hl => ?_)
  refine lv_goto (tgt := 101) hx hb dX2_init_118 (by decide) ?_
  refine lv_iload_n hx hb dX2_init_101 rfl (lv_at hl 0 rfl) ?_
  refine lv_bipush (v := 24) hx hb dX2_init_102 (by decide) ?_
  refine lv_icmp_ge (tgt := 121) hx hb dX2_init_104 (by decide) (fun c9 => absurd c9 (by decide)) (fun _ => ?_)
  refine lv_aload_n hx hb dX2_init_107 rfl (lv_at hl 1 rfl) ?_
  refine va_get (D := G) (ci := 2) (v := .ref q1) (C := RX2) (T := TX2) (N := 14) hx hb hts inX2 hown hK hP 0 rfl rfl 1 (by decide) (hts _ mw107) (fun _ h9 => h9) rfl dX2_init_108 ?_
  refine lv_iload_n hx hb dX2_init_111 rfl (lv_at hl 0 rfl) ?_
  refine lv_bipush (v := 12) hx hb dX2_init_112 (by decide) ?_
  refine va_iast hx hb hK hP hD hS 1 0 rfl rfl (show vp_in 6 24 by unfold vp_in; decide) dX2_init_114 (fun H locs hP hD hS => ?_)
  have hP : va_P G vwCl ([(h0, .inr (2, [.int 8, .ref q1, .int 0, .ref q2, .ref q3, .ref q4, .ref q5, .ref q6, .ref q7, .int 1, .ref q8, .int 0, .int 0, .int 0])), (q1, .inl (k 0, 24, .inl (fl 12 (fun _ => 0) 7))), (q2, .inl (k 0, 9, .inl (fun _ => 0))), (q3, .inl (k 0, 9, .inl (fun _ => 0))), (q4, .inl (k 0, 9, .inl (fun _ => 0))), (q5, .inl (k 0, 9, .inl (fun _ => 0))), (q6, .inl (k 0, 9, .inl (fun _ => 0))), (q7, .inl (k 0, 9, .inl (fun _ => 0))), (q8, .inl (k 0, 12, .inl (fun _ => 0)))]) H := hP
  have hD : va_D A ([(h0, .inr (2, [.int 8, .ref q1, .int 0, .ref q2, .ref q3, .ref q4, .ref q5, .ref q6, .ref q7, .int 1, .ref q8, .int 0, .int 0, .int 0])), (q1, .inl (k 0, 24, .inl (fl 12 (fun _ => 0) 7))), (q2, .inl (k 0, 9, .inl (fun _ => 0))), (q3, .inl (k 0, 9, .inl (fun _ => 0))), (q4, .inl (k 0, 9, .inl (fun _ => 0))), (q5, .inl (k 0, 9, .inl (fun _ => 0))), (q6, .inl (k 0, 9, .inl (fun _ => 0))), (q7, .inl (k 0, 9, .inl (fun _ => 0))), (q8, .inl (k 0, 12, .inl (fun _ => 0)))]) := hD
  refine lv_iinc (v := 7) (lv' := [(1, .int 7), (0, .ref h0)]) hx hb dX2_init_115 hl (k := 0) rfl (by decide) (by decide) rfl (fun ls hl => ?_)
  refine lv_goto (tgt := 101) hx hb dX2_init_118 (by decide) ?_
  refine lv_iload_n hx hb dX2_init_101 rfl (lv_at hl 0 rfl) ?_
  refine lv_bipush (v := 24) hx hb dX2_init_102 (by decide) ?_
  refine lv_icmp_ge (tgt := 121) hx hb dX2_init_104 (by decide) (fun c9 => absurd c9 (by decide)) (fun _ => ?_)
  refine lv_aload_n hx hb dX2_init_107 rfl (lv_at hl 1 rfl) ?_
  refine va_get (D := G) (ci := 2) (v := .ref q1) (C := RX2) (T := TX2) (N := 14) hx hb hts inX2 hown hK hP 0 rfl rfl 1 (by decide) (hts _ mw107) (fun _ h9 => h9) rfl dX2_init_108 ?_
  refine lv_iload_n hx hb dX2_init_111 rfl (lv_at hl 0 rfl) ?_
  refine lv_bipush (v := 12) hx hb dX2_init_112 (by decide) ?_
  refine va_iast hx hb hK hP hD hS 1 0 rfl rfl (show vp_in 7 24 by unfold vp_in; decide) dX2_init_114 (fun H locs hP hD hS => ?_)
  have hP : va_P G vwCl ([(h0, .inr (2, [.int 8, .ref q1, .int 0, .ref q2, .ref q3, .ref q4, .ref q5, .ref q6, .ref q7, .int 1, .ref q8, .int 0, .int 0, .int 0])), (q1, .inl (k 0, 24, .inl (fl 12 (fun _ => 0) 8))), (q2, .inl (k 0, 9, .inl (fun _ => 0))), (q3, .inl (k 0, 9, .inl (fun _ => 0))), (q4, .inl (k 0, 9, .inl (fun _ => 0))), (q5, .inl (k 0, 9, .inl (fun _ => 0))), (q6, .inl (k 0, 9, .inl (fun _ => 0))), (q7, .inl (k 0, 9, .inl (fun _ => 0))), (q8, .inl (k 0, 12, .inl (fun _ => 0)))]) H := hP
  have hD : va_D A ([(h0, .inr (2, [.int 8, .ref q1, .int 0, .ref q2, .ref q3, .ref q4, .ref q5, .ref q6, .ref q7, .int 1, .ref q8, .int 0, .int 0, .int 0])), (q1, .inl (k 0, 24, .inl (fl 12 (fun _ => 0) 8))), (q2, .inl (k 0, 9, .inl (fun _ => 0))), (q3, .inl (k 0, 9, .inl (fun _ => 0))), (q4, .inl (k 0, 9, .inl (fun _ => 0))), (q5, .inl (k 0, 9, .inl (fun _ => 0))), (q6, .inl (k 0, 9, .inl (fun _ => 0))), (q7, .inl (k 0, 9, .inl (fun _ => 0))), (q8, .inl (k 0, 12, .inl (fun _ => 0)))]) := hD
  refine lv_iinc (v := 8) (lv' := [(1, .int 8), (0, .ref h0)]) hx hb dX2_init_115 hl (k := 0) rfl (by decide) (by decide) rfl (fun ls hl => ?_)
  refine lv_goto (tgt := 101) hx hb dX2_init_118 (by decide) ?_
  refine lv_iload_n hx hb dX2_init_101 rfl (lv_at hl 0 rfl) ?_
  refine lv_bipush (v := 24) hx hb dX2_init_102 (by decide) ?_
  refine lv_icmp_ge (tgt := 121) hx hb dX2_init_104 (by decide) (fun c9 => absurd c9 (by decide)) (fun _ => ?_)
  refine lv_aload_n hx hb dX2_init_107 rfl (lv_at hl 1 rfl) ?_
  refine va_get (D := G) (ci := 2) (v := .ref q1) (C := RX2) (T := TX2) (N := 14) hx hb hts inX2 hown hK hP 0 rfl rfl 1 (by decide) (hts _ mw107) (fun _ h9 => h9) rfl dX2_init_108 ?_
  refine lv_iload_n hx hb dX2_init_111 rfl (lv_at hl 0 rfl) ?_
  refine lv_bipush (v := 12) hx hb dX2_init_112 (by decide) ?_
  refine va_iast hx hb hK hP hD hS 1 0 rfl rfl (show vp_in 8 24 by unfold vp_in; decide) dX2_init_114 (fun H locs hP hD hS => ?_)
  have hP : va_P G vwCl ([(h0, .inr (2, [.int 8, .ref q1, .int 0, .ref q2, .ref q3, .ref q4, .ref q5, .ref q6, .ref q7, .int 1, .ref q8, .int 0, .int 0, .int 0])), (q1, .inl (k 0, 24, .inl (fl 12 (fun _ => 0) 9))), (q2, .inl (k 0, 9, .inl (fun _ => 0))), (q3, .inl (k 0, 9, .inl (fun _ => 0))), (q4, .inl (k 0, 9, .inl (fun _ => 0))), (q5, .inl (k 0, 9, .inl (fun _ => 0))), (q6, .inl (k 0, 9, .inl (fun _ => 0))), (q7, .inl (k 0, 9, .inl (fun _ => 0))), (q8, .inl (k 0, 12, .inl (fun _ => 0)))]) H := hP
  have hD : va_D A ([(h0, .inr (2, [.int 8, .ref q1, .int 0, .ref q2, .ref q3, .ref q4, .ref q5, .ref q6, .ref q7, .int 1, .ref q8, .int 0, .int 0, .int 0])), (q1, .inl (k 0, 24, .inl (fl 12 (fun _ => 0) 9))), (q2, .inl (k 0, 9, .inl (fun _ => 0))), (q3, .inl (k 0, 9, .inl (fun _ => 0))), (q4, .inl (k 0, 9, .inl (fun _ => 0))), (q5, .inl (k 0, 9, .inl (fun _ => 0))), (q6, .inl (k 0, 9, .inl (fun _ => 0))), (q7, .inl (k 0, 9, .inl (fun _ => 0))), (q8, .inl (k 0, 12, .inl (fun _ => 0)))]) := hD
  refine lv_iinc (v := 9) (lv' := [(1, .int 9), (0, .ref h0)]) hx hb dX2_init_115 hl (k := 0) rfl (by decide) (by decide) rfl (fun ls hl => ?_)
  refine lv_goto (tgt := 101) hx hb dX2_init_118 (by decide) ?_
  refine lv_iload_n hx hb dX2_init_101 rfl (lv_at hl 0 rfl) ?_
  refine lv_bipush (v := 24) hx hb dX2_init_102 (by decide) ?_
  refine lv_icmp_ge (tgt := 121) hx hb dX2_init_104 (by decide) (fun c9 => absurd c9 (by decide)) (fun _ => ?_)
  refine lv_aload_n hx hb dX2_init_107 rfl (lv_at hl 1 rfl) ?_
  refine va_get (D := G) (ci := 2) (v := .ref q1) (C := RX2) (T := TX2) (N := 14) hx hb hts inX2 hown hK hP 0 rfl rfl 1 (by decide) (hts _ mw107) (fun _ h9 => h9) rfl dX2_init_108 ?_
  refine lv_iload_n hx hb dX2_init_111 rfl (lv_at hl 0 rfl) ?_
  refine lv_bipush (v := 12) hx hb dX2_init_112 (by decide) ?_
  refine va_iast hx hb hK hP hD hS 1 0 rfl rfl (show vp_in 9 24 by unfold vp_in; decide) dX2_init_114 (fun H locs hP hD hS => ?_)
  have hP : va_P G vwCl ([(h0, .inr (2, [.int 8, .ref q1, .int 0, .ref q2, .ref q3, .ref q4, .ref q5, .ref q6, .ref q7, .int 1, .ref q8, .int 0, .int 0, .int 0])), (q1, .inl (k 0, 24, .inl (fl 12 (fun _ => 0) 10))), (q2, .inl (k 0, 9, .inl (fun _ => 0))), (q3, .inl (k 0, 9, .inl (fun _ => 0))), (q4, .inl (k 0, 9, .inl (fun _ => 0))), (q5, .inl (k 0, 9, .inl (fun _ => 0))), (q6, .inl (k 0, 9, .inl (fun _ => 0))), (q7, .inl (k 0, 9, .inl (fun _ => 0))), (q8, .inl (k 0, 12, .inl (fun _ => 0)))]) H := hP
  have hD : va_D A ([(h0, .inr (2, [.int 8, .ref q1, .int 0, .ref q2, .ref q3, .ref q4, .ref q5, .ref q6, .ref q7, .int 1, .ref q8, .int 0, .int 0, .int 0])), (q1, .inl (k 0, 24, .inl (fl 12 (fun _ => 0) 10))), (q2, .inl (k 0, 9, .inl (fun _ => 0))), (q3, .inl (k 0, 9, .inl (fun _ => 0))), (q4, .inl (k 0, 9, .inl (fun _ => 0))), (q5, .inl (k 0, 9, .inl (fun _ => 0))), (q6, .inl (k 0, 9, .inl (fun _ => 0))), (q7, .inl (k 0, 9, .inl (fun _ => 0))), (q8, .inl (k 0, 12, .inl (fun _ => 0)))]) := hD
  refine lv_iinc (v := 10) (lv' := [(1, .int 10), (0, .ref h0)]) hx hb dX2_init_115 hl (k := 0) rfl (by decide) (by decide) rfl (fun ls hl => ?_)
  refine lv_goto (tgt := 101) hx hb dX2_init_118 (by decide) ?_
  refine lv_iload_n hx hb dX2_init_101 rfl (lv_at hl 0 rfl) ?_
  refine lv_bipush (v := 24) hx hb dX2_init_102 (by decide) ?_
  refine lv_icmp_ge (tgt := 121) hx hb dX2_init_104 (by decide) (fun c9 => absurd c9 (by decide)) (fun _ => ?_)
  refine lv_aload_n hx hb dX2_init_107 rfl (lv_at hl 1 rfl) ?_
  refine va_get (D := G) (ci := 2) (v := .ref q1) (C := RX2) (T := TX2) (N := 14) hx hb hts inX2 hown hK hP 0 rfl rfl 1 (by decide) (hts _ mw107) (fun _ h9 => h9) rfl dX2_init_108 ?_
  refine lv_iload_n hx hb dX2_init_111 rfl (lv_at hl 0 rfl) ?_
  refine lv_bipush (v := 12) hx hb dX2_init_112 (by decide) ?_
  refine va_iast hx hb hK hP hD hS 1 0 rfl rfl (show vp_in 10 24 by unfold vp_in; decide) dX2_init_114 (fun H locs hP hD hS => ?_)
  have hP : va_P G vwCl ([(h0, .inr (2, [.int 8, .ref q1, .int 0, .ref q2, .ref q3, .ref q4, .ref q5, .ref q6, .ref q7, .int 1, .ref q8, .int 0, .int 0, .int 0])), (q1, .inl (k 0, 24, .inl (fl 12 (fun _ => 0) 11))), (q2, .inl (k 0, 9, .inl (fun _ => 0))), (q3, .inl (k 0, 9, .inl (fun _ => 0))), (q4, .inl (k 0, 9, .inl (fun _ => 0))), (q5, .inl (k 0, 9, .inl (fun _ => 0))), (q6, .inl (k 0, 9, .inl (fun _ => 0))), (q7, .inl (k 0, 9, .inl (fun _ => 0))), (q8, .inl (k 0, 12, .inl (fun _ => 0)))]) H := hP
  have hD : va_D A ([(h0, .inr (2, [.int 8, .ref q1, .int 0, .ref q2, .ref q3, .ref q4, .ref q5, .ref q6, .ref q7, .int 1, .ref q8, .int 0, .int 0, .int 0])), (q1, .inl (k 0, 24, .inl (fl 12 (fun _ => 0) 11))), (q2, .inl (k 0, 9, .inl (fun _ => 0))), (q3, .inl (k 0, 9, .inl (fun _ => 0))), (q4, .inl (k 0, 9, .inl (fun _ => 0))), (q5, .inl (k 0, 9, .inl (fun _ => 0))), (q6, .inl (k 0, 9, .inl (fun _ => 0))), (q7, .inl (k 0, 9, .inl (fun _ => 0))), (q8, .inl (k 0, 12, .inl (fun _ => 0)))]) := hD
  refine lv_iinc (v := 11) (lv' := [(1, .int 11), (0, .ref h0)]) hx hb dX2_init_115 hl (k := 0) rfl (by decide) (by decide) rfl (fun ls hl => ?_)
  refine lv_goto (tgt := 101) hx hb dX2_init_118 (by decide) ?_
  refine lv_iload_n hx hb dX2_init_101 rfl (lv_at hl 0 rfl) ?_
  refine lv_bipush (v := 24) hx hb dX2_init_102 (by decide) ?_
  refine lv_icmp_ge (tgt := 121) hx hb dX2_init_104 (by decide) (fun c9 => absurd c9 (by decide)) (fun _ => ?_)
  refine lv_aload_n hx hb dX2_init_107 rfl (lv_at hl 1 rfl) ?_
  refine va_get (D := G) (ci := 2) (v := .ref q1) (C := RX2) (T := TX2) (N := 14) hx hb hts inX2 hown hK hP 0 rfl rfl 1 (by decide) (hts _ mw107) (fun _ h9 => h9) rfl dX2_init_108 ?_
  refine lv_iload_n hx hb dX2_init_111 rfl (lv_at hl 0 rfl) ?_
  refine lv_bipush (v := 12) hx hb dX2_init_112 (by decide) ?_
  refine va_iast hx hb hK hP hD hS 1 0 rfl rfl (show vp_in 11 24 by unfold vp_in; decide) dX2_init_114 (fun H locs hP hD hS => ?_)
  have hP : va_P G vwCl ([(h0, .inr (2, [.int 8, .ref q1, .int 0, .ref q2, .ref q3, .ref q4, .ref q5, .ref q6, .ref q7, .int 1, .ref q8, .int 0, .int 0, .int 0])), (q1, .inl (k 0, 24, .inl (fl 12 (fun _ => 0) 12))), (q2, .inl (k 0, 9, .inl (fun _ => 0))), (q3, .inl (k 0, 9, .inl (fun _ => 0))), (q4, .inl (k 0, 9, .inl (fun _ => 0))), (q5, .inl (k 0, 9, .inl (fun _ => 0))), (q6, .inl (k 0, 9, .inl (fun _ => 0))), (q7, .inl (k 0, 9, .inl (fun _ => 0))), (q8, .inl (k 0, 12, .inl (fun _ => 0)))]) H := hP
  have hD : va_D A ([(h0, .inr (2, [.int 8, .ref q1, .int 0, .ref q2, .ref q3, .ref q4, .ref q5, .ref q6, .ref q7, .int 1, .ref q8, .int 0, .int 0, .int 0])), (q1, .inl (k 0, 24, .inl (fl 12 (fun _ => 0) 12))), (q2, .inl (k 0, 9, .inl (fun _ => 0))), (q3, .inl (k 0, 9, .inl (fun _ => 0))), (q4, .inl (k 0, 9, .inl (fun _ => 0))), (q5, .inl (k 0, 9, .inl (fun _ => 0))), (q6, .inl (k 0, 9, .inl (fun _ => 0))), (q7, .inl (k 0, 9, .inl (fun _ => 0))), (q8, .inl (k 0, 12, .inl (fun _ => 0)))]) := hD
  refine lv_iinc (v := 12) (lv' := [(1, .int 12), (0, .ref h0)]) hx hb dX2_init_115 hl (k := 0) rfl (by decide) (by decide) rfl (fun ls hl => ?_)
  refine lv_goto (tgt := 101) hx hb dX2_init_118 (by decide) ?_
  refine lv_iload_n hx hb dX2_init_101 rfl (lv_at hl 0 rfl) ?_
  refine lv_bipush (v := 24) hx hb dX2_init_102 (by decide) ?_
  refine lv_icmp_ge (tgt := 121) hx hb dX2_init_104 (by decide) (fun c9 => absurd c9 (by decide)) (fun _ => ?_)
  refine lv_aload_n hx hb dX2_init_107 rfl (lv_at hl 1 rfl) ?_
  refine va_get (D := G) (ci := 2) (v := .ref q1) (C := RX2) (T := TX2) (N := 14) hx hb hts inX2 hown hK hP 0 rfl rfl 1 (by decide) (hts _ mw107) (fun _ h9 => h9) rfl dX2_init_108 ?_
  refine lv_iload_n hx hb dX2_init_111 rfl (lv_at hl 0 rfl) ?_
  refine lv_bipush (v := 12) hx hb dX2_init_112 (by decide) ?_
  refine va_iast hx hb hK hP hD hS 1 0 rfl rfl (show vp_in 12 24 by unfold vp_in; decide) dX2_init_114 (fun H locs hP hD hS => ?_)
  have hP : va_P G vwCl ([(h0, .inr (2, [.int 8, .ref q1, .int 0, .ref q2, .ref q3, .ref q4, .ref q5, .ref q6, .ref q7, .int 1, .ref q8, .int 0, .int 0, .int 0])), (q1, .inl (k 0, 24, .inl (fl 12 (fun _ => 0) 13))), (q2, .inl (k 0, 9, .inl (fun _ => 0))), (q3, .inl (k 0, 9, .inl (fun _ => 0))), (q4, .inl (k 0, 9, .inl (fun _ => 0))), (q5, .inl (k 0, 9, .inl (fun _ => 0))), (q6, .inl (k 0, 9, .inl (fun _ => 0))), (q7, .inl (k 0, 9, .inl (fun _ => 0))), (q8, .inl (k 0, 12, .inl (fun _ => 0)))]) H := hP
  have hD : va_D A ([(h0, .inr (2, [.int 8, .ref q1, .int 0, .ref q2, .ref q3, .ref q4, .ref q5, .ref q6, .ref q7, .int 1, .ref q8, .int 0, .int 0, .int 0])), (q1, .inl (k 0, 24, .inl (fl 12 (fun _ => 0) 13))), (q2, .inl (k 0, 9, .inl (fun _ => 0))), (q3, .inl (k 0, 9, .inl (fun _ => 0))), (q4, .inl (k 0, 9, .inl (fun _ => 0))), (q5, .inl (k 0, 9, .inl (fun _ => 0))), (q6, .inl (k 0, 9, .inl (fun _ => 0))), (q7, .inl (k 0, 9, .inl (fun _ => 0))), (q8, .inl (k 0, 12, .inl (fun _ => 0)))]) := hD
  refine lv_iinc (v := 13) (lv' := [(1, .int 13), (0, .ref h0)]) hx hb dX2_init_115 hl (k := 0) rfl (by decide) (by decide) rfl (fun ls hl => ?_)
  refine lv_goto (tgt := 101) hx hb dX2_init_118 (by decide) ?_
  refine lv_iload_n hx hb dX2_init_101 rfl (lv_at hl 0 rfl) ?_
  refine lv_bipush (v := 24) hx hb dX2_init_102 (by decide) ?_
  refine lv_icmp_ge (tgt := 121) hx hb dX2_init_104 (by decide) (fun c9 => absurd c9 (by decide)) (fun _ => ?_)
  refine lv_aload_n hx hb dX2_init_107 rfl (lv_at hl 1 rfl) ?_
  refine va_get (D := G) (ci := 2) (v := .ref q1) (C := RX2) (T := TX2) (N := 14) hx hb hts inX2 hown hK hP 0 rfl rfl 1 (by decide) (hts _ mw107) (fun _ h9 => h9) rfl dX2_init_108 ?_
  refine lv_iload_n hx hb dX2_init_111 rfl (lv_at hl 0 rfl) ?_
  refine lv_bipush (v := 12) hx hb dX2_init_112 (by decide) ?_
  refine va_iast hx hb hK hP hD hS 1 0 rfl rfl (show vp_in 13 24 by unfold vp_in; decide) dX2_init_114 (fun H locs hP hD hS => ?_)
  have hP : va_P G vwCl ([(h0, .inr (2, [.int 8, .ref q1, .int 0, .ref q2, .ref q3, .ref q4, .ref q5, .ref q6, .ref q7, .int 1, .ref q8, .int 0, .int 0, .int 0])), (q1, .inl (k 0, 24, .inl (fl 12 (fun _ => 0) 14))), (q2, .inl (k 0, 9, .inl (fun _ => 0))), (q3, .inl (k 0, 9, .inl (fun _ => 0))), (q4, .inl (k 0, 9, .inl (fun _ => 0))), (q5, .inl (k 0, 9, .inl (fun _ => 0))), (q6, .inl (k 0, 9, .inl (fun _ => 0))), (q7, .inl (k 0, 9, .inl (fun _ => 0))), (q8, .inl (k 0, 12, .inl (fun _ => 0)))]) H := hP
  have hD : va_D A ([(h0, .inr (2, [.int 8, .ref q1, .int 0, .ref q2, .ref q3, .ref q4, .ref q5, .ref q6, .ref q7, .int 1, .ref q8, .int 0, .int 0, .int 0])), (q1, .inl (k 0, 24, .inl (fl 12 (fun _ => 0) 14))), (q2, .inl (k 0, 9, .inl (fun _ => 0))), (q3, .inl (k 0, 9, .inl (fun _ => 0))), (q4, .inl (k 0, 9, .inl (fun _ => 0))), (q5, .inl (k 0, 9, .inl (fun _ => 0))), (q6, .inl (k 0, 9, .inl (fun _ => 0))), (q7, .inl (k 0, 9, .inl (fun _ => 0))), (q8, .inl (k 0, 12, .inl (fun _ => 0)))]) := hD
  refine lv_iinc (v := 14) (lv' := [(1, .int 14), (0, .ref h0)]) hx hb dX2_init_115 hl (k := 0) rfl (by decide) (by decide) rfl (fun ls hl => ?_)
  refine lv_goto (tgt := 101) hx hb dX2_init_118 (by decide) ?_
  refine lv_iload_n hx hb dX2_init_101 rfl (lv_at hl 0 rfl) ?_
  refine lv_bipush (v := 24) hx hb dX2_init_102 (by decide) ?_
  refine lv_icmp_ge (tgt := 121) hx hb dX2_init_104 (by decide) (fun c9 => absurd c9 (by decide)) (fun _ => ?_)
  refine lv_aload_n hx hb dX2_init_107 rfl (lv_at hl 1 rfl) ?_
  refine va_get (D := G) (ci := 2) (v := .ref q1) (C := RX2) (T := TX2) (N := 14) hx hb hts inX2 hown hK hP 0 rfl rfl 1 (by decide) (hts _ mw107) (fun _ h9 => h9) rfl dX2_init_108 ?_
  refine lv_iload_n hx hb dX2_init_111 rfl (lv_at hl 0 rfl) ?_
  refine lv_bipush (v := 12) hx hb dX2_init_112 (by decide) ?_
  refine va_iast hx hb hK hP hD hS 1 0 rfl rfl (show vp_in 14 24 by unfold vp_in; decide) dX2_init_114 (fun H locs hP hD hS => ?_)
  have hP : va_P G vwCl ([(h0, .inr (2, [.int 8, .ref q1, .int 0, .ref q2, .ref q3, .ref q4, .ref q5, .ref q6, .ref q7, .int 1, .ref q8, .int 0, .int 0, .int 0])), (q1, .inl (k 0, 24, .inl (fl 12 (fun _ => 0) 15))), (q2, .inl (k 0, 9, .inl (fun _ => 0))), (q3, .inl (k 0, 9, .inl (fun _ => 0))), (q4, .inl (k 0, 9, .inl (fun _ => 0))), (q5, .inl (k 0, 9, .inl (fun _ => 0))), (q6, .inl (k 0, 9, .inl (fun _ => 0))), (q7, .inl (k 0, 9, .inl (fun _ => 0))), (q8, .inl (k 0, 12, .inl (fun _ => 0)))]) H := hP
  have hD : va_D A ([(h0, .inr (2, [.int 8, .ref q1, .int 0, .ref q2, .ref q3, .ref q4, .ref q5, .ref q6, .ref q7, .int 1, .ref q8, .int 0, .int 0, .int 0])), (q1, .inl (k 0, 24, .inl (fl 12 (fun _ => 0) 15))), (q2, .inl (k 0, 9, .inl (fun _ => 0))), (q3, .inl (k 0, 9, .inl (fun _ => 0))), (q4, .inl (k 0, 9, .inl (fun _ => 0))), (q5, .inl (k 0, 9, .inl (fun _ => 0))), (q6, .inl (k 0, 9, .inl (fun _ => 0))), (q7, .inl (k 0, 9, .inl (fun _ => 0))), (q8, .inl (k 0, 12, .inl (fun _ => 0)))]) := hD
  refine lv_iinc (v := 15) (lv' := [(1, .int 15), (0, .ref h0)]) hx hb dX2_init_115 hl (k := 0) rfl (by decide) (by decide) rfl (fun ls hl => ?_)
  refine lv_goto (tgt := 101) hx hb dX2_init_118 (by decide) ?_
  refine lv_iload_n hx hb dX2_init_101 rfl (lv_at hl 0 rfl) ?_
  refine lv_bipush (v := 24) hx hb dX2_init_102 (by decide) ?_
  refine lv_icmp_ge (tgt := 121) hx hb dX2_init_104 (by decide) (fun c9 => absurd c9 (by decide)) (fun _ => ?_)
  refine lv_aload_n hx hb dX2_init_107 rfl (lv_at hl 1 rfl) ?_
  refine va_get (D := G) (ci := 2) (v := .ref q1) (C := RX2) (T := TX2) (N := 14) hx hb hts inX2 hown hK hP 0 rfl rfl 1 (by decide) (hts _ mw107) (fun _ h9 => h9) rfl dX2_init_108 ?_
  refine lv_iload_n hx hb dX2_init_111 rfl (lv_at hl 0 rfl) ?_
  refine lv_bipush (v := 12) hx hb dX2_init_112 (by decide) ?_
  refine va_iast hx hb hK hP hD hS 1 0 rfl rfl (show vp_in 15 24 by unfold vp_in; decide) dX2_init_114 (fun H locs hP hD hS => ?_)
  have hP : va_P G vwCl ([(h0, .inr (2, [.int 8, .ref q1, .int 0, .ref q2, .ref q3, .ref q4, .ref q5, .ref q6, .ref q7, .int 1, .ref q8, .int 0, .int 0, .int 0])), (q1, .inl (k 0, 24, .inl (fl 12 (fun _ => 0) 16))), (q2, .inl (k 0, 9, .inl (fun _ => 0))), (q3, .inl (k 0, 9, .inl (fun _ => 0))), (q4, .inl (k 0, 9, .inl (fun _ => 0))), (q5, .inl (k 0, 9, .inl (fun _ => 0))), (q6, .inl (k 0, 9, .inl (fun _ => 0))), (q7, .inl (k 0, 9, .inl (fun _ => 0))), (q8, .inl (k 0, 12, .inl (fun _ => 0)))]) H := hP
  have hD : va_D A ([(h0, .inr (2, [.int 8, .ref q1, .int 0, .ref q2, .ref q3, .ref q4, .ref q5, .ref q6, .ref q7, .int 1, .ref q8, .int 0, .int 0, .int 0])), (q1, .inl (k 0, 24, .inl (fl 12 (fun _ => 0) 16))), (q2, .inl (k 0, 9, .inl (fun _ => 0))), (q3, .inl (k 0, 9, .inl (fun _ => 0))), (q4, .inl (k 0, 9, .inl (fun _ => 0))), (q5, .inl (k 0, 9, .inl (fun _ => 0))), (q6, .inl (k 0, 9, .inl (fun _ => 0))), (q7, .inl (k 0, 9, .inl (fun _ => 0))), (q8, .inl (k 0, 12, .inl (fun _ => 0)))]) := hD
  refine lv_iinc (v := 16) (lv' := [(1, .int 16), (0, .ref h0)]) hx hb dX2_init_115 hl (k := 0) rfl (by decide) (by decide) rfl (fun ls hl => ?_)
  refine lv_goto (tgt := 101) hx hb dX2_init_118 (by decide) ?_
  refine lv_iload_n hx hb dX2_init_101 rfl (lv_at hl 0 rfl) ?_
  refine lv_bipush (v := 24) hx hb dX2_init_102 (by decide) ?_
  refine lv_icmp_ge (tgt := 121) hx hb dX2_init_104 (by decide) (fun c9 => absurd c9 (by decide)) (fun _ => ?_)
  refine lv_aload_n hx hb dX2_init_107 rfl (lv_at hl 1 rfl) ?_
  refine va_get (D := G) (ci := 2) (v := .ref q1) (C := RX2) (T := TX2) (N := 14) hx hb hts inX2 hown hK hP 0 rfl rfl 1 (by decide) (hts _ mw107) (fun _ h9 => h9) rfl dX2_init_108 ?_
  refine lv_iload_n hx hb dX2_init_111 rfl (lv_at hl 0 rfl) ?_
  refine lv_bipush (v := 12) hx hb dX2_init_112 (by decide) ?_
  refine va_iast hx hb hK hP hD hS 1 0 rfl rfl (show vp_in 16 24 by unfold vp_in; decide) dX2_init_114 (fun H locs hP hD hS => ?_)
  have hP : va_P G vwCl ([(h0, .inr (2, [.int 8, .ref q1, .int 0, .ref q2, .ref q3, .ref q4, .ref q5, .ref q6, .ref q7, .int 1, .ref q8, .int 0, .int 0, .int 0])), (q1, .inl (k 0, 24, .inl (fl 12 (fun _ => 0) 17))), (q2, .inl (k 0, 9, .inl (fun _ => 0))), (q3, .inl (k 0, 9, .inl (fun _ => 0))), (q4, .inl (k 0, 9, .inl (fun _ => 0))), (q5, .inl (k 0, 9, .inl (fun _ => 0))), (q6, .inl (k 0, 9, .inl (fun _ => 0))), (q7, .inl (k 0, 9, .inl (fun _ => 0))), (q8, .inl (k 0, 12, .inl (fun _ => 0)))]) H := hP
  have hD : va_D A ([(h0, .inr (2, [.int 8, .ref q1, .int 0, .ref q2, .ref q3, .ref q4, .ref q5, .ref q6, .ref q7, .int 1, .ref q8, .int 0, .int 0, .int 0])), (q1, .inl (k 0, 24, .inl (fl 12 (fun _ => 0) 17))), (q2, .inl (k 0, 9, .inl (fun _ => 0))), (q3, .inl (k 0, 9, .inl (fun _ => 0))), (q4, .inl (k 0, 9, .inl (fun _ => 0))), (q5, .inl (k 0, 9, .inl (fun _ => 0))), (q6, .inl (k 0, 9, .inl (fun _ => 0))), (q7, .inl (k 0, 9, .inl (fun _ => 0))), (q8, .inl (k 0, 12, .inl (fun _ => 0)))]) := hD
  refine lv_iinc (v := 17) (lv' := [(1, .int 17), (0, .ref h0)]) hx hb dX2_init_115 hl (k := 0) rfl (by decide) (by decide) rfl (fun ls hl => ?_)
  refine lv_goto (tgt := 101) hx hb dX2_init_118 (by decide) ?_
  refine lv_iload_n hx hb dX2_init_101 rfl (lv_at hl 0 rfl) ?_
  refine lv_bipush (v := 24) hx hb dX2_init_102 (by decide) ?_
  refine lv_icmp_ge (tgt := 121) hx hb dX2_init_104 (by decide) (fun c9 => absurd c9 (by decide)) (fun _ => ?_)
  refine lv_aload_n hx hb dX2_init_107 rfl (lv_at hl 1 rfl) ?_
  refine va_get (D := G) (ci := 2) (v := .ref q1) (C := RX2) (T := TX2) (N := 14) hx hb hts inX2 hown hK hP 0 rfl rfl 1 (by decide) (hts _ mw107) (fun _ h9 => h9) rfl dX2_init_108 ?_
  refine lv_iload_n hx hb dX2_init_111 rfl (lv_at hl 0 rfl) ?_
  refine lv_bipush (v := 12) hx hb dX2_init_112 (by decide) ?_
  refine va_iast hx hb hK hP hD hS 1 0 rfl rfl (show vp_in 17 24 by unfold vp_in; decide) dX2_init_114 (fun H locs hP hD hS => ?_)
  have hP : va_P G vwCl ([(h0, .inr (2, [.int 8, .ref q1, .int 0, .ref q2, .ref q3, .ref q4, .ref q5, .ref q6, .ref q7, .int 1, .ref q8, .int 0, .int 0, .int 0])), (q1, .inl (k 0, 24, .inl (fl 12 (fun _ => 0) 18))), (q2, .inl (k 0, 9, .inl (fun _ => 0))), (q3, .inl (k 0, 9, .inl (fun _ => 0))), (q4, .inl (k 0, 9, .inl (fun _ => 0))), (q5, .inl (k 0, 9, .inl (fun _ => 0))), (q6, .inl (k 0, 9, .inl (fun _ => 0))), (q7, .inl (k 0, 9, .inl (fun _ => 0))), (q8, .inl (k 0, 12, .inl (fun _ => 0)))]) H := hP
  have hD : va_D A ([(h0, .inr (2, [.int 8, .ref q1, .int 0, .ref q2, .ref q3, .ref q4, .ref q5, .ref q6, .ref q7, .int 1, .ref q8, .int 0, .int 0, .int 0])), (q1, .inl (k 0, 24, .inl (fl 12 (fun _ => 0) 18))), (q2, .inl (k 0, 9, .inl (fun _ => 0))), (q3, .inl (k 0, 9, .inl (fun _ => 0))), (q4, .inl (k 0, 9, .inl (fun _ => 0))), (q5, .inl (k 0, 9, .inl (fun _ => 0))), (q6, .inl (k 0, 9, .inl (fun _ => 0))), (q7, .inl (k 0, 9, .inl (fun _ => 0))), (q8, .inl (k 0, 12, .inl (fun _ => 0)))]) := hD
  refine lv_iinc (v := 18) (lv' := [(1, .int 18), (0, .ref h0)]) hx hb dX2_init_115 hl (k := 0) rfl (by decide) (by decide) rfl (fun ls hl => ?_)
  refine lv_goto (tgt := 101) hx hb dX2_init_118 (by decide) ?_
  refine lv_iload_n hx hb dX2_init_101 rfl (lv_at hl 0 rfl) ?_
  refine lv_bipush (v := 24) hx hb dX2_init_102 (by decide) ?_
  refine lv_icmp_ge (tgt := 121) hx hb dX2_init_104 (by decide) (fun c9 => absurd c9 (by decide)) (fun _ => ?_)
  refine lv_aload_n hx hb dX2_init_107 rfl (lv_at hl 1 rfl) ?_
  refine va_get (D := G) (ci := 2) (v := .ref q1) (C := RX2) (T := TX2) (N := 14) hx hb hts inX2 hown hK hP 0 rfl rfl 1 (by decide) (hts _ mw107) (fun _ h9 => h9) rfl dX2_init_108 ?_
  refine lv_iload_n hx hb dX2_init_111 rfl (lv_at hl 0 rfl) ?_
  refine lv_bipush (v := 12) hx hb dX2_init_112 (by decide) ?_
  refine va_iast hx hb hK hP hD hS 1 0 rfl rfl (show vp_in 18 24 by unfold vp_in; decide) dX2_init_114 (fun H locs hP hD hS => ?_)
  have hP : va_P G vwCl ([(h0, .inr (2, [.int 8, .ref q1, .int 0, .ref q2, .ref q3, .ref q4, .ref q5, .ref q6, .ref q7, .int 1, .ref q8, .int 0, .int 0, .int 0])), (q1, .inl (k 0, 24, .inl (fl 12 (fun _ => 0) 19))), (q2, .inl (k 0, 9, .inl (fun _ => 0))), (q3, .inl (k 0, 9, .inl (fun _ => 0))), (q4, .inl (k 0, 9, .inl (fun _ => 0))), (q5, .inl (k 0, 9, .inl (fun _ => 0))), (q6, .inl (k 0, 9, .inl (fun _ => 0))), (q7, .inl (k 0, 9, .inl (fun _ => 0))), (q8, .inl (k 0, 12, .inl (fun _ => 0)))]) H := hP
  have hD : va_D A ([(h0, .inr (2, [.int 8, .ref q1, .int 0, .ref q2, .ref q3, .ref q4, .ref q5, .ref q6, .ref q7, .int 1, .ref q8, .int 0, .int 0, .int 0])), (q1, .inl (k 0, 24, .inl (fl 12 (fun _ => 0) 19))), (q2, .inl (k 0, 9, .inl (fun _ => 0))), (q3, .inl (k 0, 9, .inl (fun _ => 0))), (q4, .inl (k 0, 9, .inl (fun _ => 0))), (q5, .inl (k 0, 9, .inl (fun _ => 0))), (q6, .inl (k 0, 9, .inl (fun _ => 0))), (q7, .inl (k 0, 9, .inl (fun _ => 0))), (q8, .inl (k 0, 12, .inl (fun _ => 0)))]) := hD
  refine lv_iinc (v := 19) (lv' := [(1, .int 19), (0, .ref h0)]) hx hb dX2_init_115 hl (k := 0) rfl (by decide) (by decide) rfl (fun ls hl => ?_)
  refine lv_goto (tgt := 101) hx hb dX2_init_118 (by decide) ?_
  refine lv_iload_n hx hb dX2_init_101 rfl (lv_at hl 0 rfl) ?_
  refine lv_bipush (v := 24) hx hb dX2_init_102 (by decide) ?_
  refine lv_icmp_ge (tgt := 121) hx hb dX2_init_104 (by decide) (fun c9 => absurd c9 (by decide)) (fun _ => ?_)
  refine lv_aload_n hx hb dX2_init_107 rfl (lv_at hl 1 rfl) ?_
  refine va_get (D := G) (ci := 2) (v := .ref q1) (C := RX2) (T := TX2) (N := 14) hx hb hts inX2 hown hK hP 0 rfl rfl 1 (by decide) (hts _ mw107) (fun _ h9 => h9) rfl dX2_init_108 ?_
  refine lv_iload_n hx hb dX2_init_111 rfl (lv_at hl 0 rfl) ?_
  refine lv_bipush (v := 12) hx hb dX2_init_112 (by decide) ?_
  refine va_iast hx hb hK hP hD hS 1 0 rfl rfl (show vp_in 19 24 by unfold vp_in; decide) dX2_init_114 (fun H locs hP hD hS => ?_)
  have hP : va_P G vwCl ([(h0, .inr (2, [.int 8, .ref q1, .int 0, .ref q2, .ref q3, .ref q4, .ref q5, .ref q6, .ref q7, .int 1, .ref q8, .int 0, .int 0, .int 0])), (q1, .inl (k 0, 24, .inl (fl 12 (fun _ => 0) 20))), (q2, .inl (k 0, 9, .inl (fun _ => 0))), (q3, .inl (k 0, 9, .inl (fun _ => 0))), (q4, .inl (k 0, 9, .inl (fun _ => 0))), (q5, .inl (k 0, 9, .inl (fun _ => 0))), (q6, .inl (k 0, 9, .inl (fun _ => 0))), (q7, .inl (k 0, 9, .inl (fun _ => 0))), (q8, .inl (k 0, 12, .inl (fun _ => 0)))]) H := hP
  have hD : va_D A ([(h0, .inr (2, [.int 8, .ref q1, .int 0, .ref q2, .ref q3, .ref q4, .ref q5, .ref q6, .ref q7, .int 1, .ref q8, .int 0, .int 0, .int 0])), (q1, .inl (k 0, 24, .inl (fl 12 (fun _ => 0) 20))), (q2, .inl (k 0, 9, .inl (fun _ => 0))), (q3, .inl (k 0, 9, .inl (fun _ => 0))), (q4, .inl (k 0, 9, .inl (fun _ => 0))), (q5, .inl (k 0, 9, .inl (fun _ => 0))), (q6, .inl (k 0, 9, .inl (fun _ => 0))), (q7, .inl (k 0, 9, .inl (fun _ => 0))), (q8, .inl (k 0, 12, .inl (fun _ => 0)))]) := hD
  refine lv_iinc (v := 20) (lv' := [(1, .int 20), (0, .ref h0)]) hx hb dX2_init_115 hl (k := 0) rfl (by decide) (by decide) rfl (fun ls hl => ?_)
  refine lv_goto (tgt := 101) hx hb dX2_init_118 (by decide) ?_
  refine lv_iload_n hx hb dX2_init_101 rfl (lv_at hl 0 rfl) ?_
  refine lv_bipush (v := 24) hx hb dX2_init_102 (by decide) ?_
  refine lv_icmp_ge (tgt := 121) hx hb dX2_init_104 (by decide) (fun c9 => absurd c9 (by decide)) (fun _ => ?_)
  refine lv_aload_n hx hb dX2_init_107 rfl (lv_at hl 1 rfl) ?_
  refine va_get (D := G) (ci := 2) (v := .ref q1) (C := RX2) (T := TX2) (N := 14) hx hb hts inX2 hown hK hP 0 rfl rfl 1 (by decide) (hts _ mw107) (fun _ h9 => h9) rfl dX2_init_108 ?_
  refine lv_iload_n hx hb dX2_init_111 rfl (lv_at hl 0 rfl) ?_
  refine lv_bipush (v := 12) hx hb dX2_init_112 (by decide) ?_
  refine va_iast hx hb hK hP hD hS 1 0 rfl rfl (show vp_in 20 24 by unfold vp_in; decide) dX2_init_114 (fun H locs hP hD hS => ?_)
  have hP : va_P G vwCl ([(h0, .inr (2, [.int 8, .ref q1, .int 0, .ref q2, .ref q3, .ref q4, .ref q5, .ref q6, .ref q7, .int 1, .ref q8, .int 0, .int 0, .int 0])), (q1, .inl (k 0, 24, .inl (fl 12 (fun _ => 0) 21))), (q2, .inl (k 0, 9, .inl (fun _ => 0))), (q3, .inl (k 0, 9, .inl (fun _ => 0))), (q4, .inl (k 0, 9, .inl (fun _ => 0))), (q5, .inl (k 0, 9, .inl (fun _ => 0))), (q6, .inl (k 0, 9, .inl (fun _ => 0))), (q7, .inl (k 0, 9, .inl (fun _ => 0))), (q8, .inl (k 0, 12, .inl (fun _ => 0)))]) H := hP
  have hD : va_D A ([(h0, .inr (2, [.int 8, .ref q1, .int 0, .ref q2, .ref q3, .ref q4, .ref q5, .ref q6, .ref q7, .int 1, .ref q8, .int 0, .int 0, .int 0])), (q1, .inl (k 0, 24, .inl (fl 12 (fun _ => 0) 21))), (q2, .inl (k 0, 9, .inl (fun _ => 0))), (q3, .inl (k 0, 9, .inl (fun _ => 0))), (q4, .inl (k 0, 9, .inl (fun _ => 0))), (q5, .inl (k 0, 9, .inl (fun _ => 0))), (q6, .inl (k 0, 9, .inl (fun _ => 0))), (q7, .inl (k 0, 9, .inl (fun _ => 0))), (q8, .inl (k 0, 12, .inl (fun _ => 0)))]) := hD
  refine lv_iinc (v := 21) (lv' := [(1, .int 21), (0, .ref h0)]) hx hb dX2_init_115 hl (k := 0) rfl (by decide) (by decide) rfl (fun ls hl => ?_)
  refine lv_goto (tgt := 101) hx hb dX2_init_118 (by decide) ?_
  refine lv_iload_n hx hb dX2_init_101 rfl (lv_at hl 0 rfl) ?_
  refine lv_bipush (v := 24) hx hb dX2_init_102 (by decide) ?_
  refine lv_icmp_ge (tgt := 121) hx hb dX2_init_104 (by decide) (fun c9 => absurd c9 (by decide)) (fun _ => ?_)
  refine lv_aload_n hx hb dX2_init_107 rfl (lv_at hl 1 rfl) ?_
  refine va_get (D := G) (ci := 2) (v := .ref q1) (C := RX2) (T := TX2) (N := 14) hx hb hts inX2 hown hK hP 0 rfl rfl 1 (by decide) (hts _ mw107) (fun _ h9 => h9) rfl dX2_init_108 ?_
  refine lv_iload_n hx hb dX2_init_111 rfl (lv_at hl 0 rfl) ?_
  refine lv_bipush (v := 12) hx hb dX2_init_112 (by decide) ?_
  refine va_iast hx hb hK hP hD hS 1 0 rfl rfl (show vp_in 21 24 by unfold vp_in; decide) dX2_init_114 (fun H locs hP hD hS => ?_)
  have hP : va_P G vwCl ([(h0, .inr (2, [.int 8, .ref q1, .int 0, .ref q2, .ref q3, .ref q4, .ref q5, .ref q6, .ref q7, .int 1, .ref q8, .int 0, .int 0, .int 0])), (q1, .inl (k 0, 24, .inl (fl 12 (fun _ => 0) 22))), (q2, .inl (k 0, 9, .inl (fun _ => 0))), (q3, .inl (k 0, 9, .inl (fun _ => 0))), (q4, .inl (k 0, 9, .inl (fun _ => 0))), (q5, .inl (k 0, 9, .inl (fun _ => 0))), (q6, .inl (k 0, 9, .inl (fun _ => 0))), (q7, .inl (k 0, 9, .inl (fun _ => 0))), (q8, .inl (k 0, 12, .inl (fun _ => 0)))]) H := hP
  have hD : va_D A ([(h0, .inr (2, [.int 8, .ref q1, .int 0, .ref q2, .ref q3, .ref q4, .ref q5, .ref q6, .ref q7, .int 1, .ref q8, .int 0, .int 0, .int 0])), (q1, .inl (k 0, 24, .inl (fl 12 (fun _ => 0) 22))), (q2, .inl (k 0, 9, .inl (fun _ => 0))), (q3, .inl (k 0, 9, .inl (fun _ => 0))), (q4, .inl (k 0, 9, .inl (fun _ => 0))), (q5, .inl (k 0, 9, .inl (fun _ => 0))), (q6, .inl (k 0, 9, .inl (fun _ => 0))), (q7, .inl (k 0, 9, .inl (fun _ => 0))), (q8, .inl (k 0, 12, .inl (fun _ => 0)))]) := hD
  refine lv_iinc (v := 22) (lv' := [(1, .int 22), (0, .ref h0)]) hx hb dX2_init_115 hl (k := 0) rfl (by decide) (by decide) rfl (fun ls hl => ?_)
  refine lv_goto (tgt := 101) hx hb dX2_init_118 (by decide) ?_
  refine lv_iload_n hx hb dX2_init_101 rfl (lv_at hl 0 rfl) ?_
  refine lv_bipush (v := 24) hx hb dX2_init_102 (by decide) ?_
  refine lv_icmp_ge (tgt := 121) hx hb dX2_init_104 (by decide) (fun c9 => absurd c9 (by decide)) (fun _ => ?_)
  refine lv_aload_n hx hb dX2_init_107 rfl (lv_at hl 1 rfl) ?_
  refine va_get (D := G) (ci := 2) (v := .ref q1) (C := RX2) (T := TX2) (N := 14) hx hb hts inX2 hown hK hP 0 rfl rfl 1 (by decide) (hts _ mw107) (fun _ h9 => h9) rfl dX2_init_108 ?_
  refine lv_iload_n hx hb dX2_init_111 rfl (lv_at hl 0 rfl) ?_
  refine lv_bipush (v := 12) hx hb dX2_init_112 (by decide) ?_
  refine va_iast hx hb hK hP hD hS 1 0 rfl rfl (show vp_in 22 24 by unfold vp_in; decide) dX2_init_114 (fun H locs hP hD hS => ?_)
  have hP : va_P G vwCl ([(h0, .inr (2, [.int 8, .ref q1, .int 0, .ref q2, .ref q3, .ref q4, .ref q5, .ref q6, .ref q7, .int 1, .ref q8, .int 0, .int 0, .int 0])), (q1, .inl (k 0, 24, .inl (fl 12 (fun _ => 0) 23))), (q2, .inl (k 0, 9, .inl (fun _ => 0))), (q3, .inl (k 0, 9, .inl (fun _ => 0))), (q4, .inl (k 0, 9, .inl (fun _ => 0))), (q5, .inl (k 0, 9, .inl (fun _ => 0))), (q6, .inl (k 0, 9, .inl (fun _ => 0))), (q7, .inl (k 0, 9, .inl (fun _ => 0))), (q8, .inl (k 0, 12, .inl (fun _ => 0)))]) H := hP
  have hD : va_D A ([(h0, .inr (2, [.int 8, .ref q1, .int 0, .ref q2, .ref q3, .ref q4, .ref q5, .ref q6, .ref q7, .int 1, .ref q8, .int 0, .int 0, .int 0])), (q1, .inl (k 0, 24, .inl (fl 12 (fun _ => 0) 23))), (q2, .inl (k 0, 9, .inl (fun _ => 0))), (q3, .inl (k 0, 9, .inl (fun _ => 0))), (q4, .inl (k 0, 9, .inl (fun _ => 0))), (q5, .inl (k 0, 9, .inl (fun _ => 0))), (q6, .inl (k 0, 9, .inl (fun _ => 0))), (q7, .inl (k 0, 9, .inl (fun _ => 0))), (q8, .inl (k 0, 12, .inl (fun _ => 0)))]) := hD
  refine lv_iinc (v := 23) (lv' := [(1, .int 23), (0, .ref h0)]) hx hb dX2_init_115 hl (k := 0) rfl (by decide) (by decide) rfl (fun ls hl => ?_)
  refine lv_goto (tgt := 101) hx hb dX2_init_118 (by decide) ?_
  refine lv_iload_n hx hb dX2_init_101 rfl (lv_at hl 0 rfl) ?_
  refine lv_bipush (v := 24) hx hb dX2_init_102 (by decide) ?_
  refine lv_icmp_ge (tgt := 121) hx hb dX2_init_104 (by decide) (fun c9 => absurd c9 (by decide)) (fun _ => ?_)
  refine lv_aload_n hx hb dX2_init_107 rfl (lv_at hl 1 rfl) ?_
  refine va_get (D := G) (ci := 2) (v := .ref q1) (C := RX2) (T := TX2) (N := 14) hx hb hts inX2 hown hK hP 0 rfl rfl 1 (by decide) (hts _ mw107) (fun _ h9 => h9) rfl dX2_init_108 ?_
  refine lv_iload_n hx hb dX2_init_111 rfl (lv_at hl 0 rfl) ?_
  refine lv_bipush (v := 12) hx hb dX2_init_112 (by decide) ?_
  refine va_iast hx hb hK hP hD hS 1 0 rfl rfl (show vp_in 23 24 by unfold vp_in; decide) dX2_init_114 (fun H locs hP hD hS => ?_)
  have hP : va_P G vwCl ([(h0, .inr (2, [.int 8, .ref q1, .int 0, .ref q2, .ref q3, .ref q4, .ref q5, .ref q6, .ref q7, .int 1, .ref q8, .int 0, .int 0, .int 0])), (q1, .inl (k 0, 24, .inl (fl 12 (fun _ => 0) 24))), (q2, .inl (k 0, 9, .inl (fun _ => 0))), (q3, .inl (k 0, 9, .inl (fun _ => 0))), (q4, .inl (k 0, 9, .inl (fun _ => 0))), (q5, .inl (k 0, 9, .inl (fun _ => 0))), (q6, .inl (k 0, 9, .inl (fun _ => 0))), (q7, .inl (k 0, 9, .inl (fun _ => 0))), (q8, .inl (k 0, 12, .inl (fun _ => 0)))]) H := hP
  have hD : va_D A ([(h0, .inr (2, [.int 8, .ref q1, .int 0, .ref q2, .ref q3, .ref q4, .ref q5, .ref q6, .ref q7, .int 1, .ref q8, .int 0, .int 0, .int 0])), (q1, .inl (k 0, 24, .inl (fl 12 (fun _ => 0) 24))), (q2, .inl (k 0, 9, .inl (fun _ => 0))), (q3, .inl (k 0, 9, .inl (fun _ => 0))), (q4, .inl (k 0, 9, .inl (fun _ => 0))), (q5, .inl (k 0, 9, .inl (fun _ => 0))), (q6, .inl (k 0, 9, .inl (fun _ => 0))), (q7, .inl (k 0, 9, .inl (fun _ => 0))), (q8, .inl (k 0, 12, .inl (fun _ => 0)))]) := hD
  refine lv_iinc (v := 24) (lv' := [(1, .int 24), (0, .ref h0)]) hx hb dX2_init_115 hl (k := 0) rfl (by decide) (by decide) rfl (fun ls hl => ?_)
  refine lv_goto (tgt := 101) hx hb dX2_init_118 (by decide) ?_
  refine lv_iload_n hx hb dX2_init_101 rfl (lv_at hl 0 rfl) ?_
  refine lv_bipush (v := 24) hx hb dX2_init_102 (by decide) ?_
  refine lv_icmp_ge (tgt := 121) hx hb dX2_init_104 (by decide) (fun _ => ?_) (fun c9 => absurd (by decide) c9)
  exact ret_c hx hb hr hlk () (fun j : Nat => if j < 1 then h0 else if j < 2 then q1 else if j < 3 then q2 else if j < 4 then q3 else if j < 5 then q4 else if j < 6 then q5 else if j < 7 then q6 else if j < 8 then q7 else if j < 9 then q8 else h0) rfl trivial (P_map hP [0, 1, 2, 3, 4, 5, 6, 7, 8] rfl) (hD.sub [0, 1, 2, 3, 4, 5, 6, 7, 8] (by decide) rfl) hS dX2_init_121
