set_option maxHeartbeats 4000000 in
set_option maxRecDepth 100000 in
theorem ci_X4 (l : Launch) (G : va_G) (k : Nat → ClassId) (h0 : Nat) : MC (S := Unit) l G k yX4_init (Cond.code yX4_init cX4_init 1 none :: wT) 1 20 1 24 h0 ([(h0, .inr (4, [.int 0, .int 0, .int 0, .null]))]) (fun _ a => (sgX4 k a 0 0 0 (fun _ => 0))) (fun _ => True) := by
  refine mc_start (cc := cX4_init) (maxL := 1) (by decide) (Nat.le_of_ble_eq_true rfl) ?_
  intro p e s m below meth c A ls hx hb hr hlk hml hown hin hts hK hP hD hA hS hX hl
  have hown : s.vm.findClass RX4 = some m.cls := hown
  have hin : meth.name = "<init>" := hin
  have hl : lv_has ls 1 [(0, .ref h0)] := hl
  refine lv_aload_n hx hb dX4_init_0 rfl (lv_at hl 0 rfl) ?_
  refine W.objInit hx hb hown (hts _ mw278) (hts _ mw91) (hts _ mw92) rfl (by rw [hml]; exact hl.1) rfl dX4_init_1 (Nat.le_of_ble_eq_true rfl) (Nat.le_of_ble_eq_true rfl) ?_
  refine W.eq (g2 := F0 m 4 ls []) rfl ?_
  refine lv_aload_n hx hb dX4_init_4 rfl (lv_at hl 0 rfl) ?_
  refine lv_iconst (v := 0) hx hb dX4_init_5 (by decide) ?_
  refine va_put (D := G) (ci := 4) (v := .int 0) (ty := .boolean) (C := RX4) (T := TX4) (N := 4) hx hb hts inX4 tyX4 tyX4_ok nmX4 hown hK hP hD hS 0 rfl rfl 0 (by decide) (hts _ mw279) (fun _ h9 => h9) rfl (by decide +kernel) (by decide) (by decide) (Nat.le_of_ble_eq_true rfl) dX4_init_6 (fun H locs hP hD hS => ?_)
  have hP : va_P G vwCl ([(h0, .inr (4, [.int 0, .int 0, .int 0, .null]))]) H := hP
  have hD : va_D A ([(h0, .inr (4, [.int 0, .int 0, .int 0, .null]))]) := hD
  refine lv_aload_n hx hb dX4_init_9 rfl (lv_at hl 0 rfl) ?_
  refine lv_iconst (v := 0) hx hb dX4_init_10 (by decide) ?_
  refine va_put (D := G) (ci := 4) (v := .int 0) (ty := .int) (C := RX4) (T := TX4) (N := 4) hx hb hts inX4 tyX4 tyX4_ok nmX4 hown hK hP hD hS 0 rfl rfl 1 (by decide) (hts _ mw281) (fun _ h9 => h9) rfl (by decide +kernel) rfl rfl (Nat.le_of_ble_eq_true rfl) dX4_init_11 (fun H locs hP hD hS => ?_)
  have hP : va_P G vwCl ([(h0, .inr (4, [.int 0, .int 0, .int 0, .null]))]) H := hP
  have hD : va_D A ([(h0, .inr (4, [.int 0, .int 0, .int 0, .null]))]) := hD
  refine lv_aload_n hx hb dX4_init_14 rfl (lv_at hl 0 rfl) ?_
  refine lv_iconst (v := 0) hx hb dX4_init_15 (by decide) ?_
  refine va_put (D := G) (ci := 4) (v := .int 0) (ty := .int) (C := RX4) (T := TX4) (N := 4) hx hb hts inX4 tyX4 tyX4_ok nmX4 hown hK hP hD hS 0 rfl rfl 2 (by decide) (hts _ mw283) (fun _ h9 => h9) rfl (by decide +kernel) rfl rfl (Nat.le_of_ble_eq_true rfl) dX4_init_16 (fun H locs hP hD hS => ?_)
  have hP : va_P G vwCl ([(h0, .inr (4, [.int 0, .int 0, .int 0, .null]))]) H := hP
  have hD : va_D A ([(h0, .inr (4, [.int 0, .int 0, .int 0, .null]))]) := hD
  refine lv_aload_n hx hb dX4_init_19 rfl (lv_at hl 0 rfl) ?_
  refine lv_bipush (v := 24) hx hb dX4_init_20 (by decide) ?_
  refine va_newa (atype := .long) (ty := .long) (N' := 24) (a0 := (24, .inr (.inl (fun _ => 0)))) hx hb (hts _ mw296) rfl hK hP hD hS hA (fun _ => rfl) (by decide) rfl (by decide) (Nat.le_of_ble_eq_true rfl) (Nat.le_of_ble_eq_true rfl) dX4_init_22 (fun q1 cA H hK9 hP hD hS => ?_)
  obtain rfl := sm_J hK9
  have hP : va_P G vwCl ([(h0, .inr (4, [.int 0, .int 0, .int 0, .null])), (q1, .inl (k 2, 24, .inr (.inl (fun _ => 0))))]) H := hP
  have hD : va_D A ([(h0, .inr (4, [.int 0, .int 0, .int 0, .null])), (q1, .inl (k 2, 24, .inr (.inl (fun _ => 0))))]) := hD
  refine W.widen (k := 1) (n := 24) (Nat.le_of_ble_eq_true rfl) (Nat.le_of_ble_eq_true rfl) ?_
  refine va_putF (D := G) (ci := 4) (v := .ref q1) (ty := .array .long) (C := RX4) (T := TX4) (N := 4) hx hb hts inX4 tyX4 tyX4_ok nmX4 hown hK hP hD hS 0 rfl rfl 3 (by decide) (hts _ mw285) (fun _ h9 => h9) rfl hin rfl (by decide +kernel) rfl rfl (Nat.le_of_ble_eq_true rfl) dX4_init_24 (fun H locs hP hD hS => ?_)
  have hP : va_P G vwCl ([(h0, .inr (4, [.int 0, .int 0, .int 0, .ref q1])), (q1, .inl (k 2, 24, .inr (.inl (fun _ => 0))))]) H := hP
  have hD : va_D A ([(h0, .inr (4, [.int 0, .int 0, .int 0, .ref q1])), (q1, .inl (k 2, 24, .inr (.inl (fun _ => 0))))]) := hD
  exact ret_c hx hb hr hlk () (fun j : Nat => if j < 1 then h0 else if j < 2 then q1 else h0) rfl trivial (P_map hP [0, 1] rfl) (hD.sub [0, 1] (by decide) rfl) hS dX4_init_27
