set_option maxHeartbeats 4000000 in
set_option maxRecDepth 100000 in
theorem ci_X6 (l : Launch) (G : va_G) (k : Nat → ClassId) (h0 : Nat) : MC (S := Unit) l G k yX6_init (Cond.code yX6_init cX6_init 1 none :: wT) 2 41 16 153 h0 ([(h0, .inr (6, [.null, .null, .null, .int 0]))]) (fun _ a => (sgX6 k a 1 ++ sgX2 k (fun j => a (j + 1)) 8 (fl 12 (fun _ => 0) 24) 0 (fun _ => 0) (fun _ => 0) (fun _ => 0) (fun _ => 0) (fun _ => 0) (fun _ => 0) 1 (fun _ => 0) 0 0 0 ++ sgX0 k (fun j => a (j + 10)) 0 (fun _ => 0) (fun _ => 0) ++ sgX3 k (fun j => a (j + 13)) 0 (fun _ => 0) (fun _ => 0) (fun _ => 0))) (fun _ => True) := by
  refine mc_start (cc := cX6_init) (maxL := 1) (by decide) (Nat.le_of_ble_eq_true rfl) ?_
  intro p e s m below meth c A ls hx hb hr hlk hml hown hin hts hK hP hD hA hS hX hl
  have hown : s.vm.findClass RX6 = some m.cls := hown
  have hin : meth.name = "<init>" := hin
  have hl : lv_has ls 1 [(0, .ref h0)] := hl
  refine lv_aload_n hx hb dX6_init_0 rfl (lv_at hl 0 rfl) ?_
  refine W.objInit hx hb hown (hts _ mw98) (hts _ mw91) (hts _ mw92) rfl (by rw [hml]; exact hl.1) rfl dX6_init_1 (Nat.le_of_ble_eq_true rfl) (Nat.le_of_ble_eq_true rfl) ?_
  refine W.eq (g2 := F0 m 4 ls []) rfl ?_
  refine lv_aload_n hx hb dX6_init_4 rfl (lv_at hl 0 rfl) ?_
  refine va_new (ci := 2) (fs := [.int 0, .null, .int 0, .null, .null, .null, .null, .null, .null, .int 0, .null, .int 0, .int 0, .int 0]) (C := RX2) (T := TX2) (N := 14) hx hb hts inX2 tyX2 tyX2_ok hown (hts _ mw99) (hts _ mw100) (hts _ mw71) hK hP hD hS hA rfl (fun j hj => by rcases (show j = 0 ∨ j = 1 ∨ j = 2 ∨ j = 3 ∨ j = 4 ∨ j = 5 ∨ j = 6 ∨ j = 7 ∨ j = 8 ∨ j = 9 ∨ j = 10 ∨ j = 11 ∨ j = 12 ∨ j = 13 by omega) with rfl | rfl | rfl | rfl | rfl | rfl | rfl | rfl | rfl | rfl | rfl | rfl | rfl | rfl <;> rfl) (Nat.le_of_ble_eq_true rfl) (Nat.le_of_ble_eq_true rfl) dX6_init_5 (fun q1 H hP hD hS => ?_)
  have hP : va_P G vwCl ([(h0, .inr (6, [.null, .null, .null, .int 0])), (q1, .inr (2, [.int 0, .null, .int 0, .null, .null, .null, .null, .null, .null, .int 0, .null, .int 0, .int 0, .int 0]))]) H := hP
  have hD : va_D A ([(h0, .inr (6, [.null, .null, .null, .int 0])), (q1, .inr (2, [.int 0, .null, .int 0, .null, .null, .null, .null, .null, .null, .int 0, .null, .int 0, .int 0, .int 0]))]) := hD
  refine W.widen (k := 1) (n := 14) (Nat.le_of_ble_eq_true rfl) (Nat.le_of_ble_eq_true rfl) ?_
  refine lv_dup hx hb dX6_init_8 rfl ?_
  refine cci (rest := [.ref q1, .ref h0]) (wr := ([(h0, .inr (6, [.null, .null, .null, .int 0]))])) ⟨hx, hb, hml, hown, hts⟩ (ci_X2 l G k q1) mw101 mw102 mw71 mw103 rfl hd_X2_init ⟨Nat.le_of_ble_eq_true rfl, Nat.le_of_ble_eq_true rfl⟩ hK hP hD hS hX hA hl.1 rfl (Nat.le_of_ble_eq_true rfl) dX6_init_9 (Nat.le_of_ble_eq_true rfl) (Nat.le_of_ble_eq_true rfl) (fun _ a2 H locs ha _ hP9 hD9 hS9 => ?_)
  clear hP hD hS
  subst ha
  have hP := hP9
  have hD := hD9
  have hS := hS9
  have hP : va_P G vwCl ([(h0, .inr (6, [.null, .null, .null, .int 0]))] ++ (sgX2 k a2 8 (fl 12 (fun _ => 0) 24) 0 (fun _ => 0) (fun _ => 0) (fun _ => 0) (fun _ => 0) (fun _ => 0) (fun _ => 0) 1 (fun _ => 0) 0 0 0)) H := hP
  have hD : va_D A ([(h0, .inr (6, [.null, .null, .null, .int 0]))] ++ (sgX2 k a2 8 (fl 12 (fun _ => 0) 24) 0 (fun _ => 0) (fun _ => 0) (fun _ => 0) (fun _ => 0) (fun _ => 0) (fun _ => 0) 1 (fun _ => 0) 0 0 0)) := hD
  refine W.widen (k := 9) (n := 104) (Nat.le_of_ble_eq_true rfl) (Nat.le_of_ble_eq_true rfl) ?_
  refine va_putF (D := G) (ci := 6) (v := .ref (a2 0)) (ty := .object "LameClocks$Race") (C := RX6) (T := TX6) (N := 4) hx hb hts inX6 tyX6 tyX6_ok nmX6 hown hK hP hD hS 0 rfl rfl 0 (by decide) (hts _ mw204) (fun _ h9 => h9) rfl hin rfl (by decide +kernel) rfl rfl (Nat.le_of_ble_eq_true rfl) dX6_init_12 (fun H locs hP hD hS => ?_)
  have hP : va_P G vwCl ([(h0, .inr (6, [.ref (a2 0), .null, .null, .int 0]))] ++ (sgX2 k a2 8 (fl 12 (fun _ => 0) 24) 0 (fun _ => 0) (fun _ => 0) (fun _ => 0) (fun _ => 0) (fun _ => 0) (fun _ => 0) 1 (fun _ => 0) 0 0 0)) H := hP
  have hD : va_D A ([(h0, .inr (6, [.ref (a2 0), .null, .null, .int 0]))] ++ (sgX2 k a2 8 (fl 12 (fun _ => 0) 24) 0 (fun _ => 0) (fun _ => 0) (fun _ => 0) (fun _ => 0) (fun _ => 0) (fun _ => 0) 1 (fun _ => 0) 0 0 0)) := hD
  refine lv_aload_n hx hb dX6_init_15 rfl (lv_at hl 0 rfl) ?_
  refine va_new (ci := 0) (fs := [.int 0, .null, .null]) (C := RX0) (T := TX0) (N := 3) hx hb hts inX0 tyX0 tyX0_ok hown (hts _ mw167) (hts _ mw168) (hts _ mw72) hK hP hD hS hA rfl (fun j hj => by rcases (show j = 0 ∨ j = 1 ∨ j = 2 by omega) with rfl | rfl | rfl <;> rfl) (Nat.le_of_ble_eq_true rfl) (Nat.le_of_ble_eq_true rfl) dX6_init_16 (fun q3 H hP hD hS => ?_)
  have hP : va_P G vwCl ([(h0, .inr (6, [.ref (a2 0), .null, .null, .int 0]))] ++ (sgX2 k a2 8 (fl 12 (fun _ => 0) 24) 0 (fun _ => 0) (fun _ => 0) (fun _ => 0) (fun _ => 0) (fun _ => 0) (fun _ => 0) 1 (fun _ => 0) 0 0 0) ++ [(q3, .inr (0, [.int 0, .null, .null]))]) H := hP
  have hD : va_D A ([(h0, .inr (6, [.ref (a2 0), .null, .null, .int 0]))] ++ (sgX2 k a2 8 (fl 12 (fun _ => 0) 24) 0 (fun _ => 0) (fun _ => 0) (fun _ => 0) (fun _ => 0) (fun _ => 0) (fun _ => 0) 1 (fun _ => 0) 0 0 0) ++ [(q3, .inr (0, [.int 0, .null, .null]))]) := hD
  refine W.widen (k := 10) (n := 107) (Nat.le_of_ble_eq_true rfl) (Nat.le_of_ble_eq_true rfl) ?_
  refine lv_dup hx hb dX6_init_19 rfl ?_
  refine ccn (host := RX7) (rest := [.ref q3, .ref h0]) (wr := ([(h0, .inr (6, [.ref (a2 0), .null, .null, .int 0]))] ++ (sgX2 k a2 8 (fl 12 (fun _ => 0) 24) 0 (fun _ => 0) (fun _ => 0) (fun _ => 0) (fun _ => 0) (fun _ => 0) (fun _ => 0) 1 (fun _ => 0) 0 0 0))) ⟨hx, hb, hml, hown, hts⟩ (ci_X0 l G k q3) hX.1.2.1 mw170 mw72 mw171 rfl hd_X0_init ⟨Nat.le_of_ble_eq_true rfl, Nat.le_of_ble_eq_true rfl⟩ hK hP hD hS hX hA hl.1 rfl (Nat.le_of_ble_eq_true rfl) dX6_init_20 (Nat.le_of_ble_eq_true rfl) (Nat.le_of_ble_eq_true rfl) (fun _ a4 H locs ha _ hP9 hD9 hS9 => ?_)
  clear hP hD hS
  subst ha
  have hP := hP9
  have hD := hD9
  have hS := hS9
  have hP : va_P G vwCl ([(h0, .inr (6, [.ref (a2 0), .null, .null, .int 0]))] ++ (sgX2 k a2 8 (fl 12 (fun _ => 0) 24) 0 (fun _ => 0) (fun _ => 0) (fun _ => 0) (fun _ => 0) (fun _ => 0) (fun _ => 0) 1 (fun _ => 0) 0 0 0) ++ (sgX0 k a4 0 (fun _ => 0) (fun _ => 0))) H := hP
  have hD : va_D A ([(h0, .inr (6, [.ref (a2 0), .null, .null, .int 0]))] ++ (sgX2 k a2 8 (fl 12 (fun _ => 0) 24) 0 (fun _ => 0) (fun _ => 0) (fun _ => 0) (fun _ => 0) (fun _ => 0) (fun _ => 0) 1 (fun _ => 0) 0 0 0) ++ (sgX0 k a4 0 (fun _ => 0) (fun _ => 0))) := hD
  refine W.widen (k := 12) (n := 119) (Nat.le_of_ble_eq_true rfl) (Nat.le_of_ble_eq_true rfl) ?_
  refine va_putF (D := G) (ci := 6) (v := .ref (a4 0)) (ty := .object "LameClocks$Bets") (C := RX6) (T := TX6) (N := 4) hx hb hts inX6 tyX6 tyX6_ok nmX6 hown hK hP hD hS 0 rfl rfl 1 (by decide) (hts _ mw206) (fun _ h9 => h9) rfl hin rfl (by decide +kernel) rfl rfl (Nat.le_of_ble_eq_true rfl) dX6_init_23 (fun H locs hP hD hS => ?_)
  have hP : va_P G vwCl ([(h0, .inr (6, [.ref (a2 0), .ref (a4 0), .null, .int 0]))] ++ (sgX2 k a2 8 (fl 12 (fun _ => 0) 24) 0 (fun _ => 0) (fun _ => 0) (fun _ => 0) (fun _ => 0) (fun _ => 0) (fun _ => 0) 1 (fun _ => 0) 0 0 0) ++ (sgX0 k a4 0 (fun _ => 0) (fun _ => 0))) H := hP
  have hD : va_D A ([(h0, .inr (6, [.ref (a2 0), .ref (a4 0), .null, .int 0]))] ++ (sgX2 k a2 8 (fl 12 (fun _ => 0) 24) 0 (fun _ => 0) (fun _ => 0) (fun _ => 0) (fun _ => 0) (fun _ => 0) (fun _ => 0) 1 (fun _ => 0) 0 0 0) ++ (sgX0 k a4 0 (fun _ => 0) (fun _ => 0))) := hD
  refine lv_aload_n hx hb dX6_init_26 rfl (lv_at hl 0 rfl) ?_
  refine va_new (ci := 3) (fs := [.int 0, .null, .null, .null]) (C := RX3) (T := TX3) (N := 4) hx hb hts inX3 tyX3 tyX3_ok hown (hts _ mw184) (hts _ mw185) (hts _ mw73) hK hP hD hS hA rfl (fun j hj => by rcases (show j = 0 ∨ j = 1 ∨ j = 2 ∨ j = 3 by omega) with rfl | rfl | rfl | rfl <;> rfl) (Nat.le_of_ble_eq_true rfl) (Nat.le_of_ble_eq_true rfl) dX6_init_27 (fun q5 H hP hD hS => ?_)
  have hP : va_P G vwCl ([(h0, .inr (6, [.ref (a2 0), .ref (a4 0), .null, .int 0]))] ++ (sgX2 k a2 8 (fl 12 (fun _ => 0) 24) 0 (fun _ => 0) (fun _ => 0) (fun _ => 0) (fun _ => 0) (fun _ => 0) (fun _ => 0) 1 (fun _ => 0) 0 0 0) ++ (sgX0 k a4 0 (fun _ => 0) (fun _ => 0)) ++ [(q5, .inr (3, [.int 0, .null, .null, .null]))]) H := hP
  have hD : va_D A ([(h0, .inr (6, [.ref (a2 0), .ref (a4 0), .null, .int 0]))] ++ (sgX2 k a2 8 (fl 12 (fun _ => 0) 24) 0 (fun _ => 0) (fun _ => 0) (fun _ => 0) (fun _ => 0) (fun _ => 0) (fun _ => 0) 1 (fun _ => 0) 0 0 0) ++ (sgX0 k a4 0 (fun _ => 0) (fun _ => 0)) ++ [(q5, .inr (3, [.int 0, .null, .null, .null]))]) := hD
  refine W.widen (k := 13) (n := 123) (Nat.le_of_ble_eq_true rfl) (Nat.le_of_ble_eq_true rfl) ?_
  refine lv_dup hx hb dX6_init_30 rfl ?_
  refine ccn (host := RX7) (rest := [.ref q5, .ref h0]) (wr := ([(h0, .inr (6, [.ref (a2 0), .ref (a4 0), .null, .int 0]))] ++ (sgX2 k a2 8 (fl 12 (fun _ => 0) 24) 0 (fun _ => 0) (fun _ => 0) (fun _ => 0) (fun _ => 0) (fun _ => 0) (fun _ => 0) 1 (fun _ => 0) 0 0 0) ++ (sgX0 k a4 0 (fun _ => 0) (fun _ => 0)))) ⟨hx, hb, hml, hown, hts⟩ (ci_X3 l G k q5) hX.1.2.2.1 mw187 mw73 mw188 rfl hd_X3_init ⟨Nat.le_of_ble_eq_true rfl, Nat.le_of_ble_eq_true rfl⟩ hK hP hD hS hX hA hl.1 rfl (Nat.le_of_ble_eq_true rfl) dX6_init_31 (Nat.le_of_ble_eq_true rfl) (Nat.le_of_ble_eq_true rfl) (fun _ a6 H locs ha _ hP9 hD9 hS9 => ?_)
  clear hP hD hS
  subst ha
  have hP := hP9
  have hD := hD9
  have hS := hS9
  have hP : va_P G vwCl ([(h0, .inr (6, [.ref (a2 0), .ref (a4 0), .null, .int 0]))] ++ (sgX2 k a2 8 (fl 12 (fun _ => 0) 24) 0 (fun _ => 0) (fun _ => 0) (fun _ => 0) (fun _ => 0) (fun _ => 0) (fun _ => 0) 1 (fun _ => 0) 0 0 0) ++ (sgX0 k a4 0 (fun _ => 0) (fun _ => 0)) ++ (sgX3 k a6 0 (fun _ => 0) (fun _ => 0) (fun _ => 0))) H := hP
  have hD : va_D A ([(h0, .inr (6, [.ref (a2 0), .ref (a4 0), .null, .int 0]))] ++ (sgX2 k a2 8 (fl 12 (fun _ => 0) 24) 0 (fun _ => 0) (fun _ => 0) (fun _ => 0) (fun _ => 0) (fun _ => 0) (fun _ => 0) 1 (fun _ => 0) 0 0 0) ++ (sgX0 k a4 0 (fun _ => 0) (fun _ => 0)) ++ (sgX3 k a6 0 (fun _ => 0) (fun _ => 0) (fun _ => 0))) := hD
  refine W.widen (k := 16) (n := 153) (Nat.le_of_ble_eq_true rfl) (Nat.le_of_ble_eq_true rfl) ?_
  refine va_putF (D := G) (ci := 6) (v := .ref (a6 0)) (ty := .object "LameClocks$Repairs") (C := RX6) (T := TX6) (N := 4) hx hb hts inX6 tyX6 tyX6_ok nmX6 hown hK hP hD hS 0 rfl rfl 2 (by decide) (hts _ mw208) (fun _ h9 => h9) rfl hin rfl (by decide +kernel) rfl rfl (Nat.le_of_ble_eq_true rfl) dX6_init_34 (fun H locs hP hD hS => ?_)
  have hP : va_P G vwCl ([(h0, .inr (6, [.ref (a2 0), .ref (a4 0), .ref (a6 0), .int 0]))] ++ (sgX2 k a2 8 (fl 12 (fun _ => 0) 24) 0 (fun _ => 0) (fun _ => 0) (fun _ => 0) (fun _ => 0) (fun _ => 0) (fun _ => 0) 1 (fun _ => 0) 0 0 0) ++ (sgX0 k a4 0 (fun _ => 0) (fun _ => 0)) ++ (sgX3 k a6 0 (fun _ => 0) (fun _ => 0) (fun _ => 0))) H := hP
  have hD : va_D A ([(h0, .inr (6, [.ref (a2 0), .ref (a4 0), .ref (a6 0), .int 0]))] ++ (sgX2 k a2 8 (fl 12 (fun _ => 0) 24) 0 (fun _ => 0) (fun _ => 0) (fun _ => 0) (fun _ => 0) (fun _ => 0) (fun _ => 0) 1 (fun _ => 0) 0 0 0) ++ (sgX0 k a4 0 (fun _ => 0) (fun _ => 0)) ++ (sgX3 k a6 0 (fun _ => 0) (fun _ => 0) (fun _ => 0))) := hD
  refine lv_aload_n hx hb dX6_init_37 rfl (lv_at hl 0 rfl) ?_
  refine lv_iconst (v := 1) hx hb dX6_init_38 (by decide) ?_
  refine va_put (D := G) (ci := 6) (v := .int 1) (ty := .int) (C := RX6) (T := TX6) (N := 4) hx hb hts inX6 tyX6 tyX6_ok nmX6 hown hK hP hD hS 0 rfl rfl 3 (by decide) (hts _ mw210) (fun _ h9 => h9) rfl (by decide +kernel) rfl rfl (Nat.le_of_ble_eq_true rfl) dX6_init_39 (fun H locs hP hD hS => ?_)
  have hP : va_P G vwCl ([(h0, .inr (6, [.ref (a2 0), .ref (a4 0), .ref (a6 0), .int 1]))] ++ (sgX2 k a2 8 (fl 12 (fun _ => 0) 24) 0 (fun _ => 0) (fun _ => 0) (fun _ => 0) (fun _ => 0) (fun _ => 0) (fun _ => 0) 1 (fun _ => 0) 0 0 0) ++ (sgX0 k a4 0 (fun _ => 0) (fun _ => 0)) ++ (sgX3 k a6 0 (fun _ => 0) (fun _ => 0) (fun _ => 0))) H := hP
  have hD : va_D A ([(h0, .inr (6, [.ref (a2 0), .ref (a4 0), .ref (a6 0), .int 1]))] ++ (sgX2 k a2 8 (fl 12 (fun _ => 0) 24) 0 (fun _ => 0) (fun _ => 0) (fun _ => 0) (fun _ => 0) (fun _ => 0) (fun _ => 0) 1 (fun _ => 0) 0 0 0) ++ (sgX0 k a4 0 (fun _ => 0) (fun _ => 0)) ++ (sgX3 k a6 0 (fun _ => 0) (fun _ => 0) (fun _ => 0))) := hD
  exact ret_c hx hb hr hlk () (fun j : Nat => if j < 1 then h0 else if j < 10 then a2 (j - 1) else if j < 13 then a4 (j - 10) else if j < 17 then a6 (j - 13) else h0) rfl trivial (P_map hP [0, 1, 2, 3, 4, 5, 6, 7, 8, 9, 10, 11, 12, 13, 14, 15, 16] rfl) (hD.sub [0, 1, 2, 3, 4, 5, 6, 7, 8, 9, 10, 11, 12, 13, 14, 15, 16] (by decide) rfl) hS dX6_init_42
