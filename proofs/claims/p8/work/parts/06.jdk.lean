def wp_J0_coder_7d493 (i0 : Nat) (post : Int32 → Prop) : Prop :=
  (i0 < 3 ∧ (((1 : Int32) = 0 → (post 1 )) ∧
 (¬ (1 : Int32) = 0 → (post 0 ))))
set_option maxHeartbeats 4000000 in
set_option maxRecDepth 100000 in
theorem c_J0_coder_7d493 (l : Launch) (G : va_G) (k : Nat → ClassId) (i0 : Nat) (post : Int32 → Prop) (hf : wp_J0_coder_7d493 i0 post) : MI (S := Unit) l G k yJ0_coder_7d493 (Cond.code yJ0_coder_7d493 cJ0_coder_7d493 1 (some .byte) :: wT) 0 0 [.ref (k (10 + i0))] ([] : va_W) (fun u => ([] : va_W)) (fun r u => post r ) := by
  refine mi_start (cc := cJ0_coder_7d493) (maxL := 1) (ret := (some .byte)) (by decide) [(0, .ref (k (10 + i0)))] rfl (Nat.le_of_ble_eq_true rfl) ?_
  intro p e s m below meth c A ls hx hb hr hlk hml hown hts hK hP hD hA hS hX hl
  have hown : s.vm.findClass RJ0 = some m.cls := hown
  unfold wp_J0_coder_7d493 at hf
  have hH0 : s.heap = s.heap := rfl
  obtain ⟨hi0, hf⟩ := hf
  refine va_gets hx hb hX.2.2.2.2.2 hS hown (hts _ mw437) (fun _ h9 => h9) dJ0_coder_7d493_0 ?_
  refine lv_if_eq (tgt := 13) hx hb dJ0_coder_7d493_3 (by decide) (fun c1 => ?_) (fun c1 => ?_)
  · have hf := hf.1 c1
    refine lv_iconst (v := 1) hx hb dJ0_coder_7d493_13 (by decide) ?_
    exact ret_n (ty := .byte) hx hb hr hlk (by decide) () hf hP hD hS dJ0_coder_7d493_14
  have hf := hf.2 c1
  refine lv_aload_n hx hb dJ0_coder_7d493_6 rfl (lv_at hl 0 rfl) ?_
  refine vk_getf hx hb (hX.2.1.1 i0 hi0).2.1 hS hown (hts _ mw1422) (fun _ h9 => h9) dJ0_coder_7d493_7 ?_
  refine lv_goto (tgt := 14) hx hb dJ0_coder_7d493_10 (by decide) ?_
  exact ret_n (ty := .byte) hx hb hr hlk (by decide) () hf hP hD hS dJ0_coder_7d493_14
def wp_J0_length_8abf5 (i0 : Nat) (post : Int32 → Prop) : Prop :=
  (i0 < 3 ∧ (wp_J0_coder_7d493 i0 (fun (r1 : Int32) =>
 (post ((Int32.ofNat (STL.getD i0 0)) >>> (r1 &&& 31)) ))))
set_option maxHeartbeats 4000000 in
set_option maxRecDepth 100000 in
theorem c_J0_length_8abf5 (l : Launch) (G : va_G) (k : Nat → ClassId) (i0 : Nat) (post : Int32 → Prop) (hf : wp_J0_length_8abf5 i0 post) : MI (S := Unit) l G k yJ0_length_8abf5 (Cond.code yJ0_length_8abf5 cJ0_length_8abf5 1 (some .int) :: wT) 1 20 [.ref (k (10 + i0))] ([] : va_W) (fun u => ([] : va_W)) (fun r u => post r ) := by
  refine mi_start (cc := cJ0_length_8abf5) (maxL := 1) (ret := (some .int)) (by decide) [(0, .ref (k (10 + i0)))] rfl (Nat.le_of_ble_eq_true rfl) ?_
  intro p e s m below meth c A ls hx hb hr hlk hml hown hts hK hP hD hA hS hX hl
  have hown : s.vm.findClass RJ0 = some m.cls := hown
  unfold wp_J0_length_8abf5 at hf
  have hH0 : s.heap = s.heap := rfl
  obtain ⟨hi0, hf⟩ := hf
  refine lv_aload_n hx hb dJ0_length_8abf5_0 rfl (lv_at hl 0 rfl) ?_
  refine vk_getf hx hb (hX.2.1.1 i0 hi0).2.2.1 hS hown (hts _ mw1423) (fun _ h9 => h9) dJ0_length_8abf5_1 ?_
  refine va_tlen hx hb (hX.2.1.1 i0 hi0).2.2.2 hS rfl dJ0_length_8abf5_4 ?_
  refine lv_aload_n hx hb dJ0_length_8abf5_5 rfl (lv_at hl 0 rfl) ?_
  refine cst (i := i0) (As := []) (rest := [.int (Int32.ofNat (STL.getD i0 0))]) ⟨hx, hb, hml, hown, hts⟩ (c_J0_coder_7d493 l G k i0 _ hf) (cwT 0 hts mw443 mw444 mw445 mw79 mw446 rfl hd_J0_coder_7d493 ⟨Nat.le_of_ble_eq_true rfl, Nat.le_of_ble_eq_true rfl⟩) hK hP hS hX hA hi0 rfl hl.1 rfl (Nat.le_of_ble_eq_true rfl) dJ0_length_8abf5_6 (Nat.zero_le _) (Nat.zero_le _) (fun r1 H locs hf hP hS => ?_)
  refine lv_ishr hx hb dJ0_length_8abf5_9 ?_
  exact ret_i hx hb hr hlk () hf hP hD hS dJ0_length_8abf5_10
def wp_J0_isLatin1_aae02 (i0 : Nat) (post : Int32 → Prop) : Prop :=
  (i0 < 3 ∧ (((1 : Int32) = 0 → (post 0 )) ∧
 (¬ (1 : Int32) = 0 → ((¬ (0 : Int32) = 0 → (post 0 )) ∧
 ((0 : Int32) = 0 → (post 1 ))))))
set_option maxHeartbeats 4000000 in
set_option maxRecDepth 100000 in
theorem c_J0_isLatin1_aae02 (l : Launch) (G : va_G) (k : Nat → ClassId) (i0 : Nat) (post : Int32 → Prop) (hf : wp_J0_isLatin1_aae02 i0 post) : MI (S := Unit) l G k yJ0_isLatin1_aae02 (Cond.code yJ0_isLatin1_aae02 cJ0_isLatin1_aae02 1 (some .boolean) :: wT) 0 0 [.ref (k (10 + i0))] ([] : va_W) (fun u => ([] : va_W)) (fun r u => post r ) := by
  refine mi_start (cc := cJ0_isLatin1_aae02) (maxL := 1) (ret := (some .boolean)) (by decide) [(0, .ref (k (10 + i0)))] rfl (Nat.le_of_ble_eq_true rfl) ?_
  intro p e s m below meth c A ls hx hb hr hlk hml hown hts hK hP hD hA hS hX hl
  have hown : s.vm.findClass RJ0 = some m.cls := hown
  unfold wp_J0_isLatin1_aae02 at hf
  have hH0 : s.heap = s.heap := rfl
  obtain ⟨hi0, hf⟩ := hf
  refine va_gets hx hb hX.2.2.2.2.2 hS hown (hts _ mw437) (fun _ h9 => h9) dJ0_isLatin1_aae02_0 ?_
  refine lv_if_eq (tgt := 17) hx hb dJ0_isLatin1_aae02_3 (by decide) (fun c1 => ?_) (fun c1 => ?_)
  · have hf := hf.1 c1
    refine lv_iconst (v := 0) hx hb dJ0_isLatin1_aae02_17 (by decide) ?_
    exact ret_z hx hb hr hlk (Or.inl rfl) () hf hP hD hS dJ0_isLatin1_aae02_18
  have hf := hf.2 c1
  refine lv_aload_n hx hb dJ0_isLatin1_aae02_6 rfl (lv_at hl 0 rfl) ?_
  refine vk_getf hx hb (hX.2.1.1 i0 hi0).2.1 hS hown (hts _ mw1422) (fun _ h9 => h9) dJ0_isLatin1_aae02_7 ?_
  refine lv_if_ne (tgt := 17) hx hb dJ0_isLatin1_aae02_10 (by decide) (fun c2 => ?_) (fun c2 => ?_)
  · have hf := hf.1 c2
    refine lv_iconst (v := 0) hx hb dJ0_isLatin1_aae02_17 (by decide) ?_
    exact ret_z hx hb hr hlk (Or.inl rfl) () hf hP hD hS dJ0_isLatin1_aae02_18
  have hf := hf.2 c2
  refine lv_iconst (v := 1) hx hb dJ0_isLatin1_aae02_13 (by decide) ?_
  refine lv_goto (tgt := 18) hx hb dJ0_isLatin1_aae02_14 (by decide) ?_
  exact ret_z hx hb hr hlk (Or.inr rfl) () hf hP hD hS dJ0_isLatin1_aae02_18
def wp_J1_canEncode_9a6ad (p1 : Int32) (post : Int32 → Prop) : Prop :=
  ((p1 < 0 → (post 0 )) ∧
 (¬ p1 < 0 → ((255 < p1 → (post 0 )) ∧
 (¬ 255 < p1 → (post 1 )))))
set_option maxHeartbeats 4000000 in
set_option maxRecDepth 100000 in
theorem c_J1_canEncode_9a6ad (l : Launch) (G : va_G) (k : Nat → ClassId) (p1 : Int32) (post : Int32 → Prop) (hf : wp_J1_canEncode_9a6ad p1 post) : MI (S := Unit) l G k yJ1_canEncode_9a6ad (Cond.code yJ1_canEncode_9a6ad cJ1_canEncode_9a6ad 1 (some .boolean) :: wT) 0 0 [.int p1] ([] : va_W) (fun u => ([] : va_W)) (fun r u => post r ) := by
  refine mi_start (cc := cJ1_canEncode_9a6ad) (maxL := 1) (ret := (some .boolean)) (by decide) [(0, .int p1)] rfl (Nat.le_of_ble_eq_true rfl) ?_
  intro p e s m below meth c A ls hx hb hr hlk hml hown hts hK hP hD hA hS hX hl
  have hown : s.vm.findClass RJ1 = some m.cls := hown
  unfold wp_J1_canEncode_9a6ad at hf
  have hH0 : s.heap = s.heap := rfl
  refine lv_iload_n hx hb dJ1_canEncode_9a6ad_0 rfl (lv_at hl 0 rfl) ?_
  refine lv_if_lt (tgt := 15) hx hb dJ1_canEncode_9a6ad_1 (by decide) (fun c1 => ?_) (fun c1 => ?_)
  · have hf := hf.1 c1
    refine lv_iconst (v := 0) hx hb dJ1_canEncode_9a6ad_15 (by decide) ?_
    exact ret_z hx hb hr hlk (Or.inl rfl) () hf hP hD hS dJ1_canEncode_9a6ad_16
  have hf := hf.2 c1
  refine lv_iload_n hx hb dJ1_canEncode_9a6ad_4 rfl (lv_at hl 0 rfl) ?_
  refine lv_sipush (v := 255) hx hb dJ1_canEncode_9a6ad_5 (by decide) ?_
  refine lv_icmp_gt (tgt := 15) hx hb dJ1_canEncode_9a6ad_8 (by decide) (fun c2 => ?_) (fun c2 => ?_)
  · have hf := hf.1 c2
    refine lv_iconst (v := 0) hx hb dJ1_canEncode_9a6ad_15 (by decide) ?_
    exact ret_z hx hb hr hlk (Or.inl rfl) () hf hP hD hS dJ1_canEncode_9a6ad_16
  have hf := hf.2 c2
  refine lv_iconst (v := 1) hx hb dJ1_canEncode_9a6ad_11 (by decide) ?_
  refine lv_goto (tgt := 16) hx hb dJ1_canEncode_9a6ad_12 (by decide) ?_
  exact ret_z hx hb hr hlk (Or.inr rfl) () hf hP hD hS dJ1_canEncode_9a6ad_16
def wp_J1_indexOfChar_4cfef (p2 : Int32) (p3 : Int32) (p4 : Int32) (i1 : Nat) (post : Int32 → Prop) : Prop :=
  (i1 < 3 ∧ (∀ z1 : Int32, z1 = (Int8.toInt32 (Int32.toInt8 p2)) → (∃ I2 : Nat → (Int32) → Prop, (∃ n2, I2 n2 p3) ∧ ∀ (n2 : Nat) (x5_2 : Int32), I2 n2 x5_2 →
 ((p4 ≤ x5_2 → (post (-1) )) ∧
 (¬ p4 ≤ x5_2 → (vp_in x5_2 (STL.getD i1 0) ∧ ((¬ ((STB.getD i1 []).getD (Int32.toNatClampNeg x5_2) 0) = z1 → (∀ z5 : Int32, z5 = x5_2 + 1 → (∃ m9, m9 < n2 ∧ I2 m9 z5))) ∧
 (((STB.getD i1 []).getD (Int32.toNatClampNeg x5_2) 0) = z1 → (post x5_2 )))))))))
set_option maxHeartbeats 4000000 in
set_option maxRecDepth 100000 in
theorem c_J1_indexOfChar_4cfef (l : Launch) (G : va_G) (k : Nat → ClassId) (p2 : Int32) (p3 : Int32) (p4 : Int32) (i1 : Nat) (post : Int32 → Prop) (hf : wp_J1_indexOfChar_4cfef p2 p3 p4 i1 post) : MI (S := Unit) l G k yJ1_indexOfChar_4cfef (Cond.code yJ1_indexOfChar_4cfef cJ1_indexOfChar_4cfef 6 (some .int) :: wT) 0 0 [.ref (k (20 + i1)), .int p2, .int p3, .int p4] ([] : va_W) (fun u => ([] : va_W)) (fun r u => post r ) := by
  refine mi_start (cc := cJ1_indexOfChar_4cfef) (maxL := 6) (ret := (some .int)) (by decide) [(0, .ref (k (20 + i1))), (1, .int p2), (2, .int p3), (3, .int p4)] rfl (Nat.le_of_ble_eq_true rfl) ?_
  intro p e s m below meth c A ls hx hb hr hlk hml hown hts hK hP hD hA hS hX hl
  have hown : s.vm.findClass RJ1 = some m.cls := hown
  unfold wp_J1_indexOfChar_4cfef at hf
  have hH0 : s.heap = s.heap := rfl
  obtain ⟨hi1, hf⟩ := hf
  refine lv_iload_n hx hb dJ1_indexOfChar_4cfef_0 rfl (lv_at hl 1 rfl) ?_
  refine lv_i2b hx hb dJ1_indexOfChar_4cfef_1 rfl ?_
  refine lv_topi (fun z1 ez1 => ?_)
  have hf := hf z1 ez1
  refine lv_istore (lv' := [(4, .int z1), (0, .ref (k (20 + i1))), (1, .int p2), (2, .int p3), (3, .int p4)]) hx hb dJ1_indexOfChar_4cfef_2 hl (by decide) rfl (fun ls hl => ?_)
  refine lv_iload_n hx hb dJ1_indexOfChar_4cfef_4 rfl (lv_at hl 3 rfl) ?_
  refine lv_istore (lv' := [(5, .int p3), (4, .int z1), (0, .ref (k (20 + i1))), (1, .int p2), (2, .int p3), (3, .int p4)]) hx hb dJ1_indexOfChar_4cfef_5 hl (by decide) rfl (fun ls hl => ?_)
  obtain ⟨I2, ⟨n2, hi2⟩, hs2⟩ := hf
  refine w_loop (G := G) (A := A) (H0 := s.heap) (nL := 6) (σ := (Int32)) (I := fun n v => I2 n v) (wl := fun v => ([] : va_W)) (lv := fun v => [(0, .ref (k (20 + i1))), (3, .int p4), (4, .int z1), (5, .int v)]) (st := fun _ => []) n2 p3 hi2 hP hD hS (lv_sub hl [2, 5, 1, 0] rfl) (fun n2 v hi ih2 H locs ls hP hD hS hl => ?_)
  obtain ⟨x5_2, rfl⟩ : ∃ z, z = v := ⟨_, rfl⟩
  have hf := hs2 n2 x5_2 hi
  have hP : va_P G vwCl ([] : va_W) H := hP
  have hD : va_D A ([] : va_W) := hD
  have hl : lv_has ls 6 [(0, .ref (k (20 + i1))), (3, .int p4), (4, .int z1), (5, .int x5_2)] := hl
  refine lv_iload hx hb dJ1_indexOfChar_4cfef_7 (lv_at hl 3 rfl) ?_
  refine lv_iload_n hx hb dJ1_indexOfChar_4cfef_9 rfl (lv_at hl 1 rfl) ?_
  refine lv_icmp_ge (tgt := 31) hx hb dJ1_indexOfChar_4cfef_10 (by decide) (fun c3 => ?_) (fun c3 => ?_)
  · have hf := hf.1 c3
    refine lv_iconst (v := (-1)) hx hb dJ1_indexOfChar_4cfef_31 (by decide) ?_
    exact ret_i hx hb hr hlk () hf hP hD hS dJ1_indexOfChar_4cfef_32
  have hf := hf.2 c3
  refine lv_aload_n hx hb dJ1_indexOfChar_4cfef_13 rfl (lv_at hl 0 rfl) ?_
  refine lv_iload hx hb dJ1_indexOfChar_4cfef_14 (lv_at hl 3 rfl) ?_
  obtain ⟨hin, hf⟩ := hf
  refine va_tb hx hb (hX.2.1.1 i1 hi1).2.2.2 hS hin rfl dJ1_indexOfChar_4cfef_16 ?_
  refine lv_iload hx hb dJ1_indexOfChar_4cfef_17 (lv_at hl 2 rfl) ?_
  refine lv_icmp_ne (tgt := 25) hx hb dJ1_indexOfChar_4cfef_19 (by decide) (fun c4 => ?_) (fun c4 => ?_)
  · have hf := hf.1 c4
    obtain ⟨z5, ez5⟩ : ∃ y : Int32, y = x5_2 + 1 := ⟨_, rfl⟩
    have hf := hf z5 ez5
    refine lv_iinc (v := z5) (lv' := [(5, .int z5), (0, .ref (k (20 + i1))), (3, .int p4), (4, .int z1)]) hx hb dJ1_indexOfChar_4cfef_25 hl (k := 3) rfl (by rw [ez5]; rfl) (by decide) rfl (fun ls hl => ?_)
    refine lv_goto (tgt := 7) hx hb dJ1_indexOfChar_4cfef_28 (by decide) ?_
    obtain ⟨m9, hm9, hi9⟩ := hf
    exact ih2 m9 z5 hm9 hi9 _ _ _ hP hD hS (lv_sub hl [1, 2, 3, 0] rfl)
  have hf := hf.2 c4
  refine lv_iload hx hb dJ1_indexOfChar_4cfef_22 (lv_at hl 3 rfl) ?_
  exact ret_i hx hb hr hlk () hf hP hD hS dJ1_indexOfChar_4cfef_24
def wp_J1_indexOf_4cfef (p2 : Int32) (p3 : Int32) (p4 : Int32) (i1 : Nat) (post : Int32 → Prop) : Prop :=
  (i1 < 3 ∧ (wp_J1_canEncode_9a6ad p2 (fun (r1 : Int32) =>
 ((¬ r1 = 0 → (∀ z3 : Int32, z3 = (if p3 < 0 then 0 else p3) → (∀ z4 : Int32, z4 = (if (Int32.ofNat (STL.getD i1 0)) < p4 then (Int32.ofNat (STL.getD i1 0)) else p4) → ((z3 < z4 → (wp_J1_indexOfChar_4cfef p2 z3 z4 i1 (fun (r6 : Int32) =>
 (post r6 )))) ∧
 (¬ z3 < z4 → (post (-1) )))))) ∧
 (r1 = 0 → (post (-1) ))))))
set_option maxHeartbeats 4000000 in
set_option maxRecDepth 100000 in
theorem c_J1_indexOf_4cfef (l : Launch) (G : va_G) (k : Nat → ClassId) (p2 : Int32) (p3 : Int32) (p4 : Int32) (i1 : Nat) (post : Int32 → Prop) (hf : wp_J1_indexOf_4cfef p2 p3 p4 i1 post) : MI (S := Unit) l G k yJ1_indexOf_4cfef (Cond.code yJ1_indexOf_4cfef cJ1_indexOf_4cfef 4 (some .int) :: wT) 1 25 [.ref (k (20 + i1)), .int p2, .int p3, .int p4] ([] : va_W) (fun u => ([] : va_W)) (fun r u => post r ) := by
  refine mi_start (cc := cJ1_indexOf_4cfef) (maxL := 4) (ret := (some .int)) (by decide) [(0, .ref (k (20 + i1))), (1, .int p2), (2, .int p3), (3, .int p4)] rfl (Nat.le_of_ble_eq_true rfl) ?_
  intro p e s m below meth c A ls hx hb hr hlk hml hown hts hK hP hD hA hS hX hl
  have hown : s.vm.findClass RJ1 = some m.cls := hown
  unfold wp_J1_indexOf_4cfef at hf
  have hH0 : s.heap = s.heap := rfl
  obtain ⟨hi1, hf⟩ := hf
  refine lv_iload_n hx hb dJ1_indexOf_4cfef_0 rfl (lv_at hl 1 rfl) ?_
  refine csi (As := [.int p2]) (rest := []) ⟨hx, hb, hml, hown, hts⟩ (c_J1_canEncode_9a6ad l G k p2 _ hf) (csT 1 hts mw450 mw451 mw80 mw452 hd_J1_canEncode_9a6ad ⟨Nat.le_of_ble_eq_true rfl, Nat.le_of_ble_eq_true rfl⟩) hK hP hS hX hA rfl hl.1 rfl (Nat.le_of_ble_eq_true rfl) dJ1_indexOf_4cfef_1 (Nat.zero_le _) (Nat.zero_le _) (fun r1 H locs hf hP hS => ?_)
  refine lv_if_ne (tgt := 9) hx hb dJ1_indexOf_4cfef_4 (by decide) (fun c2 => ?_) (fun c2 => ?_)
  · have hf := hf.1 c2
    refine lv_iload_n hx hb dJ1_indexOf_4cfef_9 rfl (lv_at hl 2 rfl) ?_
    refine lv_iconst (v := 0) hx hb dJ1_indexOf_4cfef_10 (by decide) ?_
    refine va_mmax hx hb (hml.trans hl.1.symm) hown (hts _ mw453) (hts _ mw454) (hts _ mw81) (hts _ mw455) (Nat.le_of_ble_eq_true rfl) (Nat.le_of_ble_eq_true rfl) (Nat.zero_le _) (Nat.zero_le _) dJ1_indexOf_4cfef_11 ?_
    refine lv_topi (fun z3 ez3 => ?_)
    have hf := hf z3 ez3
    refine lv_istore_n (lv' := [(2, .int z3), (0, .ref (k (20 + i1))), (1, .int p2), (3, .int p4)]) hx hb dJ1_indexOf_4cfef_14 rfl hl (by decide) rfl (fun ls hl => ?_)
    refine lv_iload_n hx hb dJ1_indexOf_4cfef_15 rfl (lv_at hl 3 rfl) ?_
    refine lv_aload_n hx hb dJ1_indexOf_4cfef_16 rfl (lv_at hl 1 rfl) ?_
    refine va_tlen hx hb (hX.2.1.1 i1 hi1).2.2.2 hS rfl dJ1_indexOf_4cfef_17 ?_
    refine va_mmin hx hb (hml.trans hl.1.symm) hown (hts _ mw456) (hts _ mw457) (hts _ mw81) (hts _ mw458) (Nat.le_of_ble_eq_true rfl) (Nat.le_of_ble_eq_true rfl) (Nat.zero_le _) (Nat.zero_le _) dJ1_indexOf_4cfef_18 ?_
    refine lv_topi (fun z4 ez4 => ?_)
    have hf := hf z4 ez4
    refine lv_istore_n (lv' := [(3, .int z4), (2, .int z3), (0, .ref (k (20 + i1))), (1, .int p2)]) hx hb dJ1_indexOf_4cfef_21 rfl hl (by decide) rfl (fun ls hl => ?_)
    refine lv_iload_n hx hb dJ1_indexOf_4cfef_22 rfl (lv_at hl 1 rfl) ?_
    refine lv_iload_n hx hb dJ1_indexOf_4cfef_23 rfl (lv_at hl 0 rfl) ?_
    refine lv_icmp_lt (tgt := 29) hx hb dJ1_indexOf_4cfef_24 (by decide) (fun c5 => ?_) (fun c5 => ?_)
    · have hf := hf.1 c5
      refine lv_aload_n hx hb dJ1_indexOf_4cfef_29 rfl (lv_at hl 2 rfl) ?_
      refine lv_iload_n hx hb dJ1_indexOf_4cfef_30 rfl (lv_at hl 3 rfl) ?_
      refine lv_iload_n hx hb dJ1_indexOf_4cfef_31 rfl (lv_at hl 1 rfl) ?_
      refine lv_iload_n hx hb dJ1_indexOf_4cfef_32 rfl (lv_at hl 0 rfl) ?_
      refine csi (As := [.ref (k (20 + i1)), .int p2, .int z3, .int z4]) (rest := []) ⟨hx, hb, hml, hown, hts⟩ (c_J1_indexOfChar_4cfef l G k p2 z3 z4 i1 _ hf) (csT 4 hts mw459 mw460 mw80 mw461 hd_J1_indexOfChar_4cfef ⟨Nat.le_of_ble_eq_true rfl, Nat.le_of_ble_eq_true rfl⟩) hK hP hS hX hA rfl hl.1 rfl (Nat.le_of_ble_eq_true rfl) dJ1_indexOf_4cfef_33 (Nat.zero_le _) (Nat.zero_le _) (fun r6 H locs hf hP hS => ?_)
      exact ret_i hx hb hr hlk () hf hP hD hS dJ1_indexOf_4cfef_36
    have hf := hf.2 c5
    refine lv_iconst (v := (-1)) hx hb dJ1_indexOf_4cfef_27 (by decide) ?_
    exact ret_i hx hb hr hlk () hf hP hD hS dJ1_indexOf_4cfef_28
  have hf := hf.2 c2
  refine lv_iconst (v := (-1)) hx hb dJ1_indexOf_4cfef_7 (by decide) ?_
  exact ret_i hx hb hr hlk () hf hP hD hS dJ1_indexOf_4cfef_8
def wp_J0_indexOf_7cf53 (p1 : Int32) (p2 : Int32) (i0 : Nat) (post : Int32 → Prop) : Prop :=
  (i0 < 3 ∧ (wp_J0_isLatin1_aae02 i0 (fun (r1 : Int32) =>
 ((r1 = 0 → False) ∧
 (¬ r1 = 0 → (wp_J0_length_8abf5 i0 (fun (r3 : Int32) =>
 (wp_J1_indexOf_4cfef p1 p2 r3 i0 (fun (r4 : Int32) =>
 (post r4 ))))))))))
set_option maxHeartbeats 4000000 in
set_option maxRecDepth 100000 in
theorem c_J0_indexOf_7cf53 (l : Launch) (G : va_G) (k : Nat → ClassId) (p1 : Int32) (p2 : Int32) (i0 : Nat) (post : Int32 → Prop) (hf : wp_J0_indexOf_7cf53 p1 p2 i0 post) : MI (S := Unit) l G k yJ0_indexOf_7cf53 (Cond.code yJ0_indexOf_7cf53 cJ0_indexOf_7cf53 3 (some .int) :: wT) 2 48 [.ref (k (10 + i0)), .int p1, .int p2] ([] : va_W) (fun u => ([] : va_W)) (fun r u => post r ) := by
  refine mi_start (cc := cJ0_indexOf_7cf53) (maxL := 3) (ret := (some .int)) (by decide) [(0, .ref (k (10 + i0))), (1, .int p1), (2, .int p2)] rfl (Nat.le_of_ble_eq_true rfl) ?_
  intro p e s m below meth c A ls hx hb hr hlk hml hown hts hK hP hD hA hS hX hl
  have hown : s.vm.findClass RJ0 = some m.cls := hown
  unfold wp_J0_indexOf_7cf53 at hf
  have hH0 : s.heap = s.heap := rfl
  obtain ⟨hi0, hf⟩ := hf
  refine lv_aload_n hx hb dJ0_indexOf_7cf53_0 rfl (lv_at hl 0 rfl) ?_
  refine cst (i := i0) (As := []) (rest := []) ⟨hx, hb, hml, hown, hts⟩ (c_J0_isLatin1_aae02 l G k i0 _ hf) (cwT 0 hts mw433 mw434 mw435 mw79 mw436 rfl hd_J0_isLatin1_aae02 ⟨Nat.le_of_ble_eq_true rfl, Nat.le_of_ble_eq_true rfl⟩) hK hP hS hX hA hi0 rfl hl.1 rfl (Nat.le_of_ble_eq_true rfl) dJ0_indexOf_7cf53_1 (Nat.zero_le _) (Nat.zero_le _) (fun r1 H locs hf hP hS => ?_)
  refine lv_if_eq (tgt := 23) hx hb dJ0_indexOf_7cf53_4 (by decide) (fun c2 => ?_) (fun c2 => ?_)
  · have hf := hf.1 c2
    exact hf.elim
  have hf := hf.2 c2
  refine lv_aload_n hx hb dJ0_indexOf_7cf53_7 rfl (lv_at hl 0 rfl) ?_
  refine vk_getf hx hb (hX.2.1.1 i0 hi0).2.2.1 hS hown (hts _ mw1423) (fun _ h9 => h9) dJ0_indexOf_7cf53_8 ?_
  refine lv_iload_n hx hb dJ0_indexOf_7cf53_11 rfl (lv_at hl 1 rfl) ?_
  refine lv_iload_n hx hb dJ0_indexOf_7cf53_12 rfl (lv_at hl 2 rfl) ?_
  refine lv_aload_n hx hb dJ0_indexOf_7cf53_13 rfl (lv_at hl 0 rfl) ?_
  refine cst (i := i0) (As := []) (rest := [.int p2, .int p1, .ref (k (20 + i0))]) ⟨hx, hb, hml, hown, hts⟩ (c_J0_length_8abf5 l G k i0 _ hf) (cwT 0 hts mw439 mw440 mw441 mw79 mw442 rfl hd_J0_length_8abf5 ⟨Nat.le_of_ble_eq_true rfl, Nat.le_of_ble_eq_true rfl⟩) hK hP hS hX hA hi0 rfl hl.1 rfl (Nat.le_of_ble_eq_true rfl) dJ0_indexOf_7cf53_14 (Nat.zero_le _) (Nat.zero_le _) (fun r3 H locs hf hP hS => ?_)
  refine csi (As := [.ref (k (20 + i0)), .int p1, .int p2, .int r3]) (rest := []) ⟨hx, hb, hml, hown, hts⟩ (c_J1_indexOf_4cfef l G k p1 p2 r3 i0 _ hf) (csT 4 hts mw447 mw448 mw80 mw449 hd_J1_indexOf_4cfef ⟨Nat.le_of_ble_eq_true rfl, Nat.le_of_ble_eq_true rfl⟩) hK hP hS hX hA rfl hl.1 rfl (Nat.le_of_ble_eq_true rfl) dJ0_indexOf_7cf53_17 (Nat.zero_le _) (Nat.zero_le _) (fun r4 H locs hf hP hS => ?_)
  refine lv_goto (tgt := 36) hx hb dJ0_indexOf_7cf53_20 (by decide) ?_
  exact ret_i hx hb hr hlk () hf hP hD hS dJ0_indexOf_7cf53_36
def wp_J0_indexOf_0f7a4 (p1 : Int32) (i0 : Nat) (post : Int32 → Prop) : Prop :=
  (i0 < 3 ∧ (wp_J0_indexOf_7cf53 p1 0 i0 (fun (r1 : Int32) =>
 (post r1 ))))
set_option maxHeartbeats 4000000 in
set_option maxRecDepth 100000 in
theorem c_J0_indexOf_0f7a4 (l : Launch) (G : va_G) (k : Nat → ClassId) (p1 : Int32) (i0 : Nat) (post : Int32 → Prop) (hf : wp_J0_indexOf_0f7a4 p1 i0 post) : MI (S := Unit) l G k yJ0_indexOf_0f7a4 (Cond.code yJ0_indexOf_0f7a4 cJ0_indexOf_0f7a4 2 (some .int) :: wT) 3 70 [.ref (k (10 + i0)), .int p1] ([] : va_W) (fun u => ([] : va_W)) (fun r u => post r ) := by
  refine mi_start (cc := cJ0_indexOf_0f7a4) (maxL := 2) (ret := (some .int)) (by decide) [(0, .ref (k (10 + i0))), (1, .int p1)] rfl (Nat.le_of_ble_eq_true rfl) ?_
  intro p e s m below meth c A ls hx hb hr hlk hml hown hts hK hP hD hA hS hX hl
  have hown : s.vm.findClass RJ0 = some m.cls := hown
  unfold wp_J0_indexOf_0f7a4 at hf
  have hH0 : s.heap = s.heap := rfl
  obtain ⟨hi0, hf⟩ := hf
  refine lv_aload_n hx hb dJ0_indexOf_0f7a4_0 rfl (lv_at hl 0 rfl) ?_
  refine lv_iload_n hx hb dJ0_indexOf_0f7a4_1 rfl (lv_at hl 1 rfl) ?_
  refine lv_iconst (v := 0) hx hb dJ0_indexOf_0f7a4_2 (by decide) ?_
  refine cst (i := i0) (As := [.int p1, .int 0]) (rest := []) ⟨hx, hb, hml, hown, hts⟩ (c_J0_indexOf_7cf53 l G k p1 0 i0 _ hf) (cwT 2 hts mw429 mw430 mw431 mw79 mw432 rfl hd_J0_indexOf_7cf53 ⟨Nat.le_of_ble_eq_true rfl, Nat.le_of_ble_eq_true rfl⟩) hK hP hS hX hA hi0 rfl hl.1 rfl (Nat.le_of_ble_eq_true rfl) dJ0_indexOf_0f7a4_3 (Nat.zero_le _) (Nat.zero_le _) (fun r1 H locs hf hP hS => ?_)
  exact ret_i hx hb hr hlk () hf hP hD hS dJ0_indexOf_0f7a4_6
