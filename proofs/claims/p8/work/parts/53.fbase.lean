/-! ===== texts: what a reader comes to, as functions of the letters ===== -/
/-- the letter at a place, -1 where there is none -/
def tx_at (f : Nat → Int32) (n : Int) (j : Int) : Int := if 0 ≤ j ∧ j < n then (f j.toNat).toInt else -1
theorem tx_in {f : Nat → Int32} {n : Int} {i : Int32} (h0 : 0 ≤ i.toInt) (h1 : i.toInt < n) : tx_at f n i.toInt = (f (Int32.toNatClampNeg i)).toInt := if_pos ⟨h0, h1⟩
theorem tx_oo {f : Nat → Int32} {n x : Int} : x < n ∨ tx_at f n x = -1 := by
  by_cases h : x < n
  · exact Or.inl h
  · exact Or.inr (if_neg (fun q => h q.2))
def tx_ok (a : Int → Int) : Prop := ∀ j : Int, a j = -1 ∨ (32 ≤ a j ∧ a j ≤ 126)
theorem tx_ok.get {a : Int → Int} (h : tx_ok a) (j : Int) : a j = -1 ∨ (32 ≤ a j ∧ a j ≤ 126) := h j
theorem tx_at0 {f g : Nat → Int32} {n m : Int} (h1 : n ≤ 0) (h2 : m ≤ 0) : tx_at f n = tx_at g m := by
  funext j
  unfold tx_at
  rw [if_neg (by omega), if_neg (by omega)]
theorem tx_ok0 {f : Nat → Int32} {n : Int} (h1 : n ≤ 0) : tx_ok (tx_at f n) := by
  intro j
  exact Or.inl (if_neg (by omega))
/-- one letter more -/
def tx_ty (a : Int → Int) (n c : Int) : Int → Int := if 32 ≤ c ∧ c ≤ 126 ∧ n < 160 then (fun j => if j = n then c else a j) else a
theorem tx_ty_n {a : Int → Int} {n c : Int} (h : ¬ (32 ≤ c ∧ c ≤ 126 ∧ n < 160)) : a = tx_ty a n c := (if_neg h).symm
theorem tx_ty_y {f g : Nat → Int32} {s z v : Int32} {c : Int} (he : g = upd f (Int32.toNatClampNeg s) v) (hv : v.toInt = c) (h0 : 0 ≤ s.toInt) (hz : z.toInt = s.toInt + 1) (hc : 32 ≤ c) (hd : c ≤ 126) (hs : s.toInt < 160) : tx_at g z.toInt = tx_ty (tx_at f s.toInt) s.toInt c := by
  have e0 := itn (x := s) rfl h0
  unfold tx_ty
  rw [if_pos ⟨hc, hd, hs⟩, he, hz]
  funext j
  unfold tx_at
  by_cases e : j = s.toInt
  · rw [if_pos e, if_pos (by omega), show j.toNat = Int32.toNatClampNeg s by omega, upd_eq, hv]
  · rw [if_neg e]
    by_cases q : 0 ≤ j ∧ j < s.toInt
    · rw [if_pos q, if_pos (by omega), upd_ne (by omega)]
    · rw [if_neg q, if_neg (by omega)]
theorem tx_ok_ty {a : Int → Int} {n c : Int} (h : tx_ok a) : tx_ok (tx_ty a n c) := by
  intro j
  unfold tx_ty
  by_cases q : 32 ≤ c ∧ c ≤ 126 ∧ n < 160
  · rw [if_pos q]
    show (if j = n then c else a j) = -1 ∨ (32 ≤ (if j = n then c else a j) ∧ (if j = n then c else a j) ≤ 126)
    by_cases e : j = n
    · rw [if_pos e]; exact Or.inr ⟨q.1, q.2.1⟩
    · rw [if_neg e]; exact h j
  · rw [if_neg q]; exact h j
/-- from a place on, over what is so, to the first that isn't -/
def tx_SK (P : Int → Prop) (k x : Int) : Prop := k ≤ x ∧ (∀ j : Int, k ≤ j → j < x → P j) ∧ ¬ P x
noncomputable def tx_sk (P : Int → Prop) (k : Int) : Int := Classical.epsilon (fun x : Int => tx_SK P k x)
theorem tx_sk_s {P : Int → Prop} {k : Int} (h : P k) : tx_sk P k = tx_sk P (k + 1) := by
  unfold tx_sk
  have e : (fun x : Int => tx_SK P k x) = (fun x : Int => tx_SK P (k + 1) x) := by
    funext x
    apply propext
    constructor
    · rintro ⟨h1, h2, h3⟩
      have h4 : ¬ x = k := fun q => h3 (by rw [q]; exact h)
      exact ⟨by omega, fun j a b => h2 j (by omega) b, h3⟩
    · rintro ⟨h1, h2, h3⟩
      refine ⟨by omega, fun j a b => ?_, h3⟩
      by_cases q : j = k
      · rw [q]; exact h
      · exact h2 j (by omega) b
  rw [e]
theorem tx_sk_0 {P : Int → Prop} {k : Int} (h : ¬ P k) : tx_sk P k = k := by
  have e : tx_SK P k (tx_sk P k) := Classical.epsilon_spec (p := fun x : Int => tx_SK P k x) ⟨k, Int.le_refl k, fun j a b => by omega, h⟩
  obtain ⟨h1, h2, h3⟩ := e
  by_cases q : k < tx_sk P k
  · exact absurd (h2 k (Int.le_refl k) q) h
  · omega
noncomputable def tx_nx (a : Int → Int) (k : Int) : Int := tx_sk (fun j => a j = 32) k
noncomputable def tx_nd (a : Int → Int) (k : Int) : Int := tx_sk (fun j => 48 ≤ a j ∧ a j ≤ 57) k
theorem tx_nx_b {a : Int → Int} {k x z : Int} (h : tx_nx a k = tx_nx a x) (hx : a x = 32) (hz : z = x + 1) : tx_nx a k = tx_nx a z := by
  rw [h, hz]; exact tx_sk_s (P := fun j => a j = 32) hx
theorem tx_nx_e {a : Int → Int} {k x : Int} (h : tx_nx a k = tx_nx a x) (hx : ¬ a x = 32) : tx_nx a k = x := by
  rw [h]; exact tx_sk_0 (P := fun j => a j = 32) hx
theorem tx_nd_b {a : Int → Int} {k x z : Int} (h : tx_nd a k = tx_nd a x) (hx : 48 ≤ a x ∧ a x ≤ 57) (hz : z = x + 1) : tx_nd a k = tx_nd a z := by
  rw [h, hz]; exact tx_sk_s (P := fun j => 48 ≤ a j ∧ a j ≤ 57) hx
theorem tx_nd_e {a : Int → Int} {k x : Int} (h : tx_nd a k = tx_nd a x) (hx : ¬ (48 ≤ a x ∧ a x ≤ 57)) : tx_nd a k = x := by
  rw [h]; exact tx_sk_0 (P := fun j => 48 ≤ a j ∧ a j ≤ 57) hx
/-- the number that the digits from k up to x tell -/
def tx_dn (a : Int → Int) (k : Int) : Nat → Int
  | 0 => 0
  | m + 1 => 10 * tx_dn a k m + (a (k + m) - 48)
def tx_dv (a : Int → Int) (k x : Int) : Int := tx_dn a k (x - k).toNat
theorem tx_dv_0 {a : Int → Int} {k : Int} : tx_dv a k k = 0 := by
  unfold tx_dv
  rw [show (k - k).toNat = 0 by omega]
  rfl
theorem tx_dv_s {a : Int → Int} {k x z : Int} (h : k ≤ x) (hz : z = x + 1) : tx_dv a k z = 10 * tx_dv a k x + (a x - 48) := by
  unfold tx_dv
  rw [show (z - k).toNat = (x - k).toNat + 1 by omega]
  show 10 * tx_dn a k (x - k).toNat + (a (k + ((x - k).toNat : Nat)) - 48) = _
  rw [show k + (((x - k).toNat : Nat) : Int) = x by omega]
noncomputable def tx_nm (a : Int → Int) (k lo hi : Int) : Int :=
  if tx_nx a k < tx_nd a (tx_nx a k) ∧ lo ≤ tx_dv a (tx_nx a k) (tx_nd a (tx_nx a k)) ∧ tx_dv a (tx_nx a k) (tx_nd a (tx_nx a k)) ≤ hi then tx_nd a (tx_nx a k) else -1
theorem tx_nm_a {a : Int → Int} {k x y lo hi : Int} (h1 : tx_nx a k = x) (h3 : y = x) (h2 : ¬ (48 ≤ a y ∧ a y ≤ 57)) : tx_nm a k lo hi = -1 := by
  subst h3
  have e := tx_nd_e (a := a) (k := y) rfl h2
  unfold tx_nm
  rw [h1, e]
  exact if_neg (by omega)
theorem tx_nm_b {a : Int → Int} {k x y lo hi : Int} (h1 : tx_nx a k = x) (h2 : tx_nd a x = tx_nd a y) (h3 : ¬ (48 ≤ a y ∧ a y ≤ 57)) (h5 : tx_dv a x y < lo ∨ hi < tx_dv a x y) : tx_nm a k lo hi = -1 := by
  have e := tx_nd_e h2 h3
  unfold tx_nm
  rw [h1, e]
  exact if_neg (by omega)
theorem tx_nm_c {a : Int → Int} {k x y lo hi : Int} (h1 : tx_nx a k = x) (h2 : tx_nd a x = tx_nd a y) (h3 : ¬ (48 ≤ a y ∧ a y ≤ 57)) (h4 : x < y) (h5 : lo ≤ tx_dv a x y) (h6 : tx_dv a x y ≤ hi) : tx_nm a k lo hi = y := by
  have e := tx_nd_e h2 h3
  unfold tx_nm
  rw [h1, e]
  exact if_pos ⟨h4, h5, h6⟩
/-- is it the letter of a kind -/
def tx_kn (c : Int) : Int := if c = 112 ∨ c = 99 ∨ c = 111 ∨ c = 100 ∨ c = 116 ∨ c = 109 then 1 else 0
theorem tx_kn_1 {c : Int} (h : c = 112 ∨ c = 99 ∨ c = 111 ∨ c = 100 ∨ c = 116 ∨ c = 109) : tx_kn c = 1 := if_pos h
theorem tx_kn_0 {c : Int} (h : ¬ (c = 112 ∨ c = 99 ∨ c = 111 ∨ c = 100 ∨ c = 116 ∨ c = 109)) : tx_kn c = 0 := if_neg h
/-- a CLOCK's text, from the end of its rate on -/
noncomputable def tx_r2 (a : Int → Int) (k : Int) : Int := if a (tx_nx a k) = 42 then tx_nm a (tx_nx a k + 1) (0 : Int32).toInt (99 : Int32).toInt else tx_nx a k
/-- from the end of its hands on -/
noncomputable def tx_r1 (a : Int → Int) (k : Int) : Int := if a (tx_nx a k) = 43 ∨ a (tx_nx a k) = 45 then (if tx_nm a (tx_nx a k + 1) (0 : Int32).toInt (30 : Int32).toInt < 0 then -1 else tx_r2 a (tx_nm a (tx_nx a k + 1) (0 : Int32).toInt (30 : Int32).toInt)) else tx_r2 a (tx_nx a k)
/-- whole: where it ends, or -1 -/
noncomputable def tx_rc (a : Int → Int) (k : Int) : Int := if tx_kn (a (tx_nx a k)) = 1 then (if tx_nm a (tx_nx a k + 1) (0 : Int32).toInt (719 : Int32).toInt < 0 then -1 else tx_r1 a (tx_nm a (tx_nx a k + 1) (0 : Int32).toInt (719 : Int32).toInt)) else -1
theorem tx_f0 {a : Int → Int} {k x c : Int} (h1 : tx_nx a k = x) (hc : c = a x) (h2 : tx_kn c = 0) : tx_rc a k = -1 := by
  unfold tx_rc
  rw [h1, ← hc, h2]
  exact if_neg (by omega)
theorem tx_f1 {a : Int → Int} {k x c z : Int} (h1 : tx_nx a k = x) (hc : c = a x) (h2 : tx_kn c = 1) (h3 : z = x + 1) (h4 : tx_nm a z (0 : Int32).toInt (719 : Int32).toInt = -1) : tx_rc a k = -1 := by
  unfold tx_rc
  rw [h1, ← hc, if_pos h2, ← h3, h4]
  exact if_pos (by omega)
theorem tx_g1 {a : Int → Int} {k x c z y : Int} (h1 : tx_nx a k = x) (hc : c = a x) (h2 : tx_kn c = 1) (h3 : z = x + 1) (h4 : tx_nm a z (0 : Int32).toInt (719 : Int32).toInt = y) (h5 : 0 ≤ y) : tx_rc a k = tx_r1 a y := by
  unfold tx_rc
  rw [h1, ← hc, if_pos h2, ← h3, h4]
  exact if_neg (by omega)
theorem tx_ga {a : Int → Int} {k x c z y w u : Int} (h1 : tx_nx a k = x) (hc : c = a x) (h2 : tx_kn c = 1) (h3 : z = x + 1) (h4 : tx_nm a z (0 : Int32).toInt (719 : Int32).toInt = y) (h5 : 0 ≤ y) (h6 : tx_nx a y = w) (h7 : ¬ a w = 43) (h8 : ¬ a w = 45) (h9 : u = w) : tx_rc a k = tx_r2 a u := by
  rw [tx_g1 h1 hc h2 h3 h4 h5, h9]
  unfold tx_r1
  rw [h6]
  exact if_neg (by omega)
theorem tx_gb {a : Int → Int} {k x c z y w v u : Int} (h1 : tx_nx a k = x) (hc : c = a x) (h2 : tx_kn c = 1) (h3 : z = x + 1) (h4 : tx_nm a z (0 : Int32).toInt (719 : Int32).toInt = y) (h5 : 0 ≤ y) (h6 : tx_nx a y = w) (h7 : a w = 43 ∨ a w = 45) (h8 : v = w + 1) (h9 : tx_nm a v (0 : Int32).toInt (30 : Int32).toInt = u) (h10 : 0 ≤ u) : tx_rc a k = tx_r2 a u := by
  rw [tx_g1 h1 hc h2 h3 h4 h5]
  unfold tx_r1
  rw [h6, if_pos h7, ← h8, h9]
  exact if_neg (by omega)
theorem tx_f2 {a : Int → Int} {k x c z y w v : Int} (h1 : tx_nx a k = x) (hc : c = a x) (h2 : tx_kn c = 1) (h3 : z = x + 1) (h4 : tx_nm a z (0 : Int32).toInt (719 : Int32).toInt = y) (h5 : 0 ≤ y) (h6 : tx_nx a y = w) (h7 : a w = 43 ∨ a w = 45) (h8 : v = w + 1) (h9 : tx_nm a v (0 : Int32).toInt (30 : Int32).toInt = -1) : tx_rc a k = -1 := by
  rw [tx_g1 h1 hc h2 h3 h4 h5]
  unfold tx_r1
  rw [h6, if_pos h7, ← h8, h9]
  exact if_pos (by omega)
theorem tx_gB {a : Int → Int} {k x c z y w v u r : Int} (h1 : tx_nx a k = x) (hc : c = a x) (h2 : tx_kn c = 1) (h3 : z = x + 1) (h4 : tx_nm a z (0 : Int32).toInt (719 : Int32).toInt = y) (h5 : 0 ≤ y) (h6 : tx_nx a y = w) (h7 : a w = 43 ∨ a w = 45) (h8 : v = w + 1) (h9 : (r = -1 ∧ tx_nm a v (0 : Int32).toInt (30 : Int32).toInt = -1) ∨ (0 ≤ r ∧ tx_nm a v (0 : Int32).toInt (30 : Int32).toInt = u)) (h10 : 0 ≤ u) : (r < 0 ∧ tx_rc a k = -1) ∨ (0 ≤ r ∧ tx_rc a k = tx_r2 a u) := by
  rcases h9 with ⟨e, q⟩ | ⟨e, q⟩
  · exact Or.inl ⟨by omega, tx_f2 h1 hc h2 h3 h4 h5 h6 h7 h8 q⟩
  · exact Or.inr ⟨e, tx_gb h1 hc h2 h3 h4 h5 h6 h7 h8 q h10⟩
theorem tx_e0 {a : Int → Int} {k x y : Int} (h : tx_rc a k = tx_r2 a x) (h1 : tx_nx a x = y) (h2 : ¬ a y = 42) : tx_rc a k = y := by
  rw [h]
  unfold tx_r2
  rw [h1]
  exact if_neg h2
theorem tx_e1 {a : Int → Int} {k x y z u : Int} (h : tx_rc a k = tx_r2 a x) (h1 : tx_nx a x = y) (h2 : a y = 42) (h3 : z = y + 1) (h4 : tx_nm a z (0 : Int32).toInt (99 : Int32).toInt = u) : tx_rc a k = u := by
  rw [h]
  unfold tx_r2
  rw [h1, if_pos h2, ← h3]
  exact h4
/-- a STREET's text: how many CLOCKS, or -1 -/
noncomputable def tx_st (a : Int → Int) : Nat → Int → Int → Int
  | 0, _, _ => -1
  | m + 1, k, c => if tx_rc a k < 0 then -1 else if a (tx_nx a (tx_rc a k)) = -1 then c + 1 else if a (tx_nx a (tx_rc a k)) = 44 then tx_st a m (tx_nx a (tx_rc a k) + 1) (c + 1) else -1
theorem tx_st_s {a : Int → Int} {n : Nat} {k c : Int} (hn : 0 < n) : tx_st a n k c = if tx_rc a k < 0 then -1 else if a (tx_nx a (tx_rc a k)) = -1 then c + 1 else if a (tx_nx a (tx_rc a k)) = 44 then tx_st a (n - 1) (tx_nx a (tx_rc a k) + 1) (c + 1) else -1 := by
  match n, hn with
  | m + 1, _ => rfl
theorem tx_s_0 {a : Int → Int} {T k c : Int} {n : Nat} (h : T = tx_st a n k c) (hn : n = 0) : T = -1 := by
  rw [h, hn]; rfl
theorem tx_s_n {a : Int → Int} {T k c : Int} {n : Nat} (h : T = tx_st a n k c) (hn : 0 < n) (h1 : tx_rc a k = -1) : T = -1 := by
  rw [h, tx_st_s hn, h1]
  exact if_pos (by omega)
theorem tx_s_e {a : Int → Int} {T k c x y r : Int} {n : Nat} (h : T = tx_st a n k c) (hn : 0 < n) (h1 : tx_rc a k = x) (h2 : 0 ≤ x) (h3 : tx_nx a x = y) (h4 : a y = -1) (hr : r = c + 1) : T = r := by
  rw [h, tx_st_s hn, h1, if_neg (by omega), h3, if_pos h4, hr]
theorem tx_s_x {a : Int → Int} {T k c x y : Int} {n : Nat} (h : T = tx_st a n k c) (hn : 0 < n) (h1 : tx_rc a k = x) (h2 : 0 ≤ x) (h3 : tx_nx a x = y) (h4 : ¬ a y = -1) (h5 : ¬ a y = 44) : T = -1 := by
  rw [h, tx_st_s hn, h1, if_neg (by omega), h3, if_neg h4, if_neg h5]
theorem tx_s_g {a : Int → Int} {T k c x y z d : Int} {n m : Nat} (h : T = tx_st a n k c) (hn : n = m + 1) (h1 : tx_rc a k = x) (h2 : 0 ≤ x) (h3 : tx_nx a x = y) (h4 : a y = 44) (hz : z = y + 1) (hd : d = c + 1) : T = tx_st a m z d := by
  rw [h, tx_st_s (by omega), h1, if_neg (by omega), h3, if_neg (by omega), if_pos h4, hz, hd, show n - 1 = m by omega]
theorem tx_s_l {a : Int → Int} {T k c x y : Int} {n : Nat} (h : T = tx_st a n k c) (hn : n = 1) (h1 : tx_rc a k = x) (h2 : 0 ≤ x) (h3 : tx_nx a x = y) (h4 : ¬ a y = -1) : T = -1 := by
  by_cases q : a y = 44
  · exact tx_s_0 (tx_s_g (m := 0) h hn h1 h2 h3 q rfl rfl) rfl
  · exact tx_s_x h (by omega) h1 h2 h3 h4 q
theorem tx_s_m {a : Int → Int} {T k c x y z d : Int} {n m : Nat} (h : T = tx_st a n k c) (hn : n = 1) (h1 : tx_rc a k = x) (h2 : 0 ≤ x) (h3 : tx_nx a x = y) (h4 : ¬ a y = -1) (hm : m = 0) : T = tx_st a m z d := by
  rw [tx_s_l h hn h1 h2 h3 h4, hm]; rfl
/-! ===== a sign among the letters of a String ===== -/
def tx_by (i : Nat) (r : Int) : Int := ((STB.getD i []).getD r.toNat 0).toInt
def tx_nb (i : Nat) (c n : Int) : Prop := ∀ j : Int, 0 ≤ j → j < n → ¬ tx_by i j = c
def tx_Q (i : Nat) (c n r : Int) : Prop := (r = -1 ∧ tx_nb i c n) ∨ (0 ≤ r ∧ r < n ∧ tx_nb i c r ∧ tx_by i r = c)
theorem tx_nb_0 {i : Nat} {c n : Int} (h : n ≤ 0) : tx_nb i c n := fun j h0 h1 => by omega
theorem tx_nb_s {i : Nat} {c : Int} {x z w : Int32} (h : tx_nb i c x.toInt) (h0 : 0 ≤ x.toInt) (hz : z.toInt = x.toInt + 1) (hw : w.toInt = c) (hn : ¬ ((STB.getD i []).getD (Int32.toNatClampNeg x) 0).toInt = w.toInt) : tx_nb i c z.toInt := by
  intro j h1 h2
  by_cases e : j = x.toInt
  · rw [e, ← hw]; exact hn
  · exact h j h1 (by omega)
theorem tx_Q_n {i : Nat} {c n r x : Int} (h : tx_nb i c x) (hx : n ≤ x) (hr : r = -1) : tx_Q i c n r := Or.inl ⟨hr, fun j h0 h1 => h j h0 (by omega)⟩
theorem tx_Q_y {i : Nat} {c n : Int} {x w : Int32} (h : tx_nb i c x.toInt) (h0 : 0 ≤ x.toInt) (h1 : x.toInt < n) (hw : w.toInt = c) (he : ((STB.getD i []).getD (Int32.toNatClampNeg x) 0).toInt = w.toInt) : tx_Q i c n x.toInt := Or.inr ⟨h0, h1, h, by rw [← hw]; exact he⟩
theorem tx_stl {i : Nat} (h : i < 3) : 4 ≤ STL.getD i 0 ∧ STL.getD i 0 ≤ 13 := by
  rcases (show i = 0 ∨ i = 1 ∨ i = 2 by omega) with rfl | rfl | rfl <;> decide
theorem tx_len {i : Nat} {r : Int32} (h : i < 3) (hr : r.toInt = 0) : ((Int32.ofNat (STL.getD i 0)) >>> (r &&& 31)).toInt = ((STL.getD i 0 : Nat) : Int) := by
  obtain rfl : r = 0 := Int32.toInt_inj.mp hr
  rcases (show i = 0 ∨ i = 1 ∨ i = 2 by omega) with rfl | rfl | rfl <;> decide
theorem tx_b127 : ∀ n : Fin 127, UInt32.toInt32 (Int32.toUInt32 (Int32.ofInt ((n.val : Nat) : Int)) % 65536) = Int32.ofInt ((n.val : Nat) : Int) ∧ Int8.toInt32 (Int32.toInt8 (Int32.ofInt ((n.val : Nat) : Int))) = Int32.ofInt ((n.val : Nat) : Int) := by
  decide +kernel
theorem tx_of {r : Int32} (h0 : 0 ≤ r.toInt) : r = Int32.ofInt ((r.toInt.toNat : Nat) : Int) := by
  rw [Int.toNat_of_nonneg h0, Int32.ofInt_toInt]
theorem tx_u16 {r : Int32} (h0 : 0 ≤ r.toInt) (h1 : r.toInt ≤ 126) : (UInt32.toInt32 (Int32.toUInt32 r % 65536)).toInt = r.toInt := by
  have e := tx_of h0
  have k := (tx_b127 ⟨r.toInt.toNat, by omega⟩).1
  rw [← e] at k
  rw [k]
theorem tx_i8 {r : Int32} (h0 : 0 ≤ r.toInt) (h1 : r.toInt ≤ 126) : (Int8.toInt32 (Int32.toInt8 r)).toInt = r.toInt := by
  have e := tx_of h0
  have k := (tx_b127 ⟨r.toInt.toNat, by omega⟩).2
  rw [← e] at k
  rw [k]
theorem tx_kq {c d r : Int} (h : tx_Q 2 d ((STL.getD 2 0 : Nat) : Int) r) (hc : d = c) : (r < 0 ∧ tx_kn c = 0) ∨ (0 ≤ r ∧ tx_kn c = 1) := by
  subst hc
  have hl : ((STL.getD 2 0 : Nat) : Int) = 6 := rfl
  rw [hl] at h
  rcases h with ⟨h1, h2⟩ | ⟨h1, h2, _, h3⟩
  · have a0 : ¬ (112 : Int) = d := h2 0 (by omega) (by omega)
    have a1 : ¬ (99 : Int) = d := h2 1 (by omega) (by omega)
    have a2 : ¬ (111 : Int) = d := h2 2 (by omega) (by omega)
    have a3 : ¬ (100 : Int) = d := h2 3 (by omega) (by omega)
    have a4 : ¬ (116 : Int) = d := h2 4 (by omega) (by omega)
    have a5 : ¬ (109 : Int) = d := h2 5 (by omega) (by omega)
    exact Or.inl ⟨by omega, tx_kn_0 (by omega)⟩
  · refine Or.inr ⟨h1, tx_kn_1 ?_⟩
    rcases (show r = 0 ∨ r = 1 ∨ r = 2 ∨ r = 3 ∨ r = 4 ∨ r = 5 by omega) with rfl | rfl | rfl | rfl | rfl | rfl
    · have e : (112 : Int) = d := h3
      omega
    · have e : (99 : Int) = d := h3
      omega
    · have e : (111 : Int) = d := h3
      omega
    · have e : (100 : Int) = d := h3
      omega
    · have e : (116 : Int) = d := h3
      omega
    · have e : (109 : Int) = d := h3
      omega
