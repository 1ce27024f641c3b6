/-! ===== weather as a text ===== -/
def tx_sv (c : Int) : Int := if c = 115 then 0 else if c = 114 then 1 else if c = 119 then 2 else if c = 110 then 3 else -1
theorem tx_sv_s {c r : Int} (h : (c = 115 ∧ r = 0) ∨ (c = 114 ∧ r = 1) ∨ (c = 119 ∧ r = 2) ∨ (c = 110 ∧ r = 3) ∨ (¬ c = 115 ∧ ¬ c = 114 ∧ ¬ c = 119 ∧ ¬ c = 110 ∧ r = -1)) : r = tx_sv c := by
  unfold tx_sv
  rcases h with ⟨h, e⟩ | ⟨h, e⟩ | ⟨h, e⟩ | ⟨h, e⟩ | ⟨h1, h2, h3, h4, e⟩
  · rw [if_pos h, e]
  · rw [if_neg (by omega), if_pos h, e]
  · rw [if_neg (by omega), if_neg (by omega), if_pos h, e]
  · rw [if_neg (by omega), if_neg (by omega), if_neg (by omega), if_pos h, e]
  · rw [if_neg h1, if_neg h2, if_neg h3, if_neg h4, e]
theorem tx_sc {r c d : Int} (h : r = tx_sv c) (hc : c = d) : r = tx_sv d := by rw [h, hc]
theorem tx_sq {i : Nat} {c d r : Int} (hi : i = 1) (h : tx_Q i d ((STL.getD i 0 : Nat) : Int) r) (hc : d = c) : r = tx_sv c := by
  subst hi
  subst hc
  have hl : ((STL.getD 1 0 : Nat) : Int) = 4 := rfl
  rw [hl] at h
  apply tx_sv_s
  rcases h with ⟨h1, h2⟩ | ⟨h1, h2, _, h3⟩
  · have a0 : ¬ (115 : Int) = d := h2 0 (by omega) (by omega)
    have a1 : ¬ (114 : Int) = d := h2 1 (by omega) (by omega)
    have a2 : ¬ (119 : Int) = d := h2 2 (by omega) (by omega)
    have a3 : ¬ (110 : Int) = d := h2 3 (by omega) (by omega)
    omega
  · rcases (show r = 0 ∨ r = 1 ∨ r = 2 ∨ r = 3 by omega) with rfl | rfl | rfl | rfl
    · have e : (115 : Int) = d := h3
      omega
    · have e : (114 : Int) = d := h3
      omega
    · have e : (119 : Int) = d := h3
      omega
    · have e : (110 : Int) = d := h3
      omega
noncomputable def tx_sg (a : Int → Int) : Nat → Int → Int → Int
  | 0, k, c => if a (tx_nx a k) = -1 then c else -1
  | m + 1, k, c => if a (tx_nx a k) = -1 then c else if tx_sv (a (tx_nx a k)) < 0 then -1 else tx_sg a m (tx_nx a k + 1) (c + 1)
theorem tx_g_e {a : Int → Int} {T k c x : Int} {m : Nat} (h : T = tx_sg a m k c) (h1 : tx_nx a k = x) (h2 : a x = -1) : T = c := by
  rw [h]
  match m with
  | 0 => unfold tx_sg; rw [h1]; exact if_pos h2
  | m + 1 => unfold tx_sg; rw [h1]; exact if_pos h2
theorem tx_g_x {a : Int → Int} {T k c x : Int} {m : Nat} (h : T = tx_sg a m k c) (hm : m = 0) (h1 : tx_nx a k = x) (h2 : ¬ a x = -1) : T = -1 := by
  rw [h, hm]; unfold tx_sg; rw [h1]; exact if_neg h2
theorem tx_g_n {a : Int → Int} {T k c x : Int} {m : Nat} (h : T = tx_sg a m k c) (h1 : tx_nx a k = x) (h2 : ¬ a x = -1) (h3 : tx_sv (a x) < 0) : T = -1 := by
  rw [h]
  match m with
  | 0 => unfold tx_sg; rw [h1]; exact if_neg h2
  | m + 1 => unfold tx_sg; rw [h1, if_neg h2]; exact if_pos h3
theorem tx_g_g {a : Int → Int} {T k c x z d : Int} {m m' : Nat} (h : T = tx_sg a m k c) (hm : m = m' + 1) (h1 : tx_nx a k = x) (h2 : ¬ a x = -1) (h3 : 0 ≤ tx_sv (a x)) (hz : z = x + 1) (hd : d = c + 1) : T = tx_sg a m' z d := by
  rw [h, hm, hz, hd]
  show (if a (tx_nx a k) = -1 then c else if tx_sv (a (tx_nx a k)) < 0 then -1 else tx_sg a m' (tx_nx a k + 1) (c + 1)) = _
  rw [h1, if_neg h2]; exact if_neg (by omega)
/-- where the signs stand -/
noncomputable def tx_ps (a : Int → Int) : Nat → Int
  | 0 => tx_nx a 0
  | j + 1 => tx_nx a (tx_ps a j + 1)
theorem tx_ps_s {a : Int → Int} {k k' y : Int} {x z : Int32} (hp : tx_nx a k = tx_ps a x.toInt.toNat) (h1 : tx_nx a k = y) (hk : k' = y + 1) (h0 : 0 ≤ x.toInt) (hz : z.toInt = x.toInt + 1) : tx_nx a k' = tx_ps a z.toInt.toNat := by
  rw [show z.toInt.toNat = x.toInt.toNat + 1 by omega, hk, ← h1, hp]
  rfl
def tx_SR (a : Int → Int) (n : Int) (F : Nat → Int32) : Prop := ∀ j : Nat, (j : Int) < n → (F j).toInt = tx_sv (a (tx_ps a j))
theorem tx_SR_0 {a : Int → Int} {n : Int} {F : Nat → Int32} (h : n ≤ 0) : tx_SR a n F := fun j hj => by omega
theorem tx_SR_s {a : Int → Int} {k y : Int} {x z v : Int32} {F G : Nat → Int32} (h : tx_SR a x.toInt F) (h0 : 0 ≤ x.toInt) (hz : z.toInt = x.toInt + 1) (hf : G = upd F (Int32.toNatClampNeg x) v) (hp : tx_nx a k = tx_ps a x.toInt.toNat) (h1 : tx_nx a k = y) (hv : v.toInt = tx_sv (a y)) : tx_SR a z.toInt G := by
  intro j hj
  have e0 := itn (x := x) rfl h0
  rw [hf]
  by_cases e : j = Int32.toNatClampNeg x
  · rw [e, upd_eq, hv, ← h1, hp]; rfl
  · rw [upd_ne e]; exact h j (by omega)
theorem tx_SR_e {a : Int → Int} {n m : Int} {f g : Nat → Int32} (h : tx_SR a n g) (e : EQ m f g) (hm : n ≤ m) : tx_SR a n f := by
  intro j hj
  rw [e j (by omega)]; exact h j hj
theorem sk_law {a b : Int → Int} {r7 r8 s1 s2 t1 t2 : Int32} {f F g G : Nat → Int32} {T7 T8 : Int} (u1 : (r7.toInt < 0 ∧ T7 ≤ 0 ∧ t1.toInt = s1.toInt) ∨ (1 ≤ r7.toInt ∧ T7 = r7.toInt ∧ t1.toInt = r7.toInt)) (u2 : (r7.toInt < 0 ∧ F = f) ∨ (0 ≤ r7.toInt ∧ tx_SR a r7.toInt F)) (w1 : (r8.toInt < 0 ∧ T8 ≤ 0 ∧ t2.toInt = s2.toInt) ∨ (1 ≤ r8.toInt ∧ T8 = r8.toInt ∧ t2.toInt = r8.toInt)) (w2 : (r8.toInt < 0 ∧ G = g) ∨ (0 ≤ r8.toInt ∧ tx_SR b r8.toInt G)) (hT : T7 = T8) (ha : a = b) (e : EQ s1.toInt f g) : EQ t1.toInt F G := by
  subst ha
  rcases u2 with ⟨u0, u3⟩ | ⟨u0, u3⟩ <;> rcases w2 with ⟨w0, w3⟩ | ⟨w0, w3⟩
  · rw [show t1.toInt = s1.toInt by omega, u3, w3]; exact e
  · omega
  · omega
  · rw [show t1.toInt = r7.toInt by omega]
    intro j hj
    exact Int32.toInt_inj.mp (by rw [u3 j hj, w3 j (by omega)])
/-- the weather of an hour -/
def wt_w (n : Int32) (f : Nat → Int32) (p : Int32) : Int32 := if 0 ≤ p.toInt ∧ p.toInt ≤ 9999 then f (Int32.toNatClampNeg (p - p / n * n)) else -1
theorem wt_0 {n p : Int32} {f : Nat → Int32} (h : ¬ (0 ≤ p.toInt ∧ p.toInt ≤ 9999)) : (-1 : Int32) = wt_w n f p := (if_neg h).symm
theorem wt_1 {n p r : Int32} {f : Nat → Int32} (h : 0 ≤ p.toInt ∧ p.toInt ≤ 9999) (hr : r = f (Int32.toNatClampNeg (p - p / n * n))) : r = wt_w n f p := by
  rw [hr]; exact (if_pos h).symm
theorem wt_cmp {r7 r8 n1 n2 p : Int32} {f g : Nat → Int32} (u : r7 = wt_w n1 f p) (w : r8 = wt_w n2 g p) (hn : n1.toInt = n2.toInt) (h1 : 1 ≤ n1.toInt) (e : EQ n1.toInt f g) : r7 = r8 := by
  obtain rfl : n1 = n2 := Int32.toInt_inj.mp hn
  rw [u, w]
  unfold wt_w
  by_cases h : 0 ≤ p.toInt ∧ p.toInt ≤ 9999
  · rw [if_pos h, if_pos h]
    have k1 := irb (x := p) (y := n1) rfl rfl h.1 (by omega)
    have k2 := itn (x := p - p / n1 * n1) rfl k1.1
    exact e _ (by omega)
  · rw [if_neg h, if_neg h]
