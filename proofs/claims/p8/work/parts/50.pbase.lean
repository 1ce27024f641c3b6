/-! ===== numbers ===== -/
theorem bmod_in {x : Int} (h1 : -2147483648 ≤ x) (h2 : x ≤ 2147483647) : x.bmod (2 ^ 32) = x := by
  rw [Int.bmod_def]; split <;> omega
theorem bmod_in64 {x : Int} (h1 : -9223372036854775808 ≤ x) (h2 : x ≤ 9223372036854775807) : x.bmod (2 ^ 64) = x := by
  rw [Int.bmod_def]; split <;> omega
theorem ia {x y : Int32} {a b : Int} (hx : x.toInt = a) (hy : y.toInt = b) (h1 : -2147483648 ≤ a + b) (h2 : a + b ≤ 2147483647) : (x + y).toInt = a + b := by
  rw [Int32.toInt_add, hx, hy, bmod_in h1 h2]
theorem isb {x y : Int32} {a b : Int} (hx : x.toInt = a) (hy : y.toInt = b) (h1 : -2147483648 ≤ a - b) (h2 : a - b ≤ 2147483647) : (x - y).toInt = a - b := by
  rw [Int32.toInt_sub, hx, hy, bmod_in h1 h2]
theorem im {x y : Int32} {a b : Int} (hx : x.toInt = a) (hy : y.toInt = b) (h1 : -2147483648 ≤ a * b) (h2 : a * b ≤ 2147483647) : (x * y).toInt = a * b := by
  rw [Int32.toInt_mul, hx, hy, bmod_in h1 h2]
theorem idv {x y : Int32} {a b : Int} (hx : x.toInt = a) (hy : y.toInt = b) (h1 : 0 ≤ a) (h2 : 0 < b) : (x / y).toInt = a / b := by
  rw [Int32.toInt_div, hx, hy, Int.tdiv_eq_ediv_of_nonneg h1]
  have h3 := Int32.toInt_lt x
  have h4 : a / b ≤ a := Int.ediv_le_self b h1
  have h5 : 0 ≤ a / b := Int.ediv_nonneg h1 (Int.le_of_lt h2)
  rw [hx] at h3
  exact bmod_in (by omega) (by omega)
theorem irm {x y : Int32} {a b : Int} (hx : x.toInt = a) (hy : y.toInt = b) (h1 : 0 ≤ a) (h2 : 0 < b) : (x - x / y * y).toInt = a % b := by
  have h3 := Int32.toInt_lt x
  rw [hx] at h3
  have h6 := idv hx hy h1 h2
  have h4 : a / b * b + a % b = a := by rw [Int.mul_comm]; exact Int.mul_ediv_add_emod a b
  have h5 : 0 ≤ a / b * b := Int.mul_nonneg (Int.ediv_nonneg h1 (Int.le_of_lt h2)) (Int.le_of_lt h2)
  have h7 : 0 ≤ a % b := Int.emod_nonneg a (by omega)
  have h8 : (x / y * y).toInt = a / b * b := im h6 hy (by omega) (by omega)
  rw [isb hx h8 (by omega) (by omega)]
  omega
theorem irb {x y : Int32} {a b : Int} (hx : x.toInt = a) (hy : y.toInt = b) (h1 : 0 ≤ a) (h2 : 0 < b) : 0 ≤ (x - x / y * y).toInt ∧ (x - x / y * y).toInt < b := by
  rw [irm hx hy h1 h2]
  exact ⟨Int.emod_nonneg a (by omega), Int.emod_lt_of_pos a h2⟩
theorem ieq {x y : Int32} {a b : Int} (hx : x.toInt = a) (hy : y.toInt = b) (h : x = y) : a = b := by rw [← hx, ← hy, h]
theorem ine {x y : Int32} {a b : Int} (hx : x.toInt = a) (hy : y.toInt = b) (h : ¬ x = y) : ¬ a = b := fun e => h (Int32.toInt_inj.mp (by rw [hx, hy, e]))
theorem ile {x y : Int32} {a b : Int} (hx : x.toInt = a) (hy : y.toInt = b) (h : x ≤ y) : a ≤ b := by rw [← hx, ← hy]; exact Int32.le_iff_toInt_le.mp h
theorem inle {x y : Int32} {a b : Int} (hx : x.toInt = a) (hy : y.toInt = b) (h : ¬ x ≤ y) : b < a := by
  rw [← hx, ← hy]; exact Int.not_le.mp (fun e => h (Int32.le_iff_toInt_le.mpr e))
theorem ilt {x y : Int32} {a b : Int} (hx : x.toInt = a) (hy : y.toInt = b) (h : x < y) : a < b := by rw [← hx, ← hy]; exact Int32.lt_iff_toInt_lt.mp h
theorem inlt {x y : Int32} {a b : Int} (hx : x.toInt = a) (hy : y.toInt = b) (h : ¬ x < y) : b ≤ a := by
  rw [← hx, ← hy]; exact Int.not_lt.mp (fun e => h (Int32.lt_iff_toInt_lt.mpr e))
theorem ivp {x : Int32} {a : Int} {n : Nat} (hx : x.toInt = a) (h1 : 0 ≤ a) (h2 : a < n) : vp_in x n := vp_in_iff.mpr (by rw [hx]; exact ⟨h1, h2⟩)
theorem itn {x : Int32} {a : Int} (hx : x.toInt = a) (h1 : 0 ≤ a) : ((Int32.toNatClampNeg x : Nat) : Int) = a := by
  rw [← hx]; show ((x.toInt.toNat : Nat) : Int) = x.toInt
  rw [hx]; omega
theorem i2l {x : Int32} {a : Int} (hx : x.toInt = a) : (Int32.toInt64 x).toInt = a := by rw [Int32.toInt_toInt64, hx]
theorem lad {x y : Int64} {a b : Int} (hx : x.toInt = a) (hy : y.toInt = b) (h1 : -9223372036854775808 ≤ a + b) (h2 : a + b ≤ 9223372036854775807) : (x + y).toInt = a + b := by
  rw [Int64.toInt_add, hx, hy, bmod_in64 h1 h2]
theorem lsb {x y : Int64} {a b : Int} (hx : x.toInt = a) (hy : y.toInt = b) (h1 : -9223372036854775808 ≤ a - b) (h2 : a - b ≤ 9223372036854775807) : (x - y).toInt = a - b := by
  rw [Int64.toInt_sub, hx, hy, bmod_in64 h1 h2]
theorem lcm {x y : Int64} {a b : Int} (hx : x.toInt = a) (hy : y.toInt = b) : ((lg_cmp x y).toInt = 1 ∧ b < a) ∨ ((lg_cmp x y).toInt = 0 ∧ a = b) ∨ ((lg_cmp x y).toInt = -1 ∧ a < b) := by
  unfold lg_cmp
  by_cases h1 : x > y
  · rw [if_pos h1]; exact Or.inl ⟨rfl, by rw [← hx, ← hy]; exact Int64.lt_iff_toInt_lt.mp h1⟩
  · rw [if_neg h1]
    by_cases h2 : x = y
    · rw [if_pos h2]; exact Or.inr (Or.inl ⟨rfl, by rw [← hx, ← hy, h2]⟩)
    · rw [if_neg h2]
      refine Or.inr (Or.inr ⟨rfl, ?_⟩)
      have h3 : ¬ y.toInt < x.toInt := fun e => h1 (Int64.lt_iff_toInt_lt.mpr e)
      have h4 : ¬ x.toInt = y.toInt := fun e => h2 (Int64.toInt_inj.mp e)
      omega
theorem iit {x y p q : Int32} {a b c d : Int} (hx : x.toInt = a) (hy : y.toInt = b) (hp : p.toInt = c) (hq : q.toInt = d) : (a < b ∧ (if x < y then p else q).toInt = c) ∨ (b ≤ a ∧ (if x < y then p else q).toInt = d) := by
  by_cases h : x < y
  · rw [if_pos h]; exact Or.inl ⟨ilt hx hy h, hp⟩
  · rw [if_neg h]; exact Or.inr ⟨inlt hx hy h, hq⟩
theorem i1s {x : Int32} {a : Int} (hx : x.toInt = a) (h1 : 0 ≤ a) (h2 : a ≤ 9) : 1 ≤ (1 <<< (x &&& 31) : Int32).toInt ∧ (1 <<< (x &&& 31) : Int32).toInt ≤ 512 ∧ (a = 0 → (1 <<< (x &&& 31) : Int32).toInt = 1) := by
  have e : x = Int32.ofInt a := by rw [← hx, Int32.ofInt_toInt]
  rw [e]
  rcases (show a = 0 ∨ a = 1 ∨ a = 2 ∨ a = 3 ∨ a = 4 ∨ a = 5 ∨ a = 6 ∨ a = 7 ∨ a = 8 ∨ a = 9 by omega) with rfl | rfl | rfl | rfl | rfl | rfl | rfl | rfl | rfl | rfl <;> decide
theorem i63 (x : Int32) : 0 ≤ (x &&& 63).toInt := by
  have h : (x &&& 63).toInt = ((x.toBitVec &&& 63#32).toInt) := rfl
  rw [h, BitVec.toInt_eq_toNat_of_lt]
  · omega
  · rw [BitVec.toNat_and]
    have : (63#32).toNat = 63 := rfl
    rw [this]
    have := Nat.and_le_right (n := x.toBitVec.toNat) (m := 63)
    omega
theorem i01 {x : Int32} {a : Int} (hx : x.toInt = a) (h : a = 0 ∨ a = 1) : x = 0 ∨ x = 1 := by
  rcases h with h | h
  · exact Or.inl (Int32.toInt_inj.mp (by rw [hx, h]; rfl))
  · exact Or.inr (Int32.toInt_inj.mp (by rw [hx, h]; rfl))
/-! ===== rows of numbers ===== -/
theorem upd_eq {f : Nat → Int32} {k : Nat} {v : Int32} : upd f k v k = v := if_pos rfl
theorem upd_ne {f : Nat → Int32} {k j : Nat} {v : Int32} (h : j ≠ k) : upd f k v j = f j := if_neg h
def AB (f : Nat → Int32) (s n lo hi : Int) : Prop := ∀ j : Nat, s ≤ (j : Int) → (j : Int) < s + n → lo ≤ (f j).toInt ∧ (f j).toInt ≤ hi
theorem AB.get {f : Nat → Int32} {s n lo hi : Int} {i : Int32} {a : Int} (h : AB f s n lo hi) (hia : i.toInt = a) (h0 : 0 ≤ a) (h1 : s ≤ a) (h2 : a < s + n) : lo ≤ (f (Int32.toNatClampNeg i)).toInt ∧ (f (Int32.toNatClampNeg i)).toInt ≤ hi := by
  have e := itn hia h0
  exact h _ (by omega) (by omega)
theorem AB.updv {f : Nat → Int32} {s n lo hi : Int} {k : Nat} {v : Int32} {a : Int} (h : AB f s n lo hi) (hv : v.toInt = a) (h1 : lo ≤ a) (h2 : a ≤ hi) : AB (upd f k v) s n lo hi := by
  intro j h3 h4
  by_cases e : j = k
  · subst e; rw [upd_eq, hv]; exact ⟨h1, h2⟩
  · rw [upd_ne e]; exact h j h3 h4
theorem AB.updo {f : Nat → Int32} {s n lo hi : Int} {k : Nat} {v : Int32} (h : AB f s n lo hi) (h1 : (k : Int) < s ∨ s + n ≤ k) : AB (upd f k v) s n lo hi := by
  intro j h3 h4
  rw [upd_ne (by omega)]; exact h j h3 h4
theorem AB.push {f : Nat → Int32} {s n lo hi : Int} {k : Nat} {v : Int32} {a : Int} (h : AB f s n lo hi) (hk : (k : Int) = s + n) (hv : v.toInt = a) (h1 : lo ≤ a) (h2 : a ≤ hi) : AB (upd f k v) s (n + 1) lo hi := by
  intro j h3 h4
  by_cases e : j = k
  · subst e; rw [upd_eq, hv]; exact ⟨h1, h2⟩
  · rw [upd_ne e]; exact h j h3 (by omega)
theorem AB.mono {f : Nat → Int32} {s n lo hi s2 n2 lo2 hi2 : Int} (h : AB f s n lo hi) (h1 : s ≤ s2) (h2 : s2 + n2 ≤ s + n) (h3 : lo2 ≤ lo) (h4 : hi ≤ hi2) : AB f s2 n2 lo2 hi2 := by
  intro j h5 h6
  have := h j (by omega) (by omega)
  omega
theorem AB.none {f : Nat → Int32} {s n lo hi : Int} (h : n ≤ 0) : AB f s n lo hi := fun j h1 h2 => by omega
theorem AB.cpy {f g : Nat → Int32} {n lo hi : Int} {k : Nat} (h : AB f 0 n lo hi) (h1 : n ≤ k) : AB (va_cpy f g 0 0 k) 0 n lo hi := by
  intro j h3 h4
  unfold va_cpy
  rw [if_pos (by omega)]
  have := h (0 + (j - 0)) (by omega) (by omega)
  exact this
theorem AB.cpy2 {f g : Nat → Int32} {n m lo hi : Int} {k : Nat} (h : AB f 0 m lo hi) (hg : AB g 0 n lo hi) (h1 : (k : Int) ≤ m) : AB (va_cpy f g 0 0 k) 0 n lo hi := by
  intro j h3 h4
  unfold va_cpy
  by_cases hj : 0 ≤ j ∧ j < 0 + k
  · rw [if_pos hj]
    exact h (0 + (j - 0)) (by omega) (by omega)
  · rw [if_neg hj]
    exact hg j h3 h4
theorem cp_le {x : Int32} {a : Int} {n : Nat} (hx : x.toInt = a) (h0 : 0 ≤ a) (h1 : a ≤ n) : Int32.toNatClampNeg 0 + Int32.toNatClampNeg x ≤ n := by
  have := itn hx h0
  have e : Int32.toNatClampNeg 0 = 0 := rfl
  omega
theorem AB.fl {x : Int32} {f : Nat → Int32} {n : Nat} {m lo hi : Int} (h0 : m ≤ n) (h1 : lo ≤ x.toInt) (h2 : x.toInt ≤ hi) : AB (fl x f n) 0 m lo hi := by
  intro j h3 h4
  rw [fl_at, if_pos (by omega)]
  exact ⟨h1, h2⟩
theorem AB.const {x : Int32} {s n lo hi : Int} (h1 : lo ≤ x.toInt) (h2 : x.toInt ≤ hi) : AB (fun _ => x) s n lo hi := fun _ _ _ => ⟨h1, h2⟩
theorem updc {f : Nat → Int32} {k c : Nat} {v : Int32} {a b : Int} (hk : (k : Int) = a) (hv : v.toInt = b) : (a = (c : Int) ∧ (upd f k v c).toInt = b) ∨ (¬ a = (c : Int) ∧ (upd f k v c).toInt = (f c).toInt) := by
  by_cases e : c = k
  · subst e; exact Or.inl ⟨hk.symm, by rw [upd_eq, hv]⟩
  · exact Or.inr ⟨by omega, by rw [upd_ne e]⟩
theorem rdc {f : Nat → Int32} {i c : Int32} {a b : Int} (hi : i.toInt = a) (hc : c.toInt = b) : a = b → (f (Int32.toNatClampNeg i)).toInt = (f (Int32.toNatClampNeg c)).toInt := by
  intro h
  rw [show i = c from Int32.toInt_inj.mp (by rw [hi, hc, h])]
theorem isbi {x y : Int32} {b : Int} (hy : y.toInt = b) : 2147483647 < (x - y).toInt + b ∨ (x - y).toInt + b < -2147483648 ∨ x.toInt = (x - y).toInt + b := by
  by_cases h1 : 2147483647 < (x - y).toInt + b
  · exact Or.inl h1
  · by_cases h2 : (x - y).toInt + b < -2147483648
    · exact Or.inr (Or.inl h2)
    · refine Or.inr (Or.inr ?_)
      have e := ia (x := x - y) (y := y) rfl hy (by omega) (by omega)
      rw [Int32.sub_add_cancel] at e
      exact e
