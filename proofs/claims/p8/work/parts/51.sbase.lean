/-! ===== rows that are held by more than bounds ===== -/
def RB (act whom : Nat → Int32) (n : Int) : Prop := ∀ k : Nat, (k : Int) < n → 0 ≤ (whom k).toInt ∧ (whom k).toInt ≤ 23 ∧ ((act k).toInt = 0 ∨ (act k).toInt = 1 ∨ (act k).toInt = 2 → (whom k).toInt ≤ 8)
theorem RB.none {act whom : Nat → Int32} {n : Int} (h : n ≤ 0) : RB act whom n := fun k hk => by omega
theorem RB.mono {act whom : Nat → Int32} {n m : Int} (h : RB act whom n) (h1 : m ≤ n) : RB act whom m := fun k hk => h k (by omega)
theorem RB.get {act whom : Nat → Int32} {n : Int} {i : Int32} {a : Int} (h : RB act whom n) (hi : i.toInt = a) (h0 : 0 ≤ a) (h1 : a < n) : 0 ≤ (whom (Int32.toNatClampNeg i)).toInt ∧ (whom (Int32.toNatClampNeg i)).toInt ≤ 23 ∧ ((act (Int32.toNatClampNeg i)).toInt = 0 ∨ (act (Int32.toNatClampNeg i)).toInt = 1 ∨ (act (Int32.toNatClampNeg i)).toInt = 2 → (whom (Int32.toNatClampNeg i)).toInt ≤ 8) := by
  have e := itn hi h0
  exact h _ (by omega)
theorem RB.updA {act whom : Nat → Int32} {n : Int} {k : Nat} {v : Int32} (h : RB act whom n) (h1 : n ≤ k) : RB (upd act k v) whom n := by
  intro j hj
  rw [upd_ne (by omega)]
  exact h j hj
theorem RB.pushW {act whom : Nat → Int32} {n : Int} {k : Nat} {v : Int32} {a : Int} (h : RB act whom n) (hk : (k : Int) = n) (hv : v.toInt = a) (h1 : 0 ≤ a) (h2 : a ≤ 23) (h3 : (act k).toInt = 0 ∨ (act k).toInt = 1 ∨ (act k).toInt = 2 → a ≤ 8) : RB act (upd whom k v) (n + 1) := by
  intro j hj
  by_cases e : j = k
  · subst e
    rw [upd_eq, hv]
    exact ⟨h1, h2, h3⟩
  · rw [upd_ne e]
    exact h j (by omega)
theorem RB.cpy {a w b v : Nat → Int32} {n : Int} {k : Nat} (h : RB a w n) (hk : n ≤ k) : RB (va_cpy a b 0 0 k) (va_cpy w v 0 0 k) n := by
  intro j hj
  unfold va_cpy
  rw [if_pos (by omega), if_pos (by omega)]
  exact h (0 + (j - 0)) (by omega)
theorem RB.shift {a w : Nat → Int32} {n : Int} {k : Nat} (h : RB a w (n + 1)) (hk : n ≤ k) : RB (va_cpy a a 1 0 k) (va_cpy w w 1 0 k) n := by
  intro j hj
  unfold va_cpy
  rw [if_pos (by omega), if_pos (by omega)]
  exact h (1 + (j - 0)) (by omega)
def UB (f : Nat → Int32) (n : Int) : Prop := ∀ k : Nat, (k : Int) < n → 0 ≤ (f (3 * k + 1)).toInt ∧ (f (3 * k + 1)).toInt ≤ 23 ∧ ((f (3 * k)).toInt = 0 ∨ (f (3 * k)).toInt = 1 ∨ (f (3 * k)).toInt = 2 → (f (3 * k + 1)).toInt ≤ 8)
theorem UB.none {f : Nat → Int32} {n : Int} (h : n ≤ 0) : UB f n := fun k hk => by omega
theorem UB.mono {f : Nat → Int32} {n m : Int} (h : UB f n) (h1 : m ≤ n) : UB f m := fun k hk => h k (by omega)
theorem UB.get {f : Nat → Int32} {n : Int} {i j : Int32} {a : Int} (h : UB f n) (hi : i.toInt = 3 * a) (hj : j.toInt = 3 * a + 1) (h0 : 0 ≤ a) (h1 : a < n) : 0 ≤ (f (Int32.toNatClampNeg j)).toInt ∧ (f (Int32.toNatClampNeg j)).toInt ≤ 23 ∧ ((f (Int32.toNatClampNeg i)).toInt = 0 ∨ (f (Int32.toNatClampNeg i)).toInt = 1 ∨ (f (Int32.toNatClampNeg i)).toInt = 2 → (f (Int32.toNatClampNeg j)).toInt ≤ 8) := by
  have e1 := itn hi (by omega)
  have e2 := itn hj (by omega)
  have q1 : Int32.toNatClampNeg i = 3 * a.toNat := by omega
  have q2 : Int32.toNatClampNeg j = 3 * a.toNat + 1 := by omega
  rw [q1, q2]
  exact h _ (by omega)
theorem UB.push {f : Nat → Int32} {n : Int} {k1 k2 k3 : Nat} {v1 v2 v3 : Int32} {a b : Int} (h : UB f n) (h0 : 0 ≤ n) (e1 : (k1 : Int) = 3 * n) (e2 : (k2 : Int) = 3 * n + 1) (e3 : (k3 : Int) = 3 * n + 2) (ha : v1.toInt = a) (hb : v2.toInt = b) (h1 : 0 ≤ b) (h2 : b ≤ 23) (h3 : a = 0 ∨ a = 1 ∨ a = 2 → b ≤ 8) : UB (upd (upd (upd f k1 v1) k2 v2) k3 v3) (n + 1) := by
  intro j hj
  by_cases e : (j : Int) = n
  · rw [upd_ne (by omega), show 3 * j + 1 = k2 by omega, upd_eq, upd_ne (by omega), upd_ne (by omega), show 3 * j = k1 by omega, upd_eq, ha, hb]
    exact ⟨h1, h2, h3⟩
  · rw [upd_ne (by omega), upd_ne (by omega), upd_ne (by omega), upd_ne (by omega), upd_ne (by omega), upd_ne (by omega)]
    exact h j (by omega)
/-- shifted by three, so far as it has come -/
def SH (f g : Nat → Int32) (x : Int) : Prop := ∀ j : Nat, ((j : Int) < x → g j = f (j + 3)) ∧ (x ≤ j → g j = f j)
theorem SH.start {f : Nat → Int32} {x : Int} (h : x = 0) : SH f f x := fun j => ⟨fun h1 => by omega, fun _ => rfl⟩
theorem SH.step {f g : Nat → Int32} {x : Int} {k k3 : Nat} {v : Int32} (h : SH f g x) (h0 : 0 ≤ x) (hk : (k : Int) = x) (hk3 : k3 = k + 3) (hv : v = g k3) : SH f (upd g k v) (x + 1) := by
  intro j
  refine ⟨fun h1 => ?_, fun h1 => ?_⟩
  · by_cases e : j = k
    · subst e
      rw [upd_eq, hv, hk3, (h (j + 3)).2 (by omega)]
    · rw [upd_ne e]; exact (h j).1 (by omega)
  · rw [upd_ne (by omega)]; exact (h j).2 (by omega)
theorem UB.shift {f g : Nat → Int32} (h : UB f 10) (hs : SH f g 27) : UB g 9 := by
  intro j hj
  rw [(hs (3 * j + 1)).1 (by omega), (hs (3 * j)).1 (by omega)]
  have := h (j + 1) (by omega)
  rw [show 3 * (j + 1) + 1 = 3 * j + 1 + 3 by omega, show 3 * (j + 1) = 3 * j + 3 by omega] at this
  exact this
/-- the first so many places alike -/
def EQ (n : Int) (f g : Nat → Int32) : Prop := ∀ j : Nat, (j : Int) < n → f j = g j
theorem EQ.none {f g : Nat → Int32} {n : Int} (h : n ≤ 0) : EQ n f g := fun j hj => by omega
theorem EQ.step {f g : Nat → Int32} {n : Int} {k : Nat} {v : Int32} (h : EQ n f g) (hk : (k : Int) = n) (hv : v = g k) : EQ (n + 1) (upd f k v) g := by
  intro j hj
  by_cases e : j = k
  · subst e; rw [upd_eq, hv]
  · rw [upd_ne e]; exact h j (by omega)
theorem EQ.mono {f g : Nat → Int32} {n m : Int} (h : EQ n f g) (h1 : m ≤ n) : EQ m f g := fun j hj => h j (by omega)
theorem AB.back {s0 a s1 : Nat → Int32} {s n lo hi : Int} (h1 : EQ 63 a s0) (h2 : EQ 63 s1 a) (h : AB s0 s n lo hi) (hn : s + n ≤ 63) : AB s1 s n lo hi := by
  intro j h3 h4
  rw [h2 j (by omega), h1 j (by omega)]
  exact h j h3 h4
theorem EQ.cell {s0 a s1 : Nat → Int32} {k : Nat} (h1 : EQ 63 a s0) (h2 : EQ 63 s1 a) (hk : k < 63) : (s1 k).toInt = (s0 k).toInt := by
  rw [h2 k (by omega), h1 k (by omega)]
theorem AB.eq {f g : Nat → Int32} {N s n lo hi : Int} (h1 : EQ N g f) (h : AB f s n lo hi) (hn : s + n ≤ N) : AB g s n lo hi := by
  intro j h3 h4
  rw [h1 j (by omega)]
  exact h j h3 h4
/-- what the reference keeps, if it keeps anything -/
def KV (b : Int32) (f : Nat → Int32) : Prop := ¬ b.toInt = 0 → 0 ≤ (f 135).toInt ∧ (f 135).toInt ≤ 9 ∧ 2 ≤ (f 136).toInt ∧ (f 136).toInt ≤ 24 ∧ 1 ≤ (f 137).toInt ∧ (f 137).toInt ≤ 12 ∧ 0 ≤ (f 138).toInt ∧ (f 138).toInt ≤ 6 ∧ 0 ≤ (f 139).toInt ∧ (f 139).toInt ≤ 10 ∧ 0 ≤ (f 60).toInt ∧ (f 60).toInt ≤ 9999 ∧ AB f 42 (f 135).toInt 0 ((f 136).toInt - 1) ∧ UB (fun j => f (105 + j)) (f 139).toInt
theorem stl13 (i : Nat) : STL.getD i 0 ≤ 13 := by
  match i with
  | 0 => decide
  | 1 => decide
  | 2 => decide
  | i + 3 => simp [STL]
/-- what the reference carries, by its place -/
def cvl (k : Nat) (st kinds rates : Nat → Int32) (clocks windows : Int32) (skyRow : Nat → Int32) (skyMany : Int32) (betOn stakes : Nat → Int32) (bets : Int32) (undos : Nat → Int32) (undoMany drawn : Int32) : Int32 :=
  if k < 63 then st k else if k < 72 then kinds (k - 63) else if k < 81 then rates (k - 72) else if k < 93 then skyRow (k - 81) else if k < 99 then betOn (k - 93) else if k < 105 then stakes (k - 99) else if k < 135 then undos (k - 105) else if k = 135 then clocks else if k = 136 then windows else if k = 137 then skyMany else if k = 138 then bets else if k = 139 then undoMany else drawn
/-- what a row of the reference refuses -/
def LR (r la rs a b c : Int) : Prop := (la < 0 ∧ ¬ la = a ∧ r = -11) ∨ (0 ≤ la ∧ ¬ la = a ∧ r = -12) ∨ (la = a ∧ ¬ (0 ≤ b ∧ b + c ≤ rs) ∧ r = -13) ∨ (la = a ∧ (0 ≤ b ∧ b + c ≤ rs) ∧ r = 0)
theorem g4h (a b c d j : Int) : ∃ z : Int, (¬ j = 0 ∨ z = a) ∧ (¬ j = 1 ∨ z = b) ∧ (¬ j = 2 ∨ z = c) ∧ (¬ j = 3 ∨ z = d) := by
  by_cases h0 : j = 0
  · exact ⟨a, by omega, by omega, by omega, by omega⟩
  · by_cases h1 : j = 1
    · exact ⟨b, by omega, by omega, by omega, by omega⟩
    · by_cases h2 : j = 2
      · exact ⟨c, by omega, by omega, by omega, by omega⟩
      · exact ⟨d, by omega, by omega, by omega, by omega⟩
theorem g4k {P A B C : Prop} (h1 : P ∨ A) (h2 : P ∨ B) (h3 : P ∨ C) : P ∨ (A ∧ B ∧ C) := by
  rcases h1 with h | a
  · exact Or.inl h
  · rcases h2 with h | b
    · exact Or.inl h
    · rcases h3 with h | c
      · exact Or.inl h
      · exact Or.inr ⟨a, b, c⟩
/-! ===== draws ===== -/
def drw (d : Int32) : Int32 := ((d * 1103515245) + 12345) &&& 2147483647
def drN : Nat → Int32 → Int32
  | 0, d => d
  | n + 1, d => drw (drN n d)
theorem d64 (d : Int32) : Int64.toInt32 ((((Int32.toInt64 d) * 1103515245) + 12345) &&& 2147483647) = drw d := by
  rw [Int64.toInt32_and, Int64.toInt32_add, Int64.toInt32_mul, Int32.toInt32_toInt64]
  rfl
theorem drN_step {a b d e f : Int32} {x z : Int32} (hz : z.toInt = x.toInt + 1 ∧ 0 ≤ x.toInt) (h1 : e = drN x.toInt.toNat d) (h2 : f = drw e) : f = drN z.toInt.toNat d := by
  rw [hz.1, show (x.toInt + 1).toNat = x.toInt.toNat + 1 by omega]
  show f = drw (drN x.toInt.toNat d)
  rw [h2, h1]
theorem d41 {p1 d d' e e' : Int32} {h s : Int} (u : (1 ≤ p1.toInt ∧ p1.toInt ≤ 60 ∧ h + p1.toInt ≤ 9999 ∧ d' = drN p1.toInt.toNat d) ∨ (¬ (1 ≤ p1.toInt ∧ p1.toInt ≤ 60 ∧ h + p1.toInt ≤ 9999) ∧ d' = d)) (w : (1 ≤ p1.toInt ∧ p1.toInt ≤ 60 ∧ s + p1.toInt ≤ 9999 ∧ e' = drN p1.toInt.toNat e) ∨ (¬ (1 ≤ p1.toInt ∧ p1.toInt ≤ 60 ∧ s + p1.toInt ≤ 9999) ∧ e' = e)) (hd : d.toInt = e.toInt) (hh : h ≤ 9000) (hs : s ≤ 9000) : d'.toInt = e'.toInt := by
  have e0 : d = e := Int32.toInt_inj.mp hd
  subst e0
  rcases u with ⟨u1, u2, u3, u4⟩ | ⟨u1, u2⟩ <;> rcases w with ⟨w1, w2, w3, w4⟩ | ⟨w1, w2⟩
  · rw [u4, w4]
  · exact absurd ⟨u1, u2, by omega⟩ w1
  · exact absurd ⟨w1, w2, by omega⟩ u1
  · rw [u2, w2]
theorem upd_self {f : Nat → Int32} {k : Nat} {v : Int32} (h : v = f k) : upd f k v = f := by
  funext j
  by_cases e : j = k
  · subst e; rw [upd_eq, h]
  · rw [upd_ne e]
theorem cg_st {st kinds rates : Nat → Int32} {clocks windows : Int32} {skyRow : Nat → Int32} {skyMany : Int32} {betOn stakes : Nat → Int32} {bets : Int32} {undos : Nat → Int32} {undoMany drawn : Int32} {j : Nat} (h1 : 0 ≤ j) (h2 : j < 63) : cvl j st kinds rates clocks windows skyRow skyMany betOn stakes bets undos undoMany drawn = st j := by
  unfold cvl
  rw [if_pos (by omega)]
theorem cg_kinds {st kinds rates : Nat → Int32} {clocks windows : Int32} {skyRow : Nat → Int32} {skyMany : Int32} {betOn stakes : Nat → Int32} {bets : Int32} {undos : Nat → Int32} {undoMany drawn : Int32} {j : Nat} (h1 : 63 ≤ j) (h2 : j < 72) : cvl j st kinds rates clocks windows skyRow skyMany betOn stakes bets undos undoMany drawn = kinds (j - 63) := by
  unfold cvl
  rw [if_neg (by omega), if_pos (by omega)]
theorem cg_rates {st kinds rates : Nat → Int32} {clocks windows : Int32} {skyRow : Nat → Int32} {skyMany : Int32} {betOn stakes : Nat → Int32} {bets : Int32} {undos : Nat → Int32} {undoMany drawn : Int32} {j : Nat} (h1 : 72 ≤ j) (h2 : j < 81) : cvl j st kinds rates clocks windows skyRow skyMany betOn stakes bets undos undoMany drawn = rates (j - 72) := by
  unfold cvl
  rw [if_neg (by omega), if_neg (by omega), if_pos (by omega)]
theorem cg_skyRow {st kinds rates : Nat → Int32} {clocks windows : Int32} {skyRow : Nat → Int32} {skyMany : Int32} {betOn stakes : Nat → Int32} {bets : Int32} {undos : Nat → Int32} {undoMany drawn : Int32} {j : Nat} (h1 : 81 ≤ j) (h2 : j < 93) : cvl j st kinds rates clocks windows skyRow skyMany betOn stakes bets undos undoMany drawn = skyRow (j - 81) := by
  unfold cvl
  rw [if_neg (by omega), if_neg (by omega), if_neg (by omega), if_pos (by omega)]
theorem cg_betOn {st kinds rates : Nat → Int32} {clocks windows : Int32} {skyRow : Nat → Int32} {skyMany : Int32} {betOn stakes : Nat → Int32} {bets : Int32} {undos : Nat → Int32} {undoMany drawn : Int32} {j : Nat} (h1 : 93 ≤ j) (h2 : j < 99) : cvl j st kinds rates clocks windows skyRow skyMany betOn stakes bets undos undoMany drawn = betOn (j - 93) := by
  unfold cvl
  rw [if_neg (by omega), if_neg (by omega), if_neg (by omega), if_neg (by omega), if_pos (by omega)]
theorem cg_stakes {st kinds rates : Nat → Int32} {clocks windows : Int32} {skyRow : Nat → Int32} {skyMany : Int32} {betOn stakes : Nat → Int32} {bets : Int32} {undos : Nat → Int32} {undoMany drawn : Int32} {j : Nat} (h1 : 99 ≤ j) (h2 : j < 105) : cvl j st kinds rates clocks windows skyRow skyMany betOn stakes bets undos undoMany drawn = stakes (j - 99) := by
  unfold cvl
  rw [if_neg (by omega), if_neg (by omega), if_neg (by omega), if_neg (by omega), if_neg (by omega), if_pos (by omega)]
theorem cg_undos {st kinds rates : Nat → Int32} {clocks windows : Int32} {skyRow : Nat → Int32} {skyMany : Int32} {betOn stakes : Nat → Int32} {bets : Int32} {undos : Nat → Int32} {undoMany drawn : Int32} {j : Nat} (h1 : 105 ≤ j) (h2 : j < 135) : cvl j st kinds rates clocks windows skyRow skyMany betOn stakes bets undos undoMany drawn = undos (j - 105) := by
  unfold cvl
  rw [if_neg (by omega), if_neg (by omega), if_neg (by omega), if_neg (by omega), if_neg (by omega), if_neg (by omega), if_pos (by omega)]
theorem cg_rest {st kinds rates : Nat → Int32} {clocks windows : Int32} {skyRow : Nat → Int32} {skyMany : Int32} {betOn stakes : Nat → Int32} {bets : Int32} {undos : Nat → Int32} {undoMany drawn : Int32} {j : Nat} (h1 : 135 ≤ j) : cvl j st kinds rates clocks windows skyRow skyMany betOn stakes bets undos undoMany drawn = if j = 135 then clocks else if j = 136 then windows else if j = 137 then skyMany else if j = 138 then bets else if j = 139 then undoMany else drawn := by
  unfold cvl
  rw [if_neg (by omega), if_neg (by omega), if_neg (by omega), if_neg (by omega), if_neg (by omega), if_neg (by omega), if_neg (by omega)]
theorem cs_st {st kinds rates : Nat → Int32} {clocks windows : Int32} {skyRow : Nat → Int32} {skyMany : Int32} {betOn stakes : Nat → Int32} {bets : Int32} {undos : Nat → Int32} {undoMany drawn : Int32} {c k : Nat} {v : Int32} (hk : k = 0 + c) (hc : c < 63) : (∀ j, j ≠ k → cvl j (upd st c v) kinds rates clocks windows skyRow skyMany betOn stakes bets undos undoMany drawn = cvl j st kinds rates clocks windows skyRow skyMany betOn stakes bets undos undoMany drawn) ∧ cvl k (upd st c v) kinds rates clocks windows skyRow skyMany betOn stakes bets undos undoMany drawn = v := by
  subst hk
  refine ⟨fun j hj => ?_, ?_⟩
  · rcases (show j < 63 ∨ (63 ≤ j ∧ j < 72) ∨ (72 ≤ j ∧ j < 81) ∨ (81 ≤ j ∧ j < 93) ∨ (93 ≤ j ∧ j < 99) ∨ (99 ≤ j ∧ j < 105) ∨ (105 ≤ j ∧ j < 135) ∨ 135 ≤ j by omega) with h | ⟨h1, h2⟩ | ⟨h1, h2⟩ | ⟨h1, h2⟩ | ⟨h1, h2⟩ | ⟨h1, h2⟩ | ⟨h1, h2⟩ | h
    · rw [cg_st (Nat.zero_le _) h, cg_st (Nat.zero_le _) h]; exact upd_ne (by omega)
    · rw [cg_kinds h1 h2, cg_kinds h1 h2]
    · rw [cg_rates h1 h2, cg_rates h1 h2]
    · rw [cg_skyRow h1 h2, cg_skyRow h1 h2]
    · rw [cg_betOn h1 h2, cg_betOn h1 h2]
    · rw [cg_stakes h1 h2, cg_stakes h1 h2]
    · rw [cg_undos h1 h2, cg_undos h1 h2]
    · rw [cg_rest h, cg_rest h]
  · rw [cg_st (by omega) (by omega)]
    rw [Nat.zero_add]
    exact upd_eq
theorem cs_kinds {st kinds rates : Nat → Int32} {clocks windows : Int32} {skyRow : Nat → Int32} {skyMany : Int32} {betOn stakes : Nat → Int32} {bets : Int32} {undos : Nat → Int32} {undoMany drawn : Int32} {c k : Nat} {v : Int32} (hk : k = 63 + c) (hc : c < 9) : (∀ j, j ≠ k → cvl j st (upd kinds c v) rates clocks windows skyRow skyMany betOn stakes bets undos undoMany drawn = cvl j st kinds rates clocks windows skyRow skyMany betOn stakes bets undos undoMany drawn) ∧ cvl k st (upd kinds c v) rates clocks windows skyRow skyMany betOn stakes bets undos undoMany drawn = v := by
  subst hk
  refine ⟨fun j hj => ?_, ?_⟩
  · rcases (show j < 63 ∨ (63 ≤ j ∧ j < 72) ∨ (72 ≤ j ∧ j < 81) ∨ (81 ≤ j ∧ j < 93) ∨ (93 ≤ j ∧ j < 99) ∨ (99 ≤ j ∧ j < 105) ∨ (105 ≤ j ∧ j < 135) ∨ 135 ≤ j by omega) with h | ⟨h1, h2⟩ | ⟨h1, h2⟩ | ⟨h1, h2⟩ | ⟨h1, h2⟩ | ⟨h1, h2⟩ | ⟨h1, h2⟩ | h
    · rw [cg_st (Nat.zero_le _) h, cg_st (Nat.zero_le _) h]
    · rw [cg_kinds h1 h2, cg_kinds h1 h2]; exact upd_ne (by omega)
    · rw [cg_rates h1 h2, cg_rates h1 h2]
    · rw [cg_skyRow h1 h2, cg_skyRow h1 h2]
    · rw [cg_betOn h1 h2, cg_betOn h1 h2]
    · rw [cg_stakes h1 h2, cg_stakes h1 h2]
    · rw [cg_undos h1 h2, cg_undos h1 h2]
    · rw [cg_rest h, cg_rest h]
  · rw [cg_kinds (by omega) (by omega)]
    rw [show 63 + c - 63 = c by omega]
    exact upd_eq
theorem cs_rates {st kinds rates : Nat → Int32} {clocks windows : Int32} {skyRow : Nat → Int32} {skyMany : Int32} {betOn stakes : Nat → Int32} {bets : Int32} {undos : Nat → Int32} {undoMany drawn : Int32} {c k : Nat} {v : Int32} (hk : k = 72 + c) (hc : c < 9) : (∀ j, j ≠ k → cvl j st kinds (upd rates c v) clocks windows skyRow skyMany betOn stakes bets undos undoMany drawn = cvl j st kinds rates clocks windows skyRow skyMany betOn stakes bets undos undoMany drawn) ∧ cvl k st kinds (upd rates c v) clocks windows skyRow skyMany betOn stakes bets undos undoMany drawn = v := by
  subst hk
  refine ⟨fun j hj => ?_, ?_⟩
  · rcases (show j < 63 ∨ (63 ≤ j ∧ j < 72) ∨ (72 ≤ j ∧ j < 81) ∨ (81 ≤ j ∧ j < 93) ∨ (93 ≤ j ∧ j < 99) ∨ (99 ≤ j ∧ j < 105) ∨ (105 ≤ j ∧ j < 135) ∨ 135 ≤ j by omega) with h | ⟨h1, h2⟩ | ⟨h1, h2⟩ | ⟨h1, h2⟩ | ⟨h1, h2⟩ | ⟨h1, h2⟩ | ⟨h1, h2⟩ | h
    · rw [cg_st (Nat.zero_le _) h, cg_st (Nat.zero_le _) h]
    · rw [cg_kinds h1 h2, cg_kinds h1 h2]
    · rw [cg_rates h1 h2, cg_rates h1 h2]; exact upd_ne (by omega)
    · rw [cg_skyRow h1 h2, cg_skyRow h1 h2]
    · rw [cg_betOn h1 h2, cg_betOn h1 h2]
    · rw [cg_stakes h1 h2, cg_stakes h1 h2]
    · rw [cg_undos h1 h2, cg_undos h1 h2]
    · rw [cg_rest h, cg_rest h]
  · rw [cg_rates (by omega) (by omega)]
    rw [show 72 + c - 72 = c by omega]
    exact upd_eq
theorem cs_skyRow {st kinds rates : Nat → Int32} {clocks windows : Int32} {skyRow : Nat → Int32} {skyMany : Int32} {betOn stakes : Nat → Int32} {bets : Int32} {undos : Nat → Int32} {undoMany drawn : Int32} {c k : Nat} {v : Int32} (hk : k = 81 + c) (hc : c < 12) : (∀ j, j ≠ k → cvl j st kinds rates clocks windows (upd skyRow c v) skyMany betOn stakes bets undos undoMany drawn = cvl j st kinds rates clocks windows skyRow skyMany betOn stakes bets undos undoMany drawn) ∧ cvl k st kinds rates clocks windows (upd skyRow c v) skyMany betOn stakes bets undos undoMany drawn = v := by
  subst hk
  refine ⟨fun j hj => ?_, ?_⟩
  · rcases (show j < 63 ∨ (63 ≤ j ∧ j < 72) ∨ (72 ≤ j ∧ j < 81) ∨ (81 ≤ j ∧ j < 93) ∨ (93 ≤ j ∧ j < 99) ∨ (99 ≤ j ∧ j < 105) ∨ (105 ≤ j ∧ j < 135) ∨ 135 ≤ j by omega) with h | ⟨h1, h2⟩ | ⟨h1, h2⟩ | ⟨h1, h2⟩ | ⟨h1, h2⟩ | ⟨h1, h2⟩ | ⟨h1, h2⟩ | h
    · rw [cg_st (Nat.zero_le _) h, cg_st (Nat.zero_le _) h]
    · rw [cg_kinds h1 h2, cg_kinds h1 h2]
    · rw [cg_rates h1 h2, cg_rates h1 h2]
    · rw [cg_skyRow h1 h2, cg_skyRow h1 h2]; exact upd_ne (by omega)
    · rw [cg_betOn h1 h2, cg_betOn h1 h2]
    · rw [cg_stakes h1 h2, cg_stakes h1 h2]
    · rw [cg_undos h1 h2, cg_undos h1 h2]
    · rw [cg_rest h, cg_rest h]
  · rw [cg_skyRow (by omega) (by omega)]
    rw [show 81 + c - 81 = c by omega]
    exact upd_eq
theorem cs_betOn {st kinds rates : Nat → Int32} {clocks windows : Int32} {skyRow : Nat → Int32} {skyMany : Int32} {betOn stakes : Nat → Int32} {bets : Int32} {undos : Nat → Int32} {undoMany drawn : Int32} {c k : Nat} {v : Int32} (hk : k = 93 + c) (hc : c < 6) : (∀ j, j ≠ k → cvl j st kinds rates clocks windows skyRow skyMany (upd betOn c v) stakes bets undos undoMany drawn = cvl j st kinds rates clocks windows skyRow skyMany betOn stakes bets undos undoMany drawn) ∧ cvl k st kinds rates clocks windows skyRow skyMany (upd betOn c v) stakes bets undos undoMany drawn = v := by
  subst hk
  refine ⟨fun j hj => ?_, ?_⟩
  · rcases (show j < 63 ∨ (63 ≤ j ∧ j < 72) ∨ (72 ≤ j ∧ j < 81) ∨ (81 ≤ j ∧ j < 93) ∨ (93 ≤ j ∧ j < 99) ∨ (99 ≤ j ∧ j < 105) ∨ (105 ≤ j ∧ j < 135) ∨ 135 ≤ j by omega) with h | ⟨h1, h2⟩ | ⟨h1, h2⟩ | ⟨h1, h2⟩ | ⟨h1, h2⟩ | ⟨h1, h2⟩ | ⟨h1, h2⟩ | h
    · rw [cg_st (Nat.zero_le _) h, cg_st (Nat.zero_le _) h]
    · rw [cg_kinds h1 h2, cg_kinds h1 h2]
    · rw [cg_rates h1 h2, cg_rates h1 h2]
    · rw [cg_skyRow h1 h2, cg_skyRow h1 h2]
    · rw [cg_betOn h1 h2, cg_betOn h1 h2]; exact upd_ne (by omega)
    · rw [cg_stakes h1 h2, cg_stakes h1 h2]
    · rw [cg_undos h1 h2, cg_undos h1 h2]
    · rw [cg_rest h, cg_rest h]
  · rw [cg_betOn (by omega) (by omega)]
    rw [show 93 + c - 93 = c by omega]
    exact upd_eq
theorem cs_stakes {st kinds rates : Nat → Int32} {clocks windows : Int32} {skyRow : Nat → Int32} {skyMany : Int32} {betOn stakes : Nat → Int32} {bets : Int32} {undos : Nat → Int32} {undoMany drawn : Int32} {c k : Nat} {v : Int32} (hk : k = 99 + c) (hc : c < 6) : (∀ j, j ≠ k → cvl j st kinds rates clocks windows skyRow skyMany betOn (upd stakes c v) bets undos undoMany drawn = cvl j st kinds rates clocks windows skyRow skyMany betOn stakes bets undos undoMany drawn) ∧ cvl k st kinds rates clocks windows skyRow skyMany betOn (upd stakes c v) bets undos undoMany drawn = v := by
  subst hk
  refine ⟨fun j hj => ?_, ?_⟩
  · rcases (show j < 63 ∨ (63 ≤ j ∧ j < 72) ∨ (72 ≤ j ∧ j < 81) ∨ (81 ≤ j ∧ j < 93) ∨ (93 ≤ j ∧ j < 99) ∨ (99 ≤ j ∧ j < 105) ∨ (105 ≤ j ∧ j < 135) ∨ 135 ≤ j by omega) with h | ⟨h1, h2⟩ | ⟨h1, h2⟩ | ⟨h1, h2⟩ | ⟨h1, h2⟩ | ⟨h1, h2⟩ | ⟨h1, h2⟩ | h
    · rw [cg_st (Nat.zero_le _) h, cg_st (Nat.zero_le _) h]
    · rw [cg_kinds h1 h2, cg_kinds h1 h2]
    · rw [cg_rates h1 h2, cg_rates h1 h2]
    · rw [cg_skyRow h1 h2, cg_skyRow h1 h2]
    · rw [cg_betOn h1 h2, cg_betOn h1 h2]
    · rw [cg_stakes h1 h2, cg_stakes h1 h2]; exact upd_ne (by omega)
    · rw [cg_undos h1 h2, cg_undos h1 h2]
    · rw [cg_rest h, cg_rest h]
  · rw [cg_stakes (by omega) (by omega)]
    rw [show 99 + c - 99 = c by omega]
    exact upd_eq
theorem cs_undos {st kinds rates : Nat → Int32} {clocks windows : Int32} {skyRow : Nat → Int32} {skyMany : Int32} {betOn stakes : Nat → Int32} {bets : Int32} {undos : Nat → Int32} {undoMany drawn : Int32} {c k : Nat} {v : Int32} (hk : k = 105 + c) (hc : c < 30) : (∀ j, j ≠ k → cvl j st kinds rates clocks windows skyRow skyMany betOn stakes bets (upd undos c v) undoMany drawn = cvl j st kinds rates clocks windows skyRow skyMany betOn stakes bets undos undoMany drawn) ∧ cvl k st kinds rates clocks windows skyRow skyMany betOn stakes bets (upd undos c v) undoMany drawn = v := by
  subst hk
  refine ⟨fun j hj => ?_, ?_⟩
  · rcases (show j < 63 ∨ (63 ≤ j ∧ j < 72) ∨ (72 ≤ j ∧ j < 81) ∨ (81 ≤ j ∧ j < 93) ∨ (93 ≤ j ∧ j < 99) ∨ (99 ≤ j ∧ j < 105) ∨ (105 ≤ j ∧ j < 135) ∨ 135 ≤ j by omega) with h | ⟨h1, h2⟩ | ⟨h1, h2⟩ | ⟨h1, h2⟩ | ⟨h1, h2⟩ | ⟨h1, h2⟩ | ⟨h1, h2⟩ | h
    · rw [cg_st (Nat.zero_le _) h, cg_st (Nat.zero_le _) h]
    · rw [cg_kinds h1 h2, cg_kinds h1 h2]
    · rw [cg_rates h1 h2, cg_rates h1 h2]
    · rw [cg_skyRow h1 h2, cg_skyRow h1 h2]
    · rw [cg_betOn h1 h2, cg_betOn h1 h2]
    · rw [cg_stakes h1 h2, cg_stakes h1 h2]
    · rw [cg_undos h1 h2, cg_undos h1 h2]; exact upd_ne (by omega)
    · rw [cg_rest h, cg_rest h]
  · rw [cg_undos (by omega) (by omega)]
    rw [show 105 + c - 105 = c by omega]
    exact upd_eq
theorem cg_clocks {st kinds rates : Nat → Int32} {clocks windows : Int32} {skyRow : Nat → Int32} {skyMany : Int32} {betOn stakes : Nat → Int32} {bets : Int32} {undos : Nat → Int32} {undoMany drawn : Int32} : cvl 135 st kinds rates clocks windows skyRow skyMany betOn stakes bets undos undoMany drawn = clocks := rfl
theorem cs_clocks {st kinds rates : Nat → Int32} {clocks windows : Int32} {skyRow : Nat → Int32} {skyMany : Int32} {betOn stakes : Nat → Int32} {bets : Int32} {undos : Nat → Int32} {undoMany drawn : Int32} {v : Int32} {j : Nat} (hj : j ≠ 135) : cvl j st kinds rates v windows skyRow skyMany betOn stakes bets undos undoMany drawn = cvl j st kinds rates clocks windows skyRow skyMany betOn stakes bets undos undoMany drawn := by
  rcases (show j < 63 ∨ (63 ≤ j ∧ j < 72) ∨ (72 ≤ j ∧ j < 81) ∨ (81 ≤ j ∧ j < 93) ∨ (93 ≤ j ∧ j < 99) ∨ (99 ≤ j ∧ j < 105) ∨ (105 ≤ j ∧ j < 135) ∨ 135 ≤ j by omega) with h | ⟨h1, h2⟩ | ⟨h1, h2⟩ | ⟨h1, h2⟩ | ⟨h1, h2⟩ | ⟨h1, h2⟩ | ⟨h1, h2⟩ | h
  · rw [cg_st (Nat.zero_le _) h, cg_st (Nat.zero_le _) h]
  · rw [cg_kinds h1 h2, cg_kinds h1 h2]
  · rw [cg_rates h1 h2, cg_rates h1 h2]
  · rw [cg_skyRow h1 h2, cg_skyRow h1 h2]
  · rw [cg_betOn h1 h2, cg_betOn h1 h2]
  · rw [cg_stakes h1 h2, cg_stakes h1 h2]
  · rw [cg_undos h1 h2, cg_undos h1 h2]
  · rw [cg_rest h, cg_rest h]
    rw [if_neg hj, if_neg hj]
theorem cg_windows {st kinds rates : Nat → Int32} {clocks windows : Int32} {skyRow : Nat → Int32} {skyMany : Int32} {betOn stakes : Nat → Int32} {bets : Int32} {undos : Nat → Int32} {undoMany drawn : Int32} : cvl 136 st kinds rates clocks windows skyRow skyMany betOn stakes bets undos undoMany drawn = windows := rfl
theorem cs_windows {st kinds rates : Nat → Int32} {clocks windows : Int32} {skyRow : Nat → Int32} {skyMany : Int32} {betOn stakes : Nat → Int32} {bets : Int32} {undos : Nat → Int32} {undoMany drawn : Int32} {v : Int32} {j : Nat} (hj : j ≠ 136) : cvl j st kinds rates clocks v skyRow skyMany betOn stakes bets undos undoMany drawn = cvl j st kinds rates clocks windows skyRow skyMany betOn stakes bets undos undoMany drawn := by
  rcases (show j < 63 ∨ (63 ≤ j ∧ j < 72) ∨ (72 ≤ j ∧ j < 81) ∨ (81 ≤ j ∧ j < 93) ∨ (93 ≤ j ∧ j < 99) ∨ (99 ≤ j ∧ j < 105) ∨ (105 ≤ j ∧ j < 135) ∨ 135 ≤ j by omega) with h | ⟨h1, h2⟩ | ⟨h1, h2⟩ | ⟨h1, h2⟩ | ⟨h1, h2⟩ | ⟨h1, h2⟩ | ⟨h1, h2⟩ | h
  · rw [cg_st (Nat.zero_le _) h, cg_st (Nat.zero_le _) h]
  · rw [cg_kinds h1 h2, cg_kinds h1 h2]
  · rw [cg_rates h1 h2, cg_rates h1 h2]
  · rw [cg_skyRow h1 h2, cg_skyRow h1 h2]
  · rw [cg_betOn h1 h2, cg_betOn h1 h2]
  · rw [cg_stakes h1 h2, cg_stakes h1 h2]
  · rw [cg_undos h1 h2, cg_undos h1 h2]
  · rw [cg_rest h, cg_rest h]
    by_cases q135 : j = 135
    · rw [if_pos q135, if_pos q135]
    rw [if_neg q135, if_neg q135]
    rw [if_neg hj, if_neg hj]
theorem cg_skyMany {st kinds rates : Nat → Int32} {clocks windows : Int32} {skyRow : Nat → Int32} {skyMany : Int32} {betOn stakes : Nat → Int32} {bets : Int32} {undos : Nat → Int32} {undoMany drawn : Int32} : cvl 137 st kinds rates clocks windows skyRow skyMany betOn stakes bets undos undoMany drawn = skyMany := rfl
theorem cs_skyMany {st kinds rates : Nat → Int32} {clocks windows : Int32} {skyRow : Nat → Int32} {skyMany : Int32} {betOn stakes : Nat → Int32} {bets : Int32} {undos : Nat → Int32} {undoMany drawn : Int32} {v : Int32} {j : Nat} (hj : j ≠ 137) : cvl j st kinds rates clocks windows skyRow v betOn stakes bets undos undoMany drawn = cvl j st kinds rates clocks windows skyRow skyMany betOn stakes bets undos undoMany drawn := by
  rcases (show j < 63 ∨ (63 ≤ j ∧ j < 72) ∨ (72 ≤ j ∧ j < 81) ∨ (81 ≤ j ∧ j < 93) ∨ (93 ≤ j ∧ j < 99) ∨ (99 ≤ j ∧ j < 105) ∨ (105 ≤ j ∧ j < 135) ∨ 135 ≤ j by omega) with h | ⟨h1, h2⟩ | ⟨h1, h2⟩ | ⟨h1, h2⟩ | ⟨h1, h2⟩ | ⟨h1, h2⟩ | ⟨h1, h2⟩ | h
  · rw [cg_st (Nat.zero_le _) h, cg_st (Nat.zero_le _) h]
  · rw [cg_kinds h1 h2, cg_kinds h1 h2]
  · rw [cg_rates h1 h2, cg_rates h1 h2]
  · rw [cg_skyRow h1 h2, cg_skyRow h1 h2]
  · rw [cg_betOn h1 h2, cg_betOn h1 h2]
  · rw [cg_stakes h1 h2, cg_stakes h1 h2]
  · rw [cg_undos h1 h2, cg_undos h1 h2]
  · rw [cg_rest h, cg_rest h]
    by_cases q135 : j = 135
    · rw [if_pos q135, if_pos q135]
    rw [if_neg q135, if_neg q135]
    by_cases q136 : j = 136
    · rw [if_pos q136, if_pos q136]
    rw [if_neg q136, if_neg q136]
    rw [if_neg hj, if_neg hj]
theorem cg_bets {st kinds rates : Nat → Int32} {clocks windows : Int32} {skyRow : Nat → Int32} {skyMany : Int32} {betOn stakes : Nat → Int32} {bets : Int32} {undos : Nat → Int32} {undoMany drawn : Int32} : cvl 138 st kinds rates clocks windows skyRow skyMany betOn stakes bets undos undoMany drawn = bets := rfl
theorem cs_bets {st kinds rates : Nat → Int32} {clocks windows : Int32} {skyRow : Nat → Int32} {skyMany : Int32} {betOn stakes : Nat → Int32} {bets : Int32} {undos : Nat → Int32} {undoMany drawn : Int32} {v : Int32} {j : Nat} (hj : j ≠ 138) : cvl j st kinds rates clocks windows skyRow skyMany betOn stakes v undos undoMany drawn = cvl j st kinds rates clocks windows skyRow skyMany betOn stakes bets undos undoMany drawn := by
  rcases (show j < 63 ∨ (63 ≤ j ∧ j < 72) ∨ (72 ≤ j ∧ j < 81) ∨ (81 ≤ j ∧ j < 93) ∨ (93 ≤ j ∧ j < 99) ∨ (99 ≤ j ∧ j < 105) ∨ (105 ≤ j ∧ j < 135) ∨ 135 ≤ j by omega) with h | ⟨h1, h2⟩ | ⟨h1, h2⟩ | ⟨h1, h2⟩ | ⟨h1, h2⟩ | ⟨h1, h2⟩ | ⟨h1, h2⟩ | h
  · rw [cg_st (Nat.zero_le _) h, cg_st (Nat.zero_le _) h]
  · rw [cg_kinds h1 h2, cg_kinds h1 h2]
  · rw [cg_rates h1 h2, cg_rates h1 h2]
  · rw [cg_skyRow h1 h2, cg_skyRow h1 h2]
  · rw [cg_betOn h1 h2, cg_betOn h1 h2]
  · rw [cg_stakes h1 h2, cg_stakes h1 h2]
  · rw [cg_undos h1 h2, cg_undos h1 h2]
  · rw [cg_rest h, cg_rest h]
    by_cases q135 : j = 135
    · rw [if_pos q135, if_pos q135]
    rw [if_neg q135, if_neg q135]
    by_cases q136 : j = 136
    · rw [if_pos q136, if_pos q136]
    rw [if_neg q136, if_neg q136]
    by_cases q137 : j = 137
    · rw [if_pos q137, if_pos q137]
    rw [if_neg q137, if_neg q137]
    rw [if_neg hj, if_neg hj]
theorem cg_undoMany {st kinds rates : Nat → Int32} {clocks windows : Int32} {skyRow : Nat → Int32} {skyMany : Int32} {betOn stakes : Nat → Int32} {bets : Int32} {undos : Nat → Int32} {undoMany drawn : Int32} : cvl 139 st kinds rates clocks windows skyRow skyMany betOn stakes bets undos undoMany drawn = undoMany := rfl
theorem cs_undoMany {st kinds rates : Nat → Int32} {clocks windows : Int32} {skyRow : Nat → Int32} {skyMany : Int32} {betOn stakes : Nat → Int32} {bets : Int32} {undos : Nat → Int32} {undoMany drawn : Int32} {v : Int32} {j : Nat} (hj : j ≠ 139) : cvl j st kinds rates clocks windows skyRow skyMany betOn stakes bets undos v drawn = cvl j st kinds rates clocks windows skyRow skyMany betOn stakes bets undos undoMany drawn := by
  rcases (show j < 63 ∨ (63 ≤ j ∧ j < 72) ∨ (72 ≤ j ∧ j < 81) ∨ (81 ≤ j ∧ j < 93) ∨ (93 ≤ j ∧ j < 99) ∨ (99 ≤ j ∧ j < 105) ∨ (105 ≤ j ∧ j < 135) ∨ 135 ≤ j by omega) with h | ⟨h1, h2⟩ | ⟨h1, h2⟩ | ⟨h1, h2⟩ | ⟨h1, h2⟩ | ⟨h1, h2⟩ | ⟨h1, h2⟩ | h
  · rw [cg_st (Nat.zero_le _) h, cg_st (Nat.zero_le _) h]
  · rw [cg_kinds h1 h2, cg_kinds h1 h2]
  · rw [cg_rates h1 h2, cg_rates h1 h2]
  · rw [cg_skyRow h1 h2, cg_skyRow h1 h2]
  · rw [cg_betOn h1 h2, cg_betOn h1 h2]
  · rw [cg_stakes h1 h2, cg_stakes h1 h2]
  · rw [cg_undos h1 h2, cg_undos h1 h2]
  · rw [cg_rest h, cg_rest h]
    by_cases q135 : j = 135
    · rw [if_pos q135, if_pos q135]
    rw [if_neg q135, if_neg q135]
    by_cases q136 : j = 136
    · rw [if_pos q136, if_pos q136]
    rw [if_neg q136, if_neg q136]
    by_cases q137 : j = 137
    · rw [if_pos q137, if_pos q137]
    rw [if_neg q137, if_neg q137]
    by_cases q138 : j = 138
    · rw [if_pos q138, if_pos q138]
    rw [if_neg q138, if_neg q138]
    rw [if_neg hj, if_neg hj]
theorem cg_drawn {st kinds rates : Nat → Int32} {clocks windows : Int32} {skyRow : Nat → Int32} {skyMany : Int32} {betOn stakes : Nat → Int32} {bets : Int32} {undos : Nat → Int32} {undoMany drawn : Int32} : cvl 140 st kinds rates clocks windows skyRow skyMany betOn stakes bets undos undoMany drawn = drawn := rfl
theorem cs_drawn {st kinds rates : Nat → Int32} {clocks windows : Int32} {skyRow : Nat → Int32} {skyMany : Int32} {betOn stakes : Nat → Int32} {bets : Int32} {undos : Nat → Int32} {undoMany drawn : Int32} {v : Int32} {j : Nat} (hj9 : j < 141) (hj : j ≠ 140) : cvl j st kinds rates clocks windows skyRow skyMany betOn stakes bets undos undoMany v = cvl j st kinds rates clocks windows skyRow skyMany betOn stakes bets undos undoMany drawn := by
  rcases (show j < 63 ∨ (63 ≤ j ∧ j < 72) ∨ (72 ≤ j ∧ j < 81) ∨ (81 ≤ j ∧ j < 93) ∨ (93 ≤ j ∧ j < 99) ∨ (99 ≤ j ∧ j < 105) ∨ (105 ≤ j ∧ j < 135) ∨ 135 ≤ j by omega) with h | ⟨h1, h2⟩ | ⟨h1, h2⟩ | ⟨h1, h2⟩ | ⟨h1, h2⟩ | ⟨h1, h2⟩ | ⟨h1, h2⟩ | h
  · rw [cg_st (Nat.zero_le _) h, cg_st (Nat.zero_le _) h]
  · rw [cg_kinds h1 h2, cg_kinds h1 h2]
  · rw [cg_rates h1 h2, cg_rates h1 h2]
  · rw [cg_skyRow h1 h2, cg_skyRow h1 h2]
  · rw [cg_betOn h1 h2, cg_betOn h1 h2]
  · rw [cg_stakes h1 h2, cg_stakes h1 h2]
  · rw [cg_undos h1 h2, cg_undos h1 h2]
  · rw [cg_rest h, cg_rest h]
    by_cases q135 : j = 135
    · rw [if_pos q135, if_pos q135]
    rw [if_neg q135, if_neg q135]
    by_cases q136 : j = 136
    · rw [if_pos q136, if_pos q136]
    rw [if_neg q136, if_neg q136]
    by_cases q137 : j = 137
    · rw [if_pos q137, if_pos q137]
    rw [if_neg q137, if_neg q137]
    by_cases q138 : j = 138
    · rw [if_pos q138, if_pos q138]
    rw [if_neg q138, if_neg q138]
    by_cases q139 : j = 139
    · rw [if_pos q139, if_pos q139]
    rw [if_neg q139, if_neg q139]
    exfalso; omega
theorem kv_of {kept : Nat → Int32} {x : Int} {st kinds rates : Nat → Int32} {clocks windows : Int32} {skyRow : Nat → Int32} {skyMany : Int32} {betOn stakes : Nat → Int32} {bets : Int32} {undos : Nat → Int32} {undoMany drawn : Int32} (h : ∀ j : Nat, (j : Int) < x → kept j = cvl j st kinds rates clocks windows skyRow skyMany betOn stakes bets undos undoMany drawn) (hx : 141 ≤ x) (h0 : AB st 42 clocks.toInt 0 (windows.toInt - 1)) (hu : UB undos undoMany.toInt) (h60a : 0 ≤ (st (Int32.toNatClampNeg 60)).toInt) (h60b : (st (Int32.toNatClampNeg 60)).toInt ≤ 9999) (a1 : 0 ≤ clocks.toInt) (a2 : clocks.toInt ≤ 9) (a3 : 2 ≤ windows.toInt) (a4 : windows.toInt ≤ 24) (a5 : 1 ≤ skyMany.toInt) (a6 : skyMany.toInt ≤ 12) (a7 : 0 ≤ bets.toInt) (a8 : bets.toInt ≤ 6) (a9 : 0 ≤ undoMany.toInt) (a10 : undoMany.toInt ≤ 10) : KV 1 kept := by
  intro _
  have e1 : kept 135 = clocks := h 135 (by omega)
  have e2 : kept 136 = windows := h 136 (by omega)
  have e3 : kept 137 = skyMany := h 137 (by omega)
  have e4 : kept 138 = bets := h 138 (by omega)
  have e5 : kept 139 = undoMany := h 139 (by omega)
  have e6 : kept 60 = st 60 := h 60 (by omega)
  rw [e1, e2, e3, e4, e5, e6]
  refine ⟨a1, a2, a3, a4, a5, a6, a7, a8, a9, a10, h60a, h60b, ?_, ?_⟩
  · intro j h3 h4
    rw [h j (by omega), cg_st (Nat.zero_le _) (by omega)]
    exact h0 j h3 h4
  · intro j hj
    show 0 ≤ (kept (105 + (3 * j + 1))).toInt ∧ (kept (105 + (3 * j + 1))).toInt ≤ 23 ∧ ((kept (105 + 3 * j)).toInt = 0 ∨ (kept (105 + 3 * j)).toInt = 1 ∨ (kept (105 + 3 * j)).toInt = 2 → (kept (105 + (3 * j + 1))).toInt ≤ 8)
    rw [h (105 + (3 * j + 1)) (by omega), h (105 + 3 * j) (by omega), cg_undos (by omega) (by omega), cg_undos (by omega) (by omega), show 105 + (3 * j + 1) - 105 = 3 * j + 1 by omega, show 105 + 3 * j - 105 = 3 * j by omega]
    exact hu j hj
