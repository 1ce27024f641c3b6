/-! ===== bets ===== -/
/-- who isn't on c moves to the front: after b of them how many, and the rows -/
def bt_fl (f g : Nat → Int32) (c : Int) : Nat → Nat × (Nat → Int32) × (Nat → Int32)
  | 0 => (0, f, g)
  | b + 1 => if ((bt_fl f g c b).2.1 b).toInt = c then bt_fl f g c b else ((bt_fl f g c b).1 + 1, upd (bt_fl f g c b).2.1 (bt_fl f g c b).1 ((bt_fl f g c b).2.1 b), upd (bt_fl f g c b).2.2 (bt_fl f g c b).1 ((bt_fl f g c b).2.2 b))
theorem bt_fl_s {f g : Nat → Int32} {c : Int} {b : Nat} : bt_fl f g c (b + 1) = if ((bt_fl f g c b).2.1 b).toInt = c then bt_fl f g c b else ((bt_fl f g c b).1 + 1, upd (bt_fl f g c b).2.1 (bt_fl f g c b).1 ((bt_fl f g c b).2.1 b), upd (bt_fl f g c b).2.2 (bt_fl f g c b).1 ((bt_fl f g c b).2.2 b)) := rfl
theorem bt_s1 {f g F G : Nat → Int32} {c : Int} {b z l : Int32} (h : bt_fl f g c b.toInt.toNat = (l.toInt.toNat, F, G)) (h0 : 0 ≤ b.toInt) (hz : z.toInt = b.toInt + 1) (he : (F (Int32.toNatClampNeg b)).toInt = c) : bt_fl f g c z.toInt.toNat = (l.toInt.toNat, F, G) := by
  have e : Int32.toNatClampNeg b = b.toInt.toNat := rfl
  rw [show z.toInt.toNat = b.toInt.toNat + 1 by omega, bt_fl_s, h]
  exact if_pos (by rw [← e]; exact he)
theorem bt_s2 {f g F G F' G' : Nat → Int32} {c : Int} {b z l m v w : Int32} (h : bt_fl f g c b.toInt.toNat = (l.toInt.toNat, F, G)) (h0 : 0 ≤ b.toInt) (hz : z.toInt = b.toInt + 1) (he : ¬ (F (Int32.toNatClampNeg b)).toInt = c) (hl : 0 ≤ l.toInt) (hm : m.toInt = l.toInt + 1) (h1 : F' = upd F (Int32.toNatClampNeg l) v) (hv : v = F (Int32.toNatClampNeg b)) (h2 : G' = upd G (Int32.toNatClampNeg l) w) (hw : w = G (Int32.toNatClampNeg b)) : bt_fl f g c z.toInt.toNat = (m.toInt.toNat, F', G') := by
  have e : Int32.toNatClampNeg b = b.toInt.toNat := rfl
  have e2 : Int32.toNatClampNeg l = l.toInt.toNat := rfl
  rw [show z.toInt.toNat = b.toInt.toNat + 1 by omega, bt_fl_s, h, h1, hv, h2, hw, e, e2, show m.toInt.toNat = l.toInt.toNat + 1 by omega]
  exact if_neg (by rw [e] at he; exact he)
theorem bt_eq {f g f2 g2 : Nat → Int32} {c n : Int} (e1 : EQ n f f2) (e2 : EQ n g g2) : ∀ b : Nat, (b : Int) ≤ n → (bt_fl f g c b).1 = (bt_fl f2 g2 c b).1 ∧ (bt_fl f g c b).1 ≤ b ∧ EQ n (bt_fl f g c b).2.1 (bt_fl f2 g2 c b).2.1 ∧ EQ n (bt_fl f g c b).2.2 (bt_fl f2 g2 c b).2.2 := by
  intro b
  induction b with
  | zero => intro _; exact ⟨rfl, Nat.le_refl 0, e1, e2⟩
  | succ b ih =>
    intro hb
    obtain ⟨i1, i2, i3, i4⟩ := ih (by omega)
    have q1 := i3 b (by omega)
    have q2 := i4 b (by omega)
    rw [bt_fl_s, bt_fl_s, ← q1]
    by_cases e : ((bt_fl f g c b).2.1 b).toInt = c
    · rw [if_pos e, if_pos e]
      exact ⟨i1, by omega, i3, i4⟩
    · rw [if_neg e, if_neg e, ← q2, ← i1]
      refine ⟨rfl, by show _ + 1 ≤ _; omega, ?_, ?_⟩
      · intro j hj
        show upd _ _ _ j = upd _ _ _ j
        by_cases d : j = (bt_fl f g c b).1
        · rw [d, upd_eq, upd_eq]
        · rw [upd_ne d, upd_ne d]; exact i3 j hj
      · intro j hj
        show upd _ _ _ j = upd _ _ _ j
        by_cases d : j = (bt_fl f g c b).1
        · rw [d, upd_eq, upd_eq]
        · rw [upd_ne d, upd_ne d]; exact i4 j hj
theorem bt_law {c1 c2 s1 s2 t1 t2 : Int32} {f g F G f2 g2 F2 G2 : Nat → Int32} (u : (c1.toInt = 0 ∧ t1.toInt = s1.toInt ∧ F = f ∧ G = g) ∨ (¬ c1.toInt = 0 ∧ bt_fl f g (c1.toInt - 1) s1.toInt.toNat = (t1.toInt.toNat, F, G))) (w : (c2.toInt = 0 ∧ t2.toInt = s2.toInt ∧ F2 = f2 ∧ G2 = g2) ∨ (¬ c2.toInt = 0 ∧ bt_fl f2 g2 (c2.toInt - 1) s2.toInt.toNat = (t2.toInt.toNat, F2, G2))) (hc : c1.toInt = c2.toInt) (hs : s1.toInt = s2.toInt) (h0 : 0 ≤ s1.toInt) (p1 : 0 ≤ t1.toInt) (p2 : 0 ≤ t2.toInt) (e1 : EQ s1.toInt f f2) (e2 : EQ s1.toInt g g2) : t1.toInt = t2.toInt ∧ EQ t1.toInt F F2 ∧ EQ t1.toInt G G2 := by
  rcases u with ⟨u0, u1, u2, u3⟩ | ⟨u0, u1⟩ <;> rcases w with ⟨w0, w1, w2, w3⟩ | ⟨w0, w1⟩
  · rw [u1, w1, u2, u3, w2, w3]; exact ⟨hs, e1, e2⟩
  · omega
  · omega
  · rw [← hc, ← hs] at w1
    obtain ⟨i1, i2, i3, i4⟩ := bt_eq (c := c1.toInt - 1) e1 e2 s1.toInt.toNat (by omega)
    rw [u1, w1] at i1 i3 i4
    rw [u1] at i2
    have i1 : t1.toInt.toNat = t2.toInt.toNat := i1
    have i2 : t1.toInt.toNat ≤ s1.toInt.toNat := i2
    exact ⟨by omega, EQ.mono i3 (by omega), EQ.mono i4 (by omega)⟩
theorem bt_bet {r7 r8 s1 s2 t1 t2 p q : Int32} {f g F G f2 g2 F2 G2 : Nat → Int32} (u : (r7.toInt < 0 ∧ t1.toInt = s1.toInt ∧ F = f ∧ G = g) ∨ (0 ≤ r7.toInt ∧ t1.toInt = s1.toInt + 1 ∧ F = upd f (Int32.toNatClampNeg s1) p ∧ G = upd g (Int32.toNatClampNeg s1) q)) (w : (r8.toInt < 0 ∧ t2.toInt = s2.toInt ∧ F2 = f2 ∧ G2 = g2) ∨ (0 ≤ r8.toInt ∧ t2.toInt = s2.toInt + 1 ∧ F2 = upd f2 (Int32.toNatClampNeg s2) p ∧ G2 = upd g2 (Int32.toNatClampNeg s2) q)) (hr : (r7.toInt < 0 ∧ r8.toInt < 0) ∨ (0 ≤ r7.toInt ∧ 0 ≤ r8.toInt)) (hs : s1.toInt = s2.toInt) (h0 : 0 ≤ s1.toInt) (e1 : EQ s1.toInt f f2) (e2 : EQ s1.toInt g g2) : EQ t1.toInt F F2 ∧ EQ t1.toInt G G2 := by
  have k1 := itn (x := s1) rfl h0
  have k2 := itn (x := s2) rfl (by omega)
  rcases u with ⟨u0, u1, u2, u3⟩ | ⟨u0, u1, u2, u3⟩ <;> rcases w with ⟨w0, w1, w2, w3⟩ | ⟨w0, w1, w2, w3⟩
  · rw [u1, u2, u3, w2, w3]; exact ⟨e1, e2⟩
  · omega
  · omega
  · rw [u2, u3, w2, w3]; exact ⟨EQ.push e1 k1 (by omega) u1, EQ.push e2 k1 (by omega) u1⟩
/-- what a BET has -/
def bt_al (g : Nat → Int32) : Nat → Int32
  | 0 => 0
  | b + 1 => bt_al g b + g b
def bt_wn (f g : Nat → Int32) (s : Int32) : Nat → Int32
  | 0 => 0
  | b + 1 => if ((s >>> ((f b) &&& 31)) &&& 1) = 1 then bt_wn f g s b + g b else bt_wn f g s b
def bt_py (f g : Nat → Int32) (n b : Nat) (s : Int32) : Int32 := if bt_wn f g s n = 0 then g b else if ((s >>> ((f b) &&& 31)) &&& 1) = 1 then (bt_al g n * g b) / bt_wn f g s n else 0
theorem bt_al_s {g : Nat → Int32} {x z a b : Int32} (h : a = bt_al g x.toInt.toNat) (h0 : 0 ≤ x.toInt) (hz : z.toInt = x.toInt + 1) (hb : b = a + g (Int32.toNatClampNeg x)) : b = bt_al g z.toInt.toNat := by
  rw [show z.toInt.toNat = x.toInt.toNat + 1 by omega, hb, h]
  rfl
theorem bt_wn_y {f g : Nat → Int32} {s x z a b r : Int32} (h : a = bt_wn f g s x.toInt.toNat) (h0 : 0 ≤ x.toInt) (hz : z.toInt = x.toInt + 1) (hw : (r.toInt = 1 ∧ ((s >>> ((f (Int32.toNatClampNeg x)) &&& 31)) &&& 1) = 1) ∨ (r.toInt = 0 ∧ ¬ ((s >>> ((f (Int32.toNatClampNeg x)) &&& 31)) &&& 1) = 1)) (hr : ¬ r.toInt = 0) (hb : b = a + g (Int32.toNatClampNeg x)) : b = bt_wn f g s z.toInt.toNat := by
  rw [show z.toInt.toNat = x.toInt.toNat + 1 by omega, hb, h]
  rcases hw with ⟨_, q⟩ | ⟨q, _⟩
  · exact (if_pos q).symm
  · exact absurd q hr
theorem bt_wn_n {f g : Nat → Int32} {s x z a b r : Int32} (h : a = bt_wn f g s x.toInt.toNat) (h0 : 0 ≤ x.toInt) (hz : z.toInt = x.toInt + 1) (hw : (r.toInt = 1 ∧ ((s >>> ((f (Int32.toNatClampNeg x)) &&& 31)) &&& 1) = 1) ∨ (r.toInt = 0 ∧ ¬ ((s >>> ((f (Int32.toNatClampNeg x)) &&& 31)) &&& 1) = 1)) (hr : r.toInt = 0) (hb : b = a) : b = bt_wn f g s z.toInt.toNat := by
  rw [show z.toInt.toNat = x.toInt.toNat + 1 by omega, hb, h]
  rcases hw with ⟨q, _⟩ | ⟨_, q⟩
  · omega
  · exact (if_neg q).symm
theorem bt_py_a {f g : Nat → Int32} {s p x n won : Int32} (hn : n.toInt = x.toInt) (hw : won = bt_wn f g s x.toInt.toNat) (h0 : won = 0) : g (Int32.toNatClampNeg p) = bt_py f g n.toInt.toNat (Int32.toNatClampNeg p) s := by
  unfold bt_py
  rw [hn, ← hw, h0]
  exact (if_pos rfl).symm
theorem bt_py_b {f g : Nat → Int32} {s p x n won r : Int32} (hn : n.toInt = x.toInt) (hw : won = bt_wn f g s x.toInt.toNat) (h0 : ¬ won = 0) (hc : (r.toInt = 1 ∧ ((s >>> ((f (Int32.toNatClampNeg p)) &&& 31)) &&& 1) = 1) ∨ (r.toInt = 0 ∧ ¬ ((s >>> ((f (Int32.toNatClampNeg p)) &&& 31)) &&& 1) = 1)) (hr : r.toInt = 0) : (0 : Int32) = bt_py f g n.toInt.toNat (Int32.toNatClampNeg p) s := by
  unfold bt_py
  rw [hn, ← hw, if_neg h0]
  rcases hc with ⟨q, _⟩ | ⟨_, q⟩
  · omega
  · exact (if_neg q).symm
theorem bt_py_c {f g : Nat → Int32} {s p x n won al r : Int32} (hn : n.toInt = x.toInt) (ha : al = bt_al g x.toInt.toNat) (hw : won = bt_wn f g s x.toInt.toNat) (h0 : ¬ won = 0) (hc : (r.toInt = 1 ∧ ((s >>> ((f (Int32.toNatClampNeg p)) &&& 31)) &&& 1) = 1) ∨ (r.toInt = 0 ∧ ¬ ((s >>> ((f (Int32.toNatClampNeg p)) &&& 31)) &&& 1) = 1)) (hr : ¬ r.toInt = 0) : (al * g (Int32.toNatClampNeg p)) / won = bt_py f g n.toInt.toNat (Int32.toNatClampNeg p) s := by
  unfold bt_py
  rw [hn, ← hw, ← ha, if_neg h0]
  rcases hc with ⟨_, q⟩ | ⟨q, _⟩
  · exact (if_pos q).symm
  · exact absurd q hr
def bt_pays (c n : Int32) (f g : Nat → Int32) (p s : Int32) : Int32 := if 0 ≤ p.toInt ∧ p.toInt ≤ n.toInt - 1 ∧ 0 ≤ s.toInt ∧ s.toInt ≤ ((1 <<< (c &&& 31)) - 1 : Int32).toInt then bt_py f g n.toInt.toNat (Int32.toNatClampNeg p) s else -1
theorem bt_p0 {c n p s r : Int32} {f g : Nat → Int32} (h : ¬ (0 ≤ p.toInt ∧ p.toInt ≤ n.toInt - 1 ∧ 0 ≤ s.toInt ∧ s.toInt ≤ ((1 <<< (c &&& 31)) - 1 : Int32).toInt)) : (-1 : Int32) = bt_pays c n f g p s := (if_neg h).symm
theorem bt_p1 {c n p s r : Int32} {f g : Nat → Int32} (h : 0 ≤ p.toInt ∧ p.toInt ≤ n.toInt - 1 ∧ 0 ≤ s.toInt ∧ s.toInt ≤ ((1 <<< (c &&& 31)) - 1 : Int32).toInt) (hr : r = bt_py f g n.toInt.toNat (Int32.toNatClampNeg p) s) : r = bt_pays c n f g p s := by
  rw [hr]; exact (if_pos h).symm
theorem bt_al_e {g g2 : Nat → Int32} {n : Int} (e : EQ n g g2) : ∀ b : Nat, (b : Int) ≤ n → bt_al g b = bt_al g2 b := by
  intro b
  induction b with
  | zero => intro _; rfl
  | succ b ih => intro hb; show bt_al g b + g b = bt_al g2 b + g2 b; rw [ih (by omega), e b (by omega)]
theorem bt_wn_e {f g f2 g2 : Nat → Int32} {s : Int32} {n : Int} (e1 : EQ n f f2) (e2 : EQ n g g2) : ∀ b : Nat, (b : Int) ≤ n → bt_wn f g s b = bt_wn f2 g2 s b := by
  intro b
  induction b with
  | zero => intro _; rfl
  | succ b ih =>
    intro hb
    show (if ((s >>> ((f b) &&& 31)) &&& 1) = 1 then bt_wn f g s b + g b else bt_wn f g s b) = (if ((s >>> ((f2 b) &&& 31)) &&& 1) = 1 then bt_wn f2 g2 s b + g2 b else bt_wn f2 g2 s b)
    rw [ih (by omega), e1 b (by omega), e2 b (by omega)]
theorem bt_cmp {r7 r8 c1 c2 n1 n2 p s : Int32} {f g f2 g2 : Nat → Int32} (u : r7 = bt_pays c1 n1 f g p s) (w : r8 = bt_pays c2 n2 f2 g2 p s) (hc : c1.toInt = c2.toInt) (hn : n1.toInt = n2.toInt) (e1 : EQ n1.toInt f f2) (e2 : EQ n1.toInt g g2) : r7 = r8 := by
  obtain rfl : c1 = c2 := Int32.toInt_inj.mp hc
  obtain rfl : n1 = n2 := Int32.toInt_inj.mp hn
  rw [u, w]
  unfold bt_pays
  by_cases h : 0 ≤ p.toInt ∧ p.toInt ≤ n1.toInt - 1 ∧ 0 ≤ s.toInt ∧ s.toInt ≤ ((1 <<< (c1 &&& 31)) - 1 : Int32).toInt
  · rw [if_pos h, if_pos h]
    have k := itn (x := p) rfl h.1
    unfold bt_py
    rw [bt_wn_e e1 e2 n1.toInt.toNat (by omega), bt_al_e e2 n1.toInt.toNat (by omega), e1 (Int32.toNatClampNeg p) (by omega), e2 (Int32.toNatClampNeg p) (by omega)]
  · rw [if_neg h, if_neg h]
