/-! ===== rows alike ===== -/
theorem EQ.refl {n : Int} {f : Nat → Int32} : EQ n f f := fun _ _ => rfl
theorem EQ.cpy {f g : Nat → Int32} {n : Int} {k : Nat} (h : n ≤ k) : EQ n (va_cpy f g 0 0 k) f := by
  intro j hj
  unfold va_cpy
  rw [if_pos (by omega), show 0 + (j - 0) = j by omega]
theorem EQ.trans {f g h : Nat → Int32} {n : Int} (h1 : EQ n f g) (h2 : EQ n g h) : EQ n f h := fun j hj => (h1 j hj).trans (h2 j hj)
theorem EQ.push {f g : Nat → Int32} {n m : Int} {k l : Nat} {v : Int32} (h : EQ n f g) (hk : (k : Int) = n) (hl : (l : Int) = n) (hm : m = n + 1) : EQ m (upd f k v) (upd g l v) := by
  intro j hj
  by_cases e : j = k
  · rw [e, upd_eq, show k = l by omega, upd_eq]
  · rw [upd_ne e, upd_ne (by omega)]; exact h j (by omega)
/-- an IMAGE is kept -/
theorem bt_img {n k : Int} {K f g : Nat → Int32} {M : Nat → Int32} {b N : Nat} (h1 : EQ n K f) (h2 : EQ n f g) (h3 : ∀ j : Nat, j < N → M (b + j) = g j) (hn : n ≤ N) (hk : k = n) : EQ k K (fun j => M (b + j)) := by
  intro j hj
  rw [h1 j (by omega), h2 j (by omega)]
  exact (h3 j (by omega)).symm
/-- and brought back -/
theorem bt_res {i1 i2 s k t : Int32} {f F K g G M : Nat → Int32} {b N : Nat} (u : (i1.toInt = 0 ∧ t.toInt = s.toInt ∧ F = f) ∨ (¬ i1.toInt = 0 ∧ t.toInt = k.toInt ∧ EQ k.toInt F K)) (w : (i2.toInt = 0 ∧ G = g) ∨ (¬ i2.toInt = 0 ∧ ∀ j : Nat, j < N → G j = M (b + j))) (hi : (i1.toInt = 0 ∧ i2.toInt = 0) ∨ (¬ i1.toInt = 0 ∧ ¬ i2.toInt = 0)) (e : EQ s.toInt f g) (ek : i1.toInt = 0 ∨ EQ k.toInt K (fun j => M (b + j))) (hk : k.toInt ≤ N) : EQ t.toInt F G := by
  rcases u with ⟨u0, u1, u2⟩ | ⟨u0, u1, u2⟩ <;> rcases w with ⟨w0, w1⟩ | ⟨w0, w1⟩
  · rw [u1, u2, w1]; exact e
  · omega
  · omega
  · rw [u1]
    rcases ek with ek | ek
    · omega
    · intro j hj
      rw [u2 j hj, ek j hj]
      exact (w1 j (by omega)).symm
