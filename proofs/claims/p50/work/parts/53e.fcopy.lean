/-! ===== copy's answer ===== -/
def cp_ans (p q i j n tF tT lF lT zF zT : Int) : Int := if ¬ (0 ≤ p ∧ p ≤ 3 ∧ 0 ≤ q ∧ q ≤ 3) then -1 else if tF = 0 ∨ tT = 0 then -11 else if ¬ lF = lT then -12 else if ¬ (0 ≤ n ∧ 0 ≤ i ∧ i + n ≤ zF ∧ 0 ≤ j ∧ j + n ≤ zT) then -13 else n
def cp_s (l : Int) : Int := if l < 0 then 0 else 1
theorem cp_s_d {l : Int} : (l < 0 ∧ cp_s l = 0) ∨ (0 ≤ l ∧ cp_s l = 1) := by
  unfold cp_s
  by_cases h : l < 0
  · exact Or.inl ⟨h, if_pos h⟩
  · exact Or.inr ⟨by omega, if_neg h⟩
theorem cp_0 {r p q i j n tF tT lF lT zF zT : Int} (h : ¬ (0 ≤ p ∧ p ≤ 3 ∧ 0 ≤ q ∧ q ≤ 3)) (hr : r = -1) : r = cp_ans p q i j n tF tT lF lT zF zT := by
  unfold cp_ans
  rw [if_pos h, hr]
theorem cp_1 {r p q i j n tF tT lF lT zF zT : Int} (h : 0 ≤ p ∧ p ≤ 3 ∧ 0 ≤ q ∧ q ≤ 3) (h1 : tF = 0 ∨ tT = 0) (hr : r = -11) : r = cp_ans p q i j n tF tT lF lT zF zT := by
  unfold cp_ans
  rw [if_neg (fun a => a h), if_pos h1, hr]
theorem cp_2 {r p q i j n tF tT lF lT zF zT : Int} (h : 0 ≤ p ∧ p ≤ 3 ∧ 0 ≤ q ∧ q ≤ 3) (h1 : ¬ tF = 0) (h2 : ¬ tT = 0) (h3 : ¬ lF = lT) (hr : r = -12) : r = cp_ans p q i j n tF tT lF lT zF zT := by
  unfold cp_ans
  rw [if_neg (fun a => a h), if_neg (by omega), if_pos h3, hr]
theorem cp_3 {r p q i j n tF tT lF lT zF zT : Int} (h : 0 ≤ p ∧ p ≤ 3 ∧ 0 ≤ q ∧ q ≤ 3) (h1 : ¬ tF = 0) (h2 : ¬ tT = 0) (h3 : lF = lT) (h4 : ¬ (0 ≤ n ∧ 0 ≤ i ∧ i + n ≤ zF ∧ 0 ≤ j ∧ j + n ≤ zT)) (hr : r = -13) : r = cp_ans p q i j n tF tT lF lT zF zT := by
  unfold cp_ans
  rw [if_neg (fun a => a h), if_neg (by omega), if_neg (fun a => a h3), if_pos h4, hr]
theorem cp_4 {r p q i j n tF tT lF lT zF zT : Int} (h : 0 ≤ p ∧ p ≤ 3 ∧ 0 ≤ q ∧ q ≤ 3) (h1 : ¬ tF = 0) (h2 : ¬ tT = 0) (h3 : lF = lT) (h4 : 0 ≤ n ∧ 0 ≤ i ∧ i + n ≤ zF ∧ 0 ≤ j ∧ j + n ≤ zT) (hr : r = n) : r = cp_ans p q i j n tF tT lF lT zF zT := by
  unfold cp_ans
  rw [if_neg (fun a => a h), if_neg (by omega), if_neg (fun a => a h3), if_neg (fun a => a h4), hr]
theorem cp_cmp {r7 r8 : Int32} {p q i j n tF tT lF lT zF zT sF sT kF kT yF yT : Int} (u : r7.toInt = cp_ans p q i j n tF tT lF lT zF zT) (w : r8.toInt = cp_ans p q i j n sF sT kF kT yF yT) (hF : 0 ≤ p ∧ p ≤ 3 → ((tF = 0 ∧ sF = 0) ∨ (¬ tF = 0 ∧ ¬ sF = 0 ∧ lF = kF)) ∧ zF = yF) (hT : 0 ≤ q ∧ q ≤ 3 → ((tT = 0 ∧ sT = 0) ∨ (¬ tT = 0 ∧ ¬ sT = 0 ∧ lT = kT)) ∧ zT = yT) : r7 = r8 := by
  refine Int32.toInt_inj.mp ?_
  rw [u, w]
  by_cases h : 0 ≤ p ∧ p ≤ 3 ∧ 0 ≤ q ∧ q ≤ 3
  · obtain ⟨a1, a2⟩ := hF ⟨h.1, h.2.1⟩
    obtain ⟨b1, b2⟩ := hT ⟨h.2.2.1, h.2.2.2⟩
    by_cases h1 : tF = 0 ∨ tT = 0
    · rw [← cp_1 (r := -11) h h1 rfl, ← cp_1 (r := -11) h (by omega) rfl]
    · have e1 : lF = kF := by omega
      have e2 : lT = kT := by omega
      by_cases h3 : lF = lT
      · by_cases h4 : 0 ≤ n ∧ 0 ≤ i ∧ i + n ≤ zF ∧ 0 ≤ j ∧ j + n ≤ zT
        · rw [← cp_4 (r := n) h (by omega) (by omega) h3 h4 rfl, ← cp_4 (r := n) h (by omega) (by omega) (by omega) (by omega) rfl]
        · rw [← cp_3 (r := -13) h (by omega) (by omega) h3 h4 rfl, ← cp_3 (r := -13) h (by omega) (by omega) (by omega) (by omega) rfl]
      · rw [← cp_2 (r := -12) h (by omega) (by omega) h3 rfl, ← cp_2 (r := -12) h (by omega) (by omega) (by omega) rfl]
  · rw [← cp_0 (r := -1) h rfl, ← cp_0 (r := -1) h rfl]
