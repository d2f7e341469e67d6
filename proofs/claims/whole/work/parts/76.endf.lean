section ENDF
theorem rf_dom {a k b : Nat} (h : ai_rf a k = some b) : a < 573 ∧ k < (if a = 5 then 200 else 33) := by
  have g : ∀ (l : List (Option Nat)), l.length ≤ 33 → l.getD k none = some b → k < 33 := by
    intro l hl h
    by_cases hk : k < l.length
    · omega
    · simp only [List.getD, List.getElem?_eq_none (show l.length ≤ k by omega), Option.getD_none] at h; cases h
  unfold ai_rf at h
  by_cases h0 : a = 1
  · rw [if_pos h0] at h
    have := g _ (by decide) h; exact ⟨by omega, by rw [if_neg (by omega)]; exact this⟩
  rw [if_neg h0] at h
  by_cases h1 : a = 2
  · rw [if_pos h1] at h
    by_cases hc : k < 8
    · rw [if_pos hc] at h; exact ⟨by omega, by rw [if_neg (by omega)]; omega⟩
    · rw [if_neg hc] at h; cases h
  rw [if_neg h1] at h
  by_cases h2 : a = 3
  · rw [if_pos h2] at h
    by_cases hc : k < 5
    · rw [if_pos hc] at h; exact ⟨by omega, by rw [if_neg (by omega)]; omega⟩
    · rw [if_neg hc] at h; cases h
  rw [if_neg h2] at h
  by_cases h3 : a = 4
  · rw [if_pos h3] at h
    by_cases hc : k < 24
    · rw [if_pos hc] at h; exact ⟨by omega, by rw [if_neg (by omega)]; omega⟩
    · rw [if_neg hc] at h; cases h
  rw [if_neg h3] at h
  by_cases h4 : a = 5
  · rw [if_pos h4] at h
    by_cases hc : k < 200
    · rw [if_pos hc] at h; exact ⟨by omega, by rw [if_pos (by omega)]; omega⟩
    · rw [if_neg hc] at h; cases h
  rw [if_neg h4] at h
  by_cases h5 : a = 8
  · rw [if_pos h5] at h
    have := g _ (by decide) h; exact ⟨by omega, by rw [if_neg (by omega)]; exact this⟩
  rw [if_neg h5] at h
  by_cases h6 : a = 9
  · rw [if_pos h6] at h
    by_cases hc : k < 4
    · rw [if_pos hc] at h; exact ⟨by omega, by rw [if_neg (by omega)]; omega⟩
    · rw [if_neg hc] at h; cases h
  rw [if_neg h6] at h
  by_cases h7 : a = 24
  · rw [if_pos h7] at h
    by_cases hc : k < 3
    · rw [if_pos hc] at h; exact ⟨by omega, by rw [if_neg (by omega)]; omega⟩
    · rw [if_neg hc] at h; cases h
  rw [if_neg h7] at h
  by_cases h8 : a = 28 ∨ a = 37 ∨ a = 46
  · rw [if_pos h8] at h
    by_cases hc : k < 4
    · rw [if_pos hc] at h; exact ⟨by omega, by rw [if_neg (by omega)]; omega⟩
    · rw [if_neg hc] at h; cases h
  rw [if_neg h8] at h
  by_cases h9 : a < 55
  · rw [if_pos h9] at h
    by_cases hc : (ai_sp a).1 = 0 ∧ k = 0
    · rw [if_pos hc] at h; exact ⟨by omega, by rw [if_neg (by omega)]; omega⟩
    · rw [if_neg hc] at h; cases h
  rw [if_neg h9] at h
  by_cases h10 : a < 71
  · rw [if_pos h10] at h
    by_cases hc : a % 2 = 1 ∧ k = 4
    · rw [if_pos hc] at h; exact ⟨by omega, by rw [if_neg (by omega)]; omega⟩
    · rw [if_neg hc] at h; cases h
  rw [if_neg h10] at h
  by_cases h11 : a < 76
  · rw [if_pos h11] at h
    cases h
  rw [if_neg h11] at h
  by_cases h12 : a < 172
  · rw [if_pos h12] at h
    by_cases hc : a % 4 = 0 ∧ 4 ≤ k ∧ k < 7
    · rw [if_pos hc] at h; exact ⟨by omega, by rw [if_neg (by omega)]; omega⟩
    · rw [if_neg hc] at h; cases h
  rw [if_neg h12] at h
  by_cases h13 : a < 572
  · rw [if_pos h13] at h
    by_cases hc : a % 2 = 0 ∧ k = 2
    · rw [if_pos hc] at h; exact ⟨by omega, by rw [if_neg (by omega)]; omega⟩
    · rw [if_neg hc] at h; cases h
  rw [if_neg h13] at h
  by_cases h14 : a = 572
  · rw [if_pos h14] at h
    have := g _ (by decide) h; exact ⟨by omega, by rw [if_neg (by omega)]; exact this⟩
  rw [if_neg h14] at h
  cases h
theorem eF_chk : ((List.range 573).all fun a => (List.range (if a = 5 then 200 else 33)).all fun k => match ai_rf a k with | none => true | some b => eF a k == some b) = true := by decide +kernel
theorem eF_rf : ∀ a k b, ai_rf a k = some b → eF a k = some b := by
  intro a k b h
  obtain ⟨h1, h2⟩ := rf_dom h
  have h3 := List.all_eq_true.mp (List.all_eq_true.mp eF_chk a (List.mem_range.mpr h1)) k (List.mem_range.mpr h2)
  rw [h] at h3
  exact beq_iff_eq.mp h3
theorem e_G : ai_G eS eF := ⟨eS_sp, eF_rf⟩
end ENDF
