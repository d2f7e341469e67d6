section ENDF
theorem rf_dom {a k b : Nat} (h : ai_rf a k = some b) : a < 573 ∧ k < (if a = 5 then 200 else 33) := by
  have g : ∀ (l : List (Option Nat)), l.length ≤ 33 → l.getD k none = some b → k < 33 := by
    intro l hl h
    by_cases hk : k < l.length
    · omega
    · rw [List.getD_eq_default _ _ (by omega)] at h; cases h
  unfold ai_rf at h
  split at h
  · rename_i h1; subst h1; exact ⟨by decide, g _ (by decide) h⟩
  split at h
  · rename_i h1; subst h1; split at h
    · exact ⟨by decide, by rw [if_neg (by decide)]; omega⟩
    · cases h
  split at h
  · rename_i h1; subst h1; split at h
    · exact ⟨by decide, by rw [if_neg (by decide)]; omega⟩
    · cases h
  split at h
  · rename_i h1; subst h1; split at h
    · exact ⟨by decide, by rw [if_neg (by decide)]; omega⟩
    · cases h
  split at h
  · rename_i h1; subst h1; split at h
    · exact ⟨by decide, by rw [if_pos rfl]; omega⟩
    · cases h
  rename_i h5
  rw [if_neg h5]
  split at h
  · rename_i h1; subst h1; exact ⟨by decide, g _ (by decide) h⟩
  split at h
  · split at h
    · exact ⟨by omega, by omega⟩
    · cases h
  split at h
  · split at h
    · exact ⟨by omega, by omega⟩
    · cases h
  split at h
  · split at h
    · exact ⟨by omega, by omega⟩
    · cases h
  split at h
  · split at h
    · exact ⟨by omega, by omega⟩
    · cases h
  split at h
  · split at h
    · exact ⟨by omega, by omega⟩
    · cases h
  split at h
  · cases h
  split at h
  · split at h
    · exact ⟨by omega, by omega⟩
    · cases h
  split at h
  · split at h
    · exact ⟨by omega, by omega⟩
    · cases h
  split at h
  · rename_i h1; subst h1; exact ⟨by decide, g _ (by decide) h⟩
  · cases h
theorem eF_chk : ((List.range 573).all fun a => (List.range (if a = 5 then 200 else 33)).all fun k => match ai_rf a k with | none => true | some b => eF a k == some b) = true := by decide +kernel
theorem eF_rf : ∀ a k b, ai_rf a k = some b → eF a k = some b := by
  intro a k b h
  obtain ⟨h1, h2⟩ := rf_dom h
  have h3 := List.all_eq_true.mp (List.all_eq_true.mp eF_chk a (List.mem_range.mpr h1)) k (List.mem_range.mpr h2)
  rw [h] at h3
  exact beq_iff_eq.mp h3
theorem e_G : ai_G eS eF := ⟨eS_sp, eF_rf⟩
end ENDF
