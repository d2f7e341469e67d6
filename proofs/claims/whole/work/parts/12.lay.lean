def ai_spA : List (Nat × Nat) := [(999, 0), (8, 0), (104, 8), (105, 5), (106, 24), (107, 200), (100, 30), (100, 7), (3, 0), (108, 4), (0, 0), (100, 16), (0, 0), (100, 16), (0, 0), (100, 16), (0, 0), (100, 16), (0, 0), (100, 16), (0, 0), (100, 16), (0, 0), (100, 16), (7, 0), (102, 5), (102, 5), (100, 5), (5, 0), (0, 0), (100, 32), (0, 0), (100, 32), (0, 0), (100, 32), (0, 0), (100, 32), (5, 0), (0, 0), (100, 32), (0, 0), (100, 32), (0, 0), (100, 32), (0, 0), (100, 32), (5, 0), (0, 0), (100, 500), (0, 0), (100, 500), (0, 0), (100, 500), (0, 0), (100, 500)]
def ai_spM : List (Nat × Nat) := [(9, 0), (100, 8), (100, 8), (100, 8), (103, 800), (103, 100), (100, 5), (100, 5), (100, 5), (100, 200), (100, 200), (102, 24), (100, 24), (100, 24), (100, 4800), (100, 4800), (102, 4800), (100, 24), (100, 1920), (100, 480), (100, 27200), (100, 16), (100, 30), (100, 200), (102, 200), (102, 200)]
def ai_sp (a : Nat) : Nat × Nat :=
  if a < 55 then ai_spA.getD a (999, 0)
  else if a < 71 then (if a % 2 = 1 then (6, 0) else (103, 100))
  else if a < 76 then (4, 0)
  else if a < 172 then (if a % 4 = 0 then (2, 0) else if a % 4 = 1 then (100, 24) else if a % 4 = 2 then (100, 80) else (100, 20))
  else if a < 572 then (if a % 2 = 0 then (1, 0) else (101, 24))
  else ai_spM.getD (a - 572) (999, 0)
def ai_rfX : List (Option Nat) := [some 2, some 3, some 4, some 5, none, none, none, none, none, none, some 6, none, some 7, some 8, some 24, some 28, some 37, some 46]
def ai_rfM : List (Option Nat) := [some 573, some 574, some 575, some 576, some 577, none, none, none, some 578, some 579, some 580, some 581, some 582, some 583, some 584, some 585, some 586, some 587, some 588, some 589, none, none, none, none, some 590, some 591, some 592, some 593, some 594, none, some 595, some 596, some 597]
def ai_rf (a k : Nat) : Option Nat :=
  if a = 1 then ai_rfX.getD k none
  else if a = 2 then (if k < 8 then some (55 + 2 * k) else none)
  else if a = 3 then (if k < 5 then some (71 + k) else none)
  else if a = 4 then (if k < 24 then some (76 + 4 * k) else none)
  else if a = 5 then (if k < 200 then some (172 + 2 * k) else none)
  else if a = 8 then ([some 9, some 10, some 12, some 14] : List (Option Nat)).getD k none
  else if a = 9 then (if k < 4 then some (16 + 2 * k) else none)
  else if a = 24 then (if k < 3 then some (25 + k) else none)
  else if a = 28 ∨ a = 37 ∨ a = 46 then (if k < 4 then some (a + 1 + 2 * k) else none)
  else if a < 55 then (if (ai_sp a).1 = 0 ∧ k = 0 then some (a + 1) else none)
  else if a < 71 then (if a % 2 = 1 ∧ k = 4 then some (a + 1) else none)
  else if a < 76 then none
  else if a < 172 then (if a % 4 = 0 ∧ 4 ≤ k ∧ k < 7 then some (a + (k - 3)) else none)
  else if a < 572 then (if a % 2 = 0 ∧ k = 2 then some (a + 1) else none)
  else if a = 572 then ai_rfM.getD k none
  else none
theorem sp_shelf {s : Nat} (h : s < 8) : ai_sp (55 + 2 * s) = (6, 0) := by
  have := (by decide +kernel : ∀ s, s < 8 → ai_sp (55 + 2 * s) = (6, 0)); exact this s h
theorem sp_elems {s : Nat} (h : s < 8) : ai_sp (55 + 2 * s + 1) = (103, 100) := by
  have := (by decide +kernel : ∀ s, s < 8 → ai_sp (55 + 2 * s + 1) = (103, 100)); exact this s h
theorem sp_question {q : Nat} (h : q < 5) : ai_sp (71 + q) = (4, 0) := by
  have := (by decide +kernel : ∀ s, s < 5 → ai_sp (71 + s) = (4, 0)); exact this q h
theorem sp_judge {j : Nat} (h : j < 24) : ai_sp (76 + 4 * j) = (2, 0) := by
  have := (by decide +kernel : ∀ s, s < 24 → ai_sp (76 + 4 * s) = (2, 0)); exact this j h
theorem sp_alike {j : Nat} (h : j < 24) : ai_sp (76 + 4 * j + 1) = (100, 24) := by
  have := (by decide +kernel : ∀ s, s < 24 → ai_sp (76 + 4 * s + 1) = (100, 24)); exact this j h
theorem sp_said {j : Nat} (h : j < 24) : ai_sp (76 + 4 * j + 2) = (100, 80) := by
  have := (by decide +kernel : ∀ s, s < 24 → ai_sp (76 + 4 * s + 2) = (100, 80)); exact this j h
theorem sp_sall {j : Nat} (h : j < 24) : ai_sp (76 + 4 * j + 3) = (100, 20) := by
  have := (by decide +kernel : ∀ s, s < 24 → ai_sp (76 + 4 * s + 3) = (100, 20)); exact this j h
theorem sp_case {c : Nat} (h : c < 200) : ai_sp (172 + 2 * c) = (1, 0) := by
  have := (by decide +kernel : ∀ s, s < 200 → ai_sp (172 + 2 * s) = (1, 0)); exact this c h
theorem sp_notes {c : Nat} (h : c < 200) : ai_sp (172 + 2 * c + 1) = (101, 24) := by
  have := (by decide +kernel : ∀ s, s < 200 → ai_sp (172 + 2 * s + 1) = (101, 24)); exact this c h
theorem sp_weight {b : Nat} (h : b < 4) : ai_sp (16 + 2 * b) = (0, 0) := by
  have := (by decide +kernel : ∀ s, s < 4 → ai_sp (16 + 2 * s) = (0, 0)); exact this b h
theorem rf_shelf {s : Nat} (h : s < 8) : ai_rf 2 s = some (55 + 2 * s) := by simp [ai_rf, h]
theorem rf_question {s : Nat} (h : s < 5) : ai_rf 3 s = some (71 + s) := by simp [ai_rf, h]
theorem rf_judge {s : Nat} (h : s < 24) : ai_rf 4 s = some (76 + 4 * s) := by simp [ai_rf, h]
theorem rf_case {s : Nat} (h : s < 200) : ai_rf 5 s = some (172 + 2 * s) := by simp [ai_rf, h]
theorem rf_weight {s : Nat} (h : s < 4) : ai_rf 9 s = some (16 + 2 * s) := by simp [ai_rf, h]
theorem rf_elems {s : Nat} (h : s < 8) : ai_rf (55 + 2 * s) 4 = some (55 + 2 * s + 1) := by
  have := (by decide +kernel : ∀ s, s < 8 → ai_rf (55 + 2 * s) 4 = some (55 + 2 * s + 1)); exact this s h
theorem rf_alike {j : Nat} (h : j < 24) : ai_rf (76 + 4 * j) 4 = some (76 + 4 * j + 1) := by
  have := (by decide +kernel : ∀ s, s < 24 → ai_rf (76 + 4 * s) 4 = some (76 + 4 * s + 1)); exact this j h
theorem rf_said {j : Nat} (h : j < 24) : ai_rf (76 + 4 * j) 5 = some (76 + 4 * j + 2) := by
  have := (by decide +kernel : ∀ s, s < 24 → ai_rf (76 + 4 * s) 5 = some (76 + 4 * s + 2)); exact this j h
theorem rf_sall {j : Nat} (h : j < 24) : ai_rf (76 + 4 * j) 6 = some (76 + 4 * j + 3) := by
  have := (by decide +kernel : ∀ s, s < 24 → ai_rf (76 + 4 * s) 6 = some (76 + 4 * s + 3)); exact this j h
theorem rf_notes {c : Nat} (h : c < 200) : ai_rf (172 + 2 * c) 2 = some (172 + 2 * c + 1) := by
  have := (by decide +kernel : ∀ s, s < 200 → ai_rf (172 + 2 * s) 2 = some (172 + 2 * s + 1)); exact this c h
def ai_G (S : List (Nat × Nat)) (F : Nat → Nat → Option Nat) : Prop := (∀ a s, ai_sp a = s → a ≠ 0 → a < 598 → S[a]? = some s) ∧ ∀ a k b, ai_rf a k = some b → F a k = some b
def ai_big (a n : Nat) : Prop := ai_sp a = (0, 0) ∧ ai_rf a 0 = some (a + 1) ∧ ai_sp (a + 1) = (100, n) ∧ a ≠ 0 ∧ a + 1 < 598
theorem big_16 : ∀ a, a = 10 ∨ a = 12 ∨ a = 14 ∨ a = 16 ∨ a = 18 ∨ a = 20 ∨ a = 22 → ai_big a 16 := by
  intro a h
  rcases h with rfl | rfl | rfl | rfl | rfl | rfl | rfl <;> exact ⟨rfl, rfl, rfl, by decide, by decide⟩
theorem big_w {b : Nat} (h : b < 4) : ai_big (16 + 2 * b) 16 := big_16 _ (by omega)
theorem big_32 : ∀ a, a = 29 ∨ a = 31 ∨ a = 33 ∨ a = 35 ∨ a = 38 ∨ a = 40 ∨ a = 42 ∨ a = 44 → ai_big a 32 := by
  intro a h
  rcases h with rfl | rfl | rfl | rfl | rfl | rfl | rfl | rfl <;> exact ⟨rfl, rfl, rfl, by decide, by decide⟩
theorem big_500 : ∀ a, a = 47 ∨ a = 49 ∨ a = 51 ∨ a = 53 → ai_big a 500 := by
  intro a h
  rcases h with rfl | rfl | rfl | rfl <;> exact ⟨rfl, rfl, rfl, by decide, by decide⟩
