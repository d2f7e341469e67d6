section ENDI
variable {I : Nat → Nat → Int32}
theorem ui_ne {a b k : Nat} {v : Int32} (h : a ≠ b) : ai_ui I b k v a = I a := by simp only [ai_ui, if_neg h]
theorem row_ne {a b : Nat} {r : Nat → Int32} (h : a ≠ b) : ai_row I b r a = I a := by simp only [ai_row, if_neg h]
theorem row_eq {b : Nat} {r : Nat → Int32} : ai_row I b r b = r := by simp only [ai_row, if_pos]
theorem ca_fr {a : Nat} (h : a < 172) : ∀ i, wIca i I a = I a := by
  intro i
  induction i with
  | zero => rfl
  | succ i ih =>
    show cI_12 (ai_row (wIca i I) (172 + 2 * i) (fun _ => 0)) (172 + 2 * i) a = I a
    unfold cI_12
    rw [row_ne (by omega), ui_ne (by omega), ui_ne (by omega), row_ne (by omega)]; exact ih
theorem ca_row : ∀ i c, c < i → wIca i I (172 + 2 * c + 1) = fun _ => 0 := by
  intro i
  induction i with
  | zero => intro c hc; omega
  | succ i ih =>
    intro c hc
    show cI_12 (ai_row (wIca i I) (172 + 2 * i) (fun _ => 0)) (172 + 2 * i) (172 + 2 * c + 1) = _
    unfold cI_12
    by_cases e : c = i
    · subst e; exact row_eq
    · rw [row_ne (by omega), ui_ne (by omega), ui_ne (by omega), row_ne (by omega)]; exact ih c (by omega)
theorem ju_row : ∀ i c, c < i → wIju i I (76 + 4 * c + 1) = (fun _ => 0) ∧ wIju i I (76 + 4 * c + 2) = (fun _ => 0) ∧ wIju i I (76 + 4 * c + 3) = fun _ => 0 := by
  intro i
  induction i with
  | zero => intro c hc; omega
  | succ i ih =>
    intro c hc
    show cI_19 (ai_row (wIju i I) (76 + 4 * i) (fun _ => 0)) (76 + 4 * i) (76 + 4 * c + 1) = _ ∧ cI_19 (ai_row (wIju i I) (76 + 4 * i) (fun _ => 0)) (76 + 4 * i) (76 + 4 * c + 2) = _ ∧ cI_19 (ai_row (wIju i I) (76 + 4 * i) (fun _ => 0)) (76 + 4 * i) (76 + 4 * c + 3) = _
    unfold cI_19
    by_cases e : c = i
    · subst e
      refine ⟨?_, ?_, ?_⟩
      · rw [row_ne (by omega), row_ne (by omega)]; exact row_eq
      · rw [row_ne (by omega)]; exact row_eq
      · exact row_eq
    · obtain ⟨h1, h2, h3⟩ := ih c (by omega)
      refine ⟨?_, ?_, ?_⟩
      · rw [row_ne (by omega), row_ne (by omega), row_ne (by omega), ui_ne (by omega), ui_ne (by omega), ui_ne (by omega), ui_ne (by omega), row_ne (by omega)]; exact h1
      · rw [row_ne (by omega), row_ne (by omega), row_ne (by omega), ui_ne (by omega), ui_ne (by omega), ui_ne (by omega), ui_ne (by omega), row_ne (by omega)]; exact h2
      · rw [row_ne (by omega), row_ne (by omega), row_ne (by omega), ui_ne (by omega), ui_ne (by omega), ui_ne (by omega), ui_ne (by omega), row_ne (by omega)]; exact h3
theorem m_fr {a : Nat} (h : a < 572) : cI_113 I a = I a := by
  unfold cI_113
  repeat (first | rw [row_ne (by omega)] | rw [ui_ne (by omega)])
theorem e_nt {c : Nat} (hc : c < 200) : eI (172 + 2 * c + 1) = fun _ => 0 := by
  unfold eI
  rw [m_fr (by omega), row_ne (by omega)]
  unfold xI
  exact ca_row 200 c hc
theorem e_ju {j : Nat} (hj : j < 24) : eI (76 + 4 * j + 1) = (fun _ => 0) ∧ eI (76 + 4 * j + 2) = (fun _ => 0) ∧ eI (76 + 4 * j + 3) = fun _ => 0 := by
  unfold eI
  rw [m_fr (by omega), row_ne (by omega), m_fr (by omega), row_ne (by omega), m_fr (by omega), row_ne (by omega)]
  unfold xI
  rw [ca_fr (by omega), ca_fr (by omega), ca_fr (by omega)]
  exact ju_row 24 j hj
theorem e_x1 : eI 1 4 = 0 ∧ eI 1 5 = 0 ∧ eI 1 6 = 0 ∧ eI 1 7 = nI 950 ∧ eI 1 8 = nI 12 ∧ eI 1 9 = nI 3 ∧ eI 1 11 = 0 ∧ ∀ i, i < 7 → eI 7 i = 0 := by decide +kernel
theorem e_sh : ∀ s, s < 8 → eI (55 + 2 * s) 0 = 0 ∧ eI (55 + 2 * s) 1 = -1 ∧ eI (55 + 2 * s) 3 = 0 := by decide +kernel
theorem e_jd : ∀ j, j < 24 → eI (76 + 4 * j) 0 = 0 ∧ eI (76 + 4 * j) 1 = 0 ∧ eI (76 + 4 * j) 2 = 0 ∧ eI (76 + 4 * j) 3 = -1 := by decide +kernel
theorem e_ca : ∀ c, c < 200 → eI (172 + 2 * c) 0 = -1 ∧ eI (172 + 2 * c) 1 = -1 := by decide +kernel
theorem e_m1 : eI 572 5 = 0 ∧ eI 572 6 = 0 ∧ eI 572 7 = 0 ∧ eI 572 20 = 1 ∧ eI 572 21 = nI 950 ∧ eI 572 22 = nI 12 ∧ eI 572 23 = nI 3 ∧ eI 572 29 = 0 := by decide +kernel
theorem e_m2 : ∀ i, i < 8 → eI 573 i = 0 ∧ eI 574 i = -1 ∧ eI 575 i = 0 := by decide +kernel
theorem e_m3 : ∀ j, j < 24 → eI 583 j = 0 ∧ eI 584 j = 0 ∧ eI 585 j = 0 := by decide +kernel
end ENDI
