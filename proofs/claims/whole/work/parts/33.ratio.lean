section RAT
variable {S : List (Nat × Nat)} {F : Nat → Nat → Option Nat} {L : Nat → Nat → Int64}
def ai_rat (r n : Nat) : Prop := ai_sp r = (5, 0) ∧ r ≠ 0 ∧ r < 598 ∧ (ai_rf r 0 = some (r + 1) ∧ ai_big (r + 1) n) ∧ (ai_rf r 1 = some (r + 3) ∧ ai_big (r + 3) n) ∧ (ai_rf r 2 = some (r + 5) ∧ ai_big (r + 5) n) ∧ (ai_rf r 3 = some (r + 7) ∧ ai_big (r + 7) n)
theorem rat_28 : ai_rat 28 32 := ⟨rfl, by decide, by decide, ⟨rfl, big_32 29 (by omega)⟩, ⟨rfl, big_32 31 (by omega)⟩, ⟨rfl, big_32 33 (by omega)⟩, ⟨rfl, big_32 35 (by omega)⟩⟩
theorem rat_37 : ai_rat 37 32 := ⟨rfl, by decide, by decide, ⟨rfl, big_32 38 (by omega)⟩, ⟨rfl, big_32 40 (by omega)⟩, ⟨rfl, big_32 42 (by omega)⟩, ⟨rfl, big_32 44 (by omega)⟩⟩
theorem rat_46 : ai_rat 46 500 := ⟨rfl, by decide, by decide, ⟨rfl, big_500 47 (by omega)⟩, ⟨rfl, big_500 49 (by omega)⟩, ⟨rfl, big_500 51 (by omega)⟩, ⟨rfl, big_500 53 (by omega)⟩⟩

theorem r_zero (G : ai_G S F) {r n : Nat} (hr : ai_rat r n) (hN31 : n < 2 ^ 31) (hN1 : 1 ≤ n) {I : Nat → Nat → Int32} :
    ai_Ev none 37 0 [some (.ref r)] [] (S, I, L, F) (ai_Pu S F L (fun I2 => ai_BG I2 (r + 1) n 0 ∧ ai_BG I2 (r + 3) n 1 ∧ ∀ z, (z < r ∨ r + 9 ≤ z) → I2 z = I z)) := by
  have hf0 : ∀ z, (z < r ∨ r + 9 ≤ z) → I z = I z := fun _ _ => rfl
  refine ev_aload_n 1 rfl d37_0 rfl ?_
  refine ev_getr 4 rfl 5 0 d37_1 rfl hr.2.1 (G.1 _ _ hr.1 hr.2.1 hr.2.2.1) (G.2 _ _ _ hr.2.2.2.1.1) ?_
  refine ev_iconst (v := nI 0) 5 rfl d37_4 (by decide) ?_
  refine ev_cu1 8 rfl 1 d37_5 rfl rfl (by rw [G.1 _ _ hr.2.2.2.1.2.1 hr.2.2.2.1.2.2.2.2.1 (by have := hr.2.2.2.1.2.2.2.2.2; omega)]; rfl) hr.2.2.2.1.2.2.2.2.1 rfl (big_set G hr.2.2.2.1.2 hN31 hN1 (m := 0) (by omega)) (fun I_1 hr_5 => ?_)
  obtain ⟨b_2, f_3⟩ := hr_5
  have f_4 : ∀ z, (z < r ∨ r + 9 ≤ z) → I_1 z = I z := fun z hz => (f_3 z (by omega)).trans (hf0 z hz)
  refine ev_aload_n 9 rfl d37_8 rfl ?_
  refine ev_getr 12 rfl 5 1 d37_9 rfl hr.2.1 (G.1 _ _ hr.1 hr.2.1 hr.2.2.1) (G.2 _ _ _ hr.2.2.2.2.1.1) ?_
  refine ev_iconst (v := nI 1) 13 rfl d37_12 (by decide) ?_
  refine ev_cu1 16 rfl 1 d37_13 rfl rfl (by rw [G.1 _ _ hr.2.2.2.2.1.2.1 hr.2.2.2.2.1.2.2.2.2.1 (by have := hr.2.2.2.2.1.2.2.2.2.2; omega)]; rfl) hr.2.2.2.2.1.2.2.2.2.1 rfl (big_set G hr.2.2.2.2.1.2 hN31 hN1 (m := 1) (by omega)) (fun I_5 hr_13 => ?_)
  obtain ⟨b_6, f_7⟩ := hr_13
  have b_8 : ai_BG I_5 (r + 1) n 0 := b_2.eq (f_7 _ (by omega)) (f_7 _ (by omega))
  have f_9 : ∀ z, (z < r ∨ r + 9 ≤ z) → I_5 z = I z := fun z hz => (f_7 z (by omega)).trans (f_4 z hz)
  refine ev_vret rfl d37_16 ?_
  exact ⟨rfl, _, rfl, b_8, b_6, f_9⟩
theorem r_set (G : ai_G S F) {r n : Nat} (hr : ai_rat r n) (hN31 : n < 2 ^ 31) (hN1 : 1 ≤ n) {m a b : Nat} (hm31 : m < 2 ^ 31) (hba : ai_big a m) (hbb : ai_big b m) (har : a + 1 < r ∨ r + 9 ≤ a) (hbr : b + 1 < r ∨ r + 9 ≤ b) {v u : Nat} {I : Nat → Nat → Int32} (hA : ai_BG I a m v) (hB : ai_BG I b m u) (hvf : v < 2147483648 ^ n) (huf : u < 2147483648 ^ n) :
    ai_Ev none 38 0 [some (.ref r), some (.ref a), some (.ref b)] [] (S, I, L, F) (ai_Pu S F L (fun I2 => ai_BG I2 (r + 1) n v ∧ ai_BG I2 (r + 3) n u ∧ ∀ z, (z < r ∨ r + 9 ≤ z) → I2 z = I z)) := by
  have hf0 : ∀ z, (z < r ∨ r + 9 ≤ z) → I z = I z := fun _ _ => rfl
  refine ev_aload_n 1 rfl d38_0 rfl ?_
  refine ev_getr 4 rfl 5 0 d38_1 rfl hr.2.1 (G.1 _ _ hr.1 hr.2.1 hr.2.2.1) (G.2 _ _ _ hr.2.2.2.1.1) ?_
  refine ev_aload_n 5 rfl d38_4 rfl ?_
  refine ev_cu1 8 rfl 2 d38_5 rfl rfl (by rw [G.1 _ _ hr.2.2.2.1.2.1 hr.2.2.2.1.2.2.2.2.1 (by have := hr.2.2.2.1.2.2.2.2.2; omega)]; rfl) hr.2.2.2.1.2.2.2.2.1 rfl (big_setB G hr.2.2.2.1.2 hN31 hba hm31 (by omega) hA (by first | omega | assumption)) (fun I_1 hr_5 => ?_)
  obtain ⟨b_2, f_3⟩ := hr_5
  have b_4 : ai_BG I_1 a m v := hA.eq (f_3 _ (by omega)) (f_3 _ (by omega))
  have b_5 : ai_BG I_1 b m u := hB.eq (f_3 _ (by omega)) (f_3 _ (by omega))
  have f_6 : ∀ z, (z < r ∨ r + 9 ≤ z) → I_1 z = I z := fun z hz => (f_3 z (by omega)).trans (hf0 z hz)
  refine ev_aload_n 9 rfl d38_8 rfl ?_
  refine ev_getr 12 rfl 5 1 d38_9 rfl hr.2.1 (G.1 _ _ hr.1 hr.2.1 hr.2.2.1) (G.2 _ _ _ hr.2.2.2.2.1.1) ?_
  refine ev_aload_n 13 rfl d38_12 rfl ?_
  refine ev_cu1 16 rfl 2 d38_13 rfl rfl (by rw [G.1 _ _ hr.2.2.2.2.1.2.1 hr.2.2.2.2.1.2.2.2.2.1 (by have := hr.2.2.2.2.1.2.2.2.2.2; omega)]; rfl) hr.2.2.2.2.1.2.2.2.2.1 rfl (big_setB G hr.2.2.2.2.1.2 hN31 hbb hm31 (by omega) b_5 (by first | omega | assumption)) (fun I_7 hr_13 => ?_)
  obtain ⟨b_8, f_9⟩ := hr_13
  have b_10 : ai_BG I_7 a m v := b_4.eq (f_9 _ (by omega)) (f_9 _ (by omega))
  have b_11 : ai_BG I_7 b m u := b_5.eq (f_9 _ (by omega)) (f_9 _ (by omega))
  have b_12 : ai_BG I_7 (r + 1) n v := b_2.eq (f_9 _ (by omega)) (f_9 _ (by omega))
  have f_13 : ∀ z, (z < r ∨ r + 9 ≤ z) → I_7 z = I z := fun z hz => (f_9 z (by omega)).trans (f_6 z hz)
  refine ev_vret rfl d38_16 ?_
  exact ⟨rfl, _, rfl, b_12, b_8, f_13⟩
theorem r_add (G : ai_G S F) {r n : Nat} (hr : ai_rat r n) (hN31 : n < 2 ^ 31) (hN1 : 1 ≤ n) {m a b : Nat} (hm31 : m < 2 ^ 31) (hba : ai_big a m) (hbb : ai_big b m) (har : a + 1 < r ∨ r + 9 ≤ a) (hbr : b + 1 < r ∨ r + 9 ≤ b) {v u : Nat} {A B p g : Nat} {I : Nat → Nat → Int32} (hA : ai_BG I a m v) (hB : ai_BG I b m u) (hA1 : ai_BG I (r + 1) n A) (hB1 : ai_BG I (r + 3) n B) (hlA : A < 2147483648 ^ p) (hlB : B < 2147483648 ^ p) (hlv : v < 2147483648 ^ g) (hlu : u < 2147483648 ^ g) (hpg : p + g ≤ n) (hgp : g + p ≤ n) (hf1 : A * u + v * B < 2147483648 ^ n) (hf2 : B * u < 2147483648 ^ n) :
    ai_Ev none 39 0 [some (.ref r), some (.ref a), some (.ref b)] [] (S, I, L, F) (ai_Pu S F L (fun I2 => ai_BG I2 (r + 1) n (A * u + v * B) ∧ ai_BG I2 (r + 3) n (B * u) ∧ ∀ z, (z < r ∨ r + 9 ≤ z) → I2 z = I z)) := by
  have hf0 : ∀ z, (z < r ∨ r + 9 ≤ z) → I z = I z := fun _ _ => rfl
  refine ev_aload_n 1 rfl d39_0 rfl ?_
  refine ev_getr 4 rfl 5 2 d39_1 rfl hr.2.1 (G.1 _ _ hr.1 hr.2.1 hr.2.2.1) (G.2 _ _ _ hr.2.2.2.2.2.1.1) ?_
  refine ev_aload_n 5 rfl d39_4 rfl ?_
  refine ev_getr 8 rfl 5 0 d39_5 rfl hr.2.1 (G.1 _ _ hr.1 hr.2.1 hr.2.2.1) (G.2 _ _ _ hr.2.2.2.1.1) ?_
  refine ev_aload_n 9 rfl d39_8 rfl ?_
  refine ev_cu2 12 rfl 3 d39_9 rfl rfl (by rw [G.1 _ _ hr.2.2.2.2.2.1.2.1 hr.2.2.2.2.2.1.2.2.2.2.1 (by have := hr.2.2.2.2.2.1.2.2.2.2.2; omega)]; rfl) hr.2.2.2.2.2.1.2.2.2.2.1 rfl (big_prod G hr.2.2.2.2.2.1.2 hN31 hr.2.2.2.1.2 hN31 (by omega) hbb hm31 (by omega) hA1 hB (hlA) (hlu) (hpg)) (fun I_1 hr_9 => ?_)
  obtain ⟨b_2, f_3⟩ := hr_9
  have b_4 : ai_BG I_1 a m v := hA.eq (f_3 _ (by omega)) (f_3 _ (by omega))
  have b_5 : ai_BG I_1 b m u := hB.eq (f_3 _ (by omega)) (f_3 _ (by omega))
  have b_6 : ai_BG I_1 (r + 1) n A := hA1.eq (f_3 _ (by omega)) (f_3 _ (by omega))
  have b_7 : ai_BG I_1 (r + 3) n B := hB1.eq (f_3 _ (by omega)) (f_3 _ (by omega))
  have f_8 : ∀ z, (z < r ∨ r + 9 ≤ z) → I_1 z = I z := fun z hz => (f_3 z (by omega)).trans (hf0 z hz)
  refine ev_aload_n 13 rfl d39_12 rfl ?_
  refine ev_getr 16 rfl 5 3 d39_13 rfl hr.2.1 (G.1 _ _ hr.1 hr.2.1 hr.2.2.1) (G.2 _ _ _ hr.2.2.2.2.2.2.1) ?_
  refine ev_aload_n 17 rfl d39_16 rfl ?_
  refine ev_aload_n 18 rfl d39_17 rfl ?_
  refine ev_getr 21 rfl 5 1 d39_18 rfl hr.2.1 (G.1 _ _ hr.1 hr.2.1 hr.2.2.1) (G.2 _ _ _ hr.2.2.2.2.1.1) ?_
  refine ev_cu2 24 rfl 3 d39_21 rfl rfl (by rw [G.1 _ _ hr.2.2.2.2.2.2.2.1 hr.2.2.2.2.2.2.2.2.2.2.1 (by have := hr.2.2.2.2.2.2.2.2.2.2.2; omega)]; rfl) hr.2.2.2.2.2.2.2.2.2.2.1 rfl (big_prod G hr.2.2.2.2.2.2.2 hN31 hba hm31 (by omega) hr.2.2.2.2.1.2 hN31 (by omega) b_4 b_7 (hlv) (hlB) (hgp)) (fun I_9 hr_21 => ?_)
  obtain ⟨b_10, f_11⟩ := hr_21
  have b_12 : ai_BG I_9 a m v := b_4.eq (f_11 _ (by omega)) (f_11 _ (by omega))
  have b_13 : ai_BG I_9 b m u := b_5.eq (f_11 _ (by omega)) (f_11 _ (by omega))
  have b_14 : ai_BG I_9 (r + 1) n A := b_6.eq (f_11 _ (by omega)) (f_11 _ (by omega))
  have b_15 : ai_BG I_9 (r + 3) n B := b_7.eq (f_11 _ (by omega)) (f_11 _ (by omega))
  have b_16 : ai_BG I_9 (r + 5) n (A * u) := b_2.eq (f_11 _ (by omega)) (f_11 _ (by omega))
  have f_17 : ∀ z, (z < r ∨ r + 9 ≤ z) → I_9 z = I z := fun z hz => (f_11 z (by omega)).trans (f_8 z hz)
  refine ev_aload_n 25 rfl d39_24 rfl ?_
  refine ev_getr 28 rfl 5 2 d39_25 rfl hr.2.1 (G.1 _ _ hr.1 hr.2.1 hr.2.2.1) (G.2 _ _ _ hr.2.2.2.2.2.1.1) ?_
  refine ev_aload_n 29 rfl d39_28 rfl ?_
  refine ev_getr 32 rfl 5 3 d39_29 rfl hr.2.1 (G.1 _ _ hr.1 hr.2.1 hr.2.2.1) (G.2 _ _ _ hr.2.2.2.2.2.2.1) ?_
  refine ev_cu1 35 rfl 5 d39_32 rfl rfl (by rw [G.1 _ _ hr.2.2.2.2.2.1.2.1 hr.2.2.2.2.2.1.2.2.2.2.1 (by have := hr.2.2.2.2.2.1.2.2.2.2.2; omega)]; rfl) hr.2.2.2.2.2.1.2.2.2.2.1 rfl (big_add G hr.2.2.2.2.2.1.2 hN31 hr.2.2.2.2.2.2.2 hN31 (by omega) b_16 b_10 (by first | omega | assumption)) (fun I_18 hr_32 => ?_)
  obtain ⟨b_19, f_20⟩ := hr_32
  have b_21 : ai_BG I_18 a m v := b_12.eq (f_20 _ (by omega)) (f_20 _ (by omega))
  have b_22 : ai_BG I_18 b m u := b_13.eq (f_20 _ (by omega)) (f_20 _ (by omega))
  have b_23 : ai_BG I_18 (r + 1) n A := b_14.eq (f_20 _ (by omega)) (f_20 _ (by omega))
  have b_24 : ai_BG I_18 (r + 3) n B := b_15.eq (f_20 _ (by omega)) (f_20 _ (by omega))
  have b_25 : ai_BG I_18 (r + 7) n (v * B) := b_10.eq (f_20 _ (by omega)) (f_20 _ (by omega))
  have f_26 : ∀ z, (z < r ∨ r + 9 ≤ z) → I_18 z = I z := fun z hz => (f_20 z (by omega)).trans (f_17 z hz)
  refine ev_aload_n 36 rfl d39_35 rfl ?_
  refine ev_getr 39 rfl 5 0 d39_36 rfl hr.2.1 (G.1 _ _ hr.1 hr.2.1 hr.2.2.1) (G.2 _ _ _ hr.2.2.2.1.1) ?_
  refine ev_aload_n 40 rfl d39_39 rfl ?_
  refine ev_getr 43 rfl 5 2 d39_40 rfl hr.2.1 (G.1 _ _ hr.1 hr.2.1 hr.2.2.1) (G.2 _ _ _ hr.2.2.2.2.2.1.1) ?_
  refine ev_cu1 46 rfl 2 d39_43 rfl rfl (by rw [G.1 _ _ hr.2.2.2.1.2.1 hr.2.2.2.1.2.2.2.2.1 (by have := hr.2.2.2.1.2.2.2.2.2; omega)]; rfl) hr.2.2.2.1.2.2.2.2.1 rfl (big_setB G hr.2.2.2.1.2 hN31 hr.2.2.2.2.2.1.2 hN31 (by omega) b_19 (by first | omega | assumption)) (fun I_27 hr_43 => ?_)
  obtain ⟨b_28, f_29⟩ := hr_43
  have b_30 : ai_BG I_27 a m v := b_21.eq (f_29 _ (by omega)) (f_29 _ (by omega))
  have b_31 : ai_BG I_27 b m u := b_22.eq (f_29 _ (by omega)) (f_29 _ (by omega))
  have b_32 : ai_BG I_27 (r + 3) n B := b_24.eq (f_29 _ (by omega)) (f_29 _ (by omega))
  have b_33 : ai_BG I_27 (r + 5) n ((A * u) + (v * B)) := b_19.eq (f_29 _ (by omega)) (f_29 _ (by omega))
  have b_34 : ai_BG I_27 (r + 7) n (v * B) := b_25.eq (f_29 _ (by omega)) (f_29 _ (by omega))
  have f_35 : ∀ z, (z < r ∨ r + 9 ≤ z) → I_27 z = I z := fun z hz => (f_29 z (by omega)).trans (f_26 z hz)
  refine ev_aload_n 47 rfl d39_46 rfl ?_
  refine ev_getr 50 rfl 5 2 d39_47 rfl hr.2.1 (G.1 _ _ hr.1 hr.2.1 hr.2.2.1) (G.2 _ _ _ hr.2.2.2.2.2.1.1) ?_
  refine ev_aload_n 51 rfl d39_50 rfl ?_
  refine ev_getr 54 rfl 5 1 d39_51 rfl hr.2.1 (G.1 _ _ hr.1 hr.2.1 hr.2.2.1) (G.2 _ _ _ hr.2.2.2.2.1.1) ?_
  refine ev_aload_n 55 rfl d39_54 rfl ?_
  refine ev_cu2 58 rfl 3 d39_55 rfl rfl (by rw [G.1 _ _ hr.2.2.2.2.2.1.2.1 hr.2.2.2.2.2.1.2.2.2.2.1 (by have := hr.2.2.2.2.2.1.2.2.2.2.2; omega)]; rfl) hr.2.2.2.2.2.1.2.2.2.2.1 rfl (big_prod G hr.2.2.2.2.2.1.2 hN31 hr.2.2.2.2.1.2 hN31 (by omega) hbb hm31 (by omega) b_32 b_31 (hlB) (hlu) (hpg)) (fun I_36 hr_55 => ?_)
  obtain ⟨b_37, f_38⟩ := hr_55
  have b_39 : ai_BG I_36 a m v := b_30.eq (f_38 _ (by omega)) (f_38 _ (by omega))
  have b_40 : ai_BG I_36 b m u := b_31.eq (f_38 _ (by omega)) (f_38 _ (by omega))
  have b_41 : ai_BG I_36 (r + 1) n ((A * u) + (v * B)) := b_28.eq (f_38 _ (by omega)) (f_38 _ (by omega))
  have b_42 : ai_BG I_36 (r + 3) n B := b_32.eq (f_38 _ (by omega)) (f_38 _ (by omega))
  have b_43 : ai_BG I_36 (r + 7) n (v * B) := b_34.eq (f_38 _ (by omega)) (f_38 _ (by omega))
  have f_44 : ∀ z, (z < r ∨ r + 9 ≤ z) → I_36 z = I z := fun z hz => (f_38 z (by omega)).trans (f_35 z hz)
  refine ev_aload_n 59 rfl d39_58 rfl ?_
  refine ev_getr 62 rfl 5 1 d39_59 rfl hr.2.1 (G.1 _ _ hr.1 hr.2.1 hr.2.2.1) (G.2 _ _ _ hr.2.2.2.2.1.1) ?_
  refine ev_aload_n 63 rfl d39_62 rfl ?_
  refine ev_getr 66 rfl 5 2 d39_63 rfl hr.2.1 (G.1 _ _ hr.1 hr.2.1 hr.2.2.1) (G.2 _ _ _ hr.2.2.2.2.2.1.1) ?_
  refine ev_cu1 69 rfl 2 d39_66 rfl rfl (by rw [G.1 _ _ hr.2.2.2.2.1.2.1 hr.2.2.2.2.1.2.2.2.2.1 (by have := hr.2.2.2.2.1.2.2.2.2.2; omega)]; rfl) hr.2.2.2.2.1.2.2.2.2.1 rfl (big_setB G hr.2.2.2.2.1.2 hN31 hr.2.2.2.2.2.1.2 hN31 (by omega) b_37 (by first | omega | assumption)) (fun I_45 hr_66 => ?_)
  obtain ⟨b_46, f_47⟩ := hr_66
  have b_48 : ai_BG I_45 a m v := b_39.eq (f_47 _ (by omega)) (f_47 _ (by omega))
  have b_49 : ai_BG I_45 b m u := b_40.eq (f_47 _ (by omega)) (f_47 _ (by omega))
  have b_50 : ai_BG I_45 (r + 1) n ((A * u) + (v * B)) := b_41.eq (f_47 _ (by omega)) (f_47 _ (by omega))
  have b_51 : ai_BG I_45 (r + 5) n (B * u) := b_37.eq (f_47 _ (by omega)) (f_47 _ (by omega))
  have b_52 : ai_BG I_45 (r + 7) n (v * B) := b_43.eq (f_47 _ (by omega)) (f_47 _ (by omega))
  have f_53 : ∀ z, (z < r ∨ r + 9 ≤ z) → I_45 z = I z := fun z hz => (f_47 z (by omega)).trans (f_44 z hz)
  refine ev_vret rfl d39_69 ?_
  exact ⟨rfl, _, rfl, b_50, b_46, f_53⟩
theorem r_above (G : ai_G S F) {r n : Nat} (hr : ai_rat r n) (hN31 : n < 2 ^ 31) (hN1 : 1 ≤ n) {r2 : Nat} (hr2 : ai_rat r2 n) (hdj : r2 + 9 ≤ r ∨ r + 9 ≤ r2) {A B C D p g : Nat} {I : Nat → Nat → Int32} (hA : ai_BG I (r + 1) n A) (hB : ai_BG I (r + 3) n B) (hC : ai_BG I (r2 + 1) n C) (hD : ai_BG I (r2 + 3) n D) (hlA : A < 2147483648 ^ p) (hlB : B < 2147483648 ^ p) (hlC : C < 2147483648 ^ p) (hlD : D < 2147483648 ^ p) (hpg : p + p ≤ n) :
    ai_Ev none 40 0 [some (.ref r), some (.ref r2)] [] (S, I, L, F) (ai_Pz S F L (C * B < A * D) (fun I2 => ai_BG I2 (r + 1) n A ∧ ai_BG I2 (r + 3) n B ∧ ∀ z, (z < r ∨ r + 9 ≤ z) → I2 z = I z)) := by
  have hf0 : ∀ z, (z < r ∨ r + 9 ≤ z) → I z = I z := fun _ _ => rfl
  refine ev_aload_n 1 rfl d40_0 rfl ?_
  refine ev_getr 4 rfl 5 2 d40_1 rfl hr.2.1 (G.1 _ _ hr.1 hr.2.1 hr.2.2.1) (G.2 _ _ _ hr.2.2.2.2.2.1.1) ?_
  refine ev_aload_n 5 rfl d40_4 rfl ?_
  refine ev_getr 8 rfl 5 0 d40_5 rfl hr.2.1 (G.1 _ _ hr.1 hr.2.1 hr.2.2.1) (G.2 _ _ _ hr.2.2.2.1.1) ?_
  refine ev_aload_n 9 rfl d40_8 rfl ?_
  refine ev_getr 12 rfl 5 1 d40_9 rfl hr2.2.1 (G.1 _ _ hr2.1 hr2.2.1 hr2.2.2.1) (G.2 _ _ _ hr2.2.2.2.2.1.1) ?_
  refine ev_cu2 15 rfl 3 d40_12 rfl rfl (by rw [G.1 _ _ hr.2.2.2.2.2.1.2.1 hr.2.2.2.2.2.1.2.2.2.2.1 (by have := hr.2.2.2.2.2.1.2.2.2.2.2; omega)]; rfl) hr.2.2.2.2.2.1.2.2.2.2.1 rfl (big_prod G hr.2.2.2.2.2.1.2 hN31 hr.2.2.2.1.2 hN31 (by omega) hr2.2.2.2.2.1.2 hN31 (by omega) hA hD (hlA) (hlD) (hpg)) (fun I_1 hr_12 => ?_)
  obtain ⟨b_2, f_3⟩ := hr_12
  have b_4 : ai_BG I_1 (r + 1) n A := hA.eq (f_3 _ (by omega)) (f_3 _ (by omega))
  have b_5 : ai_BG I_1 (r + 3) n B := hB.eq (f_3 _ (by omega)) (f_3 _ (by omega))
  have b_6 : ai_BG I_1 (r2 + 1) n C := hC.eq (f_3 _ (by omega)) (f_3 _ (by omega))
  have b_7 : ai_BG I_1 (r2 + 3) n D := hD.eq (f_3 _ (by omega)) (f_3 _ (by omega))
  have f_8 : ∀ z, (z < r ∨ r + 9 ≤ z) → I_1 z = I z := fun z hz => (f_3 z (by omega)).trans (hf0 z hz)
  refine ev_aload_n 16 rfl d40_15 rfl ?_
  refine ev_getr 19 rfl 5 3 d40_16 rfl hr.2.1 (G.1 _ _ hr.1 hr.2.1 hr.2.2.1) (G.2 _ _ _ hr.2.2.2.2.2.2.1) ?_
  refine ev_aload_n 20 rfl d40_19 rfl ?_
  refine ev_getr 23 rfl 5 0 d40_20 rfl hr2.2.1 (G.1 _ _ hr2.1 hr2.2.1 hr2.2.2.1) (G.2 _ _ _ hr2.2.2.2.1.1) ?_
  refine ev_aload_n 24 rfl d40_23 rfl ?_
  refine ev_getr 27 rfl 5 1 d40_24 rfl hr.2.1 (G.1 _ _ hr.1 hr.2.1 hr.2.2.1) (G.2 _ _ _ hr.2.2.2.2.1.1) ?_
  refine ev_cu2 30 rfl 3 d40_27 rfl rfl (by rw [G.1 _ _ hr.2.2.2.2.2.2.2.1 hr.2.2.2.2.2.2.2.2.2.2.1 (by have := hr.2.2.2.2.2.2.2.2.2.2.2; omega)]; rfl) hr.2.2.2.2.2.2.2.2.2.2.1 rfl (big_prod G hr.2.2.2.2.2.2.2 hN31 hr2.2.2.2.1.2 hN31 (by omega) hr.2.2.2.2.1.2 hN31 (by omega) b_6 b_5 (hlC) (hlB) (hpg)) (fun I_9 hr_27 => ?_)
  obtain ⟨b_10, f_11⟩ := hr_27
  have b_12 : ai_BG I_9 (r + 1) n A := b_4.eq (f_11 _ (by omega)) (f_11 _ (by omega))
  have b_13 : ai_BG I_9 (r + 3) n B := b_5.eq (f_11 _ (by omega)) (f_11 _ (by omega))
  have b_14 : ai_BG I_9 (r2 + 1) n C := b_6.eq (f_11 _ (by omega)) (f_11 _ (by omega))
  have b_15 : ai_BG I_9 (r2 + 3) n D := b_7.eq (f_11 _ (by omega)) (f_11 _ (by omega))
  have b_16 : ai_BG I_9 (r + 5) n (A * D) := b_2.eq (f_11 _ (by omega)) (f_11 _ (by omega))
  have f_17 : ∀ z, (z < r ∨ r + 9 ≤ z) → I_9 z = I z := fun z hz => (f_11 z (by omega)).trans (f_8 z hz)
  refine ev_aload_n 31 rfl d40_30 rfl ?_
  refine ev_getr 34 rfl 5 2 d40_31 rfl hr.2.1 (G.1 _ _ hr.1 hr.2.1 hr.2.2.1) (G.2 _ _ _ hr.2.2.2.2.2.1.1) ?_
  refine ev_aload_n 35 rfl d40_34 rfl ?_
  refine ev_getr 38 rfl 5 3 d40_35 rfl hr.2.1 (G.1 _ _ hr.1 hr.2.1 hr.2.2.1) (G.2 _ _ _ hr.2.2.2.2.2.2.1) ?_
  refine ev_cb1 41 rfl 7 d40_38 rfl rfl (by rw [G.1 _ _ hr.2.2.2.2.2.1.2.1 hr.2.2.2.2.2.1.2.2.2.2.1 (by have := hr.2.2.2.2.2.1.2.2.2.2.2; omega)]; rfl) hr.2.2.2.2.2.1.2.2.2.2.1 rfl (big_above G hr.2.2.2.2.2.1.2 hN31 hr.2.2.2.2.2.2.2 hN31 b_16 b_10) (fun hq_38 => ?_) (fun hq_38 => ?_)
  · refine ev_iret (Or.inr ⟨rfl, Or.inr (by decide)⟩) d40_41 ?_
    exact ⟨_, Or.inl ⟨hq_38, rfl⟩, rfl, b_12, b_13, f_17⟩
  · refine ev_iret (Or.inr ⟨rfl, Or.inl (by decide)⟩) d40_41 ?_
    exact ⟨_, Or.inr ⟨hq_38, rfl⟩, rfl, b_12, b_13, f_17⟩
theorem nM_dec (z : Nat) : nI z + Int32.ofInt (-1) = nI z - 1 := by rw [Int32.sub_eq_add_neg, show Int32.ofInt (-1) = -1 by decide]
theorem sh_one {z : Nat} (h : z < 20) : nI 1 <<< (nI z &&& 31) = nI (2 ^ z) := by
  have := (by decide +kernel : ∀ z, z < 20 → nI 1 <<< (nI z &&& 31) = nI (2 ^ z)); exact this z h

theorem r_floor_loop (G : ai_G S F) {r n : Nat} (hr : ai_rat r n) (hN31 : n < 2 ^ 31) (hN1 : 1 ≤ n) {m A B : Nat} (hm : m < 2147483648) (hB20 : 1048576 * B < 2147483648 ^ n) {I0 : Nat → Nat → Int32} : ∀ (z f : Nat) (I : Nat → Nat → Int32) (u4 : Option Value), z ≤ 20 → (f * B ≤ m * A ∧ m * A < (f + 2 ^ z) * B ∧ f + 2 ^ z ≤ 1048576) → ai_BG I (r + 3) n B → ai_BG I (r + 5) n (m * A) → (∀ z, (z < r ∨ r + 9 ≤ z) → I z = I0 z) →
    ai_Ev none 41 24 [some (.ref r), some (.int (nI m)), some (.int (nI f)), some (.int (nI z - 1)), u4] [] (S, I, L, F) (ai_Py S F L (fun v I2 => v = nI (m * A / B) ∧ ∀ z, (z < r ∨ r + 9 ≤ z) → I2 z = I0 z)) := by
  intro z
  induction z with
  | zero =>
    intro f I u4 hz ⟨hf1, hf2, hf3⟩ hB hP hf
    refine ev_iload_n 25 rfl d41_24 rfl ?_
    refine ev_if 78 28 (by decide) rfl (cq0_lt (by omega)) d41_25 (fun hc_25 => ?_) (fun hc_25 => absurd hc_25 (by omega))
    refine ev_iload_n 79 rfl d41_78 rfl ?_
    refine ev_iret (Or.inl rfl) d41_79 ?_
    exact ⟨_, _, rfl, rfl, congrArg nI (Nat.div_eq_of_lt_le hf1 hf2).symm, hf⟩
  | succ z ih =>
    intro f I u4 hz ⟨hf1, hf2, hf3⟩ hB hP hf
    obtain ⟨w, hw⟩ : ∃ w, w = 2 ^ z := ⟨_, rfl⟩
    have hp2 : 2 ^ (z + 1) = w + w := by rw [hw, Nat.pow_succ]; omega
    rw [hp2] at hf2 hf3
    have hf2b : m * A < (f + w + w) * B := by rw [Nat.add_assoc]; exact hf2
    have hfit9 : (f + w) * B < 2147483648 ^ n := Nat.lt_of_le_of_lt (Nat.mul_le_mul_right B (by omega)) hB20
    have hBl : B < 2147483648 ^ n := by omega
    rw [nM_succ z]
    refine ev_iload_n 25 rfl d41_24 rfl ?_
    refine ev_if_F 78 28 (by decide) rfl (c0_ltF (by omega)) d41_25 ?_
    refine ev_iload_n 29 rfl d41_28 rfl ?_
    refine ev_iconst (v := nI 1) 30 rfl d41_29 (by decide) ?_
    refine ev_iload_n 31 rfl d41_30 rfl ?_
    refine ev_ishl (v := nI w) 32 rfl d41_31 ((sh_one (by omega)).trans (congrArg nI hw.symm)) ?_
    refine ev_iadd (v := nI (f + w)) 33 rfl d41_32 (nI_add _ _) ?_
    refine ev_store_i 35 rfl d41_33 ⟨rfl, Nat.le_of_ble_eq_true rfl⟩ rfl ?_
    show ai_Ev _ _ _ [some (.ref r), some (.int (nI m)), some (.int (nI f)), some (.int (nI z)), some (.int (nI (f + w)))] _ _ _
    refine ev_aload_n 36 rfl d41_35 rfl ?_
    refine ev_getr 39 rfl 5 3 d41_36 rfl hr.2.1 (G.1 _ _ hr.1 hr.2.1 hr.2.2.1) (G.2 _ _ _ hr.2.2.2.2.2.2.1) ?_
    refine ev_aload_n 40 rfl d41_39 rfl ?_
    refine ev_getr 43 rfl 5 1 d41_40 rfl hr.2.1 (G.1 _ _ hr.1 hr.2.1 hr.2.2.1) (G.2 _ _ _ hr.2.2.2.2.1.1) ?_
    refine ev_cu1 46 rfl 2 d41_43 rfl rfl (by rw [G.1 _ _ hr.2.2.2.2.2.2.2.1 hr.2.2.2.2.2.2.2.2.2.2.1 (by have := hr.2.2.2.2.2.2.2.2.2.2.2; omega)]; rfl) hr.2.2.2.2.2.2.2.2.2.2.1 rfl (big_setB G hr.2.2.2.2.2.2.2 hN31 hr.2.2.2.2.1.2 hN31 (by omega) hB (by first | omega | assumption)) (fun I_1 hr_43 => ?_)
    obtain ⟨b_2, f_3⟩ := hr_43
    have b_4 : ai_BG I_1 (r + 3) n B := hB.eq (f_3 _ (by omega)) (f_3 _ (by omega))
    have b_5 : ai_BG I_1 (r + 5) n (m * A) := hP.eq (f_3 _ (by omega)) (f_3 _ (by omega))
    have f_6 : ∀ z, (z < r ∨ r + 9 ≤ z) → I_1 z = I0 z := fun z hz => (f_3 z (by omega)).trans (hf z hz)
    refine ev_aload_n 47 rfl d41_46 rfl ?_
    refine ev_getr 50 rfl 5 3 d41_47 rfl hr.2.1 (G.1 _ _ hr.1 hr.2.1 hr.2.2.1) (G.2 _ _ _ hr.2.2.2.2.2.2.1) ?_
    refine ev_iload 52 rfl d41_50 rfl ?_
    refine ev_cu1 55 rfl 4 d41_52 rfl rfl (by rw [G.1 _ _ hr.2.2.2.2.2.2.2.1 hr.2.2.2.2.2.2.2.2.2.2.1 (by have := hr.2.2.2.2.2.2.2.2.2.2.2; omega)]; rfl) hr.2.2.2.2.2.2.2.2.2.2.1 rfl (big_mul G hr.2.2.2.2.2.2.2 hN31 b_2 (m := f + w) (by omega) (by first | omega | assumption)) (fun I_7 hr_52 => ?_)
    obtain ⟨b_8, f_9⟩ := hr_52
    have b_10 : ai_BG I_7 (r + 3) n B := b_4.eq (f_9 _ (by omega)) (f_9 _ (by omega))
    have b_11 : ai_BG I_7 (r + 5) n (m * A) := b_5.eq (f_9 _ (by omega)) (f_9 _ (by omega))
    have f_12 : ∀ z, (z < r ∨ r + 9 ≤ z) → I_7 z = I0 z := fun z hz => (f_9 z (by omega)).trans (f_6 z hz)
    refine ev_aload_n 56 rfl d41_55 rfl ?_
    refine ev_getr 59 rfl 5 3 d41_56 rfl hr.2.1 (G.1 _ _ hr.1 hr.2.1 hr.2.2.1) (G.2 _ _ _ hr.2.2.2.2.2.2.1) ?_
    refine ev_aload_n 60 rfl d41_59 rfl ?_
    refine ev_getr 63 rfl 5 2 d41_60 rfl hr.2.1 (G.1 _ _ hr.1 hr.2.1 hr.2.2.1) (G.2 _ _ _ hr.2.2.2.2.2.1.1) ?_
    refine ev_cb1 66 rfl 7 d41_63 rfl rfl (by rw [G.1 _ _ hr.2.2.2.2.2.2.2.1 hr.2.2.2.2.2.2.2.2.2.2.1 (by have := hr.2.2.2.2.2.2.2.2.2.2.2; omega)]; rfl) hr.2.2.2.2.2.2.2.2.2.2.1 rfl (big_above G hr.2.2.2.2.2.2.2 hN31 hr.2.2.2.2.2.1.2 hN31 b_8 b_11) (fun hq_63 => ?_) (fun hq_63 => ?_)
    · refine ev_if_T 72 (by decide) (by decide) d41_66 ?_
      refine ev_iinc (v := nI z - 1) 75 rfl d41_72 rfl (Nat.le_of_ble_eq_true rfl) (nM_dec z) rfl ?_
      show ai_Ev _ _ _ [some (.ref r), some (.int (nI m)), some (.int (nI f)), some (.int (nI z - 1)), some (.int (nI (f + w)))] _ _ _
      refine ev_goto 24 (by decide) d41_75 ?_
      refine ih (f) I_7 _ (by omega) ⟨hf1, (by rw [← hw]; exact hq_63), (by rw [← hw]; omega)⟩ b_10 b_11 f_12
    · refine ev_if_F 72 69 (by decide) rfl (by decide) d41_66 ?_
      refine ev_iload 71 rfl d41_69 rfl ?_
      refine ev_store_in 72 rfl d41_71 (Nat.le_of_ble_eq_true rfl) rfl ?_
      show ai_Ev _ _ _ [some (.ref r), some (.int (nI m)), some (.int (nI (f + w))), some (.int (nI z)), some (.int (nI (f + w)))] _ _ _
      refine ev_iinc (v := nI z - 1) 75 rfl d41_72 rfl (Nat.le_of_ble_eq_true rfl) (nM_dec z) rfl ?_
      show ai_Ev _ _ _ [some (.ref r), some (.int (nI m)), some (.int (nI (f + w))), some (.int (nI z - 1)), some (.int (nI (f + w)))] _ _ _
      refine ev_goto 24 (by decide) d41_75 ?_
      refine ih (f + w) I_7 _ (by omega) ⟨(Nat.le_of_not_lt hq_63), (by rw [← hw]; exact hf2b), (by rw [← hw]; omega)⟩ b_10 b_11 f_12
theorem r_floor (G : ai_G S F) {r n : Nat} (hr : ai_rat r n) (hN31 : n < 2 ^ 31) (hN1 : 1 ≤ n) {m A B : Nat} (hm : m < 2147483648) (hB20 : 1048576 * B < 2147483648 ^ n) {I : Nat → Nat → Int32} (hA : ai_BG I (r + 1) n A) (hB : ai_BG I (r + 3) n B) (hlA : A < 2147483648 ^ n) (hmA : m * A < 2147483648 ^ n) (hq : m * A < 1048576 * B) :
    ai_Ev none 41 0 [some (.ref r), some (.int (nI m)), none, none, none] [] (S, I, L, F) (ai_Py S F L (fun v I2 => v = nI (m * A / B) ∧ ∀ z, (z < r ∨ r + 9 ≤ z) → I2 z = I z)) := by
  have hf0 : ∀ z, (z < r ∨ r + 9 ≤ z) → I z = I z := fun _ _ => rfl
  refine ev_aload_n 1 rfl d41_0 rfl ?_
  refine ev_getr 4 rfl 5 2 d41_1 rfl hr.2.1 (G.1 _ _ hr.1 hr.2.1 hr.2.2.1) (G.2 _ _ _ hr.2.2.2.2.2.1.1) ?_
  refine ev_aload_n 5 rfl d41_4 rfl ?_
  refine ev_getr 8 rfl 5 0 d41_5 rfl hr.2.1 (G.1 _ _ hr.1 hr.2.1 hr.2.2.1) (G.2 _ _ _ hr.2.2.2.1.1) ?_
  refine ev_cu1 11 rfl 2 d41_8 rfl rfl (by rw [G.1 _ _ hr.2.2.2.2.2.1.2.1 hr.2.2.2.2.2.1.2.2.2.2.1 (by have := hr.2.2.2.2.2.1.2.2.2.2.2; omega)]; rfl) hr.2.2.2.2.2.1.2.2.2.2.1 rfl (big_setB G hr.2.2.2.2.2.1.2 hN31 hr.2.2.2.1.2 hN31 (by omega) hA (by first | omega | assumption)) (fun I_1 hr_8 => ?_)
  obtain ⟨b_2, f_3⟩ := hr_8
  have b_4 : ai_BG I_1 (r + 1) n A := hA.eq (f_3 _ (by omega)) (f_3 _ (by omega))
  have b_5 : ai_BG I_1 (r + 3) n B := hB.eq (f_3 _ (by omega)) (f_3 _ (by omega))
  have f_6 : ∀ z, (z < r ∨ r + 9 ≤ z) → I_1 z = I z := fun z hz => (f_3 z (by omega)).trans (hf0 z hz)
  refine ev_aload_n 12 rfl d41_11 rfl ?_
  refine ev_getr 15 rfl 5 2 d41_12 rfl hr.2.1 (G.1 _ _ hr.1 hr.2.1 hr.2.2.1) (G.2 _ _ _ hr.2.2.2.2.2.1.1) ?_
  refine ev_iload_n 16 rfl d41_15 rfl ?_
  refine ev_cu1 19 rfl 4 d41_16 rfl rfl (by rw [G.1 _ _ hr.2.2.2.2.2.1.2.1 hr.2.2.2.2.2.1.2.2.2.2.1 (by have := hr.2.2.2.2.2.1.2.2.2.2.2; omega)]; rfl) hr.2.2.2.2.2.1.2.2.2.2.1 rfl (big_mul G hr.2.2.2.2.2.1.2 hN31 b_2 (m := m) (by omega) (by first | omega | assumption)) (fun I_7 hr_16 => ?_)
  obtain ⟨b_8, f_9⟩ := hr_16
  have b_10 : ai_BG I_7 (r + 1) n A := b_4.eq (f_9 _ (by omega)) (f_9 _ (by omega))
  have b_11 : ai_BG I_7 (r + 3) n B := b_5.eq (f_9 _ (by omega)) (f_9 _ (by omega))
  have f_12 : ∀ z, (z < r ∨ r + 9 ≤ z) → I_7 z = I z := fun z hz => (f_9 z (by omega)).trans (f_6 z hz)
  refine ev_iconst (v := nI 0) 20 rfl d41_19 (by decide) ?_
  refine ev_store_in 21 rfl d41_20 (Nat.le_of_ble_eq_true rfl) rfl ?_
  show ai_Ev _ _ _ [some (.ref r), some (.int (nI m)), some (.int (nI 0)), none, none] _ _ _
  refine ev_bipush (v := nI 19) 23 rfl d41_21 (by decide) ?_
  refine ev_store_in 24 rfl d41_23 (Nat.le_of_ble_eq_true rfl) rfl ?_
  show ai_Ev _ _ _ [some (.ref r), some (.int (nI m)), some (.int (nI 0)), some (.int (nI 19)), none] _ _ _
  exact r_floor_loop G hr hN31 hN1 hm hB20 20 0 _ none (by omega) ⟨by omega, by omega, by omega⟩ b_11 b_8 f_12
end RAT
