section SHELF
variable {S : List (Nat × Nat)} {F : Nat → Nat → Option Nat} {L : Nat → Nat → Int64} {I : Nat → Nat → Int32}

theorem h_nothing (G : ai_G S F) {s : Nat} (hs : s < 8) : ai_Ev none 43 0 [some (.ref (55 + 2 * s))] [] (S, I, L, F) (ai_Pu S F L (fun I2 => I2 = ai_ui (ai_ui I (55 + 2 * s) 0 (nI 0)) (55 + 2 * s) 1 (-1))) := by
  refine ev_aload_n 1 rfl d43_0 rfl ?_
  refine ev_iconst (v := nI 0) 2 rfl d43_1 (by decide) ?_
  obtain ⟨I_1, hI_1⟩ : ∃ z, z = ai_ui I (55 + 2 * s) 0 (nI 0) := ⟨_, rfl⟩
  refine ev_puti (I2 := I_1) 5 rfl 6 0 d43_2 rfl (by omega) (G.1 _ _ (sp_shelf (by omega)) (by omega) (by omega)) (fun _ => Or.inl (by decide)) hI_1.symm ?_
  refine ev_aload_n 6 rfl d43_5 rfl ?_
  refine ev_iconst (v := (-1)) 7 rfl d43_6 (by decide) ?_
  obtain ⟨I_2, hI_2⟩ : ∃ z, z = ai_ui I_1 (55 + 2 * s) 1 (-1) := ⟨_, rfl⟩
  refine ev_puti (I2 := I_2) 10 rfl 6 1 d43_7 rfl (by omega) (G.1 _ _ (sp_shelf (by omega)) (by omega) (by omega)) (fun h => absurd h (by decide)) hI_2.symm ?_
  refine ev_vret rfl d43_10 ?_
  exact ⟨rfl, _, rfl, by rw [hI_2, hI_1]⟩
theorem h_judge (G : ai_G S F) {s : Nat} (hs : s < 8) {j : Nat} : ai_Ev none 44 0 [some (.ref (55 + 2 * s)), some (.int (nI j))] [] (S, I, L, F) (ai_Pu S F L (fun I2 => I2 = ai_ui (ai_ui I (55 + 2 * s) 0 (nI 0)) (55 + 2 * s) 1 (nI j))) := by
  refine ev_aload_n 1 rfl d44_0 rfl ?_
  refine ev_iconst (v := nI 0) 2 rfl d44_1 (by decide) ?_
  obtain ⟨I_1, hI_1⟩ : ∃ z, z = ai_ui I (55 + 2 * s) 0 (nI 0) := ⟨_, rfl⟩
  refine ev_puti (I2 := I_1) 5 rfl 6 0 d44_2 rfl (by omega) (G.1 _ _ (sp_shelf (by omega)) (by omega) (by omega)) (fun _ => Or.inl (by decide)) hI_1.symm ?_
  refine ev_aload_n 6 rfl d44_5 rfl ?_
  refine ev_iload_n 7 rfl d44_6 rfl ?_
  obtain ⟨I_2, hI_2⟩ : ∃ z, z = ai_ui I_1 (55 + 2 * s) 1 (nI j) := ⟨_, rfl⟩
  refine ev_puti (I2 := I_2) 10 rfl 6 1 d44_7 rfl (by omega) (G.1 _ _ (sp_shelf (by omega)) (by omega) (by omega)) (fun h => absurd h (by decide)) hI_2.symm ?_
  refine ev_vret rfl d44_10 ?_
  exact ⟨rfl, _, rfl, by rw [hI_2, hI_1]⟩
theorem h_holdsJ (G : ai_G S F) {s : Nat} (hs : s < 8) {v : Nat} (hv : v < 1000) (h : I (55 + 2 * s) 1 = nI v - 1) : ai_Ev none 47 0 [some (.ref (55 + 2 * s))] [] (S, I, L, F) (ai_Pb S F I L (v ≠ 0)) := by
  refine ev_aload_n 1 rfl d47_0 rfl ?_
  refine ev_geti (v := nI v - 1) 4 rfl 6 1 d47_1 rfl (by omega) (G.1 _ _ (sp_shelf (by omega)) (by omega) (by omega)) h ?_
  refine ev_iconst (v := (-1)) 5 rfl d47_4 (by decide) ?_
  refine ev_icmp 12 8 (by decide) rfl (cq_eq (by omega)) d47_5 (fun hc_5 => ?_) (fun hc_5 => ?_)
  · refine ev_iconst (v := nI 0) 13 rfl d47_12 (by decide) ?_
    refine ev_iret (Or.inr ⟨rfl, Or.inl (by decide)⟩) d47_13 ?_
    exact ⟨Or.inr ⟨by omega, rfl⟩, rfl⟩
  · refine ev_iconst (v := nI 1) 9 rfl d47_8 (by decide) ?_
    refine ev_goto 13 (by decide) d47_9 ?_
    refine ev_iret (Or.inr ⟨rfl, Or.inr (by decide)⟩) d47_13 ?_
    exact ⟨Or.inl ⟨by omega, rfl⟩, rfl⟩
theorem z_nn {z : Int32} : ai_cond .lt z 0 = true ↔ ¬ (0 : Int32) ≤ z := by rw [cz_lt]; exact Int32.not_le.symm
theorem nn_nI {z : Int32} (h : (0 : Int32) ≤ z) : ∃ k, k < 2147483648 ∧ z = nI k := by
  have h2 : (0 : Int) ≤ z.toInt := Int32.le_iff_toInt_le.mp h
  have h3 : z.toInt < 2147483648 := Int32.toInt_lt z
  refine ⟨z.toInt.toNat, by omega, ?_⟩
  apply Int32.toInt_inj.mp
  show z.toInt = (Int32.ofNat z.toInt.toNat).toInt
  rw [Int32.toInt_ofNat_of_lt (by omega)]
  omega
def ai_rng (sz : Nat) (a n : Int32) : Prop := ∃ x y, a = nI x ∧ n = nI y ∧ x + y ≤ sz

theorem h_range (G : ai_G S F) {s : Nat} (hs : s < 8) {z : Nat} (hz : z ≤ 100) (h : I (55 + 2 * s) 3 = nI z) {x y : Nat} (hx : x < 2147483648) (hy : y < 2147483648) : ai_Ev none 48 0 [some (.ref (55 + 2 * s)), some (.int (nI x)), some (.int (nI y))] [] (S, I, L, F) (ai_Pb S F I L (x + y ≤ z)) := by
  refine ev_iload_n 1 rfl d48_0 rfl ?_
  refine ev_if_F 30 4 (by decide) rfl (c0_ltF (by omega)) d48_1 ?_
  refine ev_iload_n 5 rfl d48_4 rfl ?_
  refine ev_if_F 30 8 (by decide) rfl (c0_ltF (by omega)) d48_5 ?_
  refine ev_iload_n 9 rfl d48_8 rfl ?_
  refine ev_aload_n 10 rfl d48_9 rfl ?_
  refine ev_geti (v := nI z) 13 rfl 6 3 d48_10 rfl (by omega) (G.1 _ _ (sp_shelf (by omega)) (by omega) (by omega)) h ?_
  refine ev_icmp 30 16 (by decide) rfl (cn_gt (by omega) (by omega)) d48_13 (fun hc_13 => ?_) (fun hc_13 => ?_)
  · refine ev_iconst (v := nI 0) 31 rfl d48_30 (by decide) ?_
    refine ev_iret (Or.inr ⟨rfl, Or.inl (by decide)⟩) d48_31 ?_
    exact ⟨Or.inr ⟨by omega, rfl⟩, rfl⟩
  · refine ev_iload_n 17 rfl d48_16 rfl ?_
    refine ev_aload_n 18 rfl d48_17 rfl ?_
    refine ev_geti (v := nI z) 21 rfl 6 3 d48_18 rfl (by omega) (G.1 _ _ (sp_shelf (by omega)) (by omega) (by omega)) h ?_
    refine ev_iload_n 22 rfl d48_21 rfl ?_
    refine ev_isub (v := nI (z - x)) 23 rfl d48_22 (pk_sub (by omega)) ?_
    refine ev_icmp 30 26 (by decide) rfl (cn_gt (by omega) (by omega)) d48_23 (fun hc_23 => ?_) (fun hc_23 => ?_)
    · refine ev_iconst (v := nI 0) 31 rfl d48_30 (by decide) ?_
      refine ev_iret (Or.inr ⟨rfl, Or.inl (by decide)⟩) d48_31 ?_
      exact ⟨Or.inr ⟨by omega, rfl⟩, rfl⟩
    · refine ev_iconst (v := nI 1) 27 rfl d48_26 (by decide) ?_
      refine ev_goto 31 (by decide) d48_27 ?_
      refine ev_iret (Or.inr ⟨rfl, Or.inr (by decide)⟩) d48_31 ?_
      exact ⟨Or.inl ⟨by omega, rfl⟩, rfl⟩
theorem h_rng (G : ai_G S F) {s : Nat} (hs : s < 8) {z : Nat} (hz : z ≤ 100) (h : I (55 + 2 * s) 3 = nI z) {a n : Int32} : ai_Ev none 48 0 [some (.ref (55 + 2 * s)), some (.int a), some (.int n)] [] (S, I, L, F) (ai_Pb S F I L (ai_rng z a n)) := by
  by_cases ha : (0 : Int32) ≤ a
  · obtain ⟨x, hx, rfl⟩ := nn_nI ha
    by_cases hn : (0 : Int32) ≤ n
    · obtain ⟨y, hy, rfl⟩ := nn_nI hn
      refine (h_range G hs hz h hx hy).imp ?_
      intro r hh ⟨h1, h2⟩
      refine ⟨?_, h2⟩
      rcases h1 with ⟨h3, h4⟩ | ⟨h3, h4⟩
      · exact Or.inl ⟨⟨x, y, rfl, rfl, h3⟩, h4⟩
      · refine Or.inr ⟨fun ⟨x2, y2, e1, e2, e3⟩ => h3 ?_, h4⟩
        have q1 := (nI_eq (by omega) (by omega)).mp e1
        have q2 := (nI_eq (by omega) (by omega)).mp e2
        omega
    · have hneg := hn
      refine ev_iload_n 1 rfl d48_0 rfl ?_
      refine ev_if_F 30 4 (by decide) rfl (c0_ltF (by omega)) d48_1 ?_
      refine ev_iload_n 5 rfl d48_4 rfl ?_
      refine ev_if_T 30 (by decide) (z_nn.mpr hn) d48_5 ?_
      refine ev_iconst (v := nI 0) 31 rfl d48_30 (by decide) ?_
      refine ev_iret (Or.inr ⟨rfl, Or.inl (by decide)⟩) d48_31 ?_
      exact ⟨Or.inr ⟨fun ⟨x, y, h1, h2, h3⟩ => hneg (by rw [h2]; exact nI_le (Nat.zero_le _) (by omega)), rfl⟩, rfl⟩
  · have hneg := ha
    refine ev_iload_n 1 rfl d48_0 rfl ?_
    refine ev_if_T 30 (by decide) (z_nn.mpr ha) d48_1 ?_
    refine ev_iconst (v := nI 0) 31 rfl d48_30 (by decide) ?_
    refine ev_iret (Or.inr ⟨rfl, Or.inl (by decide)⟩) d48_31 ?_
    exact ⟨Or.inr ⟨fun ⟨x, y, h1, h2, h3⟩ => hneg (by rw [h1]; exact nI_le (Nat.zero_le _) (by omega)), rfl⟩, rfl⟩
end SHELF
