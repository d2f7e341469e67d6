section SHELF
variable {S : List (Nat × Nat)} {F : Nat → Nat → Option Nat} {L : Nat → Nat → Int64} {I : Nat → Nat → Int32}

theorem h_nothing (G : ai_G S F) {s : Nat} (hs : s < 8) : ai_Ev none 43 0 [some (.ref (55 + 2 * s))] [] (S, I, L, F) (ai_Pu S F L (fun I2 => I2 = ai_ui (ai_ui I (55 + 2 * s) 0 (nI 0)) (55 + 2 * s) 1 (-1))) := by
  refine ev_aload_n 1 rfl d43_0 rfl ?_
  refine ev_iconst (v := nI 0) 2 rfl d43_1 (by decide) ?_
  obtain ⟨I_1, hI_1⟩ : ∃ z, z = ai_ui I (55 + 2 * s) 0 (nI 0) := ⟨_, rfl⟩
  refine ev_puti (I2 := I_1) 5 rfl 6 0 d43_2 rfl (by omega) (G.1 _ _ (sp_shelf (by omega)) (by omega) (by omega)) (fun _ => Or.inl (by decide)) hI_1.symm ?_
  refine ev_aload_n 6 rfl d43_5 rfl ?_
  refine ev_iconst (v := (-1)) 7 rfl d43_6 (by decide) ?_
  obtain ⟨I_2, hI_2⟩ : ∃ z, z = ai_ui I_1 (55 + 2 * s) 1 (-1) := ⟨_, rfl⟩
  refine ev_puti (I2 := I_2) 10 rfl 6 1 d43_7 rfl (by omega) (G.1 _ _ (sp_shelf (by omega)) (by omega) (by omega)) (fun h => absurd h (by decide)) hI_2.symm ?_
  refine ev_vret rfl d43_10 ?_
  exact ⟨rfl, _, rfl, by rw [hI_2, hI_1]⟩
theorem h_judge (G : ai_G S F) {s : Nat} (hs : s < 8) {j : Nat} : ai_Ev none 44 0 [some (.ref (55 + 2 * s)), some (.int (nI j))] [] (S, I, L, F) (ai_Pu S F L (fun I2 => I2 = ai_ui (ai_ui I (55 + 2 * s) 0 (nI 0)) (55 + 2 * s) 1 (nI j))) := by
  refine ev_aload_n 1 rfl d44_0 rfl ?_
  refine ev_iconst (v := nI 0) 2 rfl d44_1 (by decide) ?_
  obtain ⟨I_1, hI_1⟩ : ∃ z, z = ai_ui I (55 + 2 * s) 0 (nI 0) := ⟨_, rfl⟩
  refine ev_puti (I2 := I_1) 5 rfl 6 0 d44_2 rfl (by omega) (G.1 _ _ (sp_shelf (by omega)) (by omega) (by omega)) (fun _ => Or.inl (by decide)) hI_1.symm ?_
  refine ev_aload_n 6 rfl d44_5 rfl ?_
  refine ev_iload_n 7 rfl d44_6 rfl ?_
  obtain ⟨I_2, hI_2⟩ : ∃ z, z = ai_ui I_1 (55 + 2 * s) 1 (nI j) := ⟨_, rfl⟩
  refine ev_puti (I2 := I_2) 10 rfl 6 1 d44_7 rfl (by omega) (G.1 _ _ (sp_shelf (by omega)) (by omega) (by omega)) (fun h => absurd h (by decide)) hI_2.symm ?_
  refine ev_vret rfl d44_10 ?_
  exact ⟨rfl, _, rfl, by rw [hI_2, hI_1]⟩
theorem h_holdsJ (G : ai_G S F) {s : Nat} (hs : s < 8) {v : Nat} (hv : v < 1000) (h : I (55 + 2 * s) 1 = nI v - 1) : ai_Ev none 47 0 [some (.ref (55 + 2 * s))] [] (S, I, L, F) (ai_Pb S F I L (v ≠ 0)) := by
  refine ev_aload_n 1 rfl d47_0 rfl ?_
  refine ev_geti (v := nI v - 1) 4 rfl 6 1 d47_1 rfl (by omega) (G.1 _ _ (sp_shelf (by omega)) (by omega) (by omega)) h ?_
  refine ev_iconst (v := (-1)) 5 rfl d47_4 (by decide) ?_
  refine ev_icmp 12 8 (by decide) rfl (cq_eq (by omega)) d47_5 (fun hc_5 => ?_) (fun hc_5 => ?_)
  · refine ev_iconst (v := nI 0) 13 rfl d47_12 (by decide) ?_
    refine ev_iret (Or.inr ⟨rfl, Or.inl (by decide)⟩) d47_13 ?_
    exact ⟨Or.inr ⟨by omega, rfl⟩, rfl⟩
  · refine ev_iconst (v := nI 1) 9 rfl d47_8 (by decide) ?_
    refine ev_goto 13 (by decide) d47_9 ?_
    refine ev_iret (Or.inr ⟨rfl, Or.inr (by decide)⟩) d47_13 ?_
    exact ⟨Or.inl ⟨by omega, rfl⟩, rfl⟩
theorem z_nn {z : Int32} : ai_cond .lt z 0 = true ↔ ¬ (0 : Int32) ≤ z := by rw [cz_lt]; exact Int32.not_le.symm
theorem nn_nI {z : Int32} (h : (0 : Int32) ≤ z) : ∃ k, k < 2147483648 ∧ z = nI k := by
  have h2 : (0 : Int) ≤ z.toInt := Int32.le_iff_toInt_le.mp h
  have h3 : z.toInt < 2147483648 := Int32.toInt_lt z
  refine ⟨z.toInt.toNat, by omega, ?_⟩
  apply Int32.toInt_inj.mp
  show z.toInt = (Int32.ofNat z.toInt.toNat).toInt
  rw [Int32.toInt_ofNat_of_lt (by omega)]
  omega
def ai_rng (sz : Nat) (a n : Int32) : Prop := ∃ x y, a = nI x ∧ n = nI y ∧ x + y ≤ sz

end SHELF
