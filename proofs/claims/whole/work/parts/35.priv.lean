section PRIV
variable {S : List (Nat × Nat)} {F : Nat → Nat → Option Nat} {L : Nat → Nat → Int64} {I : Nat → Nat → Int32} {σ : ai_S}
def ai_is (n : Nat) (z : Int32) : Prop := ∃ k, k < n ∧ z = nI k
theorem is_nat {n x : Nat} (hn : n < 2 ^ 31) (hx : x < 2 ^ 31) : ai_is n (nI x) ↔ x < n := by
  constructor
  · rintro ⟨k, h1, h2⟩
    have := (nI_eq hx (by omega)).mp h2
    omega
  · exact fun h => ⟨x, h, rfl⟩
theorem is_neg {n : Nat} {z : Int32} (hn : n < 2 ^ 31) (hz : ¬ (0 : Int32) ≤ z) : ¬ ai_is n z := by
  rintro ⟨k, h1, rfl⟩
  exact hz (nI_le (Nat.zero_le _) (by omega))

theorem x_isShelf (G : ai_G S F) (hX : ai_RX σ I L) (hV : ai_IV σ) {z : Int32} : ai_Ev none 84 0 [some (.ref 1), some (.int z)] [] (S, I, L, F) (ai_Pb S F I L (ai_is 8 z)) := by
  have hnT := hV.nT
  have hnQ := hV.nQ
  have hnJ := hV.nJ
  by_cases hz : (0 : Int32) ≤ z
  · obtain ⟨x, hx, rfl⟩ := nn_nI hz
    refine ev_iload_n 1 rfl d84_0 rfl ?_
    refine ev_if_F 14 4 (by decide) rfl (c0_ltF (by omega)) d84_1 ?_
    refine ev_iload_n 5 rfl d84_4 rfl ?_
    refine ev_bipush (v := nI 8) 7 rfl d84_5 (by decide) ?_
    refine ev_icmp 14 10 (by decide) rfl (cn_ge (by omega) (by omega)) d84_7 (fun hc_7 => ?_) (fun hc_7 => ?_)
    · refine ev_iconst (v := nI 0) 15 rfl d84_14 (by decide) ?_
      refine ev_iret (Or.inr ⟨rfl, Or.inl (by decide)⟩) d84_15 ?_
      exact ⟨Or.inr ⟨fun h9 => absurd ((is_nat (by omega) (by omega)).mp h9) (by omega), rfl⟩, rfl⟩
    · refine ev_iconst (v := nI 1) 11 rfl d84_10 (by decide) ?_
      refine ev_goto 15 (by decide) d84_11 ?_
      refine ev_iret (Or.inr ⟨rfl, Or.inr (by decide)⟩) d84_15 ?_
      exact ⟨Or.inl ⟨(is_nat (by omega) (by omega)).mpr (by omega), rfl⟩, rfl⟩
  · refine ev_iload_n 1 rfl d84_0 rfl ?_
    refine ev_if_T 14 (by decide) (z_nn.mpr hz) d84_1 ?_
    refine ev_iconst (v := nI 0) 15 rfl d84_14 (by decide) ?_
    refine ev_iret (Or.inr ⟨rfl, Or.inl (by decide)⟩) d84_15 ?_
    exact ⟨Or.inr ⟨is_neg (by omega) hz, rfl⟩, rfl⟩
theorem x_isQuestion (G : ai_G S F) (hX : ai_RX σ I L) (hV : ai_IV σ) {z : Int32} : ai_Ev none 86 0 [some (.ref 1), some (.int z)] [] (S, I, L, F) (ai_Pb S F I L (ai_is σ.nQ z)) := by
  have hnT := hV.nT
  have hnQ := hV.nQ
  have hnJ := hV.nJ
  by_cases hz : (0 : Int32) ≤ z
  · obtain ⟨x, hx, rfl⟩ := nn_nI hz
    refine ev_iload_n 1 rfl d86_0 rfl ?_
    refine ev_if_F 16 4 (by decide) rfl (c0_ltF (by omega)) d86_1 ?_
    refine ev_iload_n 5 rfl d86_4 rfl ?_
    refine ev_aload_n 6 rfl d86_5 rfl ?_
    refine ev_geti (v := nI σ.nQ) 9 rfl 8 5 d86_6 rfl (by omega) (G.1 _ _ (rfl : ai_sp 1 = (8, 0)) (by decide) (by decide)) hX.nQ ?_
    refine ev_icmp 16 12 (by decide) rfl (cn_ge (by omega) (by omega)) d86_9 (fun hc_9 => ?_) (fun hc_9 => ?_)
    · refine ev_iconst (v := nI 0) 17 rfl d86_16 (by decide) ?_
      refine ev_iret (Or.inr ⟨rfl, Or.inl (by decide)⟩) d86_17 ?_
      exact ⟨Or.inr ⟨fun h9 => absurd ((is_nat (by omega) (by omega)).mp h9) (by omega), rfl⟩, rfl⟩
    · refine ev_iconst (v := nI 1) 13 rfl d86_12 (by decide) ?_
      refine ev_goto 17 (by decide) d86_13 ?_
      refine ev_iret (Or.inr ⟨rfl, Or.inr (by decide)⟩) d86_17 ?_
      exact ⟨Or.inl ⟨(is_nat (by omega) (by omega)).mpr (by omega), rfl⟩, rfl⟩
  · refine ev_iload_n 1 rfl d86_0 rfl ?_
    refine ev_if_T 16 (by decide) (z_nn.mpr hz) d86_1 ?_
    refine ev_iconst (v := nI 0) 17 rfl d86_16 (by decide) ?_
    refine ev_iret (Or.inr ⟨rfl, Or.inl (by decide)⟩) d86_17 ?_
    exact ⟨Or.inr ⟨is_neg (by omega) hz, rfl⟩, rfl⟩
end PRIV
