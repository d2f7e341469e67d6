section MBAS
variable {S : List (Nat × Nat)} {F : Nat → Nat → Option Nat} {L : Nat → Nat → Int64} {I : Nat → Nat → Int32} {σ : ai_S}
theorem nI_ti {k : Nat} (h : k < 2147483648) : (nI k).toInt = (k : Int) := Int32.toInt_ofNat_of_lt (by omega)
theorem nM_ti {k : Nat} (h : k < 2147483648) : (nI k - 1).toInt = (k : Int) - 1 := by
  by_cases e : k = 0
  · subst e; decide
  · rw [nM_pos e, nI_ti (by omega)]; omega
theorem ex_ti {z : Int32} {n : Nat} : ai_is n z ↔ ∃ k, k < n ∧ z = nI k := Iff.rfl
theorem is_ti {z : Int32} {n : Nat} (hn : n ≤ 1073741824) : ai_is n z ↔ (0 : Int) ≤ z.toInt ∧ z.toInt < (n : Int) := by
  constructor
  · rintro ⟨k, h, rfl⟩; rw [nI_ti (by omega)]; omega
  · rintro ⟨h1, h2⟩
    obtain ⟨k, hk, rfl⟩ := nn_nI (Int32.le_iff_toInt_le.mpr (by show (0 : Int) ≤ z.toInt; exact h1))
    rw [nI_ti (by omega)] at h2
    exact ⟨k, by omega, rfl⟩
theorem in_is {v hi : Int32} {n : Nat} (e : hi = nI n - 1) (hn : n ≤ 1073741824) : (nI 0 ≤ v ∧ v ≤ hi) ↔ ai_is n v := by
  subst e
  rw [is_ti hn, Int32.le_iff_toInt_le, Int32.le_iff_toInt_le, nM_ti (by omega), nI_ti (by omega)]
  omega
theorem in_N {a n : Nat} {hi : Int32} (e : hi = nI n - 1) (hn : n ≤ 1073741824) (ha : a < 2147483648) : (nI 0 ≤ nI a ∧ nI a ≤ hi) ↔ a < n := by
  subst e
  rw [Int32.le_iff_toInt_le, Int32.le_iff_toInt_le, nM_ti (by omega), nI_ti (by omega), nI_ti (by omega)]
  omega
theorem in_M {a n : Nat} {hi : Int32} (e : hi = nI n - 1) (hn : n ≤ 1073741824) (ha : a < 2147483648) : (nI 0 ≤ nI a - 1 ∧ nI a - 1 ≤ hi) ↔ (0 < a ∧ a ≤ n) := by
  subst e
  rw [Int32.le_iff_toInt_le, Int32.le_iff_toInt_le, nM_ti (by omega), nM_ti (by omega), nI_ti (by omega)]
  omega
theorem in_24 {v : Int32} : (nI 2 ≤ v ∧ v ≤ nI 4) ↔ (ai_is 5 v ∧ ¬ ai_is 2 v) := by
  rw [is_ti (by omega), is_ti (by omega), Int32.le_iff_toInt_le, Int32.le_iff_toInt_le, nI_ti (by omega), nI_ti (by omega)]
  omega
theorem in_m1 {v hi : Int32} {n : Nat} (e : hi = nI n - 1) (hn : n ≤ 1073741824) : ((-1 : Int32) ≤ v ∧ v ≤ hi) ↔ (v = -1 ∨ ai_is n v) := by
  subst e
  have e1 : v = -1 ↔ v.toInt = -1 := by
    rw [← Int32.toInt_inj]; rfl
  rw [e1, is_ti hn, Int32.le_iff_toInt_le, Int32.le_iff_toInt_le, nM_ti (by omega)]
  have : (-1 : Int32).toInt = -1 := by decide
  omega
theorem in_1 {v hi : Int32} {n : Nat} (e : hi = nI n - 1) (hn : n ≤ 1073741824) : (nI 1 ≤ v ∧ v ≤ hi) ↔ (ai_is n v ∧ ¬ v = nI 0) := by
  subst e
  have e1 : v = nI 0 ↔ v.toInt = 0 := by
    rw [← Int32.toInt_inj]; rfl
  rw [e1, is_ti hn, Int32.le_iff_toInt_le, Int32.le_iff_toInt_le, nM_ti (by omega), nI_ti (by omega)]
  omega
theorem pb_iff {X : Option (Nat × (Nat → Int32))} {y pc : Nat} {ls : ai_L} {st : List Value} {h : ai_H} {P Q : Prop} (e : P ↔ Q) (k : ai_Ev X y pc ls st h (ai_Pb S F I L P)) : ai_Ev X y pc ls st h (ai_Pb S F I L Q) := by
  refine k.imp ?_
  rintro r h' ⟨h1 | h1, h2⟩
  · exact ⟨Or.inl ⟨e.mp h1.1, h1.2⟩, h2⟩
  · exact ⟨Or.inr ⟨fun q => h1.1 (e.mpr q), h1.2⟩, h2⟩
def ai_PM (S : List (Nat × Nat)) (F : Nat → Nat → Option Nat) (I : Nat → Nat → Int32) (L : Nat → Nat → Int64) (p : ai_S × Int32) : Option Value → ai_H → Prop := fun r h => ∃ I2 L2, r = some (.int p.2) ∧ h = (S, I2, L2, F) ∧ ai_RM p.1 I2 L2 ∧ ∀ a, a < 572 → I2 a = I a ∧ L2 a = L a
def ai_PML (S : List (Nat × Nat)) (F : Nat → Nat → Option Nat) (I : Nat → Nat → Int32) (L : Nat → Nat → Int64) (σ : ai_S) (v : Int64) : Option Value → ai_H → Prop := fun r h => ∃ I2 L2, r = some (.long v) ∧ h = (S, I2, L2, F) ∧ ai_RM σ I2 L2 ∧ ∀ a, a < 572 → I2 a = I a ∧ L2 a = L a
def ai_PMB (S : List (Nat × Nat)) (F : Nat → Nat → Option Nat) (I : Nat → Nat → Int32) (L : Nat → Nat → Int64) (σ : ai_S) (P : Prop) : Option Value → ai_H → Prop := fun r h => ∃ I2 L2, ((P ∧ r = some (.int (nI 1))) ∨ (¬ P ∧ r = some (.int (nI 0)))) ∧ h = (S, I2, L2, F) ∧ ai_RM σ I2 L2 ∧ ∀ a, a < 572 → I2 a = I a ∧ L2 a = L a
theorem pm_same (hM : ai_RM σ I L) {v : Int32} : ai_PM S F I L (σ, v) (some (.int v)) (S, I, L, F) := ⟨I, L, rfl, rfl, hM, fun _ _ => ⟨rfl, rfl⟩⟩
theorem pml_same (hM : ai_RM σ I L) {v : Int64} : ai_PML S F I L σ v (some (.long v)) (S, I, L, F) := ⟨I, L, rfl, rfl, hM, fun _ _ => ⟨rfl, rfl⟩⟩
def ai_S.sy (σ : ai_S) (j c : Nat) : Nat := if σ.gv j c = 0 then 0 else σ.said j c + 1
theorem sy_le {j c : Nat} : σ.sy j c ≤ 4 := by
  have := said_lt4 (σ := σ) (j := j) (c := c)
  unfold ai_S.sy; split <;> omega
theorem sy_0 {j c : Nat} : σ.sy j c = 0 ↔ σ.gv j c = 0 := by unfold ai_S.sy; split <;> omega
theorem rm_rf (hM : ai_RM σ I L) {i : Nat} (h1 : 1 ≤ i) (h2 : i ≤ 7) : I 573 i = σ.rf (i - 1) := by
  have h := hM.rf (i - 1) (by omega)
  rw [show i - 1 + 1 = i by omega] at h; exact h
theorem rm_gv (hM : ai_RM σ I L) {j c i : Nat} (hi : i = 200 * j + c) (hj : j < 24) (hc : c < 200) (hl : σ.lf j = false) (hq : c % 5 < σ.nQ) : I 586 i = nI (σ.sy j c) - 1 := by
  subst hi
  rw [hM.gv j c hj hc hl hq]
  unfold ai_S.sy
  split
  · rfl
  · rw [nM_succ]
theorem rm_mn (hM : ai_RM σ I L) {j c i : Nat} (hi : i = 200 * j + c) (hj : j < 24) (hc : c < 200) (hl : σ.lf j = false) (hq : c % 5 < σ.nQ) (h0 : σ.gv j c ≠ 0) : I 587 i = nI (σ.kind j c) := by subst hi; exact hM.mn j c hj hc hl hq h0
def ai_RC (σ : ai_S) (I : Nat → Nat → Int32) : Prop := ∀ j, j < σ.nJ → I 589 j = nI (σ.cop j) - 1 ∧ ∀ c, c < 200 → I 588 (200 * j + c) = nI (ai_qb (σ.ctd j c))
theorem rm_ct (h : ai_RC σ I) {j c i : Nat} (hi : i = 200 * j + c) (hj : j < σ.nJ) (hc : c < 200) : I 588 i = nI (ai_qb (σ.ctd j c)) := by subst hi; exact (h j hj).2 c hc

theorem m_in (G : ai_G S F) {v lo hi : Int32} : ai_Ev none 114 0 [some (.ref 572), some (.int v), some (.int lo), some (.int hi)] [] (S, I, L, F) (ai_Pb S F I L (lo ≤ v ∧ v ≤ hi)) := by
  refine ev_iload_n 1 rfl d114_0 rfl ?_
  refine ev_iload_n 2 rfl d114_1 rfl ?_
  refine ev_icmp 14 5 (by decide) rfl cz_lt d114_2 (fun hc_2 => ?_) (fun hc_2 => ?_)
  · refine ev_iconst (v := nI 0) 15 rfl d114_14 (by decide) ?_
    refine ev_iret (Or.inr ⟨rfl, Or.inl (by decide)⟩) d114_15 ?_
    exact ⟨Or.inr ⟨fun h9 => by
      first | exact absurd hc_2 (Int32.not_lt.mpr h9.1) | exact absurd hc_7 (Int32.not_lt.mpr h9.2), rfl⟩, rfl⟩
  · refine ev_iload_n 6 rfl d114_5 rfl ?_
    refine ev_iload_n 7 rfl d114_6 rfl ?_
    refine ev_icmp 14 10 (by decide) rfl cz_gt d114_7 (fun hc_7 => ?_) (fun hc_7 => ?_)
    · refine ev_iconst (v := nI 0) 15 rfl d114_14 (by decide) ?_
      refine ev_iret (Or.inr ⟨rfl, Or.inl (by decide)⟩) d114_15 ?_
      exact ⟨Or.inr ⟨fun h9 => by
        first | exact absurd hc_2 (Int32.not_lt.mpr h9.1) | exact absurd hc_7 (Int32.not_lt.mpr h9.2), rfl⟩, rfl⟩
    · refine ev_iconst (v := nI 1) 11 rfl d114_10 (by decide) ?_
      refine ev_goto 15 (by decide) d114_11 ?_
      refine ev_iret (Or.inr ⟨rfl, Or.inr (by decide)⟩) d114_15 ?_
      exact ⟨Or.inl ⟨⟨Int32.not_lt.mp hc_2, Int32.not_lt.mp hc_7⟩, rfl⟩, rfl⟩
theorem m_refuse (G : ai_G S F) {k : Nat} (hk : 1 ≤ k ∧ k ≤ 7) : ai_Ev none 115 0 [some (.ref 572), some (.int (-(nI k)))] [] (S, I, L, F) (ai_Py S F L (fun v I2 => v = -(nI k) ∧ I2 = ai_ui I 573 k (I 573 k + nI 1))) := by
  refine ev_aload_n 1 rfl d115_0 rfl ?_
  refine ev_getr 4 rfl 9 0 d115_1 rfl (by omega) (G.1 _ _ (rfl : ai_sp 572 = (9, 0)) (by decide) (by decide)) (G.2 _ _ _ (rfl : ai_rf 572 0 = some 573)) ?_
  refine ev_iload_n 5 rfl d115_4 rfl ?_
  refine ev_ineg (v := nI k) 6 rfl d115_5 (Int32.neg_neg) ?_
  refine ev_dup2 7 rfl d115_6 ⟨rfl, rfl⟩ ?_
  refine ev_iald_n (v := I 573 k) 8 rfl d115_7 (by omega) (G.1 _ _ (rfl : ai_sp 573 = (100, 8)) (by decide) (by decide)) (by omega) (by decide) rfl ?_
  refine ev_iconst (v := nI 1) 9 rfl d115_8 (by decide) ?_
  refine ev_iadd 10 rfl d115_9 rfl ?_
  obtain ⟨I_1, hI_1⟩ : ∃ z, z = ai_ui I 573 k ((I 573 k) + (nI 1)) := ⟨_, rfl⟩
  refine ev_iast_n (I2 := I_1) 11 rfl d115_10 (by omega) (G.1 _ _ (rfl : ai_sp 573 = (100, 8)) (by decide) (by decide)) (by omega) (by decide) hI_1.symm ?_
  refine ev_iload_n 12 rfl d115_11 rfl ?_
  refine ev_iret (Or.inl rfl) d115_12 ?_
  exact ⟨_, _, rfl, rfl, rfl, hI_1⟩
theorem m_isShelf (G : ai_G S F) {z : Int32} : ai_Ev none 116 0 [some (.ref 572), some (.int z)] [] (S, I, L, F) (ai_Pb S F I L (ai_is 8 z)) := by
  refine ev_aload_n 1 rfl d116_0 rfl ?_
  refine ev_iload_n 2 rfl d116_1 rfl ?_
  refine ev_iconst (v := nI 0) 3 rfl d116_2 (by decide) ?_
  refine ev_bipush (v := nI 7) 5 rfl d116_3 (by decide) ?_
  refine ev_cb3 8 rfl 114 d116_5 rfl rfl (by rw [G.1 _ _ (rfl : ai_sp 572 = (9, 0)) (by decide) (by decide)]; rfl) (by omega) rfl (pb_iff (in_is (n := 8) (by decide) (by omega)) (m_in G)) (fun hq_5 => ?_) (fun hq_5 => ?_)
  · refine ev_iret (Or.inr ⟨rfl, Or.inr (by decide)⟩) d116_8 ?_
    exact ⟨Or.inl ⟨hq_5, rfl⟩, rfl⟩
  · refine ev_iret (Or.inr ⟨rfl, Or.inl (by decide)⟩) d116_8 ?_
    exact ⟨Or.inr ⟨hq_5, rfl⟩, rfl⟩
theorem cmn_lt {a b : Nat} (ha : a < 2 ^ 31) (hb : b < 2 ^ 31) : ai_cond .lt (nI a - 1) (nI b) = true ↔ a < b + 1 := by
  rw [cz_lt, Int32.lt_iff_toInt_lt, nM_ti (by omega), nI_ti (by omega)]; omega
theorem cmn_ge {a b : Nat} (ha : a < 2 ^ 31) (hb : b < 2 ^ 31) : ai_cond .ge (nI a - 1) (nI b) = true ↔ b + 1 ≤ a := by
  rw [cz_ge, Int32.le_iff_toInt_le, nM_ti (by omega), nI_ti (by omega)]; omega
theorem cnm_lt {a b : Nat} (ha : a < 2 ^ 31) (hb : b < 2 ^ 31) : ai_cond .lt (nI a) (nI b - 1) = true ↔ a + 1 < b := by
  rw [cz_lt, Int32.lt_iff_toInt_lt, nM_ti (by omega), nI_ti (by omega)]; omega
theorem m_hasRow (G : ai_G S F) (hM : ai_RM σ I L) (hV : ai_IV σ) {s : Nat} (hs : s < 8) : ai_Ev none 117 0 [some (.ref 572), some (.int (nI s))] [] (S, I, L, F) (ai_Pb S F I L (100 < σ.hd s)) := by
  have hnT := hV.nT
  have hnQ := hV.nQ
  have hnJ := hV.nJ
  have hhd := hV.hd s hs
  refine ev_aload_n 1 rfl d117_0 rfl ?_
  refine ev_getr 4 rfl 9 1 d117_1 rfl (by omega) (G.1 _ _ (rfl : ai_sp 572 = (9, 0)) (by decide) (by decide)) (G.2 _ _ _ (rfl : ai_rf 572 1 = some 574)) ?_
  refine ev_iload_n 5 rfl d117_4 rfl ?_
  refine ev_iald_n (v := nI (σ.hd s) - 1) 6 rfl d117_5 (by omega) (G.1 _ _ (rfl : ai_sp 574 = (100, 8)) (by decide) (by decide)) (by omega) (by decide) (hM.hd _ (by omega)) ?_
  refine ev_bipush (v := nI 100) 8 rfl d117_6 (by decide) ?_
  refine ev_icmp 15 11 (by decide) rfl (cmn_lt (by omega) (by omega)) d117_8 (fun hc_8 => ?_) (fun hc_8 => ?_)
  · refine ev_iconst (v := nI 0) 16 rfl d117_15 (by decide) ?_
    refine ev_iret (Or.inr ⟨rfl, Or.inl (by decide)⟩) d117_16 ?_
    exact ⟨Or.inr ⟨by omega, rfl⟩, rfl⟩
  · refine ev_iconst (v := nI 1) 12 rfl d117_11 (by decide) ?_
    refine ev_goto 16 (by decide) d117_12 ?_
    refine ev_iret (Or.inr ⟨rfl, Or.inr (by decide)⟩) d117_16 ?_
    exact ⟨Or.inl ⟨by omega, rfl⟩, rfl⟩
theorem m_topAt (G : ai_G S F) {j q a b : Nat} : ai_Ev none 125 0 [some (.ref 572), some (.int (nI j)), some (.int (nI q)), some (.int (nI a)), some (.int (nI b))] [] (S, I, L, F) (ai_Pp S F I L (.int (nI (((5 * j + q) * 4 + a) * 4 + b)))) := by
  refine ev_iconst (v := nI 5) 1 rfl d125_0 (by decide) ?_
  refine ev_iload_n 2 rfl d125_1 rfl ?_
  refine ev_imul (v := nI (5 * j)) 3 rfl d125_2 (pk_mul _ _) ?_
  refine ev_iload_n 4 rfl d125_3 rfl ?_
  refine ev_iadd (v := nI ((5 * j) + q)) 5 rfl d125_4 (nI_add _ _) ?_
  refine ev_iconst (v := nI 4) 6 rfl d125_5 (by decide) ?_
  refine ev_imul (v := nI (((5 * j) + q) * 4)) 7 rfl d125_6 (pk_mul _ _) ?_
  refine ev_iload_n 8 rfl d125_7 rfl ?_
  refine ev_iadd (v := nI ((((5 * j) + q) * 4) + a)) 9 rfl d125_8 (nI_add _ _) ?_
  refine ev_iconst (v := nI 4) 10 rfl d125_9 (by decide) ?_
  refine ev_imul (v := nI (((((5 * j) + q) * 4) + a) * 4)) 11 rfl d125_10 (pk_mul _ _) ?_
  refine ev_iload 13 rfl d125_11 rfl ?_
  refine ev_iadd (v := nI ((((((5 * j) + q) * 4) + a) * 4) + b)) 14 rfl d125_13 (nI_add _ _) ?_
  refine ev_iret (Or.inl rfl) d125_14 ?_
  exact ⟨rfl, rfl⟩
theorem m_botAt (G : ai_G S F) {j q b : Nat} : ai_Ev none 126 0 [some (.ref 572), some (.int (nI j)), some (.int (nI q)), some (.int (nI b))] [] (S, I, L, F) (ai_Pp S F I L (.int (nI ((5 * j + q) * 4 + b)))) := by
  refine ev_iconst (v := nI 5) 1 rfl d126_0 (by decide) ?_
  refine ev_iload_n 2 rfl d126_1 rfl ?_
  refine ev_imul (v := nI (5 * j)) 3 rfl d126_2 (pk_mul _ _) ?_
  refine ev_iload_n 4 rfl d126_3 rfl ?_
  refine ev_iadd (v := nI ((5 * j) + q)) 5 rfl d126_4 (nI_add _ _) ?_
  refine ev_iconst (v := nI 4) 6 rfl d126_5 (by decide) ?_
  refine ev_imul (v := nI (((5 * j) + q) * 4)) 7 rfl d126_6 (pk_mul _ _) ?_
  refine ev_iload_n 8 rfl d126_7 rfl ?_
  refine ev_iadd (v := nI ((((5 * j) + q) * 4) + b)) 9 rfl d126_8 (nI_add _ _) ?_
  refine ev_iret (Or.inl rfl) d126_9 ?_
  exact ⟨rfl, rfl⟩
theorem m_isJ (G : ai_G S F) (hM : ai_RM σ I L) (hV : ai_IV σ) {z : Int32} : ai_Ev none 128 0 [some (.ref 572), some (.int z)] [] (S, I, L, F) (ai_Pb S F I L (σ.isJ z)) := by
  have hnT := hV.nT
  have hnQ := hV.nQ
  have hnJ := hV.nJ
  refine ev_aload_n 1 rfl d128_0 rfl ?_
  refine ev_iload_n 2 rfl d128_1 rfl ?_
  refine ev_iconst (v := nI 0) 3 rfl d128_2 (by decide) ?_
  refine ev_aload_n 4 rfl d128_3 rfl ?_
  refine ev_geti (v := nI σ.nJ) 7 rfl 9 7 d128_4 rfl (by omega) (G.1 _ _ (rfl : ai_sp 572 = (9, 0)) (by decide) (by decide)) hM.nJ ?_
  refine ev_iconst (v := nI 1) 8 rfl d128_7 (by decide) ?_
  refine ev_isub (v := nI σ.nJ - 1) 9 rfl d128_8 rfl ?_
  refine ev_cb3 12 rfl 114 d128_9 rfl rfl (by rw [G.1 _ _ (rfl : ai_sp 572 = (9, 0)) (by decide) (by decide)]; rfl) (by omega) rfl (pb_iff (in_is (n := σ.nJ) rfl (by omega)) (m_in G)) (fun hq_9 => ?_) (fun hq_9 => ?_)
  · 
    obtain ⟨k, hk, rfl⟩ := hq_9
    refine ev_if_F 28 15 (by decide) rfl (by decide) d128_12 ?_
    have hql := qb_lt (σ.lf k)
    refine ev_aload_n 16 rfl d128_15 rfl ?_
    refine ev_getr 19 rfl 9 13 d128_16 rfl (by omega) (G.1 _ _ (rfl : ai_sp 572 = (9, 0)) (by decide) (by decide)) (G.2 _ _ _ (rfl : ai_rf 572 13 = some 583)) ?_
    refine ev_iload_n 20 rfl d128_19 rfl ?_
    refine ev_bald_n (v := nI (ai_qb (σ.lf k))) 21 rfl d128_20 (by omega) (by decide) (G.1 _ _ (rfl : ai_sp 583 = (102, 24)) (by decide) (by decide)) (by omega) (by decide) (hM.lf _ (by omega)) ?_
    refine ev_if 28 24 (by decide) rfl (c0_ne (by omega)) d128_21 (fun hc_21 => ?_) (fun hc_21 => ?_)
    · refine ev_iconst (v := nI 0) 29 rfl d128_28 (by decide) ?_
      refine ev_iret (Or.inr ⟨rfl, Or.inl (by decide)⟩) d128_29 ?_
      refine ⟨Or.inr ⟨fun ⟨k2, h1, h2, h3⟩ => ?_, rfl⟩, rfl⟩
      first
        | exact hq_9 ⟨k2, h1, h3⟩
        | (have e9 := (nI_eq (by omega) (by omega)).mp h3
           subst e9
           have e8 := qb_z.mpr h2
           omega)
    · refine ev_iconst (v := nI 1) 25 rfl d128_24 (by decide) ?_
      refine ev_goto 29 (by decide) d128_25 ?_
      refine ev_iret (Or.inr ⟨rfl, Or.inr (by decide)⟩) d128_29 ?_
      exact ⟨Or.inl ⟨⟨k, hk, qb_z.mp (by omega), rfl⟩, rfl⟩, rfl⟩
  · refine ev_if_T 28 (by decide) (by decide) d128_12 ?_
    refine ev_iconst (v := nI 0) 29 rfl d128_28 (by decide) ?_
    refine ev_iret (Or.inr ⟨rfl, Or.inl (by decide)⟩) d128_29 ?_
    refine ⟨Or.inr ⟨fun ⟨k2, h1, h2, h3⟩ => ?_, rfl⟩, rfl⟩
    first
      | exact hq_9 ⟨k2, h1, h3⟩
      | (have e9 := (nI_eq (by omega) (by omega)).mp h3
         subst e9
         have e8 := qb_z.mpr h2
         omega)
theorem m_isCase (G : ai_G S F) (hM : ai_RM σ I L) (hV : ai_IV σ) {x y : Int32} : ai_Ev none 129 0 [some (.ref 572), some (.int x), some (.int y)] [] (S, I, L, F) (ai_Pb S F I L (σ.isC x y)) := by
  have hnT := hV.nT
  have hnQ := hV.nQ
  have hnJ := hV.nJ
  refine ev_aload_n 1 rfl d129_0 rfl ?_
  refine ev_iload_n 2 rfl d129_1 rfl ?_
  refine ev_iconst (v := nI 0) 3 rfl d129_2 (by decide) ?_
  refine ev_aload_n 4 rfl d129_3 rfl ?_
  refine ev_geti (v := nI σ.nT) 7 rfl 9 5 d129_4 rfl (by omega) (G.1 _ _ (rfl : ai_sp 572 = (9, 0)) (by decide) (by decide)) hM.nT ?_
  refine ev_iconst (v := nI 1) 8 rfl d129_7 (by decide) ?_
  refine ev_isub (v := nI σ.nT - 1) 9 rfl d129_8 rfl ?_
  refine ev_cb3 12 rfl 114 d129_9 rfl rfl (by rw [G.1 _ _ (rfl : ai_sp 572 = (9, 0)) (by decide) (by decide)]; rfl) (by omega) rfl (pb_iff (in_is (n := σ.nT) rfl (by omega)) (m_in G)) (fun hq_9 => ?_) (fun hq_9 => ?_)
  · 
    obtain ⟨t, ht, rfl⟩ := hq_9
    refine ev_if_F 34 15 (by decide) rfl (by decide) d129_12 ?_
    refine ev_aload_n 16 rfl d129_15 rfl ?_
    refine ev_iload_n 17 rfl d129_16 rfl ?_
    refine ev_iconst (v := nI 0) 18 rfl d129_17 (by decide) ?_
    refine ev_aload_n 19 rfl d129_18 rfl ?_
    refine ev_geti (v := nI σ.nQ) 22 rfl 9 6 d129_19 rfl (by omega) (G.1 _ _ (rfl : ai_sp 572 = (9, 0)) (by decide) (by decide)) hM.nQ ?_
    refine ev_iconst (v := nI 1) 23 rfl d129_22 (by decide) ?_
    refine ev_isub (v := nI σ.nQ - 1) 24 rfl d129_23 rfl ?_
    refine ev_cb3 27 rfl 114 d129_24 rfl rfl (by rw [G.1 _ _ (rfl : ai_sp 572 = (9, 0)) (by decide) (by decide)]; rfl) (by omega) rfl (pb_iff (in_is (n := σ.nQ) rfl (by omega)) (m_in G)) (fun hq_24 => ?_) (fun hq_24 => ?_)
    · 
      obtain ⟨q, hq, rfl⟩ := hq_24
      refine ev_if_F 34 30 (by decide) rfl (by decide) d129_27 ?_
      refine ev_iconst (v := nI 1) 31 rfl d129_30 (by decide) ?_
      refine ev_goto 35 (by decide) d129_31 ?_
      refine ev_iret (Or.inr ⟨rfl, Or.inr (by decide)⟩) d129_35 ?_
      exact ⟨Or.inl ⟨⟨t, q, ht, hq, rfl, rfl⟩, rfl⟩, rfl⟩
    · refine ev_if_T 34 (by decide) (by decide) d129_27 ?_
      refine ev_iconst (v := nI 0) 35 rfl d129_34 (by decide) ?_
      refine ev_iret (Or.inr ⟨rfl, Or.inl (by decide)⟩) d129_35 ?_
      refine ⟨Or.inr ⟨fun ⟨t2, q2, h1, h2, h3, h4⟩ => ?_, rfl⟩, rfl⟩
      first
        | exact hq_9 ⟨t2, h1, h3⟩
        | exact hq_24 ⟨q2, h2, h4⟩
  · refine ev_if_T 34 (by decide) (by decide) d129_12 ?_
    refine ev_iconst (v := nI 0) 35 rfl d129_34 (by decide) ?_
    refine ev_iret (Or.inr ⟨rfl, Or.inl (by decide)⟩) d129_35 ?_
    refine ⟨Or.inr ⟨fun ⟨t2, q2, h1, h2, h3, h4⟩ => ?_, rfl⟩, rfl⟩
    first
      | exact hq_9 ⟨t2, h1, h3⟩
      | exact hq_24 ⟨q2, h2, h4⟩
theorem m_wouldBe (G : ai_G S F) (hM : ai_RM σ I L) (hV : ai_IV σ) {z x y : Int32} : ai_Ev none 134 0 [some (.ref 572), some (.int z), some (.int x), some (.int y)] [] (S, I, L, F) (ai_Pb S F I L (σ.isJ z ∧ σ.isC x y)) := by
  have hnT := hV.nT
  have hnQ := hV.nQ
  have hnJ := hV.nJ
  refine ev_aload_n 1 rfl d134_0 rfl ?_
  refine ev_iload_n 2 rfl d134_1 rfl ?_
  refine ev_cb1 5 rfl 128 d134_2 rfl rfl (by rw [G.1 _ _ (rfl : ai_sp 572 = (9, 0)) (by decide) (by decide)]; rfl) (by omega) rfl (m_isJ G hM hV) (fun hq_2 => ?_) (fun hq_2 => ?_)
  · refine ev_if_F 21 8 (by decide) rfl (by decide) d134_5 ?_
    refine ev_aload_n 9 rfl d134_8 rfl ?_
    refine ev_iload_n 10 rfl d134_9 rfl ?_
    refine ev_iload_n 11 rfl d134_10 rfl ?_
    refine ev_cb2 14 rfl 129 d134_11 rfl rfl (by rw [G.1 _ _ (rfl : ai_sp 572 = (9, 0)) (by decide) (by decide)]; rfl) (by omega) rfl (m_isCase G hM hV) (fun hq_11 => ?_) (fun hq_11 => ?_)
    · refine ev_if_F 21 17 (by decide) rfl (by decide) d134_14 ?_
      refine ev_iconst (v := nI 1) 18 rfl d134_17 (by decide) ?_
      refine ev_goto 22 (by decide) d134_18 ?_
      refine ev_iret (Or.inr ⟨rfl, Or.inr (by decide)⟩) d134_22 ?_
      exact ⟨Or.inl ⟨⟨hq_2, hq_11⟩, rfl⟩, rfl⟩
    · refine ev_if_T 21 (by decide) (by decide) d134_14 ?_
      refine ev_iconst (v := nI 0) 22 rfl d134_21 (by decide) ?_
      refine ev_iret (Or.inr ⟨rfl, Or.inl (by decide)⟩) d134_22 ?_
      refine ⟨Or.inr ⟨fun ⟨h1, h2⟩ => ?_, rfl⟩, rfl⟩
      first | exact hq_2 h1 | exact hq_11 h2
  · refine ev_if_T 21 (by decide) (by decide) d134_5 ?_
    refine ev_iconst (v := nI 0) 22 rfl d134_21 (by decide) ?_
    refine ev_iret (Or.inr ⟨rfl, Or.inl (by decide)⟩) d134_22 ?_
    refine ⟨Or.inr ⟨fun ⟨h1, h2⟩ => ?_, rfl⟩, rfl⟩
    first | exact hq_2 h1 | exact hq_11 h2
theorem isAN {q : Nat} (hq : q < σ.nQ) (hnQ : σ.nQ ≤ 5) {z : Int32} : σ.isA (nI q) z ↔ ai_is (σ.an q) z := by
  constructor
  · rintro ⟨q2, a2, h1, h2, h3, h4⟩
    have e := (nI_eq (by omega) (by omega)).mp h3
    subst e; exact ⟨a2, h2, h4⟩
  · rintro ⟨a2, h2, h4⟩; exact ⟨q, a2, hq, h2, rfl, h4⟩
theorem m_isAnswer (G : ai_G S F) (hM : ai_RM σ I L) (hV : ai_IV σ) {q : Nat} {z : Int32} (hq : q < σ.nQ) : ai_Ev none 163 0 [some (.ref 572), some (.int (nI q)), some (.int z)] [] (S, I, L, F) (ai_Pb S F I L (ai_is (σ.an q) z)) := by
  have hnT := hV.nT
  have hnQ := hV.nQ
  have hnJ := hV.nJ
  have han := hV.an q hq
  refine ev_aload_n 1 rfl d163_0 rfl ?_
  refine ev_iload_n 2 rfl d163_1 rfl ?_
  refine ev_iconst (v := nI 0) 3 rfl d163_2 (by decide) ?_
  refine ev_aload_n 4 rfl d163_3 rfl ?_
  refine ev_getr 7 rfl 9 8 d163_4 rfl (by omega) (G.1 _ _ (rfl : ai_sp 572 = (9, 0)) (by decide) (by decide)) (G.2 _ _ _ (rfl : ai_rf 572 8 = some 578)) ?_
  refine ev_iload_n 8 rfl d163_7 rfl ?_
  refine ev_iald_n (v := nI (σ.an q)) 9 rfl d163_8 (by omega) (G.1 _ _ (rfl : ai_sp 578 = (100, 5)) (by decide) (by decide)) (by omega) (by decide) (hM.an _ (by omega)) ?_
  refine ev_iconst (v := nI 1) 10 rfl d163_9 (by decide) ?_
  refine ev_isub (v := nI (σ.an q) - 1) 11 rfl d163_10 rfl ?_
  refine ev_cb3 14 rfl 114 d163_11 rfl rfl (by rw [G.1 _ _ (rfl : ai_sp 572 = (9, 0)) (by decide) (by decide)]; rfl) (by omega) rfl (pb_iff (in_is (n := σ.an q) rfl (by omega)) (m_in G)) (fun hq_11 => ?_) (fun hq_11 => ?_)
  · refine ev_iret (Or.inr ⟨rfl, Or.inr (by decide)⟩) d163_14 ?_
    exact ⟨Or.inl ⟨hq_11, rfl⟩, rfl⟩
  · refine ev_iret (Or.inr ⟨rfl, Or.inl (by decide)⟩) d163_14 ?_
    exact ⟨Or.inr ⟨hq_11, rfl⟩, rfl⟩
theorem rm_refuse {k : Nat} (hk : 1 ≤ k ∧ k ≤ 7) (hX : ai_RM σ I L) {I2 : Nat → Nat → Int32} (h : I2 = ai_ui I 573 k (I 573 k + nI 1)) : ai_RM (σ.refuse k).1 I2 L := by
  refine ⟨?_, ?_, ?_, ?_, ?_, ?_, ?_, ?_, ?_, ?_, ?_, ?_, ?_, ?_, ?_, ?_, ?_, ?_, ?_, ?_, ?_, ?_, ?_, ?_, ?_⟩
  · intro i hi
    show I2 573 (i + 1) = if i + 1 = k then σ.rf i + nI 1 else σ.rf i
    by_cases e : i + 1 = k
    · rw [if_pos e, ← hX.rf i hi, e]; exact ui_same h
    · rw [if_neg e, ui_other h (by omega)]; exact hX.rf i hi
  · intro s h0; rw [ui_row h (by omega)]; exact hX.hd s h0
  · intro s h0; rw [ui_row h (by omega)]; exact hX.sz s h0
  · exact hX.el
  · rw [ui_row h (by omega)]; exact hX.nT
  · rw [ui_row h (by omega)]; exact hX.nQ
  · rw [ui_row h (by omega)]; exact hX.nJ
  · intro q h0; rw [ui_row h (by omega)]; exact hX.an q h0
  · intro q h0 h1; rw [ui_row h (by omega)]; exact hX.pa q h0 h1
  · intro q h0 h1; rw [ui_row h (by omega)]; exact hX.wa q h0 h1
  · intro c h0 h1; rw [ui_row h (by omega)]; exact hX.tr c h0 h1
  · intro c h0 h1; rw [ui_row h (by omega)]; exact hX.ag c h0 h1
  · intro j h0; rw [ui_row h (by omega)]; exact hX.lf j h0
  · intro j h0; rw [ui_row h (by omega)]; exact hX.sr j h0
  · intro j h0 h1; rw [ui_row h (by omega)]; exact hX.gn j h0 h1
  · intro j c h0 h1 h2 h3; rw [ui_row h (by omega)]; exact hX.gv j c h0 h1 h2 h3
  · intro j c h0 h1 h2 h3 h4; rw [ui_row h (by omega)]; exact hX.mn j c h0 h1 h2 h3 h4
  · rcases hX.old with h9 | ⟨h9, h8⟩
    · exact Or.inl (by rw [ui_row h (by omega)]; exact h9)
    · exact Or.inr ⟨by rw [ui_row h (by omega)]; exact h9, fun j hj => ⟨by rw [ui_row h (by omega)]; exact (h8 j hj).1, fun c hc => by rw [ui_row h (by omega)]; exact (h8 j hj).2 c hc⟩⟩
  · rw [ui_row h (by omega)]; exact hX.mk
  · rw [ui_row h (by omega)]; exact hX.lk
  · rw [ui_row h (by omega)]; exact hX.hs
  · intro j q a b h0 h1 h2 h3; rw [ui_row h (by omega)]; exact hX.tp j q a b h0 h1 h2 h3
  · intro j q b h0 h1 h2; rw [ui_row h (by omega)]; exact hX.bt j q b h0 h1 h2
  · intro i h0; rw [ui_row h (by omega)]; exact hX.ch i h0
  · rw [ui_row h (by omega)]; exact hX.st
theorem pm_ref (hM : ai_RM σ I L) {k : Nat} (hk : 1 ≤ k ∧ k ≤ 7) {v : Int32} {I2 : Nat → Nat → Int32} (h : v = -(nI k) ∧ I2 = ai_ui I 573 k (I 573 k + nI 1)) : ai_PM S F I L (σ.refuse k) (some (.int v)) (S, I2, L, F) := by
  obtain ⟨rfl, h2⟩ := h
  exact ⟨I2, L, rfl, rfl, rm_refuse hk hM h2, fun a ha => ⟨ui_row h2 (by omega), rfl⟩⟩
theorem rm_hold (hX : ai_RM σ I L) {I2 : Nat → Nat → Int32} {s d : Nat} (hs : s < 8) (h : I2 = ai_ui I 574 s (nI d - 1)) : ai_RM (σ.hold s d) I2 L := by
  refine ⟨?_, ?_, ?_, ?_, ?_, ?_, ?_, ?_, ?_, ?_, ?_, ?_, ?_, ?_, ?_, ?_, ?_, ?_, ?_, ?_, ?_, ?_, ?_, ?_, ?_⟩
  · intro i h0; rw [ui_row h (by omega)]; exact hX.rf i h0
  · intro x hx
    show I2 574 x = nI (if x = s then d else σ.hd x) - 1
    by_cases e : x = s
    · subst e; rw [if_pos rfl]; exact ui_same h
    · rw [if_neg e, ui_other h (by omega)]; exact hX.hd x hx
  · intro s h0; rw [ui_row h (by omega)]; exact hX.sz s h0
  · exact hX.el
  · rw [ui_row h (by omega)]; exact hX.nT
  · rw [ui_row h (by omega)]; exact hX.nQ
  · rw [ui_row h (by omega)]; exact hX.nJ
  · intro q h0; rw [ui_row h (by omega)]; exact hX.an q h0
  · intro q h0 h1; rw [ui_row h (by omega)]; exact hX.pa q h0 h1
  · intro q h0 h1; rw [ui_row h (by omega)]; exact hX.wa q h0 h1
  · intro c h0 h1; rw [ui_row h (by omega)]; exact hX.tr c h0 h1
  · intro c h0 h1; rw [ui_row h (by omega)]; exact hX.ag c h0 h1
  · intro j h0; rw [ui_row h (by omega)]; exact hX.lf j h0
  · intro j h0; rw [ui_row h (by omega)]; exact hX.sr j h0
  · intro j h0 h1; rw [ui_row h (by omega)]; exact hX.gn j h0 h1
  · intro j c h0 h1 h2 h3; rw [ui_row h (by omega)]; exact hX.gv j c h0 h1 h2 h3
  · intro j c h0 h1 h2 h3 h4; rw [ui_row h (by omega)]; exact hX.mn j c h0 h1 h2 h3 h4
  · rcases hX.old with h9 | ⟨h9, h8⟩
    · exact Or.inl (by rw [ui_row h (by omega)]; exact h9)
    · exact Or.inr ⟨by rw [ui_row h (by omega)]; exact h9, fun j hj => ⟨by rw [ui_row h (by omega)]; exact (h8 j hj).1, fun c hc => by rw [ui_row h (by omega)]; exact (h8 j hj).2 c hc⟩⟩
  · rw [ui_row h (by omega)]; exact hX.mk
  · rw [ui_row h (by omega)]; exact hX.lk
  · rw [ui_row h (by omega)]; exact hX.hs
  · intro j q a b h0 h1 h2 h3; rw [ui_row h (by omega)]; exact hX.tp j q a b h0 h1 h2 h3
  · intro j q b h0 h1 h2; rw [ui_row h (by omega)]; exact hX.bt j q b h0 h1 h2
  · intro i h0; rw [ui_row h (by omega)]; exact hX.ch i h0
  · rw [ui_row h (by omega)]; exact hX.st
theorem ui2_oth9 {I I2 : Nat → Nat → Int32} {s : Nat} {u v : Int32} (h : I2 = ai_ui (ai_ui I 574 s u) 575 s v) : I2 574 s = u := by rw [h]; simp [ai_ui]
theorem rm_row (hX : ai_RM σ I L) {I2 : Nat → Nat → Int32} {L2 : Nat → Nat → Int64} {s so n : Nat} (hs : s < 8) (hn : n ≤ 100) (h : I2 = ai_ui (ai_ui I 574 s (nI (100 + so))) 575 s (nI n)) (hL : ∀ i, i < 100 → L2 576 (100 * s + i) = lN 0) (hL2 : ∀ x, ¬ (100 * s ≤ x ∧ x < 100 * s + 100) → L2 576 x = L 576 x) (hz : ∀ x, x < 8 → σ.sz x ≤ 100) : ai_RM (σ.row s so n) I2 L2 := by
  refine ⟨?_, ?_, ?_, ?_, ?_, ?_, ?_, ?_, ?_, ?_, ?_, ?_, ?_, ?_, ?_, ?_, ?_, ?_, ?_, ?_, ?_, ?_, ?_, ?_, ?_⟩
  · intro i h0; rw [ui2_row h (by omega) (by omega)]; exact hX.rf i h0
  · intro x hx
    show I2 574 x = nI (if x = s then 101 + so else σ.hd x) - 1
    by_cases e : x = s
    · subst e; rw [if_pos rfl, ui2_oth9 h, show 101 + so = 100 + so + 1 by omega, nM_succ]
    · rw [if_neg e, ui2_oth h (by omega) (by omega)]; exact hX.hd x hx
  · intro x hx
    show I2 575 x = nI (if x = s then n else σ.sz x)
    by_cases e : x = s
    · subst e; rw [if_pos rfl]; exact ui_same h
    · rw [if_neg e, ui2_oth h (by omega) (by omega)]; exact hX.sz x hx
  · intro x hx i hi
    have hi2 : i < (if x = s then n else σ.sz x) := hi
    show L2 576 (100 * x + i) = (if x = s then lN 0 else σ.el x i)
    by_cases e : x = s
    · subst e; rw [if_pos rfl] at hi2 ⊢; exact hL i (by omega)
    · rw [if_neg e] at hi2 ⊢
      have h7 := hz x hx
      rw [hL2 _ (by omega)]; exact hX.el x hx i hi2
  · rw [ui2_row h (by omega) (by omega)]; exact hX.nT
  · rw [ui2_row h (by omega) (by omega)]; exact hX.nQ
  · rw [ui2_row h (by omega) (by omega)]; exact hX.nJ
  · intro q h0; rw [ui2_row h (by omega) (by omega)]; exact hX.an q h0
  · intro q h0 h1; rw [ui2_row h (by omega) (by omega)]; exact hX.pa q h0 h1
  · intro q h0 h1; rw [ui2_row h (by omega) (by omega)]; exact hX.wa q h0 h1
  · intro c h0 h1; rw [ui2_row h (by omega) (by omega)]; exact hX.tr c h0 h1
  · intro c h0 h1; rw [ui2_row h (by omega) (by omega)]; exact hX.ag c h0 h1
  · intro j h0; rw [ui2_row h (by omega) (by omega)]; exact hX.lf j h0
  · intro j h0; rw [ui2_row h (by omega) (by omega)]; exact hX.sr j h0
  · intro j h0 h1; rw [ui2_row h (by omega) (by omega)]; exact hX.gn j h0 h1
  · intro j c h0 h1 h2 h3; rw [ui2_row h (by omega) (by omega)]; exact hX.gv j c h0 h1 h2 h3
  · intro j c h0 h1 h2 h3 h4; rw [ui2_row h (by omega) (by omega)]; exact hX.mn j c h0 h1 h2 h3 h4
  · rcases hX.old with h9 | ⟨h9, h8⟩
    · exact Or.inl (by rw [ui2_row h (by omega) (by omega)]; exact h9)
    · exact Or.inr ⟨by rw [ui2_row h (by omega) (by omega)]; exact h9, fun j hj => ⟨by rw [ui2_row h (by omega) (by omega)]; exact (h8 j hj).1, fun c hc => by rw [ui2_row h (by omega) (by omega)]; exact (h8 j hj).2 c hc⟩⟩
  · rw [ui2_row h (by omega) (by omega)]; exact hX.mk
  · rw [ui2_row h (by omega) (by omega)]; exact hX.lk
  · rw [ui2_row h (by omega) (by omega)]; exact hX.hs
  · intro j q a b h0 h1 h2 h3; rw [ui2_row h (by omega) (by omega)]; exact hX.tp j q a b h0 h1 h2 h3
  · intro j q b h0 h1 h2; rw [ui2_row h (by omega) (by omega)]; exact hX.bt j q b h0 h1 h2
  · intro i h0; rw [ui2_row h (by omega) (by omega)]; exact hX.ch i h0
  · rw [ui2_row h (by omega) (by omega)]; exact hX.st
theorem rm_L {σ2 : ai_S} (hM : ai_RM σ I L) {L2 : Nat → Nat → Int64} {g : Nat → Nat → Int64} (e : σ2 = σ.wEl g) (h : ∀ s, s < 8 → ∀ i, i < σ.sz s → L2 576 (100 * s + i) = g s i) : ai_RM σ2 I L2 := by
  subst e
  exact ⟨hM.rf, hM.hd, hM.sz, h, hM.nT, hM.nQ, hM.nJ, hM.an, hM.pa, hM.wa, hM.tr, hM.ag, hM.lf, hM.sr, hM.gn, hM.gv, hM.mn, hM.old, hM.mk, hM.lk, hM.hs, hM.tp, hM.bt, hM.ch, hM.st⟩
theorem rm_know (hX : ai_RM σ I L) {I2 : Nat → Nat → Int32} {c b : Nat} (hc : c < 200) (h : I2 = ai_ui I 581 c (nI b - 1)) : ai_RM (σ.know c b) I2 L := by
  refine ⟨?_, ?_, ?_, ?_, ?_, ?_, ?_, ?_, ?_, ?_, ?_, ?_, ?_, ?_, ?_, ?_, ?_, ?_, ?_, ?_, ?_, ?_, ?_, ?_, ?_⟩
  · intro i h0; rw [ui_row h (by omega)]; exact hX.rf i h0
  · intro s h0; rw [ui_row h (by omega)]; exact hX.hd s h0
  · intro s h0; rw [ui_row h (by omega)]; exact hX.sz s h0
  · exact hX.el
  · rw [ui_row h (by omega)]; exact hX.nT
  · rw [ui_row h (by omega)]; exact hX.nQ
  · rw [ui_row h (by omega)]; exact hX.nJ
  · intro q h0; rw [ui_row h (by omega)]; exact hX.an q h0
  · intro q h0 h1; rw [ui_row h (by omega)]; exact hX.pa q h0 h1
  · intro q h0 h1; rw [ui_row h (by omega)]; exact hX.wa q h0 h1
  · intro x hx hq
    show I2 581 x = nI (if x = c then b else σ.tr x) - 1
    by_cases e : x = c
    · subst e; rw [if_pos rfl]; exact ui_same h
    · rw [if_neg e, ui_other h (by omega)]; exact hX.tr x hx hq
  · intro c h0 h1; rw [ui_row h (by omega)]; exact hX.ag c h0 h1
  · intro j h0; rw [ui_row h (by omega)]; exact hX.lf j h0
  · intro j h0; rw [ui_row h (by omega)]; exact hX.sr j h0
  · intro j h0 h1; rw [ui_row h (by omega)]; exact hX.gn j h0 h1
  · intro j c h0 h1 h2 h3; rw [ui_row h (by omega)]; exact hX.gv j c h0 h1 h2 h3
  · intro j c h0 h1 h2 h3 h4; rw [ui_row h (by omega)]; exact hX.mn j c h0 h1 h2 h3 h4
  · rcases hX.old with h9 | ⟨h9, h8⟩
    · exact Or.inl (by rw [ui_row h (by omega)]; exact h9)
    · exact Or.inr ⟨by rw [ui_row h (by omega)]; exact h9, fun j hj => ⟨by rw [ui_row h (by omega)]; exact (h8 j hj).1, fun c hc => by rw [ui_row h (by omega)]; exact (h8 j hj).2 c hc⟩⟩
  · rw [ui_row h (by omega)]; exact hX.mk
  · rw [ui_row h (by omega)]; exact hX.lk
  · rw [ui_row h (by omega)]; exact hX.hs
  · intro j q a b h0 h1 h2 h3; rw [ui_row h (by omega)]; exact hX.tp j q a b h0 h1 h2 h3
  · intro j q b h0 h1 h2; rw [ui_row h (by omega)]; exact hX.bt j q b h0 h1 h2
  · intro i h0; rw [ui_row h (by omega)]; exact hX.ch i h0
  · rw [ui_row h (by omega)]; exact hX.st
theorem rm_rest (hX : ai_RM σ I L) {I2 : Nat → Nat → Int32} {j : Nat} (hj : j < 24) (h : I2 = ai_ui I 584 j (nI 0)) : ai_RM (σ.rest j) I2 L := by
  refine ⟨?_, ?_, ?_, ?_, ?_, ?_, ?_, ?_, ?_, ?_, ?_, ?_, ?_, ?_, ?_, ?_, ?_, ?_, ?_, ?_, ?_, ?_, ?_, ?_, ?_⟩
  · intro i h0; rw [ui_row h (by omega)]; exact hX.rf i h0
  · intro s h0; rw [ui_row h (by omega)]; exact hX.hd s h0
  · intro s h0; rw [ui_row h (by omega)]; exact hX.sz s h0
  · exact hX.el
  · rw [ui_row h (by omega)]; exact hX.nT
  · rw [ui_row h (by omega)]; exact hX.nQ
  · rw [ui_row h (by omega)]; exact hX.nJ
  · intro q h0; rw [ui_row h (by omega)]; exact hX.an q h0
  · intro q h0 h1; rw [ui_row h (by omega)]; exact hX.pa q h0 h1
  · intro q h0 h1; rw [ui_row h (by omega)]; exact hX.wa q h0 h1
  · intro c h0 h1; rw [ui_row h (by omega)]; exact hX.tr c h0 h1
  · intro c h0 h1; rw [ui_row h (by omega)]; exact hX.ag c h0 h1
  · intro j h0; rw [ui_row h (by omega)]; exact hX.lf j h0
  · intro x hx
    show I2 584 x = (if x = j then nI 0 else σ.sr x)
    by_cases e : x = j
    · subst e; rw [if_pos rfl]; exact ui_same h
    · rw [if_neg e, ui_other h (by omega)]; exact hX.sr x hx
  · intro j h0 h1; rw [ui_row h (by omega)]; exact hX.gn j h0 h1
  · intro j c h0 h1 h2 h3; rw [ui_row h (by omega)]; exact hX.gv j c h0 h1 h2 h3
  · intro j c h0 h1 h2 h3 h4; rw [ui_row h (by omega)]; exact hX.mn j c h0 h1 h2 h3 h4
  · rcases hX.old with h9 | ⟨h9, h8⟩
    · exact Or.inl (by rw [ui_row h (by omega)]; exact h9)
    · exact Or.inr ⟨by rw [ui_row h (by omega)]; exact h9, fun j hj => ⟨by rw [ui_row h (by omega)]; exact (h8 j hj).1, fun c hc => by rw [ui_row h (by omega)]; exact (h8 j hj).2 c hc⟩⟩
  · rw [ui_row h (by omega)]; exact hX.mk
  · rw [ui_row h (by omega)]; exact hX.lk
  · rw [ui_row h (by omega)]; exact hX.hs
  · intro j q a b h0 h1 h2 h3; rw [ui_row h (by omega)]; exact hX.tp j q a b h0 h1 h2 h3
  · intro j q b h0 h1 h2; rw [ui_row h (by omega)]; exact hX.bt j q b h0 h1 h2
  · intro i h0; rw [ui_row h (by omega)]; exact hX.ch i h0
  · rw [ui_row h (by omega)]; exact hX.st
theorem rm_things (hX : ai_RM σ I L) {I2 : Nat → Nat → Int32} {n : Nat} (h : I2 = ai_ui I 572 5 (nI n)) : ai_RM (σ.wNT n) I2 L := by
  refine ⟨?_, ?_, ?_, ?_, ?_, ?_, ?_, ?_, ?_, ?_, ?_, ?_, ?_, ?_, ?_, ?_, ?_, ?_, ?_, ?_, ?_, ?_, ?_, ?_, ?_⟩
  · intro i h0; rw [ui_other h (by omega)]; exact hX.rf i h0
  · intro s h0; rw [ui_other h (by omega)]; exact hX.hd s h0
  · intro s h0; rw [ui_other h (by omega)]; exact hX.sz s h0
  · exact hX.el
  · exact ui_same h
  · rw [ui_other h (by omega)]; exact hX.nQ
  · rw [ui_other h (by omega)]; exact hX.nJ
  · intro q h0; rw [ui_other h (by omega)]; exact hX.an q h0
  · intro q h0 h1; rw [ui_other h (by omega)]; exact hX.pa q h0 h1
  · intro q h0 h1; rw [ui_other h (by omega)]; exact hX.wa q h0 h1
  · intro c h0 h1; rw [ui_other h (by omega)]; exact hX.tr c h0 h1
  · intro c h0 h1; rw [ui_other h (by omega)]; exact hX.ag c h0 h1
  · intro j h0; rw [ui_other h (by omega)]; exact hX.lf j h0
  · intro j h0; rw [ui_other h (by omega)]; exact hX.sr j h0
  · intro j h0 h1; rw [ui_other h (by omega)]; exact hX.gn j h0 h1
  · intro j c h0 h1 h2 h3; rw [ui_other h (by omega)]; exact hX.gv j c h0 h1 h2 h3
  · intro j c h0 h1 h2 h3 h4; rw [ui_other h (by omega)]; exact hX.mn j c h0 h1 h2 h3 h4
  · rcases hX.old with h9 | ⟨h9, h8⟩
    · exact Or.inl (by rw [ui_other h (by omega)]; exact h9)
    · exact Or.inr ⟨by rw [ui_other h (by omega)]; exact h9, fun j hj => ⟨by rw [ui_other h (by omega)]; exact (h8 j hj).1, fun c hc => by rw [ui_other h (by omega)]; exact (h8 j hj).2 c hc⟩⟩
  · rw [ui_other h (by omega)]; exact hX.mk
  · rw [ui_other h (by omega)]; exact hX.lk
  · rw [ui_other h (by omega)]; exact hX.hs
  · intro j q a b h0 h1 h2 h3; rw [ui_other h (by omega)]; exact hX.tp j q a b h0 h1 h2 h3
  · intro j q b h0 h1 h2; rw [ui_other h (by omega)]; exact hX.bt j q b h0 h1 h2
  · intro i h0; rw [ui_other h (by omega)]; exact hX.ch i h0
  · rw [ui_other h (by omega)]; exact hX.st
theorem rm_mark (hX : ai_RM σ I L) {I2 : Nat → Nat → Int32} {n : Nat} (h : I2 = ai_ui I 572 21 (nI n)) : ai_RM (σ.wMk n) I2 L := by
  refine ⟨?_, ?_, ?_, ?_, ?_, ?_, ?_, ?_, ?_, ?_, ?_, ?_, ?_, ?_, ?_, ?_, ?_, ?_, ?_, ?_, ?_, ?_, ?_, ?_, ?_⟩
  · intro i h0; rw [ui_other h (by omega)]; exact hX.rf i h0
  · intro s h0; rw [ui_other h (by omega)]; exact hX.hd s h0
  · intro s h0; rw [ui_other h (by omega)]; exact hX.sz s h0
  · exact hX.el
  · rw [ui_other h (by omega)]; exact hX.nT
  · rw [ui_other h (by omega)]; exact hX.nQ
  · rw [ui_other h (by omega)]; exact hX.nJ
  · intro q h0; rw [ui_other h (by omega)]; exact hX.an q h0
  · intro q h0 h1; rw [ui_other h (by omega)]; exact hX.pa q h0 h1
  · intro q h0 h1; rw [ui_other h (by omega)]; exact hX.wa q h0 h1
  · intro c h0 h1; rw [ui_other h (by omega)]; exact hX.tr c h0 h1
  · intro c h0 h1; rw [ui_other h (by omega)]; exact hX.ag c h0 h1
  · intro j h0; rw [ui_other h (by omega)]; exact hX.lf j h0
  · intro j h0; rw [ui_other h (by omega)]; exact hX.sr j h0
  · intro j h0 h1; rw [ui_other h (by omega)]; exact hX.gn j h0 h1
  · intro j c h0 h1 h2 h3; rw [ui_other h (by omega)]; exact hX.gv j c h0 h1 h2 h3
  · intro j c h0 h1 h2 h3 h4; rw [ui_other h (by omega)]; exact hX.mn j c h0 h1 h2 h3 h4
  · rcases hX.old with h9 | ⟨h9, h8⟩
    · exact Or.inl (by rw [ui_other h (by omega)]; exact h9)
    · exact Or.inr ⟨by rw [ui_other h (by omega)]; exact h9, fun j hj => ⟨by rw [ui_other h (by omega)]; exact (h8 j hj).1, fun c hc => by rw [ui_other h (by omega)]; exact (h8 j hj).2 c hc⟩⟩
  · exact ui_same h
  · rw [ui_other h (by omega)]; exact hX.lk
  · rw [ui_other h (by omega)]; exact hX.hs
  · intro j q a b h0 h1 h2 h3; rw [ui_other h (by omega)]; exact hX.tp j q a b h0 h1 h2 h3
  · intro j q b h0 h1 h2; rw [ui_other h (by omega)]; exact hX.bt j q b h0 h1 h2
  · intro i h0; rw [ui_other h (by omega)]; exact hX.ch i h0
  · rw [ui_other h (by omega)]; exact hX.st
theorem rm_look (hX : ai_RM σ I L) {I2 : Nat → Nat → Int32} {n : Nat} (h : I2 = ai_ui I 572 22 (nI n)) : ai_RM (σ.wLk n) I2 L := by
  refine ⟨?_, ?_, ?_, ?_, ?_, ?_, ?_, ?_, ?_, ?_, ?_, ?_, ?_, ?_, ?_, ?_, ?_, ?_, ?_, ?_, ?_, ?_, ?_, ?_, ?_⟩
  · intro i h0; rw [ui_other h (by omega)]; exact hX.rf i h0
  · intro s h0; rw [ui_other h (by omega)]; exact hX.hd s h0
  · intro s h0; rw [ui_other h (by omega)]; exact hX.sz s h0
  · exact hX.el
  · rw [ui_other h (by omega)]; exact hX.nT
  · rw [ui_other h (by omega)]; exact hX.nQ
  · rw [ui_other h (by omega)]; exact hX.nJ
  · intro q h0; rw [ui_other h (by omega)]; exact hX.an q h0
  · intro q h0 h1; rw [ui_other h (by omega)]; exact hX.pa q h0 h1
  · intro q h0 h1; rw [ui_other h (by omega)]; exact hX.wa q h0 h1
  · intro c h0 h1; rw [ui_other h (by omega)]; exact hX.tr c h0 h1
  · intro c h0 h1; rw [ui_other h (by omega)]; exact hX.ag c h0 h1
  · intro j h0; rw [ui_other h (by omega)]; exact hX.lf j h0
  · intro j h0; rw [ui_other h (by omega)]; exact hX.sr j h0
  · intro j h0 h1; rw [ui_other h (by omega)]; exact hX.gn j h0 h1
  · intro j c h0 h1 h2 h3; rw [ui_other h (by omega)]; exact hX.gv j c h0 h1 h2 h3
  · intro j c h0 h1 h2 h3 h4; rw [ui_other h (by omega)]; exact hX.mn j c h0 h1 h2 h3 h4
  · rcases hX.old with h9 | ⟨h9, h8⟩
    · exact Or.inl (by rw [ui_other h (by omega)]; exact h9)
    · exact Or.inr ⟨by rw [ui_other h (by omega)]; exact h9, fun j hj => ⟨by rw [ui_other h (by omega)]; exact (h8 j hj).1, fun c hc => by rw [ui_other h (by omega)]; exact (h8 j hj).2 c hc⟩⟩
  · rw [ui_other h (by omega)]; exact hX.mk
  · exact ui_same h
  · rw [ui_other h (by omega)]; exact hX.hs
  · intro j q a b h0 h1 h2 h3; rw [ui_other h (by omega)]; exact hX.tp j q a b h0 h1 h2 h3
  · intro j q b h0 h1 h2; rw [ui_other h (by omega)]; exact hX.bt j q b h0 h1 h2
  · intro i h0; rw [ui_other h (by omega)]; exact hX.ch i h0
  · rw [ui_other h (by omega)]; exact hX.st
theorem rm_haste (hX : ai_RM σ I L) {I2 : Nat → Nat → Int32} {n : Nat} (h : I2 = ai_ui I 572 23 (nI n)) : ai_RM (σ.wHs n) I2 L := by
  refine ⟨?_, ?_, ?_, ?_, ?_, ?_, ?_, ?_, ?_, ?_, ?_, ?_, ?_, ?_, ?_, ?_, ?_, ?_, ?_, ?_, ?_, ?_, ?_, ?_, ?_⟩
  · intro i h0; rw [ui_other h (by omega)]; exact hX.rf i h0
  · intro s h0; rw [ui_other h (by omega)]; exact hX.hd s h0
  · intro s h0; rw [ui_other h (by omega)]; exact hX.sz s h0
  · exact hX.el
  · rw [ui_other h (by omega)]; exact hX.nT
  · rw [ui_other h (by omega)]; exact hX.nQ
  · rw [ui_other h (by omega)]; exact hX.nJ
  · intro q h0; rw [ui_other h (by omega)]; exact hX.an q h0
  · intro q h0 h1; rw [ui_other h (by omega)]; exact hX.pa q h0 h1
  · intro q h0 h1; rw [ui_other h (by omega)]; exact hX.wa q h0 h1
  · intro c h0 h1; rw [ui_other h (by omega)]; exact hX.tr c h0 h1
  · intro c h0 h1; rw [ui_other h (by omega)]; exact hX.ag c h0 h1
  · intro j h0; rw [ui_other h (by omega)]; exact hX.lf j h0
  · intro j h0; rw [ui_other h (by omega)]; exact hX.sr j h0
  · intro j h0 h1; rw [ui_other h (by omega)]; exact hX.gn j h0 h1
  · intro j c h0 h1 h2 h3; rw [ui_other h (by omega)]; exact hX.gv j c h0 h1 h2 h3
  · intro j c h0 h1 h2 h3 h4; rw [ui_other h (by omega)]; exact hX.mn j c h0 h1 h2 h3 h4
  · rcases hX.old with h9 | ⟨h9, h8⟩
    · exact Or.inl (by rw [ui_other h (by omega)]; exact h9)
    · exact Or.inr ⟨by rw [ui_other h (by omega)]; exact h9, fun j hj => ⟨by rw [ui_other h (by omega)]; exact (h8 j hj).1, fun c hc => by rw [ui_other h (by omega)]; exact (h8 j hj).2 c hc⟩⟩
  · rw [ui_other h (by omega)]; exact hX.mk
  · rw [ui_other h (by omega)]; exact hX.lk
  · exact ui_same h
  · intro j q a b h0 h1 h2 h3; rw [ui_other h (by omega)]; exact hX.tp j q a b h0 h1 h2 h3
  · intro j q b h0 h1 h2; rw [ui_other h (by omega)]; exact hX.bt j q b h0 h1 h2
  · intro i h0; rw [ui_other h (by omega)]; exact hX.ch i h0
  · rw [ui_other h (by omega)]; exact hX.st
theorem rm_judge (hX : ai_RM σ I L) {I2 : Nat → Nat → Int32} {n : Nat} (h : I2 = ai_ui (ai_ui I 572 7 (nI n)) 572 20 (nI 1)) : ai_RM (σ.wNJ n) I2 L := by
  refine ⟨?_, ?_, ?_, ?_, ?_, ?_, ?_, ?_, ?_, ?_, ?_, ?_, ?_, ?_, ?_, ?_, ?_, ?_, ?_, ?_, ?_, ?_, ?_, ?_, ?_⟩
  · intro i h0; rw [ui2_oth h (by omega) (by omega)]; exact hX.rf i h0
  · intro s h0; rw [ui2_oth h (by omega) (by omega)]; exact hX.hd s h0
  · intro s h0; rw [ui2_oth h (by omega) (by omega)]; exact hX.sz s h0
  · exact hX.el
  · rw [ui2_oth h (by omega) (by omega)]; exact hX.nT
  · rw [ui2_oth h (by omega) (by omega)]; exact hX.nQ
  · rw [h]; simp [ai_ui]; rfl
  · intro q h0; rw [ui2_oth h (by omega) (by omega)]; exact hX.an q h0
  · intro q h0 h1; rw [ui2_oth h (by omega) (by omega)]; exact hX.pa q h0 h1
  · intro q h0 h1; rw [ui2_oth h (by omega) (by omega)]; exact hX.wa q h0 h1
  · intro c h0 h1; rw [ui2_oth h (by omega) (by omega)]; exact hX.tr c h0 h1
  · intro c h0 h1; rw [ui2_oth h (by omega) (by omega)]; exact hX.ag c h0 h1
  · intro j h0; rw [ui2_oth h (by omega) (by omega)]; exact hX.lf j h0
  · intro j h0; rw [ui2_oth h (by omega) (by omega)]; exact hX.sr j h0
  · intro j h0 h1; rw [ui2_oth h (by omega) (by omega)]; exact hX.gn j h0 h1
  · intro j c h0 h1 h2 h3; rw [ui2_oth h (by omega) (by omega)]; exact hX.gv j c h0 h1 h2 h3
  · intro j c h0 h1 h2 h3 h4; rw [ui2_oth h (by omega) (by omega)]; exact hX.mn j c h0 h1 h2 h3 h4
  · exact Or.inl (ui_same h)
  · rw [ui2_oth h (by omega) (by omega)]; exact hX.mk
  · rw [ui2_oth h (by omega) (by omega)]; exact hX.lk
  · rw [ui2_oth h (by omega) (by omega)]; exact hX.hs
  · intro j q a b h0 h1 h2 h3; rw [ui2_oth h (by omega) (by omega)]; exact hX.tp j q a b h0 h1 h2 h3
  · intro j q b h0 h1 h2; rw [ui2_oth h (by omega) (by omega)]; exact hX.bt j q b h0 h1 h2
  · intro i h0; rw [ui2_oth h (by omega) (by omega)]; exact hX.ch i h0
  · rw [ui2_oth h (by omega) (by omega)]; exact hX.st
end MBAS
