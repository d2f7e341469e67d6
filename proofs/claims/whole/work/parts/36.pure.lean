section PSW
variable {X : Option (Nat × (Nat → Int32))} {y pc w : Nat} {ls : ai_L} {st : List Value} {S : List (Nat × Nat)} {I : Nat → Nat → Int32} {L : Nat → Nat → Int64} {F : Nat → Nat → Option Nat} {Q : Option Value → ai_H → Prop}
theorem ev_switch {dflt hi : Int} {offs : Array Int} {a : Int32} (pcd : Nat) (hp : (pc : Int) + dflt = (pcd : Int)) (hd : decode (ai_b y) pc = .ok (.tableswitch dflt 0 hi offs, w)) (hh : hi + 1 = (offs.size : Int) ∧ offs.size < 2147483648) (kd : (¬ ∃ k, k < offs.size ∧ a = nI k) → ai_Ev X y pcd ls st (S, I, L, F) Q) (kk : ∀ k (hk : k < offs.size), a = nI k → ∃ pcn : Nat, (pc : Int) + offs[k] = (pcn : Int) ∧ ai_Ev X y pcn ls st (S, I, L, F) Q) : ai_Ev X y pc ls (.int a :: st) (S, I, L, F) Q := by
  by_cases h : a.toInt < 0 ∨ hi < a.toInt
  · refine ai_Ev_step (h' := (S, I, L, F)) (pc' := pcd) (ls' := ls) (st' := st) hd ?_ ⟨Nat.le_refl _, Nat.le_refl _⟩ (kd ?_)
    · show (if a.toInt < 0 ∨ hi < a.toInt then ai_br 3 pc dflt ls st (S, I, L, F) else _) = _
      rw [if_pos h]; simp [ai_br, hp, Int.natCast_nonneg]
    · rintro ⟨k, hk, rfl⟩
      have e : (nI k).toInt = (k : Int) := Int32.toInt_ofNat_of_lt (by omega)
      rw [e] at h; omega
  · have h0 : (0 : Int32) ≤ a := Int32.le_iff_toInt_le.mpr (by show (0 : Int) ≤ _; omega)
    obtain ⟨k, hk, rfl⟩ := nn_nI h0
    have e : (nI k).toInt = (k : Int) := Int32.toInt_ofNat_of_lt (by omega)
    rw [e] at h
    have hk2 : k < offs.size := by omega
    obtain ⟨pcn, hn, hev⟩ := kk k hk2 rfl
    refine ai_Ev_step (h' := (S, I, L, F)) (pc' := pcn) (ls' := ls) (st' := st) hd ?_ ⟨Nat.le_refl _, Nat.le_refl _⟩ hev
    show (if (nI k).toInt < 0 ∨ hi < (nI k).toInt then _ else ai_o2 offs[((nI k).toInt - 0).toNat]? fun off => ai_br 3 pc off ls st (S, I, L, F)) = _
    rw [e, if_neg h, show ((k : Int) - 0).toNat = k by omega, Array.getElem?_eq_getElem hk2]
    simp [ai_o2, ai_br, hn, Int.natCast_nonneg]
end PSW
section PPR
variable {S : List (Nat × Nat)} {F : Nat → Nat → Option Nat} {L : Nat → Nat → Int64} {I : Nat → Nat → Int32} {σ : ai_S}
noncomputable def ai_c {α : Type} (p : Prop) (a b : α) : α := @ite α p (Classical.propDecidable p) a b
theorem c_T {α : Type} {p : Prop} {a b : α} (h : p) : ai_c p a b = a := by unfold ai_c; exact if_pos h
theorem c_F {α : Type} {p : Prop} {a b : α} (h : ¬ p) : ai_c p a b = b := by unfold ai_c; exact if_neg h
theorem nl_le {z : Int32} (h : ¬ z < 0) : (0 : Int32) ≤ z := Int32.not_lt.mp h
theorem nI_nlt0 {k : Nat} (h : k < 2147483648) : ¬ nI k < 0 := fun q => absurd q (Int32.not_lt.mpr (nI_le (Nat.zero_le _) h))
theorem qn_T {p : Nat → Bool} {k : Nat} (h : p k = true) : ai_qn p (k + 1) = ai_qn p k + 1 := by
  show ai_qn p k + ai_qb (p k) = _
  rw [h]; rfl
theorem qn_F {p : Nat → Bool} {k : Nat} (h : ¬ p k = true) : ai_qn p (k + 1) = ai_qn p k := by
  have h2 : p k = false := by cases e : p k with
    | false => rfl
    | true => exact absurd e h
  show ai_qn p k + ai_qb (p k) = _
  rw [h2]; rfl
theorem nb_F {b : Bool} (h : ¬ b = true) : b = false := by cases b <;> simp_all
def ai_S.isJ (σ : ai_S) (z : Int32) : Prop := ∃ k, k < σ.nJ ∧ σ.lf k = false ∧ z = nI k
def ai_S.isC (σ : ai_S) (x y : Int32) : Prop := ∃ t q, t < σ.nT ∧ q < σ.nQ ∧ x = nI t ∧ y = nI q
def ai_S.isA (σ : ai_S) (x y : Int32) : Prop := ∃ q a, q < σ.nQ ∧ a < σ.an q ∧ x = nI q ∧ y = nI a
theorem x_isJ (G : ai_G S F) (hX : ai_RX σ I L) (hV : ai_IV σ) {z : Int32} : ai_Ev none 85 0 [some (.ref 1), some (.int z)] [] (S, I, L, F) (ai_Pb S F I L (σ.isJ z)) := x_isJudge G hX hV

theorem x_isAnswer (G : ai_G S F) (hX : ai_RX σ I L) (hV : ai_IV σ) {x y : Int32} : ai_Ev none 87 0 [some (.ref 1), some (.int x), some (.int y)] [] (S, I, L, F) (ai_Pb S F I L (σ.isA x y)) := by
  have hnT := hV.nT
  have hnQ := hV.nQ
  have hnJ := hV.nJ
  refine ev_aload_n 1 rfl d87_0 rfl ?_
  refine ev_iload_n 2 rfl d87_1 rfl ?_
  refine ev_cb1 5 rfl 86 d87_2 rfl rfl (by rw [G.1 _ _ (rfl : ai_sp 1 = (8, 0)) (by decide) (by decide)]; rfl) (by omega) rfl (x_isQuestion G hX hV) (fun hq_2 => ?_) (fun hq_2 => ?_)
  · obtain ⟨q, hq, rfl⟩ := hq_2
    refine ev_if_F 29 8 (by decide) rfl (by decide) d87_5 ?_
    refine ev_iload_n 9 rfl d87_8 rfl ?_
    refine ev_if 29 12 (by decide) rfl cz_lt d87_9 (fun hc_9 => ?_) (fun hc_9 => ?_)
    · refine ev_iconst (v := nI 0) 30 rfl d87_29 (by decide) ?_
      refine ev_iret (Or.inr ⟨rfl, Or.inl (by decide)⟩) d87_30 ?_
      refine ⟨Or.inr ⟨fun ⟨q2, a2, h1, h2, h3, h4⟩ => ?_, rfl⟩, rfl⟩
      have h5 := hV.an q2 h1
      first
        | exact hq_2 ⟨q2, h1, h3⟩
        | (rw [h4] at hc_9; exact nI_nlt0 (by omega) hc_9)
        | (have e1 := (nI_eq (by omega) (by omega)).mp h3
           have e2 := (nI_eq (by omega) (by omega)).mp h4
           subst e1; omega)
    · have h7 := hV.an q hq
      obtain ⟨a, ha, rfl⟩ := nn_nI (nl_le hc_9)
      refine ev_iload_n 13 rfl d87_12 rfl ?_
      refine ev_aload_n 14 rfl d87_13 rfl ?_
      refine ev_getr 17 rfl 8 1 d87_14 rfl (by omega) (G.1 _ _ (rfl : ai_sp 1 = (8, 0)) (by decide) (by decide)) (G.2 _ _ _ (rfl : ai_rf 1 1 = some 3)) ?_
      refine ev_iload_n 18 rfl d87_17 rfl ?_
      refine ev_aald_n 19 rfl d87_18 (by omega) (by decide) (G.1 _ _ (rfl : ai_sp 3 = (105, 5)) (by decide) (by decide)) (by omega) (by decide) (G.2 _ _ _ (rf_question (by omega))) ?_
      refine ev_geti (v := nI (σ.an q)) 22 rfl 4 0 d87_19 rfl (by omega) (G.1 _ _ (sp_question (by omega)) (by omega) (by omega)) (hX.an _ (by omega) (by omega)) ?_
      refine ev_icmp 29 25 (by decide) rfl (cn_ge (by omega) (by omega)) d87_22 (fun hc_22 => ?_) (fun hc_22 => ?_)
      · refine ev_iconst (v := nI 0) 30 rfl d87_29 (by decide) ?_
        refine ev_iret (Or.inr ⟨rfl, Or.inl (by decide)⟩) d87_30 ?_
        refine ⟨Or.inr ⟨fun ⟨q2, a2, h1, h2, h3, h4⟩ => ?_, rfl⟩, rfl⟩
        have h5 := hV.an q2 h1
        first
          | exact hq_2 ⟨q2, h1, h3⟩
          | (rw [h4] at hc_9; exact nI_nlt0 (by omega) hc_9)
          | (have e1 := (nI_eq (by omega) (by omega)).mp h3
             have e2 := (nI_eq (by omega) (by omega)).mp h4
             subst e1; omega)
      · refine ev_iconst (v := nI 1) 26 rfl d87_25 (by decide) ?_
        refine ev_goto 30 (by decide) d87_26 ?_
        refine ev_iret (Or.inr ⟨rfl, Or.inr (by decide)⟩) d87_30 ?_
        exact ⟨Or.inl ⟨⟨q, a, hq, by omega, rfl, rfl⟩, rfl⟩, rfl⟩
  · refine ev_if_T 29 (by decide) (by decide) d87_5 ?_
    refine ev_iconst (v := nI 0) 30 rfl d87_29 (by decide) ?_
    refine ev_iret (Or.inr ⟨rfl, Or.inl (by decide)⟩) d87_30 ?_
    refine ⟨Or.inr ⟨fun ⟨q2, a2, h1, h2, h3, h4⟩ => ?_, rfl⟩, rfl⟩
    have h5 := hV.an q2 h1
    first
      | exact hq_2 ⟨q2, h1, h3⟩
      | (rw [h4] at hc_9; exact nI_nlt0 (by omega) hc_9)
      | (have e1 := (nI_eq (by omega) (by omega)).mp h3
         have e2 := (nI_eq (by omega) (by omega)).mp h4
         subst e1; omega)
theorem x_isAnswerN (G : ai_G S F) (hX : ai_RX σ I L) (hV : ai_IV σ) {q : Nat} (hq : q < σ.nQ) {y : Int32} : ai_Ev none 87 0 [some (.ref 1), some (.int (nI q)), some (.int y)] [] (S, I, L, F) (ai_Pb S F I L (ai_is (σ.an q) y)) := by
  have hnQ := hV.nQ
  refine (x_isAnswer G hX hV).imp ?_
  rintro r h' ⟨h1 | h1, h2⟩
  · obtain ⟨⟨q2, a2, g1, g2, g3, g4⟩, h3⟩ := h1
    have e1 := (nI_eq (by omega) (by omega)).mp g3
    subst e1
    exact ⟨Or.inl ⟨⟨a2, g2, g4⟩, h3⟩, h2⟩
  · exact ⟨Or.inr ⟨fun ⟨a2, g2, g4⟩ => h1.1 ⟨q, a2, hq, g2, rfl, g4⟩, h1.2⟩, h2⟩
theorem x_isCase (G : ai_G S F) (hX : ai_RX σ I L) (hV : ai_IV σ) {x y : Int32} : ai_Ev none 88 0 [some (.ref 1), some (.int x), some (.int y)] [] (S, I, L, F) (ai_Pb S F I L (σ.isC x y)) := by
  have hnT := hV.nT
  have hnQ := hV.nQ
  have hnJ := hV.nJ
  refine ev_iload_n 1 rfl d88_0 rfl ?_
  refine ev_if 24 4 (by decide) rfl cz_lt d88_1 (fun hc_1 => ?_) (fun hc_1 => ?_)
  · refine ev_iconst (v := nI 0) 25 rfl d88_24 (by decide) ?_
    refine ev_iret (Or.inr ⟨rfl, Or.inl (by decide)⟩) d88_25 ?_
    refine ⟨Or.inr ⟨fun ⟨t2, q2, h1, h2, h3, h4⟩ => ?_, rfl⟩, rfl⟩
    first
      | exact hq_14 ⟨q2, h2, h4⟩
      | (rw [h3] at hc_1; exact nI_nlt0 (by omega) hc_1)
      | (have e1 := (nI_eq (by omega) (by omega)).mp h3
         omega)
  · obtain ⟨t, ht, rfl⟩ := nn_nI (nl_le hc_1)
    refine ev_iload_n 5 rfl d88_4 rfl ?_
    refine ev_aload_n 6 rfl d88_5 rfl ?_
    refine ev_geti (v := nI σ.nT) 9 rfl 8 4 d88_6 rfl (by omega) (G.1 _ _ (rfl : ai_sp 1 = (8, 0)) (by decide) (by decide)) hX.nT ?_
    refine ev_icmp 24 12 (by decide) rfl (cn_ge (by omega) (by omega)) d88_9 (fun hc_9 => ?_) (fun hc_9 => ?_)
    · refine ev_iconst (v := nI 0) 25 rfl d88_24 (by decide) ?_
      refine ev_iret (Or.inr ⟨rfl, Or.inl (by decide)⟩) d88_25 ?_
      refine ⟨Or.inr ⟨fun ⟨t2, q2, h1, h2, h3, h4⟩ => ?_, rfl⟩, rfl⟩
      first
        | exact hq_14 ⟨q2, h2, h4⟩
        | (rw [h3] at hc_1; exact nI_nlt0 (by omega) hc_1)
        | (have e1 := (nI_eq (by omega) (by omega)).mp h3
           omega)
    · refine ev_aload_n 13 rfl d88_12 rfl ?_
      refine ev_iload_n 14 rfl d88_13 rfl ?_
      refine ev_cb1 17 rfl 86 d88_14 rfl rfl (by rw [G.1 _ _ (rfl : ai_sp 1 = (8, 0)) (by decide) (by decide)]; rfl) (by omega) rfl (x_isQuestion G hX hV) (fun hq_14 => ?_) (fun hq_14 => ?_)
      · obtain ⟨q, hq, rfl⟩ := hq_14
        refine ev_if_F 24 20 (by decide) rfl (by decide) d88_17 ?_
        refine ev_iconst (v := nI 1) 21 rfl d88_20 (by decide) ?_
        refine ev_goto 25 (by decide) d88_21 ?_
        refine ev_iret (Or.inr ⟨rfl, Or.inr (by decide)⟩) d88_25 ?_
        exact ⟨Or.inl ⟨⟨t, q, by omega, hq, rfl, rfl⟩, rfl⟩, rfl⟩
      · refine ev_if_T 24 (by decide) (by decide) d88_17 ?_
        refine ev_iconst (v := nI 0) 25 rfl d88_24 (by decide) ?_
        refine ev_iret (Or.inr ⟨rfl, Or.inl (by decide)⟩) d88_25 ?_
        refine ⟨Or.inr ⟨fun ⟨t2, q2, h1, h2, h3, h4⟩ => ?_, rfl⟩, rfl⟩
        first
          | exact hq_14 ⟨q2, h2, h4⟩
          | (rw [h3] at hc_1; exact nI_nlt0 (by omega) hc_1)
          | (have e1 := (nI_eq (by omega) (by omega)).mp h3
             omega)
theorem neg_k {k : Nat} (h : 1 ≤ k ∧ k ≤ 7) : (-1 : Int32) - -(nI k) = nI (k - 1) := by
  have := (by decide +kernel : ∀ k, k < 8 → 1 ≤ k → (-1 : Int32) - -(nI k) = nI (k - 1)); exact this k (by omega) h.1
theorem c0_lt {a : Nat} (ha : a < 2 ^ 31) : ai_cond .lt (nI a) 0 = true ↔ a < 0 := cn_lt (b := 0) ha (by decide)
def ai_S.refuse (σ : ai_S) (k : Nat) : ai_S × Int32 := (σ.wRf (fun i => if i + 1 = k then σ.rf i + nI 1 else σ.rf i), -(nI k))
def ai_PX (S : List (Nat × Nat)) (F : Nat → Nat → Option Nat) (I : Nat → Nat → Int32) (L : Nat → Nat → Int64) (p : ai_S × Int32) : Option Value → ai_H → Prop := fun r h => ∃ I2 L2, r = some (.int p.2) ∧ h = (S, I2, L2, F) ∧ ai_RX p.1 I2 L2 ∧ ∀ a, 572 ≤ a → I2 a = I a ∧ L2 a = L a

theorem x_refuse (G : ai_G S F) {k : Nat} (hk : 1 ≤ k ∧ k ≤ 7) : ai_Ev none 90 0 [some (.ref 1), some (.int (-(nI k))), none] [] (S, I, L, F) (ai_Py S F L (fun v I2 => v = -(nI k) ∧ I2 = ai_ui I 7 (k - 1) (I 7 (k - 1) + nI 1))) := by
  refine ev_iconst (v := (-1)) 1 rfl d90_0 (by decide) ?_
  refine ev_iload_n 2 rfl d90_1 rfl ?_
  refine ev_isub (v := nI (k - 1)) 3 rfl d90_2 (neg_k hk) ?_
  refine ev_store_in 4 rfl d90_3 (Nat.le_of_ble_eq_true rfl) rfl ?_
  show ai_Ev _ _ _ [some (.ref 1), some (.int (-(nI k))), some (.int (nI (k - 1)))] _ _ _
  refine ev_iload_n 5 rfl d90_4 rfl ?_
  refine ev_if 27 8 (by decide) rfl (c0_lt (by omega)) d90_5 (fun hc_5 => absurd hc_5 (by omega)) (fun hc_5 => ?_)
  refine ev_iload_n 9 rfl d90_8 rfl ?_
  refine ev_aload_n 10 rfl d90_9 rfl ?_
  refine ev_getr 13 rfl 8 12 d90_10 rfl (by omega) (G.1 _ _ (rfl : ai_sp 1 = (8, 0)) (by decide) (by decide)) (G.2 _ _ _ (rfl : ai_rf 1 12 = some 7)) ?_
  refine ev_alen (v := nI 7) 14 rfl d90_13 (by omega) (by decide) (G.1 _ _ (rfl : ai_sp 7 = (100, 7)) (by decide) (by decide)) rfl ?_
  refine ev_icmp 27 17 (by decide) rfl (cn_ge (by omega) (by omega)) d90_14 (fun hc_14 => absurd hc_14 (by omega)) (fun hc_14 => ?_)
  refine ev_aload_n 18 rfl d90_17 rfl ?_
  refine ev_getr 21 rfl 8 12 d90_18 rfl (by omega) (G.1 _ _ (rfl : ai_sp 1 = (8, 0)) (by decide) (by decide)) (G.2 _ _ _ (rfl : ai_rf 1 12 = some 7)) ?_
  refine ev_iload_n 22 rfl d90_21 rfl ?_
  refine ev_dup2 23 rfl d90_22 ⟨rfl, rfl⟩ ?_
  refine ev_iald_n (v := I 7 (k - 1)) 24 rfl d90_23 (by omega) (G.1 _ _ (rfl : ai_sp 7 = (100, 7)) (by decide) (by decide)) (by omega) (by decide) rfl ?_
  refine ev_iconst (v := nI 1) 25 rfl d90_24 (by decide) ?_
  refine ev_iadd 26 rfl d90_25 rfl ?_
  obtain ⟨I_1, hI_1⟩ : ∃ z, z = ai_ui I 7 (k - 1) ((I 7 (k - 1)) + (nI 1)) := ⟨_, rfl⟩
  refine ev_iast_n (I2 := I_1) 27 rfl d90_26 (by omega) (G.1 _ _ (rfl : ai_sp 7 = (100, 7)) (by decide) (by decide)) (by omega) (by decide) hI_1.symm ?_
  refine ev_iload_n 28 rfl d90_27 rfl ?_
  refine ev_iret (Or.inl rfl) d90_28 ?_
  exact ⟨_, _, rfl, rfl, rfl, hI_1⟩
theorem rx_refuse {k : Nat} (hk : 1 ≤ k ∧ k ≤ 7) (hX : ai_RX σ I L) {I2 : Nat → Nat → Int32} (h : I2 = ai_ui I 7 (k - 1) (I 7 (k - 1) + nI 1)) : ai_RX (σ.refuse k).1 I2 L := by
  refine ⟨?_, ?_, ?_, ?_, ?_, ?_, ?_, ?_, ?_, ?_, ?_, ?_, ?_, ?_, ?_, ?_, ?_, ?_, ?_, ?_, ?_, ?_, ?_, ?_, ?_, ?_, ?_⟩
  · rw [ui_row h (by omega)]; exact hX.nT
  · rw [ui_row h (by omega)]; exact hX.nQ
  · rw [ui_row h (by omega)]; exact hX.nJ
  · rw [ui_row h (by omega)]; exact hX.mk
  · rw [ui_row h (by omega)]; exact hX.lk
  · rw [ui_row h (by omega)]; exact hX.hs
  · rw [ui_row h (by omega)]; exact hX.st
  · intro i h0; rw [ui_row h (by omega)]; exact hX.ch i h0
  · intro i hi
    show I2 7 i = if i + 1 = k then σ.rf i + nI 1 else σ.rf i
    by_cases e : i + 1 = k
    · rw [if_pos e, ← hX.rf i hi]
      have e2 : k - 1 = i := by omega
      rw [e2] at h
      exact ui_same h
    · rw [if_neg e, ui_other h (by omega)]; exact hX.rf i hi
  · intro s h0; rw [ui_row h (by omega)]; exact hX.wr s h0
  · intro s h0; rw [ui_row h (by omega)]; exact hX.jd s h0
  · intro s h0 h1; rw [ui_row h (by omega)]; exact hX.so s h0 h1
  · intro s h0; rw [ui_row h (by omega)]; exact hX.sz s h0
  · exact hX.el
  · intro q h0 h1; rw [ui_row h (by omega)]; exact hX.an q h0 h1
  · intro q h0 h1 h2; rw [ui_row h (by omega)]; exact hX.pa q h0 h1 h2
  · intro q h0 h1 h2; rw [ui_row h (by omega)]; exact hX.wa q h0 h1 h2
  · intro j h0; rw [ui_row h (by omega)]; exact hX.lf j h0
  · intro j h0; rw [ui_row h (by omega)]; exact hX.gn j h0
  · intro j h0; rw [ui_row h (by omega)]; exact hX.sr j h0
  · intro j h0; rw [ui_row h (by omega)]; exact hX.og j h0
  · intro y x h0 h1 h2 h3; rw [ui_row h (by omega)]; exact hX.al y x h0 h1 h2 h3
  · intro j q a b h0 h1 h2 h3; rw [ui_row h (by omega)]; exact hX.sd j q a b h0 h1 h2 h3
  · intro j q b h0 h1 h2; rw [ui_row h (by omega)]; exact hX.sa j q b h0 h1 h2
  · intro c h0; rw [ui_row h (by omega)]; exact hX.tr c h0
  · intro c h0; rw [ui_row h (by omega)]; exact hX.ag c h0
  · intro c j h0 h1; rw [ui_row h (by omega)]; exact hX.nt c j h0 h1
theorem px_ref (hX : ai_RX σ I L) {k : Nat} (hk : 1 ≤ k ∧ k ≤ 7) {v : Int32} {I2 : Nat → Nat → Int32} (h : v = -(nI k) ∧ I2 = ai_ui I 7 (k - 1) (I 7 (k - 1) + nI 1)) : ai_PX S F I L (σ.refuse k) (some (.int v)) (S, I2, L, F) := by
  obtain ⟨rfl, h2⟩ := h
  exact ⟨I2, L, rfl, rfl, rx_refuse hk hX h2, fun a ha => ⟨ui_row h2 (by omega), rfl⟩⟩
theorem px_same (hX : ai_RX σ I L) {v : Int32} : ai_PX S F I L (σ, v) (some (.int v)) (S, I, L, F) := ⟨I, L, rfl, rfl, hX, fun _ _ => ⟨rfl, rfl⟩⟩
theorem h_holdsR (G : ai_G S F) {s : Nat} (hs : s < 8) {d : Nat} (h : I (55 + 2 * s) 0 = nI (if 100 < d then 1 else 0)) : ai_Ev none 46 0 [some (.ref (55 + 2 * s))] [] (S, I, L, F) (ai_Pb S F I L (100 < d)) := by
  by_cases hd : 100 < d
  · rw [if_pos hd] at h
    refine ev_aload_n 1 rfl d46_0 rfl ?_
    refine ev_geti (v := nI 1) 4 rfl 6 0 d46_1 rfl (by omega) (G.1 _ _ (sp_shelf (by omega)) (by omega) (by omega)) h ?_
    refine ev_iret (Or.inr ⟨rfl, Or.inr (by decide)⟩) d46_4 ?_
    exact ⟨Or.inl ⟨hd, rfl⟩, rfl⟩
  · rw [if_neg hd] at h
    refine ev_aload_n 1 rfl d46_0 rfl ?_
    refine ev_geti (v := nI 0) 4 rfl 6 0 d46_1 rfl (by omega) (G.1 _ _ (sp_shelf (by omega)) (by omega) (by omega)) h ?_
    refine ev_iret (Or.inr ⟨rfl, Or.inl (by decide)⟩) d46_4 ?_
    exact ⟨Or.inr ⟨hd, rfl⟩, rfl⟩
noncomputable def ai_S.rr (σ : ai_S) (z : Int32) : Nat := ai_c (ai_is 8 z) (if σ.hd z.toNatClampNeg = 0 then 3 else if 100 < σ.hd z.toNatClampNeg then 0 else 2) 1
theorem rr_F {z : Int32} (h : ¬ ai_is 8 z) : σ.rr z = 1 := by unfold ai_S.rr; rw [c_F h]
theorem rr_T {s : Nat} (h : s < 8) : σ.rr (nI s) = (if σ.hd s = 0 then 3 else if 100 < σ.hd s then 0 else 2) := by
  unfold ai_S.rr; rw [c_T ⟨s, h, rfl⟩, nI_clamp (by omega)]
theorem rr_0 {z : Int32} (h : σ.rr z = 0) : ∃ s, s < 8 ∧ z = nI s ∧ 100 < σ.hd s := by
  by_cases hz : ai_is 8 z
  · obtain ⟨s, hs, rfl⟩ := hz
    rw [rr_T hs] at h
    refine ⟨s, hs, rfl, ?_⟩
    split at h
    · omega
    · split at h
      · assumption
      · omega
  · rw [rr_F hz] at h; omega
theorem rr_le {z : Int32} : σ.rr z ≤ 3 := by
  by_cases hz : ai_is 8 z
  · obtain ⟨s, hs, rfl⟩ := hz
    rw [rr_T hs]; split
    · omega
    · split <;> omega
  · rw [rr_F hz]; omega
theorem x_holdsJ (G : ai_G S F) (hX : ai_RX σ I L) (hV : ai_IV σ) {s : Nat} (hs : s < 8) : ai_Ev none 47 0 [some (.ref (55 + 2 * s))] [] (S, I, L, F) (ai_Pb S F I L (0 < σ.hd s ∧ σ.hd s ≤ 100)) := by
  have h1 := hV.hd s hs
  have hnJ := hV.nJ
  have h2 := h_holdsJ (S := S) (F := F) (L := L) (I := I) (v := if 100 < σ.hd s then 0 else σ.hd s) G hs (by split <;> omega) (hX.jd s hs)
  refine h2.imp ?_
  rintro r h' ⟨h3 | h3, h4⟩
  · refine ⟨Or.inl ⟨?_, h3.2⟩, h4⟩
    have h5 := h3.1
    split at h5 <;> omega
  · refine ⟨Or.inr ⟨?_, h3.2⟩, h4⟩
    have h5 := h3.1
    split at h5 <;> omega
theorem x_holdsR (G : ai_G S F) (hX : ai_RX σ I L) (hV : ai_IV σ) {s : Nat} (hs : s < 8) : ai_Ev none 46 0 [some (.ref (55 + 2 * s))] [] (S, I, L, F) (ai_Pb S F I L (100 < σ.hd s)) := h_holdsR G hs (hX.wr s hs)
theorem x_rowRefusal (G : ai_G S F) (hX : ai_RX σ I L) (hV : ai_IV σ) {z : Int32} : ai_Ev none 91 0 [some (.ref 1), some (.int z)] [] (S, I, L, F) (ai_Pp S F I L (.int (-(nI (σ.rr z))))) := by
  have hnT := hV.nT
  have hnQ := hV.nQ
  have hnJ := hV.nJ
  refine ev_aload_n 1 rfl d91_0 rfl ?_
  refine ev_iload_n 2 rfl d91_1 rfl ?_
  refine ev_cb1 5 rfl 84 d91_2 rfl rfl (by rw [G.1 _ _ (rfl : ai_sp 1 = (8, 0)) (by decide) (by decide)]; rfl) (by omega) rfl (x_isShelf G hX hV) (fun hq_2 => ?_) (fun hq_2 => ?_)
  · obtain ⟨s, hs, rfl⟩ := hq_2
    refine ev_if_T 10 (by decide) (by decide) d91_5 ?_
    refine ev_aload_n 11 rfl d91_10 rfl ?_
    refine ev_getr 14 rfl 8 0 d91_11 rfl (by omega) (G.1 _ _ (rfl : ai_sp 1 = (8, 0)) (by decide) (by decide)) (G.2 _ _ _ (rfl : ai_rf 1 0 = some 2)) ?_
    refine ev_iload_n 15 rfl d91_14 rfl ?_
    refine ev_aald_n 16 rfl d91_15 (by omega) (by decide) (G.1 _ _ (rfl : ai_sp 2 = (104, 8)) (by decide) (by decide)) (by omega) (by decide) (G.2 _ _ _ (rf_shelf (by omega))) ?_
    refine ev_cb0 19 rfl 47 d91_16 rfl rfl (by rw [G.1 _ _ (sp_shelf (by omega)) (by omega) (by omega)]; rfl) (by omega) rfl (x_holdsJ G hX hV (by omega)) (fun hq_16 => ?_) (fun hq_16 => ?_)
    · refine ev_if_F 25 22 (by decide) rfl (by decide) d91_19 ?_
      refine ev_bipush (v := (-2)) 24 rfl d91_22 (by decide) ?_
      refine ev_iret (Or.inl rfl) d91_24 ?_
      exact ⟨by rw [rr_T hs, if_neg (by omega), if_neg (by omega)]; rfl, rfl⟩
    · refine ev_if_T 25 (by decide) (by decide) d91_19 ?_
      refine ev_aload_n 26 rfl d91_25 rfl ?_
      refine ev_getr 29 rfl 8 0 d91_26 rfl (by omega) (G.1 _ _ (rfl : ai_sp 1 = (8, 0)) (by decide) (by decide)) (G.2 _ _ _ (rfl : ai_rf 1 0 = some 2)) ?_
      refine ev_iload_n 30 rfl d91_29 rfl ?_
      refine ev_aald_n 31 rfl d91_30 (by omega) (by decide) (G.1 _ _ (rfl : ai_sp 2 = (104, 8)) (by decide) (by decide)) (by omega) (by decide) (G.2 _ _ _ (rf_shelf (by omega))) ?_
      refine ev_cb0 34 rfl 46 d91_31 rfl rfl (by rw [G.1 _ _ (sp_shelf (by omega)) (by omega) (by omega)]; rfl) (by omega) rfl (x_holdsR G hX hV (by omega)) (fun hq_31 => ?_) (fun hq_31 => ?_)
      · refine ev_if_F 41 37 (by decide) rfl (by decide) d91_34 ?_
        refine ev_iconst (v := nI 0) 38 rfl d91_37 (by decide) ?_
        refine ev_goto 43 (by decide) d91_38 ?_
        refine ev_iret (Or.inl rfl) d91_43 ?_
        exact ⟨by rw [rr_T hs, if_neg (by omega), if_pos (by omega)]; rfl, rfl⟩
      · refine ev_if_T 41 (by decide) (by decide) d91_34 ?_
        refine ev_bipush (v := (-3)) 43 rfl d91_41 (by decide) ?_
        refine ev_iret (Or.inl rfl) d91_43 ?_
        exact ⟨by rw [rr_T hs, if_pos (by omega)]; rfl, rfl⟩
  · refine ev_if_F 10 8 (by decide) rfl (by decide) d91_5 ?_
    refine ev_iconst (v := (-1)) 9 rfl d91_8 (by decide) ?_
    refine ev_iret (Or.inl rfl) d91_9 ?_
    exact ⟨by rw [rr_F hq_2]; rfl, rfl⟩
def ai_S.kd (σ : ai_S) (j c : Nat) : Nat := if σ.gv j c = 0 then 0 else (σ.gv j c - 1) / 4 + 1
theorem fair_kd {j c : Nat} : σ.fair j c = true ↔ σ.kd j c = 1 := by
  unfold ai_S.fair ai_S.kd
  rw [decide_eq_true_eq]
  split <;> omega
theorem ql_le {p : Nat → Bool} : ∀ n, ai_ql p n ≤ n := by
  intro n
  induction n with
  | zero => exact Nat.le_refl 0
  | succ n ih =>
    show (if ai_ql p n = 0 then (if p n = true then n + 1 else 0) else ai_ql p n) ≤ n + 1
    split
    · split <;> omega
    · omega
theorem cop_le (j : Nat) : σ.cop j ≤ j := by
  unfold ai_S.cop
  split
  · omega
  · exact ql_le j
theorem ctd_iff {j c : Nat} : σ.ctd j c = true ↔ σ.kd j c = 1 ∧ (σ.cop j = 0 ∨ ¬ σ.kd (σ.cop j - 1) c = 1) := by
  unfold ai_S.ctd
  rw [Bool.and_eq_true, fair_kd, Bool.or_eq_true, decide_eq_true_eq, Bool.not_eq_true', ← Bool.not_eq_true, fair_kd]
theorem gv_lt (hV : ai_IV σ) {j c : Nat} (hc : c < 200) : σ.gv j c ≤ 12 := by
  by_cases e : σ.gv j c = 0
  · omega
  · exact (hV.gv j c hc e).2.2.2.2.2
theorem kd_le (hV : ai_IV σ) {j c : Nat} (hc : c < 200) : σ.kd j c ≤ 3 := by
  have := gv_lt hV (j := j) hc
  unfold ai_S.kd; split <;> omega
theorem x_kind (G : ai_G S F) (hX : ai_RX σ I L) (hV : ai_IV σ) {j c : Nat} (hj : j < 24) (hc : c < 200) : ai_Ev none 15 0 [some (.ref (172 + 2 * c)), some (.int (nI j))] [] (S, I, L, F) (ai_Pp S F I L (.int (nI (σ.kd j c) - 1))) := by
  have h1 := gv_lt hV (j := j) hc
  refine (k_kind G hc hj (by omega) (hX.nt c j hc hj)).imp ?_
  intro r h' ⟨h2, h3⟩
  refine ⟨h2.trans ?_, h3⟩
  unfold ai_S.kd
  by_cases e : σ.gv j c = 0
  · rw [if_pos e, if_pos e]; rfl
  · rw [if_neg e, if_neg e, nM_succ]
theorem x_said (G : ai_G S F) (hX : ai_RX σ I L) (hV : ai_IV σ) {j c : Nat} (hj : j < 24) (hc : c < 200) (hg : σ.gv j c ≠ 0) : ai_Ev none 16 0 [some (.ref (172 + 2 * c)), some (.int (nI j))] [] (S, I, L, F) (ai_Pp S F I L (.int (nI (σ.said j c)))) := by
  have h1 := gv_lt hV (j := j) hc
  refine (k_said G hc hj (by omega) (hX.nt c j hc hj)).imp ?_
  intro r h' ⟨h2, h3⟩
  refine ⟨h2.trans ?_, h3⟩
  rw [if_neg hg]; rfl
theorem x_answered (G : ai_G S F) (hX : ai_RX σ I L) (hV : ai_IV σ) {j c : Nat} (hj : j < 24) (hc : c < 200) : ai_Ev none 14 0 [some (.ref (172 + 2 * c)), some (.int (nI j))] [] (S, I, L, F) (ai_Pb S F I L (σ.gv j c ≠ 0)) := by
  have h1 := gv_lt hV (j := j) hc
  exact k_answered G hc hj (by omega) (hX.nt c j hc hj)
theorem x_known (G : ai_G S F) (hX : ai_RX σ I L) (hV : ai_IV σ) {c : Nat} (hc : c < 200) : ai_Ev none 13 0 [some (.ref (172 + 2 * c))] [] (S, I, L, F) (ai_Pb S F I L (σ.tr c ≠ 0)) := by
  have h1 := hV.tr c hc
  exact k_known G hc (v := σ.tr c) (by
    by_cases e : σ.tr c = 0
    · omega
    · have h2 := h1 e
      have h3 := hV.an _ h2.2.1
      omega) (hX.tr c hc)
theorem cq0_eq {a : Nat} (ha : a < 2 ^ 31) : ai_cond .eq (nI a - 1) 0 = true ↔ a = 1 := by
  rw [cz_eq, show (0 : Int32) = nI 1 - 1 by decide]; exact nM_eq ha (by decide)
theorem cq0_ne {a : Nat} (ha : a < 2 ^ 31) : ai_cond .ne (nI a - 1) 0 = true ↔ ¬ a = 1 := by
  rw [cz_ne, show (0 : Int32) = nI 1 - 1 by decide]; exact not_congr (nM_eq ha (by decide))
theorem x_counting (G : ai_G S F) (hX : ai_RX σ I L) (hV : ai_IV σ) {j c : Nat} (hj : j < 24) (hc : c < 200) : ai_Ev none 97 0 [some (.ref 1), some (.ref (172 + 2 * c)), some (.int (nI j)), none] [] (S, I, L, F) (ai_Pb S F I L (σ.ctd j c = true)) := by
  have hnT := hV.nT
  have hnQ := hV.nQ
  have hnJ := hV.nJ
  have hkd := kd_le hV (j := j) hc
  have hcp := cop_le (σ := σ) j
  refine ev_aload_n 1 rfl d97_0 rfl ?_
  refine ev_iload_n 2 rfl d97_1 rfl ?_
  refine ev_cp1 5 rfl 15 d97_2 rfl rfl (by rw [G.1 _ _ (sp_case (by omega)) (by omega) (by omega)]; rfl) (by omega) rfl (x_kind G hX hV (by omega) (by omega)) ?_
  refine ev_if 10 8 (by decide) rfl (cq0_eq (by omega)) d97_5 (fun hc_5 => ?_) (fun hc_5 => ?_)
  · refine ev_aload_n 11 rfl d97_10 rfl ?_
    refine ev_getr 14 rfl 8 2 d97_11 rfl (by omega) (G.1 _ _ (rfl : ai_sp 1 = (8, 0)) (by decide) (by decide)) (G.2 _ _ _ (rfl : ai_rf 1 2 = some 4)) ?_
    refine ev_iload_n 15 rfl d97_14 rfl ?_
    refine ev_aald_n 16 rfl d97_15 (by omega) (by decide) (G.1 _ _ (rfl : ai_sp 4 = (106, 24)) (by decide) (by decide)) (by omega) (by decide) (G.2 _ _ _ (rf_judge (by omega))) ?_
    refine ev_geti (v := nI (σ.cop j) - 1) 19 rfl 2 3 d97_16 rfl (by omega) (G.1 _ _ (sp_judge (by omega)) (by omega) (by omega)) (hX.og _ (by omega)) ?_
    refine ev_store_in 20 rfl d97_19 (Nat.le_of_ble_eq_true rfl) rfl ?_
    show ai_Ev _ _ _ [some (.ref 1), some (.ref (172 + 2 * c)), some (.int (nI j)), some (.int (nI (σ.cop j) - 1))] _ _ _
    refine ev_iload_n 21 rfl d97_20 rfl ?_
    refine ev_iconst (v := (-1)) 22 rfl d97_21 (by decide) ?_
    refine ev_icmp 33 25 (by decide) rfl (cq_eq (by omega)) d97_22 (fun hc_22 => ?_) (fun hc_22 => ?_)
    · refine ev_iconst (v := nI 1) 34 rfl d97_33 (by decide) ?_
      refine ev_goto 38 (by decide) d97_34 ?_
      refine ev_iret (Or.inr ⟨rfl, Or.inr (by decide)⟩) d97_38 ?_
      exact ⟨Or.inl ⟨ctd_iff.mpr (by omega), rfl⟩, rfl⟩
    · rw [nM_pos hc_22]
      have hk2 := kd_le hV (j := σ.cop j - 1) hc
      have hcp := cop_le (σ := σ) j
      refine ev_aload_n 26 rfl d97_25 rfl ?_
      refine ev_iload_n 27 rfl d97_26 rfl ?_
      refine ev_cp1 30 rfl 15 d97_27 rfl rfl (by rw [G.1 _ _ (sp_case (by omega)) (by omega) (by omega)]; rfl) (by omega) rfl (x_kind G hX hV (by omega) (by omega)) ?_
      refine ev_if 37 33 (by decide) rfl (cq0_eq (by omega)) d97_30 (fun hc_30 => ?_) (fun hc_30 => ?_)
      · refine ev_iconst (v := nI 0) 38 rfl d97_37 (by decide) ?_
        refine ev_iret (Or.inr ⟨rfl, Or.inl (by decide)⟩) d97_38 ?_
        exact ⟨Or.inr ⟨fun h9 => absurd (ctd_iff.mp h9) (by omega), rfl⟩, rfl⟩
      · refine ev_iconst (v := nI 1) 34 rfl d97_33 (by decide) ?_
        refine ev_goto 38 (by decide) d97_34 ?_
        refine ev_iret (Or.inr ⟨rfl, Or.inr (by decide)⟩) d97_38 ?_
        exact ⟨Or.inl ⟨ctd_iff.mpr (by omega), rfl⟩, rfl⟩
  · refine ev_iconst (v := nI 0) 9 rfl d97_8 (by decide) ?_
    refine ev_iret (Or.inr ⟨rfl, Or.inl (by decide)⟩) d97_9 ?_
    exact ⟨Or.inr ⟨fun h9 => absurd (ctd_iff.mp h9) (by omega), rfl⟩, rfl⟩
theorem x_countAt_loop (G : ai_G S F) (hX : ai_RX σ I L) (hV : ai_IV σ) {c : Nat} (hc : c < 200) : ∀ (z k : Nat), k + z = σ.nJ →
    ai_Ev none 98 4 [some (.ref 1), some (.ref (172 + 2 * c)), some (.int (nI (ai_qn (fun j => σ.ctd j c) k))), some (.int (nI k))] [] (S, I, L, F) (ai_Pp S F I L (.int (nI (σ.look c)))) := by
  intro z
  induction z with
  | zero =>
    intro k hz
    have e9 : k = σ.nJ := by omega
    subst e9
    have hnT := hV.nT
    have hnQ := hV.nQ
    have hnJ := hV.nJ
    refine ev_iload_n 5 rfl d98_4 rfl ?_
    refine ev_aload_n 6 rfl d98_5 rfl ?_
    refine ev_geti (v := nI σ.nJ) 9 rfl 8 6 d98_6 rfl (by omega) (G.1 _ _ (rfl : ai_sp 1 = (8, 0)) (by decide) (by decide)) hX.nJ ?_
    refine ev_icmp 30 12 (by decide) rfl (cn_ge (by omega) (by omega)) d98_9 (fun hc_9 => ?_) (fun hc_9 => absurd hc_9 (by omega))
    refine ev_iload_n 31 rfl d98_30 rfl ?_
    refine ev_iret (Or.inl rfl) d98_31 ?_
    exact ⟨rfl, rfl⟩
  | succ z ih =>
    intro k hz
    have hnT := hV.nT
    have hnQ := hV.nQ
    have hnJ := hV.nJ
    refine ev_iload_n 5 rfl d98_4 rfl ?_
    refine ev_aload_n 6 rfl d98_5 rfl ?_
    refine ev_geti (v := nI σ.nJ) 9 rfl 8 6 d98_6 rfl (by omega) (G.1 _ _ (rfl : ai_sp 1 = (8, 0)) (by decide) (by decide)) hX.nJ ?_
    refine ev_icmp 30 12 (by decide) rfl (cn_ge (by omega) (by omega)) d98_9 (fun hc_9 => absurd hc_9 (by omega)) (fun hc_9 => ?_)
    refine ev_aload_n 13 rfl d98_12 rfl ?_
    refine ev_aload_n 14 rfl d98_13 rfl ?_
    refine ev_iload_n 15 rfl d98_14 rfl ?_
    refine ev_cb2 18 rfl 97 d98_15 rfl rfl (by rw [G.1 _ _ (rfl : ai_sp 1 = (8, 0)) (by decide) (by decide)]; rfl) (by omega) rfl (x_counting G hX hV (by omega) (by omega)) (fun hq_15 => ?_) (fun hq_15 => ?_)
    · refine ev_if_F 24 21 (by decide) rfl (by decide) d98_18 ?_
      refine ev_iinc (v := nI ((ai_qn (fun j => σ.ctd j c) k) + 1)) 24 rfl d98_21 rfl (Nat.le_of_ble_eq_true rfl) (nI_add _ 1) rfl ?_
      show ai_Ev _ _ _ [some (.ref 1), some (.ref (172 + 2 * c)), some (.int (nI ((ai_qn (fun j => σ.ctd j c) k) + 1))), some (.int (nI k))] _ _ _
      refine ev_iinc (v := nI (k + 1)) 27 rfl d98_24 rfl (Nat.le_of_ble_eq_true rfl) (nI_add _ 1) rfl ?_
      show ai_Ev _ _ _ [some (.ref 1), some (.ref (172 + 2 * c)), some (.int (nI ((ai_qn (fun j => σ.ctd j c) k) + 1))), some (.int (nI (k + 1)))] _ _ _
      refine ev_goto 4 (by decide) d98_27 ?_
      have e8 : ai_qn (fun j => σ.ctd j c) (k + 1) = (ai_qn (fun j => σ.ctd j c) k) + 1 := qn_T hq_15
      have h9 := ih (k + 1) (by omega)
      rw [e8] at h9
      exact h9
    · refine ev_if_T 24 (by decide) (by decide) d98_18 ?_
      refine ev_iinc (v := nI (k + 1)) 27 rfl d98_24 rfl (Nat.le_of_ble_eq_true rfl) (nI_add _ 1) rfl ?_
      show ai_Ev _ _ _ [some (.ref 1), some (.ref (172 + 2 * c)), some (.int (nI (ai_qn (fun j => σ.ctd j c) k))), some (.int (nI (k + 1)))] _ _ _
      refine ev_goto 4 (by decide) d98_27 ?_
      have e8 : ai_qn (fun j => σ.ctd j c) (k + 1) = ai_qn (fun j => σ.ctd j c) k := qn_F hq_15
      have h9 := ih (k + 1) (by omega)
      rw [e8] at h9
      exact h9
theorem x_countAt (G : ai_G S F) (hX : ai_RX σ I L) (hV : ai_IV σ) {c : Nat} (hc : c < 200) : ai_Ev none 98 0 [some (.ref 1), some (.ref (172 + 2 * c)), none, none] [] (S, I, L, F) (ai_Pp S F I L (.int (nI (σ.look c)))) := by
  refine ev_iconst (v := nI 0) 1 rfl d98_0 (by decide) ?_
  refine ev_store_in 2 rfl d98_1 (Nat.le_of_ble_eq_true rfl) rfl ?_
  show ai_Ev _ _ _ [some (.ref 1), some (.ref (172 + 2 * c)), some (.int (nI 0)), none] _ _ _
  refine ev_iconst (v := nI 0) 3 rfl d98_2 (by decide) ?_
  refine ev_store_in 4 rfl d98_3 (Nat.le_of_ble_eq_true rfl) rfl ?_
  show ai_Ev _ _ _ [some (.ref 1), some (.ref (172 + 2 * c)), some (.int (nI 0)), some (.int (nI 0))] _ _ _
  exact x_countAt_loop G hX hV hc σ.nJ 0 (by omega)
def ai_S.cnts (σ : ai_S) (j : Nat) : Nat := ai_qn (fun c => σ.ctd j c) 200
theorem x_countOf_loop (G : ai_G S F) (hX : ai_RX σ I L) (hV : ai_IV σ) {j : Nat} (hj : j < 24) : ∀ (z k : Nat), k + z = 200 →
    ai_Ev none 99 4 [some (.ref 1), some (.int (nI j)), some (.int (nI (ai_qn (fun c => σ.ctd j c) k))), some (.int (nI k))] [] (S, I, L, F) (ai_Pp S F I L (.int (nI (σ.cnts j)))) := by
  intro z
  induction z with
  | zero =>
    intro k hz
    have e9 : k = 200 := by omega
    subst e9
    have hnT := hV.nT
    have hnQ := hV.nQ
    have hnJ := hV.nJ
    refine ev_iload_n 5 rfl d99_4 rfl ?_
    refine ev_aload_n 6 rfl d99_5 rfl ?_
    refine ev_getr 9 rfl 8 3 d99_6 rfl (by omega) (G.1 _ _ (rfl : ai_sp 1 = (8, 0)) (by decide) (by decide)) (G.2 _ _ _ (rfl : ai_rf 1 3 = some 5)) ?_
    refine ev_alen (v := nI 200) 10 rfl d99_9 (by omega) (by decide) (G.1 _ _ (rfl : ai_sp 5 = (107, 200)) (by decide) (by decide)) rfl ?_
    refine ev_icmp_T 36 (by decide) (by decide) d99_10 ?_
    refine ev_iload_n 37 rfl d99_36 rfl ?_
    refine ev_iret (Or.inl rfl) d99_37 ?_
    exact ⟨rfl, rfl⟩
  | succ z ih =>
    intro k hz
    have hnT := hV.nT
    have hnQ := hV.nQ
    have hnJ := hV.nJ
    refine ev_iload_n 5 rfl d99_4 rfl ?_
    refine ev_aload_n 6 rfl d99_5 rfl ?_
    refine ev_getr 9 rfl 8 3 d99_6 rfl (by omega) (G.1 _ _ (rfl : ai_sp 1 = (8, 0)) (by decide) (by decide)) (G.2 _ _ _ (rfl : ai_rf 1 3 = some 5)) ?_
    refine ev_alen (v := nI 200) 10 rfl d99_9 (by omega) (by decide) (G.1 _ _ (rfl : ai_sp 5 = (107, 200)) (by decide) (by decide)) rfl ?_
    refine ev_icmp 36 13 (by decide) rfl (cn_ge (by omega) (by omega)) d99_10 (fun hc_10 => absurd hc_10 (by omega)) (fun hc_10 => ?_)
    refine ev_aload_n 14 rfl d99_13 rfl ?_
    refine ev_aload_n 15 rfl d99_14 rfl ?_
    refine ev_getr 18 rfl 8 3 d99_15 rfl (by omega) (G.1 _ _ (rfl : ai_sp 1 = (8, 0)) (by decide) (by decide)) (G.2 _ _ _ (rfl : ai_rf 1 3 = some 5)) ?_
    refine ev_iload_n 19 rfl d99_18 rfl ?_
    refine ev_aald_n 20 rfl d99_19 (by omega) (by decide) (G.1 _ _ (rfl : ai_sp 5 = (107, 200)) (by decide) (by decide)) (by omega) (by decide) (G.2 _ _ _ (rf_case (by omega))) ?_
    refine ev_iload_n 21 rfl d99_20 rfl ?_
    refine ev_cb2 24 rfl 97 d99_21 rfl rfl (by rw [G.1 _ _ (rfl : ai_sp 1 = (8, 0)) (by decide) (by decide)]; rfl) (by omega) rfl (x_counting G hX hV (by omega) (by omega)) (fun hq_21 => ?_) (fun hq_21 => ?_)
    · refine ev_if_F 30 27 (by decide) rfl (by decide) d99_24 ?_
      refine ev_iinc (v := nI ((ai_qn (fun c => σ.ctd j c) k) + 1)) 30 rfl d99_27 rfl (Nat.le_of_ble_eq_true rfl) (nI_add _ 1) rfl ?_
      show ai_Ev _ _ _ [some (.ref 1), some (.int (nI j)), some (.int (nI ((ai_qn (fun c => σ.ctd j c) k) + 1))), some (.int (nI k))] _ _ _
      refine ev_iinc (v := nI (k + 1)) 33 rfl d99_30 rfl (Nat.le_of_ble_eq_true rfl) (nI_add _ 1) rfl ?_
      show ai_Ev _ _ _ [some (.ref 1), some (.int (nI j)), some (.int (nI ((ai_qn (fun c => σ.ctd j c) k) + 1))), some (.int (nI (k + 1)))] _ _ _
      refine ev_goto 4 (by decide) d99_33 ?_
      have e8 : ai_qn (fun c => σ.ctd j c) (k + 1) = (ai_qn (fun c => σ.ctd j c) k) + 1 := qn_T hq_21
      have h9 := ih (k + 1) (by omega)
      rw [e8] at h9
      exact h9
    · refine ev_if_T 30 (by decide) (by decide) d99_24 ?_
      refine ev_iinc (v := nI (k + 1)) 33 rfl d99_30 rfl (Nat.le_of_ble_eq_true rfl) (nI_add _ 1) rfl ?_
      show ai_Ev _ _ _ [some (.ref 1), some (.int (nI j)), some (.int (nI (ai_qn (fun c => σ.ctd j c) k))), some (.int (nI (k + 1)))] _ _ _
      refine ev_goto 4 (by decide) d99_33 ?_
      have e8 : ai_qn (fun c => σ.ctd j c) (k + 1) = ai_qn (fun c => σ.ctd j c) k := qn_F hq_21
      have h9 := ih (k + 1) (by omega)
      rw [e8] at h9
      exact h9
theorem x_countOf (G : ai_G S F) (hX : ai_RX σ I L) (hV : ai_IV σ) {j : Nat} (hj : j < 24) : ai_Ev none 99 0 [some (.ref 1), some (.int (nI j)), none, none] [] (S, I, L, F) (ai_Pp S F I L (.int (nI (σ.cnts j)))) := by
  refine ev_iconst (v := nI 0) 1 rfl d99_0 (by decide) ?_
  refine ev_store_in 2 rfl d99_1 (Nat.le_of_ble_eq_true rfl) rfl ?_
  show ai_Ev _ _ _ [some (.ref 1), some (.int (nI j)), some (.int (nI 0)), none] _ _ _
  refine ev_iconst (v := nI 0) 3 rfl d99_2 (by decide) ?_
  refine ev_store_in 4 rfl d99_3 (Nat.le_of_ble_eq_true rfl) rfl ?_
  show ai_Ev _ _ _ [some (.ref 1), some (.int (nI j)), some (.int (nI 0)), some (.int (nI 0))] _ _ _
  exact x_countOf_loop G hX hV hj 200 0 (by omega)
end PPR
