section XSTAT
variable {S : List (Nat × Nat)} {F : Nat → Nat → Option Nat} {L : Nat → Nat → Int64} {I : Nat → Nat → Int32} {σ : ai_S}
def ai_S.nLeft (σ : ai_S) : Nat := ai_qn σ.lf σ.nJ
def ai_S.nGiven (σ : ai_S) : Nat := ai_qs σ.given σ.nJ
def ai_S.nCnt (σ : ai_S) : Nat := ai_qs σ.cnts σ.nJ
def ai_S.nKnown (σ : ai_S) : Nat := ai_qn (fun c => decide (σ.tr c ≠ 0)) 200
def ai_S.nAg (σ : ai_S) : Nat := ai_qn (fun c => decide (σ.ag c ≠ 0)) 200
def ai_S.oe (σ : ai_S) (c : Nat) : Bool := σ.there c && (σ.isOpen c && σ.ended c)
def ai_S.nOE (σ : ai_S) : Nat := ai_qn σ.oe 200
def ai_S.stat (σ : ai_S) (k : Nat) : Int32 := if k = 0 then nI σ.nT else if k = 1 then nI σ.nQ else if k = 2 then nI σ.nJ else if k = 3 then nI σ.nLeft else if k = 4 then nI σ.nKnown else if k = 5 then nI σ.nAg else if k = 6 then nI σ.nOE else if k = 7 then nI σ.nGiven else if k = 8 then nI σ.nCnt else if k = 9 then nI σ.mk else if k = 10 then nI σ.lk else if k = 18 then nI σ.hs else σ.rf (k - 11)
noncomputable def o_status (σ : ai_S) (z1 : Int32) : ai_S × Int32 := ai_c (ai_is 19 z1) (σ, σ.stat (ai_nn z1)) (σ, -1)
theorem gt_nn {z : Int32} (h : ¬ z ≤ nI 10) : (0 : Int32) ≤ z := Int32.le_of_lt (Int32.lt_of_le_of_lt (by decide : (0 : Int32) ≤ nI 10) (Int32.not_le.mp h))
theorem qn_skip {p : Nat → Bool} {a : Nat} : ∀ {b : Nat}, a ≤ b → (∀ k, a ≤ k → k < b → p k = false) → ai_qn p b = ai_qn p a := by
  intro b
  induction b with
  | zero => intro h _; rw [show a = 0 by omega]
  | succ b ih =>
    intro h hz
    by_cases e : a = b + 1
    · rw [e]
    · rw [qn_F (by rw [hz b (by omega) (by omega)]; decide)]
      exact ih (by omega) (fun k h1 h2 => hz k h1 (by omega))
theorem there_no {c : Nat} (h : ¬ (c / 5 < σ.nT ∧ c % 5 < σ.nQ)) : σ.there c = false := by unfold ai_S.there; exact decide_eq_false h
theorem there_yes {c : Nat} (h : c / 5 < σ.nT ∧ c % 5 < σ.nQ) : σ.there c = true := by unfold ai_S.there; exact decide_eq_true h
theorem oe_no {c : Nat} (h : ¬ (c / 5 < σ.nT ∧ c % 5 < σ.nQ)) : σ.oe c = false := by unfold ai_S.oe; rw [there_no h]; rfl

theorem x_left_loop (G : ai_G S F) (hX : ai_RX σ I L) (hV : ai_IV σ) : ∀ (z k : Nat), k + z = σ.nJ →
    ai_Ev none 107 4 [some (.ref 1), some (.int (nI (ai_qn σ.lf k))), some (.int (nI k))] [] (S, I, L, F) (ai_Pp S F I L (.int (nI σ.nLeft))) := by
  intro z
  induction z with
  | zero =>
    intro k hz
    have e9 : k = σ.nJ := by omega
    subst e9
    have hnT := hV.nT
    have hnQ := hV.nQ
    have hnJ := hV.nJ
    have hql := fun k => qb_lt (σ.lf k)
    refine ev_iload_n 5 rfl d107_4 rfl ?_
    refine ev_aload_n 6 rfl d107_5 rfl ?_
    refine ev_geti (v := nI σ.nJ) 9 rfl 8 6 d107_6 rfl (by omega) (G.1 _ _ (rfl : ai_sp 1 = (8, 0)) (by decide) (by decide)) hX.nJ ?_
    refine ev_icmp 33 12 (by decide) rfl (cn_ge (by omega) (by omega)) d107_9 (fun hc_9 => ?_) (fun hc_9 => absurd hc_9 (by omega))
    refine ev_iload_n 34 rfl d107_33 rfl ?_
    refine ev_iret (Or.inl rfl) d107_34 ?_
    exact ⟨rfl, rfl⟩
  | succ z ih =>
    intro k hz
    have hnT := hV.nT
    have hnQ := hV.nQ
    have hnJ := hV.nJ
    have hql := fun k => qb_lt (σ.lf k)
    refine ev_iload_n 5 rfl d107_4 rfl ?_
    refine ev_aload_n 6 rfl d107_5 rfl ?_
    refine ev_geti (v := nI σ.nJ) 9 rfl 8 6 d107_6 rfl (by omega) (G.1 _ _ (rfl : ai_sp 1 = (8, 0)) (by decide) (by decide)) hX.nJ ?_
    refine ev_icmp 33 12 (by decide) rfl (cn_ge (by omega) (by omega)) d107_9 (fun hc_9 => absurd hc_9 (by omega)) (fun hc_9 => ?_)
    refine ev_aload_n 13 rfl d107_12 rfl ?_
    refine ev_getr 16 rfl 8 2 d107_13 rfl (by omega) (G.1 _ _ (rfl : ai_sp 1 = (8, 0)) (by decide) (by decide)) (G.2 _ _ _ (rfl : ai_rf 1 2 = some 4)) ?_
    refine ev_iload_n 17 rfl d107_16 rfl ?_
    refine ev_aald_n 18 rfl d107_17 (by omega) (by decide) (G.1 _ _ (rfl : ai_sp 4 = (106, 24)) (by decide) (by decide)) (by omega) (by decide) (G.2 _ _ _ (rf_judge (by omega))) ?_
    refine ev_geti (v := nI (ai_qb (σ.lf k))) 21 rfl 2 0 d107_18 rfl (by omega) (G.1 _ _ (sp_judge (by omega)) (by omega) (by omega)) (hX.lf _ (by omega)) ?_
    have hql := qb_lt (σ.lf k)
    refine ev_if 27 24 (by decide) rfl (c0_eq (by omega)) d107_21 (fun hc_21 => ?_) (fun hc_21 => ?_)
    · have hq9 : ¬ σ.lf k = true := qb_0 hc_21
      refine ev_iinc (v := nI (k + 1)) 30 rfl d107_27 rfl (Nat.le_of_ble_eq_true rfl) (nI_add _ 1) rfl ?_
      show ai_Ev _ _ _ [some (.ref 1), some (.int (nI (ai_qn σ.lf k))), some (.int (nI (k + 1)))] _ _ _
      refine ev_goto 4 (by decide) d107_30 ?_
      have e8 : ai_qn σ.lf (k + 1) = ai_qn σ.lf k := qn_F hq9
      have h9 := ih (k + 1) (by omega)
      rw [e8] at h9
      exact h9
    · have hq9 : σ.lf k = true := qb_1 hc_21
      refine ev_iinc (v := nI ((ai_qn σ.lf k) + 1)) 27 rfl d107_24 rfl (Nat.le_of_ble_eq_true rfl) (nI_add _ 1) rfl ?_
      show ai_Ev _ _ _ [some (.ref 1), some (.int (nI ((ai_qn σ.lf k) + 1))), some (.int (nI k))] _ _ _
      refine ev_iinc (v := nI (k + 1)) 30 rfl d107_27 rfl (Nat.le_of_ble_eq_true rfl) (nI_add _ 1) rfl ?_
      show ai_Ev _ _ _ [some (.ref 1), some (.int (nI ((ai_qn σ.lf k) + 1))), some (.int (nI (k + 1)))] _ _ _
      refine ev_goto 4 (by decide) d107_30 ?_
      have e8 : ai_qn σ.lf (k + 1) = (ai_qn σ.lf k) + 1 := qn_T hq9
      have h9 := ih (k + 1) (by omega)
      rw [e8] at h9
      exact h9
theorem x_left (G : ai_G S F) (hX : ai_RX σ I L) (hV : ai_IV σ) : ai_Ev none 107 0 [some (.ref 1), none, none] [] (S, I, L, F) (ai_Pp S F I L (.int (nI σ.nLeft))) := by
  refine ev_iconst (v := nI 0) 1 rfl d107_0 (by decide) ?_
  refine ev_store_in 2 rfl d107_1 (Nat.le_of_ble_eq_true rfl) rfl ?_
  show ai_Ev _ _ _ [some (.ref 1), some (.int (nI 0)), none] _ _ _
  refine ev_iconst (v := nI 0) 3 rfl d107_2 (by decide) ?_
  refine ev_store_in 4 rfl d107_3 (Nat.le_of_ble_eq_true rfl) rfl ?_
  show ai_Ev _ _ _ [some (.ref 1), some (.int (nI 0)), some (.int (nI 0))] _ _ _
  exact x_left_loop G hX hV σ.nJ 0 (by omega)
theorem x_given_loop (G : ai_G S F) (hX : ai_RX σ I L) (hV : ai_IV σ) : ∀ (z k : Nat), k + z = σ.nJ →
    ai_Ev none 108 4 [some (.ref 1), some (.int (nI (ai_qs σ.given k))), some (.int (nI k))] [] (S, I, L, F) (ai_Pp S F I L (.int (nI σ.nGiven))) := by
  intro z
  induction z with
  | zero =>
    intro k hz
    have e9 : k = σ.nJ := by omega
    subst e9
    have hnT := hV.nT
    have hnQ := hV.nQ
    have hnJ := hV.nJ
    refine ev_iload_n 5 rfl d108_4 rfl ?_
    refine ev_aload_n 6 rfl d108_5 rfl ?_
    refine ev_geti (v := nI σ.nJ) 9 rfl 8 6 d108_6 rfl (by omega) (G.1 _ _ (rfl : ai_sp 1 = (8, 0)) (by decide) (by decide)) hX.nJ ?_
    refine ev_icmp 30 12 (by decide) rfl (cn_ge (by omega) (by omega)) d108_9 (fun hc_9 => ?_) (fun hc_9 => absurd hc_9 (by omega))
    refine ev_iload_n 31 rfl d108_30 rfl ?_
    refine ev_iret (Or.inl rfl) d108_31 ?_
    exact ⟨rfl, rfl⟩
  | succ z ih =>
    intro k hz
    have hnT := hV.nT
    have hnQ := hV.nQ
    have hnJ := hV.nJ
    refine ev_iload_n 5 rfl d108_4 rfl ?_
    refine ev_aload_n 6 rfl d108_5 rfl ?_
    refine ev_geti (v := nI σ.nJ) 9 rfl 8 6 d108_6 rfl (by omega) (G.1 _ _ (rfl : ai_sp 1 = (8, 0)) (by decide) (by decide)) hX.nJ ?_
    refine ev_icmp 30 12 (by decide) rfl (cn_ge (by omega) (by omega)) d108_9 (fun hc_9 => absurd hc_9 (by omega)) (fun hc_9 => ?_)
    refine ev_iload_n 13 rfl d108_12 rfl ?_
    refine ev_aload_n 14 rfl d108_13 rfl ?_
    refine ev_getr 17 rfl 8 2 d108_14 rfl (by omega) (G.1 _ _ (rfl : ai_sp 1 = (8, 0)) (by decide) (by decide)) (G.2 _ _ _ (rfl : ai_rf 1 2 = some 4)) ?_
    refine ev_iload_n 18 rfl d108_17 rfl ?_
    refine ev_aald_n 19 rfl d108_18 (by omega) (by decide) (G.1 _ _ (rfl : ai_sp 4 = (106, 24)) (by decide) (by decide)) (by omega) (by decide) (G.2 _ _ _ (rf_judge (by omega))) ?_
    refine ev_geti (v := nI (σ.given k)) 22 rfl 2 1 d108_19 rfl (by omega) (G.1 _ _ (sp_judge (by omega)) (by omega) (by omega)) (hX.gn _ (by omega)) ?_
    refine ev_iadd (v := nI ((ai_qs σ.given k) + (σ.given k))) 23 rfl d108_22 (nI_add _ _) ?_
    refine ev_store_in 24 rfl d108_23 (Nat.le_of_ble_eq_true rfl) rfl ?_
    show ai_Ev _ _ _ [some (.ref 1), some (.int (nI ((ai_qs σ.given k) + (σ.given k)))), some (.int (nI k))] _ _ _
    refine ev_iinc (v := nI (k + 1)) 27 rfl d108_24 rfl (Nat.le_of_ble_eq_true rfl) (nI_add _ 1) rfl ?_
    show ai_Ev _ _ _ [some (.ref 1), some (.int (nI ((ai_qs σ.given k) + (σ.given k)))), some (.int (nI (k + 1)))] _ _ _
    refine ev_goto 4 (by decide) d108_27 ?_
    exact ih (k + 1) (by omega)
theorem x_given (G : ai_G S F) (hX : ai_RX σ I L) (hV : ai_IV σ) : ai_Ev none 108 0 [some (.ref 1), none, none] [] (S, I, L, F) (ai_Pp S F I L (.int (nI σ.nGiven))) := by
  refine ev_iconst (v := nI 0) 1 rfl d108_0 (by decide) ?_
  refine ev_store_in 2 rfl d108_1 (Nat.le_of_ble_eq_true rfl) rfl ?_
  show ai_Ev _ _ _ [some (.ref 1), some (.int (nI 0)), none] _ _ _
  refine ev_iconst (v := nI 0) 3 rfl d108_2 (by decide) ?_
  refine ev_store_in 4 rfl d108_3 (Nat.le_of_ble_eq_true rfl) rfl ?_
  show ai_Ev _ _ _ [some (.ref 1), some (.int (nI 0)), some (.int (nI 0))] _ _ _
  exact x_given_loop G hX hV σ.nJ 0 (by omega)
theorem x_cntg_loop (G : ai_G S F) (hX : ai_RX σ I L) (hV : ai_IV σ) : ∀ (z k : Nat), k + z = σ.nJ →
    ai_Ev none 109 4 [some (.ref 1), some (.int (nI (ai_qs σ.cnts k))), some (.int (nI k))] [] (S, I, L, F) (ai_Pp S F I L (.int (nI σ.nCnt))) := by
  intro z
  induction z with
  | zero =>
    intro k hz
    have e9 : k = σ.nJ := by omega
    subst e9
    have hnT := hV.nT
    have hnQ := hV.nQ
    have hnJ := hV.nJ
    refine ev_iload_n 5 rfl d109_4 rfl ?_
    refine ev_aload_n 6 rfl d109_5 rfl ?_
    refine ev_geti (v := nI σ.nJ) 9 rfl 8 6 d109_6 rfl (by omega) (G.1 _ _ (rfl : ai_sp 1 = (8, 0)) (by decide) (by decide)) hX.nJ ?_
    refine ev_icmp 26 12 (by decide) rfl (cn_ge (by omega) (by omega)) d109_9 (fun hc_9 => ?_) (fun hc_9 => absurd hc_9 (by omega))
    refine ev_iload_n 27 rfl d109_26 rfl ?_
    refine ev_iret (Or.inl rfl) d109_27 ?_
    exact ⟨rfl, rfl⟩
  | succ z ih =>
    intro k hz
    have hnT := hV.nT
    have hnQ := hV.nQ
    have hnJ := hV.nJ
    refine ev_iload_n 5 rfl d109_4 rfl ?_
    refine ev_aload_n 6 rfl d109_5 rfl ?_
    refine ev_geti (v := nI σ.nJ) 9 rfl 8 6 d109_6 rfl (by omega) (G.1 _ _ (rfl : ai_sp 1 = (8, 0)) (by decide) (by decide)) hX.nJ ?_
    refine ev_icmp 26 12 (by decide) rfl (cn_ge (by omega) (by omega)) d109_9 (fun hc_9 => absurd hc_9 (by omega)) (fun hc_9 => ?_)
    refine ev_iload_n 13 rfl d109_12 rfl ?_
    refine ev_aload_n 14 rfl d109_13 rfl ?_
    refine ev_iload_n 15 rfl d109_14 rfl ?_
    refine ev_cp1 18 rfl 99 d109_15 rfl rfl (by rw [G.1 _ _ (rfl : ai_sp 1 = (8, 0)) (by decide) (by decide)]; rfl) (by omega) rfl (x_countOf G hX hV (by omega)) ?_
    refine ev_iadd (v := nI ((ai_qs σ.cnts k) + (σ.cnts k))) 19 rfl d109_18 (nI_add _ _) ?_
    refine ev_store_in 20 rfl d109_19 (Nat.le_of_ble_eq_true rfl) rfl ?_
    show ai_Ev _ _ _ [some (.ref 1), some (.int (nI ((ai_qs σ.cnts k) + (σ.cnts k)))), some (.int (nI k))] _ _ _
    refine ev_iinc (v := nI (k + 1)) 23 rfl d109_20 rfl (Nat.le_of_ble_eq_true rfl) (nI_add _ 1) rfl ?_
    show ai_Ev _ _ _ [some (.ref 1), some (.int (nI ((ai_qs σ.cnts k) + (σ.cnts k)))), some (.int (nI (k + 1)))] _ _ _
    refine ev_goto 4 (by decide) d109_23 ?_
    exact ih (k + 1) (by omega)
theorem x_cntg (G : ai_G S F) (hX : ai_RX σ I L) (hV : ai_IV σ) : ai_Ev none 109 0 [some (.ref 1), none, none] [] (S, I, L, F) (ai_Pp S F I L (.int (nI σ.nCnt))) := by
  refine ev_iconst (v := nI 0) 1 rfl d109_0 (by decide) ?_
  refine ev_store_in 2 rfl d109_1 (Nat.le_of_ble_eq_true rfl) rfl ?_
  show ai_Ev _ _ _ [some (.ref 1), some (.int (nI 0)), none] _ _ _
  refine ev_iconst (v := nI 0) 3 rfl d109_2 (by decide) ?_
  refine ev_store_in 4 rfl d109_3 (Nat.le_of_ble_eq_true rfl) rfl ?_
  show ai_Ev _ _ _ [some (.ref 1), some (.int (nI 0)), some (.int (nI 0))] _ _ _
  exact x_cntg_loop G hX hV σ.nJ 0 (by omega)
theorem x_knownc_loop (G : ai_G S F) (hX : ai_RX σ I L) (hV : ai_IV σ) : ∀ (z k : Nat), k + z = 200 →
    ai_Ev none 110 4 [some (.ref 1), some (.int (nI (ai_qn (fun c => decide (σ.tr c ≠ 0)) k))), some (.int (nI k))] [] (S, I, L, F) (ai_Pp S F I L (.int (nI σ.nKnown))) := by
  intro z
  induction z with
  | zero =>
    intro k hz
    have e9 : k = 200 := by omega
    subst e9
    have hnT := hV.nT
    have hnQ := hV.nQ
    have hnJ := hV.nJ
    refine ev_iload_n 5 rfl d110_4 rfl ?_
    refine ev_aload_n 6 rfl d110_5 rfl ?_
    refine ev_getr 9 rfl 8 3 d110_6 rfl (by omega) (G.1 _ _ (rfl : ai_sp 1 = (8, 0)) (by decide) (by decide)) (G.2 _ _ _ (rfl : ai_rf 1 3 = some 5)) ?_
    refine ev_alen (v := nI 200) 10 rfl d110_9 (by omega) (by decide) (G.1 _ _ (rfl : ai_sp 5 = (107, 200)) (by decide) (by decide)) rfl ?_
    refine ev_icmp_T 34 (by decide) (by decide) d110_10 ?_
    refine ev_iload_n 35 rfl d110_34 rfl ?_
    refine ev_iret (Or.inl rfl) d110_35 ?_
    exact ⟨rfl, rfl⟩
  | succ z ih =>
    intro k hz
    have hnT := hV.nT
    have hnQ := hV.nQ
    have hnJ := hV.nJ
    refine ev_iload_n 5 rfl d110_4 rfl ?_
    refine ev_aload_n 6 rfl d110_5 rfl ?_
    refine ev_getr 9 rfl 8 3 d110_6 rfl (by omega) (G.1 _ _ (rfl : ai_sp 1 = (8, 0)) (by decide) (by decide)) (G.2 _ _ _ (rfl : ai_rf 1 3 = some 5)) ?_
    refine ev_alen (v := nI 200) 10 rfl d110_9 (by omega) (by decide) (G.1 _ _ (rfl : ai_sp 5 = (107, 200)) (by decide) (by decide)) rfl ?_
    refine ev_icmp 34 13 (by decide) rfl (cn_ge (by omega) (by omega)) d110_10 (fun hc_10 => absurd hc_10 (by omega)) (fun hc_10 => ?_)
    refine ev_aload_n 14 rfl d110_13 rfl ?_
    refine ev_getr 17 rfl 8 3 d110_14 rfl (by omega) (G.1 _ _ (rfl : ai_sp 1 = (8, 0)) (by decide) (by decide)) (G.2 _ _ _ (rfl : ai_rf 1 3 = some 5)) ?_
    refine ev_iload_n 18 rfl d110_17 rfl ?_
    refine ev_aald_n 19 rfl d110_18 (by omega) (by decide) (G.1 _ _ (rfl : ai_sp 5 = (107, 200)) (by decide) (by decide)) (by omega) (by decide) (G.2 _ _ _ (rf_case (by omega))) ?_
    refine ev_cb0 22 rfl 13 d110_19 rfl rfl (by rw [G.1 _ _ (sp_case (by omega)) (by omega) (by omega)]; rfl) (by omega) rfl (x_known G hX hV (by omega)) (fun hq_19 => ?_) (fun hq_19 => ?_)
    · have hq9 : decide (σ.tr k ≠ 0) = true := decide_eq_true hq_19
      refine ev_if_F 28 25 (by decide) rfl (by decide) d110_22 ?_
      refine ev_iinc (v := nI ((ai_qn (fun c => decide (σ.tr c ≠ 0)) k) + 1)) 28 rfl d110_25 rfl (Nat.le_of_ble_eq_true rfl) (nI_add _ 1) rfl ?_
      show ai_Ev _ _ _ [some (.ref 1), some (.int (nI ((ai_qn (fun c => decide (σ.tr c ≠ 0)) k) + 1))), some (.int (nI k))] _ _ _
      refine ev_iinc (v := nI (k + 1)) 31 rfl d110_28 rfl (Nat.le_of_ble_eq_true rfl) (nI_add _ 1) rfl ?_
      show ai_Ev _ _ _ [some (.ref 1), some (.int (nI ((ai_qn (fun c => decide (σ.tr c ≠ 0)) k) + 1))), some (.int (nI (k + 1)))] _ _ _
      refine ev_goto 4 (by decide) d110_31 ?_
      have e8 : ai_qn (fun c => decide (σ.tr c ≠ 0)) (k + 1) = (ai_qn (fun c => decide (σ.tr c ≠ 0)) k) + 1 := qn_T (p := fun c => decide (σ.tr c ≠ 0)) hq9
      have h9 := ih (k + 1) (by omega)
      rw [e8] at h9
      exact h9
    · have hq9 : ¬ decide (σ.tr k ≠ 0) = true := fun h9 => hq_19 (of_decide_eq_true h9)
      refine ev_if_T 28 (by decide) (by decide) d110_22 ?_
      refine ev_iinc (v := nI (k + 1)) 31 rfl d110_28 rfl (Nat.le_of_ble_eq_true rfl) (nI_add _ 1) rfl ?_
      show ai_Ev _ _ _ [some (.ref 1), some (.int (nI (ai_qn (fun c => decide (σ.tr c ≠ 0)) k))), some (.int (nI (k + 1)))] _ _ _
      refine ev_goto 4 (by decide) d110_31 ?_
      have e8 : ai_qn (fun c => decide (σ.tr c ≠ 0)) (k + 1) = ai_qn (fun c => decide (σ.tr c ≠ 0)) k := qn_F (p := fun c => decide (σ.tr c ≠ 0)) hq9
      have h9 := ih (k + 1) (by omega)
      rw [e8] at h9
      exact h9
theorem x_knownc (G : ai_G S F) (hX : ai_RX σ I L) (hV : ai_IV σ) : ai_Ev none 110 0 [some (.ref 1), none, none] [] (S, I, L, F) (ai_Pp S F I L (.int (nI σ.nKnown))) := by
  refine ev_iconst (v := nI 0) 1 rfl d110_0 (by decide) ?_
  refine ev_store_in 2 rfl d110_1 (Nat.le_of_ble_eq_true rfl) rfl ?_
  show ai_Ev _ _ _ [some (.ref 1), some (.int (nI 0)), none] _ _ _
  refine ev_iconst (v := nI 0) 3 rfl d110_2 (by decide) ?_
  refine ev_store_in 4 rfl d110_3 (Nat.le_of_ble_eq_true rfl) rfl ?_
  show ai_Ev _ _ _ [some (.ref 1), some (.int (nI 0)), some (.int (nI 0))] _ _ _
  exact x_knownc_loop G hX hV 200 0 (by omega)
theorem x_agc_loop (G : ai_G S F) (hX : ai_RX σ I L) (hV : ai_IV σ) : ∀ (z k : Nat), k + z = 200 →
    ai_Ev none 111 4 [some (.ref 1), some (.int (nI (ai_qn (fun c => decide (σ.ag c ≠ 0)) k))), some (.int (nI k))] [] (S, I, L, F) (ai_Pp S F I L (.int (nI σ.nAg))) := by
  intro z
  induction z with
  | zero =>
    intro k hz
    have e9 : k = 200 := by omega
    subst e9
    have hnT := hV.nT
    have hnQ := hV.nQ
    have hnJ := hV.nJ
    refine ev_iload_n 5 rfl d111_4 rfl ?_
    refine ev_aload_n 6 rfl d111_5 rfl ?_
    refine ev_getr 9 rfl 8 3 d111_6 rfl (by omega) (G.1 _ _ (rfl : ai_sp 1 = (8, 0)) (by decide) (by decide)) (G.2 _ _ _ (rfl : ai_rf 1 3 = some 5)) ?_
    refine ev_alen (v := nI 200) 10 rfl d111_9 (by omega) (by decide) (G.1 _ _ (rfl : ai_sp 5 = (107, 200)) (by decide) (by decide)) rfl ?_
    refine ev_icmp_T 35 (by decide) (by decide) d111_10 ?_
    refine ev_iload_n 36 rfl d111_35 rfl ?_
    refine ev_iret (Or.inl rfl) d111_36 ?_
    exact ⟨rfl, rfl⟩
  | succ z ih =>
    intro k hz
    have hnT := hV.nT
    have hnQ := hV.nQ
    have hnJ := hV.nJ
    refine ev_iload_n 5 rfl d111_4 rfl ?_
    refine ev_aload_n 6 rfl d111_5 rfl ?_
    refine ev_getr 9 rfl 8 3 d111_6 rfl (by omega) (G.1 _ _ (rfl : ai_sp 1 = (8, 0)) (by decide) (by decide)) (G.2 _ _ _ (rfl : ai_rf 1 3 = some 5)) ?_
    refine ev_alen (v := nI 200) 10 rfl d111_9 (by omega) (by decide) (G.1 _ _ (rfl : ai_sp 5 = (107, 200)) (by decide) (by decide)) rfl ?_
    refine ev_icmp 35 13 (by decide) rfl (cn_ge (by omega) (by omega)) d111_10 (fun hc_10 => absurd hc_10 (by omega)) (fun hc_10 => ?_)
    refine ev_aload_n 14 rfl d111_13 rfl ?_
    refine ev_getr 17 rfl 8 3 d111_14 rfl (by omega) (G.1 _ _ (rfl : ai_sp 1 = (8, 0)) (by decide) (by decide)) (G.2 _ _ _ (rfl : ai_rf 1 3 = some 5)) ?_
    refine ev_iload_n 18 rfl d111_17 rfl ?_
    refine ev_aald_n 19 rfl d111_18 (by omega) (by decide) (G.1 _ _ (rfl : ai_sp 5 = (107, 200)) (by decide) (by decide)) (by omega) (by decide) (G.2 _ _ _ (rf_case (by omega))) ?_
    refine ev_geti (v := nI (σ.ag k) - 1) 22 rfl 1 1 d111_19 rfl (by omega) (G.1 _ _ (sp_case (by omega)) (by omega) (by omega)) (hX.ag _ (by omega)) ?_
    refine ev_iconst (v := (-1)) 23 rfl d111_22 (by decide) ?_
    have hag := ag_le hV (c := k) (by omega)
    refine ev_icmp 29 26 (by decide) rfl (cq_eq (by omega)) d111_23 (fun hc_23 => ?_) (fun hc_23 => ?_)
    · have hq9 : ¬ decide (σ.ag k ≠ 0) = true := fun h => of_decide_eq_true h hc_23
      refine ev_iinc (v := nI (k + 1)) 32 rfl d111_29 rfl (Nat.le_of_ble_eq_true rfl) (nI_add _ 1) rfl ?_
      show ai_Ev _ _ _ [some (.ref 1), some (.int (nI (ai_qn (fun c => decide (σ.ag c ≠ 0)) k))), some (.int (nI (k + 1)))] _ _ _
      refine ev_goto 4 (by decide) d111_32 ?_
      have e8 : ai_qn (fun c => decide (σ.ag c ≠ 0)) (k + 1) = ai_qn (fun c => decide (σ.ag c ≠ 0)) k := qn_F (p := fun c => decide (σ.ag c ≠ 0)) hq9
      have h9 := ih (k + 1) (by omega)
      rw [e8] at h9
      exact h9
    · have hq9 : decide (σ.ag k ≠ 0) = true := decide_eq_true hc_23
      refine ev_iinc (v := nI ((ai_qn (fun c => decide (σ.ag c ≠ 0)) k) + 1)) 29 rfl d111_26 rfl (Nat.le_of_ble_eq_true rfl) (nI_add _ 1) rfl ?_
      show ai_Ev _ _ _ [some (.ref 1), some (.int (nI ((ai_qn (fun c => decide (σ.ag c ≠ 0)) k) + 1))), some (.int (nI k))] _ _ _
      refine ev_iinc (v := nI (k + 1)) 32 rfl d111_29 rfl (Nat.le_of_ble_eq_true rfl) (nI_add _ 1) rfl ?_
      show ai_Ev _ _ _ [some (.ref 1), some (.int (nI ((ai_qn (fun c => decide (σ.ag c ≠ 0)) k) + 1))), some (.int (nI (k + 1)))] _ _ _
      refine ev_goto 4 (by decide) d111_32 ?_
      have e8 : ai_qn (fun c => decide (σ.ag c ≠ 0)) (k + 1) = (ai_qn (fun c => decide (σ.ag c ≠ 0)) k) + 1 := qn_T (p := fun c => decide (σ.ag c ≠ 0)) hq9
      have h9 := ih (k + 1) (by omega)
      rw [e8] at h9
      exact h9
theorem x_agc (G : ai_G S F) (hX : ai_RX σ I L) (hV : ai_IV σ) : ai_Ev none 111 0 [some (.ref 1), none, none] [] (S, I, L, F) (ai_Pp S F I L (.int (nI σ.nAg))) := by
  refine ev_iconst (v := nI 0) 1 rfl d111_0 (by decide) ?_
  refine ev_store_in 2 rfl d111_1 (Nat.le_of_ble_eq_true rfl) rfl ?_
  show ai_Ev _ _ _ [some (.ref 1), some (.int (nI 0)), none] _ _ _
  refine ev_iconst (v := nI 0) 3 rfl d111_2 (by decide) ?_
  refine ev_store_in 4 rfl d111_3 (Nat.le_of_ble_eq_true rfl) rfl ?_
  show ai_Ev _ _ _ [some (.ref 1), some (.int (nI 0)), some (.int (nI 0))] _ _ _
  exact x_agc_loop G hX hV 200 0 (by omega)
theorem x_oe_in (G : ai_G S F) (hX : ai_RX σ I L) (hV : ai_IV σ) {t : Nat} (ht : t < σ.nT) (hS : ai_SV σ I t σ.nQ) {Q : Option Value → ai_H → Prop} (hk : ai_Ev none 112 60 [some (.ref 1), some (.int (nI (ai_qn σ.oe (5 * t + σ.nQ)))), some (.int (nI t)), some (.int (nI σ.nQ))] [] (S, I, L, F) Q) : ∀ (z q : Nat), q + z = σ.nQ → ai_Ev none 112 19 [some (.ref 1), some (.int (nI (ai_qn σ.oe (5 * t + q)))), some (.int (nI t)), some (.int (nI q))] [] (S, I, L, F) Q := by
  have hnT := hV.nT
  have hnQ := hV.nQ
  have hnJ := hV.nJ
  intro z
  induction z with
  | zero =>
    intro q hz
    have e9 : q = σ.nQ := by omega
    subst e9
    refine ev_iload_n 20 rfl d112_19 rfl ?_
    refine ev_aload_n 21 rfl d112_20 rfl ?_
    refine ev_geti (v := nI σ.nQ) 24 rfl 8 5 d112_21 rfl (by omega) (G.1 _ _ (rfl : ai_sp 1 = (8, 0)) (by decide) (by decide)) hX.nQ ?_
    refine ev_icmp 60 27 (by decide) rfl (cn_ge (by omega) (by omega)) d112_24 (fun hc_24 => ?_) (fun hc_24 => absurd hc_24 (by omega))
    exact hk
  | succ z ih =>
    intro q hz
    refine ev_iload_n 20 rfl d112_19 rfl ?_
    refine ev_aload_n 21 rfl d112_20 rfl ?_
    refine ev_geti (v := nI σ.nQ) 24 rfl 8 5 d112_21 rfl (by omega) (G.1 _ _ (rfl : ai_sp 1 = (8, 0)) (by decide) (by decide)) hX.nQ ?_
    have hb1 := qb_lt (σ.isOpen (5 * t + q))
    have hb2 := qb_lt (σ.isOpen (5 * t + q) && σ.ended (5 * t + q))
    refine ev_icmp 60 27 (by decide) rfl (cn_ge (by omega) (by omega)) d112_24 (fun hc_24 => absurd hc_24 (by omega)) (fun hc_24 => ?_)
    refine ev_aload_n 28 rfl d112_27 rfl ?_
    refine ev_getr 31 rfl 8 14 d112_28 rfl (by omega) (G.1 _ _ (rfl : ai_sp 1 = (8, 0)) (by decide) (by decide)) (G.2 _ _ _ (rfl : ai_rf 1 14 = some 24)) ?_
    refine ev_getr 34 rfl 7 0 d112_31 rfl (by omega) (G.1 _ _ (rfl : ai_sp 24 = (7, 0)) (by decide) (by decide)) (G.2 _ _ _ (rfl : ai_rf 24 0 = some 25)) ?_
    refine ev_iload_n 35 rfl d112_34 rfl ?_
    refine ev_bald_n (v := nI (ai_qb (σ.isOpen (5 * t + q)))) 36 rfl d112_35 (by omega) (by decide) (G.1 _ _ (rfl : ai_sp 25 = (102, 5)) (by decide) (by decide)) (by omega) (by decide) (hS.1 q (by omega)) ?_
    refine ev_if 54 39 (by decide) rfl (c0_eq (by omega)) d112_36 (fun hc_36 => ?_) (fun hc_36 => ?_)
    · have hno : σ.oe (5 * t + q) = false := by
        have h9 := nb_F (qb_0 hc_36)
        unfold ai_S.oe; rw [h9]; simp
      refine ev_iinc (v := nI (q + 1)) 57 rfl d112_54 rfl (Nat.le_of_ble_eq_true rfl) (nI_add _ 1) rfl ?_
      show ai_Ev _ _ _ [some (.ref 1), some (.int (nI (ai_qn σ.oe (5 * t + q)))), some (.int (nI t)), some (.int (nI (q + 1)))] _ _ _
      refine ev_goto 19 (by decide) d112_57 ?_
      have e8 : ai_qn σ.oe (5 * t + (q + 1)) = ai_qn σ.oe (5 * t + q) := qn_F (p := σ.oe) (k := 5 * t + q) (by rw [hno]; decide)
      have h9 := ih (q + 1) (by omega)
      rw [e8] at h9
      exact h9
    · refine ev_aload_n 40 rfl d112_39 rfl ?_
      refine ev_getr 43 rfl 8 14 d112_40 rfl (by omega) (G.1 _ _ (rfl : ai_sp 1 = (8, 0)) (by decide) (by decide)) (G.2 _ _ _ (rfl : ai_rf 1 14 = some 24)) ?_
      refine ev_getr 46 rfl 7 1 d112_43 rfl (by omega) (G.1 _ _ (rfl : ai_sp 24 = (7, 0)) (by decide) (by decide)) (G.2 _ _ _ (rfl : ai_rf 24 1 = some 26)) ?_
      refine ev_iload_n 47 rfl d112_46 rfl ?_
      refine ev_bald_n (v := nI (ai_qb (σ.isOpen (5 * t + q) && σ.ended (5 * t + q)))) 48 rfl d112_47 (by omega) (by decide) (G.1 _ _ (rfl : ai_sp 26 = (102, 5)) (by decide) (by decide)) (by omega) (by decide) (hS.2.1 q (by omega) (qb_1 hc_36)) ?_
      refine ev_if 54 51 (by decide) rfl (c0_eq (by omega)) d112_48 (fun hc_48 => ?_) (fun hc_48 => ?_)
      · have hno : σ.oe (5 * t + q) = false := by
          have h9 := nb_F (qb_0 hc_48)
          unfold ai_S.oe; rw [h9]; simp
        refine ev_iinc (v := nI (q + 1)) 57 rfl d112_54 rfl (Nat.le_of_ble_eq_true rfl) (nI_add _ 1) rfl ?_
        show ai_Ev _ _ _ [some (.ref 1), some (.int (nI (ai_qn σ.oe (5 * t + q)))), some (.int (nI t)), some (.int (nI (q + 1)))] _ _ _
        refine ev_goto 19 (by decide) d112_57 ?_
        have e8 : ai_qn σ.oe (5 * t + (q + 1)) = ai_qn σ.oe (5 * t + q) := qn_F (p := σ.oe) (k := 5 * t + q) (by rw [hno]; decide)
        have h9 := ih (q + 1) (by omega)
        rw [e8] at h9
        exact h9
      · have hye : σ.oe (5 * t + q) = true := by
          have h9 := qb_1 hc_48
          unfold ai_S.oe; rw [there_yes (by omega), h9]; rfl
        refine ev_iinc (v := nI ((ai_qn σ.oe (5 * t + q)) + 1)) 54 rfl d112_51 rfl (Nat.le_of_ble_eq_true rfl) (nI_add _ 1) rfl ?_
        show ai_Ev _ _ _ [some (.ref 1), some (.int (nI ((ai_qn σ.oe (5 * t + q)) + 1))), some (.int (nI t)), some (.int (nI q))] _ _ _
        refine ev_iinc (v := nI (q + 1)) 57 rfl d112_54 rfl (Nat.le_of_ble_eq_true rfl) (nI_add _ 1) rfl ?_
        show ai_Ev _ _ _ [some (.ref 1), some (.int (nI ((ai_qn σ.oe (5 * t + q)) + 1))), some (.int (nI t)), some (.int (nI (q + 1)))] _ _ _
        refine ev_goto 19 (by decide) d112_57 ?_
        have e8 : ai_qn σ.oe (5 * t + (q + 1)) = (ai_qn σ.oe (5 * t + q)) + 1 := qn_T (p := σ.oe) (k := 5 * t + q) hye
        have h9 := ih (q + 1) (by omega)
        rw [e8] at h9
        exact h9
theorem x_oe_loop (G : ai_G S F) {I0 : Nat → Nat → Int32} (hX0 : ai_RX σ I0 L) (hV : ai_IV σ) : ∀ (z t : Nat) (I : Nat → Nat → Int32) (u3 : Option Value), t + z = σ.nT → (∀ a, (a < 8 ∨ 55 ≤ a) → I a = I0 a) → ai_Ev none 112 4 [some (.ref 1), some (.int (nI (ai_qn σ.oe (5 * t)))), some (.int (nI t)), u3] [] (S, I, L, F) (ai_Py S F L (fun v I2 => v = nI σ.nOE ∧ ∀ a, (a < 8 ∨ 55 ≤ a) → I2 a = I0 a)) := by
  have hnT := hV.nT
  have hnQ := hV.nQ
  have hnJ := hV.nJ
  intro z
  induction z with
  | zero =>
    intro t I u3 hz hf
    have e9 : t = σ.nT := by omega
    subst e9
    have hX : ai_RX σ I L := hX0.frame (fun a h _ => hf a h)
    refine ev_iload_n 5 rfl d112_4 rfl ?_
    refine ev_aload_n 6 rfl d112_5 rfl ?_
    refine ev_geti (v := nI σ.nT) 9 rfl 8 4 d112_6 rfl (by omega) (G.1 _ _ (rfl : ai_sp 1 = (8, 0)) (by decide) (by decide)) hX.nT ?_
    refine ev_icmp 66 12 (by decide) rfl (cn_ge (by omega) (by omega)) d112_9 (fun hc_9 => ?_) (fun hc_9 => absurd hc_9 (by omega))
    refine ev_iload_n 67 rfl d112_66 rfl ?_
    refine ev_iret (Or.inl rfl) d112_67 ?_
    have e8 : σ.nOE = ai_qn σ.oe (5 * σ.nT) := qn_skip (by omega) (fun k h1 h2 => oe_no (by omega))
    exact ⟨_, _, rfl, rfl, by rw [e8], hf⟩
  | succ z ih =>
    intro t I u3 hz hf
    have hX : ai_RX σ I L := hX0.frame (fun a h _ => hf a h)
    refine ev_iload_n 5 rfl d112_4 rfl ?_
    refine ev_aload_n 6 rfl d112_5 rfl ?_
    refine ev_geti (v := nI σ.nT) 9 rfl 8 4 d112_6 rfl (by omega) (G.1 _ _ (rfl : ai_sp 1 = (8, 0)) (by decide) (by decide)) hX.nT ?_
    refine ev_icmp 66 12 (by decide) rfl (cn_ge (by omega) (by omega)) d112_9 (fun hc_9 => absurd hc_9 (by omega)) (fun hc_9 => ?_)
    refine ev_aload_n 13 rfl d112_12 rfl ?_
    refine ev_iload_n 14 rfl d112_13 rfl ?_
    refine ev_cu1 17 rfl 106 d112_14 rfl rfl (by rw [G.1 _ _ (rfl : ai_sp 1 = (8, 0)) (by decide) (by decide)]; rfl) (by omega) rfl (x_survey G hX hV (by omega)) (fun I_1 hr_14 => ?_)
    obtain ⟨hS, hf2⟩ := hr_14
    have hX2 : ai_RX σ I_1 L := hX.frame (fun a h _ => hf2 a (by omega))
    refine ev_iconst (v := nI 0) 18 rfl d112_17 (by decide) ?_
    refine ev_store_in 19 rfl d112_18 (Nat.le_of_ble_eq_true rfl) rfl ?_
    show ai_Ev _ _ _ [some (.ref 1), some (.int (nI (ai_qn σ.oe (5 * t)))), some (.int (nI t)), some (.int (nI 0))] _ _ _
    refine x_oe_in G hX2 hV (by omega) hS ?_ σ.nQ 0 (by omega)
    refine ev_iinc (v := nI (t + 1)) 63 rfl d112_60 rfl (Nat.le_of_ble_eq_true rfl) (nI_add _ 1) rfl ?_
    show ai_Ev _ _ _ [some (.ref 1), some (.int (nI (ai_qn σ.oe (5 * t + σ.nQ)))), some (.int (nI (t + 1))), some (.int (nI σ.nQ))] _ _ _
    refine ev_goto 4 (by decide) d112_63 ?_
    have e8 : ai_qn σ.oe (5 * (t + 1)) = ai_qn σ.oe (5 * t + σ.nQ) := qn_skip (by omega) (fun k h1 h2 => oe_no (by omega))
    have h9 := ih (t + 1) I_1 (some (.int (nI σ.nQ))) (by omega) (fun a h => (hf2 a (by omega)).trans (hf a h))
    rw [e8] at h9
    exact h9
theorem x_oe (G : ai_G S F) (hX : ai_RX σ I L) (hV : ai_IV σ) : ai_Ev none 112 0 [some (.ref 1), none, none, none] [] (S, I, L, F) (ai_Py S F L (fun v I2 => v = nI σ.nOE ∧ ∀ a, (a < 8 ∨ 55 ≤ a) → I2 a = I a)) := by
  refine ev_iconst (v := nI 0) 1 rfl d112_0 (by decide) ?_
  refine ev_store_in 2 rfl d112_1 (Nat.le_of_ble_eq_true rfl) rfl ?_
  show ai_Ev _ _ _ [some (.ref 1), some (.int (nI 0)), none, none] _ _ _
  refine ev_iconst (v := nI 0) 3 rfl d112_2 (by decide) ?_
  refine ev_store_in 4 rfl d112_3 (Nat.le_of_ble_eq_true rfl) rfl ?_
  show ai_Ev _ _ _ [some (.ref 1), some (.int (nI 0)), some (.int (nI 0)), none] _ _ _
  exact x_oe_loop G hX hV σ.nT 0 _ _ (by omega) (fun _ _ => rfl)
theorem x_status (G : ai_G S F) (hX : ai_RX σ I L) (hV : ai_IV σ) {z1 : Int32} : ai_Ev none 83 0 [some (.ref 1), some (.int z1)] [] (S, I, L, F) (ai_PX S F I L (o_status σ z1)) := by
  have hnT := hV.nT
  have hnQ := hV.nQ
  have hnJ := hV.nJ
  unfold o_status
  refine ev_iload_n 1 rfl d83_0 rfl ?_
  refine ev_switch 152 (by decide) d83_1 (by decide) (fun hs_1 => ?_) (fun k9 hk9 hs_1 => ?_)
  · rw [c_F (p := ai_is 19 z1) hs_1]
    refine ev_iload_n 153 rfl d83_152 rfl ?_
    refine ev_bipush (v := nI 10) 155 rfl d83_153 (by decide) ?_
    refine ev_icmp 179 158 (by decide) rfl cz_le d83_155 (fun hc_155 => ?_) (fun hc_155 => ?_)
    · refine ev_iconst (v := (-1)) 180 rfl d83_179 (by decide) ?_
      refine ev_iret (Or.inl rfl) d83_180 ?_
      exact px_same hX
    · obtain ⟨k, hk, rfl⟩ := nn_nI (gt_nn hc_155)
      have hk19 : ¬ k < 19 := fun h => hs_1 ⟨k, h, rfl⟩
      refine ev_iload_n 159 rfl d83_158 rfl ?_
      refine ev_bipush (v := nI 11) 161 rfl d83_159 (by decide) ?_
      refine ev_isub (v := nI (k - 11)) 162 rfl d83_161 (pk_sub (by omega)) ?_
      refine ev_bipush (v := nI 7) 164 rfl d83_162 (by decide) ?_
      refine ev_icmp 179 167 (by decide) rfl (cn_ge (by omega) (by omega)) d83_164 (fun hc_164 => ?_) (fun hc_164 => absurd hc_164 (by omega))
      refine ev_iconst (v := (-1)) 180 rfl d83_179 (by decide) ?_
      refine ev_iret (Or.inl rfl) d83_180 ?_
      exact px_same hX
  · have hk8 : k9 = 0 ∨ k9 = 1 ∨ k9 = 2 ∨ k9 = 3 ∨ k9 = 4 ∨ k9 = 5 ∨ k9 = 6 ∨ k9 = 7 ∨ k9 = 8 ∨ k9 = 9 ∨ k9 = 10 ∨ k9 = 11 ∨ k9 = 12 ∨ k9 = 13 ∨ k9 = 14 ∨ k9 = 15 ∨ k9 = 16 ∨ k9 = 17 ∨ k9 = 18 := by have h9 : k9 < 19 := hk9; omega
    rcases hk8 with rfl | rfl | rfl | rfl | rfl | rfl | rfl | rfl | rfl | rfl | rfl | rfl | rfl | rfl | rfl | rfl | rfl | rfl | rfl
    · refine ⟨92, rfl, ?_⟩
      rw [hs_1, c_T (is_T (by decide)), nn_I (by decide)]
      refine ev_aload_n 93 rfl d83_92 rfl ?_
      refine ev_geti (v := nI σ.nT) 96 rfl 8 4 d83_93 rfl (by omega) (G.1 _ _ (rfl : ai_sp 1 = (8, 0)) (by decide) (by decide)) hX.nT ?_
      refine ev_iret (Or.inl rfl) d83_96 ?_
      exact px_same hX
    · refine ⟨97, rfl, ?_⟩
      rw [hs_1, c_T (is_T (by decide)), nn_I (by decide)]
      refine ev_aload_n 98 rfl d83_97 rfl ?_
      refine ev_geti (v := nI σ.nQ) 101 rfl 8 5 d83_98 rfl (by omega) (G.1 _ _ (rfl : ai_sp 1 = (8, 0)) (by decide) (by decide)) hX.nQ ?_
      refine ev_iret (Or.inl rfl) d83_101 ?_
      exact px_same hX
    · refine ⟨102, rfl, ?_⟩
      rw [hs_1, c_T (is_T (by decide)), nn_I (by decide)]
      refine ev_aload_n 103 rfl d83_102 rfl ?_
      refine ev_geti (v := nI σ.nJ) 106 rfl 8 6 d83_103 rfl (by omega) (G.1 _ _ (rfl : ai_sp 1 = (8, 0)) (by decide) (by decide)) hX.nJ ?_
      refine ev_iret (Or.inl rfl) d83_106 ?_
      exact px_same hX
    · refine ⟨107, rfl, ?_⟩
      rw [hs_1, c_T (is_T (by decide)), nn_I (by decide)]
      refine ev_aload_n 108 rfl d83_107 rfl ?_
      refine ev_cp0 111 rfl 107 d83_108 rfl rfl (by rw [G.1 _ _ (rfl : ai_sp 1 = (8, 0)) (by decide) (by decide)]; rfl) (by omega) rfl (x_left G hX hV) ?_
      refine ev_iret (Or.inl rfl) d83_111 ?_
      exact px_same hX
    · refine ⟨112, rfl, ?_⟩
      rw [hs_1, c_T (is_T (by decide)), nn_I (by decide)]
      refine ev_aload_n 113 rfl d83_112 rfl ?_
      refine ev_cp0 116 rfl 110 d83_113 rfl rfl (by rw [G.1 _ _ (rfl : ai_sp 1 = (8, 0)) (by decide) (by decide)]; rfl) (by omega) rfl (x_knownc G hX hV) ?_
      refine ev_iret (Or.inl rfl) d83_116 ?_
      exact px_same hX
    · refine ⟨117, rfl, ?_⟩
      rw [hs_1, c_T (is_T (by decide)), nn_I (by decide)]
      refine ev_aload_n 118 rfl d83_117 rfl ?_
      refine ev_cp0 121 rfl 111 d83_118 rfl rfl (by rw [G.1 _ _ (rfl : ai_sp 1 = (8, 0)) (by decide) (by decide)]; rfl) (by omega) rfl (x_agc G hX hV) ?_
      refine ev_iret (Or.inl rfl) d83_121 ?_
      exact px_same hX
    · refine ⟨122, rfl, ?_⟩
      rw [hs_1, c_T (is_T (by decide)), nn_I (by decide)]
      refine ev_aload_n 123 rfl d83_122 rfl ?_
      refine ev_cy0 126 rfl 112 d83_123 rfl rfl (by rw [G.1 _ _ (rfl : ai_sp 1 = (8, 0)) (by decide) (by decide)]; rfl) (by omega) rfl (x_oe G hX hV) (fun v_2 I_1 hr_123 => ?_)
      obtain ⟨rfl, hf⟩ := hr_123
      refine ev_iret (Or.inl rfl) d83_126 ?_
      exact px_scr hX hf
    · refine ⟨127, rfl, ?_⟩
      rw [hs_1, c_T (is_T (by decide)), nn_I (by decide)]
      refine ev_aload_n 128 rfl d83_127 rfl ?_
      refine ev_cp0 131 rfl 108 d83_128 rfl rfl (by rw [G.1 _ _ (rfl : ai_sp 1 = (8, 0)) (by decide) (by decide)]; rfl) (by omega) rfl (x_given G hX hV) ?_
      refine ev_iret (Or.inl rfl) d83_131 ?_
      exact px_same hX
    · refine ⟨132, rfl, ?_⟩
      rw [hs_1, c_T (is_T (by decide)), nn_I (by decide)]
      refine ev_aload_n 133 rfl d83_132 rfl ?_
      refine ev_cp0 136 rfl 109 d83_133 rfl rfl (by rw [G.1 _ _ (rfl : ai_sp 1 = (8, 0)) (by decide) (by decide)]; rfl) (by omega) rfl (x_cntg G hX hV) ?_
      refine ev_iret (Or.inl rfl) d83_136 ?_
      exact px_same hX
    · refine ⟨137, rfl, ?_⟩
      rw [hs_1, c_T (is_T (by decide)), nn_I (by decide)]
      refine ev_aload_n 138 rfl d83_137 rfl ?_
      refine ev_geti (v := nI σ.mk) 141 rfl 8 7 d83_138 rfl (by omega) (G.1 _ _ (rfl : ai_sp 1 = (8, 0)) (by decide) (by decide)) hX.mk ?_
      refine ev_iret (Or.inl rfl) d83_141 ?_
      exact px_same hX
    · refine ⟨142, rfl, ?_⟩
      rw [hs_1, c_T (is_T (by decide)), nn_I (by decide)]
      refine ev_aload_n 143 rfl d83_142 rfl ?_
      refine ev_geti (v := nI σ.lk) 146 rfl 8 8 d83_143 rfl (by omega) (G.1 _ _ (rfl : ai_sp 1 = (8, 0)) (by decide) (by decide)) hX.lk ?_
      refine ev_iret (Or.inl rfl) d83_146 ?_
      exact px_same hX
    · refine ⟨152, rfl, ?_⟩
      rw [hs_1, c_T (is_T (by decide)), nn_I (by decide)]
      refine ev_iload_n 153 rfl d83_152 rfl ?_
      refine ev_bipush (v := nI 10) 155 rfl d83_153 (by decide) ?_
      refine ev_icmp_F 179 158 (by decide) rfl (by decide) d83_155 ?_
      refine ev_iload_n 159 rfl d83_158 rfl ?_
      refine ev_bipush (v := nI 11) 161 rfl d83_159 (by decide) ?_
      refine ev_isub (v := nI 0) 162 rfl d83_161 (by decide) ?_
      refine ev_bipush (v := nI 7) 164 rfl d83_162 (by decide) ?_
      refine ev_icmp_F 179 167 (by decide) rfl (by decide) d83_164 ?_
      refine ev_aload_n 168 rfl d83_167 rfl ?_
      refine ev_getr 171 rfl 8 12 d83_168 rfl (by omega) (G.1 _ _ (rfl : ai_sp 1 = (8, 0)) (by decide) (by decide)) (G.2 _ _ _ (rfl : ai_rf 1 12 = some 7)) ?_
      refine ev_iload_n 172 rfl d83_171 rfl ?_
      refine ev_bipush (v := nI 11) 174 rfl d83_172 (by decide) ?_
      refine ev_isub (v := nI 0) 175 rfl d83_174 (by decide) ?_
      refine ev_iald_n (v := σ.rf 0) 176 rfl d83_175 (by omega) (G.1 _ _ (rfl : ai_sp 7 = (100, 7)) (by decide) (by decide)) (by omega) (by decide) (hX.rf _ (by omega)) ?_
      refine ev_goto 180 (by decide) d83_176 ?_
      refine ev_iret (Or.inl rfl) d83_180 ?_
      exact px_same hX
    · refine ⟨152, rfl, ?_⟩
      rw [hs_1, c_T (is_T (by decide)), nn_I (by decide)]
      refine ev_iload_n 153 rfl d83_152 rfl ?_
      refine ev_bipush (v := nI 10) 155 rfl d83_153 (by decide) ?_
      refine ev_icmp_F 179 158 (by decide) rfl (by decide) d83_155 ?_
      refine ev_iload_n 159 rfl d83_158 rfl ?_
      refine ev_bipush (v := nI 11) 161 rfl d83_159 (by decide) ?_
      refine ev_isub (v := nI 1) 162 rfl d83_161 (by decide) ?_
      refine ev_bipush (v := nI 7) 164 rfl d83_162 (by decide) ?_
      refine ev_icmp_F 179 167 (by decide) rfl (by decide) d83_164 ?_
      refine ev_aload_n 168 rfl d83_167 rfl ?_
      refine ev_getr 171 rfl 8 12 d83_168 rfl (by omega) (G.1 _ _ (rfl : ai_sp 1 = (8, 0)) (by decide) (by decide)) (G.2 _ _ _ (rfl : ai_rf 1 12 = some 7)) ?_
      refine ev_iload_n 172 rfl d83_171 rfl ?_
      refine ev_bipush (v := nI 11) 174 rfl d83_172 (by decide) ?_
      refine ev_isub (v := nI 1) 175 rfl d83_174 (by decide) ?_
      refine ev_iald_n (v := σ.rf 1) 176 rfl d83_175 (by omega) (G.1 _ _ (rfl : ai_sp 7 = (100, 7)) (by decide) (by decide)) (by omega) (by decide) (hX.rf _ (by omega)) ?_
      refine ev_goto 180 (by decide) d83_176 ?_
      refine ev_iret (Or.inl rfl) d83_180 ?_
      exact px_same hX
    · refine ⟨152, rfl, ?_⟩
      rw [hs_1, c_T (is_T (by decide)), nn_I (by decide)]
      refine ev_iload_n 153 rfl d83_152 rfl ?_
      refine ev_bipush (v := nI 10) 155 rfl d83_153 (by decide) ?_
      refine ev_icmp_F 179 158 (by decide) rfl (by decide) d83_155 ?_
      refine ev_iload_n 159 rfl d83_158 rfl ?_
      refine ev_bipush (v := nI 11) 161 rfl d83_159 (by decide) ?_
      refine ev_isub (v := nI 2) 162 rfl d83_161 (by decide) ?_
      refine ev_bipush (v := nI 7) 164 rfl d83_162 (by decide) ?_
      refine ev_icmp_F 179 167 (by decide) rfl (by decide) d83_164 ?_
      refine ev_aload_n 168 rfl d83_167 rfl ?_
      refine ev_getr 171 rfl 8 12 d83_168 rfl (by omega) (G.1 _ _ (rfl : ai_sp 1 = (8, 0)) (by decide) (by decide)) (G.2 _ _ _ (rfl : ai_rf 1 12 = some 7)) ?_
      refine ev_iload_n 172 rfl d83_171 rfl ?_
      refine ev_bipush (v := nI 11) 174 rfl d83_172 (by decide) ?_
      refine ev_isub (v := nI 2) 175 rfl d83_174 (by decide) ?_
      refine ev_iald_n (v := σ.rf 2) 176 rfl d83_175 (by omega) (G.1 _ _ (rfl : ai_sp 7 = (100, 7)) (by decide) (by decide)) (by omega) (by decide) (hX.rf _ (by omega)) ?_
      refine ev_goto 180 (by decide) d83_176 ?_
      refine ev_iret (Or.inl rfl) d83_180 ?_
      exact px_same hX
    · refine ⟨152, rfl, ?_⟩
      rw [hs_1, c_T (is_T (by decide)), nn_I (by decide)]
      refine ev_iload_n 153 rfl d83_152 rfl ?_
      refine ev_bipush (v := nI 10) 155 rfl d83_153 (by decide) ?_
      refine ev_icmp_F 179 158 (by decide) rfl (by decide) d83_155 ?_
      refine ev_iload_n 159 rfl d83_158 rfl ?_
      refine ev_bipush (v := nI 11) 161 rfl d83_159 (by decide) ?_
      refine ev_isub (v := nI 3) 162 rfl d83_161 (by decide) ?_
      refine ev_bipush (v := nI 7) 164 rfl d83_162 (by decide) ?_
      refine ev_icmp_F 179 167 (by decide) rfl (by decide) d83_164 ?_
      refine ev_aload_n 168 rfl d83_167 rfl ?_
      refine ev_getr 171 rfl 8 12 d83_168 rfl (by omega) (G.1 _ _ (rfl : ai_sp 1 = (8, 0)) (by decide) (by decide)) (G.2 _ _ _ (rfl : ai_rf 1 12 = some 7)) ?_
      refine ev_iload_n 172 rfl d83_171 rfl ?_
      refine ev_bipush (v := nI 11) 174 rfl d83_172 (by decide) ?_
      refine ev_isub (v := nI 3) 175 rfl d83_174 (by decide) ?_
      refine ev_iald_n (v := σ.rf 3) 176 rfl d83_175 (by omega) (G.1 _ _ (rfl : ai_sp 7 = (100, 7)) (by decide) (by decide)) (by omega) (by decide) (hX.rf _ (by omega)) ?_
      refine ev_goto 180 (by decide) d83_176 ?_
      refine ev_iret (Or.inl rfl) d83_180 ?_
      exact px_same hX
    · refine ⟨152, rfl, ?_⟩
      rw [hs_1, c_T (is_T (by decide)), nn_I (by decide)]
      refine ev_iload_n 153 rfl d83_152 rfl ?_
      refine ev_bipush (v := nI 10) 155 rfl d83_153 (by decide) ?_
      refine ev_icmp_F 179 158 (by decide) rfl (by decide) d83_155 ?_
      refine ev_iload_n 159 rfl d83_158 rfl ?_
      refine ev_bipush (v := nI 11) 161 rfl d83_159 (by decide) ?_
      refine ev_isub (v := nI 4) 162 rfl d83_161 (by decide) ?_
      refine ev_bipush (v := nI 7) 164 rfl d83_162 (by decide) ?_
      refine ev_icmp_F 179 167 (by decide) rfl (by decide) d83_164 ?_
      refine ev_aload_n 168 rfl d83_167 rfl ?_
      refine ev_getr 171 rfl 8 12 d83_168 rfl (by omega) (G.1 _ _ (rfl : ai_sp 1 = (8, 0)) (by decide) (by decide)) (G.2 _ _ _ (rfl : ai_rf 1 12 = some 7)) ?_
      refine ev_iload_n 172 rfl d83_171 rfl ?_
      refine ev_bipush (v := nI 11) 174 rfl d83_172 (by decide) ?_
      refine ev_isub (v := nI 4) 175 rfl d83_174 (by decide) ?_
      refine ev_iald_n (v := σ.rf 4) 176 rfl d83_175 (by omega) (G.1 _ _ (rfl : ai_sp 7 = (100, 7)) (by decide) (by decide)) (by omega) (by decide) (hX.rf _ (by omega)) ?_
      refine ev_goto 180 (by decide) d83_176 ?_
      refine ev_iret (Or.inl rfl) d83_180 ?_
      exact px_same hX
    · refine ⟨152, rfl, ?_⟩
      rw [hs_1, c_T (is_T (by decide)), nn_I (by decide)]
      refine ev_iload_n 153 rfl d83_152 rfl ?_
      refine ev_bipush (v := nI 10) 155 rfl d83_153 (by decide) ?_
      refine ev_icmp_F 179 158 (by decide) rfl (by decide) d83_155 ?_
      refine ev_iload_n 159 rfl d83_158 rfl ?_
      refine ev_bipush (v := nI 11) 161 rfl d83_159 (by decide) ?_
      refine ev_isub (v := nI 5) 162 rfl d83_161 (by decide) ?_
      refine ev_bipush (v := nI 7) 164 rfl d83_162 (by decide) ?_
      refine ev_icmp_F 179 167 (by decide) rfl (by decide) d83_164 ?_
      refine ev_aload_n 168 rfl d83_167 rfl ?_
      refine ev_getr 171 rfl 8 12 d83_168 rfl (by omega) (G.1 _ _ (rfl : ai_sp 1 = (8, 0)) (by decide) (by decide)) (G.2 _ _ _ (rfl : ai_rf 1 12 = some 7)) ?_
      refine ev_iload_n 172 rfl d83_171 rfl ?_
      refine ev_bipush (v := nI 11) 174 rfl d83_172 (by decide) ?_
      refine ev_isub (v := nI 5) 175 rfl d83_174 (by decide) ?_
      refine ev_iald_n (v := σ.rf 5) 176 rfl d83_175 (by omega) (G.1 _ _ (rfl : ai_sp 7 = (100, 7)) (by decide) (by decide)) (by omega) (by decide) (hX.rf _ (by omega)) ?_
      refine ev_goto 180 (by decide) d83_176 ?_
      refine ev_iret (Or.inl rfl) d83_180 ?_
      exact px_same hX
    · refine ⟨152, rfl, ?_⟩
      rw [hs_1, c_T (is_T (by decide)), nn_I (by decide)]
      refine ev_iload_n 153 rfl d83_152 rfl ?_
      refine ev_bipush (v := nI 10) 155 rfl d83_153 (by decide) ?_
      refine ev_icmp_F 179 158 (by decide) rfl (by decide) d83_155 ?_
      refine ev_iload_n 159 rfl d83_158 rfl ?_
      refine ev_bipush (v := nI 11) 161 rfl d83_159 (by decide) ?_
      refine ev_isub (v := nI 6) 162 rfl d83_161 (by decide) ?_
      refine ev_bipush (v := nI 7) 164 rfl d83_162 (by decide) ?_
      refine ev_icmp_F 179 167 (by decide) rfl (by decide) d83_164 ?_
      refine ev_aload_n 168 rfl d83_167 rfl ?_
      refine ev_getr 171 rfl 8 12 d83_168 rfl (by omega) (G.1 _ _ (rfl : ai_sp 1 = (8, 0)) (by decide) (by decide)) (G.2 _ _ _ (rfl : ai_rf 1 12 = some 7)) ?_
      refine ev_iload_n 172 rfl d83_171 rfl ?_
      refine ev_bipush (v := nI 11) 174 rfl d83_172 (by decide) ?_
      refine ev_isub (v := nI 6) 175 rfl d83_174 (by decide) ?_
      refine ev_iald_n (v := σ.rf 6) 176 rfl d83_175 (by omega) (G.1 _ _ (rfl : ai_sp 7 = (100, 7)) (by decide) (by decide)) (by omega) (by decide) (hX.rf _ (by omega)) ?_
      refine ev_goto 180 (by decide) d83_176 ?_
      refine ev_iret (Or.inl rfl) d83_180 ?_
      exact px_same hX
    · refine ⟨147, rfl, ?_⟩
      rw [hs_1, c_T (is_T (by decide)), nn_I (by decide)]
      refine ev_aload_n 148 rfl d83_147 rfl ?_
      refine ev_geti (v := nI σ.hs) 151 rfl 8 9 d83_148 rfl (by omega) (G.1 _ _ (rfl : ai_sp 1 = (8, 0)) (by decide) (by decide)) hX.hs ?_
      refine ev_iret (Or.inl rfl) d83_151 ?_
      exact px_same hX
end XSTAT
