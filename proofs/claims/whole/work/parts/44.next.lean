section XNEXT
variable {S : List (Nat × Nat)} {F : Nat → Nat → Option Nat} {L : Nat → Nat → Int64} {I : Nat → Nat → Int32} {σ : ai_S}
theorem wt_tot {c b : Nat} (hb : b < σ.an (c % 5)) : σ.wt c b ≤ σ.tot c := by
  have h := qs_le (f := σ.wt c) hb
  unfold ai_S.tot; exact Nat.le_trans (Nat.le_add_left _ _) h
theorem totB_le (hV : ai_IV σ) {q : Nat} (hq : q < σ.nQ) : ∀ t, t ≤ σ.nT → σ.totB q t ≤ (4 * 65536 ^ 24) ^ t := by
  have hnT := hV.nT
  have hnQ := hV.nQ
  intro t
  induction t with
  | zero => intro _; exact Nat.le_refl 1
  | succ t ih =>
    intro h
    show (if _ then σ.totB q t * σ.tot (5 * t + q) else σ.totB q t) ≤ (4 * 65536 ^ 24) ^ t * (4 * 65536 ^ 24)
    have h1 := ih (by omega)
    have h2 := tot_le hV (c := 5 * t + q) (by omega) (by omega)
    split
    · exact Nat.mul_le_mul h1 h2
    · exact Nat.le_trans h1 (Nat.le_mul_of_pos_right _ (by decide))
theorem totB_pos (hV : ai_IV σ) {q : Nat} (hq : q < σ.nQ) : ∀ t, t ≤ σ.nT → 0 < σ.totB q t := by
  have hnT := hV.nT
  have hnQ := hV.nQ
  intro t
  induction t with
  | zero => intro _; exact Nat.one_pos
  | succ t ih =>
    intro h
    show 0 < (if _ then σ.totB q t * σ.tot (5 * t + q) else σ.totB q t)
    have h1 := ih (by omega)
    split
    · exact Nat.mul_pos h1 (tot_pos hV (by omega) (by omega))
    · exact h1
theorem totA_le (hV : ai_IV σ) {q b : Nat} (hq : q < σ.nQ) (hb : b < σ.an q) : ∀ t, t ≤ σ.nT → σ.totA q b t ≤ t * σ.totB q t := by
  have hnT := hV.nT
  have hnQ := hV.nQ
  intro t
  induction t with
  | zero => intro _; exact Nat.zero_le _
  | succ t ih =>
    intro h
    have h1 := ih (by omega)
    show (if σ.isOpen (5 * t + q) = true then σ.totA q b t * σ.tot (5 * t + q) + σ.totB q t * σ.wt (5 * t + q) b else σ.totA q b t) ≤ (t + 1) * (if σ.isOpen (5 * t + q) = true then σ.totB q t * σ.tot (5 * t + q) else σ.totB q t)
    have h2 : σ.wt (5 * t + q) b ≤ σ.tot (5 * t + q) := wt_tot (by rw [show (5 * t + q) % 5 = q by omega]; exact hb)
    split
    · rw [Nat.add_mul, Nat.one_mul, ← Nat.mul_assoc]
      exact Nat.add_le_add (Nat.mul_le_mul_right _ h1) (Nat.mul_le_mul_left _ h2)
    · rw [Nat.add_mul]; omega
theorem big486 {x t : Nat} (ht : t < 40) (h : x ≤ 40 * (4 * 65536 ^ 24) ^ t) : x < 2147483648 ^ 486 := by
  refine Nat.lt_of_le_of_lt (Nat.le_trans h (Nat.mul_le_mul_left _ (Nat.pow_le_pow_right (by decide) (show t ≤ 39 by omega)))) ?_
  decide +kernel
theorem big500 {x t : Nat} (ht : t ≤ 40) (h : x ≤ 1048576 * 40 * (4 * 65536 ^ 24) ^ t) : x < 2147483648 ^ 500 := by
  refine Nat.lt_of_le_of_lt (Nat.le_trans h (Nat.mul_le_mul_left _ (Nat.pow_le_pow_right (by decide) ht))) ?_
  decide +kernel
theorem big13 {x : Nat} (h : x ≤ 4 * 65536 ^ 24) : x < 2147483648 ^ 13 := Nat.lt_of_le_of_lt h (by decide)
noncomputable def o_total (σ : ai_S) (z1 z2 : Int32) : ai_S × Int32 := ai_c (σ.isA z1 z2) (σ, nI (1000 * σ.totA (ai_nn z1) (ai_nn z2) σ.nT / σ.totB (ai_nn z1) σ.nT)) (σ, -1)

theorem x_total_loop (G : ai_G S F) {I0 : Nat → Nat → Int32} (hX0 : ai_RX σ I0 L) (hV : ai_IV σ) {q b : Nat} (hq : q < σ.nQ) (hb : b < σ.an q) : ∀ (z t : Nat) (I : Nat → Nat → Int32), t + z = σ.nT → ai_BG I 47 500 (σ.totA q b t) → ai_BG I 49 500 (σ.totB q t) → (∀ a, (a < 8 ∨ 55 ≤ a) → I a = I0 a) → ai_Ev none 82 20 [some (.ref 1), some (.int (nI q)), some (.int (nI b)), some (.int (nI t))] [] (S, I, L, F) (ai_Py S F L (fun v I2 => v = nI (1000 * σ.totA q b σ.nT / σ.totB q σ.nT) ∧ ∀ a, (a < 8 ∨ 55 ≤ a) → I2 a = I0 a)) := by
  have hnT := hV.nT
  have hnQ := hV.nQ
  have hnJ := hV.nJ
  have han := hV.an q hq
  intro z
  induction z with
  | zero =>
    intro t I hz hA hB hf
    have e9 : t = σ.nT := by omega
    subst e9
    have hX : ai_RX σ I L := hX0.frame (fun a h _ => hf a h)
    refine ev_iload_n 21 rfl d82_20 rfl ?_
    refine ev_aload_n 22 rfl d82_21 rfl ?_
    refine ev_geti (v := nI σ.nT) 25 rfl 8 4 d82_22 rfl (by omega) (G.1 _ _ (rfl : ai_sp 1 = (8, 0)) (by decide) (by decide)) hX.nT ?_
    refine ev_icmp 80 28 (by decide) rfl (cn_ge (by omega) (by omega)) d82_25 (fun hc_25 => ?_) (fun hc_25 => absurd hc_25 (by omega))
    refine ev_aload_n 81 rfl d82_80 rfl ?_
    have hBb := totB_le hV hq σ.nT (by omega)
    have hAb := totA_le hV hq hb σ.nT (by omega)
    have hBp := totB_pos hV hq σ.nT (by omega)
    have hAl : σ.totA q b σ.nT ≤ 40 * σ.totB q σ.nT := Nat.le_trans hAb (Nat.mul_le_mul_right _ hnT)
    have hf20 : 1048576 * σ.totB q σ.nT < 2147483648 ^ 500 := big500 (t := σ.nT) hnT (Nat.mul_le_mul (by decide) hBb)
    have hfA : σ.totA q b σ.nT < 2147483648 ^ 500 := big500 (t := σ.nT) hnT (Nat.le_trans hAl (Nat.mul_le_mul (by decide) hBb))
    have hfm : 1000 * σ.totA q b σ.nT < 2147483648 ^ 500 := big500 (t := σ.nT) hnT (by
      refine Nat.le_trans (Nat.mul_le_mul_left 1000 hAl) ?_
      rw [← Nat.mul_assoc]
      exact Nat.mul_le_mul (by decide) hBb)
    have hfq : 1000 * σ.totA q b σ.nT < 1048576 * σ.totB q σ.nT := by omega
    refine ev_getr 84 rfl 8 17 d82_81 rfl (by omega) (G.1 _ _ (rfl : ai_sp 1 = (8, 0)) (by decide) (by decide)) (G.2 _ _ _ (rfl : ai_rf 1 17 = some 46)) ?_
    refine ev_sipush (v := nI 1000) 87 rfl d82_84 (by decide) ?_
    refine ev_cy1 90 rfl 41 d82_87 rfl rfl (by rw [G.1 _ _ (rfl : ai_sp 46 = (5, 0)) (by decide) (by decide)]; rfl) (by omega) rfl (r_floor (A := σ.totA q b σ.nT) (B := σ.totB q σ.nT) G rat_46 (by decide) (by decide) (m := 1000) (by decide) hf20 hA hB hfA hfm hfq) (fun v_2 I_1 hr_87 => ?_)
    obtain ⟨rfl, hf3⟩ := hr_87
    refine ev_iret (Or.inl rfl) d82_90 ?_
    exact ⟨_, _, rfl, rfl, rfl, fun a h => (hf3 a (by omega)).trans (hf a h)⟩
  | succ z ih =>
    intro t I hz hA hB hf
    have hX : ai_RX σ I L := hX0.frame (fun a h _ => hf a h)
    refine ev_iload_n 21 rfl d82_20 rfl ?_
    refine ev_aload_n 22 rfl d82_21 rfl ?_
    refine ev_geti (v := nI σ.nT) 25 rfl 8 4 d82_22 rfl (by omega) (G.1 _ _ (rfl : ai_sp 1 = (8, 0)) (by decide) (by decide)) hX.nT ?_
    refine ev_icmp 80 28 (by decide) rfl (cn_ge (by omega) (by omega)) d82_25 (fun hc_25 => absurd hc_25 (by omega)) (fun hc_25 => ?_)
    refine ev_aload_n 29 rfl d82_28 rfl ?_
    refine ev_iload_n 30 rfl d82_29 rfl ?_
    refine ev_cu1 33 rfl 106 d82_30 rfl rfl (by rw [G.1 _ _ (rfl : ai_sp 1 = (8, 0)) (by decide) (by decide)]; rfl) (by omega) rfl (x_survey G hX hV (t := t) (by omega)) (fun I_1 hr_30 => ?_)
    obtain ⟨hS, hf2⟩ := hr_30
    have hX2 : ai_RX σ I_1 L := hX.frame (fun a h _ => hf2 a (by omega))
    refine ev_aload_n 34 rfl d82_33 rfl ?_
    refine ev_getr 37 rfl 8 14 d82_34 rfl (by omega) (G.1 _ _ (rfl : ai_sp 1 = (8, 0)) (by decide) (by decide)) (G.2 _ _ _ (rfl : ai_rf 1 14 = some 24)) ?_
    refine ev_getr 40 rfl 7 0 d82_37 rfl (by omega) (G.1 _ _ (rfl : ai_sp 24 = (7, 0)) (by decide) (by decide)) (G.2 _ _ _ (rfl : ai_rf 24 0 = some 25)) ?_
    refine ev_iload_n 41 rfl d82_40 rfl ?_
    refine ev_bald_n (v := nI (ai_qb (σ.isOpen (5 * t + q)))) 42 rfl d82_41 (by omega) (by decide) (G.1 _ _ (rfl : ai_sp 25 = (102, 5)) (by decide) (by decide)) (by omega) (by decide) (hS.1 q hq) ?_
    have hb1 := qb_lt (σ.isOpen (5 * t + q))
    refine ev_if 74 45 (by decide) rfl (c0_eq (by omega)) d82_42 (fun hc_42 => ?_) (fun hc_42 => ?_)
    · 
      refine ev_iinc (v := nI (t + 1)) 77 rfl d82_74 rfl (Nat.le_of_ble_eq_true rfl) (nI_add _ 1) rfl ?_
      show ai_Ev _ _ _ [some (.ref 1), some (.int (nI q)), some (.int (nI b)), some (.int (nI (t + 1)))] _ _ _
      refine ev_goto 20 (by decide) d82_77 ?_
      have hop : ¬ σ.isOpen (5 * t + q) = true := qb_0 hc_42
      have eA : σ.totA q b (t + 1) = σ.totA q b t := if_neg hop
      have eB : σ.totB q (t + 1) = σ.totB q t := if_neg hop
      refine ih (t + 1) I_1 (by omega) (by rw [eA]; exact hA.eq (hf2 47 (by omega)) (hf2 48 (by omega))) (by rw [eB]; exact hB.eq (hf2 49 (by omega)) (hf2 50 (by omega))) (fun a h => ?_)
      rw [hf2 a (by omega)]; exact hf a h
    · refine ev_aload_n 46 rfl d82_45 rfl ?_
      refine ev_iload_n 47 rfl d82_46 rfl ?_
      refine ev_iload_n 48 rfl d82_47 rfl ?_
      refine ev_cu2 51 rfl 104 d82_48 rfl rfl (by rw [G.1 _ _ (rfl : ai_sp 1 = (8, 0)) (by decide) (by decide)]; rfl) (by omega) rfl (x_weigh G hX2 hV (t := t) (q := q) (by omega) (by omega)) (fun I_2 hr_48 => ?_)
      obtain ⟨hQ, hf4⟩ := hr_48
      have hX4 : ai_RX σ I_2 L := hX2.frame (fun a h _ => hf4 a (by omega))
      have hop : σ.isOpen (5 * t + q) = true := qb_1 hc_42
      have hA4 : ai_BG I_2 47 500 (σ.totA q b t) := hA.eq ((hf4 47 (by omega)).trans (hf2 47 (by omega))) ((hf4 48 (by omega)).trans (hf2 48 (by omega)))
      have hB4 : ai_BG I_2 49 500 (σ.totB q t) := hB.eq ((hf4 49 (by omega)).trans (hf2 49 (by omega))) ((hf4 50 (by omega)).trans (hf2 50 (by omega)))
      have hwb := wt_le hV (c := 5 * t + q) (b := b) (by omega) (by rw [show (5 * t + q) % 5 = q by omega]; exact hb)
      have htb := tot_le hV (c := 5 * t + q) (by omega) (by omega)
      have hBb := totB_le hV hq t (by omega)
      have hAb := totA_le hV hq hb t (by omega)
      have hBl : σ.totB q t ≤ 40 * (4 * 65536 ^ 24) ^ t := Nat.le_trans hBb (Nat.le_mul_of_pos_left _ (by decide))
      have hAl : σ.totA q b t ≤ 40 * (4 * 65536 ^ 24) ^ t := Nat.le_trans hAb (Nat.mul_le_mul (by omega) hBb)
      have eA : σ.totA q b (t + 1) = σ.totA q b t * σ.tot (5 * t + q) + σ.totB q t * σ.wt (5 * t + q) b := if_pos hop
      have eB : σ.totB q (t + 1) = σ.totB q t * σ.tot (5 * t + q) := if_pos hop
      have hB1 := totB_le hV hq (t + 1) (by omega)
      have hA1 := totA_le hV hq hb (t + 1) (by omega)
      have hl2 : σ.totB q t * σ.tot (5 * t + q) ≤ 1048576 * 40 * (4 * 65536 ^ 24) ^ (t + 1) := by rw [← eB]; exact Nat.le_trans hB1 (Nat.le_mul_of_pos_left _ (by decide))
      have hl1 : σ.totA q b t * σ.tot (5 * t + q) + σ.wt (5 * t + q) b * σ.totB q t ≤ 1048576 * 40 * (4 * 65536 ^ 24) ^ (t + 1) := by
        rw [Nat.mul_comm (σ.wt (5 * t + q) b), ← eA]
        exact Nat.le_trans hA1 (Nat.mul_le_mul (by omega) hB1)
      refine ev_aload_n 52 rfl d82_51 rfl ?_
      refine ev_getr 55 rfl 8 17 d82_52 rfl (by omega) (G.1 _ _ (rfl : ai_sp 1 = (8, 0)) (by decide) (by decide)) (G.2 _ _ _ (rfl : ai_rf 1 17 = some 46)) ?_
      refine ev_aload_n 56 rfl d82_55 rfl ?_
      refine ev_getr 59 rfl 8 13 d82_56 rfl (by omega) (G.1 _ _ (rfl : ai_sp 1 = (8, 0)) (by decide) (by decide)) (G.2 _ _ _ (rfl : ai_rf 1 13 = some 8)) ?_
      refine ev_getr 62 rfl 3 0 d82_59 rfl (by omega) (G.1 _ _ (rfl : ai_sp 8 = (3, 0)) (by decide) (by decide)) (G.2 _ _ _ (rfl : ai_rf 8 0 = some 9)) ?_
      refine ev_iload_n 63 rfl d82_62 rfl ?_
      refine ev_aald_n 64 rfl d82_63 (by omega) (by decide) (G.1 _ _ (rfl : ai_sp 9 = (108, 4)) (by decide) (by decide)) (by omega) (by decide) (G.2 _ _ _ (rf_weight (by omega))) ?_
      refine ev_aload_n 65 rfl d82_64 rfl ?_
      refine ev_getr 68 rfl 8 13 d82_65 rfl (by omega) (G.1 _ _ (rfl : ai_sp 1 = (8, 0)) (by decide) (by decide)) (G.2 _ _ _ (rfl : ai_rf 1 13 = some 8)) ?_
      refine ev_getr 71 rfl 3 1 d82_68 rfl (by omega) (G.1 _ _ (rfl : ai_sp 8 = (3, 0)) (by decide) (by decide)) (G.2 _ _ _ (rfl : ai_rf 8 1 = some 10)) ?_
      refine ev_cu2 74 rfl 39 d82_71 rfl rfl (by rw [G.1 _ _ (rfl : ai_sp 46 = (5, 0)) (by decide) (by decide)]; rfl) (by omega) rfl (r_add (A := σ.totA q b t) (B := σ.totB q t) (p := 486) (g := 13) G rat_46 (by decide) (by decide) (by decide) (big_w (b := b) (by omega)) (big_16 10 (by omega)) (by omega) (by omega) (hQ.1.2.2.2 b (by omega)) hQ.2.2 hA4 hB4 (big486 (t := t) (by omega) hAl) (big486 (t := t) (by omega) hBl) (big13 (Nat.le_trans hwb (by decide))) (big13 htb) (by decide) (by decide) (big500 (t := t + 1) (by omega) hl1) (big500 (t := t + 1) (by omega) hl2)) (fun I_3 hr_71 => ?_)
      obtain ⟨hA5, hB5, hf5⟩ := hr_71
      
      refine ev_iinc (v := nI (t + 1)) 77 rfl d82_74 rfl (Nat.le_of_ble_eq_true rfl) (nI_add _ 1) rfl ?_
      show ai_Ev _ _ _ [some (.ref 1), some (.int (nI q)), some (.int (nI b)), some (.int (nI (t + 1)))] _ _ _
      refine ev_goto 20 (by decide) d82_77 ?_
      refine ih (t + 1) I_3 (by omega) (by rw [eA, Nat.mul_comm (σ.totB q t)]; exact hA5) (by rw [eB]; exact hB5) (fun a h => ?_)
      rw [hf5 a (by omega), hf4 a (by omega), hf2 a (by omega)]; exact hf a h
theorem x_total (G : ai_G S F) (hX : ai_RX σ I L) (hV : ai_IV σ) {z1 : Int32} {z2 : Int32} : ai_Ev none 82 0 [some (.ref 1), some (.int z1), some (.int z2), none] [] (S, I, L, F) (ai_PX S F I L (o_total σ z1 z2)) := by
  have hnT := hV.nT
  have hnQ := hV.nQ
  have hnJ := hV.nJ
  unfold o_total
  refine ev_aload_n 1 rfl d82_0 rfl ?_
  refine ev_iload_n 2 rfl d82_1 rfl ?_
  refine ev_iload_n 3 rfl d82_2 rfl ?_
  refine ev_cb2 6 rfl 87 d82_3 rfl rfl (by rw [G.1 _ _ (rfl : ai_sp 1 = (8, 0)) (by decide) (by decide)]; rfl) (by omega) rfl (x_isAnswer G hX hV) (fun hq_3 => ?_) (fun hq_3 => ?_)
  · try rw [c_T hq_3]
    obtain ⟨q, b, hq, hb, rfl, rfl⟩ := hq_3
    refine ev_if_T 11 (by decide) (by decide) d82_6 ?_
    have han := hV.an q hq
    simp only [nn_I (show q < 2147483648 by omega)]
    simp only [nn_I (show b < 2147483648 by omega)]
    refine ev_aload_n 12 rfl d82_11 rfl ?_
    refine ev_getr 15 rfl 8 17 d82_12 rfl (by omega) (G.1 _ _ (rfl : ai_sp 1 = (8, 0)) (by decide) (by decide)) (G.2 _ _ _ (rfl : ai_rf 1 17 = some 46)) ?_
    refine ev_cu0 18 rfl 37 d82_15 rfl rfl (by rw [G.1 _ _ (rfl : ai_sp 46 = (5, 0)) (by decide) (by decide)]; rfl) (by omega) rfl (r_zero G rat_46 (by decide) (by decide)) (fun I_1 hr_15 => ?_)
    obtain ⟨hA, hB, hf1⟩ := hr_15
    refine ev_iconst (v := nI 0) 19 rfl d82_18 (by decide) ?_
    refine ev_store_in 20 rfl d82_19 (Nat.le_of_ble_eq_true rfl) rfl ?_
    show ai_Ev _ _ _ [some (.ref 1), some (.int (nI q)), some (.int (nI b)), some (.int (nI 0))] _ _ _
    refine (x_total_loop G hX hV hq hb σ.nT 0 I_1 (by omega) hA hB (fun a h => hf1 a (by omega))).imp ?_
    rintro r h' ⟨v, I9, rfl, rfl, rfl, h9⟩
    exact px_scr hX h9
  · try rw [c_F hq_3]
    refine ev_if_F 11 9 (by decide) rfl (by decide) d82_6 ?_
    refine ev_iconst (v := (-1)) 10 rfl d82_9 (by decide) ?_
    refine ev_iret (Or.inl rfl) d82_10 ?_
    exact px_same hX
def ai_S.nv (x : Nat) : Int32 := if x = 0 then -1 else nI (10 * ((x - 1) / 5) + (x - 1) % 5)
noncomputable def o_next (σ : ai_S) (z1 : Int32) : ai_S × Int32 := ai_c (σ.isJ z1) (σ, ai_S.nv (σ.nxt (ai_nn z1) 200)) (σ.refuse 1)
def ai_S.cand (σ : ai_S) (j c : Nat) : Bool := σ.there c && (σ.isOpen c && (!σ.ended c && decide (σ.gv j c = 0)))
theorem nxt_no {j c : Nat} (h : ¬ σ.cand j c = true) : σ.nxt j (c + 1) = σ.nxt j c := if_neg h
theorem nxt_first {j c : Nat} (h : σ.cand j c = true) (h0 : σ.nxt j c = 0) : σ.nxt j (c + 1) = c + 1 := (if_pos h).trans (if_pos h0)
theorem nxt_gt {j c : Nat} (h : σ.cand j c = true) (h1 : σ.gnA j (σ.nxt j c - 1) * σ.gnB j c < σ.gnA j c * σ.gnB j (σ.nxt j c - 1)) : σ.nxt j (c + 1) = c + 1 := by
  refine (if_pos h).trans ?_
  by_cases h0 : σ.nxt j c = 0
  · exact if_pos h0
  · exact (if_neg h0).trans (if_pos h1)
theorem nxt_le9 {j c : Nat} (h : σ.cand j c = true) (h0 : ¬ σ.nxt j c = 0) (h1 : ¬ σ.gnA j (σ.nxt j c - 1) * σ.gnB j c < σ.gnA j c * σ.gnB j (σ.nxt j c - 1)) : σ.nxt j (c + 1) = σ.nxt j c := (if_pos h).trans ((if_neg h0).trans (if_neg h1))
theorem nxt_lt {j : Nat} : ∀ c, σ.nxt j c ≤ c := by
  intro c
  induction c with
  | zero => exact Nat.le_refl 0
  | succ c ih =>
    by_cases h : σ.cand j c = true
    · by_cases h0 : σ.nxt j c = 0
      · rw [nxt_first h h0]; omega
      · by_cases h1 : σ.gnA j (σ.nxt j c - 1) * σ.gnB j c < σ.gnA j c * σ.gnB j (σ.nxt j c - 1)
        · rw [nxt_gt h h1]; omega
        · rw [nxt_le9 h h0 h1]; omega
    · rw [nxt_no h]; omega
theorem nxt_cand {j : Nat} : ∀ c, σ.nxt j c ≠ 0 → σ.cand j (σ.nxt j c - 1) = true := by
  intro c
  induction c with
  | zero => intro h; exact absurd rfl h
  | succ c ih =>
    intro hz
    by_cases h : σ.cand j c = true
    · by_cases h0 : σ.nxt j c = 0
      · rw [nxt_first h h0]; exact h
      · by_cases h1 : σ.gnA j (σ.nxt j c - 1) * σ.gnB j c < σ.gnA j c * σ.gnB j (σ.nxt j c - 1)
        · rw [nxt_gt h h1]; exact h
        · rw [nxt_le9 h h0 h1] at hz ⊢; exact ih hz
    · rw [nxt_no h] at hz ⊢; exact ih hz
theorem nxt_skip {j a : Nat} : ∀ {b : Nat}, a ≤ b → (∀ k, a ≤ k → k < b → σ.there k = false) → σ.nxt j b = σ.nxt j a := by
  intro b
  induction b with
  | zero => intro h _; rw [show a = 0 by omega]
  | succ b ih =>
    intro h hz
    by_cases e : a = b + 1
    · rw [e]
    · rw [nxt_no (by unfold ai_S.cand; rw [hz b (by omega) (by omega)]; simp)]
      exact ih (by omega) (fun k h1 h2 => hz k h1 (by omega))
theorem nv_0 {x : Nat} (h : x = 0) : ai_S.nv x = -1 := if_pos h
theorem nv_ne {x : Nat} (h : x ≤ 200) : ai_S.nv x = -1 ↔ x = 0 := by
  unfold ai_S.nv
  by_cases e : x = 0
  · rw [if_pos e]; exact ⟨fun _ => e, fun _ => rfl⟩
  · rw [if_neg e]; exact ⟨fun h2 => absurd h2 (n1_ne' (by omega)), fun h2 => absurd h2 e⟩
theorem nv_c {t q : Nat} (hq : q < 5) : ai_S.nv (5 * t + q + 1) = nI (10 * t + q) := by
  unfold ai_S.nv
  rw [if_neg (by omega), show (5 * t + q + 1 - 1) / 5 = t by omega, show (5 * t + q + 1 - 1) % 5 = q by omega]
def ai_GR (σ : ai_S) (I : Nat → Nat → Int32) (j m : Nat) : Prop := σ.nxt j m ≠ 0 → ai_BG I 38 32 (σ.gnA j (σ.nxt j m - 1)) ∧ ai_BG I 40 32 (σ.gnB j (σ.nxt j m - 1))
theorem big16b {x : Nat} (h : x ≤ 38416 * (4 * 65536 ^ 24)) : x < 2147483648 ^ 16 := Nat.lt_of_le_of_lt h (by decide)
theorem ai_SV.fr {I I2 : Nat → Nat → Int32} {t k : Nat} (h : ai_SV σ I t k) (f : ∀ a, 24 ≤ a → a < 28 → I2 a = I a) : ai_SV σ I2 t k := ⟨fun x hx => by rw [f 25 (by omega) (by omega)]; exact h.1 x hx, fun x hx ho => by rw [f 26 (by omega) (by omega)]; exact h.2.1 x hx ho, fun x hx ho => by rw [f 27 (by omega) (by omega)]; exact h.2.2 x hx ho⟩
theorem x_next_in (G : ai_G S F) {I0 : Nat → Nat → Int32} (hX0 : ai_RX σ I0 L) (hV : ai_IV σ) {j : Nat} (hj : j < 24) {t : Nat} (ht : t < σ.nT) {Q : Option Value → ai_H → Prop} (hk : ∀ I2, ai_GR σ I2 j (5 * t + σ.nQ) → (∀ a, (a < 8 ∨ 55 ≤ a) → I2 a = I0 a) → ai_Ev none 80 166 [some (.ref 1), some (.int (nI j)), some (.int (ai_S.nv (σ.nxt j (5 * t + σ.nQ)))), some (.int (nI t)), some (.int (nI σ.nQ))] [] (S, I2, L, F) Q) : ∀ (z q : Nat) (I : Nat → Nat → Int32), q + z = σ.nQ → ai_SV σ I t σ.nQ → ai_GR σ I j (5 * t + q) → (∀ a, (a < 8 ∨ 55 ≤ a) → I a = I0 a) → ai_Ev none 80 34 [some (.ref 1), some (.int (nI j)), some (.int (ai_S.nv (σ.nxt j (5 * t + q)))), some (.int (nI t)), some (.int (nI q))] [] (S, I, L, F) Q := by
  have hnT := hV.nT
  have hnQ := hV.nQ
  have hnJ := hV.nJ
  intro z
  induction z with
  | zero =>
    intro q I hz hS hGR hf
    have e9 : q = σ.nQ := by omega
    subst e9
    have hX : ai_RX σ I L := hX0.frame (fun a h _ => hf a h)
    refine ev_iload 36 rfl d80_34 rfl ?_
    refine ev_aload_n 37 rfl d80_36 rfl ?_
    refine ev_geti (v := nI σ.nQ) 40 rfl 8 5 d80_37 rfl (by omega) (G.1 _ _ (rfl : ai_sp 1 = (8, 0)) (by decide) (by decide)) hX.nQ ?_
    refine ev_icmp 166 43 (by decide) rfl (cn_ge (by omega) (by omega)) d80_40 (fun hc_40 => ?_) (fun hc_40 => absurd hc_40 (by omega))
    exact hk _ hGR hf
  | succ z ih =>
    intro q I hz hS hGR hf
    have hX : ai_RX σ I L := hX0.frame (fun a h _ => hf a h)
    refine ev_iload 36 rfl d80_34 rfl ?_
    refine ev_aload_n 37 rfl d80_36 rfl ?_
    refine ev_geti (v := nI σ.nQ) 40 rfl 8 5 d80_37 rfl (by omega) (G.1 _ _ (rfl : ai_sp 1 = (8, 0)) (by decide) (by decide)) hX.nQ ?_
    refine ev_icmp 166 43 (by decide) rfl (cn_ge (by omega) (by omega)) d80_40 (fun hc_40 => absurd hc_40 (by omega)) (fun hc_40 => ?_)
    have hb1 := qb_lt (σ.isOpen (5 * t + q))
    have hb2 := qb_lt (σ.isOpen (5 * t + q) && σ.ended (5 * t + q))
    refine ev_aload_n 44 rfl d80_43 rfl ?_
    refine ev_getr 47 rfl 8 14 d80_44 rfl (by omega) (G.1 _ _ (rfl : ai_sp 1 = (8, 0)) (by decide) (by decide)) (G.2 _ _ _ (rfl : ai_rf 1 14 = some 24)) ?_
    refine ev_getr 50 rfl 7 0 d80_47 rfl (by omega) (G.1 _ _ (rfl : ai_sp 24 = (7, 0)) (by decide) (by decide)) (G.2 _ _ _ (rfl : ai_rf 24 0 = some 25)) ?_
    refine ev_iload 52 rfl d80_50 rfl ?_
    refine ev_bald_n (v := nI (ai_qb (σ.isOpen (5 * t + q)))) 53 rfl d80_52 (by omega) (by decide) (G.1 _ _ (rfl : ai_sp 25 = (102, 5)) (by decide) (by decide)) (by omega) (by decide) (hS.1 q (by omega)) ?_
    refine ev_if 160 56 (by decide) rfl (c0_eq (by omega)) d80_53 (fun hc_53 => ?_) (fun hc_53 => ?_)
    · have hno : ¬ σ.cand j (5 * t + q) = true := by
        have h9 := nb_F (qb_0 hc_53)
        unfold ai_S.cand; simp [h9]
      refine ev_iinc (v := nI (q + 1)) 163 rfl d80_160 rfl (Nat.le_of_ble_eq_true rfl) (nI_add _ 1) rfl ?_
      show ai_Ev _ _ _ [some (.ref 1), some (.int (nI j)), some (.int (ai_S.nv (σ.nxt j (5 * t + q)))), some (.int (nI t)), some (.int (nI (q + 1)))] _ _ _
      refine ev_goto 34 (by decide) d80_163 ?_
      have e8 : σ.nxt j (5 * t + q + 1) = σ.nxt j (5 * t + q) := nxt_no hno
      have h9 := ih (q + 1) I (by omega) hS (fun h => by
        show ai_BG _ 38 32 (σ.gnA j (σ.nxt j (5 * t + q + 1) - 1)) ∧ ai_BG _ 40 32 (σ.gnB j (σ.nxt j (5 * t + q + 1) - 1))
        rw [e8]; exact hGR (by rw [← e8]; exact h)) hf
      have e7 : ai_S.nv (σ.nxt j (5 * t + (q + 1))) = ai_S.nv (σ.nxt j (5 * t + q)) := congrArg ai_S.nv e8
      rw [e7] at h9
      exact h9
    · refine ev_aload_n 57 rfl d80_56 rfl ?_
      refine ev_getr 60 rfl 8 14 d80_57 rfl (by omega) (G.1 _ _ (rfl : ai_sp 1 = (8, 0)) (by decide) (by decide)) (G.2 _ _ _ (rfl : ai_rf 1 14 = some 24)) ?_
      refine ev_getr 63 rfl 7 1 d80_60 rfl (by omega) (G.1 _ _ (rfl : ai_sp 24 = (7, 0)) (by decide) (by decide)) (G.2 _ _ _ (rfl : ai_rf 24 1 = some 26)) ?_
      refine ev_iload 65 rfl d80_63 rfl ?_
      refine ev_bald_n (v := nI (ai_qb (σ.isOpen (5 * t + q) && σ.ended (5 * t + q)))) 66 rfl d80_65 (by omega) (by decide) (G.1 _ _ (rfl : ai_sp 26 = (102, 5)) (by decide) (by decide)) (by omega) (by decide) (hS.2.1 q (by omega) (qb_1 hc_53)) ?_
      refine ev_if 160 69 (by decide) rfl (c0_ne (by omega)) d80_66 (fun hc_66 => ?_) (fun hc_66 => ?_)
      · have hno : ¬ σ.cand j (5 * t + q) = true := by
          have h9 := and_r (qb_1 hc_66)
          unfold ai_S.cand; simp [h9]
        refine ev_iinc (v := nI (q + 1)) 163 rfl d80_160 rfl (Nat.le_of_ble_eq_true rfl) (nI_add _ 1) rfl ?_
        show ai_Ev _ _ _ [some (.ref 1), some (.int (nI j)), some (.int (ai_S.nv (σ.nxt j (5 * t + q)))), some (.int (nI t)), some (.int (nI (q + 1)))] _ _ _
        refine ev_goto 34 (by decide) d80_163 ?_
        have e8 : σ.nxt j (5 * t + q + 1) = σ.nxt j (5 * t + q) := nxt_no hno
        have h9 := ih (q + 1) I (by omega) hS (fun h => by
          show ai_BG _ 38 32 (σ.gnA j (σ.nxt j (5 * t + q + 1) - 1)) ∧ ai_BG _ 40 32 (σ.gnB j (σ.nxt j (5 * t + q + 1) - 1))
          rw [e8]; exact hGR (by rw [← e8]; exact h)) hf
        have e7 : ai_S.nv (σ.nxt j (5 * t + (q + 1))) = ai_S.nv (σ.nxt j (5 * t + q)) := congrArg ai_S.nv e8
        rw [e7] at h9
        exact h9
      · refine ev_aload_n 70 rfl d80_69 rfl ?_
        refine ev_iload_n 71 rfl d80_70 rfl ?_
        refine ev_iload 73 rfl d80_71 rfl ?_
        refine ev_cp2 76 rfl 89 d80_73 rfl rfl (by rw [G.1 _ _ (rfl : ai_sp 1 = (8, 0)) (by decide) (by decide)]; rfl) (by omega) rfl (x_caseOf G (t := t) (q := q) (by omega) (by omega)) ?_
        refine ev_iload_n 77 rfl d80_76 rfl ?_
        refine ev_cb1 80 rfl 14 d80_77 rfl rfl (by rw [G.1 _ _ (sp_case (by omega)) (by omega) (by omega)]; rfl) (by omega) rfl (x_answered G hX hV (j := j) (c := 5 * t + q) (by omega) (by omega)) (fun hq_77 => ?_) (fun hq_77 => ?_)
        · have hno : ¬ σ.cand j (5 * t + q) = true := by
            unfold ai_S.cand; simp [hq_77]
          refine ev_if_F 86 83 (by decide) rfl (by decide) d80_80 ?_
          refine ev_goto 160 (by decide) d80_83 ?_
          refine ev_iinc (v := nI (q + 1)) 163 rfl d80_160 rfl (Nat.le_of_ble_eq_true rfl) (nI_add _ 1) rfl ?_
          show ai_Ev _ _ _ [some (.ref 1), some (.int (nI j)), some (.int (ai_S.nv (σ.nxt j (5 * t + q)))), some (.int (nI t)), some (.int (nI (q + 1)))] _ _ _
          refine ev_goto 34 (by decide) d80_163 ?_
          have e8 : σ.nxt j (5 * t + q + 1) = σ.nxt j (5 * t + q) := nxt_no hno
          have h9 := ih (q + 1) I (by omega) hS (fun h => by
            show ai_BG _ 38 32 (σ.gnA j (σ.nxt j (5 * t + q + 1) - 1)) ∧ ai_BG _ 40 32 (σ.gnB j (σ.nxt j (5 * t + q + 1) - 1))
            rw [e8]; exact hGR (by rw [← e8]; exact h)) hf
          have e7 : ai_S.nv (σ.nxt j (5 * t + (q + 1))) = ai_S.nv (σ.nxt j (5 * t + q)) := congrArg ai_S.nv e8
          rw [e7] at h9
          exact h9
        · have hg0 : σ.gv j (5 * t + q) = 0 := by omega
          have hye : σ.cand j (5 * t + q) = true := by
            unfold ai_S.cand
            rw [there_yes (by omega), qb_1 hc_53, hg0, show σ.ended (5 * t + q) = false by
              have h9 := hc_66
              rw [qb_1 hc_53] at h9
              cases he : σ.ended (5 * t + q) with
              | false => rfl
              | true => rw [he] at h9; exact absurd h9 (by decide)]
            rfl
          refine ev_if_T 86 (by decide) (by decide) d80_80 ?_
          refine ev_aload_n 87 rfl d80_86 rfl ?_
          refine ev_iload_n 88 rfl d80_87 rfl ?_
          refine ev_iload 90 rfl d80_88 rfl ?_
          refine ev_cu2 93 rfl 104 d80_90 rfl rfl (by rw [G.1 _ _ (rfl : ai_sp 1 = (8, 0)) (by decide) (by decide)]; rfl) (by omega) rfl (x_weigh G hX hV (t := t) (q := q) (by omega) (by omega)) (fun I_1 hr_90 => ?_)
          obtain ⟨hQ, hf4⟩ := hr_90
          have hX4 : ai_RX σ I_1 L := hX.frame (fun a h _ => hf4 a (by omega))
          refine ev_aload_n 94 rfl d80_93 rfl ?_
          refine ev_getr 97 rfl 8 13 d80_94 rfl (by omega) (G.1 _ _ (rfl : ai_sp 1 = (8, 0)) (by decide) (by decide)) (G.2 _ _ _ (rfl : ai_rf 1 13 = some 8)) ?_
          refine ev_aload_n 98 rfl d80_97 rfl ?_
          refine ev_getr 101 rfl 8 2 d80_98 rfl (by omega) (G.1 _ _ (rfl : ai_sp 1 = (8, 0)) (by decide) (by decide)) (G.2 _ _ _ (rfl : ai_rf 1 2 = some 4)) ?_
          refine ev_iload_n 102 rfl d80_101 rfl ?_
          refine ev_aald_n 103 rfl d80_102 (by omega) (by decide) (G.1 _ _ (rfl : ai_sp 4 = (106, 24)) (by decide) (by decide)) (by omega) (by decide) (G.2 _ _ _ (rf_judge (by omega))) ?_
          refine ev_iload 105 rfl d80_103 rfl ?_
          refine ev_aload_n 106 rfl d80_105 rfl ?_
          refine ev_getr 109 rfl 8 15 d80_106 rfl (by omega) (G.1 _ _ (rfl : ai_sp 1 = (8, 0)) (by decide) (by decide)) (G.2 _ _ _ (rfl : ai_rf 1 15 = some 28)) ?_
          refine ev_cu3 112 rfl 34 d80_109 rfl rfl (by rw [G.1 _ _ (rfl : ai_sp 8 = (3, 0)) (by decide) (by decide)]; rfl) (by omega) rfl (x_gainOf G hX4 hV (t := t) (q := q) (by omega) (by omega) (j := j) (by omega) hQ) (fun I_2 hr_109 => ?_)
          obtain ⟨hQ5, hA5, hB5, hf5⟩ := hr_109
          refine ev_iload_n 113 rfl d80_112 rfl ?_
          refine ev_iconst (v := (-1)) 114 rfl d80_113 (by decide) ?_
          refine ev_icmp 131 117 (by decide) rfl cz_eq d80_114 (fun hc_114 => ?_) (fun hc_114 => ?_)
          · 
            refine ev_bipush (v := nI 10) 133 rfl d80_131 (by decide) ?_
            refine ev_iload_n 134 rfl d80_133 rfl ?_
            refine ev_imul (v := nI (10 * t)) 135 rfl d80_134 (pk_mul _ _) ?_
            refine ev_iload 137 rfl d80_135 rfl ?_
            refine ev_iadd (v := nI ((10 * t) + q)) 138 rfl d80_137 (nI_add _ _) ?_
            refine ev_store_in 139 rfl d80_138 (Nat.le_of_ble_eq_true rfl) rfl ?_
            show ai_Ev _ _ _ [some (.ref 1), some (.int (nI j)), some (.int (nI ((10 * t) + q))), some (.int (nI t)), some (.int (nI q))] _ _ _
            refine ev_aload_n 140 rfl d80_139 rfl ?_
            refine ev_getr 143 rfl 8 16 d80_140 rfl (by omega) (G.1 _ _ (rfl : ai_sp 1 = (8, 0)) (by decide) (by decide)) (G.2 _ _ _ (rfl : ai_rf 1 16 = some 37)) ?_
            refine ev_aload_n 144 rfl d80_143 rfl ?_
            refine ev_getr 147 rfl 8 15 d80_144 rfl (by omega) (G.1 _ _ (rfl : ai_sp 1 = (8, 0)) (by decide) (by decide)) (G.2 _ _ _ (rfl : ai_rf 1 15 = some 28)) ?_
            refine ev_getr 150 rfl 5 0 d80_147 rfl (by omega) (G.1 _ _ (rfl : ai_sp 28 = (5, 0)) (by decide) (by decide)) (G.2 _ _ _ (rfl : ai_rf 28 0 = some 29)) ?_
            refine ev_aload_n 151 rfl d80_150 rfl ?_
            refine ev_getr 154 rfl 8 15 d80_151 rfl (by omega) (G.1 _ _ (rfl : ai_sp 1 = (8, 0)) (by decide) (by decide)) (G.2 _ _ _ (rfl : ai_rf 1 15 = some 28)) ?_
            refine ev_getr 157 rfl 5 1 d80_154 rfl (by omega) (G.1 _ _ (rfl : ai_sp 28 = (5, 0)) (by decide) (by decide)) (G.2 _ _ _ (rfl : ai_rf 28 1 = some 31)) ?_
            refine ev_cu2 160 rfl 38 d80_157 rfl rfl (by rw [G.1 _ _ (rfl : ai_sp 37 = (5, 0)) (by decide) (by decide)]; rfl) (by omega) rfl (r_set G rat_37 (by decide) (by decide) (by decide) (big_32 29 (by omega)) (big_32 31 (by omega)) (by omega) (by omega) hA5 hB5 (big32 (Nat.le_trans (Nat.le_trans (gnA_le hV (by omega) (by omega)) (gnB_le hV (by omega) (by omega) (by omega))) (by decide))) (big32 (Nat.le_trans (gnB_le hV (by omega) (by omega) (by omega)) (by decide)))) (fun I_3 hr_157 => ?_)
            obtain ⟨hA7, hB7, hf7⟩ := hr_157
            refine ev_iinc (v := nI (q + 1)) 163 rfl d80_160 rfl (Nat.le_of_ble_eq_true rfl) (nI_add _ 1) rfl ?_
            show ai_Ev _ _ _ [some (.ref 1), some (.int (nI j)), some (.int (nI ((10 * t) + q))), some (.int (nI t)), some (.int (nI (q + 1)))] _ _ _
            refine ev_goto 34 (by decide) d80_163 ?_
            have e8 : σ.nxt j (5 * t + q + 1) = 5 * t + q + 1 := nxt_first hye ((nv_ne (by have := nxt_lt (σ := σ) (j := j) (5 * t + q); omega)).mp hc_114)
            have h9 := ih (q + 1) I_3 (by omega) (hS.fr (fun a h1 h2 => by rw [hf7 a (by omega), hf5 a (by omega), hf4 a (by omega)])) (fun h => by
              show ai_BG _ 38 32 (σ.gnA j (σ.nxt j (5 * t + q + 1) - 1)) ∧ ai_BG _ 40 32 (σ.gnB j (σ.nxt j (5 * t + q + 1) - 1))
              rw [e8]; exact ⟨hA7, hB7⟩) (fun a h => by rw [hf7 a (by omega), hf5 a (by omega), hf4 a (by omega)]; exact hf a h)
            have e7 : ai_S.nv (σ.nxt j (5 * t + (q + 1))) = nI (10 * t + q) := by
              show ai_S.nv (σ.nxt j (5 * t + q + 1)) = _
              rw [e8]; exact nv_c (by omega)
            rw [e7] at h9
            exact h9
          · have hn0 : ¬ σ.nxt j (5 * t + q) = 0 := fun h => hc_114 (nv_0 h)
            have hg9 := hGR hn0
            have hC5 : ai_BG I_2 38 32 _ := hg9.1.eq ((hf5 38 (by omega)).trans (hf4 38 (by omega))) ((hf5 39 (by omega)).trans (hf4 39 (by omega)))
            have hD5 : ai_BG I_2 40 32 _ := hg9.2.eq ((hf5 40 (by omega)).trans (hf4 40 (by omega))) ((hf5 41 (by omega)).trans (hf4 41 (by omega)))
            have hb5 : σ.nxt j (5 * t + q) - 1 < 200 ∧ (σ.nxt j (5 * t + q) - 1) % 5 < σ.nQ := by
              have h1 := nxt_lt (σ := σ) (j := j) (5 * t + q)
              have h2 := nxt_cand (σ := σ) (j := j) (5 * t + q) hn0
              unfold ai_S.cand ai_S.there at h2
              simp only [Bool.and_eq_true, decide_eq_true_eq] at h2
              exact ⟨by omega, h2.1.2⟩
            refine ev_aload_n 118 rfl d80_117 rfl ?_
            refine ev_getr 121 rfl 8 15 d80_118 rfl (by omega) (G.1 _ _ (rfl : ai_sp 1 = (8, 0)) (by decide) (by decide)) (G.2 _ _ _ (rfl : ai_rf 1 15 = some 28)) ?_
            refine ev_aload_n 122 rfl d80_121 rfl ?_
            refine ev_getr 125 rfl 8 16 d80_122 rfl (by omega) (G.1 _ _ (rfl : ai_sp 1 = (8, 0)) (by decide) (by decide)) (G.2 _ _ _ (rfl : ai_rf 1 16 = some 37)) ?_
            refine ev_cz1 128 rfl 40 d80_125 rfl rfl (by rw [G.1 _ _ (rfl : ai_sp 28 = (5, 0)) (by decide) (by decide)]; rfl) (by omega) rfl (r_above (p := 16) (g := 16) G rat_28 (by decide) (by decide) rat_37 (by decide) hA5 hB5 hC5 hD5 (big16b (Nat.le_trans (gnA_le hV (by omega) (by omega)) (gnB_le hV (by omega) (by omega) (by omega)))) (big16b (gnB_le hV (by omega) (by omega) (by omega))) (big16b (Nat.le_trans (gnA_le hV (by omega) hb5.2) (gnB_le hV (by omega) hb5.1 hb5.2))) (big16b (gnB_le hV (by omega) hb5.1 hb5.2)) (by decide)) (fun I_3 hq_125 hr_125 => ?_) (fun I_3 hq_125 hr_125 => ?_)
            · obtain ⟨hA6, hB6, hf6⟩ := hr_125
              
              refine ev_if_F 160 131 (by decide) rfl (by decide) d80_128 ?_
              
              refine ev_bipush (v := nI 10) 133 rfl d80_131 (by decide) ?_
              refine ev_iload_n 134 rfl d80_133 rfl ?_
              refine ev_imul (v := nI (10 * t)) 135 rfl d80_134 (pk_mul _ _) ?_
              refine ev_iload 137 rfl d80_135 rfl ?_
              refine ev_iadd (v := nI ((10 * t) + q)) 138 rfl d80_137 (nI_add _ _) ?_
              refine ev_store_in 139 rfl d80_138 (Nat.le_of_ble_eq_true rfl) rfl ?_
              show ai_Ev _ _ _ [some (.ref 1), some (.int (nI j)), some (.int (nI ((10 * t) + q))), some (.int (nI t)), some (.int (nI q))] _ _ _
              refine ev_aload_n 140 rfl d80_139 rfl ?_
              refine ev_getr 143 rfl 8 16 d80_140 rfl (by omega) (G.1 _ _ (rfl : ai_sp 1 = (8, 0)) (by decide) (by decide)) (G.2 _ _ _ (rfl : ai_rf 1 16 = some 37)) ?_
              refine ev_aload_n 144 rfl d80_143 rfl ?_
              refine ev_getr 147 rfl 8 15 d80_144 rfl (by omega) (G.1 _ _ (rfl : ai_sp 1 = (8, 0)) (by decide) (by decide)) (G.2 _ _ _ (rfl : ai_rf 1 15 = some 28)) ?_
              refine ev_getr 150 rfl 5 0 d80_147 rfl (by omega) (G.1 _ _ (rfl : ai_sp 28 = (5, 0)) (by decide) (by decide)) (G.2 _ _ _ (rfl : ai_rf 28 0 = some 29)) ?_
              refine ev_aload_n 151 rfl d80_150 rfl ?_
              refine ev_getr 154 rfl 8 15 d80_151 rfl (by omega) (G.1 _ _ (rfl : ai_sp 1 = (8, 0)) (by decide) (by decide)) (G.2 _ _ _ (rfl : ai_rf 1 15 = some 28)) ?_
              refine ev_getr 157 rfl 5 1 d80_154 rfl (by omega) (G.1 _ _ (rfl : ai_sp 28 = (5, 0)) (by decide) (by decide)) (G.2 _ _ _ (rfl : ai_rf 28 1 = some 31)) ?_
              refine ev_cu2 160 rfl 38 d80_157 rfl rfl (by rw [G.1 _ _ (rfl : ai_sp 37 = (5, 0)) (by decide) (by decide)]; rfl) (by omega) rfl (r_set G rat_37 (by decide) (by decide) (by decide) (big_32 29 (by omega)) (big_32 31 (by omega)) (by omega) (by omega) hA6 hB6 (big32 (Nat.le_trans (Nat.le_trans (gnA_le hV (by omega) (by omega)) (gnB_le hV (by omega) (by omega) (by omega))) (by decide))) (big32 (Nat.le_trans (gnB_le hV (by omega) (by omega) (by omega)) (by decide)))) (fun I_4 hr_157 => ?_)
              obtain ⟨hA7, hB7, hf7⟩ := hr_157
              refine ev_iinc (v := nI (q + 1)) 163 rfl d80_160 rfl (Nat.le_of_ble_eq_true rfl) (nI_add _ 1) rfl ?_
              show ai_Ev _ _ _ [some (.ref 1), some (.int (nI j)), some (.int (nI ((10 * t) + q))), some (.int (nI t)), some (.int (nI (q + 1)))] _ _ _
              refine ev_goto 34 (by decide) d80_163 ?_
              have e8 : σ.nxt j (5 * t + q + 1) = 5 * t + q + 1 := nxt_gt hye hq_125
              have h9 := ih (q + 1) I_4 (by omega) (hS.fr (fun a h1 h2 => by rw [hf7 a (by omega), hf6 a (by omega), hf5 a (by omega), hf4 a (by omega)])) (fun h => by
                show ai_BG _ 38 32 (σ.gnA j (σ.nxt j (5 * t + q + 1) - 1)) ∧ ai_BG _ 40 32 (σ.gnB j (σ.nxt j (5 * t + q + 1) - 1))
                rw [e8]; exact ⟨hA7, hB7⟩) (fun a h => by rw [hf7 a (by omega), hf6 a (by omega), hf5 a (by omega), hf4 a (by omega)]; exact hf a h)
              have e7 : ai_S.nv (σ.nxt j (5 * t + (q + 1))) = nI (10 * t + q) := by
                show ai_S.nv (σ.nxt j (5 * t + q + 1)) = _
                rw [e8]; exact nv_c (by omega)
              rw [e7] at h9
              exact h9
            · obtain ⟨hA6, hB6, hf6⟩ := hr_125
              
              refine ev_if_T 160 (by decide) (by decide) d80_128 ?_
              refine ev_iinc (v := nI (q + 1)) 163 rfl d80_160 rfl (Nat.le_of_ble_eq_true rfl) (nI_add _ 1) rfl ?_
              show ai_Ev _ _ _ [some (.ref 1), some (.int (nI j)), some (.int (ai_S.nv (σ.nxt j (5 * t + q)))), some (.int (nI t)), some (.int (nI (q + 1)))] _ _ _
              refine ev_goto 34 (by decide) d80_163 ?_
              have e8 : σ.nxt j (5 * t + q + 1) = σ.nxt j (5 * t + q) := nxt_le9 hye hn0 hq_125
              have h9 := ih (q + 1) I_3 (by omega) (hS.fr (fun a h1 h2 => by rw [hf6 a (by omega), hf5 a (by omega), hf4 a (by omega)])) (fun h => by
                show ai_BG _ 38 32 (σ.gnA j (σ.nxt j (5 * t + q + 1) - 1)) ∧ ai_BG _ 40 32 (σ.gnB j (σ.nxt j (5 * t + q + 1) - 1))
                rw [e8]; exact ⟨hC5.eq (hf6 38 (by omega)) (hf6 39 (by omega)), hD5.eq (hf6 40 (by omega)) (hf6 41 (by omega))⟩) (fun a h => by rw [hf6 a (by omega), hf5 a (by omega), hf4 a (by omega)]; exact hf a h)
              have e7 : ai_S.nv (σ.nxt j (5 * t + (q + 1))) = ai_S.nv (σ.nxt j (5 * t + q)) := congrArg ai_S.nv e8
              rw [e7] at h9
              exact h9
theorem x_next_loop (G : ai_G S F) {I0 : Nat → Nat → Int32} (hX0 : ai_RX σ I0 L) (hV : ai_IV σ) {j : Nat} (hj : j < 24) : ∀ (z t : Nat) (I : Nat → Nat → Int32) (u4 : Option Value), t + z = σ.nT → ai_GR σ I j (5 * t) → (∀ a, (a < 8 ∨ 55 ≤ a) → I a = I0 a) → ai_Ev none 80 18 [some (.ref 1), some (.int (nI j)), some (.int (ai_S.nv (σ.nxt j (5 * t)))), some (.int (nI t)), u4] [] (S, I, L, F) (ai_Py S F L (fun v I2 => v = ai_S.nv (σ.nxt j 200) ∧ ∀ a, (a < 8 ∨ 55 ≤ a) → I2 a = I0 a)) := by
  have hnT := hV.nT
  have hnQ := hV.nQ
  have hnJ := hV.nJ
  intro z
  induction z with
  | zero =>
    intro t I u4 hz hGR hf
    have e9 : t = σ.nT := by omega
    subst e9
    have hX : ai_RX σ I L := hX0.frame (fun a h _ => hf a h)
    refine ev_iload_n 19 rfl d80_18 rfl ?_
    refine ev_aload_n 20 rfl d80_19 rfl ?_
    refine ev_geti (v := nI σ.nT) 23 rfl 8 4 d80_20 rfl (by omega) (G.1 _ _ (rfl : ai_sp 1 = (8, 0)) (by decide) (by decide)) hX.nT ?_
    refine ev_icmp 172 26 (by decide) rfl (cn_ge (by omega) (by omega)) d80_23 (fun hc_23 => ?_) (fun hc_23 => absurd hc_23 (by omega))
    refine ev_iload_n 173 rfl d80_172 rfl ?_
    refine ev_iret (Or.inl rfl) d80_173 ?_
    have e8 : σ.nxt j 200 = σ.nxt j (5 * σ.nT) := nxt_skip (by omega) (fun k h1 h2 => there_no (by omega))
    exact ⟨_, _, rfl, rfl, by rw [e8], hf⟩
  | succ z ih =>
    intro t I u4 hz hGR hf
    have hX : ai_RX σ I L := hX0.frame (fun a h _ => hf a h)
    refine ev_iload_n 19 rfl d80_18 rfl ?_
    refine ev_aload_n 20 rfl d80_19 rfl ?_
    refine ev_geti (v := nI σ.nT) 23 rfl 8 4 d80_20 rfl (by omega) (G.1 _ _ (rfl : ai_sp 1 = (8, 0)) (by decide) (by decide)) hX.nT ?_
    refine ev_icmp 172 26 (by decide) rfl (cn_ge (by omega) (by omega)) d80_23 (fun hc_23 => absurd hc_23 (by omega)) (fun hc_23 => ?_)
    refine ev_aload_n 27 rfl d80_26 rfl ?_
    refine ev_iload_n 28 rfl d80_27 rfl ?_
    refine ev_cu1 31 rfl 106 d80_28 rfl rfl (by rw [G.1 _ _ (rfl : ai_sp 1 = (8, 0)) (by decide) (by decide)]; rfl) (by omega) rfl (x_survey G hX hV (t := t) (by omega)) (fun I_1 hr_28 => ?_)
    obtain ⟨hS, hf2⟩ := hr_28
    have hX2 : ai_RX σ I_1 L := hX.frame (fun a h _ => hf2 a (by omega))
    refine ev_iconst (v := nI 0) 32 rfl d80_31 (by decide) ?_
    refine ev_store_i 34 rfl d80_32 ⟨rfl, Nat.le_of_ble_eq_true rfl⟩ rfl ?_
    show ai_Ev _ _ _ [some (.ref 1), some (.int (nI j)), some (.int (ai_S.nv (σ.nxt j (5 * t)))), some (.int (nI t)), some (.int (nI 0))] _ _ _
    refine x_next_in G hX0 hV hj (by omega) ?_ σ.nQ 0 I_1 (by omega) hS (fun h => ⟨(hGR h).1.eq (hf2 38 (by omega)) (hf2 39 (by omega)), (hGR h).2.eq (hf2 40 (by omega)) (hf2 41 (by omega))⟩) (fun a h => (hf2 a (by omega)).trans (hf a h))
    intro I9 hG9 hf9
    refine ev_iinc (v := nI (t + 1)) 169 rfl d80_166 rfl (Nat.le_of_ble_eq_true rfl) (nI_add _ 1) rfl ?_
    show ai_Ev _ _ _ [some (.ref 1), some (.int (nI j)), some (.int (ai_S.nv (σ.nxt j (5 * t + σ.nQ)))), some (.int (nI (t + 1))), some (.int (nI σ.nQ))] _ _ _
    refine ev_goto 18 (by decide) d80_169 ?_
    have e8 : σ.nxt j (5 * (t + 1)) = σ.nxt j (5 * t + σ.nQ) := nxt_skip (by omega) (fun k h1 h2 => there_no (by omega))
    have h9 := ih (t + 1) I9 (some (.int (nI σ.nQ))) (by omega) (fun h => by rw [e8] at h ⊢; exact hG9 h) hf9
    rw [e8] at h9
    exact h9
theorem x_next (G : ai_G S F) (hX : ai_RX σ I L) (hV : ai_IV σ) {z1 : Int32} : ai_Ev none 80 0 [some (.ref 1), some (.int z1), none, none, none] [] (S, I, L, F) (ai_PX S F I L (o_next σ z1)) := by
  have hnT := hV.nT
  have hnQ := hV.nQ
  have hnJ := hV.nJ
  unfold o_next
  refine ev_aload_n 1 rfl d80_0 rfl ?_
  refine ev_iload_n 2 rfl d80_1 rfl ?_
  refine ev_cb1 5 rfl 85 d80_2 rfl rfl (by rw [G.1 _ _ (rfl : ai_sp 1 = (8, 0)) (by decide) (by decide)]; rfl) (by omega) rfl (x_isJ G hX hV) (fun hq_2 => ?_) (fun hq_2 => ?_)
  · try rw [c_T hq_2]
    obtain ⟨j, hj, hjl, rfl⟩ := hq_2
    refine ev_if_T 14 (by decide) (by decide) d80_5 ?_
    refine ev_iconst (v := (-1)) 15 rfl d80_14 (by decide) ?_
    refine ev_store_in 16 rfl d80_15 (Nat.le_of_ble_eq_true rfl) rfl ?_
    show ai_Ev _ _ _ [some (.ref 1), some (.int (nI j)), some (.int (-1)), none, none] _ _ _
    refine ev_iconst (v := nI 0) 17 rfl d80_16 (by decide) ?_
    refine ev_store_in 18 rfl d80_17 (Nat.le_of_ble_eq_true rfl) rfl ?_
    show ai_Ev _ _ _ [some (.ref 1), some (.int (nI j)), some (.int (-1)), some (.int (nI 0)), none] _ _ _
    simp only [nn_I (show j < 2147483648 by omega)]
    refine (x_next_loop G hX hV (by omega) σ.nT 0 I none (by omega) (fun h => absurd rfl h) (fun _ _ => rfl)).imp ?_
    rintro r h' ⟨v, I9, rfl, rfl, rfl, h9⟩
    exact px_scr hX h9
  · try rw [c_F hq_2]
    refine ev_if_F 14 8 (by decide) rfl (by decide) d80_5 ?_
    refine ev_aload_n 9 rfl d80_8 rfl ?_
    refine ev_iconst (v := (-1)) 10 rfl d80_9 (by decide) ?_
    refine ev_cy1 13 rfl 90 d80_10 rfl rfl (by rw [G.1 _ _ (rfl : ai_sp 1 = (8, 0)) (by decide) (by decide)]; rfl) (by omega) rfl (show ai_Ev none 90 0 [some (.ref 1), some (.int (-1)), none] [] (S, I, L, F) _ from by rw [show ((-1) : Int32) = -(nI 1) by decide]; exact x_refuse (I := I) (L := L) (S := S) (F := F) G (k := 1) (by omega)) (fun v_2 I_1 hr_10 => ?_)
    refine ev_iret (Or.inl rfl) d80_13 ?_
    exact px_ref hX (by omega) hr_10
end XNEXT
