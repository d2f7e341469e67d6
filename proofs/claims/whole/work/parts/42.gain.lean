section XGAIN
variable {S : List (Nat × Nat)} {F : Nat → Nat → Option Nat} {L : Nat → Nat → Int64} {I : Nat → Nat → Int32} {σ : ai_S}
theorem qs_mulr {f : Nat → Nat} {x : Nat} : ∀ {n : Nat}, ai_qs (fun a => f a * x) n = ai_qs f n * x := by
  intro n
  induction n with
  | zero => exact (Nat.zero_mul x).symm
  | succ n ih =>
    show ai_qs (fun a => f a * x) n + f n * x = (ai_qs f n + f n) * x
    rw [ih, Nat.add_mul]
theorem qs_one {f : Nat → Nat} : ∀ {n : Nat}, ai_qs (fun a => 1 + f a) n = n + ai_qs f n := by
  intro n
  induction n with
  | zero => rfl
  | succ n ih =>
    show ai_qs (fun a => 1 + f a) n + (1 + f n) = n + 1 + (ai_qs f n + f n)
    rw [ih]; omega
theorem qs_mono {f g : Nat → Nat} : ∀ {n : Nat}, (∀ k, k < n → f k ≤ g k) → ai_qs f n ≤ ai_qs g n := by
  intro n
  induction n with
  | zero => intro _; exact Nat.le_refl _
  | succ n ih =>
    intro h
    exact Nat.add_le_add (ih (fun k hk => h k (by omega))) (h n (by omega))
theorem qt_ge {f : Nat → Nat} : ∀ {n b : Nat}, b < n → f b ≤ ai_qt f n := by
  intro n
  induction n with
  | zero => intro b h; omega
  | succ n ih =>
    intro b h
    show _ ≤ (if ai_qt f n < f n then f n else ai_qt f n)
    by_cases e : b = n
    · subst e; split <;> omega
    · have h2 := ih (b := b) (by omega)
      split <;> omega
theorem qt_le_qs {f : Nat → Nat} : ∀ {n : Nat}, ai_qt f n ≤ ai_qs f n := by
  intro n
  induction n with
  | zero => exact Nat.le_refl _
  | succ n ih =>
    show (if ai_qt f n < f n then f n else ai_qt f n) ≤ ai_qs f n + f n
    split <;> omega
theorem qs_add {f g : Nat → Nat} : ∀ {n : Nat}, ai_qs (fun a => f a + g a) n = ai_qs f n + ai_qs g n := by
  intro n
  induction n with
  | zero => rfl
  | succ n ih =>
    show ai_qs (fun a => f a + g a) n + (f n + g n) = ai_qs f n + f n + (ai_qs g n + g n)
    rw [ih]; omega
theorem qs_zero {n : Nat} : ai_qs (fun _ => 0) n = 0 := by
  induction n with
  | zero => rfl
  | succ n ih => show ai_qs (fun _ => 0) n + 0 = 0; rw [ih]
theorem qs_swap {f : Nat → Nat → Nat} {m : Nat} : ∀ {n : Nat}, ai_qs (fun a => ai_qs (fun b => f a b) m) n = ai_qs (fun b => ai_qs (fun a => f a b) n) m := by
  intro n
  induction n with
  | zero => exact (qs_zero (n := m)).symm
  | succ n ih =>
    show ai_qs (fun a => ai_qs (fun b => f a b) m) n + ai_qs (fun b => f n b) m = ai_qs (fun b => ai_qs (fun a => f a b) n + f n b) m
    rw [ih, qs_add]
theorem fac_sum (hV : ai_IV σ) {j q b : Nat} (hj : j < 24) (hq : q < σ.nQ) (hb : b < σ.an q) : ai_qs (fun a => σ.fac j q a b) (σ.an q) = σ.whole j q := by
  unfold ai_S.fac ai_S.whole
  rw [qs_mulr, ← qp_skip (f := σ.bot j q) hb, Nat.mul_comm]
  congr 1
  have h2 := hV.sd j q b hj hq hb
  show ai_qs (fun a => 1 + σ.sd j q a b) (σ.an q) = σ.an q + σ.sa j q b
  rw [qs_one, h2]
theorem gain_le (hV : ai_IV σ) {j c : Nat} (hj : j < 24) (hq : c % 5 < σ.nQ) : σ.whole j (c % 5) * σ.wt c (σ.lead c) ≤ ai_qs (σ.best j c) (σ.an (c % 5)) := by
  have hl := lead_lt hV hq
  rw [← fac_sum hV hj hq hl, ← qs_mulr]
  exact qs_mono (fun a ha => qt_ge (f := fun b => σ.fac j (c % 5) a b * σ.wt c b) hl)
theorem gain_up (hV : ai_IV σ) {j c : Nat} (hj : j < 24) (hq : c % 5 < σ.nQ) : ai_qs (σ.best j c) (σ.an (c % 5)) ≤ σ.whole j (c % 5) * σ.tot c := by
  refine Nat.le_trans (qs_mono (g := fun a => ai_qs (fun b => σ.fac j (c % 5) a b * σ.wt c b) (σ.an (c % 5))) (fun a ha => qt_le_qs)) ?_
  rw [qs_swap]
  refine Nat.le_of_eq ?_
  rw [Nat.mul_comm]
  unfold ai_S.tot
  rw [← qs_mulr]
  refine qs_cong (fun b hb => ?_)
  show ai_qs (fun a => σ.fac j (c % 5) a b * σ.wt c b) (σ.an (c % 5)) = _
  rw [qs_mulr, fac_sum hV hj hq hb, Nat.mul_comm]
theorem gnA_le (hV : ai_IV σ) {j c : Nat} (hj : j < 24) (hq : c % 5 < σ.nQ) : σ.gnA j c ≤ σ.gnB j c := Nat.le_trans (Nat.sub_le _ _) (gain_up hV hj hq)
theorem gnB_pos (hV : ai_IV σ) {j c : Nat} (hc : c < 200) (hq : c % 5 < σ.nQ) : 0 < σ.gnB j c := Nat.mul_pos (whole_pos hV hq) (tot_pos hV hc hq)
theorem gnB_le (hV : ai_IV σ) {j c : Nat} (hj : j < 24) (hc : c < 200) (hq : c % 5 < σ.nQ) : σ.gnB j c ≤ 38416 * (4 * 65536 ^ 24) := Nat.mul_le_mul (whole_le hV hj hq) (tot_le hV hc hq)
theorem px_scr (hX : ai_RX σ I L) {v : Int32} {I2 : Nat → Nat → Int32} (hf : ∀ a, (a < 8 ∨ 55 ≤ a) → I2 a = I a) : ai_PX S F I L (σ, v) (some (.int v)) (S, I2, L, F) := ⟨I2, L, rfl, rfl, hX.frame (fun a h _ => hf a h), fun a ha => ⟨hf a (by omega), rfl⟩⟩
noncomputable def o_share (σ : ai_S) (z1 z2 z3 : Int32) : ai_S × Int32 := ai_c (σ.isC z1 z2) (ai_c (ai_is (σ.an (ai_nn z2)) z3) (σ, nI (1000000 * σ.wt (5 * ai_nn z1 + ai_nn z2) (ai_nn z3) / σ.tot (5 * ai_nn z1 + ai_nn z2))) (σ, -1)) (σ, -1)
noncomputable def o_leading (σ : ai_S) (z1 z2 : Int32) : ai_S × Int32 := ai_c (σ.isC z1 z2) (σ, nI (σ.lead (5 * ai_nn z1 + ai_nn z2))) (σ, -1)
def ai_S.isP (σ : ai_S) (z1 z2 z3 : Int32) : Prop := ∃ t q, t < σ.nT ∧ q < σ.nQ ∧ z2 = nI t ∧ z3 = nI q ∧ ((z1 = nI 0 ∧ σ.isOpen (5 * t + q) = true) ∨ (z1 = nI 1 ∧ σ.ended (5 * t + q) = true) ∨ (z1 = nI 2 ∧ σ.tr (5 * t + q) ≠ 0))
noncomputable def o_gain9 (σ : ai_S) (z1 z2 z3 : Int32) : ai_S × Int32 := ai_c (σ.isJ z1) (ai_c (σ.isC z2 z3) (σ, nI (1000000 * σ.gnA (ai_nn z1) (5 * ai_nn z2 + ai_nn z3) / σ.gnB (ai_nn z1) (5 * ai_nn z2 + ai_nn z3))) (σ, -1)) (σ, -1)
theorem big32 {x : Nat} (h : x ≤ 384160000000 * (4 * 65536 ^ 24)) : x < 2147483648 ^ 32 := Nat.lt_of_le_of_lt h (by decide)

theorem x_gainOf (G : ai_G S F) (hX : ai_RX σ I L) (hV : ai_IV σ) {t q : Nat} (ht : t < σ.nT) (hq : q < σ.nQ) {j : Nat} (hj : j < 24) (hQ : ai_OQ I (σ.an q) (σ.tr (5 * t + q)) (σ.look (5 * t + q)) (σ.lead (5 * t + q)) (σ.tot (5 * t + q)) (σ.wt (5 * t + q))) :
    ai_Ev none 34 0 [some (.ref 8), some (.ref (76 + 4 * j)), some (.int (nI q)), some (.ref 28), none, none, none] [] (S, I, L, F) (ai_Pu S F L (fun I2 => ai_OQ I2 (σ.an q) (σ.tr (5 * t + q)) (σ.look (5 * t + q)) (σ.lead (5 * t + q)) (σ.tot (5 * t + q)) (σ.wt (5 * t + q)) ∧ ai_BG I2 29 32 (σ.gnA j (5 * t + q)) ∧ ai_BG I2 31 32 (σ.gnB j (5 * t + q)) ∧ ∀ z, (z < 8 ∨ (24 ≤ z ∧ z < 29) ∨ 33 ≤ z) → I2 z = I z)) := by
  have hnT := hV.nT
  have hnQ := hV.nQ
  have hc : 5 * t + q < 200 := by omega
  have hm : (5 * t + q) % 5 = q := by omega
  have han := hV.an q hq
  have htr := tr_le hV hc
  have hld : σ.lead (5 * t + q) < σ.an q := by have := lead_lt hV (c := 5 * t + q) (by omega); rw [hm] at this; exact this
  have hb : ∀ a, σ.best j (5 * t + q) a = ai_qt (fun y => σ.fac j q a y * σ.wt (5 * t + q) y) (σ.an q) := fun a => by unfold ai_S.best; rw [hm]
  have hA : σ.gnA j (5 * t + q) = ai_qs (fun x => ai_qt (fun y => σ.fac j q x y * σ.wt (5 * t + q) y) (σ.an q)) (σ.an q) - σ.whole j q * σ.wt (5 * t + q) (σ.lead (5 * t + q)) := by
    unfold ai_S.gnA; rw [hm]; congr 1
    exact qs_cong (fun a _ => hb a)
  have hB : σ.gnB j (5 * t + q) = σ.whole j q * σ.tot (5 * t + q) := by unfold ai_S.gnB; rw [hm]
  have hup := gain_up hV hj (c := 5 * t + q) (by omega)
  have hlo := gain_le hV hj (c := 5 * t + q) (by omega)
  rw [hm, qs_cong (fun a _ => hb a)] at hup hlo
  have hwl := whole_le hV hj hq
  have htl := tot_le hV hc (by omega)
  rw [hA, hB]
  refine o_gain (V := fun a b => σ.sd j q a b) (U := fun x => σ.sa j q x) (F2 := fun a b => σ.fac j q a b) (W := σ.wt (5 * t + q)) (Wh := σ.whole j q) G han.2 htr hld hj (by omega) (fun a b _ _ => by have := (hV.sl j q a b).1; show σ.sd _ _ _ _ < _; omega) (fun o _ => by have := (hV.sl j q 0 o).2; show σ.sa _ _ _ < _; omega) (fun a b _ _ => rfl) (fun a b ha hb2 => by have := fac_le hV hj hq ha hb2; show σ.fac _ _ _ _ < _; omega) (fun b hb2 => big16 (Nat.le_trans (wt_le hV hc (by rw [hm]; exact hb2)) (by decide))) (fun a b ha hb2 => big16 (Nat.mul_le_mul (Nat.le_trans (fac_le hV hj hq ha hb2) (by decide)) (Nat.le_trans (wt_le hV hc (by rw [hm]; exact hb2)) (by decide)))) (big32 (Nat.le_trans hup (Nat.mul_le_mul (Nat.le_trans hwl (by decide)) htl))) (fun a b ha hb2 => hX.sd _ _ _ _ hj (by omega) ha hb2) (fun o ho => hX.sa _ _ _ hj (by omega) ho) (by omega) (big16 (Nat.mul_le_mul (Nat.le_trans hwl (by decide)) (Nat.le_trans (wt_le hV hc (by rw [hm]; exact hld)) (by decide)))) (big32 (Nat.mul_le_mul (Nat.le_trans hwl (by decide)) htl)) hlo rfl hQ
theorem x_leading (G : ai_G S F) (hX : ai_RX σ I L) (hV : ai_IV σ) {z1 : Int32} {z2 : Int32} : ai_Ev none 78 0 [some (.ref 1), some (.int z1), some (.int z2)] [] (S, I, L, F) (ai_PX S F I L (o_leading σ z1 z2)) := by
  have hnT := hV.nT
  have hnQ := hV.nQ
  have hnJ := hV.nJ
  unfold o_leading
  refine ev_aload_n 1 rfl d78_0 rfl ?_
  refine ev_iload_n 2 rfl d78_1 rfl ?_
  refine ev_iload_n 3 rfl d78_2 rfl ?_
  refine ev_cb2 6 rfl 88 d78_3 rfl rfl (by rw [G.1 _ _ (rfl : ai_sp 1 = (8, 0)) (by decide) (by decide)]; rfl) (by omega) rfl (x_isCase G hX hV) (fun hq_3 => ?_) (fun hq_3 => ?_)
  · try rw [c_T hq_3]
    obtain ⟨t, q, ht, hq, rfl, rfl⟩ := hq_3
    refine ev_if_T 11 (by decide) (by decide) d78_6 ?_
    simp only [nn_I (show t < 2147483648 by omega)]
    simp only [nn_I (show q < 2147483648 by omega)]
    refine ev_aload_n 12 rfl d78_11 rfl ?_
    refine ev_iload_n 13 rfl d78_12 rfl ?_
    refine ev_iload_n 14 rfl d78_13 rfl ?_
    refine ev_cu2 17 rfl 104 d78_14 rfl rfl (by rw [G.1 _ _ (rfl : ai_sp 1 = (8, 0)) (by decide) (by decide)]; rfl) (by omega) rfl (x_weigh G hX hV (by omega) (by omega)) (fun I_1 hr_14 => ?_)
    obtain ⟨hQ, hfo⟩ := hr_14
    have hX2 : ai_RX σ I_1 L := hX.frame (fun a h _ => hfo a (by omega))
    refine ev_aload_n 18 rfl d78_17 rfl ?_
    refine ev_getr 21 rfl 8 13 d78_18 rfl (by omega) (G.1 _ _ (rfl : ai_sp 1 = (8, 0)) (by decide) (by decide)) (G.2 _ _ _ (rfl : ai_rf 1 13 = some 8)) ?_
    refine ev_geti (v := nI (σ.lead (5 * t + q))) 24 rfl 3 7 d78_21 rfl (by omega) (G.1 _ _ (rfl : ai_sp 8 = (3, 0)) (by decide) (by decide)) hQ.2.1 ?_
    refine ev_iret (Or.inl rfl) d78_24 ?_
    exact px_scr hX (fun a h => hfo a (by omega))
  · try rw [c_F hq_3]
    refine ev_if_F 11 9 (by decide) rfl (by decide) d78_6 ?_
    refine ev_iconst (v := (-1)) 10 rfl d78_9 (by decide) ?_
    refine ev_iret (Or.inl rfl) d78_10 ?_
    exact px_same hX
theorem x_share (G : ai_G S F) (hX : ai_RX σ I L) (hV : ai_IV σ) {z1 : Int32} {z2 : Int32} {z3 : Int32} : ai_Ev none 77 0 [some (.ref 1), some (.int z1), some (.int z2), some (.int z3)] [] (S, I, L, F) (ai_PX S F I L (o_share σ z1 z2 z3)) := by
  have hnT := hV.nT
  have hnQ := hV.nQ
  have hnJ := hV.nJ
  unfold o_share
  refine ev_aload_n 1 rfl d77_0 rfl ?_
  refine ev_iload_n 2 rfl d77_1 rfl ?_
  refine ev_iload_n 3 rfl d77_2 rfl ?_
  refine ev_cb2 6 rfl 88 d77_3 rfl rfl (by rw [G.1 _ _ (rfl : ai_sp 1 = (8, 0)) (by decide) (by decide)]; rfl) (by omega) rfl (x_isCase G hX hV) (fun hq_3 => ?_) (fun hq_3 => ?_)
  · try rw [c_T hq_3]
    obtain ⟨t, q, ht, hq, rfl, rfl⟩ := hq_3
    refine ev_if_F 18 9 (by decide) rfl (by decide) d77_6 ?_
    simp only [nn_I (show t < 2147483648 by omega)]
    simp only [nn_I (show q < 2147483648 by omega)]
    have hc : 5 * t + q < 200 := by omega
    have hm : (5 * t + q) % 5 = q := by omega
    have han := hV.an q hq
    refine ev_aload_n 10 rfl d77_9 rfl ?_
    refine ev_iload_n 11 rfl d77_10 rfl ?_
    refine ev_iload_n 12 rfl d77_11 rfl ?_
    refine ev_cb2 15 rfl 87 d77_12 rfl rfl (by rw [G.1 _ _ (rfl : ai_sp 1 = (8, 0)) (by decide) (by decide)]; rfl) (by omega) rfl (x_isAnswerN G hX hV (by omega)) (fun hq_12 => ?_) (fun hq_12 => ?_)
    · try rw [c_T hq_12]
      obtain ⟨b, hb, rfl⟩ := hq_12
      refine ev_if_T 20 (by decide) (by decide) d77_15 ?_
      simp only [nn_I (show b < 2147483648 by omega)]
      have hwb := wt_le hV hc (b := b) (by rw [hm]; exact hb)
      have htb := tot_le hV hc (by omega)
      have htp := tot_pos hV hc (by omega)
      have hwt : σ.wt (5 * t + q) b ≤ σ.tot (5 * t + q) := by
        have h9 := qs_le (f := σ.wt (5 * t + q)) hb
        unfold ai_S.tot; rw [hm]; exact Nat.le_trans (Nat.le_add_left _ _) h9
      have hf20 : 1048576 * σ.tot (5 * t + q) < 2147483648 ^ 32 := big32 (Nat.mul_le_mul (by decide) htb)
      have hfA : σ.wt (5 * t + q) b < 2147483648 ^ 32 := big32 (Nat.le_trans hwb (by decide))
      have hfm : 1000000 * σ.wt (5 * t + q) b < 2147483648 ^ 32 := big32 (Nat.mul_le_mul (by decide) (Nat.le_trans hwb (by decide)))
      have hfq : 1000000 * σ.wt (5 * t + q) b < 1048576 * σ.tot (5 * t + q) := by omega
      refine ev_aload_n 21 rfl d77_20 rfl ?_
      refine ev_iload_n 22 rfl d77_21 rfl ?_
      refine ev_iload_n 23 rfl d77_22 rfl ?_
      refine ev_cu2 26 rfl 104 d77_23 rfl rfl (by rw [G.1 _ _ (rfl : ai_sp 1 = (8, 0)) (by decide) (by decide)]; rfl) (by omega) rfl (x_weigh G hX hV (by omega) (by omega)) (fun I_1 hr_23 => ?_)
      obtain ⟨hQ, hfo⟩ := hr_23
      have hX2 : ai_RX σ I_1 L := hX.frame (fun a h _ => hfo a (by omega))
      refine ev_aload_n 27 rfl d77_26 rfl ?_
      refine ev_getr 30 rfl 8 15 d77_27 rfl (by omega) (G.1 _ _ (rfl : ai_sp 1 = (8, 0)) (by decide) (by decide)) (G.2 _ _ _ (rfl : ai_rf 1 15 = some 28)) ?_
      refine ev_aload_n 31 rfl d77_30 rfl ?_
      refine ev_getr 34 rfl 8 13 d77_31 rfl (by omega) (G.1 _ _ (rfl : ai_sp 1 = (8, 0)) (by decide) (by decide)) (G.2 _ _ _ (rfl : ai_rf 1 13 = some 8)) ?_
      refine ev_getr 37 rfl 3 0 d77_34 rfl (by omega) (G.1 _ _ (rfl : ai_sp 8 = (3, 0)) (by decide) (by decide)) (G.2 _ _ _ (rfl : ai_rf 8 0 = some 9)) ?_
      refine ev_iload_n 38 rfl d77_37 rfl ?_
      refine ev_aald_n 39 rfl d77_38 (by omega) (by decide) (G.1 _ _ (rfl : ai_sp 9 = (108, 4)) (by decide) (by decide)) (by omega) (by decide) (G.2 _ _ _ (rf_weight (by omega))) ?_
      refine ev_aload_n 40 rfl d77_39 rfl ?_
      refine ev_getr 43 rfl 8 13 d77_40 rfl (by omega) (G.1 _ _ (rfl : ai_sp 1 = (8, 0)) (by decide) (by decide)) (G.2 _ _ _ (rfl : ai_rf 1 13 = some 8)) ?_
      refine ev_getr 46 rfl 3 1 d77_43 rfl (by omega) (G.1 _ _ (rfl : ai_sp 8 = (3, 0)) (by decide) (by decide)) (G.2 _ _ _ (rfl : ai_rf 8 1 = some 10)) ?_
      refine ev_cu2 49 rfl 38 d77_46 rfl rfl (by rw [G.1 _ _ (rfl : ai_sp 28 = (5, 0)) (by decide) (by decide)]; rfl) (by omega) rfl (r_set G rat_28 (by decide) (by decide) (by decide) (big_w (b := b) (by omega)) (big_16 10 (by omega)) (by omega) (by omega) (hQ.1.2.2.2 b (by omega)) hQ.2.2 (big32 (Nat.le_trans hwb (by decide))) (big32 (Nat.le_trans htb (by decide)))) (fun I_2 hr_46 => ?_)
      obtain ⟨hA, hB, hf2⟩ := hr_46
      refine ev_aload_n 50 rfl d77_49 rfl ?_
      refine ev_getr 53 rfl 8 15 d77_50 rfl (by omega) (G.1 _ _ (rfl : ai_sp 1 = (8, 0)) (by decide) (by decide)) (G.2 _ _ _ (rfl : ai_rf 1 15 = some 28)) ?_
      refine ev_ldc (v := nI 1000000) 55 rfl d77_53 (by decide) ?_
      refine ev_cy1 58 rfl 41 d77_55 rfl rfl (by rw [G.1 _ _ (rfl : ai_sp 28 = (5, 0)) (by decide) (by decide)]; rfl) (by omega) rfl (r_floor (A := σ.wt (5 * t + q) b) (B := σ.tot (5 * t + q)) G rat_28 (by decide) (by decide) (m := 1000000) (by decide) hf20 hA hB hfA hfm hfq) (fun v_4 I_3 hr_55 => ?_)
      obtain ⟨rfl, hf3⟩ := hr_55
      refine ev_iret (Or.inl rfl) d77_58 ?_
      exact px_scr hX (fun a h => by rw [hf3 a (by omega), hf2 a (by omega)]; exact hfo a (by omega))
    · try rw [c_F hq_12]
      refine ev_if_F 20 18 (by decide) rfl (by decide) d77_15 ?_
      refine ev_iconst (v := (-1)) 19 rfl d77_18 (by decide) ?_
      refine ev_iret (Or.inl rfl) d77_19 ?_
      exact px_same hX
  · try rw [c_F hq_3]
    refine ev_if_T 18 (by decide) (by decide) d77_6 ?_
    refine ev_iconst (v := (-1)) 19 rfl d77_18 (by decide) ?_
    refine ev_iret (Or.inl rfl) d77_19 ?_
    exact px_same hX
theorem x_gain (G : ai_G S F) (hX : ai_RX σ I L) (hV : ai_IV σ) {z1 : Int32} {z2 : Int32} {z3 : Int32} : ai_Ev none 81 0 [some (.ref 1), some (.int z1), some (.int z2), some (.int z3)] [] (S, I, L, F) (ai_PX S F I L (o_gain9 σ z1 z2 z3)) := by
  have hnT := hV.nT
  have hnQ := hV.nQ
  have hnJ := hV.nJ
  unfold o_gain9
  refine ev_aload_n 1 rfl d81_0 rfl ?_
  refine ev_iload_n 2 rfl d81_1 rfl ?_
  refine ev_cb1 5 rfl 85 d81_2 rfl rfl (by rw [G.1 _ _ (rfl : ai_sp 1 = (8, 0)) (by decide) (by decide)]; rfl) (by omega) rfl (x_isJ G hX hV) (fun hq_2 => ?_) (fun hq_2 => ?_)
  · try rw [c_T hq_2]
    obtain ⟨j, hj, hjl, rfl⟩ := hq_2
    refine ev_if_F 17 8 (by decide) rfl (by decide) d81_5 ?_
    simp only [nn_I (show j < 2147483648 by omega)]
    refine ev_aload_n 9 rfl d81_8 rfl ?_
    refine ev_iload_n 10 rfl d81_9 rfl ?_
    refine ev_iload_n 11 rfl d81_10 rfl ?_
    refine ev_cb2 14 rfl 88 d81_11 rfl rfl (by rw [G.1 _ _ (rfl : ai_sp 1 = (8, 0)) (by decide) (by decide)]; rfl) (by omega) rfl (x_isCase G hX hV) (fun hq_11 => ?_) (fun hq_11 => ?_)
    · try rw [c_T hq_11]
      obtain ⟨t, q, ht, hq, rfl, rfl⟩ := hq_11
      refine ev_if_T 19 (by decide) (by decide) d81_14 ?_
      simp only [nn_I (show t < 2147483648 by omega)]
      simp only [nn_I (show q < 2147483648 by omega)]
      have hc : 5 * t + q < 200 := by omega
      have hm : (5 * t + q) % 5 = q := by omega
      have h1 := gnA_le hV (j := j) (c := 5 * t + q) (by omega) (by omega)
      have h2 := gnB_pos hV (j := j) hc (by omega)
      have h3 := gnB_le hV (j := j) (by omega) hc (by omega)
      have hf20 : 1048576 * σ.gnB j (5 * t + q) < 2147483648 ^ 32 := big32 (Nat.le_trans (Nat.mul_le_mul_left _ h3) (by decide))
      have hfA : σ.gnA j (5 * t + q) < 2147483648 ^ 32 := big32 (Nat.le_trans (Nat.le_trans h1 h3) (by decide))
      have hfm : 1000000 * σ.gnA j (5 * t + q) < 2147483648 ^ 32 := big32 (Nat.le_trans (Nat.mul_le_mul_left _ (Nat.le_trans h1 h3)) (by decide))
      have hfq : 1000000 * σ.gnA j (5 * t + q) < 1048576 * σ.gnB j (5 * t + q) := by omega
      refine ev_aload_n 20 rfl d81_19 rfl ?_
      refine ev_iload_n 21 rfl d81_20 rfl ?_
      refine ev_iload_n 22 rfl d81_21 rfl ?_
      refine ev_cu2 25 rfl 104 d81_22 rfl rfl (by rw [G.1 _ _ (rfl : ai_sp 1 = (8, 0)) (by decide) (by decide)]; rfl) (by omega) rfl (x_weigh G hX hV (by omega) (by omega)) (fun I_1 hr_22 => ?_)
      obtain ⟨hQ, hfo⟩ := hr_22
      have hX2 : ai_RX σ I_1 L := hX.frame (fun a h _ => hfo a (by omega))
      refine ev_aload_n 26 rfl d81_25 rfl ?_
      refine ev_getr 29 rfl 8 13 d81_26 rfl (by omega) (G.1 _ _ (rfl : ai_sp 1 = (8, 0)) (by decide) (by decide)) (G.2 _ _ _ (rfl : ai_rf 1 13 = some 8)) ?_
      refine ev_aload_n 30 rfl d81_29 rfl ?_
      refine ev_getr 33 rfl 8 2 d81_30 rfl (by omega) (G.1 _ _ (rfl : ai_sp 1 = (8, 0)) (by decide) (by decide)) (G.2 _ _ _ (rfl : ai_rf 1 2 = some 4)) ?_
      refine ev_iload_n 34 rfl d81_33 rfl ?_
      refine ev_aald_n 35 rfl d81_34 (by omega) (by decide) (G.1 _ _ (rfl : ai_sp 4 = (106, 24)) (by decide) (by decide)) (by omega) (by decide) (G.2 _ _ _ (rf_judge (by omega))) ?_
      refine ev_iload_n 36 rfl d81_35 rfl ?_
      refine ev_aload_n 37 rfl d81_36 rfl ?_
      refine ev_getr 40 rfl 8 15 d81_37 rfl (by omega) (G.1 _ _ (rfl : ai_sp 1 = (8, 0)) (by decide) (by decide)) (G.2 _ _ _ (rfl : ai_rf 1 15 = some 28)) ?_
      refine ev_cu3 43 rfl 34 d81_40 rfl rfl (by rw [G.1 _ _ (rfl : ai_sp 8 = (3, 0)) (by decide) (by decide)]; rfl) (by omega) rfl (x_gainOf G hX2 hV (t := t) (q := q) (by omega) (by omega) (j := j) (by omega) hQ) (fun I_2 hr_40 => ?_)
      obtain ⟨hQ2, hA, hB, hf2⟩ := hr_40
      refine ev_aload_n 44 rfl d81_43 rfl ?_
      refine ev_getr 47 rfl 8 15 d81_44 rfl (by omega) (G.1 _ _ (rfl : ai_sp 1 = (8, 0)) (by decide) (by decide)) (G.2 _ _ _ (rfl : ai_rf 1 15 = some 28)) ?_
      refine ev_ldc (v := nI 1000000) 49 rfl d81_47 (by decide) ?_
      refine ev_cy1 52 rfl 41 d81_49 rfl rfl (by rw [G.1 _ _ (rfl : ai_sp 28 = (5, 0)) (by decide) (by decide)]; rfl) (by omega) rfl (r_floor (A := σ.gnA j (5 * t + q)) (B := σ.gnB j (5 * t + q)) G rat_28 (by decide) (by decide) (m := 1000000) (by decide) hf20 hA hB hfA hfm hfq) (fun v_4 I_3 hr_49 => ?_)
      obtain ⟨rfl, hf3⟩ := hr_49
      refine ev_iret (Or.inl rfl) d81_52 ?_
      exact px_scr hX (fun a h => by rw [hf3 a (by omega), hf2 a (by omega)]; exact hfo a (by omega))
    · try rw [c_F hq_11]
      refine ev_if_F 19 17 (by decide) rfl (by decide) d81_14 ?_
      refine ev_iconst (v := (-1)) 18 rfl d81_17 (by decide) ?_
      refine ev_iret (Or.inl rfl) d81_18 ?_
      exact px_same hX
  · try rw [c_F hq_2]
    refine ev_if_T 17 (by decide) (by decide) d81_5 ?_
    refine ev_iconst (v := (-1)) 18 rfl d81_17 (by decide) ?_
    refine ev_iret (Or.inl rfl) d81_18 ?_
    exact px_same hX

theorem pb_scr (hX : ai_RX σ I L) {P : Prop} {r : Option Value} {I2 : Nat → Nat → Int32} (h : (P ∧ r = some (.int (nI 1))) ∨ (¬ P ∧ r = some (.int (nI 0)))) (hf : ∀ a, (a < 8 ∨ 55 ≤ a) → I2 a = I a) : ai_PB S F I L σ P r (S, I2, L, F) := ⟨I2, L, h, rfl, hX.frame (fun a h _ => hf a h), fun a ha => ⟨hf a (by omega), rfl⟩⟩
theorem isP_iff (hV : ai_IV σ) {z1 : Int32} {t q : Nat} (ht : t < σ.nT) (hq : q < σ.nQ) : σ.isP z1 (nI t) (nI q) ↔ ((z1 = nI 0 ∧ σ.isOpen (5 * t + q) = true) ∨ (z1 = nI 1 ∧ σ.ended (5 * t + q) = true) ∨ (z1 = nI 2 ∧ σ.tr (5 * t + q) ≠ 0)) := by
  have hnT := hV.nT
  have hnQ := hV.nQ
  constructor
  · rintro ⟨t2, q2, h1, h2, h3, h4, h5⟩
    have e1 := (nI_eq (by omega) (by omega)).mp h3
    have e2 := (nI_eq (by omega) (by omega)).mp h4
    subst e1; subst e2; exact h5
  · exact fun h => ⟨t, q, ht, hq, rfl, rfl, h⟩
theorem qb_01 (b : Bool) : nI (ai_qb b) = 0 ∨ nI (ai_qb b) = 1 := by cases b <;> decide
theorem x_is (G : ai_G S F) (hX : ai_RX σ I L) (hV : ai_IV σ) {z1 z2 z3 : Int32} : ai_Ev none 79 0 [some (.ref 1), some (.int z1), some (.int z2), some (.int z3)] [] (S, I, L, F) (ai_PB S F I L σ (σ.isP z1 z2 z3)) := by
  have hnT := hV.nT
  have hnQ := hV.nQ
  have hnJ := hV.nJ
  refine ev_aload_n 1 rfl d79_0 rfl ?_
  refine ev_iload_n 2 rfl d79_1 rfl ?_
  refine ev_iload_n 3 rfl d79_2 rfl ?_
  refine ev_cb2 6 rfl 88 d79_3 rfl rfl (by rw [G.1 _ _ (rfl : ai_sp 1 = (8, 0)) (by decide) (by decide)]; rfl) (by omega) rfl (x_isCase G hX hV) (fun hq_3 => ?_) (fun hq_3 => ?_)
  · obtain ⟨t, q, ht, hq, rfl, rfl⟩ := hq_3
    refine ev_if_T 11 (by decide) (by decide) d79_6 ?_
    refine ev_iload_n 12 rfl d79_11 rfl ?_
    refine ev_if 30 15 (by decide) rfl cz_ne d79_12 (fun hc_12 => ?_) (fun hc_12 => ?_)
    · refine ev_iload_n 31 rfl d79_30 rfl ?_
      refine ev_iconst (v := nI 1) 32 rfl d79_31 (by decide) ?_
      refine ev_icmp 52 35 (by decide) rfl cz_ne d79_32 (fun hc_32 => ?_) (fun hc_32 => ?_)
      · refine ev_iload_n 53 rfl d79_52 rfl ?_
        refine ev_iconst (v := nI 2) 54 rfl d79_53 (by decide) ?_
        refine ev_icmp 73 57 (by decide) rfl cz_ne d79_54 (fun hc_54 => ?_) (fun hc_54 => ?_)
        · refine ev_iconst (v := nI 0) 74 rfl d79_73 (by decide) ?_
          refine ev_iret (Or.inr ⟨rfl, Or.inl (by decide)⟩) d79_74 ?_
          refine pb_scr hX ?_ (fun _ _ => rfl)
          rw [isP_iff hV ht hq]
          first
            | exact Or.inr ⟨fun h => h.elim (fun h8 => absurd h8.1 (by decide)) (fun h8 => h8.elim (fun h7 => absurd h7.1 (by decide)) (fun h7 => hq_63 h7.2)), rfl⟩
            | exact Or.inr ⟨fun h => h.elim (fun h8 => hc_12 h8.1) (fun h8 => h8.elim (fun h7 => hc_32 h7.1) (fun h7 => hc_54 h7.1)), rfl⟩
        · have e1 : z1 = nI 2 := Classical.not_not.mp hc_54
          subst e1
          refine ev_aload_n 58 rfl d79_57 rfl ?_
          refine ev_iload_n 59 rfl d79_58 rfl ?_
          refine ev_iload_n 60 rfl d79_59 rfl ?_
          refine ev_cp2 63 rfl 89 d79_60 rfl rfl (by rw [G.1 _ _ (rfl : ai_sp 1 = (8, 0)) (by decide) (by decide)]; rfl) (by omega) rfl (x_caseOf G (t := t) (q := q) (by omega) (by omega)) ?_
          refine ev_cb0 66 rfl 13 d79_63 rfl rfl (by rw [G.1 _ _ (sp_case (by omega)) (by omega) (by omega)]; rfl) (by omega) rfl (x_known G hX hV (by omega)) (fun hq_63 => ?_) (fun hq_63 => ?_)
          · refine ev_if_F 73 69 (by decide) rfl (by decide) d79_66 ?_
            refine ev_iconst (v := nI 1) 70 rfl d79_69 (by decide) ?_
            refine ev_goto 74 (by decide) d79_70 ?_
            refine ev_iret (Or.inr ⟨rfl, Or.inr (by decide)⟩) d79_74 ?_
            refine pb_scr hX ?_ (fun _ _ => rfl)
            rw [isP_iff hV ht hq]
            exact Or.inl ⟨Or.inr (Or.inr ⟨rfl, hq_63⟩), rfl⟩
          · refine ev_if_T 73 (by decide) (by decide) d79_66 ?_
            refine ev_iconst (v := nI 0) 74 rfl d79_73 (by decide) ?_
            refine ev_iret (Or.inr ⟨rfl, Or.inl (by decide)⟩) d79_74 ?_
            refine pb_scr hX ?_ (fun _ _ => rfl)
            rw [isP_iff hV ht hq]
            first
              | exact Or.inr ⟨fun h => h.elim (fun h8 => absurd h8.1 (by decide)) (fun h8 => h8.elim (fun h7 => absurd h7.1 (by decide)) (fun h7 => hq_63 h7.2)), rfl⟩
              | exact Or.inr ⟨fun h => h.elim (fun h8 => hc_12 h8.1) (fun h8 => h8.elim (fun h7 => hc_32 h7.1) (fun h7 => hc_54 h7.1)), rfl⟩
      · have e1 : z1 = nI 1 := Classical.not_not.mp hc_32
        subst e1
        refine ev_aload_n 36 rfl d79_35 rfl ?_
        refine ev_iload_n 37 rfl d79_36 rfl ?_
        refine ev_iload_n 38 rfl d79_37 rfl ?_
        refine ev_cu2 41 rfl 104 d79_38 rfl rfl (by rw [G.1 _ _ (rfl : ai_sp 1 = (8, 0)) (by decide) (by decide)]; rfl) (by omega) rfl (x_weigh G hX hV (by omega) (by omega)) (fun I_1 hr_38 => ?_)
        obtain ⟨hQ, hfo⟩ := hr_38
        have hX2 : ai_RX σ I_1 L := hX.frame (fun a h _ => hfo a (by omega))
        refine ev_aload_n 42 rfl d79_41 rfl ?_
        refine ev_aload_n 43 rfl d79_42 rfl ?_
        refine ev_iload_n 44 rfl d79_43 rfl ?_
        refine ev_iload_n 45 rfl d79_44 rfl ?_
        refine ev_cp2 48 rfl 89 d79_45 rfl rfl (by rw [G.1 _ _ (rfl : ai_sp 1 = (8, 0)) (by decide) (by decide)]; rfl) (by omega) rfl (x_caseOf G (t := t) (q := q) (by omega) (by omega)) ?_
        refine ev_cz1 51 rfl 105 d79_48 rfl rfl (by rw [G.1 _ _ (rfl : ai_sp 1 = (8, 0)) (by decide) (by decide)]; rfl) (by omega) rfl (x_ended G hX2 hV ht hq hQ) (fun I_2 hq_48 hr_48 => ?_) (fun I_2 hq_48 hr_48 => ?_)
        · obtain ⟨hQ5, hf5⟩ := hr_48
          refine ev_iret (Or.inr ⟨rfl, Or.inr (by decide)⟩) d79_51 ?_
          refine pb_scr hX ?_ (fun a h => by rw [hf5 a (by omega)]; exact hfo a (by omega))
          rw [isP_iff hV ht hq]
          exact Or.inl ⟨Or.inr (Or.inl ⟨rfl, hq_48⟩), rfl⟩
        · obtain ⟨hQ5, hf5⟩ := hr_48
          refine ev_iret (Or.inr ⟨rfl, Or.inl (by decide)⟩) d79_51 ?_
          refine pb_scr hX ?_ (fun a h => by rw [hf5 a (by omega)]; exact hfo a (by omega))
          rw [isP_iff hV ht hq]
          exact Or.inr ⟨fun h => h.elim (fun h8 => absurd h8.1 (by decide)) (fun h8 => h8.elim (fun h7 => hq_48 h7.2) (fun h7 => absurd h7.1 (by decide))), rfl⟩
    · have e1 : z1 = nI 0 := Classical.not_not.mp hc_12
      subst e1
      refine ev_aload_n 16 rfl d79_15 rfl ?_
      refine ev_iload_n 17 rfl d79_16 rfl ?_
      refine ev_cu1 20 rfl 106 d79_17 rfl rfl (by rw [G.1 _ _ (rfl : ai_sp 1 = (8, 0)) (by decide) (by decide)]; rfl) (by omega) rfl (x_survey G hX hV ht) (fun I_1 hr_17 => ?_)
      obtain ⟨hSV, hf2⟩ := hr_17
      have hql := qb_lt (σ.isOpen (5 * t + q))
      refine ev_aload_n 21 rfl d79_20 rfl ?_
      refine ev_getr 24 rfl 8 14 d79_21 rfl (by omega) (G.1 _ _ (rfl : ai_sp 1 = (8, 0)) (by decide) (by decide)) (G.2 _ _ _ (rfl : ai_rf 1 14 = some 24)) ?_
      refine ev_getr 27 rfl 7 0 d79_24 rfl (by omega) (G.1 _ _ (rfl : ai_sp 24 = (7, 0)) (by decide) (by decide)) (G.2 _ _ _ (rfl : ai_rf 24 0 = some 25)) ?_
      refine ev_iload_n 28 rfl d79_27 rfl ?_
      refine ev_bald_n (v := nI (ai_qb (σ.isOpen (5 * t + q)))) 29 rfl d79_28 (by omega) (by decide) (G.1 _ _ (rfl : ai_sp 25 = (102, 5)) (by decide) (by decide)) (by omega) (by decide) (hSV.1 q hq) ?_
      refine ev_iret (Or.inr ⟨rfl, qb_01 _⟩) d79_29 ?_
      refine pb_scr hX ?_ (fun a h => hf2 a (by omega))
      rw [isP_iff hV ht hq]
      cases hop : σ.isOpen (5 * t + q) with
      | true => exact Or.inl ⟨Or.inl ⟨rfl, rfl⟩, rfl⟩
      | false => exact Or.inr ⟨fun h => h.elim (fun h8 => absurd h8.2 (by decide)) (fun h8 => h8.elim (fun h7 => absurd h7.1 (by decide)) (fun h7 => absurd h7.1 (by decide))), rfl⟩
  · refine ev_if_F 11 9 (by decide) rfl (by decide) d79_6 ?_
    refine ev_iconst (v := nI 0) 10 rfl d79_9 (by decide) ?_
    refine ev_iret (Or.inr ⟨rfl, Or.inl (by decide)⟩) d79_10 ?_
    exact pb_scr hX (Or.inr ⟨fun ⟨t, q, h1, h2, h3, h4, _⟩ => hq_3 ⟨t, q, h1, h2, h3, h4⟩, rfl⟩) (fun _ _ => rfl)
end XGAIN
