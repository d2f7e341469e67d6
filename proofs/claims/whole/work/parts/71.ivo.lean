section IVO
variable {S : List (Nat × Nat)} {F : Nat → Nat → Option Nat} {L : Nat → Nat → Int64} {I : Nat → Nat → Int32} {σ : ai_S}
theorem c_iv {p : Prop} {a b : ai_S × Int32} (ha : p → ai_IV a.1) (hb : ¬ p → ai_IV b.1) : ai_IV (ai_c p a b).1 := by
  by_cases h : p
  · rw [c_T h]; exact ha h
  · rw [c_F h]; exact hb h
theorem is_nn {n : Nat} {z : Int32} (h : ai_is n z) (hn : n ≤ 1000000) : ai_nn z < n := by
  obtain ⟨k, hk, rfl⟩ := h
  rw [nn_I (by omega)]; exact hk
theorem i_row {z1 z2 z3 : Int32} (hV : ai_IV σ) : ai_IV (o_row σ z1 z2 z3).1 := c_iv (fun _ => c_iv (fun _ => iv_refuse hV) (fun _ => c_iv (fun h2 => c_iv (fun h3 => iv_row hV (is_nn h2 (by omega)) (by have := is_nn h3 (by omega); omega)) (fun _ => iv_refuse hV)) (fun _ => iv_refuse hV))) (fun _ => iv_refuse hV)
theorem i_set {z1 z2 : Int32} {v : Int64} (hV : ai_IV σ) : ai_IV (o_set σ z1 z2 v).1 := c_iv (fun _ => c_iv (fun _ => iv_el hV) (fun _ => iv_refuse hV)) (fun _ => iv_refuse hV)
theorem i_copy {z1 z2 z3 z4 z5 : Int32} (hV : ai_IV σ) : ai_IV (o_copy σ z1 z2 z3 z4 z5).1 := c_iv (fun _ => c_iv (fun _ => iv_refuse hV) (fun _ => c_iv (fun _ => c_iv (fun _ => iv_refuse hV) (fun _ => c_iv (fun _ => iv_el hV) (fun _ => iv_refuse hV))) (fun _ => iv_refuse hV))) (fun _ => iv_refuse hV)
theorem i_show {z1 z2 : Int32} (hV : ai_IV σ) : ai_IV (o_show σ z1 z2).1 := c_iv (fun _ => c_iv (fun _ => iv_hold hV (Nat.zero_le _)) (fun _ => c_iv (fun h => iv_hold hV (is_nn h (by have := hV.nJ; omega))) (fun _ => iv_refuse hV))) (fun _ => iv_refuse hV)
theorem i_holds {z1 : Int32} (hV : ai_IV σ) : ai_IV (o_holds σ z1).1 := c_iv (fun _ => hV) (fun _ => hV)
theorem i_countsIn {z1 : Int32} (hV : ai_IV σ) : ai_IV (o_countsIn σ z1).1 := c_iv (fun _ => c_iv (fun _ => iv_refuse hV) (fun _ => c_iv (fun _ => hV) (fun _ => iv_refuse hV))) (fun _ => iv_refuse hV)
theorem i_things {z1 : Int32} (hV : ai_IV σ) : ai_IV (o_things σ z1).1 := c_iv (fun _ => iv_refuse hV) (fun _ => c_iv (fun h => iv_things hV (by have := is_nn h (by omega); have := hV.nT; omega) (Nat.le_add_right _ _)) (fun _ => iv_refuse hV))
theorem i_judge (hV : ai_IV σ) : ai_IV (o_judge σ).1 := c_iv (fun h => iv_judge hV h) (fun _ => iv_refuse hV)
theorem i_know {z1 z2 z3 : Int32} (hV : ai_IV σ) : ai_IV (o_know σ z1 z2 z3).1 := by
  have hnT := hV.nT
  have hnQ := hV.nQ
  refine c_iv (fun h => ?_) (fun _ => iv_refuse hV)
  obtain ⟨t, q, ht, hq, rfl, rfl⟩ := h
  have han := hV.an q hq
  rw [nn_I (show t < 2147483648 by omega), nn_I (show q < 2147483648 by omega)]
  exact c_iv (fun _ => iv_know hV ht hq (Nat.zero_le _)) (fun _ => c_iv (fun h => iv_know hV ht hq (is_nn h (by omega))) (fun _ => iv_refuse hV))
theorem i_rest {z1 : Int32} (hV : ai_IV σ) : ai_IV (o_rest σ z1).1 := c_iv (fun _ => iv_rest hV) (fun _ => iv_refuse hV)
theorem nn_pos {n : Nat} {z : Int32} (h : ai_is n z) (hn : n ≤ 1000000) (h0 : ¬ z = nI 0) : 1 ≤ ai_nn z := by
  obtain ⟨k, hk, rfl⟩ := h
  rw [nn_I (by omega)]
  by_cases e : k = 0
  · subst e; exact absurd rfl h0
  · omega
theorem i_bar {z1 z2 : Int32} (hV : ai_IV σ) : ai_IV (o_bar σ z1 z2).1 := c_iv (fun h => iv_mark hV ⟨nn_pos h.2.1 (by omega) h.2.2, by have := is_nn h.2.1 (by omega); omega⟩) (fun _ => c_iv (fun h => iv_look hV ⟨nn_pos h.2.1 (by omega) h.2.2, by have := is_nn h.2.1 (by omega); omega⟩) (fun _ => c_iv (fun h => iv_haste hV (by have := is_nn h.2 (by omega); omega)) (fun _ => iv_refuse hV)))
theorem i_question {z1 z2 z3 : Int32} (hV : ai_IV σ) : ai_IV (o_question σ z1 z2 z3).1 := by
  have hnQ := hV.nQ
  refine c_iv (fun _ => c_iv (fun h1 => c_iv (fun h2 => c_iv (fun h3 => ?_) (fun _ => iv_refuse hV)) (fun _ => iv_refuse hV)) (fun _ => iv_refuse hV)) (fun _ => iv_refuse hV)
  obtain ⟨⟨n, hn, rfl⟩, hn2⟩ := h1
  have hn3 : ¬ n < 2 := fun q => hn2 (is_T q)
  rw [nn_I (show n < 2147483648 by omega)]
  refine iv_quest hV h3 (by omega) (fun h0 => ?_)
  rcases h2 with h2 | h2
  · omega
  · obtain ⟨p, w, hp, hw, rfl, rfl⟩ := h2.2
    have han := hV.an p hp
    rw [nn_I (show p < 2147483648 by omega), nn_I (show w < 2147483648 by omega)]
    exact ⟨hp, hw⟩
theorem i_answer {z1 z2 z3 z4 z5 : Int32} (hV : ai_IV σ) : ai_IV (o_answer σ z1 z2 z3 z4 z5).1 := c_iv (fun h => iv_took hV h) (fun _ => iv_refuse hV)
theorem iv_ago : ∀ (k : Nat) (σ : ai_S) (s n : Nat), ai_IV σ → ai_IV (ai_ago k σ s n).1 := by
  intro k
  induction k with
  | zero => intro σ s n h; exact h
  | succ k ih =>
    intro σ s n h
    show ai_IV (ai_c _ _ _ : ai_S × Nat).1
    by_cases e : 5 * n + 5 ≤ σ.sz s ∧ σ.ar (σ.e5 s n 0) (σ.e5 s n 1) (σ.e5 s n 2) (σ.e5 s n 3) (σ.e5 s n 4) = 0
    · rw [c_T e]; exact ih _ _ _ (iv_took h e.2)
    · rw [c_F e]; exact h
theorem i_answers {z1 : Int32} (hV : ai_IV σ) : ai_IV (o_answers σ z1).1 := c_iv (fun _ => iv_ago _ _ _ _ hV) (fun _ => iv_refuse hV)
theorem i_leave {z1 : Int32} (hV : ai_IV σ) : ai_IV (o_leave σ z1).1 := c_iv (fun h => iv_leave hV (by
  obtain ⟨k, hk, hl, rfl⟩ := h
  have := hV.nJ
  rw [nn_I (by omega)]; exact hk)) (fun _ => iv_refuse hV)
theorem i_next {z1 : Int32} (hV : ai_IV σ) : ai_IV (o_next σ z1).1 := c_iv (fun _ => hV) (fun _ => iv_refuse hV)
theorem i_changed {z1 : Int32} (hV : ai_IV σ) : ai_IV (o_changed σ z1).1 := c_iv (fun _ => hV) (fun _ => hV)
theorem i_agreed {z1 z2 : Int32} (hV : ai_IV σ) : ai_IV (o_agreed σ z1 z2).1 := c_iv (fun _ => hV) (fun _ => hV)
theorem i_looks {z1 z2 : Int32} (hV : ai_IV σ) : ai_IV (o_looks σ z1 z2).1 := c_iv (fun _ => hV) (fun _ => hV)
theorem i_copied {z1 : Int32} (hV : ai_IV σ) : ai_IV (o_copied σ z1).1 := c_iv (fun _ => hV) (fun _ => hV)
theorem i_leading {z1 z2 : Int32} (hV : ai_IV σ) : ai_IV (o_leading σ z1 z2).1 := c_iv (fun _ => hV) (fun _ => hV)
theorem i_status {z1 : Int32} (hV : ai_IV σ) : ai_IV (o_status σ z1).1 := c_iv (fun _ => hV) (fun _ => hV)
theorem i_top {z1 z2 z3 z4 : Int32} (hV : ai_IV σ) : ai_IV (o_top σ z1 z2 z3 z4).1 := c_iv (fun _ => c_iv (fun _ => c_iv (fun _ => hV) (fun _ => hV)) (fun _ => hV)) (fun _ => hV)
theorem i_bottom {z1 z2 z3 : Int32} (hV : ai_IV σ) : ai_IV (o_bottom σ z1 z2 z3).1 := c_iv (fun _ => c_iv (fun _ => hV) (fun _ => hV)) (fun _ => hV)
theorem i_share {z1 z2 z3 : Int32} (hV : ai_IV σ) : ai_IV (o_share σ z1 z2 z3).1 := c_iv (fun _ => c_iv (fun _ => hV) (fun _ => hV)) (fun _ => hV)
theorem i_how {z1 z2 z3 : Int32} (hV : ai_IV σ) : ai_IV (o_how σ z1 z2 z3).1 := c_iv (fun _ => c_iv (fun _ => c_iv (fun _ => hV) (fun _ => hV)) (fun _ => hV)) (fun _ => hV)
theorem i_gain {z1 z2 z3 : Int32} (hV : ai_IV σ) : ai_IV (o_gain9 σ z1 z2 z3).1 := c_iv (fun _ => c_iv (fun _ => hV) (fun _ => hV)) (fun _ => hV)
theorem i_total {z1 z2 : Int32} (hV : ai_IV σ) : ai_IV (o_total σ z1 z2).1 := c_iv (fun _ => hV) (fun _ => hV)
/-- the other side's calls leave a side's cells -/
theorem rx_lo (h : ai_RX σ I L) {I2 : Nat → Nat → Int32} {L2 : Nat → Nat → Int64} (f : ∀ a, a < 572 → I2 a = I a ∧ L2 a = L a) : ai_RX σ I2 L2 := by
  have h1 : ai_RX σ I2 L := h.frame (fun a _ h2 => (f a h2).1)
  exact ⟨h1.nT, h1.nQ, h1.nJ, h1.mk, h1.lk, h1.hs, h1.st, h1.ch, h1.rf, h1.wr, h1.jd, h1.so, h1.sz, (fun s hs i hi => by rw [(f _ (by omega)).2]; exact h.el s hs i hi), h1.an, h1.pa, h1.wa, h1.lf, h1.gn, h1.sr, h1.og, h1.al, h1.sd, h1.sa, h1.tr, h1.ag, h1.nt⟩
theorem rm_hi (h : ai_RM σ I L) {I2 : Nat → Nat → Int32} {L2 : Nat → Nat → Int64} (f : ∀ a, 572 ≤ a → I2 a = I a ∧ L2 a = L a) : ai_RM σ I2 L2 := by
  have h1 : ai_RM σ I2 L := h.frame (fun a h2 _ _ _ => (f a h2).1)
  exact ⟨h1.rf, h1.hd, h1.sz, (fun s hs i hi => by rw [(f _ (by omega)).2]; exact h.el s hs i hi), h1.nT, h1.nQ, h1.nJ, h1.an, h1.pa, h1.wa, h1.tr, h1.ag, h1.lf, h1.sr, h1.gn, h1.gv, h1.mn, h1.old, h1.mk, h1.lk, h1.hs, h1.tp, h1.bt, h1.ch, h1.st⟩
end IVO
