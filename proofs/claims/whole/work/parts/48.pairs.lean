section XCOPY
variable {S : List (Nat × Nat)} {F : Nat → Nat → Option Nat} {L : Nat → Nat → Int64} {I : Nat → Nat → Int32} {σ : ai_S}
def ai_RO (σ : ai_S) (I : Nat → Nat → Int32) (L : Nat → Nat → Int64) : Prop := (I 1 4 = nI σ.nT) ∧ (I 1 5 = nI σ.nQ) ∧ (I 1 6 = nI σ.nJ) ∧ (I 1 7 = nI σ.mk) ∧ (I 1 8 = nI σ.lk) ∧ (I 1 9 = nI σ.hs) ∧ (I 1 11 = nI σ.st) ∧ (∀ i, i < σ.st → I 6 i = nI (σ.ch i)) ∧ (∀ i, i < 7 → I 7 i = σ.rf i) ∧ (∀ s, s < 8 → I (55 + 2 * s) 0 = nI (if 100 < σ.hd s then 1 else 0)) ∧ (∀ s, s < 8 → I (55 + 2 * s) 1 = nI (if 100 < σ.hd s then 0 else σ.hd s) - 1) ∧ (∀ s, s < 8 → 100 < σ.hd s → I (55 + 2 * s) 2 = nI (σ.hd s - 101)) ∧ (∀ s, s < 8 → I (55 + 2 * s) 3 = nI (σ.sz s)) ∧ (∀ s, s < 8 → ∀ i, i < σ.sz s → L (55 + 2 * s + 1) i = σ.el s i) ∧ (∀ q, q < 5 → q < σ.nQ → I (71 + q) 0 = nI (σ.an q)) ∧ (∀ q, q < 5 → 0 < q → q < σ.nQ → I (71 + q) 1 = nI (σ.pa q)) ∧ (∀ q, q < 5 → 0 < q → q < σ.nQ → I (71 + q) 2 = nI (σ.wa q)) ∧ (∀ j, j < 24 → I (76 + 4 * j) 0 = nI (ai_qb (σ.lf j))) ∧ (∀ j, j < 24 → I (76 + 4 * j) 1 = nI (σ.given j)) ∧ (∀ j, j < 24 → I (76 + 4 * j) 2 = σ.sr j) ∧ (∀ j q a b, j < 24 → q < 5 → a < 4 → b < 4 → I (76 + 4 * j + 2) ((q * 4 + a) * 4 + b) = nI (σ.sd j q a b)) ∧ (∀ j q b, j < 24 → q < 5 → b < 4 → I (76 + 4 * j + 3) (q * 4 + b) = nI (σ.sa j q b)) ∧ (∀ c, c < 200 → I (172 + 2 * c) 0 = nI (σ.tr c) - 1) ∧ (∀ c, c < 200 → I (172 + 2 * c) 1 = nI (σ.ag c) - 1) ∧ (∀ c j, c < 200 → j < 24 → I (172 + 2 * c + 1) j = nI (σ.gv j c))
theorem ai_RO.nT {σ : ai_S} {I : Nat → Nat → Int32} {L : Nat → Nat → Int64} (h : ai_RO σ I L) : I 1 4 = nI σ.nT := h.1
theorem ai_RO.nQ {σ : ai_S} {I : Nat → Nat → Int32} {L : Nat → Nat → Int64} (h : ai_RO σ I L) : I 1 5 = nI σ.nQ := h.2.1
theorem ai_RO.nJ {σ : ai_S} {I : Nat → Nat → Int32} {L : Nat → Nat → Int64} (h : ai_RO σ I L) : I 1 6 = nI σ.nJ := h.2.2.1
theorem ai_RO.mk {σ : ai_S} {I : Nat → Nat → Int32} {L : Nat → Nat → Int64} (h : ai_RO σ I L) : I 1 7 = nI σ.mk := h.2.2.2.1
theorem ai_RO.lk {σ : ai_S} {I : Nat → Nat → Int32} {L : Nat → Nat → Int64} (h : ai_RO σ I L) : I 1 8 = nI σ.lk := h.2.2.2.2.1
theorem ai_RO.hs {σ : ai_S} {I : Nat → Nat → Int32} {L : Nat → Nat → Int64} (h : ai_RO σ I L) : I 1 9 = nI σ.hs := h.2.2.2.2.2.1
theorem ai_RO.st {σ : ai_S} {I : Nat → Nat → Int32} {L : Nat → Nat → Int64} (h : ai_RO σ I L) : I 1 11 = nI σ.st := h.2.2.2.2.2.2.1
theorem ai_RO.ch {σ : ai_S} {I : Nat → Nat → Int32} {L : Nat → Nat → Int64} (h : ai_RO σ I L) : ∀ i, i < σ.st → I 6 i = nI (σ.ch i) := h.2.2.2.2.2.2.2.1
theorem ai_RO.rf {σ : ai_S} {I : Nat → Nat → Int32} {L : Nat → Nat → Int64} (h : ai_RO σ I L) : ∀ i, i < 7 → I 7 i = σ.rf i := h.2.2.2.2.2.2.2.2.1
theorem ai_RO.wr {σ : ai_S} {I : Nat → Nat → Int32} {L : Nat → Nat → Int64} (h : ai_RO σ I L) : ∀ s, s < 8 → I (55 + 2 * s) 0 = nI (if 100 < σ.hd s then 1 else 0) := h.2.2.2.2.2.2.2.2.2.1
theorem ai_RO.jd {σ : ai_S} {I : Nat → Nat → Int32} {L : Nat → Nat → Int64} (h : ai_RO σ I L) : ∀ s, s < 8 → I (55 + 2 * s) 1 = nI (if 100 < σ.hd s then 0 else σ.hd s) - 1 := h.2.2.2.2.2.2.2.2.2.2.1
theorem ai_RO.so {σ : ai_S} {I : Nat → Nat → Int32} {L : Nat → Nat → Int64} (h : ai_RO σ I L) : ∀ s, s < 8 → 100 < σ.hd s → I (55 + 2 * s) 2 = nI (σ.hd s - 101) := h.2.2.2.2.2.2.2.2.2.2.2.1
theorem ai_RO.sz {σ : ai_S} {I : Nat → Nat → Int32} {L : Nat → Nat → Int64} (h : ai_RO σ I L) : ∀ s, s < 8 → I (55 + 2 * s) 3 = nI (σ.sz s) := h.2.2.2.2.2.2.2.2.2.2.2.2.1
theorem ai_RO.el {σ : ai_S} {I : Nat → Nat → Int32} {L : Nat → Nat → Int64} (h : ai_RO σ I L) : ∀ s, s < 8 → ∀ i, i < σ.sz s → L (55 + 2 * s + 1) i = σ.el s i := h.2.2.2.2.2.2.2.2.2.2.2.2.2.1
theorem ai_RO.an {σ : ai_S} {I : Nat → Nat → Int32} {L : Nat → Nat → Int64} (h : ai_RO σ I L) : ∀ q, q < 5 → q < σ.nQ → I (71 + q) 0 = nI (σ.an q) := h.2.2.2.2.2.2.2.2.2.2.2.2.2.2.1
theorem ai_RO.pa {σ : ai_S} {I : Nat → Nat → Int32} {L : Nat → Nat → Int64} (h : ai_RO σ I L) : ∀ q, q < 5 → 0 < q → q < σ.nQ → I (71 + q) 1 = nI (σ.pa q) := h.2.2.2.2.2.2.2.2.2.2.2.2.2.2.2.1
theorem ai_RO.wa {σ : ai_S} {I : Nat → Nat → Int32} {L : Nat → Nat → Int64} (h : ai_RO σ I L) : ∀ q, q < 5 → 0 < q → q < σ.nQ → I (71 + q) 2 = nI (σ.wa q) := h.2.2.2.2.2.2.2.2.2.2.2.2.2.2.2.2.1
theorem ai_RO.lf {σ : ai_S} {I : Nat → Nat → Int32} {L : Nat → Nat → Int64} (h : ai_RO σ I L) : ∀ j, j < 24 → I (76 + 4 * j) 0 = nI (ai_qb (σ.lf j)) := h.2.2.2.2.2.2.2.2.2.2.2.2.2.2.2.2.2.1
theorem ai_RO.gn {σ : ai_S} {I : Nat → Nat → Int32} {L : Nat → Nat → Int64} (h : ai_RO σ I L) : ∀ j, j < 24 → I (76 + 4 * j) 1 = nI (σ.given j) := h.2.2.2.2.2.2.2.2.2.2.2.2.2.2.2.2.2.2.1
theorem ai_RO.sr {σ : ai_S} {I : Nat → Nat → Int32} {L : Nat → Nat → Int64} (h : ai_RO σ I L) : ∀ j, j < 24 → I (76 + 4 * j) 2 = σ.sr j := h.2.2.2.2.2.2.2.2.2.2.2.2.2.2.2.2.2.2.2.1
theorem ai_RO.sd {σ : ai_S} {I : Nat → Nat → Int32} {L : Nat → Nat → Int64} (h : ai_RO σ I L) : ∀ j q a b, j < 24 → q < 5 → a < 4 → b < 4 → I (76 + 4 * j + 2) ((q * 4 + a) * 4 + b) = nI (σ.sd j q a b) := h.2.2.2.2.2.2.2.2.2.2.2.2.2.2.2.2.2.2.2.2.1
theorem ai_RO.sa {σ : ai_S} {I : Nat → Nat → Int32} {L : Nat → Nat → Int64} (h : ai_RO σ I L) : ∀ j q b, j < 24 → q < 5 → b < 4 → I (76 + 4 * j + 3) (q * 4 + b) = nI (σ.sa j q b) := h.2.2.2.2.2.2.2.2.2.2.2.2.2.2.2.2.2.2.2.2.2.1
theorem ai_RO.tr {σ : ai_S} {I : Nat → Nat → Int32} {L : Nat → Nat → Int64} (h : ai_RO σ I L) : ∀ c, c < 200 → I (172 + 2 * c) 0 = nI (σ.tr c) - 1 := h.2.2.2.2.2.2.2.2.2.2.2.2.2.2.2.2.2.2.2.2.2.2.1
theorem ai_RO.ag {σ : ai_S} {I : Nat → Nat → Int32} {L : Nat → Nat → Int64} (h : ai_RO σ I L) : ∀ c, c < 200 → I (172 + 2 * c) 1 = nI (σ.ag c) - 1 := h.2.2.2.2.2.2.2.2.2.2.2.2.2.2.2.2.2.2.2.2.2.2.2.1
theorem ai_RO.nt {σ : ai_S} {I : Nat → Nat → Int32} {L : Nat → Nat → Int64} (h : ai_RO σ I L) : ∀ c j, c < 200 → j < 24 → I (172 + 2 * c + 1) j = nI (σ.gv j c) := h.2.2.2.2.2.2.2.2.2.2.2.2.2.2.2.2.2.2.2.2.2.2.2.2
def ai_al (σ : ai_S) (y x : Nat) : Int32 := if σ.diff y x = true then -1 else nI (σ.same y x)
theorem ro_of (h : ai_RX σ I L) : ai_RO σ I L := ⟨h.nT, h.nQ, h.nJ, h.mk, h.lk, h.hs, h.st, h.ch, h.rf, h.wr, h.jd, h.so, h.sz, h.el, h.an, h.pa, h.wa, h.lf, h.gn, h.sr, h.sd, h.sa, h.tr, h.ag, h.nt⟩
theorem rx_of (h : ai_RO σ I L) (hog : ∀ j, j < 24 → I (76 + 4 * j) 3 = nI (σ.cop j) - 1) (hal : ∀ y x, x < y → y < 24 → σ.lf x = false → σ.lf y = false → I (76 + 4 * y + 1) x = ai_al σ y x) : ai_RX σ I L := ⟨h.nT, h.nQ, h.nJ, h.mk, h.lk, h.hs, h.st, h.ch, h.rf, h.wr, h.jd, h.so, h.sz, h.el, h.an, h.pa, h.wa, h.lf, h.gn, h.sr, hog, hal, h.sd, h.sa, h.tr, h.ag, h.nt⟩
def ai_S.take (σ : ai_S) (j c g : Nat) : ai_S := (σ.wGv (fun x y => if x = j ∧ y = c then g else σ.gv x y)).wSr (fun x => if x = j then σ.sr x + nI 1 else σ.sr x)
def ai_S.leave (σ : ai_S) (j : Nat) : ai_S := (σ.wLf (fun x => decide (x = j) || σ.lf x)).wGv (fun x y => if x = j then 0 else σ.gv x y)
noncomputable def ai_S.kindB (σ : ai_S) (j : Nat) (z : Int32) : Nat := ai_c (z < nI σ.hs) 1 (ai_c (σ.sr j < nI 20) 0 2)
noncomputable def ai_S.ar (σ : ai_S) (z1 z2 z3 z4 z5 : Int32) : Nat := ai_c (σ.isJ z1) (ai_c (σ.isC z2 z3) (ai_c (ai_is (σ.an (ai_nn z3)) z4) (ai_c (z5 < 0) 6 (ai_c (σ.gv (ai_nn z1) (5 * ai_nn z2 + ai_nn z3) ≠ 0) 6 0)) 6) 1) 1
noncomputable def ai_S.took (σ : ai_S) (z1 z2 z3 z4 z5 : Int32) : ai_S := σ.take (ai_nn z1) (5 * ai_nn z2 + ai_nn z3) (1 + 4 * σ.kindB (ai_nn z1) z5 + ai_nn z4)
noncomputable def o_answer (σ : ai_S) (z1 z2 z3 z4 z5 : Int32) : ai_S × Int32 := ai_c (σ.ar z1 z2 z3 z4 z5 = 0) (σ.took z1 z2 z3 z4 z5, nI (σ.kindB (ai_nn z1) z5)) (σ.refuse (σ.ar z1 z2 z3 z4 z5))
noncomputable def o_leave (σ : ai_S) (z1 : Int32) : ai_S × Int32 := ai_c (σ.isJ z1) (σ.leave (ai_nn z1), nI (σ.given (ai_nn z1))) (σ.refuse 1)
def ai_S.e5 (σ : ai_S) (s n i : Nat) : Int32 := (σ.el s (5 * n + i)).toInt32
noncomputable def ai_ago : Nat → ai_S → Nat → Nat → ai_S × Nat
  | 0, σ, _, n => (σ, n)
  | k + 1, σ, s, n => ai_c (5 * n + 5 ≤ σ.sz s ∧ σ.ar (σ.e5 s n 0) (σ.e5 s n 1) (σ.e5 s n 2) (σ.e5 s n 3) (σ.e5 s n 4) = 0) (ai_ago k (σ.took (σ.e5 s n 0) (σ.e5 s n 1) (σ.e5 s n 2) (σ.e5 s n 3) (σ.e5 s n 4)) s (n + 1)) (σ, n)
noncomputable def o_answers (σ : ai_S) (z1 : Int32) : ai_S × Int32 := ai_c (σ.rr z1 = 0) ((ai_ago 21 σ (ai_nn z1) 0).1, nI (ai_ago 21 σ (ai_nn z1) 0).2) (σ.refuse (σ.rr z1))
theorem x_answerRefusal (G : ai_G S F) (hX : ai_RX σ I L) (hV : ai_IV σ) {z1 z2 z3 z4 z5 : Int32} : ai_Ev none 92 0 [some (.ref 1), some (.int z1), some (.int z2), some (.int z3), some (.int z4), some (.int z5)] [] (S, I, L, F) (ai_Pp S F I L (.int (-(nI (σ.ar z1 z2 z3 z4 z5))))) := by
  have hnT := hV.nT
  have hnQ := hV.nQ
  have hnJ := hV.nJ
  unfold ai_S.ar
  refine ev_aload_n 1 rfl d92_0 rfl ?_
  refine ev_iload_n 2 rfl d92_1 rfl ?_
  refine ev_cb1 5 rfl 85 d92_2 rfl rfl (by rw [G.1 _ _ (rfl : ai_sp 1 = (8, 0)) (by decide) (by decide)]; rfl) (by omega) rfl (x_isJ G hX hV) (fun hq_2 => ?_) (fun hq_2 => ?_)
  · try rw [c_T hq_2]
    obtain ⟨j, hj, hjl, rfl⟩ := hq_2
    refine ev_if_F 17 8 (by decide) rfl (by decide) d92_5 ?_
    simp only [nn_I (show j < 2147483648 by omega)]
    refine ev_aload_n 9 rfl d92_8 rfl ?_
    refine ev_iload_n 10 rfl d92_9 rfl ?_
    refine ev_iload_n 11 rfl d92_10 rfl ?_
    refine ev_cb2 14 rfl 88 d92_11 rfl rfl (by rw [G.1 _ _ (rfl : ai_sp 1 = (8, 0)) (by decide) (by decide)]; rfl) (by omega) rfl (x_isCase G hX hV) (fun hq_11 => ?_) (fun hq_11 => ?_)
    · try rw [c_T hq_11]
      obtain ⟨t, q, ht, hq, rfl, rfl⟩ := hq_11
      refine ev_if_T 19 (by decide) (by decide) d92_14 ?_
      simp only [nn_I (show t < 2147483648 by omega)]
      simp only [nn_I (show q < 2147483648 by omega)]
      have han := hV.an q hq
      refine ev_aload_n 20 rfl d92_19 rfl ?_
      refine ev_iload_n 21 rfl d92_20 rfl ?_
      refine ev_iload 23 rfl d92_21 rfl ?_
      refine ev_cb2 26 rfl 87 d92_23 rfl rfl (by rw [G.1 _ _ (rfl : ai_sp 1 = (8, 0)) (by decide) (by decide)]; rfl) (by omega) rfl (x_isAnswerN G hX hV (by omega)) (fun hq_23 => ?_) (fun hq_23 => ?_)
      · try rw [c_T hq_23]
        obtain ⟨a, ha, rfl⟩ := hq_23
        refine ev_if_F 47 29 (by decide) rfl (by decide) d92_26 ?_
        refine ev_iload 31 rfl d92_29 rfl ?_
        refine ev_if 47 34 (by decide) rfl cz_lt d92_31 (fun hc_31 => ?_) (fun hc_31 => ?_)
        · rw [c_T hc_31]
          try rw [c_T hc_31]
          refine ev_bipush (v := (-6)) 49 rfl d92_47 (by decide) ?_
          refine ev_iret (Or.inl rfl) d92_49 ?_
          exact ⟨rfl, rfl⟩
        · rw [c_F hc_31]
          try rw [c_F hc_31]
          obtain ⟨x, hx, rfl⟩ := nn_nI (nl_le hc_31)
          refine ev_aload_n 35 rfl d92_34 rfl ?_
          refine ev_iload_n 36 rfl d92_35 rfl ?_
          refine ev_iload_n 37 rfl d92_36 rfl ?_
          refine ev_cp2 40 rfl 89 d92_37 rfl rfl (by rw [G.1 _ _ (rfl : ai_sp 1 = (8, 0)) (by decide) (by decide)]; rfl) (by omega) rfl (x_caseOf G (t := t) (q := q) (by omega) (by omega)) ?_
          refine ev_iload_n 41 rfl d92_40 rfl ?_
          refine ev_cb1 44 rfl 14 d92_41 rfl rfl (by rw [G.1 _ _ (sp_case (by omega)) (by omega) (by omega)]; rfl) (by omega) rfl (x_answered G hX hV (by omega) (by omega)) (fun hq_41 => ?_) (fun hq_41 => ?_)
          · try rw [c_T hq_41]
            refine ev_if_F 50 47 (by decide) rfl (by decide) d92_44 ?_
            refine ev_bipush (v := (-6)) 49 rfl d92_47 (by decide) ?_
            refine ev_iret (Or.inl rfl) d92_49 ?_
            exact ⟨rfl, rfl⟩
          · try rw [c_F hq_41]
            refine ev_if_T 50 (by decide) (by decide) d92_44 ?_
            refine ev_iconst (v := nI 0) 51 rfl d92_50 (by decide) ?_
            refine ev_iret (Or.inl rfl) d92_51 ?_
            exact ⟨rfl, rfl⟩
      · try rw [c_F hq_23]
        refine ev_if_T 47 (by decide) (by decide) d92_26 ?_
        refine ev_bipush (v := (-6)) 49 rfl d92_47 (by decide) ?_
        refine ev_iret (Or.inl rfl) d92_49 ?_
        exact ⟨rfl, rfl⟩
    · try rw [c_F hq_11]
      refine ev_if_F 19 17 (by decide) rfl (by decide) d92_14 ?_
      refine ev_iconst (v := (-1)) 18 rfl d92_17 (by decide) ?_
      refine ev_iret (Or.inl rfl) d92_18 ?_
      exact ⟨rfl, rfl⟩
  · try rw [c_F hq_2]
    refine ev_if_T 17 (by decide) (by decide) d92_5 ?_
    refine ev_iconst (v := (-1)) 18 rfl d92_17 (by decide) ?_
    refine ev_iret (Or.inl rfl) d92_18 ?_
    exact ⟨rfl, rfl⟩
theorem ar_0 {z1 z2 z3 z4 z5 : Int32} (h : σ.ar z1 z2 z3 z4 z5 = 0) (hnT : σ.nT ≤ 40) (hnQ : σ.nQ ≤ 5) (hnJ : σ.nJ ≤ 24) : ∃ j t q a, z1 = nI j ∧ z2 = nI t ∧ z3 = nI q ∧ z4 = nI a ∧ j < σ.nJ ∧ σ.lf j = false ∧ t < σ.nT ∧ q < σ.nQ ∧ a < σ.an q ∧ ¬ z5 < 0 ∧ σ.gv j (5 * t + q) = 0 := by
  unfold ai_S.ar at h
  by_cases h1 : σ.isJ z1
  · rw [c_T h1] at h
    by_cases h2 : σ.isC z2 z3
    · rw [c_T h2] at h
      obtain ⟨j, hj, hl, rfl⟩ := h1
      obtain ⟨t, q, ht, hq, rfl, rfl⟩ := h2
      rw [nn_I (show q < 2147483648 by omega), nn_I (show j < 2147483648 by omega), nn_I (show t < 2147483648 by omega)] at h
      by_cases h3 : ai_is (σ.an q) z4
      · rw [c_T h3] at h
        by_cases h4 : z5 < 0
        · rw [c_T h4] at h; omega
        · rw [c_F h4] at h
          by_cases h5 : σ.gv j (5 * t + q) ≠ 0
          · rw [c_T h5] at h; omega
          · obtain ⟨a, ha, rfl⟩ := h3
            exact ⟨j, t, q, a, rfl, rfl, rfl, rfl, hj, hl, ht, hq, ha, h4, Classical.not_not.mp h5⟩
      · rw [c_F h3] at h; omega
    · rw [c_F h2] at h; omega
  · rw [c_F h1] at h; omega
theorem ar_le {z1 z2 z3 z4 z5 : Int32} : σ.ar z1 z2 z3 z4 z5 ≤ 6 := by
  unfold ai_S.ar
  by_cases h1 : σ.isJ z1
  · rw [c_T h1]
    by_cases h2 : σ.isC z2 z3
    · rw [c_T h2]
      by_cases h3 : ai_is (σ.an (ai_nn z3)) z4
      · rw [c_T h3]
        by_cases h4 : z5 < 0
        · rw [c_T h4]; omega
        · rw [c_F h4]
          by_cases h5 : σ.gv (ai_nn z1) (5 * ai_nn z2 + ai_nn z3) ≠ 0
          · rw [c_T h5]; omega
          · rw [c_F h5]; omega
      · rw [c_F h3]; omega
    · rw [c_F h2]; omega
  · rw [c_F h1]; omega
theorem qn_one {p p2 : Nat → Bool} {c : Nat} (h : ∀ k, k ≠ c → p2 k = p k) (h0 : p c = false) : ∀ {n : Nat}, ai_qn p2 n = ai_qn p n + (if c < n then ai_qb (p2 c) else 0) := by
  intro n
  induction n with
  | zero => rfl
  | succ n ih =>
    show ai_qn p2 n + ai_qb (p2 n) = ai_qn p n + ai_qb (p n) + _
    rw [ih]
    by_cases e : n = c
    · subst e; rw [if_neg (by omega), if_pos (by omega), h0]; simp [ai_qb]
    · rw [h n e]
      by_cases e2 : c < n
      · rw [if_pos e2, if_pos (by omega)]; omega
      · rw [if_neg e2, if_neg (by omega)]; omega
theorem take_gv {j c g x y : Nat} : (σ.take j c g).gv x y = if x = j ∧ y = c then g else σ.gv x y := rfl
theorem leave_gv {j x y : Nat} : (σ.leave j).gv x y = if x = j then 0 else σ.gv x y := rfl
theorem fair_of {σ2 : ai_S} {j c j2 : Nat} (h : σ2.gv j c = σ.gv j2 c) : σ2.fair j c = σ.fair j2 c := by unfold ai_S.fair; rw [h]
theorem said_of {σ2 : ai_S} {j c : Nat} (h : σ2.gv j c = σ.gv j c) : σ2.said j c = σ.said j c := by unfold ai_S.said; rw [h]
theorem both_of {σ2 : ai_S} {y x c : Nat} (h1 : σ2.gv x c = σ.gv x c) (h2 : σ2.gv y c = σ.gv y c) : σ2.both y x c = σ.both y x c := by unfold ai_S.both; rw [fair_of h1, fair_of h2]
theorem al_of {σ2 : ai_S} {y x : Nat} (h1 : ∀ c, c < 200 → σ2.gv x c = σ.gv x c) (h2 : ∀ c, c < 200 → σ2.gv y c = σ.gv y c) : σ2.same y x = σ.same y x ∧ σ2.diff y x = σ.diff y x := by
  constructor
  · exact qn_cong (fun c hc => both_of (h1 c hc) (h2 c hc))
  · unfold ai_S.diff
    rw [qn_cong (g := fun c => σ.both y x c && !(σ.said x c == σ.said y c)) (fun c hc => by rw [both_of (h1 c hc) (h2 c hc), said_of (h1 c hc), said_of (h2 c hc)])]
theorem not_fair0 {j c : Nat} (h : σ.gv j c = 0) : σ.fair j c = false := by unfold ai_S.fair; rw [h]; rfl
theorem both_sym {y x c : Nat} : σ.both y x c = σ.both x y c := by unfold ai_S.both; exact Bool.and_comm _ _
/-- a pair with the giver: the answers that are there now, with the new one -/
theorem pair_take {j k c g : Nat} (hc : c < 200) (hjk : k ≠ j) (h0 : σ.gv j c = 0) {y x : Nat} (hp : (y = j ∧ x = k) ∨ (y = k ∧ x = j)) :
    (σ.take j c g).same y x = σ.same y x + ai_qb ((σ.take j c g).fair j c && σ.fair k c) ∧ ((σ.take j c g).diff y x = (σ.diff y x || ((σ.take j c g).fair j c && σ.fair k c && !(σ.said k c == (σ.take j c g).said j c)))) := by
  have hk : ∀ d, (σ.take j c g).gv k d = σ.gv k d := fun d => by rw [take_gv, if_neg (by omega)]
  have hj : ∀ d, d ≠ c → (σ.take j c g).gv j d = σ.gv j d := fun d hd => by rw [take_gv, if_neg (by omega)]
  have hb : ∀ d, d ≠ c → (σ.take j c g).both y x d = σ.both y x d := fun d hd => by
    rcases hp with ⟨rfl, rfl⟩ | ⟨rfl, rfl⟩
    · exact both_of (hk d) (hj d hd)
    · exact both_of (hj d hd) (hk d)
  have hb0 : σ.both y x c = false := by
    unfold ai_S.both
    rcases hp with ⟨rfl, rfl⟩ | ⟨rfl, rfl⟩
    · rw [not_fair0 h0]; simp
    · rw [not_fair0 h0]; rfl
  have hbc : (σ.take j c g).both y x c = ((σ.take j c g).fair j c && σ.fair k c) := by
    unfold ai_S.both
    rcases hp with ⟨rfl, rfl⟩ | ⟨rfl, rfl⟩
    · rw [fair_of (hk c), Bool.and_comm]
    · rw [fair_of (hk c)]
  constructor
  · show ai_qn _ 200 = ai_qn _ 200 + _
    rw [qn_one (p := σ.both y x) (c := c) hb hb0, if_pos hc, hbc]
  · unfold ai_S.diff
    have e : ai_qn (fun d => (σ.take j c g).both y x d && !((σ.take j c g).said x d == (σ.take j c g).said y d)) 200 = ai_qn (fun d => σ.both y x d && !(σ.said x d == σ.said y d)) 200 + ai_qb ((σ.take j c g).fair j c && σ.fair k c && !(σ.said k c == (σ.take j c g).said j c)) := by
      rw [qn_one (p := fun d => σ.both y x d && !(σ.said x d == σ.said y d)) (c := c) (fun d hd => ?_) (by show (σ.both y x c && _) = false; rw [hb0]; rfl), if_pos hc]
      · congr 2
        rw [hbc]
        rcases hp with ⟨rfl, rfl⟩ | ⟨rfl, rfl⟩
        · rw [said_of (hk c)]
        · rw [said_of (hk c)]
          congr 2
          exact Bool.beq_comm
      · show (_ && _) = (_ && _)
        rw [hb d hd]
        rcases hp with ⟨rfl, rfl⟩ | ⟨rfl, rfl⟩
        · rw [said_of (hk d), said_of (hj d hd)]
        · rw [said_of (hk d), said_of (hj d hd)]
    rw [e]
    cases (σ.take j c g).fair j c && σ.fair k c && !(σ.said k c == (σ.take j c g).said j c) with
    | false => simp [ai_qb]
    | true => simp [ai_qb]
theorem same_le {y x : Nat} : σ.same y x ≤ 200 := qn_le _ _
theorem al_meet {j k c g : Nat} (hc : c < 200) (hjk : k ≠ j) (h0 : σ.gv j c = 0) {y x : Nat} (hp : (y = j ∧ x = k) ∨ (y = k ∧ x = j)) (hf : ((σ.take j c g).fair j c && σ.fair k c) = true) :
    (σ.said k c = (σ.take j c g).said j c → ai_al (σ.take j c g) y x = if ai_al σ y x = -1 then -1 else ai_al σ y x + nI 1) ∧ (σ.said k c ≠ (σ.take j c g).said j c → ai_al (σ.take j c g) y x = -1) := by
  have h := pair_take (g := g) hc hjk h0 hp
  rw [hf] at h
  have hs := same_le (σ := σ) (y := y) (x := x)
  constructor
  · intro e
    unfold ai_al
    rw [h.1, h.2, e]
    simp only [BEq.rfl, Bool.not_true, Bool.and_false, Bool.or_false]
    by_cases hd : σ.diff y x = true
    · simp only [if_pos hd, if_true]
    · simp only [if_neg hd]
      rw [if_neg (n1_ne' (by omega))]
      exact (nI_add _ 1).symm
  · intro e
    unfold ai_al
    rw [h.2, if_pos (by simp [e])]
theorem al_nomeet {j k c g : Nat} (hc : c < 200) (hjk : k ≠ j) (h0 : σ.gv j c = 0) {y x : Nat} (hp : (y = j ∧ x = k) ∨ (y = k ∧ x = j)) (hf : ((σ.take j c g).fair j c && σ.fair k c) = false) : ai_al (σ.take j c g) y x = ai_al σ y x := by
  have h := pair_take (g := g) hc hjk h0 hp
  rw [hf] at h
  unfold ai_al
  rw [h.1, h.2]
  simp [ai_qb]
theorem al_other {j c g y x : Nat} (hy : y ≠ j) (hx : x ≠ j) : ai_al (σ.take j c g) y x = ai_al σ y x := by
  have h := al_of (σ2 := σ.take j c g) (σ := σ) (y := y) (x := x) (fun d _ => by rw [take_gv, if_neg (by omega)]) (fun d _ => by rw [take_gv, if_neg (by omega)])
  unfold ai_al; rw [h.1, h.2]
end XCOPY
