section MREN
variable {S : List (Nat × Nat)} {F : Nat → Nat → Option Nat} {L : Nat → Nat → Int64} {I : Nat → Nat → Int32} {σ : ai_S}
def ai_R0 (σ : ai_S) (I : Nat → Nat → Int32) (L : Nat → Nat → Int64) : Prop := (∀ i, i < 7 → I 573 (i + 1) = σ.rf i) ∧ (∀ s, s < 8 → I 574 s = nI (σ.hd s) - 1) ∧ (∀ s, s < 8 → I 575 s = nI (σ.sz s)) ∧ (∀ s, s < 8 → ∀ i, i < σ.sz s → L 576 (100 * s + i) = σ.el s i) ∧ (I 572 5 = nI σ.nT) ∧ (I 572 6 = nI σ.nQ) ∧ (I 572 7 = nI σ.nJ) ∧ (∀ q, q < σ.nQ → I 578 q = nI (σ.an q)) ∧ (∀ q, 0 < q → q < σ.nQ → I 579 q = nI (σ.pa q)) ∧ (∀ q, 0 < q → q < σ.nQ → I 580 q = nI (σ.wa q)) ∧ (∀ c, c < 200 → c % 5 < σ.nQ → I 581 c = nI (σ.tr c) - 1) ∧ (∀ c, c < 200 → c % 5 < σ.nQ → I 582 c = nI (σ.ag c) - 1) ∧ (∀ j, j < 24 → I 583 j = nI (ai_qb (σ.lf j))) ∧ (∀ j, j < 24 → I 584 j = σ.sr j) ∧ (∀ j, j < 24 → σ.lf j = false → I 585 j = nI (σ.given j)) ∧ (∀ j c, j < 24 → c < 200 → σ.lf j = false → c % 5 < σ.nQ → I 586 (200 * j + c) = (if σ.gv j c = 0 then -1 else nI (σ.said j c))) ∧ (∀ j c, j < 24 → c < 200 → σ.lf j = false → c % 5 < σ.nQ → σ.gv j c ≠ 0 → I 587 (200 * j + c) = nI (σ.kind j c)) ∧ (I 572 21 = nI σ.mk) ∧ (I 572 22 = nI σ.lk) ∧ (I 572 23 = nI σ.hs) ∧ (∀ j q a b, j < 24 → q < σ.nQ → a < 4 → b < 4 → I 590 (((5 * j + q) * 4 + a) * 4 + b) = nI (σ.top j q a b)) ∧ (∀ j q b, j < 24 → q < σ.nQ → b < 4 → I 591 ((5 * j + q) * 4 + b) = nI (σ.bot j q b)) ∧ (∀ i, i < σ.st → I 594 i = nI (σ.ch i)) ∧ (I 572 29 = nI σ.st)
theorem ai_R0.rf {σ : ai_S} {I : Nat → Nat → Int32} {L : Nat → Nat → Int64} (h : ai_R0 σ I L) : ∀ i, i < 7 → I 573 (i + 1) = σ.rf i := h.1
theorem ai_R0.hd {σ : ai_S} {I : Nat → Nat → Int32} {L : Nat → Nat → Int64} (h : ai_R0 σ I L) : ∀ s, s < 8 → I 574 s = nI (σ.hd s) - 1 := h.2.1
theorem ai_R0.sz {σ : ai_S} {I : Nat → Nat → Int32} {L : Nat → Nat → Int64} (h : ai_R0 σ I L) : ∀ s, s < 8 → I 575 s = nI (σ.sz s) := h.2.2.1
theorem ai_R0.el {σ : ai_S} {I : Nat → Nat → Int32} {L : Nat → Nat → Int64} (h : ai_R0 σ I L) : ∀ s, s < 8 → ∀ i, i < σ.sz s → L 576 (100 * s + i) = σ.el s i := h.2.2.2.1
theorem ai_R0.nT {σ : ai_S} {I : Nat → Nat → Int32} {L : Nat → Nat → Int64} (h : ai_R0 σ I L) : I 572 5 = nI σ.nT := h.2.2.2.2.1
theorem ai_R0.nQ {σ : ai_S} {I : Nat → Nat → Int32} {L : Nat → Nat → Int64} (h : ai_R0 σ I L) : I 572 6 = nI σ.nQ := h.2.2.2.2.2.1
theorem ai_R0.nJ {σ : ai_S} {I : Nat → Nat → Int32} {L : Nat → Nat → Int64} (h : ai_R0 σ I L) : I 572 7 = nI σ.nJ := h.2.2.2.2.2.2.1
theorem ai_R0.an {σ : ai_S} {I : Nat → Nat → Int32} {L : Nat → Nat → Int64} (h : ai_R0 σ I L) : ∀ q, q < σ.nQ → I 578 q = nI (σ.an q) := h.2.2.2.2.2.2.2.1
theorem ai_R0.pa {σ : ai_S} {I : Nat → Nat → Int32} {L : Nat → Nat → Int64} (h : ai_R0 σ I L) : ∀ q, 0 < q → q < σ.nQ → I 579 q = nI (σ.pa q) := h.2.2.2.2.2.2.2.2.1
theorem ai_R0.wa {σ : ai_S} {I : Nat → Nat → Int32} {L : Nat → Nat → Int64} (h : ai_R0 σ I L) : ∀ q, 0 < q → q < σ.nQ → I 580 q = nI (σ.wa q) := h.2.2.2.2.2.2.2.2.2.1
theorem ai_R0.tr {σ : ai_S} {I : Nat → Nat → Int32} {L : Nat → Nat → Int64} (h : ai_R0 σ I L) : ∀ c, c < 200 → c % 5 < σ.nQ → I 581 c = nI (σ.tr c) - 1 := h.2.2.2.2.2.2.2.2.2.2.1
theorem ai_R0.ag {σ : ai_S} {I : Nat → Nat → Int32} {L : Nat → Nat → Int64} (h : ai_R0 σ I L) : ∀ c, c < 200 → c % 5 < σ.nQ → I 582 c = nI (σ.ag c) - 1 := h.2.2.2.2.2.2.2.2.2.2.2.1
theorem ai_R0.lf {σ : ai_S} {I : Nat → Nat → Int32} {L : Nat → Nat → Int64} (h : ai_R0 σ I L) : ∀ j, j < 24 → I 583 j = nI (ai_qb (σ.lf j)) := h.2.2.2.2.2.2.2.2.2.2.2.2.1
theorem ai_R0.sr {σ : ai_S} {I : Nat → Nat → Int32} {L : Nat → Nat → Int64} (h : ai_R0 σ I L) : ∀ j, j < 24 → I 584 j = σ.sr j := h.2.2.2.2.2.2.2.2.2.2.2.2.2.1
theorem ai_R0.gn {σ : ai_S} {I : Nat → Nat → Int32} {L : Nat → Nat → Int64} (h : ai_R0 σ I L) : ∀ j, j < 24 → σ.lf j = false → I 585 j = nI (σ.given j) := h.2.2.2.2.2.2.2.2.2.2.2.2.2.2.1
theorem ai_R0.gv {σ : ai_S} {I : Nat → Nat → Int32} {L : Nat → Nat → Int64} (h : ai_R0 σ I L) : ∀ j c, j < 24 → c < 200 → σ.lf j = false → c % 5 < σ.nQ → I 586 (200 * j + c) = (if σ.gv j c = 0 then -1 else nI (σ.said j c)) := h.2.2.2.2.2.2.2.2.2.2.2.2.2.2.2.1
theorem ai_R0.mn {σ : ai_S} {I : Nat → Nat → Int32} {L : Nat → Nat → Int64} (h : ai_R0 σ I L) : ∀ j c, j < 24 → c < 200 → σ.lf j = false → c % 5 < σ.nQ → σ.gv j c ≠ 0 → I 587 (200 * j + c) = nI (σ.kind j c) := h.2.2.2.2.2.2.2.2.2.2.2.2.2.2.2.2.1
theorem ai_R0.mk {σ : ai_S} {I : Nat → Nat → Int32} {L : Nat → Nat → Int64} (h : ai_R0 σ I L) : I 572 21 = nI σ.mk := h.2.2.2.2.2.2.2.2.2.2.2.2.2.2.2.2.2.1
theorem ai_R0.lk {σ : ai_S} {I : Nat → Nat → Int32} {L : Nat → Nat → Int64} (h : ai_R0 σ I L) : I 572 22 = nI σ.lk := h.2.2.2.2.2.2.2.2.2.2.2.2.2.2.2.2.2.2.1
theorem ai_R0.hs {σ : ai_S} {I : Nat → Nat → Int32} {L : Nat → Nat → Int64} (h : ai_R0 σ I L) : I 572 23 = nI σ.hs := h.2.2.2.2.2.2.2.2.2.2.2.2.2.2.2.2.2.2.2.1
theorem ai_R0.tp {σ : ai_S} {I : Nat → Nat → Int32} {L : Nat → Nat → Int64} (h : ai_R0 σ I L) : ∀ j q a b, j < 24 → q < σ.nQ → a < 4 → b < 4 → I 590 (((5 * j + q) * 4 + a) * 4 + b) = nI (σ.top j q a b) := h.2.2.2.2.2.2.2.2.2.2.2.2.2.2.2.2.2.2.2.2.1
theorem ai_R0.bt {σ : ai_S} {I : Nat → Nat → Int32} {L : Nat → Nat → Int64} (h : ai_R0 σ I L) : ∀ j q b, j < 24 → q < σ.nQ → b < 4 → I 591 ((5 * j + q) * 4 + b) = nI (σ.bot j q b) := h.2.2.2.2.2.2.2.2.2.2.2.2.2.2.2.2.2.2.2.2.2.1
theorem ai_R0.ch {σ : ai_S} {I : Nat → Nat → Int32} {L : Nat → Nat → Int64} (h : ai_R0 σ I L) : ∀ i, i < σ.st → I 594 i = nI (σ.ch i) := h.2.2.2.2.2.2.2.2.2.2.2.2.2.2.2.2.2.2.2.2.2.2.1
theorem ai_R0.st {σ : ai_S} {I : Nat → Nat → Int32} {L : Nat → Nat → Int64} (h : ai_R0 σ I L) : I 572 29 = nI σ.st := h.2.2.2.2.2.2.2.2.2.2.2.2.2.2.2.2.2.2.2.2.2.2.2
theorem r0_of (h : ai_RM σ I L) : ai_R0 σ I L := ⟨h.rf, h.hd, h.sz, h.el, h.nT, h.nQ, h.nJ, h.an, h.pa, h.wa, h.tr, h.ag, h.lf, h.sr, h.gn, h.gv, h.mn, h.mk, h.lk, h.hs, h.tp, h.bt, h.ch, h.st⟩
theorem rm_of (h : ai_R0 σ I L) (ho : I 572 20 = nI 1 ∨ (I 572 20 = nI 0 ∧ ai_RC σ I)) : ai_RM σ I L := ⟨h.rf, h.hd, h.sz, h.el, h.nT, h.nQ, h.nJ, h.an, h.pa, h.wa, h.tr, h.ag, h.lf, h.sr, h.gn, h.gv, h.mn, ho, h.mk, h.lk, h.hs, h.tp, h.bt, h.ch, h.st⟩
theorem r0_gv (hM : ai_R0 σ I L) {j c i : Nat} (hi : i = 200 * j + c) (hj : j < 24) (hc : c < 200) (hl : σ.lf j = false) (hq : c % 5 < σ.nQ) : I 586 i = nI (σ.sy j c) - 1 := by
  subst hi
  rw [hM.gv j c hj hc hl hq]
  unfold ai_S.sy
  split
  · rfl
  · rw [nM_succ]
theorem r0_mn (hM : ai_R0 σ I L) {j c i : Nat} (hi : i = 200 * j + c) (hj : j < 24) (hc : c < 200) (hl : σ.lf j = false) (hq : c % 5 < σ.nQ) (h0 : σ.gv j c ≠ 0) : I 587 i = nI (σ.kind j c) := by subst hi; exact hM.mn j c hj hc hl hq h0
def ai_fN (I I2 : Nat → Nat → Int32) : Prop := ∀ a k, a ≠ 588 → a ≠ 589 → (a = 572 → k ≠ 20) → I2 a k = I a k
theorem r0_fN (hX : ai_R0 σ I L) {I2 : Nat → Nat → Int32} (f : ai_fN I I2) : ai_R0 σ I2 L := by
  refine ⟨?_, ?_, ?_, hX.el, ?_, ?_, ?_, ?_, ?_, ?_, ?_, ?_, ?_, ?_, ?_, ?_, ?_, ?_, ?_, ?_, ?_, ?_, ?_, ?_⟩
  · intro i g0; rw [f _ _ (by omega) (by omega) (by omega)]; exact hX.rf i g0
  · intro s g0; rw [f _ _ (by omega) (by omega) (by omega)]; exact hX.hd s g0
  · intro s g0; rw [f _ _ (by omega) (by omega) (by omega)]; exact hX.sz s g0
  · rw [f _ _ (by omega) (by omega) (by omega)]; exact hX.nT 
  · rw [f _ _ (by omega) (by omega) (by omega)]; exact hX.nQ 
  · rw [f _ _ (by omega) (by omega) (by omega)]; exact hX.nJ 
  · intro q g0; rw [f _ _ (by omega) (by omega) (by omega)]; exact hX.an q g0
  · intro q g0 g1; rw [f _ _ (by omega) (by omega) (by omega)]; exact hX.pa q g0 g1
  · intro q g0 g1; rw [f _ _ (by omega) (by omega) (by omega)]; exact hX.wa q g0 g1
  · intro c g0 g1; rw [f _ _ (by omega) (by omega) (by omega)]; exact hX.tr c g0 g1
  · intro c g0 g1; rw [f _ _ (by omega) (by omega) (by omega)]; exact hX.ag c g0 g1
  · intro j g0; rw [f _ _ (by omega) (by omega) (by omega)]; exact hX.lf j g0
  · intro j g0; rw [f _ _ (by omega) (by omega) (by omega)]; exact hX.sr j g0
  · intro j g0 g1; rw [f _ _ (by omega) (by omega) (by omega)]; exact hX.gn j g0 g1
  · intro j c g0 g1 g2 g3; rw [f _ _ (by omega) (by omega) (by omega)]; exact hX.gv j c g0 g1 g2 g3
  · intro j c g0 g1 g2 g3 g4; rw [f _ _ (by omega) (by omega) (by omega)]; exact hX.mn j c g0 g1 g2 g3 g4
  · rw [f _ _ (by omega) (by omega) (by omega)]; exact hX.mk 
  · rw [f _ _ (by omega) (by omega) (by omega)]; exact hX.lk 
  · rw [f _ _ (by omega) (by omega) (by omega)]; exact hX.hs 
  · intro j q a b g0 g1 g2 g3; rw [f _ _ (by omega) (by omega) (by omega)]; exact hX.tp j q a b g0 g1 g2 g3
  · intro j q b g0 g1 g2; rw [f _ _ (by omega) (by omega) (by omega)]; exact hX.bt j q b g0 g1 g2
  · intro i g0; rw [f _ _ (by omega) (by omega) (by omega)]; exact hX.ch i g0
  · rw [f _ _ (by omega) (by omega) (by omega)]; exact hX.st 
theorem kd_kind {j c : Nat} (h : σ.gv j c ≠ 0) : σ.kd j c = σ.kind j c + 1 := by unfold ai_S.kd ai_S.kind; rw [if_neg h]
theorem kd_0 {j c : Nat} (h : σ.gv j c = 0) : σ.kd j c = 0 := by unfold ai_S.kd; rw [if_pos h]
theorem kind_le (hV : ai_IV σ) {j c : Nat} (hc : c < 200) : σ.kind j c ≤ 2 := by
  have := gv_lt hV (j := j) hc
  unfold ai_S.kind; omega
theorem m_isFair (G : ai_G S F) (hR : ai_R0 σ I L) (hV : ai_IV σ) {j c : Nat} (hj : j < 24) (hc : c < 200) (hl : σ.lf j = false) (hq : c % 5 < σ.nQ) : ai_Ev none 142 0 [some (.ref 572), some (.int (nI j)), some (.int (nI c))] [] (S, I, L, F) (ai_Pb S F I L (σ.kd j c = 1)) := by
  have hnT := hV.nT
  have hnQ := hV.nQ
  have hnJ := hV.nJ
  refine ev_aload_n 1 rfl d142_0 rfl ?_
  refine ev_getr 4 rfl 9 16 d142_1 rfl (by omega) (G.1 _ _ (rfl : ai_sp 572 = (9, 0)) (by decide) (by decide)) (G.2 _ _ _ (rfl : ai_rf 572 16 = some 586)) ?_
  refine ev_sipush (v := nI 200) 7 rfl d142_4 (by decide) ?_
  refine ev_iload_n 8 rfl d142_7 rfl ?_
  refine ev_imul (v := nI (200 * j)) 9 rfl d142_8 (pk_mul _ _) ?_
  refine ev_iload_n 10 rfl d142_9 rfl ?_
  refine ev_iadd (v := nI ((200 * j) + c)) 11 rfl d142_10 (nI_add _ _) ?_
  refine ev_iald_n (v := nI (σ.sy j c) - 1) 12 rfl d142_11 (by omega) (G.1 _ _ (rfl : ai_sp 586 = (100, 4800)) (by decide) (by decide)) (by omega) (by decide) (r0_gv hR (j := j) (c := c) (by omega) (by omega) (by omega) hl (by omega)) ?_
  have hsy := sy_le (σ := σ) (j := j) (c := c)
  refine ev_iconst (v := (-1)) 13 rfl d142_12 (by decide) ?_
  refine ev_icmp 35 16 (by decide) rfl (cq_eq (by omega)) d142_13 (fun hc_13 => ?_) (fun hc_13 => ?_)
  · have hg0 := sy_0.mp hc_13
    refine ev_iconst (v := nI 0) 36 rfl d142_35 (by decide) ?_
    refine ev_iret (Or.inr ⟨rfl, Or.inl (by decide)⟩) d142_36 ?_
    exact ⟨Or.inr ⟨fun h9 => by
      first | (rw [kd_0 hg0] at h9; omega) | (rw [kd_kind hg] at h9; omega), rfl⟩, rfl⟩
  · have hg : σ.gv j c ≠ 0 := fun h => hc_13 (sy_0.mpr h)
    have hkl := kind_le hV (j := j) hc
    refine ev_aload_n 17 rfl d142_16 rfl ?_
    refine ev_getr 20 rfl 9 17 d142_17 rfl (by omega) (G.1 _ _ (rfl : ai_sp 572 = (9, 0)) (by decide) (by decide)) (G.2 _ _ _ (rfl : ai_rf 572 17 = some 587)) ?_
    refine ev_sipush (v := nI 200) 23 rfl d142_20 (by decide) ?_
    refine ev_iload_n 24 rfl d142_23 rfl ?_
    refine ev_imul (v := nI (200 * j)) 25 rfl d142_24 (pk_mul _ _) ?_
    refine ev_iload_n 26 rfl d142_25 rfl ?_
    refine ev_iadd (v := nI ((200 * j) + c)) 27 rfl d142_26 (nI_add _ _) ?_
    refine ev_iald_n (v := nI (σ.kind j c)) 28 rfl d142_27 (by omega) (G.1 _ _ (rfl : ai_sp 587 = (100, 4800)) (by decide) (by decide)) (by omega) (by decide) (r0_mn hR (j := j) (c := c) (by omega) (by omega) (by omega) hl (by omega) (by assumption)) ?_
    refine ev_if 35 31 (by decide) rfl (c0_ne (by omega)) d142_28 (fun hc_28 => ?_) (fun hc_28 => ?_)
    · refine ev_iconst (v := nI 0) 36 rfl d142_35 (by decide) ?_
      refine ev_iret (Or.inr ⟨rfl, Or.inl (by decide)⟩) d142_36 ?_
      exact ⟨Or.inr ⟨fun h9 => by
        first | (rw [kd_0 hg0] at h9; omega) | (rw [kd_kind hg] at h9; omega), rfl⟩, rfl⟩
    · refine ev_iconst (v := nI 1) 32 rfl d142_31 (by decide) ?_
      refine ev_goto 36 (by decide) d142_32 ?_
      refine ev_iret (Or.inr ⟨rfl, Or.inr (by decide)⟩) d142_36 ?_
      exact ⟨Or.inl ⟨by rw [kd_kind hg]; omega, rfl⟩, rfl⟩
theorem m_isThere (G : ai_G S F) (hR : ai_R0 σ I L) (hV : ai_IV σ) {c : Nat} (hc : c < 200) : ai_Ev none 143 0 [some (.ref 572), some (.int (nI c))] [] (S, I, L, F) (ai_Pb S F I L (c % 5 < σ.nQ ∧ c / 5 < σ.nT)) := by
  have hnT := hV.nT
  have hnQ := hV.nQ
  have hnJ := hV.nJ
  refine ev_iload_n 1 rfl d143_0 rfl ?_
  refine ev_iconst (v := nI 5) 2 rfl d143_1 (by decide) ?_
  refine ev_irem (v := nI (c % 5)) 3 rfl d143_2 (nI_ne0 (by omega) (by omega)) (pk_rem (by omega) (by omega) (by omega)) ?_
  refine ev_aload_n 4 rfl d143_3 rfl ?_
  refine ev_geti (v := nI σ.nQ) 7 rfl 9 6 d143_4 rfl (by omega) (G.1 _ _ (rfl : ai_sp 572 = (9, 0)) (by decide) (by decide)) hR.nQ ?_
  refine ev_icmp 24 10 (by decide) rfl (cn_ge (by omega) (by omega)) d143_7 (fun hc_7 => ?_) (fun hc_7 => ?_)
  · refine ev_iconst (v := nI 0) 25 rfl d143_24 (by decide) ?_
    refine ev_iret (Or.inr ⟨rfl, Or.inl (by decide)⟩) d143_25 ?_
    exact ⟨Or.inr ⟨by omega, rfl⟩, rfl⟩
  · refine ev_iload_n 11 rfl d143_10 rfl ?_
    refine ev_iconst (v := nI 5) 12 rfl d143_11 (by decide) ?_
    refine ev_idiv (v := nI (c / 5)) 13 rfl d143_12 (nI_ne0 (by omega) (by omega)) (pk_div (by omega) (by omega) (by omega)) ?_
    refine ev_aload_n 14 rfl d143_13 rfl ?_
    refine ev_geti (v := nI σ.nT) 17 rfl 9 5 d143_14 rfl (by omega) (G.1 _ _ (rfl : ai_sp 572 = (9, 0)) (by decide) (by decide)) hR.nT ?_
    refine ev_icmp 24 20 (by decide) rfl (cn_ge (by omega) (by omega)) d143_17 (fun hc_17 => ?_) (fun hc_17 => ?_)
    · refine ev_iconst (v := nI 0) 25 rfl d143_24 (by decide) ?_
      refine ev_iret (Or.inr ⟨rfl, Or.inl (by decide)⟩) d143_25 ?_
      exact ⟨Or.inr ⟨by omega, rfl⟩, rfl⟩
    · refine ev_iconst (v := nI 1) 21 rfl d143_20 (by decide) ?_
      refine ev_goto 25 (by decide) d143_21 ?_
      refine ev_iret (Or.inr ⟨rfl, Or.inr (by decide)⟩) d143_25 ?_
      exact ⟨Or.inl ⟨by omega, rfl⟩, rfl⟩
theorem qn_pos9 {p : Nat → Bool} {c : Nat} (h : p c = true) : ∀ {n : Nat}, c < n → 0 < ai_qn p n := by
  intro n
  induction n with
  | zero => intro h2; omega
  | succ n ih =>
    intro h2
    by_cases e : c = n
    · subst e; rw [qn_T h]; omega
    · have := ih (by omega)
      show 0 < ai_qn p n + ai_qb (p n)
      omega
def ai_S.dif (σ : ai_S) (y x c : Nat) : Bool := σ.both y x c && !(σ.said x c == σ.said y c)
theorem cpy_iff {y x : Nat} : σ.cpy y x = true ↔ ai_qn (σ.dif y x) 200 = 0 ∧ 6 ≤ σ.same y x := by
  unfold ai_S.cpy ai_S.diff
  rw [Bool.and_eq_true, Bool.not_eq_true', decide_eq_true_eq, decide_eq_false_iff_not]
  show ¬ (0 < ai_qn (σ.dif y x) 200) ∧ _ ↔ _
  omega
theorem both_kd {y x c : Nat} : σ.both y x c = true ↔ σ.kd x c = 1 ∧ σ.kd y c = 1 := by unfold ai_S.both; rw [Bool.and_eq_true, fair_kd, fair_kd]
theorem both_no {y x c : Nat} (h : ¬ σ.kd x c = 1 ∨ ¬ σ.kd y c = 1) : ¬ σ.both y x c = true := fun h2 => by
  have h3 := both_kd.mp h2; omega
theorem dif_no {y x c : Nat} (h : ¬ σ.both y x c = true) : ¬ σ.dif y x c = true := fun h2 => by
  unfold ai_S.dif at h2; rw [nb_F h] at h2; simp at h2
theorem kd_there (hV : ai_IV σ) {j c : Nat} (hc : c < 200) (h : σ.kd j c = 1) : c % 5 < σ.nQ ∧ c / 5 < σ.nT := by
  have h2 := hV.gv j c hc (kd_gv h)
  exact ⟨h2.2.2.2.1, h2.2.2.1⟩
theorem m_isCopy_loop (G : ai_G S F) (hR : ai_R0 σ I L) (hV : ai_IV σ) {y x : Nat} (hy : y < 24) (hx : x < 24) (hly : σ.lf y = false) (hlx : σ.lf x = false) : ∀ (z k : Nat), k + z = 200 → ai_qn (σ.dif y x) k = 0 → ai_Ev none 144 5 [some (.ref 572), some (.int (nI y)), some (.int (nI x)), some (.int (nI (ai_qn (σ.both y x) k))), some (.int (nI k))] [] (S, I, L, F) (ai_Pb S F I L (σ.cpy y x = true)) := by
  have hnT := hV.nT
  have hnQ := hV.nQ
  have hnJ := hV.nJ
  intro z
  induction z with
  | zero =>
    intro k hz hd
    have e9 : k = 200 := by omega
    subst e9
    refine ev_iload 7 rfl d144_5 rfl ?_
    refine ev_sipush (v := nI 200) 10 rfl d144_7 (by decide) ?_
    refine ev_icmp_T 85 (by decide) (by decide) d144_10 ?_
    have hqn := qn_le (σ.both y x) 200
    refine ev_iload_n 86 rfl d144_85 rfl ?_
    refine ev_bipush (v := nI 6) 88 rfl d144_86 (by decide) ?_
    refine ev_icmp 95 91 (by decide) rfl (cn_lt (by omega) (by omega)) d144_88 (fun hc_88 => ?_) (fun hc_88 => ?_)
    · refine ev_iconst (v := nI 0) 96 rfl d144_95 (by decide) ?_
      refine ev_iret (Or.inr ⟨rfl, Or.inl (by decide)⟩) d144_96 ?_
      exact ⟨Or.inr ⟨fun h9 => by
        have h8 : 6 ≤ ai_qn (σ.both y x) 200 := (cpy_iff.mp h9).2
        omega, rfl⟩, rfl⟩
    · refine ev_iconst (v := nI 1) 92 rfl d144_91 (by decide) ?_
      refine ev_goto 96 (by decide) d144_92 ?_
      refine ev_iret (Or.inr ⟨rfl, Or.inr (by decide)⟩) d144_96 ?_
      exact ⟨Or.inl ⟨cpy_iff.mpr ⟨hd, by show 6 ≤ ai_qn (σ.both y x) 200; omega⟩, rfl⟩, rfl⟩
  | succ z ih =>
    intro k hz hd
    refine ev_iload 7 rfl d144_5 rfl ?_
    refine ev_sipush (v := nI 200) 10 rfl d144_7 (by decide) ?_
    refine ev_icmp 85 13 (by decide) rfl (cn_ge (by omega) (by omega)) d144_10 (fun hc_10 => absurd hc_10 (by omega)) (fun hc_10 => ?_)
    refine ev_aload_n 14 rfl d144_13 rfl ?_
    refine ev_iload 16 rfl d144_14 rfl ?_
    refine ev_cb1 19 rfl 143 d144_16 rfl rfl (by rw [G.1 _ _ (rfl : ai_sp 572 = (9, 0)) (by decide) (by decide)]; rfl) (by omega) rfl (m_isThere G hR hV (by omega)) (fun hq_16 => ?_) (fun hq_16 => ?_)
    · refine ev_if_F 79 22 (by decide) rfl (by decide) d144_19 ?_
      refine ev_aload_n 23 rfl d144_22 rfl ?_
      refine ev_iload_n 24 rfl d144_23 rfl ?_
      refine ev_iload 26 rfl d144_24 rfl ?_
      refine ev_cb2 29 rfl 142 d144_26 rfl rfl (by rw [G.1 _ _ (rfl : ai_sp 572 = (9, 0)) (by decide) (by decide)]; rfl) (by omega) rfl (m_isFair G hR hV (by omega) (by omega) hlx (by omega)) (fun hq_26 => ?_) (fun hq_26 => ?_)
      · refine ev_if_F 79 32 (by decide) rfl (by decide) d144_29 ?_
        refine ev_aload_n 33 rfl d144_32 rfl ?_
        refine ev_iload_n 34 rfl d144_33 rfl ?_
        refine ev_iload 36 rfl d144_34 rfl ?_
        refine ev_cb2 39 rfl 142 d144_36 rfl rfl (by rw [G.1 _ _ (rfl : ai_sp 572 = (9, 0)) (by decide) (by decide)]; rfl) (by omega) rfl (m_isFair G hR hV (by omega) (by omega) hly (by omega)) (fun hq_36 => ?_) (fun hq_36 => ?_)
        · refine ev_if_T 45 (by decide) (by decide) d144_39 ?_
          have hsx := sy_le (σ := σ) (j := x) (c := k)
          have hsy := sy_le (σ := σ) (j := y) (c := k)
          refine ev_aload_n 46 rfl d144_45 rfl ?_
          refine ev_getr 49 rfl 9 16 d144_46 rfl (by omega) (G.1 _ _ (rfl : ai_sp 572 = (9, 0)) (by decide) (by decide)) (G.2 _ _ _ (rfl : ai_rf 572 16 = some 586)) ?_
          refine ev_sipush (v := nI 200) 52 rfl d144_49 (by decide) ?_
          refine ev_iload_n 53 rfl d144_52 rfl ?_
          refine ev_imul (v := nI (200 * x)) 54 rfl d144_53 (pk_mul _ _) ?_
          refine ev_iload 56 rfl d144_54 rfl ?_
          refine ev_iadd (v := nI ((200 * x) + k)) 57 rfl d144_56 (nI_add _ _) ?_
          refine ev_iald_n (v := nI (σ.sy x k) - 1) 58 rfl d144_57 (by omega) (G.1 _ _ (rfl : ai_sp 586 = (100, 4800)) (by decide) (by decide)) (by omega) (by decide) (r0_gv hR (j := x) (c := k) (by omega) (by omega) (by omega) hlx (by omega)) ?_
          refine ev_aload_n 59 rfl d144_58 rfl ?_
          refine ev_getr 62 rfl 9 16 d144_59 rfl (by omega) (G.1 _ _ (rfl : ai_sp 572 = (9, 0)) (by decide) (by decide)) (G.2 _ _ _ (rfl : ai_rf 572 16 = some 586)) ?_
          refine ev_sipush (v := nI 200) 65 rfl d144_62 (by decide) ?_
          refine ev_iload_n 66 rfl d144_65 rfl ?_
          refine ev_imul (v := nI (200 * y)) 67 rfl d144_66 (pk_mul _ _) ?_
          refine ev_iload 69 rfl d144_67 rfl ?_
          refine ev_iadd (v := nI ((200 * y) + k)) 70 rfl d144_69 (nI_add _ _) ?_
          refine ev_iald_n (v := nI (σ.sy y k) - 1) 71 rfl d144_70 (by omega) (G.1 _ _ (rfl : ai_sp 586 = (100, 4800)) (by decide) (by decide)) (by omega) (by decide) (r0_gv hR (j := y) (c := k) (by omega) (by omega) (by omega) hly (by omega)) ?_
          refine ev_icmp 76 74 (by decide) rfl (cmm_eq (by omega) (by omega)) d144_71 (fun hc_71 => ?_) (fun hc_71 => ?_)
          · refine ev_iinc (v := nI ((ai_qn (σ.both y x) k) + 1)) 79 rfl d144_76 rfl (Nat.le_of_ble_eq_true rfl) (nI_add _ 1) rfl ?_
            show ai_Ev _ _ _ [some (.ref 572), some (.int (nI y)), some (.int (nI x)), some (.int (nI ((ai_qn (σ.both y x) k) + 1))), some (.int (nI k))] _ _ _
            refine ev_iinc (v := nI (k + 1)) 82 rfl d144_79 rfl (Nat.le_of_ble_eq_true rfl) (nI_add _ 1) rfl ?_
            show ai_Ev _ _ _ [some (.ref 572), some (.int (nI y)), some (.int (nI x)), some (.int (nI ((ai_qn (σ.both y x) k) + 1))), some (.int (nI (k + 1)))] _ _ _
            refine ev_goto 5 (by decide) d144_82 ?_
            have hb9 : σ.both y x k = true := both_kd.mpr ⟨by omega, by omega⟩
            have hnd : ¬ σ.dif y x k = true := fun h2 => by
              unfold ai_S.dif at h2
              rw [hb9] at h2
              have h3 : ¬ σ.said x k = σ.said y k := by simpa using h2
              unfold ai_S.sy at hc_71
              rw [if_neg (kd_gv (by omega)), if_neg (kd_gv (by omega))] at hc_71
              omega
            have e8 : ai_qn (σ.both y x) (k + 1) = (ai_qn (σ.both y x) k) + 1 := qn_T hb9
            have h9 := ih (k + 1) (by omega) ((qn_F hnd).trans hd)
            rw [e8] at h9
            exact h9
          · refine ev_iconst (v := nI 0) 75 rfl d144_74 (by decide) ?_
            refine ev_iret (Or.inr ⟨rfl, Or.inl (by decide)⟩) d144_75 ?_
            refine ⟨Or.inr ⟨fun h9 => ?_, rfl⟩, rfl⟩
            have hb9 : σ.both y x k = true := both_kd.mpr ⟨by omega, by omega⟩
            have hdt : σ.dif y x k = true := by
              unfold ai_S.dif
              rw [hb9]
              have h3 : ¬ σ.said x k = σ.said y k := fun e => hc_71 (by
                unfold ai_S.sy
                rw [if_neg (kd_gv (by omega)), if_neg (kd_gv (by omega)), e])
              simp [h3]
            have h8 := (cpy_iff.mp h9).1
            have h7 := qn_pos9 hdt (n := 200) (by omega)
            omega
        · have hnb : ¬ σ.both y x k = true := both_no (Or.inr hq_36)
          refine ev_if_F 45 42 (by decide) rfl (by decide) d144_39 ?_
          refine ev_goto 79 (by decide) d144_42 ?_
          refine ev_iinc (v := nI (k + 1)) 82 rfl d144_79 rfl (Nat.le_of_ble_eq_true rfl) (nI_add _ 1) rfl ?_
          show ai_Ev _ _ _ [some (.ref 572), some (.int (nI y)), some (.int (nI x)), some (.int (nI (ai_qn (σ.both y x) k))), some (.int (nI (k + 1)))] _ _ _
          refine ev_goto 5 (by decide) d144_82 ?_
          have e8 : ai_qn (σ.both y x) (k + 1) = ai_qn (σ.both y x) k := qn_F hnb
          have h9 := ih (k + 1) (by omega) ((qn_F (dif_no hnb)).trans hd)
          rw [e8] at h9
          exact h9
      · have hnb : ¬ σ.both y x k = true := both_no (Or.inl hq_26)
        refine ev_if_T 79 (by decide) (by decide) d144_29 ?_
        refine ev_iinc (v := nI (k + 1)) 82 rfl d144_79 rfl (Nat.le_of_ble_eq_true rfl) (nI_add _ 1) rfl ?_
        show ai_Ev _ _ _ [some (.ref 572), some (.int (nI y)), some (.int (nI x)), some (.int (nI (ai_qn (σ.both y x) k))), some (.int (nI (k + 1)))] _ _ _
        refine ev_goto 5 (by decide) d144_82 ?_
        have e8 : ai_qn (σ.both y x) (k + 1) = ai_qn (σ.both y x) k := qn_F hnb
        have h9 := ih (k + 1) (by omega) ((qn_F (dif_no hnb)).trans hd)
        rw [e8] at h9
        exact h9
    · have hnb : ¬ σ.both y x k = true := both_no (Or.inl (fun h9 => hq_16 (kd_there hV (by omega) h9)))
      refine ev_if_T 79 (by decide) (by decide) d144_19 ?_
      refine ev_iinc (v := nI (k + 1)) 82 rfl d144_79 rfl (Nat.le_of_ble_eq_true rfl) (nI_add _ 1) rfl ?_
      show ai_Ev _ _ _ [some (.ref 572), some (.int (nI y)), some (.int (nI x)), some (.int (nI (ai_qn (σ.both y x) k))), some (.int (nI (k + 1)))] _ _ _
      refine ev_goto 5 (by decide) d144_82 ?_
      have e8 : ai_qn (σ.both y x) (k + 1) = ai_qn (σ.both y x) k := qn_F hnb
      have h9 := ih (k + 1) (by omega) ((qn_F (dif_no hnb)).trans hd)
      rw [e8] at h9
      exact h9
theorem m_isCopy (G : ai_G S F) (hR : ai_R0 σ I L) (hV : ai_IV σ) {y x : Nat} (hy : y < 24) (hx : x < 24) (hly : σ.lf y = false) (hlx : σ.lf x = false) : ai_Ev none 144 0 [some (.ref 572), some (.int (nI y)), some (.int (nI x)), none, none] [] (S, I, L, F) (ai_Pb S F I L (σ.cpy y x = true)) := by
  refine ev_iconst (v := nI 0) 1 rfl d144_0 (by decide) ?_
  refine ev_store_in 2 rfl d144_1 (Nat.le_of_ble_eq_true rfl) rfl ?_
  show ai_Ev _ _ _ [some (.ref 572), some (.int (nI y)), some (.int (nI x)), some (.int (nI 0)), none] _ _ _
  refine ev_iconst (v := nI 0) 3 rfl d144_2 (by decide) ?_
  refine ev_store_i 5 rfl d144_3 ⟨rfl, Nat.le_of_ble_eq_true rfl⟩ rfl ?_
  show ai_Ev _ _ _ [some (.ref 572), some (.int (nI y)), some (.int (nI x)), some (.int (nI 0)), some (.int (nI 0))] _ _ _
  exact m_isCopy_loop G hR hV hy hx hly hlx 200 0 (by omega) rfl
def ai_lq (p : Nat → Bool) (y : Nat) : Nat → Nat
  | 0 => 0
  | k + 1 => if p (y - (k + 1)) = true then y - (k + 1) + 1 else ai_lq p y k
theorem lq_ql {p : Nat → Bool} {y : Nat} : ∀ k, k ≤ y → (ai_ql p (y - k) ≠ 0 → ai_ql p y = ai_ql p (y - k)) ∧ (ai_ql p (y - k) = 0 → ai_ql p y = ai_lq p y k) := by
  intro k
  induction k with
  | zero => intro _; exact ⟨fun _ => rfl, fun h => h⟩
  | succ k ih =>
    intro h
    have h1 := ih (by omega)
    obtain ⟨m, hm⟩ : ∃ m, y - (k + 1) = m := ⟨_, rfl⟩
    have hm2 : y - k = m + 1 := by omega
    rw [hm2] at h1
    rw [hm]
    constructor
    · intro h2; exact ql_stay h2 (by omega)
    · intro h2
      show _ = if p (y - (k + 1)) = true then y - (k + 1) + 1 else ai_lq p y k
      rw [hm]
      by_cases e : p m = true
      · rw [if_pos e]
        have e2 := ql_T h2 e
        rw [h1.1 (by omega), e2]
      · rw [if_neg e]
        exact h1.2 (ql_F h2 e)
theorem lq_all {p : Nat → Bool} {y : Nat} : ai_lq p y y = ai_ql p y := ((lq_ql y (Nat.le_refl y)).2 (by rw [Nat.sub_self]; rfl)).symm
theorem ql_is {p : Nat → Bool} : ∀ n, ai_ql p n ≠ 0 → p (ai_ql p n - 1) = true := by
  intro n
  induction n with
  | zero => intro h; exact absurd rfl h
  | succ n ih =>
    intro h
    by_cases h0 : ai_ql p n = 0
    · by_cases e : p n = true
      · rw [ql_T h0 e]; exact e
      · exact absurd (ql_F h0 e) h
    · have e2 := ql_stay h0 (show n ≤ n + 1 by omega)
      rw [e2]; exact ih h0
theorem cop_lf {j : Nat} (h : σ.cop j ≠ 0) : σ.lf (σ.cop j - 1) = false := by
  rw [cop_eq] at h ⊢
  by_cases e : σ.lf j = true
  · rw [if_pos e] at h; exact absurd rfl h
  · rw [if_neg e] at h ⊢
    have h2 := ql_is j h
    unfold ai_S.pc at h2
    rw [Bool.and_eq_true, Bool.not_eq_true'] at h2
    exact h2.1
theorem cop_nl {j : Nat} (h : σ.lf j = false) : σ.cop j = ai_ql (σ.pc j) j := by rw [cop_eq, if_neg (by rw [h]; decide)]
theorem m_rn_in (G : ai_G S F) {I0 : Nat → Nat → Int32} (hR0 : ai_R0 σ I0 L) (hV : ai_IV σ) {y : Nat} (hy : y < σ.nJ) (hly : σ.lf y = false) {Q : Option Value → ai_H → Prop} (hk : ∀ I u2, I 589 y = nI (σ.cop y) - 1 → (∀ d, d < y → I 589 d = nI (σ.cop d) - 1) → ai_fN I0 I → I 572 20 = nI 0 → ai_Ev none 145 78 [some (.ref 572), some (.int (nI y)), u2] [] (S, I, L, F) Q) : ∀ (k : Nat) (I : Nat → Nat → Int32), k ≤ y → I 589 y = nI (ai_lq (σ.pc y) y (y - k)) - 1 → (∀ d, d < y → I 589 d = nI (σ.cop d) - 1) → ai_fN I0 I → I 572 20 = nI 0 → ai_Ev none 145 34 [some (.ref 572), some (.int (nI y)), some (.int (nI k - 1))] [] (S, I, L, F) Q := by
  have hnT := hV.nT
  have hnQ := hV.nQ
  have hnJ := hV.nJ
  intro k
  induction k with
  | zero =>
    intro I hz hc9 hlow hf h20
    refine ev_iload_n 35 rfl d145_34 rfl ?_
    refine ev_if 78 38 (by decide) rfl (cq0_lt (by decide)) d145_35 (fun hc_35 => ?_) (fun hc_35 => ?_)
    · rw [Nat.sub_zero, lq_all, ← cop_nl hly] at hc9
      exact hk I _ hc9 hlow hf h20
    · exact absurd rfl hc_35
  | succ k ih =>
    intro I hz hc9 hlow hf h20
    have hR : ai_R0 σ I L := r0_fN hR0 hf
    rw [nM_succ]
    refine ev_iload_n 35 rfl d145_34 rfl ?_
    refine ev_if_F 78 38 (by decide) rfl (c0_ltF (by omega)) d145_35 ?_
    have hqy := qb_lt (σ.lf y)
    have hqk := qb_lt (σ.lf k)
    refine ev_aload_n 39 rfl d145_38 rfl ?_
    refine ev_getr 42 rfl 9 13 d145_39 rfl (by omega) (G.1 _ _ (rfl : ai_sp 572 = (9, 0)) (by decide) (by decide)) (G.2 _ _ _ (rfl : ai_rf 572 13 = some 583)) ?_
    refine ev_iload_n 43 rfl d145_42 rfl ?_
    refine ev_bald_n (v := nI (ai_qb (σ.lf y))) 44 rfl d145_43 (by omega) (by decide) (G.1 _ _ (rfl : ai_sp 583 = (102, 24)) (by decide) (by decide)) (by omega) (by decide) (hR.lf _ (by omega)) ?_
    refine ev_if 78 47 (by decide) rfl (c0_ne (by omega)) d145_44 (fun hc_44 => ?_) (fun hc_44 => ?_)
    · exact absurd (qb_1 hc_44) (by rw [hly]; decide)
    · refine ev_aload_n 48 rfl d145_47 rfl ?_
      refine ev_getr 51 rfl 9 13 d145_48 rfl (by omega) (G.1 _ _ (rfl : ai_sp 572 = (9, 0)) (by decide) (by decide)) (G.2 _ _ _ (rfl : ai_rf 572 13 = some 583)) ?_
      refine ev_iload_n 52 rfl d145_51 rfl ?_
      refine ev_bald_n (v := nI (ai_qb (σ.lf k))) 53 rfl d145_52 (by omega) (by decide) (G.1 _ _ (rfl : ai_sp 583 = (102, 24)) (by decide) (by decide)) (by omega) (by decide) (hR.lf _ (by omega)) ?_
      refine ev_if 72 56 (by decide) rfl (c0_ne (by omega)) d145_53 (fun hc_53 => ?_) (fun hc_53 => ?_)
      · have hpk : ¬ σ.pc y k = true := by unfold ai_S.pc; rw [qb_1 hc_53]; simp
        refine ev_iinc (v := nI k - 1) 75 rfl d145_72 rfl (Nat.le_of_ble_eq_true rfl) (nM_dec k) rfl ?_
        show ai_Ev _ _ _ [some (.ref 572), some (.int (nI y)), some (.int (nI k - 1))] _ _ _
        refine ev_goto 34 (by decide) d145_75 ?_
        have e8 : ai_lq (σ.pc y) y (y - k) = ai_lq (σ.pc y) y (y - (k + 1)) := by
          rw [show y - k = y - (k + 1) + 1 by omega]
          show (if σ.pc y (y - (y - (k + 1) + 1)) = true then _ else _) = _
          rw [show y - (y - (k + 1) + 1) = k by omega, if_neg hpk]
        exact ih I (by omega) (by rw [e8]; exact hc9) hlow hf h20
      · have hlk : σ.lf k = false := nb_F (qb_0 (by omega))
        refine ev_aload_n 57 rfl d145_56 rfl ?_
        refine ev_iload_n 58 rfl d145_57 rfl ?_
        refine ev_iload_n 59 rfl d145_58 rfl ?_
        refine ev_cb2 62 rfl 144 d145_59 rfl rfl (by rw [G.1 _ _ (rfl : ai_sp 572 = (9, 0)) (by decide) (by decide)]; rfl) (by omega) rfl (m_isCopy G hR hV (y := y) (x := k) (by omega) (by omega) hly hlk) (fun hq_59 => ?_) (fun hq_59 => ?_)
        · have hpk : σ.pc y k = true := by unfold ai_S.pc; rw [hlk, hq_59]; rfl
          refine ev_if_F 72 65 (by decide) rfl (by decide) d145_62 ?_
          refine ev_aload_n 66 rfl d145_65 rfl ?_
          refine ev_getr 69 rfl 9 19 d145_66 rfl (by omega) (G.1 _ _ (rfl : ai_sp 572 = (9, 0)) (by decide) (by decide)) (G.2 _ _ _ (rfl : ai_rf 572 19 = some 589)) ?_
          refine ev_iload_n 70 rfl d145_69 rfl ?_
          refine ev_iload_n 71 rfl d145_70 rfl ?_
          obtain ⟨I_1, hI_1⟩ : ∃ z, z = ai_ui I 589 y (nI k) := ⟨_, rfl⟩
          refine ev_iast_n (I2 := I_1) 72 rfl d145_71 (by omega) (G.1 _ _ (rfl : ai_sp 589 = (100, 24)) (by decide) (by decide)) (by omega) (by decide) hI_1.symm ?_
          refine ev_iinc (v := nI k - 1) 75 rfl d145_72 rfl (Nat.le_of_ble_eq_true rfl) (nM_dec k) rfl ?_
          show ai_Ev _ _ _ [some (.ref 572), some (.int (nI y)), some (.int (nI k - 1))] _ _ _
          refine ev_goto 34 (by decide) d145_75 ?_
          have e8 : ai_lq (σ.pc y) y (y - k) = k + 1 := by
            rw [show y - k = y - (k + 1) + 1 by omega]
            show (if σ.pc y (y - (y - (k + 1) + 1)) = true then y - (y - (k + 1) + 1) + 1 else _) = _
            rw [show y - (y - (k + 1) + 1) = k by omega, if_pos hpk]
          refine ih _ (by omega) (by rw [e8, nM_succ]; exact ui_same hI_1) (fun d hd => by rw [ui_other hI_1 (by omega)]; exact hlow d hd) (fun a x h1 h2 h3 => by rw [ui_other hI_1 (by omega)]; exact hf a x h1 h2 h3) (by rw [ui_row hI_1 (by omega)]; exact h20)
        · have hpk : ¬ σ.pc y k = true := by unfold ai_S.pc; rw [nb_F hq_59]; simp
          refine ev_if_T 72 (by decide) (by decide) d145_62 ?_
          refine ev_iinc (v := nI k - 1) 75 rfl d145_72 rfl (Nat.le_of_ble_eq_true rfl) (nM_dec k) rfl ?_
          show ai_Ev _ _ _ [some (.ref 572), some (.int (nI y)), some (.int (nI k - 1))] _ _ _
          refine ev_goto 34 (by decide) d145_75 ?_
          have e8 : ai_lq (σ.pc y) y (y - k) = ai_lq (σ.pc y) y (y - (k + 1)) := by
            rw [show y - k = y - (k + 1) + 1 by omega]
            show (if σ.pc y (y - (y - (k + 1) + 1)) = true then _ else _) = _
            rw [show y - (y - (k + 1) + 1) = k by omega, if_neg hpk]
          exact ih I (by omega) (by rw [e8]; exact hc9) hlow hf h20
theorem m_rn_y (G : ai_G S F) {I0 : Nat → Nat → Int32} (hR0 : ai_R0 σ I0 L) (hV : ai_IV σ) {Q : Option Value → ai_H → Prop} (hk : ∀ I u2, (∀ d, d < σ.nJ → I 589 d = nI (σ.cop d) - 1) → ai_fN I0 I → I 572 20 = nI 0 → ai_Ev none 145 84 [some (.ref 572), some (.int (nI σ.nJ)), u2] [] (S, I, L, F) Q) : ∀ (z y : Nat) (I : Nat → Nat → Int32) (u2 : Option Value), y + z = σ.nJ → (∀ d, d < y → I 589 d = nI (σ.cop d) - 1) → ai_fN I0 I → I 572 20 = nI 0 → ai_Ev none 145 15 [some (.ref 572), some (.int (nI y)), u2] [] (S, I, L, F) Q := by
  have hnT := hV.nT
  have hnQ := hV.nQ
  have hnJ := hV.nJ
  intro z
  induction z with
  | zero =>
    intro y I u2 hz hlow hf h20
    have e9 : y = σ.nJ := by omega
    subst e9
    have hR : ai_R0 σ I L := r0_fN hR0 hf
    refine ev_iload_n 16 rfl d145_15 rfl ?_
    refine ev_aload_n 17 rfl d145_16 rfl ?_
    refine ev_geti (v := nI σ.nJ) 20 rfl 9 7 d145_17 rfl (by omega) (G.1 _ _ (rfl : ai_sp 572 = (9, 0)) (by decide) (by decide)) hR.nJ ?_
    refine ev_icmp 84 23 (by decide) rfl (cn_ge (by omega) (by omega)) d145_20 (fun hc_20 => ?_) (fun hc_20 => absurd hc_20 (by omega))
    exact hk I _ hlow hf h20
  | succ z ih =>
    intro y I u2 hz hlow hf h20
    have hR : ai_R0 σ I L := r0_fN hR0 hf
    refine ev_iload_n 16 rfl d145_15 rfl ?_
    refine ev_aload_n 17 rfl d145_16 rfl ?_
    refine ev_geti (v := nI σ.nJ) 20 rfl 9 7 d145_17 rfl (by omega) (G.1 _ _ (rfl : ai_sp 572 = (9, 0)) (by decide) (by decide)) hR.nJ ?_
    refine ev_icmp 84 23 (by decide) rfl (cn_ge (by omega) (by omega)) d145_20 (fun hc_20 => absurd hc_20 (by omega)) (fun hc_20 => ?_)
    refine ev_aload_n 24 rfl d145_23 rfl ?_
    refine ev_getr 27 rfl 9 19 d145_24 rfl (by omega) (G.1 _ _ (rfl : ai_sp 572 = (9, 0)) (by decide) (by decide)) (G.2 _ _ _ (rfl : ai_rf 572 19 = some 589)) ?_
    refine ev_iload_n 28 rfl d145_27 rfl ?_
    refine ev_iconst (v := (-1)) 29 rfl d145_28 (by decide) ?_
    obtain ⟨I_1, hI_1⟩ : ∃ z, z = ai_ui I 589 y (-1) := ⟨_, rfl⟩
    refine ev_iast_n (I2 := I_1) 30 rfl d145_29 (by omega) (G.1 _ _ (rfl : ai_sp 589 = (100, 24)) (by decide) (by decide)) (by omega) (by decide) hI_1.symm ?_
    refine ev_iload_n 31 rfl d145_30 rfl ?_
    refine ev_iconst (v := nI 1) 32 rfl d145_31 (by decide) ?_
    refine ev_isub (v := nI y - 1) 33 rfl d145_32 rfl ?_
    refine ev_store_in 34 rfl d145_33 (Nat.le_of_ble_eq_true rfl) rfl ?_
    show ai_Ev _ _ _ [some (.ref 572), some (.int (nI y)), some (.int (nI y - 1))] _ _ _
    by_cases hly : σ.lf y = true
    · skip
      refine ev_iload_n 35 rfl d145_34 rfl ?_
      refine ev_if 78 38 (by decide) rfl (cq0_lt (by omega)) d145_35 (fun hc_35 => ?_) (fun hc_35 => ?_)
      · refine ev_iinc (v := nI (y + 1)) 81 rfl d145_78 rfl (Nat.le_of_ble_eq_true rfl) (nI_add _ 1) rfl ?_
        show ai_Ev _ _ _ [some (.ref 572), some (.int (nI (y + 1))), some (.int (nI y - 1))] _ _ _
        refine ev_goto 15 (by decide) d145_81 ?_
        exact ih (y + 1) _ (some (.int (nI y - 1))) (by omega) (fun d hd => by
          by_cases e : d = y
          · subst e; rw [cop_eq, if_pos hly]; exact ui_same hI_1
          · rw [ui_other hI_1 (by omega)]; exact hlow d (by omega)) (fun a x h1 h2 h3 => by rw [ui_other hI_1 (by omega)]; exact hf a x h1 h2 h3) (by rw [ui_row hI_1 (by omega)]; exact h20)
      · refine ev_aload_n 39 rfl d145_38 rfl ?_
        refine ev_getr 42 rfl 9 13 d145_39 rfl (by omega) (G.1 _ _ (rfl : ai_sp 572 = (9, 0)) (by decide) (by decide)) (G.2 _ _ _ (rfl : ai_rf 572 13 = some 583)) ?_
        refine ev_iload_n 43 rfl d145_42 rfl ?_
        refine ev_bald_n (v := nI 1) 44 rfl d145_43 (by omega) (by decide) (G.1 _ _ (rfl : ai_sp 583 = (102, 24)) (by decide) (by decide)) (by omega) (by decide) (by rw [ui_row hI_1 (by omega), hR.lf y (by omega), hly]; rfl) ?_
        refine ev_if_T 78 (by decide) (by decide) d145_44 ?_
        refine ev_iinc (v := nI (y + 1)) 81 rfl d145_78 rfl (Nat.le_of_ble_eq_true rfl) (nI_add _ 1) rfl ?_
        show ai_Ev _ _ _ [some (.ref 572), some (.int (nI (y + 1))), some (.int (nI y - 1))] _ _ _
        refine ev_goto 15 (by decide) d145_81 ?_
        exact ih (y + 1) _ (some (.int (nI y - 1))) (by omega) (fun d hd => by
          by_cases e : d = y
          · subst e; rw [cop_eq, if_pos hly]; exact ui_same hI_1
          · rw [ui_other hI_1 (by omega)]; exact hlow d (by omega)) (fun a x h1 h2 h3 => by rw [ui_other hI_1 (by omega)]; exact hf a x h1 h2 h3) (by rw [ui_row hI_1 (by omega)]; exact h20)
    · refine m_rn_in G hR0 hV (by omega) (nb_F hly) ?_ y I_1 (Nat.le_refl _) (by rw [Nat.sub_self]; exact ui_same hI_1) (fun d hd => by rw [ui_other hI_1 (by omega)]; exact hlow d hd) (fun a x h1 h2 h3 => by rw [ui_other hI_1 (by omega)]; exact hf a x h1 h2 h3) (by rw [ui_row hI_1 (by omega)]; exact h20)
      intro I9 w2 h9y h9l h9f h920
      refine ev_iinc (v := nI (y + 1)) 81 rfl d145_78 rfl (Nat.le_of_ble_eq_true rfl) (nI_add _ 1) rfl ?_
      show ai_Ev _ _ _ [some (.ref 572), some (.int (nI (y + 1))), w2] _ _ _
      refine ev_goto 15 (by decide) d145_81 ?_
      exact ih (y + 1) I9 w2 (by omega) (fun d hd => by
        by_cases e : d = y
        · subst e; exact h9y
        · exact h9l d (by omega)) h9f h920
end MREN
