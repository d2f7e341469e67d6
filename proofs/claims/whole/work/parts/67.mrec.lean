section MREC
variable {S : List (Nat × Nat)} {F : Nat → Nat → Option Nat} {L : Nat → Nat → Int64} {I : Nat → Nat → Int32} {σ : ai_S}
def ai_R1 (σ : ai_S) (I : Nat → Nat → Int32) (L : Nat → Nat → Int64) : Prop := (∀ i, i < 7 → I 573 (i + 1) = σ.rf i) ∧ (∀ s, s < 8 → I 574 s = nI (σ.hd s) - 1) ∧ (∀ s, s < 8 → I 575 s = nI (σ.sz s)) ∧ (∀ s, s < 8 → ∀ i, i < σ.sz s → L 576 (100 * s + i) = σ.el s i) ∧ (I 572 5 = nI σ.nT) ∧ (I 572 6 = nI σ.nQ) ∧ (I 572 7 = nI σ.nJ) ∧ (∀ q, q < σ.nQ → I 578 q = nI (σ.an q)) ∧ (∀ q, 0 < q → q < σ.nQ → I 579 q = nI (σ.pa q)) ∧ (∀ q, 0 < q → q < σ.nQ → I 580 q = nI (σ.wa q)) ∧ (∀ c, c < 200 → c % 5 < σ.nQ → I 581 c = nI (σ.tr c) - 1) ∧ (∀ c, c < 200 → c % 5 < σ.nQ → I 582 c = nI (σ.ag c) - 1) ∧ (∀ j, j < 24 → I 583 j = nI (ai_qb (σ.lf j))) ∧ (∀ j, j < 24 → I 584 j = σ.sr j) ∧ (∀ j, j < 24 → σ.lf j = false → I 585 j = nI (σ.given j)) ∧ (∀ j c, j < 24 → c < 200 → σ.lf j = false → c % 5 < σ.nQ → I 586 (200 * j + c) = (if σ.gv j c = 0 then -1 else nI (σ.said j c))) ∧ (∀ j c, j < 24 → c < 200 → σ.lf j = false → c % 5 < σ.nQ → σ.gv j c ≠ 0 → I 587 (200 * j + c) = nI (σ.kind j c)) ∧ (I 572 20 = nI 1 ∨ (I 572 20 = nI 0 ∧ ∀ j, j < σ.nJ → I 589 j = nI (σ.cop j) - 1 ∧ ∀ c, c < 200 → I 588 (200 * j + c) = nI (ai_qb (σ.ctd j c)))) ∧ (I 572 21 = nI σ.mk) ∧ (I 572 22 = nI σ.lk) ∧ (I 572 23 = nI σ.hs) ∧ (∀ i, i < σ.st → I 594 i = nI (σ.ch i)) ∧ (I 572 29 = nI σ.st)
theorem ai_R1.rf {σ : ai_S} {I : Nat → Nat → Int32} {L : Nat → Nat → Int64} (h : ai_R1 σ I L) : ∀ i, i < 7 → I 573 (i + 1) = σ.rf i := h.1
theorem ai_R1.hd {σ : ai_S} {I : Nat → Nat → Int32} {L : Nat → Nat → Int64} (h : ai_R1 σ I L) : ∀ s, s < 8 → I 574 s = nI (σ.hd s) - 1 := h.2.1
theorem ai_R1.sz {σ : ai_S} {I : Nat → Nat → Int32} {L : Nat → Nat → Int64} (h : ai_R1 σ I L) : ∀ s, s < 8 → I 575 s = nI (σ.sz s) := h.2.2.1
theorem ai_R1.el {σ : ai_S} {I : Nat → Nat → Int32} {L : Nat → Nat → Int64} (h : ai_R1 σ I L) : ∀ s, s < 8 → ∀ i, i < σ.sz s → L 576 (100 * s + i) = σ.el s i := h.2.2.2.1
theorem ai_R1.nT {σ : ai_S} {I : Nat → Nat → Int32} {L : Nat → Nat → Int64} (h : ai_R1 σ I L) : I 572 5 = nI σ.nT := h.2.2.2.2.1
theorem ai_R1.nQ {σ : ai_S} {I : Nat → Nat → Int32} {L : Nat → Nat → Int64} (h : ai_R1 σ I L) : I 572 6 = nI σ.nQ := h.2.2.2.2.2.1
theorem ai_R1.nJ {σ : ai_S} {I : Nat → Nat → Int32} {L : Nat → Nat → Int64} (h : ai_R1 σ I L) : I 572 7 = nI σ.nJ := h.2.2.2.2.2.2.1
theorem ai_R1.an {σ : ai_S} {I : Nat → Nat → Int32} {L : Nat → Nat → Int64} (h : ai_R1 σ I L) : ∀ q, q < σ.nQ → I 578 q = nI (σ.an q) := h.2.2.2.2.2.2.2.1
theorem ai_R1.pa {σ : ai_S} {I : Nat → Nat → Int32} {L : Nat → Nat → Int64} (h : ai_R1 σ I L) : ∀ q, 0 < q → q < σ.nQ → I 579 q = nI (σ.pa q) := h.2.2.2.2.2.2.2.2.1
theorem ai_R1.wa {σ : ai_S} {I : Nat → Nat → Int32} {L : Nat → Nat → Int64} (h : ai_R1 σ I L) : ∀ q, 0 < q → q < σ.nQ → I 580 q = nI (σ.wa q) := h.2.2.2.2.2.2.2.2.2.1
theorem ai_R1.tr {σ : ai_S} {I : Nat → Nat → Int32} {L : Nat → Nat → Int64} (h : ai_R1 σ I L) : ∀ c, c < 200 → c % 5 < σ.nQ → I 581 c = nI (σ.tr c) - 1 := h.2.2.2.2.2.2.2.2.2.2.1
theorem ai_R1.ag {σ : ai_S} {I : Nat → Nat → Int32} {L : Nat → Nat → Int64} (h : ai_R1 σ I L) : ∀ c, c < 200 → c % 5 < σ.nQ → I 582 c = nI (σ.ag c) - 1 := h.2.2.2.2.2.2.2.2.2.2.2.1
theorem ai_R1.lf {σ : ai_S} {I : Nat → Nat → Int32} {L : Nat → Nat → Int64} (h : ai_R1 σ I L) : ∀ j, j < 24 → I 583 j = nI (ai_qb (σ.lf j)) := h.2.2.2.2.2.2.2.2.2.2.2.2.1
theorem ai_R1.sr {σ : ai_S} {I : Nat → Nat → Int32} {L : Nat → Nat → Int64} (h : ai_R1 σ I L) : ∀ j, j < 24 → I 584 j = σ.sr j := h.2.2.2.2.2.2.2.2.2.2.2.2.2.1
theorem ai_R1.gn {σ : ai_S} {I : Nat → Nat → Int32} {L : Nat → Nat → Int64} (h : ai_R1 σ I L) : ∀ j, j < 24 → σ.lf j = false → I 585 j = nI (σ.given j) := h.2.2.2.2.2.2.2.2.2.2.2.2.2.2.1
theorem ai_R1.gv {σ : ai_S} {I : Nat → Nat → Int32} {L : Nat → Nat → Int64} (h : ai_R1 σ I L) : ∀ j c, j < 24 → c < 200 → σ.lf j = false → c % 5 < σ.nQ → I 586 (200 * j + c) = (if σ.gv j c = 0 then -1 else nI (σ.said j c)) := h.2.2.2.2.2.2.2.2.2.2.2.2.2.2.2.1
theorem ai_R1.mn {σ : ai_S} {I : Nat → Nat → Int32} {L : Nat → Nat → Int64} (h : ai_R1 σ I L) : ∀ j c, j < 24 → c < 200 → σ.lf j = false → c % 5 < σ.nQ → σ.gv j c ≠ 0 → I 587 (200 * j + c) = nI (σ.kind j c) := h.2.2.2.2.2.2.2.2.2.2.2.2.2.2.2.2.1
theorem ai_R1.old {σ : ai_S} {I : Nat → Nat → Int32} {L : Nat → Nat → Int64} (h : ai_R1 σ I L) : I 572 20 = nI 1 ∨ (I 572 20 = nI 0 ∧ ∀ j, j < σ.nJ → I 589 j = nI (σ.cop j) - 1 ∧ ∀ c, c < 200 → I 588 (200 * j + c) = nI (ai_qb (σ.ctd j c))) := h.2.2.2.2.2.2.2.2.2.2.2.2.2.2.2.2.2.1
theorem ai_R1.mk {σ : ai_S} {I : Nat → Nat → Int32} {L : Nat → Nat → Int64} (h : ai_R1 σ I L) : I 572 21 = nI σ.mk := h.2.2.2.2.2.2.2.2.2.2.2.2.2.2.2.2.2.2.1
theorem ai_R1.lk {σ : ai_S} {I : Nat → Nat → Int32} {L : Nat → Nat → Int64} (h : ai_R1 σ I L) : I 572 22 = nI σ.lk := h.2.2.2.2.2.2.2.2.2.2.2.2.2.2.2.2.2.2.2.1
theorem ai_R1.hs {σ : ai_S} {I : Nat → Nat → Int32} {L : Nat → Nat → Int64} (h : ai_R1 σ I L) : I 572 23 = nI σ.hs := h.2.2.2.2.2.2.2.2.2.2.2.2.2.2.2.2.2.2.2.2.1
theorem ai_R1.ch {σ : ai_S} {I : Nat → Nat → Int32} {L : Nat → Nat → Int64} (h : ai_R1 σ I L) : ∀ i, i < σ.st → I 594 i = nI (σ.ch i) := h.2.2.2.2.2.2.2.2.2.2.2.2.2.2.2.2.2.2.2.2.2.1
theorem ai_R1.st {σ : ai_S} {I : Nat → Nat → Int32} {L : Nat → Nat → Int64} (h : ai_R1 σ I L) : I 572 29 = nI σ.st := h.2.2.2.2.2.2.2.2.2.2.2.2.2.2.2.2.2.2.2.2.2.2
theorem r1_of (h : ai_RM σ I L) : ai_R1 σ I L := ⟨h.rf, h.hd, h.sz, h.el, h.nT, h.nQ, h.nJ, h.an, h.pa, h.wa, h.tr, h.ag, h.lf, h.sr, h.gn, h.gv, h.mn, h.old, h.mk, h.lk, h.hs, h.ch, h.st⟩
def ai_f2 (I I2 : Nat → Nat → Int32) : Prop := ∀ a, a ≠ 590 → a ≠ 591 → I2 a = I a
theorem r1_f2 (hX : ai_R1 σ I L) {I2 : Nat → Nat → Int32} (f : ai_f2 I I2) : ai_R1 σ I2 L := by
  refine ⟨?_, ?_, ?_, hX.el, ?_, ?_, ?_, ?_, ?_, ?_, ?_, ?_, ?_, ?_, ?_, ?_, ?_, ?_, ?_, ?_, ?_, ?_, ?_⟩
  · intro i g0; rw [f _ (by omega) (by omega)]; exact hX.rf i g0
  · intro s g0; rw [f _ (by omega) (by omega)]; exact hX.hd s g0
  · intro s g0; rw [f _ (by omega) (by omega)]; exact hX.sz s g0
  · rw [f _ (by omega) (by omega)]; exact hX.nT 
  · rw [f _ (by omega) (by omega)]; exact hX.nQ 
  · rw [f _ (by omega) (by omega)]; exact hX.nJ 
  · intro q g0; rw [f _ (by omega) (by omega)]; exact hX.an q g0
  · intro q g0 g1; rw [f _ (by omega) (by omega)]; exact hX.pa q g0 g1
  · intro q g0 g1; rw [f _ (by omega) (by omega)]; exact hX.wa q g0 g1
  · intro c g0 g1; rw [f _ (by omega) (by omega)]; exact hX.tr c g0 g1
  · intro c g0 g1; rw [f _ (by omega) (by omega)]; exact hX.ag c g0 g1
  · intro j g0; rw [f _ (by omega) (by omega)]; exact hX.lf j g0
  · intro j g0; rw [f _ (by omega) (by omega)]; exact hX.sr j g0
  · intro j g0 g1; rw [f _ (by omega) (by omega)]; exact hX.gn j g0 g1
  · intro j c g0 g1 g2 g3; rw [f _ (by omega) (by omega)]; exact hX.gv j c g0 g1 g2 g3
  · intro j c g0 g1 g2 g3 g4; rw [f _ (by omega) (by omega)]; exact hX.mn j c g0 g1 g2 g3 g4
  · rw [f 572 (by omega) (by omega), f 589 (by omega) (by omega), f 588 (by omega) (by omega)]; exact hX.old
  · rw [f _ (by omega) (by omega)]; exact hX.mk 
  · rw [f _ (by omega) (by omega)]; exact hX.lk 
  · rw [f _ (by omega) (by omega)]; exact hX.hs 
  · intro i g0; rw [f _ (by omega) (by omega)]; exact hX.ch i g0
  · rw [f _ (by omega) (by omega)]; exact hX.st 
theorem r1_said (hR : ai_R1 σ I L) (hV : ai_IV σ) {j c i : Nat} (hi : i = 200 * j + c) (hj : j < 24) (hc : c < 200) (h0 : σ.gv j c ≠ 0) : I 586 i = nI (σ.said j c) := by
  subst hi
  have h1 := hV.gv j c hc h0
  rw [hR.gv j c hj hc h1.2.1 h1.2.2.2.1, if_neg h0]
theorem rm_tt {T : Nat → Nat → Nat → Nat → Nat} {T2 : Nat → Nat → Nat → Nat} (hX : ai_R1 σ I L) (h1 : ∀ j q a b, j < 24 → q < σ.nQ → a < 4 → b < 4 → I 590 (((5 * j + q) * 4 + a) * 4 + b) = nI (1 + T j q a b)) (h2 : ∀ j q b, j < 24 → q < σ.nQ → b < 4 → I 591 ((5 * j + q) * 4 + b) = nI (σ.an q + T2 j q b)) : ai_RM (σ.tt T T2) I L := by
  refine ⟨?_, ?_, ?_, ?_, ?_, ?_, ?_, ?_, ?_, ?_, ?_, ?_, ?_, ?_, ?_, ?_, ?_, ?_, ?_, ?_, ?_, ?_, ?_, ?_, ?_⟩
  · exact hX.rf
  · exact hX.hd
  · exact hX.sz
  · exact hX.el
  · exact hX.nT
  · exact hX.nQ
  · exact hX.nJ
  · exact hX.an
  · exact hX.pa
  · exact hX.wa
  · exact hX.tr
  · exact hX.ag
  · exact hX.lf
  · exact hX.sr
  · intro j h0 h3; rw [tt_given]; exact hX.gn j h0 h3
  · exact hX.gv
  · exact hX.mn
  · exact hX.old
  · exact hX.mk
  · exact hX.lk
  · exact hX.hs
  · intro j q a b h0 h3 h4 h5; exact h1 j q a b h0 h3 h4 h5
  · intro j q b h0 h3 h4; exact h2 j q b h0 h3 h4
  · exact hX.ch
  · exact hX.st
theorem m_rt_t (G : ai_G S F) {I0 : Nat → Nat → Int32} (hR0 : ai_R1 σ I0 L) (hC0 : ai_RC σ I0) (hV : ai_IV σ) {w : Nat} (hw : w = 0 → ∀ c, c < 200 → σ.ag c = 0) (hw2 : w < 2) {j q : Nat} (hj : j < σ.nJ) (hq : q < σ.nQ) {Q : Option Value → ai_H → Prop} (hk : ∀ I u5 u6, (∀ a b, a < 4 → b < 4 → I 590 (((5 * j + q) * 4 + a) * 4 + b) = nI (1 + ai_qn (σ.p1 j q a b) σ.nT)) → (∀ b, b < 4 → I 591 ((5 * j + q) * 4 + b) = nI (σ.an q + ai_qn (σ.p2 j q b) σ.nT)) → ai_fT9 I0 I (5 * j + q) → ai_Ev none 158 162 [some (.ref 572), some (.int (nI w)), some (.int (nI j)), some (.int (nI q)), some (.int (nI σ.nT)), u5, u6] [] (S, I, L, F) Q) : ∀ (z t : Nat) (I : Nat → Nat → Int32) (u5 u6 : Option Value), t + z = σ.nT → (∀ a b, a < 4 → b < 4 → I 590 (((5 * j + q) * 4 + a) * 4 + b) = nI (1 + ai_qn (σ.p1 j q a b) t)) → (∀ b, b < 4 → I 591 ((5 * j + q) * 4 + b) = nI (σ.an q + ai_qn (σ.p2 j q b) t)) → ai_fT9 I0 I (5 * j + q) → ai_Ev none 158 29 [some (.ref 572), some (.int (nI w)), some (.int (nI j)), some (.int (nI q)), some (.int (nI t)), u5, u6] [] (S, I, L, F) Q := by
  have hnT := hV.nT
  have hnQ := hV.nQ
  have hnJ := hV.nJ
  intro z
  induction z with
  | zero =>
    intro t I u5 u6 hz htp hbt hf
    have e9 : t = σ.nT := by omega
    subst e9
    have hf2 : ai_f2 I0 I := fun a h1 h2 => by funext k; exact hf a k (by omega) (by omega)
    have hR := r1_f2 hR0 hf2
    refine ev_iload 31 rfl d158_29 rfl ?_
    refine ev_aload_n 32 rfl d158_31 rfl ?_
    refine ev_geti (v := nI σ.nT) 35 rfl 9 5 d158_32 rfl (by omega) (G.1 _ _ (rfl : ai_sp 572 = (9, 0)) (by decide) (by decide)) hR.nT ?_
    refine ev_icmp 162 38 (by decide) rfl (cn_ge (by omega) (by omega)) d158_35 (fun hc_35 => ?_) (fun hc_35 => absurd hc_35 (by omega))
    exact hk I _ _ htp hbt hf
  | succ z ih =>
    intro t I u5 u6 hz htp hbt hf
    have hf2 : ai_f2 I0 I := fun a h1 h2 => by funext k; exact hf a k (by omega) (by omega)
    have hR := r1_f2 hR0 hf2
    refine ev_iload 31 rfl d158_29 rfl ?_
    refine ev_aload_n 32 rfl d158_31 rfl ?_
    refine ev_geti (v := nI σ.nT) 35 rfl 9 5 d158_32 rfl (by omega) (G.1 _ _ (rfl : ai_sp 572 = (9, 0)) (by decide) (by decide)) hR.nT ?_
    refine ev_icmp 162 38 (by decide) rfl (cn_ge (by omega) (by omega)) d158_35 (fun hc_35 => absurd hc_35 (by omega)) (fun hc_35 => ?_)
    refine ev_iconst (v := nI 5) 39 rfl d158_38 (by decide) ?_
    refine ev_iload 41 rfl d158_39 rfl ?_
    refine ev_imul (v := nI (5 * t)) 42 rfl d158_41 (pk_mul _ _) ?_
    refine ev_iload_n 43 rfl d158_42 rfl ?_
    refine ev_iadd (v := nI ((5 * t) + q)) 44 rfl d158_43 (nI_add _ _) ?_
    refine ev_store_i 46 rfl d158_44 ⟨rfl, Nat.le_of_ble_eq_true rfl⟩ rfl ?_
    show ai_Ev _ _ _ [some (.ref 572), some (.int (nI w)), some (.int (nI j)), some (.int (nI q)), some (.int (nI t)), some (.int (nI ((5 * t) + q))), u6] _ _ _
    have htr := tr_le hV (c := 5 * t + q) (by omega)
    have hag := ag_le hV (c := 5 * t + q) (by omega)
    have hqb := qb_lt (σ.ctd j (5 * t + q))
    refine ev_aload_n 47 rfl d158_46 rfl ?_
    refine ev_getr 50 rfl 9 11 d158_47 rfl (by omega) (G.1 _ _ (rfl : ai_sp 572 = (9, 0)) (by decide) (by decide)) (G.2 _ _ _ (rfl : ai_rf 572 11 = some 581)) ?_
    refine ev_iload 52 rfl d158_50 rfl ?_
    refine ev_iald_n (v := nI (σ.tr ((5 * t) + q)) - 1) 53 rfl d158_52 (by omega) (G.1 _ _ (rfl : ai_sp 581 = (100, 200)) (by decide) (by decide)) (by omega) (by decide) (hR.tr _ (by omega) (by omega)) ?_
    refine ev_iconst (v := (-1)) 54 rfl d158_53 (by decide) ?_
    refine ev_icmp 67 57 (by decide) rfl (cq_eq (by omega)) d158_54 (fun hc_54 => ?_) (fun hc_54 => ?_)
    · have htg0 : σ.tog (5 * t + q) = σ.ag (5 * t + q) := if_pos hc_54
      refine ev_iload_n 68 rfl d158_67 rfl ?_
      refine ev_if 81 71 (by decide) rfl (c0_eq (by omega)) d158_68 (fun hc_68 => ?_) (fun hc_68 => ?_)
      · have htog : σ.tog (5 * t + q) = 0 := by rw [htg0]; exact hw hc_68 _ (by omega)
        refine ev_iconst (v := (-1)) 82 rfl d158_81 (by decide) ?_
        refine ev_store_i 84 rfl d158_82 ⟨rfl, Nat.le_of_ble_eq_true rfl⟩ rfl ?_
        show ai_Ev _ _ _ [some (.ref 572), some (.int (nI w)), some (.int (nI j)), some (.int (nI q)), some (.int (nI t)), some (.int (nI ((5 * t) + q))), some (.int (-1))] _ _ _
        refine ev_iload 86 rfl d158_84 rfl ?_
        refine ev_iconst (v := (-1)) 87 rfl d158_86 (by decide) ?_
        refine ev_icmp_T 156 (by decide) (by decide) d158_87 ?_
        refine ev_iinc (v := nI (t + 1)) 159 rfl d158_156 rfl (Nat.le_of_ble_eq_true rfl) (nI_add _ 1) rfl ?_
        show ai_Ev _ _ _ [some (.ref 572), some (.int (nI w)), some (.int (nI j)), some (.int (nI q)), some (.int (nI (t + 1))), some (.int (nI ((5 * t) + q))), some (.int (-1))] _ _ _
        refine ev_goto 29 (by decide) d158_159 ?_
        have hp1 : ∀ a b, ai_qn (σ.p1 j q a b) (t + 1) = ai_qn (σ.p1 j q a b) t := fun a b => qn_F (fun h9 => by
          unfold ai_S.p1 at h9
          simp only [Bool.and_eq_true, decide_eq_true_eq] at h9
          first
            | omega
            | exact hnc h9.1)
        have hp2 : ∀ b, ai_qn (σ.p2 j q b) (t + 1) = ai_qn (σ.p2 j q b) t := fun b => qn_F (fun h9 => by
          unfold ai_S.p2 at h9
          simp only [Bool.and_eq_true, decide_eq_true_eq] at h9
          first
            | omega
            | exact hnc h9.1)
        exact ih (t + 1) I (some (.int (nI ((5 * t) + q)))) (some (.int (-1))) (by omega) (fun a b ha hb => by rw [hp1]; exact htp a b ha hb) (fun b hb => by rw [hp2]; exact hbt b hb) hf
      · have htog := htg0
        refine ev_aload_n 72 rfl d158_71 rfl ?_
        refine ev_getr 75 rfl 9 12 d158_72 rfl (by omega) (G.1 _ _ (rfl : ai_sp 572 = (9, 0)) (by decide) (by decide)) (G.2 _ _ _ (rfl : ai_rf 572 12 = some 582)) ?_
        refine ev_iload 77 rfl d158_75 rfl ?_
        refine ev_iald_n (v := nI (σ.ag ((5 * t) + q)) - 1) 78 rfl d158_77 (by omega) (G.1 _ _ (rfl : ai_sp 582 = (100, 200)) (by decide) (by decide)) (by omega) (by decide) (hR.ag _ (by omega) (by omega)) ?_
        refine ev_goto 82 (by decide) d158_78 ?_
        refine ev_store_i 84 rfl d158_82 ⟨rfl, Nat.le_of_ble_eq_true rfl⟩ rfl ?_
        show ai_Ev _ _ _ [some (.ref 572), some (.int (nI w)), some (.int (nI j)), some (.int (nI q)), some (.int (nI t)), some (.int (nI ((5 * t) + q))), some (.int (nI (σ.ag ((5 * t) + q)) - 1))] _ _ _
        refine ev_iload 86 rfl d158_84 rfl ?_
        refine ev_iconst (v := (-1)) 87 rfl d158_86 (by decide) ?_
        refine ev_icmp 156 90 (by decide) rfl (cq_eq (by omega)) d158_87 (fun hc_87 => ?_) (fun hc_87 => ?_)
        · refine ev_iinc (v := nI (t + 1)) 159 rfl d158_156 rfl (Nat.le_of_ble_eq_true rfl) (nI_add _ 1) rfl ?_
          show ai_Ev _ _ _ [some (.ref 572), some (.int (nI w)), some (.int (nI j)), some (.int (nI q)), some (.int (nI (t + 1))), some (.int (nI ((5 * t) + q))), some (.int (nI (σ.ag ((5 * t) + q)) - 1))] _ _ _
          refine ev_goto 29 (by decide) d158_159 ?_
          have hp1 : ∀ a b, ai_qn (σ.p1 j q a b) (t + 1) = ai_qn (σ.p1 j q a b) t := fun a b => qn_F (fun h9 => by
            unfold ai_S.p1 at h9
            simp only [Bool.and_eq_true, decide_eq_true_eq] at h9
            first
              | omega
              | exact hnc h9.1)
          have hp2 : ∀ b, ai_qn (σ.p2 j q b) (t + 1) = ai_qn (σ.p2 j q b) t := fun b => qn_F (fun h9 => by
            unfold ai_S.p2 at h9
            simp only [Bool.and_eq_true, decide_eq_true_eq] at h9
            first
              | omega
              | exact hnc h9.1)
          exact ih (t + 1) I (some (.int (nI ((5 * t) + q)))) (some (.int (nI (σ.ag ((5 * t) + q)) - 1))) (by omega) (fun a b ha hb => by rw [hp1]; exact htp a b ha hb) (fun b hb => by rw [hp2]; exact hbt b hb) hf
        · rw [nM_pos hc_87]
          refine ev_aload_n 91 rfl d158_90 rfl ?_
          refine ev_getr 94 rfl 9 18 d158_91 rfl (by omega) (G.1 _ _ (rfl : ai_sp 572 = (9, 0)) (by decide) (by decide)) (G.2 _ _ _ (rfl : ai_rf 572 18 = some 588)) ?_
          refine ev_sipush (v := nI 200) 97 rfl d158_94 (by decide) ?_
          refine ev_iload_n 98 rfl d158_97 rfl ?_
          refine ev_imul (v := nI (200 * j)) 99 rfl d158_98 (pk_mul _ _) ?_
          refine ev_iload 101 rfl d158_99 rfl ?_
          refine ev_iadd (v := nI ((200 * j) + ((5 * t) + q))) 102 rfl d158_101 (nI_add _ _) ?_
          refine ev_bald_n (v := nI (ai_qb (σ.ctd j (5 * t + q)))) 103 rfl d158_102 (by omega) (by decide) (G.1 _ _ (rfl : ai_sp 588 = (102, 4800)) (by decide) (by decide)) (by omega) (by decide) ((congrFun (hf2 588 (by omega) (by omega)) _).trans (rm_ct hC0 (j := j) (c := 5 * t + q) (by omega) hj (by omega))) ?_
          refine ev_if 109 106 (by decide) rfl (c0_ne (by omega)) d158_103 (fun hc_103 => ?_) (fun hc_103 => ?_)
          · have hcd := qb_1 hc_103
            have hgv := ctd_gv hcd
            have hsl := said_lt4 (σ := σ) (j := j) (c := 5 * t + q)
            refine ev_aload_n 110 rfl d158_109 rfl ?_
            refine ev_getr 113 rfl 9 24 d158_110 rfl (by omega) (G.1 _ _ (rfl : ai_sp 572 = (9, 0)) (by decide) (by decide)) (G.2 _ _ _ (rfl : ai_rf 572 24 = some 590)) ?_
            refine ev_aload_n 114 rfl d158_113 rfl ?_
            refine ev_iload_n 115 rfl d158_114 rfl ?_
            refine ev_iload_n 116 rfl d158_115 rfl ?_
            refine ev_aload_n 117 rfl d158_116 rfl ?_
            refine ev_getr 120 rfl 9 16 d158_117 rfl (by omega) (G.1 _ _ (rfl : ai_sp 572 = (9, 0)) (by decide) (by decide)) (G.2 _ _ _ (rfl : ai_rf 572 16 = some 586)) ?_
            refine ev_sipush (v := nI 200) 123 rfl d158_120 (by decide) ?_
            refine ev_iload_n 124 rfl d158_123 rfl ?_
            refine ev_imul (v := nI (200 * j)) 125 rfl d158_124 (pk_mul _ _) ?_
            refine ev_iload 127 rfl d158_125 rfl ?_
            refine ev_iadd (v := nI ((200 * j) + ((5 * t) + q))) 128 rfl d158_127 (nI_add _ _) ?_
            refine ev_iald_n (v := nI (σ.said j (5 * t + q))) 129 rfl d158_128 (by omega) (G.1 _ _ (rfl : ai_sp 586 = (100, 4800)) (by decide) (by decide)) (by omega) (by decide) (r1_said hR hV (j := j) (c := 5 * t + q) (by omega) (by omega) (by omega) hgv) ?_
            refine ev_iload 131 rfl d158_129 rfl ?_
            refine ev_cp4 134 rfl 125 d158_131 rfl rfl (by rw [G.1 _ _ (rfl : ai_sp 572 = (9, 0)) (by decide) (by decide)]; rfl) (by omega) rfl (m_topAt G) ?_
            refine ev_dup2 135 rfl d158_134 ⟨rfl, rfl⟩ ?_
            refine ev_iald_n (v := nI (1 + ai_qn (σ.p1 j q (σ.said j (5 * t + q)) (σ.ag ((5 * t) + q) - 1)) t)) 136 rfl d158_135 (by omega) (G.1 _ _ (rfl : ai_sp 590 = (100, 1920)) (by decide) (by decide)) (by omega) (by decide) (htp _ _ (by omega) (by omega)) ?_
            refine ev_iconst (v := nI 1) 137 rfl d158_136 (by decide) ?_
            refine ev_iadd (v := nI ((1 + ai_qn (σ.p1 j q (σ.said j (5 * t + q)) (σ.ag ((5 * t) + q) - 1)) t) + 1)) 138 rfl d158_137 (nI_add _ _) ?_
            obtain ⟨I_1, hI_1⟩ : ∃ z, z = ai_ui I 590 (((5 * j + q) * 4 + (σ.said j (5 * t + q))) * 4 + (σ.ag ((5 * t) + q) - 1)) (nI ((1 + ai_qn (σ.p1 j q (σ.said j (5 * t + q)) (σ.ag ((5 * t) + q) - 1)) t) + 1)) := ⟨_, rfl⟩
            refine ev_iast_n (I2 := I_1) 139 rfl d158_138 (by omega) (G.1 _ _ (rfl : ai_sp 590 = (100, 1920)) (by decide) (by decide)) (by omega) (by decide) hI_1.symm ?_
            refine ev_aload_n 140 rfl d158_139 rfl ?_
            refine ev_getr 143 rfl 9 25 d158_140 rfl (by omega) (G.1 _ _ (rfl : ai_sp 572 = (9, 0)) (by decide) (by decide)) (G.2 _ _ _ (rfl : ai_rf 572 25 = some 591)) ?_
            refine ev_aload_n 144 rfl d158_143 rfl ?_
            refine ev_iload_n 145 rfl d158_144 rfl ?_
            refine ev_iload_n 146 rfl d158_145 rfl ?_
            refine ev_iload 148 rfl d158_146 rfl ?_
            refine ev_cp3 151 rfl 126 d158_148 rfl rfl (by rw [G.1 _ _ (rfl : ai_sp 572 = (9, 0)) (by decide) (by decide)]; rfl) (by omega) rfl (m_botAt G) ?_
            refine ev_dup2 152 rfl d158_151 ⟨rfl, rfl⟩ ?_
            refine ev_iald_n (v := nI (σ.an q + ai_qn (σ.p2 j q (σ.ag ((5 * t) + q) - 1)) t)) 153 rfl d158_152 (by omega) (G.1 _ _ (rfl : ai_sp 591 = (100, 480)) (by decide) (by decide)) (by omega) (by decide) (by rw [ui_row hI_1 (by omega)]; exact hbt _ (by omega)) ?_
            refine ev_iconst (v := nI 1) 154 rfl d158_153 (by decide) ?_
            refine ev_iadd (v := nI ((σ.an q + ai_qn (σ.p2 j q (σ.ag ((5 * t) + q) - 1)) t) + 1)) 155 rfl d158_154 (nI_add _ _) ?_
            obtain ⟨I_2, hI_2⟩ : ∃ z, z = ai_ui I_1 591 ((5 * j + q) * 4 + (σ.ag ((5 * t) + q) - 1)) (nI ((σ.an q + ai_qn (σ.p2 j q (σ.ag ((5 * t) + q) - 1)) t) + 1)) := ⟨_, rfl⟩
            refine ev_iast_n (I2 := I_2) 156 rfl d158_155 (by omega) (G.1 _ _ (rfl : ai_sp 591 = (100, 480)) (by decide) (by decide)) (by omega) (by decide) hI_2.symm ?_
            refine ev_iinc (v := nI (t + 1)) 159 rfl d158_156 rfl (Nat.le_of_ble_eq_true rfl) (nI_add _ 1) rfl ?_
            show ai_Ev _ _ _ [some (.ref 572), some (.int (nI w)), some (.int (nI j)), some (.int (nI q)), some (.int (nI (t + 1))), some (.int (nI ((5 * t) + q))), some (.int (nI (σ.ag ((5 * t) + q) - 1)))] _ _ _
            refine ev_goto 29 (by decide) d158_159 ?_
            refine ih (t + 1) _ (some (.int (nI ((5 * t) + q)))) (some (.int (nI (σ.ag ((5 * t) + q) - 1)))) (by omega) (fun a b ha hb => ?_) (fun b hb => ?_) (fun a k h1 h2 => by rw [ui_other hI_2 (by omega), ui_other hI_1 (by omega)]; exact hf a k h1 h2)
            · rw [ui_row hI_2 (by omega)]
              by_cases e : a = σ.said j (5 * t + q) ∧ b = σ.ag ((5 * t) + q) - 1
              · obtain ⟨rfl, rfl⟩ := e
                rw [qn_T (p := σ.p1 j q (σ.said j (5 * t + q)) (σ.ag ((5 * t) + q) - 1)) (by unfold ai_S.p1; rw [hcd, htog]; simp only [Bool.true_and, Bool.and_eq_true, decide_eq_true_eq]; first | omega | exact ⟨rfl, by omega⟩ | exact ⟨trivial, by omega⟩), ui_same hI_1]
                congr 1
              · rw [qn_F (p := σ.p1 j q a b) (by unfold ai_S.p1; rw [hcd, htog]; simp only [Bool.true_and, Bool.and_eq_true, decide_eq_true_eq]; omega), ui_other hI_1 (by omega)]
                exact htp a b ha hb
            · by_cases e : b = σ.ag ((5 * t) + q) - 1
              · subst e
                rw [qn_T (p := σ.p2 j q (σ.ag ((5 * t) + q) - 1)) (by unfold ai_S.p2; rw [hcd, htog]; simp only [Bool.true_and, decide_eq_true_eq]; omega), ui_same hI_2]
                congr 1
              · rw [qn_F (p := σ.p2 j q b) (by unfold ai_S.p2; rw [hcd, htog]; simp only [Bool.true_and, decide_eq_true_eq]; omega), ui_other hI_2 (by omega), ui_row hI_1 (by omega)]
                exact hbt b hb
          · have hnc : ¬ σ.ctd j (5 * t + q) = true := qb_0 (by omega)
            refine ev_goto 156 (by decide) d158_106 ?_
            refine ev_iinc (v := nI (t + 1)) 159 rfl d158_156 rfl (Nat.le_of_ble_eq_true rfl) (nI_add _ 1) rfl ?_
            show ai_Ev _ _ _ [some (.ref 572), some (.int (nI w)), some (.int (nI j)), some (.int (nI q)), some (.int (nI (t + 1))), some (.int (nI ((5 * t) + q))), some (.int (nI (σ.ag ((5 * t) + q) - 1)))] _ _ _
            refine ev_goto 29 (by decide) d158_159 ?_
            have hp1 : ∀ a b, ai_qn (σ.p1 j q a b) (t + 1) = ai_qn (σ.p1 j q a b) t := fun a b => qn_F (fun h9 => by
              unfold ai_S.p1 at h9
              simp only [Bool.and_eq_true, decide_eq_true_eq] at h9
              first
                | omega
                | exact hnc h9.1)
            have hp2 : ∀ b, ai_qn (σ.p2 j q b) (t + 1) = ai_qn (σ.p2 j q b) t := fun b => qn_F (fun h9 => by
              unfold ai_S.p2 at h9
              simp only [Bool.and_eq_true, decide_eq_true_eq] at h9
              first
                | omega
                | exact hnc h9.1)
            exact ih (t + 1) I (some (.int (nI ((5 * t) + q)))) (some (.int (nI (σ.ag ((5 * t) + q) - 1)))) (by omega) (fun a b ha hb => by rw [hp1]; exact htp a b ha hb) (fun b hb => by rw [hp2]; exact hbt b hb) hf
    · have htog : σ.tog (5 * t + q) = σ.tr (5 * t + q) := if_neg hc_54
      refine ev_aload_n 58 rfl d158_57 rfl ?_
      refine ev_getr 61 rfl 9 11 d158_58 rfl (by omega) (G.1 _ _ (rfl : ai_sp 572 = (9, 0)) (by decide) (by decide)) (G.2 _ _ _ (rfl : ai_rf 572 11 = some 581)) ?_
      refine ev_iload 63 rfl d158_61 rfl ?_
      refine ev_iald_n (v := nI (σ.tr ((5 * t) + q)) - 1) 64 rfl d158_63 (by omega) (G.1 _ _ (rfl : ai_sp 581 = (100, 200)) (by decide) (by decide)) (by omega) (by decide) (hR.tr _ (by omega) (by omega)) ?_
      refine ev_goto 82 (by decide) d158_64 ?_
      refine ev_store_i 84 rfl d158_82 ⟨rfl, Nat.le_of_ble_eq_true rfl⟩ rfl ?_
      show ai_Ev _ _ _ [some (.ref 572), some (.int (nI w)), some (.int (nI j)), some (.int (nI q)), some (.int (nI t)), some (.int (nI ((5 * t) + q))), some (.int (nI (σ.tr ((5 * t) + q)) - 1))] _ _ _
      refine ev_iload 86 rfl d158_84 rfl ?_
      refine ev_iconst (v := (-1)) 87 rfl d158_86 (by decide) ?_
      refine ev_icmp 156 90 (by decide) rfl (cq_eq (by omega)) d158_87 (fun hc_87 => ?_) (fun hc_87 => ?_)
      · refine ev_iinc (v := nI (t + 1)) 159 rfl d158_156 rfl (Nat.le_of_ble_eq_true rfl) (nI_add _ 1) rfl ?_
        show ai_Ev _ _ _ [some (.ref 572), some (.int (nI w)), some (.int (nI j)), some (.int (nI q)), some (.int (nI (t + 1))), some (.int (nI ((5 * t) + q))), some (.int (nI (σ.tr ((5 * t) + q)) - 1))] _ _ _
        refine ev_goto 29 (by decide) d158_159 ?_
        have hp1 : ∀ a b, ai_qn (σ.p1 j q a b) (t + 1) = ai_qn (σ.p1 j q a b) t := fun a b => qn_F (fun h9 => by
          unfold ai_S.p1 at h9
          simp only [Bool.and_eq_true, decide_eq_true_eq] at h9
          first
            | omega
            | exact hnc h9.1)
        have hp2 : ∀ b, ai_qn (σ.p2 j q b) (t + 1) = ai_qn (σ.p2 j q b) t := fun b => qn_F (fun h9 => by
          unfold ai_S.p2 at h9
          simp only [Bool.and_eq_true, decide_eq_true_eq] at h9
          first
            | omega
            | exact hnc h9.1)
        exact ih (t + 1) I (some (.int (nI ((5 * t) + q)))) (some (.int (nI (σ.tr ((5 * t) + q)) - 1))) (by omega) (fun a b ha hb => by rw [hp1]; exact htp a b ha hb) (fun b hb => by rw [hp2]; exact hbt b hb) hf
      · rw [nM_pos hc_87]
        refine ev_aload_n 91 rfl d158_90 rfl ?_
        refine ev_getr 94 rfl 9 18 d158_91 rfl (by omega) (G.1 _ _ (rfl : ai_sp 572 = (9, 0)) (by decide) (by decide)) (G.2 _ _ _ (rfl : ai_rf 572 18 = some 588)) ?_
        refine ev_sipush (v := nI 200) 97 rfl d158_94 (by decide) ?_
        refine ev_iload_n 98 rfl d158_97 rfl ?_
        refine ev_imul (v := nI (200 * j)) 99 rfl d158_98 (pk_mul _ _) ?_
        refine ev_iload 101 rfl d158_99 rfl ?_
        refine ev_iadd (v := nI ((200 * j) + ((5 * t) + q))) 102 rfl d158_101 (nI_add _ _) ?_
        refine ev_bald_n (v := nI (ai_qb (σ.ctd j (5 * t + q)))) 103 rfl d158_102 (by omega) (by decide) (G.1 _ _ (rfl : ai_sp 588 = (102, 4800)) (by decide) (by decide)) (by omega) (by decide) ((congrFun (hf2 588 (by omega) (by omega)) _).trans (rm_ct hC0 (j := j) (c := 5 * t + q) (by omega) hj (by omega))) ?_
        refine ev_if 109 106 (by decide) rfl (c0_ne (by omega)) d158_103 (fun hc_103 => ?_) (fun hc_103 => ?_)
        · have hcd := qb_1 hc_103
          have hgv := ctd_gv hcd
          have hsl := said_lt4 (σ := σ) (j := j) (c := 5 * t + q)
          refine ev_aload_n 110 rfl d158_109 rfl ?_
          refine ev_getr 113 rfl 9 24 d158_110 rfl (by omega) (G.1 _ _ (rfl : ai_sp 572 = (9, 0)) (by decide) (by decide)) (G.2 _ _ _ (rfl : ai_rf 572 24 = some 590)) ?_
          refine ev_aload_n 114 rfl d158_113 rfl ?_
          refine ev_iload_n 115 rfl d158_114 rfl ?_
          refine ev_iload_n 116 rfl d158_115 rfl ?_
          refine ev_aload_n 117 rfl d158_116 rfl ?_
          refine ev_getr 120 rfl 9 16 d158_117 rfl (by omega) (G.1 _ _ (rfl : ai_sp 572 = (9, 0)) (by decide) (by decide)) (G.2 _ _ _ (rfl : ai_rf 572 16 = some 586)) ?_
          refine ev_sipush (v := nI 200) 123 rfl d158_120 (by decide) ?_
          refine ev_iload_n 124 rfl d158_123 rfl ?_
          refine ev_imul (v := nI (200 * j)) 125 rfl d158_124 (pk_mul _ _) ?_
          refine ev_iload 127 rfl d158_125 rfl ?_
          refine ev_iadd (v := nI ((200 * j) + ((5 * t) + q))) 128 rfl d158_127 (nI_add _ _) ?_
          refine ev_iald_n (v := nI (σ.said j (5 * t + q))) 129 rfl d158_128 (by omega) (G.1 _ _ (rfl : ai_sp 586 = (100, 4800)) (by decide) (by decide)) (by omega) (by decide) (r1_said hR hV (j := j) (c := 5 * t + q) (by omega) (by omega) (by omega) hgv) ?_
          refine ev_iload 131 rfl d158_129 rfl ?_
          refine ev_cp4 134 rfl 125 d158_131 rfl rfl (by rw [G.1 _ _ (rfl : ai_sp 572 = (9, 0)) (by decide) (by decide)]; rfl) (by omega) rfl (m_topAt G) ?_
          refine ev_dup2 135 rfl d158_134 ⟨rfl, rfl⟩ ?_
          refine ev_iald_n (v := nI (1 + ai_qn (σ.p1 j q (σ.said j (5 * t + q)) (σ.tr ((5 * t) + q) - 1)) t)) 136 rfl d158_135 (by omega) (G.1 _ _ (rfl : ai_sp 590 = (100, 1920)) (by decide) (by decide)) (by omega) (by decide) (htp _ _ (by omega) (by omega)) ?_
          refine ev_iconst (v := nI 1) 137 rfl d158_136 (by decide) ?_
          refine ev_iadd (v := nI ((1 + ai_qn (σ.p1 j q (σ.said j (5 * t + q)) (σ.tr ((5 * t) + q) - 1)) t) + 1)) 138 rfl d158_137 (nI_add _ _) ?_
          obtain ⟨I_1, hI_1⟩ : ∃ z, z = ai_ui I 590 (((5 * j + q) * 4 + (σ.said j (5 * t + q))) * 4 + (σ.tr ((5 * t) + q) - 1)) (nI ((1 + ai_qn (σ.p1 j q (σ.said j (5 * t + q)) (σ.tr ((5 * t) + q) - 1)) t) + 1)) := ⟨_, rfl⟩
          refine ev_iast_n (I2 := I_1) 139 rfl d158_138 (by omega) (G.1 _ _ (rfl : ai_sp 590 = (100, 1920)) (by decide) (by decide)) (by omega) (by decide) hI_1.symm ?_
          refine ev_aload_n 140 rfl d158_139 rfl ?_
          refine ev_getr 143 rfl 9 25 d158_140 rfl (by omega) (G.1 _ _ (rfl : ai_sp 572 = (9, 0)) (by decide) (by decide)) (G.2 _ _ _ (rfl : ai_rf 572 25 = some 591)) ?_
          refine ev_aload_n 144 rfl d158_143 rfl ?_
          refine ev_iload_n 145 rfl d158_144 rfl ?_
          refine ev_iload_n 146 rfl d158_145 rfl ?_
          refine ev_iload 148 rfl d158_146 rfl ?_
          refine ev_cp3 151 rfl 126 d158_148 rfl rfl (by rw [G.1 _ _ (rfl : ai_sp 572 = (9, 0)) (by decide) (by decide)]; rfl) (by omega) rfl (m_botAt G) ?_
          refine ev_dup2 152 rfl d158_151 ⟨rfl, rfl⟩ ?_
          refine ev_iald_n (v := nI (σ.an q + ai_qn (σ.p2 j q (σ.tr ((5 * t) + q) - 1)) t)) 153 rfl d158_152 (by omega) (G.1 _ _ (rfl : ai_sp 591 = (100, 480)) (by decide) (by decide)) (by omega) (by decide) (by rw [ui_row hI_1 (by omega)]; exact hbt _ (by omega)) ?_
          refine ev_iconst (v := nI 1) 154 rfl d158_153 (by decide) ?_
          refine ev_iadd (v := nI ((σ.an q + ai_qn (σ.p2 j q (σ.tr ((5 * t) + q) - 1)) t) + 1)) 155 rfl d158_154 (nI_add _ _) ?_
          obtain ⟨I_2, hI_2⟩ : ∃ z, z = ai_ui I_1 591 ((5 * j + q) * 4 + (σ.tr ((5 * t) + q) - 1)) (nI ((σ.an q + ai_qn (σ.p2 j q (σ.tr ((5 * t) + q) - 1)) t) + 1)) := ⟨_, rfl⟩
          refine ev_iast_n (I2 := I_2) 156 rfl d158_155 (by omega) (G.1 _ _ (rfl : ai_sp 591 = (100, 480)) (by decide) (by decide)) (by omega) (by decide) hI_2.symm ?_
          refine ev_iinc (v := nI (t + 1)) 159 rfl d158_156 rfl (Nat.le_of_ble_eq_true rfl) (nI_add _ 1) rfl ?_
          show ai_Ev _ _ _ [some (.ref 572), some (.int (nI w)), some (.int (nI j)), some (.int (nI q)), some (.int (nI (t + 1))), some (.int (nI ((5 * t) + q))), some (.int (nI (σ.tr ((5 * t) + q) - 1)))] _ _ _
          refine ev_goto 29 (by decide) d158_159 ?_
          refine ih (t + 1) _ (some (.int (nI ((5 * t) + q)))) (some (.int (nI (σ.tr ((5 * t) + q) - 1)))) (by omega) (fun a b ha hb => ?_) (fun b hb => ?_) (fun a k h1 h2 => by rw [ui_other hI_2 (by omega), ui_other hI_1 (by omega)]; exact hf a k h1 h2)
          · rw [ui_row hI_2 (by omega)]
            by_cases e : a = σ.said j (5 * t + q) ∧ b = σ.tr ((5 * t) + q) - 1
            · obtain ⟨rfl, rfl⟩ := e
              rw [qn_T (p := σ.p1 j q (σ.said j (5 * t + q)) (σ.tr ((5 * t) + q) - 1)) (by unfold ai_S.p1; rw [hcd, htog]; simp only [Bool.true_and, Bool.and_eq_true, decide_eq_true_eq]; first | omega | exact ⟨rfl, by omega⟩ | exact ⟨trivial, by omega⟩), ui_same hI_1]
              congr 1
            · rw [qn_F (p := σ.p1 j q a b) (by unfold ai_S.p1; rw [hcd, htog]; simp only [Bool.true_and, Bool.and_eq_true, decide_eq_true_eq]; omega), ui_other hI_1 (by omega)]
              exact htp a b ha hb
          · by_cases e : b = σ.tr ((5 * t) + q) - 1
            · subst e
              rw [qn_T (p := σ.p2 j q (σ.tr ((5 * t) + q) - 1)) (by unfold ai_S.p2; rw [hcd, htog]; simp only [Bool.true_and, decide_eq_true_eq]; omega), ui_same hI_2]
              congr 1
            · rw [qn_F (p := σ.p2 j q b) (by unfold ai_S.p2; rw [hcd, htog]; simp only [Bool.true_and, decide_eq_true_eq]; omega), ui_other hI_2 (by omega), ui_row hI_1 (by omega)]
              exact hbt b hb
        · have hnc : ¬ σ.ctd j (5 * t + q) = true := qb_0 (by omega)
          refine ev_goto 156 (by decide) d158_106 ?_
          refine ev_iinc (v := nI (t + 1)) 159 rfl d158_156 rfl (Nat.le_of_ble_eq_true rfl) (nI_add _ 1) rfl ?_
          show ai_Ev _ _ _ [some (.ref 572), some (.int (nI w)), some (.int (nI j)), some (.int (nI q)), some (.int (nI (t + 1))), some (.int (nI ((5 * t) + q))), some (.int (nI (σ.tr ((5 * t) + q) - 1)))] _ _ _
          refine ev_goto 29 (by decide) d158_159 ?_
          have hp1 : ∀ a b, ai_qn (σ.p1 j q a b) (t + 1) = ai_qn (σ.p1 j q a b) t := fun a b => qn_F (fun h9 => by
            unfold ai_S.p1 at h9
            simp only [Bool.and_eq_true, decide_eq_true_eq] at h9
            first
              | omega
              | exact hnc h9.1)
          have hp2 : ∀ b, ai_qn (σ.p2 j q b) (t + 1) = ai_qn (σ.p2 j q b) t := fun b => qn_F (fun h9 => by
            unfold ai_S.p2 at h9
            simp only [Bool.and_eq_true, decide_eq_true_eq] at h9
            first
              | omega
              | exact hnc h9.1)
          exact ih (t + 1) I (some (.int (nI ((5 * t) + q)))) (some (.int (nI (σ.tr ((5 * t) + q) - 1)))) (by omega) (fun a b ha hb => by rw [hp1]; exact htp a b ha hb) (fun b hb => by rw [hp2]; exact hbt b hb) hf
theorem m_rt_q (G : ai_G S F) {I0 : Nat → Nat → Int32} (hR0 : ai_R1 σ I0 L) (hC0 : ai_RC σ I0) (hV : ai_IV σ) {w : Nat} (hw : w = 0 → ∀ c, c < 200 → σ.ag c = 0) (hw2 : w < 2) {j : Nat} (hj : j < σ.nJ) {Q : Option Value → ai_H → Prop} (hk : ∀ I u4 u5 u6, (∀ x a b, x < σ.nQ → a < 4 → b < 4 → I 590 (((5 * j + x) * 4 + a) * 4 + b) = nI (1 + ai_qn (σ.p1 j x a b) σ.nT)) → (∀ x b, x < σ.nQ → b < 4 → I 591 ((5 * j + x) * 4 + b) = nI (σ.an x + ai_qn (σ.p2 j x b) σ.nT)) → (∀ a k, ¬ (a = 590 ∧ k / 80 = j) → ¬ (a = 591 ∧ k / 20 = j) → I a k = I0 a k) → ai_Ev none 158 168 [some (.ref 572), some (.int (nI w)), some (.int (nI j)), some (.int (nI σ.nQ)), u4, u5, u6] [] (S, I, L, F) Q) : ∀ (z q : Nat) (I : Nat → Nat → Int32) (u4 u5 u6 : Option Value), q + z = σ.nQ → (∀ x a b, x < q → a < 4 → b < 4 → I 590 (((5 * j + x) * 4 + a) * 4 + b) = nI (1 + ai_qn (σ.p1 j x a b) σ.nT)) → (∀ x b, x < q → b < 4 → I 591 ((5 * j + x) * 4 + b) = nI (σ.an x + ai_qn (σ.p2 j x b) σ.nT)) → (∀ a k, ¬ (a = 590 ∧ k / 80 = j) → ¬ (a = 591 ∧ k / 20 = j) → I a k = I0 a k) → ai_Ev none 158 12 [some (.ref 572), some (.int (nI w)), some (.int (nI j)), some (.int (nI q)), u4, u5, u6] [] (S, I, L, F) Q := by
  have hnT := hV.nT
  have hnQ := hV.nQ
  have hnJ := hV.nJ
  intro z
  induction z with
  | zero =>
    intro q I u4 u5 u6 hz htp hbt hf
    have e9 : q = σ.nQ := by omega
    subst e9
    have hf2 : ai_f2 I0 I := fun a h1 h2 => by funext k; exact hf a k (by omega) (by omega)
    have hR := r1_f2 hR0 hf2
    refine ev_iload_n 13 rfl d158_12 rfl ?_
    refine ev_aload_n 14 rfl d158_13 rfl ?_
    refine ev_geti (v := nI σ.nQ) 17 rfl 9 6 d158_14 rfl (by omega) (G.1 _ _ (rfl : ai_sp 572 = (9, 0)) (by decide) (by decide)) hR.nQ ?_
    refine ev_icmp 168 20 (by decide) rfl (cn_ge (by omega) (by omega)) d158_17 (fun hc_17 => ?_) (fun hc_17 => absurd hc_17 (by omega))
    exact hk I _ _ _ htp hbt hf
  | succ z ih =>
    intro q I u4 u5 u6 hz htp hbt hf
    have hf2 : ai_f2 I0 I := fun a h1 h2 => by funext k; exact hf a k (by omega) (by omega)
    have hR := r1_f2 hR0 hf2
    refine ev_iload_n 13 rfl d158_12 rfl ?_
    refine ev_aload_n 14 rfl d158_13 rfl ?_
    refine ev_geti (v := nI σ.nQ) 17 rfl 9 6 d158_14 rfl (by omega) (G.1 _ _ (rfl : ai_sp 572 = (9, 0)) (by decide) (by decide)) hR.nQ ?_
    refine ev_icmp 168 20 (by decide) rfl (cn_ge (by omega) (by omega)) d158_17 (fun hc_17 => absurd hc_17 (by omega)) (fun hc_17 => ?_)
    refine ev_aload_n 21 rfl d158_20 rfl ?_
    refine ev_iload_n 22 rfl d158_21 rfl ?_
    refine ev_iload_n 23 rfl d158_22 rfl ?_
    refine ev_cu2 26 rfl 127 d158_23 rfl rfl (by rw [G.1 _ _ (rfl : ai_sp 572 = (9, 0)) (by decide) (by decide)]; rfl) (by omega) rfl (m_firstTable G (n := σ.an q) (by omega) (by omega) (hR.an q (by omega))) (fun I_1 hr_23 => ?_)
    obtain ⟨hb9, ht9, hf9⟩ := hr_23
    refine ev_iconst (v := nI 0) 27 rfl d158_26 (by decide) ?_
    refine ev_store_i 29 rfl d158_27 ⟨rfl, Nat.le_of_ble_eq_true rfl⟩ rfl ?_
    show ai_Ev _ _ _ [some (.ref 572), some (.int (nI w)), some (.int (nI j)), some (.int (nI q)), some (.int (nI 0)), u5, u6] _ _ _
    have hf92 : ai_f2 I I_1 := fun a h1 h2 => by funext k; exact hf9 a k (by omega) (by omega)
    refine m_rt_t (I0 := I_1) (q := q) G (r1_f2 hR hf92) (fun j hj => ⟨by rw [hf92 _ (by omega) (by omega), hf2 _ (by omega) (by omega)]; exact (hC0 j hj).1, fun c hc => by rw [hf92 _ (by omega) (by omega), hf2 _ (by omega) (by omega)]; exact (hC0 j hj).2 c hc⟩) hV hw hw2 hj (by omega) ?_ σ.nT 0 I_1 _ _ (by omega) (fun a b ha hb => ht9 a b hb ha) (fun b hb => hb9 b hb) (fun _ _ _ _ => rfl)
    intro I9 w5 w6 h9t h9b h9f
    refine ev_iinc (v := nI (q + 1)) 165 rfl d158_162 rfl (Nat.le_of_ble_eq_true rfl) (nI_add _ 1) rfl ?_
    show ai_Ev _ _ _ [some (.ref 572), some (.int (nI w)), some (.int (nI j)), some (.int (nI (q + 1))), some (.int (nI σ.nT)), w5, w6] _ _ _
    refine ev_goto 12 (by decide) d158_165 ?_
    exact ih (q + 1) I9 (some (.int (nI σ.nT))) w5 w6 (by omega) (fun x a b hx ha hb => by
      by_cases e : x = q
      · subst e; exact h9t a b ha hb
      · rw [h9f _ _ (by omega) (by omega), hf9 _ _ (by omega) (by omega)]; exact htp x a b (by omega) ha hb) (fun x b hx hb => by
      by_cases e : x = q
      · subst e; exact h9b b hb
      · rw [h9f _ _ (by omega) (by omega), hf9 _ _ (by omega) (by omega)]; exact hbt x b (by omega) hb) (fun a k h1 h2 => by rw [h9f _ _ (by omega) (by omega), hf9 _ _ (by omega) (by omega)]; exact hf a k h1 h2)
theorem m_rt_j (G : ai_G S F) {I0 : Nat → Nat → Int32} (hM0 : ai_RM σ I0 L) (hC0 : ai_RC σ I0) (hV : ai_IV σ) {w : Nat} (hw : w = 0 → ∀ c, c < 200 → σ.ag c = 0) (hw2 : w < 2) : ∀ (z j : Nat) (I : Nat → Nat → Int32) (u3 u4 u5 u6 : Option Value), j + z = σ.nJ → (∀ d x a b, d < j → x < σ.nQ → a < 4 → b < 4 → I 590 (((5 * d + x) * 4 + a) * 4 + b) = nI (1 + ai_qn (σ.p1 d x a b) σ.nT)) → (∀ d x b, d < j → x < σ.nQ → b < 4 → I 591 ((5 * d + x) * 4 + b) = nI (σ.an x + ai_qn (σ.p2 d x b) σ.nT)) → (∀ a k, ¬ (a = 590 ∧ k / 80 < j) → ¬ (a = 591 ∧ k / 20 < j) → I a k = I0 a k) → ai_Ev none 158 2 [some (.ref 572), some (.int (nI w)), some (.int (nI j)), u3, u4, u5, u6] [] (S, I, L, F) (ai_Pu S F L (fun I2 => ai_RM σ.mkT I2 L ∧ ai_RC σ I2 ∧ ai_f2 I0 I2)) := by
  have hnT := hV.nT
  have hnQ := hV.nQ
  have hnJ := hV.nJ
  have hR0 := r1_of hM0
  intro z
  induction z with
  | zero =>
    intro j I u3 u4 u5 u6 hz htp hbt hf
    have e9 : j = σ.nJ := by omega
    subst e9
    have hf2 : ai_f2 I0 I := fun a h1 h2 => by funext k; exact hf a k (by omega) (by omega)
    have hR := r1_f2 hR0 hf2
    refine ev_iload_n 3 rfl d158_2 rfl ?_
    refine ev_aload_n 4 rfl d158_3 rfl ?_
    refine ev_geti (v := nI σ.nJ) 7 rfl 9 7 d158_4 rfl (by omega) (G.1 _ _ (rfl : ai_sp 572 = (9, 0)) (by decide) (by decide)) hR.nJ ?_
    refine ev_icmp 174 10 (by decide) rfl (cn_ge (by omega) (by omega)) d158_7 (fun hc_7 => ?_) (fun hc_7 => absurd hc_7 (by omega))
    refine ev_vret rfl d158_174 ?_
    refine ⟨rfl, _, rfl, rm_tt hR (fun j q a b h3 h4 h5 h6 => ?_) (fun j q b h3 h4 h5 => ?_), fun j hj => ⟨by rw [hf2 _ (by omega) (by omega)]; exact (hC0 j hj).1, fun c hc => by rw [hf2 _ (by omega) (by omega)]; exact (hC0 j hj).2 c hc⟩, hf2⟩
    · by_cases e : j < σ.nJ
      · rw [if_pos ⟨e, by omega⟩]; exact htp j q a b e h4 h5 h6
      · rw [if_neg (fun h9 => e h9.1), hf _ _ (by omega) (by omega)]; exact hM0.tp j q a b h3 h4 h5 h6
    · by_cases e : j < σ.nJ
      · rw [if_pos ⟨e, by omega⟩]; exact hbt j q b e h4 h5
      · rw [if_neg (fun h9 => e h9.1), hf _ _ (by omega) (by omega)]; exact hM0.bt j q b h3 h4 h5
  | succ z ih =>
    intro j I u3 u4 u5 u6 hz htp hbt hf
    have hj9 : j < σ.nJ := by omega
    have hf2 : ai_f2 I0 I := fun a h1 h2 => by funext k; exact hf a k (by omega) (by omega)
    have hR := r1_f2 hR0 hf2
    refine ev_iload_n 3 rfl d158_2 rfl ?_
    refine ev_aload_n 4 rfl d158_3 rfl ?_
    refine ev_geti (v := nI σ.nJ) 7 rfl 9 7 d158_4 rfl (by omega) (G.1 _ _ (rfl : ai_sp 572 = (9, 0)) (by decide) (by decide)) hR.nJ ?_
    refine ev_icmp 174 10 (by decide) rfl (cn_ge (by omega) (by omega)) d158_7 (fun hc_7 => absurd hc_7 (by omega)) (fun hc_7 => ?_)
    refine ev_iconst (v := nI 0) 11 rfl d158_10 (by decide) ?_
    refine ev_store_in 12 rfl d158_11 (Nat.le_of_ble_eq_true rfl) rfl ?_
    show ai_Ev _ _ _ [some (.ref 572), some (.int (nI w)), some (.int (nI j)), some (.int (nI 0)), u4, u5, u6] _ _ _
    refine m_rt_q (I0 := I) G hR (fun j hj => ⟨by rw [hf2 _ (by omega) (by omega)]; exact (hC0 j hj).1, fun c hc => by rw [hf2 _ (by omega) (by omega)]; exact (hC0 j hj).2 c hc⟩) hV hw hw2 hj9 ?_ σ.nQ 0 I _ _ _ (by omega) (fun x a b hx => absurd hx (by omega)) (fun x b hx => absurd hx (by omega)) (fun _ _ _ _ => rfl)
    intro I9 w4 w5 w6 h9t h9b h9f
    refine ev_iinc (v := nI (j + 1)) 171 rfl d158_168 rfl (Nat.le_of_ble_eq_true rfl) (nI_add _ 1) rfl ?_
    show ai_Ev _ _ _ [some (.ref 572), some (.int (nI w)), some (.int (nI (j + 1))), some (.int (nI σ.nQ)), w4, w5, w6] _ _ _
    refine ev_goto 2 (by decide) d158_171 ?_
    exact ih (j + 1) I9 (some (.int (nI σ.nQ))) w4 w5 w6 (by omega) (fun d x a b hd hx ha hb => by
      by_cases e : d = j
      · subst e; exact h9t x a b hx ha hb
      · rw [h9f _ _ (by omega) (by omega)]; exact htp d x a b (by omega) hx ha hb) (fun d x b hd hx hb => by
      by_cases e : d = j
      · subst e; exact h9b x b hx hb
      · rw [h9f _ _ (by omega) (by omega)]; exact hbt d x b (by omega) hx hb) (fun a k h1 h2 => by rw [h9f _ _ (by omega) (by omega)]; exact hf a k (by omega) (by omega))
theorem m_reckonTables (G : ai_G S F) (hM : ai_RM σ I L) (hC : ai_RC σ I) (hV : ai_IV σ) {w : Nat} (hw : w = 0 → ∀ c, c < 200 → σ.ag c = 0) (hw2 : w < 2) : ai_Ev none 158 0 [some (.ref 572), some (.int (nI w)), none, none, none, none, none] [] (S, I, L, F) (ai_Pu S F L (fun I2 => ai_RM σ.mkT I2 L ∧ ai_RC σ I2 ∧ ai_f2 I I2)) := by
  refine ev_iconst (v := nI 0) 1 rfl d158_0 (by decide) ?_
  refine ev_store_in 2 rfl d158_1 (Nat.le_of_ble_eq_true rfl) rfl ?_
  show ai_Ev _ _ _ [some (.ref 572), some (.int (nI w)), some (.int (nI 0)), none, none, none, none] _ _ _
  exact m_rt_j G hM hC hV hw hw2 σ.nJ 0 I none none none none (by omega) (fun d x a b hd => absurd hd (by omega)) (fun d x b hd => absurd hd (by omega)) (fun _ _ _ _ => rfl)
end MREC
