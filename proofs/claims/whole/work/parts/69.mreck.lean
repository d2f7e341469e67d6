section MRECK
variable {S : List (Nat × Nat)} {F : Nat → Nat → Option Nat} {L : Nat → Nat → Int64} {I : Nat → Nat → Int32} {σ : ai_S}
theorem nI_ne (a : Nat) : a = a := rfl
theorem rm_chst {A : Nat → Nat} {n m : Nat} (hX : ai_RM σ I L) {I2 I3 : Nat → Nat → Int32} (g2 : I2 = ai_ui I 594 m (nI n)) (g3 : I3 = ai_ui I2 572 29 (nI (m + 1))) (hA : ∀ i, i < m → I 594 i = nI (A i)) (hn : A m = n) : ai_RM ((σ.wCh A).wSt (m + 1)) I3 L := by
  refine ⟨?_, ?_, ?_, ?_, ?_, ?_, ?_, ?_, ?_, ?_, ?_, ?_, ?_, ?_, ?_, ?_, ?_, ?_, ?_, ?_, ?_, ?_, ?_, ?_, ?_⟩
  · intro i h0; rw [ui_other g3 (by omega), ui_other g2 (by omega)]; exact hX.rf i h0
  · intro s h0; rw [ui_other g3 (by omega), ui_other g2 (by omega)]; exact hX.hd s h0
  · intro s h0; rw [ui_other g3 (by omega), ui_other g2 (by omega)]; exact hX.sz s h0
  · exact hX.el
  · rw [ui_other g3 (by omega), ui_other g2 (by omega)]; exact hX.nT
  · rw [ui_other g3 (by omega), ui_other g2 (by omega)]; exact hX.nQ
  · rw [ui_other g3 (by omega), ui_other g2 (by omega)]; exact hX.nJ
  · intro q h0; rw [ui_other g3 (by omega), ui_other g2 (by omega)]; exact hX.an q h0
  · intro q h0 h1; rw [ui_other g3 (by omega), ui_other g2 (by omega)]; exact hX.pa q h0 h1
  · intro q h0 h1; rw [ui_other g3 (by omega), ui_other g2 (by omega)]; exact hX.wa q h0 h1
  · intro c h0 h1; rw [ui_other g3 (by omega), ui_other g2 (by omega)]; exact hX.tr c h0 h1
  · intro c h0 h1; rw [ui_other g3 (by omega), ui_other g2 (by omega)]; exact hX.ag c h0 h1
  · intro j h0; rw [ui_other g3 (by omega), ui_other g2 (by omega)]; exact hX.lf j h0
  · intro j h0; rw [ui_other g3 (by omega), ui_other g2 (by omega)]; exact hX.sr j h0
  · intro j h0 h1; rw [ui_other g3 (by omega), ui_other g2 (by omega)]; exact hX.gn j h0 h1
  · intro j c h0 h1 h2 h3; rw [ui_other g3 (by omega), ui_other g2 (by omega)]; exact hX.gv j c h0 h1 h2 h3
  · intro j c h0 h1 h2 h3 h4; rw [ui_other g3 (by omega), ui_other g2 (by omega)]; exact hX.mn j c h0 h1 h2 h3 h4
  · rcases hX.old with h9 | ⟨h9, h8⟩
    · exact Or.inl (by rw [ui_other g3 (by omega), ui_other g2 (by omega)]; exact h9)
    · exact Or.inr ⟨by rw [ui_other g3 (by omega), ui_other g2 (by omega)]; exact h9, fun j hj => ⟨by rw [ui_other g3 (by omega), ui_other g2 (by omega)]; exact (h8 j hj).1, fun c hc => by rw [ui_other g3 (by omega), ui_other g2 (by omega)]; exact (h8 j hj).2 c hc⟩⟩
  · rw [ui_other g3 (by omega), ui_other g2 (by omega)]; exact hX.mk
  · rw [ui_other g3 (by omega), ui_other g2 (by omega)]; exact hX.lk
  · rw [ui_other g3 (by omega), ui_other g2 (by omega)]; exact hX.hs
  · intro j q a b h0 h1 h2 h3; rw [ui_other g3 (by omega), ui_other g2 (by omega)]; exact hX.tp j q a b h0 h1 h2 h3
  · intro j q b h0 h1 h2; rw [ui_other g3 (by omega), ui_other g2 (by omega)]; exact hX.bt j q b h0 h1 h2
  · intro i hi
    have hi2 : i < m + 1 := hi
    show I3 594 i = nI (A i)
    rw [ui_row g3 (by omega)]
    by_cases e : i = m
    · subst e; rw [hn]; exact ui_same g2
    · rw [ui_other g2 (by omega)]; exact hA i (by omega)
  · exact ui_same g3
theorem rm_st0 (hX : ai_RM σ I L) {I2 : Nat → Nat → Int32} (h : I2 = ai_ui I 572 29 (nI 0)) : ai_RM (σ.wSt 0) I2 L := by
  refine ⟨?_, ?_, ?_, ?_, ?_, ?_, ?_, ?_, ?_, ?_, ?_, ?_, ?_, ?_, ?_, ?_, ?_, ?_, ?_, ?_, ?_, ?_, ?_, ?_, ?_⟩
  · intro i h0; rw [ui_other h (by omega)]; exact hX.rf i h0
  · intro s h0; rw [ui_other h (by omega)]; exact hX.hd s h0
  · intro s h0; rw [ui_other h (by omega)]; exact hX.sz s h0
  · exact hX.el
  · rw [ui_other h (by omega)]; exact hX.nT
  · rw [ui_other h (by omega)]; exact hX.nQ
  · rw [ui_other h (by omega)]; exact hX.nJ
  · intro q h0; rw [ui_other h (by omega)]; exact hX.an q h0
  · intro q h0 h1; rw [ui_other h (by omega)]; exact hX.pa q h0 h1
  · intro q h0 h1; rw [ui_other h (by omega)]; exact hX.wa q h0 h1
  · intro c h0 h1; rw [ui_other h (by omega)]; exact hX.tr c h0 h1
  · intro c h0 h1; rw [ui_other h (by omega)]; exact hX.ag c h0 h1
  · intro j h0; rw [ui_other h (by omega)]; exact hX.lf j h0
  · intro j h0; rw [ui_other h (by omega)]; exact hX.sr j h0
  · intro j h0 h1; rw [ui_other h (by omega)]; exact hX.gn j h0 h1
  · intro j c h0 h1 h2 h3; rw [ui_other h (by omega)]; exact hX.gv j c h0 h1 h2 h3
  · intro j c h0 h1 h2 h3 h4; rw [ui_other h (by omega)]; exact hX.mn j c h0 h1 h2 h3 h4
  · rcases hX.old with h9 | ⟨h9, h8⟩
    · exact Or.inl (by rw [ui_other h (by omega)]; exact h9)
    · exact Or.inr ⟨by rw [ui_other h (by omega)]; exact h9, fun j hj => ⟨by rw [ui_other h (by omega)]; exact (h8 j hj).1, fun c hc => by rw [ui_other h (by omega)]; exact (h8 j hj).2 c hc⟩⟩
  · rw [ui_other h (by omega)]; exact hX.mk
  · rw [ui_other h (by omega)]; exact hX.lk
  · rw [ui_other h (by omega)]; exact hX.hs
  · intro j q a b h0 h1 h2 h3; rw [ui_other h (by omega)]; exact hX.tp j q a b h0 h1 h2 h3
  · intro j q b h0 h1 h2; rw [ui_other h (by omega)]; exact hX.bt j q b h0 h1 h2
  · intro i hi; exact absurd hi (by show ¬ i < 0; omega)
  · exact ui_same h
theorem rm_step {I2 I3 : Nat → Nat → Int32} (hV : ai_IV σ) (hX : ai_RM (σ.stp 200).mkT I L) (h2 : I2 = ai_ui I 594 σ.st (nI (ai_qn σ.chg 200))) (h3 : I3 = ai_ui I2 572 29 (nI (σ.st + 1))) : ai_RM σ.step1 I3 L :=
  rm_chst hX h2 h3 (fun i hi => by
    rw [if_neg (by omega)]
    have h9 := hX.ch i (by rw [mk_st]; exact hi)
    rw [mk_ch] at h9
    exact h9) (if_pos rfl)
theorem wst_ctd {f : Nat → Nat} {n : Nat} {j c : Nat} : ((σ.wCh f).wSt n).ctd j c = σ.ctd j c := rfl
theorem wst_cop {f : Nat → Nat} {n : Nat} {j : Nat} : ((σ.wCh f).wSt n).cop j = σ.cop j := rfl
theorem tt_ctd {T : Nat → Nat → Nat → Nat → Nat} {T2 : Nat → Nat → Nat → Nat} {j c : Nat} : (σ.tt T T2).ctd j c = σ.ctd j c := rfl
theorem step1_nJ : σ.step1.nJ = σ.nJ := rfl
theorem step1_cop {j : Nat} : σ.step1.cop j = σ.cop j := by
  unfold ai_S.step1 ai_S.mkT ai_S.tab ai_S.stp
  rw [wst_cop, tt_cop, wag_cop]
theorem step1_ctd {j c : Nat} : σ.step1.ctd j c = σ.ctd j c := by
  unfold ai_S.step1 ai_S.mkT ai_S.tab ai_S.stp
  rw [wst_ctd, tt_ctd, wag_ctd]
theorem rc_step1 (h : ai_RC σ I) : ai_RC σ.step1 I := rc_same h step1_nJ (fun _ => step1_cop) (fun _ _ => step1_ctd)
end MRECK
