section MQUE
variable {S : List (Nat × Nat)} {F : Nat → Nat → Option Nat} {L : Nat → Nat → Int64} {I : Nat → Nat → Int32} {σ : ai_S}
def ai_qs9 (m : Nat) (a k : Nat) : Prop := ((a = 578 ∨ a = 579 ∨ a = 580) ∧ k = m) ∨ (a = 590 ∧ k / 16 % 5 = m) ∨ (a = 591 ∧ k / 4 % 5 = m) ∨ ((a = 581 ∨ a = 582 ∨ a = 586) ∧ k % 5 = m) ∨ (a = 572 ∧ k = 6)
def ai_fQ (m : Nat) (I I2 : Nat → Nat → Int32) : Prop := ∀ a k, ¬ ai_qs9 m a k → I2 a k = I a k
theorem rm_quest (hX : ai_RM σ I L) (hV : ai_IV σ) {I2 : Nat → Nat → Int32} {n p w : Nat} {u v : Int32} (hq : σ.nQ < 5) (hu : 0 < σ.nQ → u = nI p ∧ v = nI w) (f : ai_fQ σ.nQ I I2) (h1 : I2 578 σ.nQ = nI n) (h2 : I2 579 σ.nQ = u) (h3 : I2 580 σ.nQ = v) (hb : ∀ j b, j < 24 → b < 4 → I2 591 ((5 * j + σ.nQ) * 4 + b) = nI n) (ht : ∀ j a b, j < 24 → a < 4 → b < 4 → I2 590 (((5 * j + σ.nQ) * 4 + a) * 4 + b) = nI 1) (htr : ∀ c, c < 200 → c % 5 = σ.nQ → I2 581 c = -1 ∧ I2 582 c = -1 ∧ ∀ j, j < 24 → I2 586 (200 * j + c) = -1) (hn : I2 572 6 = nI (σ.nQ + 1)) : ai_RM (σ.quest n p w) I2 L := by
  refine ⟨?_, ?_, ?_, ?_, ?_, ?_, ?_, ?_, ?_, ?_, ?_, ?_, ?_, ?_, ?_, ?_, ?_, ?_, ?_, ?_, ?_, ?_, ?_, ?_, ?_⟩
  · intro i h0; rw [f _ _ (by unfold ai_qs9; omega)]; exact hX.rf i h0
  · intro s h0; rw [f _ _ (by unfold ai_qs9; omega)]; exact hX.hd s h0
  · intro s h0; rw [f _ _ (by unfold ai_qs9; omega)]; exact hX.sz s h0
  · exact hX.el
  · rw [f _ _ (by unfold ai_qs9; omega)]; exact hX.nT
  · exact hn
  · rw [f _ _ (by unfold ai_qs9; omega)]; exact hX.nJ
  · intro q g0
    have g1 : q < σ.nQ + 1 := g0
    show I2 578 q = nI (if q = σ.nQ then n else σ.an q)
    by_cases e : q = σ.nQ
    · subst e; rw [if_pos rfl]; exact h1
    · rw [if_neg e, f _ _ (by unfold ai_qs9; omega)]; exact hX.an q (by omega)
  · intro q g g0
    have g1 : q < σ.nQ + 1 := g0
    show I2 579 q = nI (if q = σ.nQ then p else σ.pa q)
    by_cases e : q = σ.nQ
    · subst e; rw [if_pos rfl, h2]; exact (hu g).1
    · rw [if_neg e, f _ _ (by unfold ai_qs9; omega)]; exact hX.pa q g (by omega)
  · intro q g g0
    have g1 : q < σ.nQ + 1 := g0
    show I2 580 q = nI (if q = σ.nQ then w else σ.wa q)
    by_cases e : q = σ.nQ
    · subst e; rw [if_pos rfl, h3]; exact (hu g).2
    · rw [if_neg e, f _ _ (by unfold ai_qs9; omega)]; exact hX.wa q g (by omega)
  · intro c g g0
    have g1 : c % 5 < σ.nQ + 1 := g0
    show I2 581 c = nI (σ.tr c) - 1
    by_cases e : c % 5 = σ.nQ
    · have h0 : σ.tr c = 0 := Classical.byContradiction (fun h => by have := (hV.tr c g h).2.1; omega)
      rw [h0, (htr c g e).1]; rfl
    · rw [f _ _ (by unfold ai_qs9; omega)]; exact hX.tr c g (by omega)
  · intro c g g0
    have g1 : c % 5 < σ.nQ + 1 := g0
    show I2 582 c = nI (σ.ag c) - 1
    by_cases e : c % 5 = σ.nQ
    · have h0 : σ.ag c = 0 := Classical.byContradiction (fun h => by have := (hV.ag c g h).2.1; omega)
      rw [h0, (htr c g e).2.1]; rfl
    · rw [f _ _ (by unfold ai_qs9; omega)]; exact hX.ag c g (by omega)
  · intro j h0; rw [f _ _ (by unfold ai_qs9; omega)]; exact hX.lf j h0
  · intro j h0; rw [f _ _ (by unfold ai_qs9; omega)]; exact hX.sr j h0
  · intro j h0 h1; rw [f _ _ (by unfold ai_qs9; omega)]; exact hX.gn j h0 h1
  · intro j c g g0 g2 g3
    have g1 : c % 5 < σ.nQ + 1 := g3
    show I2 586 (200 * j + c) = (if σ.gv j c = 0 then -1 else nI (σ.said j c))
    by_cases e : c % 5 = σ.nQ
    · have h0 : σ.gv j c = 0 := Classical.byContradiction (fun h => by have := (hV.gv j c g0 h).2.2.2.1; omega)
      rw [if_pos h0]; exact (htr c g0 e).2.2 j g
    · rw [f _ _ (by unfold ai_qs9; omega)]; exact hX.gv j c g g0 g2 (by omega)
  · intro j c g g0 g2 g3 g4
    have g1 : c % 5 < σ.nQ + 1 := g3
    by_cases e : c % 5 = σ.nQ
    · exact absurd (Classical.byContradiction (fun h => by have := (hV.gv j c g0 h).2.2.2.1; omega)) g4
    · rw [f _ _ (by unfold ai_qs9; omega)]; exact hX.mn j c g g0 g2 (by omega) g4
  · rcases hX.old with h9 | ⟨h9, h8⟩
    · exact Or.inl (by rw [f _ _ (by unfold ai_qs9; omega)]; exact h9)
    · exact Or.inr ⟨by rw [f _ _ (by unfold ai_qs9; omega)]; exact h9, fun j hj => ⟨by rw [f _ _ (by unfold ai_qs9; omega)]; exact (h8 j hj).1, fun c hc => by rw [f _ _ (by unfold ai_qs9; omega)]; exact (h8 j hj).2 c hc⟩⟩
  · rw [f _ _ (by unfold ai_qs9; omega)]; exact hX.mk
  · rw [f _ _ (by unfold ai_qs9; omega)]; exact hX.lk
  · rw [f _ _ (by unfold ai_qs9; omega)]; exact hX.hs
  · intro j q a b g g0 g2 g3
    have g1 : q < σ.nQ + 1 := g0
    show I2 590 _ = nI (1 + σ.sd j q a b)
    by_cases e : q = σ.nQ
    · rw [e, (hV.sz0 j σ.nQ a b g (Nat.le_refl _)).1]; exact ht j a b g g2 g3
    · rw [f _ _ (by unfold ai_qs9; omega)]; exact hX.tp j q a b g (by omega) g2 g3
  · intro j q b g g0 g2
    have g1 : q < σ.nQ + 1 := g0
    show I2 591 _ = nI ((if q = σ.nQ then n else σ.an q) + σ.sa j q b)
    by_cases e : q = σ.nQ
    · rw [if_pos e, e, (hV.sz0 j σ.nQ 0 b g (Nat.le_refl _)).2]; exact hb j b g g2
    · rw [if_neg e, f _ _ (by unfold ai_qs9; omega)]; exact hX.bt j q b g (by omega) g2
  · intro i h0; rw [f _ _ (by unfold ai_qs9; omega)]; exact hX.ch i h0
  · rw [f _ _ (by unfold ai_qs9; omega)]; exact hX.st
theorem m_q_j (G : ai_G S F) {I0 : Nat → Nat → Int32} {m n : Nat} {z1 z2 z3 : Int32} (hm : m < 5) (han : I0 578 m = nI n) (hm6 : I0 572 6 = nI m) {Q : Option Value → ai_H → Prop} (hk : ∀ I, (∀ j b, j < 24 → b < 4 → I 591 ((5 * j + m) * 4 + b) = nI n) → (∀ j a b, j < 24 → a < 4 → b < 4 → I 590 (((5 * j + m) * 4 + a) * 4 + b) = nI 1) → (∀ a k, ¬ (a = 590 ∧ k / 16 % 5 = m) → ¬ (a = 591 ∧ k / 4 % 5 = m) → I a k = I0 a k) → ai_Ev none 130 160 [some (.ref 572), some (.int z1), some (.int z2), some (.int z3), some (.int (nI 1)), some (.int (nI 24)), none] [] (S, I, L, F) Q) : ∀ (z k : Nat) (I : Nat → Nat → Int32), k + z = 24 → (∀ j b, j < k → b < 4 → I 591 ((5 * j + m) * 4 + b) = nI n) → (∀ j a b, j < k → a < 4 → b < 4 → I 590 (((5 * j + m) * 4 + a) * 4 + b) = nI 1) → (∀ a k, ¬ (a = 590 ∧ k / 16 % 5 = m) → ¬ (a = 591 ∧ k / 4 % 5 = m) → I a k = I0 a k) → ai_Ev none 130 137 [some (.ref 572), some (.int z1), some (.int z2), some (.int z3), some (.int (nI 1)), some (.int (nI k)), none] [] (S, I, L, F) Q := by
  intro z
  induction z with
  | zero =>
    intro k I hz hb ht hf
    have e9 : k = 24 := by omega
    subst e9
    refine ev_iload 139 rfl d130_137 rfl ?_
    refine ev_bipush (v := nI 24) 141 rfl d130_139 (by decide) ?_
    refine ev_icmp_T 160 (by decide) (by decide) d130_141 ?_
    exact hk I hb ht hf
  | succ z ih =>
    intro k I hz hb ht hf
    refine ev_iload 139 rfl d130_137 rfl ?_
    refine ev_bipush (v := nI 24) 141 rfl d130_139 (by decide) ?_
    refine ev_icmp 160 144 (by decide) rfl (cn_ge (by omega) (by omega)) d130_141 (fun hc_141 => absurd hc_141 (by omega)) (fun hc_141 => ?_)
    refine ev_aload_n 145 rfl d130_144 rfl ?_
    refine ev_iload 147 rfl d130_145 rfl ?_
    refine ev_aload_n 148 rfl d130_147 rfl ?_
    refine ev_geti (v := nI m) 151 rfl 9 6 d130_148 rfl (by omega) (G.1 _ _ (rfl : ai_sp 572 = (9, 0)) (by decide) (by decide)) ((hf _ _ (by omega) (by omega)).trans hm6) ?_
    refine ev_cu2 154 rfl 127 d130_151 rfl rfl (by rw [G.1 _ _ (rfl : ai_sp 572 = (9, 0)) (by decide) (by decide)]; rfl) (by omega) rfl (m_firstTable G (n := n) (by omega) hm ((hf _ _ (by omega) (by omega)).trans han)) (fun I_1 hr_151 => ?_)
    obtain ⟨hb9, ht9, hf9⟩ := hr_151
    refine ev_iinc (v := nI (k + 1)) 157 rfl d130_154 rfl (Nat.le_of_ble_eq_true rfl) (nI_add _ 1) rfl ?_
    show ai_Ev _ _ _ [some (.ref 572), some (.int z1), some (.int z2), some (.int z3), some (.int (nI 1)), some (.int (nI (k + 1))), none] _ _ _
    refine ev_goto 137 (by decide) d130_157 ?_
    refine ih (k + 1) _ (by omega) (fun j b hj hb2 => ?_) (fun j a b hj ha hb2 => ?_) (fun a x h1 h2 => by rw [hf9 _ _ (by omega) (by omega)]; exact hf a x h1 h2)
    · by_cases e : j = k
      · subst e; exact hb9 b hb2
      · rw [hf9 _ _ (by omega) (by omega)]; exact hb j b (by omega) hb2
    · by_cases e : j = k
      · subst e; exact ht9 a b hb2 ha
      · rw [hf9 _ _ (by omega) (by omega)]; exact ht j a b (by omega) ha hb2
theorem m_q_in (G : ai_G S F) {I0 : Nat → Nat → Int32} {m n : Nat} {z1 z2 z3 : Int32} (hm : m < 5) {t : Nat} (ht : t < 40) (hm6 : I0 572 6 = nI m) {Q : Option Value → ai_H → Prop} (hk : ∀ I, (∀ j, j < 24 → I 586 (200 * j + 5 * t + m) = -1) → (∀ a k, ¬ (a = 586 ∧ k % 200 = 5 * t + m) → I a k = I0 a k) → ai_Ev none 130 238 [some (.ref 572), some (.int z1), some (.int z2), some (.int z3), some (.int (nI 1)), some (.int (nI t)), some (.int (nI 24))] [] (S, I, L, F) Q) : ∀ (z k : Nat) (I : Nat → Nat → Int32), k + z = 24 → (∀ j, j < k → I 586 (200 * j + 5 * t + m) = -1) → (∀ a k, ¬ (a = 586 ∧ k % 200 = 5 * t + m) → I a k = I0 a k) → ai_Ev none 130 203 [some (.ref 572), some (.int z1), some (.int z2), some (.int z3), some (.int (nI 1)), some (.int (nI t)), some (.int (nI k))] [] (S, I, L, F) Q := by
  intro z
  induction z with
  | zero =>
    intro k I hz hd hf
    have e9 : k = 24 := by omega
    subst e9
    refine ev_iload 205 rfl d130_203 rfl ?_
    refine ev_bipush (v := nI 24) 207 rfl d130_205 (by decide) ?_
    refine ev_icmp_T 238 (by decide) (by decide) d130_207 ?_
    exact hk I hd hf
  | succ z ih =>
    intro k I hz hd hf
    refine ev_iload 205 rfl d130_203 rfl ?_
    refine ev_bipush (v := nI 24) 207 rfl d130_205 (by decide) ?_
    refine ev_icmp 238 210 (by decide) rfl (cn_ge (by omega) (by omega)) d130_207 (fun hc_207 => absurd hc_207 (by omega)) (fun hc_207 => ?_)
    refine ev_aload_n 211 rfl d130_210 rfl ?_
    refine ev_getr 214 rfl 9 16 d130_211 rfl (by omega) (G.1 _ _ (rfl : ai_sp 572 = (9, 0)) (by decide) (by decide)) (G.2 _ _ _ (rfl : ai_rf 572 16 = some 586)) ?_
    refine ev_sipush (v := nI 200) 217 rfl d130_214 (by decide) ?_
    refine ev_iload 219 rfl d130_217 rfl ?_
    refine ev_imul (v := nI (200 * k)) 220 rfl d130_219 (pk_mul _ _) ?_
    refine ev_iconst (v := nI 5) 221 rfl d130_220 (by decide) ?_
    refine ev_iload 223 rfl d130_221 rfl ?_
    refine ev_imul (v := nI (5 * t)) 224 rfl d130_223 (pk_mul _ _) ?_
    refine ev_iadd (v := nI ((200 * k) + (5 * t))) 225 rfl d130_224 (nI_add _ _) ?_
    refine ev_aload_n 226 rfl d130_225 rfl ?_
    refine ev_geti (v := nI m) 229 rfl 9 6 d130_226 rfl (by omega) (G.1 _ _ (rfl : ai_sp 572 = (9, 0)) (by decide) (by decide)) ((hf _ _ (by omega)).trans hm6) ?_
    refine ev_iadd (v := nI (((200 * k) + (5 * t)) + m)) 230 rfl d130_229 (nI_add _ _) ?_
    refine ev_iconst (v := (-1)) 231 rfl d130_230 (by decide) ?_
    obtain ⟨I_1, hI_1⟩ : ∃ z, z = ai_ui I 586 (((200 * k) + (5 * t)) + m) (-1) := ⟨_, rfl⟩
    refine ev_iast_n (I2 := I_1) 232 rfl d130_231 (by omega) (G.1 _ _ (rfl : ai_sp 586 = (100, 4800)) (by decide) (by decide)) (by omega) (by decide) hI_1.symm ?_
    refine ev_iinc (v := nI (k + 1)) 235 rfl d130_232 rfl (Nat.le_of_ble_eq_true rfl) (nI_add _ 1) rfl ?_
    show ai_Ev _ _ _ [some (.ref 572), some (.int z1), some (.int z2), some (.int z3), some (.int (nI 1)), some (.int (nI t)), some (.int (nI (k + 1)))] _ _ _
    refine ev_goto 203 (by decide) d130_235 ?_
    refine ih (k + 1) _ (by omega) (fun j hj => ?_) (fun a x h1 => by rw [ui_other hI_1 (by omega)]; exact hf a x h1)
    by_cases e : j = k
    · subst e; exact ui_same hI_1
    · rw [ui_other hI_1 (by omega)]; exact hd j (by omega)
theorem m_q_t (G : ai_G S F) {I0 : Nat → Nat → Int32} {m n : Nat} {z1 z2 z3 : Int32} (hm : m < 5) (hm6 : I0 572 6 = nI m) {Q : Option Value → ai_H → Prop} (hk : ∀ I u6, (∀ x, x < 40 → I 581 (5 * x + m) = -1 ∧ I 582 (5 * x + m) = -1 ∧ ∀ j, j < 24 → I 586 (200 * j + 5 * x + m) = -1) → (∀ a k, ¬ ((a = 581 ∨ a = 582 ∨ a = 586) ∧ k % 5 = m) → I a k = I0 a k) → ai_Ev none 130 244 [some (.ref 572), some (.int z1), some (.int z2), some (.int z3), some (.int (nI 1)), some (.int (nI 40)), u6] [] (S, I, L, F) Q) : ∀ (z t : Nat) (I : Nat → Nat → Int32) (u6 : Option Value), t + z = 40 → (∀ x, x < t → I 581 (5 * x + m) = -1 ∧ I 582 (5 * x + m) = -1 ∧ ∀ j, j < 24 → I 586 (200 * j + 5 * x + m) = -1) → (∀ a k, ¬ ((a = 581 ∨ a = 582 ∨ a = 586) ∧ k % 5 = m) → I a k = I0 a k) → ai_Ev none 130 163 [some (.ref 572), some (.int z1), some (.int z2), some (.int z3), some (.int (nI 1)), some (.int (nI t)), u6] [] (S, I, L, F) Q := by
  intro z
  induction z with
  | zero =>
    intro t I u6 hz hd hf
    have e9 : t = 40 := by omega
    subst e9
    refine ev_iload 165 rfl d130_163 rfl ?_
    refine ev_bipush (v := nI 40) 167 rfl d130_165 (by decide) ?_
    refine ev_icmp_T 244 (by decide) (by decide) d130_167 ?_
    exact hk I _ hd hf
  | succ z ih =>
    intro t I u6 hz hd hf
    refine ev_iload 165 rfl d130_163 rfl ?_
    refine ev_bipush (v := nI 40) 167 rfl d130_165 (by decide) ?_
    refine ev_icmp 244 170 (by decide) rfl (cn_ge (by omega) (by omega)) d130_167 (fun hc_167 => absurd hc_167 (by omega)) (fun hc_167 => ?_)
    refine ev_aload_n 171 rfl d130_170 rfl ?_
    refine ev_getr 174 rfl 9 11 d130_171 rfl (by omega) (G.1 _ _ (rfl : ai_sp 572 = (9, 0)) (by decide) (by decide)) (G.2 _ _ _ (rfl : ai_rf 572 11 = some 581)) ?_
    refine ev_iconst (v := nI 5) 175 rfl d130_174 (by decide) ?_
    refine ev_iload 177 rfl d130_175 rfl ?_
    refine ev_imul (v := nI (5 * t)) 178 rfl d130_177 (pk_mul _ _) ?_
    refine ev_aload_n 179 rfl d130_178 rfl ?_
    refine ev_geti (v := nI m) 182 rfl 9 6 d130_179 rfl (by omega) (G.1 _ _ (rfl : ai_sp 572 = (9, 0)) (by decide) (by decide)) ((hf _ _ (by omega)).trans hm6) ?_
    refine ev_iadd (v := nI ((5 * t) + m)) 183 rfl d130_182 (nI_add _ _) ?_
    refine ev_iconst (v := (-1)) 184 rfl d130_183 (by decide) ?_
    obtain ⟨I_1, hI_1⟩ : ∃ z, z = ai_ui I 581 ((5 * t) + m) (-1) := ⟨_, rfl⟩
    refine ev_iast_n (I2 := I_1) 185 rfl d130_184 (by omega) (G.1 _ _ (rfl : ai_sp 581 = (100, 200)) (by decide) (by decide)) (by omega) (by decide) hI_1.symm ?_
    refine ev_aload_n 186 rfl d130_185 rfl ?_
    refine ev_getr 189 rfl 9 12 d130_186 rfl (by omega) (G.1 _ _ (rfl : ai_sp 572 = (9, 0)) (by decide) (by decide)) (G.2 _ _ _ (rfl : ai_rf 572 12 = some 582)) ?_
    refine ev_iconst (v := nI 5) 190 rfl d130_189 (by decide) ?_
    refine ev_iload 192 rfl d130_190 rfl ?_
    refine ev_imul (v := nI (5 * t)) 193 rfl d130_192 (pk_mul _ _) ?_
    refine ev_aload_n 194 rfl d130_193 rfl ?_
    refine ev_geti (v := nI m) 197 rfl 9 6 d130_194 rfl (by omega) (G.1 _ _ (rfl : ai_sp 572 = (9, 0)) (by decide) (by decide)) ((ui_other hI_1 (by omega)).trans ((hf _ _ (by omega)).trans hm6)) ?_
    refine ev_iadd (v := nI ((5 * t) + m)) 198 rfl d130_197 (nI_add _ _) ?_
    refine ev_iconst (v := (-1)) 199 rfl d130_198 (by decide) ?_
    obtain ⟨I_2, hI_2⟩ : ∃ z, z = ai_ui I_1 582 ((5 * t) + m) (-1) := ⟨_, rfl⟩
    refine ev_iast_n (I2 := I_2) 200 rfl d130_199 (by omega) (G.1 _ _ (rfl : ai_sp 582 = (100, 200)) (by decide) (by decide)) (by omega) (by decide) hI_2.symm ?_
    refine ev_iconst (v := nI 0) 201 rfl d130_200 (by decide) ?_
    refine ev_store_i 203 rfl d130_201 ⟨rfl, Nat.le_of_ble_eq_true rfl⟩ rfl ?_
    show ai_Ev _ _ _ [some (.ref 572), some (.int z1), some (.int z2), some (.int z3), some (.int (nI 1)), some (.int (nI t)), some (.int (nI 0))] _ _ _
    refine m_q_in (I0 := I_2) (n := 0) G hm (by omega) (by rw [ui_row hI_2 (by omega), ui_row hI_1 (by omega)]; exact (hf _ _ (by omega)).trans hm6) ?_ 24 0 I_2 (by omega) (fun j hj => absurd hj (by omega)) (fun _ _ _ => rfl)
    intro I9 h9 h9f
    refine ev_iinc (v := nI (t + 1)) 241 rfl d130_238 rfl (Nat.le_of_ble_eq_true rfl) (nI_add _ 1) rfl ?_
    show ai_Ev _ _ _ [some (.ref 572), some (.int z1), some (.int z2), some (.int z3), some (.int (nI 1)), some (.int (nI (t + 1))), some (.int (nI 24))] _ _ _
    refine ev_goto 163 (by decide) d130_241 ?_
    refine ih (t + 1) I9 (some (.int (nI 24))) (by omega) (fun x hx => ?_) (fun a x h1 => by rw [h9f _ _ (by omega), ui_other hI_2 (by omega), ui_other hI_1 (by omega)]; exact hf a x h1)
    by_cases e : x = t
    · subst e; exact ⟨by rw [h9f _ _ (by omega), ui_row hI_2 (by omega)]; exact ui_same hI_1, by rw [h9f _ _ (by omega)]; exact ui_same hI_2, h9⟩
    · have h8 := hd x (by omega)
      refine ⟨by rw [h9f _ _ (by omega), ui_row hI_2 (by omega), ui_other hI_1 (by omega)]; exact h8.1, by rw [h9f _ _ (by omega), ui_other hI_2 (by omega), ui_row hI_1 (by omega)]; exact h8.2.1, fun j hj => by rw [h9f _ _ (by omega), ui_row hI_2 (by omega), ui_row hI_1 (by omega)]; exact h8.2.2 j hj⟩
theorem m_question (G : ai_G S F) (hM : ai_RM σ I L) (hV : ai_IV σ) {z1 z2 z3 : Int32} : ai_Ev none 130 0 [some (.ref 572), some (.int z1), some (.int z2), some (.int z3), none, none, none] [] (S, I, L, F) (ai_PM S F I L (o_question σ z1 z2 z3)) := by
  have hnT := hV.nT
  have hnQ := hV.nQ
  have hnJ := hV.nJ
  unfold o_question
  by_cases h0 : σ.nQ = 0
  · rw [c_T (Or.inl h0)]
    by_cases hp : z2 = -1
    · subst hp
      refine ev_aload_n 1 rfl d130_0 rfl ?_
      refine ev_geti (v := nI σ.nQ) 4 rfl 9 6 d130_1 rfl (by omega) (G.1 _ _ (rfl : ai_sp 572 = (9, 0)) (by decide) (by decide)) hM.nQ ?_
      refine ev_if 28 7 (by decide) rfl (c0_le (by omega)) d130_4 (fun hc_4 => ?_) (fun hc_4 => ?_)
      · refine ev_aload_n 29 rfl d130_28 rfl ?_
        refine ev_iload_n 30 rfl d130_29 rfl ?_
        refine ev_iconst (v := nI 2) 31 rfl d130_30 (by decide) ?_
        refine ev_iconst (v := nI 4) 32 rfl d130_31 (by decide) ?_
        refine ev_cb3 35 rfl 114 d130_32 rfl rfl (by rw [G.1 _ _ (rfl : ai_sp 572 = (9, 0)) (by decide) (by decide)]; rfl) (by omega) rfl (pb_iff in_24 (m_in G)) (fun hq_32 => ?_) (fun hq_32 => ?_)
        · rw [c_T hq_32]
          have h59 := hq_32.1
          obtain ⟨n, hn5, rfl⟩ := h59
          have hn2 : ¬ n < 2 := fun q => hq_32.2 (is_T q)
          refine ev_if_F 74 38 (by decide) rfl (by decide) d130_35 ?_
          refine ev_aload_n 39 rfl d130_38 rfl ?_
          refine ev_geti (v := nI σ.nQ) 42 rfl 9 6 d130_39 rfl (by omega) (G.1 _ _ (rfl : ai_sp 572 = (9, 0)) (by decide) (by decide)) hM.nQ ?_
          refine ev_if 53 45 (by decide) rfl (c0_ne (by omega)) d130_42 (fun hc_42 => ?_) (fun hc_42 => ?_)
          · exfalso
            omega
          · rw [c_T (Or.inl ⟨h0, rfl⟩)]
            refine ev_iload_n 46 rfl d130_45 rfl ?_
            refine ev_iconst (v := (-1)) 47 rfl d130_46 (by decide) ?_
            refine ev_icmp_F 74 50 (by decide) rfl (by decide) d130_47 ?_
            refine ev_goto 70 (by decide) d130_50 ?_
            refine ev_iconst (v := nI 1) 71 rfl d130_70 (by decide) ?_
            refine ev_goto 75 (by decide) d130_71 ?_
            refine ev_store_i 77 rfl d130_75 ⟨rfl, Nat.le_of_ble_eq_true rfl⟩ rfl ?_
            show ai_Ev _ _ _ [some (.ref 572), some (.int (nI n)), some (.int (-1)), some (.int z3), some (.int (nI 1)), none, none] _ _ _
            refine ev_iload 79 rfl d130_77 rfl ?_
            refine ev_if_T 89 (by decide) (by decide) d130_79 ?_
            refine ev_aload_n 90 rfl d130_89 rfl ?_
            refine ev_geti (v := nI σ.nQ) 93 rfl 9 6 d130_90 rfl (by omega) (G.1 _ _ (rfl : ai_sp 572 = (9, 0)) (by decide) (by decide)) hM.nQ ?_
            refine ev_iconst (v := nI 5) 94 rfl d130_93 (by decide) ?_
            refine ev_icmp 104 97 (by decide) rfl (cn_ne (by omega) (by omega)) d130_94 (fun hc_94 => ?_) (fun hc_94 => ?_)
            · rw [c_T (show σ.nQ < 5 by omega)]
              simp only [nn_I (show n < 2147483648 by omega)]
              refine ev_aload_n 105 rfl d130_104 rfl ?_
              refine ev_getr 108 rfl 9 8 d130_105 rfl (by omega) (G.1 _ _ (rfl : ai_sp 572 = (9, 0)) (by decide) (by decide)) (G.2 _ _ _ (rfl : ai_rf 572 8 = some 578)) ?_
              refine ev_aload_n 109 rfl d130_108 rfl ?_
              refine ev_geti (v := nI σ.nQ) 112 rfl 9 6 d130_109 rfl (by omega) (G.1 _ _ (rfl : ai_sp 572 = (9, 0)) (by decide) (by decide)) hM.nQ ?_
              refine ev_iload_n 113 rfl d130_112 rfl ?_
              obtain ⟨I_1, hI_1⟩ : ∃ z, z = ai_ui I 578 σ.nQ (nI n) := ⟨_, rfl⟩
              refine ev_iast_n (I2 := I_1) 114 rfl d130_113 (by omega) (G.1 _ _ (rfl : ai_sp 578 = (100, 5)) (by decide) (by decide)) (by omega) (by decide) hI_1.symm ?_
              refine ev_aload_n 115 rfl d130_114 rfl ?_
              refine ev_getr 118 rfl 9 9 d130_115 rfl (by omega) (G.1 _ _ (rfl : ai_sp 572 = (9, 0)) (by decide) (by decide)) (G.2 _ _ _ (rfl : ai_rf 572 9 = some 579)) ?_
              refine ev_aload_n 119 rfl d130_118 rfl ?_
              refine ev_geti (v := nI σ.nQ) 122 rfl 9 6 d130_119 rfl (by omega) (G.1 _ _ (rfl : ai_sp 572 = (9, 0)) (by decide) (by decide)) (by rw [ui_row hI_1 (by omega)]; exact hM.nQ) ?_
              refine ev_iload_n 123 rfl d130_122 rfl ?_
              obtain ⟨I_2, hI_2⟩ : ∃ z, z = ai_ui I_1 579 σ.nQ (-1) := ⟨_, rfl⟩
              refine ev_iast_n (I2 := I_2) 124 rfl d130_123 (by omega) (G.1 _ _ (rfl : ai_sp 579 = (100, 5)) (by decide) (by decide)) (by omega) (by decide) hI_2.symm ?_
              refine ev_aload_n 125 rfl d130_124 rfl ?_
              refine ev_getr 128 rfl 9 10 d130_125 rfl (by omega) (G.1 _ _ (rfl : ai_sp 572 = (9, 0)) (by decide) (by decide)) (G.2 _ _ _ (rfl : ai_rf 572 10 = some 580)) ?_
              refine ev_aload_n 129 rfl d130_128 rfl ?_
              refine ev_geti (v := nI σ.nQ) 132 rfl 9 6 d130_129 rfl (by omega) (G.1 _ _ (rfl : ai_sp 572 = (9, 0)) (by decide) (by decide)) (by rw [ui_row hI_2 (by omega), ui_row hI_1 (by omega)]; exact hM.nQ) ?_
              refine ev_iload_n 133 rfl d130_132 rfl ?_
              obtain ⟨I_3, hI_3⟩ : ∃ z, z = ai_ui I_2 580 σ.nQ z3 := ⟨_, rfl⟩
              refine ev_iast_n (I2 := I_3) 134 rfl d130_133 (by omega) (G.1 _ _ (rfl : ai_sp 580 = (100, 5)) (by decide) (by decide)) (by omega) (by decide) hI_3.symm ?_
              refine ev_iconst (v := nI 0) 135 rfl d130_134 (by decide) ?_
              refine ev_store_i 137 rfl d130_135 ⟨rfl, Nat.le_of_ble_eq_true rfl⟩ rfl ?_
              show ai_Ev _ _ _ [some (.ref 572), some (.int (nI n)), some (.int (-1)), some (.int z3), some (.int (nI 1)), some (.int (nI 0)), none] _ _ _
              have h36 : I_3 572 6 = nI σ.nQ := by rw [ui_row hI_3 (by omega), ui_row hI_2 (by omega), ui_row hI_1 (by omega)]; exact hM.nQ
              refine m_q_j (I0 := I_3) (m := σ.nQ) (n := n) G (by omega) (by rw [ui_row hI_3 (by omega), ui_row hI_2 (by omega)]; exact ui_same hI_1) h36 ?_ 24 0 I_3 (by omega) (fun j b hj => absurd hj (by omega)) (fun j a b hj => absurd hj (by omega)) (fun _ _ _ _ => rfl)
              intro I8 hb8 ht8 hf8
              have h86 : I8 572 6 = nI σ.nQ := (hf8 _ _ (by omega) (by omega)).trans h36
              refine ev_iconst (v := nI 0) 161 rfl d130_160 (by decide) ?_
              refine ev_store_i 163 rfl d130_161 ⟨rfl, Nat.le_of_ble_eq_true rfl⟩ rfl ?_
              show ai_Ev _ _ _ [some (.ref 572), some (.int (nI n)), some (.int (-1)), some (.int z3), some (.int (nI 1)), some (.int (nI 0)), none] _ _ _
              refine m_q_t (I0 := I8) (m := σ.nQ) (n := 0) G (by omega) h86 ?_ 40 0 I8 _ (by omega) (fun x hx => absurd hx (by omega)) (fun _ _ _ => rfl)
              intro I9 u9 hd9 hf9
              refine ev_aload_n 245 rfl d130_244 rfl ?_
              refine ev_dup 246 rfl d130_245 rfl ?_
              refine ev_geti (v := nI σ.nQ) 249 rfl 9 6 d130_246 rfl (by omega) (G.1 _ _ (rfl : ai_sp 572 = (9, 0)) (by decide) (by decide)) ((hf9 _ _ (by omega)).trans h86) ?_
              refine ev_iconst (v := nI 1) 250 rfl d130_249 (by decide) ?_
              refine ev_iadd (v := nI (σ.nQ + 1)) 251 rfl d130_250 (nI_add _ _) ?_
              obtain ⟨I_10, hI_10⟩ : ∃ z, z = ai_ui I9 572 6 (nI (σ.nQ + 1)) := ⟨_, rfl⟩
              refine ev_puti (I2 := I_10) 254 rfl 9 6 d130_251 rfl (by omega) (G.1 _ _ (rfl : ai_sp 572 = (9, 0)) (by decide) (by decide)) (fun h => absurd h (by decide)) hI_10.symm ?_
              refine ev_aload_n 255 rfl d130_254 rfl ?_
              refine ev_geti (v := nI (σ.nQ + 1)) 258 rfl 9 6 d130_255 rfl (by omega) (G.1 _ _ (rfl : ai_sp 572 = (9, 0)) (by decide) (by decide)) (ui_same hI_10) ?_
              refine ev_iconst (v := nI 1) 259 rfl d130_258 (by decide) ?_
              refine ev_isub (v := nI σ.nQ) 260 rfl d130_259 (by rw [pk_sub (by omega)]; rfl) ?_
              refine ev_iret (Or.inl rfl) d130_260 ?_
              refine ⟨_, L, rfl, rfl, rm_quest (n := n) (p := ai_nn (-1)) (w := ai_nn z3) (u := -1) (v := z3) hM hV (by omega) (fun h9 => absurd h9 (by omega)) (fun a k hk => ?_) ?_ ?_ ?_ (fun j b hj hb => ?_) (fun j a b hj ha hb => ?_) (fun c hc hcq => ?_) ?_, fun a ha => ⟨by funext k9; rw [ui_other hI_10 (by omega), hf9 _ _ (by omega), hf8 _ _ (by omega) (by omega), ui_row hI_3 (by omega), ui_row hI_2 (by omega), ui_row hI_1 (by omega)], rfl⟩⟩
              · unfold ai_qs9 at hk
                rw [ui_other hI_10 (by omega), hf9 _ _ (by omega), hf8 _ _ (by omega) (by omega), ui_other hI_3 (by omega), ui_other hI_2 (by omega), ui_other hI_1 (by omega)]
              · rw [ui_row hI_10 (by omega), hf9 _ _ (by omega), hf8 _ _ (by omega) (by omega), ui_row hI_3 (by omega), ui_row hI_2 (by omega)]; exact ui_same hI_1
              · rw [ui_row hI_10 (by omega), hf9 _ _ (by omega), hf8 _ _ (by omega) (by omega), ui_row hI_3 (by omega)]; exact ui_same hI_2
              · rw [ui_row hI_10 (by omega), hf9 _ _ (by omega), hf8 _ _ (by omega) (by omega)]; exact ui_same hI_3
              · rw [ui_row hI_10 (by omega), hf9 _ _ (by omega)]; exact hb8 j b hj hb
              · rw [ui_row hI_10 (by omega), hf9 _ _ (by omega)]; exact ht8 j a b hj ha hb
              · have h7 := hd9 (c / 5) (by omega)
                rw [show 5 * (c / 5) + σ.nQ = c by omega] at h7
                exact ⟨by rw [ui_row hI_10 (by omega)]; exact h7.1, by rw [ui_row hI_10 (by omega)]; exact h7.2.1, fun j hj => by
                  have h6 := h7.2.2 j hj
                  rw [show 200 * j + 5 * (c / 5) + σ.nQ = 200 * j + c by omega] at h6
                  rw [ui_row hI_10 (by omega)]; exact h6⟩
              · exact ui_same hI_10
            · exfalso
              omega
        · rw [c_F hq_32]
          refine ev_if_T 74 (by decide) (by decide) d130_35 ?_
          refine ev_iconst (v := nI 0) 75 rfl d130_74 (by decide) ?_
          refine ev_store_i 77 rfl d130_75 ⟨rfl, Nat.le_of_ble_eq_true rfl⟩ rfl ?_
          show ai_Ev _ _ _ [some (.ref 572), some (.int z1), some (.int (-1)), some (.int z3), some (.int (nI 0)), none, none] _ _ _
          refine ev_iload 79 rfl d130_77 rfl ?_
          refine ev_if_F 89 82 (by decide) rfl (by decide) d130_79 ?_
          refine ev_aload_n 83 rfl d130_82 rfl ?_
          refine ev_bipush (v := (-6)) 85 rfl d130_83 (by decide) ?_
          refine ev_cy1 88 rfl 115 d130_85 rfl rfl (by rw [G.1 _ _ (rfl : ai_sp 572 = (9, 0)) (by decide) (by decide)]; rfl) (by omega) rfl (show ai_Ev none 115 0 [some (.ref 572), some (.int (-6))] [] (S, I, L, F) _ from by rw [show ((-6) : Int32) = -(nI 6) by decide]; exact m_refuse (I := I) (L := L) (S := S) (F := F) G (k := 6) (by omega)) (fun v_2 I_1 hr_85 => ?_)
          refine ev_iret (Or.inl rfl) d130_88 ?_
          exact pm_ref hM (by omega) hr_85
      · exfalso
        omega
    · skip
      refine ev_aload_n 1 rfl d130_0 rfl ?_
      refine ev_geti (v := nI σ.nQ) 4 rfl 9 6 d130_1 rfl (by omega) (G.1 _ _ (rfl : ai_sp 572 = (9, 0)) (by decide) (by decide)) hM.nQ ?_
      refine ev_if 28 7 (by decide) rfl (c0_le (by omega)) d130_4 (fun hc_4 => ?_) (fun hc_4 => ?_)
      · refine ev_aload_n 29 rfl d130_28 rfl ?_
        refine ev_iload_n 30 rfl d130_29 rfl ?_
        refine ev_iconst (v := nI 2) 31 rfl d130_30 (by decide) ?_
        refine ev_iconst (v := nI 4) 32 rfl d130_31 (by decide) ?_
        refine ev_cb3 35 rfl 114 d130_32 rfl rfl (by rw [G.1 _ _ (rfl : ai_sp 572 = (9, 0)) (by decide) (by decide)]; rfl) (by omega) rfl (pb_iff in_24 (m_in G)) (fun hq_32 => ?_) (fun hq_32 => ?_)
        · rw [c_T hq_32]
          have h59 := hq_32.1
          obtain ⟨n, hn5, rfl⟩ := h59
          have hn2 : ¬ n < 2 := fun q => hq_32.2 (is_T q)
          refine ev_if_F 74 38 (by decide) rfl (by decide) d130_35 ?_
          refine ev_aload_n 39 rfl d130_38 rfl ?_
          refine ev_geti (v := nI σ.nQ) 42 rfl 9 6 d130_39 rfl (by omega) (G.1 _ _ (rfl : ai_sp 572 = (9, 0)) (by decide) (by decide)) hM.nQ ?_
          refine ev_if 53 45 (by decide) rfl (c0_ne (by omega)) d130_42 (fun hc_42 => ?_) (fun hc_42 => ?_)
          · exfalso
            omega
          · refine ev_iload_n 46 rfl d130_45 rfl ?_
            refine ev_iconst (v := (-1)) 47 rfl d130_46 (by decide) ?_
            refine ev_icmp 74 50 (by decide) rfl cz_ne d130_47 (fun hc_47 => ?_) (fun hc_47 => ?_)
            · rw [c_F (fun h9 => h9.elim (fun h8 => hp h8.2) (fun h8 => h8.1 h0))]
              refine ev_iconst (v := nI 0) 75 rfl d130_74 (by decide) ?_
              refine ev_store_i 77 rfl d130_75 ⟨rfl, Nat.le_of_ble_eq_true rfl⟩ rfl ?_
              show ai_Ev _ _ _ [some (.ref 572), some (.int (nI n)), some (.int z2), some (.int z3), some (.int (nI 0)), none, none] _ _ _
              refine ev_iload 79 rfl d130_77 rfl ?_
              refine ev_if_F 89 82 (by decide) rfl (by decide) d130_79 ?_
              refine ev_aload_n 83 rfl d130_82 rfl ?_
              refine ev_bipush (v := (-6)) 85 rfl d130_83 (by decide) ?_
              refine ev_cy1 88 rfl 115 d130_85 rfl rfl (by rw [G.1 _ _ (rfl : ai_sp 572 = (9, 0)) (by decide) (by decide)]; rfl) (by omega) rfl (show ai_Ev none 115 0 [some (.ref 572), some (.int (-6))] [] (S, I, L, F) _ from by rw [show ((-6) : Int32) = -(nI 6) by decide]; exact m_refuse (I := I) (L := L) (S := S) (F := F) G (k := 6) (by omega)) (fun v_2 I_1 hr_85 => ?_)
              refine ev_iret (Or.inl rfl) d130_88 ?_
              exact pm_ref hM (by omega) hr_85
            · exact absurd (Classical.not_not.mp hc_47) hp
        · rw [c_F hq_32]
          refine ev_if_T 74 (by decide) (by decide) d130_35 ?_
          refine ev_iconst (v := nI 0) 75 rfl d130_74 (by decide) ?_
          refine ev_store_i 77 rfl d130_75 ⟨rfl, Nat.le_of_ble_eq_true rfl⟩ rfl ?_
          show ai_Ev _ _ _ [some (.ref 572), some (.int z1), some (.int z2), some (.int z3), some (.int (nI 0)), none, none] _ _ _
          refine ev_iload 79 rfl d130_77 rfl ?_
          refine ev_if_F 89 82 (by decide) rfl (by decide) d130_79 ?_
          refine ev_aload_n 83 rfl d130_82 rfl ?_
          refine ev_bipush (v := (-6)) 85 rfl d130_83 (by decide) ?_
          refine ev_cy1 88 rfl 115 d130_85 rfl rfl (by rw [G.1 _ _ (rfl : ai_sp 572 = (9, 0)) (by decide) (by decide)]; rfl) (by omega) rfl (show ai_Ev none 115 0 [some (.ref 572), some (.int (-6))] [] (S, I, L, F) _ from by rw [show ((-6) : Int32) = -(nI 6) by decide]; exact m_refuse (I := I) (L := L) (S := S) (F := F) G (k := 6) (by omega)) (fun v_2 I_1 hr_85 => ?_)
          refine ev_iret (Or.inl rfl) d130_88 ?_
          exact pm_ref hM (by omega) hr_85
      · exfalso
        omega
  · skip
    refine ev_aload_n 1 rfl d130_0 rfl ?_
    refine ev_geti (v := nI σ.nQ) 4 rfl 9 6 d130_1 rfl (by omega) (G.1 _ _ (rfl : ai_sp 572 = (9, 0)) (by decide) (by decide)) hM.nQ ?_
    refine ev_if 28 7 (by decide) rfl (c0_le (by omega)) d130_4 (fun hc_4 => absurd hc_4 (by omega)) (fun hc_4 => ?_)
    refine ev_aload_n 8 rfl d130_7 rfl ?_
    refine ev_iload_n 9 rfl d130_8 rfl ?_
    refine ev_iconst (v := nI 0) 10 rfl d130_9 (by decide) ?_
    refine ev_aload_n 11 rfl d130_10 rfl ?_
    refine ev_geti (v := nI σ.nQ) 14 rfl 9 6 d130_11 rfl (by omega) (G.1 _ _ (rfl : ai_sp 572 = (9, 0)) (by decide) (by decide)) hM.nQ ?_
    refine ev_iconst (v := nI 1) 15 rfl d130_14 (by decide) ?_
    refine ev_isub (v := nI σ.nQ - 1) 16 rfl d130_15 rfl ?_
    refine ev_cb3 19 rfl 114 d130_16 rfl rfl (by rw [G.1 _ _ (rfl : ai_sp 572 = (9, 0)) (by decide) (by decide)]; rfl) (by omega) rfl (pb_iff (in_is (n := σ.nQ) rfl (by omega)) (m_in G)) (fun hq_16 => ?_) (fun hq_16 => ?_)
    · rw [c_T (Or.inr hq_16)]
      obtain ⟨p, hp, rfl⟩ := hq_16
      have hpan := hV.an p hp
      refine ev_if_T 28 (by decide) (by decide) d130_19 ?_
      refine ev_aload_n 29 rfl d130_28 rfl ?_
      refine ev_iload_n 30 rfl d130_29 rfl ?_
      refine ev_iconst (v := nI 2) 31 rfl d130_30 (by decide) ?_
      refine ev_iconst (v := nI 4) 32 rfl d130_31 (by decide) ?_
      refine ev_cb3 35 rfl 114 d130_32 rfl rfl (by rw [G.1 _ _ (rfl : ai_sp 572 = (9, 0)) (by decide) (by decide)]; rfl) (by omega) rfl (pb_iff in_24 (m_in G)) (fun hq_32 => ?_) (fun hq_32 => ?_)
      · rw [c_T hq_32]
        have h59 := hq_32.1
        obtain ⟨n, hn5, rfl⟩ := h59
        have hn2 : ¬ n < 2 := fun q => hq_32.2 (is_T q)
        refine ev_if_F 74 38 (by decide) rfl (by decide) d130_35 ?_
        refine ev_aload_n 39 rfl d130_38 rfl ?_
        refine ev_geti (v := nI σ.nQ) 42 rfl 9 6 d130_39 rfl (by omega) (G.1 _ _ (rfl : ai_sp 572 = (9, 0)) (by decide) (by decide)) hM.nQ ?_
        refine ev_if 53 45 (by decide) rfl (c0_ne (by omega)) d130_42 (fun hc_42 => ?_) (fun hc_42 => absurd hc_42 (by omega))
        refine ev_aload_n 54 rfl d130_53 rfl ?_
        refine ev_iload_n 55 rfl d130_54 rfl ?_
        refine ev_iconst (v := nI 0) 56 rfl d130_55 (by decide) ?_
        refine ev_aload_n 57 rfl d130_56 rfl ?_
        refine ev_getr 60 rfl 9 8 d130_57 rfl (by omega) (G.1 _ _ (rfl : ai_sp 572 = (9, 0)) (by decide) (by decide)) (G.2 _ _ _ (rfl : ai_rf 572 8 = some 578)) ?_
        refine ev_iload_n 61 rfl d130_60 rfl ?_
        refine ev_iald_n (v := nI (σ.an p)) 62 rfl d130_61 (by omega) (G.1 _ _ (rfl : ai_sp 578 = (100, 5)) (by decide) (by decide)) (by omega) (by decide) (hM.an _ (by omega)) ?_
        refine ev_iconst (v := nI 1) 63 rfl d130_62 (by decide) ?_
        refine ev_isub (v := nI (σ.an p) - 1) 64 rfl d130_63 rfl ?_
        refine ev_cb3 67 rfl 114 d130_64 rfl rfl (by rw [G.1 _ _ (rfl : ai_sp 572 = (9, 0)) (by decide) (by decide)]; rfl) (by omega) rfl (pb_iff (in_is (n := σ.an p) rfl (by omega)) (m_in G)) (fun hq_64 => ?_) (fun hq_64 => ?_)
        · obtain ⟨w, hw, rfl⟩ := hq_64
          rw [c_T (Or.inr ⟨h0, ⟨p, w, hp, hw, rfl, rfl⟩⟩)]
          refine ev_if_F 74 70 (by decide) rfl (by decide) d130_67 ?_
          refine ev_iconst (v := nI 1) 71 rfl d130_70 (by decide) ?_
          refine ev_goto 75 (by decide) d130_71 ?_
          refine ev_store_i 77 rfl d130_75 ⟨rfl, Nat.le_of_ble_eq_true rfl⟩ rfl ?_
          show ai_Ev _ _ _ [some (.ref 572), some (.int (nI n)), some (.int (nI p)), some (.int (nI w)), some (.int (nI 1)), none, none] _ _ _
          refine ev_iload 79 rfl d130_77 rfl ?_
          refine ev_if_T 89 (by decide) (by decide) d130_79 ?_
          refine ev_aload_n 90 rfl d130_89 rfl ?_
          refine ev_geti (v := nI σ.nQ) 93 rfl 9 6 d130_90 rfl (by omega) (G.1 _ _ (rfl : ai_sp 572 = (9, 0)) (by decide) (by decide)) hM.nQ ?_
          refine ev_iconst (v := nI 5) 94 rfl d130_93 (by decide) ?_
          refine ev_icmp 104 97 (by decide) rfl (cn_ne (by omega) (by omega)) d130_94 (fun hc_94 => ?_) (fun hc_94 => ?_)
          · rw [c_T (show σ.nQ < 5 by omega)]
            simp only [nn_I (show n < 2147483648 by omega)]
            simp only [nn_I (show p < 2147483648 by omega)]
            simp only [nn_I (show w < 2147483648 by omega)]
            refine ev_aload_n 105 rfl d130_104 rfl ?_
            refine ev_getr 108 rfl 9 8 d130_105 rfl (by omega) (G.1 _ _ (rfl : ai_sp 572 = (9, 0)) (by decide) (by decide)) (G.2 _ _ _ (rfl : ai_rf 572 8 = some 578)) ?_
            refine ev_aload_n 109 rfl d130_108 rfl ?_
            refine ev_geti (v := nI σ.nQ) 112 rfl 9 6 d130_109 rfl (by omega) (G.1 _ _ (rfl : ai_sp 572 = (9, 0)) (by decide) (by decide)) hM.nQ ?_
            refine ev_iload_n 113 rfl d130_112 rfl ?_
            obtain ⟨I_1, hI_1⟩ : ∃ z, z = ai_ui I 578 σ.nQ (nI n) := ⟨_, rfl⟩
            refine ev_iast_n (I2 := I_1) 114 rfl d130_113 (by omega) (G.1 _ _ (rfl : ai_sp 578 = (100, 5)) (by decide) (by decide)) (by omega) (by decide) hI_1.symm ?_
            refine ev_aload_n 115 rfl d130_114 rfl ?_
            refine ev_getr 118 rfl 9 9 d130_115 rfl (by omega) (G.1 _ _ (rfl : ai_sp 572 = (9, 0)) (by decide) (by decide)) (G.2 _ _ _ (rfl : ai_rf 572 9 = some 579)) ?_
            refine ev_aload_n 119 rfl d130_118 rfl ?_
            refine ev_geti (v := nI σ.nQ) 122 rfl 9 6 d130_119 rfl (by omega) (G.1 _ _ (rfl : ai_sp 572 = (9, 0)) (by decide) (by decide)) (by rw [ui_row hI_1 (by omega)]; exact hM.nQ) ?_
            refine ev_iload_n 123 rfl d130_122 rfl ?_
            obtain ⟨I_2, hI_2⟩ : ∃ z, z = ai_ui I_1 579 σ.nQ (nI p) := ⟨_, rfl⟩
            refine ev_iast_n (I2 := I_2) 124 rfl d130_123 (by omega) (G.1 _ _ (rfl : ai_sp 579 = (100, 5)) (by decide) (by decide)) (by omega) (by decide) hI_2.symm ?_
            refine ev_aload_n 125 rfl d130_124 rfl ?_
            refine ev_getr 128 rfl 9 10 d130_125 rfl (by omega) (G.1 _ _ (rfl : ai_sp 572 = (9, 0)) (by decide) (by decide)) (G.2 _ _ _ (rfl : ai_rf 572 10 = some 580)) ?_
            refine ev_aload_n 129 rfl d130_128 rfl ?_
            refine ev_geti (v := nI σ.nQ) 132 rfl 9 6 d130_129 rfl (by omega) (G.1 _ _ (rfl : ai_sp 572 = (9, 0)) (by decide) (by decide)) (by rw [ui_row hI_2 (by omega), ui_row hI_1 (by omega)]; exact hM.nQ) ?_
            refine ev_iload_n 133 rfl d130_132 rfl ?_
            obtain ⟨I_3, hI_3⟩ : ∃ z, z = ai_ui I_2 580 σ.nQ (nI w) := ⟨_, rfl⟩
            refine ev_iast_n (I2 := I_3) 134 rfl d130_133 (by omega) (G.1 _ _ (rfl : ai_sp 580 = (100, 5)) (by decide) (by decide)) (by omega) (by decide) hI_3.symm ?_
            refine ev_iconst (v := nI 0) 135 rfl d130_134 (by decide) ?_
            refine ev_store_i 137 rfl d130_135 ⟨rfl, Nat.le_of_ble_eq_true rfl⟩ rfl ?_
            show ai_Ev _ _ _ [some (.ref 572), some (.int (nI n)), some (.int (nI p)), some (.int (nI w)), some (.int (nI 1)), some (.int (nI 0)), none] _ _ _
            have h36 : I_3 572 6 = nI σ.nQ := by rw [ui_row hI_3 (by omega), ui_row hI_2 (by omega), ui_row hI_1 (by omega)]; exact hM.nQ
            refine m_q_j (I0 := I_3) (m := σ.nQ) (n := n) G (by omega) (by rw [ui_row hI_3 (by omega), ui_row hI_2 (by omega)]; exact ui_same hI_1) h36 ?_ 24 0 I_3 (by omega) (fun j b hj => absurd hj (by omega)) (fun j a b hj => absurd hj (by omega)) (fun _ _ _ _ => rfl)
            intro I8 hb8 ht8 hf8
            have h86 : I8 572 6 = nI σ.nQ := (hf8 _ _ (by omega) (by omega)).trans h36
            refine ev_iconst (v := nI 0) 161 rfl d130_160 (by decide) ?_
            refine ev_store_i 163 rfl d130_161 ⟨rfl, Nat.le_of_ble_eq_true rfl⟩ rfl ?_
            show ai_Ev _ _ _ [some (.ref 572), some (.int (nI n)), some (.int (nI p)), some (.int (nI w)), some (.int (nI 1)), some (.int (nI 0)), none] _ _ _
            refine m_q_t (I0 := I8) (m := σ.nQ) (n := 0) G (by omega) h86 ?_ 40 0 I8 _ (by omega) (fun x hx => absurd hx (by omega)) (fun _ _ _ => rfl)
            intro I9 u9 hd9 hf9
            refine ev_aload_n 245 rfl d130_244 rfl ?_
            refine ev_dup 246 rfl d130_245 rfl ?_
            refine ev_geti (v := nI σ.nQ) 249 rfl 9 6 d130_246 rfl (by omega) (G.1 _ _ (rfl : ai_sp 572 = (9, 0)) (by decide) (by decide)) ((hf9 _ _ (by omega)).trans h86) ?_
            refine ev_iconst (v := nI 1) 250 rfl d130_249 (by decide) ?_
            refine ev_iadd (v := nI (σ.nQ + 1)) 251 rfl d130_250 (nI_add _ _) ?_
            obtain ⟨I_10, hI_10⟩ : ∃ z, z = ai_ui I9 572 6 (nI (σ.nQ + 1)) := ⟨_, rfl⟩
            refine ev_puti (I2 := I_10) 254 rfl 9 6 d130_251 rfl (by omega) (G.1 _ _ (rfl : ai_sp 572 = (9, 0)) (by decide) (by decide)) (fun h => absurd h (by decide)) hI_10.symm ?_
            refine ev_aload_n 255 rfl d130_254 rfl ?_
            refine ev_geti (v := nI (σ.nQ + 1)) 258 rfl 9 6 d130_255 rfl (by omega) (G.1 _ _ (rfl : ai_sp 572 = (9, 0)) (by decide) (by decide)) (ui_same hI_10) ?_
            refine ev_iconst (v := nI 1) 259 rfl d130_258 (by decide) ?_
            refine ev_isub (v := nI σ.nQ) 260 rfl d130_259 (by rw [pk_sub (by omega)]; rfl) ?_
            refine ev_iret (Or.inl rfl) d130_260 ?_
            refine ⟨_, L, rfl, rfl, rm_quest (n := n) (p := p) (w := w) (u := nI p) (v := nI w) hM hV (by omega) (fun _ => ⟨rfl, rfl⟩) (fun a k hk => ?_) ?_ ?_ ?_ (fun j b hj hb => ?_) (fun j a b hj ha hb => ?_) (fun c hc hcq => ?_) ?_, fun a ha => ⟨by funext k9; rw [ui_other hI_10 (by omega), hf9 _ _ (by omega), hf8 _ _ (by omega) (by omega), ui_row hI_3 (by omega), ui_row hI_2 (by omega), ui_row hI_1 (by omega)], rfl⟩⟩
            · unfold ai_qs9 at hk
              rw [ui_other hI_10 (by omega), hf9 _ _ (by omega), hf8 _ _ (by omega) (by omega), ui_other hI_3 (by omega), ui_other hI_2 (by omega), ui_other hI_1 (by omega)]
            · rw [ui_row hI_10 (by omega), hf9 _ _ (by omega), hf8 _ _ (by omega) (by omega), ui_row hI_3 (by omega), ui_row hI_2 (by omega)]; exact ui_same hI_1
            · rw [ui_row hI_10 (by omega), hf9 _ _ (by omega), hf8 _ _ (by omega) (by omega), ui_row hI_3 (by omega)]; exact ui_same hI_2
            · rw [ui_row hI_10 (by omega), hf9 _ _ (by omega), hf8 _ _ (by omega) (by omega)]; exact ui_same hI_3
            · rw [ui_row hI_10 (by omega), hf9 _ _ (by omega)]; exact hb8 j b hj hb
            · rw [ui_row hI_10 (by omega), hf9 _ _ (by omega)]; exact ht8 j a b hj ha hb
            · have h7 := hd9 (c / 5) (by omega)
              rw [show 5 * (c / 5) + σ.nQ = c by omega] at h7
              exact ⟨by rw [ui_row hI_10 (by omega)]; exact h7.1, by rw [ui_row hI_10 (by omega)]; exact h7.2.1, fun j hj => by
                have h6 := h7.2.2 j hj
                rw [show 200 * j + 5 * (c / 5) + σ.nQ = 200 * j + c by omega] at h6
                rw [ui_row hI_10 (by omega)]; exact h6⟩
            · exact ui_same hI_10
          · rw [c_F (show ¬ σ.nQ < 5 by omega)]
            refine ev_aload_n 98 rfl d130_97 rfl ?_
            refine ev_bipush (v := (-7)) 100 rfl d130_98 (by decide) ?_
            refine ev_cy1 103 rfl 115 d130_100 rfl rfl (by rw [G.1 _ _ (rfl : ai_sp 572 = (9, 0)) (by decide) (by decide)]; rfl) (by omega) rfl (show ai_Ev none 115 0 [some (.ref 572), some (.int (-7))] [] (S, I, L, F) _ from by rw [show ((-7) : Int32) = -(nI 7) by decide]; exact m_refuse (I := I) (L := L) (S := S) (F := F) G (k := 7) (by omega)) (fun v_2 I_1 hr_100 => ?_)
            refine ev_iret (Or.inl rfl) d130_103 ?_
            exact pm_ref hM (by omega) hr_100
        · rw [c_F (fun h9 => h9.elim (fun h8 => h0 h8.1) (fun h8 => hq_64 ((isAN hp hnQ).mp h8.2)))]
          refine ev_if_T 74 (by decide) (by decide) d130_67 ?_
          refine ev_iconst (v := nI 0) 75 rfl d130_74 (by decide) ?_
          refine ev_store_i 77 rfl d130_75 ⟨rfl, Nat.le_of_ble_eq_true rfl⟩ rfl ?_
          show ai_Ev _ _ _ [some (.ref 572), some (.int (nI n)), some (.int (nI p)), some (.int z3), some (.int (nI 0)), none, none] _ _ _
          refine ev_iload 79 rfl d130_77 rfl ?_
          refine ev_if_F 89 82 (by decide) rfl (by decide) d130_79 ?_
          refine ev_aload_n 83 rfl d130_82 rfl ?_
          refine ev_bipush (v := (-6)) 85 rfl d130_83 (by decide) ?_
          refine ev_cy1 88 rfl 115 d130_85 rfl rfl (by rw [G.1 _ _ (rfl : ai_sp 572 = (9, 0)) (by decide) (by decide)]; rfl) (by omega) rfl (show ai_Ev none 115 0 [some (.ref 572), some (.int (-6))] [] (S, I, L, F) _ from by rw [show ((-6) : Int32) = -(nI 6) by decide]; exact m_refuse (I := I) (L := L) (S := S) (F := F) G (k := 6) (by omega)) (fun v_2 I_1 hr_85 => ?_)
          refine ev_iret (Or.inl rfl) d130_88 ?_
          exact pm_ref hM (by omega) hr_85
      · rw [c_F hq_32]
        refine ev_if_T 74 (by decide) (by decide) d130_35 ?_
        refine ev_iconst (v := nI 0) 75 rfl d130_74 (by decide) ?_
        refine ev_store_i 77 rfl d130_75 ⟨rfl, Nat.le_of_ble_eq_true rfl⟩ rfl ?_
        show ai_Ev _ _ _ [some (.ref 572), some (.int z1), some (.int (nI p)), some (.int z3), some (.int (nI 0)), none, none] _ _ _
        refine ev_iload 79 rfl d130_77 rfl ?_
        refine ev_if_F 89 82 (by decide) rfl (by decide) d130_79 ?_
        refine ev_aload_n 83 rfl d130_82 rfl ?_
        refine ev_bipush (v := (-6)) 85 rfl d130_83 (by decide) ?_
        refine ev_cy1 88 rfl 115 d130_85 rfl rfl (by rw [G.1 _ _ (rfl : ai_sp 572 = (9, 0)) (by decide) (by decide)]; rfl) (by omega) rfl (show ai_Ev none 115 0 [some (.ref 572), some (.int (-6))] [] (S, I, L, F) _ from by rw [show ((-6) : Int32) = -(nI 6) by decide]; exact m_refuse (I := I) (L := L) (S := S) (F := F) G (k := 6) (by omega)) (fun v_2 I_1 hr_85 => ?_)
        refine ev_iret (Or.inl rfl) d130_88 ?_
        exact pm_ref hM (by omega) hr_85
    · rw [c_F (fun h9 => h9.elim h0 hq_16)]
      refine ev_if_F 28 22 (by decide) rfl (by decide) d130_19 ?_
      refine ev_aload_n 23 rfl d130_22 rfl ?_
      refine ev_iconst (v := (-1)) 24 rfl d130_23 (by decide) ?_
      refine ev_cy1 27 rfl 115 d130_24 rfl rfl (by rw [G.1 _ _ (rfl : ai_sp 572 = (9, 0)) (by decide) (by decide)]; rfl) (by omega) rfl (show ai_Ev none 115 0 [some (.ref 572), some (.int (-1))] [] (S, I, L, F) _ from by rw [show ((-1) : Int32) = -(nI 1) by decide]; exact m_refuse (I := I) (L := L) (S := S) (F := F) G (k := 1) (by omega)) (fun v_2 I_1 hr_24 => ?_)
      refine ev_iret (Or.inl rfl) d130_27 ?_
      exact pm_ref hM (by omega) hr_24
end MQUE
