section MWEI
variable {S : List (Nat × Nat)} {F : Nat → Nat → Option Nat} {L : Nat → Nat → Int64} {I : Nat → Nat → Int32} {σ : ai_S}
def ai_fW (I I2 : Nat → Nat → Int32) : Prop := ∀ a, a ≠ 592 → a ≠ 593 → I2 a = I a
def ai_kp (I I2 : Nat → Nat → Int32) (k : Nat) : Prop := ∀ y v, k ≤ y → ai_MG I y v → ai_MG I2 y v
theorem mf_W {x : Nat} {I I2 : Nat → Nat → Int32} (h : ai_mf x I I2) : ai_fW I I2 := h.1
theorem fW_tr {I I2 I3 : Nat → Nat → Int32} (h : ai_fW I I2) (h2 : ai_fW I2 I3) : ai_fW I I3 := fun a h3 h4 => (h2 a h3 h4).trans (h a h3 h4)
theorem rm_fW (hM : ai_RM σ I L) {I2 : Nat → Nat → Int32} (h : ai_fW I I2) : ai_RM σ I2 L := hM.frame (fun a _ h2 h3 _ => h a h2 h3)
theorem rc_fW (hC : ai_RC σ I) {I2 : Nat → Nat → Int32} (h : ai_fW I I2) : ai_RC σ I2 := fun j hj => ⟨by rw [h _ (by omega) (by omega)]; exact (hC j hj).1, fun c hc => by rw [h _ (by omega) (by omega)]; exact (hC j hj).2 c hc⟩
theorem big17 {x : Nat} (h : x ≤ 65536 ^ 40) : x < 65536 ^ 1700 := Nat.lt_of_le_of_lt h (Nat.pow_lt_pow_right (by decide) (by decide))
theorem big40 {x a : Nat} (h : x ≤ a * 65536 ^ 24) (ha : a ≤ 65536 ^ 16) : x ≤ 65536 ^ 40 := Nat.le_trans h (Nat.le_trans (Nat.mul_le_mul_right _ ha) (by rw [← Nat.pow_add]; exact Nat.le_refl _))
def ai_S.pb (σ : ai_S) (j q b o : Nat) : Nat := ai_qp (fun x => if x = b then 1 else σ.bot j q x) o
theorem pb_le (hV : ai_IV σ) {j q b o : Nat} (hq : q < σ.nQ) (ho : o ≤ 4) : σ.pb j q b o ≤ 44 ^ 4 := by
  refine Nat.le_trans (qp_le (B := 44) (fun k _ => ?_)) (Nat.pow_le_pow_right (by decide) ho)
  show (if k = b then 1 else σ.bot j q k) ≤ 44
  have h1 := (hV.sl j q 0 k).2
  have h2 := hV.an q hq
  split
  · omega
  · show σ.an q + σ.sa j q k ≤ 44
    omega
theorem pb_T {j q b o : Nat} (h : o = b) : σ.pb j q b (o + 1) = σ.pb j q b o := by
  show σ.pb j q b o * (if o = b then 1 else σ.bot j q o) = _
  rw [if_pos h, Nat.mul_one]
theorem pb_F {j q b o : Nat} (h : ¬ o = b) : σ.pb j q b (o + 1) = σ.pb j q b o * σ.bot j q o := by
  show σ.pb j q b o * (if o = b then 1 else σ.bot j q o) = _
  rw [if_neg h]
theorem rm_said (hM : ai_RM σ I L) (hV : ai_IV σ) {j c i : Nat} (hi : i = 200 * j + c) (hj : j < 24) (hc : c < 200) (h0 : σ.gv j c ≠ 0) : I 586 i = nI (σ.said j c) := by
  subst hi
  have h1 := hV.gv j c hc h0
  rw [hM.gv j c hj hc h1.2.1 h1.2.2.2.1, if_neg h0]
theorem m_w_o (G : ai_G S F) {I0 : Nat → Nat → Int32} (hM0 : ai_RM σ I0 L) (hC0 : ai_RC σ I0) (hV : ai_IV σ) {c q : Nat} (hc : c < 200) (hcq : c % 5 = q) (hq : q < σ.nQ) {b k W : Nat} (hb : b < σ.an q) (hk : k < σ.nJ) (hcd : σ.ctd k c = true) (hW : W ≤ 65536 ^ 24) {Q : Option Value → ai_H → Prop} (hkk : ∀ I, ai_MG I b (σ.pb k q b (σ.an q) * (σ.top k q (σ.said k c) b * W)) → ai_fW I0 I → (∀ y v, y ≠ b → ai_MG I0 y v → ai_MG I y v) → ai_Ev none 156 168 [some (.ref 572), some (.int (nI c)), some (.int (nI q)), some (.int (nI (σ.an q))), some (.int (nI b)), some (.int (nI k)), some (.int (nI (σ.an q)))] [] (S, I, L, F) Q) : ∀ (z o : Nat) (I : Nat → Nat → Int32), o + z = σ.an q → ai_MG I b (σ.pb k q b o * (σ.top k q (σ.said k c) b * W)) → ai_fW I0 I → (∀ y v, y ≠ b → ai_MG I0 y v → ai_MG I y v) → ai_Ev none 156 129 [some (.ref 572), some (.int (nI c)), some (.int (nI q)), some (.int (nI (σ.an q))), some (.int (nI b)), some (.int (nI k)), some (.int (nI o))] [] (S, I, L, F) Q := by
  have hnT := hV.nT
  have hnQ := hV.nQ
  have hnJ := hV.nJ
  have han := hV.an q hq
  have hgv := ctd_gv hcd
  have hsd := (ctd_said hV hc hcd).2.1
  rw [hcq] at hsd
  have htop : σ.top k q (σ.said k c) b ≤ 41 := by have := (hV.sl k q (σ.said k c) b).1; show 1 + σ.sd k q _ b ≤ 41; omega
  intro z
  induction z with
  | zero =>
    intro o I hz hv hf hk9
    have e9 : o = σ.an q := by omega
    subst e9
    refine ev_iload 131 rfl d156_129 rfl ?_
    refine ev_iload_n 132 rfl d156_131 rfl ?_
    refine ev_icmp 168 135 (by decide) rfl (cn_ge (by omega) (by omega)) d156_132 (fun hc_132 => ?_) (fun hc_132 => absurd hc_132 (by omega))
    exact hkk I hv hf hk9
  | succ z ih =>
    intro o I hz hv hf hk9
    have hM : ai_RM σ I L := rm_fW hM0 hf
    have hC : ai_RC σ I := rc_fW hC0 hf
    refine ev_iload 131 rfl d156_129 rfl ?_
    refine ev_iload_n 132 rfl d156_131 rfl ?_
    refine ev_icmp 168 135 (by decide) rfl (cn_ge (by omega) (by omega)) d156_132 (fun hc_132 => absurd hc_132 (by omega)) (fun hc_132 => ?_)
    refine ev_iload 137 rfl d156_135 rfl ?_
    refine ev_iload 139 rfl d156_137 rfl ?_
    refine ev_icmp 162 142 (by decide) rfl (cn_eq (by omega) (by omega)) d156_139 (fun hc_139 => ?_) (fun hc_139 => ?_)
    · refine ev_iinc (v := nI (o + 1)) 165 rfl d156_162 rfl (Nat.le_of_ble_eq_true rfl) (nI_add _ 1) rfl ?_
      show ai_Ev _ _ _ [some (.ref 572), some (.int (nI c)), some (.int (nI q)), some (.int (nI (σ.an q))), some (.int (nI b)), some (.int (nI k)), some (.int (nI (o + 1)))] _ _ _
      refine ev_goto 129 (by decide) d156_165 ?_
      exact ih (o + 1) I (by omega) (by rw [pb_T (by omega)]; exact hv) hf hk9
    · refine ev_aload_n 143 rfl d156_142 rfl ?_
      refine ev_iload 145 rfl d156_143 rfl ?_
      refine ev_aload_n 146 rfl d156_145 rfl ?_
      refine ev_getr 149 rfl 9 25 d156_146 rfl (by omega) (G.1 _ _ (rfl : ai_sp 572 = (9, 0)) (by decide) (by decide)) (G.2 _ _ _ (rfl : ai_rf 572 25 = some 591)) ?_
      refine ev_aload_n 150 rfl d156_149 rfl ?_
      refine ev_iload 152 rfl d156_150 rfl ?_
      refine ev_iload_n 153 rfl d156_152 rfl ?_
      refine ev_iload 155 rfl d156_153 rfl ?_
      refine ev_cp3 158 rfl 126 d156_155 rfl rfl (by rw [G.1 _ _ (rfl : ai_sp 572 = (9, 0)) (by decide) (by decide)]; rfl) (by omega) rfl (m_botAt G) ?_
      refine ev_iald_n (v := nI (σ.bot k q o)) 159 rfl d156_158 (by omega) (G.1 _ _ (rfl : ai_sp 591 = (100, 480)) (by decide) (by decide)) (by omega) (by decide) (hM.bt k q o (by omega) (by omega) (by omega)) ?_
      have hbl : σ.bot k q o ≤ 44 := by have := (hV.sl k q 0 o).2; show σ.an q + σ.sa k q o ≤ 44; omega
      have hbd : σ.bot k q o * (σ.pb k q b o * (σ.top k q (σ.said k c) b * W)) ≤ (44 * (44 ^ 4 * 41)) * 65536 ^ 24 := by
        rw [Nat.mul_assoc 44, Nat.mul_assoc (44 ^ 4)]
        exact Nat.mul_le_mul hbl (Nat.mul_le_mul (pb_le hV hq (by omega)) (Nat.mul_le_mul htop hW))
      refine ev_cu2 162 rfl 150 d156_159 rfl rfl (by rw [G.1 _ _ (rfl : ai_sp 572 = (9, 0)) (by decide) (by decide)]; rfl) (by omega) rfl (m_times G (x := b) (by omega) (m := σ.bot k q o) (by omega) hv (big17 (big40 hbd (by decide)))) (fun I_1 hr_159 => ?_)
      obtain ⟨hg9, hf9⟩ := hr_159
      refine ev_iinc (v := nI (o + 1)) 165 rfl d156_162 rfl (Nat.le_of_ble_eq_true rfl) (nI_add _ 1) rfl ?_
      show ai_Ev _ _ _ [some (.ref 572), some (.int (nI c)), some (.int (nI q)), some (.int (nI (σ.an q))), some (.int (nI b)), some (.int (nI k)), some (.int (nI (o + 1)))] _ _ _
      refine ev_goto 129 (by decide) d156_165 ?_
      refine ih (o + 1) _ (by omega) ?_ (fW_tr hf (mf_W hf9)) (fun y v hy hg => hf9.keep hy (hk9 y v hy hg))
      rw [pb_F hc_139, Nat.mul_comm (σ.pb k q b o), Nat.mul_assoc]
      exact hg9
theorem m_w_j (G : ai_G S F) {I0 : Nat → Nat → Int32} (hM0 : ai_RM σ I0 L) (hC0 : ai_RC σ I0) (hV : ai_IV σ) {c q : Nat} (hc : c < 200) (hcq : c % 5 = q) (hq : q < σ.nQ) {b : Nat} (hb : b < σ.an q) (h0 : σ.tr c = 0) {Q : Option Value → ai_H → Prop} (hkk : ∀ I u6, ai_MG I b (σ.wt c b) → ai_fW I0 I → (∀ y v, y ≠ b → ai_MG I0 y v → ai_MG I y v) → ai_Ev none 156 174 [some (.ref 572), some (.int (nI c)), some (.int (nI q)), some (.int (nI (σ.an q))), some (.int (nI b)), some (.int (nI σ.nJ)), u6] [] (S, I, L, F) Q) : ∀ (z k : Nat) (I : Nat → Nat → Int32) (u6 : Option Value), k + z = σ.nJ → ai_MG I b (σ.wk c b k) → ai_fW I0 I → (∀ y v, y ≠ b → ai_MG I0 y v → ai_MG I y v) → ai_Ev none 156 65 [some (.ref 572), some (.int (nI c)), some (.int (nI q)), some (.int (nI (σ.an q))), some (.int (nI b)), some (.int (nI k)), u6] [] (S, I, L, F) Q := by
  have hnT := hV.nT
  have hnQ := hV.nQ
  have hnJ := hV.nJ
  have han := hV.an q hq
  intro z
  induction z with
  | zero =>
    intro k I u6 hz hv hf hk9
    have e9 : k = σ.nJ := by omega
    subst e9
    have hM : ai_RM σ I L := rm_fW hM0 hf
    have hC : ai_RC σ I := rc_fW hC0 hf
    refine ev_iload 67 rfl d156_65 rfl ?_
    refine ev_aload_n 68 rfl d156_67 rfl ?_
    refine ev_geti (v := nI σ.nJ) 71 rfl 9 7 d156_68 rfl (by omega) (G.1 _ _ (rfl : ai_sp 572 = (9, 0)) (by decide) (by decide)) hM.nJ ?_
    refine ev_icmp 174 74 (by decide) rfl (cn_ge (by omega) (by omega)) d156_71 (fun hc_71 => ?_) (fun hc_71 => absurd hc_71 (by omega))
    exact hkk I _ hv hf hk9
  | succ z ih =>
    intro k I u6 hz hv hf hk9
    have hM : ai_RM σ I L := rm_fW hM0 hf
    have hC : ai_RC σ I := rc_fW hC0 hf
    refine ev_iload 67 rfl d156_65 rfl ?_
    refine ev_aload_n 68 rfl d156_67 rfl ?_
    refine ev_geti (v := nI σ.nJ) 71 rfl 9 7 d156_68 rfl (by omega) (G.1 _ _ (rfl : ai_sp 572 = (9, 0)) (by decide) (by decide)) hM.nJ ?_
    refine ev_icmp 174 74 (by decide) rfl (cn_ge (by omega) (by omega)) d156_71 (fun hc_71 => absurd hc_71 (by omega)) (fun hc_71 => ?_)
    refine ev_aload_n 75 rfl d156_74 rfl ?_
    refine ev_getr 78 rfl 9 18 d156_75 rfl (by omega) (G.1 _ _ (rfl : ai_sp 572 = (9, 0)) (by decide) (by decide)) (G.2 _ _ _ (rfl : ai_rf 572 18 = some 588)) ?_
    refine ev_sipush (v := nI 200) 81 rfl d156_78 (by decide) ?_
    refine ev_iload 83 rfl d156_81 rfl ?_
    refine ev_imul (v := nI (200 * k)) 84 rfl d156_83 (pk_mul _ _) ?_
    refine ev_iload_n 85 rfl d156_84 rfl ?_
    refine ev_iadd (v := nI ((200 * k) + c)) 86 rfl d156_85 (nI_add _ _) ?_
    refine ev_bald_n (v := nI (ai_qb (σ.ctd k c))) 87 rfl d156_86 (by omega) (by decide) (G.1 _ _ (rfl : ai_sp 588 = (102, 4800)) (by decide) (by decide)) (by omega) (by decide) (rm_ct hC (j := k) (c := c) (by omega) (by omega) hc) ?_
    have hqb := qb_lt (σ.ctd k c)
    refine ev_if 93 90 (by decide) rfl (c0_ne (by omega)) d156_87 (fun hc_87 => ?_) (fun hc_87 => ?_)
    · have hcd := qb_1 hc_87
      have hgv := ctd_gv hcd
      have hsd := (ctd_said hV hc hcd).2.1
      rw [hcq] at hsd
      have hW := wk_le hV hc (b := b) (by rw [hcq]; exact hb) (k := k) (by omega)
      have htop : σ.top k q (σ.said k c) b ≤ 41 := by have := (hV.sl k q (σ.said k c) b).1; show 1 + σ.sd k q _ b ≤ 41; omega
      have hbd : σ.top k q (σ.said k c) b * σ.wk c b k ≤ 41 * 65536 ^ 24 := Nat.mul_le_mul htop hW
      refine ev_aload_n 94 rfl d156_93 rfl ?_
      refine ev_iload 96 rfl d156_94 rfl ?_
      refine ev_aload_n 97 rfl d156_96 rfl ?_
      refine ev_getr 100 rfl 9 24 d156_97 rfl (by omega) (G.1 _ _ (rfl : ai_sp 572 = (9, 0)) (by decide) (by decide)) (G.2 _ _ _ (rfl : ai_rf 572 24 = some 590)) ?_
      refine ev_aload_n 101 rfl d156_100 rfl ?_
      refine ev_iload 103 rfl d156_101 rfl ?_
      refine ev_iload_n 104 rfl d156_103 rfl ?_
      refine ev_aload_n 105 rfl d156_104 rfl ?_
      refine ev_getr 108 rfl 9 16 d156_105 rfl (by omega) (G.1 _ _ (rfl : ai_sp 572 = (9, 0)) (by decide) (by decide)) (G.2 _ _ _ (rfl : ai_rf 572 16 = some 586)) ?_
      refine ev_sipush (v := nI 200) 111 rfl d156_108 (by decide) ?_
      refine ev_iload 113 rfl d156_111 rfl ?_
      refine ev_imul (v := nI (200 * k)) 114 rfl d156_113 (pk_mul _ _) ?_
      refine ev_iload_n 115 rfl d156_114 rfl ?_
      refine ev_iadd (v := nI ((200 * k) + c)) 116 rfl d156_115 (nI_add _ _) ?_
      refine ev_iald_n (v := nI (σ.said k c)) 117 rfl d156_116 (by omega) (G.1 _ _ (rfl : ai_sp 586 = (100, 4800)) (by decide) (by decide)) (by omega) (by decide) (rm_said hM hV (j := k) (c := c) (by omega) (by omega) hc hgv) ?_
      refine ev_iload 119 rfl d156_117 rfl ?_
      refine ev_cp4 122 rfl 125 d156_119 rfl rfl (by rw [G.1 _ _ (rfl : ai_sp 572 = (9, 0)) (by decide) (by decide)]; rfl) (by omega) rfl (m_topAt G) ?_
      refine ev_iald_n (v := nI (σ.top k q (σ.said k c) b)) 123 rfl d156_122 (by omega) (G.1 _ _ (rfl : ai_sp 590 = (100, 1920)) (by decide) (by decide)) (by omega) (by decide) (hM.tp k q (σ.said k c) b (by omega) (by omega) (by omega) (by omega)) ?_
      refine ev_cu2 126 rfl 150 d156_123 rfl rfl (by rw [G.1 _ _ (rfl : ai_sp 572 = (9, 0)) (by decide) (by decide)]; rfl) (by omega) rfl (m_times G (x := b) (by omega) (m := σ.top k q (σ.said k c) b) (by omega) hv (big17 (big40 hbd (by decide)))) (fun I_1 hr_123 => ?_)
      obtain ⟨hg9, hf9⟩ := hr_123
      refine ev_iconst (v := nI 0) 127 rfl d156_126 (by decide) ?_
      refine ev_store_i 129 rfl d156_127 ⟨rfl, Nat.le_of_ble_eq_true rfl⟩ rfl ?_
      show ai_Ev _ _ _ [some (.ref 572), some (.int (nI c)), some (.int (nI q)), some (.int (nI (σ.an q))), some (.int (nI b)), some (.int (nI k)), some (.int (nI 0))] _ _ _
      have hM1 := rm_fW hM (mf_W hf9)
      have hC1 := rc_fW hC (mf_W hf9)
      refine m_w_o (I0 := I_1) G hM1 hC1 hV hc hcq hq hb (by omega) hcd hW ?_ (σ.an q) 0 I_1 (by omega) (by show ai_MG _ b (1 * _); rw [Nat.one_mul]; exact hg9) (fun _ _ _ => rfl) (fun _ _ _ h => h)
      intro I9 h9v h9f9 h9k9
      have h9f : ai_fW I I9 := fW_tr (mf_W hf9) h9f9
      have h9k : ∀ y v, y ≠ b → ai_MG I y v → ai_MG I9 y v := fun y v hy hg => h9k9 y v hy (hf9.keep hy hg)
      refine ev_iinc (v := nI (k + 1)) 171 rfl d156_168 rfl (Nat.le_of_ble_eq_true rfl) (nI_add _ 1) rfl ?_
      show ai_Ev _ _ _ [some (.ref 572), some (.int (nI c)), some (.int (nI q)), some (.int (nI (σ.an q))), some (.int (nI b)), some (.int (nI (k + 1))), some (.int (nI (σ.an q)))] _ _ _
      refine ev_goto 65 (by decide) d156_171 ?_
      refine ih (k + 1) I9 (some (.int (nI (σ.an q)))) (by omega) ?_ (fW_tr hf h9f) (fun y v hy hg => h9k y v hy (hk9 y v hy hg))
      rw [wk_T hcd, if_pos h0, hcq]
      have e8 : σ.fac k q (σ.said k c) b * σ.wk c b k = σ.pb k q b (σ.an q) * (σ.top k q (σ.said k c) b * σ.wk c b k) := by
        show σ.top k q (σ.said k c) b * σ.pb k q b (σ.an q) * σ.wk c b k = _
        rw [Nat.mul_comm (σ.top k q (σ.said k c) b), Nat.mul_assoc]
      rw [e8]; exact h9v
    · have hcd : ¬ σ.ctd k c = true := qb_0 (by omega)
      refine ev_goto 168 (by decide) d156_90 ?_
      refine ev_iinc (v := nI (k + 1)) 171 rfl d156_168 rfl (Nat.le_of_ble_eq_true rfl) (nI_add _ 1) rfl ?_
      show ai_Ev _ _ _ [some (.ref 572), some (.int (nI c)), some (.int (nI q)), some (.int (nI (σ.an q))), some (.int (nI b)), some (.int (nI (k + 1))), u6] _ _ _
      refine ev_goto 65 (by decide) d156_171 ?_
      exact ih (k + 1) I u6 (by omega) (by rw [wk_F hcd]; exact hv) hf hk9
theorem m_w_b (G : ai_G S F) {I0 : Nat → Nat → Int32} (hM0 : ai_RM σ I0 L) (hC0 : ai_RC σ I0) (hV : ai_IV σ) {c q : Nat} (hc : c < 200) (hcq : c % 5 = q) (hq : q < σ.nQ) {Q : Option Value → ai_H → Prop} (hkk : ∀ I u5 u6, (∀ x, x < σ.an q → ai_MG I x (σ.wt c x)) → ai_fW I0 I → (∀ y v, σ.an q ≤ y → ai_MG I0 y v → ai_MG I y v) → ai_Ev none 156 180 [some (.ref 572), some (.int (nI c)), some (.int (nI q)), some (.int (nI (σ.an q))), some (.int (nI (σ.an q))), u5, u6] [] (S, I, L, F) Q) : ∀ (z b : Nat) (I : Nat → Nat → Int32) (u5 u6 : Option Value), b + z = σ.an q → (∀ x, x < b → ai_MG I x (σ.wt c x)) → ai_fW I0 I → (∀ y v, σ.an q ≤ y → ai_MG I0 y v → ai_MG I y v) → ai_Ev none 156 14 [some (.ref 572), some (.int (nI c)), some (.int (nI q)), some (.int (nI (σ.an q))), some (.int (nI b)), u5, u6] [] (S, I, L, F) Q := by
  have hnT := hV.nT
  have hnQ := hV.nQ
  have hnJ := hV.nJ
  have han := hV.an q hq
  intro z
  induction z with
  | zero =>
    intro b I u5 u6 hz hd hf hk9
    have e9 : b = σ.an q := by omega
    subst e9
    refine ev_iload 16 rfl d156_14 rfl ?_
    refine ev_iload_n 17 rfl d156_16 rfl ?_
    refine ev_icmp 180 20 (by decide) rfl (cn_ge (by omega) (by omega)) d156_17 (fun hc_17 => ?_) (fun hc_17 => absurd hc_17 (by omega))
    exact hkk I _ _ hd hf hk9
  | succ z ih =>
    intro b I u5 u6 hz hd hf hk9
    have hb9 : b < σ.an q := by omega
    have hM : ai_RM σ I L := rm_fW hM0 hf
    have hC : ai_RC σ I := rc_fW hC0 hf
    refine ev_iload 16 rfl d156_14 rfl ?_
    refine ev_iload_n 17 rfl d156_16 rfl ?_
    refine ev_icmp 180 20 (by decide) rfl (cn_ge (by omega) (by omega)) d156_17 (fun hc_17 => absurd hc_17 (by omega)) (fun hc_17 => ?_)
    have htr := tr_le hV hc
    refine ev_aload_n 21 rfl d156_20 rfl ?_
    refine ev_getr 24 rfl 9 11 d156_21 rfl (by omega) (G.1 _ _ (rfl : ai_sp 572 = (9, 0)) (by decide) (by decide)) (G.2 _ _ _ (rfl : ai_rf 572 11 = some 581)) ?_
    refine ev_iload_n 25 rfl d156_24 rfl ?_
    refine ev_iald_n (v := nI (σ.tr c) - 1) 26 rfl d156_25 (by omega) (G.1 _ _ (rfl : ai_sp 581 = (100, 200)) (by decide) (by decide)) (by omega) (by decide) (hM.tr c hc (by omega)) ?_
    refine ev_iconst (v := (-1)) 27 rfl d156_26 (by decide) ?_
    refine ev_icmp 55 30 (by decide) rfl (cq_eq (by omega)) d156_27 (fun hc_27 => ?_) (fun hc_27 => ?_)
    · refine ev_aload_n 56 rfl d156_55 rfl ?_
      refine ev_iload 58 rfl d156_56 rfl ?_
      refine ev_iconst (v := nI 1) 59 rfl d156_58 (by decide) ?_
      refine ev_cu2 62 rfl 148 d156_59 rfl rfl (by rw [G.1 _ _ (rfl : ai_sp 572 = (9, 0)) (by decide) (by decide)]; rfl) (by omega) rfl (m_becomes G (x := b) (by omega) (m := 1) (by omega)) (fun I_1 hr_59 => ?_)
      obtain ⟨hg9, hf9⟩ := hr_59
      refine ev_iconst (v := nI 0) 63 rfl d156_62 (by decide) ?_
      refine ev_store_i 65 rfl d156_63 ⟨rfl, Nat.le_of_ble_eq_true rfl⟩ rfl ?_
      show ai_Ev _ _ _ [some (.ref 572), some (.int (nI c)), some (.int (nI q)), some (.int (nI (σ.an q))), some (.int (nI b)), some (.int (nI 0)), u6] _ _ _
      refine m_w_j (I0 := I_1) G (rm_fW hM (mf_W hf9)) (rc_fW hC (mf_W hf9)) hV hc hcq hq hb9 (by omega) ?_ σ.nJ 0 I_1 _ (by omega) (by
        have e8 : σ.wk c b 0 = 1 := by unfold ai_S.wk; rw [if_pos (by omega)]; rfl
        rw [e8]; exact hg9) (fun _ _ _ => rfl) (fun _ _ _ h => h)
      intro I9 w6 h9v h9f h9k
      refine ev_iinc (v := nI (b + 1)) 177 rfl d156_174 rfl (Nat.le_of_ble_eq_true rfl) (nI_add _ 1) rfl ?_
      show ai_Ev _ _ _ [some (.ref 572), some (.int (nI c)), some (.int (nI q)), some (.int (nI (σ.an q))), some (.int (nI (b + 1))), some (.int (nI σ.nJ)), w6] _ _ _
      refine ev_goto 14 (by decide) d156_177 ?_
      refine ih (b + 1) I9 (some (.int (nI σ.nJ))) w6 (by omega) (fun x hx => ?_) (fW_tr hf (fW_tr (mf_W hf9) h9f)) (fun y v hy hg => h9k y v (by omega) (hf9.keep (by omega) (hk9 y v hy hg)))
      by_cases e : x = b
      · subst e; exact h9v
      · exact h9k x _ e (hf9.keep e (hd x (by omega)))
    · refine ev_aload_n 31 rfl d156_30 rfl ?_
      refine ev_iload 33 rfl d156_31 rfl ?_
      refine ev_aload_n 34 rfl d156_33 rfl ?_
      refine ev_getr 37 rfl 9 11 d156_34 rfl (by omega) (G.1 _ _ (rfl : ai_sp 572 = (9, 0)) (by decide) (by decide)) (G.2 _ _ _ (rfl : ai_rf 572 11 = some 581)) ?_
      refine ev_iload_n 38 rfl d156_37 rfl ?_
      refine ev_iald_n (v := nI (σ.tr c) - 1) 39 rfl d156_38 (by omega) (G.1 _ _ (rfl : ai_sp 581 = (100, 200)) (by decide) (by decide)) (by omega) (by decide) (hM.tr c hc (by omega)) ?_
      refine ev_iload 41 rfl d156_39 rfl ?_
      refine ev_icmp 48 44 (by decide) rfl (cmn_ne (by omega) (by omega)) d156_41 (fun hc_41 => ?_) (fun hc_41 => ?_)
      · have hw9 : σ.wt c b = 0 := by unfold ai_S.wt; rw [if_neg hc_27, if_neg (by omega)]
        refine ev_iconst (v := nI 0) 49 rfl d156_48 (by decide) ?_
        refine ev_cu2 52 rfl 148 d156_49 rfl rfl (by rw [G.1 _ _ (rfl : ai_sp 572 = (9, 0)) (by decide) (by decide)]; rfl) (by omega) rfl (m_becomes G (x := b) (by omega) (m := 0) (by omega)) (fun I_1 hr_49 => ?_)
        obtain ⟨hg9, hf9⟩ := hr_49
        refine ev_goto 174 (by decide) d156_52 ?_
        refine ev_iinc (v := nI (b + 1)) 177 rfl d156_174 rfl (Nat.le_of_ble_eq_true rfl) (nI_add _ 1) rfl ?_
        show ai_Ev _ _ _ [some (.ref 572), some (.int (nI c)), some (.int (nI q)), some (.int (nI (σ.an q))), some (.int (nI (b + 1))), u5, u6] _ _ _
        refine ev_goto 14 (by decide) d156_177 ?_
        refine ih (b + 1) I_1 u5 u6 (by omega) (fun x hx => ?_) (fW_tr hf (mf_W hf9)) (fun y v hy hg => hf9.keep (by omega) (hk9 y v hy hg))
        by_cases e : x = b
        · subst e; rw [hw9]; exact hg9
        · exact hf9.keep e (hd x (by omega))
      · have hw9 : σ.wt c b = 1 := by unfold ai_S.wt; rw [if_neg hc_27, if_pos (by omega)]
        refine ev_iconst (v := nI 1) 45 rfl d156_44 (by decide) ?_
        refine ev_goto 49 (by decide) d156_45 ?_
        refine ev_cu2 52 rfl 148 d156_49 rfl rfl (by rw [G.1 _ _ (rfl : ai_sp 572 = (9, 0)) (by decide) (by decide)]; rfl) (by omega) rfl (m_becomes G (x := b) (by omega) (m := 1) (by omega)) (fun I_1 hr_49 => ?_)
        obtain ⟨hg9, hf9⟩ := hr_49
        refine ev_goto 174 (by decide) d156_52 ?_
        refine ev_iinc (v := nI (b + 1)) 177 rfl d156_174 rfl (Nat.le_of_ble_eq_true rfl) (nI_add _ 1) rfl ?_
        show ai_Ev _ _ _ [some (.ref 572), some (.int (nI c)), some (.int (nI q)), some (.int (nI (σ.an q))), some (.int (nI (b + 1))), u5, u6] _ _ _
        refine ev_goto 14 (by decide) d156_177 ?_
        refine ih (b + 1) I_1 u5 u6 (by omega) (fun x hx => ?_) (fW_tr hf (mf_W hf9)) (fun y v hy hg => hf9.keep (by omega) (hk9 y v hy hg))
        by_cases e : x = b
        · subst e; rw [hw9]; exact hg9
        · exact hf9.keep e (hd x (by omega))
def ai_MW (σ : ai_S) (c : Nat) (I : Nat → Nat → Int32) : Prop := (∀ b, b < σ.an (c % 5) → ai_MG I b (σ.wt c b)) ∧ ai_MG I 4 (σ.tot c)
theorem m_w_s (G : ai_G S F) {I0 : Nat → Nat → Int32} (hV : ai_IV σ) {c q : Nat} (hc : c < 200) (hcq : c % 5 = q) (hq : q < σ.nQ) {u5 u6 : Option Value} : ∀ (z b : Nat) (I : Nat → Nat → Int32), b + z = σ.an q → (∀ x, x < σ.an q → ai_MG I x (σ.wt c x)) → ai_MG I 4 (ai_qs (σ.wt c) b) → ai_fW I0 I → ai_kp I0 I 5 → ai_Ev none 156 189 [some (.ref 572), some (.int (nI c)), some (.int (nI q)), some (.int (nI (σ.an q))), some (.int (nI b)), u5, u6] [] (S, I, L, F) (ai_Pu S F L (fun I2 => ai_MW σ c I2 ∧ ai_fW I0 I2 ∧ ai_kp I0 I2 5)) := by
  have hnT := hV.nT
  have hnQ := hV.nQ
  have hnJ := hV.nJ
  have han := hV.an q hq
  intro z
  induction z with
  | zero =>
    intro b I hz hd hsum hf hk9
    have e9 : b = σ.an q := by omega
    subst e9
    refine ev_iload 191 rfl d156_189 rfl ?_
    refine ev_iload_n 192 rfl d156_191 rfl ?_
    refine ev_icmp 208 195 (by decide) rfl (cn_ge (by omega) (by omega)) d156_192 (fun hc_192 => ?_) (fun hc_192 => absurd hc_192 (by omega))
    refine ev_vret rfl d156_208 ?_
    refine ⟨rfl, _, rfl, ⟨fun b hb => hd b (by rw [hcq] at hb; exact hb), ?_⟩, hf, hk9⟩
    unfold ai_S.tot; rw [hcq]; exact hsum
  | succ z ih =>
    intro b I hz hd hsum hf hk9
    refine ev_iload 191 rfl d156_189 rfl ?_
    refine ev_iload_n 192 rfl d156_191 rfl ?_
    refine ev_icmp 208 195 (by decide) rfl (cn_ge (by omega) (by omega)) d156_192 (fun hc_192 => absurd hc_192 (by omega)) (fun hc_192 => ?_)
    have hle : ai_qs (σ.wt c) b + σ.wt c b ≤ σ.tot c := by
      have h9 := qs_le (f := σ.wt c) (n := σ.an q) (b := b) (by omega)
      unfold ai_S.tot; rw [hcq]; exact h9
    have hlt : σ.tot c ≤ 65536 ^ 40 := big40 (tot_le hV hc (by omega)) (by decide)
    refine ev_aload_n 196 rfl d156_195 rfl ?_
    refine ev_iconst (v := nI 4) 197 rfl d156_196 (by decide) ?_
    refine ev_iload 199 rfl d156_197 rfl ?_
    refine ev_cu2 202 rfl 151 d156_199 rfl rfl (by rw [G.1 _ _ (rfl : ai_sp 572 = (9, 0)) (by decide) (by decide)]; rfl) (by omega) rfl (m_plus G (x := 4) (y := b) (by omega) (by omega) (by omega) hsum (hd b (by omega)) (big17 (Nat.le_trans hle hlt))) (fun I_1 hr_199 => ?_)
    obtain ⟨hg9, hf9⟩ := hr_199
    refine ev_iinc (v := nI (b + 1)) 205 rfl d156_202 rfl (Nat.le_of_ble_eq_true rfl) (nI_add _ 1) rfl ?_
    show ai_Ev _ _ _ [some (.ref 572), some (.int (nI c)), some (.int (nI q)), some (.int (nI (σ.an q))), some (.int (nI (b + 1))), u5, u6] _ _ _
    refine ev_goto 189 (by decide) d156_205 ?_
    exact ih (b + 1) _ (by omega) (fun x hx => hf9.keep (by omega) (hd x hx)) hg9 (fW_tr hf (mf_W hf9)) (fun y v hy hg => hf9.keep (by omega) (hk9 y v hy hg))
theorem m_weigh (G : ai_G S F) (hM : ai_RM σ I L) (hC : ai_RC σ I) (hV : ai_IV σ) {c q : Nat} (hc : c < 200) (hcq : c % 5 = q) (hq : q < σ.nQ) : ai_Ev none 156 0 [some (.ref 572), some (.int (nI c)), none, none, none, none, none] [] (S, I, L, F) (ai_Pu S F L (fun I2 => ai_MW σ c I2 ∧ ai_fW I I2 ∧ ai_kp I I2 5)) := by
  have hnT := hV.nT
  have hnQ := hV.nQ
  have hnJ := hV.nJ
  have han := hV.an q hq
  refine ev_iload_n 1 rfl d156_0 rfl ?_
  refine ev_iconst (v := nI 5) 2 rfl d156_1 (by decide) ?_
  refine ev_irem (v := nI q) 3 rfl d156_2 (nI_ne0 (by omega) (by omega)) (by rw [← hcq]; exact pk_rem (by omega) (by omega) (by omega)) ?_
  refine ev_store_in 4 rfl d156_3 (Nat.le_of_ble_eq_true rfl) rfl ?_
  show ai_Ev _ _ _ [some (.ref 572), some (.int (nI c)), some (.int (nI q)), none, none, none, none] _ _ _
  refine ev_aload_n 5 rfl d156_4 rfl ?_
  refine ev_getr 8 rfl 9 8 d156_5 rfl (by omega) (G.1 _ _ (rfl : ai_sp 572 = (9, 0)) (by decide) (by decide)) (G.2 _ _ _ (rfl : ai_rf 572 8 = some 578)) ?_
  refine ev_iload_n 9 rfl d156_8 rfl ?_
  refine ev_iald_n (v := nI (σ.an q)) 10 rfl d156_9 (by omega) (G.1 _ _ (rfl : ai_sp 578 = (100, 5)) (by decide) (by decide)) (by omega) (by decide) (hM.an _ (by omega)) ?_
  refine ev_store_in 11 rfl d156_10 (Nat.le_of_ble_eq_true rfl) rfl ?_
  show ai_Ev _ _ _ [some (.ref 572), some (.int (nI c)), some (.int (nI q)), some (.int (nI (σ.an q))), none, none, none] _ _ _
  refine ev_iconst (v := nI 0) 12 rfl d156_11 (by decide) ?_
  refine ev_store_i 14 rfl d156_12 ⟨rfl, Nat.le_of_ble_eq_true rfl⟩ rfl ?_
  show ai_Ev _ _ _ [some (.ref 572), some (.int (nI c)), some (.int (nI q)), some (.int (nI (σ.an q))), some (.int (nI 0)), none, none] _ _ _
  refine m_w_b G hM hC hV hc hcq hq ?_ (σ.an q) 0 I _ _ (by omega) (fun x hx => absurd hx (by omega)) (fun _ _ _ => rfl) (fun _ _ _ h => h)
  intro I9 u5 u6 hd hf hk9
  refine ev_aload_n 181 rfl d156_180 rfl ?_
  refine ev_iconst (v := nI 4) 182 rfl d156_181 (by decide) ?_
  refine ev_iconst (v := nI 0) 183 rfl d156_182 (by decide) ?_
  refine ev_cu2 186 rfl 148 d156_183 rfl rfl (by rw [G.1 _ _ (rfl : ai_sp 572 = (9, 0)) (by decide) (by decide)]; rfl) (by omega) rfl (m_becomes G (x := 4) (by omega) (m := 0) (by omega)) (fun I_1 hr_183 => ?_)
  obtain ⟨hg9, hf9⟩ := hr_183
  refine ev_iconst (v := nI 0) 187 rfl d156_186 (by decide) ?_
  refine ev_store_i 189 rfl d156_187 ⟨rfl, Nat.le_of_ble_eq_true rfl⟩ rfl ?_
  show ai_Ev _ _ _ [some (.ref 572), some (.int (nI c)), some (.int (nI q)), some (.int (nI (σ.an q))), some (.int (nI 0)), u5, u6] _ _ _
  exact m_w_s G hV hc hcq hq (σ.an q) 0 _ (by omega) (fun x hx => hf9.keep (by omega) (hd x hx)) hg9 (fW_tr hf (mf_W hf9)) (fun y v hy hg => hf9.keep (by omega) (hk9 y v (by omega) hg))
theorem cmp_gt2 {a b : Nat} : ai_cond .le (ai_cmp a b) 0 = true ↔ ¬ b < a := by
  have h := cmp_gt a b
  rw [cz_gt] at h
  rw [cz_le, ← h]; exact Int32.not_lt.symm
theorem m_lead_loop (G : ai_G S F) (hM : ai_RM σ I L) (hV : ai_IV σ) {c : Nat} (hc : c < 200) (hq : c % 5 < σ.nQ) (hW : ai_MW σ c I) : ∀ (z b : Nat), b + z = σ.an (c % 5) → 1 ≤ b → ai_Ev none 157 4 [some (.ref 572), some (.int (nI c)), some (.int (nI (ai_qa (σ.wt c) b))), some (.int (nI b))] [] (S, I, L, F) (ai_Pp S F I L (.int (nI (σ.lead c)))) := by
  have hnT := hV.nT
  have hnQ := hV.nQ
  have hnJ := hV.nJ
  have han := hV.an _ hq
  intro z
  induction z with
  | zero =>
    intro b hz hb1
    have e9 : b = σ.an (c % 5) := by omega
    subst e9
    refine ev_iload_n 5 rfl d157_4 rfl ?_
    refine ev_aload_n 6 rfl d157_5 rfl ?_
    refine ev_getr 9 rfl 9 8 d157_6 rfl (by omega) (G.1 _ _ (rfl : ai_sp 572 = (9, 0)) (by decide) (by decide)) (G.2 _ _ _ (rfl : ai_rf 572 8 = some 578)) ?_
    refine ev_iload_n 10 rfl d157_9 rfl ?_
    refine ev_iconst (v := nI 5) 11 rfl d157_10 (by decide) ?_
    refine ev_irem (v := nI (c % 5)) 12 rfl d157_11 (nI_ne0 (by omega) (by omega)) (pk_rem (by omega) (by omega) (by omega)) ?_
    refine ev_iald_n (v := nI (σ.an (c % 5))) 13 rfl d157_12 (by omega) (G.1 _ _ (rfl : ai_sp 578 = (100, 5)) (by decide) (by decide)) (by omega) (by decide) (hM.an _ (by omega)) ?_
    refine ev_icmp 33 16 (by decide) rfl (cn_ge (by omega) (by omega)) d157_13 (fun hc_13 => ?_) (fun hc_13 => absurd hc_13 (by omega))
    refine ev_iload_n 34 rfl d157_33 rfl ?_
    refine ev_iret (Or.inl rfl) d157_34 ?_
    exact ⟨rfl, rfl⟩
  | succ z ih =>
    intro b hz hb1
    have hqa := qa_lt (f := σ.wt c) (n := b) (by omega)
    refine ev_iload_n 5 rfl d157_4 rfl ?_
    refine ev_aload_n 6 rfl d157_5 rfl ?_
    refine ev_getr 9 rfl 9 8 d157_6 rfl (by omega) (G.1 _ _ (rfl : ai_sp 572 = (9, 0)) (by decide) (by decide)) (G.2 _ _ _ (rfl : ai_rf 572 8 = some 578)) ?_
    refine ev_iload_n 10 rfl d157_9 rfl ?_
    refine ev_iconst (v := nI 5) 11 rfl d157_10 (by decide) ?_
    refine ev_irem (v := nI (c % 5)) 12 rfl d157_11 (nI_ne0 (by omega) (by omega)) (pk_rem (by omega) (by omega) (by omega)) ?_
    refine ev_iald_n (v := nI (σ.an (c % 5))) 13 rfl d157_12 (by omega) (G.1 _ _ (rfl : ai_sp 578 = (100, 5)) (by decide) (by decide)) (by omega) (by decide) (hM.an _ (by omega)) ?_
    refine ev_icmp 33 16 (by decide) rfl (cn_ge (by omega) (by omega)) d157_13 (fun hc_13 => absurd hc_13 (by omega)) (fun hc_13 => ?_)
    refine ev_aload_n 17 rfl d157_16 rfl ?_
    refine ev_iload_n 18 rfl d157_17 rfl ?_
    refine ev_iload_n 19 rfl d157_18 rfl ?_
    refine ev_cp2 22 rfl 153 d157_19 rfl rfl (by rw [G.1 _ _ (rfl : ai_sp 572 = (9, 0)) (by decide) (by decide)]; rfl) (by omega) rfl (m_cmp G (x := b) (y := ai_qa (σ.wt c) b) (by omega) (by omega) (hW.1 _ (by omega)) (hW.1 _ (by omega))) ?_
    refine ev_if 27 25 (by decide) rfl cmp_gt2 d157_22 (fun hc_22 => ?_) (fun hc_22 => ?_)
    · refine ev_iinc (v := nI (b + 1)) 30 rfl d157_27 rfl (Nat.le_of_ble_eq_true rfl) (nI_add _ 1) rfl ?_
      show ai_Ev _ _ _ [some (.ref 572), some (.int (nI c)), some (.int (nI (ai_qa (σ.wt c) b))), some (.int (nI (b + 1)))] _ _ _
      refine ev_goto 4 (by decide) d157_30 ?_
      have e8 : ai_qa (σ.wt c) (b + 1) = ai_qa (σ.wt c) b := if_neg hc_22
      have h9 := ih (b + 1) (by omega) (by omega)
      rw [e8] at h9
      exact h9
    · refine ev_iload_n 26 rfl d157_25 rfl ?_
      refine ev_store_in 27 rfl d157_26 (Nat.le_of_ble_eq_true rfl) rfl ?_
      show ai_Ev _ _ _ [some (.ref 572), some (.int (nI c)), some (.int (nI b)), some (.int (nI b))] _ _ _
      refine ev_iinc (v := nI (b + 1)) 30 rfl d157_27 rfl (Nat.le_of_ble_eq_true rfl) (nI_add _ 1) rfl ?_
      show ai_Ev _ _ _ [some (.ref 572), some (.int (nI c)), some (.int (nI b)), some (.int (nI (b + 1)))] _ _ _
      refine ev_goto 4 (by decide) d157_30 ?_
      have e8 : ai_qa (σ.wt c) (b + 1) = b := if_pos (Classical.not_not.mp hc_22)
      have h9 := ih (b + 1) (by omega) (by omega)
      rw [e8] at h9
      exact h9
theorem m_lead (G : ai_G S F) (hM : ai_RM σ I L) (hV : ai_IV σ) {c : Nat} (hc : c < 200) (hq : c % 5 < σ.nQ) (hW : ai_MW σ c I) : ai_Ev none 157 0 [some (.ref 572), some (.int (nI c)), none, none] [] (S, I, L, F) (ai_Pp S F I L (.int (nI (σ.lead c)))) := by
  refine ev_iconst (v := nI 0) 1 rfl d157_0 (by decide) ?_
  refine ev_store_in 2 rfl d157_1 (Nat.le_of_ble_eq_true rfl) rfl ?_
  show ai_Ev _ _ _ [some (.ref 572), some (.int (nI c)), some (.int (nI 0)), none] _ _ _
  refine ev_iconst (v := nI 1) 3 rfl d157_2 (by decide) ?_
  refine ev_store_in 4 rfl d157_3 (Nat.le_of_ble_eq_true rfl) rfl ?_
  show ai_Ev _ _ _ [some (.ref 572), some (.int (nI c)), some (.int (nI 0)), some (.int (nI 1))] _ _ _
  have h9 := m_lead_loop G hM hV hc hq hW (σ.an (c % 5) - 1) 1 (by have := hV.an _ hq; omega) (by omega)
  have e8 : ai_qa (σ.wt c) 1 = 0 := by show (if _ then 0 else 0) = 0; split <;> rfl
  rw [e8] at h9
  exact h9
end MWEI
