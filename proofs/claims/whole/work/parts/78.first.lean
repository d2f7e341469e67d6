section FIRST
def ai_s0 : ai_S := ((fun _ => 0), (fun _ => 0), (fun _ => 0), (fun _ _ => 0), (0), (0), (0), (fun _ => 0), (fun _ => 0), (fun _ => 0), (fun _ => 0), (fun _ => 0), (fun _ _ => 0), (fun _ => false), (fun _ => 0), (950), (12), (3), (fun _ => 0), (0), (fun _ _ _ _ => 0), (fun _ _ _ => 0))
theorem s0_rf {x0 : Nat} : ai_s0.rf x0 = 0 := by dsimp only [ai_S.rf, ai_s0]
theorem s0_hd {x0 : Nat} : ai_s0.hd x0 = 0 := by dsimp only [ai_S.hd, ai_s0]
theorem s0_sz {x0 : Nat} : ai_s0.sz x0 = 0 := by dsimp only [ai_S.sz, ai_s0]
theorem s0_el {x0 x1 : Nat} : ai_s0.el x0 x1 = 0 := by dsimp only [ai_S.el, ai_s0]
theorem s0_nT : ai_s0.nT  = 0 := by dsimp only [ai_S.nT, ai_s0]
theorem s0_nQ : ai_s0.nQ  = 0 := by dsimp only [ai_S.nQ, ai_s0]
theorem s0_nJ : ai_s0.nJ  = 0 := by dsimp only [ai_S.nJ, ai_s0]
theorem s0_an {x0 : Nat} : ai_s0.an x0 = 0 := by dsimp only [ai_S.an, ai_s0]
theorem s0_pa {x0 : Nat} : ai_s0.pa x0 = 0 := by dsimp only [ai_S.pa, ai_s0]
theorem s0_wa {x0 : Nat} : ai_s0.wa x0 = 0 := by dsimp only [ai_S.wa, ai_s0]
theorem s0_tr {x0 : Nat} : ai_s0.tr x0 = 0 := by dsimp only [ai_S.tr, ai_s0]
theorem s0_ag {x0 : Nat} : ai_s0.ag x0 = 0 := by dsimp only [ai_S.ag, ai_s0]
theorem s0_gv {x0 x1 : Nat} : ai_s0.gv x0 x1 = 0 := by dsimp only [ai_S.gv, ai_s0]
theorem s0_lf {x0 : Nat} : ai_s0.lf x0 = false := by dsimp only [ai_S.lf, ai_s0]
theorem s0_sr {x0 : Nat} : ai_s0.sr x0 = 0 := by dsimp only [ai_S.sr, ai_s0]
theorem s0_mk : ai_s0.mk  = 950 := by dsimp only [ai_S.mk, ai_s0]
theorem s0_lk : ai_s0.lk  = 12 := by dsimp only [ai_S.lk, ai_s0]
theorem s0_hs : ai_s0.hs  = 3 := by dsimp only [ai_S.hs, ai_s0]
theorem s0_ch {x0 : Nat} : ai_s0.ch x0 = 0 := by dsimp only [ai_S.ch, ai_s0]
theorem s0_st : ai_s0.st  = 0 := by dsimp only [ai_S.st, ai_s0]
theorem s0_sd {x0 x1 x2 x3 : Nat} : ai_s0.sd x0 x1 x2 x3 = 0 := by dsimp only [ai_S.sd, ai_s0]
theorem s0_sa {x0 x1 x2 : Nat} : ai_s0.sa x0 x1 x2 = 0 := by dsimp only [ai_S.sa, ai_s0]
theorem z_qn {p : Nat → Bool} (h : ∀ i, p i = false) : ∀ n, ai_qn p n = 0 := by
  intro n
  induction n with
  | zero => rfl
  | succ n ih => show ai_qn p n + ai_qb (p n) = 0; rw [ih, h n]; rfl
theorem z_ql {p : Nat → Bool} (h : ∀ i, p i = false) : ∀ n, ai_ql p n = 0 := by
  intro n
  induction n with
  | zero => rfl
  | succ n ih => show (if ai_ql p n = 0 then (if p n = true then n + 1 else 0) else ai_ql p n) = 0; rw [if_pos ih, h n, if_neg (by decide)]
theorem s0_fair {j c : Nat} : ai_s0.fair j c = false := by unfold ai_S.fair; rw [s0_gv]; rfl
theorem s0_both {y x c : Nat} : ai_s0.both y x c = false := by unfold ai_S.both; rw [s0_fair]; rfl
theorem s0_same {y x : Nat} : ai_s0.same y x = 0 := by unfold ai_S.same; exact z_qn (fun i => s0_both) 200
theorem s0_diff {y x : Nat} : ai_s0.diff y x = false := by unfold ai_S.diff; rw [z_qn (fun i => by rw [s0_both]; rfl) 200]; rfl
theorem s0_cpy {y x : Nat} : ai_s0.cpy y x = false := by unfold ai_S.cpy; rw [s0_same, s0_diff]; rfl
theorem s0_cop {j : Nat} : ai_s0.cop j = 0 := by unfold ai_S.cop; rw [s0_lf, if_neg (by decide)]; exact z_ql (fun i => by rw [s0_cpy]; exact Bool.and_false _) j
theorem s0_given {j : Nat} : ai_s0.given j = 0 := by unfold ai_S.given; exact z_qn (fun i => by rw [s0_gv]; rfl) 200
theorem n0 : (0 : Int32) = nI 0 := by decide
theorem n1 : (-1 : Int32) = nI 0 - 1 := by decide
theorem e_RX : ai_RX ai_s0 eI eL := by
  obtain ⟨x4, x5, x6, x7, x8, x9, x11, r7⟩ := e_x1
  refine ⟨?_, ?_, ?_, ?_, ?_, ?_, ?_, ?_, ?_, ?_, ?_, ?_, ?_, ?_, ?_, ?_, ?_, ?_, ?_, ?_, ?_, ?_, ?_, ?_, ?_, ?_, ?_⟩
  · rw [s0_nT, x4]; exact n0
  · rw [s0_nQ, x5]; exact n0
  · rw [s0_nJ, x6]; exact n0
  · rw [s0_mk]; exact x7
  · rw [s0_lk]; exact x8
  · rw [s0_hs]; exact x9
  · rw [s0_st, x11]; exact n0
  · intro i hi; rw [s0_st] at hi; omega
  · intro i hi; rw [s0_rf]; exact r7 i hi
  · intro s hs; rw [s0_hd, (e_sh s hs).1]; decide
  · intro s hs; rw [s0_hd, (e_sh s hs).2.1]; decide
  · intro s hs h; rw [s0_hd] at h; omega
  · intro s hs; rw [s0_sz, (e_sh s hs).2.2]; exact n0
  · intro s hs i hi; rw [s0_sz] at hi; omega
  · intro q hq h; rw [s0_nQ] at h; omega
  · intro q hq h0 h; rw [s0_nQ] at h; omega
  · intro q hq h0 h; rw [s0_nQ] at h; omega
  · intro j hj; rw [s0_lf, (e_jd j hj).1]; decide
  · intro j hj; rw [s0_given, (e_jd j hj).2.1]; exact n0
  · intro j hj; rw [s0_sr]; exact (e_jd j hj).2.2.1
  · intro j hj; rw [s0_cop, (e_jd j hj).2.2.2]; exact n1
  · intro y x hx hy _ _; rw [s0_diff, s0_same, (e_ju hy).1, if_neg (by decide)]; exact n0
  · intro j q a b hj _ _ _; rw [s0_sd, (e_ju hj).2.1]; exact n0
  · intro j q b hj _ _; rw [s0_sa, (e_ju hj).2.2]; exact n0
  · intro c hc; rw [s0_tr, (e_ca c hc).1]; exact n1
  · intro c hc; rw [s0_ag, (e_ca c hc).2]; exact n1
  · intro c j hc hj; rw [s0_gv, e_nt hc]; exact n0
theorem e_RM : ai_RM ai_s0 eI eL := by
  obtain ⟨x5, x6, x7, x20, x21, x22, x23, x29⟩ := e_m1
  refine ⟨?_, ?_, ?_, ?_, ?_, ?_, ?_, ?_, ?_, ?_, ?_, ?_, ?_, ?_, ?_, ?_, ?_, ?_, ?_, ?_, ?_, ?_, ?_, ?_, ?_⟩
  · intro i hi; rw [s0_rf]; exact (e_m2 (i + 1) (by omega)).1
  · intro s hs; rw [s0_hd, (e_m2 s hs).2.1]; exact n1
  · intro s hs; rw [s0_sz, (e_m2 s hs).2.2]; exact n0
  · intro s hs i hi; rw [s0_sz] at hi; omega
  · rw [s0_nT, x5]; exact n0
  · rw [s0_nQ, x6]; exact n0
  · rw [s0_nJ, x7]; exact n0
  · intro q h; rw [s0_nQ] at h; omega
  · intro q h0 h; rw [s0_nQ] at h; omega
  · intro q h0 h; rw [s0_nQ] at h; omega
  · intro c hc h; rw [s0_nQ] at h; omega
  · intro c hc h; rw [s0_nQ] at h; omega
  · intro j hj; rw [s0_lf, (e_m3 j hj).1]; decide
  · intro j hj; rw [s0_sr]; exact (e_m3 j hj).2.1
  · intro j hj _; rw [s0_given, (e_m3 j hj).2.2]; exact n0
  · intro j c hj hc _ h; rw [s0_nQ] at h; omega
  · intro j c hj hc _ h _; rw [s0_nQ] at h; omega
  · exact Or.inl (x20.trans (by decide))
  · rw [s0_mk]; exact x21
  · rw [s0_lk]; exact x22
  · rw [s0_hs]; exact x23
  · intro j q a b hj h _ _; rw [s0_nQ] at h; omega
  · intro j q b hj h _; rw [s0_nQ] at h; omega
  · intro i hi; rw [s0_st] at hi; omega
  · rw [s0_st, x29]; exact n0
theorem e_IV : ai_IV ai_s0 := by
  refine ⟨?_, ?_, ?_, ?_, ?_, ?_, ?_, ?_, ?_, ?_, ?_, ?_, ?_, ?_, ?_, ?_, ?_, ?_, ?_, ?_⟩
  · rw [s0_nT]; omega
  · rw [s0_nQ]; omega
  · rw [s0_nJ]; omega
  · rw [s0_mk]; omega
  · rw [s0_lk]; omega
  · rw [s0_hs]; omega
  · rw [s0_st]; omega
  · intro i _; rw [s0_ch]; omega
  · intro s _; rw [s0_hd]; exact Or.inl (Nat.zero_le _)
  · intro s _; rw [s0_sz]; omega
  · intro q h; rw [s0_nQ] at h; omega
  · intro q h0 h; rw [s0_nQ] at h; omega
  · intro c hc h; exact absurd s0_tr h
  · intro c hc h; exact absurd s0_ag h
  · intro j c hc h; exact absurd s0_gv h
  · intro j h; rw [s0_lf] at h; cases h
  · intro j q b hj h; rw [s0_nQ] at h; omega
  · intro j q hj h; rw [s0_nQ] at h; omega
  · intro j q a b _ _; exact ⟨s0_sd, s0_sa⟩
  · intro j q a b; rw [s0_sd, s0_sa]; exact ⟨Nat.zero_le _, Nat.zero_le _⟩
theorem la_run {n : Nat} {xs : Nat → Int32} (hn : n ≤ 3072) : ai_Ev (some (n, xs)) 179 0 [some (.ref 0), none, none, none] [] ([(999, 0)], fun _ _ => 0, fun _ _ => 0, fun _ _ => none) (la_Q eS) :=
  la_start (la_loop e_G hn (n + 1) 0 ai_s0 eI eL (by omega) (by omega) e_RX e_RM e_IV)
end FIRST
