section START
variable {S : List (Nat × Nat)} {I : Nat → Nat → Int32} {L : Nat → Nat → Int64} {F : Nat → Nat → Option Nat} {Q : Option Value → ai_H → Prop}
def xS (S : List (Nat × Nat)) : List (Nat × Nat) := wSca 200 (wSju 24 (wSqu 5 (wSsh 8 (cS_52 S))))
def xI (I : Nat → Nat → Int32) : Nat → Nat → Int32 := wIca 200 (wIju 24 (wIqu 5 (wIsh 8 (cI_52 I))))
def xL (L : Nat → Nat → Int64) : Nat → Nat → Int64 := wLca 200 (wLju 24 (wLqu 5 (wLsh 8 (cL_52 L))))
def xF (F : Nat → Nat → Option Nat) : Nat → Nat → Option Nat := wFca 200 (wFju 24 (wFqu 5 (wFsh 8 (cF_52 F))))
theorem x_ctor (hb : S[1]? = some (8, 0)) (hl : S.length = 2) : ai_Ev none 52 0 [some (.ref 1), none] [] (S, I, L, F) (fun r h => r = none ∧ h = (xS S, xI I, xL L, xF F)) := by
  have l0 : (cS_52 S).length = 55 := (ln_s (ln_s (ln_s (ln_s (ln_s (ln_s (ln_s (ln_s (ln_s (ln_s (ln_s (ln_s (ln_s (ln_s (ln_s (ln_s (ln_s (ln_s (ln_s (ln_s (ln_s (ln_s (ln_s (ln_s (ln_s (ln_s (ln_s (ln_s (ln_s (ln_s (ln_s (ln_s (ln_s (ln_s (ln_s (ln_s (ln_s (ln_s (ln_s (ln_s (ln_s (ln_s (ln_s (ln_s (ln_s (ln_s (ln_s (ln_s (ln_s (ln_s (ln_s (ln_s (ln_s (hl))))))))))))))))))))))))))))))))))))))))))))))))))))))
  have a1 : (cS_52 S)[1]? = some (8, 0) := (ap_l (ap_l (ap_l (ap_l (ap_l (ap_l (ap_l (ap_l (ap_l (ap_l (ap_l (ap_l (ap_l (ap_l (ap_l (ap_l (ap_l (ap_l (ap_l (ap_l (ap_l (ap_l (ap_l (ap_l (ap_l (ap_l (ap_l (ap_l (ap_l (ap_l (ap_l (ap_l (ap_l (ap_l (ap_l (ap_l (ap_l (ap_l (ap_l (ap_l (ap_l (ap_l (ap_l (ap_l (ap_l (ap_l (ap_l (ap_l (ap_l (ap_l (ap_l (ap_l (ap_l (hb))))))))))))))))))))))))))))))))))))))))))))))))))))))
  have a2 : (cS_52 S)[2]? = some (104, 8) := (ap_l (ap_l (ap_l (ap_l (ap_l (ap_l (ap_l (ap_l (ap_l (ap_l (ap_l (ap_l (ap_l (ap_l (ap_l (ap_l (ap_l (ap_l (ap_l (ap_l (ap_l (ap_l (ap_l (ap_l (ap_l (ap_l (ap_l (ap_l (ap_l (ap_l (ap_l (ap_l (ap_l (ap_l (ap_l (ap_l (ap_l (ap_l (ap_l (ap_l (ap_l (ap_l (ap_l (ap_l (ap_l (ap_l (ap_l (ap_l (ap_l (ap_l (ap_l (ap_l (ap_n hl)))))))))))))))))))))))))))))))))))))))))))))))))))))
  have a3 : (cS_52 S)[3]? = some (105, 5) := (ap_l (ap_l (ap_l (ap_l (ap_l (ap_l (ap_l (ap_l (ap_l (ap_l (ap_l (ap_l (ap_l (ap_l (ap_l (ap_l (ap_l (ap_l (ap_l (ap_l (ap_l (ap_l (ap_l (ap_l (ap_l (ap_l (ap_l (ap_l (ap_l (ap_l (ap_l (ap_l (ap_l (ap_l (ap_l (ap_l (ap_l (ap_l (ap_l (ap_l (ap_l (ap_l (ap_l (ap_l (ap_l (ap_l (ap_l (ap_l (ap_l (ap_l (ap_l (ap_n (ln_s hl)))))))))))))))))))))))))))))))))))))))))))))))))))))
  have a4 : (cS_52 S)[4]? = some (106, 24) := (ap_l (ap_l (ap_l (ap_l (ap_l (ap_l (ap_l (ap_l (ap_l (ap_l (ap_l (ap_l (ap_l (ap_l (ap_l (ap_l (ap_l (ap_l (ap_l (ap_l (ap_l (ap_l (ap_l (ap_l (ap_l (ap_l (ap_l (ap_l (ap_l (ap_l (ap_l (ap_l (ap_l (ap_l (ap_l (ap_l (ap_l (ap_l (ap_l (ap_l (ap_l (ap_l (ap_l (ap_l (ap_l (ap_l (ap_l (ap_l (ap_l (ap_l (ap_n (ln_s (ln_s hl)))))))))))))))))))))))))))))))))))))))))))))))))))))
  have a5 : (cS_52 S)[5]? = some (107, 200) := (ap_l (ap_l (ap_l (ap_l (ap_l (ap_l (ap_l (ap_l (ap_l (ap_l (ap_l (ap_l (ap_l (ap_l (ap_l (ap_l (ap_l (ap_l (ap_l (ap_l (ap_l (ap_l (ap_l (ap_l (ap_l (ap_l (ap_l (ap_l (ap_l (ap_l (ap_l (ap_l (ap_l (ap_l (ap_l (ap_l (ap_l (ap_l (ap_l (ap_l (ap_l (ap_l (ap_l (ap_l (ap_l (ap_l (ap_l (ap_l (ap_l (ap_n (ln_s (ln_s (ln_s hl)))))))))))))))))))))))))))))))))))))))))))))))))))))
  have f0 : cF_52 F 1 0 = some 2 := rfl
  have f1 : cF_52 F 1 1 = some 3 := rfl
  have f2 : cF_52 F 1 2 = some 4 := rfl
  have f3 : cF_52 F 1 3 = some 5 := rfl
  have l1 : (wSsh 8 (cS_52 S)).length = 71 := lnsh l0 8
  have l2 : (wSqu 5 (wSsh 8 (cS_52 S))).length = 76 := lnqu l1 5
  have l3 : (wSju 24 (wSqu 5 (wSsh 8 (cS_52 S)))).length = 172 := lnju l2 24
  have g1 : wFsh 8 (cF_52 F) 1 1 = some 3 := by rw [ffsh (by decide) (by decide)]; exact f1
  have g2 : wFqu 5 (wFsh 8 (cF_52 F)) 1 2 = some 4 := by rw [ffqu (by decide) (by decide), ffsh (by decide) (by decide)]; exact f2
  have g3 : wFju 24 (wFqu 5 (wFsh 8 (cF_52 F))) 1 3 = some 5 := by rw [ffju (by decide) (by decide), ffqu (by decide) (by decide), ffsh (by decide) (by decide)]; exact f3
  refine c_52 hb hl ?_
  refine losh l0 a1 a2 f0 ?_ 8 0 rfl
  refine ev_iconst (v := nI 0) 184 rfl d52_183 (by decide) ?_
  refine ev_store_in 185 rfl d52_184 (Nat.le_of_ble_eq_true rfl) rfl ?_
  refine loqu l1 (apsh a1 8) (apsh a3 8) g1 ?_ 5 0 rfl
  refine ev_iconst (v := nI 0) 210 rfl d52_209 (by decide) ?_
  refine ev_store_in 211 rfl d52_210 (Nat.le_of_ble_eq_true rfl) rfl ?_
  refine loju l2 (apqu (apsh a1 8) 5) (apqu (apsh a4 8) 5) g2 ?_ 24 0 rfl
  refine ev_iconst (v := nI 0) 237 rfl d52_236 (by decide) ?_
  refine ev_store_in 238 rfl d52_237 (Nat.le_of_ble_eq_true rfl) rfl ?_
  refine loca l3 (apju (apqu (apsh a1 8) 5) 24) (apju (apqu (apsh a5 8) 5) 24) g3 ?_ 200 0 rfl
  exact ev_vret rfl d52_264 ⟨rfl, rfl⟩
def eS : List (Nat × Nat) := cS_113 (xS ([(999, 0)] ++ [(8, 0)]) ++ [(9, 0)])
def eI : Nat → Nat → Int32 := cI_113 (ai_row (xI (ai_row (fun _ _ => 0) 1 (fun _ => 0))) 572 (fun _ => 0))
def eL : Nat → Nat → Int64 := cL_113 (xL (fun _ _ => 0))
def eF : Nat → Nat → Option Nat := cF_113 (ai_row (xF (ai_row (fun _ _ => none) 1 (fun _ => none))) 572 (fun _ => none))
theorem xS_len (hl : S.length = 2) : (xS S).length = 572 := by
  have l0 : (cS_52 S).length = 55 := (ln_s (ln_s (ln_s (ln_s (ln_s (ln_s (ln_s (ln_s (ln_s (ln_s (ln_s (ln_s (ln_s (ln_s (ln_s (ln_s (ln_s (ln_s (ln_s (ln_s (ln_s (ln_s (ln_s (ln_s (ln_s (ln_s (ln_s (ln_s (ln_s (ln_s (ln_s (ln_s (ln_s (ln_s (ln_s (ln_s (ln_s (ln_s (ln_s (ln_s (ln_s (ln_s (ln_s (ln_s (ln_s (ln_s (ln_s (ln_s (ln_s (ln_s (ln_s (ln_s (ln_s (hl))))))))))))))))))))))))))))))))))))))))))))))))))))))
  exact lnca (lnju (lnqu (lnsh l0 8) 5) 24) 200
theorem la_start {n : Nat} {xs : Nat → Int32} (hk : ai_Ev (some (n, xs)) 179 18 (la_ls 0) [] (eS, eI, eL, eF) Q) : ai_Ev (some (n, xs)) 179 0 [some (.ref 0), none, none, none] [] ([(999, 0)], fun _ _ => 0, fun _ _ => 0, fun _ _ => none) Q := by
  refine ev_new 3 rfl 8 d179_0 rfl (b := 1) rfl ?_
  refine ev_dup 4 rfl d179_3 rfl ?_
  refine ev_ci0 7 rfl 52 d179_4 rfl rfl rfl (x_ctor rfl rfl) ?_
  rintro _ _ ⟨rfl, rfl⟩
  show ai_Ev _ _ _ _ [.ref 1] _ _
  refine ev_store_an 8 rfl d179_7 (Nat.le_of_ble_eq_true rfl) rfl ?_
  have l0 := xS_len (S := [(999, 0)] ++ [(8, 0)]) rfl
  refine ev_new 11 rfl 9 d179_8 rfl l0 ?_
  refine ev_dup 12 rfl d179_11 rfl ?_
  refine ev_ci0 15 rfl 113 d179_12 rfl rfl rfl (c_113 (ap_n l0) (ln_s l0)) ?_
  rintro _ _ ⟨rfl, rfl⟩
  show ai_Ev _ _ _ _ [.ref 572] _ _
  refine ev_store_an 16 rfl d179_15 (Nat.le_of_ble_eq_true rfl) rfl ?_
  refine ev_iconst (v := nI 0) 17 rfl d179_16 (by decide) ?_
  refine ev_store_in 18 rfl d179_17 (Nat.le_of_ble_eq_true rfl) rfl ?_
  exact hk
theorem eS_eq : eS = (List.range 598).map ai_sp := by decide +kernel
theorem eS_len : eS.length ≤ 600001 := by rw [eS_eq]; simp
theorem eS_ss : ai_ss eS ≤ 7302250 := by decide +kernel
theorem eS_sp : ∀ a s, ai_sp a = s → a ≠ 0 → a < 598 → eS[a]? = some s := by
  intro a s h h0 h1
  rw [eS_eq, List.getElem?_map, List.getElem?_range h1]
  exact congrArg some h
end START
