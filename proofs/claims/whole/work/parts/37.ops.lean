section OPS
variable {S : List (Nat × Nat)} {F : Nat → Nat → Option Nat} {L : Nat → Nat → Int64} {I : Nat → Nat → Int32} {σ : ai_S}
theorem n1_lt {a : Nat} (ha : a < 2 ^ 31) : ¬ ai_cond .lt (nI a) (-1) = true := by
  rw [cz_lt]; intro h
  have h2 := Int32.lt_iff_toInt_lt.mp h
  have e : (nI a).toInt = (a : Int) := Int32.toInt_ofNat_of_lt (by omega)
  rw [e] at h2
  have : (-1 : Int32).toInt = -1 := by decide
  omega
theorem n1_ne' {a : Nat} (ha : a < 2 ^ 31) : ¬ nI a = -1 := by
  intro h
  have e : (nI a).toInt = (a : Int) := Int32.toInt_ofNat_of_lt (by omega)
  rw [h] at e
  have : (-1 : Int32).toInt = -1 := by decide
  omega
theorem n1_eq {a : Nat} (ha : a < 2 ^ 31) : ¬ ai_cond .eq (nI a) (-1) = true := by rw [cz_eq]; exact n1_ne' ha
theorem n1_ne {a : Nat} (ha : a < 2 ^ 31) : ai_cond .ne (nI a) (-1) = true := by rw [cz_ne]; exact n1_ne' ha
def ai_nn (z : Int32) : Nat := z.toNatClampNeg
theorem nn_I {k : Nat} (h : k < 2147483648) : ai_nn (nI k) = k := nI_clamp h
theorem neg0 {k : Nat} (h : k < 2147483648) : -(nI k) = 0 ↔ k = 0 := by
  constructor
  · intro e
    have e2 : nI k = nI 0 := by
      have e3 : nI k = -(-(nI k)) := (Int32.neg_neg).symm
      rw [e3, e]; rfl
    exact (nI_eq (by omega) (by omega)).mp e2
  · rintro rfl; rfl
theorem is_T {n x : Nat} (h : x < n) : ai_is n (nI x) := ⟨x, h, rfl⟩
theorem is_F {n x : Nat} (hn : n < 2147483648) (hx : x < 2147483648) (h : ¬ x < n) : ¬ ai_is n (nI x) := fun q => h ((is_nat (by omega) (by omega)).mp q)
theorem is_L {n : Nat} {z : Int32} (hn : n < 2147483648) (h : z < 0) : ¬ ai_is n z := is_neg (by omega) (Int32.not_le.mpr h)
def ai_cut (so : Nat) (v : Int64) : Int64 := if so = 0 then v.toInt32.toInt8.toInt32.toInt64 else if so = 1 then v.toInt32.toInt16.toInt32.toInt64 else if so = 2 then v.toInt32.toInt64 else v
def ai_S.row (σ : ai_S) (s so n : Nat) : ai_S := ((σ.wHd (fun x => if x = s then 101 + so else σ.hd x)).wSz (fun x => if x = s then n else σ.sz x)).wEl (fun x k => if x = s then lN 0 else σ.el x k)
def ai_S.put (σ : ai_S) (s i : Nat) (v : Int64) : ai_S := σ.wEl (fun x k => if x = s ∧ k = i then ai_cut (σ.hd s - 101) v else σ.el x k)
def ai_S.copy (σ : ai_S) (p q i j n : Nat) : ai_S := σ.wEl (fun x k => if x = q ∧ j ≤ k ∧ k < j + n then σ.el p (i + (k - j)) else σ.el x k)
def ai_S.hold (σ : ai_S) (s d : Nat) : ai_S := σ.wHd (fun x => if x = s then d else σ.hd x)
def ai_S.quest (σ : ai_S) (n p w : Nat) : ai_S := (((σ.wNQ (σ.nQ + 1)).wAn (fun x => if x = σ.nQ then n else σ.an x)).wPa (fun x => if x = σ.nQ then p else σ.pa x)).wWa (fun x => if x = σ.nQ then w else σ.wa x)
def ai_S.know (σ : ai_S) (c b : Nat) : ai_S := σ.wTr (fun x => if x = c then b else σ.tr x)
def ai_S.rest (σ : ai_S) (j : Nat) : ai_S := σ.wSr (fun x => if x = j then nI 0 else σ.sr x)
def ai_S.there9 (σ : ai_S) : Nat := ai_qn σ.lf σ.nJ
noncomputable def o_row (σ : ai_S) (z1 z2 z3 : Int32) : ai_S × Int32 := ai_c (ai_is 8 z1) (ai_c (z3 < 0) (σ.refuse 4) (ai_c (ai_is 4 z2) (ai_c (ai_is 101 z3) (σ.row (ai_nn z1) (ai_nn z2) (ai_nn z3), nI 1) (σ.refuse 7)) (σ.refuse 6))) (σ.refuse 1)
noncomputable def o_set (σ : ai_S) (z1 z2 : Int32) (v : Int64) : ai_S × Int32 := ai_c (σ.rr z1 = 0) (ai_c (ai_rng (σ.sz (ai_nn z1)) z2 (nI 1)) (σ.put (ai_nn z1) (ai_nn z2) v, nI 1) (σ.refuse 5)) (σ.refuse (σ.rr z1))
def ai_S.pers (σ : ai_S) (s : Nat) : Prop := 0 < σ.hd s ∧ σ.hd s ≤ 100
noncomputable def o_copy (σ : ai_S) (z1 z2 z3 z4 z5 : Int32) : ai_S × Int32 := ai_c (ai_is 8 z1 ∧ ai_is 8 z2) (ai_c (σ.pers (ai_nn z1) ∨ σ.pers (ai_nn z2) ∨ (100 < σ.hd (ai_nn z1) ∧ 100 < σ.hd (ai_nn z2) ∧ σ.hd (ai_nn z1) ≠ σ.hd (ai_nn z2))) (σ.refuse 2) (ai_c (100 < σ.hd (ai_nn z1) ∧ 100 < σ.hd (ai_nn z2)) (ai_c (z5 < 0) (σ.refuse 4) (ai_c (ai_rng (σ.sz (ai_nn z1)) z3 z5 ∧ ai_rng (σ.sz (ai_nn z2)) z4 z5) (σ.copy (ai_nn z1) (ai_nn z2) (ai_nn z3) (ai_nn z4) (ai_nn z5), nI 1) (σ.refuse 5))) (σ.refuse 3))) (σ.refuse 1)
noncomputable def o_element (σ : ai_S) (z1 z2 : Int32) : Int64 := ai_c (ai_is 8 z1) (ai_c (100 < σ.hd (ai_nn z1)) (ai_c (ai_rng (σ.sz (ai_nn z1)) z2 (nI 1)) (σ.el (ai_nn z1) (ai_nn z2)) (lN 0)) (lN 0)) (lN 0)
noncomputable def o_show (σ : ai_S) (z1 z2 : Int32) : ai_S × Int32 := ai_c (ai_is 8 z1) (ai_c (z2 = -1) (σ.hold (ai_nn z1) 0, nI 0) (ai_c (ai_is σ.nJ z2) (σ.hold (ai_nn z1) (ai_nn z2 + 1), nI 1) (σ.refuse 1))) (σ.refuse 1)
noncomputable def o_holds (σ : ai_S) (z1 : Int32) : ai_S × Int32 := ai_c (ai_is 8 z1) (σ, nI (σ.hd (ai_nn z1)) - 1) (σ, -1)
noncomputable def o_countsIn (σ : ai_S) (z1 : Int32) : ai_S × Int32 := ai_c (ai_is 8 z1) (ai_c (100 < σ.hd (ai_nn z1)) (σ.refuse 2) (ai_c (0 < σ.hd (ai_nn z1) ∧ σ.hd (ai_nn z1) ≤ 100) (σ, nI (σ.cnts (σ.hd (ai_nn z1) - 1))) (σ.refuse 3))) (σ.refuse 1)
noncomputable def o_question (σ : ai_S) (z1 z2 z3 : Int32) : ai_S × Int32 := ai_c (σ.nQ = 0 ∨ ai_is σ.nQ z2) (ai_c (ai_is 5 z1 ∧ ¬ ai_is 2 z1) (ai_c ((σ.nQ = 0 ∧ z2 = -1) ∨ (σ.nQ ≠ 0 ∧ σ.isA z2 z3)) (ai_c (σ.nQ < 5) (σ.quest (ai_nn z1) (ai_nn z2) (ai_nn z3), nI σ.nQ) (σ.refuse 7)) (σ.refuse 6)) (σ.refuse 6)) (σ.refuse 1)
noncomputable def o_things (σ : ai_S) (z1 : Int32) : ai_S × Int32 := ai_c (z1 < 0) (σ.refuse 4) (ai_c (ai_is (41 - σ.nT) z1) (σ.wNT (σ.nT + ai_nn z1), nI (σ.nT + ai_nn z1)) (σ.refuse 7))
noncomputable def o_judge (σ : ai_S) : ai_S × Int32 := ai_c (σ.nJ < 24) (σ.wNJ (σ.nJ + 1), nI σ.nJ) (σ.refuse 7)
noncomputable def o_know (σ : ai_S) (z1 z2 z3 : Int32) : ai_S × Int32 := ai_c (σ.isC z1 z2) (ai_c (z3 = -1) (σ.know (5 * ai_nn z1 + ai_nn z2) 0, nI 1) (ai_c (ai_is (σ.an (ai_nn z2)) z3) (σ.know (5 * ai_nn z1 + ai_nn z2) (ai_nn z3 + 1), nI 1) (σ.refuse 6))) (σ.refuse 1)
noncomputable def o_rest (σ : ai_S) (z1 : Int32) : ai_S × Int32 := ai_c (σ.isJ z1) (σ.rest (ai_nn z1), nI 1) (σ.refuse 1)
noncomputable def o_bar (σ : ai_S) (z1 z2 : Int32) : ai_S × Int32 := ai_c (z1 = nI 0 ∧ ai_is 1001 z2 ∧ ¬ z2 = nI 0) (σ.wMk (ai_nn z2), nI 1) (ai_c (z1 = nI 1 ∧ ai_is 25 z2 ∧ ¬ z2 = nI 0) (σ.wLk (ai_nn z2), nI 1) (ai_c (z1 = nI 2 ∧ ai_is 101 z2) (σ.wHs (ai_nn z2), nI 1) (σ.refuse 6)))
noncomputable def o_changed (σ : ai_S) (z1 : Int32) : ai_S × Int32 := ai_c (ai_is σ.st z1) (σ, nI (σ.ch (ai_nn z1))) (σ, -1)
noncomputable def o_agreed (σ : ai_S) (z1 z2 : Int32) : ai_S × Int32 := ai_c (σ.isC z1 z2) (σ, nI (σ.ag (5 * ai_nn z1 + ai_nn z2)) - 1) (σ, -1)
noncomputable def o_top (σ : ai_S) (z1 z2 z3 z4 : Int32) : ai_S × Int32 := ai_c (σ.isJ z1) (ai_c (σ.isA z2 z3) (ai_c (ai_is (σ.an (ai_nn z2)) z4) (σ, nI (σ.top (ai_nn z1) (ai_nn z2) (ai_nn z3) (ai_nn z4))) (σ, nI 0)) (σ, nI 0)) (σ, nI 0)
noncomputable def o_bottom (σ : ai_S) (z1 z2 z3 : Int32) : ai_S × Int32 := ai_c (σ.isJ z1) (ai_c (σ.isA z2 z3) (σ, nI (σ.bot (ai_nn z1) (ai_nn z2) (ai_nn z3))) (σ, nI 0)) (σ, nI 0)
noncomputable def o_looks (σ : ai_S) (z1 z2 : Int32) : ai_S × Int32 := ai_c (σ.isC z1 z2) (σ, nI (σ.look (5 * ai_nn z1 + ai_nn z2))) (σ, -1)
noncomputable def o_how (σ : ai_S) (z1 z2 z3 : Int32) : ai_S × Int32 := ai_c (σ.isJ z1) (ai_c (σ.isC z2 z3) (ai_c (σ.kd (ai_nn z1) (5 * ai_nn z2 + ai_nn z3) = 1 ∧ ¬ σ.ctd (ai_nn z1) (5 * ai_nn z2 + ai_nn z3) = true) (σ, nI 3) (σ, nI (σ.kd (ai_nn z1) (5 * ai_nn z2 + ai_nn z3)) - 1)) (σ, -1)) (σ, -1)
noncomputable def o_copied (σ : ai_S) (z1 : Int32) : ai_S × Int32 := ai_c (σ.isJ z1) (σ, nI (σ.cop (ai_nn z1)) - 1) (σ, -1)

theorem ui2_row {I I2 : Nat → Nat → Int32} {a k b l : Nat} {v u : Int32} (h : I2 = ai_ui (ai_ui I a k v) b l u) {x : Nat} (h1 : x ≠ a) (h2 : x ≠ b) : I2 x = I x := by rw [h]; simp [ai_ui, h1, h2]
theorem ul_row {I I2 : Nat → Nat → Int64} {a k : Nat} {v : Int64} (h : I2 = ai_ul I a k v) {x : Nat} (hx : x ≠ a) : I2 x = I x := by rw [h]; simp [ai_ul, hx]
theorem rx_hold (hX : ai_RX σ I L) {I2 : Nat → Nat → Int32} {s d : Nat} (hs : s < 8) (hd : d ≤ 100) (h : I2 = ai_ui (ai_ui I (55 + 2 * s) 0 (nI 0)) (55 + 2 * s) 1 (nI d - 1)) : ai_RX (σ.hold s d) I2 L := by
  refine ⟨?_, ?_, ?_, ?_, ?_, ?_, ?_, ?_, ?_, ?_, ?_, ?_, ?_, ?_, ?_, ?_, ?_, ?_, ?_, ?_, ?_, ?_, ?_, ?_, ?_, ?_, ?_⟩
  · rw [ui2_row h (by omega) (by omega)]; exact hX.nT
  · rw [ui2_row h (by omega) (by omega)]; exact hX.nQ
  · rw [ui2_row h (by omega) (by omega)]; exact hX.nJ
  · rw [ui2_row h (by omega) (by omega)]; exact hX.mk
  · rw [ui2_row h (by omega) (by omega)]; exact hX.lk
  · rw [ui2_row h (by omega) (by omega)]; exact hX.hs
  · rw [ui2_row h (by omega) (by omega)]; exact hX.st
  · intro i h0; rw [ui2_row h (by omega) (by omega)]; exact hX.ch i h0
  · intro i h0; rw [ui2_row h (by omega) (by omega)]; exact hX.rf i h0
  · intro x hx
    show I2 (55 + 2 * x) 0 = nI (if 100 < (if x = s then d else σ.hd x) then 1 else 0)
    by_cases e : x = s
    · subst e; rw [if_pos rfl, if_neg (by omega), h]; simp [ai_ui]
    · rw [if_neg e, ui2_row h (by omega) (by omega)]; exact hX.wr x hx
  · intro x hx
    show I2 (55 + 2 * x) 1 = nI (if 100 < (if x = s then d else σ.hd x) then 0 else (if x = s then d else σ.hd x)) - 1
    by_cases e : x = s
    · subst e; rw [if_pos rfl, if_neg (by omega), h]; simp [ai_ui]
    · rw [if_neg e, ui2_row h (by omega) (by omega)]; exact hX.jd x hx
  · intro x hx hq
    have hq2 : 100 < (if x = s then d else σ.hd x) := hq
    show I2 (55 + 2 * x) 2 = nI ((if x = s then d else σ.hd x) - 101)
    by_cases e : x = s
    · subst e; rw [if_pos rfl] at hq2; omega
    · rw [if_neg e] at hq2 ⊢; rw [ui2_row h (by omega) (by omega)]; exact hX.so x hx hq2
  · intro x hx
    show I2 (55 + 2 * x) 3 = nI (σ.sz x)
    by_cases e : x = s
    · subst e; rw [← hX.sz x hx, h]; simp [ai_ui]
    · rw [ui2_row h (by omega) (by omega)]; exact hX.sz x hx
  · exact hX.el
  · intro q h0 h1; rw [ui2_row h (by omega) (by omega)]; exact hX.an q h0 h1
  · intro q h0 h1 h2; rw [ui2_row h (by omega) (by omega)]; exact hX.pa q h0 h1 h2
  · intro q h0 h1 h2; rw [ui2_row h (by omega) (by omega)]; exact hX.wa q h0 h1 h2
  · intro j h0; rw [ui2_row h (by omega) (by omega)]; exact hX.lf j h0
  · intro j h0; rw [ui2_row h (by omega) (by omega)]; exact hX.gn j h0
  · intro j h0; rw [ui2_row h (by omega) (by omega)]; exact hX.sr j h0
  · intro j h0; rw [ui2_row h (by omega) (by omega)]; exact hX.og j h0
  · intro y x h0 h1 h2 h3; rw [ui2_row h (by omega) (by omega)]; exact hX.al y x h0 h1 h2 h3
  · intro j q a b h0 h1 h2 h3; rw [ui2_row h (by omega) (by omega)]; exact hX.sd j q a b h0 h1 h2 h3
  · intro j q b h0 h1 h2; rw [ui2_row h (by omega) (by omega)]; exact hX.sa j q b h0 h1 h2
  · intro c h0; rw [ui2_row h (by omega) (by omega)]; exact hX.tr c h0
  · intro c h0; rw [ui2_row h (by omega) (by omega)]; exact hX.ag c h0
  · intro c j h0 h1; rw [ui2_row h (by omega) (by omega)]; exact hX.nt c j h0 h1
theorem row_row {I2 : Nat → Nat → Int32} {s so n : Nat} (h : I2 = ai_ui (ai_ui (ai_ui (ai_ui I (55 + 2 * s) 0 (nI 1)) (55 + 2 * s) 1 (-1)) (55 + 2 * s) 2 (nI so)) (55 + 2 * s) 3 (nI n)) {x : Nat} (hx : x ≠ 55 + 2 * s) : I2 x = I x := by rw [h]; simp [ai_ui, hx]
theorem rx_row (hX : ai_RX σ I L) {I2 : Nat → Nat → Int32} {L2 : Nat → Nat → Int64} {s so n : Nat} (hs : s < 8) (hso : so < 4) (hn : n ≤ 100) (h : I2 = ai_ui (ai_ui (ai_ui (ai_ui I (55 + 2 * s) 0 (nI 1)) (55 + 2 * s) 1 (-1)) (55 + 2 * s) 2 (nI so)) (55 + 2 * s) 3 (nI n)) (hL : ∀ i, i < n → L2 (55 + 2 * s + 1) i = lN 0) (hL2 : ∀ x, x ≠ 55 + 2 * s + 1 → L2 x = L x) : ai_RX (σ.row s so n) I2 L2 := by
  refine ⟨?_, ?_, ?_, ?_, ?_, ?_, ?_, ?_, ?_, ?_, ?_, ?_, ?_, ?_, ?_, ?_, ?_, ?_, ?_, ?_, ?_, ?_, ?_, ?_, ?_, ?_, ?_⟩
  · rw [row_row h (by omega)]; exact hX.nT
  · rw [row_row h (by omega)]; exact hX.nQ
  · rw [row_row h (by omega)]; exact hX.nJ
  · rw [row_row h (by omega)]; exact hX.mk
  · rw [row_row h (by omega)]; exact hX.lk
  · rw [row_row h (by omega)]; exact hX.hs
  · rw [row_row h (by omega)]; exact hX.st
  · intro i h0; rw [row_row h (by omega)]; exact hX.ch i h0
  · intro i h0; rw [row_row h (by omega)]; exact hX.rf i h0
  · intro x hx
    show I2 (55 + 2 * x) 0 = nI (if 100 < (if x = s then 101 + so else σ.hd x) then 1 else 0)
    by_cases e : x = s
    · subst e; rw [if_pos rfl, if_pos (by omega), h]; simp [ai_ui]
    · rw [if_neg e, row_row h (by omega)]; exact hX.wr x hx
  · intro x hx
    show I2 (55 + 2 * x) 1 = nI (if 100 < (if x = s then 101 + so else σ.hd x) then 0 else (if x = s then 101 + so else σ.hd x)) - 1
    by_cases e : x = s
    · subst e; rw [if_pos rfl, if_pos (by omega), h]; simp [ai_ui]; rfl
    · rw [if_neg e, row_row h (by omega)]; exact hX.jd x hx
  · intro x hx hq
    have hq2 : 100 < (if x = s then 101 + so else σ.hd x) := hq
    show I2 (55 + 2 * x) 2 = nI ((if x = s then 101 + so else σ.hd x) - 101)
    by_cases e : x = s
    · subst e; rw [if_pos rfl, h, show 101 + so - 101 = so by omega]; simp [ai_ui]
    · rw [if_neg e] at hq2 ⊢; rw [row_row h (by omega)]; exact hX.so x hx hq2
  · intro x hx
    show I2 (55 + 2 * x) 3 = nI (if x = s then n else σ.sz x)
    by_cases e : x = s
    · subst e; rw [if_pos rfl, h]; simp [ai_ui]
    · rw [if_neg e, row_row h (by omega)]; exact hX.sz x hx
  · intro x hx i hi
    have hi2 : i < (if x = s then n else σ.sz x) := hi
    show L2 (55 + 2 * x + 1) i = (if x = s then lN 0 else σ.el x i)
    by_cases e : x = s
    · subst e; rw [if_pos rfl] at hi2 ⊢; exact hL i hi2
    · rw [if_neg e] at hi2 ⊢; rw [hL2 _ (by omega)]; exact hX.el x hx i hi2
  · intro q h0 h1; rw [row_row h (by omega)]; exact hX.an q h0 h1
  · intro q h0 h1 h2; rw [row_row h (by omega)]; exact hX.pa q h0 h1 h2
  · intro q h0 h1 h2; rw [row_row h (by omega)]; exact hX.wa q h0 h1 h2
  · intro j h0; rw [row_row h (by omega)]; exact hX.lf j h0
  · intro j h0; rw [row_row h (by omega)]; exact hX.gn j h0
  · intro j h0; rw [row_row h (by omega)]; exact hX.sr j h0
  · intro j h0; rw [row_row h (by omega)]; exact hX.og j h0
  · intro y x h0 h1 h2 h3; rw [row_row h (by omega)]; exact hX.al y x h0 h1 h2 h3
  · intro j q a b h0 h1 h2 h3; rw [row_row h (by omega)]; exact hX.sd j q a b h0 h1 h2 h3
  · intro j q b h0 h1 h2; rw [row_row h (by omega)]; exact hX.sa j q b h0 h1 h2
  · intro c h0; rw [row_row h (by omega)]; exact hX.tr c h0
  · intro c h0; rw [row_row h (by omega)]; exact hX.ag c h0
  · intro c j h0 h1; rw [row_row h (by omega)]; exact hX.nt c j h0 h1
theorem rx_L {σ2 : ai_S} (hX : ai_RX σ I L) {L2 : Nat → Nat → Int64} {g : Nat → Nat → Int64} (e : σ2 = σ.wEl g) (h : ∀ s, s < 8 → ∀ i, i < σ.sz s → L2 (55 + 2 * s + 1) i = g s i) : ai_RX σ2 I L2 := by
  subst e
  exact ⟨hX.nT, hX.nQ, hX.nJ, hX.mk, hX.lk, hX.hs, hX.st, hX.ch, hX.rf, hX.wr, hX.jd, hX.so, hX.sz, h, hX.an, hX.pa, hX.wa, hX.lf, hX.gn, hX.sr, hX.og, hX.al, hX.sd, hX.sa, hX.tr, hX.ag, hX.nt⟩
theorem rx_know (hX : ai_RX σ I L) {I2 : Nat → Nat → Int32} {c b : Nat} (hc : c < 200) (h : I2 = ai_ui I (172 + 2 * c) 0 (nI b - 1)) : ai_RX (σ.know c b) I2 L := by
  refine ⟨?_, ?_, ?_, ?_, ?_, ?_, ?_, ?_, ?_, ?_, ?_, ?_, ?_, ?_, ?_, ?_, ?_, ?_, ?_, ?_, ?_, ?_, ?_, ?_, ?_, ?_, ?_⟩
  · rw [ui_other h (by omega)]; exact hX.nT
  · rw [ui_other h (by omega)]; exact hX.nQ
  · rw [ui_other h (by omega)]; exact hX.nJ
  · rw [ui_other h (by omega)]; exact hX.mk
  · rw [ui_other h (by omega)]; exact hX.lk
  · rw [ui_other h (by omega)]; exact hX.hs
  · rw [ui_other h (by omega)]; exact hX.st
  · intro i h0; rw [ui_other h (by omega)]; exact hX.ch i h0
  · intro i h0; rw [ui_other h (by omega)]; exact hX.rf i h0
  · intro s h0; rw [ui_other h (by omega)]; exact hX.wr s h0
  · intro s h0; rw [ui_other h (by omega)]; exact hX.jd s h0
  · intro s h0 h1; rw [ui_other h (by omega)]; exact hX.so s h0 h1
  · intro s h0; rw [ui_other h (by omega)]; exact hX.sz s h0
  · exact hX.el
  · intro q h0 h1; rw [ui_other h (by omega)]; exact hX.an q h0 h1
  · intro q h0 h1 h2; rw [ui_other h (by omega)]; exact hX.pa q h0 h1 h2
  · intro q h0 h1 h2; rw [ui_other h (by omega)]; exact hX.wa q h0 h1 h2
  · intro j h0; rw [ui_other h (by omega)]; exact hX.lf j h0
  · intro j h0; rw [ui_other h (by omega)]; exact hX.gn j h0
  · intro j h0; rw [ui_other h (by omega)]; exact hX.sr j h0
  · intro j h0; rw [ui_other h (by omega)]; exact hX.og j h0
  · intro y x h0 h1 h2 h3; rw [ui_other h (by omega)]; exact hX.al y x h0 h1 h2 h3
  · intro j q a b h0 h1 h2 h3; rw [ui_other h (by omega)]; exact hX.sd j q a b h0 h1 h2 h3
  · intro j q b h0 h1 h2; rw [ui_other h (by omega)]; exact hX.sa j q b h0 h1 h2
  · intro x hx
    show I2 (172 + 2 * x) 0 = nI (if x = c then b else σ.tr x) - 1
    by_cases e : x = c
    · subst e; rw [if_pos rfl]; exact ui_same h
    · rw [if_neg e, ui_other h (by omega)]; exact hX.tr x hx
  · intro c h0; rw [ui_other h (by omega)]; exact hX.ag c h0
  · intro c j h0 h1; rw [ui_other h (by omega)]; exact hX.nt c j h0 h1
theorem rx_rest (hX : ai_RX σ I L) {I2 : Nat → Nat → Int32} {j : Nat} (hj : j < 24) (h : I2 = ai_ui I (76 + 4 * j) 2 (nI 0)) : ai_RX (σ.rest j) I2 L := by
  refine ⟨?_, ?_, ?_, ?_, ?_, ?_, ?_, ?_, ?_, ?_, ?_, ?_, ?_, ?_, ?_, ?_, ?_, ?_, ?_, ?_, ?_, ?_, ?_, ?_, ?_, ?_, ?_⟩
  · rw [ui_other h (by omega)]; exact hX.nT
  · rw [ui_other h (by omega)]; exact hX.nQ
  · rw [ui_other h (by omega)]; exact hX.nJ
  · rw [ui_other h (by omega)]; exact hX.mk
  · rw [ui_other h (by omega)]; exact hX.lk
  · rw [ui_other h (by omega)]; exact hX.hs
  · rw [ui_other h (by omega)]; exact hX.st
  · intro i h0; rw [ui_other h (by omega)]; exact hX.ch i h0
  · intro i h0; rw [ui_other h (by omega)]; exact hX.rf i h0
  · intro s h0; rw [ui_other h (by omega)]; exact hX.wr s h0
  · intro s h0; rw [ui_other h (by omega)]; exact hX.jd s h0
  · intro s h0 h1; rw [ui_other h (by omega)]; exact hX.so s h0 h1
  · intro s h0; rw [ui_other h (by omega)]; exact hX.sz s h0
  · exact hX.el
  · intro q h0 h1; rw [ui_other h (by omega)]; exact hX.an q h0 h1
  · intro q h0 h1 h2; rw [ui_other h (by omega)]; exact hX.pa q h0 h1 h2
  · intro q h0 h1 h2; rw [ui_other h (by omega)]; exact hX.wa q h0 h1 h2
  · intro j h0; rw [ui_other h (by omega)]; exact hX.lf j h0
  · intro j h0; rw [ui_other h (by omega)]; exact hX.gn j h0
  · intro x hx
    show I2 (76 + 4 * x) 2 = (if x = j then nI 0 else σ.sr x)
    by_cases e : x = j
    · subst e; rw [if_pos rfl]; exact ui_same h
    · rw [if_neg e, ui_other h (by omega)]; exact hX.sr x hx
  · intro j h0; rw [ui_other h (by omega)]; exact hX.og j h0
  · intro y x h0 h1 h2 h3; rw [ui_other h (by omega)]; exact hX.al y x h0 h1 h2 h3
  · intro j q a b h0 h1 h2 h3; rw [ui_other h (by omega)]; exact hX.sd j q a b h0 h1 h2 h3
  · intro j q b h0 h1 h2; rw [ui_other h (by omega)]; exact hX.sa j q b h0 h1 h2
  · intro c h0; rw [ui_other h (by omega)]; exact hX.tr c h0
  · intro c h0; rw [ui_other h (by omega)]; exact hX.ag c h0
  · intro c j h0 h1; rw [ui_other h (by omega)]; exact hX.nt c j h0 h1
theorem rx_things (hX : ai_RX σ I L) {I2 : Nat → Nat → Int32} {n : Nat} (h : I2 = ai_ui I 1 4 (nI n)) : ai_RX (σ.wNT n) I2 L := by
  refine ⟨?_, ?_, ?_, ?_, ?_, ?_, ?_, ?_, ?_, ?_, ?_, ?_, ?_, ?_, ?_, ?_, ?_, ?_, ?_, ?_, ?_, ?_, ?_, ?_, ?_, ?_, ?_⟩
  · exact ui_same h
  · rw [ui_other h (by omega)]; exact hX.nQ
  · rw [ui_other h (by omega)]; exact hX.nJ
  · rw [ui_other h (by omega)]; exact hX.mk
  · rw [ui_other h (by omega)]; exact hX.lk
  · rw [ui_other h (by omega)]; exact hX.hs
  · rw [ui_other h (by omega)]; exact hX.st
  · intro i h0; rw [ui_other h (by omega)]; exact hX.ch i h0
  · intro i h0; rw [ui_other h (by omega)]; exact hX.rf i h0
  · intro s h0; rw [ui_other h (by omega)]; exact hX.wr s h0
  · intro s h0; rw [ui_other h (by omega)]; exact hX.jd s h0
  · intro s h0 h1; rw [ui_other h (by omega)]; exact hX.so s h0 h1
  · intro s h0; rw [ui_other h (by omega)]; exact hX.sz s h0
  · exact hX.el
  · intro q h0 h1; rw [ui_other h (by omega)]; exact hX.an q h0 h1
  · intro q h0 h1 h2; rw [ui_other h (by omega)]; exact hX.pa q h0 h1 h2
  · intro q h0 h1 h2; rw [ui_other h (by omega)]; exact hX.wa q h0 h1 h2
  · intro j h0; rw [ui_other h (by omega)]; exact hX.lf j h0
  · intro j h0; rw [ui_other h (by omega)]; exact hX.gn j h0
  · intro j h0; rw [ui_other h (by omega)]; exact hX.sr j h0
  · intro j h0; rw [ui_other h (by omega)]; exact hX.og j h0
  · intro y x h0 h1 h2 h3; rw [ui_other h (by omega)]; exact hX.al y x h0 h1 h2 h3
  · intro j q a b h0 h1 h2 h3; rw [ui_other h (by omega)]; exact hX.sd j q a b h0 h1 h2 h3
  · intro j q b h0 h1 h2; rw [ui_other h (by omega)]; exact hX.sa j q b h0 h1 h2
  · intro c h0; rw [ui_other h (by omega)]; exact hX.tr c h0
  · intro c h0; rw [ui_other h (by omega)]; exact hX.ag c h0
  · intro c j h0 h1; rw [ui_other h (by omega)]; exact hX.nt c j h0 h1
theorem rx_judge (hX : ai_RX σ I L) {I2 : Nat → Nat → Int32} {n : Nat} (h : I2 = ai_ui I 1 6 (nI n)) : ai_RX (σ.wNJ n) I2 L := by
  refine ⟨?_, ?_, ?_, ?_, ?_, ?_, ?_, ?_, ?_, ?_, ?_, ?_, ?_, ?_, ?_, ?_, ?_, ?_, ?_, ?_, ?_, ?_, ?_, ?_, ?_, ?_, ?_⟩
  · rw [ui_other h (by omega)]; exact hX.nT
  · rw [ui_other h (by omega)]; exact hX.nQ
  · exact ui_same h
  · rw [ui_other h (by omega)]; exact hX.mk
  · rw [ui_other h (by omega)]; exact hX.lk
  · rw [ui_other h (by omega)]; exact hX.hs
  · rw [ui_other h (by omega)]; exact hX.st
  · intro i h0; rw [ui_other h (by omega)]; exact hX.ch i h0
  · intro i h0; rw [ui_other h (by omega)]; exact hX.rf i h0
  · intro s h0; rw [ui_other h (by omega)]; exact hX.wr s h0
  · intro s h0; rw [ui_other h (by omega)]; exact hX.jd s h0
  · intro s h0 h1; rw [ui_other h (by omega)]; exact hX.so s h0 h1
  · intro s h0; rw [ui_other h (by omega)]; exact hX.sz s h0
  · exact hX.el
  · intro q h0 h1; rw [ui_other h (by omega)]; exact hX.an q h0 h1
  · intro q h0 h1 h2; rw [ui_other h (by omega)]; exact hX.pa q h0 h1 h2
  · intro q h0 h1 h2; rw [ui_other h (by omega)]; exact hX.wa q h0 h1 h2
  · intro j h0; rw [ui_other h (by omega)]; exact hX.lf j h0
  · intro j h0; rw [ui_other h (by omega)]; exact hX.gn j h0
  · intro j h0; rw [ui_other h (by omega)]; exact hX.sr j h0
  · intro j h0; rw [ui_other h (by omega)]; exact hX.og j h0
  · intro y x h0 h1 h2 h3; rw [ui_other h (by omega)]; exact hX.al y x h0 h1 h2 h3
  · intro j q a b h0 h1 h2 h3; rw [ui_other h (by omega)]; exact hX.sd j q a b h0 h1 h2 h3
  · intro j q b h0 h1 h2; rw [ui_other h (by omega)]; exact hX.sa j q b h0 h1 h2
  · intro c h0; rw [ui_other h (by omega)]; exact hX.tr c h0
  · intro c h0; rw [ui_other h (by omega)]; exact hX.ag c h0
  · intro c j h0 h1; rw [ui_other h (by omega)]; exact hX.nt c j h0 h1
theorem rx_mark (hX : ai_RX σ I L) {I2 : Nat → Nat → Int32} {n : Nat} (h : I2 = ai_ui I 1 7 (nI n)) : ai_RX (σ.wMk n) I2 L := by
  refine ⟨?_, ?_, ?_, ?_, ?_, ?_, ?_, ?_, ?_, ?_, ?_, ?_, ?_, ?_, ?_, ?_, ?_, ?_, ?_, ?_, ?_, ?_, ?_, ?_, ?_, ?_, ?_⟩
  · rw [ui_other h (by omega)]; exact hX.nT
  · rw [ui_other h (by omega)]; exact hX.nQ
  · rw [ui_other h (by omega)]; exact hX.nJ
  · exact ui_same h
  · rw [ui_other h (by omega)]; exact hX.lk
  · rw [ui_other h (by omega)]; exact hX.hs
  · rw [ui_other h (by omega)]; exact hX.st
  · intro i h0; rw [ui_other h (by omega)]; exact hX.ch i h0
  · intro i h0; rw [ui_other h (by omega)]; exact hX.rf i h0
  · intro s h0; rw [ui_other h (by omega)]; exact hX.wr s h0
  · intro s h0; rw [ui_other h (by omega)]; exact hX.jd s h0
  · intro s h0 h1; rw [ui_other h (by omega)]; exact hX.so s h0 h1
  · intro s h0; rw [ui_other h (by omega)]; exact hX.sz s h0
  · exact hX.el
  · intro q h0 h1; rw [ui_other h (by omega)]; exact hX.an q h0 h1
  · intro q h0 h1 h2; rw [ui_other h (by omega)]; exact hX.pa q h0 h1 h2
  · intro q h0 h1 h2; rw [ui_other h (by omega)]; exact hX.wa q h0 h1 h2
  · intro j h0; rw [ui_other h (by omega)]; exact hX.lf j h0
  · intro j h0; rw [ui_other h (by omega)]; exact hX.gn j h0
  · intro j h0; rw [ui_other h (by omega)]; exact hX.sr j h0
  · intro j h0; rw [ui_other h (by omega)]; exact hX.og j h0
  · intro y x h0 h1 h2 h3; rw [ui_other h (by omega)]; exact hX.al y x h0 h1 h2 h3
  · intro j q a b h0 h1 h2 h3; rw [ui_other h (by omega)]; exact hX.sd j q a b h0 h1 h2 h3
  · intro j q b h0 h1 h2; rw [ui_other h (by omega)]; exact hX.sa j q b h0 h1 h2
  · intro c h0; rw [ui_other h (by omega)]; exact hX.tr c h0
  · intro c h0; rw [ui_other h (by omega)]; exact hX.ag c h0
  · intro c j h0 h1; rw [ui_other h (by omega)]; exact hX.nt c j h0 h1
theorem rx_look (hX : ai_RX σ I L) {I2 : Nat → Nat → Int32} {n : Nat} (h : I2 = ai_ui I 1 8 (nI n)) : ai_RX (σ.wLk n) I2 L := by
  refine ⟨?_, ?_, ?_, ?_, ?_, ?_, ?_, ?_, ?_, ?_, ?_, ?_, ?_, ?_, ?_, ?_, ?_, ?_, ?_, ?_, ?_, ?_, ?_, ?_, ?_, ?_, ?_⟩
  · rw [ui_other h (by omega)]; exact hX.nT
  · rw [ui_other h (by omega)]; exact hX.nQ
  · rw [ui_other h (by omega)]; exact hX.nJ
  · rw [ui_other h (by omega)]; exact hX.mk
  · exact ui_same h
  · rw [ui_other h (by omega)]; exact hX.hs
  · rw [ui_other h (by omega)]; exact hX.st
  · intro i h0; rw [ui_other h (by omega)]; exact hX.ch i h0
  · intro i h0; rw [ui_other h (by omega)]; exact hX.rf i h0
  · intro s h0; rw [ui_other h (by omega)]; exact hX.wr s h0
  · intro s h0; rw [ui_other h (by omega)]; exact hX.jd s h0
  · intro s h0 h1; rw [ui_other h (by omega)]; exact hX.so s h0 h1
  · intro s h0; rw [ui_other h (by omega)]; exact hX.sz s h0
  · exact hX.el
  · intro q h0 h1; rw [ui_other h (by omega)]; exact hX.an q h0 h1
  · intro q h0 h1 h2; rw [ui_other h (by omega)]; exact hX.pa q h0 h1 h2
  · intro q h0 h1 h2; rw [ui_other h (by omega)]; exact hX.wa q h0 h1 h2
  · intro j h0; rw [ui_other h (by omega)]; exact hX.lf j h0
  · intro j h0; rw [ui_other h (by omega)]; exact hX.gn j h0
  · intro j h0; rw [ui_other h (by omega)]; exact hX.sr j h0
  · intro j h0; rw [ui_other h (by omega)]; exact hX.og j h0
  · intro y x h0 h1 h2 h3; rw [ui_other h (by omega)]; exact hX.al y x h0 h1 h2 h3
  · intro j q a b h0 h1 h2 h3; rw [ui_other h (by omega)]; exact hX.sd j q a b h0 h1 h2 h3
  · intro j q b h0 h1 h2; rw [ui_other h (by omega)]; exact hX.sa j q b h0 h1 h2
  · intro c h0; rw [ui_other h (by omega)]; exact hX.tr c h0
  · intro c h0; rw [ui_other h (by omega)]; exact hX.ag c h0
  · intro c j h0 h1; rw [ui_other h (by omega)]; exact hX.nt c j h0 h1
theorem rx_haste (hX : ai_RX σ I L) {I2 : Nat → Nat → Int32} {n : Nat} (h : I2 = ai_ui I 1 9 (nI n)) : ai_RX (σ.wHs n) I2 L := by
  refine ⟨?_, ?_, ?_, ?_, ?_, ?_, ?_, ?_, ?_, ?_, ?_, ?_, ?_, ?_, ?_, ?_, ?_, ?_, ?_, ?_, ?_, ?_, ?_, ?_, ?_, ?_, ?_⟩
  · rw [ui_other h (by omega)]; exact hX.nT
  · rw [ui_other h (by omega)]; exact hX.nQ
  · rw [ui_other h (by omega)]; exact hX.nJ
  · rw [ui_other h (by omega)]; exact hX.mk
  · rw [ui_other h (by omega)]; exact hX.lk
  · exact ui_same h
  · rw [ui_other h (by omega)]; exact hX.st
  · intro i h0; rw [ui_other h (by omega)]; exact hX.ch i h0
  · intro i h0; rw [ui_other h (by omega)]; exact hX.rf i h0
  · intro s h0; rw [ui_other h (by omega)]; exact hX.wr s h0
  · intro s h0; rw [ui_other h (by omega)]; exact hX.jd s h0
  · intro s h0 h1; rw [ui_other h (by omega)]; exact hX.so s h0 h1
  · intro s h0; rw [ui_other h (by omega)]; exact hX.sz s h0
  · exact hX.el
  · intro q h0 h1; rw [ui_other h (by omega)]; exact hX.an q h0 h1
  · intro q h0 h1 h2; rw [ui_other h (by omega)]; exact hX.pa q h0 h1 h2
  · intro q h0 h1 h2; rw [ui_other h (by omega)]; exact hX.wa q h0 h1 h2
  · intro j h0; rw [ui_other h (by omega)]; exact hX.lf j h0
  · intro j h0; rw [ui_other h (by omega)]; exact hX.gn j h0
  · intro j h0; rw [ui_other h (by omega)]; exact hX.sr j h0
  · intro j h0; rw [ui_other h (by omega)]; exact hX.og j h0
  · intro y x h0 h1 h2 h3; rw [ui_other h (by omega)]; exact hX.al y x h0 h1 h2 h3
  · intro j q a b h0 h1 h2 h3; rw [ui_other h (by omega)]; exact hX.sd j q a b h0 h1 h2 h3
  · intro j q b h0 h1 h2; rw [ui_other h (by omega)]; exact hX.sa j q b h0 h1 h2
  · intro c h0; rw [ui_other h (by omega)]; exact hX.tr c h0
  · intro c h0; rw [ui_other h (by omega)]; exact hX.ag c h0
  · intro c j h0 h1; rw [ui_other h (by omega)]; exact hX.nt c j h0 h1
theorem quest_row {I2 : Nat → Nat → Int32} {n : Nat} {u v : Int32} (h : I2 = ai_ui (ai_ui (ai_ui (ai_ui I (71 + σ.nQ) 0 (nI n)) (71 + σ.nQ) 1 u) (71 + σ.nQ) 2 v) 1 5 (nI (σ.nQ + 1))) {x : Nat} (h1 : x ≠ 71 + σ.nQ) (h2 : x ≠ 1) : I2 x = I x := by rw [h]; simp [ai_ui, h1, h2]
theorem quest_one {I2 : Nat → Nat → Int32} {n : Nat} {u v : Int32} (h : I2 = ai_ui (ai_ui (ai_ui (ai_ui I (71 + σ.nQ) 0 (nI n)) (71 + σ.nQ) 1 u) (71 + σ.nQ) 2 v) 1 5 (nI (σ.nQ + 1))) {k : Nat} (h2 : k ≠ 5) : I2 1 k = I 1 k := by
  have e : ¬ 1 = 71 + σ.nQ := by omega
  rw [h]; simp [ai_ui, h2, e]
theorem rx_quest (hX : ai_RX σ I L) {I2 : Nat → Nat → Int32} {n p w : Nat} {u v : Int32} (hq : σ.nQ < 5) (hu : 0 < σ.nQ → u = nI p ∧ v = nI w) (h : I2 = ai_ui (ai_ui (ai_ui (ai_ui I (71 + σ.nQ) 0 (nI n)) (71 + σ.nQ) 1 u) (71 + σ.nQ) 2 v) 1 5 (nI (σ.nQ + 1))) : ai_RX (σ.quest n p w) I2 L := by
  refine ⟨?_, ?_, ?_, ?_, ?_, ?_, ?_, ?_, ?_, ?_, ?_, ?_, ?_, ?_, ?_, ?_, ?_, ?_, ?_, ?_, ?_, ?_, ?_, ?_, ?_, ?_, ?_⟩
  · rw [quest_one h (by omega)]; exact hX.nT
  · rw [h]; simp [ai_ui]; rfl
  · rw [quest_one h (by omega)]; exact hX.nJ
  · rw [quest_one h (by omega)]; exact hX.mk
  · rw [quest_one h (by omega)]; exact hX.lk
  · rw [quest_one h (by omega)]; exact hX.hs
  · rw [quest_one h (by omega)]; exact hX.st
  · intro i h0; rw [quest_row h (by omega) (by omega)]; exact hX.ch i h0
  · intro i h0; rw [quest_row h (by omega) (by omega)]; exact hX.rf i h0
  · intro s h0; rw [quest_row h (by omega) (by omega)]; exact hX.wr s h0
  · intro s h0; rw [quest_row h (by omega) (by omega)]; exact hX.jd s h0
  · intro s h0 h1; rw [quest_row h (by omega) (by omega)]; exact hX.so s h0 h1
  · intro s h0; rw [quest_row h (by omega) (by omega)]; exact hX.sz s h0
  · exact hX.el
  · intro q hq h0
    show I2 (71 + q) 0 = nI (if q = σ.nQ then n else σ.an q)
    by_cases e : q = σ.nQ
    · subst e; rw [if_pos rfl, h]; simp [ai_ui, show ¬ 71 + σ.nQ = 1 by omega]
    · have hq2 : q < σ.nQ + 1 := h0
      rw [if_neg e, h]
      have e2 : ¬ 71 + q = 71 + σ.nQ := by omega
      have e3 : ¬ 71 + q = 1 := by omega
      simp only [ai_ui, e2, e3, if_false]
      exact hX.an q hq (by omega)
  · intro q hq h0 h1
    show I2 (71 + q) 1 = nI (if q = σ.nQ then p else σ.pa q)
    by_cases e : q = σ.nQ
    · subst e; rw [if_pos rfl, h]; simp [ai_ui, show ¬ 71 + σ.nQ = 1 by omega]; exact (hu h0).1
    · have hq2 : q < σ.nQ + 1 := h1
      rw [if_neg e, h]
      have e2 : ¬ 71 + q = 71 + σ.nQ := by omega
      have e3 : ¬ 71 + q = 1 := by omega
      simp only [ai_ui, e2, e3, if_false]
      exact hX.pa q hq h0 (by omega)
  · intro q hq h0 h1
    show I2 (71 + q) 2 = nI (if q = σ.nQ then w else σ.wa q)
    by_cases e : q = σ.nQ
    · subst e; rw [if_pos rfl, h]; simp [ai_ui, show ¬ 71 + σ.nQ = 1 by omega]; exact (hu h0).2
    · have hq2 : q < σ.nQ + 1 := h1
      rw [if_neg e, h]
      have e2 : ¬ 71 + q = 71 + σ.nQ := by omega
      have e3 : ¬ 71 + q = 1 := by omega
      simp only [ai_ui, e2, e3, if_false]
      exact hX.wa q hq h0 (by omega)
  · intro j h0; rw [quest_row h (by omega) (by omega)]; exact hX.lf j h0
  · intro j h0; rw [quest_row h (by omega) (by omega)]; exact hX.gn j h0
  · intro j h0; rw [quest_row h (by omega) (by omega)]; exact hX.sr j h0
  · intro j h0; rw [quest_row h (by omega) (by omega)]; exact hX.og j h0
  · intro y x h0 h1 h2 h3; rw [quest_row h (by omega) (by omega)]; exact hX.al y x h0 h1 h2 h3
  · intro j q a b h0 h1 h2 h3; rw [quest_row h (by omega) (by omega)]; exact hX.sd j q a b h0 h1 h2 h3
  · intro j q b h0 h1 h2; rw [quest_row h (by omega) (by omega)]; exact hX.sa j q b h0 h1 h2
  · intro c h0; rw [quest_row h (by omega) (by omega)]; exact hX.tr c h0
  · intro c h0; rw [quest_row h (by omega) (by omega)]; exact hX.ag c h0
  · intro c j h0 h1; rw [quest_row h (by omega) (by omega)]; exact hX.nt c j h0 h1
end OPS
