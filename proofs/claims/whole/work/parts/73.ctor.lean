section NEWR
variable {X : Option (Nat × (Nat → Int32))} {y pc : Nat} {ls : ai_L} {st : List Value} {S : List (Nat × Nat)} {I : Nat → Nat → Int32} {L : Nat → Nat → Int64} {F : Nat → Nat → Option Nat} {Q : Option Value → ai_H → Prop}
theorem ss_app (S : List (Nat × Nat)) (x : Nat × Nat) : S.length ≤ (S ++ [x]).length ∧ ai_ss S ≤ ai_ss (S ++ [x]) := ⟨by simp, by simp [ai_ss]⟩
theorem ln_s {m : Nat} {x : Nat × Nat} (h : S.length = m) : (S ++ [x]).length = m + 1 := by rw [List.length_append, h]; rfl
theorem ap_l {a : Nat} {s x : Nat × Nat} (h : S[a]? = some s) : (S ++ [x])[a]? = some s := by
  obtain ⟨h1, h2⟩ := List.getElem?_eq_some_iff.mp h
  rw [List.getElem?_append_left h1]; exact h
theorem ap_n {m : Nat} {x : Nat × Nat} (h : S.length = m) : (S ++ [x])[m]? = some x := by
  subst h; simp
theorem ev_new (pc2 : Nat) (hp : pc + 3 = pc2) {k b : Nat} (ci : Nat) (hd : decode (ai_b y) pc = .ok (.new k, 3)) (hc : (ai_cn (ai_oc y) k).map (fun c => c.2) = some ci) (hl : S.length = b) (hk : ai_Ev X y pc2 ls (.ref b :: st) (S ++ [(ci, 0)], ai_row I b (fun _ => 0), L, ai_row F b (fun _ => none)) Q) : ai_Ev X y pc ls st (S, I, L, F) Q := by
  subst hp; subst hl
  obtain ⟨t, ht, ht2⟩ := Option.map_eq_some_iff.mp hc
  exact ai_Ev_step (h' := (S ++ [(ci, 0)], ai_row I S.length (fun _ => 0), L, ai_row F S.length (fun _ => none))) hd (by simp only [ai_op, ai_o2, ht]; refine (ai_if_pos (ai_ocL_lt y)).trans ?_; simp [ai_nx, ht2]) (ss_app _ _) hk
theorem mx_n {n : Nat} (h1 : 1 ≤ n) (h2 : n ≤ 60000000) : (if nI n < nI 1 then nI 1 else nI n) = nI n := by
  rw [if_neg]
  rw [Int32.lt_iff_toInt_lt, nI_ti (by omega), nI_ti (by omega)]; omega
theorem nw_in {n : Nat} (h : n ≤ 60000000) : ¬ nI n < 0 ∧ (nI n).toNatClampNeg ≤ 60000000 := by
  rw [nI_clamp (by omega), Int32.lt_iff_toInt_lt, nI_ti (by omega)]
  exact ⟨by show ¬ ((n : Int) < 0); omega, h⟩
theorem ev_nwi (pc2 : Nat) (hp : pc + 2 = pc2) {n b : Nat} (hd : decode (ai_b y) pc = .ok (.newarray .int, 2)) (hn : n ≤ 60000000) (hl : S.length = b) (hk : ai_Ev X y pc2 ls (.ref b :: st) (S ++ [(100, n)], ai_row I b (fun _ => 0), ai_row L b (fun _ => 0), F) Q) : ai_Ev X y pc ls (.int (nI n) :: st) (S, I, L, F) Q := by
  subst hp; subst hl
  exact ai_Ev_step (h' := (S ++ [(100, n)], ai_row I S.length (fun _ => 0), ai_row L S.length (fun _ => 0), F)) hd (by simp only [ai_op, ai_i1]; refine (ai_if_pos ⟨by decide, nw_in hn⟩).trans ?_; rw [nI_clamp (by omega)]; simp [ai_nx]) (ss_app _ _) hk
theorem ev_nwb (pc2 : Nat) (hp : pc + 2 = pc2) {n b : Nat} (hd : decode (ai_b y) pc = .ok (.newarray .byte, 2)) (hn : n ≤ 60000000) (hl : S.length = b) (hk : ai_Ev X y pc2 ls (.ref b :: st) (S ++ [(101, n)], ai_row I b (fun _ => 0), ai_row L b (fun _ => 0), F) Q) : ai_Ev X y pc ls (.int (nI n) :: st) (S, I, L, F) Q := by
  subst hp; subst hl
  exact ai_Ev_step (h' := (S ++ [(101, n)], ai_row I S.length (fun _ => 0), ai_row L S.length (fun _ => 0), F)) hd (by simp only [ai_op, ai_i1]; refine (ai_if_pos ⟨by decide, nw_in hn⟩).trans ?_; rw [nI_clamp (by omega)]; simp [ai_nx]) (ss_app _ _) hk
theorem ev_nwz (pc2 : Nat) (hp : pc + 2 = pc2) {n b : Nat} (hd : decode (ai_b y) pc = .ok (.newarray .boolean, 2)) (hn : n ≤ 60000000) (hl : S.length = b) (hk : ai_Ev X y pc2 ls (.ref b :: st) (S ++ [(102, n)], ai_row I b (fun _ => 0), ai_row L b (fun _ => 0), F) Q) : ai_Ev X y pc ls (.int (nI n) :: st) (S, I, L, F) Q := by
  subst hp; subst hl
  exact ai_Ev_step (h' := (S ++ [(102, n)], ai_row I S.length (fun _ => 0), ai_row L S.length (fun _ => 0), F)) hd (by simp only [ai_op, ai_i1]; refine (ai_if_pos ⟨by decide, nw_in hn⟩).trans ?_; rw [nI_clamp (by omega)]; simp [ai_nx]) (ss_app _ _) hk
theorem ev_nwl (pc2 : Nat) (hp : pc + 2 = pc2) {n b : Nat} (hd : decode (ai_b y) pc = .ok (.newarray .long, 2)) (hn : n ≤ 60000000) (hl : S.length = b) (hk : ai_Ev X y pc2 ls (.ref b :: st) (S ++ [(103, n)], ai_row I b (fun _ => 0), ai_row L b (fun _ => 0), F) Q) : ai_Ev X y pc ls (.int (nI n) :: st) (S, I, L, F) Q := by
  subst hp; subst hl
  exact ai_Ev_step (h' := (S ++ [(103, n)], ai_row I S.length (fun _ => 0), ai_row L S.length (fun _ => 0), F)) hd (by simp only [ai_op, ai_i1]; refine (ai_if_pos ⟨by decide, nw_in hn⟩).trans ?_; rw [nI_clamp (by omega)]; simp [ai_nx]) (ss_app _ _) hk
theorem ev_nr104 (pc2 : Nat) (hp : pc + 3 = pc2) {k n b : Nat} (hd : decode (ai_b y) pc = .ok (.anewarray k, 3)) (hc : (ai_cn (ai_oc y) k).map (fun c => c.2) = some 6) (hn : n ≤ 60000000) (hl : S.length = b) (hk : ai_Ev X y pc2 ls (.ref b :: st) (S ++ [(104, n)], I, L, ai_row F b (fun _ => none)) Q) : ai_Ev X y pc ls (.int (nI n) :: st) (S, I, L, F) Q := by
  subst hp; subst hl
  obtain ⟨c, ht, ht2⟩ := Option.map_eq_some_iff.mp hc
  exact ai_Ev_step (h' := (S ++ [(104, n)], I, L, ai_row F S.length (fun _ => none))) hd (by simp only [ai_op, ai_i1, ai_o2, ht, ht2]; refine (ai_if_pos ⟨ai_ocL_lt y, by decide, nw_in hn⟩).trans ?_; rw [nI_clamp (by omega)]; simp [ai_nx]) (ss_app _ _) hk
theorem ev_nr105 (pc2 : Nat) (hp : pc + 3 = pc2) {k n b : Nat} (hd : decode (ai_b y) pc = .ok (.anewarray k, 3)) (hc : (ai_cn (ai_oc y) k).map (fun c => c.2) = some 4) (hn : n ≤ 60000000) (hl : S.length = b) (hk : ai_Ev X y pc2 ls (.ref b :: st) (S ++ [(105, n)], I, L, ai_row F b (fun _ => none)) Q) : ai_Ev X y pc ls (.int (nI n) :: st) (S, I, L, F) Q := by
  subst hp; subst hl
  obtain ⟨c, ht, ht2⟩ := Option.map_eq_some_iff.mp hc
  exact ai_Ev_step (h' := (S ++ [(105, n)], I, L, ai_row F S.length (fun _ => none))) hd (by simp only [ai_op, ai_i1, ai_o2, ht, ht2]; refine (ai_if_pos ⟨ai_ocL_lt y, by decide, nw_in hn⟩).trans ?_; rw [nI_clamp (by omega)]; simp [ai_nx]) (ss_app _ _) hk
theorem ev_nr106 (pc2 : Nat) (hp : pc + 3 = pc2) {k n b : Nat} (hd : decode (ai_b y) pc = .ok (.anewarray k, 3)) (hc : (ai_cn (ai_oc y) k).map (fun c => c.2) = some 2) (hn : n ≤ 60000000) (hl : S.length = b) (hk : ai_Ev X y pc2 ls (.ref b :: st) (S ++ [(106, n)], I, L, ai_row F b (fun _ => none)) Q) : ai_Ev X y pc ls (.int (nI n) :: st) (S, I, L, F) Q := by
  subst hp; subst hl
  obtain ⟨c, ht, ht2⟩ := Option.map_eq_some_iff.mp hc
  exact ai_Ev_step (h' := (S ++ [(106, n)], I, L, ai_row F S.length (fun _ => none))) hd (by simp only [ai_op, ai_i1, ai_o2, ht, ht2]; refine (ai_if_pos ⟨ai_ocL_lt y, by decide, nw_in hn⟩).trans ?_; rw [nI_clamp (by omega)]; simp [ai_nx]) (ss_app _ _) hk
theorem ev_nr107 (pc2 : Nat) (hp : pc + 3 = pc2) {k n b : Nat} (hd : decode (ai_b y) pc = .ok (.anewarray k, 3)) (hc : (ai_cn (ai_oc y) k).map (fun c => c.2) = some 1) (hn : n ≤ 60000000) (hl : S.length = b) (hk : ai_Ev X y pc2 ls (.ref b :: st) (S ++ [(107, n)], I, L, ai_row F b (fun _ => none)) Q) : ai_Ev X y pc ls (.int (nI n) :: st) (S, I, L, F) Q := by
  subst hp; subst hl
  obtain ⟨c, ht, ht2⟩ := Option.map_eq_some_iff.mp hc
  exact ai_Ev_step (h' := (S ++ [(107, n)], I, L, ai_row F S.length (fun _ => none))) hd (by simp only [ai_op, ai_i1, ai_o2, ht, ht2]; refine (ai_if_pos ⟨ai_ocL_lt y, by decide, nw_in hn⟩).trans ?_; rw [nI_clamp (by omega)]; simp [ai_nx]) (ss_app _ _) hk
theorem ev_nr108 (pc2 : Nat) (hp : pc + 3 = pc2) {k n b : Nat} (hd : decode (ai_b y) pc = .ok (.anewarray k, 3)) (hc : (ai_cn (ai_oc y) k).map (fun c => c.2) = some 0) (hn : n ≤ 60000000) (hl : S.length = b) (hk : ai_Ev X y pc2 ls (.ref b :: st) (S ++ [(108, n)], I, L, ai_row F b (fun _ => none)) Q) : ai_Ev X y pc ls (.int (nI n) :: st) (S, I, L, F) Q := by
  subst hp; subst hl
  obtain ⟨c, ht, ht2⟩ := Option.map_eq_some_iff.mp hc
  exact ai_Ev_step (h' := (S ++ [(108, n)], I, L, ai_row F S.length (fun _ => none))) hd (by simp only [ai_op, ai_i1, ai_o2, ht, ht2]; refine (ai_if_pos ⟨ai_ocL_lt y, by decide, nw_in hn⟩).trans ?_; rw [nI_clamp (by omega)]; simp [ai_nx]) (ss_app _ _) hk
abbrev cS_0 (S : List (Nat × Nat)) (n : Nat) : List (Nat × Nat) := S ++ [(100, n)]
def cI_0 (I : Nat → Nat → Int32) (b : Nat) : Nat → Nat → Int32 := (ai_row (ai_ui I b 1 (nI 0)) (b + 1) (fun _ => 0))
def cL_0 (L : Nat → Nat → Int64) (b : Nat) : Nat → Nat → Int64 := (ai_row L (b + 1) (fun _ => 0))
def cF_0 (F : Nat → Nat → Option Nat) (b : Nat) : Nat → Nat → Option Nat := (ai_ur F b 0 (some (b + 1)))
theorem c_0 {b : Nat} {n : Nat} (hb : S[b]? = some (0, 0)) (hl : S.length = b + 1) (hn1 : 1 ≤ n) (hn2 : n ≤ 60000000) (hb0 : b ≠ 0 := by omega) : ai_Ev none 0 0 [some (.ref b), some (.int (nI n))] [] (S, I, L, F) (fun r h => r = none ∧ h = (cS_0 S n, cI_0 I b, cL_0 L b, cF_0 F b)) := by
  refine ev_aload_n 1 rfl d0_0 rfl ?_
  refine ev_oinit 4 rfl d0_1 rfl rfl ?_
  refine ev_aload_n 5 rfl d0_4 rfl ?_
  refine ev_iconst (v := nI 0) 6 rfl d0_5 (by decide) ?_
  refine ev_puti 9 rfl 0 1 d0_6 rfl (by omega) hb (fun h => absurd h (by decide)) rfl ?_
  refine ev_aload_n 10 rfl d0_9 rfl ?_
  refine ev_iload_n 11 rfl d0_10 rfl ?_
  refine ev_iconst (v := nI 1) 12 rfl d0_11 (by decide) ?_
  refine ev_max (v := nI n) 15 rfl d0_12 rfl rfl (mx_n (by omega) (by omega)) ?_
  refine ev_nwi (n := n) (b := b + 1) 17 rfl d0_15 (by omega) hl ?_
  refine ev_putr 20 rfl 0 0 d0_17 rfl (by omega) (ap_l hb) rfl ?_
  exact ev_vret rfl d0_20 ⟨rfl, rfl⟩
abbrev cS_12 (S : List (Nat × Nat)) : List (Nat × Nat) := S ++ [(101, 24)]
def cI_12 (I : Nat → Nat → Int32) (b : Nat) : Nat → Nat → Int32 := (ai_row (ai_ui (ai_ui I b 0 (-1)) b 1 (-1)) (b + 1) (fun _ => 0))
def cL_12 (L : Nat → Nat → Int64) (b : Nat) : Nat → Nat → Int64 := (ai_row L (b + 1) (fun _ => 0))
def cF_12 (F : Nat → Nat → Option Nat) (b : Nat) : Nat → Nat → Option Nat := (ai_ur F b 2 (some (b + 1)))
theorem c_12 {b : Nat} (hb : S[b]? = some (1, 0)) (hl : S.length = b + 1) (hb0 : b ≠ 0 := by omega) : ai_Ev none 12 0 [some (.ref b)] [] (S, I, L, F) (fun r h => r = none ∧ h = (cS_12 S, cI_12 I b, cL_12 L b, cF_12 F b)) := by
  refine ev_aload_n 1 rfl d12_0 rfl ?_
  refine ev_oinit 4 rfl d12_1 rfl rfl ?_
  refine ev_aload_n 5 rfl d12_4 rfl ?_
  refine ev_iconst (v := (-1)) 6 rfl d12_5 (by decide) ?_
  refine ev_puti 9 rfl 1 0 d12_6 rfl (by omega) hb (fun h => absurd h (by decide)) rfl ?_
  refine ev_aload_n 10 rfl d12_9 rfl ?_
  refine ev_iconst (v := (-1)) 11 rfl d12_10 (by decide) ?_
  refine ev_puti 14 rfl 1 1 d12_11 rfl (by omega) hb (fun h => absurd h (by decide)) rfl ?_
  refine ev_aload_n 15 rfl d12_14 rfl ?_
  refine ev_bipush (v := nI 24) 17 rfl d12_15 (by decide) ?_
  refine ev_nwb (n := 24) (b := b + 1) 19 rfl d12_17 (by omega) hl ?_
  refine ev_putr 22 rfl 1 2 d12_19 rfl (by omega) (ap_l hb) rfl ?_
  exact ev_vret rfl d12_22 ⟨rfl, rfl⟩
abbrev cS_19 (S : List (Nat × Nat)) : List (Nat × Nat) := S ++ [(100, 24)] ++ [(100, 80)] ++ [(100, 20)]
def cI_19 (I : Nat → Nat → Int32) (b : Nat) : Nat → Nat → Int32 := (ai_row (ai_row (ai_row (ai_ui (ai_ui (ai_ui (ai_ui I b 0 (nI 0)) b 1 (nI 0)) b 2 (nI 0)) b 3 (-1)) (b + 1) (fun _ => 0)) (b + 2) (fun _ => 0)) (b + 3) (fun _ => 0))
def cL_19 (L : Nat → Nat → Int64) (b : Nat) : Nat → Nat → Int64 := (ai_row (ai_row (ai_row L (b + 1) (fun _ => 0)) (b + 2) (fun _ => 0)) (b + 3) (fun _ => 0))
def cF_19 (F : Nat → Nat → Option Nat) (b : Nat) : Nat → Nat → Option Nat := (ai_ur (ai_ur (ai_ur F b 4 (some (b + 1))) b 5 (some (b + 2))) b 6 (some (b + 3)))
theorem c_19 {b : Nat} (hb : S[b]? = some (2, 0)) (hl : S.length = b + 1) (hb0 : b ≠ 0 := by omega) : ai_Ev none 19 0 [some (.ref b)] [] (S, I, L, F) (fun r h => r = none ∧ h = (cS_19 S, cI_19 I b, cL_19 L b, cF_19 F b)) := by
  refine ev_aload_n 1 rfl d19_0 rfl ?_
  refine ev_oinit 4 rfl d19_1 rfl rfl ?_
  refine ev_aload_n 5 rfl d19_4 rfl ?_
  refine ev_iconst (v := nI 0) 6 rfl d19_5 (by decide) ?_
  refine ev_puti 9 rfl 2 0 d19_6 rfl (by omega) hb (fun _ => Or.inl (by decide)) rfl ?_
  refine ev_aload_n 10 rfl d19_9 rfl ?_
  refine ev_iconst (v := nI 0) 11 rfl d19_10 (by decide) ?_
  refine ev_puti 14 rfl 2 1 d19_11 rfl (by omega) hb (fun h => absurd h (by decide)) rfl ?_
  refine ev_aload_n 15 rfl d19_14 rfl ?_
  refine ev_iconst (v := nI 0) 16 rfl d19_15 (by decide) ?_
  refine ev_puti 19 rfl 2 2 d19_16 rfl (by omega) hb (fun h => absurd h (by decide)) rfl ?_
  refine ev_aload_n 20 rfl d19_19 rfl ?_
  refine ev_iconst (v := (-1)) 21 rfl d19_20 (by decide) ?_
  refine ev_puti 24 rfl 2 3 d19_21 rfl (by omega) hb (fun h => absurd h (by decide)) rfl ?_
  refine ev_aload_n 25 rfl d19_24 rfl ?_
  refine ev_bipush (v := nI 24) 27 rfl d19_25 (by decide) ?_
  refine ev_nwi (n := 24) (b := b + 1) 29 rfl d19_27 (by omega) hl ?_
  refine ev_putr 32 rfl 2 4 d19_29 rfl (by omega) (ap_l hb) rfl ?_
  refine ev_aload_n 33 rfl d19_32 rfl ?_
  refine ev_bipush (v := nI 80) 35 rfl d19_33 (by decide) ?_
  refine ev_nwi (n := 80) (b := b + 2) 37 rfl d19_35 (by omega) (ln_s hl) ?_
  refine ev_putr 40 rfl 2 5 d19_37 rfl (by omega) (ap_l (ap_l hb)) rfl ?_
  refine ev_aload_n 41 rfl d19_40 rfl ?_
  refine ev_bipush (v := nI 20) 43 rfl d19_41 (by decide) ?_
  refine ev_nwi (n := 20) (b := b + 3) 45 rfl d19_43 (by omega) (ln_s (ln_s hl)) ?_
  refine ev_putr 48 rfl 2 6 d19_45 rfl (by omega) (ap_l (ap_l (ap_l hb))) rfl ?_
  exact ev_vret rfl d19_48 ⟨rfl, rfl⟩
abbrev cS_35 (S : List (Nat × Nat)) : List (Nat × Nat) := S
def cI_35 (I : Nat → Nat → Int32) (b : Nat) : Nat → Nat → Int32 := (ai_ui (ai_ui (ai_ui I b 0 (nI 2)) b 1 (-1)) b 2 (-1))
def cL_35 (L : Nat → Nat → Int64) (b : Nat) : Nat → Nat → Int64 := L
def cF_35 (F : Nat → Nat → Option Nat) (b : Nat) : Nat → Nat → Option Nat := F
theorem c_35 {b : Nat} (hb : S[b]? = some (4, 0)) (hl : S.length = b + 1) (hb0 : b ≠ 0 := by omega) : ai_Ev none 35 0 [some (.ref b)] [] (S, I, L, F) (fun r h => r = none ∧ h = (cS_35 S, cI_35 I b, cL_35 L b, cF_35 F b)) := by
  refine ev_aload_n 1 rfl d35_0 rfl ?_
  refine ev_oinit 4 rfl d35_1 rfl rfl ?_
  refine ev_aload_n 5 rfl d35_4 rfl ?_
  refine ev_iconst (v := nI 2) 6 rfl d35_5 (by decide) ?_
  refine ev_puti 9 rfl 4 0 d35_6 rfl (by omega) hb (fun h => absurd h (by decide)) rfl ?_
  refine ev_aload_n 10 rfl d35_9 rfl ?_
  refine ev_iconst (v := (-1)) 11 rfl d35_10 (by decide) ?_
  refine ev_puti 14 rfl 4 1 d35_11 rfl (by omega) hb (fun h => absurd h (by decide)) rfl ?_
  refine ev_aload_n 15 rfl d35_14 rfl ?_
  refine ev_iconst (v := (-1)) 16 rfl d35_15 (by decide) ?_
  refine ev_puti 19 rfl 4 2 d35_16 rfl (by omega) hb (fun h => absurd h (by decide)) rfl ?_
  exact ev_vret rfl d35_19 ⟨rfl, rfl⟩
abbrev cS_42 (S : List (Nat × Nat)) : List (Nat × Nat) := S ++ [(103, 100)]
def cI_42 (I : Nat → Nat → Int32) (b : Nat) : Nat → Nat → Int32 := (ai_row (ai_ui (ai_ui (ai_ui (ai_ui I b 0 (nI 0)) b 1 (-1)) b 2 (nI 0)) b 3 (nI 0)) (b + 1) (fun _ => 0))
def cL_42 (L : Nat → Nat → Int64) (b : Nat) : Nat → Nat → Int64 := (ai_row L (b + 1) (fun _ => 0))
def cF_42 (F : Nat → Nat → Option Nat) (b : Nat) : Nat → Nat → Option Nat := (ai_ur F b 4 (some (b + 1)))
theorem c_42 {b : Nat} (hb : S[b]? = some (6, 0)) (hl : S.length = b + 1) (hb0 : b ≠ 0 := by omega) : ai_Ev none 42 0 [some (.ref b)] [] (S, I, L, F) (fun r h => r = none ∧ h = (cS_42 S, cI_42 I b, cL_42 L b, cF_42 F b)) := by
  refine ev_aload_n 1 rfl d42_0 rfl ?_
  refine ev_oinit 4 rfl d42_1 rfl rfl ?_
  refine ev_aload_n 5 rfl d42_4 rfl ?_
  refine ev_iconst (v := nI 0) 6 rfl d42_5 (by decide) ?_
  refine ev_puti 9 rfl 6 0 d42_6 rfl (by omega) hb (fun _ => Or.inl (by decide)) rfl ?_
  refine ev_aload_n 10 rfl d42_9 rfl ?_
  refine ev_iconst (v := (-1)) 11 rfl d42_10 (by decide) ?_
  refine ev_puti 14 rfl 6 1 d42_11 rfl (by omega) hb (fun h => absurd h (by decide)) rfl ?_
  refine ev_aload_n 15 rfl d42_14 rfl ?_
  refine ev_iconst (v := nI 0) 16 rfl d42_15 (by decide) ?_
  refine ev_puti 19 rfl 6 2 d42_16 rfl (by omega) hb (fun h => absurd h (by decide)) rfl ?_
  refine ev_aload_n 20 rfl d42_19 rfl ?_
  refine ev_iconst (v := nI 0) 21 rfl d42_20 (by decide) ?_
  refine ev_puti 24 rfl 6 3 d42_21 rfl (by omega) hb (fun h => absurd h (by decide)) rfl ?_
  refine ev_aload_n 25 rfl d42_24 rfl ?_
  refine ev_bipush (v := nI 100) 27 rfl d42_25 (by decide) ?_
  refine ev_nwl (n := 100) (b := b + 1) 29 rfl d42_27 (by omega) hl ?_
  refine ev_putr 32 rfl 6 4 d42_29 rfl (by omega) (ap_l hb) rfl ?_
  exact ev_vret rfl d42_32 ⟨rfl, rfl⟩
abbrev cS_50 (S : List (Nat × Nat)) : List (Nat × Nat) := S ++ [(102, 5)] ++ [(102, 5)] ++ [(100, 5)]
def cI_50 (I : Nat → Nat → Int32) (b : Nat) : Nat → Nat → Int32 := (ai_row (ai_row (ai_row I (b + 1) (fun _ => 0)) (b + 2) (fun _ => 0)) (b + 3) (fun _ => 0))
def cL_50 (L : Nat → Nat → Int64) (b : Nat) : Nat → Nat → Int64 := (ai_row (ai_row (ai_row L (b + 1) (fun _ => 0)) (b + 2) (fun _ => 0)) (b + 3) (fun _ => 0))
def cF_50 (F : Nat → Nat → Option Nat) (b : Nat) : Nat → Nat → Option Nat := (ai_ur (ai_ur (ai_ur F b 0 (some (b + 1))) b 1 (some (b + 2))) b 2 (some (b + 3)))
theorem c_50 {b : Nat} (hb : S[b]? = some (7, 0)) (hl : S.length = b + 1) (hb0 : b ≠ 0 := by omega) : ai_Ev none 50 0 [some (.ref b)] [] (S, I, L, F) (fun r h => r = none ∧ h = (cS_50 S, cI_50 I b, cL_50 L b, cF_50 F b)) := by
  refine ev_aload_n 1 rfl d50_0 rfl ?_
  refine ev_oinit 4 rfl d50_1 rfl rfl ?_
  refine ev_aload_n 5 rfl d50_4 rfl ?_
  refine ev_iconst (v := nI 5) 6 rfl d50_5 (by decide) ?_
  refine ev_nwz (n := 5) (b := b + 1) 8 rfl d50_6 (by omega) hl ?_
  refine ev_putr 11 rfl 7 0 d50_8 rfl (by omega) (ap_l hb) rfl ?_
  refine ev_aload_n 12 rfl d50_11 rfl ?_
  refine ev_iconst (v := nI 5) 13 rfl d50_12 (by decide) ?_
  refine ev_nwz (n := 5) (b := b + 2) 15 rfl d50_13 (by omega) (ln_s hl) ?_
  refine ev_putr 18 rfl 7 1 d50_15 rfl (by omega) (ap_l (ap_l hb)) rfl ?_
  refine ev_aload_n 19 rfl d50_18 rfl ?_
  refine ev_iconst (v := nI 5) 20 rfl d50_19 (by decide) ?_
  refine ev_nwi (n := 5) (b := b + 3) 22 rfl d50_20 (by omega) (ln_s (ln_s hl)) ?_
  refine ev_putr 25 rfl 7 2 d50_22 rfl (by omega) (ap_l (ap_l (ap_l hb))) rfl ?_
  exact ev_vret rfl d50_25 ⟨rfl, rfl⟩
abbrev cS_36 (S : List (Nat × Nat)) (n : Nat) : List (Nat × Nat) := cS_0 (cS_0 (cS_0 (cS_0 (S ++ [(0, 0)]) n ++ [(0, 0)]) n ++ [(0, 0)]) n ++ [(0, 0)]) n
def cI_36 (I : Nat → Nat → Int32) (b : Nat) : Nat → Nat → Int32 := (cI_0 (ai_row (cI_0 (ai_row (cI_0 (ai_row (cI_0 (ai_row I (b + 1) (fun _ => 0)) (b + 1)) (b + 3) (fun _ => 0)) (b + 3)) (b + 5) (fun _ => 0)) (b + 5)) (b + 7) (fun _ => 0)) (b + 7))
def cL_36 (L : Nat → Nat → Int64) (b : Nat) : Nat → Nat → Int64 := (cL_0 (cL_0 (cL_0 (cL_0 L (b + 1)) (b + 3)) (b + 5)) (b + 7))
def cF_36 (F : Nat → Nat → Option Nat) (b : Nat) : Nat → Nat → Option Nat := (ai_ur (cF_0 (ai_row (ai_ur (cF_0 (ai_row (ai_ur (cF_0 (ai_row (ai_ur (cF_0 (ai_row F (b + 1) (fun _ => none)) (b + 1)) b 0 (some (b + 1))) (b + 3) (fun _ => none)) (b + 3)) b 1 (some (b + 3))) (b + 5) (fun _ => none)) (b + 5)) b 2 (some (b + 5))) (b + 7) (fun _ => none)) (b + 7)) b 3 (some (b + 7)))
theorem c_36 {b : Nat} {n : Nat} (hb : S[b]? = some (5, 0)) (hl : S.length = b + 1) (hn1 : 1 ≤ n) (hn2 : n ≤ 60000000) (hb0 : b ≠ 0 := by omega) : ai_Ev none 36 0 [some (.ref b), some (.int (nI n))] [] (S, I, L, F) (fun r h => r = none ∧ h = (cS_36 S n, cI_36 I b, cL_36 L b, cF_36 F b)) := by
  refine ev_aload_n 1 rfl d36_0 rfl ?_
  refine ev_oinit 4 rfl d36_1 rfl rfl ?_
  refine ev_aload_n 5 rfl d36_4 rfl ?_
  refine ev_new 8 rfl 0 d36_5 rfl hl ?_
  refine ev_dup 9 rfl d36_8 rfl ?_
  refine ev_iload_n 10 rfl d36_9 rfl ?_
  refine ev_ci1 13 rfl 0 d36_10 rfl rfl rfl (c_0 (ap_n hl) (ln_s hl) (by omega) (by omega)) ?_
  rintro _ _ ⟨rfl, rfl⟩
  show ai_Ev _ _ _ _ [.ref _, .ref _] _ _
  refine ev_putr 16 rfl 5 0 d36_13 rfl (by omega) (ap_l (ap_l hb)) rfl ?_
  refine ev_aload_n 17 rfl d36_16 rfl ?_
  refine ev_new 20 rfl 0 d36_17 rfl (ln_s (ln_s hl)) ?_
  refine ev_dup 21 rfl d36_20 rfl ?_
  refine ev_iload_n 22 rfl d36_21 rfl ?_
  refine ev_ci1 25 rfl 0 d36_22 rfl rfl rfl (c_0 (ap_n (ln_s (ln_s hl))) (ln_s (ln_s (ln_s hl))) (by omega) (by omega)) ?_
  rintro _ _ ⟨rfl, rfl⟩
  show ai_Ev _ _ _ _ [.ref _, .ref _] _ _
  refine ev_putr 28 rfl 5 1 d36_25 rfl (by omega) (ap_l (ap_l (ap_l (ap_l hb)))) rfl ?_
  refine ev_aload_n 29 rfl d36_28 rfl ?_
  refine ev_new 32 rfl 0 d36_29 rfl (ln_s (ln_s (ln_s (ln_s hl)))) ?_
  refine ev_dup 33 rfl d36_32 rfl ?_
  refine ev_iload_n 34 rfl d36_33 rfl ?_
  refine ev_ci1 37 rfl 0 d36_34 rfl rfl rfl (c_0 (ap_n (ln_s (ln_s (ln_s (ln_s hl))))) (ln_s (ln_s (ln_s (ln_s (ln_s hl))))) (by omega) (by omega)) ?_
  rintro _ _ ⟨rfl, rfl⟩
  show ai_Ev _ _ _ _ [.ref _, .ref _] _ _
  refine ev_putr 40 rfl 5 2 d36_37 rfl (by omega) (ap_l (ap_l (ap_l (ap_l (ap_l (ap_l hb)))))) rfl ?_
  refine ev_aload_n 41 rfl d36_40 rfl ?_
  refine ev_new 44 rfl 0 d36_41 rfl (ln_s (ln_s (ln_s (ln_s (ln_s (ln_s hl)))))) ?_
  refine ev_dup 45 rfl d36_44 rfl ?_
  refine ev_iload_n 46 rfl d36_45 rfl ?_
  refine ev_ci1 49 rfl 0 d36_46 rfl rfl rfl (c_0 (ap_n (ln_s (ln_s (ln_s (ln_s (ln_s (ln_s hl))))))) (ln_s (ln_s (ln_s (ln_s (ln_s (ln_s (ln_s hl))))))) (by omega) (by omega)) ?_
  rintro _ _ ⟨rfl, rfl⟩
  show ai_Ev _ _ _ _ [.ref _, .ref _] _ _
  refine ev_putr 52 rfl 5 3 d36_49 rfl (by omega) (ap_l (ap_l (ap_l (ap_l (ap_l (ap_l (ap_l (ap_l hb)))))))) rfl ?_
  exact ev_vret rfl d36_52 ⟨rfl, rfl⟩
abbrev cS_113 (S : List (Nat × Nat)) : List (Nat × Nat) := S ++ [(100, 8)] ++ [(100, 8)] ++ [(100, 8)] ++ [(103, 800)] ++ [(103, 100)] ++ [(100, 5)] ++ [(100, 5)] ++ [(100, 5)] ++ [(100, 200)] ++ [(100, 200)] ++ [(102, 24)] ++ [(100, 24)] ++ [(100, 24)] ++ [(100, 4800)] ++ [(100, 4800)] ++ [(102, 4800)] ++ [(100, 24)] ++ [(100, 1920)] ++ [(100, 480)] ++ [(100, 27200)] ++ [(100, 16)] ++ [(100, 30)] ++ [(100, 200)] ++ [(102, 200)] ++ [(102, 200)]
def cI_113 (I : Nat → Nat → Int32) : Nat → Nat → Int32 := (ai_row (ai_row (ai_row (ai_ui (ai_row (ai_row (ai_row (ai_row (ai_row (ai_ui (ai_ui (ai_ui (ai_ui (ai_row (ai_row (ai_row (ai_row (ai_row (ai_row (ai_row (ai_row (ai_row (ai_row (ai_row (ai_row (ai_ui (ai_ui (ai_ui (ai_row (ai_row (ai_row (ai_ui (ai_ui (ai_ui (ai_ui (ai_ui (ai_ui (ai_ui (ai_ui (ai_row (ai_row I 573 (fun _ => 0)) 574 (fun _ => 0)) 574 0 (-1)) 574 1 (-1)) 574 2 (-1)) 574 3 (-1)) 574 4 (-1)) 574 5 (-1)) 574 6 (-1)) 574 7 (-1)) 575 (fun _ => 0)) 576 (fun _ => 0)) 577 (fun _ => 0)) 572 5 (nI 0)) 572 6 (nI 0)) 572 7 (nI 0)) 578 (fun _ => 0)) 579 (fun _ => 0)) 580 (fun _ => 0)) 581 (fun _ => 0)) 582 (fun _ => 0)) 583 (fun _ => 0)) 584 (fun _ => 0)) 585 (fun _ => 0)) 586 (fun _ => 0)) 587 (fun _ => 0)) 588 (fun _ => 0)) 589 (fun _ => 0)) 572 20 (nI 1)) 572 21 (nI 950)) 572 22 (nI 12)) 572 23 (nI 3)) 590 (fun _ => 0)) 591 (fun _ => 0)) 592 (fun _ => 0)) 593 (fun _ => 0)) 594 (fun _ => 0)) 572 29 (nI 0)) 595 (fun _ => 0)) 596 (fun _ => 0)) 597 (fun _ => 0))
def cL_113 (L : Nat → Nat → Int64) : Nat → Nat → Int64 := (ai_row (ai_row (ai_row (ai_row (ai_row (ai_row (ai_row (ai_row (ai_row (ai_row (ai_row (ai_row (ai_row (ai_row (ai_row (ai_row (ai_row (ai_row (ai_row (ai_row (ai_row (ai_row (ai_row (ai_row (ai_row L 573 (fun _ => 0)) 574 (fun _ => 0)) 575 (fun _ => 0)) 576 (fun _ => 0)) 577 (fun _ => 0)) 578 (fun _ => 0)) 579 (fun _ => 0)) 580 (fun _ => 0)) 581 (fun _ => 0)) 582 (fun _ => 0)) 583 (fun _ => 0)) 584 (fun _ => 0)) 585 (fun _ => 0)) 586 (fun _ => 0)) 587 (fun _ => 0)) 588 (fun _ => 0)) 589 (fun _ => 0)) 590 (fun _ => 0)) 591 (fun _ => 0)) 592 (fun _ => 0)) 593 (fun _ => 0)) 594 (fun _ => 0)) 595 (fun _ => 0)) 596 (fun _ => 0)) 597 (fun _ => 0))
def cF_113 (F : Nat → Nat → Option Nat) : Nat → Nat → Option Nat := (ai_ur (ai_ur (ai_ur (ai_ur (ai_ur (ai_ur (ai_ur (ai_ur (ai_ur (ai_ur (ai_ur (ai_ur (ai_ur (ai_ur (ai_ur (ai_ur (ai_ur (ai_ur (ai_ur (ai_ur (ai_ur (ai_ur (ai_ur (ai_ur (ai_ur F 572 0 (some 573)) 572 1 (some 574)) 572 2 (some 575)) 572 3 (some 576)) 572 4 (some 577)) 572 8 (some 578)) 572 9 (some 579)) 572 10 (some 580)) 572 11 (some 581)) 572 12 (some 582)) 572 13 (some 583)) 572 14 (some 584)) 572 15 (some 585)) 572 16 (some 586)) 572 17 (some 587)) 572 18 (some 588)) 572 19 (some 589)) 572 24 (some 590)) 572 25 (some 591)) 572 26 (some 592)) 572 27 (some 593)) 572 28 (some 594)) 572 30 (some 595)) 572 31 (some 596)) 572 32 (some 597))
theorem c_113 (hb : S[572]? = some (9, 0)) (hl : S.length = 573)  : ai_Ev none 113 0 [some (.ref 572)] [] (S, I, L, F) (fun r h => r = none ∧ h = (cS_113 S, cI_113 I, cL_113 L, cF_113 F)) := by
  refine ev_aload_n 1 rfl d113_0 rfl ?_
  refine ev_oinit 4 rfl d113_1 rfl rfl ?_
  refine ev_aload_n 5 rfl d113_4 rfl ?_
  refine ev_bipush (v := nI 8) 7 rfl d113_5 (by decide) ?_
  refine ev_nwi (n := 8) (b := 573) 9 rfl d113_7 (by omega) hl ?_
  refine ev_putr 12 rfl 9 0 d113_9 rfl (by omega) (ap_l hb) rfl ?_
  refine ev_aload_n 13 rfl d113_12 rfl ?_
  refine ev_bipush (v := nI 8) 15 rfl d113_13 (by decide) ?_
  refine ev_nwi (n := 8) (b := 574) 17 rfl d113_15 (by omega) (ln_s hl) ?_
  refine ev_dup 18 rfl d113_17 rfl ?_
  refine ev_iconst (v := nI 0) 19 rfl d113_18 (by decide) ?_
  refine ev_iconst (v := (-1)) 20 rfl d113_19 (by decide) ?_
  refine ev_iast_n 21 rfl d113_20 (by omega) (ap_n (ln_s hl)) (by omega) (by decide) rfl ?_
  refine ev_dup 22 rfl d113_21 rfl ?_
  refine ev_iconst (v := nI 1) 23 rfl d113_22 (by decide) ?_
  refine ev_iconst (v := (-1)) 24 rfl d113_23 (by decide) ?_
  refine ev_iast_n 25 rfl d113_24 (by omega) (ap_n (ln_s hl)) (by omega) (by decide) rfl ?_
  refine ev_dup 26 rfl d113_25 rfl ?_
  refine ev_iconst (v := nI 2) 27 rfl d113_26 (by decide) ?_
  refine ev_iconst (v := (-1)) 28 rfl d113_27 (by decide) ?_
  refine ev_iast_n 29 rfl d113_28 (by omega) (ap_n (ln_s hl)) (by omega) (by decide) rfl ?_
  refine ev_dup 30 rfl d113_29 rfl ?_
  refine ev_iconst (v := nI 3) 31 rfl d113_30 (by decide) ?_
  refine ev_iconst (v := (-1)) 32 rfl d113_31 (by decide) ?_
  refine ev_iast_n 33 rfl d113_32 (by omega) (ap_n (ln_s hl)) (by omega) (by decide) rfl ?_
  refine ev_dup 34 rfl d113_33 rfl ?_
  refine ev_iconst (v := nI 4) 35 rfl d113_34 (by decide) ?_
  refine ev_iconst (v := (-1)) 36 rfl d113_35 (by decide) ?_
  refine ev_iast_n 37 rfl d113_36 (by omega) (ap_n (ln_s hl)) (by omega) (by decide) rfl ?_
  refine ev_dup 38 rfl d113_37 rfl ?_
  refine ev_iconst (v := nI 5) 39 rfl d113_38 (by decide) ?_
  refine ev_iconst (v := (-1)) 40 rfl d113_39 (by decide) ?_
  refine ev_iast_n 41 rfl d113_40 (by omega) (ap_n (ln_s hl)) (by omega) (by decide) rfl ?_
  refine ev_dup 42 rfl d113_41 rfl ?_
  refine ev_bipush (v := nI 6) 44 rfl d113_42 (by decide) ?_
  refine ev_iconst (v := (-1)) 45 rfl d113_44 (by decide) ?_
  refine ev_iast_n 46 rfl d113_45 (by omega) (ap_n (ln_s hl)) (by omega) (by decide) rfl ?_
  refine ev_dup 47 rfl d113_46 rfl ?_
  refine ev_bipush (v := nI 7) 49 rfl d113_47 (by decide) ?_
  refine ev_iconst (v := (-1)) 50 rfl d113_49 (by decide) ?_
  refine ev_iast_n 51 rfl d113_50 (by omega) (ap_n (ln_s hl)) (by omega) (by decide) rfl ?_
  refine ev_putr 54 rfl 9 1 d113_51 rfl (by omega) (ap_l (ap_l hb)) rfl ?_
  refine ev_aload_n 55 rfl d113_54 rfl ?_
  refine ev_bipush (v := nI 8) 57 rfl d113_55 (by decide) ?_
  refine ev_nwi (n := 8) (b := 575) 59 rfl d113_57 (by omega) (ln_s (ln_s hl)) ?_
  refine ev_putr 62 rfl 9 2 d113_59 rfl (by omega) (ap_l (ap_l (ap_l hb))) rfl ?_
  refine ev_aload_n 63 rfl d113_62 rfl ?_
  refine ev_sipush (v := nI 800) 66 rfl d113_63 (by decide) ?_
  refine ev_nwl (n := 800) (b := 576) 68 rfl d113_66 (by omega) (ln_s (ln_s (ln_s hl))) ?_
  refine ev_putr 71 rfl 9 3 d113_68 rfl (by omega) (ap_l (ap_l (ap_l (ap_l hb)))) rfl ?_
  refine ev_aload_n 72 rfl d113_71 rfl ?_
  refine ev_bipush (v := nI 100) 74 rfl d113_72 (by decide) ?_
  refine ev_nwl (n := 100) (b := 577) 76 rfl d113_74 (by omega) (ln_s (ln_s (ln_s (ln_s hl)))) ?_
  refine ev_putr 79 rfl 9 4 d113_76 rfl (by omega) (ap_l (ap_l (ap_l (ap_l (ap_l hb))))) rfl ?_
  refine ev_aload_n 80 rfl d113_79 rfl ?_
  refine ev_iconst (v := nI 0) 81 rfl d113_80 (by decide) ?_
  refine ev_puti 84 rfl 9 5 d113_81 rfl (by omega) (ap_l (ap_l (ap_l (ap_l (ap_l hb))))) (fun h => absurd h (by decide)) rfl ?_
  refine ev_aload_n 85 rfl d113_84 rfl ?_
  refine ev_iconst (v := nI 0) 86 rfl d113_85 (by decide) ?_
  refine ev_puti 89 rfl 9 6 d113_86 rfl (by omega) (ap_l (ap_l (ap_l (ap_l (ap_l hb))))) (fun h => absurd h (by decide)) rfl ?_
  refine ev_aload_n 90 rfl d113_89 rfl ?_
  refine ev_iconst (v := nI 0) 91 rfl d113_90 (by decide) ?_
  refine ev_puti 94 rfl 9 7 d113_91 rfl (by omega) (ap_l (ap_l (ap_l (ap_l (ap_l hb))))) (fun h => absurd h (by decide)) rfl ?_
  refine ev_aload_n 95 rfl d113_94 rfl ?_
  refine ev_iconst (v := nI 5) 96 rfl d113_95 (by decide) ?_
  refine ev_nwi (n := 5) (b := 578) 98 rfl d113_96 (by omega) (ln_s (ln_s (ln_s (ln_s (ln_s hl))))) ?_
  refine ev_putr 101 rfl 9 8 d113_98 rfl (by omega) (ap_l (ap_l (ap_l (ap_l (ap_l (ap_l hb)))))) rfl ?_
  refine ev_aload_n 102 rfl d113_101 rfl ?_
  refine ev_iconst (v := nI 5) 103 rfl d113_102 (by decide) ?_
  refine ev_nwi (n := 5) (b := 579) 105 rfl d113_103 (by omega) (ln_s (ln_s (ln_s (ln_s (ln_s (ln_s hl)))))) ?_
  refine ev_putr 108 rfl 9 9 d113_105 rfl (by omega) (ap_l (ap_l (ap_l (ap_l (ap_l (ap_l (ap_l hb))))))) rfl ?_
  refine ev_aload_n 109 rfl d113_108 rfl ?_
  refine ev_iconst (v := nI 5) 110 rfl d113_109 (by decide) ?_
  refine ev_nwi (n := 5) (b := 580) 112 rfl d113_110 (by omega) (ln_s (ln_s (ln_s (ln_s (ln_s (ln_s (ln_s hl))))))) ?_
  refine ev_putr 115 rfl 9 10 d113_112 rfl (by omega) (ap_l (ap_l (ap_l (ap_l (ap_l (ap_l (ap_l (ap_l hb)))))))) rfl ?_
  refine ev_aload_n 116 rfl d113_115 rfl ?_
  refine ev_sipush (v := nI 200) 119 rfl d113_116 (by decide) ?_
  refine ev_nwi (n := 200) (b := 581) 121 rfl d113_119 (by omega) (ln_s (ln_s (ln_s (ln_s (ln_s (ln_s (ln_s (ln_s hl)))))))) ?_
  refine ev_putr 124 rfl 9 11 d113_121 rfl (by omega) (ap_l (ap_l (ap_l (ap_l (ap_l (ap_l (ap_l (ap_l (ap_l hb))))))))) rfl ?_
  refine ev_aload_n 125 rfl d113_124 rfl ?_
  refine ev_sipush (v := nI 200) 128 rfl d113_125 (by decide) ?_
  refine ev_nwi (n := 200) (b := 582) 130 rfl d113_128 (by omega) (ln_s (ln_s (ln_s (ln_s (ln_s (ln_s (ln_s (ln_s (ln_s hl))))))))) ?_
  refine ev_putr 133 rfl 9 12 d113_130 rfl (by omega) (ap_l (ap_l (ap_l (ap_l (ap_l (ap_l (ap_l (ap_l (ap_l (ap_l hb)))))))))) rfl ?_
  refine ev_aload_n 134 rfl d113_133 rfl ?_
  refine ev_bipush (v := nI 24) 136 rfl d113_134 (by decide) ?_
  refine ev_nwz (n := 24) (b := 583) 138 rfl d113_136 (by omega) (ln_s (ln_s (ln_s (ln_s (ln_s (ln_s (ln_s (ln_s (ln_s (ln_s hl)))))))))) ?_
  refine ev_putr 141 rfl 9 13 d113_138 rfl (by omega) (ap_l (ap_l (ap_l (ap_l (ap_l (ap_l (ap_l (ap_l (ap_l (ap_l (ap_l hb))))))))))) rfl ?_
  refine ev_aload_n 142 rfl d113_141 rfl ?_
  refine ev_bipush (v := nI 24) 144 rfl d113_142 (by decide) ?_
  refine ev_nwi (n := 24) (b := 584) 146 rfl d113_144 (by omega) (ln_s (ln_s (ln_s (ln_s (ln_s (ln_s (ln_s (ln_s (ln_s (ln_s (ln_s hl))))))))))) ?_
  refine ev_putr 149 rfl 9 14 d113_146 rfl (by omega) (ap_l (ap_l (ap_l (ap_l (ap_l (ap_l (ap_l (ap_l (ap_l (ap_l (ap_l (ap_l hb)))))))))))) rfl ?_
  refine ev_aload_n 150 rfl d113_149 rfl ?_
  refine ev_bipush (v := nI 24) 152 rfl d113_150 (by decide) ?_
  refine ev_nwi (n := 24) (b := 585) 154 rfl d113_152 (by omega) (ln_s (ln_s (ln_s (ln_s (ln_s (ln_s (ln_s (ln_s (ln_s (ln_s (ln_s (ln_s hl)))))))))))) ?_
  refine ev_putr 157 rfl 9 15 d113_154 rfl (by omega) (ap_l (ap_l (ap_l (ap_l (ap_l (ap_l (ap_l (ap_l (ap_l (ap_l (ap_l (ap_l (ap_l hb))))))))))))) rfl ?_
  refine ev_aload_n 158 rfl d113_157 rfl ?_
  refine ev_sipush (v := nI 4800) 161 rfl d113_158 (by decide) ?_
  refine ev_nwi (n := 4800) (b := 586) 163 rfl d113_161 (by omega) (ln_s (ln_s (ln_s (ln_s (ln_s (ln_s (ln_s (ln_s (ln_s (ln_s (ln_s (ln_s (ln_s hl))))))))))))) ?_
  refine ev_putr 166 rfl 9 16 d113_163 rfl (by omega) (ap_l (ap_l (ap_l (ap_l (ap_l (ap_l (ap_l (ap_l (ap_l (ap_l (ap_l (ap_l (ap_l (ap_l hb)))))))))))))) rfl ?_
  refine ev_aload_n 167 rfl d113_166 rfl ?_
  refine ev_sipush (v := nI 4800) 170 rfl d113_167 (by decide) ?_
  refine ev_nwi (n := 4800) (b := 587) 172 rfl d113_170 (by omega) (ln_s (ln_s (ln_s (ln_s (ln_s (ln_s (ln_s (ln_s (ln_s (ln_s (ln_s (ln_s (ln_s (ln_s hl)))))))))))))) ?_
  refine ev_putr 175 rfl 9 17 d113_172 rfl (by omega) (ap_l (ap_l (ap_l (ap_l (ap_l (ap_l (ap_l (ap_l (ap_l (ap_l (ap_l (ap_l (ap_l (ap_l (ap_l hb))))))))))))))) rfl ?_
  refine ev_aload_n 176 rfl d113_175 rfl ?_
  refine ev_sipush (v := nI 4800) 179 rfl d113_176 (by decide) ?_
  refine ev_nwz (n := 4800) (b := 588) 181 rfl d113_179 (by omega) (ln_s (ln_s (ln_s (ln_s (ln_s (ln_s (ln_s (ln_s (ln_s (ln_s (ln_s (ln_s (ln_s (ln_s (ln_s hl))))))))))))))) ?_
  refine ev_putr 184 rfl 9 18 d113_181 rfl (by omega) (ap_l (ap_l (ap_l (ap_l (ap_l (ap_l (ap_l (ap_l (ap_l (ap_l (ap_l (ap_l (ap_l (ap_l (ap_l (ap_l hb)))))))))))))))) rfl ?_
  refine ev_aload_n 185 rfl d113_184 rfl ?_
  refine ev_bipush (v := nI 24) 187 rfl d113_185 (by decide) ?_
  refine ev_nwi (n := 24) (b := 589) 189 rfl d113_187 (by omega) (ln_s (ln_s (ln_s (ln_s (ln_s (ln_s (ln_s (ln_s (ln_s (ln_s (ln_s (ln_s (ln_s (ln_s (ln_s (ln_s hl)))))))))))))))) ?_
  refine ev_putr 192 rfl 9 19 d113_189 rfl (by omega) (ap_l (ap_l (ap_l (ap_l (ap_l (ap_l (ap_l (ap_l (ap_l (ap_l (ap_l (ap_l (ap_l (ap_l (ap_l (ap_l (ap_l hb))))))))))))))))) rfl ?_
  refine ev_aload_n 193 rfl d113_192 rfl ?_
  refine ev_iconst (v := nI 1) 194 rfl d113_193 (by decide) ?_
  refine ev_puti 197 rfl 9 20 d113_194 rfl (by omega) (ap_l (ap_l (ap_l (ap_l (ap_l (ap_l (ap_l (ap_l (ap_l (ap_l (ap_l (ap_l (ap_l (ap_l (ap_l (ap_l (ap_l hb))))))))))))))))) (fun _ => Or.inr (by decide)) rfl ?_
  refine ev_aload_n 198 rfl d113_197 rfl ?_
  refine ev_sipush (v := nI 950) 201 rfl d113_198 (by decide) ?_
  refine ev_puti 204 rfl 9 21 d113_201 rfl (by omega) (ap_l (ap_l (ap_l (ap_l (ap_l (ap_l (ap_l (ap_l (ap_l (ap_l (ap_l (ap_l (ap_l (ap_l (ap_l (ap_l (ap_l hb))))))))))))))))) (fun h => absurd h (by decide)) rfl ?_
  refine ev_aload_n 205 rfl d113_204 rfl ?_
  refine ev_bipush (v := nI 12) 207 rfl d113_205 (by decide) ?_
  refine ev_puti 210 rfl 9 22 d113_207 rfl (by omega) (ap_l (ap_l (ap_l (ap_l (ap_l (ap_l (ap_l (ap_l (ap_l (ap_l (ap_l (ap_l (ap_l (ap_l (ap_l (ap_l (ap_l hb))))))))))))))))) (fun h => absurd h (by decide)) rfl ?_
  refine ev_aload_n 211 rfl d113_210 rfl ?_
  refine ev_iconst (v := nI 3) 212 rfl d113_211 (by decide) ?_
  refine ev_puti 215 rfl 9 23 d113_212 rfl (by omega) (ap_l (ap_l (ap_l (ap_l (ap_l (ap_l (ap_l (ap_l (ap_l (ap_l (ap_l (ap_l (ap_l (ap_l (ap_l (ap_l (ap_l hb))))))))))))))))) (fun h => absurd h (by decide)) rfl ?_
  refine ev_aload_n 216 rfl d113_215 rfl ?_
  refine ev_sipush (v := nI 1920) 219 rfl d113_216 (by decide) ?_
  refine ev_nwi (n := 1920) (b := 590) 221 rfl d113_219 (by omega) (ln_s (ln_s (ln_s (ln_s (ln_s (ln_s (ln_s (ln_s (ln_s (ln_s (ln_s (ln_s (ln_s (ln_s (ln_s (ln_s (ln_s hl))))))))))))))))) ?_
  refine ev_putr 224 rfl 9 24 d113_221 rfl (by omega) (ap_l (ap_l (ap_l (ap_l (ap_l (ap_l (ap_l (ap_l (ap_l (ap_l (ap_l (ap_l (ap_l (ap_l (ap_l (ap_l (ap_l (ap_l hb)))))))))))))))))) rfl ?_
  refine ev_aload_n 225 rfl d113_224 rfl ?_
  refine ev_sipush (v := nI 480) 228 rfl d113_225 (by decide) ?_
  refine ev_nwi (n := 480) (b := 591) 230 rfl d113_228 (by omega) (ln_s (ln_s (ln_s (ln_s (ln_s (ln_s (ln_s (ln_s (ln_s (ln_s (ln_s (ln_s (ln_s (ln_s (ln_s (ln_s (ln_s (ln_s hl)))))))))))))))))) ?_
  refine ev_putr 233 rfl 9 25 d113_230 rfl (by omega) (ap_l (ap_l (ap_l (ap_l (ap_l (ap_l (ap_l (ap_l (ap_l (ap_l (ap_l (ap_l (ap_l (ap_l (ap_l (ap_l (ap_l (ap_l (ap_l hb))))))))))))))))))) rfl ?_
  refine ev_aload_n 234 rfl d113_233 rfl ?_
  refine ev_sipush (v := nI 27200) 237 rfl d113_234 (by decide) ?_
  refine ev_nwi (n := 27200) (b := 592) 239 rfl d113_237 (by omega) (ln_s (ln_s (ln_s (ln_s (ln_s (ln_s (ln_s (ln_s (ln_s (ln_s (ln_s (ln_s (ln_s (ln_s (ln_s (ln_s (ln_s (ln_s (ln_s hl))))))))))))))))))) ?_
  refine ev_putr 242 rfl 9 26 d113_239 rfl (by omega) (ap_l (ap_l (ap_l (ap_l (ap_l (ap_l (ap_l (ap_l (ap_l (ap_l (ap_l (ap_l (ap_l (ap_l (ap_l (ap_l (ap_l (ap_l (ap_l (ap_l hb)))))))))))))))))))) rfl ?_
  refine ev_aload_n 243 rfl d113_242 rfl ?_
  refine ev_bipush (v := nI 16) 245 rfl d113_243 (by decide) ?_
  refine ev_nwi (n := 16) (b := 593) 247 rfl d113_245 (by omega) (ln_s (ln_s (ln_s (ln_s (ln_s (ln_s (ln_s (ln_s (ln_s (ln_s (ln_s (ln_s (ln_s (ln_s (ln_s (ln_s (ln_s (ln_s (ln_s (ln_s hl)))))))))))))))))))) ?_
  refine ev_putr 250 rfl 9 27 d113_247 rfl (by omega) (ap_l (ap_l (ap_l (ap_l (ap_l (ap_l (ap_l (ap_l (ap_l (ap_l (ap_l (ap_l (ap_l (ap_l (ap_l (ap_l (ap_l (ap_l (ap_l (ap_l (ap_l hb))))))))))))))))))))) rfl ?_
  refine ev_aload_n 251 rfl d113_250 rfl ?_
  refine ev_bipush (v := nI 30) 253 rfl d113_251 (by decide) ?_
  refine ev_nwi (n := 30) (b := 594) 255 rfl d113_253 (by omega) (ln_s (ln_s (ln_s (ln_s (ln_s (ln_s (ln_s (ln_s (ln_s (ln_s (ln_s (ln_s (ln_s (ln_s (ln_s (ln_s (ln_s (ln_s (ln_s (ln_s (ln_s hl))))))))))))))))))))) ?_
  refine ev_putr 258 rfl 9 28 d113_255 rfl (by omega) (ap_l (ap_l (ap_l (ap_l (ap_l (ap_l (ap_l (ap_l (ap_l (ap_l (ap_l (ap_l (ap_l (ap_l (ap_l (ap_l (ap_l (ap_l (ap_l (ap_l (ap_l (ap_l hb)))))))))))))))))))))) rfl ?_
  refine ev_aload_n 259 rfl d113_258 rfl ?_
  refine ev_iconst (v := nI 0) 260 rfl d113_259 (by decide) ?_
  refine ev_puti 263 rfl 9 29 d113_260 rfl (by omega) (ap_l (ap_l (ap_l (ap_l (ap_l (ap_l (ap_l (ap_l (ap_l (ap_l (ap_l (ap_l (ap_l (ap_l (ap_l (ap_l (ap_l (ap_l (ap_l (ap_l (ap_l (ap_l hb)))))))))))))))))))))) (fun h => absurd h (by decide)) rfl ?_
  refine ev_aload_n 264 rfl d113_263 rfl ?_
  refine ev_sipush (v := nI 200) 267 rfl d113_264 (by decide) ?_
  refine ev_nwi (n := 200) (b := 595) 269 rfl d113_267 (by omega) (ln_s (ln_s (ln_s (ln_s (ln_s (ln_s (ln_s (ln_s (ln_s (ln_s (ln_s (ln_s (ln_s (ln_s (ln_s (ln_s (ln_s (ln_s (ln_s (ln_s (ln_s (ln_s hl)))))))))))))))))))))) ?_
  refine ev_putr 272 rfl 9 30 d113_269 rfl (by omega) (ap_l (ap_l (ap_l (ap_l (ap_l (ap_l (ap_l (ap_l (ap_l (ap_l (ap_l (ap_l (ap_l (ap_l (ap_l (ap_l (ap_l (ap_l (ap_l (ap_l (ap_l (ap_l (ap_l hb))))))))))))))))))))))) rfl ?_
  refine ev_aload_n 273 rfl d113_272 rfl ?_
  refine ev_sipush (v := nI 200) 276 rfl d113_273 (by decide) ?_
  refine ev_nwz (n := 200) (b := 596) 278 rfl d113_276 (by omega) (ln_s (ln_s (ln_s (ln_s (ln_s (ln_s (ln_s (ln_s (ln_s (ln_s (ln_s (ln_s (ln_s (ln_s (ln_s (ln_s (ln_s (ln_s (ln_s (ln_s (ln_s (ln_s (ln_s hl))))))))))))))))))))))) ?_
  refine ev_putr 281 rfl 9 31 d113_278 rfl (by omega) (ap_l (ap_l (ap_l (ap_l (ap_l (ap_l (ap_l (ap_l (ap_l (ap_l (ap_l (ap_l (ap_l (ap_l (ap_l (ap_l (ap_l (ap_l (ap_l (ap_l (ap_l (ap_l (ap_l (ap_l hb)))))))))))))))))))))))) rfl ?_
  refine ev_aload_n 282 rfl d113_281 rfl ?_
  refine ev_sipush (v := nI 200) 285 rfl d113_282 (by decide) ?_
  refine ev_nwz (n := 200) (b := 597) 287 rfl d113_285 (by omega) (ln_s (ln_s (ln_s (ln_s (ln_s (ln_s (ln_s (ln_s (ln_s (ln_s (ln_s (ln_s (ln_s (ln_s (ln_s (ln_s (ln_s (ln_s (ln_s (ln_s (ln_s (ln_s (ln_s (ln_s hl)))))))))))))))))))))))) ?_
  refine ev_putr 290 rfl 9 32 d113_287 rfl (by omega) (ap_l (ap_l (ap_l (ap_l (ap_l (ap_l (ap_l (ap_l (ap_l (ap_l (ap_l (ap_l (ap_l (ap_l (ap_l (ap_l (ap_l (ap_l (ap_l (ap_l (ap_l (ap_l (ap_l (ap_l (ap_l hb))))))))))))))))))))))))) rfl ?_
  exact ev_vret rfl d113_290 ⟨rfl, rfl⟩
end NEWR
