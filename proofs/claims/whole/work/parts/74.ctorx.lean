section NEWX
variable {S : List (Nat × Nat)} {I : Nat → Nat → Int32} {L : Nat → Nat → Int64} {F : Nat → Nat → Option Nat} {Q : Option Value → ai_H → Prop}
abbrev cS_28 (S : List (Nat × Nat)) : List (Nat × Nat) := cS_0 (cS_0 (cS_0 (cS_0 (cS_0 (cS_0 (cS_0 (S ++ [(108, 4)] ++ [(0, 0)]) 16 ++ [(0, 0)]) 16 ++ [(0, 0)]) 16 ++ [(0, 0)]) 16 ++ [(0, 0)]) 16 ++ [(0, 0)]) 16 ++ [(0, 0)]) 16
def cI_28 (I : Nat → Nat → Int32) : Nat → Nat → Int32 := (cI_0 (ai_row (cI_0 (ai_row (cI_0 (ai_row (cI_0 (ai_row (ai_ui (ai_ui (ai_ui (ai_ui (cI_0 (ai_row (cI_0 (ai_row (cI_0 (ai_row I 10 (fun _ => 0)) 10) 12 (fun _ => 0)) 12) 14 (fun _ => 0)) 14) 8 4 (nI 2)) 8 5 (-1)) 8 6 (nI 0)) 8 7 (nI 0)) 16 (fun _ => 0)) 16) 18 (fun _ => 0)) 18) 20 (fun _ => 0)) 20) 22 (fun _ => 0)) 22)
def cL_28 (L : Nat → Nat → Int64) : Nat → Nat → Int64 := (cL_0 (cL_0 (cL_0 (cL_0 (cL_0 (cL_0 (cL_0 L 10) 12) 14) 16) 18) 20) 22)
def cF_28 (F : Nat → Nat → Option Nat) : Nat → Nat → Option Nat := (ai_ur (cF_0 (ai_row (ai_ur (cF_0 (ai_row (ai_ur (cF_0 (ai_row (ai_ur (cF_0 (ai_row (ai_ur (cF_0 (ai_row (ai_ur (cF_0 (ai_row (ai_ur (cF_0 (ai_row (ai_ur (ai_row F 9 (fun _ => none)) 8 0 (some 9)) 10 (fun _ => none)) 10) 8 1 (some 10)) 12 (fun _ => none)) 12) 8 2 (some 12)) 14 (fun _ => none)) 14) 8 3 (some 14)) 16 (fun _ => none)) 16) 9 0 (some 16)) 18 (fun _ => none)) 18) 9 1 (some 18)) 20 (fun _ => none)) 20) 9 2 (some 20)) 22 (fun _ => none)) 22) 9 3 (some 22))
theorem c_28 (hb : S[8]? = some (3, 0)) (hl : S.length = 9)  : ai_Ev none 28 0 [some (.ref 8), none] [] (S, I, L, F) (fun r h => r = none ∧ h = (cS_28 S, cI_28 I, cL_28 L, cF_28 F)) := by
  refine ev_aload_n 1 rfl d28_0 rfl ?_
  refine ev_oinit 4 rfl d28_1 rfl rfl ?_
  refine ev_aload_n 5 rfl d28_4 rfl ?_
  refine ev_iconst (v := nI 4) 6 rfl d28_5 (by decide) ?_
  refine ev_nr108 (n := 4) (b := 9) 9 rfl d28_6 rfl (by omega) hl ?_
  refine ev_putr 12 rfl 3 0 d28_9 rfl (by omega) (ap_l hb) rfl ?_
  refine ev_aload_n 13 rfl d28_12 rfl ?_
  refine ev_new 16 rfl 0 d28_13 rfl (ln_s hl) ?_
  refine ev_dup 17 rfl d28_16 rfl ?_
  refine ev_bipush (v := nI 16) 19 rfl d28_17 (by decide) ?_
  refine ev_ci1 22 rfl 0 d28_19 rfl rfl rfl (c_0 (ap_n (ln_s hl)) (ln_s (ln_s hl)) (by omega) (by omega)) ?_
  rintro _ _ ⟨rfl, rfl⟩
  show ai_Ev _ _ _ _ [.ref _, .ref _] _ _
  refine ev_putr 25 rfl 3 1 d28_22 rfl (by omega) (ap_l (ap_l (ap_l hb))) rfl ?_
  refine ev_aload_n 26 rfl d28_25 rfl ?_
  refine ev_new 29 rfl 0 d28_26 rfl (ln_s (ln_s (ln_s hl))) ?_
  refine ev_dup 30 rfl d28_29 rfl ?_
  refine ev_bipush (v := nI 16) 32 rfl d28_30 (by decide) ?_
  refine ev_ci1 35 rfl 0 d28_32 rfl rfl rfl (c_0 (ap_n (ln_s (ln_s (ln_s hl)))) (ln_s (ln_s (ln_s (ln_s hl)))) (by omega) (by omega)) ?_
  rintro _ _ ⟨rfl, rfl⟩
  show ai_Ev _ _ _ _ [.ref _, .ref _] _ _
  refine ev_putr 38 rfl 3 2 d28_35 rfl (by omega) (ap_l (ap_l (ap_l (ap_l (ap_l hb))))) rfl ?_
  refine ev_aload_n 39 rfl d28_38 rfl ?_
  refine ev_new 42 rfl 0 d28_39 rfl (ln_s (ln_s (ln_s (ln_s (ln_s hl))))) ?_
  refine ev_dup 43 rfl d28_42 rfl ?_
  refine ev_bipush (v := nI 16) 45 rfl d28_43 (by decide) ?_
  refine ev_ci1 48 rfl 0 d28_45 rfl rfl rfl (c_0 (ap_n (ln_s (ln_s (ln_s (ln_s (ln_s hl)))))) (ln_s (ln_s (ln_s (ln_s (ln_s (ln_s hl)))))) (by omega) (by omega)) ?_
  rintro _ _ ⟨rfl, rfl⟩
  show ai_Ev _ _ _ _ [.ref _, .ref _] _ _
  refine ev_putr 51 rfl 3 3 d28_48 rfl (by omega) (ap_l (ap_l (ap_l (ap_l (ap_l (ap_l (ap_l hb))))))) rfl ?_
  refine ev_aload_n 52 rfl d28_51 rfl ?_
  refine ev_iconst (v := nI 2) 53 rfl d28_52 (by decide) ?_
  refine ev_puti 56 rfl 3 4 d28_53 rfl (by omega) (ap_l (ap_l (ap_l (ap_l (ap_l (ap_l (ap_l hb))))))) (fun h => absurd h (by decide)) rfl ?_
  refine ev_aload_n 57 rfl d28_56 rfl ?_
  refine ev_iconst (v := (-1)) 58 rfl d28_57 (by decide) ?_
  refine ev_puti 61 rfl 3 5 d28_58 rfl (by omega) (ap_l (ap_l (ap_l (ap_l (ap_l (ap_l (ap_l hb))))))) (fun h => absurd h (by decide)) rfl ?_
  refine ev_aload_n 62 rfl d28_61 rfl ?_
  refine ev_iconst (v := nI 0) 63 rfl d28_62 (by decide) ?_
  refine ev_puti 66 rfl 3 6 d28_63 rfl (by omega) (ap_l (ap_l (ap_l (ap_l (ap_l (ap_l (ap_l hb))))))) (fun h => absurd h (by decide)) rfl ?_
  refine ev_aload_n 67 rfl d28_66 rfl ?_
  refine ev_iconst (v := nI 0) 68 rfl d28_67 (by decide) ?_
  refine ev_puti 71 rfl 3 7 d28_68 rfl (by omega) (ap_l (ap_l (ap_l (ap_l (ap_l (ap_l (ap_l hb))))))) (fun h => absurd h (by decide)) rfl ?_
  refine ev_iconst (v := nI 0) 72 rfl d28_71 (by decide) ?_
  refine ev_store_in 73 rfl d28_72 (Nat.le_of_ble_eq_true rfl) rfl ?_
  show ai_Ev _ _ _ [some (.ref 8), some (.int (nI 0))] _ _ _
  refine ev_iload_n 74 rfl d28_73 rfl ?_
  refine ev_iconst (v := nI 4) 75 rfl d28_74 (by decide) ?_
  refine ev_icmp_F 99 78 (by decide) rfl (by decide) d28_75 ?_
  refine ev_aload_n 79 rfl d28_78 rfl ?_
  refine ev_getr (b := 9) 82 rfl 3 0 d28_79 rfl (by decide) (ap_l (ap_l (ap_l (ap_l (ap_l (ap_l (ap_l hb))))))) rfl ?_
  refine ev_iload_n 83 rfl d28_82 rfl ?_
  refine ev_new 86 rfl 0 d28_83 rfl (ln_s (ln_s (ln_s (ln_s (ln_s (ln_s (ln_s hl))))))) ?_
  refine ev_dup 87 rfl d28_86 rfl ?_
  refine ev_bipush (v := nI 16) 89 rfl d28_87 (by decide) ?_
  refine ev_ci1 92 rfl 0 d28_89 rfl rfl rfl (c_0 (ap_n (ln_s (ln_s (ln_s (ln_s (ln_s (ln_s (ln_s hl)))))))) (ln_s (ln_s (ln_s (ln_s (ln_s (ln_s (ln_s (ln_s hl)))))))) (by omega) (by omega)) ?_
  rintro _ _ ⟨rfl, rfl⟩
  show ai_Ev _ _ _ _ [.ref _, .int _, .ref _] _ _
  refine ev_aast 93 rfl d28_92 (by decide) (by decide) (by decide) (ap_l (ap_l (ap_l (ap_l (ap_l (ap_l (ap_l (ap_l (ap_n hl))))))))) (ap_l (ap_n (ln_s (ln_s (ln_s (ln_s (ln_s (ln_s (ln_s hl))))))))) rfl (ai_inN (by omega) (by omega)) rfl ?_
  refine ev_iinc (v := nI 1) 96 rfl d28_93 rfl (Nat.le_of_ble_eq_true rfl) (by decide) rfl ?_
  show ai_Ev _ _ _ [some (.ref 8), some (.int (nI 1))] _ _ _
  refine ev_goto 73 (by decide) d28_96 ?_
  refine ev_iload_n 74 rfl d28_73 rfl ?_
  refine ev_iconst (v := nI 4) 75 rfl d28_74 (by decide) ?_
  refine ev_icmp_F 99 78 (by decide) rfl (by decide) d28_75 ?_
  refine ev_aload_n 79 rfl d28_78 rfl ?_
  refine ev_getr (b := 9) 82 rfl 3 0 d28_79 rfl (by decide) (ap_l (ap_l (ap_l (ap_l (ap_l (ap_l (ap_l (ap_l (ap_l hb))))))))) rfl ?_
  refine ev_iload_n 83 rfl d28_82 rfl ?_
  refine ev_new 86 rfl 0 d28_83 rfl (ln_s (ln_s (ln_s (ln_s (ln_s (ln_s (ln_s (ln_s (ln_s hl))))))))) ?_
  refine ev_dup 87 rfl d28_86 rfl ?_
  refine ev_bipush (v := nI 16) 89 rfl d28_87 (by decide) ?_
  refine ev_ci1 92 rfl 0 d28_89 rfl rfl rfl (c_0 (ap_n (ln_s (ln_s (ln_s (ln_s (ln_s (ln_s (ln_s (ln_s (ln_s hl)))))))))) (ln_s (ln_s (ln_s (ln_s (ln_s (ln_s (ln_s (ln_s (ln_s (ln_s hl)))))))))) (by omega) (by omega)) ?_
  rintro _ _ ⟨rfl, rfl⟩
  show ai_Ev _ _ _ _ [.ref _, .int _, .ref _] _ _
  refine ev_aast 93 rfl d28_92 (by decide) (by decide) (by decide) (ap_l (ap_l (ap_l (ap_l (ap_l (ap_l (ap_l (ap_l (ap_l (ap_l (ap_n hl))))))))))) (ap_l (ap_n (ln_s (ln_s (ln_s (ln_s (ln_s (ln_s (ln_s (ln_s (ln_s hl))))))))))) rfl (ai_inN (by omega) (by omega)) rfl ?_
  refine ev_iinc (v := nI 2) 96 rfl d28_93 rfl (Nat.le_of_ble_eq_true rfl) (by decide) rfl ?_
  show ai_Ev _ _ _ [some (.ref 8), some (.int (nI 2))] _ _ _
  refine ev_goto 73 (by decide) d28_96 ?_
  refine ev_iload_n 74 rfl d28_73 rfl ?_
  refine ev_iconst (v := nI 4) 75 rfl d28_74 (by decide) ?_
  refine ev_icmp_F 99 78 (by decide) rfl (by decide) d28_75 ?_
  refine ev_aload_n 79 rfl d28_78 rfl ?_
  refine ev_getr (b := 9) 82 rfl 3 0 d28_79 rfl (by decide) (ap_l (ap_l (ap_l (ap_l (ap_l (ap_l (ap_l (ap_l (ap_l (ap_l (ap_l hb))))))))))) rfl ?_
  refine ev_iload_n 83 rfl d28_82 rfl ?_
  refine ev_new 86 rfl 0 d28_83 rfl (ln_s (ln_s (ln_s (ln_s (ln_s (ln_s (ln_s (ln_s (ln_s (ln_s (ln_s hl))))))))))) ?_
  refine ev_dup 87 rfl d28_86 rfl ?_
  refine ev_bipush (v := nI 16) 89 rfl d28_87 (by decide) ?_
  refine ev_ci1 92 rfl 0 d28_89 rfl rfl rfl (c_0 (ap_n (ln_s (ln_s (ln_s (ln_s (ln_s (ln_s (ln_s (ln_s (ln_s (ln_s (ln_s hl)))))))))))) (ln_s (ln_s (ln_s (ln_s (ln_s (ln_s (ln_s (ln_s (ln_s (ln_s (ln_s (ln_s hl)))))))))))) (by omega) (by omega)) ?_
  rintro _ _ ⟨rfl, rfl⟩
  show ai_Ev _ _ _ _ [.ref _, .int _, .ref _] _ _
  refine ev_aast 93 rfl d28_92 (by decide) (by decide) (by decide) (ap_l (ap_l (ap_l (ap_l (ap_l (ap_l (ap_l (ap_l (ap_l (ap_l (ap_l (ap_l (ap_n hl))))))))))))) (ap_l (ap_n (ln_s (ln_s (ln_s (ln_s (ln_s (ln_s (ln_s (ln_s (ln_s (ln_s (ln_s hl))))))))))))) rfl (ai_inN (by omega) (by omega)) rfl ?_
  refine ev_iinc (v := nI 3) 96 rfl d28_93 rfl (Nat.le_of_ble_eq_true rfl) (by decide) rfl ?_
  show ai_Ev _ _ _ [some (.ref 8), some (.int (nI 3))] _ _ _
  refine ev_goto 73 (by decide) d28_96 ?_
  refine ev_iload_n 74 rfl d28_73 rfl ?_
  refine ev_iconst (v := nI 4) 75 rfl d28_74 (by decide) ?_
  refine ev_icmp_F 99 78 (by decide) rfl (by decide) d28_75 ?_
  refine ev_aload_n 79 rfl d28_78 rfl ?_
  refine ev_getr (b := 9) 82 rfl 3 0 d28_79 rfl (by decide) (ap_l (ap_l (ap_l (ap_l (ap_l (ap_l (ap_l (ap_l (ap_l (ap_l (ap_l (ap_l (ap_l hb))))))))))))) rfl ?_
  refine ev_iload_n 83 rfl d28_82 rfl ?_
  refine ev_new 86 rfl 0 d28_83 rfl (ln_s (ln_s (ln_s (ln_s (ln_s (ln_s (ln_s (ln_s (ln_s (ln_s (ln_s (ln_s (ln_s hl))))))))))))) ?_
  refine ev_dup 87 rfl d28_86 rfl ?_
  refine ev_bipush (v := nI 16) 89 rfl d28_87 (by decide) ?_
  refine ev_ci1 92 rfl 0 d28_89 rfl rfl rfl (c_0 (ap_n (ln_s (ln_s (ln_s (ln_s (ln_s (ln_s (ln_s (ln_s (ln_s (ln_s (ln_s (ln_s (ln_s hl)))))))))))))) (ln_s (ln_s (ln_s (ln_s (ln_s (ln_s (ln_s (ln_s (ln_s (ln_s (ln_s (ln_s (ln_s (ln_s hl)))))))))))))) (by omega) (by omega)) ?_
  rintro _ _ ⟨rfl, rfl⟩
  show ai_Ev _ _ _ _ [.ref _, .int _, .ref _] _ _
  refine ev_aast 93 rfl d28_92 (by decide) (by decide) (by decide) (ap_l (ap_l (ap_l (ap_l (ap_l (ap_l (ap_l (ap_l (ap_l (ap_l (ap_l (ap_l (ap_l (ap_l (ap_n hl))))))))))))))) (ap_l (ap_n (ln_s (ln_s (ln_s (ln_s (ln_s (ln_s (ln_s (ln_s (ln_s (ln_s (ln_s (ln_s (ln_s hl))))))))))))))) rfl (ai_inN (by omega) (by omega)) rfl ?_
  refine ev_iinc (v := nI 4) 96 rfl d28_93 rfl (Nat.le_of_ble_eq_true rfl) (by decide) rfl ?_
  show ai_Ev _ _ _ [some (.ref 8), some (.int (nI 4))] _ _ _
  refine ev_goto 73 (by decide) d28_96 ?_
  refine ev_iload_n 74 rfl d28_73 rfl ?_
  refine ev_iconst (v := nI 4) 75 rfl d28_74 (by decide) ?_
  refine ev_icmp_T 99 (by decide) (by decide) d28_75 ?_
  exact ev_vret rfl d28_99 ⟨rfl, rfl⟩
abbrev cS_52 (S : List (Nat × Nat)) : List (Nat × Nat) := cS_36 (cS_36 (cS_36 (cS_50 (cS_28 (S ++ [(104, 8)] ++ [(105, 5)] ++ [(106, 24)] ++ [(107, 200)] ++ [(100, 30)] ++ [(100, 7)] ++ [(3, 0)]) ++ [(7, 0)]) ++ [(5, 0)]) 32 ++ [(5, 0)]) 32 ++ [(5, 0)]) 500
def cI_52 (I : Nat → Nat → Int32) : Nat → Nat → Int32 := (cI_36 (ai_row (cI_36 (ai_row (cI_36 (ai_row (cI_50 (ai_row (cI_28 (ai_row (ai_row (ai_ui (ai_row (ai_ui (ai_ui (ai_ui (ai_ui (ai_ui (ai_ui I 1 4 (nI 0)) 1 5 (nI 0)) 1 6 (nI 0)) 1 7 (nI 950)) 1 8 (nI 12)) 1 9 (nI 3)) 6 (fun _ => 0)) 1 11 (nI 0)) 7 (fun _ => 0)) 8 (fun _ => 0))) 24 (fun _ => 0)) 24) 28 (fun _ => 0)) 28) 37 (fun _ => 0)) 37) 46 (fun _ => 0)) 46)
def cL_52 (L : Nat → Nat → Int64) : Nat → Nat → Int64 := (cL_36 (cL_36 (cL_36 (cL_50 (cL_28 (ai_row (ai_row L 6 (fun _ => 0)) 7 (fun _ => 0))) 24) 28) 37) 46)
def cF_52 (F : Nat → Nat → Option Nat) : Nat → Nat → Option Nat := (ai_ur (cF_36 (ai_row (ai_ur (cF_36 (ai_row (ai_ur (cF_36 (ai_row (ai_ur (cF_50 (ai_row (ai_ur (cF_28 (ai_row (ai_ur (ai_ur (ai_ur (ai_row (ai_ur (ai_row (ai_ur (ai_row (ai_ur (ai_row F 2 (fun _ => none)) 1 0 (some 2)) 3 (fun _ => none)) 1 1 (some 3)) 4 (fun _ => none)) 1 2 (some 4)) 5 (fun _ => none)) 1 3 (some 5)) 1 10 (some 6)) 1 12 (some 7)) 8 (fun _ => none))) 1 13 (some 8)) 24 (fun _ => none)) 24) 1 14 (some 24)) 28 (fun _ => none)) 28) 1 15 (some 28)) 37 (fun _ => none)) 37) 1 16 (some 37)) 46 (fun _ => none)) 46) 1 17 (some 46))
theorem c_52 (hb : S[1]? = some (8, 0)) (hl : S.length = 2)  (hk : ai_Ev none 52 158 [some (.ref 1), some (.int (nI 0))] [] (cS_52 S, cI_52 I, cL_52 L, cF_52 F) Q) : ai_Ev none 52 0 [some (.ref 1), none] [] (S, I, L, F) Q := by
  refine ev_aload_n 1 rfl d52_0 rfl ?_
  refine ev_oinit 4 rfl d52_1 rfl rfl ?_
  refine ev_aload_n 5 rfl d52_4 rfl ?_
  refine ev_bipush (v := nI 8) 7 rfl d52_5 (by decide) ?_
  refine ev_nr104 (n := 8) (b := 2) 10 rfl d52_7 rfl (by omega) hl ?_
  refine ev_putr 13 rfl 8 0 d52_10 rfl (by omega) (ap_l hb) rfl ?_
  refine ev_aload_n 14 rfl d52_13 rfl ?_
  refine ev_iconst (v := nI 5) 15 rfl d52_14 (by decide) ?_
  refine ev_nr105 (n := 5) (b := 3) 18 rfl d52_15 rfl (by omega) (ln_s hl) ?_
  refine ev_putr 21 rfl 8 1 d52_18 rfl (by omega) (ap_l (ap_l hb)) rfl ?_
  refine ev_aload_n 22 rfl d52_21 rfl ?_
  refine ev_bipush (v := nI 24) 24 rfl d52_22 (by decide) ?_
  refine ev_nr106 (n := 24) (b := 4) 27 rfl d52_24 rfl (by omega) (ln_s (ln_s hl)) ?_
  refine ev_putr 30 rfl 8 2 d52_27 rfl (by omega) (ap_l (ap_l (ap_l hb))) rfl ?_
  refine ev_aload_n 31 rfl d52_30 rfl ?_
  refine ev_sipush (v := nI 200) 34 rfl d52_31 (by decide) ?_
  refine ev_nr107 (n := 200) (b := 5) 37 rfl d52_34 rfl (by omega) (ln_s (ln_s (ln_s hl))) ?_
  refine ev_putr 40 rfl 8 3 d52_37 rfl (by omega) (ap_l (ap_l (ap_l (ap_l hb)))) rfl ?_
  refine ev_aload_n 41 rfl d52_40 rfl ?_
  refine ev_iconst (v := nI 0) 42 rfl d52_41 (by decide) ?_
  refine ev_puti 45 rfl 8 4 d52_42 rfl (by omega) (ap_l (ap_l (ap_l (ap_l hb)))) (fun h => absurd h (by decide)) rfl ?_
  refine ev_aload_n 46 rfl d52_45 rfl ?_
  refine ev_iconst (v := nI 0) 47 rfl d52_46 (by decide) ?_
  refine ev_puti 50 rfl 8 5 d52_47 rfl (by omega) (ap_l (ap_l (ap_l (ap_l hb)))) (fun h => absurd h (by decide)) rfl ?_
  refine ev_aload_n 51 rfl d52_50 rfl ?_
  refine ev_iconst (v := nI 0) 52 rfl d52_51 (by decide) ?_
  refine ev_puti 55 rfl 8 6 d52_52 rfl (by omega) (ap_l (ap_l (ap_l (ap_l hb)))) (fun h => absurd h (by decide)) rfl ?_
  refine ev_aload_n 56 rfl d52_55 rfl ?_
  refine ev_sipush (v := nI 950) 59 rfl d52_56 (by decide) ?_
  refine ev_puti 62 rfl 8 7 d52_59 rfl (by omega) (ap_l (ap_l (ap_l (ap_l hb)))) (fun h => absurd h (by decide)) rfl ?_
  refine ev_aload_n 63 rfl d52_62 rfl ?_
  refine ev_bipush (v := nI 12) 65 rfl d52_63 (by decide) ?_
  refine ev_puti 68 rfl 8 8 d52_65 rfl (by omega) (ap_l (ap_l (ap_l (ap_l hb)))) (fun h => absurd h (by decide)) rfl ?_
  refine ev_aload_n 69 rfl d52_68 rfl ?_
  refine ev_iconst (v := nI 3) 70 rfl d52_69 (by decide) ?_
  refine ev_puti 73 rfl 8 9 d52_70 rfl (by omega) (ap_l (ap_l (ap_l (ap_l hb)))) (fun h => absurd h (by decide)) rfl ?_
  refine ev_aload_n 74 rfl d52_73 rfl ?_
  refine ev_bipush (v := nI 30) 76 rfl d52_74 (by decide) ?_
  refine ev_nwi (n := 30) (b := 6) 78 rfl d52_76 (by omega) (ln_s (ln_s (ln_s (ln_s hl)))) ?_
  refine ev_putr 81 rfl 8 10 d52_78 rfl (by omega) (ap_l (ap_l (ap_l (ap_l (ap_l hb))))) rfl ?_
  refine ev_aload_n 82 rfl d52_81 rfl ?_
  refine ev_iconst (v := nI 0) 83 rfl d52_82 (by decide) ?_
  refine ev_puti 86 rfl 8 11 d52_83 rfl (by omega) (ap_l (ap_l (ap_l (ap_l (ap_l hb))))) (fun h => absurd h (by decide)) rfl ?_
  refine ev_aload_n 87 rfl d52_86 rfl ?_
  refine ev_bipush (v := nI 7) 89 rfl d52_87 (by decide) ?_
  refine ev_nwi (n := 7) (b := 7) 91 rfl d52_89 (by omega) (ln_s (ln_s (ln_s (ln_s (ln_s hl))))) ?_
  refine ev_putr 94 rfl 8 12 d52_91 rfl (by omega) (ap_l (ap_l (ap_l (ap_l (ap_l (ap_l hb)))))) rfl ?_
  refine ev_aload_n 95 rfl d52_94 rfl ?_
  refine ev_new 98 rfl 3 d52_95 rfl (ln_s (ln_s (ln_s (ln_s (ln_s (ln_s hl)))))) ?_
  refine ev_dup 99 rfl d52_98 rfl ?_
  refine ev_ci0 102 rfl 28 d52_99 rfl rfl rfl (c_28 (ap_n (ln_s (ln_s (ln_s (ln_s (ln_s (ln_s hl))))))) (ln_s (ln_s (ln_s (ln_s (ln_s (ln_s (ln_s hl)))))))) ?_
  rintro _ _ ⟨rfl, rfl⟩
  show ai_Ev _ _ _ _ [.ref _, .ref _] _ _
  refine ev_putr 105 rfl 8 13 d52_102 rfl (by omega) (ap_l (ap_l (ap_l (ap_l (ap_l (ap_l (ap_l (ap_l (ap_l (ap_l (ap_l (ap_l (ap_l (ap_l (ap_l (ap_l (ap_l (ap_l (ap_l (ap_l (ap_l (ap_l hb)))))))))))))))))))))) rfl ?_
  refine ev_aload_n 106 rfl d52_105 rfl ?_
  refine ev_new 109 rfl 7 d52_106 rfl (ln_s (ln_s (ln_s (ln_s (ln_s (ln_s (ln_s (ln_s (ln_s (ln_s (ln_s (ln_s (ln_s (ln_s (ln_s (ln_s (ln_s (ln_s (ln_s (ln_s (ln_s (ln_s hl)))))))))))))))))))))) ?_
  refine ev_dup 110 rfl d52_109 rfl ?_
  refine ev_ci0 113 rfl 50 d52_110 rfl rfl rfl (c_50 (ap_n (ln_s (ln_s (ln_s (ln_s (ln_s (ln_s (ln_s (ln_s (ln_s (ln_s (ln_s (ln_s (ln_s (ln_s (ln_s (ln_s (ln_s (ln_s (ln_s (ln_s (ln_s (ln_s hl))))))))))))))))))))))) (ln_s (ln_s (ln_s (ln_s (ln_s (ln_s (ln_s (ln_s (ln_s (ln_s (ln_s (ln_s (ln_s (ln_s (ln_s (ln_s (ln_s (ln_s (ln_s (ln_s (ln_s (ln_s (ln_s hl)))))))))))))))))))))))) ?_
  rintro _ _ ⟨rfl, rfl⟩
  show ai_Ev _ _ _ _ [.ref _, .ref _] _ _
  refine ev_putr 116 rfl 8 14 d52_113 rfl (by omega) (ap_l (ap_l (ap_l (ap_l (ap_l (ap_l (ap_l (ap_l (ap_l (ap_l (ap_l (ap_l (ap_l (ap_l (ap_l (ap_l (ap_l (ap_l (ap_l (ap_l (ap_l (ap_l (ap_l (ap_l (ap_l (ap_l hb)))))))))))))))))))))))))) rfl ?_
  refine ev_aload_n 117 rfl d52_116 rfl ?_
  refine ev_new 120 rfl 5 d52_117 rfl (ln_s (ln_s (ln_s (ln_s (ln_s (ln_s (ln_s (ln_s (ln_s (ln_s (ln_s (ln_s (ln_s (ln_s (ln_s (ln_s (ln_s (ln_s (ln_s (ln_s (ln_s (ln_s (ln_s (ln_s (ln_s (ln_s hl)))))))))))))))))))))))))) ?_
  refine ev_dup 121 rfl d52_120 rfl ?_
  refine ev_bipush (v := nI 32) 123 rfl d52_121 (by decide) ?_
  refine ev_ci1 126 rfl 36 d52_123 rfl rfl rfl (c_36 (ap_n (ln_s (ln_s (ln_s (ln_s (ln_s (ln_s (ln_s (ln_s (ln_s (ln_s (ln_s (ln_s (ln_s (ln_s (ln_s (ln_s (ln_s (ln_s (ln_s (ln_s (ln_s (ln_s (ln_s (ln_s (ln_s (ln_s hl))))))))))))))))))))))))))) (ln_s (ln_s (ln_s (ln_s (ln_s (ln_s (ln_s (ln_s (ln_s (ln_s (ln_s (ln_s (ln_s (ln_s (ln_s (ln_s (ln_s (ln_s (ln_s (ln_s (ln_s (ln_s (ln_s (ln_s (ln_s (ln_s (ln_s hl))))))))))))))))))))))))))) (by omega) (by omega)) ?_
  rintro _ _ ⟨rfl, rfl⟩
  show ai_Ev _ _ _ _ [.ref _, .ref _] _ _
  refine ev_putr 129 rfl 8 15 d52_126 rfl (by omega) (ap_l (ap_l (ap_l (ap_l (ap_l (ap_l (ap_l (ap_l (ap_l (ap_l (ap_l (ap_l (ap_l (ap_l (ap_l (ap_l (ap_l (ap_l (ap_l (ap_l (ap_l (ap_l (ap_l (ap_l (ap_l (ap_l (ap_l (ap_l (ap_l (ap_l (ap_l (ap_l (ap_l (ap_l (ap_l hb))))))))))))))))))))))))))))))))))) rfl ?_
  refine ev_aload_n 130 rfl d52_129 rfl ?_
  refine ev_new 133 rfl 5 d52_130 rfl (ln_s (ln_s (ln_s (ln_s (ln_s (ln_s (ln_s (ln_s (ln_s (ln_s (ln_s (ln_s (ln_s (ln_s (ln_s (ln_s (ln_s (ln_s (ln_s (ln_s (ln_s (ln_s (ln_s (ln_s (ln_s (ln_s (ln_s (ln_s (ln_s (ln_s (ln_s (ln_s (ln_s (ln_s (ln_s hl))))))))))))))))))))))))))))))))))) ?_
  refine ev_dup 134 rfl d52_133 rfl ?_
  refine ev_bipush (v := nI 32) 136 rfl d52_134 (by decide) ?_
  refine ev_ci1 139 rfl 36 d52_136 rfl rfl rfl (c_36 (ap_n (ln_s (ln_s (ln_s (ln_s (ln_s (ln_s (ln_s (ln_s (ln_s (ln_s (ln_s (ln_s (ln_s (ln_s (ln_s (ln_s (ln_s (ln_s (ln_s (ln_s (ln_s (ln_s (ln_s (ln_s (ln_s (ln_s (ln_s (ln_s (ln_s (ln_s (ln_s (ln_s (ln_s (ln_s (ln_s hl)))))))))))))))))))))))))))))))))))) (ln_s (ln_s (ln_s (ln_s (ln_s (ln_s (ln_s (ln_s (ln_s (ln_s (ln_s (ln_s (ln_s (ln_s (ln_s (ln_s (ln_s (ln_s (ln_s (ln_s (ln_s (ln_s (ln_s (ln_s (ln_s (ln_s (ln_s (ln_s (ln_s (ln_s (ln_s (ln_s (ln_s (ln_s (ln_s (ln_s hl)))))))))))))))))))))))))))))))))))) (by omega) (by omega)) ?_
  rintro _ _ ⟨rfl, rfl⟩
  show ai_Ev _ _ _ _ [.ref _, .ref _] _ _
  refine ev_putr 142 rfl 8 16 d52_139 rfl (by omega) (ap_l (ap_l (ap_l (ap_l (ap_l (ap_l (ap_l (ap_l (ap_l (ap_l (ap_l (ap_l (ap_l (ap_l (ap_l (ap_l (ap_l (ap_l (ap_l (ap_l (ap_l (ap_l (ap_l (ap_l (ap_l (ap_l (ap_l (ap_l (ap_l (ap_l (ap_l (ap_l (ap_l (ap_l (ap_l (ap_l (ap_l (ap_l (ap_l (ap_l (ap_l (ap_l (ap_l (ap_l hb)))))))))))))))))))))))))))))))))))))))))))) rfl ?_
  refine ev_aload_n 143 rfl d52_142 rfl ?_
  refine ev_new 146 rfl 5 d52_143 rfl (ln_s (ln_s (ln_s (ln_s (ln_s (ln_s (ln_s (ln_s (ln_s (ln_s (ln_s (ln_s (ln_s (ln_s (ln_s (ln_s (ln_s (ln_s (ln_s (ln_s (ln_s (ln_s (ln_s (ln_s (ln_s (ln_s (ln_s (ln_s (ln_s (ln_s (ln_s (ln_s (ln_s (ln_s (ln_s (ln_s (ln_s (ln_s (ln_s (ln_s (ln_s (ln_s (ln_s (ln_s hl)))))))))))))))))))))))))))))))))))))))))))) ?_
  refine ev_dup 147 rfl d52_146 rfl ?_
  refine ev_sipush (v := nI 500) 150 rfl d52_147 (by decide) ?_
  refine ev_ci1 153 rfl 36 d52_150 rfl rfl rfl (c_36 (ap_n (ln_s (ln_s (ln_s (ln_s (ln_s (ln_s (ln_s (ln_s (ln_s (ln_s (ln_s (ln_s (ln_s (ln_s (ln_s (ln_s (ln_s (ln_s (ln_s (ln_s (ln_s (ln_s (ln_s (ln_s (ln_s (ln_s (ln_s (ln_s (ln_s (ln_s (ln_s (ln_s (ln_s (ln_s (ln_s (ln_s (ln_s (ln_s (ln_s (ln_s (ln_s (ln_s (ln_s (ln_s hl))))))))))))))))))))))))))))))))))))))))))))) (ln_s (ln_s (ln_s (ln_s (ln_s (ln_s (ln_s (ln_s (ln_s (ln_s (ln_s (ln_s (ln_s (ln_s (ln_s (ln_s (ln_s (ln_s (ln_s (ln_s (ln_s (ln_s (ln_s (ln_s (ln_s (ln_s (ln_s (ln_s (ln_s (ln_s (ln_s (ln_s (ln_s (ln_s (ln_s (ln_s (ln_s (ln_s (ln_s (ln_s (ln_s (ln_s (ln_s (ln_s (ln_s hl))))))))))))))))))))))))))))))))))))))))))))) (by omega) (by omega)) ?_
  rintro _ _ ⟨rfl, rfl⟩
  show ai_Ev _ _ _ _ [.ref _, .ref _] _ _
  refine ev_putr 156 rfl 8 17 d52_153 rfl (by omega) (ap_l (ap_l (ap_l (ap_l (ap_l (ap_l (ap_l (ap_l (ap_l (ap_l (ap_l (ap_l (ap_l (ap_l (ap_l (ap_l (ap_l (ap_l (ap_l (ap_l (ap_l (ap_l (ap_l (ap_l (ap_l (ap_l (ap_l (ap_l (ap_l (ap_l (ap_l (ap_l (ap_l (ap_l (ap_l (ap_l (ap_l (ap_l (ap_l (ap_l (ap_l (ap_l (ap_l (ap_l (ap_l (ap_l (ap_l (ap_l (ap_l (ap_l (ap_l (ap_l (ap_l hb))))))))))))))))))))))))))))))))))))))))))))))))))))) rfl ?_
  refine ev_iconst (v := nI 0) 157 rfl d52_156 (by decide) ?_
  refine ev_store_in 158 rfl d52_157 (Nat.le_of_ble_eq_true rfl) rfl ?_
  show ai_Ev _ _ _ [some (.ref 1), some (.int (nI 0))] _ _ _
  exact hk
def wSsh : Nat → List (Nat × Nat) → List (Nat × Nat)
  | 0, S => S
  | i + 1, S => cS_42 (wSsh i S ++ [(6, 0)])
def wIsh : Nat → (Nat → Nat → Int32) → Nat → Nat → Int32
  | 0, I => I
  | i + 1, I => cI_42 (ai_row (wIsh i I) (55 + 2 * i) (fun _ => 0)) (55 + 2 * i)
def wLsh : Nat → (Nat → Nat → Int64) → Nat → Nat → Int64
  | 0, L => L
  | i + 1, L => cL_42 (wLsh i L) (55 + 2 * i)
def wFsh : Nat → (Nat → Nat → Option Nat) → Nat → Nat → Option Nat
  | 0, F => F
  | i + 1, F => ai_ur (cF_42 (ai_row (wFsh i F) (55 + 2 * i) (fun _ => none)) (55 + 2 * i)) 2 i (some (55 + 2 * i))
theorem lnsh (hl : S.length = 55) : ∀ i, (wSsh i S).length = 55 + 2 * i := by
  intro i
  induction i with
  | zero => exact hl
  | succ i ih =>
    have h : (wSsh (i + 1) S).length = 55 + 2 * i + 2 := (ln_s (ln_s ih))
    rw [h]; omega
theorem apsh {a : Nat} {s : Nat × Nat} (h : S[a]? = some s) : ∀ i, (wSsh i S)[a]? = some s := by
  intro i
  induction i with
  | zero => exact h
  | succ i ih => exact (ap_l (ap_l ih))
theorem ffsh {a : Nat} (h1 : a < 55) (h2 : a ≠ 2) : ∀ i, wFsh i F a = F a := by
  intro i
  induction i with
  | zero => rfl
  | succ i ih =>
    have e1 : a ≠ 55 + 2 * i := by omega
    show ai_ur (cF_42 (ai_row (wFsh i F) (55 + 2 * i) (fun _ => none)) (55 + 2 * i)) 2 i (some (55 + 2 * i)) a = F a
    unfold cF_42
    simp only [ai_ur, ai_row, if_neg h2, if_neg e1]
    exact ih
theorem losh (hl : S.length = 55) (h1 : S[1]? = some (8, 0)) (ha : S[2]? = some (104, 8)) (hf : F 1 0 = some 2) (hk : ai_Ev none 52 183 [some (.ref 1), some (.int (nI 8))] [] (wSsh 8 S, wIsh 8 I, wLsh 8 L, wFsh 8 F) Q) : ∀ z i, i + z = 8 → ai_Ev none 52 158 [some (.ref 1), some (.int (nI i))] [] (wSsh i S, wIsh i I, wLsh i L, wFsh i F) Q := by
  intro z
  induction z with
  | zero =>
    intro i hz
    have e9 : i = 8 := by omega
    subst e9
    refine ev_iload_n 159 rfl d52_158 rfl ?_
    refine ev_bipush (v := nI 8) 161 rfl d52_159 (by decide) ?_
    refine ev_icmp_T 183 (by decide) (by decide) d52_161 ?_
    exact hk
  | succ z ih =>
    intro i hz
    have hi : i < 8 := by omega
    have hc : (wSsh i S).length = 55 + 2 * i := lnsh hl i
    refine ev_iload_n 159 rfl d52_158 rfl ?_
    refine ev_bipush (v := nI 8) 161 rfl d52_159 (by decide) ?_
    refine ev_icmp_F 183 164 (by decide) rfl (fun h => absurd ((cn_ge (by omega) (by omega)).mp h) (by omega)) d52_161 ?_
    refine ev_aload_n 165 rfl d52_164 rfl ?_
    refine ev_getr (b := 2) 168 rfl 8 0 d52_165 rfl (by decide) (apsh h1 i) (by rw [ffsh (by decide) (by decide) i]; exact hf) ?_
    refine ev_iload_n 169 rfl d52_168 rfl ?_
    refine ev_new 172 rfl 6 d52_169 rfl hc ?_
    refine ev_dup 173 rfl d52_172 rfl ?_
    refine ev_ci0 176 rfl 42 d52_173 rfl rfl rfl (c_42 (ap_n hc) (ln_s hc)) ?_
    rintro _ _ ⟨rfl, rfl⟩
    show ai_Ev _ _ _ _ [.ref _, .int _, .ref _] _ _
    refine ev_aast (F2 := wFsh (i + 1) F) 177 rfl d52_176 (by decide) (by omega) (by decide) (ap_l (ap_l (apsh ha i))) (ap_l (ap_n hc)) rfl (ai_inN hi (by decide)) (by rw [nI_clamp (by omega)]; rfl) ?_
    refine ev_iinc (v := nI (i + 1)) 180 rfl d52_177 rfl (Nat.le_of_ble_eq_true rfl) (nI_add _ 1) rfl ?_
    refine ev_goto 158 (by decide) d52_180 ?_
    exact ih (i + 1) (by omega)
def wSqu : Nat → List (Nat × Nat) → List (Nat × Nat)
  | 0, S => S
  | i + 1, S => cS_35 (wSqu i S ++ [(4, 0)])
def wIqu : Nat → (Nat → Nat → Int32) → Nat → Nat → Int32
  | 0, I => I
  | i + 1, I => cI_35 (ai_row (wIqu i I) (71 + i) (fun _ => 0)) (71 + i)
def wLqu : Nat → (Nat → Nat → Int64) → Nat → Nat → Int64
  | 0, L => L
  | i + 1, L => cL_35 (wLqu i L) (71 + i)
def wFqu : Nat → (Nat → Nat → Option Nat) → Nat → Nat → Option Nat
  | 0, F => F
  | i + 1, F => ai_ur (cF_35 (ai_row (wFqu i F) (71 + i) (fun _ => none)) (71 + i)) 3 i (some (71 + i))
theorem lnqu (hl : S.length = 71) : ∀ i, (wSqu i S).length = 71 + i := by
  intro i
  induction i with
  | zero => exact hl
  | succ i ih =>
    have h : (wSqu (i + 1) S).length = 71 + i + 1 := (ln_s ih)
    rw [h]; omega
theorem apqu {a : Nat} {s : Nat × Nat} (h : S[a]? = some s) : ∀ i, (wSqu i S)[a]? = some s := by
  intro i
  induction i with
  | zero => exact h
  | succ i ih => exact (ap_l ih)
theorem ffqu {a : Nat} (h1 : a < 71) (h2 : a ≠ 3) : ∀ i, wFqu i F a = F a := by
  intro i
  induction i with
  | zero => rfl
  | succ i ih =>
    have e1 : a ≠ 71 + i := by omega
    show ai_ur (cF_35 (ai_row (wFqu i F) (71 + i) (fun _ => none)) (71 + i)) 3 i (some (71 + i)) a = F a
    unfold cF_35
    simp only [ai_ur, ai_row, if_neg h2, if_neg e1]
    exact ih
theorem loqu (hl : S.length = 71) (h1 : S[1]? = some (8, 0)) (ha : S[3]? = some (105, 5)) (hf : F 1 1 = some 3) (hk : ai_Ev none 52 209 [some (.ref 1), some (.int (nI 5))] [] (wSqu 5 S, wIqu 5 I, wLqu 5 L, wFqu 5 F) Q) : ∀ z i, i + z = 5 → ai_Ev none 52 185 [some (.ref 1), some (.int (nI i))] [] (wSqu i S, wIqu i I, wLqu i L, wFqu i F) Q := by
  intro z
  induction z with
  | zero =>
    intro i hz
    have e9 : i = 5 := by omega
    subst e9
    refine ev_iload_n 186 rfl d52_185 rfl ?_
    refine ev_iconst (v := nI 5) 187 rfl d52_186 (by decide) ?_
    refine ev_icmp_T 209 (by decide) (by decide) d52_187 ?_
    exact hk
  | succ z ih =>
    intro i hz
    have hi : i < 5 := by omega
    have hc : (wSqu i S).length = 71 + i := lnqu hl i
    refine ev_iload_n 186 rfl d52_185 rfl ?_
    refine ev_iconst (v := nI 5) 187 rfl d52_186 (by decide) ?_
    refine ev_icmp_F 209 190 (by decide) rfl (fun h => absurd ((cn_ge (by omega) (by omega)).mp h) (by omega)) d52_187 ?_
    refine ev_aload_n 191 rfl d52_190 rfl ?_
    refine ev_getr (b := 3) 194 rfl 8 1 d52_191 rfl (by decide) (apqu h1 i) (by rw [ffqu (by decide) (by decide) i]; exact hf) ?_
    refine ev_iload_n 195 rfl d52_194 rfl ?_
    refine ev_new 198 rfl 4 d52_195 rfl hc ?_
    refine ev_dup 199 rfl d52_198 rfl ?_
    refine ev_ci0 202 rfl 35 d52_199 rfl rfl rfl (c_35 (ap_n hc) (ln_s hc)) ?_
    rintro _ _ ⟨rfl, rfl⟩
    show ai_Ev _ _ _ _ [.ref _, .int _, .ref _] _ _
    refine ev_aast (F2 := wFqu (i + 1) F) 203 rfl d52_202 (by decide) (by omega) (by decide) (ap_l (apqu ha i)) (ap_n hc) rfl (ai_inN hi (by decide)) (by rw [nI_clamp (by omega)]; rfl) ?_
    refine ev_iinc (v := nI (i + 1)) 206 rfl d52_203 rfl (Nat.le_of_ble_eq_true rfl) (nI_add _ 1) rfl ?_
    refine ev_goto 185 (by decide) d52_206 ?_
    exact ih (i + 1) (by omega)
def wSju : Nat → List (Nat × Nat) → List (Nat × Nat)
  | 0, S => S
  | i + 1, S => cS_19 (wSju i S ++ [(2, 0)])
def wIju : Nat → (Nat → Nat → Int32) → Nat → Nat → Int32
  | 0, I => I
  | i + 1, I => cI_19 (ai_row (wIju i I) (76 + 4 * i) (fun _ => 0)) (76 + 4 * i)
def wLju : Nat → (Nat → Nat → Int64) → Nat → Nat → Int64
  | 0, L => L
  | i + 1, L => cL_19 (wLju i L) (76 + 4 * i)
def wFju : Nat → (Nat → Nat → Option Nat) → Nat → Nat → Option Nat
  | 0, F => F
  | i + 1, F => ai_ur (cF_19 (ai_row (wFju i F) (76 + 4 * i) (fun _ => none)) (76 + 4 * i)) 4 i (some (76 + 4 * i))
theorem lnju (hl : S.length = 76) : ∀ i, (wSju i S).length = 76 + 4 * i := by
  intro i
  induction i with
  | zero => exact hl
  | succ i ih =>
    have h : (wSju (i + 1) S).length = 76 + 4 * i + 4 := (ln_s (ln_s (ln_s (ln_s ih))))
    rw [h]; omega
theorem apju {a : Nat} {s : Nat × Nat} (h : S[a]? = some s) : ∀ i, (wSju i S)[a]? = some s := by
  intro i
  induction i with
  | zero => exact h
  | succ i ih => exact (ap_l (ap_l (ap_l (ap_l ih))))
theorem ffju {a : Nat} (h1 : a < 76) (h2 : a ≠ 4) : ∀ i, wFju i F a = F a := by
  intro i
  induction i with
  | zero => rfl
  | succ i ih =>
    have e1 : a ≠ 76 + 4 * i := by omega
    show ai_ur (cF_19 (ai_row (wFju i F) (76 + 4 * i) (fun _ => none)) (76 + 4 * i)) 4 i (some (76 + 4 * i)) a = F a
    unfold cF_19
    simp only [ai_ur, ai_row, if_neg h2, if_neg e1]
    exact ih
theorem loju (hl : S.length = 76) (h1 : S[1]? = some (8, 0)) (ha : S[4]? = some (106, 24)) (hf : F 1 2 = some 4) (hk : ai_Ev none 52 236 [some (.ref 1), some (.int (nI 24))] [] (wSju 24 S, wIju 24 I, wLju 24 L, wFju 24 F) Q) : ∀ z i, i + z = 24 → ai_Ev none 52 211 [some (.ref 1), some (.int (nI i))] [] (wSju i S, wIju i I, wLju i L, wFju i F) Q := by
  intro z
  induction z with
  | zero =>
    intro i hz
    have e9 : i = 24 := by omega
    subst e9
    refine ev_iload_n 212 rfl d52_211 rfl ?_
    refine ev_bipush (v := nI 24) 214 rfl d52_212 (by decide) ?_
    refine ev_icmp_T 236 (by decide) (by decide) d52_214 ?_
    exact hk
  | succ z ih =>
    intro i hz
    have hi : i < 24 := by omega
    have hc : (wSju i S).length = 76 + 4 * i := lnju hl i
    refine ev_iload_n 212 rfl d52_211 rfl ?_
    refine ev_bipush (v := nI 24) 214 rfl d52_212 (by decide) ?_
    refine ev_icmp_F 236 217 (by decide) rfl (fun h => absurd ((cn_ge (by omega) (by omega)).mp h) (by omega)) d52_214 ?_
    refine ev_aload_n 218 rfl d52_217 rfl ?_
    refine ev_getr (b := 4) 221 rfl 8 2 d52_218 rfl (by decide) (apju h1 i) (by rw [ffju (by decide) (by decide) i]; exact hf) ?_
    refine ev_iload_n 222 rfl d52_221 rfl ?_
    refine ev_new 225 rfl 2 d52_222 rfl hc ?_
    refine ev_dup 226 rfl d52_225 rfl ?_
    refine ev_ci0 229 rfl 19 d52_226 rfl rfl rfl (c_19 (ap_n hc) (ln_s hc)) ?_
    rintro _ _ ⟨rfl, rfl⟩
    show ai_Ev _ _ _ _ [.ref _, .int _, .ref _] _ _
    refine ev_aast (F2 := wFju (i + 1) F) 230 rfl d52_229 (by decide) (by omega) (by decide) (ap_l (ap_l (ap_l (ap_l (apju ha i))))) (ap_l (ap_l (ap_l (ap_n hc)))) rfl (ai_inN hi (by decide)) (by rw [nI_clamp (by omega)]; rfl) ?_
    refine ev_iinc (v := nI (i + 1)) 233 rfl d52_230 rfl (Nat.le_of_ble_eq_true rfl) (nI_add _ 1) rfl ?_
    refine ev_goto 211 (by decide) d52_233 ?_
    exact ih (i + 1) (by omega)
def wSca : Nat → List (Nat × Nat) → List (Nat × Nat)
  | 0, S => S
  | i + 1, S => cS_12 (wSca i S ++ [(1, 0)])
def wIca : Nat → (Nat → Nat → Int32) → Nat → Nat → Int32
  | 0, I => I
  | i + 1, I => cI_12 (ai_row (wIca i I) (172 + 2 * i) (fun _ => 0)) (172 + 2 * i)
def wLca : Nat → (Nat → Nat → Int64) → Nat → Nat → Int64
  | 0, L => L
  | i + 1, L => cL_12 (wLca i L) (172 + 2 * i)
def wFca : Nat → (Nat → Nat → Option Nat) → Nat → Nat → Option Nat
  | 0, F => F
  | i + 1, F => ai_ur (cF_12 (ai_row (wFca i F) (172 + 2 * i) (fun _ => none)) (172 + 2 * i)) 5 i (some (172 + 2 * i))
theorem lnca (hl : S.length = 172) : ∀ i, (wSca i S).length = 172 + 2 * i := by
  intro i
  induction i with
  | zero => exact hl
  | succ i ih =>
    have h : (wSca (i + 1) S).length = 172 + 2 * i + 2 := (ln_s (ln_s ih))
    rw [h]; omega
theorem apca {a : Nat} {s : Nat × Nat} (h : S[a]? = some s) : ∀ i, (wSca i S)[a]? = some s := by
  intro i
  induction i with
  | zero => exact h
  | succ i ih => exact (ap_l (ap_l ih))
theorem ffca {a : Nat} (h1 : a < 172) (h2 : a ≠ 5) : ∀ i, wFca i F a = F a := by
  intro i
  induction i with
  | zero => rfl
  | succ i ih =>
    have e1 : a ≠ 172 + 2 * i := by omega
    show ai_ur (cF_12 (ai_row (wFca i F) (172 + 2 * i) (fun _ => none)) (172 + 2 * i)) 5 i (some (172 + 2 * i)) a = F a
    unfold cF_12
    simp only [ai_ur, ai_row, if_neg h2, if_neg e1]
    exact ih
theorem loca (hl : S.length = 172) (h1 : S[1]? = some (8, 0)) (ha : S[5]? = some (107, 200)) (hf : F 1 3 = some 5) (hk : ai_Ev none 52 264 [some (.ref 1), some (.int (nI 200))] [] (wSca 200 S, wIca 200 I, wLca 200 L, wFca 200 F) Q) : ∀ z i, i + z = 200 → ai_Ev none 52 238 [some (.ref 1), some (.int (nI i))] [] (wSca i S, wIca i I, wLca i L, wFca i F) Q := by
  intro z
  induction z with
  | zero =>
    intro i hz
    have e9 : i = 200 := by omega
    subst e9
    refine ev_iload_n 239 rfl d52_238 rfl ?_
    refine ev_sipush (v := nI 200) 242 rfl d52_239 (by decide) ?_
    refine ev_icmp_T 264 (by decide) (by decide) d52_242 ?_
    exact hk
  | succ z ih =>
    intro i hz
    have hi : i < 200 := by omega
    have hc : (wSca i S).length = 172 + 2 * i := lnca hl i
    refine ev_iload_n 239 rfl d52_238 rfl ?_
    refine ev_sipush (v := nI 200) 242 rfl d52_239 (by decide) ?_
    refine ev_icmp_F 264 245 (by decide) rfl (fun h => absurd ((cn_ge (by omega) (by omega)).mp h) (by omega)) d52_242 ?_
    refine ev_aload_n 246 rfl d52_245 rfl ?_
    refine ev_getr (b := 5) 249 rfl 8 3 d52_246 rfl (by decide) (apca h1 i) (by rw [ffca (by decide) (by decide) i]; exact hf) ?_
    refine ev_iload_n 250 rfl d52_249 rfl ?_
    refine ev_new 253 rfl 1 d52_250 rfl hc ?_
    refine ev_dup 254 rfl d52_253 rfl ?_
    refine ev_ci0 257 rfl 12 d52_254 rfl rfl rfl (c_12 (ap_n hc) (ln_s hc)) ?_
    rintro _ _ ⟨rfl, rfl⟩
    show ai_Ev _ _ _ _ [.ref _, .int _, .ref _] _ _
    refine ev_aast (F2 := wFca (i + 1) F) 258 rfl d52_257 (by decide) (by omega) (by decide) (ap_l (ap_l (apca ha i))) (ap_l (ap_n hc)) rfl (ai_inN hi (by decide)) (by rw [nI_clamp (by omega)]; rfl) ?_
    refine ev_iinc (v := nI (i + 1)) 261 rfl d52_258 rfl (Nat.le_of_ble_eq_true rfl) (nI_add _ 1) rfl ?_
    refine ev_goto 238 (by decide) d52_261 ?_
    exact ih (i + 1) (by omega)
end NEWX
