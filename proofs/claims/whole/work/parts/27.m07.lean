set_option maxHeartbeats 4000000 in
set_option maxRecDepth 100000 in
theorem p_Ch_keepBody_L13_b {Z : rn_Z} {g1 g2 : Nat} {x : tX} {d : tD} {c : tC} {u : tU} {t : tT} {a : tG} {b : tG} {m : tM} {o : tO} {E : List rn_C}  {l2 : Int32} {l3 : Int32} {K : rn_K} {ca sa : Nat} {z6 : Int32} {z7 : Int32} (hx : Rn Z M_Ch_keepBody 100 [some (.ref 4), none, none, some (.int l3), none, none, some (.int z6), some (.int z7), none, none, none] [] (emb g1 g2 x d c u t a b m o E) ca sa K) (n : Nat) : ∀ (l5 : Int32) (l6 : Int32) (l7 : Int32) (l8 : Int32), F_Ch_keepBody_L13 c b l2 l3 n l5 l6 l7 l8 = some (z6, z7) → Rn Z M_Ch_keepBody 13 [some (.ref 4), some (.ref 44), some (.int l2), some (.int l3), none, some (.int l5), some (.int l6), some (.int l7), some (.int l8), none, none] [] (emb g1 g2 x d c u t a b m o E) ca sa K := by
  induction n with
  | zero =>
    intro l5 l6 l7 l8 h
    rw [F_Ch_keepBody_L13] at h
    cases h
  | succ n ih =>
    intro l5 l6 l7 l8 h
    rw [F_Ch_keepBody_L13] at h
    refine rn_iload (by exact dc_Ch_keepBody 8 rfl) (by exact rfl) ?_
    refine rn_aload_n (by exact dc_Ch_keepBody 9 rfl) (by exact rfl) ?_
    refine rn_getf (v := .ref 47) fd_Ch_93 (by exact dc_Ch_keepBody 10 rfl) (by exact rfl) (by exact rfl) ?_
    refine rn_iload_n (by exact dc_Ch_keepBody 11 rfl) (by exact rfl) ?_
    obtain ⟨x1, e2, h3⟩ := rn_bind h
    clear h
    refine rn_iaload (by exact dc_Ch_keepBody 12 rfl) (by exact rfl) e2 ?_
    by_cases c4 : x1 ≤ l8
    · replace h3 := rn_ifp c4 h3
      refine rn_icmp_ge_t 100 (by exact dc_Ch_keepBody 13 rfl) (by exact rfl) c4 ?_
      cases h3
      exact rn_weak _ (by repeat (first | exact rn_le_0 | apply rn_le_s | apply rn_le_x)) hx
    · replace h3 := rn_ifn c4 h3
      refine rn_icmp_ge_f 100 (by exact dc_Ch_keepBody 13 rfl) (by exact rfl) c4 ?_
      refine rn_aload_n (by exact dc_Ch_keepBody 14 rfl) (by exact rfl) ?_
      refine rn_getf (v := .ref 23) fd_Ch_46 (by exact dc_Ch_keepBody 15 rfl) (by exact rfl) (by exact rfl) ?_
      refine rn_iload (by exact dc_Ch_keepBody 16 rfl) (by exact rfl) ?_
      obtain ⟨j5, e6, h7⟩ := rn_bind h3
      clear h3
      refine rn_aaload (y := 24 + j5) (by exact dc_Ch_keepBody 17 rfl) (by exact rfl) (by exact (aI_some e6).1) (by exact aq_restLengths e6) ?_
      refine rn_iload (by exact dc_Ch_keepBody 18 rfl) (by exact rfl) ?_
      obtain ⟨x8, e9, h10⟩ := rn_bind h7
      clear h7
      refine rn_iaload (by exact dc_Ch_keepBody 19 rfl) (by exact ag_restLengths e6) e9 ?_
      refine rn_istore (ls' := [some (.ref 4), some (.ref 44), some (.int l2), some (.int l3), none, some (.int l5), some (.int l6), some (.int l7), some (.int l8), some (.int x8), none]) (by exact dc_Ch_keepBody 20 rfl) (by decide) (by exact rfl) ?_
      refine rn_aload_n (by exact dc_Ch_keepBody 21 rfl) (by exact rfl) ?_
      refine rn_iload_n (by exact dc_Ch_keepBody 22 rfl) (by exact rfl) ?_
      refine rn_iload (by exact dc_Ch_keepBody 23 rfl) (by exact rfl) ?_
      obtain ⟨x12, e11, h13⟩ := rn_bind h10
      clear h10
      refine rn_invV0 (by exact c_Gr_symbol_b e11) iv_Ch_96 (by exact ⟨Nat.le_of_ble_eq_true rfl, Nat.le_of_ble_eq_true rfl⟩) (by exact dc_Ch_keepBody 24 rfl) (by exact rfl) (by exact rfl) (by exact rfl) (by exact Nat.le_of_ble_eq_true rfl) ?_
      show Rn _ _ 43 [some (.ref 4), some (.ref 44), some (.int l2), some (.int l3), none, some (.int l5), some (.int l6), some (.int l7), some (.int l8), some (.int x8), none] [.int x12] (emb g1 g2 x d c u t a b m o E) _ _ _
      refine rn_istore (ls' := [some (.ref 4), some (.ref 44), some (.int l2), some (.int l3), none, some (.int l5), some (.int l6), some (.int l7), some (.int l8), some (.int x8), some (.int x12)]) (by exact dc_Ch_keepBody 25 rfl) (by decide) (by exact rfl) ?_
      refine rn_iload (by exact dc_Ch_keepBody 26 rfl) (by exact rfl) ?_
      obtain ⟨x15, e14, h16⟩ := rn_bind h13
      clear h13
      refine rn_invS0 (by exact c_Gr_isNonterminal e14) is_Ch_100 (by exact ⟨Nat.le_of_ble_eq_true rfl, Nat.le_of_ble_eq_true rfl⟩) (by exact dc_Ch_keepBody 27 rfl) (by exact rfl) (by exact rfl) (by exact Nat.le_of_ble_eq_true rfl) ?_
      show Rn _ _ 50 [some (.ref 4), some (.ref 44), some (.int l2), some (.int l3), none, some (.int l5), some (.int l6), some (.int l7), some (.int l8), some (.int x8), some (.int x12)] [.int x15] (emb g1 g2 x d c u t a b m o E) _ _ _
      obtain ⟨y17, e18, h20⟩ := rn_bind h16
      clear h16
      have jq19 : Rn Z M_Ch_keepBody 75 [some (.ref 4), some (.ref 44), some (.int l2), some (.int l3), none, some (.int l5), some (.int y17), some (.int l7), some (.int l8), some (.int x8), none] [] (emb g1 g2 x d c u t a b m o E) ca sa K := by
        refine rn_iload (by exact dc_Ch_keepBody 41 rfl) (by exact rfl) ?_
        refine rn_iload (by exact dc_Ch_keepBody 42 rfl) (by exact rfl) ?_
        refine rn_iconst (v := (4 : Int32)) (by exact dc_Ch_keepBody 43 rfl) (by decide) ?_
        refine rn_iload (by exact dc_Ch_keepBody 44 rfl) (by exact rfl) ?_
        refine rn_imul (by exact dc_Ch_keepBody 45 rfl) ?_
        refine rn_ishl (by exact dc_Ch_keepBody 46 rfl) ?_
        refine rn_ior (by exact dc_Ch_keepBody 47 rfl) ?_
        refine rn_istore (ls' := [some (.ref 4), some (.ref 44), some (.int l2), some (.int l3), none, some (.int l5), some (.int y17), some (.int (l7 ||| (x8 <<< (((4 : Int32) * l8) &&& 31)))), some (.int l8), some (.int x8), none]) (by exact dc_Ch_keepBody 48 rfl) (by decide) (by exact rfl) ?_
        refine rn_iload (by exact dc_Ch_keepBody 49 rfl) (by exact rfl) ?_
        refine rn_iload (by exact dc_Ch_keepBody 50 rfl) (by exact rfl) ?_
        refine rn_iadd (by exact dc_Ch_keepBody 51 rfl) ?_
        refine rn_istore (ls' := [some (.ref 4), some (.ref 44), some (.int l2), some (.int l3), none, some (.int (l5 + x8)), some (.int y17), some (.int (l7 ||| (x8 <<< (((4 : Int32) * l8) &&& 31)))), some (.int l8), some (.int x8), none]) (by exact dc_Ch_keepBody 52 rfl) (by decide) (by exact rfl) ?_
        refine rn_iinc (ls' := [some (.ref 4), some (.ref 44), some (.int l2), some (.int l3), none, some (.int (l5 + x8)), some (.int y17), some (.int (l7 ||| (x8 <<< (((4 : Int32) * l8) &&& 31)))), some (.int (l8 + 1)), some (.int x8), none]) (by exact dc_Ch_keepBody 53 rfl) (by decide) (by exact rfl) (by exact rn_inc_1 _) (by exact rfl) ?_
        refine rn_goto 13 (by exact dc_Ch_keepBody 54 rfl) (by exact rfl) ?_
        exact rn_weak _ (by repeat (first | exact rn_le_0 | apply rn_le_s | apply rn_le_x)) (ih _ _ _ _ h20)
      by_cases c21 : x15 = 0
      · replace e18 := rn_ifp c21 e18
        refine rn_if_eq_t 75 (by exact dc_Ch_keepBody 28 rfl) (by exact rfl) c21 ?_
        cases e18
        exact rn_weak _ (by repeat (first | exact rn_le_0 | apply rn_le_s | apply rn_le_x)) jq19
      · replace e18 := rn_ifn c21 e18
        refine rn_if_eq_f 75 (by exact dc_Ch_keepBody 28 rfl) (by exact rfl) c21 ?_
        refine rn_iload (by exact dc_Ch_keepBody 29 rfl) (by exact rfl) ?_
        refine rn_aload_n (by exact dc_Ch_keepBody 30 rfl) (by exact rfl) ?_
        refine rn_getf (v := .ref 8) fd_Ch_22 (by exact dc_Ch_keepBody 31 rfl) (by exact rfl) (by exact rfl) ?_
        refine rn_iload (by exact dc_Ch_keepBody 32 rfl) (by exact rfl) ?_
        refine rn_iload (by exact dc_Ch_keepBody 33 rfl) (by exact rfl) ?_
        refine rn_iload (by exact dc_Ch_keepBody 34 rfl) (by exact rfl) ?_
        refine rn_iload (by exact dc_Ch_keepBody 35 rfl) (by exact rfl) ?_
        refine rn_iadd (by exact dc_Ch_keepBody 36 rfl) ?_
        obtain ⟨x23, e22, h24⟩ := rn_bind e18
        clear e18
        refine rn_invS0 (by exact c_Ch_cell e22) is_Ch_49 (by exact ⟨Nat.le_of_ble_eq_true rfl, Nat.le_of_ble_eq_true rfl⟩) (by exact dc_Ch_keepBody 37 rfl) (by exact rfl) (by exact rfl) (by exact Nat.le_of_ble_eq_true rfl) ?_
        show Rn _ _ 71 [some (.ref 4), some (.ref 44), some (.int l2), some (.int l3), none, some (.int l5), some (.int l6), some (.int l7), some (.int l8), some (.int x8), some (.int x12)] [.int x23, .ref 8, .int l6] (emb g1 g2 x d c u t a b m o E) _ _ _
        obtain ⟨x25, e26, h27⟩ := rn_bind h24
        clear h24
        refine rn_iaload (by exact dc_Ch_keepBody 38 rfl) (by exact rfl) e26 ?_
        refine rn_iadd (by exact dc_Ch_keepBody 39 rfl) ?_
        refine rn_istore (ls' := [some (.ref 4), some (.ref 44), some (.int l2), some (.int l3), none, some (.int l5), some (.int (l6 + x25)), some (.int l7), some (.int l8), some (.int x8), some (.int x12)]) (by exact dc_Ch_keepBody 40 rfl) (by decide) (by exact rfl) ?_
        cases h27
        exact rn_weak _ (by repeat (first | exact rn_le_0 | apply rn_le_s | apply rn_le_x)) jq19
set_option maxHeartbeats 4000000 in
set_option maxRecDepth 100000 in
theorem c_Ch_keepBody_b {Z : rn_Z} {g1 g2 : Nat} {x : tX} {d : tD} {c : tC} {u : tU} {t : tT} {a : tG} {b : tG} {m : tM} {o : tO} {E : List rn_C} {v0 : Int32} {v1 : Int32} {v2 : Int32} {c_r : tC} (h : F_Ch_keepBody c b v0 v1 v2 = some c_r) : Call Z M_Ch_keepBody [.ref 4, .ref 44, .int v0, .int v1, .int v2] (emb g1 g2 x d c u t a b m o E) 0 0 none (emb g1 g2 x d c_r u t a b m o E) := by
  unfold F_Ch_keepBody at h
  refine rn_call (by decide) 6 (by exact Nat.le_of_ble_eq_true rfl) ?_
  show Rn Z M_Ch_keepBody 0 [some (.ref 4), some (.ref 44), some (.int v0), some (.int v1), some (.int v2), none, none, none, none, none, none] [] (emb g1 g2 x d c u t a b m o E) 0 0 _
  refine rn_iload (by exact dc_Ch_keepBody 0 rfl) (by exact rfl) ?_
  refine rn_istore (ls' := [some (.ref 4), some (.ref 44), some (.int v0), some (.int v1), some (.int v2), some (.int v2), none, none, none, none, none]) (by exact dc_Ch_keepBody 1 rfl) (by decide) (by exact rfl) ?_
  refine rn_iconst (v := (1 : Int32)) (by exact dc_Ch_keepBody 2 rfl) (by decide) ?_
  refine rn_istore (ls' := [some (.ref 4), some (.ref 44), some (.int v0), some (.int v1), some (.int v2), some (.int v2), some (.int (1 : Int32)), none, none, none, none]) (by exact dc_Ch_keepBody 3 rfl) (by decide) (by exact rfl) ?_
  refine rn_iconst (v := (0 : Int32)) (by exact dc_Ch_keepBody 4 rfl) (by decide) ?_
  refine rn_istore (ls' := [some (.ref 4), some (.ref 44), some (.int v0), some (.int v1), some (.int v2), some (.int v2), some (.int (1 : Int32)), some (.int (0 : Int32)), none, none, none]) (by exact dc_Ch_keepBody 5 rfl) (by decide) (by exact rfl) ?_
  refine rn_iconst (v := (0 : Int32)) (by exact dc_Ch_keepBody 6 rfl) (by decide) ?_
  refine rn_istore (ls' := [some (.ref 4), some (.ref 44), some (.int v0), some (.int v1), some (.int v2), some (.int v2), some (.int (1 : Int32)), some (.int (0 : Int32)), some (.int (0 : Int32)), none, none]) (by exact dc_Ch_keepBody 7 rfl) (by decide) (by exact rfl) ?_
  obtain ⟨⟨y4, y5⟩, e1, h3⟩ := rn_bind h
  clear h
  dsimp only at h3
  have jx2 : Rn Z M_Ch_keepBody 100 [some (.ref 4), none, none, some (.int v1), none, none, some (.int y4), some (.int y5), none, none, none] [] (emb g1 g2 x d c u t a b m o E) 0 0 (rn_Ret Z none (emb g1 g2 x d c_r u t a b m o E)) := by
    refine rn_aload_n (by exact dc_Ch_keepBody 55 rfl) (by exact rfl) ?_
    refine rn_getf (v := .ref 8) fd_Ch_22 (by exact dc_Ch_keepBody 56 rfl) (by exact rfl) (by exact rfl) ?_
    refine rn_iload_n (by exact dc_Ch_keepBody 57 rfl) (by exact rfl) ?_
    refine rn_iload (by exact dc_Ch_keepBody 58 rfl) (by exact rfl) ?_
    obtain ⟨f6, e7, h8⟩ := rn_bind h3
    clear h3
    refine rn_iastore (w2 := (emb g1 g2 x d (C_sums c, C_costs c, C_rules c, f6, C_lengths c, C_letters c, C_textLength c, C_restSums c, C_restCosts c, C_restLengths c) u t a b m o E)) (by exact dc_Ch_keepBody 59 rfl) (by exact rfl) e7 (by exact rfl) ?_
    refine rn_aload_n (by exact dc_Ch_keepBody 60 rfl) (by exact rfl) ?_
    refine rn_getf (v := .ref 9) fd_Ch_25 (by exact dc_Ch_keepBody 61 rfl) (by exact rfl) (by exact rfl) ?_
    refine rn_iload_n (by exact dc_Ch_keepBody 62 rfl) (by exact rfl) ?_
    refine rn_iload (by exact dc_Ch_keepBody 63 rfl) (by exact rfl) ?_
    obtain ⟨f9, e10, h11⟩ := rn_bind h8
    clear h8
    refine rn_iastore (w2 := (emb g1 g2 x d (C_sums c, C_costs c, C_rules c, f6, f9, C_letters c, C_textLength c, C_restSums c, C_restCosts c, C_restLengths c) u t a b m o E)) (by exact dc_Ch_keepBody 64 rfl) (by exact rfl) e10 (by exact rfl) ?_
    cases h11
    exact rn_return (by exact dc_Ch_keepBody 65 rfl) (by exact rfl)
  exact rn_weak _ (by repeat (first | exact rn_le_0 | apply rn_le_s | apply rn_le_x)) (p_Ch_keepBody_L13_b jx2 _ _ _ _ _ e1)
set_option maxHeartbeats 4000000 in
set_option maxRecDepth 100000 in
theorem c_Ch_addRule_b {Z : rn_Z} {g1 g2 : Nat} {x : tX} {d : tD} {c : tC} {u : tU} {t : tT} {a : tG} {b : tG} {m : tM} {o : tO} {E : List rn_C} {v0 : Int32} {v1 : Int32} {v2 : Int32} {c_r : tC} (h : F_Ch_addRule c b v0 v1 v2 = some c_r) : Call Z M_Ch_addRule [.ref 4, .ref 44, .int v0, .int v1, .int v2] (emb g1 g2 x d c u t a b m o E) 0 0 none (emb g1 g2 x d c_r u t a b m o E) := by
  unfold F_Ch_addRule at h
  refine rn_call (by decide) 2 (by exact Nat.le_of_ble_eq_true rfl) ?_
  show Rn Z M_Ch_addRule 0 [some (.ref 4), some (.ref 44), some (.int v0), some (.int v1), some (.int v2), none, none] [] (emb g1 g2 x d c u t a b m o E) 0 0 _
  refine rn_aload_n (by exact dc_Ch_addRule 0 rfl) (by exact rfl) ?_
  refine rn_aload_n (by exact dc_Ch_addRule 1 rfl) (by exact rfl) ?_
  refine rn_iload_n (by exact dc_Ch_addRule 2 rfl) (by exact rfl) ?_
  refine rn_iload_n (by exact dc_Ch_addRule 3 rfl) (by exact rfl) ?_
  refine rn_iload (by exact dc_Ch_addRule 4 rfl) (by exact rfl) ?_
  obtain ⟨c2, e1, h3⟩ := rn_bind h
  clear h
  refine rn_invV0 (by exact c_Ch_matchBody_b e1) iv_Ch_83 (by exact ⟨Nat.le_of_ble_eq_true rfl, Nat.le_of_ble_eq_true rfl⟩) (by exact dc_Ch_addRule 5 rfl) (by exact rfl) (by exact rfl) (by exact rfl) (by exact Nat.le_of_ble_eq_true rfl) ?_
  show Rn _ _ 9 [some (.ref 4), some (.ref 44), some (.int v0), some (.int v1), some (.int v2), none, none] [] (emb g1 g2 x d c2 u t a b m o E) _ _ _
  refine rn_aload_n (by exact dc_Ch_addRule 6 rfl) (by exact rfl) ?_
  refine rn_getf (v := .ref 17) fd_Ch_43 (by exact dc_Ch_addRule 7 rfl) (by exact rfl) (by exact rfl) ?_
  refine rn_iconst (v := (0 : Int32)) (by exact dc_Ch_addRule 8 rfl) (by decide) ?_
  obtain ⟨j4, e5, h6⟩ := rn_bind h3
  clear h3
  refine rn_aaload (y := 18 + j4) (by exact dc_Ch_addRule 9 rfl) (by exact rfl) (by exact (aI_some e5).1) (by exact aq_restCosts e5) ?_
  refine rn_iload_n (by exact dc_Ch_addRule 10 rfl) (by exact rfl) ?_
  obtain ⟨x7, e8, h9⟩ := rn_bind h6
  clear h6
  refine rn_iaload (by exact dc_Ch_addRule 11 rfl) (by exact ag_restCosts e5) e8 ?_
  refine rn_iconst (v := (-1 : Int32)) (by exact dc_Ch_addRule 12 rfl) (by decide) ?_
  by_cases c10 : ¬ x7 = (-1 : Int32)
  · replace h9 := rn_ifp c10 h9
    refine rn_icmp_ne_t 22 (by exact dc_Ch_addRule 13 rfl) (by exact rfl) c10 ?_
    refine rn_aload_n (by exact dc_Ch_addRule 15 rfl) (by exact rfl) ?_
    refine rn_getf (v := .ref 45) fd_Ch_73 (by exact dc_Ch_addRule 16 rfl) (by exact rfl) (by exact rfl) ?_
    refine rn_iload_n (by exact dc_Ch_addRule 17 rfl) (by exact rfl) ?_
    obtain ⟨x11, e12, h13⟩ := rn_bind h9
    clear h9
    refine rn_iaload (by exact dc_Ch_addRule 18 rfl) (by exact rfl) e12 ?_
    refine rn_iload_n (by exact dc_Ch_addRule 19 rfl) (by exact rfl) ?_
    refine rn_iload (by exact dc_Ch_addRule 20 rfl) (by exact rfl) ?_
    obtain ⟨x15, e14, h16⟩ := rn_bind h13
    clear h13
    refine rn_invS0 (by exact c_Ch_cell e14) is_Ch_49 (by exact ⟨Nat.le_of_ble_eq_true rfl, Nat.le_of_ble_eq_true rfl⟩) (by exact dc_Ch_addRule 21 rfl) (by exact rfl) (by exact rfl) (by exact Nat.le_of_ble_eq_true rfl) ?_
    show Rn _ _ 34 [some (.ref 4), some (.ref 44), some (.int v0), some (.int v1), some (.int v2), none, none] [.int x15] (emb g1 g2 x d c2 u t a b m o E) _ _ _
    refine rn_istore (ls' := [some (.ref 4), some (.ref 44), some (.int v0), some (.int v1), some (.int v2), some (.int x15), none]) (by exact dc_Ch_addRule 22 rfl) (by decide) (by exact rfl) ?_
    refine rn_aload_n (by exact dc_Ch_addRule 23 rfl) (by exact rfl) ?_
    refine rn_getf (v := .ref 5) fd_Ch_11 (by exact dc_Ch_addRule 24 rfl) (by exact rfl) (by exact rfl) ?_
    refine rn_iload (by exact dc_Ch_addRule 25 rfl) (by exact rfl) ?_
    refine rn_dup2 (by exact dc_Ch_addRule 26 rfl) (by exact rfl) (by exact rfl) ?_
    obtain ⟨x17, e18, h19⟩ := rn_bind h16
    clear h16
    refine rn_laload (by exact dc_Ch_addRule 27 rfl) (by exact rfl) e18 ?_
    refine rn_aload_n (by exact dc_Ch_addRule 28 rfl) (by exact rfl) ?_
    refine rn_getf (v := .ref 48) fd_Ch_86 (by exact dc_Ch_addRule 29 rfl) (by exact rfl) (by exact rfl) ?_
    refine rn_iload_n (by exact dc_Ch_addRule 30 rfl) (by exact rfl) ?_
    obtain ⟨x20, e21, h22⟩ := rn_bind h19
    clear h19
    refine rn_laload (by exact dc_Ch_addRule 31 rfl) (by exact rfl) e21 ?_
    refine rn_aload_n (by exact dc_Ch_addRule 32 rfl) (by exact rfl) ?_
    refine rn_getf (v := .ref 11) fd_Ch_38 (by exact dc_Ch_addRule 33 rfl) (by exact rfl) (by exact rfl) ?_
    refine rn_iconst (v := (0 : Int32)) (by exact dc_Ch_addRule 34 rfl) (by decide) ?_
    obtain ⟨j23, e24, h25⟩ := rn_bind h22
    clear h22
    refine rn_aaload (y := 12 + j23) (by exact dc_Ch_addRule 35 rfl) (by exact rfl) (by exact (aI_some e24).1) (by exact aq_restSums e24) ?_
    refine rn_iload_n (by exact dc_Ch_addRule 36 rfl) (by exact rfl) ?_
    obtain ⟨x26, e27, h28⟩ := rn_bind h25
    clear h25
    refine rn_laload (by exact dc_Ch_addRule 37 rfl) (by exact ag_restSums e24) e27 ?_
    refine rn_lmul (by exact dc_Ch_addRule 38 rfl) ?_
    refine rn_ladd (by exact dc_Ch_addRule 39 rfl) ?_
    obtain ⟨f29, e30, h31⟩ := rn_bind h28
    clear h28
    refine rn_lastore (w2 := (emb g1 g2 x d (f29, C_costs c2, C_rules c2, C_sizes c2, C_lengths c2, C_letters c2, C_textLength c2, C_restSums c2, C_restCosts c2, C_restLengths c2) u t a b m o E)) (by exact dc_Ch_addRule 40 rfl) (by exact rfl) e30 (by exact rfl) ?_
    refine rn_aload_n (by exact dc_Ch_addRule 41 rfl) (by exact rfl) ?_
    refine rn_getf (v := .ref 49) fd_Ch_89 (by exact dc_Ch_addRule 42 rfl) (by exact rfl) (by exact rfl) ?_
    refine rn_iload_n (by exact dc_Ch_addRule 43 rfl) (by exact rfl) ?_
    obtain ⟨x32, e33, h34⟩ := rn_bind h31
    clear h31
    refine rn_iaload (by exact dc_Ch_addRule 44 rfl) (by exact rfl) e33 ?_
    refine rn_aload_n (by exact dc_Ch_addRule 45 rfl) (by exact rfl) ?_
    refine rn_getf (v := .ref 17) fd_Ch_43 (by exact dc_Ch_addRule 46 rfl) (by exact rfl) (by exact rfl) ?_
    refine rn_iconst (v := (0 : Int32)) (by exact dc_Ch_addRule 47 rfl) (by decide) ?_
    obtain ⟨j35, e36, h37⟩ := rn_bind h34
    clear h34
    refine rn_aaload (y := 18 + j35) (by exact dc_Ch_addRule 48 rfl) (by exact rfl) (by exact (aI_some e36).1) (by exact aq_restCosts e36) ?_
    refine rn_iload_n (by exact dc_Ch_addRule 49 rfl) (by exact rfl) ?_
    obtain ⟨x38, e39, h40⟩ := rn_bind h37
    clear h37
    refine rn_iaload (by exact dc_Ch_addRule 50 rfl) (by exact ag_restCosts e36) e39 ?_
    refine rn_iadd (by exact dc_Ch_addRule 51 rfl) ?_
    refine rn_istore (ls' := [some (.ref 4), some (.ref 44), some (.int v0), some (.int v1), some (.int v2), some (.int x15), some (.int (x32 + x38))]) (by exact dc_Ch_addRule 52 rfl) (by decide) (by exact rfl) ?_
    refine rn_aload_n (by exact dc_Ch_addRule 53 rfl) (by exact rfl) ?_
    refine rn_getf (v := .ref 6) fd_Ch_15 (by exact dc_Ch_addRule 54 rfl) (by exact rfl) (by exact rfl) ?_
    refine rn_iload (by exact dc_Ch_addRule 55 rfl) (by exact rfl) ?_
    obtain ⟨x41, e42, h43⟩ := rn_bind h40
    clear h40
    refine rn_iaload (by exact dc_Ch_addRule 56 rfl) (by exact rfl) e42 ?_
    refine rn_iconst (v := (-1 : Int32)) (by exact dc_Ch_addRule 57 rfl) (by decide) ?_
    obtain ⟨c44, e45, h47⟩ := rn_bind h43
    clear h43
    have jq46 : Rn Z M_Ch_addRule 127 [none, none, none, none, none, none, none] [] (emb g1 g2 x d c44 u t a b m o E) 0 0 (rn_Ret Z none (emb g1 g2 x d c_r u t a b m o E)) := by
      cases h47
      exact rn_return (by exact dc_Ch_addRule 81 rfl) (by exact rfl)
    by_cases c48 : x41 = (-1 : Int32)
    · replace e45 := rn_ifp c48 e45
      refine rn_icmp_eq_t 101 (by exact dc_Ch_addRule 58 rfl) (by exact rfl) c48 ?_
      refine rn_aload_n (by exact dc_Ch_addRule 65 rfl) (by exact rfl) ?_
      refine rn_getf (v := .ref 6) fd_Ch_15 (by exact dc_Ch_addRule 66 rfl) (by exact rfl) (by exact rfl) ?_
      refine rn_iload (by exact dc_Ch_addRule 67 rfl) (by exact rfl) ?_
      refine rn_iload (by exact dc_Ch_addRule 68 rfl) (by exact rfl) ?_
      obtain ⟨f49, e50, h51⟩ := rn_bind e45
      clear e45
      refine rn_iastore (w2 := (emb g1 g2 x d (f29, f49, C_rules c2, C_sizes c2, C_lengths c2, C_letters c2, C_textLength c2, C_restSums c2, C_restCosts c2, C_restLengths c2) u t a b m o E)) (by exact dc_Ch_addRule 69 rfl) (by exact rfl) e50 (by exact rfl) ?_
      refine rn_aload_n (by exact dc_Ch_addRule 70 rfl) (by exact rfl) ?_
      refine rn_getf (v := .ref 7) fd_Ch_19 (by exact dc_Ch_addRule 71 rfl) (by exact rfl) (by exact rfl) ?_
      refine rn_iload (by exact dc_Ch_addRule 72 rfl) (by exact rfl) ?_
      refine rn_iload_n (by exact dc_Ch_addRule 73 rfl) (by exact rfl) ?_
      obtain ⟨f52, e53, h54⟩ := rn_bind h51
      clear h51
      refine rn_iastore (w2 := (emb g1 g2 x d (f29, f49, f52, C_sizes c2, C_lengths c2, C_letters c2, C_textLength c2, C_restSums c2, C_restCosts c2, C_restLengths c2) u t a b m o E)) (by exact dc_Ch_addRule 74 rfl) (by exact rfl) e53 (by exact rfl) ?_
      refine rn_aload_n (by exact dc_Ch_addRule 75 rfl) (by exact rfl) ?_
      refine rn_aload_n (by exact dc_Ch_addRule 76 rfl) (by exact rfl) ?_
      refine rn_iload_n (by exact dc_Ch_addRule 77 rfl) (by exact rfl) ?_
      refine rn_iload (by exact dc_Ch_addRule 78 rfl) (by exact rfl) ?_
      refine rn_iload_n (by exact dc_Ch_addRule 79 rfl) (by exact rfl) ?_
      obtain ⟨c56, e55, h57⟩ := rn_bind h54
      clear h54
      refine rn_invV0 (by exact c_Ch_keepBody_b e55) iv_Ch_90 (by exact ⟨Nat.le_of_ble_eq_true rfl, Nat.le_of_ble_eq_true rfl⟩) (by exact dc_Ch_addRule 80 rfl) (by exact rfl) (by exact rfl) (by exact rfl) (by exact Nat.le_of_ble_eq_true rfl) ?_
      show Rn _ _ 127 [some (.ref 4), some (.ref 44), some (.int v0), some (.int v1), some (.int v2), some (.int x15), some (.int (x32 + x38))] [] (emb g1 g2 x d c56 u t a b m o E) _ _ _
      cases h57
      exact rn_weak _ (by repeat (first | exact rn_le_0 | apply rn_le_s | apply rn_le_x)) jq46
    · replace e45 := rn_ifn c48 e45
      refine rn_icmp_eq_f 101 (by exact dc_Ch_addRule 58 rfl) (by exact rfl) c48 ?_
      refine rn_iload (by exact dc_Ch_addRule 59 rfl) (by exact rfl) ?_
      refine rn_aload_n (by exact dc_Ch_addRule 60 rfl) (by exact rfl) ?_
      refine rn_getf (v := .ref 6) fd_Ch_15 (by exact dc_Ch_addRule 61 rfl) (by exact rfl) (by exact rfl) ?_
      refine rn_iload (by exact dc_Ch_addRule 62 rfl) (by exact rfl) ?_
      obtain ⟨x58, e59, h60⟩ := rn_bind e45
      clear e45
      refine rn_iaload (by exact dc_Ch_addRule 63 rfl) (by exact rfl) e59 ?_
      by_cases c61 : x58 ≤ (x32 + x38)
      · replace h60 := rn_ifp c61 h60
        refine rn_icmp_ge_t 127 (by exact dc_Ch_addRule 64 rfl) (by exact rfl) c61 ?_
        cases h60
        exact rn_weak _ (by repeat (first | exact rn_le_0 | apply rn_le_s | apply rn_le_x)) jq46
      · replace h60 := rn_ifn c61 h60
        refine rn_icmp_ge_f 127 (by exact dc_Ch_addRule 64 rfl) (by exact rfl) c61 ?_
        refine rn_aload_n (by exact dc_Ch_addRule 65 rfl) (by exact rfl) ?_
        refine rn_getf (v := .ref 6) fd_Ch_15 (by exact dc_Ch_addRule 66 rfl) (by exact rfl) (by exact rfl) ?_
        refine rn_iload (by exact dc_Ch_addRule 67 rfl) (by exact rfl) ?_
        refine rn_iload (by exact dc_Ch_addRule 68 rfl) (by exact rfl) ?_
        obtain ⟨f62, e63, h64⟩ := rn_bind h60
        clear h60
        refine rn_iastore (w2 := (emb g1 g2 x d (f29, f62, C_rules c2, C_sizes c2, C_lengths c2, C_letters c2, C_textLength c2, C_restSums c2, C_restCosts c2, C_restLengths c2) u t a b m o E)) (by exact dc_Ch_addRule 69 rfl) (by exact rfl) e63 (by exact rfl) ?_
        refine rn_aload_n (by exact dc_Ch_addRule 70 rfl) (by exact rfl) ?_
        refine rn_getf (v := .ref 7) fd_Ch_19 (by exact dc_Ch_addRule 71 rfl) (by exact rfl) (by exact rfl) ?_
        refine rn_iload (by exact dc_Ch_addRule 72 rfl) (by exact rfl) ?_
        refine rn_iload_n (by exact dc_Ch_addRule 73 rfl) (by exact rfl) ?_
        obtain ⟨f65, e66, h67⟩ := rn_bind h64
        clear h64
        refine rn_iastore (w2 := (emb g1 g2 x d (f29, f62, f65, C_sizes c2, C_lengths c2, C_letters c2, C_textLength c2, C_restSums c2, C_restCosts c2, C_restLengths c2) u t a b m o E)) (by exact dc_Ch_addRule 74 rfl) (by exact rfl) e66 (by exact rfl) ?_
        refine rn_aload_n (by exact dc_Ch_addRule 75 rfl) (by exact rfl) ?_
        refine rn_aload_n (by exact dc_Ch_addRule 76 rfl) (by exact rfl) ?_
        refine rn_iload_n (by exact dc_Ch_addRule 77 rfl) (by exact rfl) ?_
        refine rn_iload (by exact dc_Ch_addRule 78 rfl) (by exact rfl) ?_
        refine rn_iload_n (by exact dc_Ch_addRule 79 rfl) (by exact rfl) ?_
        obtain ⟨c69, e68, h70⟩ := rn_bind h67
        clear h67
        refine rn_invV0 (by exact c_Ch_keepBody_b e68) iv_Ch_90 (by exact ⟨Nat.le_of_ble_eq_true rfl, Nat.le_of_ble_eq_true rfl⟩) (by exact dc_Ch_addRule 80 rfl) (by exact rfl) (by exact rfl) (by exact rfl) (by exact Nat.le_of_ble_eq_true rfl) ?_
        show Rn _ _ 127 [some (.ref 4), some (.ref 44), some (.int v0), some (.int v1), some (.int v2), some (.int x15), some (.int (x32 + x38))] [] (emb g1 g2 x d c69 u t a b m o E) _ _ _
        cases h70
        exact rn_weak _ (by repeat (first | exact rn_le_0 | apply rn_le_s | apply rn_le_x)) jq46
  · replace h9 := rn_ifn c10 h9
    refine rn_icmp_ne_f 22 (by exact dc_Ch_addRule 13 rfl) (by exact rfl) (Classical.not_not.mp c10) ?_
    cases h9
    exact rn_return (by exact dc_Ch_addRule 14 rfl) (by exact rfl)
set_option maxHeartbeats 4000000 in
set_option maxRecDepth 100000 in
theorem p_Ch_fillPart_L3_b {Z : rn_Z} {g1 g2 : Nat} {x : tX} {d : tD}  {u : tU} {t : tT} {a : tG} {b : tG} {m : tM} {o : tO} {E : List rn_C}  {l2 : Int32} {l3 : Int32} {K : rn_K} {ca sa : Nat} {cz : tC} (hx : Rn Z M_Ch_fillPart 42 [some (.ref 4), some (.ref 44), some (.int l2), some (.int l3), none, none] [] (emb g1 g2 x d cz u t a b m o E) ca sa K) (n : Nat) : ∀ (c : tC) (l4 : Int32), F_Ch_fillPart_L3 l2 l3 n c l4 = some cz → Rn Z M_Ch_fillPart 3 [some (.ref 4), some (.ref 44), some (.int l2), some (.int l3), some (.int l4), none] [] (emb g1 g2 x d c u t a b m o E) ca sa K := by
  induction n with
  | zero =>
    intro c l4 h
    rw [F_Ch_fillPart_L3] at h
    cases h
  | succ n ih =>
    intro c l4 h
    rw [F_Ch_fillPart_L3] at h
    refine rn_iload (by exact dc_Ch_fillPart 2 rfl) (by exact rfl) ?_
    refine rn_bipush (v := (6 : Int32)) (by exact dc_Ch_fillPart 3 rfl) (by decide) ?_
    by_cases c1 : (6 : Int32) ≤ l4
    · replace h := rn_ifp c1 h
      refine rn_icmp_ge_t 42 (by exact dc_Ch_fillPart 4 rfl) (by exact rfl) c1 ?_
      cases h
      exact rn_weak _ (by repeat (first | exact rn_le_0 | apply rn_le_s | apply rn_le_x)) hx
    · replace h := rn_ifn c1 h
      refine rn_icmp_ge_f 42 (by exact dc_Ch_fillPart 4 rfl) (by exact rfl) c1 ?_
      refine rn_aload_n (by exact dc_Ch_fillPart 5 rfl) (by exact rfl) ?_
      refine rn_getf (v := .ref 5) fd_Ch_11 (by exact dc_Ch_fillPart 6 rfl) (by exact rfl) (by exact rfl) ?_
      refine rn_iload (by exact dc_Ch_fillPart 7 rfl) (by exact rfl) ?_
      refine rn_iload_n (by exact dc_Ch_fillPart 8 rfl) (by exact rfl) ?_
      refine rn_iload_n (by exact dc_Ch_fillPart 9 rfl) (by exact rfl) ?_
      obtain ⟨x3, e2, h4⟩ := rn_bind h
      clear h
      refine rn_invS0 (by exact c_Ch_cell e2) is_Ch_49 (by exact ⟨Nat.le_of_ble_eq_true rfl, Nat.le_of_ble_eq_true rfl⟩) (by exact dc_Ch_fillPart 10 rfl) (by exact rfl) (by exact rfl) (by exact Nat.le_of_ble_eq_true rfl) ?_
      show Rn _ _ 21 [some (.ref 4), some (.ref 44), some (.int l2), some (.int l3), some (.int l4), none] [.int x3, .ref 5] (emb g1 g2 x d c u t a b m o E) _ _ _
      refine rn_lconst (v := (0 : Int64)) (by exact dc_Ch_fillPart 11 rfl) (by decide) ?_
      obtain ⟨f5, e6, h7⟩ := rn_bind h4
      clear h4
      refine rn_lastore (w2 := (emb g1 g2 x d (f5, C_costs c, C_rules c, C_sizes c, C_lengths c, C_letters c, C_textLength c, C_restSums c, C_restCosts c, C_restLengths c) u t a b m o E)) (by exact dc_Ch_fillPart 12 rfl) (by exact rfl) e6 (by exact rfl) ?_
      refine rn_aload_n (by exact dc_Ch_fillPart 13 rfl) (by exact rfl) ?_
      refine rn_getf (v := .ref 6) fd_Ch_15 (by exact dc_Ch_fillPart 14 rfl) (by exact rfl) (by exact rfl) ?_
      refine rn_iload (by exact dc_Ch_fillPart 15 rfl) (by exact rfl) ?_
      refine rn_iload_n (by exact dc_Ch_fillPart 16 rfl) (by exact rfl) ?_
      refine rn_iload_n (by exact dc_Ch_fillPart 17 rfl) (by exact rfl) ?_
      obtain ⟨x9, e8, h10⟩ := rn_bind h7
      clear h7
      refine rn_invS0 (by exact c_Ch_cell e8) is_Ch_49 (by exact ⟨Nat.le_of_ble_eq_true rfl, Nat.le_of_ble_eq_true rfl⟩) (by exact dc_Ch_fillPart 18 rfl) (by exact rfl) (by exact rfl) (by exact Nat.le_of_ble_eq_true rfl) ?_
      show Rn _ _ 34 [some (.ref 4), some (.ref 44), some (.int l2), some (.int l3), some (.int l4), none] [.int x9, .ref 6] (emb g1 g2 x d (f5, C_costs c, C_rules c, C_sizes c, C_lengths c, C_letters c, C_textLength c, C_restSums c, C_restCosts c, C_restLengths c) u t a b m o E) _ _ _
      refine rn_iconst (v := (-1 : Int32)) (by exact dc_Ch_fillPart 19 rfl) (by decide) ?_
      obtain ⟨f11, e12, h13⟩ := rn_bind h10
      clear h10
      refine rn_iastore (w2 := (emb g1 g2 x d (f5, f11, C_rules c, C_sizes c, C_lengths c, C_letters c, C_textLength c, C_restSums c, C_restCosts c, C_restLengths c) u t a b m o E)) (by exact dc_Ch_fillPart 20 rfl) (by exact rfl) e12 (by exact rfl) ?_
      refine rn_iinc (ls' := [some (.ref 4), some (.ref 44), some (.int l2), some (.int l3), some (.int (l4 + 1)), none]) (by exact dc_Ch_fillPart 21 rfl) (by decide) (by exact rfl) (by exact rn_inc_1 _) (by exact rfl) ?_
      refine rn_goto 3 (by exact dc_Ch_fillPart 22 rfl) (by exact rfl) ?_
      exact rn_weak _ (by repeat (first | exact rn_le_0 | apply rn_le_s | apply rn_le_x)) (ih _ _ h13)
set_option maxHeartbeats 4000000 in
set_option maxRecDepth 100000 in
theorem p_Ch_fillPart_L57_b {Z : rn_Z} {g1 g2 : Nat} {x : tX} {d : tD}  {u : tU} {t : tT} {a : tG} {b : tG} {m : tM} {o : tO} {E : List rn_C}  {l2 : Int32} {l3 : Int32} {l4 : Int32} {K : rn_K} {ca sa : Nat} {cz : tC} (hx : Rn Z M_Ch_fillPart 98 [some (.ref 4), some (.ref 44), some (.int l2), some (.int l3), some (.int l4), none] [] (emb g1 g2 x d cz u t a b m o E) ca sa K) (n : Nat) : ∀ (c : tC) (l5 : Int32), F_Ch_fillPart_L57 b l2 l3 l4 n c l5 = some cz → Rn Z M_Ch_fillPart 57 [some (.ref 4), some (.ref 44), some (.int l2), some (.int l3), some (.int l4), some (.int l5)] [] (emb g1 g2 x d c u t a b m o E) ca sa K := by
  induction n with
  | zero =>
    intro c l5 h
    rw [F_Ch_fillPart_L57] at h
    cases h
  | succ n ih =>
    intro c l5 h
    rw [F_Ch_fillPart_L57] at h
    refine rn_iload (by exact dc_Ch_fillPart 31 rfl) (by exact rfl) ?_
    refine rn_aload_n (by exact dc_Ch_fillPart 32 rfl) (by exact rfl) ?_
    refine rn_getf (v := .int (G_ruleCount b)) fd_Ch_70 (by exact dc_Ch_fillPart 33 rfl) (by exact rfl) (by exact rfl) ?_
    by_cases c1 : (G_ruleCount b) ≤ l5
    · replace h := rn_ifp c1 h
      refine rn_icmp_ge_t 98 (by exact dc_Ch_fillPart 34 rfl) (by exact rfl) c1 ?_
      cases h
      exact rn_weak _ (by repeat (first | exact rn_le_0 | apply rn_le_s | apply rn_le_x)) hx
    · replace h := rn_ifn c1 h
      refine rn_icmp_ge_f 98 (by exact dc_Ch_fillPart 34 rfl) (by exact rfl) c1 ?_
      refine rn_aload_n (by exact dc_Ch_fillPart 35 rfl) (by exact rfl) ?_
      refine rn_getf (v := .ref 45) fd_Ch_73 (by exact dc_Ch_fillPart 36 rfl) (by exact rfl) (by exact rfl) ?_
      refine rn_iload (by exact dc_Ch_fillPart 37 rfl) (by exact rfl) ?_
      obtain ⟨x2, e3, h4⟩ := rn_bind h
      clear h
      refine rn_iaload (by exact dc_Ch_fillPart 38 rfl) (by exact rfl) e3 ?_
      refine rn_aload_n (by exact dc_Ch_fillPart 39 rfl) (by exact rfl) ?_
      refine rn_getf (v := .ref 51) fd_Ch_76 (by exact dc_Ch_fillPart 40 rfl) (by exact rfl) (by exact rfl) ?_
      refine rn_iload (by exact dc_Ch_fillPart 41 rfl) (by exact rfl) ?_
      obtain ⟨x5, e6, h7⟩ := rn_bind h4
      clear h4
      refine rn_iaload (by exact dc_Ch_fillPart 42 rfl) (by exact rfl) e6 ?_
      obtain ⟨c8, e9, h11⟩ := rn_bind h7
      clear h7
      have jq10 : Rn Z M_Ch_fillPart 92 [some (.ref 4), some (.ref 44), some (.int l2), some (.int l3), some (.int l4), some (.int l5)] [] (emb g1 g2 x d c8 u t a b m o E) ca sa K := by
        refine rn_iinc (ls' := [some (.ref 4), some (.ref 44), some (.int l2), some (.int l3), some (.int l4), some (.int (l5 + 1))]) (by exact dc_Ch_fillPart 50 rfl) (by decide) (by exact rfl) (by exact rn_inc_1 _) (by exact rfl) ?_
        refine rn_goto 57 (by exact dc_Ch_fillPart 51 rfl) (by exact rfl) ?_
        exact rn_weak _ (by repeat (first | exact rn_le_0 | apply rn_le_s | apply rn_le_x)) (ih _ _ h11)
      by_cases c12 : ¬ x2 = x5
      · replace e9 := rn_ifp c12 e9
        refine rn_icmp_ne_t 92 (by exact dc_Ch_fillPart 43 rfl) (by exact rfl) c12 ?_
        cases e9
        exact rn_weak _ (by repeat (first | exact rn_le_0 | apply rn_le_s | apply rn_le_x)) jq10
      · replace e9 := rn_ifn c12 e9
        refine rn_icmp_ne_f 92 (by exact dc_Ch_fillPart 43 rfl) (by exact rfl) (Classical.not_not.mp c12) ?_
        refine rn_aload_n (by exact dc_Ch_fillPart 44 rfl) (by exact rfl) ?_
        refine rn_aload_n (by exact dc_Ch_fillPart 45 rfl) (by exact rfl) ?_
        refine rn_iload (by exact dc_Ch_fillPart 46 rfl) (by exact rfl) ?_
        refine rn_iload_n (by exact dc_Ch_fillPart 47 rfl) (by exact rfl) ?_
        refine rn_iload_n (by exact dc_Ch_fillPart 48 rfl) (by exact rfl) ?_
        obtain ⟨c14, e13, h15⟩ := rn_bind e9
        clear e9
        refine rn_invV0 (by exact c_Ch_addRule_b e13) iv_Ch_79 (by exact ⟨Nat.le_of_ble_eq_true rfl, Nat.le_of_ble_eq_true rfl⟩) (by exact dc_Ch_fillPart 49 rfl) (by exact rfl) (by exact rfl) (by exact rfl) (by exact Nat.le_of_ble_eq_true rfl) ?_
        show Rn _ _ 92 [some (.ref 4), some (.ref 44), some (.int l2), some (.int l3), some (.int l4), some (.int l5)] [] (emb g1 g2 x d c14 u t a b m o E) _ _ _
        cases h15
        exact rn_weak _ (by repeat (first | exact rn_le_0 | apply rn_le_s | apply rn_le_x)) jq10
set_option maxHeartbeats 4000000 in
set_option maxRecDepth 100000 in
theorem p_Ch_fillPart_L45_b {Z : rn_Z} {g1 g2 : Nat} {x : tX} {d : tD}  {u : tU} {t : tT} {a : tG} {b : tG} {m : tM} {o : tO} {E : List rn_C}  {l2 : Int32} {l3 : Int32} {K : rn_K} {ca sa : Nat} {cz : tC} (hx : Rn Z M_Ch_fillPart 104 [none, none, none, none, none, none] [] (emb g1 g2 x d cz u t a b m o E) ca sa K) (n : Nat) : ∀ (c : tC) (l4 : Int32), F_Ch_fillPart_L45 b l2 l3 n c l4 = some cz → Rn Z M_Ch_fillPart 45 [some (.ref 4), some (.ref 44), some (.int l2), some (.int l3), some (.int l4), none] [] (emb g1 g2 x d c u t a b m o E) ca sa K := by
  induction n with
  | zero =>
    intro c l4 h
    rw [F_Ch_fillPart_L45] at h
    cases h
  | succ n ih =>
    intro c l4 h
    rw [F_Ch_fillPart_L45] at h
    refine rn_iload (by exact dc_Ch_fillPart 25 rfl) (by exact rfl) ?_
    refine rn_aload_n (by exact dc_Ch_fillPart 26 rfl) (by exact rfl) ?_
    refine rn_getf (v := .int (G_nonterminalCount b)) fd_Ch_65 (by exact dc_Ch_fillPart 27 rfl) (by exact rfl) (by exact rfl) ?_
    by_cases c1 : (G_nonterminalCount b) ≤ l4
    · replace h := rn_ifp c1 h
      refine rn_icmp_ge_t 104 (by exact dc_Ch_fillPart 28 rfl) (by exact rfl) c1 ?_
      cases h
      exact rn_weak _ (by repeat (first | exact rn_le_0 | apply rn_le_s | apply rn_le_x)) hx
    · replace h := rn_ifn c1 h
      refine rn_icmp_ge_f 104 (by exact dc_Ch_fillPart 28 rfl) (by exact rfl) c1 ?_
      refine rn_iconst (v := (0 : Int32)) (by exact dc_Ch_fillPart 29 rfl) (by decide) ?_
      refine rn_istore (ls' := [some (.ref 4), some (.ref 44), some (.int l2), some (.int l3), some (.int l4), some (.int (0 : Int32))]) (by exact dc_Ch_fillPart 30 rfl) (by decide) (by exact rfl) ?_
      obtain ⟨c5, e2, h4⟩ := rn_bind h
      clear h
      have jx3 : Rn Z M_Ch_fillPart 98 [some (.ref 4), some (.ref 44), some (.int l2), some (.int l3), some (.int l4), none] [] (emb g1 g2 x d c5 u t a b m o E) ca sa K := by
        refine rn_iinc (ls' := [some (.ref 4), some (.ref 44), some (.int l2), some (.int l3), some (.int (l4 + 1)), none]) (by exact dc_Ch_fillPart 52 rfl) (by decide) (by exact rfl) (by exact rn_inc_1 _) (by exact rfl) ?_
        refine rn_goto 45 (by exact dc_Ch_fillPart 53 rfl) (by exact rfl) ?_
        exact rn_weak _ (by repeat (first | exact rn_le_0 | apply rn_le_s | apply rn_le_x)) (ih _ _ h4)
      exact rn_weak _ (by repeat (first | exact rn_le_0 | apply rn_le_s | apply rn_le_x)) (p_Ch_fillPart_L57_b jx3 _ _ _ e2)
set_option maxHeartbeats 4000000 in
set_option maxRecDepth 100000 in
theorem c_Ch_fillPart_b {Z : rn_Z} {g1 g2 : Nat} {x : tX} {d : tD} {c : tC} {u : tU} {t : tT} {a : tG} {b : tG} {m : tM} {o : tO} {E : List rn_C} {v0 : Int32} {v1 : Int32} {c_r : tC} (h : F_Ch_fillPart c b v0 v1 = some c_r) : Call Z M_Ch_fillPart [.ref 4, .ref 44, .int v0, .int v1] (emb g1 g2 x d c u t a b m o E) 0 0 none (emb g1 g2 x d c_r u t a b m o E) := by
  unfold F_Ch_fillPart at h
  refine rn_call (by decide) 2 (by exact Nat.le_of_ble_eq_true rfl) ?_
  show Rn Z M_Ch_fillPart 0 [some (.ref 4), some (.ref 44), some (.int v0), some (.int v1), none, none] [] (emb g1 g2 x d c u t a b m o E) 0 0 _
  refine rn_iconst (v := (0 : Int32)) (by exact dc_Ch_fillPart 0 rfl) (by decide) ?_
  refine rn_istore (ls' := [some (.ref 4), some (.ref 44), some (.int v0), some (.int v1), some (.int (0 : Int32)), none]) (by exact dc_Ch_fillPart 1 rfl) (by decide) (by exact rfl) ?_
  obtain ⟨c4, e1, h3⟩ := rn_bind h
  clear h
  have jx2 : Rn Z M_Ch_fillPart 42 [some (.ref 4), some (.ref 44), some (.int v0), some (.int v1), none, none] [] (emb g1 g2 x d c4 u t a b m o E) 0 0 (rn_Ret Z none (emb g1 g2 x d c_r u t a b m o E)) := by
    refine rn_iconst (v := (0 : Int32)) (by exact dc_Ch_fillPart 23 rfl) (by decide) ?_
    refine rn_istore (ls' := [some (.ref 4), some (.ref 44), some (.int v0), some (.int v1), some (.int (0 : Int32)), none]) (by exact dc_Ch_fillPart 24 rfl) (by decide) (by exact rfl) ?_
    obtain ⟨c8, e5, h7⟩ := rn_bind h3
    clear h3
    have jx6 : Rn Z M_Ch_fillPart 104 [none, none, none, none, none, none] [] (emb g1 g2 x d c8 u t a b m o E) 0 0 (rn_Ret Z none (emb g1 g2 x d c_r u t a b m o E)) := by
      cases h7
      exact rn_return (by exact dc_Ch_fillPart 54 rfl) (by exact rfl)
    exact rn_weak _ (by repeat (first | exact rn_le_0 | apply rn_le_s | apply rn_le_x)) (p_Ch_fillPart_L45_b jx6 _ _ _ e5)
  exact rn_weak _ (by repeat (first | exact rn_le_0 | apply rn_le_s | apply rn_le_x)) (p_Ch_fillPart_L3_b jx2 _ _ _ e1)
def F_Ch_fillText_L12 (a : tG) (l2 : Int32) : Nat → tC → Int32 → Option tC
  | 0, _, _ => none
  | n + 1, c, l3 =>
    if (C_textLength c) < (l3 + l2) then (
      some c
    ) else (
      Option.bind (F_Ch_fillPart c a l3 (l3 + l2)) fun c3 =>
      F_Ch_fillText_L12 a l2 n c3 (l3 + 1)
    )
set_option maxHeartbeats 4000000 in
set_option maxRecDepth 100000 in
theorem p_Ch_fillText_L12 {Z : rn_Z} {g1 g2 : Nat} {x : tX} {d : tD}  {u : tU} {t : tT} {a : tG} {b : tG} {m : tM} {o : tO} {E : List rn_C}  {l2 : Int32} {K : rn_K} {ca sa : Nat} {cz : tC} (hx : Rn Z M_Ch_fillText 37 [some (.ref 4), some (.ref 35), some (.int l2), none] [] (emb g1 g2 x d cz u t a b m o E) ca sa K) (n : Nat) : ∀ (c : tC) (l3 : Int32), F_Ch_fillText_L12 a l2 n c l3 = some cz → Rn Z M_Ch_fillText 12 [some (.ref 4), some (.ref 35), some (.int l2), some (.int l3)] [] (emb g1 g2 x d c u t a b m o E) ca sa K := by
  induction n with
  | zero =>
    intro c l3 h
    rw [F_Ch_fillText_L12] at h
    cases h
  | succ n ih =>
    intro c l3 h
    rw [F_Ch_fillText_L12] at h
    refine rn_iload_n (by exact dc_Ch_fillText 8 rfl) (by exact rfl) ?_
    refine rn_iload_n (by exact dc_Ch_fillText 9 rfl) (by exact rfl) ?_
    refine rn_iadd (by exact dc_Ch_fillText 10 rfl) ?_
    refine rn_aload_n (by exact dc_Ch_fillText 11 rfl) (by exact rfl) ?_
    refine rn_getf (v := .int (C_textLength c)) fd_Ch_32 (by exact dc_Ch_fillText 12 rfl) (by exact rfl) (by exact rfl) ?_
    by_cases c1 : (C_textLength c) < (l3 + l2)
    · replace h := rn_ifp c1 h
      refine rn_icmp_gt_t 37 (by exact dc_Ch_fillText 13 rfl) (by exact rfl) c1 ?_
      cases h
      exact rn_weak _ (by repeat (first | exact rn_le_0 | apply rn_le_s | apply rn_le_x)) hx
    · replace h := rn_ifn c1 h
      refine rn_icmp_gt_f 37 (by exact dc_Ch_fillText 13 rfl) (by exact rfl) c1 ?_
      refine rn_aload_n (by exact dc_Ch_fillText 14 rfl) (by exact rfl) ?_
      refine rn_aload_n (by exact dc_Ch_fillText 15 rfl) (by exact rfl) ?_
      refine rn_iload_n (by exact dc_Ch_fillText 16 rfl) (by exact rfl) ?_
      refine rn_iload_n (by exact dc_Ch_fillText 17 rfl) (by exact rfl) ?_
      refine rn_iload_n (by exact dc_Ch_fillText 18 rfl) (by exact rfl) ?_
      refine rn_iadd (by exact dc_Ch_fillText 19 rfl) ?_
      obtain ⟨c3, e2, h4⟩ := rn_bind h
      clear h
      refine rn_invV0 (by exact c_Ch_fillPart e2) iv_Ch_61 (by exact ⟨Nat.le_of_ble_eq_true rfl, Nat.le_of_ble_eq_true rfl⟩) (by exact dc_Ch_fillText 20 rfl) (by exact rfl) (by exact rfl) (by exact rfl) (by exact Nat.le_of_ble_eq_true rfl) ?_
      show Rn _ _ 31 [some (.ref 4), some (.ref 35), some (.int l2), some (.int l3)] [] (emb g1 g2 x d c3 u t a b m o E) _ _ _
      refine rn_iinc (ls' := [some (.ref 4), some (.ref 35), some (.int l2), some (.int (l3 + 1))]) (by exact dc_Ch_fillText 21 rfl) (by decide) (by exact rfl) (by exact rn_inc_1 _) (by exact rfl) ?_
      refine rn_goto 12 (by exact dc_Ch_fillText 22 rfl) (by exact rfl) ?_
      exact rn_weak _ (by repeat (first | exact rn_le_0 | apply rn_le_s | apply rn_le_x)) (ih _ _ h4)
def F_Ch_fillText_L2 (a : tG) : Nat → tC → Int32 → Option tC
  | 0, _, _ => none
  | n + 1, c, l2 =>
    if (C_textLength c) < l2 then (
      some c
    ) else (
      Option.bind (F_Ch_fillText_L12 a l2 rn_fu c (0 : Int32)) fun c5 =>
      F_Ch_fillText_L2 a n c5 (l2 + 1)
    )
set_option maxHeartbeats 4000000 in
set_option maxRecDepth 100000 in
theorem p_Ch_fillText_L2 {Z : rn_Z} {g1 g2 : Nat} {x : tX} {d : tD}  {u : tU} {t : tT} {a : tG} {b : tG} {m : tM} {o : tO} {E : List rn_C}   {K : rn_K} {ca sa : Nat} {cz : tC} (hx : Rn Z M_Ch_fillText 43 [none, none, none, none] [] (emb g1 g2 x d cz u t a b m o E) ca sa K) (n : Nat) : ∀ (c : tC) (l2 : Int32), F_Ch_fillText_L2 a n c l2 = some cz → Rn Z M_Ch_fillText 2 [some (.ref 4), some (.ref 35), some (.int l2), none] [] (emb g1 g2 x d c u t a b m o E) ca sa K := by
  induction n with
  | zero =>
    intro c l2 h
    rw [F_Ch_fillText_L2] at h
    cases h
  | succ n ih =>
    intro c l2 h
    rw [F_Ch_fillText_L2] at h
    refine rn_iload_n (by exact dc_Ch_fillText 2 rfl) (by exact rfl) ?_
    refine rn_aload_n (by exact dc_Ch_fillText 3 rfl) (by exact rfl) ?_
    refine rn_getf (v := .int (C_textLength c)) fd_Ch_32 (by exact dc_Ch_fillText 4 rfl) (by exact rfl) (by exact rfl) ?_
    by_cases c1 : (C_textLength c) < l2
    · replace h := rn_ifp c1 h
      refine rn_icmp_gt_t 43 (by exact dc_Ch_fillText 5 rfl) (by exact rfl) c1 ?_
      cases h
      exact rn_weak _ (by repeat (first | exact rn_le_0 | apply rn_le_s | apply rn_le_x)) hx
    · replace h := rn_ifn c1 h
      refine rn_icmp_gt_f 43 (by exact dc_Ch_fillText 5 rfl) (by exact rfl) c1 ?_
      refine rn_iconst (v := (0 : Int32)) (by exact dc_Ch_fillText 6 rfl) (by decide) ?_
      refine rn_istore_n (ls' := [some (.ref 4), some (.ref 35), some (.int l2), some (.int (0 : Int32))]) (by exact dc_Ch_fillText 7 rfl) (by decide) (by exact rfl) ?_
      obtain ⟨c5, e2, h4⟩ := rn_bind h
      clear h
      have jx3 : Rn Z M_Ch_fillText 37 [some (.ref 4), some (.ref 35), some (.int l2), none] [] (emb g1 g2 x d c5 u t a b m o E) ca sa K := by
        refine rn_iinc (ls' := [some (.ref 4), some (.ref 35), some (.int (l2 + 1)), none]) (by exact dc_Ch_fillText 23 rfl) (by decide) (by exact rfl) (by exact rn_inc_1 _) (by exact rfl) ?_
        refine rn_goto 2 (by exact dc_Ch_fillText 24 rfl) (by exact rfl) ?_
        exact rn_weak _ (by repeat (first | exact rn_le_0 | apply rn_le_s | apply rn_le_x)) (ih _ _ h4)
      exact rn_weak _ (by repeat (first | exact rn_le_0 | apply rn_le_s | apply rn_le_x)) (p_Ch_fillText_L12 jx3 _ _ _ e2)
def F_Ch_fillText (c : tC) (a : tG)  : Option tC :=
  Option.bind (F_Ch_fillText_L2 a rn_fu c (1 : Int32)) fun c4 =>
  some c4
set_option maxHeartbeats 4000000 in
set_option maxRecDepth 100000 in
theorem c_Ch_fillText {Z : rn_Z} {g1 g2 : Nat} {x : tX} {d : tD} {c : tC} {u : tU} {t : tT} {a : tG} {b : tG} {m : tM} {o : tO} {E : List rn_C}  {c_r : tC} (h : F_Ch_fillText c a  = some c_r) : Call Z M_Ch_fillText [.ref 4, .ref 35] (emb g1 g2 x d c u t a b m o E) 0 0 none (emb g1 g2 x d c_r u t a b m o E) := by
  unfold F_Ch_fillText at h
  refine rn_call (by decide) 2 (by exact Nat.le_of_ble_eq_true rfl) ?_
  show Rn Z M_Ch_fillText 0 [some (.ref 4), some (.ref 35), none, none] [] (emb g1 g2 x d c u t a b m o E) 0 0 _
  refine rn_iconst (v := (1 : Int32)) (by exact dc_Ch_fillText 0 rfl) (by decide) ?_
  refine rn_istore_n (ls' := [some (.ref 4), some (.ref 35), some (.int (1 : Int32)), none]) (by exact dc_Ch_fillText 1 rfl) (by decide) (by exact rfl) ?_
  obtain ⟨c4, e1, h3⟩ := rn_bind h
  clear h
  have jx2 : Rn Z M_Ch_fillText 43 [none, none, none, none] [] (emb g1 g2 x d c4 u t a b m o E) 0 0 (rn_Ret Z none (emb g1 g2 x d c_r u t a b m o E)) := by
    cases h3
    exact rn_return (by exact dc_Ch_fillText 25 rfl) (by exact rfl)
  exact rn_weak _ (by repeat (first | exact rn_le_0 | apply rn_le_s | apply rn_le_x)) (p_Ch_fillText_L2 jx2 _ _ _ e1)
def F_Ut_sum (u : tU) (v0 : Int32) (v1 : Int32) : Option Int64 :=
  Option.bind (aG u 36 ((v0 * (6 : Int32)) + v1)) fun x1 =>
  some x1
set_option maxHeartbeats 4000000 in
set_option maxRecDepth 100000 in
theorem c_Ut_sum {Z : rn_Z} {g1 g2 : Nat} {x : tX} {d : tD} {c : tC} {u : tU} {t : tT} {a : tG} {b : tG} {m : tM} {o : tO} {E : List rn_C} {v0 : Int32} {v1 : Int32} {res : Int64} (h : F_Ut_sum u v0 v1 = some res) : Call Z M_Ut_sum [.ref 28, .int v0, .int v1] (emb g1 g2 x d c u t a b m o E) 0 0 (some (.long res)) (emb g1 g2 x d c u t a b m o E) := by
  unfold F_Ut_sum at h
  refine rn_call (by decide) 0 (by exact Nat.le_of_ble_eq_true rfl) ?_
  show Rn Z M_Ut_sum 0 [some (.ref 28), some (.int v0), some (.int v1)] [] (emb g1 g2 x d c u t a b m o E) 0 0 _
  refine rn_aload_n (by exact dc_Ut_sum 0 rfl) (by exact rfl) ?_
  refine rn_getf (v := .ref 29) fd_Ut_9 (by exact dc_Ut_sum 1 rfl) (by exact rfl) (by exact rfl) ?_
  refine rn_iload_n (by exact dc_Ut_sum 2 rfl) (by exact rfl) ?_
  refine rn_bipush (v := (6 : Int32)) (by exact dc_Ut_sum 3 rfl) (by decide) ?_
  refine rn_imul (by exact dc_Ut_sum 4 rfl) ?_
  refine rn_iload_n (by exact dc_Ut_sum 5 rfl) (by exact rfl) ?_
  refine rn_iadd (by exact dc_Ut_sum 6 rfl) ?_
  obtain ⟨x1, e2, h3⟩ := rn_bind h
  clear h
  refine rn_laload (by exact dc_Ut_sum 7 rfl) (by exact rfl) e2 ?_
  cases h3
  exact rn_lreturn (by exact dc_Ut_sum 8 rfl) (by exact rfl)
def F_Ut_emptyProduct_L6 (c : tC) (b : tG) (l2 : Int32) (l3 : Int32) : Nat → Int64 → Int32 → Option Int64
  | 0, _, _ => none
  | n + 1, l4, l6 =>
    Option.bind (aG (G_bodyLengths b) 12 l2) fun x1 =>
    if x1 ≤ l6 then (
      some l4
    ) else (
      Option.bind (F_Gr_symbol b l2 l6) fun x6 =>
      Option.bind (
        if l6 = l3 then (
          some (l4 : Int64)
        ) else (
          Option.bind (F_Gr_isNonterminal  x6) fun x14 =>
          Option.bind (
            if x14 = 0 then (
              some (0 : Int64)
            ) else (
              Option.bind (F_Ch_emptySum c x6) fun x22 =>
              some (x22 : Int64)
            )
           : Option Int64) fun y16 =>
          some (l4 * y16 : Int64)
        )
       : Option Int64) fun y8 =>
      F_Ut_emptyProduct_L6 c b l2 l3 n y8 (l6 + 1)
    )
set_option maxHeartbeats 4000000 in
set_option maxRecDepth 100000 in
theorem p_Ut_emptyProduct_L6_b {Z : rn_Z} {g1 g2 : Nat} {x : tX} {d : tD} {c : tC} {u : tU} {t : tT} {a : tG} {b : tG} {m : tM} {o : tO} {E : List rn_C}  {l2 : Int32} {l3 : Int32} {K : rn_K} {ca sa : Nat} {z4 : Int64} (hx : Rn Z M_Ut_emptyProduct 61 [none, none, none, none, some (.long z4), none, none, none] [] (emb g1 g2 x d c u t a b m o E) ca sa K) (n : Nat) : ∀ (l4 : Int64) (l6 : Int32), F_Ut_emptyProduct_L6 c b l2 l3 n l4 l6 = some z4 → Rn Z M_Ut_emptyProduct 6 [some (.ref 44), some (.ref 4), some (.int l2), some (.int l3), some (.long l4), none, some (.int l6), none] [] (emb g1 g2 x d c u t a b m o E) ca sa K := by
  induction n with
  | zero =>
    intro l4 l6 h
    rw [F_Ut_emptyProduct_L6] at h
    cases h
  | succ n ih =>
    intro l4 l6 h
    rw [F_Ut_emptyProduct_L6] at h
    refine rn_iload (by exact dc_Ut_emptyProduct 4 rfl) (by exact rfl) ?_
    refine rn_aload_n (by exact dc_Ut_emptyProduct 5 rfl) (by exact rfl) ?_
    refine rn_getf (v := .ref 47) fd_Ut_35 (by exact dc_Ut_emptyProduct 6 rfl) (by exact rfl) (by exact rfl) ?_
    refine rn_iload_n (by exact dc_Ut_emptyProduct 7 rfl) (by exact rfl) ?_
    obtain ⟨x1, e2, h3⟩ := rn_bind h
    clear h
    refine rn_iaload (by exact dc_Ut_emptyProduct 8 rfl) (by exact rfl) e2 ?_
    by_cases c4 : x1 ≤ l6
    · replace h3 := rn_ifp c4 h3
      refine rn_icmp_ge_t 61 (by exact dc_Ut_emptyProduct 9 rfl) (by exact rfl) c4 ?_
      cases h3
      exact rn_weak _ (by repeat (first | exact rn_le_0 | apply rn_le_s | apply rn_le_x)) hx
    · replace h3 := rn_ifn c4 h3
      refine rn_icmp_ge_f 61 (by exact dc_Ut_emptyProduct 9 rfl) (by exact rfl) c4 ?_
      refine rn_aload_n (by exact dc_Ut_emptyProduct 10 rfl) (by exact rfl) ?_
      refine rn_iload_n (by exact dc_Ut_emptyProduct 11 rfl) (by exact rfl) ?_
      refine rn_iload (by exact dc_Ut_emptyProduct 12 rfl) (by exact rfl) ?_
      obtain ⟨x6, e5, h7⟩ := rn_bind h3
      clear h3
      refine rn_invV0 (by exact c_Gr_symbol_b e5) iv_Ut_38 (by exact ⟨Nat.le_of_ble_eq_true rfl, Nat.le_of_ble_eq_true rfl⟩) (by exact dc_Ut_emptyProduct 13 rfl) (by exact rfl) (by exact rfl) (by exact rfl) (by exact Nat.le_of_ble_eq_true rfl) ?_
      show Rn _ _ 24 [some (.ref 44), some (.ref 4), some (.int l2), some (.int l3), some (.long l4), none, some (.int l6), none] [.int x6] (emb g1 g2 x d c u t a b m o E) _ _ _
      refine rn_istore (ls' := [some (.ref 44), some (.ref 4), some (.int l2), some (.int l3), some (.long l4), none, some (.int l6), some (.int x6)]) (by exact dc_Ut_emptyProduct 14 rfl) (by decide) (by exact rfl) ?_
      refine rn_iload (by exact dc_Ut_emptyProduct 15 rfl) (by exact rfl) ?_
      refine rn_iload_n (by exact dc_Ut_emptyProduct 16 rfl) (by exact rfl) ?_
      obtain ⟨y8, e9, h11⟩ := rn_bind h7
      clear h7
      have jq10 : Rn Z M_Ut_emptyProduct 55 [some (.ref 44), some (.ref 4), some (.int l2), some (.int l3), some (.long y8), none, some (.int l6), none] [] (emb g1 g2 x d c u t a b m o E) ca sa K := by
        refine rn_iinc (ls' := [some (.ref 44), some (.ref 4), some (.int l2), some (.int l3), some (.long y8), none, some (.int (l6 + 1)), none]) (by exact dc_Ut_emptyProduct 29 rfl) (by decide) (by exact rfl) (by exact rn_inc_1 _) (by exact rfl) ?_
        refine rn_goto 6 (by exact dc_Ut_emptyProduct 30 rfl) (by exact rfl) ?_
        exact rn_weak _ (by repeat (first | exact rn_le_0 | apply rn_le_s | apply rn_le_x)) (ih _ _ h11)
      by_cases c12 : l6 = l3
      · replace e9 := rn_ifp c12 e9
        refine rn_icmp_eq_t 55 (by exact dc_Ut_emptyProduct 17 rfl) (by exact rfl) c12 ?_
        cases e9
        exact rn_weak _ (by repeat (first | exact rn_le_0 | apply rn_le_s | apply rn_le_x)) jq10
      · replace e9 := rn_ifn c12 e9
        refine rn_icmp_eq_f 55 (by exact dc_Ut_emptyProduct 17 rfl) (by exact rfl) c12 ?_
        refine rn_lload (by exact dc_Ut_emptyProduct 18 rfl) (by exact rfl) ?_
        refine rn_iload (by exact dc_Ut_emptyProduct 19 rfl) (by exact rfl) ?_
        obtain ⟨x14, e13, h15⟩ := rn_bind e9
        clear e9
        refine rn_invS0 (by exact c_Gr_isNonterminal e13) is_Ut_42 (by exact ⟨Nat.le_of_ble_eq_true rfl, Nat.le_of_ble_eq_true rfl⟩) (by exact dc_Ut_emptyProduct 20 rfl) (by exact rfl) (by exact rfl) (by exact Nat.le_of_ble_eq_true rfl) ?_
        show Rn _ _ 39 [some (.ref 44), some (.ref 4), some (.int l2), some (.int l3), some (.long l4), none, some (.int l6), some (.int x6)] [.int x14, .long l4] (emb g1 g2 x d c u t a b m o E) _ _ _
        obtain ⟨y16, e17, h19⟩ := rn_bind h15
        clear h15
        have jq18 : Rn Z M_Ut_emptyProduct 52 [some (.ref 44), some (.ref 4), some (.int l2), some (.int l3), none, none, some (.int l6), none] [.long y16, .long l4] (emb g1 g2 x d c u t a b m o E) ca sa K := by
          refine rn_lmul (by exact dc_Ut_emptyProduct 27 rfl) ?_
          refine rn_lstore (ls' := [some (.ref 44), some (.ref 4), some (.int l2), some (.int l3), some (.long (l4 * y16)), none, some (.int l6), none]) (by exact dc_Ut_emptyProduct 28 rfl) (by decide) (by exact rfl) ?_
          cases h19
          exact rn_weak _ (by repeat (first | exact rn_le_0 | apply rn_le_s | apply rn_le_x)) jq10
        by_cases c20 : x14 = 0
        · replace e17 := rn_ifp c20 e17
          refine rn_if_eq_t 51 (by exact dc_Ut_emptyProduct 21 rfl) (by exact rfl) c20 ?_
          refine rn_lconst (v := (0 : Int64)) (by exact dc_Ut_emptyProduct 26 rfl) (by decide) ?_
          cases e17
          exact rn_weak _ (by repeat (first | exact rn_le_0 | apply rn_le_s | apply rn_le_x)) jq18
        · replace e17 := rn_ifn c20 e17
          refine rn_if_eq_f 51 (by exact dc_Ut_emptyProduct 21 rfl) (by exact rfl) c20 ?_
          refine rn_aload_n (by exact dc_Ut_emptyProduct 22 rfl) (by exact rfl) ?_
          refine rn_iload (by exact dc_Ut_emptyProduct 23 rfl) (by exact rfl) ?_
          obtain ⟨x22, e21, h23⟩ := rn_bind e17
          clear e17
          refine rn_invV0 (by exact c_Ch_emptySum e21) iv_Ut_57 (by exact ⟨Nat.le_of_ble_eq_true rfl, Nat.le_of_ble_eq_true rfl⟩) (by exact dc_Ut_emptyProduct 24 rfl) (by exact rfl) (by exact rfl) (by exact rfl) (by exact Nat.le_of_ble_eq_true rfl) ?_
          show Rn _ _ 48 [some (.ref 44), some (.ref 4), some (.int l2), some (.int l3), some (.long l4), none, some (.int l6), some (.int x6)] [.long x22, .long l4] (emb g1 g2 x d c u t a b m o E) _ _ _
          refine rn_goto 52 (by exact dc_Ut_emptyProduct 25 rfl) (by exact rfl) ?_
          cases h23
          exact rn_weak _ (by repeat (first | exact rn_le_0 | apply rn_le_s | apply rn_le_x)) jq18
def F_Ut_emptyProduct (c : tC) (b : tG) (v0 : Int32) (v1 : Int32) : Option Int64 :=
  Option.bind (F_Ut_emptyProduct_L6 c b v0 v1 rn_fu (1 : Int64) (0 : Int32)) fun y4 =>
  some y4
set_option maxHeartbeats 4000000 in
set_option maxRecDepth 100000 in
theorem c_Ut_emptyProduct_b {Z : rn_Z} {g1 g2 : Nat} {x : tX} {d : tD} {c : tC} {u : tU} {t : tT} {a : tG} {b : tG} {m : tM} {o : tO} {E : List rn_C} {v0 : Int32} {v1 : Int32} {res : Int64} (h : F_Ut_emptyProduct c b v0 v1 = some res) : Call Z M_Ut_emptyProduct [.ref 44, .ref 4, .int v0, .int v1] (emb g1 g2 x d c u t a b m o E) 0 0 (some (.long res)) (emb g1 g2 x d c u t a b m o E) := by
  unfold F_Ut_emptyProduct at h
  refine rn_call (by decide) 4 (by exact Nat.le_of_ble_eq_true rfl) ?_
  show Rn Z M_Ut_emptyProduct 0 [some (.ref 44), some (.ref 4), some (.int v0), some (.int v1), none, none, none, none] [] (emb g1 g2 x d c u t a b m o E) 0 0 _
  refine rn_lconst (v := (1 : Int64)) (by exact dc_Ut_emptyProduct 0 rfl) (by decide) ?_
  refine rn_lstore (ls' := [some (.ref 44), some (.ref 4), some (.int v0), some (.int v1), some (.long (1 : Int64)), none, none, none]) (by exact dc_Ut_emptyProduct 1 rfl) (by decide) (by exact rfl) ?_
  refine rn_iconst (v := (0 : Int32)) (by exact dc_Ut_emptyProduct 2 rfl) (by decide) ?_
  refine rn_istore (ls' := [some (.ref 44), some (.ref 4), some (.int v0), some (.int v1), some (.long (1 : Int64)), none, some (.int (0 : Int32)), none]) (by exact dc_Ut_emptyProduct 3 rfl) (by decide) (by exact rfl) ?_
  obtain ⟨y4, e1, h3⟩ := rn_bind h
  clear h
  have jx2 : Rn Z M_Ut_emptyProduct 61 [none, none, none, none, some (.long y4), none, none, none] [] (emb g1 g2 x d c u t a b m o E) 0 0 (rn_Ret Z (some (.long res)) (emb g1 g2 x d c u t a b m o E)) := by
    refine rn_lload (by exact dc_Ut_emptyProduct 31 rfl) (by exact rfl) ?_
    cases h3
    exact rn_lreturn (by exact dc_Ut_emptyProduct 32 rfl) (by exact rfl)
  exact rn_weak _ (by repeat (first | exact rn_le_0 | apply rn_le_s | apply rn_le_x)) (p_Ut_emptyProduct_L6_b jx2 _ _ _ e1)
