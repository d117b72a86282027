def F_Lw_load (x : tX) (d : tD) (c : tC) (u : tU) (t : tT) (b : tG) (o : tO)  : Option (Int32 × tX × tD × tC × tU × tT × tG × tO × tR) :=
  Option.bind (F_Wt_load x d c u t b ) fun z2 =>
  match z2 with
  | .inr (k4, x13, d14, c15, u16, t17, b18, r19) => (
      if k4 = 1 then (
        some ((1 : Int32), x13, d14, c15, u16, t17, b18, o, r19)
      ) else (
        if k4 = 2 then (
          some ((2 : Int32), x13, d14, c15, u16, t17, b18, o, r19)
        ) else (
          none
        )
      )
    )
  | .inl (x5, x6, d7, c8, u9, t10, b11, r12) =>
    Option.bind (aS o 1 (0 : Int32) (x5.toInt64)) fun f20 =>
    some ((0 : Int32), x6, d7, c8, u9, t10, b11, f20, r12)
set_option maxHeartbeats 4000000 in
set_option maxRecDepth 100000 in
theorem c_Lw_load {Z : rn_Z} {x : tX} {d : tD} {c : tC} {u : tU} {t : tT} {a : tG} {b : tG} {m : tM} {o : tO}  {res : Int32} {x_r : tX} {d_r : tD} {c_r : tC} {u_r : tU} {t_r : tT} {b_r : tG} {o_r : tO} {r_r : tR} (hZ : Z.1.stackTraces = false) (h : F_Lw_load x d c u t b o  = some (res, x_r, d_r, c_r, u_r, t_r, b_r, o_r, r_r)) : CallH Z M_Lw_load hh_Lw_load [.ref 1, .ref 76] (emb 35 44 x d c u t a b m o []) 2 10 (some (.int res)) (emb (if res = 0 then 44 else 35) (if res = 0 then 35 else 44) x_r d_r c_r u_r t_r a b_r m o_r [rd_cell r_r]) := by
  unfold F_Lw_load at h
  refine rn_callH (by decide) 1 (by exact Nat.le_of_ble_eq_true rfl) ?_
  show Rn Z M_Lw_load 0 [some (.ref 1), some (.ref 76), none] [] (emb 35 44 x d c u t a b m o []) 2 10 _
  refine rn_aload_n (by exact dc_Lw_load 0 rfl) (by exact rfl) ?_
  refine rn_iconst (v := (0 : Int32)) (by exact dc_Lw_load 1 rfl) (by decide) ?_
  refine rn_aload_n (by exact dc_Lw_load 2 rfl) (by exact rfl) ?_
  obtain ⟨z2, e1, h3⟩ := rn_bind h
  clear h
  rcases z2 with ⟨x5, x6, d7, c8, u9, t10, b11, r12⟩ | ⟨k4, x13, d14, c15, u16, t17, b18, r19⟩
  · dsimp only at h3
    refine rn_invV (ca := 1) (sa := 6) (ca' := 1) (sa' := 4) (by exact c_Wt_load e1) iv_Lw_7 (by exact ⟨Nat.le_of_ble_eq_true rfl, Nat.le_of_ble_eq_true rfl⟩) (by exact dc_Lw_load 3 rfl) (by exact rfl) (by exact rfl) (by exact rfl) (by exact Nat.le_of_ble_eq_true rfl) ?_
    show Rn _ _ 6 [some (.ref 1), some (.ref 76), none] [.int x5, .int (0 : Int32), .ref 76] (emb 44 35 x6 d7 c8 u9 t10 a b11 m o [rd_cell r12]) _ _ _
    refine rn_i2l (by exact dc_Lw_load 4 rfl) ?_
    obtain ⟨f20, e21, h22⟩ := rn_bind h3
    clear h3
    refine rn_lastore (w2 := (emb 44 35 x6 d7 c8 u9 t10 a b11 m f20 [rd_cell r12])) (by exact dc_Lw_load 5 rfl) (by exact rfl) e21 (by exact rfl) ?_
    refine rn_goto 17 (by exact dc_Lw_load 6 rfl) (by exact rfl) ?_
    refine rn_iconst (v := (0 : Int32)) (by exact dc_Lw_load 13 rfl) (by decide) ?_
    cases h22
    exact rn_ireturn (by exact dc_Lw_load 14 rfl) (by exact rfl)
  · dsimp only at h3
    by_cases c24 : k4 = 1
    · subst c24
      replace h3 := rn_ifp rfl h3
      refine rn_invVC (ca := 0) (sa := 0) (ca' := 2) (sa' := 10) (by exact t_Wt_load_1 hZ e1) iv_Lw_7 vl_Lw_7 (by exact ⟨Nat.le_of_ble_eq_true rfl, Nat.le_of_ble_eq_true rfl⟩) (by exact dc_Lw_load 3 rfl) (by exact rfl) (by exact rfl) (by exact rfl) (by exact Nat.le_of_ble_eq_true rfl) cw_Lw_load (hc_Lw_load_0) (hq_Lw_load_0_1) (by decide) (by decide) hl_Lw_load_0 cc_1 ?_
      show Rn _ _ 11 [some (.ref 1), some (.ref 76), none] [.retAddr 0] (emb 35 44 x13 d14 c15 u16 t17 a b18 m o [rd_cell r19]) _ _ _
      refine rn_astoreX_n (ls' := [some (.ref 1), some (.ref 76), some (.retAddr 0)]) (by exact dc_Lw_load 7 rfl) (by decide) (by exact rfl) ?_
      refine rn_iconst (v := (1 : Int32)) (by exact dc_Lw_load 8 rfl) (by decide) ?_
      cases h3
      exact rn_ireturn (by exact dc_Lw_load 9 rfl) (by exact rfl)
    · replace h3 := rn_ifn c24 h3
      by_cases c23 : k4 = 2
      · subst c23
        replace h3 := rn_ifp rfl h3
        refine rn_invVC (ca := 0) (sa := 0) (ca' := 2) (sa' := 10) (by exact t_Wt_load_2 hZ e1) iv_Lw_7 vl_Lw_7 (by exact ⟨Nat.le_of_ble_eq_true rfl, Nat.le_of_ble_eq_true rfl⟩) (by exact dc_Lw_load 3 rfl) (by exact rfl) (by exact rfl) (by exact rfl) (by exact Nat.le_of_ble_eq_true rfl) cw_Lw_load (hc_Lw_load_1) (hq_Lw_load_1_2) (by decide) (by decide) hl_Lw_load_1 cc_2 ?_
        show Rn _ _ 14 [some (.ref 1), some (.ref 76), none] [.retAddr 0] (emb 35 44 x13 d14 c15 u16 t17 a b18 m o [rd_cell r19]) _ _ _
        refine rn_astoreX_n (ls' := [some (.ref 1), some (.ref 76), some (.retAddr 0)]) (by exact dc_Lw_load 10 rfl) (by decide) (by exact rfl) ?_
        refine rn_iconst (v := (2 : Int32)) (by exact dc_Lw_load 11 rfl) (by decide) ?_
        cases h3
        exact rn_ireturn (by exact dc_Lw_load 12 rfl) (by exact rfl)
      · replace h3 := rn_ifn c23 h3
        simp at h3
def F_Lw_parse (d : tD) (c : tC) (t : tT) (a : tG) (o : tO)  : Option (Int32 × tD × tC × tT × tO) :=
  Option.bind (F_Wt_parse d c t a ) fun z2 =>
  match z2 with
  | .inr (k4, d9, c10, t11) => (
      if k4 = 1 then (
        some ((1 : Int32), d9, c10, t11, o)
      ) else (
        if k4 = 2 then (
          some ((2 : Int32), d9, c10, t11, o)
        ) else (
          none
        )
      )
    )
  | .inl (x5, d6, c7, t8) =>
    Option.bind (
      if x5 = 0 then (
        some (0 : Int64)
      ) else (
        some (1 : Int64)
      )
     : Option Int64) fun y12 =>
    Option.bind (aS o 1 (0 : Int32) y12) fun f17 =>
    some ((0 : Int32), d6, c7, t8, f17)
set_option maxHeartbeats 4000000 in
set_option maxRecDepth 100000 in
theorem c_Lw_parse {Z : rn_Z} {x : tX} {d : tD} {c : tC} {u : tU} {t : tT} {a : tG} {b : tG} {m : tM} {o : tO} {E : List rn_C}  {res : Int32} {d_r : tD} {c_r : tC} {t_r : tT} {o_r : tO} (hZ : Z.1.stackTraces = false) (h : F_Lw_parse d c t a o  = some (res, d_r, c_r, t_r, o_r)) : CallH Z M_Lw_parse hh_Lw_parse [.ref 1, .ref 76] (emb 35 44 x d c u t a b m o E) 1 6 (some (.int res)) (emb 35 44 x d_r c_r u t_r a b m o_r E) := by
  unfold F_Lw_parse at h
  refine rn_callH (by decide) 1 (by exact Nat.le_of_ble_eq_true rfl) ?_
  show Rn Z M_Lw_parse 0 [some (.ref 1), some (.ref 76), none] [] (emb 35 44 x d c u t a b m o E) 1 6 _
  refine rn_aload_n (by exact dc_Lw_parse 0 rfl) (by exact rfl) ?_
  refine rn_iconst (v := (0 : Int32)) (by exact dc_Lw_parse 1 rfl) (by decide) ?_
  refine rn_aload_n (by exact dc_Lw_parse 2 rfl) (by exact rfl) ?_
  obtain ⟨z2, e1, h3⟩ := rn_bind h
  clear h
  rcases z2 with ⟨x5, d6, c7, t8⟩ | ⟨k4, d9, c10, t11⟩
  · dsimp only at h3
    refine rn_invV (ca := 1) (sa := 6) (ca' := 0) (sa' := 0) (by exact c_Wt_parse e1) iv_Lw_17 (by exact ⟨Nat.le_of_ble_eq_true rfl, Nat.le_of_ble_eq_true rfl⟩) (by exact dc_Lw_parse 3 rfl) (by exact rfl) (by exact rfl) (by exact rfl) (by exact Nat.le_of_ble_eq_true rfl) ?_
    show Rn _ _ 6 [some (.ref 1), some (.ref 76), none] [.int x5, .int (0 : Int32), .ref 76] (emb 35 44 x d6 c7 u t8 a b m o E) _ _ _
    obtain ⟨y12, e13, h15⟩ := rn_bind h3
    clear h3
    have jq14 : Rn Z M_Lw_parse 14 [none, none, none] [.long y12, .int (0 : Int32), .ref 76] (emb 35 44 x d6 c7 u t8 a b m o E) 1 6 (rn_Ret Z (some (.int res)) (emb 35 44 x d_r c_r u t_r a b m o_r E)) := by
      obtain ⟨f17, e18, h19⟩ := rn_bind h15
      clear h15
      refine rn_lastore (w2 := (emb 35 44 x d6 c7 u t8 a b m f17 E)) (by exact dc_Lw_parse 8 rfl) (by exact rfl) e18 (by exact rfl) ?_
      refine rn_goto 24 (by exact dc_Lw_parse 9 rfl) (by exact rfl) ?_
      refine rn_iconst (v := (0 : Int32)) (by exact dc_Lw_parse 16 rfl) (by decide) ?_
      cases h19
      exact rn_ireturn (by exact dc_Lw_parse 17 rfl) (by exact rfl)
    by_cases c16 : x5 = 0
    · replace e13 := rn_ifp c16 e13
      refine rn_if_eq_t 13 (by exact dc_Lw_parse 4 rfl) (by exact rfl) c16 ?_
      refine rn_lconst (v := (0 : Int64)) (by exact dc_Lw_parse 7 rfl) (by decide) ?_
      cases e13
      exact rn_weak _ (by repeat (first | exact rn_le_0 | apply rn_le_s | apply rn_le_x)) jq14
    · replace e13 := rn_ifn c16 e13
      refine rn_if_eq_f 13 (by exact dc_Lw_parse 4 rfl) (by exact rfl) c16 ?_
      refine rn_lconst (v := (1 : Int64)) (by exact dc_Lw_parse 5 rfl) (by decide) ?_
      refine rn_goto 14 (by exact dc_Lw_parse 6 rfl) (by exact rfl) ?_
      cases e13
      exact rn_weak _ (by repeat (first | exact rn_le_0 | apply rn_le_s | apply rn_le_x)) jq14
  · dsimp only at h3
    by_cases c21 : k4 = 1
    · subst c21
      replace h3 := rn_ifp rfl h3
      refine rn_invVC (ca := 0) (sa := 0) (ca' := 1) (sa' := 6) (by exact t_Wt_parse_1 hZ e1) iv_Lw_17 vl_Lw_17 (by exact ⟨Nat.le_of_ble_eq_true rfl, Nat.le_of_ble_eq_true rfl⟩) (by exact dc_Lw_parse 3 rfl) (by exact rfl) (by exact rfl) (by exact rfl) (by exact Nat.le_of_ble_eq_true rfl) cw_Lw_parse (hc_Lw_parse_0) (hq_Lw_parse_0_1) (by decide) (by decide) hl_Lw_parse_0 cc_1 ?_
      show Rn _ _ 18 [some (.ref 1), some (.ref 76), none] [.retAddr 0] (emb 35 44 x d9 c10 u t11 a b m o E) _ _ _
      refine rn_astoreX_n (ls' := [some (.ref 1), some (.ref 76), some (.retAddr 0)]) (by exact dc_Lw_parse 10 rfl) (by decide) (by exact rfl) ?_
      refine rn_iconst (v := (1 : Int32)) (by exact dc_Lw_parse 11 rfl) (by decide) ?_
      cases h3
      exact rn_ireturn (by exact dc_Lw_parse 12 rfl) (by exact rfl)
    · replace h3 := rn_ifn c21 h3
      by_cases c20 : k4 = 2
      · subst c20
        replace h3 := rn_ifp rfl h3
        refine rn_invVC (ca := 0) (sa := 0) (ca' := 1) (sa' := 6) (by exact t_Wt_parse_2 hZ e1) iv_Lw_17 vl_Lw_17 (by exact ⟨Nat.le_of_ble_eq_true rfl, Nat.le_of_ble_eq_true rfl⟩) (by exact dc_Lw_parse 3 rfl) (by exact rfl) (by exact rfl) (by exact rfl) (by exact Nat.le_of_ble_eq_true rfl) cw_Lw_parse (hc_Lw_parse_1) (hq_Lw_parse_1_2) (by decide) (by decide) hl_Lw_parse_1 cc_2 ?_
        show Rn _ _ 21 [some (.ref 1), some (.ref 76), none] [.retAddr 0] (emb 35 44 x d9 c10 u t11 a b m o E) _ _ _
        refine rn_astoreX_n (ls' := [some (.ref 1), some (.ref 76), some (.retAddr 0)]) (by exact dc_Lw_parse 13 rfl) (by decide) (by exact rfl) ?_
        refine rn_iconst (v := (2 : Int32)) (by exact dc_Lw_parse 14 rfl) (by decide) ?_
        cases h3
        exact rn_ireturn (by exact dc_Lw_parse 15 rfl) (by exact rfl)
      · replace h3 := rn_ifn c20 h3
        simp at h3
def F_Lw_name (a : tG) (o : tO) (v0 : Int32) : Option (Int32 × tO) :=
  Option.bind (F_Wt_name a v0) fun z2 =>
  match z2 with
  | .inr k4 => (
      if k4 = 3 then (
        some ((1 : Int32), o)
      ) else (
        none
      )
    )
  | .inl x5 =>
    Option.bind (aS o 1 (0 : Int32) (x5.toInt64)) fun f6 =>
    some ((0 : Int32), f6)
set_option maxHeartbeats 4000000 in
set_option maxRecDepth 100000 in
theorem c_Lw_name {Z : rn_Z} {x : tX} {d : tD} {c : tC} {u : tU} {t : tT} {a : tG} {b : tG} {m : tM} {o : tO} {E : List rn_C} {v0 : Int32} {res : Int32} {o_r : tO} (hZ : Z.1.stackTraces = false) (h : F_Lw_name a o v0 = some (res, o_r)) : CallH Z M_Lw_name hh_Lw_name [.ref 1, .int v0, .ref 76] (emb 35 44 x d c u t a b m o E) 1 6 (some (.int res)) (emb 35 44 x d c u t a b m o_r E) := by
  unfold F_Lw_name at h
  refine rn_callH (by decide) 1 (by exact Nat.le_of_ble_eq_true rfl) ?_
  show Rn Z M_Lw_name 0 [some (.ref 1), some (.int v0), some (.ref 76), none] [] (emb 35 44 x d c u t a b m o E) 1 6 _
  refine rn_aload_n (by exact dc_Lw_name 0 rfl) (by exact rfl) ?_
  refine rn_iconst (v := (0 : Int32)) (by exact dc_Lw_name 1 rfl) (by decide) ?_
  refine rn_aload_n (by exact dc_Lw_name 2 rfl) (by exact rfl) ?_
  refine rn_iload_n (by exact dc_Lw_name 3 rfl) (by exact rfl) ?_
  obtain ⟨z2, e1, h3⟩ := rn_bind h
  clear h
  rcases z2 with x5 | k4
  · dsimp only at h3
    refine rn_invV (ca := 1) (sa := 6) (ca' := 0) (sa' := 0) (by exact c_Wt_name e1) iv_Lw_21 (by exact ⟨Nat.le_of_ble_eq_true rfl, Nat.le_of_ble_eq_true rfl⟩) (by exact dc_Lw_name 4 rfl) (by exact rfl) (by exact rfl) (by exact rfl) (by exact Nat.le_of_ble_eq_true rfl) ?_
    show Rn _ _ 7 [some (.ref 1), some (.int v0), some (.ref 76), none] [.int x5, .int (0 : Int32), .ref 76] (emb 35 44 x d c u t a b m o E) _ _ _
    refine rn_i2l (by exact dc_Lw_name 5 rfl) ?_
    obtain ⟨f6, e7, h8⟩ := rn_bind h3
    clear h3
    refine rn_lastore (w2 := (emb 35 44 x d c u t a b m f6 E)) (by exact dc_Lw_name 6 rfl) (by exact rfl) e7 (by exact rfl) ?_
    refine rn_goto 15 (by exact dc_Lw_name 7 rfl) (by exact rfl) ?_
    refine rn_iconst (v := (0 : Int32)) (by exact dc_Lw_name 11 rfl) (by decide) ?_
    cases h8
    exact rn_ireturn (by exact dc_Lw_name 12 rfl) (by exact rfl)
  · dsimp only at h3
    by_cases c9 : k4 = 3
    · subst c9
      replace h3 := rn_ifp rfl h3
      refine rn_invVC (ca := 0) (sa := 0) (ca' := 1) (sa' := 6) (by exact t_Wt_name_3 hZ e1) iv_Lw_21 vl_Lw_21 (by exact ⟨Nat.le_of_ble_eq_true rfl, Nat.le_of_ble_eq_true rfl⟩) (by exact dc_Lw_name 4 rfl) (by exact rfl) (by exact rfl) (by exact rfl) (by exact Nat.le_of_ble_eq_true rfl) cw_Lw_name (hc_Lw_name_0) (hq_Lw_name_0_3) (by decide) (by decide) hl_Lw_name_0 cc_3 ?_
      show Rn _ _ 12 [some (.ref 1), some (.int v0), some (.ref 76), none] [.retAddr 0] (emb 35 44 x d c u t a b m o E) _ _ _
      refine rn_astoreX_n (ls' := [some (.ref 1), some (.int v0), some (.ref 76), some (.retAddr 0)]) (by exact dc_Lw_name 8 rfl) (by decide) (by exact rfl) ?_
      refine rn_iconst (v := (1 : Int32)) (by exact dc_Lw_name 9 rfl) (by decide) ?_
      cases h3
      exact rn_ireturn (by exact dc_Lw_name 10 rfl) (by exact rfl)
    · replace h3 := rn_ifn c9 h3
      simp at h3
def F_Lw_weight (a : tG) (o : tO) (v0 : Int32) : Option (Int32 × tO) :=
  Option.bind (F_Wt_weight a v0) fun z2 =>
  match z2 with
  | .inr k4 => (
      if k4 = 3 then (
        some ((1 : Int32), o)
      ) else (
        none
      )
    )
  | .inl x5 =>
    Option.bind (aS o 1 (0 : Int32) x5) fun f6 =>
    some ((0 : Int32), f6)
set_option maxHeartbeats 4000000 in
set_option maxRecDepth 100000 in
theorem c_Lw_weight {Z : rn_Z} {x : tX} {d : tD} {c : tC} {u : tU} {t : tT} {a : tG} {b : tG} {m : tM} {o : tO} {E : List rn_C} {v0 : Int32} {res : Int32} {o_r : tO} (hZ : Z.1.stackTraces = false) (h : F_Lw_weight a o v0 = some (res, o_r)) : CallH Z M_Lw_weight hh_Lw_weight [.ref 1, .int v0, .ref 76] (emb 35 44 x d c u t a b m o E) 1 6 (some (.int res)) (emb 35 44 x d c u t a b m o_r E) := by
  unfold F_Lw_weight at h
  refine rn_callH (by decide) 1 (by exact Nat.le_of_ble_eq_true rfl) ?_
  show Rn Z M_Lw_weight 0 [some (.ref 1), some (.int v0), some (.ref 76), none] [] (emb 35 44 x d c u t a b m o E) 1 6 _
  refine rn_aload_n (by exact dc_Lw_weight 0 rfl) (by exact rfl) ?_
  refine rn_iconst (v := (0 : Int32)) (by exact dc_Lw_weight 1 rfl) (by decide) ?_
  refine rn_aload_n (by exact dc_Lw_weight 2 rfl) (by exact rfl) ?_
  refine rn_iload_n (by exact dc_Lw_weight 3 rfl) (by exact rfl) ?_
  obtain ⟨z2, e1, h3⟩ := rn_bind h
  clear h
  rcases z2 with x5 | k4
  · dsimp only at h3
    refine rn_invV (ca := 1) (sa := 6) (ca' := 0) (sa' := 0) (by exact c_Wt_weight e1) iv_Lw_27 (by exact ⟨Nat.le_of_ble_eq_true rfl, Nat.le_of_ble_eq_true rfl⟩) (by exact dc_Lw_weight 4 rfl) (by exact rfl) (by exact rfl) (by exact rfl) (by exact Nat.le_of_ble_eq_true rfl) ?_
    show Rn _ _ 7 [some (.ref 1), some (.int v0), some (.ref 76), none] [.long x5, .int (0 : Int32), .ref 76] (emb 35 44 x d c u t a b m o E) _ _ _
    obtain ⟨f6, e7, h8⟩ := rn_bind h3
    clear h3
    refine rn_lastore (w2 := (emb 35 44 x d c u t a b m f6 E)) (by exact dc_Lw_weight 5 rfl) (by exact rfl) e7 (by exact rfl) ?_
    refine rn_goto 14 (by exact dc_Lw_weight 6 rfl) (by exact rfl) ?_
    refine rn_iconst (v := (0 : Int32)) (by exact dc_Lw_weight 10 rfl) (by decide) ?_
    cases h8
    exact rn_ireturn (by exact dc_Lw_weight 11 rfl) (by exact rfl)
  · dsimp only at h3
    by_cases c9 : k4 = 3
    · subst c9
      replace h3 := rn_ifp rfl h3
      refine rn_invVC (ca := 0) (sa := 0) (ca' := 1) (sa' := 6) (by exact t_Wt_weight_3 hZ e1) iv_Lw_27 vl_Lw_27 (by exact ⟨Nat.le_of_ble_eq_true rfl, Nat.le_of_ble_eq_true rfl⟩) (by exact dc_Lw_weight 4 rfl) (by exact rfl) (by exact rfl) (by exact rfl) (by exact Nat.le_of_ble_eq_true rfl) cw_Lw_weight (hc_Lw_weight_0) (hq_Lw_weight_0_3) (by decide) (by decide) hl_Lw_weight_0 cc_3 ?_
      show Rn _ _ 11 [some (.ref 1), some (.int v0), some (.ref 76), none] [.retAddr 0] (emb 35 44 x d c u t a b m o E) _ _ _
      refine rn_astoreX_n (ls' := [some (.ref 1), some (.int v0), some (.ref 76), some (.retAddr 0)]) (by exact dc_Lw_weight 7 rfl) (by decide) (by exact rfl) ?_
      refine rn_iconst (v := (1 : Int32)) (by exact dc_Lw_weight 8 rfl) (by decide) ?_
      cases h3
      exact rn_ireturn (by exact dc_Lw_weight 9 rfl) (by exact rfl)
    · replace h3 := rn_ifn c9 h3
      simp at h3
def F_Lw_empty (c : tC) (a : tG) (o : tO) (v0 : Int32) : Option (Int32 × tO) :=
  Option.bind (F_Wt_empty c a v0) fun z2 =>
  match z2 with
  | .inr k4 => (
      if k4 = 3 then (
        some ((1 : Int32), o)
      ) else (
        none
      )
    )
  | .inl x5 =>
    Option.bind (aS o 1 (0 : Int32) x5) fun f6 =>
    some ((0 : Int32), f6)
set_option maxHeartbeats 4000000 in
set_option maxRecDepth 100000 in
theorem c_Lw_empty {Z : rn_Z} {x : tX} {d : tD} {c : tC} {u : tU} {t : tT} {a : tG} {b : tG} {m : tM} {o : tO} {E : List rn_C} {v0 : Int32} {res : Int32} {o_r : tO} (hZ : Z.1.stackTraces = false) (h : F_Lw_empty c a o v0 = some (res, o_r)) : CallH Z M_Lw_empty hh_Lw_empty [.ref 1, .int v0, .ref 76] (emb 35 44 x d c u t a b m o E) 1 6 (some (.int res)) (emb 35 44 x d c u t a b m o_r E) := by
  unfold F_Lw_empty at h
  refine rn_callH (by decide) 1 (by exact Nat.le_of_ble_eq_true rfl) ?_
  show Rn Z M_Lw_empty 0 [some (.ref 1), some (.int v0), some (.ref 76), none] [] (emb 35 44 x d c u t a b m o E) 1 6 _
  refine rn_aload_n (by exact dc_Lw_empty 0 rfl) (by exact rfl) ?_
  refine rn_iconst (v := (0 : Int32)) (by exact dc_Lw_empty 1 rfl) (by decide) ?_
  refine rn_aload_n (by exact dc_Lw_empty 2 rfl) (by exact rfl) ?_
  refine rn_iload_n (by exact dc_Lw_empty 3 rfl) (by exact rfl) ?_
  obtain ⟨z2, e1, h3⟩ := rn_bind h
  clear h
  rcases z2 with x5 | k4
  · dsimp only at h3
    refine rn_invV (ca := 1) (sa := 6) (ca' := 0) (sa' := 0) (by exact c_Wt_empty e1) iv_Lw_31 (by exact ⟨Nat.le_of_ble_eq_true rfl, Nat.le_of_ble_eq_true rfl⟩) (by exact dc_Lw_empty 4 rfl) (by exact rfl) (by exact rfl) (by exact rfl) (by exact Nat.le_of_ble_eq_true rfl) ?_
    show Rn _ _ 7 [some (.ref 1), some (.int v0), some (.ref 76), none] [.long x5, .int (0 : Int32), .ref 76] (emb 35 44 x d c u t a b m o E) _ _ _
    obtain ⟨f6, e7, h8⟩ := rn_bind h3
    clear h3
    refine rn_lastore (w2 := (emb 35 44 x d c u t a b m f6 E)) (by exact dc_Lw_empty 5 rfl) (by exact rfl) e7 (by exact rfl) ?_
    refine rn_goto 14 (by exact dc_Lw_empty 6 rfl) (by exact rfl) ?_
    refine rn_iconst (v := (0 : Int32)) (by exact dc_Lw_empty 10 rfl) (by decide) ?_
    cases h8
    exact rn_ireturn (by exact dc_Lw_empty 11 rfl) (by exact rfl)
  · dsimp only at h3
    by_cases c9 : k4 = 3
    · subst c9
      replace h3 := rn_ifp rfl h3
      refine rn_invVC (ca := 0) (sa := 0) (ca' := 1) (sa' := 6) (by exact t_Wt_empty_3 hZ e1) iv_Lw_31 vl_Lw_31 (by exact ⟨Nat.le_of_ble_eq_true rfl, Nat.le_of_ble_eq_true rfl⟩) (by exact dc_Lw_empty 4 rfl) (by exact rfl) (by exact rfl) (by exact rfl) (by exact Nat.le_of_ble_eq_true rfl) cw_Lw_empty (hc_Lw_empty_0) (hq_Lw_empty_0_3) (by decide) (by decide) hl_Lw_empty_0 cc_3 ?_
      show Rn _ _ 11 [some (.ref 1), some (.int v0), some (.ref 76), none] [.retAddr 0] (emb 35 44 x d c u t a b m o E) _ _ _
      refine rn_astoreX_n (ls' := [some (.ref 1), some (.int v0), some (.ref 76), some (.retAddr 0)]) (by exact dc_Lw_empty 7 rfl) (by decide) (by exact rfl) ?_
      refine rn_iconst (v := (1 : Int32)) (by exact dc_Lw_empty 8 rfl) (by decide) ?_
      cases h3
      exact rn_ireturn (by exact dc_Lw_empty 9 rfl) (by exact rfl)
    · replace h3 := rn_ifn c9 h3
      simp at h3
def F_Lw_unit (u : tU) (a : tG) (o : tO) (v0 : Int32) (v1 : Int32) : Option (Int32 × tO) :=
  Option.bind (F_Wt_unit u a v0 v1) fun z2 =>
  match z2 with
  | .inr k4 => (
      if k4 = 3 then (
        some ((1 : Int32), o)
      ) else (
        none
      )
    )
  | .inl x5 =>
    Option.bind (aS o 1 (0 : Int32) x5) fun f6 =>
    some ((0 : Int32), f6)
set_option maxHeartbeats 4000000 in
set_option maxRecDepth 100000 in
theorem c_Lw_unit {Z : rn_Z} {x : tX} {d : tD} {c : tC} {u : tU} {t : tT} {a : tG} {b : tG} {m : tM} {o : tO} {E : List rn_C} {v0 : Int32} {v1 : Int32} {res : Int32} {o_r : tO} (hZ : Z.1.stackTraces = false) (h : F_Lw_unit u a o v0 v1 = some (res, o_r)) : CallH Z M_Lw_unit hh_Lw_unit [.ref 1, .int v0, .int v1, .ref 76] (emb 35 44 x d c u t a b m o E) 1 6 (some (.int res)) (emb 35 44 x d c u t a b m o_r E) := by
  unfold F_Lw_unit at h
  refine rn_callH (by decide) 1 (by exact Nat.le_of_ble_eq_true rfl) ?_
  show Rn Z M_Lw_unit 0 [some (.ref 1), some (.int v0), some (.int v1), some (.ref 76), none] [] (emb 35 44 x d c u t a b m o E) 1 6 _
  refine rn_aload_n (by exact dc_Lw_unit 0 rfl) (by exact rfl) ?_
  refine rn_iconst (v := (0 : Int32)) (by exact dc_Lw_unit 1 rfl) (by decide) ?_
  refine rn_aload_n (by exact dc_Lw_unit 2 rfl) (by exact rfl) ?_
  refine rn_iload_n (by exact dc_Lw_unit 3 rfl) (by exact rfl) ?_
  refine rn_iload_n (by exact dc_Lw_unit 4 rfl) (by exact rfl) ?_
  obtain ⟨z2, e1, h3⟩ := rn_bind h
  clear h
  rcases z2 with x5 | k4
  · dsimp only at h3
    refine rn_invV (ca := 1) (sa := 6) (ca' := 0) (sa' := 0) (by exact c_Wt_unit e1) iv_Lw_34 (by exact ⟨Nat.le_of_ble_eq_true rfl, Nat.le_of_ble_eq_true rfl⟩) (by exact dc_Lw_unit 5 rfl) (by exact rfl) (by exact rfl) (by exact rfl) (by exact Nat.le_of_ble_eq_true rfl) ?_
    show Rn _ _ 8 [some (.ref 1), some (.int v0), some (.int v1), some (.ref 76), none] [.long x5, .int (0 : Int32), .ref 76] (emb 35 44 x d c u t a b m o E) _ _ _
    obtain ⟨f6, e7, h8⟩ := rn_bind h3
    clear h3
    refine rn_lastore (w2 := (emb 35 44 x d c u t a b m f6 E)) (by exact dc_Lw_unit 6 rfl) (by exact rfl) e7 (by exact rfl) ?_
    refine rn_goto 16 (by exact dc_Lw_unit 7 rfl) (by exact rfl) ?_
    refine rn_iconst (v := (0 : Int32)) (by exact dc_Lw_unit 11 rfl) (by decide) ?_
    cases h8
    exact rn_ireturn (by exact dc_Lw_unit 12 rfl) (by exact rfl)
  · dsimp only at h3
    by_cases c9 : k4 = 3
    · subst c9
      replace h3 := rn_ifp rfl h3
      refine rn_invVC (ca := 0) (sa := 0) (ca' := 1) (sa' := 6) (by exact t_Wt_unit_3 hZ e1) iv_Lw_34 vl_Lw_34 (by exact ⟨Nat.le_of_ble_eq_true rfl, Nat.le_of_ble_eq_true rfl⟩) (by exact dc_Lw_unit 5 rfl) (by exact rfl) (by exact rfl) (by exact rfl) (by exact Nat.le_of_ble_eq_true rfl) cw_Lw_unit (hc_Lw_unit_0) (hq_Lw_unit_0_3) (by decide) (by decide) hl_Lw_unit_0 cc_3 ?_
      show Rn _ _ 12 [some (.ref 1), some (.int v0), some (.int v1), some (.ref 76), none] [.retAddr 0] (emb 35 44 x d c u t a b m o E) _ _ _
      refine rn_astoreX (ls' := [some (.ref 1), some (.int v0), some (.int v1), some (.ref 76), some (.retAddr 0)]) (by exact dc_Lw_unit 8 rfl) (by decide) (by exact rfl) ?_
      refine rn_iconst (v := (1 : Int32)) (by exact dc_Lw_unit 9 rfl) (by decide) ?_
      cases h3
      exact rn_ireturn (by exact dc_Lw_unit 10 rfl) (by exact rfl)
    · replace h3 := rn_ifn c9 h3
      simp at h3
def F_Lw_inside (c : tC) (a : tG) (o : tO) (v0 : Int32) (v1 : Int32) (v2 : Int32) : Option (Int32 × tO) :=
  Option.bind (F_Wt_inside c a v0 v1 v2) fun z2 =>
  match z2 with
  | .inr k4 => (
      if k4 = 1 then (
        some ((2 : Int32), o)
      ) else (
        if k4 = 3 then (
          some ((1 : Int32), o)
        ) else (
          none
        )
      )
    )
  | .inl x5 =>
    Option.bind (aS o 1 (0 : Int32) x5) fun f6 =>
    some ((0 : Int32), f6)
set_option maxHeartbeats 4000000 in
set_option maxRecDepth 100000 in
theorem c_Lw_inside {Z : rn_Z} {x : tX} {d : tD} {c : tC} {u : tU} {t : tT} {a : tG} {b : tG} {m : tM} {o : tO} {E : List rn_C} {v0 : Int32} {v1 : Int32} {v2 : Int32} {res : Int32} {o_r : tO} (hZ : Z.1.stackTraces = false) (h : F_Lw_inside c a o v0 v1 v2 = some (res, o_r)) : CallH Z M_Lw_inside hh_Lw_inside [.ref 1, .int v0, .int v1, .int v2, .ref 76] (emb 35 44 x d c u t a b m o E) 1 6 (some (.int res)) (emb 35 44 x d c u t a b m o_r E) := by
  unfold F_Lw_inside at h
  refine rn_callH (by decide) 1 (by exact Nat.le_of_ble_eq_true rfl) ?_
  show Rn Z M_Lw_inside 0 [some (.ref 1), some (.int v0), some (.int v1), some (.int v2), some (.ref 76), none] [] (emb 35 44 x d c u t a b m o E) 1 6 _
  refine rn_aload (by exact dc_Lw_inside 0 rfl) (by exact rfl) ?_
  refine rn_iconst (v := (0 : Int32)) (by exact dc_Lw_inside 1 rfl) (by decide) ?_
  refine rn_aload_n (by exact dc_Lw_inside 2 rfl) (by exact rfl) ?_
  refine rn_iload_n (by exact dc_Lw_inside 3 rfl) (by exact rfl) ?_
  refine rn_iload_n (by exact dc_Lw_inside 4 rfl) (by exact rfl) ?_
  refine rn_iload_n (by exact dc_Lw_inside 5 rfl) (by exact rfl) ?_
  obtain ⟨z2, e1, h3⟩ := rn_bind h
  clear h
  rcases z2 with x5 | k4
  · dsimp only at h3
    refine rn_invV (ca := 1) (sa := 6) (ca' := 0) (sa' := 0) (by exact c_Wt_inside e1) iv_Lw_38 (by exact ⟨Nat.le_of_ble_eq_true rfl, Nat.le_of_ble_eq_true rfl⟩) (by exact dc_Lw_inside 6 rfl) (by exact rfl) (by exact rfl) (by exact rfl) (by exact Nat.le_of_ble_eq_true rfl) ?_
    show Rn _ _ 10 [some (.ref 1), some (.int v0), some (.int v1), some (.int v2), some (.ref 76), none] [.long x5, .int (0 : Int32), .ref 76] (emb 35 44 x d c u t a b m o E) _ _ _
    obtain ⟨f6, e7, h8⟩ := rn_bind h3
    clear h3
    refine rn_lastore (w2 := (emb 35 44 x d c u t a b m f6 E)) (by exact dc_Lw_inside 7 rfl) (by exact rfl) e7 (by exact rfl) ?_
    refine rn_goto 22 (by exact dc_Lw_inside 8 rfl) (by exact rfl) ?_
    refine rn_iconst (v := (0 : Int32)) (by exact dc_Lw_inside 15 rfl) (by decide) ?_
    cases h8
    exact rn_ireturn (by exact dc_Lw_inside 16 rfl) (by exact rfl)
  · dsimp only at h3
    by_cases c10 : k4 = 1
    · subst c10
      replace h3 := rn_ifp rfl h3
      refine rn_invVC (ca := 0) (sa := 0) (ca' := 1) (sa' := 6) (by exact t_Wt_inside_1 hZ e1) iv_Lw_38 vl_Lw_38 (by exact ⟨Nat.le_of_ble_eq_true rfl, Nat.le_of_ble_eq_true rfl⟩) (by exact dc_Lw_inside 6 rfl) (by exact rfl) (by exact rfl) (by exact rfl) (by exact Nat.le_of_ble_eq_true rfl) cw_Lw_inside (hc_Lw_inside_1) (hq_Lw_inside_1_1) (by decide) (by decide) hl_Lw_inside_1 cc_1 ?_
      show Rn _ _ 18 [some (.ref 1), some (.int v0), some (.int v1), some (.int v2), some (.ref 76), none] [.retAddr 0] (emb 35 44 x d c u t a b m o E) _ _ _
      refine rn_astoreX (ls' := [some (.ref 1), some (.int v0), some (.int v1), some (.int v2), some (.ref 76), some (.retAddr 0)]) (by exact dc_Lw_inside 12 rfl) (by decide) (by exact rfl) ?_
      refine rn_iconst (v := (2 : Int32)) (by exact dc_Lw_inside 13 rfl) (by decide) ?_
      cases h3
      exact rn_ireturn (by exact dc_Lw_inside 14 rfl) (by exact rfl)
    · replace h3 := rn_ifn c10 h3
      by_cases c9 : k4 = 3
      · subst c9
        replace h3 := rn_ifp rfl h3
        refine rn_invVC (ca := 0) (sa := 0) (ca' := 1) (sa' := 6) (by exact t_Wt_inside_3 hZ e1) iv_Lw_38 vl_Lw_38 (by exact ⟨Nat.le_of_ble_eq_true rfl, Nat.le_of_ble_eq_true rfl⟩) (by exact dc_Lw_inside 6 rfl) (by exact rfl) (by exact rfl) (by exact rfl) (by exact Nat.le_of_ble_eq_true rfl) cw_Lw_inside (hc_Lw_inside_0) (hq_Lw_inside_0_3) (by decide) (by decide) hl_Lw_inside_0 cc_3 ?_
        show Rn _ _ 14 [some (.ref 1), some (.int v0), some (.int v1), some (.int v2), some (.ref 76), none] [.retAddr 0] (emb 35 44 x d c u t a b m o E) _ _ _
        refine rn_astoreX (ls' := [some (.ref 1), some (.int v0), some (.int v1), some (.int v2), some (.ref 76), some (.retAddr 0)]) (by exact dc_Lw_inside 9 rfl) (by decide) (by exact rfl) ?_
        refine rn_iconst (v := (1 : Int32)) (by exact dc_Lw_inside 10 rfl) (by decide) ?_
        cases h3
        exact rn_ireturn (by exact dc_Lw_inside 11 rfl) (by exact rfl)
      · replace h3 := rn_ifn c9 h3
        simp at h3
def F_Lw_cheapest (c : tC) (a : tG) (o : tO) (v0 : Int32) (v1 : Int32) (v2 : Int32) : Option (Int32 × tO) :=
  Option.bind (F_Wt_cheapest c a v0 v1 v2) fun z2 =>
  match z2 with
  | .inr k4 => (
      if k4 = 1 then (
        some ((2 : Int32), o)
      ) else (
        if k4 = 3 then (
          some ((1 : Int32), o)
        ) else (
          none
        )
      )
    )
  | .inl x5 =>
    Option.bind (aS o 1 (0 : Int32) (x5.toInt64)) fun f6 =>
    some ((0 : Int32), f6)
set_option maxHeartbeats 4000000 in
set_option maxRecDepth 100000 in
theorem c_Lw_cheapest {Z : rn_Z} {x : tX} {d : tD} {c : tC} {u : tU} {t : tT} {a : tG} {b : tG} {m : tM} {o : tO} {E : List rn_C} {v0 : Int32} {v1 : Int32} {v2 : Int32} {res : Int32} {o_r : tO} (hZ : Z.1.stackTraces = false) (h : F_Lw_cheapest c a o v0 v1 v2 = some (res, o_r)) : CallH Z M_Lw_cheapest hh_Lw_cheapest [.ref 1, .int v0, .int v1, .int v2, .ref 76] (emb 35 44 x d c u t a b m o E) 1 6 (some (.int res)) (emb 35 44 x d c u t a b m o_r E) := by
  unfold F_Lw_cheapest at h
  refine rn_callH (by decide) 1 (by exact Nat.le_of_ble_eq_true rfl) ?_
  show Rn Z M_Lw_cheapest 0 [some (.ref 1), some (.int v0), some (.int v1), some (.int v2), some (.ref 76), none] [] (emb 35 44 x d c u t a b m o E) 1 6 _
  refine rn_aload (by exact dc_Lw_cheapest 0 rfl) (by exact rfl) ?_
  refine rn_iconst (v := (0 : Int32)) (by exact dc_Lw_cheapest 1 rfl) (by decide) ?_
  refine rn_aload_n (by exact dc_Lw_cheapest 2 rfl) (by exact rfl) ?_
  refine rn_iload_n (by exact dc_Lw_cheapest 3 rfl) (by exact rfl) ?_
  refine rn_iload_n (by exact dc_Lw_cheapest 4 rfl) (by exact rfl) ?_
  refine rn_iload_n (by exact dc_Lw_cheapest 5 rfl) (by exact rfl) ?_
  obtain ⟨z2, e1, h3⟩ := rn_bind h
  clear h
  rcases z2 with x5 | k4
  · dsimp only at h3
    refine rn_invV (ca := 1) (sa := 6) (ca' := 0) (sa' := 0) (by exact c_Wt_cheapest e1) iv_Lw_42 (by exact ⟨Nat.le_of_ble_eq_true rfl, Nat.le_of_ble_eq_true rfl⟩) (by exact dc_Lw_cheapest 6 rfl) (by exact rfl) (by exact rfl) (by exact rfl) (by exact Nat.le_of_ble_eq_true rfl) ?_
    show Rn _ _ 10 [some (.ref 1), some (.int v0), some (.int v1), some (.int v2), some (.ref 76), none] [.int x5, .int (0 : Int32), .ref 76] (emb 35 44 x d c u t a b m o E) _ _ _
    refine rn_i2l (by exact dc_Lw_cheapest 7 rfl) ?_
    obtain ⟨f6, e7, h8⟩ := rn_bind h3
    clear h3
    refine rn_lastore (w2 := (emb 35 44 x d c u t a b m f6 E)) (by exact dc_Lw_cheapest 8 rfl) (by exact rfl) e7 (by exact rfl) ?_
    refine rn_goto 23 (by exact dc_Lw_cheapest 9 rfl) (by exact rfl) ?_
    refine rn_iconst (v := (0 : Int32)) (by exact dc_Lw_cheapest 16 rfl) (by decide) ?_
    cases h8
    exact rn_ireturn (by exact dc_Lw_cheapest 17 rfl) (by exact rfl)
  · dsimp only at h3
    by_cases c10 : k4 = 1
    · subst c10
      replace h3 := rn_ifp rfl h3
      refine rn_invVC (ca := 0) (sa := 0) (ca' := 1) (sa' := 6) (by exact t_Wt_cheapest_1 hZ e1) iv_Lw_42 vl_Lw_42 (by exact ⟨Nat.le_of_ble_eq_true rfl, Nat.le_of_ble_eq_true rfl⟩) (by exact dc_Lw_cheapest 6 rfl) (by exact rfl) (by exact rfl) (by exact rfl) (by exact Nat.le_of_ble_eq_true rfl) cw_Lw_cheapest (hc_Lw_cheapest_1) (hq_Lw_cheapest_1_1) (by decide) (by decide) hl_Lw_cheapest_1 cc_1 ?_
      show Rn _ _ 19 [some (.ref 1), some (.int v0), some (.int v1), some (.int v2), some (.ref 76), none] [.retAddr 0] (emb 35 44 x d c u t a b m o E) _ _ _
      refine rn_astoreX (ls' := [some (.ref 1), some (.int v0), some (.int v1), some (.int v2), some (.ref 76), some (.retAddr 0)]) (by exact dc_Lw_cheapest 13 rfl) (by decide) (by exact rfl) ?_
      refine rn_iconst (v := (2 : Int32)) (by exact dc_Lw_cheapest 14 rfl) (by decide) ?_
      cases h3
      exact rn_ireturn (by exact dc_Lw_cheapest 15 rfl) (by exact rfl)
    · replace h3 := rn_ifn c10 h3
      by_cases c9 : k4 = 3
      · subst c9
        replace h3 := rn_ifp rfl h3
        refine rn_invVC (ca := 0) (sa := 0) (ca' := 1) (sa' := 6) (by exact t_Wt_cheapest_3 hZ e1) iv_Lw_42 vl_Lw_42 (by exact ⟨Nat.le_of_ble_eq_true rfl, Nat.le_of_ble_eq_true rfl⟩) (by exact dc_Lw_cheapest 6 rfl) (by exact rfl) (by exact rfl) (by exact rfl) (by exact Nat.le_of_ble_eq_true rfl) cw_Lw_cheapest (hc_Lw_cheapest_0) (hq_Lw_cheapest_0_3) (by decide) (by decide) hl_Lw_cheapest_0 cc_3 ?_
        show Rn _ _ 15 [some (.ref 1), some (.int v0), some (.int v1), some (.int v2), some (.ref 76), none] [.retAddr 0] (emb 35 44 x d c u t a b m o E) _ _ _
        refine rn_astoreX (ls' := [some (.ref 1), some (.int v0), some (.int v1), some (.int v2), some (.ref 76), some (.retAddr 0)]) (by exact dc_Lw_cheapest 10 rfl) (by decide) (by exact rfl) ?_
        refine rn_iconst (v := (1 : Int32)) (by exact dc_Lw_cheapest 11 rfl) (by decide) ?_
        cases h3
        exact rn_ireturn (by exact dc_Lw_cheapest 12 rfl) (by exact rfl)
      · replace h3 := rn_ifn c9 h3
        simp at h3
def F_Lw_build (c : tC) (t : tT) (a : tG) (o : tO) (v0 : Int32) (v1 : Int32) (v2 : Int32) : Option (Int32 × tT × tO) :=
  Option.bind (F_Wt_build c t a v0 v1 v2) fun z2 =>
  match z2 with
  | .inr (k4, t7) => (
      if k4 = 1 then (
        some ((2 : Int32), t7, o)
      ) else (
        if k4 = 2 then (
          some ((3 : Int32), t7, o)
        ) else (
          if k4 = 3 then (
            some ((1 : Int32), t7, o)
          ) else (
            none
          )
        )
      )
    )
  | .inl (x5, t6) =>
    Option.bind (aS o 1 (0 : Int32) (x5.toInt64)) fun f8 =>
    some ((0 : Int32), t6, f8)
set_option maxHeartbeats 4000000 in
set_option maxRecDepth 100000 in
theorem c_Lw_build {Z : rn_Z} {x : tX} {d : tD} {c : tC} {u : tU} {t : tT} {a : tG} {b : tG} {m : tM} {o : tO} {E : List rn_C} {v0 : Int32} {v1 : Int32} {v2 : Int32} {res : Int32} {t_r : tT} {o_r : tO} (hZ : Z.1.stackTraces = false) (h : F_Lw_build c t a o v0 v1 v2 = some (res, t_r, o_r)) : CallH Z M_Lw_build hh_Lw_build [.ref 1, .int v0, .int v1, .int v2, .ref 76] (emb 35 44 x d c u t a b m o E) 1 6 (some (.int res)) (emb 35 44 x d c u t_r a b m o_r E) := by
  unfold F_Lw_build at h
  refine rn_callH (by decide) 1 (by exact Nat.le_of_ble_eq_true rfl) ?_
  show Rn Z M_Lw_build 0 [some (.ref 1), some (.int v0), some (.int v1), some (.int v2), some (.ref 76), none] [] (emb 35 44 x d c u t a b m o E) 1 6 _
  refine rn_aload (by exact dc_Lw_build 0 rfl) (by exact rfl) ?_
  refine rn_iconst (v := (0 : Int32)) (by exact dc_Lw_build 1 rfl) (by decide) ?_
  refine rn_aload_n (by exact dc_Lw_build 2 rfl) (by exact rfl) ?_
  refine rn_iload_n (by exact dc_Lw_build 3 rfl) (by exact rfl) ?_
  refine rn_iload_n (by exact dc_Lw_build 4 rfl) (by exact rfl) ?_
  refine rn_iload_n (by exact dc_Lw_build 5 rfl) (by exact rfl) ?_
  obtain ⟨z2, e1, h3⟩ := rn_bind h
  clear h
  rcases z2 with ⟨x5, t6⟩ | ⟨k4, t7⟩
  · dsimp only at h3
    refine rn_invV (ca := 1) (sa := 6) (ca' := 0) (sa' := 0) (by exact c_Wt_build e1) iv_Lw_46 (by exact ⟨Nat.le_of_ble_eq_true rfl, Nat.le_of_ble_eq_true rfl⟩) (by exact dc_Lw_build 6 rfl) (by exact rfl) (by exact rfl) (by exact rfl) (by exact Nat.le_of_ble_eq_true rfl) ?_
    show Rn _ _ 10 [some (.ref 1), some (.int v0), some (.int v1), some (.int v2), some (.ref 76), none] [.int x5, .int (0 : Int32), .ref 76] (emb 35 44 x d c u t6 a b m o E) _ _ _
    refine rn_i2l (by exact dc_Lw_build 7 rfl) ?_
    obtain ⟨f8, e9, h10⟩ := rn_bind h3
    clear h3
    refine rn_lastore (w2 := (emb 35 44 x d c u t6 a b m f8 E)) (by exact dc_Lw_build 8 rfl) (by exact rfl) e9 (by exact rfl) ?_
    refine rn_goto 27 (by exact dc_Lw_build 9 rfl) (by exact rfl) ?_
    refine rn_iconst (v := (0 : Int32)) (by exact dc_Lw_build 19 rfl) (by decide) ?_
    cases h10
    exact rn_ireturn (by exact dc_Lw_build 20 rfl) (by exact rfl)
  · dsimp only at h3
    by_cases c13 : k4 = 1
    · subst c13
      replace h3 := rn_ifp rfl h3
      refine rn_invVC (ca := 0) (sa := 0) (ca' := 1) (sa' := 6) (by exact t_Wt_build_1 hZ e1) iv_Lw_46 vl_Lw_46 (by exact ⟨Nat.le_of_ble_eq_true rfl, Nat.le_of_ble_eq_true rfl⟩) (by exact dc_Lw_build 6 rfl) (by exact rfl) (by exact rfl) (by exact rfl) (by exact Nat.le_of_ble_eq_true rfl) cw_Lw_build (hc_Lw_build_1) (hq_Lw_build_1_1) (by decide) (by decide) hl_Lw_build_1 cc_1 ?_
      show Rn _ _ 19 [some (.ref 1), some (.int v0), some (.int v1), some (.int v2), some (.ref 76), none] [.retAddr 0] (emb 35 44 x d c u t7 a b m o E) _ _ _
      refine rn_astoreX (ls' := [some (.ref 1), some (.int v0), some (.int v1), some (.int v2), some (.ref 76), some (.retAddr 0)]) (by exact dc_Lw_build 13 rfl) (by decide) (by exact rfl) ?_
      refine rn_iconst (v := (2 : Int32)) (by exact dc_Lw_build 14 rfl) (by decide) ?_
      cases h3
      exact rn_ireturn (by exact dc_Lw_build 15 rfl) (by exact rfl)
    · replace h3 := rn_ifn c13 h3
      by_cases c12 : k4 = 2
      · subst c12
        replace h3 := rn_ifp rfl h3
        refine rn_invVC (ca := 0) (sa := 0) (ca' := 1) (sa' := 6) (by exact t_Wt_build_2 hZ e1) iv_Lw_46 vl_Lw_46 (by exact ⟨Nat.le_of_ble_eq_true rfl, Nat.le_of_ble_eq_true rfl⟩) (by exact dc_Lw_build 6 rfl) (by exact rfl) (by exact rfl) (by exact rfl) (by exact Nat.le_of_ble_eq_true rfl) cw_Lw_build (hc_Lw_build_2) (hq_Lw_build_2_2) (by decide) (by decide) hl_Lw_build_2 cc_2 ?_
        show Rn _ _ 23 [some (.ref 1), some (.int v0), some (.int v1), some (.int v2), some (.ref 76), none] [.retAddr 0] (emb 35 44 x d c u t7 a b m o E) _ _ _
        refine rn_astoreX (ls' := [some (.ref 1), some (.int v0), some (.int v1), some (.int v2), some (.ref 76), some (.retAddr 0)]) (by exact dc_Lw_build 16 rfl) (by decide) (by exact rfl) ?_
        refine rn_iconst (v := (3 : Int32)) (by exact dc_Lw_build 17 rfl) (by decide) ?_
        cases h3
        exact rn_ireturn (by exact dc_Lw_build 18 rfl) (by exact rfl)
      · replace h3 := rn_ifn c12 h3
        by_cases c11 : k4 = 3
        · subst c11
          replace h3 := rn_ifp rfl h3
          refine rn_invVC (ca := 0) (sa := 0) (ca' := 1) (sa' := 6) (by exact t_Wt_build_3 hZ e1) iv_Lw_46 vl_Lw_46 (by exact ⟨Nat.le_of_ble_eq_true rfl, Nat.le_of_ble_eq_true rfl⟩) (by exact dc_Lw_build 6 rfl) (by exact rfl) (by exact rfl) (by exact rfl) (by exact Nat.le_of_ble_eq_true rfl) cw_Lw_build (hc_Lw_build_0) (hq_Lw_build_0_3) (by decide) (by decide) hl_Lw_build_0 cc_3 ?_
          show Rn _ _ 15 [some (.ref 1), some (.int v0), some (.int v1), some (.int v2), some (.ref 76), none] [.retAddr 0] (emb 35 44 x d c u t7 a b m o E) _ _ _
          refine rn_astoreX (ls' := [some (.ref 1), some (.int v0), some (.int v1), some (.int v2), some (.ref 76), some (.retAddr 0)]) (by exact dc_Lw_build 10 rfl) (by decide) (by exact rfl) ?_
          refine rn_iconst (v := (1 : Int32)) (by exact dc_Lw_build 11 rfl) (by decide) ?_
          cases h3
          exact rn_ireturn (by exact dc_Lw_build 12 rfl) (by exact rfl)
        · replace h3 := rn_ifn c11 h3
          simp at h3
def F_Lw_node (t : tT) (o : tO) (v0 : Int32) (v1 : Int32) : Option (Int32 × tO) :=
  Option.bind (F_Wt_node t v0 v1) fun z2 =>
  match z2 with
  | .inr k4 => (
      if k4 = 3 then (
        some ((1 : Int32), o)
      ) else (
        none
      )
    )
  | .inl x5 =>
    Option.bind (aS o 1 (0 : Int32) (x5.toInt64)) fun f6 =>
    some ((0 : Int32), f6)
set_option maxHeartbeats 4000000 in
set_option maxRecDepth 100000 in
theorem c_Lw_node {Z : rn_Z} {x : tX} {d : tD} {c : tC} {u : tU} {t : tT} {a : tG} {b : tG} {m : tM} {o : tO} {E : List rn_C} {v0 : Int32} {v1 : Int32} {res : Int32} {o_r : tO} (hZ : Z.1.stackTraces = false) (h : F_Lw_node t o v0 v1 = some (res, o_r)) : CallH Z M_Lw_node hh_Lw_node [.ref 1, .int v0, .int v1, .ref 76] (emb 35 44 x d c u t a b m o E) 1 6 (some (.int res)) (emb 35 44 x d c u t a b m o_r E) := by
  unfold F_Lw_node at h
  refine rn_callH (by decide) 1 (by exact Nat.le_of_ble_eq_true rfl) ?_
  show Rn Z M_Lw_node 0 [some (.ref 1), some (.int v0), some (.int v1), some (.ref 76), none] [] (emb 35 44 x d c u t a b m o E) 1 6 _
  refine rn_aload_n (by exact dc_Lw_node 0 rfl) (by exact rfl) ?_
  refine rn_iconst (v := (0 : Int32)) (by exact dc_Lw_node 1 rfl) (by decide) ?_
  refine rn_aload_n (by exact dc_Lw_node 2 rfl) (by exact rfl) ?_
  refine rn_iload_n (by exact dc_Lw_node 3 rfl) (by exact rfl) ?_
  refine rn_iload_n (by exact dc_Lw_node 4 rfl) (by exact rfl) ?_
  obtain ⟨z2, e1, h3⟩ := rn_bind h
  clear h
  rcases z2 with x5 | k4
  · dsimp only at h3
    refine rn_invV (ca := 1) (sa := 6) (ca' := 0) (sa' := 0) (by exact c_Wt_node e1) iv_Lw_49 (by exact ⟨Nat.le_of_ble_eq_true rfl, Nat.le_of_ble_eq_true rfl⟩) (by exact dc_Lw_node 5 rfl) (by exact rfl) (by exact rfl) (by exact rfl) (by exact Nat.le_of_ble_eq_true rfl) ?_
    show Rn _ _ 8 [some (.ref 1), some (.int v0), some (.int v1), some (.ref 76), none] [.int x5, .int (0 : Int32), .ref 76] (emb 35 44 x d c u t a b m o E) _ _ _
    refine rn_i2l (by exact dc_Lw_node 6 rfl) ?_
    obtain ⟨f6, e7, h8⟩ := rn_bind h3
    clear h3
    refine rn_lastore (w2 := (emb 35 44 x d c u t a b m f6 E)) (by exact dc_Lw_node 7 rfl) (by exact rfl) e7 (by exact rfl) ?_
    refine rn_goto 17 (by exact dc_Lw_node 8 rfl) (by exact rfl) ?_
    refine rn_iconst (v := (0 : Int32)) (by exact dc_Lw_node 12 rfl) (by decide) ?_
    cases h8
    exact rn_ireturn (by exact dc_Lw_node 13 rfl) (by exact rfl)
  · dsimp only at h3
    by_cases c9 : k4 = 3
    · subst c9
      replace h3 := rn_ifp rfl h3
      refine rn_invVC (ca := 0) (sa := 0) (ca' := 1) (sa' := 6) (by exact t_Wt_node_3 hZ e1) iv_Lw_49 vl_Lw_49 (by exact ⟨Nat.le_of_ble_eq_true rfl, Nat.le_of_ble_eq_true rfl⟩) (by exact dc_Lw_node 5 rfl) (by exact rfl) (by exact rfl) (by exact rfl) (by exact Nat.le_of_ble_eq_true rfl) cw_Lw_node (hc_Lw_node_0) (hq_Lw_node_0_3) (by decide) (by decide) hl_Lw_node_0 cc_3 ?_
      show Rn _ _ 13 [some (.ref 1), some (.int v0), some (.int v1), some (.ref 76), none] [.retAddr 0] (emb 35 44 x d c u t a b m o E) _ _ _
      refine rn_astoreX (ls' := [some (.ref 1), some (.int v0), some (.int v1), some (.ref 76), some (.retAddr 0)]) (by exact dc_Lw_node 9 rfl) (by decide) (by exact rfl) ?_
      refine rn_iconst (v := (1 : Int32)) (by exact dc_Lw_node 10 rfl) (by decide) ?_
      cases h3
      exact rn_ireturn (by exact dc_Lw_node 11 rfl) (by exact rfl)
    · replace h3 := rn_ifn c9 h3
      simp at h3
