def F_Md_name (m : tM) (v0 : Int32) : Option (Int32 × tM) :=
  Option.bind (F_Md_isSymbol m v0) fun x2 =>
  Option.bind (
    if x2 = 0 then (
      some (1 : Int32)
    ) else (
      some (0 : Int32)
    )
   : Option Int32) fun y4 =>
  Option.bind (
    if (M_code (M_put_code m y4)) ≤ 0 then (
      Option.bind (aG (M_names (M_put_code m y4)) 6 v0) fun x14 =>
      some (x14 : Int32)
    ) else (
      some (0 : Int32)
    )
   : Option Int32) fun y9 =>
  some (y9, (M_put_code m y4))
set_option maxHeartbeats 4000000 in
set_option maxRecDepth 100000 in
theorem c_Md_name {Z : rn_Z} {g1 g2 : Nat} {x : tX} {d : tD} {c : tC} {u : tU} {t : tT} {a : tG} {b : tG} {m : tM} {o : tO} {E : List rn_C} {v0 : Int32} {res : Int32} {m_r : tM} (h : F_Md_name m v0 = some (res, m_r)) : Call Z M_Md_name [.ref 53, .int v0] (emb g1 g2 x d c u t a b m o E) 0 0 (some (.int res)) (emb g1 g2 x d c u t a b m_r o E) := by
  unfold F_Md_name at h
  refine rn_call (by decide) 0 (by exact Nat.le_of_ble_eq_true rfl) ?_
  show Rn Z M_Md_name 0 [some (.ref 53), some (.int v0)] [] (emb g1 g2 x d c u t a b m o E) 0 0 _
  refine rn_aload_n (by exact dc_Md_name 0 rfl) (by exact rfl) ?_
  refine rn_aload_n (by exact dc_Md_name 1 rfl) (by exact rfl) ?_
  refine rn_iload_n (by exact dc_Md_name 2 rfl) (by exact rfl) ?_
  obtain ⟨x2, e1, h3⟩ := rn_bind h
  clear h
  refine rn_invV0 (by exact c_Md_isSymbol e1) iv_Md_215 (by exact ⟨Nat.le_of_ble_eq_true rfl, Nat.le_of_ble_eq_true rfl⟩) (by exact dc_Md_name 3 rfl) (by exact rfl) (by exact rfl) (by exact rfl) (by exact Nat.le_of_ble_eq_true rfl) ?_
  show Rn _ _ 6 [some (.ref 53), some (.int v0)] [.int x2, .ref 53] (emb g1 g2 x d c u t a b m o E) _ _ _
  obtain ⟨y4, e5, h7⟩ := rn_bind h3
  clear h3
  have jq6 : Rn Z M_Md_name 14 [some (.ref 53), some (.int v0)] [.int y4, .ref 53] (emb g1 g2 x d c u t a b m o E) 0 0 (rn_Ret Z (some (.int res)) (emb g1 g2 x d c u t a b m_r o E)) := by
    refine rn_putf (w2 := (emb g1 g2 x d c u t a b (M_put_code m y4) o E)) fd_Md_77 (by exact dc_Md_name 8 rfl) (by exact rfl) (by exact rfl) (by exact Nat.le_of_ble_eq_true rfl) (by exact sm_code) ?_
    refine rn_aload_n (by exact dc_Md_name 9 rfl) (by exact rfl) ?_
    refine rn_getf (v := .int (M_code (M_put_code m y4))) fd_Md_77 (by exact dc_Md_name 10 rfl) (by exact rfl) (by exact rfl) ?_
    obtain ⟨y9, e10, h12⟩ := rn_bind h7
    clear h7
    have jq11 : Rn Z M_Md_name 34 [none, none] [.int y9] (emb g1 g2 x d c u t a b (M_put_code m y4) o E) 0 0 (rn_Ret Z (some (.int res)) (emb g1 g2 x d c u t a b m_r o E)) := by
      cases h12
      exact rn_ireturn (by exact dc_Md_name 18 rfl) (by exact rfl)
    by_cases c13 : (M_code (M_put_code m y4)) ≤ 0
    · replace e10 := rn_ifp c13 e10
      refine rn_if_le_t 28 (by exact dc_Md_name 11 rfl) (by exact rfl) c13 ?_
      refine rn_aload_n (by exact dc_Md_name 14 rfl) (by exact rfl) ?_
      refine rn_getf (v := .ref 62) fd_Md_35 (by exact dc_Md_name 15 rfl) (by exact rfl) (by exact rfl) ?_
      refine rn_iload_n (by exact dc_Md_name 16 rfl) (by exact rfl) ?_
      obtain ⟨x14, e15, h16⟩ := rn_bind e10
      clear e10
      refine rn_iaload (by exact dc_Md_name 17 rfl) (by exact rfl) e15 ?_
      cases h16
      exact rn_weak _ (by repeat (first | exact rn_le_0 | apply rn_le_s | apply rn_le_x)) jq11
    · replace e10 := rn_ifn c13 e10
      refine rn_if_le_f 28 (by exact dc_Md_name 11 rfl) (by exact rfl) c13 ?_
      refine rn_iconst (v := (0 : Int32)) (by exact dc_Md_name 12 rfl) (by decide) ?_
      refine rn_goto 34 (by exact dc_Md_name 13 rfl) (by exact rfl) ?_
      cases e10
      exact rn_weak _ (by repeat (first | exact rn_le_0 | apply rn_le_s | apply rn_le_x)) jq11
  by_cases c8 : x2 = 0
  · replace e5 := rn_ifp c8 e5
    refine rn_if_eq_t 13 (by exact dc_Md_name 4 rfl) (by exact rfl) c8 ?_
    refine rn_iconst (v := (1 : Int32)) (by exact dc_Md_name 7 rfl) (by decide) ?_
    cases e5
    exact rn_weak _ (by repeat (first | exact rn_le_0 | apply rn_le_s | apply rn_le_x)) jq6
  · replace e5 := rn_ifn c8 e5
    refine rn_if_eq_f 13 (by exact dc_Md_name 4 rfl) (by exact rfl) c8 ?_
    refine rn_iconst (v := (0 : Int32)) (by exact dc_Md_name 5 rfl) (by decide) ?_
    refine rn_goto 14 (by exact dc_Md_name 6 rfl) (by exact rfl) ?_
    cases e5
    exact rn_weak _ (by repeat (first | exact rn_le_0 | apply rn_le_s | apply rn_le_x)) jq6
def F_Md_weight (m : tM) (v0 : Int32) : Option (Int64 × tM) :=
  Option.bind (
    if (M_loaded m) = 0 then (
      some (1 : Int32)
    ) else (
      if v0 < 0 then (
        some (1 : Int32)
      ) else (
        if (M_rules m) ≤ v0 then (
          some (1 : Int32)
        ) else (
          some (0 : Int32)
        )
      )
    )
   : Option Int32) fun y1 =>
  Option.bind (
    if (M_code (M_put_code m y1)) ≤ 0 then (
      Option.bind (aG (M_weights (M_put_code m y1)) 12 v0) fun x13 =>
      some (x13 : Int64)
    ) else (
      some (0 : Int64)
    )
   : Option Int64) fun y8 =>
  some (y8, (M_put_code m y1))
set_option maxHeartbeats 4000000 in
set_option maxRecDepth 100000 in
theorem c_Md_weight {Z : rn_Z} {g1 g2 : Nat} {x : tX} {d : tD} {c : tC} {u : tU} {t : tT} {a : tG} {b : tG} {m : tM} {o : tO} {E : List rn_C} {v0 : Int32} {res : Int64} {m_r : tM} (h : F_Md_weight m v0 = some (res, m_r)) : Call Z M_Md_weight [.ref 53, .int v0] (emb g1 g2 x d c u t a b m o E) 0 0 (some (.long res)) (emb g1 g2 x d c u t a b m_r o E) := by
  unfold F_Md_weight at h
  refine rn_call (by decide) 0 (by exact Nat.le_of_ble_eq_true rfl) ?_
  show Rn Z M_Md_weight 0 [some (.ref 53), some (.int v0)] [] (emb g1 g2 x d c u t a b m o E) 0 0 _
  refine rn_aload_n (by exact dc_Md_weight 0 rfl) (by exact rfl) ?_
  refine rn_aload_n (by exact dc_Md_weight 1 rfl) (by exact rfl) ?_
  refine rn_getf (v := .int (M_loaded m)) fd_Md_168 (by exact dc_Md_weight 2 rfl) (by exact rfl) (by exact rfl) ?_
  obtain ⟨y1, e2, h4⟩ := rn_bind h
  clear h
  have jq3 : Rn Z M_Md_weight 25 [some (.ref 53), some (.int v0)] [.int y1, .ref 53] (emb g1 g2 x d c u t a b m o E) 0 0 (rn_Ret Z (some (.long res)) (emb g1 g2 x d c u t a b m_r o E)) := by
    refine rn_putf (w2 := (emb g1 g2 x d c u t a b (M_put_code m y1) o E)) fd_Md_77 (by exact dc_Md_weight 13 rfl) (by exact rfl) (by exact rfl) (by exact Nat.le_of_ble_eq_true rfl) (by exact sm_code) ?_
    refine rn_aload_n (by exact dc_Md_weight 14 rfl) (by exact rfl) ?_
    refine rn_getf (v := .int (M_code (M_put_code m y1))) fd_Md_77 (by exact dc_Md_weight 15 rfl) (by exact rfl) (by exact rfl) ?_
    obtain ⟨y8, e9, h11⟩ := rn_bind h4
    clear h4
    have jq10 : Rn Z M_Md_weight 45 [none, none] [.long y8] (emb g1 g2 x d c u t a b (M_put_code m y1) o E) 0 0 (rn_Ret Z (some (.long res)) (emb g1 g2 x d c u t a b m_r o E)) := by
      cases h11
      exact rn_lreturn (by exact dc_Md_weight 23 rfl) (by exact rfl)
    by_cases c12 : (M_code (M_put_code m y1)) ≤ 0
    · replace e9 := rn_ifp c12 e9
      refine rn_if_le_t 39 (by exact dc_Md_weight 16 rfl) (by exact rfl) c12 ?_
      refine rn_aload_n (by exact dc_Md_weight 19 rfl) (by exact rfl) ?_
      refine rn_getf (v := .ref 60) fd_Md_28 (by exact dc_Md_weight 20 rfl) (by exact rfl) (by exact rfl) ?_
      refine rn_iload_n (by exact dc_Md_weight 21 rfl) (by exact rfl) ?_
      obtain ⟨x13, e14, h15⟩ := rn_bind e9
      clear e9
      refine rn_laload (by exact dc_Md_weight 22 rfl) (by exact rfl) e14 ?_
      cases h15
      exact rn_weak _ (by repeat (first | exact rn_le_0 | apply rn_le_s | apply rn_le_x)) jq10
    · replace e9 := rn_ifn c12 e9
      refine rn_if_le_f 39 (by exact dc_Md_weight 16 rfl) (by exact rfl) c12 ?_
      refine rn_lconst (v := (0 : Int64)) (by exact dc_Md_weight 17 rfl) (by decide) ?_
      refine rn_goto 45 (by exact dc_Md_weight 18 rfl) (by exact rfl) ?_
      cases e9
      exact rn_weak _ (by repeat (first | exact rn_le_0 | apply rn_le_s | apply rn_le_x)) jq10
  by_cases c5 : (M_loaded m) = 0
  · replace e2 := rn_ifp c5 e2
    refine rn_if_eq_t 24 (by exact dc_Md_weight 3 rfl) (by exact rfl) c5 ?_
    refine rn_iconst (v := (1 : Int32)) (by exact dc_Md_weight 12 rfl) (by decide) ?_
    cases e2
    exact rn_weak _ (by repeat (first | exact rn_le_0 | apply rn_le_s | apply rn_le_x)) jq3
  · replace e2 := rn_ifn c5 e2
    refine rn_if_eq_f 24 (by exact dc_Md_weight 3 rfl) (by exact rfl) c5 ?_
    refine rn_iload_n (by exact dc_Md_weight 4 rfl) (by exact rfl) ?_
    by_cases c6 : v0 < 0
    · replace e2 := rn_ifp c6 e2
      refine rn_if_lt_t 24 (by exact dc_Md_weight 5 rfl) (by exact rfl) c6 ?_
      refine rn_iconst (v := (1 : Int32)) (by exact dc_Md_weight 12 rfl) (by decide) ?_
      cases e2
      exact rn_weak _ (by repeat (first | exact rn_le_0 | apply rn_le_s | apply rn_le_x)) jq3
    · replace e2 := rn_ifn c6 e2
      refine rn_if_lt_f 24 (by exact dc_Md_weight 5 rfl) (by exact rfl) c6 ?_
      refine rn_iload_n (by exact dc_Md_weight 6 rfl) (by exact rfl) ?_
      refine rn_aload_n (by exact dc_Md_weight 7 rfl) (by exact rfl) ?_
      refine rn_getf (v := .int (M_rules m)) fd_Md_115 (by exact dc_Md_weight 8 rfl) (by exact rfl) (by exact rfl) ?_
      by_cases c7 : (M_rules m) ≤ v0
      · replace e2 := rn_ifp c7 e2
        refine rn_icmp_ge_t 24 (by exact dc_Md_weight 9 rfl) (by exact rfl) c7 ?_
        refine rn_iconst (v := (1 : Int32)) (by exact dc_Md_weight 12 rfl) (by decide) ?_
        cases e2
        exact rn_weak _ (by repeat (first | exact rn_le_0 | apply rn_le_s | apply rn_le_x)) jq3
      · replace e2 := rn_ifn c7 e2
        refine rn_icmp_ge_f 24 (by exact dc_Md_weight 9 rfl) (by exact rfl) c7 ?_
        refine rn_iconst (v := (0 : Int32)) (by exact dc_Md_weight 10 rfl) (by decide) ?_
        refine rn_goto 25 (by exact dc_Md_weight 11 rfl) (by exact rfl) ?_
        cases e2
        exact rn_weak _ (by repeat (first | exact rn_le_0 | apply rn_le_s | apply rn_le_x)) jq3
def F_Md_empty (m : tM) (v0 : Int32) : Option (Int64 × tM) :=
  Option.bind (F_Md_isSymbol m v0) fun x2 =>
  Option.bind (
    if x2 = 0 then (
      some (1 : Int32)
    ) else (
      some (0 : Int32)
    )
   : Option Int32) fun y4 =>
  Option.bind (
    if (M_code (M_put_code m y4)) ≤ 0 then (
      Option.bind (aG (M_emptySum (M_put_code m y4)) 6 v0) fun x14 =>
      some (x14 : Int64)
    ) else (
      some (0 : Int64)
    )
   : Option Int64) fun y9 =>
  some (y9, (M_put_code m y4))
set_option maxHeartbeats 4000000 in
set_option maxRecDepth 100000 in
theorem c_Md_empty {Z : rn_Z} {g1 g2 : Nat} {x : tX} {d : tD} {c : tC} {u : tU} {t : tT} {a : tG} {b : tG} {m : tM} {o : tO} {E : List rn_C} {v0 : Int32} {res : Int64} {m_r : tM} (h : F_Md_empty m v0 = some (res, m_r)) : Call Z M_Md_empty [.ref 53, .int v0] (emb g1 g2 x d c u t a b m o E) 0 0 (some (.long res)) (emb g1 g2 x d c u t a b m_r o E) := by
  unfold F_Md_empty at h
  refine rn_call (by decide) 0 (by exact Nat.le_of_ble_eq_true rfl) ?_
  show Rn Z M_Md_empty 0 [some (.ref 53), some (.int v0)] [] (emb g1 g2 x d c u t a b m o E) 0 0 _
  refine rn_aload_n (by exact dc_Md_empty 0 rfl) (by exact rfl) ?_
  refine rn_aload_n (by exact dc_Md_empty 1 rfl) (by exact rfl) ?_
  refine rn_iload_n (by exact dc_Md_empty 2 rfl) (by exact rfl) ?_
  obtain ⟨x2, e1, h3⟩ := rn_bind h
  clear h
  refine rn_invV0 (by exact c_Md_isSymbol e1) iv_Md_215 (by exact ⟨Nat.le_of_ble_eq_true rfl, Nat.le_of_ble_eq_true rfl⟩) (by exact dc_Md_empty 3 rfl) (by exact rfl) (by exact rfl) (by exact rfl) (by exact Nat.le_of_ble_eq_true rfl) ?_
  show Rn _ _ 6 [some (.ref 53), some (.int v0)] [.int x2, .ref 53] (emb g1 g2 x d c u t a b m o E) _ _ _
  obtain ⟨y4, e5, h7⟩ := rn_bind h3
  clear h3
  have jq6 : Rn Z M_Md_empty 14 [some (.ref 53), some (.int v0)] [.int y4, .ref 53] (emb g1 g2 x d c u t a b m o E) 0 0 (rn_Ret Z (some (.long res)) (emb g1 g2 x d c u t a b m_r o E)) := by
    refine rn_putf (w2 := (emb g1 g2 x d c u t a b (M_put_code m y4) o E)) fd_Md_77 (by exact dc_Md_empty 8 rfl) (by exact rfl) (by exact rfl) (by exact Nat.le_of_ble_eq_true rfl) (by exact sm_code) ?_
    refine rn_aload_n (by exact dc_Md_empty 9 rfl) (by exact rfl) ?_
    refine rn_getf (v := .int (M_code (M_put_code m y4))) fd_Md_77 (by exact dc_Md_empty 10 rfl) (by exact rfl) (by exact rfl) ?_
    obtain ⟨y9, e10, h12⟩ := rn_bind h7
    clear h7
    have jq11 : Rn Z M_Md_empty 34 [none, none] [.long y9] (emb g1 g2 x d c u t a b (M_put_code m y4) o E) 0 0 (rn_Ret Z (some (.long res)) (emb g1 g2 x d c u t a b m_r o E)) := by
      cases h12
      exact rn_lreturn (by exact dc_Md_empty 18 rfl) (by exact rfl)
    by_cases c13 : (M_code (M_put_code m y4)) ≤ 0
    · replace e10 := rn_ifp c13 e10
      refine rn_if_le_t 28 (by exact dc_Md_empty 11 rfl) (by exact rfl) c13 ?_
      refine rn_aload_n (by exact dc_Md_empty 14 rfl) (by exact rfl) ?_
      refine rn_getf (v := .ref 64) fd_Md_41 (by exact dc_Md_empty 15 rfl) (by exact rfl) (by exact rfl) ?_
      refine rn_iload_n (by exact dc_Md_empty 16 rfl) (by exact rfl) ?_
      obtain ⟨x14, e15, h16⟩ := rn_bind e10
      clear e10
      refine rn_laload (by exact dc_Md_empty 17 rfl) (by exact rfl) e15 ?_
      cases h16
      exact rn_weak _ (by repeat (first | exact rn_le_0 | apply rn_le_s | apply rn_le_x)) jq11
    · replace e10 := rn_ifn c13 e10
      refine rn_if_le_f 28 (by exact dc_Md_empty 11 rfl) (by exact rfl) c13 ?_
      refine rn_lconst (v := (0 : Int64)) (by exact dc_Md_empty 12 rfl) (by decide) ?_
      refine rn_goto 34 (by exact dc_Md_empty 13 rfl) (by exact rfl) ?_
      cases e10
      exact rn_weak _ (by repeat (first | exact rn_le_0 | apply rn_le_s | apply rn_le_x)) jq11
  by_cases c8 : x2 = 0
  · replace e5 := rn_ifp c8 e5
    refine rn_if_eq_t 13 (by exact dc_Md_empty 4 rfl) (by exact rfl) c8 ?_
    refine rn_iconst (v := (1 : Int32)) (by exact dc_Md_empty 7 rfl) (by decide) ?_
    cases e5
    exact rn_weak _ (by repeat (first | exact rn_le_0 | apply rn_le_s | apply rn_le_x)) jq6
  · replace e5 := rn_ifn c8 e5
    refine rn_if_eq_f 13 (by exact dc_Md_empty 4 rfl) (by exact rfl) c8 ?_
    refine rn_iconst (v := (0 : Int32)) (by exact dc_Md_empty 5 rfl) (by decide) ?_
    refine rn_goto 14 (by exact dc_Md_empty 6 rfl) (by exact rfl) ?_
    cases e5
    exact rn_weak _ (by repeat (first | exact rn_le_0 | apply rn_le_s | apply rn_le_x)) jq6
def F_Md_unit (m : tM) (v0 : Int32) (v1 : Int32) : Option (Int64 × tM) :=
  Option.bind (F_Md_isSymbol m v0) fun x2 =>
  Option.bind (
    if x2 = 0 then (
      some (1 : Int32)
    ) else (
      Option.bind (F_Md_isSymbol m v1) fun x10 =>
      if x10 = 0 then (
        some (1 : Int32)
      ) else (
        some (0 : Int32)
      )
    )
   : Option Int32) fun y4 =>
  Option.bind (
    if (M_code (M_put_code m y4)) ≤ 0 then (
      Option.bind (aG (M_units (M_put_code m y4)) 36 (((6 : Int32) * v0) + v1)) fun x18 =>
      some (x18 : Int64)
    ) else (
      some (0 : Int64)
    )
   : Option Int64) fun y13 =>
  some (y13, (M_put_code m y4))
set_option maxHeartbeats 4000000 in
set_option maxRecDepth 100000 in
theorem c_Md_unit {Z : rn_Z} {g1 g2 : Nat} {x : tX} {d : tD} {c : tC} {u : tU} {t : tT} {a : tG} {b : tG} {m : tM} {o : tO} {E : List rn_C} {v0 : Int32} {v1 : Int32} {res : Int64} {m_r : tM} (h : F_Md_unit m v0 v1 = some (res, m_r)) : Call Z M_Md_unit [.ref 53, .int v0, .int v1] (emb g1 g2 x d c u t a b m o E) 0 0 (some (.long res)) (emb g1 g2 x d c u t a b m_r o E) := by
  unfold F_Md_unit at h
  refine rn_call (by decide) 0 (by exact Nat.le_of_ble_eq_true rfl) ?_
  show Rn Z M_Md_unit 0 [some (.ref 53), some (.int v0), some (.int v1)] [] (emb g1 g2 x d c u t a b m o E) 0 0 _
  refine rn_aload_n (by exact dc_Md_unit 0 rfl) (by exact rfl) ?_
  refine rn_aload_n (by exact dc_Md_unit 1 rfl) (by exact rfl) ?_
  refine rn_iload_n (by exact dc_Md_unit 2 rfl) (by exact rfl) ?_
  obtain ⟨x2, e1, h3⟩ := rn_bind h
  clear h
  refine rn_invV0 (by exact c_Md_isSymbol e1) iv_Md_215 (by exact ⟨Nat.le_of_ble_eq_true rfl, Nat.le_of_ble_eq_true rfl⟩) (by exact dc_Md_unit 3 rfl) (by exact rfl) (by exact rfl) (by exact rfl) (by exact Nat.le_of_ble_eq_true rfl) ?_
  show Rn _ _ 6 [some (.ref 53), some (.int v0), some (.int v1)] [.int x2, .ref 53] (emb g1 g2 x d c u t a b m o E) _ _ _
  obtain ⟨y4, e5, h7⟩ := rn_bind h3
  clear h3
  have jq6 : Rn Z M_Md_unit 22 [some (.ref 53), some (.int v0), some (.int v1)] [.int y4, .ref 53] (emb g1 g2 x d c u t a b m o E) 0 0 (rn_Ret Z (some (.long res)) (emb g1 g2 x d c u t a b m_r o E)) := by
    refine rn_putf (w2 := (emb g1 g2 x d c u t a b (M_put_code m y4) o E)) fd_Md_77 (by exact dc_Md_unit 12 rfl) (by exact rfl) (by exact rfl) (by exact Nat.le_of_ble_eq_true rfl) (by exact sm_code) ?_
    refine rn_aload_n (by exact dc_Md_unit 13 rfl) (by exact rfl) ?_
    refine rn_getf (v := .int (M_code (M_put_code m y4))) fd_Md_77 (by exact dc_Md_unit 14 rfl) (by exact rfl) (by exact rfl) ?_
    obtain ⟨y13, e14, h16⟩ := rn_bind h7
    clear h7
    have jq15 : Rn Z M_Md_unit 47 [none, none, none] [.long y13] (emb g1 g2 x d c u t a b (M_put_code m y4) o E) 0 0 (rn_Ret Z (some (.long res)) (emb g1 g2 x d c u t a b m_r o E)) := by
      cases h16
      exact rn_lreturn (by exact dc_Md_unit 26 rfl) (by exact rfl)
    by_cases c17 : (M_code (M_put_code m y4)) ≤ 0
    · replace e14 := rn_ifp c17 e14
      refine rn_if_le_t 36 (by exact dc_Md_unit 15 rfl) (by exact rfl) c17 ?_
      refine rn_aload_n (by exact dc_Md_unit 18 rfl) (by exact rfl) ?_
      refine rn_getf (v := .ref 68) fd_Md_53 (by exact dc_Md_unit 19 rfl) (by exact rfl) (by exact rfl) ?_
      refine rn_bipush (v := (6 : Int32)) (by exact dc_Md_unit 20 rfl) (by decide) ?_
      refine rn_iload_n (by exact dc_Md_unit 21 rfl) (by exact rfl) ?_
      refine rn_imul (by exact dc_Md_unit 22 rfl) ?_
      refine rn_iload_n (by exact dc_Md_unit 23 rfl) (by exact rfl) ?_
      refine rn_iadd (by exact dc_Md_unit 24 rfl) ?_
      obtain ⟨x18, e19, h20⟩ := rn_bind e14
      clear e14
      refine rn_laload (by exact dc_Md_unit 25 rfl) (by exact rfl) e19 ?_
      cases h20
      exact rn_weak _ (by repeat (first | exact rn_le_0 | apply rn_le_s | apply rn_le_x)) jq15
    · replace e14 := rn_ifn c17 e14
      refine rn_if_le_f 36 (by exact dc_Md_unit 15 rfl) (by exact rfl) c17 ?_
      refine rn_lconst (v := (0 : Int64)) (by exact dc_Md_unit 16 rfl) (by decide) ?_
      refine rn_goto 47 (by exact dc_Md_unit 17 rfl) (by exact rfl) ?_
      cases e14
      exact rn_weak _ (by repeat (first | exact rn_le_0 | apply rn_le_s | apply rn_le_x)) jq15
  by_cases c8 : x2 = 0
  · replace e5 := rn_ifp c8 e5
    refine rn_if_eq_t 21 (by exact dc_Md_unit 4 rfl) (by exact rfl) c8 ?_
    refine rn_iconst (v := (1 : Int32)) (by exact dc_Md_unit 11 rfl) (by decide) ?_
    cases e5
    exact rn_weak _ (by repeat (first | exact rn_le_0 | apply rn_le_s | apply rn_le_x)) jq6
  · replace e5 := rn_ifn c8 e5
    refine rn_if_eq_f 21 (by exact dc_Md_unit 4 rfl) (by exact rfl) c8 ?_
    refine rn_aload_n (by exact dc_Md_unit 5 rfl) (by exact rfl) ?_
    refine rn_iload_n (by exact dc_Md_unit 6 rfl) (by exact rfl) ?_
    obtain ⟨x10, e9, h11⟩ := rn_bind e5
    clear e5
    refine rn_invV0 (by exact c_Md_isSymbol e9) iv_Md_215 (by exact ⟨Nat.le_of_ble_eq_true rfl, Nat.le_of_ble_eq_true rfl⟩) (by exact dc_Md_unit 7 rfl) (by exact rfl) (by exact rfl) (by exact rfl) (by exact Nat.le_of_ble_eq_true rfl) ?_
    show Rn _ _ 14 [some (.ref 53), some (.int v0), some (.int v1)] [.int x10, .ref 53] (emb g1 g2 x d c u t a b m o E) _ _ _
    by_cases c12 : x10 = 0
    · replace h11 := rn_ifp c12 h11
      refine rn_if_eq_t 21 (by exact dc_Md_unit 8 rfl) (by exact rfl) c12 ?_
      refine rn_iconst (v := (1 : Int32)) (by exact dc_Md_unit 11 rfl) (by decide) ?_
      cases h11
      exact rn_weak _ (by repeat (first | exact rn_le_0 | apply rn_le_s | apply rn_le_x)) jq6
    · replace h11 := rn_ifn c12 h11
      refine rn_if_eq_f 21 (by exact dc_Md_unit 8 rfl) (by exact rfl) c12 ?_
      refine rn_iconst (v := (0 : Int32)) (by exact dc_Md_unit 9 rfl) (by decide) ?_
      refine rn_goto 22 (by exact dc_Md_unit 10 rfl) (by exact rfl) ?_
      cases h11
      exact rn_weak _ (by repeat (first | exact rn_le_0 | apply rn_le_s | apply rn_le_x)) jq6
def F_Md_inside (m : tM) (v0 : Int32) (v1 : Int32) (v2 : Int32) : Option (Int64 × tM) :=
  Option.bind (F_Md_refusal m v0 v1 v2) fun x2 =>
  Option.bind (
    if (M_code (M_put_code m x2)) ≤ 0 then (
      Option.bind (F_Md_sumOf (M_put_code m x2) v0 v1 v2) fun x10 =>
      some (x10 : Int64)
    ) else (
      some (0 : Int64)
    )
   : Option Int64) fun y4 =>
  some (y4, (M_put_code m x2))
set_option maxHeartbeats 4000000 in
set_option maxRecDepth 100000 in
theorem c_Md_inside {Z : rn_Z} {g1 g2 : Nat} {x : tX} {d : tD} {c : tC} {u : tU} {t : tT} {a : tG} {b : tG} {m : tM} {o : tO} {E : List rn_C} {v0 : Int32} {v1 : Int32} {v2 : Int32} {res : Int64} {m_r : tM} (h : F_Md_inside m v0 v1 v2 = some (res, m_r)) : Call Z M_Md_inside [.ref 53, .int v0, .int v1, .int v2] (emb g1 g2 x d c u t a b m o E) 0 0 (some (.long res)) (emb g1 g2 x d c u t a b m_r o E) := by
  unfold F_Md_inside at h
  refine rn_call (by decide) 0 (by exact Nat.le_of_ble_eq_true rfl) ?_
  show Rn Z M_Md_inside 0 [some (.ref 53), some (.int v0), some (.int v1), some (.int v2)] [] (emb g1 g2 x d c u t a b m o E) 0 0 _
  refine rn_aload_n (by exact dc_Md_inside 0 rfl) (by exact rfl) ?_
  refine rn_aload_n (by exact dc_Md_inside 1 rfl) (by exact rfl) ?_
  refine rn_iload_n (by exact dc_Md_inside 2 rfl) (by exact rfl) ?_
  refine rn_iload_n (by exact dc_Md_inside 3 rfl) (by exact rfl) ?_
  refine rn_iload_n (by exact dc_Md_inside 4 rfl) (by exact rfl) ?_
  obtain ⟨x2, e1, h3⟩ := rn_bind h
  clear h
  refine rn_invV0 (by exact c_Md_refusal e1) iv_Md_218 (by exact ⟨Nat.le_of_ble_eq_true rfl, Nat.le_of_ble_eq_true rfl⟩) (by exact dc_Md_inside 5 rfl) (by exact rfl) (by exact rfl) (by exact rfl) (by exact Nat.le_of_ble_eq_true rfl) ?_
  show Rn _ _ 8 [some (.ref 53), some (.int v0), some (.int v1), some (.int v2)] [.int x2, .ref 53] (emb g1 g2 x d c u t a b m o E) _ _ _
  refine rn_putf (w2 := (emb g1 g2 x d c u t a b (M_put_code m x2) o E)) fd_Md_77 (by exact dc_Md_inside 6 rfl) (by exact rfl) (by exact rfl) (by exact Nat.le_of_ble_eq_true rfl) (by exact sm_code) ?_
  refine rn_aload_n (by exact dc_Md_inside 7 rfl) (by exact rfl) ?_
  refine rn_getf (v := .int (M_code (M_put_code m x2))) fd_Md_77 (by exact dc_Md_inside 8 rfl) (by exact rfl) (by exact rfl) ?_
  obtain ⟨y4, e5, h7⟩ := rn_bind h3
  clear h3
  have jq6 : Rn Z M_Md_inside 29 [none, none, none, none] [.long y4] (emb g1 g2 x d c u t a b (M_put_code m x2) o E) 0 0 (rn_Ret Z (some (.long res)) (emb g1 g2 x d c u t a b m_r o E)) := by
    cases h7
    exact rn_lreturn (by exact dc_Md_inside 17 rfl) (by exact rfl)
  by_cases c8 : (M_code (M_put_code m x2)) ≤ 0
  · replace e5 := rn_ifp c8 e5
    refine rn_if_le_t 22 (by exact dc_Md_inside 9 rfl) (by exact rfl) c8 ?_
    refine rn_aload_n (by exact dc_Md_inside 12 rfl) (by exact rfl) ?_
    refine rn_iload_n (by exact dc_Md_inside 13 rfl) (by exact rfl) ?_
    refine rn_iload_n (by exact dc_Md_inside 14 rfl) (by exact rfl) ?_
    refine rn_iload_n (by exact dc_Md_inside 15 rfl) (by exact rfl) ?_
    obtain ⟨x10, e9, h11⟩ := rn_bind e5
    clear e5
    refine rn_invV0 (by exact c_Md_sumOf e9) iv_Md_185 (by exact ⟨Nat.le_of_ble_eq_true rfl, Nat.le_of_ble_eq_true rfl⟩) (by exact dc_Md_inside 16 rfl) (by exact rfl) (by exact rfl) (by exact rfl) (by exact Nat.le_of_ble_eq_true rfl) ?_
    show Rn _ _ 29 [some (.ref 53), some (.int v0), some (.int v1), some (.int v2)] [.long x10] (emb g1 g2 x d c u t a b (M_put_code m x2) o E) _ _ _
    cases h11
    exact rn_weak _ (by repeat (first | exact rn_le_0 | apply rn_le_s | apply rn_le_x)) jq6
  · replace e5 := rn_ifn c8 e5
    refine rn_if_le_f 22 (by exact dc_Md_inside 9 rfl) (by exact rfl) c8 ?_
    refine rn_lconst (v := (0 : Int64)) (by exact dc_Md_inside 10 rfl) (by decide) ?_
    refine rn_goto 29 (by exact dc_Md_inside 11 rfl) (by exact rfl) ?_
    cases e5
    exact rn_weak _ (by repeat (first | exact rn_le_0 | apply rn_le_s | apply rn_le_x)) jq6
def F_Md_cheapest (m : tM) (v0 : Int32) (v1 : Int32) (v2 : Int32) : Option (Int32 × tM) :=
  Option.bind (F_Md_refusal m v0 v1 v2) fun x2 =>
  Option.bind (
    if (M_code (M_put_code m x2)) ≤ 0 then (
      Option.bind (F_Md_costOf (M_put_code m x2) v0 v1 v2) fun x10 =>
      some (x10 : Int32)
    ) else (
      some (0 : Int32)
    )
   : Option Int32) fun y4 =>
  some (y4, (M_put_code m x2))
set_option maxHeartbeats 4000000 in
set_option maxRecDepth 100000 in
theorem c_Md_cheapest {Z : rn_Z} {g1 g2 : Nat} {x : tX} {d : tD} {c : tC} {u : tU} {t : tT} {a : tG} {b : tG} {m : tM} {o : tO} {E : List rn_C} {v0 : Int32} {v1 : Int32} {v2 : Int32} {res : Int32} {m_r : tM} (h : F_Md_cheapest m v0 v1 v2 = some (res, m_r)) : Call Z M_Md_cheapest [.ref 53, .int v0, .int v1, .int v2] (emb g1 g2 x d c u t a b m o E) 0 0 (some (.int res)) (emb g1 g2 x d c u t a b m_r o E) := by
  unfold F_Md_cheapest at h
  refine rn_call (by decide) 0 (by exact Nat.le_of_ble_eq_true rfl) ?_
  show Rn Z M_Md_cheapest 0 [some (.ref 53), some (.int v0), some (.int v1), some (.int v2)] [] (emb g1 g2 x d c u t a b m o E) 0 0 _
  refine rn_aload_n (by exact dc_Md_cheapest 0 rfl) (by exact rfl) ?_
  refine rn_aload_n (by exact dc_Md_cheapest 1 rfl) (by exact rfl) ?_
  refine rn_iload_n (by exact dc_Md_cheapest 2 rfl) (by exact rfl) ?_
  refine rn_iload_n (by exact dc_Md_cheapest 3 rfl) (by exact rfl) ?_
  refine rn_iload_n (by exact dc_Md_cheapest 4 rfl) (by exact rfl) ?_
  obtain ⟨x2, e1, h3⟩ := rn_bind h
  clear h
  refine rn_invV0 (by exact c_Md_refusal e1) iv_Md_218 (by exact ⟨Nat.le_of_ble_eq_true rfl, Nat.le_of_ble_eq_true rfl⟩) (by exact dc_Md_cheapest 5 rfl) (by exact rfl) (by exact rfl) (by exact rfl) (by exact Nat.le_of_ble_eq_true rfl) ?_
  show Rn _ _ 8 [some (.ref 53), some (.int v0), some (.int v1), some (.int v2)] [.int x2, .ref 53] (emb g1 g2 x d c u t a b m o E) _ _ _
  refine rn_putf (w2 := (emb g1 g2 x d c u t a b (M_put_code m x2) o E)) fd_Md_77 (by exact dc_Md_cheapest 6 rfl) (by exact rfl) (by exact rfl) (by exact Nat.le_of_ble_eq_true rfl) (by exact sm_code) ?_
  refine rn_aload_n (by exact dc_Md_cheapest 7 rfl) (by exact rfl) ?_
  refine rn_getf (v := .int (M_code (M_put_code m x2))) fd_Md_77 (by exact dc_Md_cheapest 8 rfl) (by exact rfl) (by exact rfl) ?_
  obtain ⟨y4, e5, h7⟩ := rn_bind h3
  clear h3
  have jq6 : Rn Z M_Md_cheapest 29 [none, none, none, none] [.int y4] (emb g1 g2 x d c u t a b (M_put_code m x2) o E) 0 0 (rn_Ret Z (some (.int res)) (emb g1 g2 x d c u t a b m_r o E)) := by
    cases h7
    exact rn_ireturn (by exact dc_Md_cheapest 17 rfl) (by exact rfl)
  by_cases c8 : (M_code (M_put_code m x2)) ≤ 0
  · replace e5 := rn_ifp c8 e5
    refine rn_if_le_t 22 (by exact dc_Md_cheapest 9 rfl) (by exact rfl) c8 ?_
    refine rn_aload_n (by exact dc_Md_cheapest 12 rfl) (by exact rfl) ?_
    refine rn_iload_n (by exact dc_Md_cheapest 13 rfl) (by exact rfl) ?_
    refine rn_iload_n (by exact dc_Md_cheapest 14 rfl) (by exact rfl) ?_
    refine rn_iload_n (by exact dc_Md_cheapest 15 rfl) (by exact rfl) ?_
    obtain ⟨x10, e9, h11⟩ := rn_bind e5
    clear e5
    refine rn_invV0 (by exact c_Md_costOf e9) iv_Md_189 (by exact ⟨Nat.le_of_ble_eq_true rfl, Nat.le_of_ble_eq_true rfl⟩) (by exact dc_Md_cheapest 16 rfl) (by exact rfl) (by exact rfl) (by exact rfl) (by exact Nat.le_of_ble_eq_true rfl) ?_
    show Rn _ _ 29 [some (.ref 53), some (.int v0), some (.int v1), some (.int v2)] [.int x10] (emb g1 g2 x d c u t a b (M_put_code m x2) o E) _ _ _
    cases h11
    exact rn_weak _ (by repeat (first | exact rn_le_0 | apply rn_le_s | apply rn_le_x)) jq6
  · replace e5 := rn_ifn c8 e5
    refine rn_if_le_f 22 (by exact dc_Md_cheapest 9 rfl) (by exact rfl) c8 ?_
    refine rn_iconst (v := (0 : Int32)) (by exact dc_Md_cheapest 10 rfl) (by decide) ?_
    refine rn_goto 29 (by exact dc_Md_cheapest 11 rfl) (by exact rfl) ?_
    cases e5
    exact rn_weak _ (by repeat (first | exact rn_le_0 | apply rn_le_s | apply rn_le_x)) jq6
def F_Md_build (m : tM) (v0 : Int32) (v1 : Int32) (v2 : Int32) : Option (Int32 × tM) :=
  Option.bind (F_Md_refusal m v0 v1 v2) fun x2 =>
  Option.bind (
    if ¬ (M_code (M_put_code m x2)) = 0 then (
      some (M_code (M_put_code m x2) : Int32)
    ) else (
      Option.bind (F_Md_costOf (M_put_code m x2) v0 v1 v2) fun x10 =>
      if 0 ≤ x10 then (
        some (M_code (M_put_code m x2) : Int32)
      ) else (
        some (3 : Int32)
      )
    )
   : Option Int32) fun y4 =>
  if (M_code (M_put_code (M_put_code m x2) y4)) ≤ 0 then (
    Option.bind (F_Md_unroll (M_put_code (M_put_code m x2) y4) v0 v1 v2) fun m15 =>
    some (M_nodes m15, m15)
  ) else (
    some ((0 : Int32), (M_put_code (M_put_code m x2) y4))
  )
set_option maxHeartbeats 4000000 in
set_option maxRecDepth 100000 in
theorem c_Md_build {Z : rn_Z} {g1 g2 : Nat} {x : tX} {d : tD} {c : tC} {u : tU} {t : tT} {a : tG} {b : tG} {m : tM} {o : tO} {E : List rn_C} {v0 : Int32} {v1 : Int32} {v2 : Int32} {res : Int32} {m_r : tM} (h : F_Md_build m v0 v1 v2 = some (res, m_r)) : Call Z M_Md_build [.ref 53, .int v0, .int v1, .int v2] (emb g1 g2 x d c u t a b m o E) 0 0 (some (.int res)) (emb g1 g2 x d c u t a b m_r o E) := by
  unfold F_Md_build at h
  refine rn_call (by decide) 0 (by exact Nat.le_of_ble_eq_true rfl) ?_
  show Rn Z M_Md_build 0 [some (.ref 53), some (.int v0), some (.int v1), some (.int v2)] [] (emb g1 g2 x d c u t a b m o E) 0 0 _
  refine rn_aload_n (by exact dc_Md_build 0 rfl) (by exact rfl) ?_
  refine rn_aload_n (by exact dc_Md_build 1 rfl) (by exact rfl) ?_
  refine rn_iload_n (by exact dc_Md_build 2 rfl) (by exact rfl) ?_
  refine rn_iload_n (by exact dc_Md_build 3 rfl) (by exact rfl) ?_
  refine rn_iload_n (by exact dc_Md_build 4 rfl) (by exact rfl) ?_
  obtain ⟨x2, e1, h3⟩ := rn_bind h
  clear h
  refine rn_invV0 (by exact c_Md_refusal e1) iv_Md_218 (by exact ⟨Nat.le_of_ble_eq_true rfl, Nat.le_of_ble_eq_true rfl⟩) (by exact dc_Md_build 5 rfl) (by exact rfl) (by exact rfl) (by exact rfl) (by exact Nat.le_of_ble_eq_true rfl) ?_
  show Rn _ _ 8 [some (.ref 53), some (.int v0), some (.int v1), some (.int v2)] [.int x2, .ref 53] (emb g1 g2 x d c u t a b m o E) _ _ _
  refine rn_putf (w2 := (emb g1 g2 x d c u t a b (M_put_code m x2) o E)) fd_Md_77 (by exact dc_Md_build 6 rfl) (by exact rfl) (by exact rfl) (by exact Nat.le_of_ble_eq_true rfl) (by exact sm_code) ?_
  refine rn_aload_n (by exact dc_Md_build 7 rfl) (by exact rfl) ?_
  refine rn_aload_n (by exact dc_Md_build 8 rfl) (by exact rfl) ?_
  refine rn_getf (v := .int (M_code (M_put_code m x2))) fd_Md_77 (by exact dc_Md_build 9 rfl) (by exact rfl) (by exact rfl) ?_
  obtain ⟨y4, e5, h7⟩ := rn_bind h3
  clear h3
  have jq6 : Rn Z M_Md_build 37 [some (.ref 53), some (.int v0), some (.int v1), some (.int v2)] [.int y4, .ref 53] (emb g1 g2 x d c u t a b (M_put_code m x2) o E) 0 0 (rn_Ret Z (some (.int res)) (emb g1 g2 x d c u t a b m_r o E)) := by
    refine rn_putf (w2 := (emb g1 g2 x d c u t a b (M_put_code (M_put_code m x2) y4) o E)) fd_Md_77 (by exact dc_Md_build 21 rfl) (by exact rfl) (by exact rfl) (by exact Nat.le_of_ble_eq_true rfl) (by exact sm_code) ?_
    refine rn_aload_n (by exact dc_Md_build 22 rfl) (by exact rfl) ?_
    refine rn_getf (v := .int (M_code (M_put_code (M_put_code m x2) y4))) fd_Md_77 (by exact dc_Md_build 23 rfl) (by exact rfl) (by exact rfl) ?_
    by_cases c13 : (M_code (M_put_code (M_put_code m x2) y4)) ≤ 0
    · replace h7 := rn_ifp c13 h7
      refine rn_if_le_t 49 (by exact dc_Md_build 24 rfl) (by exact rfl) c13 ?_
      refine rn_aload_n (by exact dc_Md_build 27 rfl) (by exact rfl) ?_
      refine rn_iload_n (by exact dc_Md_build 28 rfl) (by exact rfl) ?_
      refine rn_iload_n (by exact dc_Md_build 29 rfl) (by exact rfl) ?_
      refine rn_iload_n (by exact dc_Md_build 30 rfl) (by exact rfl) ?_
      obtain ⟨m15, e14, h16⟩ := rn_bind h7
      clear h7
      refine rn_invV0 (by exact c_Md_unroll e14) iv_Md_221 (by exact ⟨Nat.le_of_ble_eq_true rfl, Nat.le_of_ble_eq_true rfl⟩) (by exact dc_Md_build 31 rfl) (by exact rfl) (by exact rfl) (by exact rfl) (by exact Nat.le_of_ble_eq_true rfl) ?_
      show Rn _ _ 56 [some (.ref 53), some (.int v0), some (.int v1), some (.int v2)] [] (emb g1 g2 x d c u t a b m15 o E) _ _ _
      refine rn_aload_n (by exact dc_Md_build 32 rfl) (by exact rfl) ?_
      refine rn_getf (v := .int (M_nodes m15)) fd_Md_175 (by exact dc_Md_build 33 rfl) (by exact rfl) (by exact rfl) ?_
      cases h16
      exact rn_ireturn (by exact dc_Md_build 34 rfl) (by exact rfl)
    · replace h7 := rn_ifn c13 h7
      refine rn_if_le_f 49 (by exact dc_Md_build 24 rfl) (by exact rfl) c13 ?_
      refine rn_iconst (v := (0 : Int32)) (by exact dc_Md_build 25 rfl) (by decide) ?_
      cases h7
      exact rn_ireturn (by exact dc_Md_build 26 rfl) (by exact rfl)
  by_cases c8 : ¬ (M_code (M_put_code m x2)) = 0
  · replace e5 := rn_ifp c8 e5
    refine rn_if_ne_t 33 (by exact dc_Md_build 10 rfl) (by exact rfl) c8 ?_
    refine rn_aload_n (by exact dc_Md_build 19 rfl) (by exact rfl) ?_
    refine rn_getf (v := .int (M_code (M_put_code m x2))) fd_Md_77 (by exact dc_Md_build 20 rfl) (by exact rfl) (by exact rfl) ?_
    cases e5
    exact rn_weak _ (by repeat (first | exact rn_le_0 | apply rn_le_s | apply rn_le_x)) jq6
  · replace e5 := rn_ifn c8 e5
    refine rn_if_ne_f 33 (by exact dc_Md_build 10 rfl) (by exact rfl) (Classical.not_not.mp c8) ?_
    refine rn_aload_n (by exact dc_Md_build 11 rfl) (by exact rfl) ?_
    refine rn_iload_n (by exact dc_Md_build 12 rfl) (by exact rfl) ?_
    refine rn_iload_n (by exact dc_Md_build 13 rfl) (by exact rfl) ?_
    refine rn_iload_n (by exact dc_Md_build 14 rfl) (by exact rfl) ?_
    obtain ⟨x10, e9, h11⟩ := rn_bind e5
    clear e5
    refine rn_invV0 (by exact c_Md_costOf e9) iv_Md_189 (by exact ⟨Nat.le_of_ble_eq_true rfl, Nat.le_of_ble_eq_true rfl⟩) (by exact dc_Md_build 15 rfl) (by exact rfl) (by exact rfl) (by exact rfl) (by exact Nat.le_of_ble_eq_true rfl) ?_
    show Rn _ _ 26 [some (.ref 53), some (.int v0), some (.int v1), some (.int v2)] [.int x10, .ref 53] (emb g1 g2 x d c u t a b (M_put_code m x2) o E) _ _ _
    by_cases c12 : 0 ≤ x10
    · replace h11 := rn_ifp c12 h11
      refine rn_if_ge_t 33 (by exact dc_Md_build 16 rfl) (by exact rfl) c12 ?_
      refine rn_aload_n (by exact dc_Md_build 19 rfl) (by exact rfl) ?_
      refine rn_getf (v := .int (M_code (M_put_code m x2))) fd_Md_77 (by exact dc_Md_build 20 rfl) (by exact rfl) (by exact rfl) ?_
      cases h11
      exact rn_weak _ (by repeat (first | exact rn_le_0 | apply rn_le_s | apply rn_le_x)) jq6
    · replace h11 := rn_ifn c12 h11
      refine rn_if_ge_f 33 (by exact dc_Md_build 16 rfl) (by exact rfl) c12 ?_
      refine rn_iconst (v := (3 : Int32)) (by exact dc_Md_build 17 rfl) (by decide) ?_
      refine rn_goto 37 (by exact dc_Md_build 18 rfl) (by exact rfl) ?_
      cases h11
      exact rn_weak _ (by repeat (first | exact rn_le_0 | apply rn_le_s | apply rn_le_x)) jq6
def F_Md_node (m : tM) (v0 : Int32) (v1 : Int32) : Option (Int32 × tM) :=
  Option.bind (
    if v0 < 0 then (
      some (1 : Int32)
    ) else (
      if (M_nodes m) ≤ v0 then (
        some (1 : Int32)
      ) else (
        if v0 ≤ (99 : Int32) then (
          some (0 : Int32)
        ) else (
          some (1 : Int32)
        )
      )
    )
   : Option Int32) fun y1 =>
  if (M_code (M_put_code m y1)) ≤ 0 then (
    Option.bind (
      if ¬ v1 = 0 then (
        if ¬ v1 = (1 : Int32) then (
          if ¬ v1 = (2 : Int32) then (
            some (-1 : Int32)
          ) else (
            Option.bind (aG (M_nodeTo (M_put_code m y1)) 100 v0) fun x16 =>
            some (x16 : Int32)
          )
        ) else (
          Option.bind (aG (M_nodeFrom (M_put_code m y1)) 100 v0) fun x19 =>
          some (x19 : Int32)
        )
      ) else (
        Option.bind (aG (M_nodeRule (M_put_code m y1)) 100 v0) fun x22 =>
        some (x22 : Int32)
      )
     : Option Int32) fun y9 =>
    some (y9, (M_put_code m y1))
  ) else (
    some ((0 : Int32), (M_put_code m y1))
  )
set_option maxHeartbeats 4000000 in
set_option maxRecDepth 100000 in
theorem c_Md_node {Z : rn_Z} {g1 g2 : Nat} {x : tX} {d : tD} {c : tC} {u : tU} {t : tT} {a : tG} {b : tG} {m : tM} {o : tO} {E : List rn_C} {v0 : Int32} {v1 : Int32} {res : Int32} {m_r : tM} (h : F_Md_node m v0 v1 = some (res, m_r)) : Call Z M_Md_node [.ref 53, .int v0, .int v1] (emb g1 g2 x d c u t a b m o E) 0 0 (some (.int res)) (emb g1 g2 x d c u t a b m_r o E) := by
  unfold F_Md_node at h
  refine rn_call (by decide) 0 (by exact Nat.le_of_ble_eq_true rfl) ?_
  show Rn Z M_Md_node 0 [some (.ref 53), some (.int v0), some (.int v1)] [] (emb g1 g2 x d c u t a b m o E) 0 0 _
  refine rn_aload_n (by exact dc_Md_node 0 rfl) (by exact rfl) ?_
  refine rn_iload_n (by exact dc_Md_node 1 rfl) (by exact rfl) ?_
  obtain ⟨y1, e2, h4⟩ := rn_bind h
  clear h
  have jq3 : Rn Z M_Md_node 24 [some (.ref 53), some (.int v0), some (.int v1)] [.int y1, .ref 53] (emb g1 g2 x d c u t a b m o E) 0 0 (rn_Ret Z (some (.int res)) (emb g1 g2 x d c u t a b m_r o E)) := by
    refine rn_putf (w2 := (emb g1 g2 x d c u t a b (M_put_code m y1) o E)) fd_Md_77 (by exact dc_Md_node 13 rfl) (by exact rfl) (by exact rfl) (by exact Nat.le_of_ble_eq_true rfl) (by exact sm_code) ?_
    refine rn_aload_n (by exact dc_Md_node 14 rfl) (by exact rfl) ?_
    refine rn_getf (v := .int (M_code (M_put_code m y1))) fd_Md_77 (by exact dc_Md_node 15 rfl) (by exact rfl) (by exact rfl) ?_
    by_cases c8 : (M_code (M_put_code m y1)) ≤ 0
    · replace h4 := rn_ifp c8 h4
      refine rn_if_le_t 36 (by exact dc_Md_node 16 rfl) (by exact rfl) c8 ?_
      refine rn_iload_n (by exact dc_Md_node 19 rfl) (by exact rfl) ?_
      obtain ⟨y9, e10, h12⟩ := rn_bind h4
      clear h4
      have jq11 : Rn Z M_Md_node 78 [none, none, none] [.int y9] (emb g1 g2 x d c u t a b (M_put_code m y1) o E) 0 0 (rn_Ret Z (some (.int res)) (emb g1 g2 x d c u t a b m_r o E)) := by
        cases h12
        exact rn_ireturn (by exact dc_Md_node 43 rfl) (by exact rfl)
      by_cases c13 : ¬ v1 = 0
      · replace e10 := rn_ifp c13 e10
        refine rn_if_ne_t 49 (by exact dc_Md_node 20 rfl) (by exact rfl) c13 ?_
        refine rn_iload_n (by exact dc_Md_node 26 rfl) (by exact rfl) ?_
        refine rn_iconst (v := (1 : Int32)) (by exact dc_Md_node 27 rfl) (by decide) ?_
        by_cases c14 : ¬ v1 = (1 : Int32)
        · replace e10 := rn_ifp c14 e10
          refine rn_icmp_ne_t 63 (by exact dc_Md_node 28 rfl) (by exact rfl) c14 ?_
          refine rn_iload_n (by exact dc_Md_node 34 rfl) (by exact rfl) ?_
          refine rn_iconst (v := (2 : Int32)) (by exact dc_Md_node 35 rfl) (by decide) ?_
          by_cases c15 : ¬ v1 = (2 : Int32)
          · replace e10 := rn_ifp c15 e10
            refine rn_icmp_ne_t 77 (by exact dc_Md_node 36 rfl) (by exact rfl) c15 ?_
            refine rn_iconst (v := (-1 : Int32)) (by exact dc_Md_node 42 rfl) (by decide) ?_
            cases e10
            exact rn_weak _ (by repeat (first | exact rn_le_0 | apply rn_le_s | apply rn_le_x)) jq11
          · replace e10 := rn_ifn c15 e10
            refine rn_icmp_ne_f 77 (by exact dc_Md_node 36 rfl) (by exact rfl) (Classical.not_not.mp c15) ?_
            refine rn_aload_n (by exact dc_Md_node 37 rfl) (by exact rfl) ?_
            refine rn_getf (v := .ref 74) fd_Md_71 (by exact dc_Md_node 38 rfl) (by exact rfl) (by exact rfl) ?_
            refine rn_iload_n (by exact dc_Md_node 39 rfl) (by exact rfl) ?_
            obtain ⟨x16, e17, h18⟩ := rn_bind e10
            clear e10
            refine rn_iaload (by exact dc_Md_node 40 rfl) (by exact rfl) e17 ?_
            refine rn_goto 78 (by exact dc_Md_node 41 rfl) (by exact rfl) ?_
            cases h18
            exact rn_weak _ (by repeat (first | exact rn_le_0 | apply rn_le_s | apply rn_le_x)) jq11
        · replace e10 := rn_ifn c14 e10
          refine rn_icmp_ne_f 63 (by exact dc_Md_node 28 rfl) (by exact rfl) (Classical.not_not.mp c14) ?_
          refine rn_aload_n (by exact dc_Md_node 29 rfl) (by exact rfl) ?_
          refine rn_getf (v := .ref 73) fd_Md_68 (by exact dc_Md_node 30 rfl) (by exact rfl) (by exact rfl) ?_
          refine rn_iload_n (by exact dc_Md_node 31 rfl) (by exact rfl) ?_
          obtain ⟨x19, e20, h21⟩ := rn_bind e10
          clear e10
          refine rn_iaload (by exact dc_Md_node 32 rfl) (by exact rfl) e20 ?_
          refine rn_goto 78 (by exact dc_Md_node 33 rfl) (by exact rfl) ?_
          cases h21
          exact rn_weak _ (by repeat (first | exact rn_le_0 | apply rn_le_s | apply rn_le_x)) jq11
      · replace e10 := rn_ifn c13 e10
        refine rn_if_ne_f 49 (by exact dc_Md_node 20 rfl) (by exact rfl) (Classical.not_not.mp c13) ?_
        refine rn_aload_n (by exact dc_Md_node 21 rfl) (by exact rfl) ?_
        refine rn_getf (v := .ref 72) fd_Md_65 (by exact dc_Md_node 22 rfl) (by exact rfl) (by exact rfl) ?_
        refine rn_iload_n (by exact dc_Md_node 23 rfl) (by exact rfl) ?_
        obtain ⟨x22, e23, h24⟩ := rn_bind e10
        clear e10
        refine rn_iaload (by exact dc_Md_node 24 rfl) (by exact rfl) e23 ?_
        refine rn_goto 78 (by exact dc_Md_node 25 rfl) (by exact rfl) ?_
        cases h24
        exact rn_weak _ (by repeat (first | exact rn_le_0 | apply rn_le_s | apply rn_le_x)) jq11
    · replace h4 := rn_ifn c8 h4
      refine rn_if_le_f 36 (by exact dc_Md_node 16 rfl) (by exact rfl) c8 ?_
      refine rn_iconst (v := (0 : Int32)) (by exact dc_Md_node 17 rfl) (by decide) ?_
      cases h4
      exact rn_ireturn (by exact dc_Md_node 18 rfl) (by exact rfl)
  by_cases c5 : v0 < 0
  · replace e2 := rn_ifp c5 e2
    refine rn_if_lt_t 19 (by exact dc_Md_node 2 rfl) (by exact rfl) c5 ?_
    refine rn_iconst (v := (1 : Int32)) (by exact dc_Md_node 10 rfl) (by decide) ?_
    refine rn_goto 24 (by exact dc_Md_node 11 rfl) (by exact rfl) ?_
    cases e2
    exact rn_weak _ (by repeat (first | exact rn_le_0 | apply rn_le_s | apply rn_le_x)) jq3
  · replace e2 := rn_ifn c5 e2
    refine rn_if_lt_f 19 (by exact dc_Md_node 2 rfl) (by exact rfl) c5 ?_
    refine rn_iload_n (by exact dc_Md_node 3 rfl) (by exact rfl) ?_
    refine rn_aload_n (by exact dc_Md_node 4 rfl) (by exact rfl) ?_
    refine rn_getf (v := .int (M_nodes m)) fd_Md_175 (by exact dc_Md_node 5 rfl) (by exact rfl) (by exact rfl) ?_
    by_cases c6 : (M_nodes m) ≤ v0
    · replace e2 := rn_ifp c6 e2
      refine rn_icmp_ge_t 19 (by exact dc_Md_node 6 rfl) (by exact rfl) c6 ?_
      refine rn_iconst (v := (1 : Int32)) (by exact dc_Md_node 10 rfl) (by decide) ?_
      refine rn_goto 24 (by exact dc_Md_node 11 rfl) (by exact rfl) ?_
      cases e2
      exact rn_weak _ (by repeat (first | exact rn_le_0 | apply rn_le_s | apply rn_le_x)) jq3
    · replace e2 := rn_ifn c6 e2
      refine rn_icmp_ge_f 19 (by exact dc_Md_node 6 rfl) (by exact rfl) c6 ?_
      refine rn_iload_n (by exact dc_Md_node 7 rfl) (by exact rfl) ?_
      refine rn_bipush (v := (99 : Int32)) (by exact dc_Md_node 8 rfl) (by decide) ?_
      by_cases c7 : v0 ≤ (99 : Int32)
      · replace e2 := rn_ifp c7 e2
        refine rn_icmp_le_t 23 (by exact dc_Md_node 9 rfl) (by exact rfl) c7 ?_
        refine rn_iconst (v := (0 : Int32)) (by exact dc_Md_node 12 rfl) (by decide) ?_
        cases e2
        exact rn_weak _ (by repeat (first | exact rn_le_0 | apply rn_le_s | apply rn_le_x)) jq3
      · replace e2 := rn_ifn c7 e2
        refine rn_icmp_le_f 23 (by exact dc_Md_node 9 rfl) (by exact rfl) c7 ?_
        refine rn_iconst (v := (1 : Int32)) (by exact dc_Md_node 10 rfl) (by decide) ?_
        refine rn_goto 24 (by exact dc_Md_node 11 rfl) (by exact rfl) ?_
        cases e2
        exact rn_weak _ (by repeat (first | exact rn_le_0 | apply rn_le_s | apply rn_le_x)) jq3
