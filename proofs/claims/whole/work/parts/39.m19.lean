def F_Wt_put (d : tD) (v0 : Int32) (v1 : Int64) : Option (Int32 × tD) :=
  Option.bind (F_Dr_append d v0 v1) fun (x2, d3) =>
  Option.bind (rn_bl x2) fun y5 =>
  some (y5, d3)
set_option maxHeartbeats 4000000 in
set_option maxRecDepth 100000 in
theorem c_Wt_put {Z : rn_Z} {x : tX} {d : tD} {c : tC} {u : tU} {t : tT} {a : tG} {b : tG} {m : tM} {o : tO} {E : List rn_C} {v0 : Int32} {v1 : Int64} {res : Int32} {d_r : tD} (h : F_Wt_put d v0 v1 = some (res, d_r)) : Call Z M_Wt_put [.ref 1, .int v0, .long v1] (emb 35 44 x d c u t a b m o E) 0 0 (some (.int res)) (emb 35 44 x d_r c u t a b m o E) := by
  unfold F_Wt_put at h
  refine rn_call (by decide) 0 (by exact Nat.le_of_ble_eq_true rfl) ?_
  show Rn Z M_Wt_put 0 [some (.ref 1), some (.int v0), some (.long v1), none] [] (emb 35 44 x d c u t a b m o E) 0 0 _
  refine rn_aload_n (by exact dc_Wt_put 0 rfl) (by exact rfl) ?_
  refine rn_getf (v := .ref 2) fd_Wt_10 (by exact dc_Wt_put 1 rfl) (by exact rfl) (by exact rfl) ?_
  refine rn_iload_n (by exact dc_Wt_put 2 rfl) (by exact rfl) ?_
  refine rn_lload_n (by exact dc_Wt_put 3 rfl) (by exact rfl) ?_
  obtain ⟨⟨x2, d3⟩, e1, h4⟩ := rn_bind h
  clear h
  dsimp only at h4
  refine rn_invV0 (by exact c_Dr_append e1) iv_Wt_51 (by exact ⟨Nat.le_of_ble_eq_true rfl, Nat.le_of_ble_eq_true rfl⟩) (by exact dc_Wt_put 4 rfl) (by exact rfl) (by exact rfl) (by exact rfl) (by exact Nat.le_of_ble_eq_true rfl) ?_
  show Rn _ _ 9 [some (.ref 1), some (.int v0), some (.long v1), none] [.int x2] (emb 35 44 x d3 c u t a b m o E) _ _ _
  obtain ⟨y5, e6, h8⟩ := rn_bind h4
  clear h4
  obtain ⟨rfl, hb7⟩ := rn_bl_some e6
  cases h8
  exact rn_zreturn (by exact dc_Wt_put 5 rfl) (by exact rfl) hb7
def F_Wt_scrap (d : tD)  : Option tD :=
  Option.bind (F_Dr_clear d ) fun d2 =>
  some d2
set_option maxHeartbeats 4000000 in
set_option maxRecDepth 100000 in
theorem c_Wt_scrap {Z : rn_Z} {x : tX} {d : tD} {c : tC} {u : tU} {t : tT} {a : tG} {b : tG} {m : tM} {o : tO} {E : List rn_C}  {d_r : tD} (h : F_Wt_scrap d  = some d_r) : Call Z M_Wt_scrap [.ref 1] (emb 35 44 x d c u t a b m o E) 0 0 none (emb 35 44 x d_r c u t a b m o E) := by
  unfold F_Wt_scrap at h
  refine rn_call (by decide) 0 (by exact Nat.le_of_ble_eq_true rfl) ?_
  show Rn Z M_Wt_scrap 0 [some (.ref 1)] [] (emb 35 44 x d c u t a b m o E) 0 0 _
  refine rn_aload_n (by exact dc_Wt_scrap 0 rfl) (by exact rfl) ?_
  refine rn_getf (v := .ref 2) fd_Wt_10 (by exact dc_Wt_scrap 1 rfl) (by exact rfl) (by exact rfl) ?_
  obtain ⟨d2, e1, h3⟩ := rn_bind h
  clear h
  refine rn_invV0 (by exact c_Dr_clear e1) iv_Wt_55 (by exact ⟨Nat.le_of_ble_eq_true rfl, Nat.le_of_ble_eq_true rfl⟩) (by exact dc_Wt_scrap 2 rfl) (by exact rfl) (by exact rfl) (by exact rfl) (by exact Nat.le_of_ble_eq_true rfl) ?_
  show Rn _ _ 7 [some (.ref 1)] [] (emb 35 44 x d2 c u t a b m o E) _ _ _
  cases h3
  exact rn_return (by exact dc_Wt_scrap 3 rfl) (by exact rfl)
def F_Wt_wrong (x : tX)  : Option Int32 :=
  some x
set_option maxHeartbeats 4000000 in
set_option maxRecDepth 100000 in
theorem c_Wt_wrong {Z : rn_Z} {x : tX} {d : tD} {c : tC} {u : tU} {t : tT} {a : tG} {b : tG} {m : tM} {o : tO} {E : List rn_C}  {res : Int32} (h : F_Wt_wrong x  = some res) : Call Z M_Wt_wrong [.ref 1] (emb 35 44 x d c u t a b m o E) 0 0 (some (.int res)) (emb 35 44 x d c u t a b m o E) := by
  unfold F_Wt_wrong at h
  refine rn_call (by decide) 0 (by exact Nat.le_of_ble_eq_true rfl) ?_
  show Rn Z M_Wt_wrong 0 [some (.ref 1)] [] (emb 35 44 x d c u t a b m o E) 0 0 _
  refine rn_aload_n (by exact dc_Wt_wrong 0 rfl) (by exact rfl) ?_
  refine rn_getf (v := .int x) fd_Wt_47 (by exact dc_Wt_wrong 1 rfl) (by exact rfl) (by exact rfl) ?_
  cases h
  exact rn_ireturn (by exact dc_Wt_wrong 2 rfl) (by exact rfl)
def F_Wt_hasGrammar (a : tG)  : Option Int32 :=
  Option.bind (
    if (G_ruleCount a) ≤ 0 then (
      some (0 : Int32)
    ) else (
      some (1 : Int32)
    )
   : Option Int32) fun y1 =>
  Option.bind (rn_bl y1) fun y6 =>
  some y6
set_option maxHeartbeats 4000000 in
set_option maxRecDepth 100000 in
theorem c_Wt_hasGrammar {Z : rn_Z} {x : tX} {d : tD} {c : tC} {u : tU} {t : tT} {a : tG} {b : tG} {m : tM} {o : tO} {E : List rn_C}  {res : Int32} (h : F_Wt_hasGrammar a  = some res) : Call Z M_Wt_hasGrammar [.ref 1] (emb 35 44 x d c u t a b m o E) 0 0 (some (.int res)) (emb 35 44 x d c u t a b m o E) := by
  unfold F_Wt_hasGrammar at h
  refine rn_call (by decide) 0 (by exact Nat.le_of_ble_eq_true rfl) ?_
  show Rn Z M_Wt_hasGrammar 0 [some (.ref 1)] [] (emb 35 44 x d c u t a b m o E) 0 0 _
  refine rn_aload_n (by exact dc_Wt_hasGrammar 0 rfl) (by exact rfl) ?_
  refine rn_getf (v := .ref 35) fd_Wt_40 (by exact dc_Wt_hasGrammar 1 rfl) (by exact rfl) (by exact rfl) ?_
  refine rn_getf (v := .int (G_ruleCount a)) fd_Wt_86 (by exact dc_Wt_hasGrammar 2 rfl) (by exact rfl) (by exact rfl) ?_
  obtain ⟨y1, e2, h4⟩ := rn_bind h
  clear h
  have jq3 : Rn Z M_Wt_hasGrammar 15 [none] [.int y1] (emb 35 44 x d c u t a b m o E) 0 0 (rn_Ret Z (some (.int res)) (emb 35 44 x d c u t a b m o E)) := by
    obtain ⟨y6, e7, h9⟩ := rn_bind h4
    clear h4
    obtain ⟨rfl, hb8⟩ := rn_bl_some e7
    cases h9
    exact rn_zreturn (by exact dc_Wt_hasGrammar 7 rfl) (by exact rfl) hb8
  by_cases c5 : (G_ruleCount a) ≤ 0
  · replace e2 := rn_ifp c5 e2
    refine rn_if_le_t 14 (by exact dc_Wt_hasGrammar 3 rfl) (by exact rfl) c5 ?_
    refine rn_iconst (v := (0 : Int32)) (by exact dc_Wt_hasGrammar 6 rfl) (by decide) ?_
    cases e2
    exact rn_weak _ (by repeat (first | exact rn_le_0 | apply rn_le_s | apply rn_le_x)) jq3
  · replace e2 := rn_ifn c5 e2
    refine rn_if_le_f 14 (by exact dc_Wt_hasGrammar 3 rfl) (by exact rfl) c5 ?_
    refine rn_iconst (v := (1 : Int32)) (by exact dc_Wt_hasGrammar 4 rfl) (by decide) ?_
    refine rn_goto 15 (by exact dc_Wt_hasGrammar 5 rfl) (by exact rfl) ?_
    cases e2
    exact rn_weak _ (by repeat (first | exact rn_le_0 | apply rn_le_s | apply rn_le_x)) jq3
def F_Wt_count (c : tC) (a : tG) (v0 : Int32) : Option Int32 :=
  if v0 = 0 then (
    Option.bind (F_Wt_hasGrammar a ) fun x3 =>
    Option.bind (
      if x3 = 0 then (
        some (-1 : Int32)
      ) else (
        some (G_ruleCount a : Int32)
      )
     : Option Int32) fun y5 =>
    some y5
  ) else (
    if v0 = 1 then (
      Option.bind (F_Wt_hasGrammar a ) fun x12 =>
      Option.bind (
        if x12 = 0 then (
          some (-1 : Int32)
        ) else (
          some (G_nonterminalCount a : Int32)
        )
       : Option Int32) fun y14 =>
      some y14
    ) else (
      if v0 = 2 then (
        some (C_textLength c)
      ) else (
        some (-1 : Int32)
      )
    )
  )
set_option maxHeartbeats 4000000 in
set_option maxRecDepth 100000 in
theorem c_Wt_count {Z : rn_Z} {x : tX} {d : tD} {c : tC} {u : tU} {t : tT} {a : tG} {b : tG} {m : tM} {o : tO} {E : List rn_C} {v0 : Int32} {res : Int32} (h : F_Wt_count c a v0 = some res) : Call Z M_Wt_count [.ref 1, .int v0] (emb 35 44 x d c u t a b m o E) 0 0 (some (.int res)) (emb 35 44 x d c u t a b m o E) := by
  unfold F_Wt_count at h
  refine rn_call (by decide) 0 (by exact Nat.le_of_ble_eq_true rfl) ?_
  show Rn Z M_Wt_count 0 [some (.ref 1), some (.int v0)] [] (emb 35 44 x d c u t a b m o E) 0 0 _
  refine rn_iload_n (by exact dc_Wt_count 0 rfl) (by exact rfl) ?_
  by_cases c1 : v0 = 0
  · replace h := rn_ifp c1 h
    refine rn_tabIn 28 (by exact dc_Wt_count 1 rfl) (by rw [c1]; decide) (by rw [c1]; decide) (by rw [c1]; rfl) (by exact rfl) ?_
    refine rn_aload_n (by exact dc_Wt_count 2 rfl) (by exact rfl) ?_
    obtain ⟨x3, e2, h4⟩ := rn_bind h
    clear h
    refine rn_invV0 (by exact c_Wt_hasGrammar e2) iv_Wt_92 (by exact ⟨Nat.le_of_ble_eq_true rfl, Nat.le_of_ble_eq_true rfl⟩) (by exact dc_Wt_count 3 rfl) (by exact rfl) (by exact rfl) (by exact rfl) (by exact Nat.le_of_ble_eq_true rfl) ?_
    show Rn _ _ 32 [some (.ref 1), some (.int v0)] [.int x3] (emb 35 44 x d c u t a b m o E) _ _ _
    obtain ⟨y5, e6, h8⟩ := rn_bind h4
    clear h4
    have jq7 : Rn Z M_Wt_count 46 [none, none] [.int y5] (emb 35 44 x d c u t a b m o E) 0 0 (rn_Ret Z (some (.int res)) (emb 35 44 x d c u t a b m o E)) := by
      cases h8
      exact rn_ireturn (by exact dc_Wt_count 10 rfl) (by exact rfl)
    by_cases c9 : x3 = 0
    · replace e6 := rn_ifp c9 e6
      refine rn_if_eq_t 45 (by exact dc_Wt_count 4 rfl) (by exact rfl) c9 ?_
      refine rn_iconst (v := (-1 : Int32)) (by exact dc_Wt_count 9 rfl) (by decide) ?_
      cases e6
      exact rn_weak _ (by repeat (first | exact rn_le_0 | apply rn_le_s | apply rn_le_x)) jq7
    · replace e6 := rn_ifn c9 e6
      refine rn_if_eq_f 45 (by exact dc_Wt_count 4 rfl) (by exact rfl) c9 ?_
      refine rn_aload_n (by exact dc_Wt_count 5 rfl) (by exact rfl) ?_
      refine rn_getf (v := .ref 35) fd_Wt_40 (by exact dc_Wt_count 6 rfl) (by exact rfl) (by exact rfl) ?_
      refine rn_getf (v := .int (G_ruleCount a)) fd_Wt_86 (by exact dc_Wt_count 7 rfl) (by exact rfl) (by exact rfl) ?_
      refine rn_goto 46 (by exact dc_Wt_count 8 rfl) (by exact rfl) ?_
      cases e6
      exact rn_weak _ (by repeat (first | exact rn_le_0 | apply rn_le_s | apply rn_le_x)) jq7
  · replace h := rn_ifn c1 h
    by_cases c10 : v0 = 1
    · replace h := rn_ifp c10 h
      refine rn_tabIn 47 (by exact dc_Wt_count 1 rfl) (by rw [c10]; decide) (by rw [c10]; decide) (by rw [c10]; rfl) (by exact rfl) ?_
      refine rn_aload_n (by exact dc_Wt_count 11 rfl) (by exact rfl) ?_
      obtain ⟨x12, e11, h13⟩ := rn_bind h
      clear h
      refine rn_invV0 (by exact c_Wt_hasGrammar e11) iv_Wt_92 (by exact ⟨Nat.le_of_ble_eq_true rfl, Nat.le_of_ble_eq_true rfl⟩) (by exact dc_Wt_count 12 rfl) (by exact rfl) (by exact rfl) (by exact rfl) (by exact Nat.le_of_ble_eq_true rfl) ?_
      show Rn _ _ 51 [some (.ref 1), some (.int v0)] [.int x12] (emb 35 44 x d c u t a b m o E) _ _ _
      obtain ⟨y14, e15, h17⟩ := rn_bind h13
      clear h13
      have jq16 : Rn Z M_Wt_count 65 [none, none] [.int y14] (emb 35 44 x d c u t a b m o E) 0 0 (rn_Ret Z (some (.int res)) (emb 35 44 x d c u t a b m o E)) := by
        cases h17
        exact rn_ireturn (by exact dc_Wt_count 19 rfl) (by exact rfl)
      by_cases c18 : x12 = 0
      · replace e15 := rn_ifp c18 e15
        refine rn_if_eq_t 64 (by exact dc_Wt_count 13 rfl) (by exact rfl) c18 ?_
        refine rn_iconst (v := (-1 : Int32)) (by exact dc_Wt_count 18 rfl) (by decide) ?_
        cases e15
        exact rn_weak _ (by repeat (first | exact rn_le_0 | apply rn_le_s | apply rn_le_x)) jq16
      · replace e15 := rn_ifn c18 e15
        refine rn_if_eq_f 64 (by exact dc_Wt_count 13 rfl) (by exact rfl) c18 ?_
        refine rn_aload_n (by exact dc_Wt_count 14 rfl) (by exact rfl) ?_
        refine rn_getf (v := .ref 35) fd_Wt_40 (by exact dc_Wt_count 15 rfl) (by exact rfl) (by exact rfl) ?_
        refine rn_getf (v := .int (G_nonterminalCount a)) fd_Wt_115 (by exact dc_Wt_count 16 rfl) (by exact rfl) (by exact rfl) ?_
        refine rn_goto 65 (by exact dc_Wt_count 17 rfl) (by exact rfl) ?_
        cases e15
        exact rn_weak _ (by repeat (first | exact rn_le_0 | apply rn_le_s | apply rn_le_x)) jq16
    · replace h := rn_ifn c10 h
      by_cases c19 : v0 = 2
      · replace h := rn_ifp c19 h
        refine rn_tabIn 66 (by exact dc_Wt_count 1 rfl) (by rw [c19]; decide) (by rw [c19]; decide) (by rw [c19]; rfl) (by exact rfl) ?_
        refine rn_aload_n (by exact dc_Wt_count 20 rfl) (by exact rfl) ?_
        refine rn_getf (v := .ref 4) fd_Wt_19 (by exact dc_Wt_count 21 rfl) (by exact rfl) (by exact rfl) ?_
        refine rn_getf (v := .int (C_textLength c)) fd_Wt_108 (by exact dc_Wt_count 22 rfl) (by exact rfl) (by exact rfl) ?_
        cases h
        exact rn_ireturn (by exact dc_Wt_count 23 rfl) (by exact rfl)
      · replace h := rn_ifn c19 h
        refine rn_tabOut 74 (by exact dc_Wt_count 1 rfl) (by have c1i := lv_neT c1 (a := 0) rfl; have c10i := lv_neT c10 (a := 1) rfl; have c19i := lv_neT c19 (a := 2) rfl; omega) (by exact rfl) ?_
        refine rn_iconst (v := (-1 : Int32)) (by exact dc_Wt_count 24 rfl) (by decide) ?_
        cases h
        exact rn_ireturn (by exact dc_Wt_count 25 rfl) (by exact rfl)
def F_Wt_requireNonterminal (a : tG) (v0 : Int32) : Option ((Unit ⊕ Nat)) :=
  if v0 < 0 then (
    some (.inr 3)
  ) else (
    if v0 < (G_nonterminalCount a) then (
      some (.inl ())
    ) else (
      some (.inr 3)
    )
  )
set_option maxHeartbeats 4000000 in
set_option maxRecDepth 100000 in
theorem c_Wt_requireNonterminal {Z : rn_Z} {x : tX} {d : tD} {c : tC} {u : tU} {t : tT} {a : tG} {b : tG} {m : tM} {o : tO} {E : List rn_C} {v0 : Int32}  (h : F_Wt_requireNonterminal a v0 = some (.inl ())) : Call Z M_Wt_requireNonterminal [.ref 1, .int v0] (emb 35 44 x d c u t a b m o E) 0 0 none (emb 35 44 x d c u t a b m o E) := by
  unfold F_Wt_requireNonterminal at h
  refine rn_call (by decide) 0 (by exact Nat.le_of_ble_eq_true rfl) ?_
  show Rn Z M_Wt_requireNonterminal 0 [some (.ref 1), some (.int v0)] [] (emb 35 44 x d c u t a b m o E) 0 0 _
  refine rn_iload_n (by exact dc_Wt_requireNonterminal 0 rfl) (by exact rfl) ?_
  by_cases c1 : v0 < 0
  · replace h := rn_ifp c1 h
    refine rn_if_lt_t 15 (by exact dc_Wt_requireNonterminal 1 rfl) (by exact rfl) c1 ?_
    cases h
  · replace h := rn_ifn c1 h
    refine rn_if_lt_f 15 (by exact dc_Wt_requireNonterminal 1 rfl) (by exact rfl) c1 ?_
    refine rn_iload_n (by exact dc_Wt_requireNonterminal 2 rfl) (by exact rfl) ?_
    refine rn_aload_n (by exact dc_Wt_requireNonterminal 3 rfl) (by exact rfl) ?_
    refine rn_getf (v := .ref 35) fd_Wt_40 (by exact dc_Wt_requireNonterminal 4 rfl) (by exact rfl) (by exact rfl) ?_
    refine rn_getf (v := .int (G_nonterminalCount a)) fd_Wt_115 (by exact dc_Wt_requireNonterminal 5 rfl) (by exact rfl) (by exact rfl) ?_
    by_cases c2 : v0 < (G_nonterminalCount a)
    · replace h := rn_ifp c2 h
      refine rn_icmp_lt_t 25 (by exact dc_Wt_requireNonterminal 6 rfl) (by exact rfl) c2 ?_
      cases h
      exact rn_return (by exact dc_Wt_requireNonterminal 12 rfl) (by exact rfl)
    · replace h := rn_ifn c2 h
      refine rn_icmp_lt_f 25 (by exact dc_Wt_requireNonterminal 6 rfl) (by exact rfl) c2 ?_
      cases h
set_option maxHeartbeats 4000000 in
set_option maxRecDepth 100000 in
theorem t_Wt_requireNonterminal_3 {Z : rn_Z} {x : tX} {d : tD} {c : tC} {u : tU} {t : tT} {a : tG} {b : tG} {m : tM} {o : tO} {E : List rn_C} {v0 : Int32}  (hZ : Z.1.stackTraces = false) (h : F_Wt_requireNonterminal a v0 = some (.inr 3)) : CallT Z M_Wt_requireNonterminal [.ref 1, .int v0] (emb 35 44 x d c u t a b m o E) 1 6 "java/lang/IndexOutOfBoundsException" (emb 35 44 x d c u t a b m o E) := by
  unfold F_Wt_requireNonterminal at h
  refine rn_callT (by decide) 0 (by exact Nat.le_of_ble_eq_true rfl) ?_
  show Rn Z M_Wt_requireNonterminal 0 [some (.ref 1), some (.int v0)] [] (emb 35 44 x d c u t a b m o E) 1 6 _
  refine rn_iload_n (by exact dc_Wt_requireNonterminal 0 rfl) (by exact rfl) ?_
  by_cases c1 : v0 < 0
  · replace h := rn_ifp c1 h
    refine rn_if_lt_t 15 (by exact dc_Wt_requireNonterminal 1 rfl) (by exact rfl) c1 ?_
    cases h
    exact rn_throw (ca := 0) (sa := 0) hZ ft_3 fn_0 tk_Wt_126 ti_3 ts_Wt_191 to_Wt_130 (by exact dc_Wt_requireNonterminal 7 rfl) (by exact dc_Wt_requireNonterminal 8 rfl) (by exact dc_Wt_requireNonterminal 9 rfl) (by exact dc_Wt_requireNonterminal 10 rfl) (by exact dc_Wt_requireNonterminal 11 rfl) cd_Wt_requireNonterminal (by decide) (by decide)
  · replace h := rn_ifn c1 h
    refine rn_if_lt_f 15 (by exact dc_Wt_requireNonterminal 1 rfl) (by exact rfl) c1 ?_
    refine rn_iload_n (by exact dc_Wt_requireNonterminal 2 rfl) (by exact rfl) ?_
    refine rn_aload_n (by exact dc_Wt_requireNonterminal 3 rfl) (by exact rfl) ?_
    refine rn_getf (v := .ref 35) fd_Wt_40 (by exact dc_Wt_requireNonterminal 4 rfl) (by exact rfl) (by exact rfl) ?_
    refine rn_getf (v := .int (G_nonterminalCount a)) fd_Wt_115 (by exact dc_Wt_requireNonterminal 5 rfl) (by exact rfl) (by exact rfl) ?_
    by_cases c2 : v0 < (G_nonterminalCount a)
    · replace h := rn_ifp c2 h
      refine rn_icmp_lt_t 25 (by exact dc_Wt_requireNonterminal 6 rfl) (by exact rfl) c2 ?_
      cases h
    · replace h := rn_ifn c2 h
      refine rn_icmp_lt_f 25 (by exact dc_Wt_requireNonterminal 6 rfl) (by exact rfl) c2 ?_
      cases h
      exact rn_throw (ca := 0) (sa := 0) hZ ft_3 fn_0 tk_Wt_126 ti_3 ts_Wt_191 to_Wt_130 (by exact dc_Wt_requireNonterminal 7 rfl) (by exact dc_Wt_requireNonterminal 8 rfl) (by exact dc_Wt_requireNonterminal 9 rfl) (by exact dc_Wt_requireNonterminal 10 rfl) (by exact dc_Wt_requireNonterminal 11 rfl) cd_Wt_requireNonterminal (by decide) (by decide)
def F_Wt_requirePart (c : tC) (v0 : Int32) (v1 : Int32) : Option ((Unit ⊕ Nat)) :=
  if v0 < 0 then (
    some (.inr 1)
  ) else (
    if v1 < v0 then (
      some (.inr 1)
    ) else (
      if v1 ≤ (C_textLength c) then (
        some (.inl ())
      ) else (
        some (.inr 1)
      )
    )
  )
set_option maxHeartbeats 4000000 in
set_option maxRecDepth 100000 in
theorem c_Wt_requirePart {Z : rn_Z} {x : tX} {d : tD} {c : tC} {u : tU} {t : tT} {a : tG} {b : tG} {m : tM} {o : tO} {E : List rn_C} {v0 : Int32} {v1 : Int32}  (h : F_Wt_requirePart c v0 v1 = some (.inl ())) : Call Z M_Wt_requirePart [.ref 1, .int v0, .int v1] (emb 35 44 x d c u t a b m o E) 0 0 none (emb 35 44 x d c u t a b m o E) := by
  unfold F_Wt_requirePart at h
  refine rn_call (by decide) 0 (by exact Nat.le_of_ble_eq_true rfl) ?_
  show Rn Z M_Wt_requirePart 0 [some (.ref 1), some (.int v0), some (.int v1)] [] (emb 35 44 x d c u t a b m o E) 0 0 _
  refine rn_iload_n (by exact dc_Wt_requirePart 0 rfl) (by exact rfl) ?_
  by_cases c1 : v0 < 0
  · replace h := rn_ifp c1 h
    refine rn_if_lt_t 20 (by exact dc_Wt_requirePart 1 rfl) (by exact rfl) c1 ?_
    cases h
  · replace h := rn_ifn c1 h
    refine rn_if_lt_f 20 (by exact dc_Wt_requirePart 1 rfl) (by exact rfl) c1 ?_
    refine rn_iload_n (by exact dc_Wt_requirePart 2 rfl) (by exact rfl) ?_
    refine rn_iload_n (by exact dc_Wt_requirePart 3 rfl) (by exact rfl) ?_
    by_cases c2 : v1 < v0
    · replace h := rn_ifp c2 h
      refine rn_icmp_gt_t 20 (by exact dc_Wt_requirePart 4 rfl) (by exact rfl) c2 ?_
      cases h
    · replace h := rn_ifn c2 h
      refine rn_icmp_gt_f 20 (by exact dc_Wt_requirePart 4 rfl) (by exact rfl) c2 ?_
      refine rn_iload_n (by exact dc_Wt_requirePart 5 rfl) (by exact rfl) ?_
      refine rn_aload_n (by exact dc_Wt_requirePart 6 rfl) (by exact rfl) ?_
      refine rn_getf (v := .ref 4) fd_Wt_19 (by exact dc_Wt_requirePart 7 rfl) (by exact rfl) (by exact rfl) ?_
      refine rn_getf (v := .int (C_textLength c)) fd_Wt_108 (by exact dc_Wt_requirePart 8 rfl) (by exact rfl) (by exact rfl) ?_
      by_cases c3 : v1 ≤ (C_textLength c)
      · replace h := rn_ifp c3 h
        refine rn_icmp_le_t 30 (by exact dc_Wt_requirePart 9 rfl) (by exact rfl) c3 ?_
        cases h
        exact rn_return (by exact dc_Wt_requirePart 15 rfl) (by exact rfl)
      · replace h := rn_ifn c3 h
        refine rn_icmp_le_f 30 (by exact dc_Wt_requirePart 9 rfl) (by exact rfl) c3 ?_
        cases h
set_option maxHeartbeats 4000000 in
set_option maxRecDepth 100000 in
theorem t_Wt_requirePart_1 {Z : rn_Z} {x : tX} {d : tD} {c : tC} {u : tU} {t : tT} {a : tG} {b : tG} {m : tM} {o : tO} {E : List rn_C} {v0 : Int32} {v1 : Int32}  (hZ : Z.1.stackTraces = false) (h : F_Wt_requirePart c v0 v1 = some (.inr 1)) : CallT Z M_Wt_requirePart [.ref 1, .int v0, .int v1] (emb 35 44 x d c u t a b m o E) 1 6 "java/lang/IllegalArgumentException" (emb 35 44 x d c u t a b m o E) := by
  unfold F_Wt_requirePart at h
  refine rn_callT (by decide) 0 (by exact Nat.le_of_ble_eq_true rfl) ?_
  show Rn Z M_Wt_requirePart 0 [some (.ref 1), some (.int v0), some (.int v1)] [] (emb 35 44 x d c u t a b m o E) 1 6 _
  refine rn_iload_n (by exact dc_Wt_requirePart 0 rfl) (by exact rfl) ?_
  by_cases c1 : v0 < 0
  · replace h := rn_ifp c1 h
    refine rn_if_lt_t 20 (by exact dc_Wt_requirePart 1 rfl) (by exact rfl) c1 ?_
    cases h
    exact rn_throw (ca := 0) (sa := 0) hZ ft_1 fn_0 tk_Wt_67 ti_1 ts_Wt_193 to_Wt_71 (by exact dc_Wt_requirePart 10 rfl) (by exact dc_Wt_requirePart 11 rfl) (by exact dc_Wt_requirePart 12 rfl) (by exact dc_Wt_requirePart 13 rfl) (by exact dc_Wt_requirePart 14 rfl) cd_Wt_requirePart (by decide) (by decide)
  · replace h := rn_ifn c1 h
    refine rn_if_lt_f 20 (by exact dc_Wt_requirePart 1 rfl) (by exact rfl) c1 ?_
    refine rn_iload_n (by exact dc_Wt_requirePart 2 rfl) (by exact rfl) ?_
    refine rn_iload_n (by exact dc_Wt_requirePart 3 rfl) (by exact rfl) ?_
    by_cases c2 : v1 < v0
    · replace h := rn_ifp c2 h
      refine rn_icmp_gt_t 20 (by exact dc_Wt_requirePart 4 rfl) (by exact rfl) c2 ?_
      cases h
      exact rn_throw (ca := 0) (sa := 0) hZ ft_1 fn_0 tk_Wt_67 ti_1 ts_Wt_193 to_Wt_71 (by exact dc_Wt_requirePart 10 rfl) (by exact dc_Wt_requirePart 11 rfl) (by exact dc_Wt_requirePart 12 rfl) (by exact dc_Wt_requirePart 13 rfl) (by exact dc_Wt_requirePart 14 rfl) cd_Wt_requirePart (by decide) (by decide)
    · replace h := rn_ifn c2 h
      refine rn_icmp_gt_f 20 (by exact dc_Wt_requirePart 4 rfl) (by exact rfl) c2 ?_
      refine rn_iload_n (by exact dc_Wt_requirePart 5 rfl) (by exact rfl) ?_
      refine rn_aload_n (by exact dc_Wt_requirePart 6 rfl) (by exact rfl) ?_
      refine rn_getf (v := .ref 4) fd_Wt_19 (by exact dc_Wt_requirePart 7 rfl) (by exact rfl) (by exact rfl) ?_
      refine rn_getf (v := .int (C_textLength c)) fd_Wt_108 (by exact dc_Wt_requirePart 8 rfl) (by exact rfl) (by exact rfl) ?_
      by_cases c3 : v1 ≤ (C_textLength c)
      · replace h := rn_ifp c3 h
        refine rn_icmp_le_t 30 (by exact dc_Wt_requirePart 9 rfl) (by exact rfl) c3 ?_
        cases h
      · replace h := rn_ifn c3 h
        refine rn_icmp_le_f 30 (by exact dc_Wt_requirePart 9 rfl) (by exact rfl) c3 ?_
        cases h
        exact rn_throw (ca := 0) (sa := 0) hZ ft_1 fn_0 tk_Wt_67 ti_1 ts_Wt_193 to_Wt_71 (by exact dc_Wt_requirePart 10 rfl) (by exact dc_Wt_requirePart 11 rfl) (by exact dc_Wt_requirePart 12 rfl) (by exact dc_Wt_requirePart 13 rfl) (by exact dc_Wt_requirePart 14 rfl) cd_Wt_requirePart (by decide) (by decide)
def F_Wt_name (a : tG) (v0 : Int32) : Option ((Int32 ⊕ Nat)) :=
  Option.bind (F_Wt_requireNonterminal a v0) fun z2 =>
  match z2 with
  | .inr k4 => (
      if k4 = 3 then (
        some (.inr 3)
      ) else (
        none
      )
    )
  | .inl _ =>
    Option.bind (aG (G_capitals a) 6 v0) fun x5 =>
    some (.inl x5)
set_option maxHeartbeats 4000000 in
set_option maxRecDepth 100000 in
theorem c_Wt_name {Z : rn_Z} {x : tX} {d : tD} {c : tC} {u : tU} {t : tT} {a : tG} {b : tG} {m : tM} {o : tO} {E : List rn_C} {v0 : Int32} {res : Int32} (h : F_Wt_name a v0 = some (.inl res)) : Call Z M_Wt_name [.ref 1, .int v0] (emb 35 44 x d c u t a b m o E) 0 0 (some (.int res)) (emb 35 44 x d c u t a b m o E) := by
  unfold F_Wt_name at h
  refine rn_call (by decide) 0 (by exact Nat.le_of_ble_eq_true rfl) ?_
  show Rn Z M_Wt_name 0 [some (.ref 1), some (.int v0)] [] (emb 35 44 x d c u t a b m o E) 0 0 _
  refine rn_aload_n (by exact dc_Wt_name 0 rfl) (by exact rfl) ?_
  refine rn_iload_n (by exact dc_Wt_name 1 rfl) (by exact rfl) ?_
  obtain ⟨z2, e1, h3⟩ := rn_bind h
  clear h
  rcases z2 with _ | k4
  · dsimp only at h3
    refine rn_invV (ca := 0) (sa := 0) (ca' := 0) (sa' := 0) (by exact c_Wt_requireNonterminal e1) iv_Wt_118 (by exact ⟨Nat.le_of_ble_eq_true rfl, Nat.le_of_ble_eq_true rfl⟩) (by exact dc_Wt_name 2 rfl) (by exact rfl) (by exact rfl) (by exact rfl) (by exact Nat.le_of_ble_eq_true rfl) ?_
    show Rn _ _ 5 [some (.ref 1), some (.int v0)] [] (emb 35 44 x d c u t a b m o E) _ _ _
    refine rn_aload_n (by exact dc_Wt_name 3 rfl) (by exact rfl) ?_
    refine rn_getf (v := .ref 35) fd_Wt_40 (by exact dc_Wt_name 4 rfl) (by exact rfl) (by exact rfl) ?_
    refine rn_getf (v := .ref 41) fd_Wt_122 (by exact dc_Wt_name 5 rfl) (by exact rfl) (by exact rfl) ?_
    refine rn_iload_n (by exact dc_Wt_name 6 rfl) (by exact rfl) ?_
    obtain ⟨x5, e6, h7⟩ := rn_bind h3
    clear h3
    refine rn_iaload (by exact dc_Wt_name 7 rfl) (by exact rfl) e6 ?_
    cases h7
    exact rn_ireturn (by exact dc_Wt_name 8 rfl) (by exact rfl)
  · dsimp only at h3
    by_cases c8 : k4 = 3
    · subst c8
      replace h3 := rn_ifp rfl h3
      simp at h3
    · replace h3 := rn_ifn c8 h3
      cases h3
set_option maxHeartbeats 4000000 in
set_option maxRecDepth 100000 in
theorem t_Wt_name_3 {Z : rn_Z} {x : tX} {d : tD} {c : tC} {u : tU} {t : tT} {a : tG} {b : tG} {m : tM} {o : tO} {E : List rn_C} {v0 : Int32}  (hZ : Z.1.stackTraces = false) (h : F_Wt_name a v0 = some (.inr 3)) : CallT Z M_Wt_name [.ref 1, .int v0] (emb 35 44 x d c u t a b m o E) 1 6 "java/lang/IndexOutOfBoundsException" (emb 35 44 x d c u t a b m o E) := by
  unfold F_Wt_name at h
  refine rn_callT (by decide) 0 (by exact Nat.le_of_ble_eq_true rfl) ?_
  show Rn Z M_Wt_name 0 [some (.ref 1), some (.int v0)] [] (emb 35 44 x d c u t a b m o E) 1 6 _
  refine rn_aload_n (by exact dc_Wt_name 0 rfl) (by exact rfl) ?_
  refine rn_iload_n (by exact dc_Wt_name 1 rfl) (by exact rfl) ?_
  obtain ⟨z2, e1, h3⟩ := rn_bind h
  clear h
  rcases z2 with _ | k4
  · dsimp only at h3
    refine rn_invV (ca := 1) (sa := 6) (ca' := 0) (sa' := 0) (by exact c_Wt_requireNonterminal e1) iv_Wt_118 (by exact ⟨Nat.le_of_ble_eq_true rfl, Nat.le_of_ble_eq_true rfl⟩) (by exact dc_Wt_name 2 rfl) (by exact rfl) (by exact rfl) (by exact rfl) (by exact Nat.le_of_ble_eq_true rfl) ?_
    show Rn _ _ 5 [some (.ref 1), some (.int v0)] [] (emb 35 44 x d c u t a b m o E) _ _ _
    refine rn_aload_n (by exact dc_Wt_name 3 rfl) (by exact rfl) ?_
    refine rn_getf (v := .ref 35) fd_Wt_40 (by exact dc_Wt_name 4 rfl) (by exact rfl) (by exact rfl) ?_
    refine rn_getf (v := .ref 41) fd_Wt_122 (by exact dc_Wt_name 5 rfl) (by exact rfl) (by exact rfl) ?_
    refine rn_iload_n (by exact dc_Wt_name 6 rfl) (by exact rfl) ?_
    obtain ⟨x5, e6, h7⟩ := rn_bind h3
    clear h3
    refine rn_iaload (by exact dc_Wt_name 7 rfl) (by exact rfl) e6 ?_
    cases h7
  · dsimp only at h3
    by_cases c8 : k4 = 3
    · subst c8
      replace h3 := rn_ifp rfl h3
      cases h3
      exact rn_invVT (by exact t_Wt_requireNonterminal_3 hZ e1) iv_Wt_118 vl_Wt_118 (by exact ⟨Nat.le_of_ble_eq_true rfl, Nat.le_of_ble_eq_true rfl⟩) (by exact dc_Wt_name 2 rfl) (by exact rfl) (by exact rfl) (by exact rfl) (by exact Nat.le_of_ble_eq_true rfl) cd_Wt_name (by decide) (by decide)
    · replace h3 := rn_ifn c8 h3
      cases h3
def F_Wt_weight (a : tG) (v0 : Int32) : Option ((Int64 ⊕ Nat)) :=
  if v0 < 0 then (
    some (.inr 3)
  ) else (
    if v0 < (G_ruleCount a) then (
      Option.bind (aG (G_weights a) 12 v0) fun x3 =>
      some (.inl x3)
    ) else (
      some (.inr 3)
    )
  )
set_option maxHeartbeats 4000000 in
set_option maxRecDepth 100000 in
theorem c_Wt_weight {Z : rn_Z} {x : tX} {d : tD} {c : tC} {u : tU} {t : tT} {a : tG} {b : tG} {m : tM} {o : tO} {E : List rn_C} {v0 : Int32} {res : Int64} (h : F_Wt_weight a v0 = some (.inl res)) : Call Z M_Wt_weight [.ref 1, .int v0] (emb 35 44 x d c u t a b m o E) 0 0 (some (.long res)) (emb 35 44 x d c u t a b m o E) := by
  unfold F_Wt_weight at h
  refine rn_call (by decide) 0 (by exact Nat.le_of_ble_eq_true rfl) ?_
  show Rn Z M_Wt_weight 0 [some (.ref 1), some (.int v0)] [] (emb 35 44 x d c u t a b m o E) 0 0 _
  refine rn_iload_n (by exact dc_Wt_weight 0 rfl) (by exact rfl) ?_
  by_cases c1 : v0 < 0
  · replace h := rn_ifp c1 h
    refine rn_if_lt_t 15 (by exact dc_Wt_weight 1 rfl) (by exact rfl) c1 ?_
    cases h
  · replace h := rn_ifn c1 h
    refine rn_if_lt_f 15 (by exact dc_Wt_weight 1 rfl) (by exact rfl) c1 ?_
    refine rn_iload_n (by exact dc_Wt_weight 2 rfl) (by exact rfl) ?_
    refine rn_aload_n (by exact dc_Wt_weight 3 rfl) (by exact rfl) ?_
    refine rn_getf (v := .ref 35) fd_Wt_40 (by exact dc_Wt_weight 4 rfl) (by exact rfl) (by exact rfl) ?_
    refine rn_getf (v := .int (G_ruleCount a)) fd_Wt_86 (by exact dc_Wt_weight 5 rfl) (by exact rfl) (by exact rfl) ?_
    by_cases c2 : v0 < (G_ruleCount a)
    · replace h := rn_ifp c2 h
      refine rn_icmp_lt_t 25 (by exact dc_Wt_weight 6 rfl) (by exact rfl) c2 ?_
      refine rn_aload_n (by exact dc_Wt_weight 12 rfl) (by exact rfl) ?_
      refine rn_getf (v := .ref 35) fd_Wt_40 (by exact dc_Wt_weight 13 rfl) (by exact rfl) (by exact rfl) ?_
      refine rn_getf (v := .ref 39) fd_Wt_131 (by exact dc_Wt_weight 14 rfl) (by exact rfl) (by exact rfl) ?_
      refine rn_iload_n (by exact dc_Wt_weight 15 rfl) (by exact rfl) ?_
      obtain ⟨x3, e4, h5⟩ := rn_bind h
      clear h
      refine rn_laload (by exact dc_Wt_weight 16 rfl) (by exact rfl) e4 ?_
      cases h5
      exact rn_lreturn (by exact dc_Wt_weight 17 rfl) (by exact rfl)
    · replace h := rn_ifn c2 h
      refine rn_icmp_lt_f 25 (by exact dc_Wt_weight 6 rfl) (by exact rfl) c2 ?_
      cases h
set_option maxHeartbeats 4000000 in
set_option maxRecDepth 100000 in
theorem t_Wt_weight_3 {Z : rn_Z} {x : tX} {d : tD} {c : tC} {u : tU} {t : tT} {a : tG} {b : tG} {m : tM} {o : tO} {E : List rn_C} {v0 : Int32}  (hZ : Z.1.stackTraces = false) (h : F_Wt_weight a v0 = some (.inr 3)) : CallT Z M_Wt_weight [.ref 1, .int v0] (emb 35 44 x d c u t a b m o E) 1 6 "java/lang/IndexOutOfBoundsException" (emb 35 44 x d c u t a b m o E) := by
  unfold F_Wt_weight at h
  refine rn_callT (by decide) 0 (by exact Nat.le_of_ble_eq_true rfl) ?_
  show Rn Z M_Wt_weight 0 [some (.ref 1), some (.int v0)] [] (emb 35 44 x d c u t a b m o E) 1 6 _
  refine rn_iload_n (by exact dc_Wt_weight 0 rfl) (by exact rfl) ?_
  by_cases c1 : v0 < 0
  · replace h := rn_ifp c1 h
    refine rn_if_lt_t 15 (by exact dc_Wt_weight 1 rfl) (by exact rfl) c1 ?_
    cases h
    exact rn_throw (ca := 0) (sa := 0) hZ ft_3 fn_0 tk_Wt_126 ti_3 ts_Wt_128 to_Wt_130 (by exact dc_Wt_weight 7 rfl) (by exact dc_Wt_weight 8 rfl) (by exact dc_Wt_weight 9 rfl) (by exact dc_Wt_weight 10 rfl) (by exact dc_Wt_weight 11 rfl) cd_Wt_weight (by decide) (by decide)
  · replace h := rn_ifn c1 h
    refine rn_if_lt_f 15 (by exact dc_Wt_weight 1 rfl) (by exact rfl) c1 ?_
    refine rn_iload_n (by exact dc_Wt_weight 2 rfl) (by exact rfl) ?_
    refine rn_aload_n (by exact dc_Wt_weight 3 rfl) (by exact rfl) ?_
    refine rn_getf (v := .ref 35) fd_Wt_40 (by exact dc_Wt_weight 4 rfl) (by exact rfl) (by exact rfl) ?_
    refine rn_getf (v := .int (G_ruleCount a)) fd_Wt_86 (by exact dc_Wt_weight 5 rfl) (by exact rfl) (by exact rfl) ?_
    by_cases c2 : v0 < (G_ruleCount a)
    · replace h := rn_ifp c2 h
      refine rn_icmp_lt_t 25 (by exact dc_Wt_weight 6 rfl) (by exact rfl) c2 ?_
      refine rn_aload_n (by exact dc_Wt_weight 12 rfl) (by exact rfl) ?_
      refine rn_getf (v := .ref 35) fd_Wt_40 (by exact dc_Wt_weight 13 rfl) (by exact rfl) (by exact rfl) ?_
      refine rn_getf (v := .ref 39) fd_Wt_131 (by exact dc_Wt_weight 14 rfl) (by exact rfl) (by exact rfl) ?_
      refine rn_iload_n (by exact dc_Wt_weight 15 rfl) (by exact rfl) ?_
      obtain ⟨x3, e4, h5⟩ := rn_bind h
      clear h
      refine rn_laload (by exact dc_Wt_weight 16 rfl) (by exact rfl) e4 ?_
      cases h5
    · replace h := rn_ifn c2 h
      refine rn_icmp_lt_f 25 (by exact dc_Wt_weight 6 rfl) (by exact rfl) c2 ?_
      cases h
      exact rn_throw (ca := 0) (sa := 0) hZ ft_3 fn_0 tk_Wt_126 ti_3 ts_Wt_128 to_Wt_130 (by exact dc_Wt_weight 7 rfl) (by exact dc_Wt_weight 8 rfl) (by exact dc_Wt_weight 9 rfl) (by exact dc_Wt_weight 10 rfl) (by exact dc_Wt_weight 11 rfl) cd_Wt_weight (by decide) (by decide)
def F_Wt_empty (c : tC) (a : tG) (v0 : Int32) : Option ((Int64 ⊕ Nat)) :=
  Option.bind (F_Wt_requireNonterminal a v0) fun z2 =>
  match z2 with
  | .inr k4 => (
      if k4 = 3 then (
        some (.inr 3)
      ) else (
        none
      )
    )
  | .inl _ =>
    Option.bind (F_Ch_emptySum c v0) fun x6 =>
    some (.inl x6)
set_option maxHeartbeats 4000000 in
set_option maxRecDepth 100000 in
theorem c_Wt_empty {Z : rn_Z} {x : tX} {d : tD} {c : tC} {u : tU} {t : tT} {a : tG} {b : tG} {m : tM} {o : tO} {E : List rn_C} {v0 : Int32} {res : Int64} (h : F_Wt_empty c a v0 = some (.inl res)) : Call Z M_Wt_empty [.ref 1, .int v0] (emb 35 44 x d c u t a b m o E) 0 0 (some (.long res)) (emb 35 44 x d c u t a b m o E) := by
  unfold F_Wt_empty at h
  refine rn_call (by decide) 0 (by exact Nat.le_of_ble_eq_true rfl) ?_
  show Rn Z M_Wt_empty 0 [some (.ref 1), some (.int v0)] [] (emb 35 44 x d c u t a b m o E) 0 0 _
  refine rn_aload_n (by exact dc_Wt_empty 0 rfl) (by exact rfl) ?_
  refine rn_iload_n (by exact dc_Wt_empty 1 rfl) (by exact rfl) ?_
  obtain ⟨z2, e1, h3⟩ := rn_bind h
  clear h
  rcases z2 with _ | k4
  · dsimp only at h3
    refine rn_invV (ca := 0) (sa := 0) (ca' := 0) (sa' := 0) (by exact c_Wt_requireNonterminal e1) iv_Wt_118 (by exact ⟨Nat.le_of_ble_eq_true rfl, Nat.le_of_ble_eq_true rfl⟩) (by exact dc_Wt_empty 2 rfl) (by exact rfl) (by exact rfl) (by exact rfl) (by exact Nat.le_of_ble_eq_true rfl) ?_
    show Rn _ _ 5 [some (.ref 1), some (.int v0)] [] (emb 35 44 x d c u t a b m o E) _ _ _
    refine rn_aload_n (by exact dc_Wt_empty 3 rfl) (by exact rfl) ?_
    refine rn_getf (v := .ref 4) fd_Wt_19 (by exact dc_Wt_empty 4 rfl) (by exact rfl) (by exact rfl) ?_
    refine rn_iload_n (by exact dc_Wt_empty 5 rfl) (by exact rfl) ?_
    obtain ⟨x6, e5, h7⟩ := rn_bind h3
    clear h3
    refine rn_invV0 (by exact c_Ch_emptySum e5) iv_Wt_135 (by exact ⟨Nat.le_of_ble_eq_true rfl, Nat.le_of_ble_eq_true rfl⟩) (by exact dc_Wt_empty 6 rfl) (by exact rfl) (by exact rfl) (by exact rfl) (by exact Nat.le_of_ble_eq_true rfl) ?_
    show Rn _ _ 13 [some (.ref 1), some (.int v0)] [.long x6] (emb 35 44 x d c u t a b m o E) _ _ _
    cases h7
    exact rn_lreturn (by exact dc_Wt_empty 7 rfl) (by exact rfl)
  · dsimp only at h3
    by_cases c8 : k4 = 3
    · subst c8
      replace h3 := rn_ifp rfl h3
      simp at h3
    · replace h3 := rn_ifn c8 h3
      cases h3
set_option maxHeartbeats 4000000 in
set_option maxRecDepth 100000 in
theorem t_Wt_empty_3 {Z : rn_Z} {x : tX} {d : tD} {c : tC} {u : tU} {t : tT} {a : tG} {b : tG} {m : tM} {o : tO} {E : List rn_C} {v0 : Int32}  (hZ : Z.1.stackTraces = false) (h : F_Wt_empty c a v0 = some (.inr 3)) : CallT Z M_Wt_empty [.ref 1, .int v0] (emb 35 44 x d c u t a b m o E) 1 6 "java/lang/IndexOutOfBoundsException" (emb 35 44 x d c u t a b m o E) := by
  unfold F_Wt_empty at h
  refine rn_callT (by decide) 0 (by exact Nat.le_of_ble_eq_true rfl) ?_
  show Rn Z M_Wt_empty 0 [some (.ref 1), some (.int v0)] [] (emb 35 44 x d c u t a b m o E) 1 6 _
  refine rn_aload_n (by exact dc_Wt_empty 0 rfl) (by exact rfl) ?_
  refine rn_iload_n (by exact dc_Wt_empty 1 rfl) (by exact rfl) ?_
  obtain ⟨z2, e1, h3⟩ := rn_bind h
  clear h
  rcases z2 with _ | k4
  · dsimp only at h3
    refine rn_invV (ca := 1) (sa := 6) (ca' := 0) (sa' := 0) (by exact c_Wt_requireNonterminal e1) iv_Wt_118 (by exact ⟨Nat.le_of_ble_eq_true rfl, Nat.le_of_ble_eq_true rfl⟩) (by exact dc_Wt_empty 2 rfl) (by exact rfl) (by exact rfl) (by exact rfl) (by exact Nat.le_of_ble_eq_true rfl) ?_
    show Rn _ _ 5 [some (.ref 1), some (.int v0)] [] (emb 35 44 x d c u t a b m o E) _ _ _
    refine rn_aload_n (by exact dc_Wt_empty 3 rfl) (by exact rfl) ?_
    refine rn_getf (v := .ref 4) fd_Wt_19 (by exact dc_Wt_empty 4 rfl) (by exact rfl) (by exact rfl) ?_
    refine rn_iload_n (by exact dc_Wt_empty 5 rfl) (by exact rfl) ?_
    obtain ⟨x6, e5, h7⟩ := rn_bind h3
    clear h3
    refine rn_invV0 (by exact c_Ch_emptySum e5) iv_Wt_135 (by exact ⟨Nat.le_of_ble_eq_true rfl, Nat.le_of_ble_eq_true rfl⟩) (by exact dc_Wt_empty 6 rfl) (by exact rfl) (by exact rfl) (by exact rfl) (by exact Nat.le_of_ble_eq_true rfl) ?_
    show Rn _ _ 13 [some (.ref 1), some (.int v0)] [.long x6] (emb 35 44 x d c u t a b m o E) _ _ _
    cases h7
  · dsimp only at h3
    by_cases c8 : k4 = 3
    · subst c8
      replace h3 := rn_ifp rfl h3
      cases h3
      exact rn_invVT (by exact t_Wt_requireNonterminal_3 hZ e1) iv_Wt_118 vl_Wt_118 (by exact ⟨Nat.le_of_ble_eq_true rfl, Nat.le_of_ble_eq_true rfl⟩) (by exact dc_Wt_empty 2 rfl) (by exact rfl) (by exact rfl) (by exact rfl) (by exact Nat.le_of_ble_eq_true rfl) cd_Wt_empty (by decide) (by decide)
    · replace h3 := rn_ifn c8 h3
      cases h3
def F_Wt_unit (u : tU) (a : tG) (v0 : Int32) (v1 : Int32) : Option ((Int64 ⊕ Nat)) :=
  Option.bind (F_Wt_requireNonterminal a v0) fun z2 =>
  match z2 with
  | .inr k4 => (
      if k4 = 3 then (
        some (.inr 3)
      ) else (
        none
      )
    )
  | .inl _ =>
    Option.bind (F_Wt_requireNonterminal a v1) fun z6 =>
    match z6 with
    | .inr k8 => (
        if k8 = 3 then (
          some (.inr 3)
        ) else (
          none
        )
      )
    | .inl _ =>
      Option.bind (F_Ut_sum u v0 v1) fun x10 =>
      some (.inl x10)
set_option maxHeartbeats 4000000 in
set_option maxRecDepth 100000 in
theorem c_Wt_unit {Z : rn_Z} {x : tX} {d : tD} {c : tC} {u : tU} {t : tT} {a : tG} {b : tG} {m : tM} {o : tO} {E : List rn_C} {v0 : Int32} {v1 : Int32} {res : Int64} (h : F_Wt_unit u a v0 v1 = some (.inl res)) : Call Z M_Wt_unit [.ref 1, .int v0, .int v1] (emb 35 44 x d c u t a b m o E) 0 0 (some (.long res)) (emb 35 44 x d c u t a b m o E) := by
  unfold F_Wt_unit at h
  refine rn_call (by decide) 0 (by exact Nat.le_of_ble_eq_true rfl) ?_
  show Rn Z M_Wt_unit 0 [some (.ref 1), some (.int v0), some (.int v1)] [] (emb 35 44 x d c u t a b m o E) 0 0 _
  refine rn_aload_n (by exact dc_Wt_unit 0 rfl) (by exact rfl) ?_
  refine rn_iload_n (by exact dc_Wt_unit 1 rfl) (by exact rfl) ?_
  obtain ⟨z2, e1, h3⟩ := rn_bind h
  clear h
  rcases z2 with _ | k4
  · dsimp only at h3
    refine rn_invV (ca := 0) (sa := 0) (ca' := 0) (sa' := 0) (by exact c_Wt_requireNonterminal e1) iv_Wt_118 (by exact ⟨Nat.le_of_ble_eq_true rfl, Nat.le_of_ble_eq_true rfl⟩) (by exact dc_Wt_unit 2 rfl) (by exact rfl) (by exact rfl) (by exact rfl) (by exact Nat.le_of_ble_eq_true rfl) ?_
    show Rn _ _ 5 [some (.ref 1), some (.int v0), some (.int v1)] [] (emb 35 44 x d c u t a b m o E) _ _ _
    refine rn_aload_n (by exact dc_Wt_unit 3 rfl) (by exact rfl) ?_
    refine rn_iload_n (by exact dc_Wt_unit 4 rfl) (by exact rfl) ?_
    obtain ⟨z6, e5, h7⟩ := rn_bind h3
    clear h3
    rcases z6 with _ | k8
    · dsimp only at h7
      refine rn_invV (ca := 0) (sa := 0) (ca' := 0) (sa' := 0) (by exact c_Wt_requireNonterminal e5) iv_Wt_118 (by exact ⟨Nat.le_of_ble_eq_true rfl, Nat.le_of_ble_eq_true rfl⟩) (by exact dc_Wt_unit 5 rfl) (by exact rfl) (by exact rfl) (by exact rfl) (by exact Nat.le_of_ble_eq_true rfl) ?_
      show Rn _ _ 10 [some (.ref 1), some (.int v0), some (.int v1)] [] (emb 35 44 x d c u t a b m o E) _ _ _
      refine rn_aload_n (by exact dc_Wt_unit 6 rfl) (by exact rfl) ?_
      refine rn_getf (v := .ref 28) fd_Wt_26 (by exact dc_Wt_unit 7 rfl) (by exact rfl) (by exact rfl) ?_
      refine rn_iload_n (by exact dc_Wt_unit 8 rfl) (by exact rfl) ?_
      refine rn_iload_n (by exact dc_Wt_unit 9 rfl) (by exact rfl) ?_
      obtain ⟨x10, e9, h11⟩ := rn_bind h7
      clear h7
      refine rn_invV0 (by exact c_Ut_sum e9) iv_Wt_139 (by exact ⟨Nat.le_of_ble_eq_true rfl, Nat.le_of_ble_eq_true rfl⟩) (by exact dc_Wt_unit 10 rfl) (by exact rfl) (by exact rfl) (by exact rfl) (by exact Nat.le_of_ble_eq_true rfl) ?_
      show Rn _ _ 19 [some (.ref 1), some (.int v0), some (.int v1)] [.long x10] (emb 35 44 x d c u t a b m o E) _ _ _
      cases h11
      exact rn_lreturn (by exact dc_Wt_unit 11 rfl) (by exact rfl)
    · dsimp only at h7
      by_cases c12 : k8 = 3
      · subst c12
        replace h7 := rn_ifp rfl h7
        simp at h7
      · replace h7 := rn_ifn c12 h7
        cases h7
  · dsimp only at h3
    by_cases c13 : k4 = 3
    · subst c13
      replace h3 := rn_ifp rfl h3
      simp at h3
    · replace h3 := rn_ifn c13 h3
      cases h3
set_option maxHeartbeats 4000000 in
set_option maxRecDepth 100000 in
theorem t_Wt_unit_3 {Z : rn_Z} {x : tX} {d : tD} {c : tC} {u : tU} {t : tT} {a : tG} {b : tG} {m : tM} {o : tO} {E : List rn_C} {v0 : Int32} {v1 : Int32}  (hZ : Z.1.stackTraces = false) (h : F_Wt_unit u a v0 v1 = some (.inr 3)) : CallT Z M_Wt_unit [.ref 1, .int v0, .int v1] (emb 35 44 x d c u t a b m o E) 1 6 "java/lang/IndexOutOfBoundsException" (emb 35 44 x d c u t a b m o E) := by
  unfold F_Wt_unit at h
  refine rn_callT (by decide) 0 (by exact Nat.le_of_ble_eq_true rfl) ?_
  show Rn Z M_Wt_unit 0 [some (.ref 1), some (.int v0), some (.int v1)] [] (emb 35 44 x d c u t a b m o E) 1 6 _
  refine rn_aload_n (by exact dc_Wt_unit 0 rfl) (by exact rfl) ?_
  refine rn_iload_n (by exact dc_Wt_unit 1 rfl) (by exact rfl) ?_
  obtain ⟨z2, e1, h3⟩ := rn_bind h
  clear h
  rcases z2 with _ | k4
  · dsimp only at h3
    refine rn_invV (ca := 1) (sa := 6) (ca' := 0) (sa' := 0) (by exact c_Wt_requireNonterminal e1) iv_Wt_118 (by exact ⟨Nat.le_of_ble_eq_true rfl, Nat.le_of_ble_eq_true rfl⟩) (by exact dc_Wt_unit 2 rfl) (by exact rfl) (by exact rfl) (by exact rfl) (by exact Nat.le_of_ble_eq_true rfl) ?_
    show Rn _ _ 5 [some (.ref 1), some (.int v0), some (.int v1)] [] (emb 35 44 x d c u t a b m o E) _ _ _
    refine rn_aload_n (by exact dc_Wt_unit 3 rfl) (by exact rfl) ?_
    refine rn_iload_n (by exact dc_Wt_unit 4 rfl) (by exact rfl) ?_
    obtain ⟨z6, e5, h7⟩ := rn_bind h3
    clear h3
    rcases z6 with _ | k8
    · dsimp only at h7
      refine rn_invV (ca := 1) (sa := 6) (ca' := 0) (sa' := 0) (by exact c_Wt_requireNonterminal e5) iv_Wt_118 (by exact ⟨Nat.le_of_ble_eq_true rfl, Nat.le_of_ble_eq_true rfl⟩) (by exact dc_Wt_unit 5 rfl) (by exact rfl) (by exact rfl) (by exact rfl) (by exact Nat.le_of_ble_eq_true rfl) ?_
      show Rn _ _ 10 [some (.ref 1), some (.int v0), some (.int v1)] [] (emb 35 44 x d c u t a b m o E) _ _ _
      refine rn_aload_n (by exact dc_Wt_unit 6 rfl) (by exact rfl) ?_
      refine rn_getf (v := .ref 28) fd_Wt_26 (by exact dc_Wt_unit 7 rfl) (by exact rfl) (by exact rfl) ?_
      refine rn_iload_n (by exact dc_Wt_unit 8 rfl) (by exact rfl) ?_
      refine rn_iload_n (by exact dc_Wt_unit 9 rfl) (by exact rfl) ?_
      obtain ⟨x10, e9, h11⟩ := rn_bind h7
      clear h7
      refine rn_invV0 (by exact c_Ut_sum e9) iv_Wt_139 (by exact ⟨Nat.le_of_ble_eq_true rfl, Nat.le_of_ble_eq_true rfl⟩) (by exact dc_Wt_unit 10 rfl) (by exact rfl) (by exact rfl) (by exact rfl) (by exact Nat.le_of_ble_eq_true rfl) ?_
      show Rn _ _ 19 [some (.ref 1), some (.int v0), some (.int v1)] [.long x10] (emb 35 44 x d c u t a b m o E) _ _ _
      cases h11
    · dsimp only at h7
      by_cases c12 : k8 = 3
      · subst c12
        replace h7 := rn_ifp rfl h7
        cases h7
        exact rn_invVT (by exact t_Wt_requireNonterminal_3 hZ e5) iv_Wt_118 vl_Wt_118 (by exact ⟨Nat.le_of_ble_eq_true rfl, Nat.le_of_ble_eq_true rfl⟩) (by exact dc_Wt_unit 5 rfl) (by exact rfl) (by exact rfl) (by exact rfl) (by exact Nat.le_of_ble_eq_true rfl) cd_Wt_unit (by decide) (by decide)
      · replace h7 := rn_ifn c12 h7
        cases h7
  · dsimp only at h3
    by_cases c13 : k4 = 3
    · subst c13
      replace h3 := rn_ifp rfl h3
      cases h3
      exact rn_invVT (by exact t_Wt_requireNonterminal_3 hZ e1) iv_Wt_118 vl_Wt_118 (by exact ⟨Nat.le_of_ble_eq_true rfl, Nat.le_of_ble_eq_true rfl⟩) (by exact dc_Wt_unit 2 rfl) (by exact rfl) (by exact rfl) (by exact rfl) (by exact Nat.le_of_ble_eq_true rfl) cd_Wt_unit (by decide) (by decide)
    · replace h3 := rn_ifn c13 h3
      cases h3
