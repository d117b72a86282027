def F_Wt_build (c : tC) (t : tT) (a : tG) (v0 : Int32) (v1 : Int32) (v2 : Int32) : Option (((Int32 × tT) ⊕ (Nat × tT))) :=
  Option.bind (F_Wt_requireNonterminal a v0) fun z2 =>
  match z2 with
  | .inr k4 => (
      if k4 = 3 then (
        some (.inr (3, t))
      ) else (
        none
      )
    )
  | .inl _ =>
    Option.bind (F_Wt_requirePart c v1 v2) fun z6 =>
    match z6 with
    | .inr k8 => (
        if k8 = 1 then (
          some (.inr (1, t))
        ) else (
          none
        )
      )
    | .inl _ =>
      Option.bind (F_Ch_hasTree c v0 v1 v2) fun x10 =>
      if ¬ x10 = 0 then (
        Option.bind (F_Tl_list c t a v0 v1 v2) fun t14 =>
        some (.inl (T_nodeCount t14, t14))
      ) else (
        some (.inr (2, t))
      )
set_option maxHeartbeats 4000000 in
set_option maxRecDepth 100000 in
theorem c_Wt_build {Z : rn_Z} {x : tX} {d : tD} {c : tC} {u : tU} {t : tT} {a : tG} {b : tG} {m : tM} {o : tO} {E : List rn_C} {v0 : Int32} {v1 : Int32} {v2 : Int32} {res : Int32} {t_r : tT} (h : F_Wt_build c t a v0 v1 v2 = some (.inl (res, t_r))) : Call Z M_Wt_build [.ref 1, .int v0, .int v1, .int v2] (emb 35 44 x d c u t a b m o E) 0 0 (some (.int res)) (emb 35 44 x d c u t_r a b m o E) := by
  unfold F_Wt_build at h
  refine rn_call (by decide) 0 (by exact Nat.le_of_ble_eq_true rfl) ?_
  show Rn Z M_Wt_build 0 [some (.ref 1), some (.int v0), some (.int v1), some (.int v2)] [] (emb 35 44 x d c u t a b m o E) 0 0 _
  refine rn_aload_n (by exact dc_Wt_build 0 rfl) (by exact rfl) ?_
  refine rn_iload_n (by exact dc_Wt_build 1 rfl) (by exact rfl) ?_
  obtain ⟨z2, e1, h3⟩ := rn_bind h
  clear h
  rcases z2 with _ | k4
  · dsimp only at h3
    refine rn_invV (ca := 0) (sa := 0) (ca' := 0) (sa' := 0) (by exact c_Wt_requireNonterminal e1) iv_Wt_118 (by exact ⟨Nat.le_of_ble_eq_true rfl, Nat.le_of_ble_eq_true rfl⟩) (by exact dc_Wt_build 2 rfl) (by exact rfl) (by exact rfl) (by exact rfl) (by exact Nat.le_of_ble_eq_true rfl) ?_
    show Rn _ _ 5 [some (.ref 1), some (.int v0), some (.int v1), some (.int v2)] [] (emb 35 44 x d c u t a b m o E) _ _ _
    refine rn_aload_n (by exact dc_Wt_build 3 rfl) (by exact rfl) ?_
    refine rn_iload_n (by exact dc_Wt_build 4 rfl) (by exact rfl) ?_
    refine rn_iload_n (by exact dc_Wt_build 5 rfl) (by exact rfl) ?_
    obtain ⟨z6, e5, h7⟩ := rn_bind h3
    clear h3
    rcases z6 with _ | k8
    · dsimp only at h7
      refine rn_invV (ca := 0) (sa := 0) (ca' := 0) (sa' := 0) (by exact c_Wt_requirePart e5) iv_Wt_143 (by exact ⟨Nat.le_of_ble_eq_true rfl, Nat.le_of_ble_eq_true rfl⟩) (by exact dc_Wt_build 6 rfl) (by exact rfl) (by exact rfl) (by exact rfl) (by exact Nat.le_of_ble_eq_true rfl) ?_
      show Rn _ _ 11 [some (.ref 1), some (.int v0), some (.int v1), some (.int v2)] [] (emb 35 44 x d c u t a b m o E) _ _ _
      refine rn_aload_n (by exact dc_Wt_build 7 rfl) (by exact rfl) ?_
      refine rn_getf (v := .ref 4) fd_Wt_19 (by exact dc_Wt_build 8 rfl) (by exact rfl) (by exact rfl) ?_
      refine rn_iload_n (by exact dc_Wt_build 9 rfl) (by exact rfl) ?_
      refine rn_iload_n (by exact dc_Wt_build 10 rfl) (by exact rfl) ?_
      refine rn_iload_n (by exact dc_Wt_build 11 rfl) (by exact rfl) ?_
      obtain ⟨x10, e9, h11⟩ := rn_bind h7
      clear h7
      refine rn_invV0 (by exact c_Ch_hasTree e9) iv_Wt_111 (by exact ⟨Nat.le_of_ble_eq_true rfl, Nat.le_of_ble_eq_true rfl⟩) (by exact dc_Wt_build 12 rfl) (by exact rfl) (by exact rfl) (by exact rfl) (by exact Nat.le_of_ble_eq_true rfl) ?_
      show Rn _ _ 21 [some (.ref 1), some (.int v0), some (.int v1), some (.int v2)] [.int x10] (emb 35 44 x d c u t a b m o E) _ _ _
      by_cases c12 : ¬ x10 = 0
      · replace h11 := rn_ifp c12 h11
        refine rn_if_ne_t 34 (by exact dc_Wt_build 13 rfl) (by exact rfl) c12 ?_
        refine rn_aload_n (by exact dc_Wt_build 19 rfl) (by exact rfl) ?_
        refine rn_getf (v := .ref 30) fd_Wt_33 (by exact dc_Wt_build 20 rfl) (by exact rfl) (by exact rfl) ?_
        refine rn_aload_n (by exact dc_Wt_build 21 rfl) (by exact rfl) ?_
        refine rn_getf (v := .ref 35) fd_Wt_40 (by exact dc_Wt_build 22 rfl) (by exact rfl) (by exact rfl) ?_
        refine rn_aload_n (by exact dc_Wt_build 23 rfl) (by exact rfl) ?_
        refine rn_getf (v := .ref 4) fd_Wt_19 (by exact dc_Wt_build 24 rfl) (by exact rfl) (by exact rfl) ?_
        refine rn_iload_n (by exact dc_Wt_build 25 rfl) (by exact rfl) ?_
        refine rn_iload_n (by exact dc_Wt_build 26 rfl) (by exact rfl) ?_
        refine rn_iload_n (by exact dc_Wt_build 27 rfl) (by exact rfl) ?_
        obtain ⟨t14, e13, h15⟩ := rn_bind h11
        clear h11
        refine rn_invV0 (by exact c_Tl_list e13) iv_Wt_159 (by exact ⟨Nat.le_of_ble_eq_true rfl, Nat.le_of_ble_eq_true rfl⟩) (by exact dc_Wt_build 28 rfl) (by exact rfl) (by exact rfl) (by exact rfl) (by exact Nat.le_of_ble_eq_true rfl) ?_
        show Rn _ _ 52 [some (.ref 1), some (.int v0), some (.int v1), some (.int v2)] [] (emb 35 44 x d c u t14 a b m o E) _ _ _
        refine rn_aload_n (by exact dc_Wt_build 29 rfl) (by exact rfl) ?_
        refine rn_getf (v := .ref 30) fd_Wt_33 (by exact dc_Wt_build 30 rfl) (by exact rfl) (by exact rfl) ?_
        refine rn_getf (v := .int (T_nodeCount t14)) fd_Wt_163 (by exact dc_Wt_build 31 rfl) (by exact rfl) (by exact rfl) ?_
        cases h15
        exact rn_ireturn (by exact dc_Wt_build 32 rfl) (by exact rfl)
      · replace h11 := rn_ifn c12 h11
        refine rn_if_ne_f 34 (by exact dc_Wt_build 13 rfl) (by exact rfl) (Classical.not_not.mp c12) ?_
        cases h11
    · dsimp only at h7
      by_cases c16 : k8 = 1
      · subst c16
        replace h7 := rn_ifp rfl h7
        simp at h7
      · replace h7 := rn_ifn c16 h7
        cases h7
  · dsimp only at h3
    by_cases c17 : k4 = 3
    · subst c17
      replace h3 := rn_ifp rfl h3
      simp at h3
    · replace h3 := rn_ifn c17 h3
      cases h3
set_option maxHeartbeats 4000000 in
set_option maxRecDepth 100000 in
theorem t_Wt_build_1 {Z : rn_Z} {x : tX} {d : tD} {c : tC} {u : tU} {t : tT} {a : tG} {b : tG} {m : tM} {o : tO} {E : List rn_C} {v0 : Int32} {v1 : Int32} {v2 : Int32} {t_r : tT} (hZ : Z.1.stackTraces = false) (h : F_Wt_build c t a v0 v1 v2 = some (.inr (1, t_r))) : CallT Z M_Wt_build [.ref 1, .int v0, .int v1, .int v2] (emb 35 44 x d c u t a b m o E) 1 6 "java/lang/IllegalArgumentException" (emb 35 44 x d c u t_r a b m o E) := by
  unfold F_Wt_build at h
  refine rn_callT (by decide) 0 (by exact Nat.le_of_ble_eq_true rfl) ?_
  show Rn Z M_Wt_build 0 [some (.ref 1), some (.int v0), some (.int v1), some (.int v2)] [] (emb 35 44 x d c u t a b m o E) 1 6 _
  refine rn_aload_n (by exact dc_Wt_build 0 rfl) (by exact rfl) ?_
  refine rn_iload_n (by exact dc_Wt_build 1 rfl) (by exact rfl) ?_
  obtain ⟨z2, e1, h3⟩ := rn_bind h
  clear h
  rcases z2 with _ | k4
  · dsimp only at h3
    refine rn_invV (ca := 1) (sa := 6) (ca' := 0) (sa' := 0) (by exact c_Wt_requireNonterminal e1) iv_Wt_118 (by exact ⟨Nat.le_of_ble_eq_true rfl, Nat.le_of_ble_eq_true rfl⟩) (by exact dc_Wt_build 2 rfl) (by exact rfl) (by exact rfl) (by exact rfl) (by exact Nat.le_of_ble_eq_true rfl) ?_
    show Rn _ _ 5 [some (.ref 1), some (.int v0), some (.int v1), some (.int v2)] [] (emb 35 44 x d c u t a b m o E) _ _ _
    refine rn_aload_n (by exact dc_Wt_build 3 rfl) (by exact rfl) ?_
    refine rn_iload_n (by exact dc_Wt_build 4 rfl) (by exact rfl) ?_
    refine rn_iload_n (by exact dc_Wt_build 5 rfl) (by exact rfl) ?_
    obtain ⟨z6, e5, h7⟩ := rn_bind h3
    clear h3
    rcases z6 with _ | k8
    · dsimp only at h7
      refine rn_invV (ca := 1) (sa := 6) (ca' := 0) (sa' := 0) (by exact c_Wt_requirePart e5) iv_Wt_143 (by exact ⟨Nat.le_of_ble_eq_true rfl, Nat.le_of_ble_eq_true rfl⟩) (by exact dc_Wt_build 6 rfl) (by exact rfl) (by exact rfl) (by exact rfl) (by exact Nat.le_of_ble_eq_true rfl) ?_
      show Rn _ _ 11 [some (.ref 1), some (.int v0), some (.int v1), some (.int v2)] [] (emb 35 44 x d c u t a b m o E) _ _ _
      refine rn_aload_n (by exact dc_Wt_build 7 rfl) (by exact rfl) ?_
      refine rn_getf (v := .ref 4) fd_Wt_19 (by exact dc_Wt_build 8 rfl) (by exact rfl) (by exact rfl) ?_
      refine rn_iload_n (by exact dc_Wt_build 9 rfl) (by exact rfl) ?_
      refine rn_iload_n (by exact dc_Wt_build 10 rfl) (by exact rfl) ?_
      refine rn_iload_n (by exact dc_Wt_build 11 rfl) (by exact rfl) ?_
      obtain ⟨x10, e9, h11⟩ := rn_bind h7
      clear h7
      refine rn_invV0 (by exact c_Ch_hasTree e9) iv_Wt_111 (by exact ⟨Nat.le_of_ble_eq_true rfl, Nat.le_of_ble_eq_true rfl⟩) (by exact dc_Wt_build 12 rfl) (by exact rfl) (by exact rfl) (by exact rfl) (by exact Nat.le_of_ble_eq_true rfl) ?_
      show Rn _ _ 21 [some (.ref 1), some (.int v0), some (.int v1), some (.int v2)] [.int x10] (emb 35 44 x d c u t a b m o E) _ _ _
      by_cases c12 : ¬ x10 = 0
      · replace h11 := rn_ifp c12 h11
        refine rn_if_ne_t 34 (by exact dc_Wt_build 13 rfl) (by exact rfl) c12 ?_
        refine rn_aload_n (by exact dc_Wt_build 19 rfl) (by exact rfl) ?_
        refine rn_getf (v := .ref 30) fd_Wt_33 (by exact dc_Wt_build 20 rfl) (by exact rfl) (by exact rfl) ?_
        refine rn_aload_n (by exact dc_Wt_build 21 rfl) (by exact rfl) ?_
        refine rn_getf (v := .ref 35) fd_Wt_40 (by exact dc_Wt_build 22 rfl) (by exact rfl) (by exact rfl) ?_
        refine rn_aload_n (by exact dc_Wt_build 23 rfl) (by exact rfl) ?_
        refine rn_getf (v := .ref 4) fd_Wt_19 (by exact dc_Wt_build 24 rfl) (by exact rfl) (by exact rfl) ?_
        refine rn_iload_n (by exact dc_Wt_build 25 rfl) (by exact rfl) ?_
        refine rn_iload_n (by exact dc_Wt_build 26 rfl) (by exact rfl) ?_
        refine rn_iload_n (by exact dc_Wt_build 27 rfl) (by exact rfl) ?_
        obtain ⟨t14, e13, h15⟩ := rn_bind h11
        clear h11
        refine rn_invV0 (by exact c_Tl_list e13) iv_Wt_159 (by exact ⟨Nat.le_of_ble_eq_true rfl, Nat.le_of_ble_eq_true rfl⟩) (by exact dc_Wt_build 28 rfl) (by exact rfl) (by exact rfl) (by exact rfl) (by exact Nat.le_of_ble_eq_true rfl) ?_
        show Rn _ _ 52 [some (.ref 1), some (.int v0), some (.int v1), some (.int v2)] [] (emb 35 44 x d c u t14 a b m o E) _ _ _
        refine rn_aload_n (by exact dc_Wt_build 29 rfl) (by exact rfl) ?_
        refine rn_getf (v := .ref 30) fd_Wt_33 (by exact dc_Wt_build 30 rfl) (by exact rfl) (by exact rfl) ?_
        refine rn_getf (v := .int (T_nodeCount t14)) fd_Wt_163 (by exact dc_Wt_build 31 rfl) (by exact rfl) (by exact rfl) ?_
        cases h15
      · replace h11 := rn_ifn c12 h11
        refine rn_if_ne_f 34 (by exact dc_Wt_build 13 rfl) (by exact rfl) (Classical.not_not.mp c12) ?_
        simp at h11
    · dsimp only at h7
      by_cases c16 : k8 = 1
      · subst c16
        replace h7 := rn_ifp rfl h7
        cases h7
        exact rn_invVT (by exact t_Wt_requirePart_1 hZ e5) iv_Wt_143 vl_Wt_143 (by exact ⟨Nat.le_of_ble_eq_true rfl, Nat.le_of_ble_eq_true rfl⟩) (by exact dc_Wt_build 6 rfl) (by exact rfl) (by exact rfl) (by exact rfl) (by exact Nat.le_of_ble_eq_true rfl) cd_Wt_build (by decide) (by decide)
      · replace h7 := rn_ifn c16 h7
        cases h7
  · dsimp only at h3
    by_cases c17 : k4 = 3
    · subst c17
      replace h3 := rn_ifp rfl h3
      simp at h3
    · replace h3 := rn_ifn c17 h3
      cases h3
set_option maxHeartbeats 4000000 in
set_option maxRecDepth 100000 in
theorem t_Wt_build_2 {Z : rn_Z} {x : tX} {d : tD} {c : tC} {u : tU} {t : tT} {a : tG} {b : tG} {m : tM} {o : tO} {E : List rn_C} {v0 : Int32} {v1 : Int32} {v2 : Int32} {t_r : tT} (hZ : Z.1.stackTraces = false) (h : F_Wt_build c t a v0 v1 v2 = some (.inr (2, t_r))) : CallT Z M_Wt_build [.ref 1, .int v0, .int v1, .int v2] (emb 35 44 x d c u t a b m o E) 1 6 "java/lang/IllegalStateException" (emb 35 44 x d c u t_r a b m o E) := by
  unfold F_Wt_build at h
  refine rn_callT (by decide) 0 (by exact Nat.le_of_ble_eq_true rfl) ?_
  show Rn Z M_Wt_build 0 [some (.ref 1), some (.int v0), some (.int v1), some (.int v2)] [] (emb 35 44 x d c u t a b m o E) 1 6 _
  refine rn_aload_n (by exact dc_Wt_build 0 rfl) (by exact rfl) ?_
  refine rn_iload_n (by exact dc_Wt_build 1 rfl) (by exact rfl) ?_
  obtain ⟨z2, e1, h3⟩ := rn_bind h
  clear h
  rcases z2 with _ | k4
  · dsimp only at h3
    refine rn_invV (ca := 1) (sa := 6) (ca' := 0) (sa' := 0) (by exact c_Wt_requireNonterminal e1) iv_Wt_118 (by exact ⟨Nat.le_of_ble_eq_true rfl, Nat.le_of_ble_eq_true rfl⟩) (by exact dc_Wt_build 2 rfl) (by exact rfl) (by exact rfl) (by exact rfl) (by exact Nat.le_of_ble_eq_true rfl) ?_
    show Rn _ _ 5 [some (.ref 1), some (.int v0), some (.int v1), some (.int v2)] [] (emb 35 44 x d c u t a b m o E) _ _ _
    refine rn_aload_n (by exact dc_Wt_build 3 rfl) (by exact rfl) ?_
    refine rn_iload_n (by exact dc_Wt_build 4 rfl) (by exact rfl) ?_
    refine rn_iload_n (by exact dc_Wt_build 5 rfl) (by exact rfl) ?_
    obtain ⟨z6, e5, h7⟩ := rn_bind h3
    clear h3
    rcases z6 with _ | k8
    · dsimp only at h7
      refine rn_invV (ca := 1) (sa := 6) (ca' := 0) (sa' := 0) (by exact c_Wt_requirePart e5) iv_Wt_143 (by exact ⟨Nat.le_of_ble_eq_true rfl, Nat.le_of_ble_eq_true rfl⟩) (by exact dc_Wt_build 6 rfl) (by exact rfl) (by exact rfl) (by exact rfl) (by exact Nat.le_of_ble_eq_true rfl) ?_
      show Rn _ _ 11 [some (.ref 1), some (.int v0), some (.int v1), some (.int v2)] [] (emb 35 44 x d c u t a b m o E) _ _ _
      refine rn_aload_n (by exact dc_Wt_build 7 rfl) (by exact rfl) ?_
      refine rn_getf (v := .ref 4) fd_Wt_19 (by exact dc_Wt_build 8 rfl) (by exact rfl) (by exact rfl) ?_
      refine rn_iload_n (by exact dc_Wt_build 9 rfl) (by exact rfl) ?_
      refine rn_iload_n (by exact dc_Wt_build 10 rfl) (by exact rfl) ?_
      refine rn_iload_n (by exact dc_Wt_build 11 rfl) (by exact rfl) ?_
      obtain ⟨x10, e9, h11⟩ := rn_bind h7
      clear h7
      refine rn_invV0 (by exact c_Ch_hasTree e9) iv_Wt_111 (by exact ⟨Nat.le_of_ble_eq_true rfl, Nat.le_of_ble_eq_true rfl⟩) (by exact dc_Wt_build 12 rfl) (by exact rfl) (by exact rfl) (by exact rfl) (by exact Nat.le_of_ble_eq_true rfl) ?_
      show Rn _ _ 21 [some (.ref 1), some (.int v0), some (.int v1), some (.int v2)] [.int x10] (emb 35 44 x d c u t a b m o E) _ _ _
      by_cases c12 : ¬ x10 = 0
      · replace h11 := rn_ifp c12 h11
        refine rn_if_ne_t 34 (by exact dc_Wt_build 13 rfl) (by exact rfl) c12 ?_
        refine rn_aload_n (by exact dc_Wt_build 19 rfl) (by exact rfl) ?_
        refine rn_getf (v := .ref 30) fd_Wt_33 (by exact dc_Wt_build 20 rfl) (by exact rfl) (by exact rfl) ?_
        refine rn_aload_n (by exact dc_Wt_build 21 rfl) (by exact rfl) ?_
        refine rn_getf (v := .ref 35) fd_Wt_40 (by exact dc_Wt_build 22 rfl) (by exact rfl) (by exact rfl) ?_
        refine rn_aload_n (by exact dc_Wt_build 23 rfl) (by exact rfl) ?_
        refine rn_getf (v := .ref 4) fd_Wt_19 (by exact dc_Wt_build 24 rfl) (by exact rfl) (by exact rfl) ?_
        refine rn_iload_n (by exact dc_Wt_build 25 rfl) (by exact rfl) ?_
        refine rn_iload_n (by exact dc_Wt_build 26 rfl) (by exact rfl) ?_
        refine rn_iload_n (by exact dc_Wt_build 27 rfl) (by exact rfl) ?_
        obtain ⟨t14, e13, h15⟩ := rn_bind h11
        clear h11
        refine rn_invV0 (by exact c_Tl_list e13) iv_Wt_159 (by exact ⟨Nat.le_of_ble_eq_true rfl, Nat.le_of_ble_eq_true rfl⟩) (by exact dc_Wt_build 28 rfl) (by exact rfl) (by exact rfl) (by exact rfl) (by exact Nat.le_of_ble_eq_true rfl) ?_
        show Rn _ _ 52 [some (.ref 1), some (.int v0), some (.int v1), some (.int v2)] [] (emb 35 44 x d c u t14 a b m o E) _ _ _
        refine rn_aload_n (by exact dc_Wt_build 29 rfl) (by exact rfl) ?_
        refine rn_getf (v := .ref 30) fd_Wt_33 (by exact dc_Wt_build 30 rfl) (by exact rfl) (by exact rfl) ?_
        refine rn_getf (v := .int (T_nodeCount t14)) fd_Wt_163 (by exact dc_Wt_build 31 rfl) (by exact rfl) (by exact rfl) ?_
        cases h15
      · replace h11 := rn_ifn c12 h11
        refine rn_if_ne_f 34 (by exact dc_Wt_build 13 rfl) (by exact rfl) (Classical.not_not.mp c12) ?_
        cases h11
        exact rn_throw (ca := 0) (sa := 0) hZ ft_2 fn_0 tk_Wt_78 ti_2 ts_Wt_157 to_Wt_82 (by exact dc_Wt_build 14 rfl) (by exact dc_Wt_build 15 rfl) (by exact dc_Wt_build 16 rfl) (by exact dc_Wt_build 17 rfl) (by exact dc_Wt_build 18 rfl) cd_Wt_build (by decide) (by decide)
    · dsimp only at h7
      by_cases c16 : k8 = 1
      · subst c16
        replace h7 := rn_ifp rfl h7
        simp at h7
      · replace h7 := rn_ifn c16 h7
        cases h7
  · dsimp only at h3
    by_cases c17 : k4 = 3
    · subst c17
      replace h3 := rn_ifp rfl h3
      simp at h3
    · replace h3 := rn_ifn c17 h3
      cases h3
set_option maxHeartbeats 4000000 in
set_option maxRecDepth 100000 in
theorem t_Wt_build_3 {Z : rn_Z} {x : tX} {d : tD} {c : tC} {u : tU} {t : tT} {a : tG} {b : tG} {m : tM} {o : tO} {E : List rn_C} {v0 : Int32} {v1 : Int32} {v2 : Int32} {t_r : tT} (hZ : Z.1.stackTraces = false) (h : F_Wt_build c t a v0 v1 v2 = some (.inr (3, t_r))) : CallT Z M_Wt_build [.ref 1, .int v0, .int v1, .int v2] (emb 35 44 x d c u t a b m o E) 1 6 "java/lang/IndexOutOfBoundsException" (emb 35 44 x d c u t_r a b m o E) := by
  unfold F_Wt_build at h
  refine rn_callT (by decide) 0 (by exact Nat.le_of_ble_eq_true rfl) ?_
  show Rn Z M_Wt_build 0 [some (.ref 1), some (.int v0), some (.int v1), some (.int v2)] [] (emb 35 44 x d c u t a b m o E) 1 6 _
  refine rn_aload_n (by exact dc_Wt_build 0 rfl) (by exact rfl) ?_
  refine rn_iload_n (by exact dc_Wt_build 1 rfl) (by exact rfl) ?_
  obtain ⟨z2, e1, h3⟩ := rn_bind h
  clear h
  rcases z2 with _ | k4
  · dsimp only at h3
    refine rn_invV (ca := 1) (sa := 6) (ca' := 0) (sa' := 0) (by exact c_Wt_requireNonterminal e1) iv_Wt_118 (by exact ⟨Nat.le_of_ble_eq_true rfl, Nat.le_of_ble_eq_true rfl⟩) (by exact dc_Wt_build 2 rfl) (by exact rfl) (by exact rfl) (by exact rfl) (by exact Nat.le_of_ble_eq_true rfl) ?_
    show Rn _ _ 5 [some (.ref 1), some (.int v0), some (.int v1), some (.int v2)] [] (emb 35 44 x d c u t a b m o E) _ _ _
    refine rn_aload_n (by exact dc_Wt_build 3 rfl) (by exact rfl) ?_
    refine rn_iload_n (by exact dc_Wt_build 4 rfl) (by exact rfl) ?_
    refine rn_iload_n (by exact dc_Wt_build 5 rfl) (by exact rfl) ?_
    obtain ⟨z6, e5, h7⟩ := rn_bind h3
    clear h3
    rcases z6 with _ | k8
    · dsimp only at h7
      refine rn_invV (ca := 1) (sa := 6) (ca' := 0) (sa' := 0) (by exact c_Wt_requirePart e5) iv_Wt_143 (by exact ⟨Nat.le_of_ble_eq_true rfl, Nat.le_of_ble_eq_true rfl⟩) (by exact dc_Wt_build 6 rfl) (by exact rfl) (by exact rfl) (by exact rfl) (by exact Nat.le_of_ble_eq_true rfl) ?_
      show Rn _ _ 11 [some (.ref 1), some (.int v0), some (.int v1), some (.int v2)] [] (emb 35 44 x d c u t a b m o E) _ _ _
      refine rn_aload_n (by exact dc_Wt_build 7 rfl) (by exact rfl) ?_
      refine rn_getf (v := .ref 4) fd_Wt_19 (by exact dc_Wt_build 8 rfl) (by exact rfl) (by exact rfl) ?_
      refine rn_iload_n (by exact dc_Wt_build 9 rfl) (by exact rfl) ?_
      refine rn_iload_n (by exact dc_Wt_build 10 rfl) (by exact rfl) ?_
      refine rn_iload_n (by exact dc_Wt_build 11 rfl) (by exact rfl) ?_
      obtain ⟨x10, e9, h11⟩ := rn_bind h7
      clear h7
      refine rn_invV0 (by exact c_Ch_hasTree e9) iv_Wt_111 (by exact ⟨Nat.le_of_ble_eq_true rfl, Nat.le_of_ble_eq_true rfl⟩) (by exact dc_Wt_build 12 rfl) (by exact rfl) (by exact rfl) (by exact rfl) (by exact Nat.le_of_ble_eq_true rfl) ?_
      show Rn _ _ 21 [some (.ref 1), some (.int v0), some (.int v1), some (.int v2)] [.int x10] (emb 35 44 x d c u t a b m o E) _ _ _
      by_cases c12 : ¬ x10 = 0
      · replace h11 := rn_ifp c12 h11
        refine rn_if_ne_t 34 (by exact dc_Wt_build 13 rfl) (by exact rfl) c12 ?_
        refine rn_aload_n (by exact dc_Wt_build 19 rfl) (by exact rfl) ?_
        refine rn_getf (v := .ref 30) fd_Wt_33 (by exact dc_Wt_build 20 rfl) (by exact rfl) (by exact rfl) ?_
        refine rn_aload_n (by exact dc_Wt_build 21 rfl) (by exact rfl) ?_
        refine rn_getf (v := .ref 35) fd_Wt_40 (by exact dc_Wt_build 22 rfl) (by exact rfl) (by exact rfl) ?_
        refine rn_aload_n (by exact dc_Wt_build 23 rfl) (by exact rfl) ?_
        refine rn_getf (v := .ref 4) fd_Wt_19 (by exact dc_Wt_build 24 rfl) (by exact rfl) (by exact rfl) ?_
        refine rn_iload_n (by exact dc_Wt_build 25 rfl) (by exact rfl) ?_
        refine rn_iload_n (by exact dc_Wt_build 26 rfl) (by exact rfl) ?_
        refine rn_iload_n (by exact dc_Wt_build 27 rfl) (by exact rfl) ?_
        obtain ⟨t14, e13, h15⟩ := rn_bind h11
        clear h11
        refine rn_invV0 (by exact c_Tl_list e13) iv_Wt_159 (by exact ⟨Nat.le_of_ble_eq_true rfl, Nat.le_of_ble_eq_true rfl⟩) (by exact dc_Wt_build 28 rfl) (by exact rfl) (by exact rfl) (by exact rfl) (by exact Nat.le_of_ble_eq_true rfl) ?_
        show Rn _ _ 52 [some (.ref 1), some (.int v0), some (.int v1), some (.int v2)] [] (emb 35 44 x d c u t14 a b m o E) _ _ _
        refine rn_aload_n (by exact dc_Wt_build 29 rfl) (by exact rfl) ?_
        refine rn_getf (v := .ref 30) fd_Wt_33 (by exact dc_Wt_build 30 rfl) (by exact rfl) (by exact rfl) ?_
        refine rn_getf (v := .int (T_nodeCount t14)) fd_Wt_163 (by exact dc_Wt_build 31 rfl) (by exact rfl) (by exact rfl) ?_
        cases h15
      · replace h11 := rn_ifn c12 h11
        refine rn_if_ne_f 34 (by exact dc_Wt_build 13 rfl) (by exact rfl) (Classical.not_not.mp c12) ?_
        simp at h11
    · dsimp only at h7
      by_cases c16 : k8 = 1
      · subst c16
        replace h7 := rn_ifp rfl h7
        simp at h7
      · replace h7 := rn_ifn c16 h7
        cases h7
  · dsimp only at h3
    by_cases c17 : k4 = 3
    · subst c17
      replace h3 := rn_ifp rfl h3
      cases h3
      exact rn_invVT (by exact t_Wt_requireNonterminal_3 hZ e1) iv_Wt_118 vl_Wt_118 (by exact ⟨Nat.le_of_ble_eq_true rfl, Nat.le_of_ble_eq_true rfl⟩) (by exact dc_Wt_build 2 rfl) (by exact rfl) (by exact rfl) (by exact rfl) (by exact Nat.le_of_ble_eq_true rfl) cd_Wt_build (by decide) (by decide)
    · replace h3 := rn_ifn c17 h3
      cases h3
def F_Wt_node (t : tT) (v0 : Int32) (v1 : Int32) : Option ((Int32 ⊕ Nat)) :=
  if v0 < 0 then (
    some (.inr 3)
  ) else (
    Option.bind (F_Tl_shownCount t ) fun x3 =>
    if v0 < x3 then (
      if v1 = 0 then (
        Option.bind (aG (T_rules t) 100 v0) fun x7 =>
        some (.inl x7)
      ) else (
        if v1 = 1 then (
          Option.bind (aG (T_starts t) 100 v0) fun x11 =>
          some (.inl x11)
        ) else (
          if v1 = 2 then (
            Option.bind (aG (T_ends t) 100 v0) fun x15 =>
            some (.inl x15)
          ) else (
            some (.inl (-1 : Int32))
          )
        )
      )
    ) else (
      some (.inr 3)
    )
  )
set_option maxHeartbeats 4000000 in
set_option maxRecDepth 100000 in
theorem c_Wt_node {Z : rn_Z} {x : tX} {d : tD} {c : tC} {u : tU} {t : tT} {a : tG} {b : tG} {m : tM} {o : tO} {E : List rn_C} {v0 : Int32} {v1 : Int32} {res : Int32} (h : F_Wt_node t v0 v1 = some (.inl res)) : Call Z M_Wt_node [.ref 1, .int v0, .int v1] (emb 35 44 x d c u t a b m o E) 0 0 (some (.int res)) (emb 35 44 x d c u t a b m o E) := by
  unfold F_Wt_node at h
  refine rn_call (by decide) 0 (by exact Nat.le_of_ble_eq_true rfl) ?_
  show Rn Z M_Wt_node 0 [some (.ref 1), some (.int v0), some (.int v1)] [] (emb 35 44 x d c u t a b m o E) 0 0 _
  refine rn_iload_n (by exact dc_Wt_node 0 rfl) (by exact rfl) ?_
  by_cases c1 : v0 < 0
  · replace h := rn_ifp c1 h
    refine rn_if_lt_t 15 (by exact dc_Wt_node 1 rfl) (by exact rfl) c1 ?_
    cases h
  · replace h := rn_ifn c1 h
    refine rn_if_lt_f 15 (by exact dc_Wt_node 1 rfl) (by exact rfl) c1 ?_
    refine rn_iload_n (by exact dc_Wt_node 2 rfl) (by exact rfl) ?_
    refine rn_aload_n (by exact dc_Wt_node 3 rfl) (by exact rfl) ?_
    refine rn_getf (v := .ref 30) fd_Wt_33 (by exact dc_Wt_node 4 rfl) (by exact rfl) (by exact rfl) ?_
    obtain ⟨x3, e2, h4⟩ := rn_bind h
    clear h
    refine rn_invV0 (by exact c_Tl_shownCount e2) iv_Wt_166 (by exact ⟨Nat.le_of_ble_eq_true rfl, Nat.le_of_ble_eq_true rfl⟩) (by exact dc_Wt_node 5 rfl) (by exact rfl) (by exact rfl) (by exact rfl) (by exact Nat.le_of_ble_eq_true rfl) ?_
    show Rn _ _ 12 [some (.ref 1), some (.int v0), some (.int v1)] [.int x3, .int v0] (emb 35 44 x d c u t a b m o E) _ _ _
    by_cases c5 : v0 < x3
    · replace h4 := rn_ifp c5 h4
      refine rn_icmp_lt_t 25 (by exact dc_Wt_node 6 rfl) (by exact rfl) c5 ?_
      refine rn_iload_n (by exact dc_Wt_node 12 rfl) (by exact rfl) ?_
      by_cases c6 : v1 = 0
      · replace h4 := rn_ifp c6 h4
        refine rn_tabIn 52 (by exact dc_Wt_node 13 rfl) (by rw [c6]; decide) (by rw [c6]; decide) (by rw [c6]; rfl) (by exact rfl) ?_
        refine rn_aload_n (by exact dc_Wt_node 14 rfl) (by exact rfl) ?_
        refine rn_getf (v := .ref 30) fd_Wt_33 (by exact dc_Wt_node 15 rfl) (by exact rfl) (by exact rfl) ?_
        refine rn_getf (v := .ref 31) fd_Wt_171 (by exact dc_Wt_node 16 rfl) (by exact rfl) (by exact rfl) ?_
        refine rn_iload_n (by exact dc_Wt_node 17 rfl) (by exact rfl) ?_
        obtain ⟨x7, e8, h9⟩ := rn_bind h4
        clear h4
        refine rn_iaload (by exact dc_Wt_node 18 rfl) (by exact rfl) e8 ?_
        cases h9
        exact rn_ireturn (by exact dc_Wt_node 19 rfl) (by exact rfl)
      · replace h4 := rn_ifn c6 h4
        by_cases c10 : v1 = 1
        · replace h4 := rn_ifp c10 h4
          refine rn_tabIn 62 (by exact dc_Wt_node 13 rfl) (by rw [c10]; decide) (by rw [c10]; decide) (by rw [c10]; rfl) (by exact rfl) ?_
          refine rn_aload_n (by exact dc_Wt_node 20 rfl) (by exact rfl) ?_
          refine rn_getf (v := .ref 30) fd_Wt_33 (by exact dc_Wt_node 21 rfl) (by exact rfl) (by exact rfl) ?_
          refine rn_getf (v := .ref 32) fd_Wt_174 (by exact dc_Wt_node 22 rfl) (by exact rfl) (by exact rfl) ?_
          refine rn_iload_n (by exact dc_Wt_node 23 rfl) (by exact rfl) ?_
          obtain ⟨x11, e12, h13⟩ := rn_bind h4
          clear h4
          refine rn_iaload (by exact dc_Wt_node 24 rfl) (by exact rfl) e12 ?_
          cases h13
          exact rn_ireturn (by exact dc_Wt_node 25 rfl) (by exact rfl)
        · replace h4 := rn_ifn c10 h4
          by_cases c14 : v1 = 2
          · replace h4 := rn_ifp c14 h4
            refine rn_tabIn 72 (by exact dc_Wt_node 13 rfl) (by rw [c14]; decide) (by rw [c14]; decide) (by rw [c14]; rfl) (by exact rfl) ?_
            refine rn_aload_n (by exact dc_Wt_node 26 rfl) (by exact rfl) ?_
            refine rn_getf (v := .ref 30) fd_Wt_33 (by exact dc_Wt_node 27 rfl) (by exact rfl) (by exact rfl) ?_
            refine rn_getf (v := .ref 33) fd_Wt_177 (by exact dc_Wt_node 28 rfl) (by exact rfl) (by exact rfl) ?_
            refine rn_iload_n (by exact dc_Wt_node 29 rfl) (by exact rfl) ?_
            obtain ⟨x15, e16, h17⟩ := rn_bind h4
            clear h4
            refine rn_iaload (by exact dc_Wt_node 30 rfl) (by exact rfl) e16 ?_
            cases h17
            exact rn_ireturn (by exact dc_Wt_node 31 rfl) (by exact rfl)
          · replace h4 := rn_ifn c14 h4
            refine rn_tabOut 82 (by exact dc_Wt_node 13 rfl) (by have c6i := lv_neT c6 (a := 0) rfl; have c10i := lv_neT c10 (a := 1) rfl; have c14i := lv_neT c14 (a := 2) rfl; omega) (by exact rfl) ?_
            refine rn_iconst (v := (-1 : Int32)) (by exact dc_Wt_node 32 rfl) (by decide) ?_
            cases h4
            exact rn_ireturn (by exact dc_Wt_node 33 rfl) (by exact rfl)
    · replace h4 := rn_ifn c5 h4
      refine rn_icmp_lt_f 25 (by exact dc_Wt_node 6 rfl) (by exact rfl) c5 ?_
      cases h4
set_option maxHeartbeats 4000000 in
set_option maxRecDepth 100000 in
theorem t_Wt_node_3 {Z : rn_Z} {x : tX} {d : tD} {c : tC} {u : tU} {t : tT} {a : tG} {b : tG} {m : tM} {o : tO} {E : List rn_C} {v0 : Int32} {v1 : Int32}  (hZ : Z.1.stackTraces = false) (h : F_Wt_node t v0 v1 = some (.inr 3)) : CallT Z M_Wt_node [.ref 1, .int v0, .int v1] (emb 35 44 x d c u t a b m o E) 1 6 "java/lang/IndexOutOfBoundsException" (emb 35 44 x d c u t a b m o E) := by
  unfold F_Wt_node at h
  refine rn_callT (by decide) 0 (by exact Nat.le_of_ble_eq_true rfl) ?_
  show Rn Z M_Wt_node 0 [some (.ref 1), some (.int v0), some (.int v1)] [] (emb 35 44 x d c u t a b m o E) 1 6 _
  refine rn_iload_n (by exact dc_Wt_node 0 rfl) (by exact rfl) ?_
  by_cases c1 : v0 < 0
  · replace h := rn_ifp c1 h
    refine rn_if_lt_t 15 (by exact dc_Wt_node 1 rfl) (by exact rfl) c1 ?_
    cases h
    exact rn_throw (ca := 0) (sa := 0) hZ ft_3 fn_0 tk_Wt_126 ti_3 ts_Wt_169 to_Wt_130 (by exact dc_Wt_node 7 rfl) (by exact dc_Wt_node 8 rfl) (by exact dc_Wt_node 9 rfl) (by exact dc_Wt_node 10 rfl) (by exact dc_Wt_node 11 rfl) cd_Wt_node (by decide) (by decide)
  · replace h := rn_ifn c1 h
    refine rn_if_lt_f 15 (by exact dc_Wt_node 1 rfl) (by exact rfl) c1 ?_
    refine rn_iload_n (by exact dc_Wt_node 2 rfl) (by exact rfl) ?_
    refine rn_aload_n (by exact dc_Wt_node 3 rfl) (by exact rfl) ?_
    refine rn_getf (v := .ref 30) fd_Wt_33 (by exact dc_Wt_node 4 rfl) (by exact rfl) (by exact rfl) ?_
    obtain ⟨x3, e2, h4⟩ := rn_bind h
    clear h
    refine rn_invV0 (by exact c_Tl_shownCount e2) iv_Wt_166 (by exact ⟨Nat.le_of_ble_eq_true rfl, Nat.le_of_ble_eq_true rfl⟩) (by exact dc_Wt_node 5 rfl) (by exact rfl) (by exact rfl) (by exact rfl) (by exact Nat.le_of_ble_eq_true rfl) ?_
    show Rn _ _ 12 [some (.ref 1), some (.int v0), some (.int v1)] [.int x3, .int v0] (emb 35 44 x d c u t a b m o E) _ _ _
    by_cases c5 : v0 < x3
    · replace h4 := rn_ifp c5 h4
      refine rn_icmp_lt_t 25 (by exact dc_Wt_node 6 rfl) (by exact rfl) c5 ?_
      refine rn_iload_n (by exact dc_Wt_node 12 rfl) (by exact rfl) ?_
      by_cases c6 : v1 = 0
      · replace h4 := rn_ifp c6 h4
        refine rn_tabIn 52 (by exact dc_Wt_node 13 rfl) (by rw [c6]; decide) (by rw [c6]; decide) (by rw [c6]; rfl) (by exact rfl) ?_
        refine rn_aload_n (by exact dc_Wt_node 14 rfl) (by exact rfl) ?_
        refine rn_getf (v := .ref 30) fd_Wt_33 (by exact dc_Wt_node 15 rfl) (by exact rfl) (by exact rfl) ?_
        refine rn_getf (v := .ref 31) fd_Wt_171 (by exact dc_Wt_node 16 rfl) (by exact rfl) (by exact rfl) ?_
        refine rn_iload_n (by exact dc_Wt_node 17 rfl) (by exact rfl) ?_
        obtain ⟨x7, e8, h9⟩ := rn_bind h4
        clear h4
        refine rn_iaload (by exact dc_Wt_node 18 rfl) (by exact rfl) e8 ?_
        cases h9
      · replace h4 := rn_ifn c6 h4
        by_cases c10 : v1 = 1
        · replace h4 := rn_ifp c10 h4
          refine rn_tabIn 62 (by exact dc_Wt_node 13 rfl) (by rw [c10]; decide) (by rw [c10]; decide) (by rw [c10]; rfl) (by exact rfl) ?_
          refine rn_aload_n (by exact dc_Wt_node 20 rfl) (by exact rfl) ?_
          refine rn_getf (v := .ref 30) fd_Wt_33 (by exact dc_Wt_node 21 rfl) (by exact rfl) (by exact rfl) ?_
          refine rn_getf (v := .ref 32) fd_Wt_174 (by exact dc_Wt_node 22 rfl) (by exact rfl) (by exact rfl) ?_
          refine rn_iload_n (by exact dc_Wt_node 23 rfl) (by exact rfl) ?_
          obtain ⟨x11, e12, h13⟩ := rn_bind h4
          clear h4
          refine rn_iaload (by exact dc_Wt_node 24 rfl) (by exact rfl) e12 ?_
          cases h13
        · replace h4 := rn_ifn c10 h4
          by_cases c14 : v1 = 2
          · replace h4 := rn_ifp c14 h4
            refine rn_tabIn 72 (by exact dc_Wt_node 13 rfl) (by rw [c14]; decide) (by rw [c14]; decide) (by rw [c14]; rfl) (by exact rfl) ?_
            refine rn_aload_n (by exact dc_Wt_node 26 rfl) (by exact rfl) ?_
            refine rn_getf (v := .ref 30) fd_Wt_33 (by exact dc_Wt_node 27 rfl) (by exact rfl) (by exact rfl) ?_
            refine rn_getf (v := .ref 33) fd_Wt_177 (by exact dc_Wt_node 28 rfl) (by exact rfl) (by exact rfl) ?_
            refine rn_iload_n (by exact dc_Wt_node 29 rfl) (by exact rfl) ?_
            obtain ⟨x15, e16, h17⟩ := rn_bind h4
            clear h4
            refine rn_iaload (by exact dc_Wt_node 30 rfl) (by exact rfl) e16 ?_
            cases h17
          · replace h4 := rn_ifn c14 h4
            refine rn_tabOut 82 (by exact dc_Wt_node 13 rfl) (by have c6i := lv_neT c6 (a := 0) rfl; have c10i := lv_neT c10 (a := 1) rfl; have c14i := lv_neT c14 (a := 2) rfl; omega) (by exact rfl) ?_
            refine rn_iconst (v := (-1 : Int32)) (by exact dc_Wt_node 32 rfl) (by decide) ?_
            cases h4
    · replace h4 := rn_ifn c5 h4
      refine rn_icmp_lt_f 25 (by exact dc_Wt_node 6 rfl) (by exact rfl) c5 ?_
      cases h4
      exact rn_throw (ca := 0) (sa := 0) hZ ft_3 fn_0 tk_Wt_126 ti_3 ts_Wt_169 to_Wt_130 (by exact dc_Wt_node 7 rfl) (by exact dc_Wt_node 8 rfl) (by exact dc_Wt_node 9 rfl) (by exact dc_Wt_node 10 rfl) (by exact dc_Wt_node 11 rfl) cd_Wt_node (by decide) (by decide)
def F_Wt_takeSpareGrammar (c : tC) (u : tU) (t : tT) (b : tG)  : Option (tC × tU × tT) :=
  Option.bind (F_Tl_clear t ) fun t2 =>
  Option.bind (F_Ch_dropText c ) fun c5 =>
  Option.bind (F_Ch_fillPart c5 b (0 : Int32) (0 : Int32)) fun c8 =>
  Option.bind (F_Ut_fill c8 u b ) fun u11 =>
  some (c8, u11, t2)
set_option maxHeartbeats 4000000 in
set_option maxRecDepth 100000 in
theorem c_Wt_takeSpareGrammar {Z : rn_Z} {x : tX} {d : tD} {c : tC} {u : tU} {t : tT} {a : tG} {b : tG} {m : tM} {o : tO} {E : List rn_C}  {c_r : tC} {u_r : tU} {t_r : tT} (h : F_Wt_takeSpareGrammar c u t b  = some (c_r, u_r, t_r)) : Call Z M_Wt_takeSpareGrammar [.ref 1] (emb 35 44 x d c u t a b m o E) 0 0 none (emb 44 35 x d c_r u_r t_r a b m o E) := by
  unfold F_Wt_takeSpareGrammar at h
  refine rn_call (by decide) 1 (by exact Nat.le_of_ble_eq_true rfl) ?_
  show Rn Z M_Wt_takeSpareGrammar 0 [some (.ref 1), none] [] (emb 35 44 x d c u t a b m o E) 0 0 _
  refine rn_aload_n (by exact dc_Wt_takeSpareGrammar 0 rfl) (by exact rfl) ?_
  refine rn_getf (v := .ref 35) fd_Wt_40 (by exact dc_Wt_takeSpareGrammar 1 rfl) (by exact rfl) (by exact rfl) ?_
  refine rn_astore_n (ls' := [some (.ref 1), some (.ref 35)]) (by exact dc_Wt_takeSpareGrammar 2 rfl) (by decide) (by exact rfl) ?_
  refine rn_aload_n (by exact dc_Wt_takeSpareGrammar 3 rfl) (by exact rfl) ?_
  refine rn_aload_n (by exact dc_Wt_takeSpareGrammar 4 rfl) (by exact rfl) ?_
  refine rn_getf (v := .ref 44) fd_Wt_44 (by exact dc_Wt_takeSpareGrammar 5 rfl) (by exact rfl) (by exact rfl) ?_
  refine rn_putf (w2 := (emb 44 44 x d c u t a b m o E)) fd_Wt_40 (by exact dc_Wt_takeSpareGrammar 6 rfl) (by exact rfl) (by exact rfl) (by exact Nat.le_of_ble_eq_true rfl) (by exact rfl) ?_
  refine rn_aload_n (by exact dc_Wt_takeSpareGrammar 7 rfl) (by exact rfl) ?_
  refine rn_aload_n (by exact dc_Wt_takeSpareGrammar 8 rfl) (by exact rfl) ?_
  refine rn_putf (w2 := (emb 44 35 x d c u t a b m o E)) fd_Wt_44 (by exact dc_Wt_takeSpareGrammar 9 rfl) (by exact rfl) (by exact rfl) (by exact Nat.le_of_ble_eq_true rfl) (by exact rfl) ?_
  refine rn_aload_n (by exact dc_Wt_takeSpareGrammar 10 rfl) (by exact rfl) ?_
  refine rn_getf (v := .ref 30) fd_Wt_33 (by exact dc_Wt_takeSpareGrammar 11 rfl) (by exact rfl) (by exact rfl) ?_
  obtain ⟨t2, e1, h3⟩ := rn_bind h
  clear h
  refine rn_invV0 (by exact c_Tl_clear e1) iv_Wt_103 (by exact ⟨Nat.le_of_ble_eq_true rfl, Nat.le_of_ble_eq_true rfl⟩) (by exact dc_Wt_takeSpareGrammar 12 rfl) (by exact rfl) (by exact rfl) (by exact rfl) (by exact Nat.le_of_ble_eq_true rfl) ?_
  show Rn _ _ 25 [some (.ref 1), some (.ref 35)] [] (emb 44 35 x d c u t2 a b m o E) _ _ _
  refine rn_aload_n (by exact dc_Wt_takeSpareGrammar 13 rfl) (by exact rfl) ?_
  refine rn_getf (v := .ref 4) fd_Wt_19 (by exact dc_Wt_takeSpareGrammar 14 rfl) (by exact rfl) (by exact rfl) ?_
  obtain ⟨c5, e4, h6⟩ := rn_bind h3
  clear h3
  refine rn_invV0 (by exact c_Ch_dropText e4) iv_Wt_180 (by exact ⟨Nat.le_of_ble_eq_true rfl, Nat.le_of_ble_eq_true rfl⟩) (by exact dc_Wt_takeSpareGrammar 15 rfl) (by exact rfl) (by exact rfl) (by exact rfl) (by exact Nat.le_of_ble_eq_true rfl) ?_
  show Rn _ _ 32 [some (.ref 1), some (.ref 35)] [] (emb 44 35 x d c5 u t2 a b m o E) _ _ _
  refine rn_aload_n (by exact dc_Wt_takeSpareGrammar 16 rfl) (by exact rfl) ?_
  refine rn_getf (v := .ref 4) fd_Wt_19 (by exact dc_Wt_takeSpareGrammar 17 rfl) (by exact rfl) (by exact rfl) ?_
  refine rn_aload_n (by exact dc_Wt_takeSpareGrammar 18 rfl) (by exact rfl) ?_
  refine rn_getf (v := .ref 44) fd_Wt_40 (by exact dc_Wt_takeSpareGrammar 19 rfl) (by exact rfl) (by exact rfl) ?_
  refine rn_iconst (v := (0 : Int32)) (by exact dc_Wt_takeSpareGrammar 20 rfl) (by decide) ?_
  refine rn_iconst (v := (0 : Int32)) (by exact dc_Wt_takeSpareGrammar 21 rfl) (by decide) ?_
  obtain ⟨c8, e7, h9⟩ := rn_bind h6
  clear h6
  refine rn_invV0 (by exact c_Ch_fillPart_b e7) iv_Wt_183 (by exact ⟨Nat.le_of_ble_eq_true rfl, Nat.le_of_ble_eq_true rfl⟩) (by exact dc_Wt_takeSpareGrammar 22 rfl) (by exact rfl) (by exact rfl) (by exact rfl) (by exact Nat.le_of_ble_eq_true rfl) ?_
  show Rn _ _ 45 [some (.ref 1), some (.ref 35)] [] (emb 44 35 x d c8 u t2 a b m o E) _ _ _
  refine rn_aload_n (by exact dc_Wt_takeSpareGrammar 23 rfl) (by exact rfl) ?_
  refine rn_getf (v := .ref 28) fd_Wt_26 (by exact dc_Wt_takeSpareGrammar 24 rfl) (by exact rfl) (by exact rfl) ?_
  refine rn_aload_n (by exact dc_Wt_takeSpareGrammar 25 rfl) (by exact rfl) ?_
  refine rn_getf (v := .ref 44) fd_Wt_40 (by exact dc_Wt_takeSpareGrammar 26 rfl) (by exact rfl) (by exact rfl) ?_
  refine rn_aload_n (by exact dc_Wt_takeSpareGrammar 27 rfl) (by exact rfl) ?_
  refine rn_getf (v := .ref 4) fd_Wt_19 (by exact dc_Wt_takeSpareGrammar 28 rfl) (by exact rfl) (by exact rfl) ?_
  obtain ⟨u11, e10, h12⟩ := rn_bind h9
  clear h9
  refine rn_invV0 (by exact c_Ut_fill_b e10) iv_Wt_187 (by exact ⟨Nat.le_of_ble_eq_true rfl, Nat.le_of_ble_eq_true rfl⟩) (by exact dc_Wt_takeSpareGrammar 29 rfl) (by exact rfl) (by exact rfl) (by exact rfl) (by exact Nat.le_of_ble_eq_true rfl) ?_
  show Rn _ _ 60 [some (.ref 1), some (.ref 35)] [] (emb 44 35 x d c8 u11 t2 a b m o E) _ _ _
  cases h12
  exact rn_return (by exact dc_Wt_takeSpareGrammar 30 rfl) (by exact rfl)
def F_Wt_load (x : tX) (d : tD) (c : tC) (u : tU) (t : tT) (b : tG)  : Option (((Int32 × tX × tD × tC × tU × tT × tG × tR) ⊕ (Nat × tX × tD × tC × tU × tT × tG × tR))) :=
  Option.bind (F_Rd_firstWrongLine d b ((0 : Int32), (-1 : Int32)) ) fun (x2, b3, r4) =>
  Option.bind (F_Dr_clear d ) fun d7 =>
  if x2 = 0 then (
    Option.bind (F_Gr_findOrder b3 ) fun (x11, b12) =>
    if ¬ x11 = 0 then (
      Option.bind (F_Wt_takeSpareGrammar c u t b12 ) fun (c16, u17, t18) =>
      some (.inl (G_ruleCount b12, x, d7, c16, u17, t18, b12, r4))
    ) else (
      some (.inr (2, x, d7, c, u, t, b12, r4))
    )
  ) else (
    some (.inr (1, x2, d7, c, u, t, b3, r4))
  )
set_option maxHeartbeats 4000000 in
set_option maxRecDepth 100000 in
theorem c_Wt_load {Z : rn_Z} {x : tX} {d : tD} {c : tC} {u : tU} {t : tT} {a : tG} {b : tG} {m : tM} {o : tO}  {res : Int32} {x_r : tX} {d_r : tD} {c_r : tC} {u_r : tU} {t_r : tT} {b_r : tG} {r_r : tR} (h : F_Wt_load x d c u t b  = some (.inl (res, x_r, d_r, c_r, u_r, t_r, b_r, r_r))) : Call Z M_Wt_load [.ref 1] (emb 35 44 x d c u t a b m o []) 1 4 (some (.int res)) (emb 44 35 x_r d_r c_r u_r t_r a b_r m o [rd_cell r_r]) := by
  unfold F_Wt_load at h
  refine rn_call (by decide) 1 (by exact Nat.le_of_ble_eq_true rfl) ?_
  show Rn Z M_Wt_load 0 [some (.ref 1), none] [] (emb 35 44 x d c u t a b m o []) 1 4 _
  refine rn_new (ca := 0) (sa := 0) (N := 4) (w2 := (emb 35 44 x d c u t a b m o [rd_raw])) nw_Wt_58 (by exact dc_Wt_load 0 rfl) (by exact rfl) ?_
  show Rn _ _ 3 [some (.ref 1), none] [.ref 77] (emb 35 44 x d c u t a b m o [rd_raw]) _ _ _
  refine rn_dup (by exact dc_Wt_load 1 rfl) (by exact rfl) ?_
  refine rn_aload_n (by exact dc_Wt_load 2 rfl) (by exact rfl) ?_
  refine rn_getf (v := .ref 2) fd_Wt_10 (by exact dc_Wt_load 3 rfl) (by exact rfl) (by exact rfl) ?_
  refine rn_aload_n (by exact dc_Wt_load 4 rfl) (by exact rfl) ?_
  refine rn_getf (v := .ref 44) fd_Wt_44 (by exact dc_Wt_load 5 rfl) (by exact rfl) (by exact rfl) ?_
  refine rn_invI (ca := 0) (sa := 0) (ca' := 0) (sa' := 0) (by exact c_Rd_init) ii_Wt_60 (by exact rfl) (by exact ⟨Nat.le_of_ble_eq_true rfl, Nat.le_of_ble_eq_true rfl⟩) (by exact dc_Wt_load 6 rfl) (by exact rfl) (by exact rfl) (by exact Nat.le_of_ble_eq_true rfl) ?_
  show Rn _ _ 15 [some (.ref 1), none] [.ref 77] (emb 35 44 x d c u t a b m o [rd_cell ((0 : Int32), (-1 : Int32))]) _ _ _
  obtain ⟨⟨x2, b3, r4⟩, e1, h5⟩ := rn_bind h
  clear h
  dsimp only at h5
  refine rn_invV0 (by exact c_Rd_firstWrongLine_b e1) iv_Wt_63 (by exact ⟨Nat.le_of_ble_eq_true rfl, Nat.le_of_ble_eq_true rfl⟩) (by exact dc_Wt_load 7 rfl) (by exact rfl) (by exact rfl) (by exact rfl) (by exact Nat.le_of_ble_eq_true rfl) ?_
  show Rn _ _ 18 [some (.ref 1), none] [.int x2] (emb 35 44 x d c u t a b3 m o [rd_cell r4]) _ _ _
  refine rn_istore_n (ls' := [some (.ref 1), some (.int x2)]) (by exact dc_Wt_load 8 rfl) (by decide) (by exact rfl) ?_
  refine rn_aload_n (by exact dc_Wt_load 9 rfl) (by exact rfl) ?_
  refine rn_getf (v := .ref 2) fd_Wt_10 (by exact dc_Wt_load 10 rfl) (by exact rfl) (by exact rfl) ?_
  obtain ⟨d7, e6, h8⟩ := rn_bind h5
  clear h5
  refine rn_invV0 (by exact c_Dr_clear e6) iv_Wt_55 (by exact ⟨Nat.le_of_ble_eq_true rfl, Nat.le_of_ble_eq_true rfl⟩) (by exact dc_Wt_load 11 rfl) (by exact rfl) (by exact rfl) (by exact rfl) (by exact Nat.le_of_ble_eq_true rfl) ?_
  show Rn _ _ 26 [some (.ref 1), some (.int x2)] [] (emb 35 44 x d7 c u t a b3 m o [rd_cell r4]) _ _ _
  refine rn_iload_n (by exact dc_Wt_load 12 rfl) (by exact rfl) ?_
  by_cases c9 : x2 = 0
  · replace h8 := rn_ifp c9 h8
    refine rn_if_eq_t 45 (by exact dc_Wt_load 13 rfl) (by exact rfl) c9 ?_
    refine rn_aload_n (by exact dc_Wt_load 22 rfl) (by exact rfl) ?_
    refine rn_getf (v := .ref 44) fd_Wt_44 (by exact dc_Wt_load 23 rfl) (by exact rfl) (by exact rfl) ?_
    obtain ⟨⟨x11, b12⟩, e10, h13⟩ := rn_bind h8
    clear h8
    dsimp only at h13
    refine rn_invV0 (by exact c_Gr_findOrder_b e10) iv_Wt_74 (by exact ⟨Nat.le_of_ble_eq_true rfl, Nat.le_of_ble_eq_true rfl⟩) (by exact dc_Wt_load 24 rfl) (by exact rfl) (by exact rfl) (by exact rfl) (by exact Nat.le_of_ble_eq_true rfl) ?_
    show Rn _ _ 52 [some (.ref 1), some (.int x2)] [.int x11] (emb 35 44 x d7 c u t a b12 m o [rd_cell r4]) _ _ _
    by_cases c14 : ¬ x11 = 0
    · replace h13 := rn_ifp c14 h13
      refine rn_if_ne_t 65 (by exact dc_Wt_load 25 rfl) (by exact rfl) c14 ?_
      refine rn_aload_n (by exact dc_Wt_load 31 rfl) (by exact rfl) ?_
      obtain ⟨⟨c16, u17, t18⟩, e15, h19⟩ := rn_bind h13
      clear h13
      dsimp only at h19
      refine rn_invV0 (by exact c_Wt_takeSpareGrammar e15) iv_Wt_83 (by exact ⟨Nat.le_of_ble_eq_true rfl, Nat.le_of_ble_eq_true rfl⟩) (by exact dc_Wt_load 32 rfl) (by exact rfl) (by exact rfl) (by exact rfl) (by exact Nat.le_of_ble_eq_true rfl) ?_
      show Rn _ _ 69 [some (.ref 1), some (.int x2)] [] (emb 44 35 x d7 c16 u17 t18 a b12 m o [rd_cell r4]) _ _ _
      refine rn_aload_n (by exact dc_Wt_load 33 rfl) (by exact rfl) ?_
      refine rn_getf (v := .ref 44) fd_Wt_40 (by exact dc_Wt_load 34 rfl) (by exact rfl) (by exact rfl) ?_
      refine rn_getf (v := .int (G_ruleCount b12)) fd_Wt_86 (by exact dc_Wt_load 35 rfl) (by exact rfl) (by exact rfl) ?_
      cases h19
      exact rn_ireturn (by exact dc_Wt_load 36 rfl) (by exact rfl)
    · replace h13 := rn_ifn c14 h13
      refine rn_if_ne_f 65 (by exact dc_Wt_load 25 rfl) (by exact rfl) (Classical.not_not.mp c14) ?_
      cases h13
  · replace h8 := rn_ifn c9 h8
    refine rn_if_eq_f 45 (by exact dc_Wt_load 13 rfl) (by exact rfl) c9 ?_
    refine rn_aload_n (by exact dc_Wt_load 14 rfl) (by exact rfl) ?_
    refine rn_iload_n (by exact dc_Wt_load 15 rfl) (by exact rfl) ?_
    refine rn_putf (w2 := (emb 35 44 x2 d7 c u t a b3 m o [rd_cell r4])) fd_Wt_47 (by exact dc_Wt_load 16 rfl) (by exact rfl) (by exact rfl) (by exact Nat.le_of_ble_eq_true rfl) (by exact rfl) ?_
    cases h8
set_option maxHeartbeats 4000000 in
set_option maxRecDepth 100000 in
theorem t_Wt_load_1 {Z : rn_Z} {x : tX} {d : tD} {c : tC} {u : tU} {t : tT} {a : tG} {b : tG} {m : tM} {o : tO}  {x_r : tX} {d_r : tD} {c_r : tC} {u_r : tU} {t_r : tT} {b_r : tG} {r_r : tR} (hZ : Z.1.stackTraces = false) (h : F_Wt_load x d c u t b  = some (.inr (1, x_r, d_r, c_r, u_r, t_r, b_r, r_r))) : CallT Z M_Wt_load [.ref 1] (emb 35 44 x d c u t a b m o []) 2 10 "java/lang/IllegalArgumentException" (emb 35 44 x_r d_r c_r u_r t_r a b_r m o [rd_cell r_r]) := by
  unfold F_Wt_load at h
  refine rn_callT (by decide) 1 (by exact Nat.le_of_ble_eq_true rfl) ?_
  show Rn Z M_Wt_load 0 [some (.ref 1), none] [] (emb 35 44 x d c u t a b m o []) 2 10 _
  refine rn_new (ca := 1) (sa := 6) (N := 4) (w2 := (emb 35 44 x d c u t a b m o [rd_raw])) nw_Wt_58 (by exact dc_Wt_load 0 rfl) (by exact rfl) ?_
  show Rn _ _ 3 [some (.ref 1), none] [.ref 77] (emb 35 44 x d c u t a b m o [rd_raw]) _ _ _
  refine rn_dup (by exact dc_Wt_load 1 rfl) (by exact rfl) ?_
  refine rn_aload_n (by exact dc_Wt_load 2 rfl) (by exact rfl) ?_
  refine rn_getf (v := .ref 2) fd_Wt_10 (by exact dc_Wt_load 3 rfl) (by exact rfl) (by exact rfl) ?_
  refine rn_aload_n (by exact dc_Wt_load 4 rfl) (by exact rfl) ?_
  refine rn_getf (v := .ref 44) fd_Wt_44 (by exact dc_Wt_load 5 rfl) (by exact rfl) (by exact rfl) ?_
  refine rn_invI (ca := 1) (sa := 6) (ca' := 0) (sa' := 0) (by exact c_Rd_init) ii_Wt_60 (by exact rfl) (by exact ⟨Nat.le_of_ble_eq_true rfl, Nat.le_of_ble_eq_true rfl⟩) (by exact dc_Wt_load 6 rfl) (by exact rfl) (by exact rfl) (by exact Nat.le_of_ble_eq_true rfl) ?_
  show Rn _ _ 15 [some (.ref 1), none] [.ref 77] (emb 35 44 x d c u t a b m o [rd_cell ((0 : Int32), (-1 : Int32))]) _ _ _
  obtain ⟨⟨x2, b3, r4⟩, e1, h5⟩ := rn_bind h
  clear h
  dsimp only at h5
  refine rn_invV0 (by exact c_Rd_firstWrongLine_b e1) iv_Wt_63 (by exact ⟨Nat.le_of_ble_eq_true rfl, Nat.le_of_ble_eq_true rfl⟩) (by exact dc_Wt_load 7 rfl) (by exact rfl) (by exact rfl) (by exact rfl) (by exact Nat.le_of_ble_eq_true rfl) ?_
  show Rn _ _ 18 [some (.ref 1), none] [.int x2] (emb 35 44 x d c u t a b3 m o [rd_cell r4]) _ _ _
  refine rn_istore_n (ls' := [some (.ref 1), some (.int x2)]) (by exact dc_Wt_load 8 rfl) (by decide) (by exact rfl) ?_
  refine rn_aload_n (by exact dc_Wt_load 9 rfl) (by exact rfl) ?_
  refine rn_getf (v := .ref 2) fd_Wt_10 (by exact dc_Wt_load 10 rfl) (by exact rfl) (by exact rfl) ?_
  obtain ⟨d7, e6, h8⟩ := rn_bind h5
  clear h5
  refine rn_invV0 (by exact c_Dr_clear e6) iv_Wt_55 (by exact ⟨Nat.le_of_ble_eq_true rfl, Nat.le_of_ble_eq_true rfl⟩) (by exact dc_Wt_load 11 rfl) (by exact rfl) (by exact rfl) (by exact rfl) (by exact Nat.le_of_ble_eq_true rfl) ?_
  show Rn _ _ 26 [some (.ref 1), some (.int x2)] [] (emb 35 44 x d7 c u t a b3 m o [rd_cell r4]) _ _ _
  refine rn_iload_n (by exact dc_Wt_load 12 rfl) (by exact rfl) ?_
  by_cases c9 : x2 = 0
  · replace h8 := rn_ifp c9 h8
    refine rn_if_eq_t 45 (by exact dc_Wt_load 13 rfl) (by exact rfl) c9 ?_
    refine rn_aload_n (by exact dc_Wt_load 22 rfl) (by exact rfl) ?_
    refine rn_getf (v := .ref 44) fd_Wt_44 (by exact dc_Wt_load 23 rfl) (by exact rfl) (by exact rfl) ?_
    obtain ⟨⟨x11, b12⟩, e10, h13⟩ := rn_bind h8
    clear h8
    dsimp only at h13
    refine rn_invV0 (by exact c_Gr_findOrder_b e10) iv_Wt_74 (by exact ⟨Nat.le_of_ble_eq_true rfl, Nat.le_of_ble_eq_true rfl⟩) (by exact dc_Wt_load 24 rfl) (by exact rfl) (by exact rfl) (by exact rfl) (by exact Nat.le_of_ble_eq_true rfl) ?_
    show Rn _ _ 52 [some (.ref 1), some (.int x2)] [.int x11] (emb 35 44 x d7 c u t a b12 m o [rd_cell r4]) _ _ _
    by_cases c14 : ¬ x11 = 0
    · replace h13 := rn_ifp c14 h13
      refine rn_if_ne_t 65 (by exact dc_Wt_load 25 rfl) (by exact rfl) c14 ?_
      refine rn_aload_n (by exact dc_Wt_load 31 rfl) (by exact rfl) ?_
      obtain ⟨⟨c16, u17, t18⟩, e15, h19⟩ := rn_bind h13
      clear h13
      dsimp only at h19
      refine rn_invV0 (by exact c_Wt_takeSpareGrammar e15) iv_Wt_83 (by exact ⟨Nat.le_of_ble_eq_true rfl, Nat.le_of_ble_eq_true rfl⟩) (by exact dc_Wt_load 32 rfl) (by exact rfl) (by exact rfl) (by exact rfl) (by exact Nat.le_of_ble_eq_true rfl) ?_
      show Rn _ _ 69 [some (.ref 1), some (.int x2)] [] (emb 44 35 x d7 c16 u17 t18 a b12 m o [rd_cell r4]) _ _ _
      refine rn_aload_n (by exact dc_Wt_load 33 rfl) (by exact rfl) ?_
      refine rn_getf (v := .ref 44) fd_Wt_40 (by exact dc_Wt_load 34 rfl) (by exact rfl) (by exact rfl) ?_
      refine rn_getf (v := .int (G_ruleCount b12)) fd_Wt_86 (by exact dc_Wt_load 35 rfl) (by exact rfl) (by exact rfl) ?_
      cases h19
    · replace h13 := rn_ifn c14 h13
      refine rn_if_ne_f 65 (by exact dc_Wt_load 25 rfl) (by exact rfl) (Classical.not_not.mp c14) ?_
      simp at h13
  · replace h8 := rn_ifn c9 h8
    refine rn_if_eq_f 45 (by exact dc_Wt_load 13 rfl) (by exact rfl) c9 ?_
    refine rn_aload_n (by exact dc_Wt_load 14 rfl) (by exact rfl) ?_
    refine rn_iload_n (by exact dc_Wt_load 15 rfl) (by exact rfl) ?_
    refine rn_putf (w2 := (emb 35 44 x2 d7 c u t a b3 m o [rd_cell r4])) fd_Wt_47 (by exact dc_Wt_load 16 rfl) (by exact rfl) (by exact rfl) (by exact Nat.le_of_ble_eq_true rfl) (by exact rfl) ?_
    cases h8
    exact rn_throw (ca := 0) (sa := 0) hZ ft_1 fn_0 tk_Wt_67 ti_1 ts_Wt_69 to_Wt_71 (by exact dc_Wt_load 17 rfl) (by exact dc_Wt_load 18 rfl) (by exact dc_Wt_load 19 rfl) (by exact dc_Wt_load 20 rfl) (by exact dc_Wt_load 21 rfl) cd_Wt_load (by decide) (by decide)
set_option maxHeartbeats 4000000 in
set_option maxRecDepth 100000 in
theorem t_Wt_load_2 {Z : rn_Z} {x : tX} {d : tD} {c : tC} {u : tU} {t : tT} {a : tG} {b : tG} {m : tM} {o : tO}  {x_r : tX} {d_r : tD} {c_r : tC} {u_r : tU} {t_r : tT} {b_r : tG} {r_r : tR} (hZ : Z.1.stackTraces = false) (h : F_Wt_load x d c u t b  = some (.inr (2, x_r, d_r, c_r, u_r, t_r, b_r, r_r))) : CallT Z M_Wt_load [.ref 1] (emb 35 44 x d c u t a b m o []) 2 10 "java/lang/IllegalStateException" (emb 35 44 x_r d_r c_r u_r t_r a b_r m o [rd_cell r_r]) := by
  unfold F_Wt_load at h
  refine rn_callT (by decide) 1 (by exact Nat.le_of_ble_eq_true rfl) ?_
  show Rn Z M_Wt_load 0 [some (.ref 1), none] [] (emb 35 44 x d c u t a b m o []) 2 10 _
  refine rn_new (ca := 1) (sa := 6) (N := 4) (w2 := (emb 35 44 x d c u t a b m o [rd_raw])) nw_Wt_58 (by exact dc_Wt_load 0 rfl) (by exact rfl) ?_
  show Rn _ _ 3 [some (.ref 1), none] [.ref 77] (emb 35 44 x d c u t a b m o [rd_raw]) _ _ _
  refine rn_dup (by exact dc_Wt_load 1 rfl) (by exact rfl) ?_
  refine rn_aload_n (by exact dc_Wt_load 2 rfl) (by exact rfl) ?_
  refine rn_getf (v := .ref 2) fd_Wt_10 (by exact dc_Wt_load 3 rfl) (by exact rfl) (by exact rfl) ?_
  refine rn_aload_n (by exact dc_Wt_load 4 rfl) (by exact rfl) ?_
  refine rn_getf (v := .ref 44) fd_Wt_44 (by exact dc_Wt_load 5 rfl) (by exact rfl) (by exact rfl) ?_
  refine rn_invI (ca := 1) (sa := 6) (ca' := 0) (sa' := 0) (by exact c_Rd_init) ii_Wt_60 (by exact rfl) (by exact ⟨Nat.le_of_ble_eq_true rfl, Nat.le_of_ble_eq_true rfl⟩) (by exact dc_Wt_load 6 rfl) (by exact rfl) (by exact rfl) (by exact Nat.le_of_ble_eq_true rfl) ?_
  show Rn _ _ 15 [some (.ref 1), none] [.ref 77] (emb 35 44 x d c u t a b m o [rd_cell ((0 : Int32), (-1 : Int32))]) _ _ _
  obtain ⟨⟨x2, b3, r4⟩, e1, h5⟩ := rn_bind h
  clear h
  dsimp only at h5
  refine rn_invV0 (by exact c_Rd_firstWrongLine_b e1) iv_Wt_63 (by exact ⟨Nat.le_of_ble_eq_true rfl, Nat.le_of_ble_eq_true rfl⟩) (by exact dc_Wt_load 7 rfl) (by exact rfl) (by exact rfl) (by exact rfl) (by exact Nat.le_of_ble_eq_true rfl) ?_
  show Rn _ _ 18 [some (.ref 1), none] [.int x2] (emb 35 44 x d c u t a b3 m o [rd_cell r4]) _ _ _
  refine rn_istore_n (ls' := [some (.ref 1), some (.int x2)]) (by exact dc_Wt_load 8 rfl) (by decide) (by exact rfl) ?_
  refine rn_aload_n (by exact dc_Wt_load 9 rfl) (by exact rfl) ?_
  refine rn_getf (v := .ref 2) fd_Wt_10 (by exact dc_Wt_load 10 rfl) (by exact rfl) (by exact rfl) ?_
  obtain ⟨d7, e6, h8⟩ := rn_bind h5
  clear h5
  refine rn_invV0 (by exact c_Dr_clear e6) iv_Wt_55 (by exact ⟨Nat.le_of_ble_eq_true rfl, Nat.le_of_ble_eq_true rfl⟩) (by exact dc_Wt_load 11 rfl) (by exact rfl) (by exact rfl) (by exact rfl) (by exact Nat.le_of_ble_eq_true rfl) ?_
  show Rn _ _ 26 [some (.ref 1), some (.int x2)] [] (emb 35 44 x d7 c u t a b3 m o [rd_cell r4]) _ _ _
  refine rn_iload_n (by exact dc_Wt_load 12 rfl) (by exact rfl) ?_
  by_cases c9 : x2 = 0
  · replace h8 := rn_ifp c9 h8
    refine rn_if_eq_t 45 (by exact dc_Wt_load 13 rfl) (by exact rfl) c9 ?_
    refine rn_aload_n (by exact dc_Wt_load 22 rfl) (by exact rfl) ?_
    refine rn_getf (v := .ref 44) fd_Wt_44 (by exact dc_Wt_load 23 rfl) (by exact rfl) (by exact rfl) ?_
    obtain ⟨⟨x11, b12⟩, e10, h13⟩ := rn_bind h8
    clear h8
    dsimp only at h13
    refine rn_invV0 (by exact c_Gr_findOrder_b e10) iv_Wt_74 (by exact ⟨Nat.le_of_ble_eq_true rfl, Nat.le_of_ble_eq_true rfl⟩) (by exact dc_Wt_load 24 rfl) (by exact rfl) (by exact rfl) (by exact rfl) (by exact Nat.le_of_ble_eq_true rfl) ?_
    show Rn _ _ 52 [some (.ref 1), some (.int x2)] [.int x11] (emb 35 44 x d7 c u t a b12 m o [rd_cell r4]) _ _ _
    by_cases c14 : ¬ x11 = 0
    · replace h13 := rn_ifp c14 h13
      refine rn_if_ne_t 65 (by exact dc_Wt_load 25 rfl) (by exact rfl) c14 ?_
      refine rn_aload_n (by exact dc_Wt_load 31 rfl) (by exact rfl) ?_
      obtain ⟨⟨c16, u17, t18⟩, e15, h19⟩ := rn_bind h13
      clear h13
      dsimp only at h19
      refine rn_invV0 (by exact c_Wt_takeSpareGrammar e15) iv_Wt_83 (by exact ⟨Nat.le_of_ble_eq_true rfl, Nat.le_of_ble_eq_true rfl⟩) (by exact dc_Wt_load 32 rfl) (by exact rfl) (by exact rfl) (by exact rfl) (by exact Nat.le_of_ble_eq_true rfl) ?_
      show Rn _ _ 69 [some (.ref 1), some (.int x2)] [] (emb 44 35 x d7 c16 u17 t18 a b12 m o [rd_cell r4]) _ _ _
      refine rn_aload_n (by exact dc_Wt_load 33 rfl) (by exact rfl) ?_
      refine rn_getf (v := .ref 44) fd_Wt_40 (by exact dc_Wt_load 34 rfl) (by exact rfl) (by exact rfl) ?_
      refine rn_getf (v := .int (G_ruleCount b12)) fd_Wt_86 (by exact dc_Wt_load 35 rfl) (by exact rfl) (by exact rfl) ?_
      cases h19
    · replace h13 := rn_ifn c14 h13
      refine rn_if_ne_f 65 (by exact dc_Wt_load 25 rfl) (by exact rfl) (Classical.not_not.mp c14) ?_
      cases h13
      exact rn_throw (ca := 0) (sa := 0) hZ ft_2 fn_0 tk_Wt_78 ti_2 ts_Wt_80 to_Wt_82 (by exact dc_Wt_load 26 rfl) (by exact dc_Wt_load 27 rfl) (by exact dc_Wt_load 28 rfl) (by exact dc_Wt_load 29 rfl) (by exact dc_Wt_load 30 rfl) cd_Wt_load (by decide) (by decide)
  · replace h8 := rn_ifn c9 h8
    refine rn_if_eq_f 45 (by exact dc_Wt_load 13 rfl) (by exact rfl) c9 ?_
    refine rn_aload_n (by exact dc_Wt_load 14 rfl) (by exact rfl) ?_
    refine rn_iload_n (by exact dc_Wt_load 15 rfl) (by exact rfl) ?_
    refine rn_putf (w2 := (emb 35 44 x2 d7 c u t a b3 m o [rd_cell r4])) fd_Wt_47 (by exact dc_Wt_load 16 rfl) (by exact rfl) (by exact rfl) (by exact Nat.le_of_ble_eq_true rfl) (by exact rfl) ?_
    simp at h8
