def F_Wt_inside (c : tC) (a : tG) (v0 : Int32) (v1 : Int32) (v2 : Int32) : Option ((Int64 ⊕ Nat)) :=
  Option.bind (F_Wt_requireNonterminal a v0) fun z2 =>
  match z2 with
  | .inr k4 => (
      if k4 = 3 then (
        some (.inr 3)
      ) else (
        none
      )
    )
  | .inl _ =>
    Option.bind (F_Wt_requirePart c v1 v2) fun z6 =>
    match z6 with
    | .inr k8 => (
        if k8 = 1 then (
          some (.inr 1)
        ) else (
          none
        )
      )
    | .inl _ =>
      Option.bind (F_Ch_cell  v0 v1 v2) fun x10 =>
      Option.bind (aG (C_sums c) 390 x10) fun x12 =>
      some (.inl x12)
set_option maxHeartbeats 4000000 in
set_option maxRecDepth 100000 in
theorem c_Wt_inside {Z : rn_Z} {x : tX} {d : tD} {c : tC} {u : tU} {t : tT} {a : tG} {b : tG} {m : tM} {o : tO} {E : List rn_C} {v0 : Int32} {v1 : Int32} {v2 : Int32} {res : Int64} (h : F_Wt_inside c a v0 v1 v2 = some (.inl res)) : Call Z M_Wt_inside [.ref 1, .int v0, .int v1, .int v2] (emb 35 44 x d c u t a b m o E) 0 0 (some (.long res)) (emb 35 44 x d c u t a b m o E) := by
  unfold F_Wt_inside at h
  refine rn_call (by decide) 0 (by exact Nat.le_of_ble_eq_true rfl) ?_
  show Rn Z M_Wt_inside 0 [some (.ref 1), some (.int v0), some (.int v1), some (.int v2)] [] (emb 35 44 x d c u t a b m o E) 0 0 _
  refine rn_aload_n (by exact dc_Wt_inside 0 rfl) (by exact rfl) ?_
  refine rn_iload_n (by exact dc_Wt_inside 1 rfl) (by exact rfl) ?_
  obtain ⟨z2, e1, h3⟩ := rn_bind h
  clear h
  rcases z2 with _ | k4
  · dsimp only at h3
    refine rn_invV (ca := 0) (sa := 0) (ca' := 0) (sa' := 0) (by exact c_Wt_requireNonterminal e1) iv_Wt_118 (by exact ⟨Nat.le_of_ble_eq_true rfl, Nat.le_of_ble_eq_true rfl⟩) (by exact dc_Wt_inside 2 rfl) (by exact rfl) (by exact rfl) (by exact rfl) (by exact Nat.le_of_ble_eq_true rfl) ?_
    show Rn _ _ 5 [some (.ref 1), some (.int v0), some (.int v1), some (.int v2)] [] (emb 35 44 x d c u t a b m o E) _ _ _
    refine rn_aload_n (by exact dc_Wt_inside 3 rfl) (by exact rfl) ?_
    refine rn_iload_n (by exact dc_Wt_inside 4 rfl) (by exact rfl) ?_
    refine rn_iload_n (by exact dc_Wt_inside 5 rfl) (by exact rfl) ?_
    obtain ⟨z6, e5, h7⟩ := rn_bind h3
    clear h3
    rcases z6 with _ | k8
    · dsimp only at h7
      refine rn_invV (ca := 0) (sa := 0) (ca' := 0) (sa' := 0) (by exact c_Wt_requirePart e5) iv_Wt_143 (by exact ⟨Nat.le_of_ble_eq_true rfl, Nat.le_of_ble_eq_true rfl⟩) (by exact dc_Wt_inside 6 rfl) (by exact rfl) (by exact rfl) (by exact rfl) (by exact Nat.le_of_ble_eq_true rfl) ?_
      show Rn _ _ 11 [some (.ref 1), some (.int v0), some (.int v1), some (.int v2)] [] (emb 35 44 x d c u t a b m o E) _ _ _
      refine rn_aload_n (by exact dc_Wt_inside 7 rfl) (by exact rfl) ?_
      refine rn_getf (v := .ref 4) fd_Wt_19 (by exact dc_Wt_inside 8 rfl) (by exact rfl) (by exact rfl) ?_
      refine rn_getf (v := .ref 5) fd_Wt_147 (by exact dc_Wt_inside 9 rfl) (by exact rfl) (by exact rfl) ?_
      refine rn_iload_n (by exact dc_Wt_inside 10 rfl) (by exact rfl) ?_
      refine rn_iload_n (by exact dc_Wt_inside 11 rfl) (by exact rfl) ?_
      refine rn_iload_n (by exact dc_Wt_inside 12 rfl) (by exact rfl) ?_
      obtain ⟨x10, e9, h11⟩ := rn_bind h7
      clear h7
      refine rn_invS0 (by exact c_Ch_cell e9) is_Wt_150 (by exact ⟨Nat.le_of_ble_eq_true rfl, Nat.le_of_ble_eq_true rfl⟩) (by exact dc_Wt_inside 13 rfl) (by exact rfl) (by exact rfl) (by exact Nat.le_of_ble_eq_true rfl) ?_
      show Rn _ _ 24 [some (.ref 1), some (.int v0), some (.int v1), some (.int v2)] [.int x10, .ref 5] (emb 35 44 x d c u t a b m o E) _ _ _
      obtain ⟨x12, e13, h14⟩ := rn_bind h11
      clear h11
      refine rn_laload (by exact dc_Wt_inside 14 rfl) (by exact rfl) e13 ?_
      cases h14
      exact rn_lreturn (by exact dc_Wt_inside 15 rfl) (by exact rfl)
    · dsimp only at h7
      by_cases c15 : k8 = 1
      · subst c15
        replace h7 := rn_ifp rfl h7
        simp at h7
      · replace h7 := rn_ifn c15 h7
        cases h7
  · dsimp only at h3
    by_cases c16 : k4 = 3
    · subst c16
      replace h3 := rn_ifp rfl h3
      simp at h3
    · replace h3 := rn_ifn c16 h3
      cases h3
set_option maxHeartbeats 4000000 in
set_option maxRecDepth 100000 in
theorem t_Wt_inside_1 {Z : rn_Z} {x : tX} {d : tD} {c : tC} {u : tU} {t : tT} {a : tG} {b : tG} {m : tM} {o : tO} {E : List rn_C} {v0 : Int32} {v1 : Int32} {v2 : Int32}  (hZ : Z.1.stackTraces = false) (h : F_Wt_inside c a v0 v1 v2 = some (.inr 1)) : CallT Z M_Wt_inside [.ref 1, .int v0, .int v1, .int v2] (emb 35 44 x d c u t a b m o E) 1 6 "java/lang/IllegalArgumentException" (emb 35 44 x d c u t a b m o E) := by
  unfold F_Wt_inside at h
  refine rn_callT (by decide) 0 (by exact Nat.le_of_ble_eq_true rfl) ?_
  show Rn Z M_Wt_inside 0 [some (.ref 1), some (.int v0), some (.int v1), some (.int v2)] [] (emb 35 44 x d c u t a b m o E) 1 6 _
  refine rn_aload_n (by exact dc_Wt_inside 0 rfl) (by exact rfl) ?_
  refine rn_iload_n (by exact dc_Wt_inside 1 rfl) (by exact rfl) ?_
  obtain ⟨z2, e1, h3⟩ := rn_bind h
  clear h
  rcases z2 with _ | k4
  · dsimp only at h3
    refine rn_invV (ca := 1) (sa := 6) (ca' := 0) (sa' := 0) (by exact c_Wt_requireNonterminal e1) iv_Wt_118 (by exact ⟨Nat.le_of_ble_eq_true rfl, Nat.le_of_ble_eq_true rfl⟩) (by exact dc_Wt_inside 2 rfl) (by exact rfl) (by exact rfl) (by exact rfl) (by exact Nat.le_of_ble_eq_true rfl) ?_
    show Rn _ _ 5 [some (.ref 1), some (.int v0), some (.int v1), some (.int v2)] [] (emb 35 44 x d c u t a b m o E) _ _ _
    refine rn_aload_n (by exact dc_Wt_inside 3 rfl) (by exact rfl) ?_
    refine rn_iload_n (by exact dc_Wt_inside 4 rfl) (by exact rfl) ?_
    refine rn_iload_n (by exact dc_Wt_inside 5 rfl) (by exact rfl) ?_
    obtain ⟨z6, e5, h7⟩ := rn_bind h3
    clear h3
    rcases z6 with _ | k8
    · dsimp only at h7
      refine rn_invV (ca := 1) (sa := 6) (ca' := 0) (sa' := 0) (by exact c_Wt_requirePart e5) iv_Wt_143 (by exact ⟨Nat.le_of_ble_eq_true rfl, Nat.le_of_ble_eq_true rfl⟩) (by exact dc_Wt_inside 6 rfl) (by exact rfl) (by exact rfl) (by exact rfl) (by exact Nat.le_of_ble_eq_true rfl) ?_
      show Rn _ _ 11 [some (.ref 1), some (.int v0), some (.int v1), some (.int v2)] [] (emb 35 44 x d c u t a b m o E) _ _ _
      refine rn_aload_n (by exact dc_Wt_inside 7 rfl) (by exact rfl) ?_
      refine rn_getf (v := .ref 4) fd_Wt_19 (by exact dc_Wt_inside 8 rfl) (by exact rfl) (by exact rfl) ?_
      refine rn_getf (v := .ref 5) fd_Wt_147 (by exact dc_Wt_inside 9 rfl) (by exact rfl) (by exact rfl) ?_
      refine rn_iload_n (by exact dc_Wt_inside 10 rfl) (by exact rfl) ?_
      refine rn_iload_n (by exact dc_Wt_inside 11 rfl) (by exact rfl) ?_
      refine rn_iload_n (by exact dc_Wt_inside 12 rfl) (by exact rfl) ?_
      obtain ⟨x10, e9, h11⟩ := rn_bind h7
      clear h7
      refine rn_invS0 (by exact c_Ch_cell e9) is_Wt_150 (by exact ⟨Nat.le_of_ble_eq_true rfl, Nat.le_of_ble_eq_true rfl⟩) (by exact dc_Wt_inside 13 rfl) (by exact rfl) (by exact rfl) (by exact Nat.le_of_ble_eq_true rfl) ?_
      show Rn _ _ 24 [some (.ref 1), some (.int v0), some (.int v1), some (.int v2)] [.int x10, .ref 5] (emb 35 44 x d c u t a b m o E) _ _ _
      obtain ⟨x12, e13, h14⟩ := rn_bind h11
      clear h11
      refine rn_laload (by exact dc_Wt_inside 14 rfl) (by exact rfl) e13 ?_
      cases h14
    · dsimp only at h7
      by_cases c15 : k8 = 1
      · subst c15
        replace h7 := rn_ifp rfl h7
        cases h7
        exact rn_invVT (by exact t_Wt_requirePart_1 hZ e5) iv_Wt_143 vl_Wt_143 (by exact ⟨Nat.le_of_ble_eq_true rfl, Nat.le_of_ble_eq_true rfl⟩) (by exact dc_Wt_inside 6 rfl) (by exact rfl) (by exact rfl) (by exact rfl) (by exact Nat.le_of_ble_eq_true rfl) cd_Wt_inside (by decide) (by decide)
      · replace h7 := rn_ifn c15 h7
        cases h7
  · dsimp only at h3
    by_cases c16 : k4 = 3
    · subst c16
      replace h3 := rn_ifp rfl h3
      simp at h3
    · replace h3 := rn_ifn c16 h3
      cases h3
set_option maxHeartbeats 4000000 in
set_option maxRecDepth 100000 in
theorem t_Wt_inside_3 {Z : rn_Z} {x : tX} {d : tD} {c : tC} {u : tU} {t : tT} {a : tG} {b : tG} {m : tM} {o : tO} {E : List rn_C} {v0 : Int32} {v1 : Int32} {v2 : Int32}  (hZ : Z.1.stackTraces = false) (h : F_Wt_inside c a v0 v1 v2 = some (.inr 3)) : CallT Z M_Wt_inside [.ref 1, .int v0, .int v1, .int v2] (emb 35 44 x d c u t a b m o E) 1 6 "java/lang/IndexOutOfBoundsException" (emb 35 44 x d c u t a b m o E) := by
  unfold F_Wt_inside at h
  refine rn_callT (by decide) 0 (by exact Nat.le_of_ble_eq_true rfl) ?_
  show Rn Z M_Wt_inside 0 [some (.ref 1), some (.int v0), some (.int v1), some (.int v2)] [] (emb 35 44 x d c u t a b m o E) 1 6 _
  refine rn_aload_n (by exact dc_Wt_inside 0 rfl) (by exact rfl) ?_
  refine rn_iload_n (by exact dc_Wt_inside 1 rfl) (by exact rfl) ?_
  obtain ⟨z2, e1, h3⟩ := rn_bind h
  clear h
  rcases z2 with _ | k4
  · dsimp only at h3
    refine rn_invV (ca := 1) (sa := 6) (ca' := 0) (sa' := 0) (by exact c_Wt_requireNonterminal e1) iv_Wt_118 (by exact ⟨Nat.le_of_ble_eq_true rfl, Nat.le_of_ble_eq_true rfl⟩) (by exact dc_Wt_inside 2 rfl) (by exact rfl) (by exact rfl) (by exact rfl) (by exact Nat.le_of_ble_eq_true rfl) ?_
    show Rn _ _ 5 [some (.ref 1), some (.int v0), some (.int v1), some (.int v2)] [] (emb 35 44 x d c u t a b m o E) _ _ _
    refine rn_aload_n (by exact dc_Wt_inside 3 rfl) (by exact rfl) ?_
    refine rn_iload_n (by exact dc_Wt_inside 4 rfl) (by exact rfl) ?_
    refine rn_iload_n (by exact dc_Wt_inside 5 rfl) (by exact rfl) ?_
    obtain ⟨z6, e5, h7⟩ := rn_bind h3
    clear h3
    rcases z6 with _ | k8
    · dsimp only at h7
      refine rn_invV (ca := 1) (sa := 6) (ca' := 0) (sa' := 0) (by exact c_Wt_requirePart e5) iv_Wt_143 (by exact ⟨Nat.le_of_ble_eq_true rfl, Nat.le_of_ble_eq_true rfl⟩) (by exact dc_Wt_inside 6 rfl) (by exact rfl) (by exact rfl) (by exact rfl) (by exact Nat.le_of_ble_eq_true rfl) ?_
      show Rn _ _ 11 [some (.ref 1), some (.int v0), some (.int v1), some (.int v2)] [] (emb 35 44 x d c u t a b m o E) _ _ _
      refine rn_aload_n (by exact dc_Wt_inside 7 rfl) (by exact rfl) ?_
      refine rn_getf (v := .ref 4) fd_Wt_19 (by exact dc_Wt_inside 8 rfl) (by exact rfl) (by exact rfl) ?_
      refine rn_getf (v := .ref 5) fd_Wt_147 (by exact dc_Wt_inside 9 rfl) (by exact rfl) (by exact rfl) ?_
      refine rn_iload_n (by exact dc_Wt_inside 10 rfl) (by exact rfl) ?_
      refine rn_iload_n (by exact dc_Wt_inside 11 rfl) (by exact rfl) ?_
      refine rn_iload_n (by exact dc_Wt_inside 12 rfl) (by exact rfl) ?_
      obtain ⟨x10, e9, h11⟩ := rn_bind h7
      clear h7
      refine rn_invS0 (by exact c_Ch_cell e9) is_Wt_150 (by exact ⟨Nat.le_of_ble_eq_true rfl, Nat.le_of_ble_eq_true rfl⟩) (by exact dc_Wt_inside 13 rfl) (by exact rfl) (by exact rfl) (by exact Nat.le_of_ble_eq_true rfl) ?_
      show Rn _ _ 24 [some (.ref 1), some (.int v0), some (.int v1), some (.int v2)] [.int x10, .ref 5] (emb 35 44 x d c u t a b m o E) _ _ _
      obtain ⟨x12, e13, h14⟩ := rn_bind h11
      clear h11
      refine rn_laload (by exact dc_Wt_inside 14 rfl) (by exact rfl) e13 ?_
      cases h14
    · dsimp only at h7
      by_cases c15 : k8 = 1
      · subst c15
        replace h7 := rn_ifp rfl h7
        simp at h7
      · replace h7 := rn_ifn c15 h7
        cases h7
  · dsimp only at h3
    by_cases c16 : k4 = 3
    · subst c16
      replace h3 := rn_ifp rfl h3
      cases h3
      exact rn_invVT (by exact t_Wt_requireNonterminal_3 hZ e1) iv_Wt_118 vl_Wt_118 (by exact ⟨Nat.le_of_ble_eq_true rfl, Nat.le_of_ble_eq_true rfl⟩) (by exact dc_Wt_inside 2 rfl) (by exact rfl) (by exact rfl) (by exact rfl) (by exact Nat.le_of_ble_eq_true rfl) cd_Wt_inside (by decide) (by decide)
    · replace h3 := rn_ifn c16 h3
      cases h3
def F_Wt_cheapest (c : tC) (a : tG) (v0 : Int32) (v1 : Int32) (v2 : Int32) : Option ((Int32 ⊕ Nat)) :=
  Option.bind (F_Wt_requireNonterminal a v0) fun z2 =>
  match z2 with
  | .inr k4 => (
      if k4 = 3 then (
        some (.inr 3)
      ) else (
        none
      )
    )
  | .inl _ =>
    Option.bind (F_Wt_requirePart c v1 v2) fun z6 =>
    match z6 with
    | .inr k8 => (
        if k8 = 1 then (
          some (.inr 1)
        ) else (
          none
        )
      )
    | .inl _ =>
      Option.bind (F_Ch_cell  v0 v1 v2) fun x10 =>
      Option.bind (aG (C_costs c) 390 x10) fun x12 =>
      some (.inl x12)
set_option maxHeartbeats 4000000 in
set_option maxRecDepth 100000 in
theorem c_Wt_cheapest {Z : rn_Z} {x : tX} {d : tD} {c : tC} {u : tU} {t : tT} {a : tG} {b : tG} {m : tM} {o : tO} {E : List rn_C} {v0 : Int32} {v1 : Int32} {v2 : Int32} {res : Int32} (h : F_Wt_cheapest c a v0 v1 v2 = some (.inl res)) : Call Z M_Wt_cheapest [.ref 1, .int v0, .int v1, .int v2] (emb 35 44 x d c u t a b m o E) 0 0 (some (.int res)) (emb 35 44 x d c u t a b m o E) := by
  unfold F_Wt_cheapest at h
  refine rn_call (by decide) 0 (by exact Nat.le_of_ble_eq_true rfl) ?_
  show Rn Z M_Wt_cheapest 0 [some (.ref 1), some (.int v0), some (.int v1), some (.int v2)] [] (emb 35 44 x d c u t a b m o E) 0 0 _
  refine rn_aload_n (by exact dc_Wt_cheapest 0 rfl) (by exact rfl) ?_
  refine rn_iload_n (by exact dc_Wt_cheapest 1 rfl) (by exact rfl) ?_
  obtain ⟨z2, e1, h3⟩ := rn_bind h
  clear h
  rcases z2 with _ | k4
  · dsimp only at h3
    refine rn_invV (ca := 0) (sa := 0) (ca' := 0) (sa' := 0) (by exact c_Wt_requireNonterminal e1) iv_Wt_118 (by exact ⟨Nat.le_of_ble_eq_true rfl, Nat.le_of_ble_eq_true rfl⟩) (by exact dc_Wt_cheapest 2 rfl) (by exact rfl) (by exact rfl) (by exact rfl) (by exact Nat.le_of_ble_eq_true rfl) ?_
    show Rn _ _ 5 [some (.ref 1), some (.int v0), some (.int v1), some (.int v2)] [] (emb 35 44 x d c u t a b m o E) _ _ _
    refine rn_aload_n (by exact dc_Wt_cheapest 3 rfl) (by exact rfl) ?_
    refine rn_iload_n (by exact dc_Wt_cheapest 4 rfl) (by exact rfl) ?_
    refine rn_iload_n (by exact dc_Wt_cheapest 5 rfl) (by exact rfl) ?_
    obtain ⟨z6, e5, h7⟩ := rn_bind h3
    clear h3
    rcases z6 with _ | k8
    · dsimp only at h7
      refine rn_invV (ca := 0) (sa := 0) (ca' := 0) (sa' := 0) (by exact c_Wt_requirePart e5) iv_Wt_143 (by exact ⟨Nat.le_of_ble_eq_true rfl, Nat.le_of_ble_eq_true rfl⟩) (by exact dc_Wt_cheapest 6 rfl) (by exact rfl) (by exact rfl) (by exact rfl) (by exact Nat.le_of_ble_eq_true rfl) ?_
      show Rn _ _ 11 [some (.ref 1), some (.int v0), some (.int v1), some (.int v2)] [] (emb 35 44 x d c u t a b m o E) _ _ _
      refine rn_aload_n (by exact dc_Wt_cheapest 7 rfl) (by exact rfl) ?_
      refine rn_getf (v := .ref 4) fd_Wt_19 (by exact dc_Wt_cheapest 8 rfl) (by exact rfl) (by exact rfl) ?_
      refine rn_getf (v := .ref 6) fd_Wt_154 (by exact dc_Wt_cheapest 9 rfl) (by exact rfl) (by exact rfl) ?_
      refine rn_iload_n (by exact dc_Wt_cheapest 10 rfl) (by exact rfl) ?_
      refine rn_iload_n (by exact dc_Wt_cheapest 11 rfl) (by exact rfl) ?_
      refine rn_iload_n (by exact dc_Wt_cheapest 12 rfl) (by exact rfl) ?_
      obtain ⟨x10, e9, h11⟩ := rn_bind h7
      clear h7
      refine rn_invS0 (by exact c_Ch_cell e9) is_Wt_150 (by exact ⟨Nat.le_of_ble_eq_true rfl, Nat.le_of_ble_eq_true rfl⟩) (by exact dc_Wt_cheapest 13 rfl) (by exact rfl) (by exact rfl) (by exact Nat.le_of_ble_eq_true rfl) ?_
      show Rn _ _ 24 [some (.ref 1), some (.int v0), some (.int v1), some (.int v2)] [.int x10, .ref 6] (emb 35 44 x d c u t a b m o E) _ _ _
      obtain ⟨x12, e13, h14⟩ := rn_bind h11
      clear h11
      refine rn_iaload (by exact dc_Wt_cheapest 14 rfl) (by exact rfl) e13 ?_
      cases h14
      exact rn_ireturn (by exact dc_Wt_cheapest 15 rfl) (by exact rfl)
    · dsimp only at h7
      by_cases c15 : k8 = 1
      · subst c15
        replace h7 := rn_ifp rfl h7
        simp at h7
      · replace h7 := rn_ifn c15 h7
        cases h7
  · dsimp only at h3
    by_cases c16 : k4 = 3
    · subst c16
      replace h3 := rn_ifp rfl h3
      simp at h3
    · replace h3 := rn_ifn c16 h3
      cases h3
set_option maxHeartbeats 4000000 in
set_option maxRecDepth 100000 in
theorem t_Wt_cheapest_1 {Z : rn_Z} {x : tX} {d : tD} {c : tC} {u : tU} {t : tT} {a : tG} {b : tG} {m : tM} {o : tO} {E : List rn_C} {v0 : Int32} {v1 : Int32} {v2 : Int32}  (hZ : Z.1.stackTraces = false) (h : F_Wt_cheapest c a v0 v1 v2 = some (.inr 1)) : CallT Z M_Wt_cheapest [.ref 1, .int v0, .int v1, .int v2] (emb 35 44 x d c u t a b m o E) 1 6 "java/lang/IllegalArgumentException" (emb 35 44 x d c u t a b m o E) := by
  unfold F_Wt_cheapest at h
  refine rn_callT (by decide) 0 (by exact Nat.le_of_ble_eq_true rfl) ?_
  show Rn Z M_Wt_cheapest 0 [some (.ref 1), some (.int v0), some (.int v1), some (.int v2)] [] (emb 35 44 x d c u t a b m o E) 1 6 _
  refine rn_aload_n (by exact dc_Wt_cheapest 0 rfl) (by exact rfl) ?_
  refine rn_iload_n (by exact dc_Wt_cheapest 1 rfl) (by exact rfl) ?_
  obtain ⟨z2, e1, h3⟩ := rn_bind h
  clear h
  rcases z2 with _ | k4
  · dsimp only at h3
    refine rn_invV (ca := 1) (sa := 6) (ca' := 0) (sa' := 0) (by exact c_Wt_requireNonterminal e1) iv_Wt_118 (by exact ⟨Nat.le_of_ble_eq_true rfl, Nat.le_of_ble_eq_true rfl⟩) (by exact dc_Wt_cheapest 2 rfl) (by exact rfl) (by exact rfl) (by exact rfl) (by exact Nat.le_of_ble_eq_true rfl) ?_
    show Rn _ _ 5 [some (.ref 1), some (.int v0), some (.int v1), some (.int v2)] [] (emb 35 44 x d c u t a b m o E) _ _ _
    refine rn_aload_n (by exact dc_Wt_cheapest 3 rfl) (by exact rfl) ?_
    refine rn_iload_n (by exact dc_Wt_cheapest 4 rfl) (by exact rfl) ?_
    refine rn_iload_n (by exact dc_Wt_cheapest 5 rfl) (by exact rfl) ?_
    obtain ⟨z6, e5, h7⟩ := rn_bind h3
    clear h3
    rcases z6 with _ | k8
    · dsimp only at h7
      refine rn_invV (ca := 1) (sa := 6) (ca' := 0) (sa' := 0) (by exact c_Wt_requirePart e5) iv_Wt_143 (by exact ⟨Nat.le_of_ble_eq_true rfl, Nat.le_of_ble_eq_true rfl⟩) (by exact dc_Wt_cheapest 6 rfl) (by exact rfl) (by exact rfl) (by exact rfl) (by exact Nat.le_of_ble_eq_true rfl) ?_
      show Rn _ _ 11 [some (.ref 1), some (.int v0), some (.int v1), some (.int v2)] [] (emb 35 44 x d c u t a b m o E) _ _ _
      refine rn_aload_n (by exact dc_Wt_cheapest 7 rfl) (by exact rfl) ?_
      refine rn_getf (v := .ref 4) fd_Wt_19 (by exact dc_Wt_cheapest 8 rfl) (by exact rfl) (by exact rfl) ?_
      refine rn_getf (v := .ref 6) fd_Wt_154 (by exact dc_Wt_cheapest 9 rfl) (by exact rfl) (by exact rfl) ?_
      refine rn_iload_n (by exact dc_Wt_cheapest 10 rfl) (by exact rfl) ?_
      refine rn_iload_n (by exact dc_Wt_cheapest 11 rfl) (by exact rfl) ?_
      refine rn_iload_n (by exact dc_Wt_cheapest 12 rfl) (by exact rfl) ?_
      obtain ⟨x10, e9, h11⟩ := rn_bind h7
      clear h7
      refine rn_invS0 (by exact c_Ch_cell e9) is_Wt_150 (by exact ⟨Nat.le_of_ble_eq_true rfl, Nat.le_of_ble_eq_true rfl⟩) (by exact dc_Wt_cheapest 13 rfl) (by exact rfl) (by exact rfl) (by exact Nat.le_of_ble_eq_true rfl) ?_
      show Rn _ _ 24 [some (.ref 1), some (.int v0), some (.int v1), some (.int v2)] [.int x10, .ref 6] (emb 35 44 x d c u t a b m o E) _ _ _
      obtain ⟨x12, e13, h14⟩ := rn_bind h11
      clear h11
      refine rn_iaload (by exact dc_Wt_cheapest 14 rfl) (by exact rfl) e13 ?_
      cases h14
    · dsimp only at h7
      by_cases c15 : k8 = 1
      · subst c15
        replace h7 := rn_ifp rfl h7
        cases h7
        exact rn_invVT (by exact t_Wt_requirePart_1 hZ e5) iv_Wt_143 vl_Wt_143 (by exact ⟨Nat.le_of_ble_eq_true rfl, Nat.le_of_ble_eq_true rfl⟩) (by exact dc_Wt_cheapest 6 rfl) (by exact rfl) (by exact rfl) (by exact rfl) (by exact Nat.le_of_ble_eq_true rfl) cd_Wt_cheapest (by decide) (by decide)
      · replace h7 := rn_ifn c15 h7
        cases h7
  · dsimp only at h3
    by_cases c16 : k4 = 3
    · subst c16
      replace h3 := rn_ifp rfl h3
      simp at h3
    · replace h3 := rn_ifn c16 h3
      cases h3
set_option maxHeartbeats 4000000 in
set_option maxRecDepth 100000 in
theorem t_Wt_cheapest_3 {Z : rn_Z} {x : tX} {d : tD} {c : tC} {u : tU} {t : tT} {a : tG} {b : tG} {m : tM} {o : tO} {E : List rn_C} {v0 : Int32} {v1 : Int32} {v2 : Int32}  (hZ : Z.1.stackTraces = false) (h : F_Wt_cheapest c a v0 v1 v2 = some (.inr 3)) : CallT Z M_Wt_cheapest [.ref 1, .int v0, .int v1, .int v2] (emb 35 44 x d c u t a b m o E) 1 6 "java/lang/IndexOutOfBoundsException" (emb 35 44 x d c u t a b m o E) := by
  unfold F_Wt_cheapest at h
  refine rn_callT (by decide) 0 (by exact Nat.le_of_ble_eq_true rfl) ?_
  show Rn Z M_Wt_cheapest 0 [some (.ref 1), some (.int v0), some (.int v1), some (.int v2)] [] (emb 35 44 x d c u t a b m o E) 1 6 _
  refine rn_aload_n (by exact dc_Wt_cheapest 0 rfl) (by exact rfl) ?_
  refine rn_iload_n (by exact dc_Wt_cheapest 1 rfl) (by exact rfl) ?_
  obtain ⟨z2, e1, h3⟩ := rn_bind h
  clear h
  rcases z2 with _ | k4
  · dsimp only at h3
    refine rn_invV (ca := 1) (sa := 6) (ca' := 0) (sa' := 0) (by exact c_Wt_requireNonterminal e1) iv_Wt_118 (by exact ⟨Nat.le_of_ble_eq_true rfl, Nat.le_of_ble_eq_true rfl⟩) (by exact dc_Wt_cheapest 2 rfl) (by exact rfl) (by exact rfl) (by exact rfl) (by exact Nat.le_of_ble_eq_true rfl) ?_
    show Rn _ _ 5 [some (.ref 1), some (.int v0), some (.int v1), some (.int v2)] [] (emb 35 44 x d c u t a b m o E) _ _ _
    refine rn_aload_n (by exact dc_Wt_cheapest 3 rfl) (by exact rfl) ?_
    refine rn_iload_n (by exact dc_Wt_cheapest 4 rfl) (by exact rfl) ?_
    refine rn_iload_n (by exact dc_Wt_cheapest 5 rfl) (by exact rfl) ?_
    obtain ⟨z6, e5, h7⟩ := rn_bind h3
    clear h3
    rcases z6 with _ | k8
    · dsimp only at h7
      refine rn_invV (ca := 1) (sa := 6) (ca' := 0) (sa' := 0) (by exact c_Wt_requirePart e5) iv_Wt_143 (by exact ⟨Nat.le_of_ble_eq_true rfl, Nat.le_of_ble_eq_true rfl⟩) (by exact dc_Wt_cheapest 6 rfl) (by exact rfl) (by exact rfl) (by exact rfl) (by exact Nat.le_of_ble_eq_true rfl) ?_
      show Rn _ _ 11 [some (.ref 1), some (.int v0), some (.int v1), some (.int v2)] [] (emb 35 44 x d c u t a b m o E) _ _ _
      refine rn_aload_n (by exact dc_Wt_cheapest 7 rfl) (by exact rfl) ?_
      refine rn_getf (v := .ref 4) fd_Wt_19 (by exact dc_Wt_cheapest 8 rfl) (by exact rfl) (by exact rfl) ?_
      refine rn_getf (v := .ref 6) fd_Wt_154 (by exact dc_Wt_cheapest 9 rfl) (by exact rfl) (by exact rfl) ?_
      refine rn_iload_n (by exact dc_Wt_cheapest 10 rfl) (by exact rfl) ?_
      refine rn_iload_n (by exact dc_Wt_cheapest 11 rfl) (by exact rfl) ?_
      refine rn_iload_n (by exact dc_Wt_cheapest 12 rfl) (by exact rfl) ?_
      obtain ⟨x10, e9, h11⟩ := rn_bind h7
      clear h7
      refine rn_invS0 (by exact c_Ch_cell e9) is_Wt_150 (by exact ⟨Nat.le_of_ble_eq_true rfl, Nat.le_of_ble_eq_true rfl⟩) (by exact dc_Wt_cheapest 13 rfl) (by exact rfl) (by exact rfl) (by exact Nat.le_of_ble_eq_true rfl) ?_
      show Rn _ _ 24 [some (.ref 1), some (.int v0), some (.int v1), some (.int v2)] [.int x10, .ref 6] (emb 35 44 x d c u t a b m o E) _ _ _
      obtain ⟨x12, e13, h14⟩ := rn_bind h11
      clear h11
      refine rn_iaload (by exact dc_Wt_cheapest 14 rfl) (by exact rfl) e13 ?_
      cases h14
    · dsimp only at h7
      by_cases c15 : k8 = 1
      · subst c15
        replace h7 := rn_ifp rfl h7
        simp at h7
      · replace h7 := rn_ifn c15 h7
        cases h7
  · dsimp only at h3
    by_cases c16 : k4 = 3
    · subst c16
      replace h3 := rn_ifp rfl h3
      cases h3
      exact rn_invVT (by exact t_Wt_requireNonterminal_3 hZ e1) iv_Wt_118 vl_Wt_118 (by exact ⟨Nat.le_of_ble_eq_true rfl, Nat.le_of_ble_eq_true rfl⟩) (by exact dc_Wt_cheapest 2 rfl) (by exact rfl) (by exact rfl) (by exact rfl) (by exact Nat.le_of_ble_eq_true rfl) cd_Wt_cheapest (by decide) (by decide)
    · replace h3 := rn_ifn c16 h3
      cases h3
def F_Wt_parse (d : tD) (c : tC) (t : tT) (a : tG)  : Option (((Int32 × tD × tC × tT) ⊕ (Nat × tD × tC × tT))) :=
  Option.bind (F_Dr_isText d ) fun x2 =>
  Option.bind (
    if x2 = 0 then (
      some (0 : Int32)
    ) else (
      Option.bind (F_Wt_hasGrammar a ) fun x10 =>
      if x10 = 0 then (
        some (0 : Int32)
      ) else (
        some (1 : Int32)
      )
    )
   : Option Int32) fun y4 =>
  Option.bind (
    if y4 = 0 then (
      some c
    ) else (
      Option.bind (F_Ch_takeText d c ) fun c19 =>
      some c19
    )
   : Option tC) fun c13 =>
  Option.bind (F_Dr_clear d ) fun d22 =>
  if ¬ x2 = 0 then (
    if ¬ y4 = 0 then (
      Option.bind (F_Tl_clear t ) fun t27 =>
      Option.bind (F_Ch_fillText c13 a ) fun c30 =>
      Option.bind (F_Ch_hasTree c30 (0 : Int32) (0 : Int32) (C_textLength c30)) fun x33 =>
      Option.bind (rn_bl x33) fun y35 =>
      some (.inl (y35, d22, c30, t27))
    ) else (
      some (.inr (2, d22, c13, t))
    )
  ) else (
    some (.inr (1, d22, c13, t))
  )
set_option maxHeartbeats 4000000 in
set_option maxRecDepth 100000 in
theorem c_Wt_parse {Z : rn_Z} {x : tX} {d : tD} {c : tC} {u : tU} {t : tT} {a : tG} {b : tG} {m : tM} {o : tO} {E : List rn_C}  {res : Int32} {d_r : tD} {c_r : tC} {t_r : tT} (h : F_Wt_parse d c t a  = some (.inl (res, d_r, c_r, t_r))) : Call Z M_Wt_parse [.ref 1] (emb 35 44 x d c u t a b m o E) 0 0 (some (.int res)) (emb 35 44 x d_r c_r u t_r a b m o E) := by
  unfold F_Wt_parse at h
  refine rn_call (by decide) 2 (by exact Nat.le_of_ble_eq_true rfl) ?_
  show Rn Z M_Wt_parse 0 [some (.ref 1), none, none] [] (emb 35 44 x d c u t a b m o E) 0 0 _
  refine rn_aload_n (by exact dc_Wt_parse 0 rfl) (by exact rfl) ?_
  refine rn_getf (v := .ref 2) fd_Wt_10 (by exact dc_Wt_parse 1 rfl) (by exact rfl) (by exact rfl) ?_
  obtain ⟨x2, e1, h3⟩ := rn_bind h
  clear h
  refine rn_invV0 (by exact c_Dr_isText e1) iv_Wt_89 (by exact ⟨Nat.le_of_ble_eq_true rfl, Nat.le_of_ble_eq_true rfl⟩) (by exact dc_Wt_parse 2 rfl) (by exact rfl) (by exact rfl) (by exact rfl) (by exact Nat.le_of_ble_eq_true rfl) ?_
  show Rn _ _ 7 [some (.ref 1), none, none] [.int x2] (emb 35 44 x d c u t a b m o E) _ _ _
  refine rn_istore_n (ls' := [some (.ref 1), some (.int x2), none]) (by exact dc_Wt_parse 3 rfl) (by decide) (by exact rfl) ?_
  refine rn_iload_n (by exact dc_Wt_parse 4 rfl) (by exact rfl) ?_
  obtain ⟨y4, e5, h7⟩ := rn_bind h3
  clear h3
  have jq6 : Rn Z M_Wt_parse 24 [some (.ref 1), some (.int x2), none] [.int y4] (emb 35 44 x d c u t a b m o E) 0 0 (rn_Ret Z (some (.int res)) (emb 35 44 x d_r c_r u t_r a b m o E)) := by
    refine rn_istore_n (ls' := [some (.ref 1), some (.int x2), some (.int y4)]) (by exact dc_Wt_parse 12 rfl) (by decide) (by exact rfl) ?_
    refine rn_iload_n (by exact dc_Wt_parse 13 rfl) (by exact rfl) ?_
    obtain ⟨c13, e14, h16⟩ := rn_bind h7
    clear h7
    have jq15 : Rn Z M_Wt_parse 40 [some (.ref 1), some (.int x2), some (.int y4)] [] (emb 35 44 x d c13 u t a b m o E) 0 0 (rn_Ret Z (some (.int res)) (emb 35 44 x d_r c_r u t_r a b m o E)) := by
      refine rn_aload_n (by exact dc_Wt_parse 20 rfl) (by exact rfl) ?_
      refine rn_getf (v := .ref 2) fd_Wt_10 (by exact dc_Wt_parse 21 rfl) (by exact rfl) (by exact rfl) ?_
      obtain ⟨d22, e21, h23⟩ := rn_bind h16
      clear h16
      refine rn_invV0 (by exact c_Dr_clear e21) iv_Wt_55 (by exact ⟨Nat.le_of_ble_eq_true rfl, Nat.le_of_ble_eq_true rfl⟩) (by exact dc_Wt_parse 22 rfl) (by exact rfl) (by exact rfl) (by exact rfl) (by exact Nat.le_of_ble_eq_true rfl) ?_
      show Rn _ _ 47 [some (.ref 1), some (.int x2), some (.int y4)] [] (emb 35 44 x d22 c13 u t a b m o E) _ _ _
      refine rn_iload_n (by exact dc_Wt_parse 23 rfl) (by exact rfl) ?_
      by_cases c24 : ¬ x2 = 0
      · replace h23 := rn_ifp c24 h23
        refine rn_if_ne_t 61 (by exact dc_Wt_parse 24 rfl) (by exact rfl) c24 ?_
        refine rn_iload_n (by exact dc_Wt_parse 30 rfl) (by exact rfl) ?_
        by_cases c25 : ¬ y4 = 0
        · replace h23 := rn_ifp c25 h23
          refine rn_if_ne_t 75 (by exact dc_Wt_parse 31 rfl) (by exact rfl) c25 ?_
          refine rn_aload_n (by exact dc_Wt_parse 37 rfl) (by exact rfl) ?_
          refine rn_getf (v := .ref 30) fd_Wt_33 (by exact dc_Wt_parse 38 rfl) (by exact rfl) (by exact rfl) ?_
          obtain ⟨t27, e26, h28⟩ := rn_bind h23
          clear h23
          refine rn_invV0 (by exact c_Tl_clear e26) iv_Wt_103 (by exact ⟨Nat.le_of_ble_eq_true rfl, Nat.le_of_ble_eq_true rfl⟩) (by exact dc_Wt_parse 39 rfl) (by exact rfl) (by exact rfl) (by exact rfl) (by exact Nat.le_of_ble_eq_true rfl) ?_
          show Rn _ _ 82 [some (.ref 1), some (.int x2), some (.int y4)] [] (emb 35 44 x d22 c13 u t27 a b m o E) _ _ _
          refine rn_aload_n (by exact dc_Wt_parse 40 rfl) (by exact rfl) ?_
          refine rn_getf (v := .ref 4) fd_Wt_19 (by exact dc_Wt_parse 41 rfl) (by exact rfl) (by exact rfl) ?_
          refine rn_aload_n (by exact dc_Wt_parse 42 rfl) (by exact rfl) ?_
          refine rn_getf (v := .ref 35) fd_Wt_40 (by exact dc_Wt_parse 43 rfl) (by exact rfl) (by exact rfl) ?_
          obtain ⟨c30, e29, h31⟩ := rn_bind h28
          clear h28
          refine rn_invV0 (by exact c_Ch_fillText e29) iv_Wt_104 (by exact ⟨Nat.le_of_ble_eq_true rfl, Nat.le_of_ble_eq_true rfl⟩) (by exact dc_Wt_parse 44 rfl) (by exact rfl) (by exact rfl) (by exact rfl) (by exact Nat.le_of_ble_eq_true rfl) ?_
          show Rn _ _ 93 [some (.ref 1), some (.int x2), some (.int y4)] [] (emb 35 44 x d22 c30 u t27 a b m o E) _ _ _
          refine rn_aload_n (by exact dc_Wt_parse 45 rfl) (by exact rfl) ?_
          refine rn_getf (v := .ref 4) fd_Wt_19 (by exact dc_Wt_parse 46 rfl) (by exact rfl) (by exact rfl) ?_
          refine rn_iconst (v := (0 : Int32)) (by exact dc_Wt_parse 47 rfl) (by decide) ?_
          refine rn_iconst (v := (0 : Int32)) (by exact dc_Wt_parse 48 rfl) (by decide) ?_
          refine rn_aload_n (by exact dc_Wt_parse 49 rfl) (by exact rfl) ?_
          refine rn_getf (v := .ref 4) fd_Wt_19 (by exact dc_Wt_parse 50 rfl) (by exact rfl) (by exact rfl) ?_
          refine rn_getf (v := .int (C_textLength c30)) fd_Wt_108 (by exact dc_Wt_parse 51 rfl) (by exact rfl) (by exact rfl) ?_
          obtain ⟨x33, e32, h34⟩ := rn_bind h31
          clear h31
          refine rn_invV0 (by exact c_Ch_hasTree e32) iv_Wt_111 (by exact ⟨Nat.le_of_ble_eq_true rfl, Nat.le_of_ble_eq_true rfl⟩) (by exact dc_Wt_parse 52 rfl) (by exact rfl) (by exact rfl) (by exact rfl) (by exact Nat.le_of_ble_eq_true rfl) ?_
          show Rn _ _ 109 [some (.ref 1), some (.int x2), some (.int y4)] [.int x33] (emb 35 44 x d22 c30 u t27 a b m o E) _ _ _
          obtain ⟨y35, e36, h38⟩ := rn_bind h34
          clear h34
          obtain ⟨rfl, hb37⟩ := rn_bl_some e36
          cases h38
          exact rn_zreturn (by exact dc_Wt_parse 53 rfl) (by exact rfl) hb37
        · replace h23 := rn_ifn c25 h23
          refine rn_if_ne_f 75 (by exact dc_Wt_parse 31 rfl) (by exact rfl) (Classical.not_not.mp c25) ?_
          cases h23
      · replace h23 := rn_ifn c24 h23
        refine rn_if_ne_f 61 (by exact dc_Wt_parse 24 rfl) (by exact rfl) (Classical.not_not.mp c24) ?_
        cases h23
    by_cases c17 : y4 = 0
    · replace e14 := rn_ifp c17 e14
      refine rn_if_eq_t 40 (by exact dc_Wt_parse 14 rfl) (by exact rfl) c17 ?_
      cases e14
      exact rn_weak _ (by repeat (first | exact rn_le_0 | apply rn_le_s | apply rn_le_x)) jq15
    · replace e14 := rn_ifn c17 e14
      refine rn_if_eq_f 40 (by exact dc_Wt_parse 14 rfl) (by exact rfl) c17 ?_
      refine rn_aload_n (by exact dc_Wt_parse 15 rfl) (by exact rfl) ?_
      refine rn_getf (v := .ref 4) fd_Wt_19 (by exact dc_Wt_parse 16 rfl) (by exact rfl) (by exact rfl) ?_
      refine rn_aload_n (by exact dc_Wt_parse 17 rfl) (by exact rfl) ?_
      refine rn_getf (v := .ref 2) fd_Wt_10 (by exact dc_Wt_parse 18 rfl) (by exact rfl) (by exact rfl) ?_
      obtain ⟨c19, e18, h20⟩ := rn_bind e14
      clear e14
      refine rn_invV0 (by exact c_Ch_takeText e18) iv_Wt_95 (by exact ⟨Nat.le_of_ble_eq_true rfl, Nat.le_of_ble_eq_true rfl⟩) (by exact dc_Wt_parse 19 rfl) (by exact rfl) (by exact rfl) (by exact rfl) (by exact Nat.le_of_ble_eq_true rfl) ?_
      show Rn _ _ 40 [some (.ref 1), some (.int x2), some (.int y4)] [] (emb 35 44 x d c19 u t a b m o E) _ _ _
      cases h20
      exact rn_weak _ (by repeat (first | exact rn_le_0 | apply rn_le_s | apply rn_le_x)) jq15
  by_cases c8 : x2 = 0
  · replace e5 := rn_ifp c8 e5
    refine rn_if_eq_t 23 (by exact dc_Wt_parse 5 rfl) (by exact rfl) c8 ?_
    refine rn_iconst (v := (0 : Int32)) (by exact dc_Wt_parse 11 rfl) (by decide) ?_
    cases e5
    exact rn_weak _ (by repeat (first | exact rn_le_0 | apply rn_le_s | apply rn_le_x)) jq6
  · replace e5 := rn_ifn c8 e5
    refine rn_if_eq_f 23 (by exact dc_Wt_parse 5 rfl) (by exact rfl) c8 ?_
    refine rn_aload_n (by exact dc_Wt_parse 6 rfl) (by exact rfl) ?_
    obtain ⟨x10, e9, h11⟩ := rn_bind e5
    clear e5
    refine rn_invV0 (by exact c_Wt_hasGrammar e9) iv_Wt_92 (by exact ⟨Nat.le_of_ble_eq_true rfl, Nat.le_of_ble_eq_true rfl⟩) (by exact dc_Wt_parse 7 rfl) (by exact rfl) (by exact rfl) (by exact rfl) (by exact Nat.le_of_ble_eq_true rfl) ?_
    show Rn _ _ 16 [some (.ref 1), some (.int x2), none] [.int x10] (emb 35 44 x d c u t a b m o E) _ _ _
    by_cases c12 : x10 = 0
    · replace h11 := rn_ifp c12 h11
      refine rn_if_eq_t 23 (by exact dc_Wt_parse 8 rfl) (by exact rfl) c12 ?_
      refine rn_iconst (v := (0 : Int32)) (by exact dc_Wt_parse 11 rfl) (by decide) ?_
      cases h11
      exact rn_weak _ (by repeat (first | exact rn_le_0 | apply rn_le_s | apply rn_le_x)) jq6
    · replace h11 := rn_ifn c12 h11
      refine rn_if_eq_f 23 (by exact dc_Wt_parse 8 rfl) (by exact rfl) c12 ?_
      refine rn_iconst (v := (1 : Int32)) (by exact dc_Wt_parse 9 rfl) (by decide) ?_
      refine rn_goto 24 (by exact dc_Wt_parse 10 rfl) (by exact rfl) ?_
      cases h11
      exact rn_weak _ (by repeat (first | exact rn_le_0 | apply rn_le_s | apply rn_le_x)) jq6
set_option maxHeartbeats 4000000 in
set_option maxRecDepth 100000 in
theorem t_Wt_parse_1 {Z : rn_Z} {x : tX} {d : tD} {c : tC} {u : tU} {t : tT} {a : tG} {b : tG} {m : tM} {o : tO} {E : List rn_C}  {d_r : tD} {c_r : tC} {t_r : tT} (hZ : Z.1.stackTraces = false) (h : F_Wt_parse d c t a  = some (.inr (1, d_r, c_r, t_r))) : CallT Z M_Wt_parse [.ref 1] (emb 35 44 x d c u t a b m o E) 1 6 "java/lang/IllegalArgumentException" (emb 35 44 x d_r c_r u t_r a b m o E) := by
  unfold F_Wt_parse at h
  refine rn_callT (by decide) 2 (by exact Nat.le_of_ble_eq_true rfl) ?_
  show Rn Z M_Wt_parse 0 [some (.ref 1), none, none] [] (emb 35 44 x d c u t a b m o E) 1 6 _
  refine rn_aload_n (by exact dc_Wt_parse 0 rfl) (by exact rfl) ?_
  refine rn_getf (v := .ref 2) fd_Wt_10 (by exact dc_Wt_parse 1 rfl) (by exact rfl) (by exact rfl) ?_
  obtain ⟨x2, e1, h3⟩ := rn_bind h
  clear h
  refine rn_invV0 (by exact c_Dr_isText e1) iv_Wt_89 (by exact ⟨Nat.le_of_ble_eq_true rfl, Nat.le_of_ble_eq_true rfl⟩) (by exact dc_Wt_parse 2 rfl) (by exact rfl) (by exact rfl) (by exact rfl) (by exact Nat.le_of_ble_eq_true rfl) ?_
  show Rn _ _ 7 [some (.ref 1), none, none] [.int x2] (emb 35 44 x d c u t a b m o E) _ _ _
  refine rn_istore_n (ls' := [some (.ref 1), some (.int x2), none]) (by exact dc_Wt_parse 3 rfl) (by decide) (by exact rfl) ?_
  refine rn_iload_n (by exact dc_Wt_parse 4 rfl) (by exact rfl) ?_
  obtain ⟨y4, e5, h7⟩ := rn_bind h3
  clear h3
  have jq6 : Rn Z M_Wt_parse 24 [some (.ref 1), some (.int x2), none] [.int y4] (emb 35 44 x d c u t a b m o E) 1 6 (rn_Thr Z "java/lang/IllegalArgumentException" (emb 35 44 x d_r c_r u t_r a b m o E)) := by
    refine rn_istore_n (ls' := [some (.ref 1), some (.int x2), some (.int y4)]) (by exact dc_Wt_parse 12 rfl) (by decide) (by exact rfl) ?_
    refine rn_iload_n (by exact dc_Wt_parse 13 rfl) (by exact rfl) ?_
    obtain ⟨c13, e14, h16⟩ := rn_bind h7
    clear h7
    have jq15 : Rn Z M_Wt_parse 40 [some (.ref 1), some (.int x2), some (.int y4)] [] (emb 35 44 x d c13 u t a b m o E) 1 6 (rn_Thr Z "java/lang/IllegalArgumentException" (emb 35 44 x d_r c_r u t_r a b m o E)) := by
      refine rn_aload_n (by exact dc_Wt_parse 20 rfl) (by exact rfl) ?_
      refine rn_getf (v := .ref 2) fd_Wt_10 (by exact dc_Wt_parse 21 rfl) (by exact rfl) (by exact rfl) ?_
      obtain ⟨d22, e21, h23⟩ := rn_bind h16
      clear h16
      refine rn_invV0 (by exact c_Dr_clear e21) iv_Wt_55 (by exact ⟨Nat.le_of_ble_eq_true rfl, Nat.le_of_ble_eq_true rfl⟩) (by exact dc_Wt_parse 22 rfl) (by exact rfl) (by exact rfl) (by exact rfl) (by exact Nat.le_of_ble_eq_true rfl) ?_
      show Rn _ _ 47 [some (.ref 1), some (.int x2), some (.int y4)] [] (emb 35 44 x d22 c13 u t a b m o E) _ _ _
      refine rn_iload_n (by exact dc_Wt_parse 23 rfl) (by exact rfl) ?_
      by_cases c24 : ¬ x2 = 0
      · replace h23 := rn_ifp c24 h23
        refine rn_if_ne_t 61 (by exact dc_Wt_parse 24 rfl) (by exact rfl) c24 ?_
        refine rn_iload_n (by exact dc_Wt_parse 30 rfl) (by exact rfl) ?_
        by_cases c25 : ¬ y4 = 0
        · replace h23 := rn_ifp c25 h23
          refine rn_if_ne_t 75 (by exact dc_Wt_parse 31 rfl) (by exact rfl) c25 ?_
          refine rn_aload_n (by exact dc_Wt_parse 37 rfl) (by exact rfl) ?_
          refine rn_getf (v := .ref 30) fd_Wt_33 (by exact dc_Wt_parse 38 rfl) (by exact rfl) (by exact rfl) ?_
          obtain ⟨t27, e26, h28⟩ := rn_bind h23
          clear h23
          refine rn_invV0 (by exact c_Tl_clear e26) iv_Wt_103 (by exact ⟨Nat.le_of_ble_eq_true rfl, Nat.le_of_ble_eq_true rfl⟩) (by exact dc_Wt_parse 39 rfl) (by exact rfl) (by exact rfl) (by exact rfl) (by exact Nat.le_of_ble_eq_true rfl) ?_
          show Rn _ _ 82 [some (.ref 1), some (.int x2), some (.int y4)] [] (emb 35 44 x d22 c13 u t27 a b m o E) _ _ _
          refine rn_aload_n (by exact dc_Wt_parse 40 rfl) (by exact rfl) ?_
          refine rn_getf (v := .ref 4) fd_Wt_19 (by exact dc_Wt_parse 41 rfl) (by exact rfl) (by exact rfl) ?_
          refine rn_aload_n (by exact dc_Wt_parse 42 rfl) (by exact rfl) ?_
          refine rn_getf (v := .ref 35) fd_Wt_40 (by exact dc_Wt_parse 43 rfl) (by exact rfl) (by exact rfl) ?_
          obtain ⟨c30, e29, h31⟩ := rn_bind h28
          clear h28
          refine rn_invV0 (by exact c_Ch_fillText e29) iv_Wt_104 (by exact ⟨Nat.le_of_ble_eq_true rfl, Nat.le_of_ble_eq_true rfl⟩) (by exact dc_Wt_parse 44 rfl) (by exact rfl) (by exact rfl) (by exact rfl) (by exact Nat.le_of_ble_eq_true rfl) ?_
          show Rn _ _ 93 [some (.ref 1), some (.int x2), some (.int y4)] [] (emb 35 44 x d22 c30 u t27 a b m o E) _ _ _
          refine rn_aload_n (by exact dc_Wt_parse 45 rfl) (by exact rfl) ?_
          refine rn_getf (v := .ref 4) fd_Wt_19 (by exact dc_Wt_parse 46 rfl) (by exact rfl) (by exact rfl) ?_
          refine rn_iconst (v := (0 : Int32)) (by exact dc_Wt_parse 47 rfl) (by decide) ?_
          refine rn_iconst (v := (0 : Int32)) (by exact dc_Wt_parse 48 rfl) (by decide) ?_
          refine rn_aload_n (by exact dc_Wt_parse 49 rfl) (by exact rfl) ?_
          refine rn_getf (v := .ref 4) fd_Wt_19 (by exact dc_Wt_parse 50 rfl) (by exact rfl) (by exact rfl) ?_
          refine rn_getf (v := .int (C_textLength c30)) fd_Wt_108 (by exact dc_Wt_parse 51 rfl) (by exact rfl) (by exact rfl) ?_
          obtain ⟨x33, e32, h34⟩ := rn_bind h31
          clear h31
          refine rn_invV0 (by exact c_Ch_hasTree e32) iv_Wt_111 (by exact ⟨Nat.le_of_ble_eq_true rfl, Nat.le_of_ble_eq_true rfl⟩) (by exact dc_Wt_parse 52 rfl) (by exact rfl) (by exact rfl) (by exact rfl) (by exact Nat.le_of_ble_eq_true rfl) ?_
          show Rn _ _ 109 [some (.ref 1), some (.int x2), some (.int y4)] [.int x33] (emb 35 44 x d22 c30 u t27 a b m o E) _ _ _
          obtain ⟨_, _, h9⟩ := rn_bind h34
          cases h9
        · replace h23 := rn_ifn c25 h23
          refine rn_if_ne_f 75 (by exact dc_Wt_parse 31 rfl) (by exact rfl) (Classical.not_not.mp c25) ?_
          simp at h23
      · replace h23 := rn_ifn c24 h23
        refine rn_if_ne_f 61 (by exact dc_Wt_parse 24 rfl) (by exact rfl) (Classical.not_not.mp c24) ?_
        cases h23
        exact rn_throw (ca := 0) (sa := 0) hZ ft_1 fn_0 tk_Wt_67 ti_1 ts_Wt_99 to_Wt_71 (by exact dc_Wt_parse 25 rfl) (by exact dc_Wt_parse 26 rfl) (by exact dc_Wt_parse 27 rfl) (by exact dc_Wt_parse 28 rfl) (by exact dc_Wt_parse 29 rfl) cd_Wt_parse (by decide) (by decide)
    by_cases c17 : y4 = 0
    · replace e14 := rn_ifp c17 e14
      refine rn_if_eq_t 40 (by exact dc_Wt_parse 14 rfl) (by exact rfl) c17 ?_
      cases e14
      exact rn_weak _ (by repeat (first | exact rn_le_0 | apply rn_le_s | apply rn_le_x)) jq15
    · replace e14 := rn_ifn c17 e14
      refine rn_if_eq_f 40 (by exact dc_Wt_parse 14 rfl) (by exact rfl) c17 ?_
      refine rn_aload_n (by exact dc_Wt_parse 15 rfl) (by exact rfl) ?_
      refine rn_getf (v := .ref 4) fd_Wt_19 (by exact dc_Wt_parse 16 rfl) (by exact rfl) (by exact rfl) ?_
      refine rn_aload_n (by exact dc_Wt_parse 17 rfl) (by exact rfl) ?_
      refine rn_getf (v := .ref 2) fd_Wt_10 (by exact dc_Wt_parse 18 rfl) (by exact rfl) (by exact rfl) ?_
      obtain ⟨c19, e18, h20⟩ := rn_bind e14
      clear e14
      refine rn_invV0 (by exact c_Ch_takeText e18) iv_Wt_95 (by exact ⟨Nat.le_of_ble_eq_true rfl, Nat.le_of_ble_eq_true rfl⟩) (by exact dc_Wt_parse 19 rfl) (by exact rfl) (by exact rfl) (by exact rfl) (by exact Nat.le_of_ble_eq_true rfl) ?_
      show Rn _ _ 40 [some (.ref 1), some (.int x2), some (.int y4)] [] (emb 35 44 x d c19 u t a b m o E) _ _ _
      cases h20
      exact rn_weak _ (by repeat (first | exact rn_le_0 | apply rn_le_s | apply rn_le_x)) jq15
  by_cases c8 : x2 = 0
  · replace e5 := rn_ifp c8 e5
    refine rn_if_eq_t 23 (by exact dc_Wt_parse 5 rfl) (by exact rfl) c8 ?_
    refine rn_iconst (v := (0 : Int32)) (by exact dc_Wt_parse 11 rfl) (by decide) ?_
    cases e5
    exact rn_weak _ (by repeat (first | exact rn_le_0 | apply rn_le_s | apply rn_le_x)) jq6
  · replace e5 := rn_ifn c8 e5
    refine rn_if_eq_f 23 (by exact dc_Wt_parse 5 rfl) (by exact rfl) c8 ?_
    refine rn_aload_n (by exact dc_Wt_parse 6 rfl) (by exact rfl) ?_
    obtain ⟨x10, e9, h11⟩ := rn_bind e5
    clear e5
    refine rn_invV0 (by exact c_Wt_hasGrammar e9) iv_Wt_92 (by exact ⟨Nat.le_of_ble_eq_true rfl, Nat.le_of_ble_eq_true rfl⟩) (by exact dc_Wt_parse 7 rfl) (by exact rfl) (by exact rfl) (by exact rfl) (by exact Nat.le_of_ble_eq_true rfl) ?_
    show Rn _ _ 16 [some (.ref 1), some (.int x2), none] [.int x10] (emb 35 44 x d c u t a b m o E) _ _ _
    by_cases c12 : x10 = 0
    · replace h11 := rn_ifp c12 h11
      refine rn_if_eq_t 23 (by exact dc_Wt_parse 8 rfl) (by exact rfl) c12 ?_
      refine rn_iconst (v := (0 : Int32)) (by exact dc_Wt_parse 11 rfl) (by decide) ?_
      cases h11
      exact rn_weak _ (by repeat (first | exact rn_le_0 | apply rn_le_s | apply rn_le_x)) jq6
    · replace h11 := rn_ifn c12 h11
      refine rn_if_eq_f 23 (by exact dc_Wt_parse 8 rfl) (by exact rfl) c12 ?_
      refine rn_iconst (v := (1 : Int32)) (by exact dc_Wt_parse 9 rfl) (by decide) ?_
      refine rn_goto 24 (by exact dc_Wt_parse 10 rfl) (by exact rfl) ?_
      cases h11
      exact rn_weak _ (by repeat (first | exact rn_le_0 | apply rn_le_s | apply rn_le_x)) jq6
set_option maxHeartbeats 4000000 in
set_option maxRecDepth 100000 in
theorem t_Wt_parse_2 {Z : rn_Z} {x : tX} {d : tD} {c : tC} {u : tU} {t : tT} {a : tG} {b : tG} {m : tM} {o : tO} {E : List rn_C}  {d_r : tD} {c_r : tC} {t_r : tT} (hZ : Z.1.stackTraces = false) (h : F_Wt_parse d c t a  = some (.inr (2, d_r, c_r, t_r))) : CallT Z M_Wt_parse [.ref 1] (emb 35 44 x d c u t a b m o E) 1 6 "java/lang/IllegalStateException" (emb 35 44 x d_r c_r u t_r a b m o E) := by
  unfold F_Wt_parse at h
  refine rn_callT (by decide) 2 (by exact Nat.le_of_ble_eq_true rfl) ?_
  show Rn Z M_Wt_parse 0 [some (.ref 1), none, none] [] (emb 35 44 x d c u t a b m o E) 1 6 _
  refine rn_aload_n (by exact dc_Wt_parse 0 rfl) (by exact rfl) ?_
  refine rn_getf (v := .ref 2) fd_Wt_10 (by exact dc_Wt_parse 1 rfl) (by exact rfl) (by exact rfl) ?_
  obtain ⟨x2, e1, h3⟩ := rn_bind h
  clear h
  refine rn_invV0 (by exact c_Dr_isText e1) iv_Wt_89 (by exact ⟨Nat.le_of_ble_eq_true rfl, Nat.le_of_ble_eq_true rfl⟩) (by exact dc_Wt_parse 2 rfl) (by exact rfl) (by exact rfl) (by exact rfl) (by exact Nat.le_of_ble_eq_true rfl) ?_
  show Rn _ _ 7 [some (.ref 1), none, none] [.int x2] (emb 35 44 x d c u t a b m o E) _ _ _
  refine rn_istore_n (ls' := [some (.ref 1), some (.int x2), none]) (by exact dc_Wt_parse 3 rfl) (by decide) (by exact rfl) ?_
  refine rn_iload_n (by exact dc_Wt_parse 4 rfl) (by exact rfl) ?_
  obtain ⟨y4, e5, h7⟩ := rn_bind h3
  clear h3
  have jq6 : Rn Z M_Wt_parse 24 [some (.ref 1), some (.int x2), none] [.int y4] (emb 35 44 x d c u t a b m o E) 1 6 (rn_Thr Z "java/lang/IllegalStateException" (emb 35 44 x d_r c_r u t_r a b m o E)) := by
    refine rn_istore_n (ls' := [some (.ref 1), some (.int x2), some (.int y4)]) (by exact dc_Wt_parse 12 rfl) (by decide) (by exact rfl) ?_
    refine rn_iload_n (by exact dc_Wt_parse 13 rfl) (by exact rfl) ?_
    obtain ⟨c13, e14, h16⟩ := rn_bind h7
    clear h7
    have jq15 : Rn Z M_Wt_parse 40 [some (.ref 1), some (.int x2), some (.int y4)] [] (emb 35 44 x d c13 u t a b m o E) 1 6 (rn_Thr Z "java/lang/IllegalStateException" (emb 35 44 x d_r c_r u t_r a b m o E)) := by
      refine rn_aload_n (by exact dc_Wt_parse 20 rfl) (by exact rfl) ?_
      refine rn_getf (v := .ref 2) fd_Wt_10 (by exact dc_Wt_parse 21 rfl) (by exact rfl) (by exact rfl) ?_
      obtain ⟨d22, e21, h23⟩ := rn_bind h16
      clear h16
      refine rn_invV0 (by exact c_Dr_clear e21) iv_Wt_55 (by exact ⟨Nat.le_of_ble_eq_true rfl, Nat.le_of_ble_eq_true rfl⟩) (by exact dc_Wt_parse 22 rfl) (by exact rfl) (by exact rfl) (by exact rfl) (by exact Nat.le_of_ble_eq_true rfl) ?_
      show Rn _ _ 47 [some (.ref 1), some (.int x2), some (.int y4)] [] (emb 35 44 x d22 c13 u t a b m o E) _ _ _
      refine rn_iload_n (by exact dc_Wt_parse 23 rfl) (by exact rfl) ?_
      by_cases c24 : ¬ x2 = 0
      · replace h23 := rn_ifp c24 h23
        refine rn_if_ne_t 61 (by exact dc_Wt_parse 24 rfl) (by exact rfl) c24 ?_
        refine rn_iload_n (by exact dc_Wt_parse 30 rfl) (by exact rfl) ?_
        by_cases c25 : ¬ y4 = 0
        · replace h23 := rn_ifp c25 h23
          refine rn_if_ne_t 75 (by exact dc_Wt_parse 31 rfl) (by exact rfl) c25 ?_
          refine rn_aload_n (by exact dc_Wt_parse 37 rfl) (by exact rfl) ?_
          refine rn_getf (v := .ref 30) fd_Wt_33 (by exact dc_Wt_parse 38 rfl) (by exact rfl) (by exact rfl) ?_
          obtain ⟨t27, e26, h28⟩ := rn_bind h23
          clear h23
          refine rn_invV0 (by exact c_Tl_clear e26) iv_Wt_103 (by exact ⟨Nat.le_of_ble_eq_true rfl, Nat.le_of_ble_eq_true rfl⟩) (by exact dc_Wt_parse 39 rfl) (by exact rfl) (by exact rfl) (by exact rfl) (by exact Nat.le_of_ble_eq_true rfl) ?_
          show Rn _ _ 82 [some (.ref 1), some (.int x2), some (.int y4)] [] (emb 35 44 x d22 c13 u t27 a b m o E) _ _ _
          refine rn_aload_n (by exact dc_Wt_parse 40 rfl) (by exact rfl) ?_
          refine rn_getf (v := .ref 4) fd_Wt_19 (by exact dc_Wt_parse 41 rfl) (by exact rfl) (by exact rfl) ?_
          refine rn_aload_n (by exact dc_Wt_parse 42 rfl) (by exact rfl) ?_
          refine rn_getf (v := .ref 35) fd_Wt_40 (by exact dc_Wt_parse 43 rfl) (by exact rfl) (by exact rfl) ?_
          obtain ⟨c30, e29, h31⟩ := rn_bind h28
          clear h28
          refine rn_invV0 (by exact c_Ch_fillText e29) iv_Wt_104 (by exact ⟨Nat.le_of_ble_eq_true rfl, Nat.le_of_ble_eq_true rfl⟩) (by exact dc_Wt_parse 44 rfl) (by exact rfl) (by exact rfl) (by exact rfl) (by exact Nat.le_of_ble_eq_true rfl) ?_
          show Rn _ _ 93 [some (.ref 1), some (.int x2), some (.int y4)] [] (emb 35 44 x d22 c30 u t27 a b m o E) _ _ _
          refine rn_aload_n (by exact dc_Wt_parse 45 rfl) (by exact rfl) ?_
          refine rn_getf (v := .ref 4) fd_Wt_19 (by exact dc_Wt_parse 46 rfl) (by exact rfl) (by exact rfl) ?_
          refine rn_iconst (v := (0 : Int32)) (by exact dc_Wt_parse 47 rfl) (by decide) ?_
          refine rn_iconst (v := (0 : Int32)) (by exact dc_Wt_parse 48 rfl) (by decide) ?_
          refine rn_aload_n (by exact dc_Wt_parse 49 rfl) (by exact rfl) ?_
          refine rn_getf (v := .ref 4) fd_Wt_19 (by exact dc_Wt_parse 50 rfl) (by exact rfl) (by exact rfl) ?_
          refine rn_getf (v := .int (C_textLength c30)) fd_Wt_108 (by exact dc_Wt_parse 51 rfl) (by exact rfl) (by exact rfl) ?_
          obtain ⟨x33, e32, h34⟩ := rn_bind h31
          clear h31
          refine rn_invV0 (by exact c_Ch_hasTree e32) iv_Wt_111 (by exact ⟨Nat.le_of_ble_eq_true rfl, Nat.le_of_ble_eq_true rfl⟩) (by exact dc_Wt_parse 52 rfl) (by exact rfl) (by exact rfl) (by exact rfl) (by exact Nat.le_of_ble_eq_true rfl) ?_
          show Rn _ _ 109 [some (.ref 1), some (.int x2), some (.int y4)] [.int x33] (emb 35 44 x d22 c30 u t27 a b m o E) _ _ _
          obtain ⟨_, _, h9⟩ := rn_bind h34
          cases h9
        · replace h23 := rn_ifn c25 h23
          refine rn_if_ne_f 75 (by exact dc_Wt_parse 31 rfl) (by exact rfl) (Classical.not_not.mp c25) ?_
          cases h23
          exact rn_throw (ca := 0) (sa := 0) hZ ft_2 fn_0 tk_Wt_78 ti_2 ts_Wt_101 to_Wt_82 (by exact dc_Wt_parse 32 rfl) (by exact dc_Wt_parse 33 rfl) (by exact dc_Wt_parse 34 rfl) (by exact dc_Wt_parse 35 rfl) (by exact dc_Wt_parse 36 rfl) cd_Wt_parse (by decide) (by decide)
      · replace h23 := rn_ifn c24 h23
        refine rn_if_ne_f 61 (by exact dc_Wt_parse 24 rfl) (by exact rfl) (Classical.not_not.mp c24) ?_
        simp at h23
    by_cases c17 : y4 = 0
    · replace e14 := rn_ifp c17 e14
      refine rn_if_eq_t 40 (by exact dc_Wt_parse 14 rfl) (by exact rfl) c17 ?_
      cases e14
      exact rn_weak _ (by repeat (first | exact rn_le_0 | apply rn_le_s | apply rn_le_x)) jq15
    · replace e14 := rn_ifn c17 e14
      refine rn_if_eq_f 40 (by exact dc_Wt_parse 14 rfl) (by exact rfl) c17 ?_
      refine rn_aload_n (by exact dc_Wt_parse 15 rfl) (by exact rfl) ?_
      refine rn_getf (v := .ref 4) fd_Wt_19 (by exact dc_Wt_parse 16 rfl) (by exact rfl) (by exact rfl) ?_
      refine rn_aload_n (by exact dc_Wt_parse 17 rfl) (by exact rfl) ?_
      refine rn_getf (v := .ref 2) fd_Wt_10 (by exact dc_Wt_parse 18 rfl) (by exact rfl) (by exact rfl) ?_
      obtain ⟨c19, e18, h20⟩ := rn_bind e14
      clear e14
      refine rn_invV0 (by exact c_Ch_takeText e18) iv_Wt_95 (by exact ⟨Nat.le_of_ble_eq_true rfl, Nat.le_of_ble_eq_true rfl⟩) (by exact dc_Wt_parse 19 rfl) (by exact rfl) (by exact rfl) (by exact rfl) (by exact Nat.le_of_ble_eq_true rfl) ?_
      show Rn _ _ 40 [some (.ref 1), some (.int x2), some (.int y4)] [] (emb 35 44 x d c19 u t a b m o E) _ _ _
      cases h20
      exact rn_weak _ (by repeat (first | exact rn_le_0 | apply rn_le_s | apply rn_le_x)) jq15
  by_cases c8 : x2 = 0
  · replace e5 := rn_ifp c8 e5
    refine rn_if_eq_t 23 (by exact dc_Wt_parse 5 rfl) (by exact rfl) c8 ?_
    refine rn_iconst (v := (0 : Int32)) (by exact dc_Wt_parse 11 rfl) (by decide) ?_
    cases e5
    exact rn_weak _ (by repeat (first | exact rn_le_0 | apply rn_le_s | apply rn_le_x)) jq6
  · replace e5 := rn_ifn c8 e5
    refine rn_if_eq_f 23 (by exact dc_Wt_parse 5 rfl) (by exact rfl) c8 ?_
    refine rn_aload_n (by exact dc_Wt_parse 6 rfl) (by exact rfl) ?_
    obtain ⟨x10, e9, h11⟩ := rn_bind e5
    clear e5
    refine rn_invV0 (by exact c_Wt_hasGrammar e9) iv_Wt_92 (by exact ⟨Nat.le_of_ble_eq_true rfl, Nat.le_of_ble_eq_true rfl⟩) (by exact dc_Wt_parse 7 rfl) (by exact rfl) (by exact rfl) (by exact rfl) (by exact Nat.le_of_ble_eq_true rfl) ?_
    show Rn _ _ 16 [some (.ref 1), some (.int x2), none] [.int x10] (emb 35 44 x d c u t a b m o E) _ _ _
    by_cases c12 : x10 = 0
    · replace h11 := rn_ifp c12 h11
      refine rn_if_eq_t 23 (by exact dc_Wt_parse 8 rfl) (by exact rfl) c12 ?_
      refine rn_iconst (v := (0 : Int32)) (by exact dc_Wt_parse 11 rfl) (by decide) ?_
      cases h11
      exact rn_weak _ (by repeat (first | exact rn_le_0 | apply rn_le_s | apply rn_le_x)) jq6
    · replace h11 := rn_ifn c12 h11
      refine rn_if_eq_f 23 (by exact dc_Wt_parse 8 rfl) (by exact rfl) c12 ?_
      refine rn_iconst (v := (1 : Int32)) (by exact dc_Wt_parse 9 rfl) (by decide) ?_
      refine rn_goto 24 (by exact dc_Wt_parse 10 rfl) (by exact rfl) ?_
      cases h11
      exact rn_weak _ (by repeat (first | exact rn_le_0 | apply rn_le_s | apply rn_le_x)) jq6
