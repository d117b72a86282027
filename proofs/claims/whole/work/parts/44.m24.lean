set_option maxHeartbeats 4000000 in
set_option maxRecDepth 100000 in
theorem c_Wt_requireNonterminal {Z : rn_Z} {x : tX} {d : tD} {c : tC} {u : tU} {t : tT} {a : tG} {b : tG} {m : tM} {o : tO} {E : List rn_C} {v0 : Int32}  (h : F_Wt_requireNonterminal a v0 = some (.inl ())) : Call Z M_Wt_requireNonterminal [.ref 1, .int v0] (emb 35 44 x d c u t a b m o E) 0 0 none (emb 35 44 x d c u t a b m o E) := by
  unfold F_Wt_requireNonterminal at h
  refine rn_call (by decide) 0 (by exact Nat.le_of_ble_eq_true rfl) ?_
  show Rn Z M_Wt_requireNonterminal 0 [some (.ref 1), some (.int v0)] [] (emb 35 44 x d c u t a b m o E) 0 0 _
  refine rn_iload_n (by exact dc_Wt_requireNonterminal 0 rfl) (by exact rfl) ?_
  by_cases c1 : v0 < 0
  · replace h := rn_ifp c1 h
    refine rn_if_lt_t 15 (by exact dc_Wt_requireNonterminal 1 rfl) (by exact rfl) c1 ?_
    cases h
  · replace h := rn_ifn c1 h
    refine rn_if_lt_f 15 (by exact dc_Wt_requireNonterminal 1 rfl) (by exact rfl) c1 ?_
    refine rn_iload_n (by exact dc_Wt_requireNonterminal 2 rfl) (by exact rfl) ?_
    refine rn_aload_n (by exact dc_Wt_requireNonterminal 3 rfl) (by exact rfl) ?_
    refine rn_getf (v := .ref 35) fd_Wt_40 (by exact dc_Wt_requireNonterminal 4 rfl) (by exact rfl) (by exact rfl) ?_
    refine rn_getf (v := .int (G_nonterminalCount a)) fd_Wt_115 (by exact dc_Wt_requireNonterminal 5 rfl) (by exact rfl) (by exact rfl) ?_
    by_cases c2 : v0 < (G_nonterminalCount a)
    · replace h := rn_ifp c2 h
      refine rn_icmp_lt_t 25 (by exact dc_Wt_requireNonterminal 6 rfl) (by exact rfl) c2 ?_
      cases h
      exact rn_return (by exact dc_Wt_requireNonterminal 12 rfl) (by exact rfl)
    · replace h := rn_ifn c2 h
      refine rn_icmp_lt_f 25 (by exact dc_Wt_requireNonterminal 6 rfl) (by exact rfl) c2 ?_
      cases h
set_option maxHeartbeats 4000000 in
set_option maxRecDepth 100000 in
theorem t_Wt_requireNonterminal_3 {Z : rn_Z} {x : tX} {d : tD} {c : tC} {u : tU} {t : tT} {a : tG} {b : tG} {m : tM} {o : tO} {E : List rn_C} {v0 : Int32}  (hZ : Z.1.stackTraces = false) (h : F_Wt_requireNonterminal a v0 = some (.inr 3)) : CallT Z M_Wt_requireNonterminal [.ref 1, .int v0] (emb 35 44 x d c u t a b m o E) 1 6 "java/lang/IndexOutOfBoundsException" (emb 35 44 x d c u t a b m o E) := by
  unfold F_Wt_requireNonterminal at h
  refine rn_callT (by decide) 0 (by exact Nat.le_of_ble_eq_true rfl) ?_
  show Rn Z M_Wt_requireNonterminal 0 [some (.ref 1), some (.int v0)] [] (emb 35 44 x d c u t a b m o E) 1 6 _
  refine rn_iload_n (by exact dc_Wt_requireNonterminal 0 rfl) (by exact rfl) ?_
  by_cases c1 : v0 < 0
  · replace h := rn_ifp c1 h
    refine rn_if_lt_t 15 (by exact dc_Wt_requireNonterminal 1 rfl) (by exact rfl) c1 ?_
    cases h
    exact rn_throw (ca := 0) (sa := 0) hZ ft_3 fn_0 tk_Wt_126 ti_3 ts_Wt_191 to_Wt_130 (by exact dc_Wt_requireNonterminal 7 rfl) (by exact dc_Wt_requireNonterminal 8 rfl) (by exact dc_Wt_requireNonterminal 9 rfl) (by exact dc_Wt_requireNonterminal 10 rfl) (by exact dc_Wt_requireNonterminal 11 rfl) cd_Wt_requireNonterminal (by decide) (by decide)
  · replace h := rn_ifn c1 h
    refine rn_if_lt_f 15 (by exact dc_Wt_requireNonterminal 1 rfl) (by exact rfl) c1 ?_
    refine rn_iload_n (by exact dc_Wt_requireNonterminal 2 rfl) (by exact rfl) ?_
    refine rn_aload_n (by exact dc_Wt_requireNonterminal 3 rfl) (by exact rfl) ?_
    refine rn_getf (v := .ref 35) fd_Wt_40 (by exact dc_Wt_requireNonterminal 4 rfl) (by exact rfl) (by exact rfl) ?_
    refine rn_getf (v := .int (G_nonterminalCount a)) fd_Wt_115 (by exact dc_Wt_requireNonterminal 5 rfl) (by exact rfl) (by exact rfl) ?_
    by_cases c2 : v0 < (G_nonterminalCount a)
    · replace h := rn_ifp c2 h
      refine rn_icmp_lt_t 25 (by exact dc_Wt_requireNonterminal 6 rfl) (by exact rfl) c2 ?_
      cases h
    · replace h := rn_ifn c2 h
      refine rn_icmp_lt_f 25 (by exact dc_Wt_requireNonterminal 6 rfl) (by exact rfl) c2 ?_
      cases h
      exact rn_throw (ca := 0) (sa := 0) hZ ft_3 fn_0 tk_Wt_126 ti_3 ts_Wt_191 to_Wt_130 (by exact dc_Wt_requireNonterminal 7 rfl) (by exact dc_Wt_requireNonterminal 8 rfl) (by exact dc_Wt_requireNonterminal 9 rfl) (by exact dc_Wt_requireNonterminal 10 rfl) (by exact dc_Wt_requireNonterminal 11 rfl) cd_Wt_requireNonterminal (by decide) (by decide)
set_option maxHeartbeats 4000000 in
set_option maxRecDepth 100000 in
theorem c_Wt_requirePart {Z : rn_Z} {x : tX} {d : tD} {c : tC} {u : tU} {t : tT} {a : tG} {b : tG} {m : tM} {o : tO} {E : List rn_C} {v0 : Int32} {v1 : Int32}  (h : F_Wt_requirePart c v0 v1 = some (.inl ())) : Call Z M_Wt_requirePart [.ref 1, .int v0, .int v1] (emb 35 44 x d c u t a b m o E) 0 0 none (emb 35 44 x d c u t a b m o E) := by
  unfold F_Wt_requirePart at h
  refine rn_call (by decide) 0 (by exact Nat.le_of_ble_eq_true rfl) ?_
  show Rn Z M_Wt_requirePart 0 [some (.ref 1), some (.int v0), some (.int v1)] [] (emb 35 44 x d c u t a b m o E) 0 0 _
  refine rn_iload_n (by exact dc_Wt_requirePart 0 rfl) (by exact rfl) ?_
  by_cases c1 : v0 < 0
  · replace h := rn_ifp c1 h
    refine rn_if_lt_t 20 (by exact dc_Wt_requirePart 1 rfl) (by exact rfl) c1 ?_
    cases h
  · replace h := rn_ifn c1 h
    refine rn_if_lt_f 20 (by exact dc_Wt_requirePart 1 rfl) (by exact rfl) c1 ?_
    refine rn_iload_n (by exact dc_Wt_requirePart 2 rfl) (by exact rfl) ?_
    refine rn_iload_n (by exact dc_Wt_requirePart 3 rfl) (by exact rfl) ?_
    by_cases c2 : v1 < v0
    · replace h := rn_ifp c2 h
      refine rn_icmp_gt_t 20 (by exact dc_Wt_requirePart 4 rfl) (by exact rfl) c2 ?_
      cases h
    · replace h := rn_ifn c2 h
      refine rn_icmp_gt_f 20 (by exact dc_Wt_requirePart 4 rfl) (by exact rfl) c2 ?_
      refine rn_iload_n (by exact dc_Wt_requirePart 5 rfl) (by exact rfl) ?_
      refine rn_aload_n (by exact dc_Wt_requirePart 6 rfl) (by exact rfl) ?_
      refine rn_getf (v := .ref 4) fd_Wt_19 (by exact dc_Wt_requirePart 7 rfl) (by exact rfl) (by exact rfl) ?_
      refine rn_getf (v := .int (C_textLength c)) fd_Wt_108 (by exact dc_Wt_requirePart 8 rfl) (by exact rfl) (by exact rfl) ?_
      by_cases c3 : v1 ≤ (C_textLength c)
      · replace h := rn_ifp c3 h
        refine rn_icmp_le_t 30 (by exact dc_Wt_requirePart 9 rfl) (by exact rfl) c3 ?_
        cases h
        exact rn_return (by exact dc_Wt_requirePart 15 rfl) (by exact rfl)
      · replace h := rn_ifn c3 h
        refine rn_icmp_le_f 30 (by exact dc_Wt_requirePart 9 rfl) (by exact rfl) c3 ?_
        cases h
set_option maxHeartbeats 4000000 in
set_option maxRecDepth 100000 in
theorem t_Wt_requirePart_1 {Z : rn_Z} {x : tX} {d : tD} {c : tC} {u : tU} {t : tT} {a : tG} {b : tG} {m : tM} {o : tO} {E : List rn_C} {v0 : Int32} {v1 : Int32}  (hZ : Z.1.stackTraces = false) (h : F_Wt_requirePart c v0 v1 = some (.inr 1)) : CallT Z M_Wt_requirePart [.ref 1, .int v0, .int v1] (emb 35 44 x d c u t a b m o E) 1 6 "java/lang/IllegalArgumentException" (emb 35 44 x d c u t a b m o E) := by
  unfold F_Wt_requirePart at h
  refine rn_callT (by decide) 0 (by exact Nat.le_of_ble_eq_true rfl) ?_
  show Rn Z M_Wt_requirePart 0 [some (.ref 1), some (.int v0), some (.int v1)] [] (emb 35 44 x d c u t a b m o E) 1 6 _
  refine rn_iload_n (by exact dc_Wt_requirePart 0 rfl) (by exact rfl) ?_
  by_cases c1 : v0 < 0
  · replace h := rn_ifp c1 h
    refine rn_if_lt_t 20 (by exact dc_Wt_requirePart 1 rfl) (by exact rfl) c1 ?_
    cases h
    exact rn_throw (ca := 0) (sa := 0) hZ ft_1 fn_0 tk_Wt_67 ti_1 ts_Wt_193 to_Wt_71 (by exact dc_Wt_requirePart 10 rfl) (by exact dc_Wt_requirePart 11 rfl) (by exact dc_Wt_requirePart 12 rfl) (by exact dc_Wt_requirePart 13 rfl) (by exact dc_Wt_requirePart 14 rfl) cd_Wt_requirePart (by decide) (by decide)
  · replace h := rn_ifn c1 h
    refine rn_if_lt_f 20 (by exact dc_Wt_requirePart 1 rfl) (by exact rfl) c1 ?_
    refine rn_iload_n (by exact dc_Wt_requirePart 2 rfl) (by exact rfl) ?_
    refine rn_iload_n (by exact dc_Wt_requirePart 3 rfl) (by exact rfl) ?_
    by_cases c2 : v1 < v0
    · replace h := rn_ifp c2 h
      refine rn_icmp_gt_t 20 (by exact dc_Wt_requirePart 4 rfl) (by exact rfl) c2 ?_
      cases h
      exact rn_throw (ca := 0) (sa := 0) hZ ft_1 fn_0 tk_Wt_67 ti_1 ts_Wt_193 to_Wt_71 (by exact dc_Wt_requirePart 10 rfl) (by exact dc_Wt_requirePart 11 rfl) (by exact dc_Wt_requirePart 12 rfl) (by exact dc_Wt_requirePart 13 rfl) (by exact dc_Wt_requirePart 14 rfl) cd_Wt_requirePart (by decide) (by decide)
    · replace h := rn_ifn c2 h
      refine rn_icmp_gt_f 20 (by exact dc_Wt_requirePart 4 rfl) (by exact rfl) c2 ?_
      refine rn_iload_n (by exact dc_Wt_requirePart 5 rfl) (by exact rfl) ?_
      refine rn_aload_n (by exact dc_Wt_requirePart 6 rfl) (by exact rfl) ?_
      refine rn_getf (v := .ref 4) fd_Wt_19 (by exact dc_Wt_requirePart 7 rfl) (by exact rfl) (by exact rfl) ?_
      refine rn_getf (v := .int (C_textLength c)) fd_Wt_108 (by exact dc_Wt_requirePart 8 rfl) (by exact rfl) (by exact rfl) ?_
      by_cases c3 : v1 ≤ (C_textLength c)
      · replace h := rn_ifp c3 h
        refine rn_icmp_le_t 30 (by exact dc_Wt_requirePart 9 rfl) (by exact rfl) c3 ?_
        cases h
      · replace h := rn_ifn c3 h
        refine rn_icmp_le_f 30 (by exact dc_Wt_requirePart 9 rfl) (by exact rfl) c3 ?_
        cases h
        exact rn_throw (ca := 0) (sa := 0) hZ ft_1 fn_0 tk_Wt_67 ti_1 ts_Wt_193 to_Wt_71 (by exact dc_Wt_requirePart 10 rfl) (by exact dc_Wt_requirePart 11 rfl) (by exact dc_Wt_requirePart 12 rfl) (by exact dc_Wt_requirePart 13 rfl) (by exact dc_Wt_requirePart 14 rfl) cd_Wt_requirePart (by decide) (by decide)
set_option maxHeartbeats 4000000 in
set_option maxRecDepth 100000 in
theorem c_Wt_requireNonterminal {Z : rn_Z} {x : tX} {d : tD} {c : tC} {u : tU} {t : tT} {a : tG} {b : tG} {m : tM} {o : tO} {E : List rn_C} {v0 : Int32}  (h : F_Wt_requireNonterminal a v0 = some (.inl ())) : Call Z M_Wt_requireNonterminal [.ref 1, .int v0] (emb 35 44 x d c u t a b m o E) 0 0 none (emb 35 44 x d c u t a b m o E) := by
  unfold F_Wt_requireNonterminal at h
  refine rn_call (by decide) 0 (by exact Nat.le_of_ble_eq_true rfl) ?_
  show Rn Z M_Wt_requireNonterminal 0 [some (.ref 1), some (.int v0)] [] (emb 35 44 x d c u t a b m o E) 0 0 _
  refine rn_iload_n (by exact dc_Wt_requireNonterminal 0 rfl) (by exact rfl) ?_
  by_cases c1 : v0 < 0
  · replace h := rn_ifp c1 h
    refine rn_if_lt_t 15 (by exact dc_Wt_requireNonterminal 1 rfl) (by exact rfl) c1 ?_
    cases h
  · replace h := rn_ifn c1 h
    refine rn_if_lt_f 15 (by exact dc_Wt_requireNonterminal 1 rfl) (by exact rfl) c1 ?_
    refine rn_iload_n (by exact dc_Wt_requireNonterminal 2 rfl) (by exact rfl) ?_
    refine rn_aload_n (by exact dc_Wt_requireNonterminal 3 rfl) (by exact rfl) ?_
    refine rn_getf (v := .ref 35) fd_Wt_40 (by exact dc_Wt_requireNonterminal 4 rfl) (by exact rfl) (by exact rfl) ?_
    refine rn_getf (v := .int (G_nonterminalCount a)) fd_Wt_115 (by exact dc_Wt_requireNonterminal 5 rfl) (by exact rfl) (by exact rfl) ?_
    by_cases c2 : v0 < (G_nonterminalCount a)
    · replace h := rn_ifp c2 h
      refine rn_icmp_lt_t 25 (by exact dc_Wt_requireNonterminal 6 rfl) (by exact rfl) c2 ?_
      cases h
      exact rn_return (by exact dc_Wt_requireNonterminal 12 rfl) (by exact rfl)
    · replace h := rn_ifn c2 h
      refine rn_icmp_lt_f 25 (by exact dc_Wt_requireNonterminal 6 rfl) (by exact rfl) c2 ?_
      cases h
set_option maxHeartbeats 4000000 in
set_option maxRecDepth 100000 in
theorem t_Wt_requireNonterminal_3 {Z : rn_Z} {x : tX} {d : tD} {c : tC} {u : tU} {t : tT} {a : tG} {b : tG} {m : tM} {o : tO} {E : List rn_C} {v0 : Int32}  (hZ : Z.1.stackTraces = false) (h : F_Wt_requireNonterminal a v0 = some (.inr 3)) : CallT Z M_Wt_requireNonterminal [.ref 1, .int v0] (emb 35 44 x d c u t a b m o E) 1 6 "java/lang/IndexOutOfBoundsException" (emb 35 44 x d c u t a b m o E) := by
  unfold F_Wt_requireNonterminal at h
  refine rn_callT (by decide) 0 (by exact Nat.le_of_ble_eq_true rfl) ?_
  show Rn Z M_Wt_requireNonterminal 0 [some (.ref 1), some (.int v0)] [] (emb 35 44 x d c u t a b m o E) 1 6 _
  refine rn_iload_n (by exact dc_Wt_requireNonterminal 0 rfl) (by exact rfl) ?_
  by_cases c1 : v0 < 0
  · replace h := rn_ifp c1 h
    refine rn_if_lt_t 15 (by exact dc_Wt_requireNonterminal 1 rfl) (by exact rfl) c1 ?_
    cases h
    exact rn_throw (ca := 0) (sa := 0) hZ ft_3 fn_0 tk_Wt_126 ti_3 ts_Wt_191 to_Wt_130 (by exact dc_Wt_requireNonterminal 7 rfl) (by exact dc_Wt_requireNonterminal 8 rfl) (by exact dc_Wt_requireNonterminal 9 rfl) (by exact dc_Wt_requireNonterminal 10 rfl) (by exact dc_Wt_requireNonterminal 11 rfl) cd_Wt_requireNonterminal (by decide) (by decide)
  · replace h := rn_ifn c1 h
    refine rn_if_lt_f 15 (by exact dc_Wt_requireNonterminal 1 rfl) (by exact rfl) c1 ?_
    refine rn_iload_n (by exact dc_Wt_requireNonterminal 2 rfl) (by exact rfl) ?_
    refine rn_aload_n (by exact dc_Wt_requireNonterminal 3 rfl) (by exact rfl) ?_
    refine rn_getf (v := .ref 35) fd_Wt_40 (by exact dc_Wt_requireNonterminal 4 rfl) (by exact rfl) (by exact rfl) ?_
    refine rn_getf (v := .int (G_nonterminalCount a)) fd_Wt_115 (by exact dc_Wt_requireNonterminal 5 rfl) (by exact rfl) (by exact rfl) ?_
    by_cases c2 : v0 < (G_nonterminalCount a)
    · replace h := rn_ifp c2 h
      refine rn_icmp_lt_t 25 (by exact dc_Wt_requireNonterminal 6 rfl) (by exact rfl) c2 ?_
      cases h
    · replace h := rn_ifn c2 h
      refine rn_icmp_lt_f 25 (by exact dc_Wt_requireNonterminal 6 rfl) (by exact rfl) c2 ?_
      cases h
      exact rn_throw (ca := 0) (sa := 0) hZ ft_3 fn_0 tk_Wt_126 ti_3 ts_Wt_191 to_Wt_130 (by exact dc_Wt_requireNonterminal 7 rfl) (by exact dc_Wt_requireNonterminal 8 rfl) (by exact dc_Wt_requireNonterminal 9 rfl) (by exact dc_Wt_requireNonterminal 10 rfl) (by exact dc_Wt_requireNonterminal 11 rfl) cd_Wt_requireNonterminal (by decide) (by decide)
set_option maxHeartbeats 4000000 in
set_option maxRecDepth 100000 in
theorem c_Wt_requirePart {Z : rn_Z} {x : tX} {d : tD} {c : tC} {u : tU} {t : tT} {a : tG} {b : tG} {m : tM} {o : tO} {E : List rn_C} {v0 : Int32} {v1 : Int32}  (h : F_Wt_requirePart c v0 v1 = some (.inl ())) : Call Z M_Wt_requirePart [.ref 1, .int v0, .int v1] (emb 35 44 x d c u t a b m o E) 0 0 none (emb 35 44 x d c u t a b m o E) := by
  unfold F_Wt_requirePart at h
  refine rn_call (by decide) 0 (by exact Nat.le_of_ble_eq_true rfl) ?_
  show Rn Z M_Wt_requirePart 0 [some (.ref 1), some (.int v0), some (.int v1)] [] (emb 35 44 x d c u t a b m o E) 0 0 _
  refine rn_iload_n (by exact dc_Wt_requirePart 0 rfl) (by exact rfl) ?_
  by_cases c1 : v0 < 0
  · replace h := rn_ifp c1 h
    refine rn_if_lt_t 20 (by exact dc_Wt_requirePart 1 rfl) (by exact rfl) c1 ?_
    cases h
  · replace h := rn_ifn c1 h
    refine rn_if_lt_f 20 (by exact dc_Wt_requirePart 1 rfl) (by exact rfl) c1 ?_
    refine rn_iload_n (by exact dc_Wt_requirePart 2 rfl) (by exact rfl) ?_
    refine rn_iload_n (by exact dc_Wt_requirePart 3 rfl) (by exact rfl) ?_
    by_cases c2 : v1 < v0
    · replace h := rn_ifp c2 h
      refine rn_icmp_gt_t 20 (by exact dc_Wt_requirePart 4 rfl) (by exact rfl) c2 ?_
      cases h
    · replace h := rn_ifn c2 h
      refine rn_icmp_gt_f 20 (by exact dc_Wt_requirePart 4 rfl) (by exact rfl) c2 ?_
      refine rn_iload_n (by exact dc_Wt_requirePart 5 rfl) (by exact rfl) ?_
      refine rn_aload_n (by exact dc_Wt_requirePart 6 rfl) (by exact rfl) ?_
      refine rn_getf (v := .ref 4) fd_Wt_19 (by exact dc_Wt_requirePart 7 rfl) (by exact rfl) (by exact rfl) ?_
      refine rn_getf (v := .int (C_textLength c)) fd_Wt_108 (by exact dc_Wt_requirePart 8 rfl) (by exact rfl) (by exact rfl) ?_
      by_cases c3 : v1 ≤ (C_textLength c)
      · replace h := rn_ifp c3 h
        refine rn_icmp_le_t 30 (by exact dc_Wt_requirePart 9 rfl) (by exact rfl) c3 ?_
        cases h
        exact rn_return (by exact dc_Wt_requirePart 15 rfl) (by exact rfl)
      · replace h := rn_ifn c3 h
        refine rn_icmp_le_f 30 (by exact dc_Wt_requirePart 9 rfl) (by exact rfl) c3 ?_
        cases h
set_option maxHeartbeats 4000000 in
set_option maxRecDepth 100000 in
theorem t_Wt_requirePart_1 {Z : rn_Z} {x : tX} {d : tD} {c : tC} {u : tU} {t : tT} {a : tG} {b : tG} {m : tM} {o : tO} {E : List rn_C} {v0 : Int32} {v1 : Int32}  (hZ : Z.1.stackTraces = false) (h : F_Wt_requirePart c v0 v1 = some (.inr 1)) : CallT Z M_Wt_requirePart [.ref 1, .int v0, .int v1] (emb 35 44 x d c u t a b m o E) 1 6 "java/lang/IllegalArgumentException" (emb 35 44 x d c u t a b m o E) := by
  unfold F_Wt_requirePart at h
  refine rn_callT (by decide) 0 (by exact Nat.le_of_ble_eq_true rfl) ?_
  show Rn Z M_Wt_requirePart 0 [some (.ref 1), some (.int v0), some (.int v1)] [] (emb 35 44 x d c u t a b m o E) 1 6 _
  refine rn_iload_n (by exact dc_Wt_requirePart 0 rfl) (by exact rfl) ?_
  by_cases c1 : v0 < 0
  · replace h := rn_ifp c1 h
    refine rn_if_lt_t 20 (by exact dc_Wt_requirePart 1 rfl) (by exact rfl) c1 ?_
    cases h
    exact rn_throw (ca := 0) (sa := 0) hZ ft_1 fn_0 tk_Wt_67 ti_1 ts_Wt_193 to_Wt_71 (by exact dc_Wt_requirePart 10 rfl) (by exact dc_Wt_requirePart 11 rfl) (by exact dc_Wt_requirePart 12 rfl) (by exact dc_Wt_requirePart 13 rfl) (by exact dc_Wt_requirePart 14 rfl) cd_Wt_requirePart (by decide) (by decide)
  · replace h := rn_ifn c1 h
    refine rn_if_lt_f 20 (by exact dc_Wt_requirePart 1 rfl) (by exact rfl) c1 ?_
    refine rn_iload_n (by exact dc_Wt_requirePart 2 rfl) (by exact rfl) ?_
    refine rn_iload_n (by exact dc_Wt_requirePart 3 rfl) (by exact rfl) ?_
    by_cases c2 : v1 < v0
    · replace h := rn_ifp c2 h
      refine rn_icmp_gt_t 20 (by exact dc_Wt_requirePart 4 rfl) (by exact rfl) c2 ?_
      cases h
      exact rn_throw (ca := 0) (sa := 0) hZ ft_1 fn_0 tk_Wt_67 ti_1 ts_Wt_193 to_Wt_71 (by exact dc_Wt_requirePart 10 rfl) (by exact dc_Wt_requirePart 11 rfl) (by exact dc_Wt_requirePart 12 rfl) (by exact dc_Wt_requirePart 13 rfl) (by exact dc_Wt_requirePart 14 rfl) cd_Wt_requirePart (by decide) (by decide)
    · replace h := rn_ifn c2 h
      refine rn_icmp_gt_f 20 (by exact dc_Wt_requirePart 4 rfl) (by exact rfl) c2 ?_
      refine rn_iload_n (by exact dc_Wt_requirePart 5 rfl) (by exact rfl) ?_
      refine rn_aload_n (by exact dc_Wt_requirePart 6 rfl) (by exact rfl) ?_
      refine rn_getf (v := .ref 4) fd_Wt_19 (by exact dc_Wt_requirePart 7 rfl) (by exact rfl) (by exact rfl) ?_
      refine rn_getf (v := .int (C_textLength c)) fd_Wt_108 (by exact dc_Wt_requirePart 8 rfl) (by exact rfl) (by exact rfl) ?_
      by_cases c3 : v1 ≤ (C_textLength c)
      · replace h := rn_ifp c3 h
        refine rn_icmp_le_t 30 (by exact dc_Wt_requirePart 9 rfl) (by exact rfl) c3 ?_
        cases h
      · replace h := rn_ifn c3 h
        refine rn_icmp_le_f 30 (by exact dc_Wt_requirePart 9 rfl) (by exact rfl) c3 ?_
        cases h
        exact rn_throw (ca := 0) (sa := 0) hZ ft_1 fn_0 tk_Wt_67 ti_1 ts_Wt_193 to_Wt_71 (by exact dc_Wt_requirePart 10 rfl) (by exact dc_Wt_requirePart 11 rfl) (by exact dc_Wt_requirePart 12 rfl) (by exact dc_Wt_requirePart 13 rfl) (by exact dc_Wt_requirePart 14 rfl) cd_Wt_requirePart (by decide) (by decide)
set_option maxHeartbeats 4000000 in
set_option maxRecDepth 100000 in
theorem c_Wt_requireNonterminal {Z : rn_Z} {x : tX} {d : tD} {c : tC} {u : tU} {t : tT} {a : tG} {b : tG} {m : tM} {o : tO} {E : List rn_C} {v0 : Int32}  (h : F_Wt_requireNonterminal a v0 = some (.inl ())) : Call Z M_Wt_requireNonterminal [.ref 1, .int v0] (emb 35 44 x d c u t a b m o E) 0 0 none (emb 35 44 x d c u t a b m o E) := by
  unfold F_Wt_requireNonterminal at h
  refine rn_call (by decide) 0 (by exact Nat.le_of_ble_eq_true rfl) ?_
  show Rn Z M_Wt_requireNonterminal 0 [some (.ref 1), some (.int v0)] [] (emb 35 44 x d c u t a b m o E) 0 0 _
  refine rn_iload_n (by exact dc_Wt_requireNonterminal 0 rfl) (by exact rfl) ?_
  by_cases c1 : v0 < 0
  · replace h := rn_ifp c1 h
    refine rn_if_lt_t 15 (by exact dc_Wt_requireNonterminal 1 rfl) (by exact rfl) c1 ?_
    cases h
  · replace h := rn_ifn c1 h
    refine rn_if_lt_f 15 (by exact dc_Wt_requireNonterminal 1 rfl) (by exact rfl) c1 ?_
    refine rn_iload_n (by exact dc_Wt_requireNonterminal 2 rfl) (by exact rfl) ?_
    refine rn_aload_n (by exact dc_Wt_requireNonterminal 3 rfl) (by exact rfl) ?_
    refine rn_getf (v := .ref 35) fd_Wt_40 (by exact dc_Wt_requireNonterminal 4 rfl) (by exact rfl) (by exact rfl) ?_
    refine rn_getf (v := .int (G_nonterminalCount a)) fd_Wt_115 (by exact dc_Wt_requireNonterminal 5 rfl) (by exact rfl) (by exact rfl) ?_
    by_cases c2 : v0 < (G_nonterminalCount a)
    · replace h := rn_ifp c2 h
      refine rn_icmp_lt_t 25 (by exact dc_Wt_requireNonterminal 6 rfl) (by exact rfl) c2 ?_
      cases h
      exact rn_return (by exact dc_Wt_requireNonterminal 12 rfl) (by exact rfl)
    · replace h := rn_ifn c2 h
      refine rn_icmp_lt_f 25 (by exact dc_Wt_requireNonterminal 6 rfl) (by exact rfl) c2 ?_
      cases h
set_option maxHeartbeats 4000000 in
set_option maxRecDepth 100000 in
theorem t_Wt_requireNonterminal_3 {Z : rn_Z} {x : tX} {d : tD} {c : tC} {u : tU} {t : tT} {a : tG} {b : tG} {m : tM} {o : tO} {E : List rn_C} {v0 : Int32}  (hZ : Z.1.stackTraces = false) (h : F_Wt_requireNonterminal a v0 = some (.inr 3)) : CallT Z M_Wt_requireNonterminal [.ref 1, .int v0] (emb 35 44 x d c u t a b m o E) 1 6 "java/lang/IndexOutOfBoundsException" (emb 35 44 x d c u t a b m o E) := by
  unfold F_Wt_requireNonterminal at h
  refine rn_callT (by decide) 0 (by exact Nat.le_of_ble_eq_true rfl) ?_
  show Rn Z M_Wt_requireNonterminal 0 [some (.ref 1), some (.int v0)] [] (emb 35 44 x d c u t a b m o E) 1 6 _
  refine rn_iload_n (by exact dc_Wt_requireNonterminal 0 rfl) (by exact rfl) ?_
  by_cases c1 : v0 < 0
  · replace h := rn_ifp c1 h
    refine rn_if_lt_t 15 (by exact dc_Wt_requireNonterminal 1 rfl) (by exact rfl) c1 ?_
    cases h
    exact rn_throw (ca := 0) (sa := 0) hZ ft_3 fn_0 tk_Wt_126 ti_3 ts_Wt_191 to_Wt_130 (by exact dc_Wt_requireNonterminal 7 rfl) (by exact dc_Wt_requireNonterminal 8 rfl) (by exact dc_Wt_requireNonterminal 9 rfl) (by exact dc_Wt_requireNonterminal 10 rfl) (by exact dc_Wt_requireNonterminal 11 rfl) cd_Wt_requireNonterminal (by decide) (by decide)
  · replace h := rn_ifn c1 h
    refine rn_if_lt_f 15 (by exact dc_Wt_requireNonterminal 1 rfl) (by exact rfl) c1 ?_
    refine rn_iload_n (by exact dc_Wt_requireNonterminal 2 rfl) (by exact rfl) ?_
    refine rn_aload_n (by exact dc_Wt_requireNonterminal 3 rfl) (by exact rfl) ?_
    refine rn_getf (v := .ref 35) fd_Wt_40 (by exact dc_Wt_requireNonterminal 4 rfl) (by exact rfl) (by exact rfl) ?_
    refine rn_getf (v := .int (G_nonterminalCount a)) fd_Wt_115 (by exact dc_Wt_requireNonterminal 5 rfl) (by exact rfl) (by exact rfl) ?_
    by_cases c2 : v0 < (G_nonterminalCount a)
    · replace h := rn_ifp c2 h
      refine rn_icmp_lt_t 25 (by exact dc_Wt_requireNonterminal 6 rfl) (by exact rfl) c2 ?_
      cases h
    · replace h := rn_ifn c2 h
      refine rn_icmp_lt_f 25 (by exact dc_Wt_requireNonterminal 6 rfl) (by exact rfl) c2 ?_
      cases h
      exact rn_throw (ca := 0) (sa := 0) hZ ft_3 fn_0 tk_Wt_126 ti_3 ts_Wt_191 to_Wt_130 (by exact dc_Wt_requireNonterminal 7 rfl) (by exact dc_Wt_requireNonterminal 8 rfl) (by exact dc_Wt_requireNonterminal 9 rfl) (by exact dc_Wt_requireNonterminal 10 rfl) (by exact dc_Wt_requireNonterminal 11 rfl) cd_Wt_requireNonterminal (by decide) (by decide)
set_option maxHeartbeats 4000000 in
set_option maxRecDepth 100000 in
theorem c_Wt_requirePart {Z : rn_Z} {x : tX} {d : tD} {c : tC} {u : tU} {t : tT} {a : tG} {b : tG} {m : tM} {o : tO} {E : List rn_C} {v0 : Int32} {v1 : Int32}  (h : F_Wt_requirePart c v0 v1 = some (.inl ())) : Call Z M_Wt_requirePart [.ref 1, .int v0, .int v1] (emb 35 44 x d c u t a b m o E) 0 0 none (emb 35 44 x d c u t a b m o E) := by
  unfold F_Wt_requirePart at h
  refine rn_call (by decide) 0 (by exact Nat.le_of_ble_eq_true rfl) ?_
  show Rn Z M_Wt_requirePart 0 [some (.ref 1), some (.int v0), some (.int v1)] [] (emb 35 44 x d c u t a b m o E) 0 0 _
  refine rn_iload_n (by exact dc_Wt_requirePart 0 rfl) (by exact rfl) ?_
  by_cases c1 : v0 < 0
  · replace h := rn_ifp c1 h
    refine rn_if_lt_t 20 (by exact dc_Wt_requirePart 1 rfl) (by exact rfl) c1 ?_
    cases h
  · replace h := rn_ifn c1 h
    refine rn_if_lt_f 20 (by exact dc_Wt_requirePart 1 rfl) (by exact rfl) c1 ?_
    refine rn_iload_n (by exact dc_Wt_requirePart 2 rfl) (by exact rfl) ?_
    refine rn_iload_n (by exact dc_Wt_requirePart 3 rfl) (by exact rfl) ?_
    by_cases c2 : v1 < v0
    · replace h := rn_ifp c2 h
      refine rn_icmp_gt_t 20 (by exact dc_Wt_requirePart 4 rfl) (by exact rfl) c2 ?_
      cases h
    · replace h := rn_ifn c2 h
      refine rn_icmp_gt_f 20 (by exact dc_Wt_requirePart 4 rfl) (by exact rfl) c2 ?_
      refine rn_iload_n (by exact dc_Wt_requirePart 5 rfl) (by exact rfl) ?_
      refine rn_aload_n (by exact dc_Wt_requirePart 6 rfl) (by exact rfl) ?_
      refine rn_getf (v := .ref 4) fd_Wt_19 (by exact dc_Wt_requirePart 7 rfl) (by exact rfl) (by exact rfl) ?_
      refine rn_getf (v := .int (C_textLength c)) fd_Wt_108 (by exact dc_Wt_requirePart 8 rfl) (by exact rfl) (by exact rfl) ?_
      by_cases c3 : v1 ≤ (C_textLength c)
      · replace h := rn_ifp c3 h
        refine rn_icmp_le_t 30 (by exact dc_Wt_requirePart 9 rfl) (by exact rfl) c3 ?_
        cases h
        exact rn_return (by exact dc_Wt_requirePart 15 rfl) (by exact rfl)
      · replace h := rn_ifn c3 h
        refine rn_icmp_le_f 30 (by exact dc_Wt_requirePart 9 rfl) (by exact rfl) c3 ?_
        cases h
set_option maxHeartbeats 4000000 in
set_option maxRecDepth 100000 in
theorem t_Wt_requirePart_1 {Z : rn_Z} {x : tX} {d : tD} {c : tC} {u : tU} {t : tT} {a : tG} {b : tG} {m : tM} {o : tO} {E : List rn_C} {v0 : Int32} {v1 : Int32}  (hZ : Z.1.stackTraces = false) (h : F_Wt_requirePart c v0 v1 = some (.inr 1)) : CallT Z M_Wt_requirePart [.ref 1, .int v0, .int v1] (emb 35 44 x d c u t a b m o E) 1 6 "java/lang/IllegalArgumentException" (emb 35 44 x d c u t a b m o E) := by
  unfold F_Wt_requirePart at h
  refine rn_callT (by decide) 0 (by exact Nat.le_of_ble_eq_true rfl) ?_
  show Rn Z M_Wt_requirePart 0 [some (.ref 1), some (.int v0), some (.int v1)] [] (emb 35 44 x d c u t a b m o E) 1 6 _
  refine rn_iload_n (by exact dc_Wt_requirePart 0 rfl) (by exact rfl) ?_
  by_cases c1 : v0 < 0
  · replace h := rn_ifp c1 h
    refine rn_if_lt_t 20 (by exact dc_Wt_requirePart 1 rfl) (by exact rfl) c1 ?_
    cases h
    exact rn_throw (ca := 0) (sa := 0) hZ ft_1 fn_0 tk_Wt_67 ti_1 ts_Wt_193 to_Wt_71 (by exact dc_Wt_requirePart 10 rfl) (by exact dc_Wt_requirePart 11 rfl) (by exact dc_Wt_requirePart 12 rfl) (by exact dc_Wt_requirePart 13 rfl) (by exact dc_Wt_requirePart 14 rfl) cd_Wt_requirePart (by decide) (by decide)
  · replace h := rn_ifn c1 h
    refine rn_if_lt_f 20 (by exact dc_Wt_requirePart 1 rfl) (by exact rfl) c1 ?_
    refine rn_iload_n (by exact dc_Wt_requirePart 2 rfl) (by exact rfl) ?_
    refine rn_iload_n (by exact dc_Wt_requirePart 3 rfl) (by exact rfl) ?_
    by_cases c2 : v1 < v0
    · replace h := rn_ifp c2 h
      refine rn_icmp_gt_t 20 (by exact dc_Wt_requirePart 4 rfl) (by exact rfl) c2 ?_
      cases h
      exact rn_throw (ca := 0) (sa := 0) hZ ft_1 fn_0 tk_Wt_67 ti_1 ts_Wt_193 to_Wt_71 (by exact dc_Wt_requirePart 10 rfl) (by exact dc_Wt_requirePart 11 rfl) (by exact dc_Wt_requirePart 12 rfl) (by exact dc_Wt_requirePart 13 rfl) (by exact dc_Wt_requirePart 14 rfl) cd_Wt_requirePart (by decide) (by decide)
    · replace h := rn_ifn c2 h
      refine rn_icmp_gt_f 20 (by exact dc_Wt_requirePart 4 rfl) (by exact rfl) c2 ?_
      refine rn_iload_n (by exact dc_Wt_requirePart 5 rfl) (by exact rfl) ?_
      refine rn_aload_n (by exact dc_Wt_requirePart 6 rfl) (by exact rfl) ?_
      refine rn_getf (v := .ref 4) fd_Wt_19 (by exact dc_Wt_requirePart 7 rfl) (by exact rfl) (by exact rfl) ?_
      refine rn_getf (v := .int (C_textLength c)) fd_Wt_108 (by exact dc_Wt_requirePart 8 rfl) (by exact rfl) (by exact rfl) ?_
      by_cases c3 : v1 ≤ (C_textLength c)
      · replace h := rn_ifp c3 h
        refine rn_icmp_le_t 30 (by exact dc_Wt_requirePart 9 rfl) (by exact rfl) c3 ?_
        cases h
      · replace h := rn_ifn c3 h
        refine rn_icmp_le_f 30 (by exact dc_Wt_requirePart 9 rfl) (by exact rfl) c3 ?_
        cases h
        exact rn_throw (ca := 0) (sa := 0) hZ ft_1 fn_0 tk_Wt_67 ti_1 ts_Wt_193 to_Wt_71 (by exact dc_Wt_requirePart 10 rfl) (by exact dc_Wt_requirePart 11 rfl) (by exact dc_Wt_requirePart 12 rfl) (by exact dc_Wt_requirePart 13 rfl) (by exact dc_Wt_requirePart 14 rfl) cd_Wt_requirePart (by decide) (by decide)
def F_Wt_build (c : tC) (t : tT) (a : tG) (v0 : Int32) (v1 : Int32) (v2 : Int32) : Option (((Int32 × tT) ⊕ (Nat × tT))) :=
  Option.bind (F_Wt_requireNonterminal a v0) fun z2 =>
  match z2 with
  | .inr k4 => (
      if k4 = 3 then (
        some (.inr (3, t))
      ) else (
        none
      )
    )
  | .inl _ =>
    Option.bind (F_Wt_requirePart c v1 v2) fun z6 =>
    match z6 with
    | .inr k8 => (
        if k8 = 1 then (
          some (.inr (1, t))
        ) else (
          none
        )
      )
    | .inl _ =>
      Option.bind (F_Ch_hasTree c v0 v1 v2) fun x10 =>
      if ¬ x10 = 0 then (
        Option.bind (F_Tl_list c t a v0 v1 v2) fun t14 =>
        some (.inl (T_nodeCount t14, t14))
      ) else (
        some (.inr (2, t))
      )
set_option maxHeartbeats 4000000 in
set_option maxRecDepth 100000 in
theorem c_Wt_build {Z : rn_Z} {x : tX} {d : tD} {c : tC} {u : tU} {t : tT} {a : tG} {b : tG} {m : tM} {o : tO} {E : List rn_C} {v0 : Int32} {v1 : Int32} {v2 : Int32} {res : Int32} {tR : tT} (h : F_Wt_build c t a v0 v1 v2 = some (.inl (res, tR))) : Call Z M_Wt_build [.ref 1, .int v0, .int v1, .int v2] (emb 35 44 x d c u t a b m o E) 0 0 (some (.int res)) (emb 35 44 x d c u tR a b m o E) := by
  unfold F_Wt_build at h
  refine rn_call (by decide) 0 (by exact Nat.le_of_ble_eq_true rfl) ?_
  show Rn Z M_Wt_build 0 [some (.ref 1), some (.int v0), some (.int v1), some (.int v2)] [] (emb 35 44 x d c u t a b m o E) 0 0 _
  refine rn_aload_n (by exact dc_Wt_build 0 rfl) (by exact rfl) ?_
  refine rn_iload_n (by exact dc_Wt_build 1 rfl) (by exact rfl) ?_
  obtain ⟨z2, e1, h3⟩ := rn_bind h
  clear h
  rcases z2 with _ | k4
  · dsimp only at h3
    refine rn_invV (ca := 0) (sa := 0) (ca' := 0) (sa' := 0) (by exact c_Wt_requireNonterminal e1) iv_Wt_118 (by exact ⟨Nat.le_of_ble_eq_true rfl, Nat.le_of_ble_eq_true rfl⟩) (by exact dc_Wt_build 2 rfl) (by exact rfl) (by exact rfl) (by exact rfl) (by exact Nat.le_of_ble_eq_true rfl) ?_
    show Rn _ _ 5 [some (.ref 1), some (.int v0), some (.int v1), some (.int v2)] [] (emb 35 44 x d c u t a b m o E) _ _ _
    refine rn_aload_n (by exact dc_Wt_build 3 rfl) (by exact rfl) ?_
    refine rn_iload_n (by exact dc_Wt_build 4 rfl) (by exact rfl) ?_
    refine rn_iload_n (by exact dc_Wt_build 5 rfl) (by exact rfl) ?_
    obtain ⟨z6, e5, h7⟩ := rn_bind h3
    clear h3
    rcases z6 with _ | k8
    · dsimp only at h7
      refine rn_invV (ca := 0) (sa := 0) (ca' := 0) (sa' := 0) (by exact c_Wt_requirePart e5) iv_Wt_143 (by exact ⟨Nat.le_of_ble_eq_true rfl, Nat.le_of_ble_eq_true rfl⟩) (by exact dc_Wt_build 6 rfl) (by exact rfl) (by exact rfl) (by exact rfl) (by exact Nat.le_of_ble_eq_true rfl) ?_
      show Rn _ _ 11 [some (.ref 1), some (.int v0), some (.int v1), some (.int v2)] [] (emb 35 44 x d c u t a b m o E) _ _ _
      refine rn_aload_n (by exact dc_Wt_build 7 rfl) (by exact rfl) ?_
      refine rn_getf (v := .ref 4) fd_Wt_19 (by exact dc_Wt_build 8 rfl) (by exact rfl) (by exact rfl) ?_
      refine rn_iload_n (by exact dc_Wt_build 9 rfl) (by exact rfl) ?_
      refine rn_iload_n (by exact dc_Wt_build 10 rfl) (by exact rfl) ?_
      refine rn_iload_n (by exact dc_Wt_build 11 rfl) (by exact rfl) ?_
      obtain ⟨x10, e9, h11⟩ := rn_bind h7
      clear h7
      refine rn_invV0 (by exact c_Ch_hasTree e9) iv_Wt_111 (by exact ⟨Nat.le_of_ble_eq_true rfl, Nat.le_of_ble_eq_true rfl⟩) (by exact dc_Wt_build 12 rfl) (by exact rfl) (by exact rfl) (by exact rfl) (by exact Nat.le_of_ble_eq_true rfl) ?_
      show Rn _ _ 21 [some (.ref 1), some (.int v0), some (.int v1), some (.int v2)] [.int x10] (emb 35 44 x d c u t a b m o E) _ _ _
      by_cases c12 : ¬ x10 = 0
      · replace h11 := rn_ifp c12 h11
        refine rn_if_ne_t 34 (by exact dc_Wt_build 13 rfl) (by exact rfl) c12 ?_
        refine rn_aload_n (by exact dc_Wt_build 19 rfl) (by exact rfl) ?_
        refine rn_getf (v := .ref 30) fd_Wt_33 (by exact dc_Wt_build 20 rfl) (by exact rfl) (by exact rfl) ?_
        refine rn_aload_n (by exact dc_Wt_build 21 rfl) (by exact rfl) ?_
        refine rn_getf (v := .ref 35) fd_Wt_40 (by exact dc_Wt_build 22 rfl) (by exact rfl) (by exact rfl) ?_
        refine rn_aload_n (by exact dc_Wt_build 23 rfl) (by exact rfl) ?_
        refine rn_getf (v := .ref 4) fd_Wt_19 (by exact dc_Wt_build 24 rfl) (by exact rfl) (by exact rfl) ?_
        refine rn_iload_n (by exact dc_Wt_build 25 rfl) (by exact rfl) ?_
        refine rn_iload_n (by exact dc_Wt_build 26 rfl) (by exact rfl) ?_
        refine rn_iload_n (by exact dc_Wt_build 27 rfl) (by exact rfl) ?_
        obtain ⟨t14, e13, h15⟩ := rn_bind h11
        clear h11
        refine rn_invV0 (by exact c_Tl_list e13) iv_Wt_159 (by exact ⟨Nat.le_of_ble_eq_true rfl, Nat.le_of_ble_eq_true rfl⟩) (by exact dc_Wt_build 28 rfl) (by exact rfl) (by exact rfl) (by exact rfl) (by exact Nat.le_of_ble_eq_true rfl) ?_
        show Rn _ _ 52 [some (.ref 1), some (.int v0), some (.int v1), some (.int v2)] [] (emb 35 44 x d c u t14 a b m o E) _ _ _
        refine rn_aload_n (by exact dc_Wt_build 29 rfl) (by exact rfl) ?_
        refine rn_getf (v := .ref 30) fd_Wt_33 (by exact dc_Wt_build 30 rfl) (by exact rfl) (by exact rfl) ?_
        refine rn_getf (v := .int (T_nodeCount t14)) fd_Wt_163 (by exact dc_Wt_build 31 rfl) (by exact rfl) (by exact rfl) ?_
        cases h15
        exact rn_ireturn (by exact dc_Wt_build 32 rfl) (by exact rfl)
      · replace h11 := rn_ifn c12 h11
        refine rn_if_ne_f 34 (by exact dc_Wt_build 13 rfl) (by exact rfl) (Classical.not_not.mp c12) ?_
        cases h11
    · dsimp only at h7
      by_cases c16 : k8 = 1
      · subst c16
        replace h7 := rn_ifp rfl h7
        simp at h7
      · replace h7 := rn_ifn c16 h7
        cases h7
  · dsimp only at h3
    by_cases c17 : k4 = 3
    · subst c17
      replace h3 := rn_ifp rfl h3
      simp at h3
    · replace h3 := rn_ifn c17 h3
      cases h3
set_option maxHeartbeats 4000000 in
set_option maxRecDepth 100000 in
theorem t_Wt_build_1 {Z : rn_Z} {x : tX} {d : tD} {c : tC} {u : tU} {t : tT} {a : tG} {b : tG} {m : tM} {o : tO} {E : List rn_C} {v0 : Int32} {v1 : Int32} {v2 : Int32} {tR : tT} (hZ : Z.1.stackTraces = false) (h : F_Wt_build c t a v0 v1 v2 = some (.inr (1, tR))) : CallT Z M_Wt_build [.ref 1, .int v0, .int v1, .int v2] (emb 35 44 x d c u t a b m o E) 1 6 "java/lang/IllegalArgumentException" (emb 35 44 x d c u tR a b m o E) := by
  unfold F_Wt_build at h
  refine rn_callT (by decide) 0 (by exact Nat.le_of_ble_eq_true rfl) ?_
  show Rn Z M_Wt_build 0 [some (.ref 1), some (.int v0), some (.int v1), some (.int v2)] [] (emb 35 44 x d c u t a b m o E) 1 6 _
  refine rn_aload_n (by exact dc_Wt_build 0 rfl) (by exact rfl) ?_
  refine rn_iload_n (by exact dc_Wt_build 1 rfl) (by exact rfl) ?_
  obtain ⟨z2, e1, h3⟩ := rn_bind h
  clear h
  rcases z2 with _ | k4
  · dsimp only at h3
    refine rn_invV (ca := 1) (sa := 6) (ca' := 0) (sa' := 0) (by exact c_Wt_requireNonterminal e1) iv_Wt_118 (by exact ⟨Nat.le_of_ble_eq_true rfl, Nat.le_of_ble_eq_true rfl⟩) (by exact dc_Wt_build 2 rfl) (by exact rfl) (by exact rfl) (by exact rfl) (by exact Nat.le_of_ble_eq_true rfl) ?_
    show Rn _ _ 5 [some (.ref 1), some (.int v0), some (.int v1), some (.int v2)] [] (emb 35 44 x d c u t a b m o E) _ _ _
    refine rn_aload_n (by exact dc_Wt_build 3 rfl) (by exact rfl) ?_
    refine rn_iload_n (by exact dc_Wt_build 4 rfl) (by exact rfl) ?_
    refine rn_iload_n (by exact dc_Wt_build 5 rfl) (by exact rfl) ?_
    obtain ⟨z6, e5, h7⟩ := rn_bind h3
    clear h3
    rcases z6 with _ | k8
    · dsimp only at h7
      refine rn_invV (ca := 1) (sa := 6) (ca' := 0) (sa' := 0) (by exact c_Wt_requirePart e5) iv_Wt_143 (by exact ⟨Nat.le_of_ble_eq_true rfl, Nat.le_of_ble_eq_true rfl⟩) (by exact dc_Wt_build 6 rfl) (by exact rfl) (by exact rfl) (by exact rfl) (by exact Nat.le_of_ble_eq_true rfl) ?_
      show Rn _ _ 11 [some (.ref 1), some (.int v0), some (.int v1), some (.int v2)] [] (emb 35 44 x d c u t a b m o E) _ _ _
      refine rn_aload_n (by exact dc_Wt_build 7 rfl) (by exact rfl) ?_
      refine rn_getf (v := .ref 4) fd_Wt_19 (by exact dc_Wt_build 8 rfl) (by exact rfl) (by exact rfl) ?_
      refine rn_iload_n (by exact dc_Wt_build 9 rfl) (by exact rfl) ?_
      refine rn_iload_n (by exact dc_Wt_build 10 rfl) (by exact rfl) ?_
      refine rn_iload_n (by exact dc_Wt_build 11 rfl) (by exact rfl) ?_
      obtain ⟨x10, e9, h11⟩ := rn_bind h7
      clear h7
      refine rn_invV0 (by exact c_Ch_hasTree e9) iv_Wt_111 (by exact ⟨Nat.le_of_ble_eq_true rfl, Nat.le_of_ble_eq_true rfl⟩) (by exact dc_Wt_build 12 rfl) (by exact rfl) (by exact rfl) (by exact rfl) (by exact Nat.le_of_ble_eq_true rfl) ?_
      show Rn _ _ 21 [some (.ref 1), some (.int v0), some (.int v1), some (.int v2)] [.int x10] (emb 35 44 x d c u t a b m o E) _ _ _
      by_cases c12 : ¬ x10 = 0
      · replace h11 := rn_ifp c12 h11
        refine rn_if_ne_t 34 (by exact dc_Wt_build 13 rfl) (by exact rfl) c12 ?_
        refine rn_aload_n (by exact dc_Wt_build 19 rfl) (by exact rfl) ?_
        refine rn_getf (v := .ref 30) fd_Wt_33 (by exact dc_Wt_build 20 rfl) (by exact rfl) (by exact rfl) ?_
        refine rn_aload_n (by exact dc_Wt_build 21 rfl) (by exact rfl) ?_
        refine rn_getf (v := .ref 35) fd_Wt_40 (by exact dc_Wt_build 22 rfl) (by exact rfl) (by exact rfl) ?_
        refine rn_aload_n (by exact dc_Wt_build 23 rfl) (by exact rfl) ?_
        refine rn_getf (v := .ref 4) fd_Wt_19 (by exact dc_Wt_build 24 rfl) (by exact rfl) (by exact rfl) ?_
        refine rn_iload_n (by exact dc_Wt_build 25 rfl) (by exact rfl) ?_
        refine rn_iload_n (by exact dc_Wt_build 26 rfl) (by exact rfl) ?_
        refine rn_iload_n (by exact dc_Wt_build 27 rfl) (by exact rfl) ?_
        obtain ⟨t14, e13, h15⟩ := rn_bind h11
        clear h11
        refine rn_invV0 (by exact c_Tl_list e13) iv_Wt_159 (by exact ⟨Nat.le_of_ble_eq_true rfl, Nat.le_of_ble_eq_true rfl⟩) (by exact dc_Wt_build 28 rfl) (by exact rfl) (by exact rfl) (by exact rfl) (by exact Nat.le_of_ble_eq_true rfl) ?_
        show Rn _ _ 52 [some (.ref 1), some (.int v0), some (.int v1), some (.int v2)] [] (emb 35 44 x d c u t14 a b m o E) _ _ _
        refine rn_aload_n (by exact dc_Wt_build 29 rfl) (by exact rfl) ?_
        refine rn_getf (v := .ref 30) fd_Wt_33 (by exact dc_Wt_build 30 rfl) (by exact rfl) (by exact rfl) ?_
        refine rn_getf (v := .int (T_nodeCount t14)) fd_Wt_163 (by exact dc_Wt_build 31 rfl) (by exact rfl) (by exact rfl) ?_
        cases h15
      · replace h11 := rn_ifn c12 h11
        refine rn_if_ne_f 34 (by exact dc_Wt_build 13 rfl) (by exact rfl) (Classical.not_not.mp c12) ?_
        simp at h11
    · dsimp only at h7
      by_cases c16 : k8 = 1
      · subst c16
        replace h7 := rn_ifp rfl h7
        cases h7
        exact rn_invVT (by exact t_Wt_requirePart_1 hZ e5) iv_Wt_143 vl_Wt_143 (by exact ⟨Nat.le_of_ble_eq_true rfl, Nat.le_of_ble_eq_true rfl⟩) (by exact dc_Wt_build 6 rfl) (by exact rfl) (by exact rfl) (by exact rfl) (by exact Nat.le_of_ble_eq_true rfl) cd_Wt_build (by decide) (by decide)
      · replace h7 := rn_ifn c16 h7
        cases h7
  · dsimp only at h3
    by_cases c17 : k4 = 3
    · subst c17
      replace h3 := rn_ifp rfl h3
      simp at h3
    · replace h3 := rn_ifn c17 h3
      cases h3
set_option maxHeartbeats 4000000 in
set_option maxRecDepth 100000 in
theorem t_Wt_build_2 {Z : rn_Z} {x : tX} {d : tD} {c : tC} {u : tU} {t : tT} {a : tG} {b : tG} {m : tM} {o : tO} {E : List rn_C} {v0 : Int32} {v1 : Int32} {v2 : Int32} {tR : tT} (hZ : Z.1.stackTraces = false) (h : F_Wt_build c t a v0 v1 v2 = some (.inr (2, tR))) : CallT Z M_Wt_build [.ref 1, .int v0, .int v1, .int v2] (emb 35 44 x d c u t a b m o E) 1 6 "java/lang/IllegalStateException" (emb 35 44 x d c u tR a b m o E) := by
  unfold F_Wt_build at h
  refine rn_callT (by decide) 0 (by exact Nat.le_of_ble_eq_true rfl) ?_
  show Rn Z M_Wt_build 0 [some (.ref 1), some (.int v0), some (.int v1), some (.int v2)] [] (emb 35 44 x d c u t a b m o E) 1 6 _
  refine rn_aload_n (by exact dc_Wt_build 0 rfl) (by exact rfl) ?_
  refine rn_iload_n (by exact dc_Wt_build 1 rfl) (by exact rfl) ?_
  obtain ⟨z2, e1, h3⟩ := rn_bind h
  clear h
  rcases z2 with _ | k4
  · dsimp only at h3
    refine rn_invV (ca := 1) (sa := 6) (ca' := 0) (sa' := 0) (by exact c_Wt_requireNonterminal e1) iv_Wt_118 (by exact ⟨Nat.le_of_ble_eq_true rfl, Nat.le_of_ble_eq_true rfl⟩) (by exact dc_Wt_build 2 rfl) (by exact rfl) (by exact rfl) (by exact rfl) (by exact Nat.le_of_ble_eq_true rfl) ?_
    show Rn _ _ 5 [some (.ref 1), some (.int v0), some (.int v1), some (.int v2)] [] (emb 35 44 x d c u t a b m o E) _ _ _
    refine rn_aload_n (by exact dc_Wt_build 3 rfl) (by exact rfl) ?_
    refine rn_iload_n (by exact dc_Wt_build 4 rfl) (by exact rfl) ?_
    refine rn_iload_n (by exact dc_Wt_build 5 rfl) (by exact rfl) ?_
    obtain ⟨z6, e5, h7⟩ := rn_bind h3
    clear h3
    rcases z6 with _ | k8
    · dsimp only at h7
      refine rn_invV (ca := 1) (sa := 6) (ca' := 0) (sa' := 0) (by exact c_Wt_requirePart e5) iv_Wt_143 (by exact ⟨Nat.le_of_ble_eq_true rfl, Nat.le_of_ble_eq_true rfl⟩) (by exact dc_Wt_build 6 rfl) (by exact rfl) (by exact rfl) (by exact rfl) (by exact Nat.le_of_ble_eq_true rfl) ?_
      show Rn _ _ 11 [some (.ref 1), some (.int v0), some (.int v1), some (.int v2)] [] (emb 35 44 x d c u t a b m o E) _ _ _
      refine rn_aload_n (by exact dc_Wt_build 7 rfl) (by exact rfl) ?_
      refine rn_getf (v := .ref 4) fd_Wt_19 (by exact dc_Wt_build 8 rfl) (by exact rfl) (by exact rfl) ?_
      refine rn_iload_n (by exact dc_Wt_build 9 rfl) (by exact rfl) ?_
      refine rn_iload_n (by exact dc_Wt_build 10 rfl) (by exact rfl) ?_
      refine rn_iload_n (by exact dc_Wt_build 11 rfl) (by exact rfl) ?_
      obtain ⟨x10, e9, h11⟩ := rn_bind h7
      clear h7
      refine rn_invV0 (by exact c_Ch_hasTree e9) iv_Wt_111 (by exact ⟨Nat.le_of_ble_eq_true rfl, Nat.le_of_ble_eq_true rfl⟩) (by exact dc_Wt_build 12 rfl) (by exact rfl) (by exact rfl) (by exact rfl) (by exact Nat.le_of_ble_eq_true rfl) ?_
      show Rn _ _ 21 [some (.ref 1), some (.int v0), some (.int v1), some (.int v2)] [.int x10] (emb 35 44 x d c u t a b m o E) _ _ _
      by_cases c12 : ¬ x10 = 0
      · replace h11 := rn_ifp c12 h11
        refine rn_if_ne_t 34 (by exact dc_Wt_build 13 rfl) (by exact rfl) c12 ?_
        refine rn_aload_n (by exact dc_Wt_build 19 rfl) (by exact rfl) ?_
        refine rn_getf (v := .ref 30) fd_Wt_33 (by exact dc_Wt_build 20 rfl) (by exact rfl) (by exact rfl) ?_
        refine rn_aload_n (by exact dc_Wt_build 21 rfl) (by exact rfl) ?_
        refine rn_getf (v := .ref 35) fd_Wt_40 (by exact dc_Wt_build 22 rfl) (by exact rfl) (by exact rfl) ?_
        refine rn_aload_n (by exact dc_Wt_build 23 rfl) (by exact rfl) ?_
        refine rn_getf (v := .ref 4) fd_Wt_19 (by exact dc_Wt_build 24 rfl) (by exact rfl) (by exact rfl) ?_
        refine rn_iload_n (by exact dc_Wt_build 25 rfl) (by exact rfl) ?_
        refine rn_iload_n (by exact dc_Wt_build 26 rfl) (by exact rfl) ?_
        refine rn_iload_n (by exact dc_Wt_build 27 rfl) (by exact rfl) ?_
        obtain ⟨t14, e13, h15⟩ := rn_bind h11
        clear h11
        refine rn_invV0 (by exact c_Tl_list e13) iv_Wt_159 (by exact ⟨Nat.le_of_ble_eq_true rfl, Nat.le_of_ble_eq_true rfl⟩) (by exact dc_Wt_build 28 rfl) (by exact rfl) (by exact rfl) (by exact rfl) (by exact Nat.le_of_ble_eq_true rfl) ?_
        show Rn _ _ 52 [some (.ref 1), some (.int v0), some (.int v1), some (.int v2)] [] (emb 35 44 x d c u t14 a b m o E) _ _ _
        refine rn_aload_n (by exact dc_Wt_build 29 rfl) (by exact rfl) ?_
        refine rn_getf (v := .ref 30) fd_Wt_33 (by exact dc_Wt_build 30 rfl) (by exact rfl) (by exact rfl) ?_
        refine rn_getf (v := .int (T_nodeCount t14)) fd_Wt_163 (by exact dc_Wt_build 31 rfl) (by exact rfl) (by exact rfl) ?_
        cases h15
      · replace h11 := rn_ifn c12 h11
        refine rn_if_ne_f 34 (by exact dc_Wt_build 13 rfl) (by exact rfl) (Classical.not_not.mp c12) ?_
        cases h11
        exact rn_throw (ca := 0) (sa := 0) hZ ft_2 fn_0 tk_Wt_78 ti_2 ts_Wt_157 to_Wt_82 (by exact dc_Wt_build 14 rfl) (by exact dc_Wt_build 15 rfl) (by exact dc_Wt_build 16 rfl) (by exact dc_Wt_build 17 rfl) (by exact dc_Wt_build 18 rfl) cd_Wt_build (by decide) (by decide)
    · dsimp only at h7
      by_cases c16 : k8 = 1
      · subst c16
        replace h7 := rn_ifp rfl h7
        simp at h7
      · replace h7 := rn_ifn c16 h7
        cases h7
  · dsimp only at h3
    by_cases c17 : k4 = 3
    · subst c17
      replace h3 := rn_ifp rfl h3
      simp at h3
    · replace h3 := rn_ifn c17 h3
      cases h3
set_option maxHeartbeats 4000000 in
set_option maxRecDepth 100000 in
theorem t_Wt_build_3 {Z : rn_Z} {x : tX} {d : tD} {c : tC} {u : tU} {t : tT} {a : tG} {b : tG} {m : tM} {o : tO} {E : List rn_C} {v0 : Int32} {v1 : Int32} {v2 : Int32} {tR : tT} (hZ : Z.1.stackTraces = false) (h : F_Wt_build c t a v0 v1 v2 = some (.inr (3, tR))) : CallT Z M_Wt_build [.ref 1, .int v0, .int v1, .int v2] (emb 35 44 x d c u t a b m o E) 1 6 "java/lang/IndexOutOfBoundsException" (emb 35 44 x d c u tR a b m o E) := by
  unfold F_Wt_build at h
  refine rn_callT (by decide) 0 (by exact Nat.le_of_ble_eq_true rfl) ?_
  show Rn Z M_Wt_build 0 [some (.ref 1), some (.int v0), some (.int v1), some (.int v2)] [] (emb 35 44 x d c u t a b m o E) 1 6 _
  refine rn_aload_n (by exact dc_Wt_build 0 rfl) (by exact rfl) ?_
  refine rn_iload_n (by exact dc_Wt_build 1 rfl) (by exact rfl) ?_
  obtain ⟨z2, e1, h3⟩ := rn_bind h
  clear h
  rcases z2 with _ | k4
  · dsimp only at h3
    refine rn_invV (ca := 1) (sa := 6) (ca' := 0) (sa' := 0) (by exact c_Wt_requireNonterminal e1) iv_Wt_118 (by exact ⟨Nat.le_of_ble_eq_true rfl, Nat.le_of_ble_eq_true rfl⟩) (by exact dc_Wt_build 2 rfl) (by exact rfl) (by exact rfl) (by exact rfl) (by exact Nat.le_of_ble_eq_true rfl) ?_
    show Rn _ _ 5 [some (.ref 1), some (.int v0), some (.int v1), some (.int v2)] [] (emb 35 44 x d c u t a b m o E) _ _ _
    refine rn_aload_n (by exact dc_Wt_build 3 rfl) (by exact rfl) ?_
    refine rn_iload_n (by exact dc_Wt_build 4 rfl) (by exact rfl) ?_
    refine rn_iload_n (by exact dc_Wt_build 5 rfl) (by exact rfl) ?_
    obtain ⟨z6, e5, h7⟩ := rn_bind h3
    clear h3
    rcases z6 with _ | k8
    · dsimp only at h7
      refine rn_invV (ca := 1) (sa := 6) (ca' := 0) (sa' := 0) (by exact c_Wt_requirePart e5) iv_Wt_143 (by exact ⟨Nat.le_of_ble_eq_true rfl, Nat.le_of_ble_eq_true rfl⟩) (by exact dc_Wt_build 6 rfl) (by exact rfl) (by exact rfl) (by exact rfl) (by exact Nat.le_of_ble_eq_true rfl) ?_
      show Rn _ _ 11 [some (.ref 1), some (.int v0), some (.int v1), some (.int v2)] [] (emb 35 44 x d c u t a b m o E) _ _ _
      refine rn_aload_n (by exact dc_Wt_build 7 rfl) (by exact rfl) ?_
      refine rn_getf (v := .ref 4) fd_Wt_19 (by exact dc_Wt_build 8 rfl) (by exact rfl) (by exact rfl) ?_
      refine rn_iload_n (by exact dc_Wt_build 9 rfl) (by exact rfl) ?_
      refine rn_iload_n (by exact dc_Wt_build 10 rfl) (by exact rfl) ?_
      refine rn_iload_n (by exact dc_Wt_build 11 rfl) (by exact rfl) ?_
      obtain ⟨x10, e9, h11⟩ := rn_bind h7
      clear h7
      refine rn_invV0 (by exact c_Ch_hasTree e9) iv_Wt_111 (by exact ⟨Nat.le_of_ble_eq_true rfl, Nat.le_of_ble_eq_true rfl⟩) (by exact dc_Wt_build 12 rfl) (by exact rfl) (by exact rfl) (by exact rfl) (by exact Nat.le_of_ble_eq_true rfl) ?_
      show Rn _ _ 21 [some (.ref 1), some (.int v0), some (.int v1), some (.int v2)] [.int x10] (emb 35 44 x d c u t a b m o E) _ _ _
      by_cases c12 : ¬ x10 = 0
      · replace h11 := rn_ifp c12 h11
        refine rn_if_ne_t 34 (by exact dc_Wt_build 13 rfl) (by exact rfl) c12 ?_
        refine rn_aload_n (by exact dc_Wt_build 19 rfl) (by exact rfl) ?_
        refine rn_getf (v := .ref 30) fd_Wt_33 (by exact dc_Wt_build 20 rfl) (by exact rfl) (by exact rfl) ?_
        refine rn_aload_n (by exact dc_Wt_build 21 rfl) (by exact rfl) ?_
        refine rn_getf (v := .ref 35) fd_Wt_40 (by exact dc_Wt_build 22 rfl) (by exact rfl) (by exact rfl) ?_
        refine rn_aload_n (by exact dc_Wt_build 23 rfl) (by exact rfl) ?_
        refine rn_getf (v := .ref 4) fd_Wt_19 (by exact dc_Wt_build 24 rfl) (by exact rfl) (by exact rfl) ?_
        refine rn_iload_n (by exact dc_Wt_build 25 rfl) (by exact rfl) ?_
        refine rn_iload_n (by exact dc_Wt_build 26 rfl) (by exact rfl) ?_
        refine rn_iload_n (by exact dc_Wt_build 27 rfl) (by exact rfl) ?_
        obtain ⟨t14, e13, h15⟩ := rn_bind h11
        clear h11
        refine rn_invV0 (by exact c_Tl_list e13) iv_Wt_159 (by exact ⟨Nat.le_of_ble_eq_true rfl, Nat.le_of_ble_eq_true rfl⟩) (by exact dc_Wt_build 28 rfl) (by exact rfl) (by exact rfl) (by exact rfl) (by exact Nat.le_of_ble_eq_true rfl) ?_
        show Rn _ _ 52 [some (.ref 1), some (.int v0), some (.int v1), some (.int v2)] [] (emb 35 44 x d c u t14 a b m o E) _ _ _
        refine rn_aload_n (by exact dc_Wt_build 29 rfl) (by exact rfl) ?_
        refine rn_getf (v := .ref 30) fd_Wt_33 (by exact dc_Wt_build 30 rfl) (by exact rfl) (by exact rfl) ?_
        refine rn_getf (v := .int (T_nodeCount t14)) fd_Wt_163 (by exact dc_Wt_build 31 rfl) (by exact rfl) (by exact rfl) ?_
        cases h15
      · replace h11 := rn_ifn c12 h11
        refine rn_if_ne_f 34 (by exact dc_Wt_build 13 rfl) (by exact rfl) (Classical.not_not.mp c12) ?_
        simp at h11
    · dsimp only at h7
      by_cases c16 : k8 = 1
      · subst c16
        replace h7 := rn_ifp rfl h7
        simp at h7
      · replace h7 := rn_ifn c16 h7
        cases h7
  · dsimp only at h3
    by_cases c17 : k4 = 3
    · subst c17
      replace h3 := rn_ifp rfl h3
      cases h3
      exact rn_invVT (by exact t_Wt_requireNonterminal_3 hZ e1) iv_Wt_118 vl_Wt_118 (by exact ⟨Nat.le_of_ble_eq_true rfl, Nat.le_of_ble_eq_true rfl⟩) (by exact dc_Wt_build 2 rfl) (by exact rfl) (by exact rfl) (by exact rfl) (by exact Nat.le_of_ble_eq_true rfl) cd_Wt_build (by decide) (by decide)
    · replace h3 := rn_ifn c17 h3
      cases h3
