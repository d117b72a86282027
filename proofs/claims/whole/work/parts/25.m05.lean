set_option maxHeartbeats 4000000 in
set_option maxRecDepth 100000 in
theorem c_Gr_symbol {Z : rn_Z} {g1 g2 : Nat} {x : tX} {d : tD} {c : tC} {u : tU} {t : tT} {a : tG} {b : tG} {m : tM} {o : tO} {E : List rn_C} {v0 : Int32} {v1 : Int32} {res : Int32} (h : F_Gr_symbol a v0 v1 = some res) : Call Z M_Gr_symbol [.ref 35, .int v0, .int v1] (emb g1 g2 x d c u t a b m o E) 0 0 (some (.int res)) (emb g1 g2 x d c u t a b m o E) := by
  unfold F_Gr_symbol at h
  refine rn_call (by decide) 0 (by exact Nat.le_of_ble_eq_true rfl) ?_
  show Rn Z M_Gr_symbol 0 [some (.ref 35), some (.int v0), some (.int v1)] [] (emb g1 g2 x d c u t a b m o E) 0 0 _
  refine rn_aload_n (by exact dc_Gr_symbol 0 rfl) (by exact rfl) ?_
  refine rn_getf (v := .ref 37) fd_Gr_15 (by exact dc_Gr_symbol 1 rfl) (by exact rfl) (by exact rfl) ?_
  refine rn_iload_n (by exact dc_Gr_symbol 2 rfl) (by exact rfl) ?_
  refine rn_iconst (v := (4 : Int32)) (by exact dc_Gr_symbol 3 rfl) (by decide) ?_
  refine rn_imul (by exact dc_Gr_symbol 4 rfl) ?_
  refine rn_iload_n (by exact dc_Gr_symbol 5 rfl) (by exact rfl) ?_
  refine rn_iadd (by exact dc_Gr_symbol 6 rfl) ?_
  obtain ⟨x1, e2, h3⟩ := rn_bind h
  clear h
  refine rn_iaload (by exact dc_Gr_symbol 7 rfl) (by exact rfl) e2 ?_
  cases h3
  exact rn_ireturn (by exact dc_Gr_symbol 8 rfl) (by exact rfl)
def F_Ch_matchTerminal (c : tC) (v0 : Int32) (v1 : Int32) (v2 : Int32) (v3 : Int32) : Option tC :=
  Option.bind (
    if v3 ≤ v2 then (
      some (0 : Int32)
    ) else (
      Option.bind (aG (C_letters c) 8 v2) fun x6 =>
      if ¬ x6 = v0 then (
        some (0 : Int32)
      ) else (
        some (1 : Int32)
      )
    )
   : Option Int32) fun y1 =>
  Option.bind (aI 5 v1) fun j10 =>
  Option.bind (
    if y1 = 0 then (
      some (0 : Int64)
    ) else (
      Option.bind (aI 5 (v1 + (1 : Int32))) fun j18 =>
      Option.bind (aG (C_restSums c j18) 9 (v2 + (1 : Int32))) fun x21 =>
      some (x21 : Int64)
    )
   : Option Int64) fun y13 =>
  Option.bind (aS (C_restSums c j10) 9 v2 y13) fun f24 =>
  Option.bind (aI 5 v1) fun j27 =>
  Option.bind (
    if y1 = 0 then (
      some (-1 : Int32)
    ) else (
      Option.bind (aI 5 (v1 + (1 : Int32))) fun j35 =>
      Option.bind (aG (C_restCosts c j35) 9 (v2 + (1 : Int32))) fun x38 =>
      some (x38 : Int32)
    )
   : Option Int32) fun y30 =>
  Option.bind (aS (C_restCosts c j27) 9 v2 y30) fun f41 =>
  Option.bind (aI 4 v1) fun j44 =>
  Option.bind (aS (C_restLengths c j44) 9 v2 (1 : Int32)) fun f47 =>
  some (C_sums c, C_costs c, C_rules c, C_sizes c, C_lengths c, C_letters c, C_textLength c, up2 (C_restSums c) j10 f24, up2 (C_restCosts c) j27 f41, up2 (C_restLengths c) j44 f47)
set_option maxHeartbeats 4000000 in
set_option maxRecDepth 100000 in
theorem c_Ch_matchTerminal {Z : rn_Z} {g1 g2 : Nat} {x : tX} {d : tD} {c : tC} {u : tU} {t : tT} {a : tG} {b : tG} {m : tM} {o : tO} {E : List rn_C} {v0 : Int32} {v1 : Int32} {v2 : Int32} {v3 : Int32} {c_r : tC} (h : F_Ch_matchTerminal c v0 v1 v2 v3 = some c_r) : Call Z M_Ch_matchTerminal [.ref 4, .int v0, .int v1, .int v2, .int v3] (emb g1 g2 x d c u t a b m o E) 0 0 none (emb g1 g2 x d c_r u t a b m o E) := by
  unfold F_Ch_matchTerminal at h
  refine rn_call (by decide) 1 (by exact Nat.le_of_ble_eq_true rfl) ?_
  show Rn Z M_Ch_matchTerminal 0 [some (.ref 4), some (.int v0), some (.int v1), some (.int v2), some (.int v3), none] [] (emb g1 g2 x d c u t a b m o E) 0 0 _
  refine rn_iload_n (by exact dc_Ch_matchTerminal 0 rfl) (by exact rfl) ?_
  refine rn_iload (by exact dc_Ch_matchTerminal 1 rfl) (by exact rfl) ?_
  obtain ⟨y1, e2, h4⟩ := rn_bind h
  clear h
  have jq3 : Rn Z M_Ch_matchTerminal 21 [some (.ref 4), none, some (.int v1), some (.int v2), none, none] [.int y1] (emb g1 g2 x d c u t a b m o E) 0 0 (rn_Ret Z none (emb g1 g2 x d c_r u t a b m o E)) := by
    refine rn_istore (ls' := [some (.ref 4), none, some (.int v1), some (.int v2), none, some (.int y1)]) (by exact dc_Ch_matchTerminal 12 rfl) (by decide) (by exact rfl) ?_
    refine rn_aload_n (by exact dc_Ch_matchTerminal 13 rfl) (by exact rfl) ?_
    refine rn_getf (v := .ref 11) fd_Ch_38 (by exact dc_Ch_matchTerminal 14 rfl) (by exact rfl) (by exact rfl) ?_
    refine rn_iload_n (by exact dc_Ch_matchTerminal 15 rfl) (by exact rfl) ?_
    obtain ⟨j10, e11, h12⟩ := rn_bind h4
    clear h4
    refine rn_aaload (y := 12 + j10) (by exact dc_Ch_matchTerminal 16 rfl) (by exact rfl) (by exact (aI_some e11).1) (by exact aq_restSums e11) ?_
    refine rn_iload_n (by exact dc_Ch_matchTerminal 17 rfl) (by exact rfl) ?_
    refine rn_iload (by exact dc_Ch_matchTerminal 18 rfl) (by exact rfl) ?_
    obtain ⟨y13, e14, h16⟩ := rn_bind h12
    clear h12
    have jq15 : Rn Z M_Ch_matchTerminal 51 [some (.ref 4), none, some (.int v1), some (.int v2), none, some (.int y1)] [.long y13, .int v2, .ref (12 + j10)] (emb g1 g2 x d c u t a b m o E) 0 0 (rn_Ret Z none (emb g1 g2 x d c_r u t a b m o E)) := by
      obtain ⟨f24, e25, h26⟩ := rn_bind h16
      clear h16
      refine rn_lastore (w2 := (emb g1 g2 x d (C_sums c, C_costs c, C_rules c, C_sizes c, C_lengths c, C_letters c, C_textLength c, up2 (C_restSums c) j10 f24, C_restCosts c, C_restLengths c) u t a b m o E)) (by exact dc_Ch_matchTerminal 32 rfl) (by exact ag_restSums e11) e25 (by exact as_restSums e11) ?_
      refine rn_aload_n (by exact dc_Ch_matchTerminal 33 rfl) (by exact rfl) ?_
      refine rn_getf (v := .ref 17) fd_Ch_43 (by exact dc_Ch_matchTerminal 34 rfl) (by exact rfl) (by exact rfl) ?_
      refine rn_iload_n (by exact dc_Ch_matchTerminal 35 rfl) (by exact rfl) ?_
      obtain ⟨j27, e28, h29⟩ := rn_bind h26
      clear h26
      refine rn_aaload (y := 18 + j27) (by exact dc_Ch_matchTerminal 36 rfl) (by exact rfl) (by exact (aI_some e28).1) (by exact aq_restCosts e28) ?_
      refine rn_iload_n (by exact dc_Ch_matchTerminal 37 rfl) (by exact rfl) ?_
      refine rn_iload (by exact dc_Ch_matchTerminal 38 rfl) (by exact rfl) ?_
      obtain ⟨y30, e31, h33⟩ := rn_bind h29
      clear h29
      have jq32 : Rn Z M_Ch_matchTerminal 80 [some (.ref 4), none, some (.int v1), some (.int v2), none, none] [.int y30, .int v2, .ref (18 + j27)] (emb g1 g2 x d (C_sums c, C_costs c, C_rules c, C_sizes c, C_lengths c, C_letters c, C_textLength c, up2 (C_restSums c) j10 f24, C_restCosts c, C_restLengths c) u t a b m o E) 0 0 (rn_Ret Z none (emb g1 g2 x d c_r u t a b m o E)) := by
        obtain ⟨f41, e42, h43⟩ := rn_bind h33
        clear h33
        refine rn_iastore (w2 := (emb g1 g2 x d (C_sums c, C_costs c, C_rules c, C_sizes c, C_lengths c, C_letters c, C_textLength c, up2 (C_restSums c) j10 f24, up2 (C_restCosts c) j27 f41, C_restLengths c) u t a b m o E)) (by exact dc_Ch_matchTerminal 52 rfl) (by exact ag_restCosts e28) e42 (by exact as_restCosts e28) ?_
        refine rn_aload_n (by exact dc_Ch_matchTerminal 53 rfl) (by exact rfl) ?_
        refine rn_getf (v := .ref 23) fd_Ch_46 (by exact dc_Ch_matchTerminal 54 rfl) (by exact rfl) (by exact rfl) ?_
        refine rn_iload_n (by exact dc_Ch_matchTerminal 55 rfl) (by exact rfl) ?_
        obtain ⟨j44, e45, h46⟩ := rn_bind h43
        clear h43
        refine rn_aaload (y := 24 + j44) (by exact dc_Ch_matchTerminal 56 rfl) (by exact rfl) (by exact (aI_some e45).1) (by exact aq_restLengths e45) ?_
        refine rn_iload_n (by exact dc_Ch_matchTerminal 57 rfl) (by exact rfl) ?_
        refine rn_iconst (v := (1 : Int32)) (by exact dc_Ch_matchTerminal 58 rfl) (by decide) ?_
        obtain ⟨f47, e48, h49⟩ := rn_bind h46
        clear h46
        refine rn_iastore (w2 := (emb g1 g2 x d (C_sums c, C_costs c, C_rules c, C_sizes c, C_lengths c, C_letters c, C_textLength c, up2 (C_restSums c) j10 f24, up2 (C_restCosts c) j27 f41, up2 (C_restLengths c) j44 f47) u t a b m o E)) (by exact dc_Ch_matchTerminal 59 rfl) (by exact ag_restLengths e45) e48 (by exact as_restLengths e45) ?_
        cases h49
        exact rn_return (by exact dc_Ch_matchTerminal 60 rfl) (by exact rfl)
      by_cases c34 : y1 = 0
      · replace e31 := rn_ifp c34 e31
        refine rn_if_eq_t 79 (by exact dc_Ch_matchTerminal 39 rfl) (by exact rfl) c34 ?_
        refine rn_iconst (v := (-1 : Int32)) (by exact dc_Ch_matchTerminal 51 rfl) (by decide) ?_
        cases e31
        exact rn_weak _ (by repeat (first | exact rn_le_0 | apply rn_le_s | apply rn_le_x)) jq32
      · replace e31 := rn_ifn c34 e31
        refine rn_if_eq_f 79 (by exact dc_Ch_matchTerminal 39 rfl) (by exact rfl) c34 ?_
        refine rn_aload_n (by exact dc_Ch_matchTerminal 40 rfl) (by exact rfl) ?_
        refine rn_getf (v := .ref 17) fd_Ch_43 (by exact dc_Ch_matchTerminal 41 rfl) (by exact rfl) (by exact rfl) ?_
        refine rn_iload_n (by exact dc_Ch_matchTerminal 42 rfl) (by exact rfl) ?_
        refine rn_iconst (v := (1 : Int32)) (by exact dc_Ch_matchTerminal 43 rfl) (by decide) ?_
        refine rn_iadd (by exact dc_Ch_matchTerminal 44 rfl) ?_
        obtain ⟨j35, e36, h37⟩ := rn_bind e31
        clear e31
        refine rn_aaload (y := 18 + j35) (by exact dc_Ch_matchTerminal 45 rfl) (by exact rfl) (by exact (aI_some e36).1) (by exact aq_restCosts e36) ?_
        refine rn_iload_n (by exact dc_Ch_matchTerminal 46 rfl) (by exact rfl) ?_
        refine rn_iconst (v := (1 : Int32)) (by exact dc_Ch_matchTerminal 47 rfl) (by decide) ?_
        refine rn_iadd (by exact dc_Ch_matchTerminal 48 rfl) ?_
        obtain ⟨x38, e39, h40⟩ := rn_bind h37
        clear h37
        refine rn_iaload (by exact dc_Ch_matchTerminal 49 rfl) (by exact ag_restCosts e36) e39 ?_
        refine rn_goto 80 (by exact dc_Ch_matchTerminal 50 rfl) (by exact rfl) ?_
        cases h40
        exact rn_weak _ (by repeat (first | exact rn_le_0 | apply rn_le_s | apply rn_le_x)) jq32
    by_cases c17 : y1 = 0
    · replace e14 := rn_ifp c17 e14
      refine rn_if_eq_t 50 (by exact dc_Ch_matchTerminal 19 rfl) (by exact rfl) c17 ?_
      refine rn_lconst (v := (0 : Int64)) (by exact dc_Ch_matchTerminal 31 rfl) (by decide) ?_
      cases e14
      exact rn_weak _ (by repeat (first | exact rn_le_0 | apply rn_le_s | apply rn_le_x)) jq15
    · replace e14 := rn_ifn c17 e14
      refine rn_if_eq_f 50 (by exact dc_Ch_matchTerminal 19 rfl) (by exact rfl) c17 ?_
      refine rn_aload_n (by exact dc_Ch_matchTerminal 20 rfl) (by exact rfl) ?_
      refine rn_getf (v := .ref 11) fd_Ch_38 (by exact dc_Ch_matchTerminal 21 rfl) (by exact rfl) (by exact rfl) ?_
      refine rn_iload_n (by exact dc_Ch_matchTerminal 22 rfl) (by exact rfl) ?_
      refine rn_iconst (v := (1 : Int32)) (by exact dc_Ch_matchTerminal 23 rfl) (by decide) ?_
      refine rn_iadd (by exact dc_Ch_matchTerminal 24 rfl) ?_
      obtain ⟨j18, e19, h20⟩ := rn_bind e14
      clear e14
      refine rn_aaload (y := 12 + j18) (by exact dc_Ch_matchTerminal 25 rfl) (by exact rfl) (by exact (aI_some e19).1) (by exact aq_restSums e19) ?_
      refine rn_iload_n (by exact dc_Ch_matchTerminal 26 rfl) (by exact rfl) ?_
      refine rn_iconst (v := (1 : Int32)) (by exact dc_Ch_matchTerminal 27 rfl) (by decide) ?_
      refine rn_iadd (by exact dc_Ch_matchTerminal 28 rfl) ?_
      obtain ⟨x21, e22, h23⟩ := rn_bind h20
      clear h20
      refine rn_laload (by exact dc_Ch_matchTerminal 29 rfl) (by exact ag_restSums e19) e22 ?_
      refine rn_goto 51 (by exact dc_Ch_matchTerminal 30 rfl) (by exact rfl) ?_
      cases h23
      exact rn_weak _ (by repeat (first | exact rn_le_0 | apply rn_le_s | apply rn_le_x)) jq15
  by_cases c5 : v3 ≤ v2
  · replace e2 := rn_ifp c5 e2
    refine rn_icmp_ge_t 20 (by exact dc_Ch_matchTerminal 2 rfl) (by exact rfl) c5 ?_
    refine rn_iconst (v := (0 : Int32)) (by exact dc_Ch_matchTerminal 11 rfl) (by decide) ?_
    cases e2
    exact rn_weak _ (by repeat (first | exact rn_le_0 | apply rn_le_s | apply rn_le_x)) jq3
  · replace e2 := rn_ifn c5 e2
    refine rn_icmp_ge_f 20 (by exact dc_Ch_matchTerminal 2 rfl) (by exact rfl) c5 ?_
    refine rn_aload_n (by exact dc_Ch_matchTerminal 3 rfl) (by exact rfl) ?_
    refine rn_getf (v := .ref 10) fd_Ch_28 (by exact dc_Ch_matchTerminal 4 rfl) (by exact rfl) (by exact rfl) ?_
    refine rn_iload_n (by exact dc_Ch_matchTerminal 5 rfl) (by exact rfl) ?_
    obtain ⟨x6, e7, h8⟩ := rn_bind e2
    clear e2
    refine rn_caload (by exact dc_Ch_matchTerminal 6 rfl) (by exact rfl) e7 ?_
    refine rn_iload_n (by exact dc_Ch_matchTerminal 7 rfl) (by exact rfl) ?_
    by_cases c9 : ¬ x6 = v0
    · replace h8 := rn_ifp c9 h8
      refine rn_icmp_ne_t 20 (by exact dc_Ch_matchTerminal 8 rfl) (by exact rfl) c9 ?_
      refine rn_iconst (v := (0 : Int32)) (by exact dc_Ch_matchTerminal 11 rfl) (by decide) ?_
      cases h8
      exact rn_weak _ (by repeat (first | exact rn_le_0 | apply rn_le_s | apply rn_le_x)) jq3
    · replace h8 := rn_ifn c9 h8
      refine rn_icmp_ne_f 20 (by exact dc_Ch_matchTerminal 8 rfl) (by exact rfl) (Classical.not_not.mp c9) ?_
      refine rn_iconst (v := (1 : Int32)) (by exact dc_Ch_matchTerminal 9 rfl) (by decide) ?_
      refine rn_goto 21 (by exact dc_Ch_matchTerminal 10 rfl) (by exact rfl) ?_
      cases h8
      exact rn_weak _ (by repeat (first | exact rn_le_0 | apply rn_le_s | apply rn_le_x)) jq3
def F_Ch_matchNonterminal_L9 (l1 : Int32) (l2 : Int32) (l3 : Int32) (l4 : Int32) : Nat → tC → Int64 → Int32 → Int32 → Option (Int64 × Int32 × tC)
  | 0, _, _, _, _ => none
  | n + 1, c, l5, l7, l8 =>
    if l4 < l8 then (
      some (l5, l7, c)
    ) else (
      Option.bind (F_Ch_cell  l1 l3 l8) fun x3 =>
      Option.bind (aG (C_costs c) 390 x3) fun x5 =>
      Option.bind (
        if x5 = (-1 : Int32) then (
          some ((l5 : Int64), (l7 : Int32), c)
        ) else (
          Option.bind (aI 5 (l2 + (1 : Int32))) fun j15 =>
          Option.bind (aG (C_restCosts c j15) 9 l8) fun x18 =>
          if x18 = (-1 : Int32) then (
            some ((l5 : Int64), (l7 : Int32), c)
          ) else (
            Option.bind (aG (C_sums c) 390 x3) fun x22 =>
            Option.bind (aI 5 (l2 + (1 : Int32))) fun j25 =>
            Option.bind (aG (C_restSums c j25) 9 l8) fun x28 =>
            Option.bind (aG (C_costs c) 390 x3) fun x31 =>
            Option.bind (aI 5 (l2 + (1 : Int32))) fun j34 =>
            Option.bind (aG (C_restCosts c j34) 9 l8) fun x37 =>
            if l7 = (-1 : Int32) then (
              Option.bind (aI 4 l2) fun j41 =>
              Option.bind (aS (C_restLengths c j41) 9 l3 (l8 - l3)) fun f44 =>
              some ((l5 + (x22 * x28) : Int64), (x31 + x37 : Int32), (C_sums c, C_costs c, C_rules c, C_sizes c, C_lengths c, C_letters c, C_textLength c, C_restSums c, C_restCosts c, up2 (C_restLengths c) j41 f44))
            ) else (
              if l7 ≤ (x31 + x37) then (
                some ((l5 + (x22 * x28) : Int64), (l7 : Int32), c)
              ) else (
                Option.bind (aI 4 l2) fun j48 =>
                Option.bind (aS (C_restLengths c j48) 9 l3 (l8 - l3)) fun f51 =>
                some ((l5 + (x22 * x28) : Int64), (x31 + x37 : Int32), (C_sums c, C_costs c, C_rules c, C_sizes c, C_lengths c, C_letters c, C_textLength c, C_restSums c, C_restCosts c, up2 (C_restLengths c) j48 f51))
              )
            )
          )
        )
       : Option (Int64 × Int32 × tC)) fun (y8, y9, c10) =>
      F_Ch_matchNonterminal_L9 l1 l2 l3 l4 n c10 y8 y9 (l8 + 1)
    )
set_option maxHeartbeats 4000000 in
set_option maxRecDepth 100000 in
theorem p_Ch_matchNonterminal_L9 {Z : rn_Z} {g1 g2 : Nat} {x : tX} {d : tD}  {u : tU} {t : tT} {a : tG} {b : tG} {m : tM} {o : tO} {E : List rn_C}  {l1 : Int32} {l2 : Int32} {l3 : Int32} {l4 : Int32} {K : rn_K} {ca sa : Nat} {z5 : Int64} {z7 : Int32} {cz : tC} (hx : Rn Z M_Ch_matchNonterminal 131 [some (.ref 4), none, some (.int l2), some (.int l3), none, some (.long z5), none, some (.int z7), none, none, none] [] (emb g1 g2 x d cz u t a b m o E) ca sa K) (n : Nat) : ∀ (c : tC) (l5 : Int64) (l7 : Int32) (l8 : Int32), F_Ch_matchNonterminal_L9 l1 l2 l3 l4 n c l5 l7 l8 = some (z5, z7, cz) → Rn Z M_Ch_matchNonterminal 9 [some (.ref 4), some (.int l1), some (.int l2), some (.int l3), some (.int l4), some (.long l5), none, some (.int l7), some (.int l8), none, none] [] (emb g1 g2 x d c u t a b m o E) ca sa K := by
  induction n with
  | zero =>
    intro c l5 l7 l8 h
    rw [F_Ch_matchNonterminal_L9] at h
    cases h
  | succ n ih =>
    intro c l5 l7 l8 h
    rw [F_Ch_matchNonterminal_L9] at h
    refine rn_iload (by exact dc_Ch_matchNonterminal 6 rfl) (by exact rfl) ?_
    refine rn_iload (by exact dc_Ch_matchNonterminal 7 rfl) (by exact rfl) ?_
    by_cases c1 : l4 < l8
    · replace h := rn_ifp c1 h
      refine rn_icmp_gt_t 131 (by exact dc_Ch_matchNonterminal 8 rfl) (by exact rfl) c1 ?_
      cases h
      exact rn_weak _ (by repeat (first | exact rn_le_0 | apply rn_le_s | apply rn_le_x)) hx
    · replace h := rn_ifn c1 h
      refine rn_icmp_gt_f 131 (by exact dc_Ch_matchNonterminal 8 rfl) (by exact rfl) c1 ?_
      refine rn_iload_n (by exact dc_Ch_matchNonterminal 9 rfl) (by exact rfl) ?_
      refine rn_iload_n (by exact dc_Ch_matchNonterminal 10 rfl) (by exact rfl) ?_
      refine rn_iload (by exact dc_Ch_matchNonterminal 11 rfl) (by exact rfl) ?_
      obtain ⟨x3, e2, h4⟩ := rn_bind h
      clear h
      refine rn_invS0 (by exact c_Ch_cell e2) is_Ch_49 (by exact ⟨Nat.le_of_ble_eq_true rfl, Nat.le_of_ble_eq_true rfl⟩) (by exact dc_Ch_matchNonterminal 12 rfl) (by exact rfl) (by exact rfl) (by exact Nat.le_of_ble_eq_true rfl) ?_
      show Rn _ _ 23 [some (.ref 4), some (.int l1), some (.int l2), some (.int l3), some (.int l4), some (.long l5), none, some (.int l7), some (.int l8), none, none] [.int x3] (emb g1 g2 x d c u t a b m o E) _ _ _
      refine rn_istore (ls' := [some (.ref 4), some (.int l1), some (.int l2), some (.int l3), some (.int l4), some (.long l5), none, some (.int l7), some (.int l8), some (.int x3), none]) (by exact dc_Ch_matchNonterminal 13 rfl) (by decide) (by exact rfl) ?_
      refine rn_aload_n (by exact dc_Ch_matchNonterminal 14 rfl) (by exact rfl) ?_
      refine rn_getf (v := .ref 6) fd_Ch_15 (by exact dc_Ch_matchNonterminal 15 rfl) (by exact rfl) (by exact rfl) ?_
      refine rn_iload (by exact dc_Ch_matchNonterminal 16 rfl) (by exact rfl) ?_
      obtain ⟨x5, e6, h7⟩ := rn_bind h4
      clear h4
      refine rn_iaload (by exact dc_Ch_matchNonterminal 17 rfl) (by exact rfl) e6 ?_
      refine rn_iconst (v := (-1 : Int32)) (by exact dc_Ch_matchNonterminal 18 rfl) (by decide) ?_
      obtain ⟨⟨y8, y9, c10⟩, e11, h13⟩ := rn_bind h7
      clear h7
      dsimp only at h13
      have jq12 : Rn Z M_Ch_matchNonterminal 125 [some (.ref 4), some (.int l1), some (.int l2), some (.int l3), some (.int l4), some (.long y8), none, some (.int y9), some (.int l8), none, none] [] (emb g1 g2 x d c10 u t a b m o E) ca sa K := by
        refine rn_iinc (ls' := [some (.ref 4), some (.int l1), some (.int l2), some (.int l3), some (.int l4), some (.long y8), none, some (.int y9), some (.int (l8 + 1)), none, none]) (by exact dc_Ch_matchNonterminal 77 rfl) (by decide) (by exact rfl) (by exact rn_inc_1 _) (by exact rfl) ?_
        refine rn_goto 9 (by exact dc_Ch_matchNonterminal 78 rfl) (by exact rfl) ?_
        exact rn_weak _ (by repeat (first | exact rn_le_0 | apply rn_le_s | apply rn_le_x)) (ih _ _ _ _ h13)
      by_cases c14 : x5 = (-1 : Int32)
      · replace e11 := rn_ifp c14 e11
        refine rn_icmp_eq_t 125 (by exact dc_Ch_matchNonterminal 19 rfl) (by exact rfl) c14 ?_
        cases e11
        exact rn_weak _ (by repeat (first | exact rn_le_0 | apply rn_le_s | apply rn_le_x)) jq12
      · replace e11 := rn_ifn c14 e11
        refine rn_icmp_eq_f 125 (by exact dc_Ch_matchNonterminal 19 rfl) (by exact rfl) c14 ?_
        refine rn_aload_n (by exact dc_Ch_matchNonterminal 20 rfl) (by exact rfl) ?_
        refine rn_getf (v := .ref 17) fd_Ch_43 (by exact dc_Ch_matchNonterminal 21 rfl) (by exact rfl) (by exact rfl) ?_
        refine rn_iload_n (by exact dc_Ch_matchNonterminal 22 rfl) (by exact rfl) ?_
        refine rn_iconst (v := (1 : Int32)) (by exact dc_Ch_matchNonterminal 23 rfl) (by decide) ?_
        refine rn_iadd (by exact dc_Ch_matchNonterminal 24 rfl) ?_
        obtain ⟨j15, e16, h17⟩ := rn_bind e11
        clear e11
        refine rn_aaload (y := 18 + j15) (by exact dc_Ch_matchNonterminal 25 rfl) (by exact rfl) (by exact (aI_some e16).1) (by exact aq_restCosts e16) ?_
        refine rn_iload (by exact dc_Ch_matchNonterminal 26 rfl) (by exact rfl) ?_
        obtain ⟨x18, e19, h20⟩ := rn_bind h17
        clear h17
        refine rn_iaload (by exact dc_Ch_matchNonterminal 27 rfl) (by exact ag_restCosts e16) e19 ?_
        refine rn_iconst (v := (-1 : Int32)) (by exact dc_Ch_matchNonterminal 28 rfl) (by decide) ?_
        by_cases c21 : x18 = (-1 : Int32)
        · replace h20 := rn_ifp c21 h20
          refine rn_icmp_eq_t 125 (by exact dc_Ch_matchNonterminal 29 rfl) (by exact rfl) c21 ?_
          cases h20
          exact rn_weak _ (by repeat (first | exact rn_le_0 | apply rn_le_s | apply rn_le_x)) jq12
        · replace h20 := rn_ifn c21 h20
          refine rn_icmp_eq_f 125 (by exact dc_Ch_matchNonterminal 29 rfl) (by exact rfl) c21 ?_
          refine rn_lload (by exact dc_Ch_matchNonterminal 30 rfl) (by exact rfl) ?_
          refine rn_aload_n (by exact dc_Ch_matchNonterminal 31 rfl) (by exact rfl) ?_
          refine rn_getf (v := .ref 5) fd_Ch_11 (by exact dc_Ch_matchNonterminal 32 rfl) (by exact rfl) (by exact rfl) ?_
          refine rn_iload (by exact dc_Ch_matchNonterminal 33 rfl) (by exact rfl) ?_
          obtain ⟨x22, e23, h24⟩ := rn_bind h20
          clear h20
          refine rn_laload (by exact dc_Ch_matchNonterminal 34 rfl) (by exact rfl) e23 ?_
          refine rn_aload_n (by exact dc_Ch_matchNonterminal 35 rfl) (by exact rfl) ?_
          refine rn_getf (v := .ref 11) fd_Ch_38 (by exact dc_Ch_matchNonterminal 36 rfl) (by exact rfl) (by exact rfl) ?_
          refine rn_iload_n (by exact dc_Ch_matchNonterminal 37 rfl) (by exact rfl) ?_
          refine rn_iconst (v := (1 : Int32)) (by exact dc_Ch_matchNonterminal 38 rfl) (by decide) ?_
          refine rn_iadd (by exact dc_Ch_matchNonterminal 39 rfl) ?_
          obtain ⟨j25, e26, h27⟩ := rn_bind h24
          clear h24
          refine rn_aaload (y := 12 + j25) (by exact dc_Ch_matchNonterminal 40 rfl) (by exact rfl) (by exact (aI_some e26).1) (by exact aq_restSums e26) ?_
          refine rn_iload (by exact dc_Ch_matchNonterminal 41 rfl) (by exact rfl) ?_
          obtain ⟨x28, e29, h30⟩ := rn_bind h27
          clear h27
          refine rn_laload (by exact dc_Ch_matchNonterminal 42 rfl) (by exact ag_restSums e26) e29 ?_
          refine rn_lmul (by exact dc_Ch_matchNonterminal 43 rfl) ?_
          refine rn_ladd (by exact dc_Ch_matchNonterminal 44 rfl) ?_
          refine rn_lstore (ls' := [some (.ref 4), some (.int l1), some (.int l2), some (.int l3), some (.int l4), some (.long (l5 + (x22 * x28))), none, some (.int l7), some (.int l8), some (.int x3), none]) (by exact dc_Ch_matchNonterminal 45 rfl) (by decide) (by exact rfl) ?_
          refine rn_aload_n (by exact dc_Ch_matchNonterminal 46 rfl) (by exact rfl) ?_
          refine rn_getf (v := .ref 6) fd_Ch_15 (by exact dc_Ch_matchNonterminal 47 rfl) (by exact rfl) (by exact rfl) ?_
          refine rn_iload (by exact dc_Ch_matchNonterminal 48 rfl) (by exact rfl) ?_
          obtain ⟨x31, e32, h33⟩ := rn_bind h30
          clear h30
          refine rn_iaload (by exact dc_Ch_matchNonterminal 49 rfl) (by exact rfl) e32 ?_
          refine rn_aload_n (by exact dc_Ch_matchNonterminal 50 rfl) (by exact rfl) ?_
          refine rn_getf (v := .ref 17) fd_Ch_43 (by exact dc_Ch_matchNonterminal 51 rfl) (by exact rfl) (by exact rfl) ?_
          refine rn_iload_n (by exact dc_Ch_matchNonterminal 52 rfl) (by exact rfl) ?_
          refine rn_iconst (v := (1 : Int32)) (by exact dc_Ch_matchNonterminal 53 rfl) (by decide) ?_
          refine rn_iadd (by exact dc_Ch_matchNonterminal 54 rfl) ?_
          obtain ⟨j34, e35, h36⟩ := rn_bind h33
          clear h33
          refine rn_aaload (y := 18 + j34) (by exact dc_Ch_matchNonterminal 55 rfl) (by exact rfl) (by exact (aI_some e35).1) (by exact aq_restCosts e35) ?_
          refine rn_iload (by exact dc_Ch_matchNonterminal 56 rfl) (by exact rfl) ?_
          obtain ⟨x37, e38, h39⟩ := rn_bind h36
          clear h36
          refine rn_iaload (by exact dc_Ch_matchNonterminal 57 rfl) (by exact ag_restCosts e35) e38 ?_
          refine rn_iadd (by exact dc_Ch_matchNonterminal 58 rfl) ?_
          refine rn_istore (ls' := [some (.ref 4), some (.int l1), some (.int l2), some (.int l3), some (.int l4), some (.long (l5 + (x22 * x28))), none, some (.int l7), some (.int l8), some (.int x3), some (.int (x31 + x37))]) (by exact dc_Ch_matchNonterminal 59 rfl) (by decide) (by exact rfl) ?_
          refine rn_iload (by exact dc_Ch_matchNonterminal 60 rfl) (by exact rfl) ?_
          refine rn_iconst (v := (-1 : Int32)) (by exact dc_Ch_matchNonterminal 61 rfl) (by decide) ?_
          by_cases c40 : l7 = (-1 : Int32)
          · replace h39 := rn_ifp c40 h39
            refine rn_icmp_eq_t 109 (by exact dc_Ch_matchNonterminal 62 rfl) (by exact rfl) c40 ?_
            refine rn_iload (by exact dc_Ch_matchNonterminal 66 rfl) (by exact rfl) ?_
            refine rn_istore (ls' := [some (.ref 4), some (.int l1), some (.int l2), some (.int l3), some (.int l4), some (.long (l5 + (x22 * x28))), none, some (.int (x31 + x37)), some (.int l8), some (.int x3), some (.int (x31 + x37))]) (by exact dc_Ch_matchNonterminal 67 rfl) (by decide) (by exact rfl) ?_
            refine rn_aload_n (by exact dc_Ch_matchNonterminal 68 rfl) (by exact rfl) ?_
            refine rn_getf (v := .ref 23) fd_Ch_46 (by exact dc_Ch_matchNonterminal 69 rfl) (by exact rfl) (by exact rfl) ?_
            refine rn_iload_n (by exact dc_Ch_matchNonterminal 70 rfl) (by exact rfl) ?_
            obtain ⟨j41, e42, h43⟩ := rn_bind h39
            clear h39
            refine rn_aaload (y := 24 + j41) (by exact dc_Ch_matchNonterminal 71 rfl) (by exact rfl) (by exact (aI_some e42).1) (by exact aq_restLengths e42) ?_
            refine rn_iload_n (by exact dc_Ch_matchNonterminal 72 rfl) (by exact rfl) ?_
            refine rn_iload (by exact dc_Ch_matchNonterminal 73 rfl) (by exact rfl) ?_
            refine rn_iload_n (by exact dc_Ch_matchNonterminal 74 rfl) (by exact rfl) ?_
            refine rn_isub (by exact dc_Ch_matchNonterminal 75 rfl) ?_
            obtain ⟨f44, e45, h46⟩ := rn_bind h43
            clear h43
            refine rn_iastore (w2 := (emb g1 g2 x d (C_sums c, C_costs c, C_rules c, C_sizes c, C_lengths c, C_letters c, C_textLength c, C_restSums c, C_restCosts c, up2 (C_restLengths c) j41 f44) u t a b m o E)) (by exact dc_Ch_matchNonterminal 76 rfl) (by exact ag_restLengths e42) e45 (by exact as_restLengths e42) ?_
            cases h46
            exact rn_weak _ (by repeat (first | exact rn_le_0 | apply rn_le_s | apply rn_le_x)) jq12
          · replace h39 := rn_ifn c40 h39
            refine rn_icmp_eq_f 109 (by exact dc_Ch_matchNonterminal 62 rfl) (by exact rfl) c40 ?_
            refine rn_iload (by exact dc_Ch_matchNonterminal 63 rfl) (by exact rfl) ?_
            refine rn_iload (by exact dc_Ch_matchNonterminal 64 rfl) (by exact rfl) ?_
            by_cases c47 : l7 ≤ (x31 + x37)
            · replace h39 := rn_ifp c47 h39
              refine rn_icmp_ge_t 125 (by exact dc_Ch_matchNonterminal 65 rfl) (by exact rfl) c47 ?_
              cases h39
              exact rn_weak _ (by repeat (first | exact rn_le_0 | apply rn_le_s | apply rn_le_x)) jq12
            · replace h39 := rn_ifn c47 h39
              refine rn_icmp_ge_f 125 (by exact dc_Ch_matchNonterminal 65 rfl) (by exact rfl) c47 ?_
              refine rn_iload (by exact dc_Ch_matchNonterminal 66 rfl) (by exact rfl) ?_
              refine rn_istore (ls' := [some (.ref 4), some (.int l1), some (.int l2), some (.int l3), some (.int l4), some (.long (l5 + (x22 * x28))), none, some (.int (x31 + x37)), some (.int l8), some (.int x3), some (.int (x31 + x37))]) (by exact dc_Ch_matchNonterminal 67 rfl) (by decide) (by exact rfl) ?_
              refine rn_aload_n (by exact dc_Ch_matchNonterminal 68 rfl) (by exact rfl) ?_
              refine rn_getf (v := .ref 23) fd_Ch_46 (by exact dc_Ch_matchNonterminal 69 rfl) (by exact rfl) (by exact rfl) ?_
              refine rn_iload_n (by exact dc_Ch_matchNonterminal 70 rfl) (by exact rfl) ?_
              obtain ⟨j48, e49, h50⟩ := rn_bind h39
              clear h39
              refine rn_aaload (y := 24 + j48) (by exact dc_Ch_matchNonterminal 71 rfl) (by exact rfl) (by exact (aI_some e49).1) (by exact aq_restLengths e49) ?_
              refine rn_iload_n (by exact dc_Ch_matchNonterminal 72 rfl) (by exact rfl) ?_
              refine rn_iload (by exact dc_Ch_matchNonterminal 73 rfl) (by exact rfl) ?_
              refine rn_iload_n (by exact dc_Ch_matchNonterminal 74 rfl) (by exact rfl) ?_
              refine rn_isub (by exact dc_Ch_matchNonterminal 75 rfl) ?_
              obtain ⟨f51, e52, h53⟩ := rn_bind h50
              clear h50
              refine rn_iastore (w2 := (emb g1 g2 x d (C_sums c, C_costs c, C_rules c, C_sizes c, C_lengths c, C_letters c, C_textLength c, C_restSums c, C_restCosts c, up2 (C_restLengths c) j48 f51) u t a b m o E)) (by exact dc_Ch_matchNonterminal 76 rfl) (by exact ag_restLengths e49) e52 (by exact as_restLengths e49) ?_
              cases h53
              exact rn_weak _ (by repeat (first | exact rn_le_0 | apply rn_le_s | apply rn_le_x)) jq12
def F_Ch_matchNonterminal (c : tC) (v0 : Int32) (v1 : Int32) (v2 : Int32) (v3 : Int32) : Option tC :=
  Option.bind (F_Ch_matchNonterminal_L9 v0 v1 v2 v3 rn_fu c (0 : Int64) (-1 : Int32) v2) fun (y4, y5, c6) =>
  Option.bind (aI 5 v1) fun j7 =>
  Option.bind (aS (C_restSums c6 j7) 9 v2 y4) fun f10 =>
  Option.bind (aI 5 v1) fun j13 =>
  Option.bind (aS (C_restCosts c6 j13) 9 v2 y5) fun f16 =>
  some (C_sums c6, C_costs c6, C_rules c6, C_sizes c6, C_lengths c6, C_letters c6, C_textLength c6, up2 (C_restSums c6) j7 f10, up2 (C_restCosts c6) j13 f16, C_restLengths c6)
set_option maxHeartbeats 4000000 in
set_option maxRecDepth 100000 in
theorem c_Ch_matchNonterminal {Z : rn_Z} {g1 g2 : Nat} {x : tX} {d : tD} {c : tC} {u : tU} {t : tT} {a : tG} {b : tG} {m : tM} {o : tO} {E : List rn_C} {v0 : Int32} {v1 : Int32} {v2 : Int32} {v3 : Int32} {c_r : tC} (h : F_Ch_matchNonterminal c v0 v1 v2 v3 = some c_r) : Call Z M_Ch_matchNonterminal [.ref 4, .int v0, .int v1, .int v2, .int v3] (emb g1 g2 x d c u t a b m o E) 0 0 none (emb g1 g2 x d c_r u t a b m o E) := by
  unfold F_Ch_matchNonterminal at h
  refine rn_call (by decide) 6 (by exact Nat.le_of_ble_eq_true rfl) ?_
  show Rn Z M_Ch_matchNonterminal 0 [some (.ref 4), some (.int v0), some (.int v1), some (.int v2), some (.int v3), none, none, none, none, none, none] [] (emb g1 g2 x d c u t a b m o E) 0 0 _
  refine rn_lconst (v := (0 : Int64)) (by exact dc_Ch_matchNonterminal 0 rfl) (by decide) ?_
  refine rn_lstore (ls' := [some (.ref 4), some (.int v0), some (.int v1), some (.int v2), some (.int v3), some (.long (0 : Int64)), none, none, none, none, none]) (by exact dc_Ch_matchNonterminal 1 rfl) (by decide) (by exact rfl) ?_
  refine rn_iconst (v := (-1 : Int32)) (by exact dc_Ch_matchNonterminal 2 rfl) (by decide) ?_
  refine rn_istore (ls' := [some (.ref 4), some (.int v0), some (.int v1), some (.int v2), some (.int v3), some (.long (0 : Int64)), none, some (.int (-1 : Int32)), none, none, none]) (by exact dc_Ch_matchNonterminal 3 rfl) (by decide) (by exact rfl) ?_
  refine rn_iload_n (by exact dc_Ch_matchNonterminal 4 rfl) (by exact rfl) ?_
  refine rn_istore (ls' := [some (.ref 4), some (.int v0), some (.int v1), some (.int v2), some (.int v3), some (.long (0 : Int64)), none, some (.int (-1 : Int32)), some (.int v2), none, none]) (by exact dc_Ch_matchNonterminal 5 rfl) (by decide) (by exact rfl) ?_
  obtain ⟨⟨y4, y5, c6⟩, e1, h3⟩ := rn_bind h
  clear h
  dsimp only at h3
  have jx2 : Rn Z M_Ch_matchNonterminal 131 [some (.ref 4), none, some (.int v1), some (.int v2), none, some (.long y4), none, some (.int y5), none, none, none] [] (emb g1 g2 x d c6 u t a b m o E) 0 0 (rn_Ret Z none (emb g1 g2 x d c_r u t a b m o E)) := by
    refine rn_aload_n (by exact dc_Ch_matchNonterminal 79 rfl) (by exact rfl) ?_
    refine rn_getf (v := .ref 11) fd_Ch_38 (by exact dc_Ch_matchNonterminal 80 rfl) (by exact rfl) (by exact rfl) ?_
    refine rn_iload_n (by exact dc_Ch_matchNonterminal 81 rfl) (by exact rfl) ?_
    obtain ⟨j7, e8, h9⟩ := rn_bind h3
    clear h3
    refine rn_aaload (y := 12 + j7) (by exact dc_Ch_matchNonterminal 82 rfl) (by exact rfl) (by exact (aI_some e8).1) (by exact aq_restSums e8) ?_
    refine rn_iload_n (by exact dc_Ch_matchNonterminal 83 rfl) (by exact rfl) ?_
    refine rn_lload (by exact dc_Ch_matchNonterminal 84 rfl) (by exact rfl) ?_
    obtain ⟨f10, e11, h12⟩ := rn_bind h9
    clear h9
    refine rn_lastore (w2 := (emb g1 g2 x d (C_sums c6, C_costs c6, C_rules c6, C_sizes c6, C_lengths c6, C_letters c6, C_textLength c6, up2 (C_restSums c6) j7 f10, C_restCosts c6, C_restLengths c6) u t a b m o E)) (by exact dc_Ch_matchNonterminal 85 rfl) (by exact ag_restSums e8) e11 (by exact as_restSums e8) ?_
    refine rn_aload_n (by exact dc_Ch_matchNonterminal 86 rfl) (by exact rfl) ?_
    refine rn_getf (v := .ref 17) fd_Ch_43 (by exact dc_Ch_matchNonterminal 87 rfl) (by exact rfl) (by exact rfl) ?_
    refine rn_iload_n (by exact dc_Ch_matchNonterminal 88 rfl) (by exact rfl) ?_
    obtain ⟨j13, e14, h15⟩ := rn_bind h12
    clear h12
    refine rn_aaload (y := 18 + j13) (by exact dc_Ch_matchNonterminal 89 rfl) (by exact rfl) (by exact (aI_some e14).1) (by exact aq_restCosts e14) ?_
    refine rn_iload_n (by exact dc_Ch_matchNonterminal 90 rfl) (by exact rfl) ?_
    refine rn_iload (by exact dc_Ch_matchNonterminal 91 rfl) (by exact rfl) ?_
    obtain ⟨f16, e17, h18⟩ := rn_bind h15
    clear h15
    refine rn_iastore (w2 := (emb g1 g2 x d (C_sums c6, C_costs c6, C_rules c6, C_sizes c6, C_lengths c6, C_letters c6, C_textLength c6, up2 (C_restSums c6) j7 f10, up2 (C_restCosts c6) j13 f16, C_restLengths c6) u t a b m o E)) (by exact dc_Ch_matchNonterminal 92 rfl) (by exact ag_restCosts e14) e17 (by exact as_restCosts e14) ?_
    cases h18
    exact rn_return (by exact dc_Ch_matchNonterminal 93 rfl) (by exact rfl)
  exact rn_weak _ (by repeat (first | exact rn_le_0 | apply rn_le_s | apply rn_le_x)) (p_Ch_matchNonterminal_L9 jx2 _ _ _ _ _ e1)
def F_Ch_matchBody_L11 (l2 : Int32) (l3 : Int32) (l4 : Int32) (l5 : Int32) : Nat → tC → Int32 → Option tC
  | 0, _, _ => none
  | n + 1, c, l6 =>
    if l4 < l6 then (
      some c
    ) else (
      Option.bind (aI 5 l5) fun j2 =>
      Option.bind (
        if ¬ l6 = l4 then (
          some (0 : Int64)
        ) else (
          some (1 : Int64)
        )
       : Option Int64) fun y5 =>
      Option.bind (aS (C_restSums c j2) 9 l6 y5) fun f10 =>
      Option.bind (aI 5 l5) fun j13 =>
      Option.bind (
        if ¬ l6 = l4 then (
          some (-1 : Int32)
        ) else (
          some (0 : Int32)
        )
       : Option Int32) fun y16 =>
      Option.bind (aS (C_restCosts c j13) 9 l6 y16) fun f21 =>
      F_Ch_matchBody_L11 l2 l3 l4 l5 n (C_sums c, C_costs c, C_rules c, C_sizes c, C_lengths c, C_letters c, C_textLength c, up2 (C_restSums c) j2 f10, up2 (C_restCosts c) j13 f21, C_restLengths c) (l6 + 1)
    )
set_option maxHeartbeats 4000000 in
set_option maxRecDepth 100000 in
theorem p_Ch_matchBody_L11 {Z : rn_Z} {g1 g2 : Nat} {x : tX} {d : tD}  {u : tU} {t : tT} {a : tG} {b : tG} {m : tM} {o : tO} {E : List rn_C}  {l2 : Int32} {l3 : Int32} {l4 : Int32} {l5 : Int32} {K : rn_K} {ca sa : Nat} {cz : tC} (hx : Rn Z M_Ch_matchBody 68 [some (.ref 4), some (.ref 35), some (.int l2), some (.int l3), some (.int l4), some (.int l5), none, none, none, none] [] (emb g1 g2 x d cz u t a b m o E) ca sa K) (n : Nat) : ∀ (c : tC) (l6 : Int32), F_Ch_matchBody_L11 l2 l3 l4 l5 n c l6 = some cz → Rn Z M_Ch_matchBody 11 [some (.ref 4), some (.ref 35), some (.int l2), some (.int l3), some (.int l4), some (.int l5), some (.int l6), none, none, none] [] (emb g1 g2 x d c u t a b m o E) ca sa K := by
  induction n with
  | zero =>
    intro c l6 h
    rw [F_Ch_matchBody_L11] at h
    cases h
  | succ n ih =>
    intro c l6 h
    rw [F_Ch_matchBody_L11] at h
    refine rn_iload (by exact dc_Ch_matchBody 7 rfl) (by exact rfl) ?_
    refine rn_iload (by exact dc_Ch_matchBody 8 rfl) (by exact rfl) ?_
    by_cases c1 : l4 < l6
    · replace h := rn_ifp c1 h
      refine rn_icmp_gt_t 68 (by exact dc_Ch_matchBody 9 rfl) (by exact rfl) c1 ?_
      cases h
      exact rn_weak _ (by repeat (first | exact rn_le_0 | apply rn_le_s | apply rn_le_x)) hx
    · replace h := rn_ifn c1 h
      refine rn_icmp_gt_f 68 (by exact dc_Ch_matchBody 9 rfl) (by exact rfl) c1 ?_
      refine rn_aload_n (by exact dc_Ch_matchBody 10 rfl) (by exact rfl) ?_
      refine rn_getf (v := .ref 11) fd_Ch_38 (by exact dc_Ch_matchBody 11 rfl) (by exact rfl) (by exact rfl) ?_
      refine rn_iload (by exact dc_Ch_matchBody 12 rfl) (by exact rfl) ?_
      obtain ⟨j2, e3, h4⟩ := rn_bind h
      clear h
      refine rn_aaload (y := 12 + j2) (by exact dc_Ch_matchBody 13 rfl) (by exact rfl) (by exact (aI_some e3).1) (by exact aq_restSums e3) ?_
      refine rn_iload (by exact dc_Ch_matchBody 14 rfl) (by exact rfl) ?_
      refine rn_iload (by exact dc_Ch_matchBody 15 rfl) (by exact rfl) ?_
      refine rn_iload (by exact dc_Ch_matchBody 16 rfl) (by exact rfl) ?_
      obtain ⟨y5, e6, h8⟩ := rn_bind h4
      clear h4
      have jq7 : Rn Z M_Ch_matchBody 39 [some (.ref 4), some (.ref 35), some (.int l2), some (.int l3), some (.int l4), some (.int l5), some (.int l6), none, none, none] [.long y5, .int l6, .ref (12 + j2)] (emb g1 g2 x d c u t a b m o E) ca sa K := by
        obtain ⟨f10, e11, h12⟩ := rn_bind h8
        clear h8
        refine rn_lastore (w2 := (emb g1 g2 x d (C_sums c, C_costs c, C_rules c, C_sizes c, C_lengths c, C_letters c, C_textLength c, up2 (C_restSums c) j2 f10, C_restCosts c, C_restLengths c) u t a b m o E)) (by exact dc_Ch_matchBody 21 rfl) (by exact ag_restSums e3) e11 (by exact as_restSums e3) ?_
        refine rn_aload_n (by exact dc_Ch_matchBody 22 rfl) (by exact rfl) ?_
        refine rn_getf (v := .ref 17) fd_Ch_43 (by exact dc_Ch_matchBody 23 rfl) (by exact rfl) (by exact rfl) ?_
        refine rn_iload (by exact dc_Ch_matchBody 24 rfl) (by exact rfl) ?_
        obtain ⟨j13, e14, h15⟩ := rn_bind h12
        clear h12
        refine rn_aaload (y := 18 + j13) (by exact dc_Ch_matchBody 25 rfl) (by exact rfl) (by exact (aI_some e14).1) (by exact aq_restCosts e14) ?_
        refine rn_iload (by exact dc_Ch_matchBody 26 rfl) (by exact rfl) ?_
        refine rn_iload (by exact dc_Ch_matchBody 27 rfl) (by exact rfl) ?_
        refine rn_iload (by exact dc_Ch_matchBody 28 rfl) (by exact rfl) ?_
        obtain ⟨y16, e17, h19⟩ := rn_bind h15
        clear h15
        have jq18 : Rn Z M_Ch_matchBody 61 [some (.ref 4), some (.ref 35), some (.int l2), some (.int l3), some (.int l4), some (.int l5), some (.int l6), none, none, none] [.int y16, .int l6, .ref (18 + j13)] (emb g1 g2 x d (C_sums c, C_costs c, C_rules c, C_sizes c, C_lengths c, C_letters c, C_textLength c, up2 (C_restSums c) j2 f10, C_restCosts c, C_restLengths c) u t a b m o E) ca sa K := by
          obtain ⟨f21, e22, h23⟩ := rn_bind h19
          clear h19
          refine rn_iastore (w2 := (emb g1 g2 x d (C_sums c, C_costs c, C_rules c, C_sizes c, C_lengths c, C_letters c, C_textLength c, up2 (C_restSums c) j2 f10, up2 (C_restCosts c) j13 f21, C_restLengths c) u t a b m o E)) (by exact dc_Ch_matchBody 33 rfl) (by exact ag_restCosts e14) e22 (by exact as_restCosts e14) ?_
          refine rn_iinc (ls' := [some (.ref 4), some (.ref 35), some (.int l2), some (.int l3), some (.int l4), some (.int l5), some (.int (l6 + 1)), none, none, none]) (by exact dc_Ch_matchBody 34 rfl) (by decide) (by exact rfl) (by exact rn_inc_1 _) (by exact rfl) ?_
          refine rn_goto 11 (by exact dc_Ch_matchBody 35 rfl) (by exact rfl) ?_
          exact rn_weak _ (by repeat (first | exact rn_le_0 | apply rn_le_s | apply rn_le_x)) (ih _ _ h23)
        by_cases c20 : ¬ l6 = l4
        · replace e17 := rn_ifp c20 e17
          refine rn_icmp_ne_t 60 (by exact dc_Ch_matchBody 29 rfl) (by exact rfl) c20 ?_
          refine rn_iconst (v := (-1 : Int32)) (by exact dc_Ch_matchBody 32 rfl) (by decide) ?_
          cases e17
          exact rn_weak _ (by repeat (first | exact rn_le_0 | apply rn_le_s | apply rn_le_x)) jq18
        · replace e17 := rn_ifn c20 e17
          refine rn_icmp_ne_f 60 (by exact dc_Ch_matchBody 29 rfl) (by exact rfl) (Classical.not_not.mp c20) ?_
          refine rn_iconst (v := (0 : Int32)) (by exact dc_Ch_matchBody 30 rfl) (by decide) ?_
          refine rn_goto 61 (by exact dc_Ch_matchBody 31 rfl) (by exact rfl) ?_
          cases e17
          exact rn_weak _ (by repeat (first | exact rn_le_0 | apply rn_le_s | apply rn_le_x)) jq18
      by_cases c9 : ¬ l6 = l4
      · replace e6 := rn_ifp c9 e6
        refine rn_icmp_ne_t 38 (by exact dc_Ch_matchBody 17 rfl) (by exact rfl) c9 ?_
        refine rn_lconst (v := (0 : Int64)) (by exact dc_Ch_matchBody 20 rfl) (by decide) ?_
        cases e6
        exact rn_weak _ (by repeat (first | exact rn_le_0 | apply rn_le_s | apply rn_le_x)) jq7
      · replace e6 := rn_ifn c9 e6
        refine rn_icmp_ne_f 38 (by exact dc_Ch_matchBody 17 rfl) (by exact rfl) (Classical.not_not.mp c9) ?_
        refine rn_lconst (v := (1 : Int64)) (by exact dc_Ch_matchBody 18 rfl) (by decide) ?_
        refine rn_goto 39 (by exact dc_Ch_matchBody 19 rfl) (by exact rfl) ?_
        cases e6
        exact rn_weak _ (by repeat (first | exact rn_le_0 | apply rn_le_s | apply rn_le_x)) jq7
def F_Ch_matchBody_L104 (l2 : Int32) (l3 : Int32) (l4 : Int32) (l6 : Int32) (l7 : Int32) (l8 : Int32) : Nat → tC → Int32 → Option tC
  | 0, _, _ => none
  | n + 1, c, l9 =>
    if l8 < l9 then (
      some c
    ) else (
      Option.bind (F_Gr_isNonterminal  l7) fun x3 =>
      Option.bind (
        if x3 = 0 then (
          Option.bind (F_Ch_matchTerminal c l7 l6 l9 l4) fun c11 =>
          some c11
        ) else (
          Option.bind (F_Ch_matchNonterminal c l7 l6 l9 l4) fun c14 =>
          some c14
        )
       : Option tC) fun c5 =>
      F_Ch_matchBody_L104 l2 l3 l4 l6 l7 l8 n c5 (l9 + 1)
    )
set_option maxHeartbeats 4000000 in
set_option maxRecDepth 100000 in
theorem p_Ch_matchBody_L104 {Z : rn_Z} {g1 g2 : Nat} {x : tX} {d : tD}  {u : tU} {t : tT} {a : tG} {b : tG} {m : tM} {o : tO} {E : List rn_C}  {l2 : Int32} {l3 : Int32} {l4 : Int32} {l6 : Int32} {l7 : Int32} {l8 : Int32} {K : rn_K} {ca sa : Nat} {cz : tC} (hx : Rn Z M_Ch_matchBody 152 [some (.ref 4), some (.ref 35), some (.int l2), some (.int l3), some (.int l4), none, some (.int l6), none, none, none] [] (emb g1 g2 x d cz u t a b m o E) ca sa K) (n : Nat) : ∀ (c : tC) (l9 : Int32), F_Ch_matchBody_L104 l2 l3 l4 l6 l7 l8 n c l9 = some cz → Rn Z M_Ch_matchBody 104 [some (.ref 4), some (.ref 35), some (.int l2), some (.int l3), some (.int l4), none, some (.int l6), some (.int l7), some (.int l8), some (.int l9)] [] (emb g1 g2 x d c u t a b m o E) ca sa K := by
  induction n with
  | zero =>
    intro c l9 h
    rw [F_Ch_matchBody_L104] at h
    cases h
  | succ n ih =>
    intro c l9 h
    rw [F_Ch_matchBody_L104] at h
    refine rn_iload (by exact dc_Ch_matchBody 55 rfl) (by exact rfl) ?_
    refine rn_iload (by exact dc_Ch_matchBody 56 rfl) (by exact rfl) ?_
    by_cases c1 : l8 < l9
    · replace h := rn_ifp c1 h
      refine rn_icmp_gt_t 152 (by exact dc_Ch_matchBody 57 rfl) (by exact rfl) c1 ?_
      cases h
      exact rn_weak _ (by repeat (first | exact rn_le_0 | apply rn_le_s | apply rn_le_x)) hx
    · replace h := rn_ifn c1 h
      refine rn_icmp_gt_f 152 (by exact dc_Ch_matchBody 57 rfl) (by exact rfl) c1 ?_
      refine rn_iload (by exact dc_Ch_matchBody 58 rfl) (by exact rfl) ?_
      obtain ⟨x3, e2, h4⟩ := rn_bind h
      clear h
      refine rn_invS0 (by exact c_Gr_isNonterminal e2) is_Ch_100 (by exact ⟨Nat.le_of_ble_eq_true rfl, Nat.le_of_ble_eq_true rfl⟩) (by exact dc_Ch_matchBody 59 rfl) (by exact rfl) (by exact rfl) (by exact Nat.le_of_ble_eq_true rfl) ?_
      show Rn _ _ 116 [some (.ref 4), some (.ref 35), some (.int l2), some (.int l3), some (.int l4), none, some (.int l6), some (.int l7), some (.int l8), some (.int l9)] [.int x3] (emb g1 g2 x d c u t a b m o E) _ _ _
      obtain ⟨c5, e6, h8⟩ := rn_bind h4
      clear h4
      have jq7 : Rn Z M_Ch_matchBody 146 [some (.ref 4), some (.ref 35), some (.int l2), some (.int l3), some (.int l4), none, some (.int l6), some (.int l7), some (.int l8), some (.int l9)] [] (emb g1 g2 x d c5 u t a b m o E) ca sa K := by
        refine rn_iinc (ls' := [some (.ref 4), some (.ref 35), some (.int l2), some (.int l3), some (.int l4), none, some (.int l6), some (.int l7), some (.int l8), some (.int (l9 + 1))]) (by exact dc_Ch_matchBody 74 rfl) (by decide) (by exact rfl) (by exact rn_inc_1 _) (by exact rfl) ?_
        refine rn_goto 104 (by exact dc_Ch_matchBody 75 rfl) (by exact rfl) ?_
        exact rn_weak _ (by repeat (first | exact rn_le_0 | apply rn_le_s | apply rn_le_x)) (ih _ _ h8)
      by_cases c9 : x3 = 0
      · replace e6 := rn_ifp c9 e6
        refine rn_if_eq_t 134 (by exact dc_Ch_matchBody 60 rfl) (by exact rfl) c9 ?_
        refine rn_aload_n (by exact dc_Ch_matchBody 68 rfl) (by exact rfl) ?_
        refine rn_iload (by exact dc_Ch_matchBody 69 rfl) (by exact rfl) ?_
        refine rn_iload (by exact dc_Ch_matchBody 70 rfl) (by exact rfl) ?_
        refine rn_iload (by exact dc_Ch_matchBody 71 rfl) (by exact rfl) ?_
        refine rn_iload (by exact dc_Ch_matchBody 72 rfl) (by exact rfl) ?_
        obtain ⟨c11, e10, h12⟩ := rn_bind e6
        clear e6
        refine rn_invV0 (by exact c_Ch_matchTerminal e10) iv_Ch_108 (by exact ⟨Nat.le_of_ble_eq_true rfl, Nat.le_of_ble_eq_true rfl⟩) (by exact dc_Ch_matchBody 73 rfl) (by exact rfl) (by exact rfl) (by exact rfl) (by exact Nat.le_of_ble_eq_true rfl) ?_
        show Rn _ _ 146 [some (.ref 4), some (.ref 35), some (.int l2), some (.int l3), some (.int l4), none, some (.int l6), some (.int l7), some (.int l8), some (.int l9)] [] (emb g1 g2 x d c11 u t a b m o E) _ _ _
        cases h12
        exact rn_weak _ (by repeat (first | exact rn_le_0 | apply rn_le_s | apply rn_le_x)) jq7
      · replace e6 := rn_ifn c9 e6
        refine rn_if_eq_f 134 (by exact dc_Ch_matchBody 60 rfl) (by exact rfl) c9 ?_
        refine rn_aload_n (by exact dc_Ch_matchBody 61 rfl) (by exact rfl) ?_
        refine rn_iload (by exact dc_Ch_matchBody 62 rfl) (by exact rfl) ?_
        refine rn_iload (by exact dc_Ch_matchBody 63 rfl) (by exact rfl) ?_
        refine rn_iload (by exact dc_Ch_matchBody 64 rfl) (by exact rfl) ?_
        refine rn_iload (by exact dc_Ch_matchBody 65 rfl) (by exact rfl) ?_
        obtain ⟨c14, e13, h15⟩ := rn_bind e6
        clear e6
        refine rn_invV0 (by exact c_Ch_matchNonterminal e13) iv_Ch_104 (by exact ⟨Nat.le_of_ble_eq_true rfl, Nat.le_of_ble_eq_true rfl⟩) (by exact dc_Ch_matchBody 66 rfl) (by exact rfl) (by exact rfl) (by exact rfl) (by exact Nat.le_of_ble_eq_true rfl) ?_
        show Rn _ _ 131 [some (.ref 4), some (.ref 35), some (.int l2), some (.int l3), some (.int l4), none, some (.int l6), some (.int l7), some (.int l8), some (.int l9)] [] (emb g1 g2 x d c14 u t a b m o E) _ _ _
        refine rn_goto 146 (by exact dc_Ch_matchBody 67 rfl) (by exact rfl) ?_
        cases h15
        exact rn_weak _ (by repeat (first | exact rn_le_0 | apply rn_le_s | apply rn_le_x)) jq7
def F_Ch_matchBody_L74 (a : tG) (l2 : Int32) (l3 : Int32) (l4 : Int32) : Nat → tC → Int32 → Option tC
  | 0, _, _ => none
  | n + 1, c, l6 =>
    if l6 < 0 then (
      some c
    ) else (
      Option.bind (F_Gr_symbol a l2 l6) fun x3 =>
      Option.bind (
        if ¬ l6 = 0 then (
          some (l4 : Int32)
        ) else (
          some (l3 : Int32)
        )
       : Option Int32) fun y5 =>
      Option.bind (F_Ch_matchBody_L104 l2 l3 l4 l6 x3 y5 rn_fu c l3) fun c13 =>
      F_Ch_matchBody_L74 a l2 l3 l4 n c13 (l6 + (-1))
    )
set_option maxHeartbeats 4000000 in
set_option maxRecDepth 100000 in
theorem p_Ch_matchBody_L74 {Z : rn_Z} {g1 g2 : Nat} {x : tX} {d : tD}  {u : tU} {t : tT} {a : tG} {b : tG} {m : tM} {o : tO} {E : List rn_C}  {l2 : Int32} {l3 : Int32} {l4 : Int32} {K : rn_K} {ca sa : Nat} {cz : tC} (hx : Rn Z M_Ch_matchBody 158 [none, none, none, none, none, none, none, none, none, none] [] (emb g1 g2 x d cz u t a b m o E) ca sa K) (n : Nat) : ∀ (c : tC) (l6 : Int32), F_Ch_matchBody_L74 a l2 l3 l4 n c l6 = some cz → Rn Z M_Ch_matchBody 74 [some (.ref 4), some (.ref 35), some (.int l2), some (.int l3), some (.int l4), none, some (.int l6), none, none, none] [] (emb g1 g2 x d c u t a b m o E) ca sa K := by
  induction n with
  | zero =>
    intro c l6 h
    rw [F_Ch_matchBody_L74] at h
    cases h
  | succ n ih =>
    intro c l6 h
    rw [F_Ch_matchBody_L74] at h
    refine rn_iload (by exact dc_Ch_matchBody 40 rfl) (by exact rfl) ?_
    by_cases c1 : l6 < 0
    · replace h := rn_ifp c1 h
      refine rn_if_lt_t 158 (by exact dc_Ch_matchBody 41 rfl) (by exact rfl) c1 ?_
      cases h
      exact rn_weak _ (by repeat (first | exact rn_le_0 | apply rn_le_s | apply rn_le_x)) hx
    · replace h := rn_ifn c1 h
      refine rn_if_lt_f 158 (by exact dc_Ch_matchBody 41 rfl) (by exact rfl) c1 ?_
      refine rn_aload_n (by exact dc_Ch_matchBody 42 rfl) (by exact rfl) ?_
      refine rn_iload_n (by exact dc_Ch_matchBody 43 rfl) (by exact rfl) ?_
      refine rn_iload (by exact dc_Ch_matchBody 44 rfl) (by exact rfl) ?_
      obtain ⟨x3, e2, h4⟩ := rn_bind h
      clear h
      refine rn_invV0 (by exact c_Gr_symbol e2) iv_Ch_96 (by exact ⟨Nat.le_of_ble_eq_true rfl, Nat.le_of_ble_eq_true rfl⟩) (by exact dc_Ch_matchBody 45 rfl) (by exact rfl) (by exact rfl) (by exact rfl) (by exact Nat.le_of_ble_eq_true rfl) ?_
      show Rn _ _ 86 [some (.ref 4), some (.ref 35), some (.int l2), some (.int l3), some (.int l4), none, some (.int l6), none, none, none] [.int x3] (emb g1 g2 x d c u t a b m o E) _ _ _
      refine rn_istore (ls' := [some (.ref 4), some (.ref 35), some (.int l2), some (.int l3), some (.int l4), none, some (.int l6), some (.int x3), none, none]) (by exact dc_Ch_matchBody 46 rfl) (by decide) (by exact rfl) ?_
      refine rn_iload (by exact dc_Ch_matchBody 47 rfl) (by exact rfl) ?_
      obtain ⟨y5, e6, h8⟩ := rn_bind h4
      clear h4
      have jq7 : Rn Z M_Ch_matchBody 99 [some (.ref 4), some (.ref 35), some (.int l2), some (.int l3), some (.int l4), none, some (.int l6), some (.int x3), none, none] [.int y5] (emb g1 g2 x d c u t a b m o E) ca sa K := by
        refine rn_istore (ls' := [some (.ref 4), some (.ref 35), some (.int l2), some (.int l3), some (.int l4), none, some (.int l6), some (.int x3), some (.int y5), none]) (by exact dc_Ch_matchBody 52 rfl) (by decide) (by exact rfl) ?_
        refine rn_iload_n (by exact dc_Ch_matchBody 53 rfl) (by exact rfl) ?_
        refine rn_istore (ls' := [some (.ref 4), some (.ref 35), some (.int l2), some (.int l3), some (.int l4), none, some (.int l6), some (.int x3), some (.int y5), some (.int l3)]) (by exact dc_Ch_matchBody 54 rfl) (by decide) (by exact rfl) ?_
        obtain ⟨c13, e10, h12⟩ := rn_bind h8
        clear h8
        have jx11 : Rn Z M_Ch_matchBody 152 [some (.ref 4), some (.ref 35), some (.int l2), some (.int l3), some (.int l4), none, some (.int l6), none, none, none] [] (emb g1 g2 x d c13 u t a b m o E) ca sa K := by
          refine rn_iinc (ls' := [some (.ref 4), some (.ref 35), some (.int l2), some (.int l3), some (.int l4), none, some (.int (l6 + (-1))), none, none, none]) (by exact dc_Ch_matchBody 76 rfl) (by decide) (by exact rfl) (by exact rn_inc_m1 _) (by exact rfl) ?_
          refine rn_goto 74 (by exact dc_Ch_matchBody 77 rfl) (by exact rfl) ?_
          exact rn_weak _ (by repeat (first | exact rn_le_0 | apply rn_le_s | apply rn_le_x)) (ih _ _ h12)
        exact rn_weak _ (by repeat (first | exact rn_le_0 | apply rn_le_s | apply rn_le_x)) (p_Ch_matchBody_L104 jx11 _ _ _ e10)
      by_cases c9 : ¬ l6 = 0
      · replace e6 := rn_ifp c9 e6
        refine rn_if_ne_t 97 (by exact dc_Ch_matchBody 48 rfl) (by exact rfl) c9 ?_
        refine rn_iload (by exact dc_Ch_matchBody 51 rfl) (by exact rfl) ?_
        cases e6
        exact rn_weak _ (by repeat (first | exact rn_le_0 | apply rn_le_s | apply rn_le_x)) jq7
      · replace e6 := rn_ifn c9 e6
        refine rn_if_ne_f 97 (by exact dc_Ch_matchBody 48 rfl) (by exact rfl) (Classical.not_not.mp c9) ?_
        refine rn_iload_n (by exact dc_Ch_matchBody 49 rfl) (by exact rfl) ?_
        refine rn_goto 99 (by exact dc_Ch_matchBody 50 rfl) (by exact rfl) ?_
        cases e6
        exact rn_weak _ (by repeat (first | exact rn_le_0 | apply rn_le_s | apply rn_le_x)) jq7
def F_Ch_matchBody (c : tC) (a : tG) (v0 : Int32) (v1 : Int32) (v2 : Int32) : Option tC :=
  Option.bind (aG (G_bodyLengths a) 12 v0) fun x1 =>
  Option.bind (F_Ch_matchBody_L11 v0 v1 v2 x1 rn_fu c v1) fun c7 =>
  Option.bind (F_Ch_matchBody_L74 a v0 v1 v2 rn_fu c7 (x1 - (1 : Int32))) fun c11 =>
  some c11
set_option maxHeartbeats 4000000 in
set_option maxRecDepth 100000 in
theorem c_Ch_matchBody {Z : rn_Z} {g1 g2 : Nat} {x : tX} {d : tD} {c : tC} {u : tU} {t : tT} {a : tG} {b : tG} {m : tM} {o : tO} {E : List rn_C} {v0 : Int32} {v1 : Int32} {v2 : Int32} {c_r : tC} (h : F_Ch_matchBody c a v0 v1 v2 = some c_r) : Call Z M_Ch_matchBody [.ref 4, .ref 35, .int v0, .int v1, .int v2] (emb g1 g2 x d c u t a b m o E) 0 0 none (emb g1 g2 x d c_r u t a b m o E) := by
  unfold F_Ch_matchBody at h
  refine rn_call (by decide) 5 (by exact Nat.le_of_ble_eq_true rfl) ?_
  show Rn Z M_Ch_matchBody 0 [some (.ref 4), some (.ref 35), some (.int v0), some (.int v1), some (.int v2), none, none, none, none, none] [] (emb g1 g2 x d c u t a b m o E) 0 0 _
  refine rn_aload_n (by exact dc_Ch_matchBody 0 rfl) (by exact rfl) ?_
  refine rn_getf (v := .ref 38) fd_Ch_93 (by exact dc_Ch_matchBody 1 rfl) (by exact rfl) (by exact rfl) ?_
  refine rn_iload_n (by exact dc_Ch_matchBody 2 rfl) (by exact rfl) ?_
  obtain ⟨x1, e2, h3⟩ := rn_bind h
  clear h
  refine rn_iaload (by exact dc_Ch_matchBody 3 rfl) (by exact rfl) e2 ?_
  refine rn_istore (ls' := [some (.ref 4), some (.ref 35), some (.int v0), some (.int v1), some (.int v2), some (.int x1), none, none, none, none]) (by exact dc_Ch_matchBody 4 rfl) (by decide) (by exact rfl) ?_
  refine rn_iload_n (by exact dc_Ch_matchBody 5 rfl) (by exact rfl) ?_
  refine rn_istore (ls' := [some (.ref 4), some (.ref 35), some (.int v0), some (.int v1), some (.int v2), some (.int x1), some (.int v1), none, none, none]) (by exact dc_Ch_matchBody 6 rfl) (by decide) (by exact rfl) ?_
  obtain ⟨c7, e4, h6⟩ := rn_bind h3
  clear h3
  have jx5 : Rn Z M_Ch_matchBody 68 [some (.ref 4), some (.ref 35), some (.int v0), some (.int v1), some (.int v2), some (.int x1), none, none, none, none] [] (emb g1 g2 x d c7 u t a b m o E) 0 0 (rn_Ret Z none (emb g1 g2 x d c_r u t a b m o E)) := by
    refine rn_iload (by exact dc_Ch_matchBody 36 rfl) (by exact rfl) ?_
    refine rn_iconst (v := (1 : Int32)) (by exact dc_Ch_matchBody 37 rfl) (by decide) ?_
    refine rn_isub (by exact dc_Ch_matchBody 38 rfl) ?_
    refine rn_istore (ls' := [some (.ref 4), some (.ref 35), some (.int v0), some (.int v1), some (.int v2), some (.int x1), some (.int (x1 - (1 : Int32))), none, none, none]) (by exact dc_Ch_matchBody 39 rfl) (by decide) (by exact rfl) ?_
    obtain ⟨c11, e8, h10⟩ := rn_bind h6
    clear h6
    have jx9 : Rn Z M_Ch_matchBody 158 [none, none, none, none, none, none, none, none, none, none] [] (emb g1 g2 x d c11 u t a b m o E) 0 0 (rn_Ret Z none (emb g1 g2 x d c_r u t a b m o E)) := by
      cases h10
      exact rn_return (by exact dc_Ch_matchBody 78 rfl) (by exact rfl)
    exact rn_weak _ (by repeat (first | exact rn_le_0 | apply rn_le_s | apply rn_le_x)) (p_Ch_matchBody_L74 jx9 _ _ _ e8)
  exact rn_weak _ (by repeat (first | exact rn_le_0 | apply rn_le_s | apply rn_le_x)) (p_Ch_matchBody_L11 jx5 _ _ _ e4)
