def F_Rd_readCost (d : tD) (b : tG) (r : tR) (v0 : Int32) : Option (Int32 × tG × tR) :=
  Option.bind (F_Rd_readNumber d r ) fun (x2, r3) =>
  Option.bind (aS (G_costs b) 12 v0 x2) fun f5 =>
  Option.bind (
    if x2 = (-1 : Int32) then (
      some (0 : Int32)
    ) else (
      if (99 : Int32) < x2 then (
        some (0 : Int32)
      ) else (
        some (1 : Int32)
      )
    )
   : Option Int32) fun y8 =>
  Option.bind (rn_bl y8) fun y14 =>
  some (y14, (G_heads b, G_bodies b, G_bodyLengths b, G_weights b, f5, G_capitals b, G_order b, G_ruleCount b, G_nonterminalCount b, G_reached b), r3)
set_option maxHeartbeats 4000000 in
set_option maxRecDepth 100000 in
theorem c_Rd_readCost {Z : rn_Z} {g1 g2 : Nat} {x : tX} {d : tD} {c : tC} {u : tU} {t : tT} {a : tG} {b : tG} {m : tM} {o : tO} {r : tR} {v0 : Int32} {res : Int32} {b_r : tG} {r_r : tR} (h : F_Rd_readCost d b r v0 = some (res, b_r, r_r)) : Call Z M_Rd_readCost [.ref 77, .int v0] (emb g1 g2 x d c u t a b m o [rd_cell r]) 0 0 (some (.int res)) (emb g1 g2 x d c u t a b_r m o [rd_cell r_r]) := by
  unfold F_Rd_readCost at h
  refine rn_call (by decide) 1 (by exact Nat.le_of_ble_eq_true rfl) ?_
  show Rn Z M_Rd_readCost 0 [some (.ref 77), some (.int v0), none] [] (emb g1 g2 x d c u t a b m o [rd_cell r]) 0 0 _
  refine rn_aload_n (by exact dc_Rd_readCost 0 rfl) (by exact rfl) ?_
  obtain ⟨⟨x2, r3⟩, e1, h4⟩ := rn_bind h
  clear h
  dsimp only at h4
  refine rn_invV0 (by exact c_Rd_readNumber e1) iv_Rd_96 (by exact ⟨Nat.le_of_ble_eq_true rfl, Nat.le_of_ble_eq_true rfl⟩) (by exact dc_Rd_readCost 1 rfl) (by exact rfl) (by exact rfl) (by exact rfl) (by exact Nat.le_of_ble_eq_true rfl) ?_
  show Rn _ _ 4 [some (.ref 77), some (.int v0), none] [.int x2] (emb g1 g2 x d c u t a b m o [rd_cell r3]) _ _ _
  refine rn_istore_n (ls' := [some (.ref 77), some (.int v0), some (.int x2)]) (by exact dc_Rd_readCost 2 rfl) (by decide) (by exact rfl) ?_
  refine rn_aload_n (by exact dc_Rd_readCost 3 rfl) (by exact rfl) ?_
  refine rn_getf (v := .ref 44) fd_Rd_15 (by exact dc_Rd_readCost 4 rfl) (by exact rfl) (by exact rfl) ?_
  refine rn_getf (v := .ref 49) fd_Rd_107 (by exact dc_Rd_readCost 5 rfl) (by exact rfl) (by exact rfl) ?_
  refine rn_iload_n (by exact dc_Rd_readCost 6 rfl) (by exact rfl) ?_
  refine rn_iload_n (by exact dc_Rd_readCost 7 rfl) (by exact rfl) ?_
  obtain ⟨f5, e6, h7⟩ := rn_bind h4
  clear h4
  refine rn_iastore (w2 := (emb g1 g2 x d c u t a (G_heads b, G_bodies b, G_bodyLengths b, G_weights b, f5, G_capitals b, G_order b, G_ruleCount b, G_nonterminalCount b, G_reached b) m o [rd_cell r3])) (by exact dc_Rd_readCost 8 rfl) (by exact rfl) e6 (by exact rfl) ?_
  refine rn_iload_n (by exact dc_Rd_readCost 9 rfl) (by exact rfl) ?_
  refine rn_iconst (v := (-1 : Int32)) (by exact dc_Rd_readCost 10 rfl) (by decide) ?_
  obtain ⟨y8, e9, h11⟩ := rn_bind h7
  clear h7
  have jq10 : Rn Z M_Rd_readCost 31 [none, none, none] [.int y8] (emb g1 g2 x d c u t a (G_heads b, G_bodies b, G_bodyLengths b, G_weights b, f5, G_capitals b, G_order b, G_ruleCount b, G_nonterminalCount b, G_reached b) m o [rd_cell r3]) 0 0 (rn_Ret Z (some (.int res)) (emb g1 g2 x d c u t a b_r m o [rd_cell r_r])) := by
    obtain ⟨y14, e15, h17⟩ := rn_bind h11
    clear h11
    obtain ⟨rfl, hb16⟩ := rn_bl_some e15
    cases h17
    exact rn_zreturn (by exact dc_Rd_readCost 18 rfl) (by exact rfl) hb16
  by_cases c12 : x2 = (-1 : Int32)
  · replace e9 := rn_ifp c12 e9
    refine rn_icmp_eq_t 30 (by exact dc_Rd_readCost 11 rfl) (by exact rfl) c12 ?_
    refine rn_iconst (v := (0 : Int32)) (by exact dc_Rd_readCost 17 rfl) (by decide) ?_
    cases e9
    exact rn_weak _ (by repeat (first | exact rn_le_0 | apply rn_le_s | apply rn_le_x)) jq10
  · replace e9 := rn_ifn c12 e9
    refine rn_icmp_eq_f 30 (by exact dc_Rd_readCost 11 rfl) (by exact rfl) c12 ?_
    refine rn_iload_n (by exact dc_Rd_readCost 12 rfl) (by exact rfl) ?_
    refine rn_bipush (v := (99 : Int32)) (by exact dc_Rd_readCost 13 rfl) (by decide) ?_
    by_cases c13 : (99 : Int32) < x2
    · replace e9 := rn_ifp c13 e9
      refine rn_icmp_gt_t 30 (by exact dc_Rd_readCost 14 rfl) (by exact rfl) c13 ?_
      refine rn_iconst (v := (0 : Int32)) (by exact dc_Rd_readCost 17 rfl) (by decide) ?_
      cases e9
      exact rn_weak _ (by repeat (first | exact rn_le_0 | apply rn_le_s | apply rn_le_x)) jq10
    · replace e9 := rn_ifn c13 e9
      refine rn_icmp_gt_f 30 (by exact dc_Rd_readCost 14 rfl) (by exact rfl) c13 ?_
      refine rn_iconst (v := (1 : Int32)) (by exact dc_Rd_readCost 15 rfl) (by decide) ?_
      refine rn_goto 31 (by exact dc_Rd_readCost 16 rfl) (by exact rfl) ?_
      cases e9
      exact rn_weak _ (by repeat (first | exact rn_le_0 | apply rn_le_s | apply rn_le_x)) jq10
def F_Rd_readRule (d : tD) (b : tG) (r : tR)  : Option (Int32 × tG × tR) :=
  if ¬ (G_ruleCount b) = (12 : Int32) then (
    Option.bind (F_Rd_readHead d b r (G_ruleCount b)) fun (x3, b4, r5) =>
    Option.bind (
      if x3 = 0 then (
        some ((0 : Int32), b4, r5)
      ) else (
        Option.bind (F_Rd_skip d r5 (61 : Int32)) fun (x15, r16) =>
        if x15 = 0 then (
          some ((0 : Int32), b4, r16)
        ) else (
          Option.bind (F_Rd_readBody d b4 r16 (G_ruleCount b)) fun (x20, b21, r22) =>
          if x20 = 0 then (
            some ((0 : Int32), b21, r22)
          ) else (
            Option.bind (F_Rd_skip d r22 (32 : Int32)) fun (x26, r27) =>
            if x26 = 0 then (
              some ((0 : Int32), b21, r27)
            ) else (
              Option.bind (F_Rd_readWeight d b21 r27 (G_ruleCount b)) fun (x31, b32, r33) =>
              if x31 = 0 then (
                some ((0 : Int32), b32, r33)
              ) else (
                Option.bind (F_Rd_skip d r33 (32 : Int32)) fun (x37, r38) =>
                if x37 = 0 then (
                  some ((0 : Int32), b32, r38)
                ) else (
                  Option.bind (F_Rd_readCost d b32 r38 (G_ruleCount b)) fun (x42, b43, r44) =>
                  if x42 = 0 then (
                    some ((0 : Int32), b43, r44)
                  ) else (
                    if ¬ (R_at r44) = (R_end r44) then (
                      some ((0 : Int32), b43, r44)
                    ) else (
                      some ((1 : Int32), b43, r44)
                    )
                  )
                )
              )
            )
          )
        )
      )
     : Option (Int32 × tG × tR)) fun (y7, b8, r9) =>
    Option.bind (
      if y7 = 0 then (
        some b8
      ) else (
        some (G_heads b8, G_bodies b8, G_bodyLengths b8, G_weights b8, G_costs b8, G_capitals b8, G_order b8, (G_ruleCount b8) + (1 : Int32), G_nonterminalCount b8, G_reached b8)
      )
     : Option tG) fun b48 =>
    Option.bind (rn_bl y7) fun y53 =>
    some (y53, b48, r9)
  ) else (
    some ((0 : Int32), b, r)
  )
set_option maxHeartbeats 4000000 in
set_option maxRecDepth 100000 in
theorem c_Rd_readRule {Z : rn_Z} {g1 g2 : Nat} {x : tX} {d : tD} {c : tC} {u : tU} {t : tT} {a : tG} {b : tG} {m : tM} {o : tO} {r : tR}  {res : Int32} {b_r : tG} {r_r : tR} (h : F_Rd_readRule d b r  = some (res, b_r, r_r)) : Call Z M_Rd_readRule [.ref 77] (emb g1 g2 x d c u t a b m o [rd_cell r]) 0 0 (some (.int res)) (emb g1 g2 x d c u t a b_r m o [rd_cell r_r]) := by
  unfold F_Rd_readRule at h
  refine rn_call (by decide) 2 (by exact Nat.le_of_ble_eq_true rfl) ?_
  show Rn Z M_Rd_readRule 0 [some (.ref 77), none, none] [] (emb g1 g2 x d c u t a b m o [rd_cell r]) 0 0 _
  refine rn_aload_n (by exact dc_Rd_readRule 0 rfl) (by exact rfl) ?_
  refine rn_getf (v := .ref 44) fd_Rd_15 (by exact dc_Rd_readRule 1 rfl) (by exact rfl) (by exact rfl) ?_
  refine rn_getf (v := .int (G_ruleCount b)) fd_Rd_48 (by exact dc_Rd_readRule 2 rfl) (by exact rfl) (by exact rfl) ?_
  refine rn_bipush (v := (12 : Int32)) (by exact dc_Rd_readRule 3 rfl) (by decide) ?_
  by_cases c1 : ¬ (G_ruleCount b) = (12 : Int32)
  · replace h := rn_ifp c1 h
    refine rn_icmp_ne_t 14 (by exact dc_Rd_readRule 4 rfl) (by exact rfl) c1 ?_
    refine rn_aload_n (by exact dc_Rd_readRule 7 rfl) (by exact rfl) ?_
    refine rn_getf (v := .ref 44) fd_Rd_15 (by exact dc_Rd_readRule 8 rfl) (by exact rfl) (by exact rfl) ?_
    refine rn_getf (v := .int (G_ruleCount b)) fd_Rd_48 (by exact dc_Rd_readRule 9 rfl) (by exact rfl) (by exact rfl) ?_
    refine rn_istore_n (ls' := [some (.ref 77), some (.int (G_ruleCount b)), none]) (by exact dc_Rd_readRule 10 rfl) (by decide) (by exact rfl) ?_
    refine rn_aload_n (by exact dc_Rd_readRule 11 rfl) (by exact rfl) ?_
    refine rn_iload_n (by exact dc_Rd_readRule 12 rfl) (by exact rfl) ?_
    obtain ⟨⟨x3, b4, r5⟩, e2, h6⟩ := rn_bind h
    clear h
    dsimp only at h6
    refine rn_invV0 (by exact c_Rd_readHead e2) iv_Rd_55 (by exact ⟨Nat.le_of_ble_eq_true rfl, Nat.le_of_ble_eq_true rfl⟩) (by exact dc_Rd_readRule 13 rfl) (by exact rfl) (by exact rfl) (by exact rfl) (by exact Nat.le_of_ble_eq_true rfl) ?_
    show Rn _ _ 27 [some (.ref 77), some (.int (G_ruleCount b)), none] [.int x3] (emb g1 g2 x d c u t a b4 m o [rd_cell r5]) _ _ _
    obtain ⟨⟨y7, b8, r9⟩, e10, h12⟩ := rn_bind h6
    clear h6
    dsimp only at h12
    have jq11 : Rn Z M_Rd_readRule 97 [some (.ref 77), none, none] [.int y7] (emb g1 g2 x d c u t a b8 m o [rd_cell r9]) 0 0 (rn_Ret Z (some (.int res)) (emb g1 g2 x d c u t a b_r m o [rd_cell r_r])) := by
      refine rn_istore_n (ls' := [some (.ref 77), none, some (.int y7)]) (by exact dc_Rd_readRule 47 rfl) (by decide) (by exact rfl) ?_
      refine rn_iload_n (by exact dc_Rd_readRule 48 rfl) (by exact rfl) ?_
      obtain ⟨b48, e49, h51⟩ := rn_bind h12
      clear h12
      have jq50 : Rn Z M_Rd_readRule 115 [none, none, some (.int y7)] [] (emb g1 g2 x d c u t a b48 m o [rd_cell r9]) 0 0 (rn_Ret Z (some (.int res)) (emb g1 g2 x d c u t a b_r m o [rd_cell r_r])) := by
        refine rn_iload_n (by exact dc_Rd_readRule 57 rfl) (by exact rfl) ?_
        obtain ⟨y53, e54, h56⟩ := rn_bind h51
        clear h51
        obtain ⟨rfl, hb55⟩ := rn_bl_some e54
        cases h56
        exact rn_zreturn (by exact dc_Rd_readRule 58 rfl) (by exact rfl) hb55
      by_cases c52 : y7 = 0
      · replace e49 := rn_ifp c52 e49
        refine rn_if_eq_t 115 (by exact dc_Rd_readRule 49 rfl) (by exact rfl) c52 ?_
        cases e49
        exact rn_weak _ (by repeat (first | exact rn_le_0 | apply rn_le_s | apply rn_le_x)) jq50
      · replace e49 := rn_ifn c52 e49
        refine rn_if_eq_f 115 (by exact dc_Rd_readRule 49 rfl) (by exact rfl) c52 ?_
        refine rn_aload_n (by exact dc_Rd_readRule 50 rfl) (by exact rfl) ?_
        refine rn_getf (v := .ref 44) fd_Rd_15 (by exact dc_Rd_readRule 51 rfl) (by exact rfl) (by exact rfl) ?_
        refine rn_dup (by exact dc_Rd_readRule 52 rfl) (by exact rfl) ?_
        refine rn_getf (v := .int (G_ruleCount b8)) fd_Rd_48 (by exact dc_Rd_readRule 53 rfl) (by exact rfl) (by exact rfl) ?_
        refine rn_iconst (v := (1 : Int32)) (by exact dc_Rd_readRule 54 rfl) (by decide) ?_
        refine rn_iadd (by exact dc_Rd_readRule 55 rfl) ?_
        refine rn_putf (w2 := (emb g1 g2 x d c u t a (G_heads b8, G_bodies b8, G_bodyLengths b8, G_weights b8, G_costs b8, G_capitals b8, G_order b8, (G_ruleCount b8) + (1 : Int32), G_nonterminalCount b8, G_reached b8) m o [rd_cell r9])) fd_Rd_48 (by exact dc_Rd_readRule 56 rfl) (by exact rfl) (by exact rfl) (by exact Nat.le_of_ble_eq_true rfl) (by exact rfl) ?_
        cases e49
        exact rn_weak _ (by repeat (first | exact rn_le_0 | apply rn_le_s | apply rn_le_x)) jq50
    by_cases c13 : x3 = 0
    · replace e10 := rn_ifp c13 e10
      refine rn_if_eq_t 96 (by exact dc_Rd_readRule 14 rfl) (by exact rfl) c13 ?_
      refine rn_iconst (v := (0 : Int32)) (by exact dc_Rd_readRule 46 rfl) (by decide) ?_
      cases e10
      exact rn_weak _ (by repeat (first | exact rn_le_0 | apply rn_le_s | apply rn_le_x)) jq11
    · replace e10 := rn_ifn c13 e10
      refine rn_if_eq_f 96 (by exact dc_Rd_readRule 14 rfl) (by exact rfl) c13 ?_
      refine rn_aload_n (by exact dc_Rd_readRule 15 rfl) (by exact rfl) ?_
      refine rn_bipush (v := (61 : Int32)) (by exact dc_Rd_readRule 16 rfl) (by decide) ?_
      obtain ⟨⟨x15, r16⟩, e14, h17⟩ := rn_bind e10
      clear e10
      dsimp only at h17
      refine rn_invV0 (by exact c_Rd_skip e14) iv_Rd_59 (by exact ⟨Nat.le_of_ble_eq_true rfl, Nat.le_of_ble_eq_true rfl⟩) (by exact dc_Rd_readRule 17 rfl) (by exact rfl) (by exact rfl) (by exact rfl) (by exact Nat.le_of_ble_eq_true rfl) ?_
      show Rn _ _ 36 [some (.ref 77), some (.int (G_ruleCount b)), none] [.int x15] (emb g1 g2 x d c u t a b4 m o [rd_cell r16]) _ _ _
      by_cases c18 : x15 = 0
      · replace h17 := rn_ifp c18 h17
        refine rn_if_eq_t 96 (by exact dc_Rd_readRule 18 rfl) (by exact rfl) c18 ?_
        refine rn_iconst (v := (0 : Int32)) (by exact dc_Rd_readRule 46 rfl) (by decide) ?_
        cases h17
        exact rn_weak _ (by repeat (first | exact rn_le_0 | apply rn_le_s | apply rn_le_x)) jq11
      · replace h17 := rn_ifn c18 h17
        refine rn_if_eq_f 96 (by exact dc_Rd_readRule 18 rfl) (by exact rfl) c18 ?_
        refine rn_aload_n (by exact dc_Rd_readRule 19 rfl) (by exact rfl) ?_
        refine rn_iload_n (by exact dc_Rd_readRule 20 rfl) (by exact rfl) ?_
        obtain ⟨⟨x20, b21, r22⟩, e19, h23⟩ := rn_bind h17
        clear h17
        dsimp only at h23
        refine rn_invV0 (by exact c_Rd_readBody e19) iv_Rd_62 (by exact ⟨Nat.le_of_ble_eq_true rfl, Nat.le_of_ble_eq_true rfl⟩) (by exact dc_Rd_readRule 21 rfl) (by exact rfl) (by exact rfl) (by exact rfl) (by exact Nat.le_of_ble_eq_true rfl) ?_
        show Rn _ _ 44 [some (.ref 77), some (.int (G_ruleCount b)), none] [.int x20] (emb g1 g2 x d c u t a b21 m o [rd_cell r22]) _ _ _
        by_cases c24 : x20 = 0
        · replace h23 := rn_ifp c24 h23
          refine rn_if_eq_t 96 (by exact dc_Rd_readRule 22 rfl) (by exact rfl) c24 ?_
          refine rn_iconst (v := (0 : Int32)) (by exact dc_Rd_readRule 46 rfl) (by decide) ?_
          cases h23
          exact rn_weak _ (by repeat (first | exact rn_le_0 | apply rn_le_s | apply rn_le_x)) jq11
        · replace h23 := rn_ifn c24 h23
          refine rn_if_eq_f 96 (by exact dc_Rd_readRule 22 rfl) (by exact rfl) c24 ?_
          refine rn_aload_n (by exact dc_Rd_readRule 23 rfl) (by exact rfl) ?_
          refine rn_bipush (v := (32 : Int32)) (by exact dc_Rd_readRule 24 rfl) (by decide) ?_
          obtain ⟨⟨x26, r27⟩, e25, h28⟩ := rn_bind h23
          clear h23
          dsimp only at h28
          refine rn_invV0 (by exact c_Rd_skip e25) iv_Rd_59 (by exact ⟨Nat.le_of_ble_eq_true rfl, Nat.le_of_ble_eq_true rfl⟩) (by exact dc_Rd_readRule 25 rfl) (by exact rfl) (by exact rfl) (by exact rfl) (by exact Nat.le_of_ble_eq_true rfl) ?_
          show Rn _ _ 53 [some (.ref 77), some (.int (G_ruleCount b)), none] [.int x26] (emb g1 g2 x d c u t a b21 m o [rd_cell r27]) _ _ _
          by_cases c29 : x26 = 0
          · replace h28 := rn_ifp c29 h28
            refine rn_if_eq_t 96 (by exact dc_Rd_readRule 26 rfl) (by exact rfl) c29 ?_
            refine rn_iconst (v := (0 : Int32)) (by exact dc_Rd_readRule 46 rfl) (by decide) ?_
            cases h28
            exact rn_weak _ (by repeat (first | exact rn_le_0 | apply rn_le_s | apply rn_le_x)) jq11
          · replace h28 := rn_ifn c29 h28
            refine rn_if_eq_f 96 (by exact dc_Rd_readRule 26 rfl) (by exact rfl) c29 ?_
            refine rn_aload_n (by exact dc_Rd_readRule 27 rfl) (by exact rfl) ?_
            refine rn_iload_n (by exact dc_Rd_readRule 28 rfl) (by exact rfl) ?_
            obtain ⟨⟨x31, b32, r33⟩, e30, h34⟩ := rn_bind h28
            clear h28
            dsimp only at h34
            refine rn_invV0 (by exact c_Rd_readWeight e30) iv_Rd_65 (by exact ⟨Nat.le_of_ble_eq_true rfl, Nat.le_of_ble_eq_true rfl⟩) (by exact dc_Rd_readRule 29 rfl) (by exact rfl) (by exact rfl) (by exact rfl) (by exact Nat.le_of_ble_eq_true rfl) ?_
            show Rn _ _ 61 [some (.ref 77), some (.int (G_ruleCount b)), none] [.int x31] (emb g1 g2 x d c u t a b32 m o [rd_cell r33]) _ _ _
            by_cases c35 : x31 = 0
            · replace h34 := rn_ifp c35 h34
              refine rn_if_eq_t 96 (by exact dc_Rd_readRule 30 rfl) (by exact rfl) c35 ?_
              refine rn_iconst (v := (0 : Int32)) (by exact dc_Rd_readRule 46 rfl) (by decide) ?_
              cases h34
              exact rn_weak _ (by repeat (first | exact rn_le_0 | apply rn_le_s | apply rn_le_x)) jq11
            · replace h34 := rn_ifn c35 h34
              refine rn_if_eq_f 96 (by exact dc_Rd_readRule 30 rfl) (by exact rfl) c35 ?_
              refine rn_aload_n (by exact dc_Rd_readRule 31 rfl) (by exact rfl) ?_
              refine rn_bipush (v := (32 : Int32)) (by exact dc_Rd_readRule 32 rfl) (by decide) ?_
              obtain ⟨⟨x37, r38⟩, e36, h39⟩ := rn_bind h34
              clear h34
              dsimp only at h39
              refine rn_invV0 (by exact c_Rd_skip e36) iv_Rd_59 (by exact ⟨Nat.le_of_ble_eq_true rfl, Nat.le_of_ble_eq_true rfl⟩) (by exact dc_Rd_readRule 33 rfl) (by exact rfl) (by exact rfl) (by exact rfl) (by exact Nat.le_of_ble_eq_true rfl) ?_
              show Rn _ _ 70 [some (.ref 77), some (.int (G_ruleCount b)), none] [.int x37] (emb g1 g2 x d c u t a b32 m o [rd_cell r38]) _ _ _
              by_cases c40 : x37 = 0
              · replace h39 := rn_ifp c40 h39
                refine rn_if_eq_t 96 (by exact dc_Rd_readRule 34 rfl) (by exact rfl) c40 ?_
                refine rn_iconst (v := (0 : Int32)) (by exact dc_Rd_readRule 46 rfl) (by decide) ?_
                cases h39
                exact rn_weak _ (by repeat (first | exact rn_le_0 | apply rn_le_s | apply rn_le_x)) jq11
              · replace h39 := rn_ifn c40 h39
                refine rn_if_eq_f 96 (by exact dc_Rd_readRule 34 rfl) (by exact rfl) c40 ?_
                refine rn_aload_n (by exact dc_Rd_readRule 35 rfl) (by exact rfl) ?_
                refine rn_iload_n (by exact dc_Rd_readRule 36 rfl) (by exact rfl) ?_
                obtain ⟨⟨x42, b43, r44⟩, e41, h45⟩ := rn_bind h39
                clear h39
                dsimp only at h45
                refine rn_invV0 (by exact c_Rd_readCost e41) iv_Rd_68 (by exact ⟨Nat.le_of_ble_eq_true rfl, Nat.le_of_ble_eq_true rfl⟩) (by exact dc_Rd_readRule 37 rfl) (by exact rfl) (by exact rfl) (by exact rfl) (by exact Nat.le_of_ble_eq_true rfl) ?_
                show Rn _ _ 78 [some (.ref 77), some (.int (G_ruleCount b)), none] [.int x42] (emb g1 g2 x d c u t a b43 m o [rd_cell r44]) _ _ _
                by_cases c46 : x42 = 0
                · replace h45 := rn_ifp c46 h45
                  refine rn_if_eq_t 96 (by exact dc_Rd_readRule 38 rfl) (by exact rfl) c46 ?_
                  refine rn_iconst (v := (0 : Int32)) (by exact dc_Rd_readRule 46 rfl) (by decide) ?_
                  cases h45
                  exact rn_weak _ (by repeat (first | exact rn_le_0 | apply rn_le_s | apply rn_le_x)) jq11
                · replace h45 := rn_ifn c46 h45
                  refine rn_if_eq_f 96 (by exact dc_Rd_readRule 38 rfl) (by exact rfl) c46 ?_
                  refine rn_aload_n (by exact dc_Rd_readRule 39 rfl) (by exact rfl) ?_
                  refine rn_getf (v := .int (R_at r44)) fd_Rd_19 (by exact dc_Rd_readRule 40 rfl) (by exact rfl) (by exact rfl) ?_
                  refine rn_aload_n (by exact dc_Rd_readRule 41 rfl) (by exact rfl) ?_
                  refine rn_getf (v := .int (R_end r44)) fd_Rd_23 (by exact dc_Rd_readRule 42 rfl) (by exact rfl) (by exact rfl) ?_
                  by_cases c47 : ¬ (R_at r44) = (R_end r44)
                  · replace h45 := rn_ifp c47 h45
                    refine rn_icmp_ne_t 96 (by exact dc_Rd_readRule 43 rfl) (by exact rfl) c47 ?_
                    refine rn_iconst (v := (0 : Int32)) (by exact dc_Rd_readRule 46 rfl) (by decide) ?_
                    cases h45
                    exact rn_weak _ (by repeat (first | exact rn_le_0 | apply rn_le_s | apply rn_le_x)) jq11
                  · replace h45 := rn_ifn c47 h45
                    refine rn_icmp_ne_f 96 (by exact dc_Rd_readRule 43 rfl) (by exact rfl) (Classical.not_not.mp c47) ?_
                    refine rn_iconst (v := (1 : Int32)) (by exact dc_Rd_readRule 44 rfl) (by decide) ?_
                    refine rn_goto 97 (by exact dc_Rd_readRule 45 rfl) (by exact rfl) ?_
                    cases h45
                    exact rn_weak _ (by repeat (first | exact rn_le_0 | apply rn_le_s | apply rn_le_x)) jq11
  · replace h := rn_ifn c1 h
    refine rn_icmp_ne_f 14 (by exact dc_Rd_readRule 4 rfl) (by exact rfl) (Classical.not_not.mp c1) ?_
    refine rn_iconst (v := (0 : Int32)) (by exact dc_Rd_readRule 5 rfl) (by decide) ?_
    cases h
    exact rn_zreturn (by exact dc_Rd_readRule 6 rfl) (by exact rfl) (by first | exact Or.inl rfl | exact Or.inr rfl)
def F_Rd_firstWrongLine_L17 (d : tD) (l1 : Int32) : Nat → tG → tR → Int32 → Option ((Int32 × tG × tR) ⊕ (tG × tR))
  | 0, _, _, _ => none
  | n + 1, b, r, l2 =>
    if l1 < l2 then (
      some (.inr (b, r))
    ) else (
      Option.bind (F_Dr_lineEnd d ((R_end r) + (1 : Int32))) fun x3 =>
      Option.bind (F_Rd_isLeftOut d ((R_end r) + (1 : Int32), x3) ) fun x6 =>
      if ¬ x6 = 0 then (
        F_Rd_firstWrongLine_L17 d l1 n b ((R_end r) + (1 : Int32), x3) (l2 + 1)
      ) else (
        Option.bind (F_Rd_readRule d b ((R_end r) + (1 : Int32), x3) ) fun (x10, b11, r12) =>
        if ¬ x10 = 0 then (
          F_Rd_firstWrongLine_L17 d l1 n b11 r12 (l2 + 1)
        ) else (
          some (.inl (l2, b11, r12))
        )
      )
    )
set_option maxHeartbeats 4000000 in
set_option maxRecDepth 100000 in
theorem p_Rd_firstWrongLine_L17_b {Z : rn_Z} {g1 g2 : Nat} {x : tX} {d : tD} {c : tC} {u : tU} {t : tT} {a : tG}  {m : tM} {o : tO}   {l1 : Int32} {K : rn_K} {ca sa : Nat} {out : ((Int32 × tG × tR) ⊕ (tG × tR))} (hx : ∀ (bz : tG) (rz : tR), out = .inr (bz, rz) → Rn Z M_Rd_firstWrongLine 69 [some (.ref 77), some (.int l1), none] [] (emb g1 g2 x d c u t a bz m o [rd_cell rz]) ca sa K) (hr : ∀ (rv : Int32) (bw : tG) (rw : tR), out = .inl (rv, bw, rw) → K = rn_Ret Z (some (.int rv)) (emb g1 g2 x d c u t a bw m o [rd_cell rw])) (n : Nat) : ∀ (b : tG) (r : tR) (l2 : Int32), F_Rd_firstWrongLine_L17 d l1 n b r l2 = some out → Rn Z M_Rd_firstWrongLine 17 [some (.ref 77), some (.int l1), some (.int l2)] [] (emb g1 g2 x d c u t a b m o [rd_cell r]) ca sa K := by
  induction n with
  | zero =>
    intro b r l2 h
    rw [F_Rd_firstWrongLine_L17] at h
    cases h
  | succ n ih =>
    intro b r l2 h
    rw [F_Rd_firstWrongLine_L17] at h
    refine rn_iload_n (by exact dc_Rd_firstWrongLine 9 rfl) (by exact rfl) ?_
    refine rn_iload_n (by exact dc_Rd_firstWrongLine 10 rfl) (by exact rfl) ?_
    by_cases c1 : l1 < l2
    · replace h := rn_ifp c1 h
      refine rn_icmp_gt_t 69 (by exact dc_Rd_firstWrongLine 11 rfl) (by exact rfl) c1 ?_
      cases h
      exact rn_weak _ (by repeat (first | exact rn_le_0 | apply rn_le_s | apply rn_le_x)) (hx _ _ rfl)
    · replace h := rn_ifn c1 h
      refine rn_icmp_gt_f 69 (by exact dc_Rd_firstWrongLine 11 rfl) (by exact rfl) c1 ?_
      refine rn_aload_n (by exact dc_Rd_firstWrongLine 12 rfl) (by exact rfl) ?_
      refine rn_aload_n (by exact dc_Rd_firstWrongLine 13 rfl) (by exact rfl) ?_
      refine rn_getf (v := .int (R_end r)) fd_Rd_23 (by exact dc_Rd_firstWrongLine 14 rfl) (by exact rfl) (by exact rfl) ?_
      refine rn_iconst (v := (1 : Int32)) (by exact dc_Rd_firstWrongLine 15 rfl) (by decide) ?_
      refine rn_iadd (by exact dc_Rd_firstWrongLine 16 rfl) ?_
      refine rn_putf (w2 := (emb g1 g2 x d c u t a b m o [rd_cell ((R_end r) + (1 : Int32), R_end r)])) fd_Rd_19 (by exact dc_Rd_firstWrongLine 17 rfl) (by exact rfl) (by exact rfl) (by exact Nat.le_of_ble_eq_true rfl) (by exact rfl) ?_
      refine rn_aload_n (by exact dc_Rd_firstWrongLine 18 rfl) (by exact rfl) ?_
      refine rn_aload_n (by exact dc_Rd_firstWrongLine 19 rfl) (by exact rfl) ?_
      refine rn_getf (v := .ref 2) fd_Rd_9 (by exact dc_Rd_firstWrongLine 20 rfl) (by exact rfl) (by exact rfl) ?_
      refine rn_aload_n (by exact dc_Rd_firstWrongLine 21 rfl) (by exact rfl) ?_
      refine rn_getf (v := .int ((R_end r) + (1 : Int32))) fd_Rd_19 (by exact dc_Rd_firstWrongLine 22 rfl) (by exact rfl) (by exact rfl) ?_
      obtain ⟨x3, e2, h4⟩ := rn_bind h
      clear h
      refine rn_invV0 (by exact c_Dr_lineEnd e2) iv_Rd_37 (by exact ⟨Nat.le_of_ble_eq_true rfl, Nat.le_of_ble_eq_true rfl⟩) (by exact dc_Rd_firstWrongLine 23 rfl) (by exact rfl) (by exact rfl) (by exact rfl) (by exact Nat.le_of_ble_eq_true rfl) ?_
      show Rn _ _ 44 [some (.ref 77), some (.int l1), some (.int l2)] [.int x3, .ref 77] (emb g1 g2 x d c u t a b m o [rd_cell ((R_end r) + (1 : Int32), R_end r)]) _ _ _
      refine rn_putf (w2 := (emb g1 g2 x d c u t a b m o [rd_cell ((R_end r) + (1 : Int32), x3)])) fd_Rd_23 (by exact dc_Rd_firstWrongLine 24 rfl) (by exact rfl) (by exact rfl) (by exact Nat.le_of_ble_eq_true rfl) (by exact rfl) ?_
      refine rn_aload_n (by exact dc_Rd_firstWrongLine 25 rfl) (by exact rfl) ?_
      obtain ⟨x6, e5, h7⟩ := rn_bind h4
      clear h4
      refine rn_invV0 (by exact c_Rd_isLeftOut e5) iv_Rd_41 (by exact ⟨Nat.le_of_ble_eq_true rfl, Nat.le_of_ble_eq_true rfl⟩) (by exact dc_Rd_firstWrongLine 26 rfl) (by exact rfl) (by exact rfl) (by exact rfl) (by exact Nat.le_of_ble_eq_true rfl) ?_
      show Rn _ _ 51 [some (.ref 77), some (.int l1), some (.int l2)] [.int x6] (emb g1 g2 x d c u t a b m o [rd_cell ((R_end r) + (1 : Int32), x3)]) _ _ _
      by_cases c8 : ¬ x6 = 0
      · replace h7 := rn_ifp c8 h7
        refine rn_if_ne_t 63 (by exact dc_Rd_firstWrongLine 27 rfl) (by exact rfl) c8 ?_
        refine rn_iinc (ls' := [some (.ref 77), some (.int l1), some (.int (l2 + 1))]) (by exact dc_Rd_firstWrongLine 33 rfl) (by decide) (by exact rfl) (by exact rn_inc_1 _) (by exact rfl) ?_
        refine rn_goto 17 (by exact dc_Rd_firstWrongLine 34 rfl) (by exact rfl) ?_
        exact rn_weak _ (by repeat (first | exact rn_le_0 | apply rn_le_s | apply rn_le_x)) (ih _ _ _ h7)
      · replace h7 := rn_ifn c8 h7
        refine rn_if_ne_f 63 (by exact dc_Rd_firstWrongLine 27 rfl) (by exact rfl) (Classical.not_not.mp c8) ?_
        refine rn_aload_n (by exact dc_Rd_firstWrongLine 28 rfl) (by exact rfl) ?_
        obtain ⟨⟨x10, b11, r12⟩, e9, h13⟩ := rn_bind h7
        clear h7
        dsimp only at h13
        refine rn_invV0 (by exact c_Rd_readRule e9) iv_Rd_45 (by exact ⟨Nat.le_of_ble_eq_true rfl, Nat.le_of_ble_eq_true rfl⟩) (by exact dc_Rd_firstWrongLine 29 rfl) (by exact rfl) (by exact rfl) (by exact rfl) (by exact Nat.le_of_ble_eq_true rfl) ?_
        show Rn _ _ 58 [some (.ref 77), some (.int l1), some (.int l2)] [.int x10] (emb g1 g2 x d c u t a b11 m o [rd_cell r12]) _ _ _
        by_cases c14 : ¬ x10 = 0
        · replace h13 := rn_ifp c14 h13
          refine rn_if_ne_t 63 (by exact dc_Rd_firstWrongLine 30 rfl) (by exact rfl) c14 ?_
          refine rn_iinc (ls' := [some (.ref 77), some (.int l1), some (.int (l2 + 1))]) (by exact dc_Rd_firstWrongLine 33 rfl) (by decide) (by exact rfl) (by exact rn_inc_1 _) (by exact rfl) ?_
          refine rn_goto 17 (by exact dc_Rd_firstWrongLine 34 rfl) (by exact rfl) ?_
          exact rn_weak _ (by repeat (first | exact rn_le_0 | apply rn_le_s | apply rn_le_x)) (ih _ _ _ h13)
        · replace h13 := rn_ifn c14 h13
          refine rn_if_ne_f 63 (by exact dc_Rd_firstWrongLine 30 rfl) (by exact rfl) (Classical.not_not.mp c14) ?_
          refine rn_iload_n (by exact dc_Rd_firstWrongLine 31 rfl) (by exact rfl) ?_
          cases h13
          have hK := hr _ _ _ rfl
          subst hK
          exact rn_ireturn (by exact dc_Rd_firstWrongLine 32 rfl) (by exact rfl)
def F_Rd_firstWrongLine (d : tD) (b : tG) (r : tR)  : Option (Int32 × tG × tR) :=
  Option.bind (F_Gr_clear b ) fun b2 =>
  Option.bind (F_Dr_lineCount d ) fun x5 =>
  Option.bind (F_Rd_firstWrongLine_L17 d x5 rn_fu b2 r (1 : Int32)) fun z18 =>
  match z18 with
  | .inl r17 => some r17
  | .inr (b10, r11) =>
    Option.bind (
      if ¬ (G_ruleCount b10) = 0 then (
        some (0 : Int32)
      ) else (
        some (x5 + (1 : Int32) : Int32)
      )
     : Option Int32) fun y12 =>
    some (y12, b10, r11)
set_option maxHeartbeats 4000000 in
set_option maxRecDepth 100000 in
theorem c_Rd_firstWrongLine_b {Z : rn_Z} {g1 g2 : Nat} {x : tX} {d : tD} {c : tC} {u : tU} {t : tT} {a : tG} {b : tG} {m : tM} {o : tO} {r : tR}  {res : Int32} {b_r : tG} {r_r : tR} (h : F_Rd_firstWrongLine d b r  = some (res, b_r, r_r)) : Call Z M_Rd_firstWrongLine [.ref 77] (emb g1 g2 x d c u t a b m o [rd_cell r]) 0 0 (some (.int res)) (emb g1 g2 x d c u t a b_r m o [rd_cell r_r]) := by
  unfold F_Rd_firstWrongLine at h
  refine rn_call (by decide) 2 (by exact Nat.le_of_ble_eq_true rfl) ?_
  show Rn Z M_Rd_firstWrongLine 0 [some (.ref 77), none, none] [] (emb g1 g2 x d c u t a b m o [rd_cell r]) 0 0 _
  refine rn_aload_n (by exact dc_Rd_firstWrongLine 0 rfl) (by exact rfl) ?_
  refine rn_getf (v := .ref 44) fd_Rd_15 (by exact dc_Rd_firstWrongLine 1 rfl) (by exact rfl) (by exact rfl) ?_
  obtain ⟨b2, e1, h3⟩ := rn_bind h
  clear h
  refine rn_invV0 (by exact c_Gr_clear_b e1) iv_Rd_26 (by exact ⟨Nat.le_of_ble_eq_true rfl, Nat.le_of_ble_eq_true rfl⟩) (by exact dc_Rd_firstWrongLine 2 rfl) (by exact rfl) (by exact rfl) (by exact rfl) (by exact Nat.le_of_ble_eq_true rfl) ?_
  show Rn _ _ 7 [some (.ref 77), none, none] [] (emb g1 g2 x d c u t a b2 m o [rd_cell r]) _ _ _
  refine rn_aload_n (by exact dc_Rd_firstWrongLine 3 rfl) (by exact rfl) ?_
  refine rn_getf (v := .ref 2) fd_Rd_9 (by exact dc_Rd_firstWrongLine 4 rfl) (by exact rfl) (by exact rfl) ?_
  obtain ⟨x5, e4, h6⟩ := rn_bind h3
  clear h3
  refine rn_invV0 (by exact c_Dr_lineCount e4) iv_Rd_31 (by exact ⟨Nat.le_of_ble_eq_true rfl, Nat.le_of_ble_eq_true rfl⟩) (by exact dc_Rd_firstWrongLine 5 rfl) (by exact rfl) (by exact rfl) (by exact rfl) (by exact Nat.le_of_ble_eq_true rfl) ?_
  show Rn _ _ 14 [some (.ref 77), none, none] [.int x5] (emb g1 g2 x d c u t a b2 m o [rd_cell r]) _ _ _
  refine rn_istore_n (ls' := [some (.ref 77), some (.int x5), none]) (by exact dc_Rd_firstWrongLine 6 rfl) (by decide) (by exact rfl) ?_
  refine rn_iconst (v := (1 : Int32)) (by exact dc_Rd_firstWrongLine 7 rfl) (by decide) ?_
  refine rn_istore_n (ls' := [some (.ref 77), some (.int x5), some (.int (1 : Int32))]) (by exact dc_Rd_firstWrongLine 8 rfl) (by decide) (by exact rfl) ?_
  obtain ⟨z18, e7, h9⟩ := rn_bind h6
  clear h6
  rcases z18 with ⟨w19, w20, w21⟩ | ⟨b10, r11⟩
  · dsimp only at h9
    cases h9
    exact rn_weak _ (by repeat (first | exact rn_le_0 | apply rn_le_s | apply rn_le_x)) (p_Rd_firstWrongLine_L17_b (fun _ _ q => by cases q) (fun _ _ _ q => by cases q; rfl) _ _ _ _ e7)
  · dsimp only at h9
    have jx8 : Rn Z M_Rd_firstWrongLine 69 [some (.ref 77), some (.int x5), none] [] (emb g1 g2 x d c u t a b10 m o [rd_cell r11]) 0 0 (rn_Ret Z (some (.int res)) (emb g1 g2 x d c u t a b_r m o [rd_cell r_r])) := by
      refine rn_aload_n (by exact dc_Rd_firstWrongLine 35 rfl) (by exact rfl) ?_
      refine rn_getf (v := .ref 44) fd_Rd_15 (by exact dc_Rd_firstWrongLine 36 rfl) (by exact rfl) (by exact rfl) ?_
      refine rn_getf (v := .int (G_ruleCount b10)) fd_Rd_48 (by exact dc_Rd_firstWrongLine 37 rfl) (by exact rfl) (by exact rfl) ?_
      obtain ⟨y12, e13, h15⟩ := rn_bind h9
      clear h9
      have jq14 : Rn Z M_Rd_firstWrongLine 86 [none, none, none] [.int y12] (emb g1 g2 x d c u t a b10 m o [rd_cell r11]) 0 0 (rn_Ret Z (some (.int res)) (emb g1 g2 x d c u t a b_r m o [rd_cell r_r])) := by
        cases h15
        exact rn_ireturn (by exact dc_Rd_firstWrongLine 44 rfl) (by exact rfl)
      by_cases c16 : ¬ (G_ruleCount b10) = 0
      · replace e13 := rn_ifp c16 e13
        refine rn_if_ne_t 85 (by exact dc_Rd_firstWrongLine 38 rfl) (by exact rfl) c16 ?_
        refine rn_iconst (v := (0 : Int32)) (by exact dc_Rd_firstWrongLine 43 rfl) (by decide) ?_
        cases e13
        exact rn_weak _ (by repeat (first | exact rn_le_0 | apply rn_le_s | apply rn_le_x)) jq14
      · replace e13 := rn_ifn c16 e13
        refine rn_if_ne_f 85 (by exact dc_Rd_firstWrongLine 38 rfl) (by exact rfl) (Classical.not_not.mp c16) ?_
        refine rn_iload_n (by exact dc_Rd_firstWrongLine 39 rfl) (by exact rfl) ?_
        refine rn_iconst (v := (1 : Int32)) (by exact dc_Rd_firstWrongLine 40 rfl) (by decide) ?_
        refine rn_iadd (by exact dc_Rd_firstWrongLine 41 rfl) ?_
        refine rn_goto 86 (by exact dc_Rd_firstWrongLine 42 rfl) (by exact rfl) ?_
        cases e13
        exact rn_weak _ (by repeat (first | exact rn_le_0 | apply rn_le_s | apply rn_le_x)) jq14
    exact rn_weak _ (by repeat (first | exact rn_le_0 | apply rn_le_s | apply rn_le_x)) (p_Rd_firstWrongLine_L17_b (fun _ _ q => by cases q; exact jx8) (fun _ _ _ q => by cases q) _ _ _ _ e7)
def F_Ch_cell (v0 : Int32) (v1 : Int32) (v2 : Int32) : Option Int32 :=
  Option.bind (
    if ¬ v1 = v2 then (
      some ((v1 * (8 : Int32)) + v2)
    ) else (
      some (0 : Int32)
    )
   : Option Int32) fun y1 =>
  some ((y1 * (6 : Int32)) + v0)
set_option maxHeartbeats 4000000 in
set_option maxRecDepth 100000 in
theorem c_Ch_cell {Z : rn_Z} {g1 g2 : Nat} {x : tX} {d : tD} {c : tC} {u : tU} {t : tT} {a : tG} {b : tG} {m : tM} {o : tO} {E : List rn_C} {v0 : Int32} {v1 : Int32} {v2 : Int32} {res : Int32} (h : F_Ch_cell  v0 v1 v2 = some res) : Call Z M_Ch_cell [.int v0, .int v1, .int v2] (emb g1 g2 x d c u t a b m o E) 0 0 (some (.int res)) (emb g1 g2 x d c u t a b m o E) := by
  unfold F_Ch_cell at h
  refine rn_call (by decide) 1 (by exact Nat.le_of_ble_eq_true rfl) ?_
  show Rn Z M_Ch_cell 0 [some (.int v0), some (.int v1), some (.int v2), none] [] (emb g1 g2 x d c u t a b m o E) 0 0 _
  refine rn_iload_n (by exact dc_Ch_cell 0 rfl) (by exact rfl) ?_
  refine rn_iload_n (by exact dc_Ch_cell 1 rfl) (by exact rfl) ?_
  obtain ⟨y1, e2, h4⟩ := rn_bind h
  clear h
  have jq3 : Rn Z M_Ch_cell 15 [some (.int v0), none, none, none] [.int y1] (emb g1 g2 x d c u t a b m o E) 0 0 (rn_Ret Z (some (.int res)) (emb g1 g2 x d c u t a b m o E)) := by
    refine rn_istore_n (ls' := [some (.int v0), none, none, some (.int y1)]) (by exact dc_Ch_cell 10 rfl) (by decide) (by exact rfl) ?_
    refine rn_iload_n (by exact dc_Ch_cell 11 rfl) (by exact rfl) ?_
    refine rn_bipush (v := (6 : Int32)) (by exact dc_Ch_cell 12 rfl) (by decide) ?_
    refine rn_imul (by exact dc_Ch_cell 13 rfl) ?_
    refine rn_iload_n (by exact dc_Ch_cell 14 rfl) (by exact rfl) ?_
    refine rn_iadd (by exact dc_Ch_cell 15 rfl) ?_
    cases h4
    exact rn_ireturn (by exact dc_Ch_cell 16 rfl) (by exact rfl)
  by_cases c5 : ¬ v1 = v2
  · replace e2 := rn_ifp c5 e2
    refine rn_icmp_ne_t 9 (by exact dc_Ch_cell 2 rfl) (by exact rfl) c5 ?_
    refine rn_iload_n (by exact dc_Ch_cell 5 rfl) (by exact rfl) ?_
    refine rn_bipush (v := (8 : Int32)) (by exact dc_Ch_cell 6 rfl) (by decide) ?_
    refine rn_imul (by exact dc_Ch_cell 7 rfl) ?_
    refine rn_iload_n (by exact dc_Ch_cell 8 rfl) (by exact rfl) ?_
    refine rn_iadd (by exact dc_Ch_cell 9 rfl) ?_
    cases e2
    exact rn_weak _ (by repeat (first | exact rn_le_0 | apply rn_le_s | apply rn_le_x)) jq3
  · replace e2 := rn_ifn c5 e2
    refine rn_icmp_ne_f 9 (by exact dc_Ch_cell 2 rfl) (by exact rfl) (Classical.not_not.mp c5) ?_
    refine rn_iconst (v := (0 : Int32)) (by exact dc_Ch_cell 3 rfl) (by decide) ?_
    refine rn_goto 15 (by exact dc_Ch_cell 4 rfl) (by exact rfl) ?_
    cases e2
    exact rn_weak _ (by repeat (first | exact rn_le_0 | apply rn_le_s | apply rn_le_x)) jq3
def F_Ch_hasTree (c : tC) (v0 : Int32) (v1 : Int32) (v2 : Int32) : Option Int32 :=
  Option.bind (F_Ch_cell  v0 v1 v2) fun x2 =>
  Option.bind (aG (C_costs c) 390 x2) fun x4 =>
  Option.bind (
    if x4 = (-1 : Int32) then (
      some (0 : Int32)
    ) else (
      some (1 : Int32)
    )
   : Option Int32) fun y7 =>
  Option.bind (rn_bl y7) fun y12 =>
  some y12
set_option maxHeartbeats 4000000 in
set_option maxRecDepth 100000 in
theorem c_Ch_hasTree {Z : rn_Z} {g1 g2 : Nat} {x : tX} {d : tD} {c : tC} {u : tU} {t : tT} {a : tG} {b : tG} {m : tM} {o : tO} {E : List rn_C} {v0 : Int32} {v1 : Int32} {v2 : Int32} {res : Int32} (h : F_Ch_hasTree c v0 v1 v2 = some res) : Call Z M_Ch_hasTree [.ref 4, .int v0, .int v1, .int v2] (emb g1 g2 x d c u t a b m o E) 0 0 (some (.int res)) (emb g1 g2 x d c u t a b m o E) := by
  unfold F_Ch_hasTree at h
  refine rn_call (by decide) 0 (by exact Nat.le_of_ble_eq_true rfl) ?_
  show Rn Z M_Ch_hasTree 0 [some (.ref 4), some (.int v0), some (.int v1), some (.int v2)] [] (emb g1 g2 x d c u t a b m o E) 0 0 _
  refine rn_aload_n (by exact dc_Ch_hasTree 0 rfl) (by exact rfl) ?_
  refine rn_getf (v := .ref 6) fd_Ch_15 (by exact dc_Ch_hasTree 1 rfl) (by exact rfl) (by exact rfl) ?_
  refine rn_iload_n (by exact dc_Ch_hasTree 2 rfl) (by exact rfl) ?_
  refine rn_iload_n (by exact dc_Ch_hasTree 3 rfl) (by exact rfl) ?_
  refine rn_iload_n (by exact dc_Ch_hasTree 4 rfl) (by exact rfl) ?_
  obtain ⟨x2, e1, h3⟩ := rn_bind h
  clear h
  refine rn_invS0 (by exact c_Ch_cell e1) is_Ch_49 (by exact ⟨Nat.le_of_ble_eq_true rfl, Nat.le_of_ble_eq_true rfl⟩) (by exact dc_Ch_hasTree 5 rfl) (by exact rfl) (by exact rfl) (by exact Nat.le_of_ble_eq_true rfl) ?_
  show Rn _ _ 10 [some (.ref 4), some (.int v0), some (.int v1), some (.int v2)] [.int x2, .ref 6] (emb g1 g2 x d c u t a b m o E) _ _ _
  obtain ⟨x4, e5, h6⟩ := rn_bind h3
  clear h3
  refine rn_iaload (by exact dc_Ch_hasTree 6 rfl) (by exact rfl) e5 ?_
  refine rn_iconst (v := (-1 : Int32)) (by exact dc_Ch_hasTree 7 rfl) (by decide) ?_
  obtain ⟨y7, e8, h10⟩ := rn_bind h6
  clear h6
  have jq9 : Rn Z M_Ch_hasTree 20 [none, none, none, none] [.int y7] (emb g1 g2 x d c u t a b m o E) 0 0 (rn_Ret Z (some (.int res)) (emb g1 g2 x d c u t a b m o E)) := by
    obtain ⟨y12, e13, h15⟩ := rn_bind h10
    clear h10
    obtain ⟨rfl, hb14⟩ := rn_bl_some e13
    cases h15
    exact rn_zreturn (by exact dc_Ch_hasTree 12 rfl) (by exact rfl) hb14
  by_cases c11 : x4 = (-1 : Int32)
  · replace e8 := rn_ifp c11 e8
    refine rn_icmp_eq_t 19 (by exact dc_Ch_hasTree 8 rfl) (by exact rfl) c11 ?_
    refine rn_iconst (v := (0 : Int32)) (by exact dc_Ch_hasTree 11 rfl) (by decide) ?_
    cases e8
    exact rn_weak _ (by repeat (first | exact rn_le_0 | apply rn_le_s | apply rn_le_x)) jq9
  · replace e8 := rn_ifn c11 e8
    refine rn_icmp_eq_f 19 (by exact dc_Ch_hasTree 8 rfl) (by exact rfl) c11 ?_
    refine rn_iconst (v := (1 : Int32)) (by exact dc_Ch_hasTree 9 rfl) (by decide) ?_
    refine rn_goto 20 (by exact dc_Ch_hasTree 10 rfl) (by exact rfl) ?_
    cases e8
    exact rn_weak _ (by repeat (first | exact rn_le_0 | apply rn_le_s | apply rn_le_x)) jq9
def F_Ch_emptySum (c : tC) (v0 : Int32) : Option Int64 :=
  Option.bind (F_Ch_cell  v0 (0 : Int32) (0 : Int32)) fun x2 =>
  Option.bind (aG (C_sums c) 390 x2) fun x4 =>
  some x4
set_option maxHeartbeats 4000000 in
set_option maxRecDepth 100000 in
theorem c_Ch_emptySum {Z : rn_Z} {g1 g2 : Nat} {x : tX} {d : tD} {c : tC} {u : tU} {t : tT} {a : tG} {b : tG} {m : tM} {o : tO} {E : List rn_C} {v0 : Int32} {res : Int64} (h : F_Ch_emptySum c v0 = some res) : Call Z M_Ch_emptySum [.ref 4, .int v0] (emb g1 g2 x d c u t a b m o E) 0 0 (some (.long res)) (emb g1 g2 x d c u t a b m o E) := by
  unfold F_Ch_emptySum at h
  refine rn_call (by decide) 0 (by exact Nat.le_of_ble_eq_true rfl) ?_
  show Rn Z M_Ch_emptySum 0 [some (.ref 4), some (.int v0)] [] (emb g1 g2 x d c u t a b m o E) 0 0 _
  refine rn_aload_n (by exact dc_Ch_emptySum 0 rfl) (by exact rfl) ?_
  refine rn_getf (v := .ref 5) fd_Ch_11 (by exact dc_Ch_emptySum 1 rfl) (by exact rfl) (by exact rfl) ?_
  refine rn_iload_n (by exact dc_Ch_emptySum 2 rfl) (by exact rfl) ?_
  refine rn_iconst (v := (0 : Int32)) (by exact dc_Ch_emptySum 3 rfl) (by decide) ?_
  refine rn_iconst (v := (0 : Int32)) (by exact dc_Ch_emptySum 4 rfl) (by decide) ?_
  obtain ⟨x2, e1, h3⟩ := rn_bind h
  clear h
  refine rn_invS0 (by exact c_Ch_cell e1) is_Ch_49 (by exact ⟨Nat.le_of_ble_eq_true rfl, Nat.le_of_ble_eq_true rfl⟩) (by exact dc_Ch_emptySum 5 rfl) (by exact rfl) (by exact rfl) (by exact Nat.le_of_ble_eq_true rfl) ?_
  show Rn _ _ 10 [some (.ref 4), some (.int v0)] [.int x2, .ref 5] (emb g1 g2 x d c u t a b m o E) _ _ _
  obtain ⟨x4, e5, h6⟩ := rn_bind h3
  clear h3
  refine rn_laload (by exact dc_Ch_emptySum 6 rfl) (by exact rfl) e5 ?_
  cases h6
  exact rn_lreturn (by exact dc_Ch_emptySum 7 rfl) (by exact rfl)
def F_Ch_dropText (c : tC)  : Option tC :=
  some (C_sums c, C_costs c, C_rules c, C_sizes c, C_lengths c, C_letters c, (-1 : Int32), C_restSums c, C_restCosts c, C_restLengths c)
set_option maxHeartbeats 4000000 in
set_option maxRecDepth 100000 in
theorem c_Ch_dropText {Z : rn_Z} {g1 g2 : Nat} {x : tX} {d : tD} {c : tC} {u : tU} {t : tT} {a : tG} {b : tG} {m : tM} {o : tO} {E : List rn_C}  {c_r : tC} (h : F_Ch_dropText c  = some c_r) : Call Z M_Ch_dropText [.ref 4] (emb g1 g2 x d c u t a b m o E) 0 0 none (emb g1 g2 x d c_r u t a b m o E) := by
  unfold F_Ch_dropText at h
  refine rn_call (by decide) 0 (by exact Nat.le_of_ble_eq_true rfl) ?_
  show Rn Z M_Ch_dropText 0 [some (.ref 4)] [] (emb g1 g2 x d c u t a b m o E) 0 0 _
  refine rn_aload_n (by exact dc_Ch_dropText 0 rfl) (by exact rfl) ?_
  refine rn_iconst (v := (-1 : Int32)) (by exact dc_Ch_dropText 1 rfl) (by decide) ?_
  refine rn_putf (w2 := (emb g1 g2 x d (C_sums c, C_costs c, C_rules c, C_sizes c, C_lengths c, C_letters c, (-1 : Int32), C_restSums c, C_restCosts c, C_restLengths c) u t a b m o E)) fd_Ch_32 (by exact dc_Ch_dropText 2 rfl) (by exact rfl) (by exact rfl) (by exact Nat.le_of_ble_eq_true rfl) (by exact rfl) ?_
  cases h
  exact rn_return (by exact dc_Ch_dropText 3 rfl) (by exact rfl)
def F_Ch_takeText_L10 (d : tD) : Nat → tC → Int32 → Option tC
  | 0, _, _ => none
  | n + 1, c, l2 =>
    if (C_textLength c) ≤ l2 then (
      some c
    ) else (
      Option.bind (aG (D_characters d) 300 l2) fun x2 =>
      Option.bind (aS (C_letters c) 8 l2 (rn_ch x2)) fun f5 =>
      F_Ch_takeText_L10 d n (C_sums c, C_costs c, C_rules c, C_sizes c, C_lengths c, f5, C_textLength c, C_restSums c, C_restCosts c, C_restLengths c) (l2 + 1)
    )
set_option maxHeartbeats 4000000 in
set_option maxRecDepth 100000 in
theorem p_Ch_takeText_L10 {Z : rn_Z} {g1 g2 : Nat} {x : tX} {d : tD}  {u : tU} {t : tT} {a : tG} {b : tG} {m : tM} {o : tO} {E : List rn_C}   {K : rn_K} {ca sa : Nat} {cz : tC} (hx : Rn Z M_Ch_takeText 36 [none, none, none] [] (emb g1 g2 x d cz u t a b m o E) ca sa K) (n : Nat) : ∀ (c : tC) (l2 : Int32), F_Ch_takeText_L10 d n c l2 = some cz → Rn Z M_Ch_takeText 10 [some (.ref 4), some (.ref 2), some (.int l2)] [] (emb g1 g2 x d c u t a b m o E) ca sa K := by
  induction n with
  | zero =>
    intro c l2 h
    rw [F_Ch_takeText_L10] at h
    cases h
  | succ n ih =>
    intro c l2 h
    rw [F_Ch_takeText_L10] at h
    refine rn_iload_n (by exact dc_Ch_takeText 6 rfl) (by exact rfl) ?_
    refine rn_aload_n (by exact dc_Ch_takeText 7 rfl) (by exact rfl) ?_
    refine rn_getf (v := .int (C_textLength c)) fd_Ch_32 (by exact dc_Ch_takeText 8 rfl) (by exact rfl) (by exact rfl) ?_
    by_cases c1 : (C_textLength c) ≤ l2
    · replace h := rn_ifp c1 h
      refine rn_icmp_ge_t 36 (by exact dc_Ch_takeText 9 rfl) (by exact rfl) c1 ?_
      cases h
      exact rn_weak _ (by repeat (first | exact rn_le_0 | apply rn_le_s | apply rn_le_x)) hx
    · replace h := rn_ifn c1 h
      refine rn_icmp_ge_f 36 (by exact dc_Ch_takeText 9 rfl) (by exact rfl) c1 ?_
      refine rn_aload_n (by exact dc_Ch_takeText 10 rfl) (by exact rfl) ?_
      refine rn_getf (v := .ref 10) fd_Ch_28 (by exact dc_Ch_takeText 11 rfl) (by exact rfl) (by exact rfl) ?_
      refine rn_iload_n (by exact dc_Ch_takeText 12 rfl) (by exact rfl) ?_
      refine rn_aload_n (by exact dc_Ch_takeText 13 rfl) (by exact rfl) ?_
      refine rn_getf (v := .ref 3) fd_Ch_58 (by exact dc_Ch_takeText 14 rfl) (by exact rfl) (by exact rfl) ?_
      refine rn_iload_n (by exact dc_Ch_takeText 15 rfl) (by exact rfl) ?_
      obtain ⟨x2, e3, h4⟩ := rn_bind h
      clear h
      refine rn_caload (by exact dc_Ch_takeText 16 rfl) (by exact rfl) e3 ?_
      obtain ⟨f5, e6, h7⟩ := rn_bind h4
      clear h4
      refine rn_castore (w2 := (emb g1 g2 x d (C_sums c, C_costs c, C_rules c, C_sizes c, C_lengths c, f5, C_textLength c, C_restSums c, C_restCosts c, C_restLengths c) u t a b m o E)) (by exact dc_Ch_takeText 17 rfl) (by exact rfl) e6 (by exact rfl) ?_
      refine rn_iinc (ls' := [some (.ref 4), some (.ref 2), some (.int (l2 + 1))]) (by exact dc_Ch_takeText 18 rfl) (by decide) (by exact rfl) (by exact rn_inc_1 _) (by exact rfl) ?_
      refine rn_goto 10 (by exact dc_Ch_takeText 19 rfl) (by exact rfl) ?_
      exact rn_weak _ (by repeat (first | exact rn_le_0 | apply rn_le_s | apply rn_le_x)) (ih _ _ h7)
def F_Ch_takeText (d : tD) (c : tC)  : Option tC :=
  Option.bind (F_Ch_takeText_L10 d rn_fu (C_sums c, C_costs c, C_rules c, C_sizes c, C_lengths c, C_letters c, D_length d, C_restSums c, C_restCosts c, C_restLengths c) (0 : Int32)) fun c4 =>
  some c4
set_option maxHeartbeats 4000000 in
set_option maxRecDepth 100000 in
theorem c_Ch_takeText {Z : rn_Z} {g1 g2 : Nat} {x : tX} {d : tD} {c : tC} {u : tU} {t : tT} {a : tG} {b : tG} {m : tM} {o : tO} {E : List rn_C}  {c_r : tC} (h : F_Ch_takeText d c  = some c_r) : Call Z M_Ch_takeText [.ref 4, .ref 2] (emb g1 g2 x d c u t a b m o E) 0 0 none (emb g1 g2 x d c_r u t a b m o E) := by
  unfold F_Ch_takeText at h
  refine rn_call (by decide) 1 (by exact Nat.le_of_ble_eq_true rfl) ?_
  show Rn Z M_Ch_takeText 0 [some (.ref 4), some (.ref 2), none] [] (emb g1 g2 x d c u t a b m o E) 0 0 _
  refine rn_aload_n (by exact dc_Ch_takeText 0 rfl) (by exact rfl) ?_
  refine rn_aload_n (by exact dc_Ch_takeText 1 rfl) (by exact rfl) ?_
  refine rn_getf (v := .int (D_length d)) fd_Ch_53 (by exact dc_Ch_takeText 2 rfl) (by exact rfl) (by exact rfl) ?_
  refine rn_putf (w2 := (emb g1 g2 x d (C_sums c, C_costs c, C_rules c, C_sizes c, C_lengths c, C_letters c, D_length d, C_restSums c, C_restCosts c, C_restLengths c) u t a b m o E)) fd_Ch_32 (by exact dc_Ch_takeText 3 rfl) (by exact rfl) (by exact rfl) (by exact Nat.le_of_ble_eq_true rfl) (by exact rfl) ?_
  refine rn_iconst (v := (0 : Int32)) (by exact dc_Ch_takeText 4 rfl) (by decide) ?_
  refine rn_istore_n (ls' := [some (.ref 4), some (.ref 2), some (.int (0 : Int32))]) (by exact dc_Ch_takeText 5 rfl) (by decide) (by exact rfl) ?_
  obtain ⟨c4, e1, h3⟩ := rn_bind h
  clear h
  have jx2 : Rn Z M_Ch_takeText 36 [none, none, none] [] (emb g1 g2 x d c4 u t a b m o E) 0 0 (rn_Ret Z none (emb g1 g2 x d c_r u t a b m o E)) := by
    cases h3
    exact rn_return (by exact dc_Ch_takeText 20 rfl) (by exact rfl)
  exact rn_weak _ (by repeat (first | exact rn_le_0 | apply rn_le_s | apply rn_le_x)) (p_Ch_takeText_L10 jx2 _ _ _ e1)
