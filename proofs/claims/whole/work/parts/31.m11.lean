def F_Md_ruleLine (m : tM)  : Option (Int32 × tM) :=
  if (M_rules m) = (12 : Int32) then (
    some ((0 : Int32), m)
  ) else (
    if (M_at m) = (M_end m) then (
      some ((0 : Int32), m)
    ) else (
      Option.bind (aG (M_src m) 300 (M_at m)) fun x3 =>
      Option.bind (F_Md_isCapital  x3) fun x7 =>
      if ¬ x7 = 0 then (
        Option.bind (aG (M_src m) 300 (M_at m)) fun x10 =>
        Option.bind (F_Md_symbol m x10) fun (x14, m15) =>
        Option.bind (aS (M_heads m15) 12 (M_rules m) x14) fun f17 =>
        Option.bind (aG (M_heads (M_put_at (M_put_heads m15 f17) ((M_at (M_put_heads m15 f17)) + (1 : Int32)))) 12 (M_rules m)) fun x20 =>
        if x20 < 0 then (
          some ((0 : Int32), (M_put_at (M_put_heads m15 f17) ((M_at (M_put_heads m15 f17)) + (1 : Int32))))
        ) else (
          Option.bind (F_Md_next (M_put_at (M_put_heads m15 f17) ((M_at (M_put_heads m15 f17)) + (1 : Int32))) (61 : Int32)) fun (x25, m26) =>
          if x25 = 0 then (
            some ((0 : Int32), m26)
          ) else (
            Option.bind (F_Md_body m26 (M_rules m)) fun (x30, m31) =>
            if x30 = 0 then (
              some ((0 : Int32), m31)
            ) else (
              Option.bind (F_Md_next m31 (32 : Int32)) fun (x35, m36) =>
              if x35 = 0 then (
                some ((0 : Int32), m36)
              ) else (
                Option.bind (F_Md_number m36 ) fun (x40, m41) =>
                if ¬ x40 = 0 then (
                  Option.bind (aS (M_weights m41) 12 (M_rules m) ((M_value m41).toInt64)) fun f44 =>
                  Option.bind (F_Md_next (M_put_weights m41 f44) (47 : Int32)) fun (x48, m49) =>
                  if x48 = 0 then (
                    Option.bind (F_Md_next m49 (32 : Int32)) fun (x53, m54) =>
                    if x53 = 0 then (
                      some ((0 : Int32), m54)
                    ) else (
                      Option.bind (F_Md_number m54 ) fun (x58, m59) =>
                      if x58 = 0 then (
                        some ((0 : Int32), m59)
                      ) else (
                        if (99 : Int32) < (M_value m59) then (
                          some ((0 : Int32), m59)
                        ) else (
                          if (M_at m59) = (M_end m59) then (
                            Option.bind (aS (M_costs m59) 12 (M_rules m) (M_value m59)) fun f64 =>
                            some ((1 : Int32), (M_put_rules (M_put_costs m59 f64) ((M_rules (M_put_costs m59 f64)) + (1 : Int32))))
                          ) else (
                            some ((0 : Int32), m59)
                          )
                        )
                      )
                    )
                  ) else (
                    Option.bind (F_Md_number m49 ) fun (x68, m69) =>
                    if x68 = 0 then (
                      some ((0 : Int32), m69)
                    ) else (
                      if ¬ ((M_value m69) - (M_value m69) / (2 : Int32) * (2 : Int32)) = 0 then (
                        Option.bind (aG (M_weights m69) 12 (M_rules m)) fun x73 =>
                        Option.bind (F_Md_inverse  ((M_value m69).toInt64)) fun x77 =>
                        Option.bind (aS (M_weights m69) 12 (M_rules m) (x73 * x77)) fun f79 =>
                        Option.bind (F_Md_next (M_put_weights m69 f79) (32 : Int32)) fun (x83, m84) =>
                        if x83 = 0 then (
                          some ((0 : Int32), m84)
                        ) else (
                          Option.bind (F_Md_number m84 ) fun (x88, m89) =>
                          if x88 = 0 then (
                            some ((0 : Int32), m89)
                          ) else (
                            if (99 : Int32) < (M_value m89) then (
                              some ((0 : Int32), m89)
                            ) else (
                              if (M_at m89) = (M_end m89) then (
                                Option.bind (aS (M_costs m89) 12 (M_rules m) (M_value m89)) fun f94 =>
                                some ((1 : Int32), (M_put_rules (M_put_costs m89 f94) ((M_rules (M_put_costs m89 f94)) + (1 : Int32))))
                              ) else (
                                some ((0 : Int32), m89)
                              )
                            )
                          )
                        )
                      ) else (
                        some ((0 : Int32), m69)
                      )
                    )
                  )
                ) else (
                  some ((0 : Int32), m41)
                )
              )
            )
          )
        )
      ) else (
        some ((0 : Int32), m)
      )
    )
  )
set_option maxHeartbeats 4000000 in
set_option maxRecDepth 100000 in
theorem c_Md_ruleLine {Z : rn_Z} {g1 g2 : Nat} {x : tX} {d : tD} {c : tC} {u : tU} {t : tT} {a : tG} {b : tG} {m : tM} {o : tO} {E : List rn_C}  {res : Int32} {m_r : tM} (h : F_Md_ruleLine m  = some (res, m_r)) : Call Z M_Md_ruleLine [.ref 53] (emb g1 g2 x d c u t a b m o E) 0 0 (some (.int res)) (emb g1 g2 x d c u t a b m_r o E) := by
  unfold F_Md_ruleLine at h
  refine rn_call (by decide) 1 (by exact Nat.le_of_ble_eq_true rfl) ?_
  show Rn Z M_Md_ruleLine 0 [some (.ref 53), none] [] (emb g1 g2 x d c u t a b m o E) 0 0 _
  refine rn_aload_n (by exact dc_Md_ruleLine 0 rfl) (by exact rfl) ?_
  refine rn_getf (v := .int (M_rules m)) fd_Md_115 (by exact dc_Md_ruleLine 1 rfl) (by exact rfl) (by exact rfl) ?_
  refine rn_bipush (v := (12 : Int32)) (by exact dc_Md_ruleLine 2 rfl) (by decide) ?_
  by_cases c1 : (M_rules m) = (12 : Int32)
  · replace h := rn_ifp c1 h
    refine rn_icmp_eq_t 35 (by exact dc_Md_ruleLine 3 rfl) (by exact rfl) c1 ?_
    refine rn_iconst (v := (0 : Int32)) (by exact dc_Md_ruleLine 16 rfl) (by decide) ?_
    cases h
    exact rn_zreturn (by exact dc_Md_ruleLine 17 rfl) (by exact rfl) (by first | exact Or.inl rfl | exact Or.inr rfl)
  · replace h := rn_ifn c1 h
    refine rn_icmp_eq_f 35 (by exact dc_Md_ruleLine 3 rfl) (by exact rfl) c1 ?_
    refine rn_aload_n (by exact dc_Md_ruleLine 4 rfl) (by exact rfl) ?_
    refine rn_getf (v := .int (M_at m)) fd_Md_86 (by exact dc_Md_ruleLine 5 rfl) (by exact rfl) (by exact rfl) ?_
    refine rn_aload_n (by exact dc_Md_ruleLine 6 rfl) (by exact rfl) ?_
    refine rn_getf (v := .int (M_end m)) fd_Md_89 (by exact dc_Md_ruleLine 7 rfl) (by exact rfl) (by exact rfl) ?_
    by_cases c2 : (M_at m) = (M_end m)
    · replace h := rn_ifp c2 h
      refine rn_icmp_eq_t 35 (by exact dc_Md_ruleLine 8 rfl) (by exact rfl) c2 ?_
      refine rn_iconst (v := (0 : Int32)) (by exact dc_Md_ruleLine 16 rfl) (by decide) ?_
      cases h
      exact rn_zreturn (by exact dc_Md_ruleLine 17 rfl) (by exact rfl) (by first | exact Or.inl rfl | exact Or.inr rfl)
    · replace h := rn_ifn c2 h
      refine rn_icmp_eq_f 35 (by exact dc_Md_ruleLine 8 rfl) (by exact rfl) c2 ?_
      refine rn_aload_n (by exact dc_Md_ruleLine 9 rfl) (by exact rfl) ?_
      refine rn_getf (v := .ref 55) fd_Md_13 (by exact dc_Md_ruleLine 10 rfl) (by exact rfl) (by exact rfl) ?_
      refine rn_aload_n (by exact dc_Md_ruleLine 11 rfl) (by exact rfl) ?_
      refine rn_getf (v := .int (M_at m)) fd_Md_86 (by exact dc_Md_ruleLine 12 rfl) (by exact rfl) (by exact rfl) ?_
      obtain ⟨x3, e4, h5⟩ := rn_bind h
      clear h
      refine rn_iaload (by exact dc_Md_ruleLine 13 rfl) (by exact rfl) e4 ?_
      obtain ⟨x7, e6, h8⟩ := rn_bind h5
      clear h5
      refine rn_invS0 (by exact c_Md_isCapital e6) is_Md_104 (by exact ⟨Nat.le_of_ble_eq_true rfl, Nat.le_of_ble_eq_true rfl⟩) (by exact dc_Md_ruleLine 14 rfl) (by exact rfl) (by exact rfl) (by exact Nat.le_of_ble_eq_true rfl) ?_
      show Rn _ _ 32 [some (.ref 53), none] [.int x7] (emb g1 g2 x d c u t a b m o E) _ _ _
      by_cases c9 : ¬ x7 = 0
      · replace h8 := rn_ifp c9 h8
        refine rn_if_ne_t 37 (by exact dc_Md_ruleLine 15 rfl) (by exact rfl) c9 ?_
        refine rn_aload_n (by exact dc_Md_ruleLine 18 rfl) (by exact rfl) ?_
        refine rn_getf (v := .int (M_rules m)) fd_Md_115 (by exact dc_Md_ruleLine 19 rfl) (by exact rfl) (by exact rfl) ?_
        refine rn_istore_n (ls' := [some (.ref 53), some (.int (M_rules m))]) (by exact dc_Md_ruleLine 20 rfl) (by decide) (by exact rfl) ?_
        refine rn_aload_n (by exact dc_Md_ruleLine 21 rfl) (by exact rfl) ?_
        refine rn_getf (v := .ref 57) fd_Md_19 (by exact dc_Md_ruleLine 22 rfl) (by exact rfl) (by exact rfl) ?_
        refine rn_iload_n (by exact dc_Md_ruleLine 23 rfl) (by exact rfl) ?_
        refine rn_aload_n (by exact dc_Md_ruleLine 24 rfl) (by exact rfl) ?_
        refine rn_aload_n (by exact dc_Md_ruleLine 25 rfl) (by exact rfl) ?_
        refine rn_getf (v := .ref 55) fd_Md_13 (by exact dc_Md_ruleLine 26 rfl) (by exact rfl) (by exact rfl) ?_
        refine rn_aload_n (by exact dc_Md_ruleLine 27 rfl) (by exact rfl) ?_
        refine rn_getf (v := .int (M_at m)) fd_Md_86 (by exact dc_Md_ruleLine 28 rfl) (by exact rfl) (by exact rfl) ?_
        obtain ⟨x10, e11, h12⟩ := rn_bind h8
        clear h8
        refine rn_iaload (by exact dc_Md_ruleLine 29 rfl) (by exact rfl) e11 ?_
        obtain ⟨⟨x14, m15⟩, e13, h16⟩ := rn_bind h12
        clear h12
        dsimp only at h16
        refine rn_invV0 (by exact c_Md_symbol e13) iv_Md_111 (by exact ⟨Nat.le_of_ble_eq_true rfl, Nat.le_of_ble_eq_true rfl⟩) (by exact dc_Md_ruleLine 30 rfl) (by exact rfl) (by exact rfl) (by exact rfl) (by exact Nat.le_of_ble_eq_true rfl) ?_
        show Rn _ _ 60 [some (.ref 53), some (.int (M_rules m))] [.int x14, .int (M_rules m), .ref 57] (emb g1 g2 x d c u t a b m15 o E) _ _ _
        obtain ⟨f17, e18, h19⟩ := rn_bind h16
        clear h16
        refine rn_iastore (w2 := (emb g1 g2 x d c u t a b (M_put_heads m15 f17) o E)) (by exact dc_Md_ruleLine 31 rfl) (by exact rfl) e18 (by exact sm_heads) ?_
        refine rn_aload_n (by exact dc_Md_ruleLine 32 rfl) (by exact rfl) ?_
        refine rn_dup (by exact dc_Md_ruleLine 33 rfl) (by exact rfl) ?_
        refine rn_getf (v := .int (M_at (M_put_heads m15 f17))) fd_Md_86 (by exact dc_Md_ruleLine 34 rfl) (by exact rfl) (by exact rfl) ?_
        refine rn_iconst (v := (1 : Int32)) (by exact dc_Md_ruleLine 35 rfl) (by decide) ?_
        refine rn_iadd (by exact dc_Md_ruleLine 36 rfl) ?_
        refine rn_putf (w2 := (emb g1 g2 x d c u t a b (M_put_at (M_put_heads m15 f17) ((M_at (M_put_heads m15 f17)) + (1 : Int32))) o E)) fd_Md_86 (by exact dc_Md_ruleLine 37 rfl) (by exact rfl) (by exact rfl) (by exact Nat.le_of_ble_eq_true rfl) (by exact sm_at) ?_
        refine rn_aload_n (by exact dc_Md_ruleLine 38 rfl) (by exact rfl) ?_
        refine rn_getf (v := .ref 57) fd_Md_19 (by exact dc_Md_ruleLine 39 rfl) (by exact rfl) (by exact rfl) ?_
        refine rn_iload_n (by exact dc_Md_ruleLine 40 rfl) (by exact rfl) ?_
        obtain ⟨x20, e21, h22⟩ := rn_bind h19
        clear h19
        refine rn_iaload (by exact dc_Md_ruleLine 41 rfl) (by exact rfl) e21 ?_
        by_cases c23 : x20 < 0
        · replace h22 := rn_ifp c23 h22
          refine rn_if_lt_t 113 (by exact dc_Md_ruleLine 42 rfl) (by exact rfl) c23 ?_
          refine rn_iconst (v := (0 : Int32)) (by exact dc_Md_ruleLine 58 rfl) (by decide) ?_
          cases h22
          exact rn_zreturn (by exact dc_Md_ruleLine 59 rfl) (by exact rfl) (by first | exact Or.inl rfl | exact Or.inr rfl)
        · replace h22 := rn_ifn c23 h22
          refine rn_if_lt_f 113 (by exact dc_Md_ruleLine 42 rfl) (by exact rfl) c23 ?_
          refine rn_aload_n (by exact dc_Md_ruleLine 43 rfl) (by exact rfl) ?_
          refine rn_bipush (v := (61 : Int32)) (by exact dc_Md_ruleLine 44 rfl) (by decide) ?_
          obtain ⟨⟨x25, m26⟩, e24, h27⟩ := rn_bind h22
          clear h22
          dsimp only at h27
          refine rn_invV0 (by exact c_Md_next e24) iv_Md_118 (by exact ⟨Nat.le_of_ble_eq_true rfl, Nat.le_of_ble_eq_true rfl⟩) (by exact dc_Md_ruleLine 45 rfl) (by exact rfl) (by exact rfl) (by exact rfl) (by exact Nat.le_of_ble_eq_true rfl) ?_
          show Rn _ _ 86 [some (.ref 53), some (.int (M_rules m))] [.int x25] (emb g1 g2 x d c u t a b m26 o E) _ _ _
          by_cases c28 : x25 = 0
          · replace h27 := rn_ifp c28 h27
            refine rn_if_eq_t 113 (by exact dc_Md_ruleLine 46 rfl) (by exact rfl) c28 ?_
            refine rn_iconst (v := (0 : Int32)) (by exact dc_Md_ruleLine 58 rfl) (by decide) ?_
            cases h27
            exact rn_zreturn (by exact dc_Md_ruleLine 59 rfl) (by exact rfl) (by first | exact Or.inl rfl | exact Or.inr rfl)
          · replace h27 := rn_ifn c28 h27
            refine rn_if_eq_f 113 (by exact dc_Md_ruleLine 46 rfl) (by exact rfl) c28 ?_
            refine rn_aload_n (by exact dc_Md_ruleLine 47 rfl) (by exact rfl) ?_
            refine rn_iload_n (by exact dc_Md_ruleLine 48 rfl) (by exact rfl) ?_
            obtain ⟨⟨x30, m31⟩, e29, h32⟩ := rn_bind h27
            clear h27
            dsimp only at h32
            refine rn_invV0 (by exact c_Md_body e29) iv_Md_121 (by exact ⟨Nat.le_of_ble_eq_true rfl, Nat.le_of_ble_eq_true rfl⟩) (by exact dc_Md_ruleLine 49 rfl) (by exact rfl) (by exact rfl) (by exact rfl) (by exact Nat.le_of_ble_eq_true rfl) ?_
            show Rn _ _ 94 [some (.ref 53), some (.int (M_rules m))] [.int x30] (emb g1 g2 x d c u t a b m31 o E) _ _ _
            by_cases c33 : x30 = 0
            · replace h32 := rn_ifp c33 h32
              refine rn_if_eq_t 113 (by exact dc_Md_ruleLine 50 rfl) (by exact rfl) c33 ?_
              refine rn_iconst (v := (0 : Int32)) (by exact dc_Md_ruleLine 58 rfl) (by decide) ?_
              cases h32
              exact rn_zreturn (by exact dc_Md_ruleLine 59 rfl) (by exact rfl) (by first | exact Or.inl rfl | exact Or.inr rfl)
            · replace h32 := rn_ifn c33 h32
              refine rn_if_eq_f 113 (by exact dc_Md_ruleLine 50 rfl) (by exact rfl) c33 ?_
              refine rn_aload_n (by exact dc_Md_ruleLine 51 rfl) (by exact rfl) ?_
              refine rn_bipush (v := (32 : Int32)) (by exact dc_Md_ruleLine 52 rfl) (by decide) ?_
              obtain ⟨⟨x35, m36⟩, e34, h37⟩ := rn_bind h32
              clear h32
              dsimp only at h37
              refine rn_invV0 (by exact c_Md_next e34) iv_Md_118 (by exact ⟨Nat.le_of_ble_eq_true rfl, Nat.le_of_ble_eq_true rfl⟩) (by exact dc_Md_ruleLine 53 rfl) (by exact rfl) (by exact rfl) (by exact rfl) (by exact Nat.le_of_ble_eq_true rfl) ?_
              show Rn _ _ 103 [some (.ref 53), some (.int (M_rules m))] [.int x35] (emb g1 g2 x d c u t a b m36 o E) _ _ _
              by_cases c38 : x35 = 0
              · replace h37 := rn_ifp c38 h37
                refine rn_if_eq_t 113 (by exact dc_Md_ruleLine 54 rfl) (by exact rfl) c38 ?_
                refine rn_iconst (v := (0 : Int32)) (by exact dc_Md_ruleLine 58 rfl) (by decide) ?_
                cases h37
                exact rn_zreturn (by exact dc_Md_ruleLine 59 rfl) (by exact rfl) (by first | exact Or.inl rfl | exact Or.inr rfl)
              · replace h37 := rn_ifn c38 h37
                refine rn_if_eq_f 113 (by exact dc_Md_ruleLine 54 rfl) (by exact rfl) c38 ?_
                refine rn_aload_n (by exact dc_Md_ruleLine 55 rfl) (by exact rfl) ?_
                obtain ⟨⟨x40, m41⟩, e39, h42⟩ := rn_bind h37
                clear h37
                dsimp only at h42
                refine rn_invV0 (by exact c_Md_number e39) iv_Md_124 (by exact ⟨Nat.le_of_ble_eq_true rfl, Nat.le_of_ble_eq_true rfl⟩) (by exact dc_Md_ruleLine 56 rfl) (by exact rfl) (by exact rfl) (by exact rfl) (by exact Nat.le_of_ble_eq_true rfl) ?_
                show Rn _ _ 110 [some (.ref 53), some (.int (M_rules m))] [.int x40] (emb g1 g2 x d c u t a b m41 o E) _ _ _
                by_cases c43 : ¬ x40 = 0
                · replace h42 := rn_ifp c43 h42
                  refine rn_if_ne_t 115 (by exact dc_Md_ruleLine 57 rfl) (by exact rfl) c43 ?_
                  refine rn_aload_n (by exact dc_Md_ruleLine 60 rfl) (by exact rfl) ?_
                  refine rn_getf (v := .ref 60) fd_Md_28 (by exact dc_Md_ruleLine 61 rfl) (by exact rfl) (by exact rfl) ?_
                  refine rn_iload_n (by exact dc_Md_ruleLine 62 rfl) (by exact rfl) ?_
                  refine rn_aload_n (by exact dc_Md_ruleLine 63 rfl) (by exact rfl) ?_
                  refine rn_getf (v := .int (M_value m41)) fd_Md_92 (by exact dc_Md_ruleLine 64 rfl) (by exact rfl) (by exact rfl) ?_
                  refine rn_i2l (by exact dc_Md_ruleLine 65 rfl) ?_
                  obtain ⟨f44, e45, h46⟩ := rn_bind h42
                  clear h42
                  refine rn_lastore (w2 := (emb g1 g2 x d c u t a b (M_put_weights m41 f44) o E)) (by exact dc_Md_ruleLine 66 rfl) (by exact rfl) e45 (by exact sm_weights) ?_
                  refine rn_aload_n (by exact dc_Md_ruleLine 67 rfl) (by exact rfl) ?_
                  refine rn_bipush (v := (47 : Int32)) (by exact dc_Md_ruleLine 68 rfl) (by decide) ?_
                  obtain ⟨⟨x48, m49⟩, e47, h50⟩ := rn_bind h46
                  clear h46
                  dsimp only at h50
                  refine rn_invV0 (by exact c_Md_next e47) iv_Md_118 (by exact ⟨Nat.le_of_ble_eq_true rfl, Nat.le_of_ble_eq_true rfl⟩) (by exact dc_Md_ruleLine 69 rfl) (by exact rfl) (by exact rfl) (by exact rfl) (by exact Nat.le_of_ble_eq_true rfl) ?_
                  show Rn _ _ 132 [some (.ref 53), some (.int (M_rules m))] [.int x48] (emb g1 g2 x d c u t a b m49 o E) _ _ _
                  by_cases c51 : x48 = 0
                  · replace h50 := rn_ifp c51 h50
                    refine rn_if_eq_t 174 (by exact dc_Md_ruleLine 70 rfl) (by exact rfl) c51 ?_
                    refine rn_aload_n (by exact dc_Md_ruleLine 94 rfl) (by exact rfl) ?_
                    refine rn_bipush (v := (32 : Int32)) (by exact dc_Md_ruleLine 95 rfl) (by decide) ?_
                    obtain ⟨⟨x53, m54⟩, e52, h55⟩ := rn_bind h50
                    clear h50
                    dsimp only at h55
                    refine rn_invV0 (by exact c_Md_next e52) iv_Md_118 (by exact ⟨Nat.le_of_ble_eq_true rfl, Nat.le_of_ble_eq_true rfl⟩) (by exact dc_Md_ruleLine 96 rfl) (by exact rfl) (by exact rfl) (by exact rfl) (by exact Nat.le_of_ble_eq_true rfl) ?_
                    show Rn _ _ 180 [some (.ref 53), some (.int (M_rules m))] [.int x53] (emb g1 g2 x d c u t a b m54 o E) _ _ _
                    by_cases c56 : x53 = 0
                    · replace h55 := rn_ifp c56 h55
                      refine rn_if_eq_t 210 (by exact dc_Md_ruleLine 97 rfl) (by exact rfl) c56 ?_
                      refine rn_iconst (v := (0 : Int32)) (by exact dc_Md_ruleLine 110 rfl) (by decide) ?_
                      cases h55
                      exact rn_zreturn (by exact dc_Md_ruleLine 111 rfl) (by exact rfl) (by first | exact Or.inl rfl | exact Or.inr rfl)
                    · replace h55 := rn_ifn c56 h55
                      refine rn_if_eq_f 210 (by exact dc_Md_ruleLine 97 rfl) (by exact rfl) c56 ?_
                      refine rn_aload_n (by exact dc_Md_ruleLine 98 rfl) (by exact rfl) ?_
                      obtain ⟨⟨x58, m59⟩, e57, h60⟩ := rn_bind h55
                      clear h55
                      dsimp only at h60
                      refine rn_invV0 (by exact c_Md_number e57) iv_Md_124 (by exact ⟨Nat.le_of_ble_eq_true rfl, Nat.le_of_ble_eq_true rfl⟩) (by exact dc_Md_ruleLine 99 rfl) (by exact rfl) (by exact rfl) (by exact rfl) (by exact Nat.le_of_ble_eq_true rfl) ?_
                      show Rn _ _ 187 [some (.ref 53), some (.int (M_rules m))] [.int x58] (emb g1 g2 x d c u t a b m59 o E) _ _ _
                      by_cases c61 : x58 = 0
                      · replace h60 := rn_ifp c61 h60
                        refine rn_if_eq_t 210 (by exact dc_Md_ruleLine 100 rfl) (by exact rfl) c61 ?_
                        refine rn_iconst (v := (0 : Int32)) (by exact dc_Md_ruleLine 110 rfl) (by decide) ?_
                        cases h60
                        exact rn_zreturn (by exact dc_Md_ruleLine 111 rfl) (by exact rfl) (by first | exact Or.inl rfl | exact Or.inr rfl)
                      · replace h60 := rn_ifn c61 h60
                        refine rn_if_eq_f 210 (by exact dc_Md_ruleLine 100 rfl) (by exact rfl) c61 ?_
                        refine rn_aload_n (by exact dc_Md_ruleLine 101 rfl) (by exact rfl) ?_
                        refine rn_getf (v := .int (M_value m59)) fd_Md_92 (by exact dc_Md_ruleLine 102 rfl) (by exact rfl) (by exact rfl) ?_
                        refine rn_bipush (v := (99 : Int32)) (by exact dc_Md_ruleLine 103 rfl) (by decide) ?_
                        by_cases c62 : (99 : Int32) < (M_value m59)
                        · replace h60 := rn_ifp c62 h60
                          refine rn_icmp_gt_t 210 (by exact dc_Md_ruleLine 104 rfl) (by exact rfl) c62 ?_
                          refine rn_iconst (v := (0 : Int32)) (by exact dc_Md_ruleLine 110 rfl) (by decide) ?_
                          cases h60
                          exact rn_zreturn (by exact dc_Md_ruleLine 111 rfl) (by exact rfl) (by first | exact Or.inl rfl | exact Or.inr rfl)
                        · replace h60 := rn_ifn c62 h60
                          refine rn_icmp_gt_f 210 (by exact dc_Md_ruleLine 104 rfl) (by exact rfl) c62 ?_
                          refine rn_aload_n (by exact dc_Md_ruleLine 105 rfl) (by exact rfl) ?_
                          refine rn_getf (v := .int (M_at m59)) fd_Md_86 (by exact dc_Md_ruleLine 106 rfl) (by exact rfl) (by exact rfl) ?_
                          refine rn_aload_n (by exact dc_Md_ruleLine 107 rfl) (by exact rfl) ?_
                          refine rn_getf (v := .int (M_end m59)) fd_Md_89 (by exact dc_Md_ruleLine 108 rfl) (by exact rfl) (by exact rfl) ?_
                          by_cases c63 : (M_at m59) = (M_end m59)
                          · replace h60 := rn_ifp c63 h60
                            refine rn_icmp_eq_t 212 (by exact dc_Md_ruleLine 109 rfl) (by exact rfl) c63 ?_
                            refine rn_aload_n (by exact dc_Md_ruleLine 112 rfl) (by exact rfl) ?_
                            refine rn_getf (v := .ref 61) fd_Md_32 (by exact dc_Md_ruleLine 113 rfl) (by exact rfl) (by exact rfl) ?_
                            refine rn_iload_n (by exact dc_Md_ruleLine 114 rfl) (by exact rfl) ?_
                            refine rn_aload_n (by exact dc_Md_ruleLine 115 rfl) (by exact rfl) ?_
                            refine rn_getf (v := .int (M_value m59)) fd_Md_92 (by exact dc_Md_ruleLine 116 rfl) (by exact rfl) (by exact rfl) ?_
                            obtain ⟨f64, e65, h66⟩ := rn_bind h60
                            clear h60
                            refine rn_iastore (w2 := (emb g1 g2 x d c u t a b (M_put_costs m59 f64) o E)) (by exact dc_Md_ruleLine 117 rfl) (by exact rfl) e65 (by exact sm_costs) ?_
                            refine rn_aload_n (by exact dc_Md_ruleLine 118 rfl) (by exact rfl) ?_
                            refine rn_dup (by exact dc_Md_ruleLine 119 rfl) (by exact rfl) ?_
                            refine rn_getf (v := .int (M_rules (M_put_costs m59 f64))) fd_Md_115 (by exact dc_Md_ruleLine 120 rfl) (by exact rfl) (by exact rfl) ?_
                            refine rn_iconst (v := (1 : Int32)) (by exact dc_Md_ruleLine 121 rfl) (by decide) ?_
                            refine rn_iadd (by exact dc_Md_ruleLine 122 rfl) ?_
                            refine rn_putf (w2 := (emb g1 g2 x d c u t a b (M_put_rules (M_put_costs m59 f64) ((M_rules (M_put_costs m59 f64)) + (1 : Int32))) o E)) fd_Md_115 (by exact dc_Md_ruleLine 123 rfl) (by exact rfl) (by exact rfl) (by exact Nat.le_of_ble_eq_true rfl) (by exact sm_rules) ?_
                            refine rn_iconst (v := (1 : Int32)) (by exact dc_Md_ruleLine 124 rfl) (by decide) ?_
                            cases h66
                            exact rn_zreturn (by exact dc_Md_ruleLine 125 rfl) (by exact rfl) (by first | exact Or.inl rfl | exact Or.inr rfl)
                          · replace h60 := rn_ifn c63 h60
                            refine rn_icmp_eq_f 212 (by exact dc_Md_ruleLine 109 rfl) (by exact rfl) c63 ?_
                            refine rn_iconst (v := (0 : Int32)) (by exact dc_Md_ruleLine 110 rfl) (by decide) ?_
                            cases h60
                            exact rn_zreturn (by exact dc_Md_ruleLine 111 rfl) (by exact rfl) (by first | exact Or.inl rfl | exact Or.inr rfl)
                  · replace h50 := rn_ifn c51 h50
                    refine rn_if_eq_f 174 (by exact dc_Md_ruleLine 70 rfl) (by exact rfl) c51 ?_
                    refine rn_aload_n (by exact dc_Md_ruleLine 71 rfl) (by exact rfl) ?_
                    obtain ⟨⟨x68, m69⟩, e67, h70⟩ := rn_bind h50
                    clear h50
                    dsimp only at h70
                    refine rn_invV0 (by exact c_Md_number e67) iv_Md_124 (by exact ⟨Nat.le_of_ble_eq_true rfl, Nat.le_of_ble_eq_true rfl⟩) (by exact dc_Md_ruleLine 72 rfl) (by exact rfl) (by exact rfl) (by exact rfl) (by exact Nat.le_of_ble_eq_true rfl) ?_
                    show Rn _ _ 139 [some (.ref 53), some (.int (M_rules m))] [.int x68] (emb g1 g2 x d c u t a b m69 o E) _ _ _
                    by_cases c71 : x68 = 0
                    · replace h70 := rn_ifp c71 h70
                      refine rn_if_eq_t 151 (by exact dc_Md_ruleLine 73 rfl) (by exact rfl) c71 ?_
                      refine rn_iconst (v := (0 : Int32)) (by exact dc_Md_ruleLine 79 rfl) (by decide) ?_
                      cases h70
                      exact rn_zreturn (by exact dc_Md_ruleLine 80 rfl) (by exact rfl) (by first | exact Or.inl rfl | exact Or.inr rfl)
                    · replace h70 := rn_ifn c71 h70
                      refine rn_if_eq_f 151 (by exact dc_Md_ruleLine 73 rfl) (by exact rfl) c71 ?_
                      refine rn_aload_n (by exact dc_Md_ruleLine 74 rfl) (by exact rfl) ?_
                      refine rn_getf (v := .int (M_value m69)) fd_Md_92 (by exact dc_Md_ruleLine 75 rfl) (by exact rfl) (by exact rfl) ?_
                      refine rn_iconst (v := (2 : Int32)) (by exact dc_Md_ruleLine 76 rfl) (by decide) ?_
                      refine rn_irem (by exact dc_Md_ruleLine 77 rfl) (by decide) ?_
                      by_cases c72 : ¬ ((M_value m69) - (M_value m69) / (2 : Int32) * (2 : Int32)) = 0
                      · replace h70 := rn_ifp c72 h70
                        refine rn_if_ne_t 153 (by exact dc_Md_ruleLine 78 rfl) (by exact rfl) c72 ?_
                        refine rn_aload_n (by exact dc_Md_ruleLine 81 rfl) (by exact rfl) ?_
                        refine rn_getf (v := .ref 60) fd_Md_28 (by exact dc_Md_ruleLine 82 rfl) (by exact rfl) (by exact rfl) ?_
                        refine rn_iload_n (by exact dc_Md_ruleLine 83 rfl) (by exact rfl) ?_
                        refine rn_aload_n (by exact dc_Md_ruleLine 84 rfl) (by exact rfl) ?_
                        refine rn_getf (v := .ref 60) fd_Md_28 (by exact dc_Md_ruleLine 85 rfl) (by exact rfl) (by exact rfl) ?_
                        refine rn_iload_n (by exact dc_Md_ruleLine 86 rfl) (by exact rfl) ?_
                        obtain ⟨x73, e74, h75⟩ := rn_bind h70
                        clear h70
                        refine rn_laload (by exact dc_Md_ruleLine 87 rfl) (by exact rfl) e74 ?_
                        refine rn_aload_n (by exact dc_Md_ruleLine 88 rfl) (by exact rfl) ?_
                        refine rn_getf (v := .int (M_value m69)) fd_Md_92 (by exact dc_Md_ruleLine 89 rfl) (by exact rfl) (by exact rfl) ?_
                        refine rn_i2l (by exact dc_Md_ruleLine 90 rfl) ?_
                        obtain ⟨x77, e76, h78⟩ := rn_bind h75
                        clear h75
                        refine rn_invS0 (by exact c_Md_inverse e76) is_Md_127 (by exact ⟨Nat.le_of_ble_eq_true rfl, Nat.le_of_ble_eq_true rfl⟩) (by exact dc_Md_ruleLine 91 rfl) (by exact rfl) (by exact rfl) (by exact Nat.le_of_ble_eq_true rfl) ?_
                        show Rn _ _ 172 [some (.ref 53), some (.int (M_rules m))] [.long x77, .long x73, .int (M_rules m), .ref 60] (emb g1 g2 x d c u t a b m69 o E) _ _ _
                        refine rn_lmul (by exact dc_Md_ruleLine 92 rfl) ?_
                        obtain ⟨f79, e80, h81⟩ := rn_bind h78
                        clear h78
                        refine rn_lastore (w2 := (emb g1 g2 x d c u t a b (M_put_weights m69 f79) o E)) (by exact dc_Md_ruleLine 93 rfl) (by exact rfl) e80 (by exact sm_weights) ?_
                        refine rn_aload_n (by exact dc_Md_ruleLine 94 rfl) (by exact rfl) ?_
                        refine rn_bipush (v := (32 : Int32)) (by exact dc_Md_ruleLine 95 rfl) (by decide) ?_
                        obtain ⟨⟨x83, m84⟩, e82, h85⟩ := rn_bind h81
                        clear h81
                        dsimp only at h85
                        refine rn_invV0 (by exact c_Md_next e82) iv_Md_118 (by exact ⟨Nat.le_of_ble_eq_true rfl, Nat.le_of_ble_eq_true rfl⟩) (by exact dc_Md_ruleLine 96 rfl) (by exact rfl) (by exact rfl) (by exact rfl) (by exact Nat.le_of_ble_eq_true rfl) ?_
                        show Rn _ _ 180 [some (.ref 53), some (.int (M_rules m))] [.int x83] (emb g1 g2 x d c u t a b m84 o E) _ _ _
                        by_cases c86 : x83 = 0
                        · replace h85 := rn_ifp c86 h85
                          refine rn_if_eq_t 210 (by exact dc_Md_ruleLine 97 rfl) (by exact rfl) c86 ?_
                          refine rn_iconst (v := (0 : Int32)) (by exact dc_Md_ruleLine 110 rfl) (by decide) ?_
                          cases h85
                          exact rn_zreturn (by exact dc_Md_ruleLine 111 rfl) (by exact rfl) (by first | exact Or.inl rfl | exact Or.inr rfl)
                        · replace h85 := rn_ifn c86 h85
                          refine rn_if_eq_f 210 (by exact dc_Md_ruleLine 97 rfl) (by exact rfl) c86 ?_
                          refine rn_aload_n (by exact dc_Md_ruleLine 98 rfl) (by exact rfl) ?_
                          obtain ⟨⟨x88, m89⟩, e87, h90⟩ := rn_bind h85
                          clear h85
                          dsimp only at h90
                          refine rn_invV0 (by exact c_Md_number e87) iv_Md_124 (by exact ⟨Nat.le_of_ble_eq_true rfl, Nat.le_of_ble_eq_true rfl⟩) (by exact dc_Md_ruleLine 99 rfl) (by exact rfl) (by exact rfl) (by exact rfl) (by exact Nat.le_of_ble_eq_true rfl) ?_
                          show Rn _ _ 187 [some (.ref 53), some (.int (M_rules m))] [.int x88] (emb g1 g2 x d c u t a b m89 o E) _ _ _
                          by_cases c91 : x88 = 0
                          · replace h90 := rn_ifp c91 h90
                            refine rn_if_eq_t 210 (by exact dc_Md_ruleLine 100 rfl) (by exact rfl) c91 ?_
                            refine rn_iconst (v := (0 : Int32)) (by exact dc_Md_ruleLine 110 rfl) (by decide) ?_
                            cases h90
                            exact rn_zreturn (by exact dc_Md_ruleLine 111 rfl) (by exact rfl) (by first | exact Or.inl rfl | exact Or.inr rfl)
                          · replace h90 := rn_ifn c91 h90
                            refine rn_if_eq_f 210 (by exact dc_Md_ruleLine 100 rfl) (by exact rfl) c91 ?_
                            refine rn_aload_n (by exact dc_Md_ruleLine 101 rfl) (by exact rfl) ?_
                            refine rn_getf (v := .int (M_value m89)) fd_Md_92 (by exact dc_Md_ruleLine 102 rfl) (by exact rfl) (by exact rfl) ?_
                            refine rn_bipush (v := (99 : Int32)) (by exact dc_Md_ruleLine 103 rfl) (by decide) ?_
                            by_cases c92 : (99 : Int32) < (M_value m89)
                            · replace h90 := rn_ifp c92 h90
                              refine rn_icmp_gt_t 210 (by exact dc_Md_ruleLine 104 rfl) (by exact rfl) c92 ?_
                              refine rn_iconst (v := (0 : Int32)) (by exact dc_Md_ruleLine 110 rfl) (by decide) ?_
                              cases h90
                              exact rn_zreturn (by exact dc_Md_ruleLine 111 rfl) (by exact rfl) (by first | exact Or.inl rfl | exact Or.inr rfl)
                            · replace h90 := rn_ifn c92 h90
                              refine rn_icmp_gt_f 210 (by exact dc_Md_ruleLine 104 rfl) (by exact rfl) c92 ?_
                              refine rn_aload_n (by exact dc_Md_ruleLine 105 rfl) (by exact rfl) ?_
                              refine rn_getf (v := .int (M_at m89)) fd_Md_86 (by exact dc_Md_ruleLine 106 rfl) (by exact rfl) (by exact rfl) ?_
                              refine rn_aload_n (by exact dc_Md_ruleLine 107 rfl) (by exact rfl) ?_
                              refine rn_getf (v := .int (M_end m89)) fd_Md_89 (by exact dc_Md_ruleLine 108 rfl) (by exact rfl) (by exact rfl) ?_
                              by_cases c93 : (M_at m89) = (M_end m89)
                              · replace h90 := rn_ifp c93 h90
                                refine rn_icmp_eq_t 212 (by exact dc_Md_ruleLine 109 rfl) (by exact rfl) c93 ?_
                                refine rn_aload_n (by exact dc_Md_ruleLine 112 rfl) (by exact rfl) ?_
                                refine rn_getf (v := .ref 61) fd_Md_32 (by exact dc_Md_ruleLine 113 rfl) (by exact rfl) (by exact rfl) ?_
                                refine rn_iload_n (by exact dc_Md_ruleLine 114 rfl) (by exact rfl) ?_
                                refine rn_aload_n (by exact dc_Md_ruleLine 115 rfl) (by exact rfl) ?_
                                refine rn_getf (v := .int (M_value m89)) fd_Md_92 (by exact dc_Md_ruleLine 116 rfl) (by exact rfl) (by exact rfl) ?_
                                obtain ⟨f94, e95, h96⟩ := rn_bind h90
                                clear h90
                                refine rn_iastore (w2 := (emb g1 g2 x d c u t a b (M_put_costs m89 f94) o E)) (by exact dc_Md_ruleLine 117 rfl) (by exact rfl) e95 (by exact sm_costs) ?_
                                refine rn_aload_n (by exact dc_Md_ruleLine 118 rfl) (by exact rfl) ?_
                                refine rn_dup (by exact dc_Md_ruleLine 119 rfl) (by exact rfl) ?_
                                refine rn_getf (v := .int (M_rules (M_put_costs m89 f94))) fd_Md_115 (by exact dc_Md_ruleLine 120 rfl) (by exact rfl) (by exact rfl) ?_
                                refine rn_iconst (v := (1 : Int32)) (by exact dc_Md_ruleLine 121 rfl) (by decide) ?_
                                refine rn_iadd (by exact dc_Md_ruleLine 122 rfl) ?_
                                refine rn_putf (w2 := (emb g1 g2 x d c u t a b (M_put_rules (M_put_costs m89 f94) ((M_rules (M_put_costs m89 f94)) + (1 : Int32))) o E)) fd_Md_115 (by exact dc_Md_ruleLine 123 rfl) (by exact rfl) (by exact rfl) (by exact Nat.le_of_ble_eq_true rfl) (by exact sm_rules) ?_
                                refine rn_iconst (v := (1 : Int32)) (by exact dc_Md_ruleLine 124 rfl) (by decide) ?_
                                cases h96
                                exact rn_zreturn (by exact dc_Md_ruleLine 125 rfl) (by exact rfl) (by first | exact Or.inl rfl | exact Or.inr rfl)
                              · replace h90 := rn_ifn c93 h90
                                refine rn_icmp_eq_f 212 (by exact dc_Md_ruleLine 109 rfl) (by exact rfl) c93 ?_
                                refine rn_iconst (v := (0 : Int32)) (by exact dc_Md_ruleLine 110 rfl) (by decide) ?_
                                cases h90
                                exact rn_zreturn (by exact dc_Md_ruleLine 111 rfl) (by exact rfl) (by first | exact Or.inl rfl | exact Or.inr rfl)
                      · replace h70 := rn_ifn c72 h70
                        refine rn_if_ne_f 153 (by exact dc_Md_ruleLine 78 rfl) (by exact rfl) (Classical.not_not.mp c72) ?_
                        refine rn_iconst (v := (0 : Int32)) (by exact dc_Md_ruleLine 79 rfl) (by decide) ?_
                        cases h70
                        exact rn_zreturn (by exact dc_Md_ruleLine 80 rfl) (by exact rfl) (by first | exact Or.inl rfl | exact Or.inr rfl)
                · replace h42 := rn_ifn c43 h42
                  refine rn_if_ne_f 115 (by exact dc_Md_ruleLine 57 rfl) (by exact rfl) (Classical.not_not.mp c43) ?_
                  refine rn_iconst (v := (0 : Int32)) (by exact dc_Md_ruleLine 58 rfl) (by decide) ?_
                  cases h42
                  exact rn_zreturn (by exact dc_Md_ruleLine 59 rfl) (by exact rfl) (by first | exact Or.inl rfl | exact Or.inr rfl)
      · replace h8 := rn_ifn c9 h8
        refine rn_if_ne_f 37 (by exact dc_Md_ruleLine 15 rfl) (by exact rfl) (Classical.not_not.mp c9) ?_
        refine rn_iconst (v := (0 : Int32)) (by exact dc_Md_ruleLine 16 rfl) (by decide) ?_
        cases h8
        exact rn_zreturn (by exact dc_Md_ruleLine 17 rfl) (by exact rfl) (by first | exact Or.inl rfl | exact Or.inr rfl)
def F_Md_readGrammar_L22 (m : tM) (l1 : Int32) (l2 : Int32) (l3 : Int32) : Nat → Int32 → Option Int32
  | 0, _ => none
  | n + 1, l4 =>
    if l1 ≤ l4 then (
      some l4
    ) else (
      Option.bind (aG (M_src m) 300 l4) fun x2 =>
      if x2 = (10 : Int32) then (
        some l4
      ) else (
        F_Md_readGrammar_L22 m l1 l2 l3 n (l4 + 1)
      )
    )
set_option maxHeartbeats 4000000 in
set_option maxRecDepth 100000 in
theorem p_Md_readGrammar_L22 {Z : rn_Z} {g1 g2 : Nat} {x : tX} {d : tD} {c : tC} {u : tU} {t : tT} {a : tG} {b : tG} {m : tM} {o : tO} {E : List rn_C}  {l1 : Int32} {l2 : Int32} {l3 : Int32} {K : rn_K} {ca sa : Nat} {z4 : Int32} (hx : Rn Z M_Md_readGrammar 46 [some (.ref 53), some (.int l1), some (.int l2), some (.int l3), some (.int z4), none] [] (emb g1 g2 x d c u t a b m o E) ca sa K) (n : Nat) : ∀ (l4 : Int32), F_Md_readGrammar_L22 m l1 l2 l3 n l4 = some z4 → Rn Z M_Md_readGrammar 22 [some (.ref 53), some (.int l1), some (.int l2), some (.int l3), some (.int l4), none] [] (emb g1 g2 x d c u t a b m o E) ca sa K := by
  induction n with
  | zero =>
    intro l4 h
    rw [F_Md_readGrammar_L22] at h
    cases h
  | succ n ih =>
    intro l4 h
    rw [F_Md_readGrammar_L22] at h
    refine rn_iload (by exact dc_Md_readGrammar 15 rfl) (by exact rfl) ?_
    refine rn_iload_n (by exact dc_Md_readGrammar 16 rfl) (by exact rfl) ?_
    by_cases c1 : l1 ≤ l4
    · replace h := rn_ifp c1 h
      refine rn_icmp_ge_t 46 (by exact dc_Md_readGrammar 17 rfl) (by exact rfl) c1 ?_
      cases h
      exact rn_weak _ (by repeat (first | exact rn_le_0 | apply rn_le_s | apply rn_le_x)) hx
    · replace h := rn_ifn c1 h
      refine rn_icmp_ge_f 46 (by exact dc_Md_readGrammar 17 rfl) (by exact rfl) c1 ?_
      refine rn_aload_n (by exact dc_Md_readGrammar 18 rfl) (by exact rfl) ?_
      refine rn_getf (v := .ref 55) fd_Md_13 (by exact dc_Md_readGrammar 19 rfl) (by exact rfl) (by exact rfl) ?_
      refine rn_iload (by exact dc_Md_readGrammar 20 rfl) (by exact rfl) ?_
      obtain ⟨x2, e3, h4⟩ := rn_bind h
      clear h
      refine rn_iaload (by exact dc_Md_readGrammar 21 rfl) (by exact rfl) e3 ?_
      refine rn_bipush (v := (10 : Int32)) (by exact dc_Md_readGrammar 22 rfl) (by decide) ?_
      by_cases c5 : x2 = (10 : Int32)
      · replace h4 := rn_ifp c5 h4
        refine rn_icmp_eq_t 46 (by exact dc_Md_readGrammar 23 rfl) (by exact rfl) c5 ?_
        cases h4
        exact rn_weak _ (by repeat (first | exact rn_le_0 | apply rn_le_s | apply rn_le_x)) hx
      · replace h4 := rn_ifn c5 h4
        refine rn_icmp_eq_f 46 (by exact dc_Md_readGrammar 23 rfl) (by exact rfl) c5 ?_
        refine rn_iinc (ls' := [some (.ref 53), some (.int l1), some (.int l2), some (.int l3), some (.int (l4 + 1)), none]) (by exact dc_Md_readGrammar 24 rfl) (by decide) (by exact rfl) (by exact rn_inc_1 _) (by exact rfl) ?_
        refine rn_goto 22 (by exact dc_Md_readGrammar 25 rfl) (by exact rfl) ?_
        exact rn_weak _ (by repeat (first | exact rn_le_0 | apply rn_le_s | apply rn_le_x)) (ih _ h4)
def F_Md_readGrammar_L14 (l1 : Int32) : Nat → tM → Int32 → Int32 → Option ((Int32 × tM) ⊕ (Int32 × tM))
  | 0, _, _, _ => none
  | n + 1, m, l2, l3 =>
    if l1 < l2 then (
      some (.inr (l3, m))
    ) else (
      Option.bind (F_Md_readGrammar_L22 m l1 l2 l3 rn_fu l2) fun y5 =>
      Option.bind (
        if y5 = l2 then (
          some (1 : Int32)
        ) else (
          Option.bind (aG (M_src (M_put_end (M_put_at m l2) y5)) 300 l2) fun x11 =>
          if ¬ x11 = (35 : Int32) then (
            some (0 : Int32)
          ) else (
            some (1 : Int32)
          )
        )
       : Option Int32) fun y6 =>
      if ¬ y6 = 0 then (
        F_Md_readGrammar_L14 l1 n (M_put_end (M_put_at m l2) y5) (y5 + (1 : Int32)) (l3 + 1)
      ) else (
        Option.bind (F_Md_ruleLine (M_put_end (M_put_at m l2) y5) ) fun (x17, m18) =>
        if ¬ x17 = 0 then (
          F_Md_readGrammar_L14 l1 n m18 (y5 + (1 : Int32)) (l3 + 1)
        ) else (
          some (.inl (l3, m18))
        )
      )
    )
set_option maxHeartbeats 4000000 in
set_option maxRecDepth 100000 in
theorem p_Md_readGrammar_L14 {Z : rn_Z} {g1 g2 : Nat} {x : tX} {d : tD} {c : tC} {u : tU} {t : tT} {a : tG} {b : tG}  {o : tO} {E : List rn_C}  {l1 : Int32} {K : rn_K} {ca sa : Nat} {out : ((Int32 × tM) ⊕ (Int32 × tM))} (hx : ∀ (z3 : Int32) (mz : tM), out = .inr (z3, mz) → Rn Z M_Md_readGrammar 106 [some (.ref 53), none, none, some (.int z3), none, none] [] (emb g1 g2 x d c u t a b mz o E) ca sa K) (hr : ∀ (rv : Int32) (mw : tM), out = .inl (rv, mw) → K = rn_Ret Z (some (.int rv)) (emb g1 g2 x d c u t a b mw o E)) (n : Nat) : ∀ (m : tM) (l2 : Int32) (l3 : Int32), F_Md_readGrammar_L14 l1 n m l2 l3 = some out → Rn Z M_Md_readGrammar 14 [some (.ref 53), some (.int l1), some (.int l2), some (.int l3), none, none] [] (emb g1 g2 x d c u t a b m o E) ca sa K := by
  induction n with
  | zero =>
    intro m l2 l3 h
    rw [F_Md_readGrammar_L14] at h
    cases h
  | succ n ih =>
    intro m l2 l3 h
    rw [F_Md_readGrammar_L14] at h
    refine rn_iload_n (by exact dc_Md_readGrammar 10 rfl) (by exact rfl) ?_
    refine rn_iload_n (by exact dc_Md_readGrammar 11 rfl) (by exact rfl) ?_
    by_cases c1 : l1 < l2
    · replace h := rn_ifp c1 h
      refine rn_icmp_gt_t 106 (by exact dc_Md_readGrammar 12 rfl) (by exact rfl) c1 ?_
      cases h
      exact rn_weak _ (by repeat (first | exact rn_le_0 | apply rn_le_s | apply rn_le_x)) (hx _ _ rfl)
    · replace h := rn_ifn c1 h
      refine rn_icmp_gt_f 106 (by exact dc_Md_readGrammar 12 rfl) (by exact rfl) c1 ?_
      refine rn_iload_n (by exact dc_Md_readGrammar 13 rfl) (by exact rfl) ?_
      refine rn_istore (ls' := [some (.ref 53), some (.int l1), some (.int l2), some (.int l3), some (.int l2), none]) (by exact dc_Md_readGrammar 14 rfl) (by decide) (by exact rfl) ?_
      obtain ⟨y5, e2, h4⟩ := rn_bind h
      clear h
      have jx3 : Rn Z M_Md_readGrammar 46 [some (.ref 53), some (.int l1), some (.int l2), some (.int l3), some (.int y5), none] [] (emb g1 g2 x d c u t a b m o E) ca sa K := by
        refine rn_aload_n (by exact dc_Md_readGrammar 26 rfl) (by exact rfl) ?_
        refine rn_iload_n (by exact dc_Md_readGrammar 27 rfl) (by exact rfl) ?_
        refine rn_putf (w2 := (emb g1 g2 x d c u t a b (M_put_at m l2) o E)) fd_Md_86 (by exact dc_Md_readGrammar 28 rfl) (by exact rfl) (by exact rfl) (by exact Nat.le_of_ble_eq_true rfl) (by exact sm_at) ?_
        refine rn_aload_n (by exact dc_Md_readGrammar 29 rfl) (by exact rfl) ?_
        refine rn_iload (by exact dc_Md_readGrammar 30 rfl) (by exact rfl) ?_
        refine rn_putf (w2 := (emb g1 g2 x d c u t a b (M_put_end (M_put_at m l2) y5) o E)) fd_Md_89 (by exact dc_Md_readGrammar 31 rfl) (by exact rfl) (by exact rfl) (by exact Nat.le_of_ble_eq_true rfl) (by exact sm_end) ?_
        refine rn_iload (by exact dc_Md_readGrammar 32 rfl) (by exact rfl) ?_
        refine rn_iload_n (by exact dc_Md_readGrammar 33 rfl) (by exact rfl) ?_
        obtain ⟨y6, e7, h9⟩ := rn_bind h4
        clear h4
        have jq8 : Rn Z M_Md_readGrammar 79 [some (.ref 53), some (.int l1), none, some (.int l3), some (.int y5), none] [.int y6] (emb g1 g2 x d c u t a b (M_put_end (M_put_at m l2) y5) o E) ca sa K := by
          refine rn_istore (ls' := [some (.ref 53), some (.int l1), none, some (.int l3), some (.int y5), some (.int y6)]) (by exact dc_Md_readGrammar 44 rfl) (by decide) (by exact rfl) ?_
          refine rn_iload (by exact dc_Md_readGrammar 45 rfl) (by exact rfl) ?_
          by_cases c15 : ¬ y6 = 0
          · replace h9 := rn_ifp c15 h9
            refine rn_if_ne_t 95 (by exact dc_Md_readGrammar 46 rfl) (by exact rfl) c15 ?_
            refine rn_iinc (ls' := [some (.ref 53), some (.int l1), none, some (.int (l3 + 1)), some (.int y5), some (.int y6)]) (by exact dc_Md_readGrammar 52 rfl) (by decide) (by exact rfl) (by exact rn_inc_1 _) (by exact rfl) ?_
            refine rn_iload (by exact dc_Md_readGrammar 53 rfl) (by exact rfl) ?_
            refine rn_iconst (v := (1 : Int32)) (by exact dc_Md_readGrammar 54 rfl) (by decide) ?_
            refine rn_iadd (by exact dc_Md_readGrammar 55 rfl) ?_
            refine rn_istore_n (ls' := [some (.ref 53), some (.int l1), some (.int (y5 + (1 : Int32))), some (.int (l3 + 1)), some (.int y5), some (.int y6)]) (by exact dc_Md_readGrammar 56 rfl) (by decide) (by exact rfl) ?_
            refine rn_goto 14 (by exact dc_Md_readGrammar 57 rfl) (by exact rfl) ?_
            exact rn_weak _ (by repeat (first | exact rn_le_0 | apply rn_le_s | apply rn_le_x)) (ih _ _ _ h9)
          · replace h9 := rn_ifn c15 h9
            refine rn_if_ne_f 95 (by exact dc_Md_readGrammar 46 rfl) (by exact rfl) (Classical.not_not.mp c15) ?_
            refine rn_aload_n (by exact dc_Md_readGrammar 47 rfl) (by exact rfl) ?_
            obtain ⟨⟨x17, m18⟩, e16, h19⟩ := rn_bind h9
            clear h9
            dsimp only at h19
            refine rn_invV0 (by exact c_Md_ruleLine e16) iv_Md_131 (by exact ⟨Nat.le_of_ble_eq_true rfl, Nat.le_of_ble_eq_true rfl⟩) (by exact dc_Md_readGrammar 48 rfl) (by exact rfl) (by exact rfl) (by exact rfl) (by exact Nat.le_of_ble_eq_true rfl) ?_
            show Rn _ _ 90 [some (.ref 53), some (.int l1), none, some (.int l3), some (.int y5), some (.int y6)] [.int x17] (emb g1 g2 x d c u t a b m18 o E) _ _ _
            by_cases c20 : ¬ x17 = 0
            · replace h19 := rn_ifp c20 h19
              refine rn_if_ne_t 95 (by exact dc_Md_readGrammar 49 rfl) (by exact rfl) c20 ?_
              refine rn_iinc (ls' := [some (.ref 53), some (.int l1), none, some (.int (l3 + 1)), some (.int y5), some (.int y6)]) (by exact dc_Md_readGrammar 52 rfl) (by decide) (by exact rfl) (by exact rn_inc_1 _) (by exact rfl) ?_
              refine rn_iload (by exact dc_Md_readGrammar 53 rfl) (by exact rfl) ?_
              refine rn_iconst (v := (1 : Int32)) (by exact dc_Md_readGrammar 54 rfl) (by decide) ?_
              refine rn_iadd (by exact dc_Md_readGrammar 55 rfl) ?_
              refine rn_istore_n (ls' := [some (.ref 53), some (.int l1), some (.int (y5 + (1 : Int32))), some (.int (l3 + 1)), some (.int y5), some (.int y6)]) (by exact dc_Md_readGrammar 56 rfl) (by decide) (by exact rfl) ?_
              refine rn_goto 14 (by exact dc_Md_readGrammar 57 rfl) (by exact rfl) ?_
              exact rn_weak _ (by repeat (first | exact rn_le_0 | apply rn_le_s | apply rn_le_x)) (ih _ _ _ h19)
            · replace h19 := rn_ifn c20 h19
              refine rn_if_ne_f 95 (by exact dc_Md_readGrammar 49 rfl) (by exact rfl) (Classical.not_not.mp c20) ?_
              refine rn_iload_n (by exact dc_Md_readGrammar 50 rfl) (by exact rfl) ?_
              cases h19
              have hK := hr _ _ rfl
              subst hK
              exact rn_ireturn (by exact dc_Md_readGrammar 51 rfl) (by exact rfl)
        by_cases c10 : y5 = l2
        · replace e7 := rn_ifp c10 e7
          refine rn_icmp_eq_t 74 (by exact dc_Md_readGrammar 34 rfl) (by exact rfl) c10 ?_
          refine rn_iconst (v := (1 : Int32)) (by exact dc_Md_readGrammar 41 rfl) (by decide) ?_
          refine rn_goto 79 (by exact dc_Md_readGrammar 42 rfl) (by exact rfl) ?_
          cases e7
          exact rn_weak _ (by repeat (first | exact rn_le_0 | apply rn_le_s | apply rn_le_x)) jq8
        · replace e7 := rn_ifn c10 e7
          refine rn_icmp_eq_f 74 (by exact dc_Md_readGrammar 34 rfl) (by exact rfl) c10 ?_
          refine rn_aload_n (by exact dc_Md_readGrammar 35 rfl) (by exact rfl) ?_
          refine rn_getf (v := .ref 55) fd_Md_13 (by exact dc_Md_readGrammar 36 rfl) (by exact rfl) (by exact rfl) ?_
          refine rn_iload_n (by exact dc_Md_readGrammar 37 rfl) (by exact rfl) ?_
          obtain ⟨x11, e12, h13⟩ := rn_bind e7
          clear e7
          refine rn_iaload (by exact dc_Md_readGrammar 38 rfl) (by exact rfl) e12 ?_
          refine rn_bipush (v := (35 : Int32)) (by exact dc_Md_readGrammar 39 rfl) (by decide) ?_
          by_cases c14 : ¬ x11 = (35 : Int32)
          · replace h13 := rn_ifp c14 h13
            refine rn_icmp_ne_t 78 (by exact dc_Md_readGrammar 40 rfl) (by exact rfl) c14 ?_
            refine rn_iconst (v := (0 : Int32)) (by exact dc_Md_readGrammar 43 rfl) (by decide) ?_
            cases h13
            exact rn_weak _ (by repeat (first | exact rn_le_0 | apply rn_le_s | apply rn_le_x)) jq8
          · replace h13 := rn_ifn c14 h13
            refine rn_icmp_ne_f 78 (by exact dc_Md_readGrammar 40 rfl) (by exact rfl) (Classical.not_not.mp c14) ?_
            refine rn_iconst (v := (1 : Int32)) (by exact dc_Md_readGrammar 41 rfl) (by decide) ?_
            refine rn_goto 79 (by exact dc_Md_readGrammar 42 rfl) (by exact rfl) ?_
            cases h13
            exact rn_weak _ (by repeat (first | exact rn_le_0 | apply rn_le_s | apply rn_le_x)) jq8
      exact rn_weak _ (by repeat (first | exact rn_le_0 | apply rn_le_s | apply rn_le_x)) (p_Md_readGrammar_L22 jx3 _ _ e2)
def F_Md_readGrammar (m : tM) (v0 : Int32) : Option (Int32 × tM) :=
  Option.bind (F_Md_readGrammar_L14 v0 rn_fu (M_put_symbols (M_put_rules m (0 : Int32)) (0 : Int32)) (0 : Int32) (1 : Int32)) fun z12 =>
  match z12 with
  | .inl r11 => some r11
  | .inr (y4, m5) =>
    Option.bind (
      if ¬ (M_rules m5) = 0 then (
        some (0 : Int32)
      ) else (
        some (y4 : Int32)
      )
     : Option Int32) fun y6 =>
    some (y6, m5)
set_option maxHeartbeats 4000000 in
set_option maxRecDepth 100000 in
theorem c_Md_readGrammar {Z : rn_Z} {g1 g2 : Nat} {x : tX} {d : tD} {c : tC} {u : tU} {t : tT} {a : tG} {b : tG} {m : tM} {o : tO} {E : List rn_C} {v0 : Int32} {res : Int32} {m_r : tM} (h : F_Md_readGrammar m v0 = some (res, m_r)) : Call Z M_Md_readGrammar [.ref 53, .int v0] (emb g1 g2 x d c u t a b m o E) 0 0 (some (.int res)) (emb g1 g2 x d c u t a b m_r o E) := by
  unfold F_Md_readGrammar at h
  refine rn_call (by decide) 4 (by exact Nat.le_of_ble_eq_true rfl) ?_
  show Rn Z M_Md_readGrammar 0 [some (.ref 53), some (.int v0), none, none, none, none] [] (emb g1 g2 x d c u t a b m o E) 0 0 _
  refine rn_aload_n (by exact dc_Md_readGrammar 0 rfl) (by exact rfl) ?_
  refine rn_iconst (v := (0 : Int32)) (by exact dc_Md_readGrammar 1 rfl) (by decide) ?_
  refine rn_putf (w2 := (emb g1 g2 x d c u t a b (M_put_rules m (0 : Int32)) o E)) fd_Md_115 (by exact dc_Md_readGrammar 2 rfl) (by exact rfl) (by exact rfl) (by exact Nat.le_of_ble_eq_true rfl) (by exact sm_rules) ?_
  refine rn_aload_n (by exact dc_Md_readGrammar 3 rfl) (by exact rfl) ?_
  refine rn_iconst (v := (0 : Int32)) (by exact dc_Md_readGrammar 4 rfl) (by decide) ?_
  refine rn_putf (w2 := (emb g1 g2 x d c u t a b (M_put_symbols (M_put_rules m (0 : Int32)) (0 : Int32)) o E)) fd_Md_99 (by exact dc_Md_readGrammar 5 rfl) (by exact rfl) (by exact rfl) (by exact Nat.le_of_ble_eq_true rfl) (by exact sm_symbols) ?_
  refine rn_iconst (v := (0 : Int32)) (by exact dc_Md_readGrammar 6 rfl) (by decide) ?_
  refine rn_istore_n (ls' := [some (.ref 53), some (.int v0), some (.int (0 : Int32)), none, none, none]) (by exact dc_Md_readGrammar 7 rfl) (by decide) (by exact rfl) ?_
  refine rn_iconst (v := (1 : Int32)) (by exact dc_Md_readGrammar 8 rfl) (by decide) ?_
  refine rn_istore_n (ls' := [some (.ref 53), some (.int v0), some (.int (0 : Int32)), some (.int (1 : Int32)), none, none]) (by exact dc_Md_readGrammar 9 rfl) (by decide) (by exact rfl) ?_
  obtain ⟨z12, e1, h3⟩ := rn_bind h
  clear h
  rcases z12 with ⟨w13, w14⟩ | ⟨y4, m5⟩
  · dsimp only at h3
    cases h3
    exact rn_weak _ (by repeat (first | exact rn_le_0 | apply rn_le_s | apply rn_le_x)) (p_Md_readGrammar_L14 (fun _ _ q => by cases q) (fun _ _ q => by cases q; rfl) _ _ _ _ e1)
  · dsimp only at h3
    have jx2 : Rn Z M_Md_readGrammar 106 [some (.ref 53), none, none, some (.int y4), none, none] [] (emb g1 g2 x d c u t a b m5 o E) 0 0 (rn_Ret Z (some (.int res)) (emb g1 g2 x d c u t a b m_r o E)) := by
      refine rn_aload_n (by exact dc_Md_readGrammar 58 rfl) (by exact rfl) ?_
      refine rn_getf (v := .int (M_rules m5)) fd_Md_115 (by exact dc_Md_readGrammar 59 rfl) (by exact rfl) (by exact rfl) ?_
      obtain ⟨y6, e7, h9⟩ := rn_bind h3
      clear h3
      have jq8 : Rn Z M_Md_readGrammar 118 [none, none, none, none, none, none] [.int y6] (emb g1 g2 x d c u t a b m5 o E) 0 0 (rn_Ret Z (some (.int res)) (emb g1 g2 x d c u t a b m_r o E)) := by
        cases h9
        exact rn_ireturn (by exact dc_Md_readGrammar 64 rfl) (by exact rfl)
      by_cases c10 : ¬ (M_rules m5) = 0
      · replace e7 := rn_ifp c10 e7
        refine rn_if_ne_t 117 (by exact dc_Md_readGrammar 60 rfl) (by exact rfl) c10 ?_
        refine rn_iconst (v := (0 : Int32)) (by exact dc_Md_readGrammar 63 rfl) (by decide) ?_
        cases e7
        exact rn_weak _ (by repeat (first | exact rn_le_0 | apply rn_le_s | apply rn_le_x)) jq8
      · replace e7 := rn_ifn c10 e7
        refine rn_if_ne_f 117 (by exact dc_Md_readGrammar 60 rfl) (by exact rfl) (Classical.not_not.mp c10) ?_
        refine rn_iload_n (by exact dc_Md_readGrammar 61 rfl) (by exact rfl) ?_
        refine rn_goto 118 (by exact dc_Md_readGrammar 62 rfl) (by exact rfl) ?_
        cases e7
        exact rn_weak _ (by repeat (first | exact rn_le_0 | apply rn_le_s | apply rn_le_x)) jq8
    exact rn_weak _ (by repeat (first | exact rn_le_0 | apply rn_le_s | apply rn_le_x)) (p_Md_readGrammar_L14 (fun _ _ q => by cases q; exact jx2) (fun _ _ q => by cases q) _ _ _ _ e1)
