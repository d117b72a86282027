def F_Md_bodyCost_L11 (l1 : Int32) (l2 : Int32) (l3 : Int32) (l4 : Int32) : Nat → tM → Int32 → Option tM
  | 0, _, _ => none
  | n + 1, m, l5 =>
    if l3 < l5 then (
      some m
    ) else (
      Option.bind (
        if ¬ l5 = l3 then (
          some (-1 : Int32)
        ) else (
          some (0 : Int32)
        )
       : Option Int32) fun y2 =>
      Option.bind (aS (M_rest m) 50 (((10 : Int32) * l4) + l5) y2) fun f7 =>
      F_Md_bodyCost_L11 l1 l2 l3 l4 n (M_put_rest m f7) (l5 + 1)
    )
set_option maxHeartbeats 4000000 in
set_option maxRecDepth 100000 in
theorem p_Md_bodyCost_L11 {Z : rn_Z} {g1 g2 : Nat} {x : tX} {d : tD} {c : tC} {u : tU} {t : tT} {a : tG} {b : tG}  {o : tO} {E : List rn_C}  {l1 : Int32} {l2 : Int32} {l3 : Int32} {l4 : Int32} {K : rn_K} {ca sa : Nat} {mz : tM} (hx : Rn Z M_Md_bodyCost 47 [some (.ref 53), some (.int l1), some (.int l2), some (.int l3), some (.int l4), none, none, none, none, none, none] [] (emb g1 g2 x d c u t a b mz o E) ca sa K) (n : Nat) : ∀ (m : tM) (l5 : Int32), F_Md_bodyCost_L11 l1 l2 l3 l4 n m l5 = some mz → Rn Z M_Md_bodyCost 11 [some (.ref 53), some (.int l1), some (.int l2), some (.int l3), some (.int l4), some (.int l5), none, none, none, none, none] [] (emb g1 g2 x d c u t a b m o E) ca sa K := by
  induction n with
  | zero =>
    intro m l5 h
    rw [F_Md_bodyCost_L11] at h
    cases h
  | succ n ih =>
    intro m l5 h
    rw [F_Md_bodyCost_L11] at h
    refine rn_iload (by exact dc_Md_bodyCost 7 rfl) (by exact rfl) ?_
    refine rn_iload_n (by exact dc_Md_bodyCost 8 rfl) (by exact rfl) ?_
    by_cases c1 : l3 < l5
    · replace h := rn_ifp c1 h
      refine rn_icmp_gt_t 47 (by exact dc_Md_bodyCost 9 rfl) (by exact rfl) c1 ?_
      cases h
      exact rn_weak _ (by repeat (first | exact rn_le_0 | apply rn_le_s | apply rn_le_x)) hx
    · replace h := rn_ifn c1 h
      refine rn_icmp_gt_f 47 (by exact dc_Md_bodyCost 9 rfl) (by exact rfl) c1 ?_
      refine rn_aload_n (by exact dc_Md_bodyCost 10 rfl) (by exact rfl) ?_
      refine rn_getf (v := .ref 71) fd_Md_62 (by exact dc_Md_bodyCost 11 rfl) (by exact rfl) (by exact rfl) ?_
      refine rn_bipush (v := (10 : Int32)) (by exact dc_Md_bodyCost 12 rfl) (by decide) ?_
      refine rn_iload (by exact dc_Md_bodyCost 13 rfl) (by exact rfl) ?_
      refine rn_imul (by exact dc_Md_bodyCost 14 rfl) ?_
      refine rn_iload (by exact dc_Md_bodyCost 15 rfl) (by exact rfl) ?_
      refine rn_iadd (by exact dc_Md_bodyCost 16 rfl) ?_
      refine rn_iload (by exact dc_Md_bodyCost 17 rfl) (by exact rfl) ?_
      refine rn_iload_n (by exact dc_Md_bodyCost 18 rfl) (by exact rfl) ?_
      obtain ⟨y2, e3, h5⟩ := rn_bind h
      clear h
      have jq4 : Rn Z M_Md_bodyCost 40 [some (.ref 53), some (.int l1), some (.int l2), some (.int l3), some (.int l4), some (.int l5), none, none, none, none, none] [.int y2, .int (((10 : Int32) * l4) + l5), .ref 71] (emb g1 g2 x d c u t a b m o E) ca sa K := by
        obtain ⟨f7, e8, h9⟩ := rn_bind h5
        clear h5
        refine rn_iastore (w2 := (emb g1 g2 x d c u t a b (M_put_rest m f7) o E)) (by exact dc_Md_bodyCost 23 rfl) (by exact rfl) e8 (by exact sm_rest) ?_
        refine rn_iinc (ls' := [some (.ref 53), some (.int l1), some (.int l2), some (.int l3), some (.int l4), some (.int (l5 + 1)), none, none, none, none, none]) (by exact dc_Md_bodyCost 24 rfl) (by decide) (by exact rfl) (by exact rn_inc_1 _) (by exact rfl) ?_
        refine rn_goto 11 (by exact dc_Md_bodyCost 25 rfl) (by exact rfl) ?_
        exact rn_weak _ (by repeat (first | exact rn_le_0 | apply rn_le_s | apply rn_le_x)) (ih _ _ h9)
      by_cases c6 : ¬ l5 = l3
      · replace e3 := rn_ifp c6 e3
        refine rn_icmp_ne_t 39 (by exact dc_Md_bodyCost 19 rfl) (by exact rfl) c6 ?_
        refine rn_iconst (v := (-1 : Int32)) (by exact dc_Md_bodyCost 22 rfl) (by decide) ?_
        cases e3
        exact rn_weak _ (by repeat (first | exact rn_le_0 | apply rn_le_s | apply rn_le_x)) jq4
      · replace e3 := rn_ifn c6 e3
        refine rn_icmp_ne_f 39 (by exact dc_Md_bodyCost 19 rfl) (by exact rfl) (Classical.not_not.mp c6) ?_
        refine rn_iconst (v := (0 : Int32)) (by exact dc_Md_bodyCost 20 rfl) (by decide) ?_
        refine rn_goto 40 (by exact dc_Md_bodyCost 21 rfl) (by exact rfl) ?_
        cases e3
        exact rn_weak _ (by repeat (first | exact rn_le_0 | apply rn_le_s | apply rn_le_x)) jq4
def F_Md_bodyCost_L74 (m : tM) (l1 : Int32) (l2 : Int32) (l3 : Int32) (l5 : Int32) (l6 : Int32) : Nat → Int32 → Int32 → Option Int32
  | 0, _, _ => none
  | n + 1, l7, l8 =>
    if l3 < l8 then (
      some l7
    ) else (
      Option.bind (aG (M_bodies m) 48 (((4 : Int32) * l1) + l5)) fun x2 =>
      Option.bind (F_Md_costOf m x2 l6 l8) fun x6 =>
      Option.bind (aG (M_rest m) 50 ((((10 : Int32) * l5) + (10 : Int32)) + l8)) fun x8 =>
      Option.bind (
        if x6 < 0 then (
          some (l7 : Int32)
        ) else (
          if x8 < 0 then (
            some (l7 : Int32)
          ) else (
            if l7 < 0 then (
              some (x6 + x8 : Int32)
            ) else (
              if l7 ≤ (x6 + x8) then (
                some (l7 : Int32)
              ) else (
                some (x6 + x8 : Int32)
              )
            )
          )
        )
       : Option Int32) fun y11 =>
      F_Md_bodyCost_L74 m l1 l2 l3 l5 l6 n y11 (l8 + 1)
    )
set_option maxHeartbeats 4000000 in
set_option maxRecDepth 100000 in
theorem p_Md_bodyCost_L74 {Z : rn_Z} {g1 g2 : Nat} {x : tX} {d : tD} {c : tC} {u : tU} {t : tT} {a : tG} {b : tG} {m : tM} {o : tO} {E : List rn_C}  {l1 : Int32} {l2 : Int32} {l3 : Int32} {l5 : Int32} {l6 : Int32} {K : rn_K} {ca sa : Nat} {z7 : Int32} (hx : Rn Z M_Md_bodyCost 162 [some (.ref 53), some (.int l1), some (.int l2), some (.int l3), none, some (.int l5), some (.int l6), some (.int z7), none, none, none] [] (emb g1 g2 x d c u t a b m o E) ca sa K) (n : Nat) : ∀ (l7 : Int32) (l8 : Int32), F_Md_bodyCost_L74 m l1 l2 l3 l5 l6 n l7 l8 = some z7 → Rn Z M_Md_bodyCost 74 [some (.ref 53), some (.int l1), some (.int l2), some (.int l3), none, some (.int l5), some (.int l6), some (.int l7), some (.int l8), none, none] [] (emb g1 g2 x d c u t a b m o E) ca sa K := by
  induction n with
  | zero =>
    intro l7 l8 h
    rw [F_Md_bodyCost_L74] at h
    cases h
  | succ n ih =>
    intro l7 l8 h
    rw [F_Md_bodyCost_L74] at h
    refine rn_iload (by exact dc_Md_bodyCost 41 rfl) (by exact rfl) ?_
    refine rn_iload_n (by exact dc_Md_bodyCost 42 rfl) (by exact rfl) ?_
    by_cases c1 : l3 < l8
    · replace h := rn_ifp c1 h
      refine rn_icmp_gt_t 162 (by exact dc_Md_bodyCost 43 rfl) (by exact rfl) c1 ?_
      cases h
      exact rn_weak _ (by repeat (first | exact rn_le_0 | apply rn_le_s | apply rn_le_x)) hx
    · replace h := rn_ifn c1 h
      refine rn_icmp_gt_f 162 (by exact dc_Md_bodyCost 43 rfl) (by exact rfl) c1 ?_
      refine rn_aload_n (by exact dc_Md_bodyCost 44 rfl) (by exact rfl) ?_
      refine rn_aload_n (by exact dc_Md_bodyCost 45 rfl) (by exact rfl) ?_
      refine rn_getf (v := .ref 59) fd_Md_25 (by exact dc_Md_bodyCost 46 rfl) (by exact rfl) (by exact rfl) ?_
      refine rn_iconst (v := (4 : Int32)) (by exact dc_Md_bodyCost 47 rfl) (by decide) ?_
      refine rn_iload_n (by exact dc_Md_bodyCost 48 rfl) (by exact rfl) ?_
      refine rn_imul (by exact dc_Md_bodyCost 49 rfl) ?_
      refine rn_iload (by exact dc_Md_bodyCost 50 rfl) (by exact rfl) ?_
      refine rn_iadd (by exact dc_Md_bodyCost 51 rfl) ?_
      obtain ⟨x2, e3, h4⟩ := rn_bind h
      clear h
      refine rn_iaload (by exact dc_Md_bodyCost 52 rfl) (by exact rfl) e3 ?_
      refine rn_iload (by exact dc_Md_bodyCost 53 rfl) (by exact rfl) ?_
      refine rn_iload (by exact dc_Md_bodyCost 54 rfl) (by exact rfl) ?_
      obtain ⟨x6, e5, h7⟩ := rn_bind h4
      clear h4
      refine rn_invV0 (by exact c_Md_costOf e5) iv_Md_189 (by exact ⟨Nat.le_of_ble_eq_true rfl, Nat.le_of_ble_eq_true rfl⟩) (by exact dc_Md_bodyCost 55 rfl) (by exact rfl) (by exact rfl) (by exact rfl) (by exact Nat.le_of_ble_eq_true rfl) ?_
      show Rn _ _ 99 [some (.ref 53), some (.int l1), some (.int l2), some (.int l3), none, some (.int l5), some (.int l6), some (.int l7), some (.int l8), none, none] [.int x6] (emb g1 g2 x d c u t a b m o E) _ _ _
      refine rn_istore (ls' := [some (.ref 53), some (.int l1), some (.int l2), some (.int l3), none, some (.int l5), some (.int l6), some (.int l7), some (.int l8), some (.int x6), none]) (by exact dc_Md_bodyCost 56 rfl) (by decide) (by exact rfl) ?_
      refine rn_aload_n (by exact dc_Md_bodyCost 57 rfl) (by exact rfl) ?_
      refine rn_getf (v := .ref 71) fd_Md_62 (by exact dc_Md_bodyCost 58 rfl) (by exact rfl) (by exact rfl) ?_
      refine rn_bipush (v := (10 : Int32)) (by exact dc_Md_bodyCost 59 rfl) (by decide) ?_
      refine rn_iload (by exact dc_Md_bodyCost 60 rfl) (by exact rfl) ?_
      refine rn_imul (by exact dc_Md_bodyCost 61 rfl) ?_
      refine rn_bipush (v := (10 : Int32)) (by exact dc_Md_bodyCost 62 rfl) (by decide) ?_
      refine rn_iadd (by exact dc_Md_bodyCost 63 rfl) ?_
      refine rn_iload (by exact dc_Md_bodyCost 64 rfl) (by exact rfl) ?_
      refine rn_iadd (by exact dc_Md_bodyCost 65 rfl) ?_
      obtain ⟨x8, e9, h10⟩ := rn_bind h7
      clear h7
      refine rn_iaload (by exact dc_Md_bodyCost 66 rfl) (by exact rfl) e9 ?_
      refine rn_istore (ls' := [some (.ref 53), some (.int l1), some (.int l2), some (.int l3), none, some (.int l5), some (.int l6), some (.int l7), some (.int l8), some (.int x6), some (.int x8)]) (by exact dc_Md_bodyCost 67 rfl) (by decide) (by exact rfl) ?_
      refine rn_iload (by exact dc_Md_bodyCost 68 rfl) (by exact rfl) ?_
      obtain ⟨y11, e12, h14⟩ := rn_bind h10
      clear h10
      have jq13 : Rn Z M_Md_bodyCost 154 [some (.ref 53), some (.int l1), some (.int l2), some (.int l3), none, some (.int l5), some (.int l6), none, some (.int l8), none, none] [.int y11] (emb g1 g2 x d c u t a b m o E) ca sa K := by
        refine rn_istore (ls' := [some (.ref 53), some (.int l1), some (.int l2), some (.int l3), none, some (.int l5), some (.int l6), some (.int y11), some (.int l8), none, none]) (by exact dc_Md_bodyCost 84 rfl) (by decide) (by exact rfl) ?_
        refine rn_iinc (ls' := [some (.ref 53), some (.int l1), some (.int l2), some (.int l3), none, some (.int l5), some (.int l6), some (.int y11), some (.int (l8 + 1)), none, none]) (by exact dc_Md_bodyCost 85 rfl) (by decide) (by exact rfl) (by exact rn_inc_1 _) (by exact rfl) ?_
        refine rn_goto 74 (by exact dc_Md_bodyCost 86 rfl) (by exact rfl) ?_
        exact rn_weak _ (by repeat (first | exact rn_le_0 | apply rn_le_s | apply rn_le_x)) (ih _ _ h14)
      by_cases c15 : x6 < 0
      · replace e12 := rn_ifp c15 e12
        refine rn_if_lt_t 152 (by exact dc_Md_bodyCost 69 rfl) (by exact rfl) c15 ?_
        refine rn_iload (by exact dc_Md_bodyCost 83 rfl) (by exact rfl) ?_
        cases e12
        exact rn_weak _ (by repeat (first | exact rn_le_0 | apply rn_le_s | apply rn_le_x)) jq13
      · replace e12 := rn_ifn c15 e12
        refine rn_if_lt_f 152 (by exact dc_Md_bodyCost 69 rfl) (by exact rfl) c15 ?_
        refine rn_iload (by exact dc_Md_bodyCost 70 rfl) (by exact rfl) ?_
        by_cases c16 : x8 < 0
        · replace e12 := rn_ifp c16 e12
          refine rn_if_lt_t 152 (by exact dc_Md_bodyCost 71 rfl) (by exact rfl) c16 ?_
          refine rn_iload (by exact dc_Md_bodyCost 83 rfl) (by exact rfl) ?_
          cases e12
          exact rn_weak _ (by repeat (first | exact rn_le_0 | apply rn_le_s | apply rn_le_x)) jq13
        · replace e12 := rn_ifn c16 e12
          refine rn_if_lt_f 152 (by exact dc_Md_bodyCost 71 rfl) (by exact rfl) c16 ?_
          refine rn_iload (by exact dc_Md_bodyCost 72 rfl) (by exact rfl) ?_
          by_cases c17 : l7 < 0
          · replace e12 := rn_ifp c17 e12
            refine rn_if_lt_t 144 (by exact dc_Md_bodyCost 73 rfl) (by exact rfl) c17 ?_
            refine rn_iload (by exact dc_Md_bodyCost 79 rfl) (by exact rfl) ?_
            refine rn_iload (by exact dc_Md_bodyCost 80 rfl) (by exact rfl) ?_
            refine rn_iadd (by exact dc_Md_bodyCost 81 rfl) ?_
            refine rn_goto 154 (by exact dc_Md_bodyCost 82 rfl) (by exact rfl) ?_
            cases e12
            exact rn_weak _ (by repeat (first | exact rn_le_0 | apply rn_le_s | apply rn_le_x)) jq13
          · replace e12 := rn_ifn c17 e12
            refine rn_if_lt_f 144 (by exact dc_Md_bodyCost 73 rfl) (by exact rfl) c17 ?_
            refine rn_iload (by exact dc_Md_bodyCost 74 rfl) (by exact rfl) ?_
            refine rn_iload (by exact dc_Md_bodyCost 75 rfl) (by exact rfl) ?_
            refine rn_iadd (by exact dc_Md_bodyCost 76 rfl) ?_
            refine rn_iload (by exact dc_Md_bodyCost 77 rfl) (by exact rfl) ?_
            by_cases c18 : l7 ≤ (x6 + x8)
            · replace e12 := rn_ifp c18 e12
              refine rn_icmp_ge_t 152 (by exact dc_Md_bodyCost 78 rfl) (by exact rfl) c18 ?_
              refine rn_iload (by exact dc_Md_bodyCost 83 rfl) (by exact rfl) ?_
              cases e12
              exact rn_weak _ (by repeat (first | exact rn_le_0 | apply rn_le_s | apply rn_le_x)) jq13
            · replace e12 := rn_ifn c18 e12
              refine rn_icmp_ge_f 152 (by exact dc_Md_bodyCost 78 rfl) (by exact rfl) c18 ?_
              refine rn_iload (by exact dc_Md_bodyCost 79 rfl) (by exact rfl) ?_
              refine rn_iload (by exact dc_Md_bodyCost 80 rfl) (by exact rfl) ?_
              refine rn_iadd (by exact dc_Md_bodyCost 81 rfl) ?_
              refine rn_goto 154 (by exact dc_Md_bodyCost 82 rfl) (by exact rfl) ?_
              cases e12
              exact rn_weak _ (by repeat (first | exact rn_le_0 | apply rn_le_s | apply rn_le_x)) jq13
def F_Md_bodyCost_L61 (l1 : Int32) (l2 : Int32) (l3 : Int32) (l5 : Int32) : Nat → tM → Int32 → Option tM
  | 0, _, _ => none
  | n + 1, m, l6 =>
    if l3 < l6 then (
      some m
    ) else (
      Option.bind (F_Md_bodyCost_L74 m l1 l2 l3 l5 l6 rn_fu (-1 : Int32) l6) fun y5 =>
      Option.bind (aS (M_rest m) 50 (((10 : Int32) * l5) + l6) y5) fun f6 =>
      F_Md_bodyCost_L61 l1 l2 l3 l5 n (M_put_rest m f6) (l6 + 1)
    )
set_option maxHeartbeats 4000000 in
set_option maxRecDepth 100000 in
theorem p_Md_bodyCost_L61 {Z : rn_Z} {g1 g2 : Nat} {x : tX} {d : tD} {c : tC} {u : tU} {t : tT} {a : tG} {b : tG}  {o : tO} {E : List rn_C}  {l1 : Int32} {l2 : Int32} {l3 : Int32} {l5 : Int32} {K : rn_K} {ca sa : Nat} {mz : tM} (hx : Rn Z M_Md_bodyCost 183 [some (.ref 53), some (.int l1), some (.int l2), some (.int l3), none, some (.int l5), none, none, none, none, none] [] (emb g1 g2 x d c u t a b mz o E) ca sa K) (n : Nat) : ∀ (m : tM) (l6 : Int32), F_Md_bodyCost_L61 l1 l2 l3 l5 n m l6 = some mz → Rn Z M_Md_bodyCost 61 [some (.ref 53), some (.int l1), some (.int l2), some (.int l3), none, some (.int l5), some (.int l6), none, none, none, none] [] (emb g1 g2 x d c u t a b m o E) ca sa K := by
  induction n with
  | zero =>
    intro m l6 h
    rw [F_Md_bodyCost_L61] at h
    cases h
  | succ n ih =>
    intro m l6 h
    rw [F_Md_bodyCost_L61] at h
    refine rn_iload (by exact dc_Md_bodyCost 34 rfl) (by exact rfl) ?_
    refine rn_iload_n (by exact dc_Md_bodyCost 35 rfl) (by exact rfl) ?_
    by_cases c1 : l3 < l6
    · replace h := rn_ifp c1 h
      refine rn_icmp_gt_t 183 (by exact dc_Md_bodyCost 36 rfl) (by exact rfl) c1 ?_
      cases h
      exact rn_weak _ (by repeat (first | exact rn_le_0 | apply rn_le_s | apply rn_le_x)) hx
    · replace h := rn_ifn c1 h
      refine rn_icmp_gt_f 183 (by exact dc_Md_bodyCost 36 rfl) (by exact rfl) c1 ?_
      refine rn_iconst (v := (-1 : Int32)) (by exact dc_Md_bodyCost 37 rfl) (by decide) ?_
      refine rn_istore (ls' := [some (.ref 53), some (.int l1), some (.int l2), some (.int l3), none, some (.int l5), some (.int l6), some (.int (-1 : Int32)), none, none, none]) (by exact dc_Md_bodyCost 38 rfl) (by decide) (by exact rfl) ?_
      refine rn_iload (by exact dc_Md_bodyCost 39 rfl) (by exact rfl) ?_
      refine rn_istore (ls' := [some (.ref 53), some (.int l1), some (.int l2), some (.int l3), none, some (.int l5), some (.int l6), some (.int (-1 : Int32)), some (.int l6), none, none]) (by exact dc_Md_bodyCost 40 rfl) (by decide) (by exact rfl) ?_
      obtain ⟨y5, e2, h4⟩ := rn_bind h
      clear h
      have jx3 : Rn Z M_Md_bodyCost 162 [some (.ref 53), some (.int l1), some (.int l2), some (.int l3), none, some (.int l5), some (.int l6), some (.int y5), none, none, none] [] (emb g1 g2 x d c u t a b m o E) ca sa K := by
        refine rn_aload_n (by exact dc_Md_bodyCost 87 rfl) (by exact rfl) ?_
        refine rn_getf (v := .ref 71) fd_Md_62 (by exact dc_Md_bodyCost 88 rfl) (by exact rfl) (by exact rfl) ?_
        refine rn_bipush (v := (10 : Int32)) (by exact dc_Md_bodyCost 89 rfl) (by decide) ?_
        refine rn_iload (by exact dc_Md_bodyCost 90 rfl) (by exact rfl) ?_
        refine rn_imul (by exact dc_Md_bodyCost 91 rfl) ?_
        refine rn_iload (by exact dc_Md_bodyCost 92 rfl) (by exact rfl) ?_
        refine rn_iadd (by exact dc_Md_bodyCost 93 rfl) ?_
        refine rn_iload (by exact dc_Md_bodyCost 94 rfl) (by exact rfl) ?_
        obtain ⟨f6, e7, h8⟩ := rn_bind h4
        clear h4
        refine rn_iastore (w2 := (emb g1 g2 x d c u t a b (M_put_rest m f6) o E)) (by exact dc_Md_bodyCost 95 rfl) (by exact rfl) e7 (by exact sm_rest) ?_
        refine rn_iinc (ls' := [some (.ref 53), some (.int l1), some (.int l2), some (.int l3), none, some (.int l5), some (.int (l6 + 1)), some (.int y5), none, none, none]) (by exact dc_Md_bodyCost 96 rfl) (by decide) (by exact rfl) (by exact rn_inc_1 _) (by exact rfl) ?_
        refine rn_goto 61 (by exact dc_Md_bodyCost 97 rfl) (by exact rfl) ?_
        exact rn_weak _ (by repeat (first | exact rn_le_0 | apply rn_le_s | apply rn_le_x)) (ih _ _ h8)
      exact rn_weak _ (by repeat (first | exact rn_le_0 | apply rn_le_s | apply rn_le_x)) (p_Md_bodyCost_L74 jx3 _ _ _ e2)
def F_Md_bodyCost_L53 (l1 : Int32) (l2 : Int32) (l3 : Int32) : Nat → tM → Int32 → Option tM
  | 0, _, _ => none
  | n + 1, m, l5 =>
    if l5 < 0 then (
      some m
    ) else (
      Option.bind (F_Md_bodyCost_L61 l1 l2 l3 l5 rn_fu m l2) fun m5 =>
      F_Md_bodyCost_L53 l1 l2 l3 n m5 (l5 + (-1))
    )
set_option maxHeartbeats 4000000 in
set_option maxRecDepth 100000 in
theorem p_Md_bodyCost_L53 {Z : rn_Z} {g1 g2 : Nat} {x : tX} {d : tD} {c : tC} {u : tU} {t : tT} {a : tG} {b : tG}  {o : tO} {E : List rn_C}  {l1 : Int32} {l2 : Int32} {l3 : Int32} {K : rn_K} {ca sa : Nat} {mz : tM} (hx : Rn Z M_Md_bodyCost 189 [some (.ref 53), none, some (.int l2), none, none, none, none, none, none, none, none] [] (emb g1 g2 x d c u t a b mz o E) ca sa K) (n : Nat) : ∀ (m : tM) (l5 : Int32), F_Md_bodyCost_L53 l1 l2 l3 n m l5 = some mz → Rn Z M_Md_bodyCost 53 [some (.ref 53), some (.int l1), some (.int l2), some (.int l3), none, some (.int l5), none, none, none, none, none] [] (emb g1 g2 x d c u t a b m o E) ca sa K := by
  induction n with
  | zero =>
    intro m l5 h
    rw [F_Md_bodyCost_L53] at h
    cases h
  | succ n ih =>
    intro m l5 h
    rw [F_Md_bodyCost_L53] at h
    refine rn_iload (by exact dc_Md_bodyCost 30 rfl) (by exact rfl) ?_
    by_cases c1 : l5 < 0
    · replace h := rn_ifp c1 h
      refine rn_if_lt_t 189 (by exact dc_Md_bodyCost 31 rfl) (by exact rfl) c1 ?_
      cases h
      exact rn_weak _ (by repeat (first | exact rn_le_0 | apply rn_le_s | apply rn_le_x)) hx
    · replace h := rn_ifn c1 h
      refine rn_if_lt_f 189 (by exact dc_Md_bodyCost 31 rfl) (by exact rfl) c1 ?_
      refine rn_iload_n (by exact dc_Md_bodyCost 32 rfl) (by exact rfl) ?_
      refine rn_istore (ls' := [some (.ref 53), some (.int l1), some (.int l2), some (.int l3), none, some (.int l5), some (.int l2), none, none, none, none]) (by exact dc_Md_bodyCost 33 rfl) (by decide) (by exact rfl) ?_
      obtain ⟨m5, e2, h4⟩ := rn_bind h
      clear h
      have jx3 : Rn Z M_Md_bodyCost 183 [some (.ref 53), some (.int l1), some (.int l2), some (.int l3), none, some (.int l5), none, none, none, none, none] [] (emb g1 g2 x d c u t a b m5 o E) ca sa K := by
        refine rn_iinc (ls' := [some (.ref 53), some (.int l1), some (.int l2), some (.int l3), none, some (.int (l5 + (-1))), none, none, none, none, none]) (by exact dc_Md_bodyCost 98 rfl) (by decide) (by exact rfl) (by exact rn_inc_m1 _) (by exact rfl) ?_
        refine rn_goto 53 (by exact dc_Md_bodyCost 99 rfl) (by exact rfl) ?_
        exact rn_weak _ (by repeat (first | exact rn_le_0 | apply rn_le_s | apply rn_le_x)) (ih _ _ h4)
      exact rn_weak _ (by repeat (first | exact rn_le_0 | apply rn_le_s | apply rn_le_x)) (p_Md_bodyCost_L61 jx3 _ _ _ e2)
def F_Md_bodyCost (m : tM) (v0 : Int32) (v1 : Int32) (v2 : Int32) : Option (Int32 × tM) :=
  Option.bind (aG (M_lengths m) 12 v0) fun x1 =>
  Option.bind (F_Md_bodyCost_L11 v0 v1 v2 x1 rn_fu m v1) fun m7 =>
  Option.bind (F_Md_bodyCost_L53 v0 v1 v2 rn_fu m7 (x1 - (1 : Int32))) fun m11 =>
  Option.bind (aG (M_rest m11) 50 v1) fun x12 =>
  some (x12, m11)
set_option maxHeartbeats 4000000 in
set_option maxRecDepth 100000 in
theorem c_Md_bodyCost {Z : rn_Z} {g1 g2 : Nat} {x : tX} {d : tD} {c : tC} {u : tU} {t : tT} {a : tG} {b : tG} {m : tM} {o : tO} {E : List rn_C} {v0 : Int32} {v1 : Int32} {v2 : Int32} {res : Int32} {m_r : tM} (h : F_Md_bodyCost m v0 v1 v2 = some (res, m_r)) : Call Z M_Md_bodyCost [.ref 53, .int v0, .int v1, .int v2] (emb g1 g2 x d c u t a b m o E) 0 0 (some (.int res)) (emb g1 g2 x d c u t a b m_r o E) := by
  unfold F_Md_bodyCost at h
  refine rn_call (by decide) 7 (by exact Nat.le_of_ble_eq_true rfl) ?_
  show Rn Z M_Md_bodyCost 0 [some (.ref 53), some (.int v0), some (.int v1), some (.int v2), none, none, none, none, none, none, none] [] (emb g1 g2 x d c u t a b m o E) 0 0 _
  refine rn_aload_n (by exact dc_Md_bodyCost 0 rfl) (by exact rfl) ?_
  refine rn_getf (v := .ref 58) fd_Md_22 (by exact dc_Md_bodyCost 1 rfl) (by exact rfl) (by exact rfl) ?_
  refine rn_iload_n (by exact dc_Md_bodyCost 2 rfl) (by exact rfl) ?_
  obtain ⟨x1, e2, h3⟩ := rn_bind h
  clear h
  refine rn_iaload (by exact dc_Md_bodyCost 3 rfl) (by exact rfl) e2 ?_
  refine rn_istore (ls' := [some (.ref 53), some (.int v0), some (.int v1), some (.int v2), some (.int x1), none, none, none, none, none, none]) (by exact dc_Md_bodyCost 4 rfl) (by decide) (by exact rfl) ?_
  refine rn_iload_n (by exact dc_Md_bodyCost 5 rfl) (by exact rfl) ?_
  refine rn_istore (ls' := [some (.ref 53), some (.int v0), some (.int v1), some (.int v2), some (.int x1), some (.int v1), none, none, none, none, none]) (by exact dc_Md_bodyCost 6 rfl) (by decide) (by exact rfl) ?_
  obtain ⟨m7, e4, h6⟩ := rn_bind h3
  clear h3
  have jx5 : Rn Z M_Md_bodyCost 47 [some (.ref 53), some (.int v0), some (.int v1), some (.int v2), some (.int x1), none, none, none, none, none, none] [] (emb g1 g2 x d c u t a b m7 o E) 0 0 (rn_Ret Z (some (.int res)) (emb g1 g2 x d c u t a b m_r o E)) := by
    refine rn_iload (by exact dc_Md_bodyCost 26 rfl) (by exact rfl) ?_
    refine rn_iconst (v := (1 : Int32)) (by exact dc_Md_bodyCost 27 rfl) (by decide) ?_
    refine rn_isub (by exact dc_Md_bodyCost 28 rfl) ?_
    refine rn_istore (ls' := [some (.ref 53), some (.int v0), some (.int v1), some (.int v2), some (.int x1), some (.int (x1 - (1 : Int32))), none, none, none, none, none]) (by exact dc_Md_bodyCost 29 rfl) (by decide) (by exact rfl) ?_
    obtain ⟨m11, e8, h10⟩ := rn_bind h6
    clear h6
    have jx9 : Rn Z M_Md_bodyCost 189 [some (.ref 53), none, some (.int v1), none, none, none, none, none, none, none, none] [] (emb g1 g2 x d c u t a b m11 o E) 0 0 (rn_Ret Z (some (.int res)) (emb g1 g2 x d c u t a b m_r o E)) := by
      refine rn_aload_n (by exact dc_Md_bodyCost 100 rfl) (by exact rfl) ?_
      refine rn_getf (v := .ref 71) fd_Md_62 (by exact dc_Md_bodyCost 101 rfl) (by exact rfl) (by exact rfl) ?_
      refine rn_iload_n (by exact dc_Md_bodyCost 102 rfl) (by exact rfl) ?_
      obtain ⟨x12, e13, h14⟩ := rn_bind h10
      clear h10
      refine rn_iaload (by exact dc_Md_bodyCost 103 rfl) (by exact rfl) e13 ?_
      cases h14
      exact rn_ireturn (by exact dc_Md_bodyCost 104 rfl) (by exact rfl)
    exact rn_weak _ (by repeat (first | exact rn_le_0 | apply rn_le_s | apply rn_le_x)) (p_Md_bodyCost_L53 jx9 _ _ _ e8)
  exact rn_weak _ (by repeat (first | exact rn_le_0 | apply rn_le_s | apply rn_le_x)) (p_Md_bodyCost_L11 jx5 _ _ _ e4)
def F_Md_fillPart_L2 (l1 : Int32) (l2 : Int32) : Nat → tM → Int32 → Option tM
  | 0, _, _ => none
  | n + 1, m, l3 =>
    if (M_symbols m) ≤ l3 then (
      some m
    ) else (
      Option.bind (F_Md_cell  l3 l1 l2) fun x3 =>
      Option.bind (aS (M_sums m) 486 x3 (0 : Int64)) fun f5 =>
      Option.bind (F_Md_cell  l3 l1 l2) fun x9 =>
      Option.bind (aS (M_least (M_put_sums m f5)) 486 x9 (-1 : Int32)) fun f11 =>
      F_Md_fillPart_L2 l1 l2 n (M_put_least (M_put_sums m f5) f11) (l3 + 1)
    )
set_option maxHeartbeats 4000000 in
set_option maxRecDepth 100000 in
theorem p_Md_fillPart_L2 {Z : rn_Z} {g1 g2 : Nat} {x : tX} {d : tD} {c : tC} {u : tU} {t : tT} {a : tG} {b : tG}  {o : tO} {E : List rn_C}  {l1 : Int32} {l2 : Int32} {K : rn_K} {ca sa : Nat} {mz : tM} (hx : Rn Z M_Md_fillPart 40 [some (.ref 53), some (.int l1), some (.int l2), none, none, none, none, none, none, none] [] (emb g1 g2 x d c u t a b mz o E) ca sa K) (n : Nat) : ∀ (m : tM) (l3 : Int32), F_Md_fillPart_L2 l1 l2 n m l3 = some mz → Rn Z M_Md_fillPart 2 [some (.ref 53), some (.int l1), some (.int l2), some (.int l3), none, none, none, none, none, none] [] (emb g1 g2 x d c u t a b m o E) ca sa K := by
  induction n with
  | zero =>
    intro m l3 h
    rw [F_Md_fillPart_L2] at h
    cases h
  | succ n ih =>
    intro m l3 h
    rw [F_Md_fillPart_L2] at h
    refine rn_iload_n (by exact dc_Md_fillPart 2 rfl) (by exact rfl) ?_
    refine rn_aload_n (by exact dc_Md_fillPart 3 rfl) (by exact rfl) ?_
    refine rn_getf (v := .int (M_symbols m)) fd_Md_99 (by exact dc_Md_fillPart 4 rfl) (by exact rfl) (by exact rfl) ?_
    by_cases c1 : (M_symbols m) ≤ l3
    · replace h := rn_ifp c1 h
      refine rn_icmp_ge_t 40 (by exact dc_Md_fillPart 5 rfl) (by exact rfl) c1 ?_
      cases h
      exact rn_weak _ (by repeat (first | exact rn_le_0 | apply rn_le_s | apply rn_le_x)) hx
    · replace h := rn_ifn c1 h
      refine rn_icmp_ge_f 40 (by exact dc_Md_fillPart 5 rfl) (by exact rfl) c1 ?_
      refine rn_aload_n (by exact dc_Md_fillPart 6 rfl) (by exact rfl) ?_
      refine rn_getf (v := .ref 66) fd_Md_47 (by exact dc_Md_fillPart 7 rfl) (by exact rfl) (by exact rfl) ?_
      refine rn_iload_n (by exact dc_Md_fillPart 8 rfl) (by exact rfl) ?_
      refine rn_iload_n (by exact dc_Md_fillPart 9 rfl) (by exact rfl) ?_
      refine rn_iload_n (by exact dc_Md_fillPart 10 rfl) (by exact rfl) ?_
      obtain ⟨x3, e2, h4⟩ := rn_bind h
      clear h
      refine rn_invS0 (by exact c_Md_cell e2) is_Md_181 (by exact ⟨Nat.le_of_ble_eq_true rfl, Nat.le_of_ble_eq_true rfl⟩) (by exact dc_Md_fillPart 11 rfl) (by exact rfl) (by exact rfl) (by exact Nat.le_of_ble_eq_true rfl) ?_
      show Rn _ _ 20 [some (.ref 53), some (.int l1), some (.int l2), some (.int l3), none, none, none, none, none, none] [.int x3, .ref 66] (emb g1 g2 x d c u t a b m o E) _ _ _
      refine rn_lconst (v := (0 : Int64)) (by exact dc_Md_fillPart 12 rfl) (by decide) ?_
      obtain ⟨f5, e6, h7⟩ := rn_bind h4
      clear h4
      refine rn_lastore (w2 := (emb g1 g2 x d c u t a b (M_put_sums m f5) o E)) (by exact dc_Md_fillPart 13 rfl) (by exact rfl) e6 (by exact sm_sums) ?_
      refine rn_aload_n (by exact dc_Md_fillPart 14 rfl) (by exact rfl) ?_
      refine rn_getf (v := .ref 67) fd_Md_50 (by exact dc_Md_fillPart 15 rfl) (by exact rfl) (by exact rfl) ?_
      refine rn_iload_n (by exact dc_Md_fillPart 16 rfl) (by exact rfl) ?_
      refine rn_iload_n (by exact dc_Md_fillPart 17 rfl) (by exact rfl) ?_
      refine rn_iload_n (by exact dc_Md_fillPart 18 rfl) (by exact rfl) ?_
      obtain ⟨x9, e8, h10⟩ := rn_bind h7
      clear h7
      refine rn_invS0 (by exact c_Md_cell e8) is_Md_181 (by exact ⟨Nat.le_of_ble_eq_true rfl, Nat.le_of_ble_eq_true rfl⟩) (by exact dc_Md_fillPart 19 rfl) (by exact rfl) (by exact rfl) (by exact Nat.le_of_ble_eq_true rfl) ?_
      show Rn _ _ 32 [some (.ref 53), some (.int l1), some (.int l2), some (.int l3), none, none, none, none, none, none] [.int x9, .ref 67] (emb g1 g2 x d c u t a b (M_put_sums m f5) o E) _ _ _
      refine rn_iconst (v := (-1 : Int32)) (by exact dc_Md_fillPart 20 rfl) (by decide) ?_
      obtain ⟨f11, e12, h13⟩ := rn_bind h10
      clear h10
      refine rn_iastore (w2 := (emb g1 g2 x d c u t a b (M_put_least (M_put_sums m f5) f11) o E)) (by exact dc_Md_fillPart 21 rfl) (by exact rfl) e12 (by exact sm_least) ?_
      refine rn_iinc (ls' := [some (.ref 53), some (.int l1), some (.int l2), some (.int (l3 + 1)), none, none, none, none, none, none]) (by exact dc_Md_fillPart 22 rfl) (by decide) (by exact rfl) (by exact rn_inc_1 _) (by exact rfl) ?_
      refine rn_goto 2 (by exact dc_Md_fillPart 23 rfl) (by exact rfl) ?_
      exact rn_weak _ (by repeat (first | exact rn_le_0 | apply rn_le_s | apply rn_le_x)) (ih _ _ h13)
def F_Md_fillPart_L71 (l1 : Int32) (l2 : Int32) (l3 : Int32) (l4 : Int32) : Nat → tM → Int64 → Int32 → Int32 → Option (Int64 × Int32 × tM)
  | 0, _, _, _, _ => none
  | n + 1, m, l5, l7, l8 =>
    if (M_rules m) ≤ l8 then (
      some (l5, l7, m)
    ) else (
      Option.bind (aG (M_heads m) 12 l8) fun x2 =>
      Option.bind (
        if ¬ x2 = l4 then (
          some ((l5 : Int64), (l7 : Int32), m)
        ) else (
          Option.bind (aG (M_weights m) 12 l8) fun x12 =>
          Option.bind (F_Md_bodySum m l8 l1 l2) fun (x16, m17) =>
          Option.bind (F_Md_bodyCost m17 l8 l1 l2) fun (x20, m21) =>
          Option.bind (
            if x20 < 0 then (
              some (l7 : Int32)
            ) else (
              if l7 < 0 then (
                Option.bind (aG (M_costs m21) 12 l8) fun x29 =>
                some (x20 + x29 : Int32)
              ) else (
                Option.bind (aG (M_costs m21) 12 l8) fun x32 =>
                if l7 ≤ (x20 + x32) then (
                  some (l7 : Int32)
                ) else (
                  Option.bind (aG (M_costs m21) 12 l8) fun x36 =>
                  some (x20 + x36 : Int32)
                )
              )
            )
           : Option Int32) fun y23 =>
          some ((l5 + (x12 * x16) : Int64), (y23 : Int32), m21)
        )
       : Option (Int64 × Int32 × tM)) fun (y5, y6, m7) =>
      F_Md_fillPart_L71 l1 l2 l3 l4 n m7 y5 y6 (l8 + 1)
    )
set_option maxHeartbeats 4000000 in
set_option maxRecDepth 100000 in
theorem p_Md_fillPart_L71 {Z : rn_Z} {g1 g2 : Nat} {x : tX} {d : tD} {c : tC} {u : tU} {t : tT} {a : tG} {b : tG}  {o : tO} {E : List rn_C}  {l1 : Int32} {l2 : Int32} {l3 : Int32} {l4 : Int32} {K : rn_K} {ca sa : Nat} {z5 : Int64} {z7 : Int32} {mz : tM} (hx : Rn Z M_Md_fillPart 171 [some (.ref 53), some (.int l1), some (.int l2), some (.int l3), some (.int l4), some (.long z5), none, some (.int z7), none, none] [] (emb g1 g2 x d c u t a b mz o E) ca sa K) (n : Nat) : ∀ (m : tM) (l5 : Int64) (l7 : Int32) (l8 : Int32), F_Md_fillPart_L71 l1 l2 l3 l4 n m l5 l7 l8 = some (z5, z7, mz) → Rn Z M_Md_fillPart 71 [some (.ref 53), some (.int l1), some (.int l2), some (.int l3), some (.int l4), some (.long l5), none, some (.int l7), some (.int l8), none] [] (emb g1 g2 x d c u t a b m o E) ca sa K := by
  induction n with
  | zero =>
    intro m l5 l7 l8 h
    rw [F_Md_fillPart_L71] at h
    cases h
  | succ n ih =>
    intro m l5 l7 l8 h
    rw [F_Md_fillPart_L71] at h
    refine rn_iload (by exact dc_Md_fillPart 42 rfl) (by exact rfl) ?_
    refine rn_aload_n (by exact dc_Md_fillPart 43 rfl) (by exact rfl) ?_
    refine rn_getf (v := .int (M_rules m)) fd_Md_115 (by exact dc_Md_fillPart 44 rfl) (by exact rfl) (by exact rfl) ?_
    by_cases c1 : (M_rules m) ≤ l8
    · replace h := rn_ifp c1 h
      refine rn_icmp_ge_t 171 (by exact dc_Md_fillPart 45 rfl) (by exact rfl) c1 ?_
      cases h
      exact rn_weak _ (by repeat (first | exact rn_le_0 | apply rn_le_s | apply rn_le_x)) hx
    · replace h := rn_ifn c1 h
      refine rn_icmp_ge_f 171 (by exact dc_Md_fillPart 45 rfl) (by exact rfl) c1 ?_
      refine rn_aload_n (by exact dc_Md_fillPart 46 rfl) (by exact rfl) ?_
      refine rn_getf (v := .ref 57) fd_Md_19 (by exact dc_Md_fillPart 47 rfl) (by exact rfl) (by exact rfl) ?_
      refine rn_iload (by exact dc_Md_fillPart 48 rfl) (by exact rfl) ?_
      obtain ⟨x2, e3, h4⟩ := rn_bind h
      clear h
      refine rn_iaload (by exact dc_Md_fillPart 49 rfl) (by exact rfl) e3 ?_
      refine rn_iload (by exact dc_Md_fillPart 50 rfl) (by exact rfl) ?_
      obtain ⟨⟨y5, y6, m7⟩, e8, h10⟩ := rn_bind h4
      clear h4
      dsimp only at h10
      have jq9 : Rn Z M_Md_fillPart 165 [some (.ref 53), some (.int l1), some (.int l2), some (.int l3), some (.int l4), some (.long y5), none, some (.int y6), some (.int l8), none] [] (emb g1 g2 x d c u t a b m7 o E) ca sa K := by
        refine rn_iinc (ls' := [some (.ref 53), some (.int l1), some (.int l2), some (.int l3), some (.int l4), some (.long y5), none, some (.int y6), some (.int (l8 + 1)), none]) (by exact dc_Md_fillPart 92 rfl) (by decide) (by exact rfl) (by exact rn_inc_1 _) (by exact rfl) ?_
        refine rn_goto 71 (by exact dc_Md_fillPart 93 rfl) (by exact rfl) ?_
        exact rn_weak _ (by repeat (first | exact rn_le_0 | apply rn_le_s | apply rn_le_x)) (ih _ _ _ _ h10)
      by_cases c11 : ¬ x2 = l4
      · replace e8 := rn_ifp c11 e8
        refine rn_icmp_ne_t 165 (by exact dc_Md_fillPart 51 rfl) (by exact rfl) c11 ?_
        cases e8
        exact rn_weak _ (by repeat (first | exact rn_le_0 | apply rn_le_s | apply rn_le_x)) jq9
      · replace e8 := rn_ifn c11 e8
        refine rn_icmp_ne_f 165 (by exact dc_Md_fillPart 51 rfl) (by exact rfl) (Classical.not_not.mp c11) ?_
        refine rn_lload (by exact dc_Md_fillPart 52 rfl) (by exact rfl) ?_
        refine rn_aload_n (by exact dc_Md_fillPart 53 rfl) (by exact rfl) ?_
        refine rn_getf (v := .ref 60) fd_Md_28 (by exact dc_Md_fillPart 54 rfl) (by exact rfl) (by exact rfl) ?_
        refine rn_iload (by exact dc_Md_fillPart 55 rfl) (by exact rfl) ?_
        obtain ⟨x12, e13, h14⟩ := rn_bind e8
        clear e8
        refine rn_laload (by exact dc_Md_fillPart 56 rfl) (by exact rfl) e13 ?_
        refine rn_aload_n (by exact dc_Md_fillPart 57 rfl) (by exact rfl) ?_
        refine rn_iload (by exact dc_Md_fillPart 58 rfl) (by exact rfl) ?_
        refine rn_iload_n (by exact dc_Md_fillPart 59 rfl) (by exact rfl) ?_
        refine rn_iload_n (by exact dc_Md_fillPart 60 rfl) (by exact rfl) ?_
        obtain ⟨⟨x16, m17⟩, e15, h18⟩ := rn_bind h14
        clear h14
        dsimp only at h18
        refine rn_invV0 (by exact c_Md_bodySum e15) iv_Md_192 (by exact ⟨Nat.le_of_ble_eq_true rfl, Nat.le_of_ble_eq_true rfl⟩) (by exact dc_Md_fillPart 61 rfl) (by exact rfl) (by exact rfl) (by exact rfl) (by exact Nat.le_of_ble_eq_true rfl) ?_
        show Rn _ _ 109 [some (.ref 53), some (.int l1), some (.int l2), some (.int l3), some (.int l4), some (.long l5), none, some (.int l7), some (.int l8), none] [.long x16, .long x12, .long l5] (emb g1 g2 x d c u t a b m17 o E) _ _ _
        refine rn_lmul (by exact dc_Md_fillPart 62 rfl) ?_
        refine rn_ladd (by exact dc_Md_fillPart 63 rfl) ?_
        refine rn_lstore (ls' := [some (.ref 53), some (.int l1), some (.int l2), some (.int l3), some (.int l4), some (.long (l5 + (x12 * x16))), none, some (.int l7), some (.int l8), none]) (by exact dc_Md_fillPart 64 rfl) (by decide) (by exact rfl) ?_
        refine rn_aload_n (by exact dc_Md_fillPart 65 rfl) (by exact rfl) ?_
        refine rn_iload (by exact dc_Md_fillPart 66 rfl) (by exact rfl) ?_
        refine rn_iload_n (by exact dc_Md_fillPart 67 rfl) (by exact rfl) ?_
        refine rn_iload_n (by exact dc_Md_fillPart 68 rfl) (by exact rfl) ?_
        obtain ⟨⟨x20, m21⟩, e19, h22⟩ := rn_bind h18
        clear h18
        dsimp only at h22
        refine rn_invV0 (by exact c_Md_bodyCost e19) iv_Md_195 (by exact ⟨Nat.le_of_ble_eq_true rfl, Nat.le_of_ble_eq_true rfl⟩) (by exact dc_Md_fillPart 69 rfl) (by exact rfl) (by exact rfl) (by exact rfl) (by exact Nat.le_of_ble_eq_true rfl) ?_
        show Rn _ _ 121 [some (.ref 53), some (.int l1), some (.int l2), some (.int l3), some (.int l4), some (.long (l5 + (x12 * x16))), none, some (.int l7), some (.int l8), none] [.int x20] (emb g1 g2 x d c u t a b m21 o E) _ _ _
        refine rn_istore (ls' := [some (.ref 53), some (.int l1), some (.int l2), some (.int l3), some (.int l4), some (.long (l5 + (x12 * x16))), none, some (.int l7), some (.int l8), some (.int x20)]) (by exact dc_Md_fillPart 70 rfl) (by decide) (by exact rfl) ?_
        refine rn_iload (by exact dc_Md_fillPart 71 rfl) (by exact rfl) ?_
        obtain ⟨y23, e24, h26⟩ := rn_bind h22
        clear h22
        have jq25 : Rn Z M_Md_fillPart 163 [some (.ref 53), some (.int l1), some (.int l2), some (.int l3), some (.int l4), some (.long (l5 + (x12 * x16))), none, none, some (.int l8), none] [.int y23] (emb g1 g2 x d c u t a b m21 o E) ca sa K := by
          refine rn_istore (ls' := [some (.ref 53), some (.int l1), some (.int l2), some (.int l3), some (.int l4), some (.long (l5 + (x12 * x16))), none, some (.int y23), some (.int l8), none]) (by exact dc_Md_fillPart 91 rfl) (by decide) (by exact rfl) ?_
          cases h26
          exact rn_weak _ (by repeat (first | exact rn_le_0 | apply rn_le_s | apply rn_le_x)) jq9
        by_cases c27 : x20 < 0
        · replace e24 := rn_ifp c27 e24
          refine rn_if_lt_t 161 (by exact dc_Md_fillPart 72 rfl) (by exact rfl) c27 ?_
          refine rn_iload (by exact dc_Md_fillPart 90 rfl) (by exact rfl) ?_
          cases e24
          exact rn_weak _ (by repeat (first | exact rn_le_0 | apply rn_le_s | apply rn_le_x)) jq25
        · replace e24 := rn_ifn c27 e24
          refine rn_if_lt_f 161 (by exact dc_Md_fillPart 72 rfl) (by exact rfl) c27 ?_
          refine rn_iload (by exact dc_Md_fillPart 73 rfl) (by exact rfl) ?_
          by_cases c28 : l7 < 0
          · replace e24 := rn_ifp c28 e24
            refine rn_if_lt_t 148 (by exact dc_Md_fillPart 74 rfl) (by exact rfl) c28 ?_
            refine rn_iload (by exact dc_Md_fillPart 83 rfl) (by exact rfl) ?_
            refine rn_aload_n (by exact dc_Md_fillPart 84 rfl) (by exact rfl) ?_
            refine rn_getf (v := .ref 61) fd_Md_32 (by exact dc_Md_fillPart 85 rfl) (by exact rfl) (by exact rfl) ?_
            refine rn_iload (by exact dc_Md_fillPart 86 rfl) (by exact rfl) ?_
            obtain ⟨x29, e30, h31⟩ := rn_bind e24
            clear e24
            refine rn_iaload (by exact dc_Md_fillPart 87 rfl) (by exact rfl) e30 ?_
            refine rn_iadd (by exact dc_Md_fillPart 88 rfl) ?_
            refine rn_goto 163 (by exact dc_Md_fillPart 89 rfl) (by exact rfl) ?_
            cases h31
            exact rn_weak _ (by repeat (first | exact rn_le_0 | apply rn_le_s | apply rn_le_x)) jq25
          · replace e24 := rn_ifn c28 e24
            refine rn_if_lt_f 148 (by exact dc_Md_fillPart 74 rfl) (by exact rfl) c28 ?_
            refine rn_iload (by exact dc_Md_fillPart 75 rfl) (by exact rfl) ?_
            refine rn_aload_n (by exact dc_Md_fillPart 76 rfl) (by exact rfl) ?_
            refine rn_getf (v := .ref 61) fd_Md_32 (by exact dc_Md_fillPart 77 rfl) (by exact rfl) (by exact rfl) ?_
            refine rn_iload (by exact dc_Md_fillPart 78 rfl) (by exact rfl) ?_
            obtain ⟨x32, e33, h34⟩ := rn_bind e24
            clear e24
            refine rn_iaload (by exact dc_Md_fillPart 79 rfl) (by exact rfl) e33 ?_
            refine rn_iadd (by exact dc_Md_fillPart 80 rfl) ?_
            refine rn_iload (by exact dc_Md_fillPart 81 rfl) (by exact rfl) ?_
            by_cases c35 : l7 ≤ (x20 + x32)
            · replace h34 := rn_ifp c35 h34
              refine rn_icmp_ge_t 161 (by exact dc_Md_fillPart 82 rfl) (by exact rfl) c35 ?_
              refine rn_iload (by exact dc_Md_fillPart 90 rfl) (by exact rfl) ?_
              cases h34
              exact rn_weak _ (by repeat (first | exact rn_le_0 | apply rn_le_s | apply rn_le_x)) jq25
            · replace h34 := rn_ifn c35 h34
              refine rn_icmp_ge_f 161 (by exact dc_Md_fillPart 82 rfl) (by exact rfl) c35 ?_
              refine rn_iload (by exact dc_Md_fillPart 83 rfl) (by exact rfl) ?_
              refine rn_aload_n (by exact dc_Md_fillPart 84 rfl) (by exact rfl) ?_
              refine rn_getf (v := .ref 61) fd_Md_32 (by exact dc_Md_fillPart 85 rfl) (by exact rfl) (by exact rfl) ?_
              refine rn_iload (by exact dc_Md_fillPart 86 rfl) (by exact rfl) ?_
              obtain ⟨x36, e37, h38⟩ := rn_bind h34
              clear h34
              refine rn_iaload (by exact dc_Md_fillPart 87 rfl) (by exact rfl) e37 ?_
              refine rn_iadd (by exact dc_Md_fillPart 88 rfl) ?_
              refine rn_goto 163 (by exact dc_Md_fillPart 89 rfl) (by exact rfl) ?_
              cases h38
              exact rn_weak _ (by repeat (first | exact rn_le_0 | apply rn_le_s | apply rn_le_x)) jq25
def F_Md_fillPart_L53 (l1 : Int32) (l2 : Int32) (l3 : Int32) : Nat → tM → Int32 → Option tM
  | 0, _, _ => none
  | n + 1, m, l4 =>
    if (M_symbols m) ≤ l4 then (
      some m
    ) else (
      Option.bind (F_Md_fillPart_L71 l1 l2 l3 l4 rn_fu m (0 : Int64) (-1 : Int32) (0 : Int32)) fun (y5, y6, m7) =>
      Option.bind (F_Md_cell  l4 l1 l2) fun x9 =>
      Option.bind (aS (M_sums m7) 486 x9 y5) fun f11 =>
      Option.bind (F_Md_cell  l4 l1 l2) fun x15 =>
      Option.bind (aS (M_least (M_put_sums m7 f11)) 486 x15 y6) fun f17 =>
      F_Md_fillPart_L53 l1 l2 l3 n (M_put_least (M_put_sums m7 f11) f17) (l4 + 1)
    )
set_option maxHeartbeats 4000000 in
set_option maxRecDepth 100000 in
theorem p_Md_fillPart_L53 {Z : rn_Z} {g1 g2 : Nat} {x : tX} {d : tD} {c : tC} {u : tU} {t : tT} {a : tG} {b : tG}  {o : tO} {E : List rn_C}  {l1 : Int32} {l2 : Int32} {l3 : Int32} {K : rn_K} {ca sa : Nat} {mz : tM} (hx : Rn Z M_Md_fillPart 205 [some (.ref 53), some (.int l1), some (.int l2), some (.int l3), none, none, none, none, none, none] [] (emb g1 g2 x d c u t a b mz o E) ca sa K) (n : Nat) : ∀ (m : tM) (l4 : Int32), F_Md_fillPart_L53 l1 l2 l3 n m l4 = some mz → Rn Z M_Md_fillPart 53 [some (.ref 53), some (.int l1), some (.int l2), some (.int l3), some (.int l4), none, none, none, none, none] [] (emb g1 g2 x d c u t a b m o E) ca sa K := by
  induction n with
  | zero =>
    intro m l4 h
    rw [F_Md_fillPart_L53] at h
    cases h
  | succ n ih =>
    intro m l4 h
    rw [F_Md_fillPart_L53] at h
    refine rn_iload (by exact dc_Md_fillPart 32 rfl) (by exact rfl) ?_
    refine rn_aload_n (by exact dc_Md_fillPart 33 rfl) (by exact rfl) ?_
    refine rn_getf (v := .int (M_symbols m)) fd_Md_99 (by exact dc_Md_fillPart 34 rfl) (by exact rfl) (by exact rfl) ?_
    by_cases c1 : (M_symbols m) ≤ l4
    · replace h := rn_ifp c1 h
      refine rn_icmp_ge_t 205 (by exact dc_Md_fillPart 35 rfl) (by exact rfl) c1 ?_
      cases h
      exact rn_weak _ (by repeat (first | exact rn_le_0 | apply rn_le_s | apply rn_le_x)) hx
    · replace h := rn_ifn c1 h
      refine rn_icmp_ge_f 205 (by exact dc_Md_fillPart 35 rfl) (by exact rfl) c1 ?_
      refine rn_lconst (v := (0 : Int64)) (by exact dc_Md_fillPart 36 rfl) (by decide) ?_
      refine rn_lstore (ls' := [some (.ref 53), some (.int l1), some (.int l2), some (.int l3), some (.int l4), some (.long (0 : Int64)), none, none, none, none]) (by exact dc_Md_fillPart 37 rfl) (by decide) (by exact rfl) ?_
      refine rn_iconst (v := (-1 : Int32)) (by exact dc_Md_fillPart 38 rfl) (by decide) ?_
      refine rn_istore (ls' := [some (.ref 53), some (.int l1), some (.int l2), some (.int l3), some (.int l4), some (.long (0 : Int64)), none, some (.int (-1 : Int32)), none, none]) (by exact dc_Md_fillPart 39 rfl) (by decide) (by exact rfl) ?_
      refine rn_iconst (v := (0 : Int32)) (by exact dc_Md_fillPart 40 rfl) (by decide) ?_
      refine rn_istore (ls' := [some (.ref 53), some (.int l1), some (.int l2), some (.int l3), some (.int l4), some (.long (0 : Int64)), none, some (.int (-1 : Int32)), some (.int (0 : Int32)), none]) (by exact dc_Md_fillPart 41 rfl) (by decide) (by exact rfl) ?_
      obtain ⟨⟨y5, y6, m7⟩, e2, h4⟩ := rn_bind h
      clear h
      dsimp only at h4
      have jx3 : Rn Z M_Md_fillPart 171 [some (.ref 53), some (.int l1), some (.int l2), some (.int l3), some (.int l4), some (.long y5), none, some (.int y6), none, none] [] (emb g1 g2 x d c u t a b m7 o E) ca sa K := by
        refine rn_aload_n (by exact dc_Md_fillPart 94 rfl) (by exact rfl) ?_
        refine rn_getf (v := .ref 66) fd_Md_47 (by exact dc_Md_fillPart 95 rfl) (by exact rfl) (by exact rfl) ?_
        refine rn_iload (by exact dc_Md_fillPart 96 rfl) (by exact rfl) ?_
        refine rn_iload_n (by exact dc_Md_fillPart 97 rfl) (by exact rfl) ?_
        refine rn_iload_n (by exact dc_Md_fillPart 98 rfl) (by exact rfl) ?_
        obtain ⟨x9, e8, h10⟩ := rn_bind h4
        clear h4
        refine rn_invS0 (by exact c_Md_cell e8) is_Md_181 (by exact ⟨Nat.le_of_ble_eq_true rfl, Nat.le_of_ble_eq_true rfl⟩) (by exact dc_Md_fillPart 99 rfl) (by exact rfl) (by exact rfl) (by exact Nat.le_of_ble_eq_true rfl) ?_
        show Rn _ _ 182 [some (.ref 53), some (.int l1), some (.int l2), some (.int l3), some (.int l4), some (.long y5), none, some (.int y6), none, none] [.int x9, .ref 66] (emb g1 g2 x d c u t a b m7 o E) _ _ _
        refine rn_lload (by exact dc_Md_fillPart 100 rfl) (by exact rfl) ?_
        obtain ⟨f11, e12, h13⟩ := rn_bind h10
        clear h10
        refine rn_lastore (w2 := (emb g1 g2 x d c u t a b (M_put_sums m7 f11) o E)) (by exact dc_Md_fillPart 101 rfl) (by exact rfl) e12 (by exact sm_sums) ?_
        refine rn_aload_n (by exact dc_Md_fillPart 102 rfl) (by exact rfl) ?_
        refine rn_getf (v := .ref 67) fd_Md_50 (by exact dc_Md_fillPart 103 rfl) (by exact rfl) (by exact rfl) ?_
        refine rn_iload (by exact dc_Md_fillPart 104 rfl) (by exact rfl) ?_
        refine rn_iload_n (by exact dc_Md_fillPart 105 rfl) (by exact rfl) ?_
        refine rn_iload_n (by exact dc_Md_fillPart 106 rfl) (by exact rfl) ?_
        obtain ⟨x15, e14, h16⟩ := rn_bind h13
        clear h13
        refine rn_invS0 (by exact c_Md_cell e14) is_Md_181 (by exact ⟨Nat.le_of_ble_eq_true rfl, Nat.le_of_ble_eq_true rfl⟩) (by exact dc_Md_fillPart 107 rfl) (by exact rfl) (by exact rfl) (by exact Nat.le_of_ble_eq_true rfl) ?_
        show Rn _ _ 196 [some (.ref 53), some (.int l1), some (.int l2), some (.int l3), some (.int l4), some (.long y5), none, some (.int y6), none, none] [.int x15, .ref 67] (emb g1 g2 x d c u t a b (M_put_sums m7 f11) o E) _ _ _
        refine rn_iload (by exact dc_Md_fillPart 108 rfl) (by exact rfl) ?_
        obtain ⟨f17, e18, h19⟩ := rn_bind h16
        clear h16
        refine rn_iastore (w2 := (emb g1 g2 x d c u t a b (M_put_least (M_put_sums m7 f11) f17) o E)) (by exact dc_Md_fillPart 109 rfl) (by exact rfl) e18 (by exact sm_least) ?_
        refine rn_iinc (ls' := [some (.ref 53), some (.int l1), some (.int l2), some (.int l3), some (.int (l4 + 1)), some (.long y5), none, some (.int y6), none, none]) (by exact dc_Md_fillPart 110 rfl) (by decide) (by exact rfl) (by exact rn_inc_1 _) (by exact rfl) ?_
        refine rn_goto 53 (by exact dc_Md_fillPart 111 rfl) (by exact rfl) ?_
        exact rn_weak _ (by repeat (first | exact rn_le_0 | apply rn_le_s | apply rn_le_x)) (ih _ _ h19)
      exact rn_weak _ (by repeat (first | exact rn_le_0 | apply rn_le_s | apply rn_le_x)) (p_Md_fillPart_L71 jx3 _ _ _ _ _ e2)
def F_Md_fillPart_L42 (l1 : Int32) (l2 : Int32) : Nat → tM → Int32 → Option tM
  | 0, _, _ => none
  | n + 1, m, l3 =>
    if (M_symbols m) < l3 then (
      some m
    ) else (
      Option.bind (F_Md_fillPart_L53 l1 l2 l3 rn_fu m (0 : Int32)) fun m5 =>
      F_Md_fillPart_L42 l1 l2 n m5 (l3 + 1)
    )
set_option maxHeartbeats 4000000 in
set_option maxRecDepth 100000 in
theorem p_Md_fillPart_L42 {Z : rn_Z} {g1 g2 : Nat} {x : tX} {d : tD} {c : tC} {u : tU} {t : tT} {a : tG} {b : tG}  {o : tO} {E : List rn_C}  {l1 : Int32} {l2 : Int32} {K : rn_K} {ca sa : Nat} {mz : tM} (hx : Rn Z M_Md_fillPart 211 [none, none, none, none, none, none, none, none, none, none] [] (emb g1 g2 x d c u t a b mz o E) ca sa K) (n : Nat) : ∀ (m : tM) (l3 : Int32), F_Md_fillPart_L42 l1 l2 n m l3 = some mz → Rn Z M_Md_fillPart 42 [some (.ref 53), some (.int l1), some (.int l2), some (.int l3), none, none, none, none, none, none] [] (emb g1 g2 x d c u t a b m o E) ca sa K := by
  induction n with
  | zero =>
    intro m l3 h
    rw [F_Md_fillPart_L42] at h
    cases h
  | succ n ih =>
    intro m l3 h
    rw [F_Md_fillPart_L42] at h
    refine rn_iload_n (by exact dc_Md_fillPart 26 rfl) (by exact rfl) ?_
    refine rn_aload_n (by exact dc_Md_fillPart 27 rfl) (by exact rfl) ?_
    refine rn_getf (v := .int (M_symbols m)) fd_Md_99 (by exact dc_Md_fillPart 28 rfl) (by exact rfl) (by exact rfl) ?_
    by_cases c1 : (M_symbols m) < l3
    · replace h := rn_ifp c1 h
      refine rn_icmp_gt_t 211 (by exact dc_Md_fillPart 29 rfl) (by exact rfl) c1 ?_
      cases h
      exact rn_weak _ (by repeat (first | exact rn_le_0 | apply rn_le_s | apply rn_le_x)) hx
    · replace h := rn_ifn c1 h
      refine rn_icmp_gt_f 211 (by exact dc_Md_fillPart 29 rfl) (by exact rfl) c1 ?_
      refine rn_iconst (v := (0 : Int32)) (by exact dc_Md_fillPart 30 rfl) (by decide) ?_
      refine rn_istore (ls' := [some (.ref 53), some (.int l1), some (.int l2), some (.int l3), some (.int (0 : Int32)), none, none, none, none, none]) (by exact dc_Md_fillPart 31 rfl) (by decide) (by exact rfl) ?_
      obtain ⟨m5, e2, h4⟩ := rn_bind h
      clear h
      have jx3 : Rn Z M_Md_fillPart 205 [some (.ref 53), some (.int l1), some (.int l2), some (.int l3), none, none, none, none, none, none] [] (emb g1 g2 x d c u t a b m5 o E) ca sa K := by
        refine rn_iinc (ls' := [some (.ref 53), some (.int l1), some (.int l2), some (.int (l3 + 1)), none, none, none, none, none, none]) (by exact dc_Md_fillPart 112 rfl) (by decide) (by exact rfl) (by exact rn_inc_1 _) (by exact rfl) ?_
        refine rn_goto 42 (by exact dc_Md_fillPart 113 rfl) (by exact rfl) ?_
        exact rn_weak _ (by repeat (first | exact rn_le_0 | apply rn_le_s | apply rn_le_x)) (ih _ _ h4)
      exact rn_weak _ (by repeat (first | exact rn_le_0 | apply rn_le_s | apply rn_le_x)) (p_Md_fillPart_L53 jx3 _ _ _ e2)
def F_Md_fillPart (m : tM) (v0 : Int32) (v1 : Int32) : Option tM :=
  Option.bind (F_Md_fillPart_L2 v0 v1 rn_fu m (0 : Int32)) fun m4 =>
  Option.bind (F_Md_fillPart_L42 v0 v1 rn_fu m4 (0 : Int32)) fun m8 =>
  some m8
set_option maxHeartbeats 4000000 in
set_option maxRecDepth 100000 in
theorem c_Md_fillPart {Z : rn_Z} {g1 g2 : Nat} {x : tX} {d : tD} {c : tC} {u : tU} {t : tT} {a : tG} {b : tG} {m : tM} {o : tO} {E : List rn_C} {v0 : Int32} {v1 : Int32} {m_r : tM} (h : F_Md_fillPart m v0 v1 = some m_r) : Call Z M_Md_fillPart [.ref 53, .int v0, .int v1] (emb g1 g2 x d c u t a b m o E) 0 0 none (emb g1 g2 x d c u t a b m_r o E) := by
  unfold F_Md_fillPart at h
  refine rn_call (by decide) 7 (by exact Nat.le_of_ble_eq_true rfl) ?_
  show Rn Z M_Md_fillPart 0 [some (.ref 53), some (.int v0), some (.int v1), none, none, none, none, none, none, none] [] (emb g1 g2 x d c u t a b m o E) 0 0 _
  refine rn_iconst (v := (0 : Int32)) (by exact dc_Md_fillPart 0 rfl) (by decide) ?_
  refine rn_istore_n (ls' := [some (.ref 53), some (.int v0), some (.int v1), some (.int (0 : Int32)), none, none, none, none, none, none]) (by exact dc_Md_fillPart 1 rfl) (by decide) (by exact rfl) ?_
  obtain ⟨m4, e1, h3⟩ := rn_bind h
  clear h
  have jx2 : Rn Z M_Md_fillPart 40 [some (.ref 53), some (.int v0), some (.int v1), none, none, none, none, none, none, none] [] (emb g1 g2 x d c u t a b m4 o E) 0 0 (rn_Ret Z none (emb g1 g2 x d c u t a b m_r o E)) := by
    refine rn_iconst (v := (0 : Int32)) (by exact dc_Md_fillPart 24 rfl) (by decide) ?_
    refine rn_istore_n (ls' := [some (.ref 53), some (.int v0), some (.int v1), some (.int (0 : Int32)), none, none, none, none, none, none]) (by exact dc_Md_fillPart 25 rfl) (by decide) (by exact rfl) ?_
    obtain ⟨m8, e5, h7⟩ := rn_bind h3
    clear h3
    have jx6 : Rn Z M_Md_fillPart 211 [none, none, none, none, none, none, none, none, none, none] [] (emb g1 g2 x d c u t a b m8 o E) 0 0 (rn_Ret Z none (emb g1 g2 x d c u t a b m_r o E)) := by
      cases h7
      exact rn_return (by exact dc_Md_fillPart 114 rfl) (by exact rfl)
    exact rn_weak _ (by repeat (first | exact rn_le_0 | apply rn_le_s | apply rn_le_x)) (p_Md_fillPart_L42 jx6 _ _ _ e5)
  exact rn_weak _ (by repeat (first | exact rn_le_0 | apply rn_le_s | apply rn_le_x)) (p_Md_fillPart_L2 jx2 _ _ _ e1)
