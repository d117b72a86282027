def F_Md_fillEmpty_L2  : Nat → tM → Int32 → Option tM
  | 0, _, _ => none
  | n + 1, m, l1 =>
    if (6 : Int32) ≤ l1 then (
      some m
    ) else (
      Option.bind (aS (M_emptySum m) 6 l1 (0 : Int64)) fun f2 =>
      Option.bind (aS (M_emptyCost (M_put_emptySum m f2)) 6 l1 (-1 : Int32)) fun f5 =>
      F_Md_fillEmpty_L2  n (M_put_emptyCost (M_put_emptySum m f2) f5) (l1 + 1)
    )
set_option maxHeartbeats 4000000 in
set_option maxRecDepth 100000 in
theorem p_Md_fillEmpty_L2 {Z : rn_Z} {g1 g2 : Nat} {x : tX} {d : tD} {c : tC} {u : tU} {t : tT} {a : tG} {b : tG}  {o : tO} {E : List rn_C}   {K : rn_K} {ca sa : Nat} {mz : tM} (hx : Rn Z M_Md_fillEmpty 28 [some (.ref 53), none, none, none, none, none, none, none] [] (emb g1 g2 x d c u t a b mz o E) ca sa K) (n : Nat) : ∀ (m : tM) (l1 : Int32), F_Md_fillEmpty_L2  n m l1 = some mz → Rn Z M_Md_fillEmpty 2 [some (.ref 53), some (.int l1), none, none, none, none, none, none] [] (emb g1 g2 x d c u t a b m o E) ca sa K := by
  induction n with
  | zero =>
    intro m l1 h
    rw [F_Md_fillEmpty_L2] at h
    cases h
  | succ n ih =>
    intro m l1 h
    rw [F_Md_fillEmpty_L2] at h
    refine rn_iload_n (by exact dc_Md_fillEmpty 2 rfl) (by exact rfl) ?_
    refine rn_bipush (v := (6 : Int32)) (by exact dc_Md_fillEmpty 3 rfl) (by decide) ?_
    by_cases c1 : (6 : Int32) ≤ l1
    · replace h := rn_ifp c1 h
      refine rn_icmp_ge_t 28 (by exact dc_Md_fillEmpty 4 rfl) (by exact rfl) c1 ?_
      cases h
      exact rn_weak _ (by repeat (first | exact rn_le_0 | apply rn_le_s | apply rn_le_x)) hx
    · replace h := rn_ifn c1 h
      refine rn_icmp_ge_f 28 (by exact dc_Md_fillEmpty 4 rfl) (by exact rfl) c1 ?_
      refine rn_aload_n (by exact dc_Md_fillEmpty 5 rfl) (by exact rfl) ?_
      refine rn_getf (v := .ref 64) fd_Md_41 (by exact dc_Md_fillEmpty 6 rfl) (by exact rfl) (by exact rfl) ?_
      refine rn_iload_n (by exact dc_Md_fillEmpty 7 rfl) (by exact rfl) ?_
      refine rn_lconst (v := (0 : Int64)) (by exact dc_Md_fillEmpty 8 rfl) (by decide) ?_
      obtain ⟨f2, e3, h4⟩ := rn_bind h
      clear h
      refine rn_lastore (w2 := (emb g1 g2 x d c u t a b (M_put_emptySum m f2) o E)) (by exact dc_Md_fillEmpty 9 rfl) (by exact rfl) e3 (by exact sm_emptySum) ?_
      refine rn_aload_n (by exact dc_Md_fillEmpty 10 rfl) (by exact rfl) ?_
      refine rn_getf (v := .ref 65) fd_Md_44 (by exact dc_Md_fillEmpty 11 rfl) (by exact rfl) (by exact rfl) ?_
      refine rn_iload_n (by exact dc_Md_fillEmpty 12 rfl) (by exact rfl) ?_
      refine rn_iconst (v := (-1 : Int32)) (by exact dc_Md_fillEmpty 13 rfl) (by decide) ?_
      obtain ⟨f5, e6, h7⟩ := rn_bind h4
      clear h4
      refine rn_iastore (w2 := (emb g1 g2 x d c u t a b (M_put_emptyCost (M_put_emptySum m f2) f5) o E)) (by exact dc_Md_fillEmpty 14 rfl) (by exact rfl) e6 (by exact sm_emptyCost) ?_
      refine rn_iinc (ls' := [some (.ref 53), some (.int (l1 + 1)), none, none, none, none, none, none]) (by exact dc_Md_fillEmpty 15 rfl) (by decide) (by exact rfl) (by exact rn_inc_1 _) (by exact rfl) ?_
      refine rn_goto 2 (by exact dc_Md_fillEmpty 16 rfl) (by exact rfl) ?_
      exact rn_weak _ (by repeat (first | exact rn_le_0 | apply rn_le_s | apply rn_le_x)) (ih _ _ h7)
def F_Md_fillEmpty_L56 (m : tM) (l1 : Int32) (l2 : Int32) : Nat → Int64 → Int32 → Int32 → Option (Int64 × Int32)
  | 0, _, _, _ => none
  | n + 1, l3, l5, l6 =>
    if (M_rules m) ≤ l6 then (
      some (l3, l5)
    ) else (
      Option.bind (aG (M_heads m) 12 l6) fun x2 =>
      Option.bind (
        if ¬ x2 = l2 then (
          some ((l3 : Int64), (l5 : Int32))
        ) else (
          Option.bind (aG (M_weights m) 12 l6) fun x11 =>
          Option.bind (F_Md_emptyBody m l6 (-1 : Int32)) fun x15 =>
          Option.bind (F_Md_emptyBodyCost m l6 (-1 : Int32)) fun x18 =>
          Option.bind (
            if x18 < 0 then (
              some (l5 : Int32)
            ) else (
              if l5 < 0 then (
                Option.bind (aG (M_costs m) 12 l6) fun x26 =>
                some (x18 + x26 : Int32)
              ) else (
                Option.bind (aG (M_costs m) 12 l6) fun x29 =>
                if l5 ≤ (x18 + x29) then (
                  some (l5 : Int32)
                ) else (
                  Option.bind (aG (M_costs m) 12 l6) fun x33 =>
                  some (x18 + x33 : Int32)
                )
              )
            )
           : Option Int32) fun y20 =>
          some ((l3 + (x11 * x15) : Int64), (y20 : Int32))
        )
       : Option (Int64 × Int32)) fun (y5, y6) =>
      F_Md_fillEmpty_L56 m l1 l2 n y5 y6 (l6 + 1)
    )
set_option maxHeartbeats 4000000 in
set_option maxRecDepth 100000 in
theorem p_Md_fillEmpty_L56 {Z : rn_Z} {g1 g2 : Nat} {x : tX} {d : tD} {c : tC} {u : tU} {t : tT} {a : tG} {b : tG} {m : tM} {o : tO} {E : List rn_C}  {l1 : Int32} {l2 : Int32} {K : rn_K} {ca sa : Nat} {z3 : Int64} {z5 : Int32} (hx : Rn Z M_Md_fillEmpty 151 [some (.ref 53), some (.int l1), some (.int l2), some (.long z3), none, some (.int z5), none, none] [] (emb g1 g2 x d c u t a b m o E) ca sa K) (n : Nat) : ∀ (l3 : Int64) (l5 : Int32) (l6 : Int32), F_Md_fillEmpty_L56 m l1 l2 n l3 l5 l6 = some (z3, z5) → Rn Z M_Md_fillEmpty 56 [some (.ref 53), some (.int l1), some (.int l2), some (.long l3), none, some (.int l5), some (.int l6), none] [] (emb g1 g2 x d c u t a b m o E) ca sa K := by
  induction n with
  | zero =>
    intro l3 l5 l6 h
    rw [F_Md_fillEmpty_L56] at h
    cases h
  | succ n ih =>
    intro l3 l5 l6 h
    rw [F_Md_fillEmpty_L56] at h
    refine rn_iload (by exact dc_Md_fillEmpty 35 rfl) (by exact rfl) ?_
    refine rn_aload_n (by exact dc_Md_fillEmpty 36 rfl) (by exact rfl) ?_
    refine rn_getf (v := .int (M_rules m)) fd_Md_115 (by exact dc_Md_fillEmpty 37 rfl) (by exact rfl) (by exact rfl) ?_
    by_cases c1 : (M_rules m) ≤ l6
    · replace h := rn_ifp c1 h
      refine rn_icmp_ge_t 151 (by exact dc_Md_fillEmpty 38 rfl) (by exact rfl) c1 ?_
      cases h
      exact rn_weak _ (by repeat (first | exact rn_le_0 | apply rn_le_s | apply rn_le_x)) hx
    · replace h := rn_ifn c1 h
      refine rn_icmp_ge_f 151 (by exact dc_Md_fillEmpty 38 rfl) (by exact rfl) c1 ?_
      refine rn_aload_n (by exact dc_Md_fillEmpty 39 rfl) (by exact rfl) ?_
      refine rn_getf (v := .ref 57) fd_Md_19 (by exact dc_Md_fillEmpty 40 rfl) (by exact rfl) (by exact rfl) ?_
      refine rn_iload (by exact dc_Md_fillEmpty 41 rfl) (by exact rfl) ?_
      obtain ⟨x2, e3, h4⟩ := rn_bind h
      clear h
      refine rn_iaload (by exact dc_Md_fillEmpty 42 rfl) (by exact rfl) e3 ?_
      refine rn_iload_n (by exact dc_Md_fillEmpty 43 rfl) (by exact rfl) ?_
      obtain ⟨⟨y5, y6⟩, e7, h9⟩ := rn_bind h4
      clear h4
      dsimp only at h9
      have jq8 : Rn Z M_Md_fillEmpty 145 [some (.ref 53), some (.int l1), some (.int l2), some (.long y5), none, some (.int y6), some (.int l6), none] [] (emb g1 g2 x d c u t a b m o E) ca sa K := by
        refine rn_iinc (ls' := [some (.ref 53), some (.int l1), some (.int l2), some (.long y5), none, some (.int y6), some (.int (l6 + 1)), none]) (by exact dc_Md_fillEmpty 83 rfl) (by decide) (by exact rfl) (by exact rn_inc_1 _) (by exact rfl) ?_
        refine rn_goto 56 (by exact dc_Md_fillEmpty 84 rfl) (by exact rfl) ?_
        exact rn_weak _ (by repeat (first | exact rn_le_0 | apply rn_le_s | apply rn_le_x)) (ih _ _ _ h9)
      by_cases c10 : ¬ x2 = l2
      · replace e7 := rn_ifp c10 e7
        refine rn_icmp_ne_t 145 (by exact dc_Md_fillEmpty 44 rfl) (by exact rfl) c10 ?_
        cases e7
        exact rn_weak _ (by repeat (first | exact rn_le_0 | apply rn_le_s | apply rn_le_x)) jq8
      · replace e7 := rn_ifn c10 e7
        refine rn_icmp_ne_f 145 (by exact dc_Md_fillEmpty 44 rfl) (by exact rfl) (Classical.not_not.mp c10) ?_
        refine rn_lload_n (by exact dc_Md_fillEmpty 45 rfl) (by exact rfl) ?_
        refine rn_aload_n (by exact dc_Md_fillEmpty 46 rfl) (by exact rfl) ?_
        refine rn_getf (v := .ref 60) fd_Md_28 (by exact dc_Md_fillEmpty 47 rfl) (by exact rfl) (by exact rfl) ?_
        refine rn_iload (by exact dc_Md_fillEmpty 48 rfl) (by exact rfl) ?_
        obtain ⟨x11, e12, h13⟩ := rn_bind e7
        clear e7
        refine rn_laload (by exact dc_Md_fillEmpty 49 rfl) (by exact rfl) e12 ?_
        refine rn_aload_n (by exact dc_Md_fillEmpty 50 rfl) (by exact rfl) ?_
        refine rn_iload (by exact dc_Md_fillEmpty 51 rfl) (by exact rfl) ?_
        refine rn_iconst (v := (-1 : Int32)) (by exact dc_Md_fillEmpty 52 rfl) (by decide) ?_
        obtain ⟨x15, e14, h16⟩ := rn_bind h13
        clear h13
        refine rn_invV0 (by exact c_Md_emptyBody e14) iv_Md_146 (by exact ⟨Nat.le_of_ble_eq_true rfl, Nat.le_of_ble_eq_true rfl⟩) (by exact dc_Md_fillEmpty 53 rfl) (by exact rfl) (by exact rfl) (by exact rfl) (by exact Nat.le_of_ble_eq_true rfl) ?_
        show Rn _ _ 91 [some (.ref 53), some (.int l1), some (.int l2), some (.long l3), none, some (.int l5), some (.int l6), none] [.long x15, .long x11, .long l3] (emb g1 g2 x d c u t a b m o E) _ _ _
        refine rn_lmul (by exact dc_Md_fillEmpty 54 rfl) ?_
        refine rn_ladd (by exact dc_Md_fillEmpty 55 rfl) ?_
        refine rn_lstore_n (ls' := [some (.ref 53), some (.int l1), some (.int l2), some (.long (l3 + (x11 * x15))), none, some (.int l5), some (.int l6), none]) (by exact dc_Md_fillEmpty 56 rfl) (by decide) (by exact rfl) ?_
        refine rn_aload_n (by exact dc_Md_fillEmpty 57 rfl) (by exact rfl) ?_
        refine rn_iload (by exact dc_Md_fillEmpty 58 rfl) (by exact rfl) ?_
        refine rn_iconst (v := (-1 : Int32)) (by exact dc_Md_fillEmpty 59 rfl) (by decide) ?_
        obtain ⟨x18, e17, h19⟩ := rn_bind h16
        clear h16
        refine rn_invV0 (by exact c_Md_emptyBodyCost e17) iv_Md_137 (by exact ⟨Nat.le_of_ble_eq_true rfl, Nat.le_of_ble_eq_true rfl⟩) (by exact dc_Md_fillEmpty 60 rfl) (by exact rfl) (by exact rfl) (by exact rfl) (by exact Nat.le_of_ble_eq_true rfl) ?_
        show Rn _ _ 101 [some (.ref 53), some (.int l1), some (.int l2), some (.long (l3 + (x11 * x15))), none, some (.int l5), some (.int l6), none] [.int x18] (emb g1 g2 x d c u t a b m o E) _ _ _
        refine rn_istore (ls' := [some (.ref 53), some (.int l1), some (.int l2), some (.long (l3 + (x11 * x15))), none, some (.int l5), some (.int l6), some (.int x18)]) (by exact dc_Md_fillEmpty 61 rfl) (by decide) (by exact rfl) ?_
        refine rn_iload (by exact dc_Md_fillEmpty 62 rfl) (by exact rfl) ?_
        obtain ⟨y20, e21, h23⟩ := rn_bind h19
        clear h19
        have jq22 : Rn Z M_Md_fillEmpty 143 [some (.ref 53), some (.int l1), some (.int l2), some (.long (l3 + (x11 * x15))), none, none, some (.int l6), none] [.int y20] (emb g1 g2 x d c u t a b m o E) ca sa K := by
          refine rn_istore (ls' := [some (.ref 53), some (.int l1), some (.int l2), some (.long (l3 + (x11 * x15))), none, some (.int y20), some (.int l6), none]) (by exact dc_Md_fillEmpty 82 rfl) (by decide) (by exact rfl) ?_
          cases h23
          exact rn_weak _ (by repeat (first | exact rn_le_0 | apply rn_le_s | apply rn_le_x)) jq8
        by_cases c24 : x18 < 0
        · replace e21 := rn_ifp c24 e21
          refine rn_if_lt_t 141 (by exact dc_Md_fillEmpty 63 rfl) (by exact rfl) c24 ?_
          refine rn_iload (by exact dc_Md_fillEmpty 81 rfl) (by exact rfl) ?_
          cases e21
          exact rn_weak _ (by repeat (first | exact rn_le_0 | apply rn_le_s | apply rn_le_x)) jq22
        · replace e21 := rn_ifn c24 e21
          refine rn_if_lt_f 141 (by exact dc_Md_fillEmpty 63 rfl) (by exact rfl) c24 ?_
          refine rn_iload (by exact dc_Md_fillEmpty 64 rfl) (by exact rfl) ?_
          by_cases c25 : l5 < 0
          · replace e21 := rn_ifp c25 e21
            refine rn_if_lt_t 128 (by exact dc_Md_fillEmpty 65 rfl) (by exact rfl) c25 ?_
            refine rn_iload (by exact dc_Md_fillEmpty 74 rfl) (by exact rfl) ?_
            refine rn_aload_n (by exact dc_Md_fillEmpty 75 rfl) (by exact rfl) ?_
            refine rn_getf (v := .ref 61) fd_Md_32 (by exact dc_Md_fillEmpty 76 rfl) (by exact rfl) (by exact rfl) ?_
            refine rn_iload (by exact dc_Md_fillEmpty 77 rfl) (by exact rfl) ?_
            obtain ⟨x26, e27, h28⟩ := rn_bind e21
            clear e21
            refine rn_iaload (by exact dc_Md_fillEmpty 78 rfl) (by exact rfl) e27 ?_
            refine rn_iadd (by exact dc_Md_fillEmpty 79 rfl) ?_
            refine rn_goto 143 (by exact dc_Md_fillEmpty 80 rfl) (by exact rfl) ?_
            cases h28
            exact rn_weak _ (by repeat (first | exact rn_le_0 | apply rn_le_s | apply rn_le_x)) jq22
          · replace e21 := rn_ifn c25 e21
            refine rn_if_lt_f 128 (by exact dc_Md_fillEmpty 65 rfl) (by exact rfl) c25 ?_
            refine rn_iload (by exact dc_Md_fillEmpty 66 rfl) (by exact rfl) ?_
            refine rn_aload_n (by exact dc_Md_fillEmpty 67 rfl) (by exact rfl) ?_
            refine rn_getf (v := .ref 61) fd_Md_32 (by exact dc_Md_fillEmpty 68 rfl) (by exact rfl) (by exact rfl) ?_
            refine rn_iload (by exact dc_Md_fillEmpty 69 rfl) (by exact rfl) ?_
            obtain ⟨x29, e30, h31⟩ := rn_bind e21
            clear e21
            refine rn_iaload (by exact dc_Md_fillEmpty 70 rfl) (by exact rfl) e30 ?_
            refine rn_iadd (by exact dc_Md_fillEmpty 71 rfl) ?_
            refine rn_iload (by exact dc_Md_fillEmpty 72 rfl) (by exact rfl) ?_
            by_cases c32 : l5 ≤ (x18 + x29)
            · replace h31 := rn_ifp c32 h31
              refine rn_icmp_ge_t 141 (by exact dc_Md_fillEmpty 73 rfl) (by exact rfl) c32 ?_
              refine rn_iload (by exact dc_Md_fillEmpty 81 rfl) (by exact rfl) ?_
              cases h31
              exact rn_weak _ (by repeat (first | exact rn_le_0 | apply rn_le_s | apply rn_le_x)) jq22
            · replace h31 := rn_ifn c32 h31
              refine rn_icmp_ge_f 141 (by exact dc_Md_fillEmpty 73 rfl) (by exact rfl) c32 ?_
              refine rn_iload (by exact dc_Md_fillEmpty 74 rfl) (by exact rfl) ?_
              refine rn_aload_n (by exact dc_Md_fillEmpty 75 rfl) (by exact rfl) ?_
              refine rn_getf (v := .ref 61) fd_Md_32 (by exact dc_Md_fillEmpty 76 rfl) (by exact rfl) (by exact rfl) ?_
              refine rn_iload (by exact dc_Md_fillEmpty 77 rfl) (by exact rfl) ?_
              obtain ⟨x33, e34, h35⟩ := rn_bind h31
              clear h31
              refine rn_iaload (by exact dc_Md_fillEmpty 78 rfl) (by exact rfl) e34 ?_
              refine rn_iadd (by exact dc_Md_fillEmpty 79 rfl) ?_
              refine rn_goto 143 (by exact dc_Md_fillEmpty 80 rfl) (by exact rfl) ?_
              cases h35
              exact rn_weak _ (by repeat (first | exact rn_le_0 | apply rn_le_s | apply rn_le_x)) jq22
def F_Md_fillEmpty_L40 (l1 : Int32) : Nat → tM → Int32 → Option tM
  | 0, _, _ => none
  | n + 1, m, l2 =>
    if (M_symbols m) ≤ l2 then (
      some m
    ) else (
      Option.bind (F_Md_fillEmpty_L56 m l1 l2 rn_fu (0 : Int64) (-1 : Int32) (0 : Int32)) fun (y5, y6) =>
      Option.bind (aS (M_emptySum m) 6 l2 y5) fun f7 =>
      Option.bind (aS (M_emptyCost (M_put_emptySum m f7)) 6 l2 y6) fun f10 =>
      F_Md_fillEmpty_L40 l1 n (M_put_emptyCost (M_put_emptySum m f7) f10) (l2 + 1)
    )
set_option maxHeartbeats 4000000 in
set_option maxRecDepth 100000 in
theorem p_Md_fillEmpty_L40 {Z : rn_Z} {g1 g2 : Nat} {x : tX} {d : tD} {c : tC} {u : tU} {t : tT} {a : tG} {b : tG}  {o : tO} {E : List rn_C}  {l1 : Int32} {K : rn_K} {ca sa : Nat} {mz : tM} (hx : Rn Z M_Md_fillEmpty 172 [some (.ref 53), some (.int l1), none, none, none, none, none, none] [] (emb g1 g2 x d c u t a b mz o E) ca sa K) (n : Nat) : ∀ (m : tM) (l2 : Int32), F_Md_fillEmpty_L40 l1 n m l2 = some mz → Rn Z M_Md_fillEmpty 40 [some (.ref 53), some (.int l1), some (.int l2), none, none, none, none, none] [] (emb g1 g2 x d c u t a b m o E) ca sa K := by
  induction n with
  | zero =>
    intro m l2 h
    rw [F_Md_fillEmpty_L40] at h
    cases h
  | succ n ih =>
    intro m l2 h
    rw [F_Md_fillEmpty_L40] at h
    refine rn_iload_n (by exact dc_Md_fillEmpty 25 rfl) (by exact rfl) ?_
    refine rn_aload_n (by exact dc_Md_fillEmpty 26 rfl) (by exact rfl) ?_
    refine rn_getf (v := .int (M_symbols m)) fd_Md_99 (by exact dc_Md_fillEmpty 27 rfl) (by exact rfl) (by exact rfl) ?_
    by_cases c1 : (M_symbols m) ≤ l2
    · replace h := rn_ifp c1 h
      refine rn_icmp_ge_t 172 (by exact dc_Md_fillEmpty 28 rfl) (by exact rfl) c1 ?_
      cases h
      exact rn_weak _ (by repeat (first | exact rn_le_0 | apply rn_le_s | apply rn_le_x)) hx
    · replace h := rn_ifn c1 h
      refine rn_icmp_ge_f 172 (by exact dc_Md_fillEmpty 28 rfl) (by exact rfl) c1 ?_
      refine rn_lconst (v := (0 : Int64)) (by exact dc_Md_fillEmpty 29 rfl) (by decide) ?_
      refine rn_lstore_n (ls' := [some (.ref 53), some (.int l1), some (.int l2), some (.long (0 : Int64)), none, none, none, none]) (by exact dc_Md_fillEmpty 30 rfl) (by decide) (by exact rfl) ?_
      refine rn_iconst (v := (-1 : Int32)) (by exact dc_Md_fillEmpty 31 rfl) (by decide) ?_
      refine rn_istore (ls' := [some (.ref 53), some (.int l1), some (.int l2), some (.long (0 : Int64)), none, some (.int (-1 : Int32)), none, none]) (by exact dc_Md_fillEmpty 32 rfl) (by decide) (by exact rfl) ?_
      refine rn_iconst (v := (0 : Int32)) (by exact dc_Md_fillEmpty 33 rfl) (by decide) ?_
      refine rn_istore (ls' := [some (.ref 53), some (.int l1), some (.int l2), some (.long (0 : Int64)), none, some (.int (-1 : Int32)), some (.int (0 : Int32)), none]) (by exact dc_Md_fillEmpty 34 rfl) (by decide) (by exact rfl) ?_
      obtain ⟨⟨y5, y6⟩, e2, h4⟩ := rn_bind h
      clear h
      dsimp only at h4
      have jx3 : Rn Z M_Md_fillEmpty 151 [some (.ref 53), some (.int l1), some (.int l2), some (.long y5), none, some (.int y6), none, none] [] (emb g1 g2 x d c u t a b m o E) ca sa K := by
        refine rn_aload_n (by exact dc_Md_fillEmpty 85 rfl) (by exact rfl) ?_
        refine rn_getf (v := .ref 64) fd_Md_41 (by exact dc_Md_fillEmpty 86 rfl) (by exact rfl) (by exact rfl) ?_
        refine rn_iload_n (by exact dc_Md_fillEmpty 87 rfl) (by exact rfl) ?_
        refine rn_lload_n (by exact dc_Md_fillEmpty 88 rfl) (by exact rfl) ?_
        obtain ⟨f7, e8, h9⟩ := rn_bind h4
        clear h4
        refine rn_lastore (w2 := (emb g1 g2 x d c u t a b (M_put_emptySum m f7) o E)) (by exact dc_Md_fillEmpty 89 rfl) (by exact rfl) e8 (by exact sm_emptySum) ?_
        refine rn_aload_n (by exact dc_Md_fillEmpty 90 rfl) (by exact rfl) ?_
        refine rn_getf (v := .ref 65) fd_Md_44 (by exact dc_Md_fillEmpty 91 rfl) (by exact rfl) (by exact rfl) ?_
        refine rn_iload_n (by exact dc_Md_fillEmpty 92 rfl) (by exact rfl) ?_
        refine rn_iload (by exact dc_Md_fillEmpty 93 rfl) (by exact rfl) ?_
        obtain ⟨f10, e11, h12⟩ := rn_bind h9
        clear h9
        refine rn_iastore (w2 := (emb g1 g2 x d c u t a b (M_put_emptyCost (M_put_emptySum m f7) f10) o E)) (by exact dc_Md_fillEmpty 94 rfl) (by exact rfl) e11 (by exact sm_emptyCost) ?_
        refine rn_iinc (ls' := [some (.ref 53), some (.int l1), some (.int (l2 + 1)), some (.long y5), none, some (.int y6), none, none]) (by exact dc_Md_fillEmpty 95 rfl) (by decide) (by exact rfl) (by exact rn_inc_1 _) (by exact rfl) ?_
        refine rn_goto 40 (by exact dc_Md_fillEmpty 96 rfl) (by exact rfl) ?_
        exact rn_weak _ (by repeat (first | exact rn_le_0 | apply rn_le_s | apply rn_le_x)) (ih _ _ h12)
      exact rn_weak _ (by repeat (first | exact rn_le_0 | apply rn_le_s | apply rn_le_x)) (p_Md_fillEmpty_L56 jx3 _ _ _ _ e2)
def F_Md_fillEmpty_L30  : Nat → tM → Int32 → Option tM
  | 0, _, _ => none
  | n + 1, m, l1 =>
    if (M_symbols m) < l1 then (
      some m
    ) else (
      Option.bind (F_Md_fillEmpty_L40 l1 rn_fu m (0 : Int32)) fun m5 =>
      F_Md_fillEmpty_L30  n m5 (l1 + 1)
    )
set_option maxHeartbeats 4000000 in
set_option maxRecDepth 100000 in
theorem p_Md_fillEmpty_L30 {Z : rn_Z} {g1 g2 : Nat} {x : tX} {d : tD} {c : tC} {u : tU} {t : tT} {a : tG} {b : tG}  {o : tO} {E : List rn_C}   {K : rn_K} {ca sa : Nat} {mz : tM} (hx : Rn Z M_Md_fillEmpty 178 [none, none, none, none, none, none, none, none] [] (emb g1 g2 x d c u t a b mz o E) ca sa K) (n : Nat) : ∀ (m : tM) (l1 : Int32), F_Md_fillEmpty_L30  n m l1 = some mz → Rn Z M_Md_fillEmpty 30 [some (.ref 53), some (.int l1), none, none, none, none, none, none] [] (emb g1 g2 x d c u t a b m o E) ca sa K := by
  induction n with
  | zero =>
    intro m l1 h
    rw [F_Md_fillEmpty_L30] at h
    cases h
  | succ n ih =>
    intro m l1 h
    rw [F_Md_fillEmpty_L30] at h
    refine rn_iload_n (by exact dc_Md_fillEmpty 19 rfl) (by exact rfl) ?_
    refine rn_aload_n (by exact dc_Md_fillEmpty 20 rfl) (by exact rfl) ?_
    refine rn_getf (v := .int (M_symbols m)) fd_Md_99 (by exact dc_Md_fillEmpty 21 rfl) (by exact rfl) (by exact rfl) ?_
    by_cases c1 : (M_symbols m) < l1
    · replace h := rn_ifp c1 h
      refine rn_icmp_gt_t 178 (by exact dc_Md_fillEmpty 22 rfl) (by exact rfl) c1 ?_
      cases h
      exact rn_weak _ (by repeat (first | exact rn_le_0 | apply rn_le_s | apply rn_le_x)) hx
    · replace h := rn_ifn c1 h
      refine rn_icmp_gt_f 178 (by exact dc_Md_fillEmpty 22 rfl) (by exact rfl) c1 ?_
      refine rn_iconst (v := (0 : Int32)) (by exact dc_Md_fillEmpty 23 rfl) (by decide) ?_
      refine rn_istore_n (ls' := [some (.ref 53), some (.int l1), some (.int (0 : Int32)), none, none, none, none, none]) (by exact dc_Md_fillEmpty 24 rfl) (by decide) (by exact rfl) ?_
      obtain ⟨m5, e2, h4⟩ := rn_bind h
      clear h
      have jx3 : Rn Z M_Md_fillEmpty 172 [some (.ref 53), some (.int l1), none, none, none, none, none, none] [] (emb g1 g2 x d c u t a b m5 o E) ca sa K := by
        refine rn_iinc (ls' := [some (.ref 53), some (.int (l1 + 1)), none, none, none, none, none, none]) (by exact dc_Md_fillEmpty 97 rfl) (by decide) (by exact rfl) (by exact rn_inc_1 _) (by exact rfl) ?_
        refine rn_goto 30 (by exact dc_Md_fillEmpty 98 rfl) (by exact rfl) ?_
        exact rn_weak _ (by repeat (first | exact rn_le_0 | apply rn_le_s | apply rn_le_x)) (ih _ _ h4)
      exact rn_weak _ (by repeat (first | exact rn_le_0 | apply rn_le_s | apply rn_le_x)) (p_Md_fillEmpty_L40 jx3 _ _ _ e2)
def F_Md_fillEmpty (m : tM)  : Option tM :=
  Option.bind (F_Md_fillEmpty_L2  rn_fu m (0 : Int32)) fun m4 =>
  Option.bind (F_Md_fillEmpty_L30  rn_fu m4 (0 : Int32)) fun m8 =>
  some m8
set_option maxHeartbeats 4000000 in
set_option maxRecDepth 100000 in
theorem c_Md_fillEmpty {Z : rn_Z} {g1 g2 : Nat} {x : tX} {d : tD} {c : tC} {u : tU} {t : tT} {a : tG} {b : tG} {m : tM} {o : tO} {E : List rn_C}  {m_r : tM} (h : F_Md_fillEmpty m  = some m_r) : Call Z M_Md_fillEmpty [.ref 53] (emb g1 g2 x d c u t a b m o E) 0 0 none (emb g1 g2 x d c u t a b m_r o E) := by
  unfold F_Md_fillEmpty at h
  refine rn_call (by decide) 7 (by exact Nat.le_of_ble_eq_true rfl) ?_
  show Rn Z M_Md_fillEmpty 0 [some (.ref 53), none, none, none, none, none, none, none] [] (emb g1 g2 x d c u t a b m o E) 0 0 _
  refine rn_iconst (v := (0 : Int32)) (by exact dc_Md_fillEmpty 0 rfl) (by decide) ?_
  refine rn_istore_n (ls' := [some (.ref 53), some (.int (0 : Int32)), none, none, none, none, none, none]) (by exact dc_Md_fillEmpty 1 rfl) (by decide) (by exact rfl) ?_
  obtain ⟨m4, e1, h3⟩ := rn_bind h
  clear h
  have jx2 : Rn Z M_Md_fillEmpty 28 [some (.ref 53), none, none, none, none, none, none, none] [] (emb g1 g2 x d c u t a b m4 o E) 0 0 (rn_Ret Z none (emb g1 g2 x d c u t a b m_r o E)) := by
    refine rn_iconst (v := (0 : Int32)) (by exact dc_Md_fillEmpty 17 rfl) (by decide) ?_
    refine rn_istore_n (ls' := [some (.ref 53), some (.int (0 : Int32)), none, none, none, none, none, none]) (by exact dc_Md_fillEmpty 18 rfl) (by decide) (by exact rfl) ?_
    obtain ⟨m8, e5, h7⟩ := rn_bind h3
    clear h3
    have jx6 : Rn Z M_Md_fillEmpty 178 [none, none, none, none, none, none, none, none] [] (emb g1 g2 x d c u t a b m8 o E) 0 0 (rn_Ret Z none (emb g1 g2 x d c u t a b m_r o E)) := by
      cases h7
      exact rn_return (by exact dc_Md_fillEmpty 99 rfl) (by exact rfl)
    exact rn_weak _ (by repeat (first | exact rn_le_0 | apply rn_le_s | apply rn_le_x)) (p_Md_fillEmpty_L30 jx6 _ _ _ e5)
  exact rn_weak _ (by repeat (first | exact rn_le_0 | apply rn_le_s | apply rn_le_x)) (p_Md_fillEmpty_L2 jx2 _ _ _ e1)
def F_Md_fillUnits_L2  : Nat → tM → Int32 → Option tM
  | 0, _, _ => none
  | n + 1, m, l1 =>
    if (36 : Int32) ≤ l1 then (
      some m
    ) else (
      Option.bind (aS (M_units m) 36 l1 (0 : Int64)) fun f2 =>
      F_Md_fillUnits_L2  n (M_put_units m f2) (l1 + 1)
    )
set_option maxHeartbeats 4000000 in
set_option maxRecDepth 100000 in
theorem p_Md_fillUnits_L2 {Z : rn_Z} {g1 g2 : Nat} {x : tX} {d : tD} {c : tC} {u : tU} {t : tT} {a : tG} {b : tG}  {o : tO} {E : List rn_C}   {K : rn_K} {ca sa : Nat} {mz : tM} (hx : Rn Z M_Md_fillUnits 21 [some (.ref 53), none, none, none, none, none, none, none, none] [] (emb g1 g2 x d c u t a b mz o E) ca sa K) (n : Nat) : ∀ (m : tM) (l1 : Int32), F_Md_fillUnits_L2  n m l1 = some mz → Rn Z M_Md_fillUnits 2 [some (.ref 53), some (.int l1), none, none, none, none, none, none, none] [] (emb g1 g2 x d c u t a b m o E) ca sa K := by
  induction n with
  | zero =>
    intro m l1 h
    rw [F_Md_fillUnits_L2] at h
    cases h
  | succ n ih =>
    intro m l1 h
    rw [F_Md_fillUnits_L2] at h
    refine rn_iload_n (by exact dc_Md_fillUnits 2 rfl) (by exact rfl) ?_
    refine rn_bipush (v := (36 : Int32)) (by exact dc_Md_fillUnits 3 rfl) (by decide) ?_
    by_cases c1 : (36 : Int32) ≤ l1
    · replace h := rn_ifp c1 h
      refine rn_icmp_ge_t 21 (by exact dc_Md_fillUnits 4 rfl) (by exact rfl) c1 ?_
      cases h
      exact rn_weak _ (by repeat (first | exact rn_le_0 | apply rn_le_s | apply rn_le_x)) hx
    · replace h := rn_ifn c1 h
      refine rn_icmp_ge_f 21 (by exact dc_Md_fillUnits 4 rfl) (by exact rfl) c1 ?_
      refine rn_aload_n (by exact dc_Md_fillUnits 5 rfl) (by exact rfl) ?_
      refine rn_getf (v := .ref 68) fd_Md_53 (by exact dc_Md_fillUnits 6 rfl) (by exact rfl) (by exact rfl) ?_
      refine rn_iload_n (by exact dc_Md_fillUnits 7 rfl) (by exact rfl) ?_
      refine rn_lconst (v := (0 : Int64)) (by exact dc_Md_fillUnits 8 rfl) (by decide) ?_
      obtain ⟨f2, e3, h4⟩ := rn_bind h
      clear h
      refine rn_lastore (w2 := (emb g1 g2 x d c u t a b (M_put_units m f2) o E)) (by exact dc_Md_fillUnits 9 rfl) (by exact rfl) e3 (by exact sm_units) ?_
      refine rn_iinc (ls' := [some (.ref 53), some (.int (l1 + 1)), none, none, none, none, none, none, none]) (by exact dc_Md_fillUnits 10 rfl) (by decide) (by exact rfl) (by exact rn_inc_1 _) (by exact rfl) ?_
      refine rn_goto 2 (by exact dc_Md_fillUnits 11 rfl) (by exact rfl) ?_
      exact rn_weak _ (by repeat (first | exact rn_le_0 | apply rn_le_s | apply rn_le_x)) (ih _ _ h4)
def F_Md_fillUnits_L78 (m : tM) (l1 : Int32) (l2 : Int32) (l3 : Int32) (l6 : Int32) : Nat → Int64 → Int32 → Option Int64
  | 0, _, _ => none
  | n + 1, l4, l7 =>
    Option.bind (aG (M_lengths m) 12 l6) fun x1 =>
    if x1 ≤ l7 then (
      some l4
    ) else (
      Option.bind (aG (M_heads m) 12 l6) fun x5 =>
      if ¬ x5 = l2 then (
        some l4
      ) else (
        Option.bind (aG (M_bodies m) 48 (((4 : Int32) * l6) + l7)) fun x9 =>
        Option.bind (F_Md_isLetter  x9) fun x13 =>
        Option.bind (
          if x13 = 0 then (
            Option.bind (aG (M_weights m) 12 l6) fun x20 =>
            Option.bind (F_Md_emptyBody m l6 l7) fun x24 =>
            Option.bind (aG (M_units m) 36 (((6 : Int32) * x9) + l3)) fun x26 =>
            some (l4 + ((x20 * x24) * x26) : Int64)
          ) else (
            some (l4 : Int64)
          )
         : Option Int64) fun y15 =>
        F_Md_fillUnits_L78 m l1 l2 l3 l6 n y15 (l7 + 1)
      )
    )
set_option maxHeartbeats 4000000 in
set_option maxRecDepth 100000 in
theorem p_Md_fillUnits_L78 {Z : rn_Z} {g1 g2 : Nat} {x : tX} {d : tD} {c : tC} {u : tU} {t : tT} {a : tG} {b : tG} {m : tM} {o : tO} {E : List rn_C}  {l1 : Int32} {l2 : Int32} {l3 : Int32} {l6 : Int32} {K : rn_K} {ca sa : Nat} {z4 : Int64} (hx : Rn Z M_Md_fillUnits 169 [some (.ref 53), some (.int l1), some (.int l2), some (.int l3), some (.long z4), none, some (.int l6), none, none] [] (emb g1 g2 x d c u t a b m o E) ca sa K) (n : Nat) : ∀ (l4 : Int64) (l7 : Int32), F_Md_fillUnits_L78 m l1 l2 l3 l6 n l4 l7 = some z4 → Rn Z M_Md_fillUnits 78 [some (.ref 53), some (.int l1), some (.int l2), some (.int l3), some (.long l4), none, some (.int l6), some (.int l7), none] [] (emb g1 g2 x d c u t a b m o E) ca sa K := by
  induction n with
  | zero =>
    intro l4 l7 h
    rw [F_Md_fillUnits_L78] at h
    cases h
  | succ n ih =>
    intro l4 l7 h
    rw [F_Md_fillUnits_L78] at h
    refine rn_iload (by exact dc_Md_fillUnits 45 rfl) (by exact rfl) ?_
    refine rn_aload_n (by exact dc_Md_fillUnits 46 rfl) (by exact rfl) ?_
    refine rn_getf (v := .ref 58) fd_Md_22 (by exact dc_Md_fillUnits 47 rfl) (by exact rfl) (by exact rfl) ?_
    refine rn_iload (by exact dc_Md_fillUnits 48 rfl) (by exact rfl) ?_
    obtain ⟨x1, e2, h3⟩ := rn_bind h
    clear h
    refine rn_iaload (by exact dc_Md_fillUnits 49 rfl) (by exact rfl) e2 ?_
    by_cases c4 : x1 ≤ l7
    · replace h3 := rn_ifp c4 h3
      refine rn_icmp_ge_t 169 (by exact dc_Md_fillUnits 50 rfl) (by exact rfl) c4 ?_
      cases h3
      exact rn_weak _ (by repeat (first | exact rn_le_0 | apply rn_le_s | apply rn_le_x)) hx
    · replace h3 := rn_ifn c4 h3
      refine rn_icmp_ge_f 169 (by exact dc_Md_fillUnits 50 rfl) (by exact rfl) c4 ?_
      refine rn_aload_n (by exact dc_Md_fillUnits 51 rfl) (by exact rfl) ?_
      refine rn_getf (v := .ref 57) fd_Md_19 (by exact dc_Md_fillUnits 52 rfl) (by exact rfl) (by exact rfl) ?_
      refine rn_iload (by exact dc_Md_fillUnits 53 rfl) (by exact rfl) ?_
      obtain ⟨x5, e6, h7⟩ := rn_bind h3
      clear h3
      refine rn_iaload (by exact dc_Md_fillUnits 54 rfl) (by exact rfl) e6 ?_
      refine rn_iload_n (by exact dc_Md_fillUnits 55 rfl) (by exact rfl) ?_
      by_cases c8 : ¬ x5 = l2
      · replace h7 := rn_ifp c8 h7
        refine rn_icmp_ne_t 169 (by exact dc_Md_fillUnits 56 rfl) (by exact rfl) c8 ?_
        cases h7
        exact rn_weak _ (by repeat (first | exact rn_le_0 | apply rn_le_s | apply rn_le_x)) hx
      · replace h7 := rn_ifn c8 h7
        refine rn_icmp_ne_f 169 (by exact dc_Md_fillUnits 56 rfl) (by exact rfl) (Classical.not_not.mp c8) ?_
        refine rn_aload_n (by exact dc_Md_fillUnits 57 rfl) (by exact rfl) ?_
        refine rn_getf (v := .ref 59) fd_Md_25 (by exact dc_Md_fillUnits 58 rfl) (by exact rfl) (by exact rfl) ?_
        refine rn_iconst (v := (4 : Int32)) (by exact dc_Md_fillUnits 59 rfl) (by decide) ?_
        refine rn_iload (by exact dc_Md_fillUnits 60 rfl) (by exact rfl) ?_
        refine rn_imul (by exact dc_Md_fillUnits 61 rfl) ?_
        refine rn_iload (by exact dc_Md_fillUnits 62 rfl) (by exact rfl) ?_
        refine rn_iadd (by exact dc_Md_fillUnits 63 rfl) ?_
        obtain ⟨x9, e10, h11⟩ := rn_bind h7
        clear h7
        refine rn_iaload (by exact dc_Md_fillUnits 64 rfl) (by exact rfl) e10 ?_
        refine rn_istore (ls' := [some (.ref 53), some (.int l1), some (.int l2), some (.int l3), some (.long l4), none, some (.int l6), some (.int l7), some (.int x9)]) (by exact dc_Md_fillUnits 65 rfl) (by decide) (by exact rfl) ?_
        refine rn_aload_n (by exact dc_Md_fillUnits 66 rfl) (by exact rfl) ?_
        refine rn_iload (by exact dc_Md_fillUnits 67 rfl) (by exact rfl) ?_
        obtain ⟨x13, e12, h14⟩ := rn_bind h11
        clear h11
        refine rn_invV0 (by exact c_Md_isLetter e12) iv_Md_134 (by exact ⟨Nat.le_of_ble_eq_true rfl, Nat.le_of_ble_eq_true rfl⟩) (by exact dc_Md_fillUnits 68 rfl) (by exact rfl) (by exact rfl) (by exact rfl) (by exact Nat.le_of_ble_eq_true rfl) ?_
        show Rn _ _ 121 [some (.ref 53), some (.int l1), some (.int l2), some (.int l3), some (.long l4), none, some (.int l6), some (.int l7), some (.int x9)] [.int x13] (emb g1 g2 x d c u t a b m o E) _ _ _
        obtain ⟨y15, e16, h18⟩ := rn_bind h14
        clear h14
        have jq17 : Rn Z M_Md_fillUnits 161 [some (.ref 53), some (.int l1), some (.int l2), some (.int l3), none, none, some (.int l6), some (.int l7), none] [.long y15] (emb g1 g2 x d c u t a b m o E) ca sa K := by
          refine rn_lstore (ls' := [some (.ref 53), some (.int l1), some (.int l2), some (.int l3), some (.long y15), none, some (.int l6), some (.int l7), none]) (by exact dc_Md_fillUnits 92 rfl) (by decide) (by exact rfl) ?_
          refine rn_iinc (ls' := [some (.ref 53), some (.int l1), some (.int l2), some (.int l3), some (.long y15), none, some (.int l6), some (.int (l7 + 1)), none]) (by exact dc_Md_fillUnits 93 rfl) (by decide) (by exact rfl) (by exact rn_inc_1 _) (by exact rfl) ?_
          refine rn_goto 78 (by exact dc_Md_fillUnits 94 rfl) (by exact rfl) ?_
          exact rn_weak _ (by repeat (first | exact rn_le_0 | apply rn_le_s | apply rn_le_x)) (ih _ _ h18)
        by_cases c19 : x13 = 0
        · replace e16 := rn_ifp c19 e16
          refine rn_if_eq_t 129 (by exact dc_Md_fillUnits 69 rfl) (by exact rfl) c19 ?_
          refine rn_lload (by exact dc_Md_fillUnits 72 rfl) (by exact rfl) ?_
          refine rn_aload_n (by exact dc_Md_fillUnits 73 rfl) (by exact rfl) ?_
          refine rn_getf (v := .ref 60) fd_Md_28 (by exact dc_Md_fillUnits 74 rfl) (by exact rfl) (by exact rfl) ?_
          refine rn_iload (by exact dc_Md_fillUnits 75 rfl) (by exact rfl) ?_
          obtain ⟨x20, e21, h22⟩ := rn_bind e16
          clear e16
          refine rn_laload (by exact dc_Md_fillUnits 76 rfl) (by exact rfl) e21 ?_
          refine rn_aload_n (by exact dc_Md_fillUnits 77 rfl) (by exact rfl) ?_
          refine rn_iload (by exact dc_Md_fillUnits 78 rfl) (by exact rfl) ?_
          refine rn_iload (by exact dc_Md_fillUnits 79 rfl) (by exact rfl) ?_
          obtain ⟨x24, e23, h25⟩ := rn_bind h22
          clear h22
          refine rn_invV0 (by exact c_Md_emptyBody e23) iv_Md_146 (by exact ⟨Nat.le_of_ble_eq_true rfl, Nat.le_of_ble_eq_true rfl⟩) (by exact dc_Md_fillUnits 80 rfl) (by exact rfl) (by exact rfl) (by exact rfl) (by exact Nat.le_of_ble_eq_true rfl) ?_
          show Rn _ _ 146 [some (.ref 53), some (.int l1), some (.int l2), some (.int l3), some (.long l4), none, some (.int l6), some (.int l7), some (.int x9)] [.long x24, .long x20, .long l4] (emb g1 g2 x d c u t a b m o E) _ _ _
          refine rn_lmul (by exact dc_Md_fillUnits 81 rfl) ?_
          refine rn_aload_n (by exact dc_Md_fillUnits 82 rfl) (by exact rfl) ?_
          refine rn_getf (v := .ref 68) fd_Md_53 (by exact dc_Md_fillUnits 83 rfl) (by exact rfl) (by exact rfl) ?_
          refine rn_bipush (v := (6 : Int32)) (by exact dc_Md_fillUnits 84 rfl) (by decide) ?_
          refine rn_iload (by exact dc_Md_fillUnits 85 rfl) (by exact rfl) ?_
          refine rn_imul (by exact dc_Md_fillUnits 86 rfl) ?_
          refine rn_iload_n (by exact dc_Md_fillUnits 87 rfl) (by exact rfl) ?_
          refine rn_iadd (by exact dc_Md_fillUnits 88 rfl) ?_
          obtain ⟨x26, e27, h28⟩ := rn_bind h25
          clear h25
          refine rn_laload (by exact dc_Md_fillUnits 89 rfl) (by exact rfl) e27 ?_
          refine rn_lmul (by exact dc_Md_fillUnits 90 rfl) ?_
          refine rn_ladd (by exact dc_Md_fillUnits 91 rfl) ?_
          cases h28
          exact rn_weak _ (by repeat (first | exact rn_le_0 | apply rn_le_s | apply rn_le_x)) jq17
        · replace e16 := rn_ifn c19 e16
          refine rn_if_eq_f 129 (by exact dc_Md_fillUnits 69 rfl) (by exact rfl) c19 ?_
          refine rn_lload (by exact dc_Md_fillUnits 70 rfl) (by exact rfl) ?_
          refine rn_goto 161 (by exact dc_Md_fillUnits 71 rfl) (by exact rfl) ?_
          cases e16
          exact rn_weak _ (by repeat (first | exact rn_le_0 | apply rn_le_s | apply rn_le_x)) jq17
def F_Md_fillUnits_L66 (m : tM) (l1 : Int32) (l2 : Int32) (l3 : Int32) : Nat → Int64 → Int32 → Option Int64
  | 0, _, _ => none
  | n + 1, l4, l6 =>
    if (M_rules m) ≤ l6 then (
      some l4
    ) else (
      Option.bind (F_Md_fillUnits_L78 m l1 l2 l3 l6 rn_fu l4 (0 : Int32)) fun y5 =>
      F_Md_fillUnits_L66 m l1 l2 l3 n y5 (l6 + 1)
    )
set_option maxHeartbeats 4000000 in
set_option maxRecDepth 100000 in
theorem p_Md_fillUnits_L66 {Z : rn_Z} {g1 g2 : Nat} {x : tX} {d : tD} {c : tC} {u : tU} {t : tT} {a : tG} {b : tG} {m : tM} {o : tO} {E : List rn_C}  {l1 : Int32} {l2 : Int32} {l3 : Int32} {K : rn_K} {ca sa : Nat} {z4 : Int64} (hx : Rn Z M_Md_fillUnits 175 [some (.ref 53), some (.int l1), some (.int l2), some (.int l3), some (.long z4), none, none, none, none] [] (emb g1 g2 x d c u t a b m o E) ca sa K) (n : Nat) : ∀ (l4 : Int64) (l6 : Int32), F_Md_fillUnits_L66 m l1 l2 l3 n l4 l6 = some z4 → Rn Z M_Md_fillUnits 66 [some (.ref 53), some (.int l1), some (.int l2), some (.int l3), some (.long l4), none, some (.int l6), none, none] [] (emb g1 g2 x d c u t a b m o E) ca sa K := by
  induction n with
  | zero =>
    intro l4 l6 h
    rw [F_Md_fillUnits_L66] at h
    cases h
  | succ n ih =>
    intro l4 l6 h
    rw [F_Md_fillUnits_L66] at h
    refine rn_iload (by exact dc_Md_fillUnits 39 rfl) (by exact rfl) ?_
    refine rn_aload_n (by exact dc_Md_fillUnits 40 rfl) (by exact rfl) ?_
    refine rn_getf (v := .int (M_rules m)) fd_Md_115 (by exact dc_Md_fillUnits 41 rfl) (by exact rfl) (by exact rfl) ?_
    by_cases c1 : (M_rules m) ≤ l6
    · replace h := rn_ifp c1 h
      refine rn_icmp_ge_t 175 (by exact dc_Md_fillUnits 42 rfl) (by exact rfl) c1 ?_
      cases h
      exact rn_weak _ (by repeat (first | exact rn_le_0 | apply rn_le_s | apply rn_le_x)) hx
    · replace h := rn_ifn c1 h
      refine rn_icmp_ge_f 175 (by exact dc_Md_fillUnits 42 rfl) (by exact rfl) c1 ?_
      refine rn_iconst (v := (0 : Int32)) (by exact dc_Md_fillUnits 43 rfl) (by decide) ?_
      refine rn_istore (ls' := [some (.ref 53), some (.int l1), some (.int l2), some (.int l3), some (.long l4), none, some (.int l6), some (.int (0 : Int32)), none]) (by exact dc_Md_fillUnits 44 rfl) (by decide) (by exact rfl) ?_
      obtain ⟨y5, e2, h4⟩ := rn_bind h
      clear h
      have jx3 : Rn Z M_Md_fillUnits 169 [some (.ref 53), some (.int l1), some (.int l2), some (.int l3), some (.long y5), none, some (.int l6), none, none] [] (emb g1 g2 x d c u t a b m o E) ca sa K := by
        refine rn_iinc (ls' := [some (.ref 53), some (.int l1), some (.int l2), some (.int l3), some (.long y5), none, some (.int (l6 + 1)), none, none]) (by exact dc_Md_fillUnits 95 rfl) (by decide) (by exact rfl) (by exact rn_inc_1 _) (by exact rfl) ?_
        refine rn_goto 66 (by exact dc_Md_fillUnits 96 rfl) (by exact rfl) ?_
        exact rn_weak _ (by repeat (first | exact rn_le_0 | apply rn_le_s | apply rn_le_x)) (ih _ _ h4)
      exact rn_weak _ (by repeat (first | exact rn_le_0 | apply rn_le_s | apply rn_le_x)) (p_Md_fillUnits_L78 jx3 _ _ _ e2)
def F_Md_fillUnits_L43 (l1 : Int32) (l2 : Int32) : Nat → tM → Int32 → Option tM
  | 0, _, _ => none
  | n + 1, m, l3 =>
    if (M_symbols m) ≤ l3 then (
      some m
    ) else (
      Option.bind (
        if ¬ l2 = l3 then (
          some (0 : Int64)
        ) else (
          some (1 : Int64)
        )
       : Option Int64) fun y2 =>
      Option.bind (F_Md_fillUnits_L66 m l1 l2 l3 rn_fu y2 (0 : Int32)) fun y10 =>
      Option.bind (aS (M_units m) 36 (((6 : Int32) * l2) + l3) y10) fun f11 =>
      F_Md_fillUnits_L43 l1 l2 n (M_put_units m f11) (l3 + 1)
    )
set_option maxHeartbeats 4000000 in
set_option maxRecDepth 100000 in
theorem p_Md_fillUnits_L43 {Z : rn_Z} {g1 g2 : Nat} {x : tX} {d : tD} {c : tC} {u : tU} {t : tT} {a : tG} {b : tG}  {o : tO} {E : List rn_C}  {l1 : Int32} {l2 : Int32} {K : rn_K} {ca sa : Nat} {mz : tM} (hx : Rn Z M_Md_fillUnits 194 [some (.ref 53), some (.int l1), some (.int l2), none, none, none, none, none, none] [] (emb g1 g2 x d c u t a b mz o E) ca sa K) (n : Nat) : ∀ (m : tM) (l3 : Int32), F_Md_fillUnits_L43 l1 l2 n m l3 = some mz → Rn Z M_Md_fillUnits 43 [some (.ref 53), some (.int l1), some (.int l2), some (.int l3), none, none, none, none, none] [] (emb g1 g2 x d c u t a b m o E) ca sa K := by
  induction n with
  | zero =>
    intro m l3 h
    rw [F_Md_fillUnits_L43] at h
    cases h
  | succ n ih =>
    intro m l3 h
    rw [F_Md_fillUnits_L43] at h
    refine rn_iload_n (by exact dc_Md_fillUnits 26 rfl) (by exact rfl) ?_
    refine rn_aload_n (by exact dc_Md_fillUnits 27 rfl) (by exact rfl) ?_
    refine rn_getf (v := .int (M_symbols m)) fd_Md_99 (by exact dc_Md_fillUnits 28 rfl) (by exact rfl) (by exact rfl) ?_
    by_cases c1 : (M_symbols m) ≤ l3
    · replace h := rn_ifp c1 h
      refine rn_icmp_ge_t 194 (by exact dc_Md_fillUnits 29 rfl) (by exact rfl) c1 ?_
      cases h
      exact rn_weak _ (by repeat (first | exact rn_le_0 | apply rn_le_s | apply rn_le_x)) hx
    · replace h := rn_ifn c1 h
      refine rn_icmp_ge_f 194 (by exact dc_Md_fillUnits 29 rfl) (by exact rfl) c1 ?_
      refine rn_iload_n (by exact dc_Md_fillUnits 30 rfl) (by exact rfl) ?_
      refine rn_iload_n (by exact dc_Md_fillUnits 31 rfl) (by exact rfl) ?_
      obtain ⟨y2, e3, h5⟩ := rn_bind h
      clear h
      have jq4 : Rn Z M_Md_fillUnits 61 [some (.ref 53), some (.int l1), some (.int l2), some (.int l3), none, none, none, none, none] [.long y2] (emb g1 g2 x d c u t a b m o E) ca sa K := by
        refine rn_lstore (ls' := [some (.ref 53), some (.int l1), some (.int l2), some (.int l3), some (.long y2), none, none, none, none]) (by exact dc_Md_fillUnits 36 rfl) (by decide) (by exact rfl) ?_
        refine rn_iconst (v := (0 : Int32)) (by exact dc_Md_fillUnits 37 rfl) (by decide) ?_
        refine rn_istore (ls' := [some (.ref 53), some (.int l1), some (.int l2), some (.int l3), some (.long y2), none, some (.int (0 : Int32)), none, none]) (by exact dc_Md_fillUnits 38 rfl) (by decide) (by exact rfl) ?_
        obtain ⟨y10, e7, h9⟩ := rn_bind h5
        clear h5
        have jx8 : Rn Z M_Md_fillUnits 175 [some (.ref 53), some (.int l1), some (.int l2), some (.int l3), some (.long y10), none, none, none, none] [] (emb g1 g2 x d c u t a b m o E) ca sa K := by
          refine rn_aload_n (by exact dc_Md_fillUnits 97 rfl) (by exact rfl) ?_
          refine rn_getf (v := .ref 68) fd_Md_53 (by exact dc_Md_fillUnits 98 rfl) (by exact rfl) (by exact rfl) ?_
          refine rn_bipush (v := (6 : Int32)) (by exact dc_Md_fillUnits 99 rfl) (by decide) ?_
          refine rn_iload_n (by exact dc_Md_fillUnits 100 rfl) (by exact rfl) ?_
          refine rn_imul (by exact dc_Md_fillUnits 101 rfl) ?_
          refine rn_iload_n (by exact dc_Md_fillUnits 102 rfl) (by exact rfl) ?_
          refine rn_iadd (by exact dc_Md_fillUnits 103 rfl) ?_
          refine rn_lload (by exact dc_Md_fillUnits 104 rfl) (by exact rfl) ?_
          obtain ⟨f11, e12, h13⟩ := rn_bind h9
          clear h9
          refine rn_lastore (w2 := (emb g1 g2 x d c u t a b (M_put_units m f11) o E)) (by exact dc_Md_fillUnits 105 rfl) (by exact rfl) e12 (by exact sm_units) ?_
          refine rn_iinc (ls' := [some (.ref 53), some (.int l1), some (.int l2), some (.int (l3 + 1)), some (.long y10), none, none, none, none]) (by exact dc_Md_fillUnits 106 rfl) (by decide) (by exact rfl) (by exact rn_inc_1 _) (by exact rfl) ?_
          refine rn_goto 43 (by exact dc_Md_fillUnits 107 rfl) (by exact rfl) ?_
          exact rn_weak _ (by repeat (first | exact rn_le_0 | apply rn_le_s | apply rn_le_x)) (ih _ _ h13)
        exact rn_weak _ (by repeat (first | exact rn_le_0 | apply rn_le_s | apply rn_le_x)) (p_Md_fillUnits_L66 jx8 _ _ _ e7)
      by_cases c6 : ¬ l2 = l3
      · replace e3 := rn_ifp c6 e3
        refine rn_icmp_ne_t 60 (by exact dc_Md_fillUnits 32 rfl) (by exact rfl) c6 ?_
        refine rn_lconst (v := (0 : Int64)) (by exact dc_Md_fillUnits 35 rfl) (by decide) ?_
        cases e3
        exact rn_weak _ (by repeat (first | exact rn_le_0 | apply rn_le_s | apply rn_le_x)) jq4
      · replace e3 := rn_ifn c6 e3
        refine rn_icmp_ne_f 60 (by exact dc_Md_fillUnits 32 rfl) (by exact rfl) (Classical.not_not.mp c6) ?_
        refine rn_lconst (v := (1 : Int64)) (by exact dc_Md_fillUnits 33 rfl) (by decide) ?_
        refine rn_goto 61 (by exact dc_Md_fillUnits 34 rfl) (by exact rfl) ?_
        cases e3
        exact rn_weak _ (by repeat (first | exact rn_le_0 | apply rn_le_s | apply rn_le_x)) jq4
def F_Md_fillUnits_L33 (l1 : Int32) : Nat → tM → Int32 → Option tM
  | 0, _, _ => none
  | n + 1, m, l2 =>
    if (M_symbols m) ≤ l2 then (
      some m
    ) else (
      Option.bind (F_Md_fillUnits_L43 l1 l2 rn_fu m (0 : Int32)) fun m5 =>
      F_Md_fillUnits_L33 l1 n m5 (l2 + 1)
    )
set_option maxHeartbeats 4000000 in
set_option maxRecDepth 100000 in
theorem p_Md_fillUnits_L33 {Z : rn_Z} {g1 g2 : Nat} {x : tX} {d : tD} {c : tC} {u : tU} {t : tT} {a : tG} {b : tG}  {o : tO} {E : List rn_C}  {l1 : Int32} {K : rn_K} {ca sa : Nat} {mz : tM} (hx : Rn Z M_Md_fillUnits 200 [some (.ref 53), some (.int l1), none, none, none, none, none, none, none] [] (emb g1 g2 x d c u t a b mz o E) ca sa K) (n : Nat) : ∀ (m : tM) (l2 : Int32), F_Md_fillUnits_L33 l1 n m l2 = some mz → Rn Z M_Md_fillUnits 33 [some (.ref 53), some (.int l1), some (.int l2), none, none, none, none, none, none] [] (emb g1 g2 x d c u t a b m o E) ca sa K := by
  induction n with
  | zero =>
    intro m l2 h
    rw [F_Md_fillUnits_L33] at h
    cases h
  | succ n ih =>
    intro m l2 h
    rw [F_Md_fillUnits_L33] at h
    refine rn_iload_n (by exact dc_Md_fillUnits 20 rfl) (by exact rfl) ?_
    refine rn_aload_n (by exact dc_Md_fillUnits 21 rfl) (by exact rfl) ?_
    refine rn_getf (v := .int (M_symbols m)) fd_Md_99 (by exact dc_Md_fillUnits 22 rfl) (by exact rfl) (by exact rfl) ?_
    by_cases c1 : (M_symbols m) ≤ l2
    · replace h := rn_ifp c1 h
      refine rn_icmp_ge_t 200 (by exact dc_Md_fillUnits 23 rfl) (by exact rfl) c1 ?_
      cases h
      exact rn_weak _ (by repeat (first | exact rn_le_0 | apply rn_le_s | apply rn_le_x)) hx
    · replace h := rn_ifn c1 h
      refine rn_icmp_ge_f 200 (by exact dc_Md_fillUnits 23 rfl) (by exact rfl) c1 ?_
      refine rn_iconst (v := (0 : Int32)) (by exact dc_Md_fillUnits 24 rfl) (by decide) ?_
      refine rn_istore_n (ls' := [some (.ref 53), some (.int l1), some (.int l2), some (.int (0 : Int32)), none, none, none, none, none]) (by exact dc_Md_fillUnits 25 rfl) (by decide) (by exact rfl) ?_
      obtain ⟨m5, e2, h4⟩ := rn_bind h
      clear h
      have jx3 : Rn Z M_Md_fillUnits 194 [some (.ref 53), some (.int l1), some (.int l2), none, none, none, none, none, none] [] (emb g1 g2 x d c u t a b m5 o E) ca sa K := by
        refine rn_iinc (ls' := [some (.ref 53), some (.int l1), some (.int (l2 + 1)), none, none, none, none, none, none]) (by exact dc_Md_fillUnits 108 rfl) (by decide) (by exact rfl) (by exact rn_inc_1 _) (by exact rfl) ?_
        refine rn_goto 33 (by exact dc_Md_fillUnits 109 rfl) (by exact rfl) ?_
        exact rn_weak _ (by repeat (first | exact rn_le_0 | apply rn_le_s | apply rn_le_x)) (ih _ _ h4)
      exact rn_weak _ (by repeat (first | exact rn_le_0 | apply rn_le_s | apply rn_le_x)) (p_Md_fillUnits_L43 jx3 _ _ _ e2)
def F_Md_fillUnits_L23  : Nat → tM → Int32 → Option tM
  | 0, _, _ => none
  | n + 1, m, l1 =>
    if (M_symbols m) < l1 then (
      some m
    ) else (
      Option.bind (F_Md_fillUnits_L33 l1 rn_fu m (0 : Int32)) fun m5 =>
      F_Md_fillUnits_L23  n m5 (l1 + 1)
    )
set_option maxHeartbeats 4000000 in
set_option maxRecDepth 100000 in
theorem p_Md_fillUnits_L23 {Z : rn_Z} {g1 g2 : Nat} {x : tX} {d : tD} {c : tC} {u : tU} {t : tT} {a : tG} {b : tG}  {o : tO} {E : List rn_C}   {K : rn_K} {ca sa : Nat} {mz : tM} (hx : Rn Z M_Md_fillUnits 206 [none, none, none, none, none, none, none, none, none] [] (emb g1 g2 x d c u t a b mz o E) ca sa K) (n : Nat) : ∀ (m : tM) (l1 : Int32), F_Md_fillUnits_L23  n m l1 = some mz → Rn Z M_Md_fillUnits 23 [some (.ref 53), some (.int l1), none, none, none, none, none, none, none] [] (emb g1 g2 x d c u t a b m o E) ca sa K := by
  induction n with
  | zero =>
    intro m l1 h
    rw [F_Md_fillUnits_L23] at h
    cases h
  | succ n ih =>
    intro m l1 h
    rw [F_Md_fillUnits_L23] at h
    refine rn_iload_n (by exact dc_Md_fillUnits 14 rfl) (by exact rfl) ?_
    refine rn_aload_n (by exact dc_Md_fillUnits 15 rfl) (by exact rfl) ?_
    refine rn_getf (v := .int (M_symbols m)) fd_Md_99 (by exact dc_Md_fillUnits 16 rfl) (by exact rfl) (by exact rfl) ?_
    by_cases c1 : (M_symbols m) < l1
    · replace h := rn_ifp c1 h
      refine rn_icmp_gt_t 206 (by exact dc_Md_fillUnits 17 rfl) (by exact rfl) c1 ?_
      cases h
      exact rn_weak _ (by repeat (first | exact rn_le_0 | apply rn_le_s | apply rn_le_x)) hx
    · replace h := rn_ifn c1 h
      refine rn_icmp_gt_f 206 (by exact dc_Md_fillUnits 17 rfl) (by exact rfl) c1 ?_
      refine rn_iconst (v := (0 : Int32)) (by exact dc_Md_fillUnits 18 rfl) (by decide) ?_
      refine rn_istore_n (ls' := [some (.ref 53), some (.int l1), some (.int (0 : Int32)), none, none, none, none, none, none]) (by exact dc_Md_fillUnits 19 rfl) (by decide) (by exact rfl) ?_
      obtain ⟨m5, e2, h4⟩ := rn_bind h
      clear h
      have jx3 : Rn Z M_Md_fillUnits 200 [some (.ref 53), some (.int l1), none, none, none, none, none, none, none] [] (emb g1 g2 x d c u t a b m5 o E) ca sa K := by
        refine rn_iinc (ls' := [some (.ref 53), some (.int (l1 + 1)), none, none, none, none, none, none, none]) (by exact dc_Md_fillUnits 110 rfl) (by decide) (by exact rfl) (by exact rn_inc_1 _) (by exact rfl) ?_
        refine rn_goto 23 (by exact dc_Md_fillUnits 111 rfl) (by exact rfl) ?_
        exact rn_weak _ (by repeat (first | exact rn_le_0 | apply rn_le_s | apply rn_le_x)) (ih _ _ h4)
      exact rn_weak _ (by repeat (first | exact rn_le_0 | apply rn_le_s | apply rn_le_x)) (p_Md_fillUnits_L33 jx3 _ _ _ e2)
def F_Md_fillUnits (m : tM)  : Option tM :=
  Option.bind (F_Md_fillUnits_L2  rn_fu m (0 : Int32)) fun m4 =>
  Option.bind (F_Md_fillUnits_L23  rn_fu m4 (0 : Int32)) fun m8 =>
  some m8
set_option maxHeartbeats 4000000 in
set_option maxRecDepth 100000 in
theorem c_Md_fillUnits {Z : rn_Z} {g1 g2 : Nat} {x : tX} {d : tD} {c : tC} {u : tU} {t : tT} {a : tG} {b : tG} {m : tM} {o : tO} {E : List rn_C}  {m_r : tM} (h : F_Md_fillUnits m  = some m_r) : Call Z M_Md_fillUnits [.ref 53] (emb g1 g2 x d c u t a b m o E) 0 0 none (emb g1 g2 x d c u t a b m_r o E) := by
  unfold F_Md_fillUnits at h
  refine rn_call (by decide) 8 (by exact Nat.le_of_ble_eq_true rfl) ?_
  show Rn Z M_Md_fillUnits 0 [some (.ref 53), none, none, none, none, none, none, none, none] [] (emb g1 g2 x d c u t a b m o E) 0 0 _
  refine rn_iconst (v := (0 : Int32)) (by exact dc_Md_fillUnits 0 rfl) (by decide) ?_
  refine rn_istore_n (ls' := [some (.ref 53), some (.int (0 : Int32)), none, none, none, none, none, none, none]) (by exact dc_Md_fillUnits 1 rfl) (by decide) (by exact rfl) ?_
  obtain ⟨m4, e1, h3⟩ := rn_bind h
  clear h
  have jx2 : Rn Z M_Md_fillUnits 21 [some (.ref 53), none, none, none, none, none, none, none, none] [] (emb g1 g2 x d c u t a b m4 o E) 0 0 (rn_Ret Z none (emb g1 g2 x d c u t a b m_r o E)) := by
    refine rn_iconst (v := (0 : Int32)) (by exact dc_Md_fillUnits 12 rfl) (by decide) ?_
    refine rn_istore_n (ls' := [some (.ref 53), some (.int (0 : Int32)), none, none, none, none, none, none, none]) (by exact dc_Md_fillUnits 13 rfl) (by decide) (by exact rfl) ?_
    obtain ⟨m8, e5, h7⟩ := rn_bind h3
    clear h3
    have jx6 : Rn Z M_Md_fillUnits 206 [none, none, none, none, none, none, none, none, none] [] (emb g1 g2 x d c u t a b m8 o E) 0 0 (rn_Ret Z none (emb g1 g2 x d c u t a b m_r o E)) := by
      cases h7
      exact rn_return (by exact dc_Md_fillUnits 112 rfl) (by exact rfl)
    exact rn_weak _ (by repeat (first | exact rn_le_0 | apply rn_le_s | apply rn_le_x)) (p_Md_fillUnits_L23 jx6 _ _ _ e5)
  exact rn_weak _ (by repeat (first | exact rn_le_0 | apply rn_le_s | apply rn_le_x)) (p_Md_fillUnits_L2 jx2 _ _ _ e1)
