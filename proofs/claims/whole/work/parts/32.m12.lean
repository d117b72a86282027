def F_Md_isLetter (v0 : Int32) : Option Int32 :=
  Option.bind (
    if v0 ≤ (5 : Int32) then (
      some (0 : Int32)
    ) else (
      some (1 : Int32)
    )
   : Option Int32) fun y1 =>
  Option.bind (rn_bl y1) fun y6 =>
  some y6
set_option maxHeartbeats 4000000 in
set_option maxRecDepth 100000 in
theorem c_Md_isLetter {Z : rn_Z} {g1 g2 : Nat} {x : tX} {d : tD} {c : tC} {u : tU} {t : tT} {a : tG} {b : tG} {m : tM} {o : tO} {E : List rn_C} {v0 : Int32} {res : Int32} (h : F_Md_isLetter  v0 = some res) : Call Z M_Md_isLetter [.ref 53, .int v0] (emb g1 g2 x d c u t a b m o E) 0 0 (some (.int res)) (emb g1 g2 x d c u t a b m o E) := by
  unfold F_Md_isLetter at h
  refine rn_call (by decide) 0 (by exact Nat.le_of_ble_eq_true rfl) ?_
  show Rn Z M_Md_isLetter 0 [some (.ref 53), some (.int v0)] [] (emb g1 g2 x d c u t a b m o E) 0 0 _
  refine rn_iload_n (by exact dc_Md_isLetter 0 rfl) (by exact rfl) ?_
  refine rn_iconst (v := (5 : Int32)) (by exact dc_Md_isLetter 1 rfl) (by decide) ?_
  obtain ⟨y1, e2, h4⟩ := rn_bind h
  clear h
  have jq3 : Rn Z M_Md_isLetter 10 [none, none] [.int y1] (emb g1 g2 x d c u t a b m o E) 0 0 (rn_Ret Z (some (.int res)) (emb g1 g2 x d c u t a b m o E)) := by
    obtain ⟨y6, e7, h9⟩ := rn_bind h4
    clear h4
    obtain ⟨rfl, hb8⟩ := rn_bl_some e7
    cases h9
    exact rn_zreturn (by exact dc_Md_isLetter 6 rfl) (by exact rfl) hb8
  by_cases c5 : v0 ≤ (5 : Int32)
  · replace e2 := rn_ifp c5 e2
    refine rn_icmp_le_t 9 (by exact dc_Md_isLetter 2 rfl) (by exact rfl) c5 ?_
    refine rn_iconst (v := (0 : Int32)) (by exact dc_Md_isLetter 5 rfl) (by decide) ?_
    cases e2
    exact rn_weak _ (by repeat (first | exact rn_le_0 | apply rn_le_s | apply rn_le_x)) jq3
  · replace e2 := rn_ifn c5 e2
    refine rn_icmp_le_f 9 (by exact dc_Md_isLetter 2 rfl) (by exact rfl) c5 ?_
    refine rn_iconst (v := (1 : Int32)) (by exact dc_Md_isLetter 3 rfl) (by decide) ?_
    refine rn_goto 10 (by exact dc_Md_isLetter 4 rfl) (by exact rfl) ?_
    cases e2
    exact rn_weak _ (by repeat (first | exact rn_le_0 | apply rn_le_s | apply rn_le_x)) jq3
def F_Md_emptyBody_L5 (m : tM) (l1 : Int32) (l2 : Int32) : Nat → Int64 → Int32 → Option Int64
  | 0, _, _ => none
  | n + 1, l3, l5 =>
    Option.bind (aG (M_lengths m) 12 l1) fun x1 =>
    if x1 ≤ l5 then (
      some l3
    ) else (
      Option.bind (aG (M_bodies m) 48 (((4 : Int32) * l1) + l5)) fun x5 =>
      Option.bind (
        if ¬ l5 = l2 then (
          Option.bind (F_Md_isLetter  x5) fun x14 =>
          if x14 = 0 then (
            Option.bind (aG (M_emptySum m) 6 x5) fun x17 =>
            some (l3 * x17 : Int64)
          ) else (
            some (0 : Int64)
          )
        ) else (
          some (l3 : Int64)
        )
       : Option Int64) fun y8 =>
      F_Md_emptyBody_L5 m l1 l2 n y8 (l5 + 1)
    )
set_option maxHeartbeats 4000000 in
set_option maxRecDepth 100000 in
theorem p_Md_emptyBody_L5 {Z : rn_Z} {g1 g2 : Nat} {x : tX} {d : tD} {c : tC} {u : tU} {t : tT} {a : tG} {b : tG} {m : tM} {o : tO} {E : List rn_C}  {l1 : Int32} {l2 : Int32} {K : rn_K} {ca sa : Nat} {z3 : Int64} (hx : Rn Z M_Md_emptyBody 68 [none, none, none, some (.long z3), none, none, none] [] (emb g1 g2 x d c u t a b m o E) ca sa K) (n : Nat) : ∀ (l3 : Int64) (l5 : Int32), F_Md_emptyBody_L5 m l1 l2 n l3 l5 = some z3 → Rn Z M_Md_emptyBody 5 [some (.ref 53), some (.int l1), some (.int l2), some (.long l3), none, some (.int l5), none] [] (emb g1 g2 x d c u t a b m o E) ca sa K := by
  induction n with
  | zero =>
    intro l3 l5 h
    rw [F_Md_emptyBody_L5] at h
    cases h
  | succ n ih =>
    intro l3 l5 h
    rw [F_Md_emptyBody_L5] at h
    refine rn_iload (by exact dc_Md_emptyBody 4 rfl) (by exact rfl) ?_
    refine rn_aload_n (by exact dc_Md_emptyBody 5 rfl) (by exact rfl) ?_
    refine rn_getf (v := .ref 58) fd_Md_22 (by exact dc_Md_emptyBody 6 rfl) (by exact rfl) (by exact rfl) ?_
    refine rn_iload_n (by exact dc_Md_emptyBody 7 rfl) (by exact rfl) ?_
    obtain ⟨x1, e2, h3⟩ := rn_bind h
    clear h
    refine rn_iaload (by exact dc_Md_emptyBody 8 rfl) (by exact rfl) e2 ?_
    by_cases c4 : x1 ≤ l5
    · replace h3 := rn_ifp c4 h3
      refine rn_icmp_ge_t 68 (by exact dc_Md_emptyBody 9 rfl) (by exact rfl) c4 ?_
      cases h3
      exact rn_weak _ (by repeat (first | exact rn_le_0 | apply rn_le_s | apply rn_le_x)) hx
    · replace h3 := rn_ifn c4 h3
      refine rn_icmp_ge_f 68 (by exact dc_Md_emptyBody 9 rfl) (by exact rfl) c4 ?_
      refine rn_aload_n (by exact dc_Md_emptyBody 10 rfl) (by exact rfl) ?_
      refine rn_getf (v := .ref 59) fd_Md_25 (by exact dc_Md_emptyBody 11 rfl) (by exact rfl) (by exact rfl) ?_
      refine rn_iconst (v := (4 : Int32)) (by exact dc_Md_emptyBody 12 rfl) (by decide) ?_
      refine rn_iload_n (by exact dc_Md_emptyBody 13 rfl) (by exact rfl) ?_
      refine rn_imul (by exact dc_Md_emptyBody 14 rfl) ?_
      refine rn_iload (by exact dc_Md_emptyBody 15 rfl) (by exact rfl) ?_
      refine rn_iadd (by exact dc_Md_emptyBody 16 rfl) ?_
      obtain ⟨x5, e6, h7⟩ := rn_bind h3
      clear h3
      refine rn_iaload (by exact dc_Md_emptyBody 17 rfl) (by exact rfl) e6 ?_
      refine rn_istore (ls' := [some (.ref 53), some (.int l1), some (.int l2), some (.long l3), none, some (.int l5), some (.int x5)]) (by exact dc_Md_emptyBody 18 rfl) (by decide) (by exact rfl) ?_
      refine rn_iload (by exact dc_Md_emptyBody 19 rfl) (by exact rfl) ?_
      refine rn_iload_n (by exact dc_Md_emptyBody 20 rfl) (by exact rfl) ?_
      obtain ⟨y8, e9, h11⟩ := rn_bind h7
      clear h7
      have jq10 : Rn Z M_Md_emptyBody 61 [some (.ref 53), some (.int l1), some (.int l2), none, none, some (.int l5), none] [.long y8] (emb g1 g2 x d c u t a b m o E) ca sa K := by
        refine rn_lstore_n (ls' := [some (.ref 53), some (.int l1), some (.int l2), some (.long y8), none, some (.int l5), none]) (by exact dc_Md_emptyBody 36 rfl) (by decide) (by exact rfl) ?_
        refine rn_iinc (ls' := [some (.ref 53), some (.int l1), some (.int l2), some (.long y8), none, some (.int (l5 + 1)), none]) (by exact dc_Md_emptyBody 37 rfl) (by decide) (by exact rfl) (by exact rn_inc_1 _) (by exact rfl) ?_
        refine rn_goto 5 (by exact dc_Md_emptyBody 38 rfl) (by exact rfl) ?_
        exact rn_weak _ (by repeat (first | exact rn_le_0 | apply rn_le_s | apply rn_le_x)) (ih _ _ h11)
      by_cases c12 : ¬ l5 = l2
      · replace e9 := rn_ifp c12 e9
        refine rn_icmp_ne_t 39 (by exact dc_Md_emptyBody 21 rfl) (by exact rfl) c12 ?_
        refine rn_aload_n (by exact dc_Md_emptyBody 24 rfl) (by exact rfl) ?_
        refine rn_iload (by exact dc_Md_emptyBody 25 rfl) (by exact rfl) ?_
        obtain ⟨x14, e13, h15⟩ := rn_bind e9
        clear e9
        refine rn_invV0 (by exact c_Md_isLetter e13) iv_Md_134 (by exact ⟨Nat.le_of_ble_eq_true rfl, Nat.le_of_ble_eq_true rfl⟩) (by exact dc_Md_emptyBody 26 rfl) (by exact rfl) (by exact rfl) (by exact rfl) (by exact Nat.le_of_ble_eq_true rfl) ?_
        show Rn _ _ 45 [some (.ref 53), some (.int l1), some (.int l2), some (.long l3), none, some (.int l5), some (.int x5)] [.int x14] (emb g1 g2 x d c u t a b m o E) _ _ _
        by_cases c16 : x14 = 0
        · replace h15 := rn_ifp c16 h15
          refine rn_if_eq_t 52 (by exact dc_Md_emptyBody 27 rfl) (by exact rfl) c16 ?_
          refine rn_lload_n (by exact dc_Md_emptyBody 30 rfl) (by exact rfl) ?_
          refine rn_aload_n (by exact dc_Md_emptyBody 31 rfl) (by exact rfl) ?_
          refine rn_getf (v := .ref 64) fd_Md_41 (by exact dc_Md_emptyBody 32 rfl) (by exact rfl) (by exact rfl) ?_
          refine rn_iload (by exact dc_Md_emptyBody 33 rfl) (by exact rfl) ?_
          obtain ⟨x17, e18, h19⟩ := rn_bind h15
          clear h15
          refine rn_laload (by exact dc_Md_emptyBody 34 rfl) (by exact rfl) e18 ?_
          refine rn_lmul (by exact dc_Md_emptyBody 35 rfl) ?_
          cases h19
          exact rn_weak _ (by repeat (first | exact rn_le_0 | apply rn_le_s | apply rn_le_x)) jq10
        · replace h15 := rn_ifn c16 h15
          refine rn_if_eq_f 52 (by exact dc_Md_emptyBody 27 rfl) (by exact rfl) c16 ?_
          refine rn_lconst (v := (0 : Int64)) (by exact dc_Md_emptyBody 28 rfl) (by decide) ?_
          refine rn_goto 61 (by exact dc_Md_emptyBody 29 rfl) (by exact rfl) ?_
          cases h15
          exact rn_weak _ (by repeat (first | exact rn_le_0 | apply rn_le_s | apply rn_le_x)) jq10
      · replace e9 := rn_ifn c12 e9
        refine rn_icmp_ne_f 39 (by exact dc_Md_emptyBody 21 rfl) (by exact rfl) (Classical.not_not.mp c12) ?_
        refine rn_lload_n (by exact dc_Md_emptyBody 22 rfl) (by exact rfl) ?_
        refine rn_goto 61 (by exact dc_Md_emptyBody 23 rfl) (by exact rfl) ?_
        cases e9
        exact rn_weak _ (by repeat (first | exact rn_le_0 | apply rn_le_s | apply rn_le_x)) jq10
def F_Md_emptyBody (m : tM) (v0 : Int32) (v1 : Int32) : Option Int64 :=
  Option.bind (F_Md_emptyBody_L5 m v0 v1 rn_fu (1 : Int64) (0 : Int32)) fun y4 =>
  some y4
set_option maxHeartbeats 4000000 in
set_option maxRecDepth 100000 in
theorem c_Md_emptyBody {Z : rn_Z} {g1 g2 : Nat} {x : tX} {d : tD} {c : tC} {u : tU} {t : tT} {a : tG} {b : tG} {m : tM} {o : tO} {E : List rn_C} {v0 : Int32} {v1 : Int32} {res : Int64} (h : F_Md_emptyBody m v0 v1 = some res) : Call Z M_Md_emptyBody [.ref 53, .int v0, .int v1] (emb g1 g2 x d c u t a b m o E) 0 0 (some (.long res)) (emb g1 g2 x d c u t a b m o E) := by
  unfold F_Md_emptyBody at h
  refine rn_call (by decide) 4 (by exact Nat.le_of_ble_eq_true rfl) ?_
  show Rn Z M_Md_emptyBody 0 [some (.ref 53), some (.int v0), some (.int v1), none, none, none, none] [] (emb g1 g2 x d c u t a b m o E) 0 0 _
  refine rn_lconst (v := (1 : Int64)) (by exact dc_Md_emptyBody 0 rfl) (by decide) ?_
  refine rn_lstore_n (ls' := [some (.ref 53), some (.int v0), some (.int v1), some (.long (1 : Int64)), none, none, none]) (by exact dc_Md_emptyBody 1 rfl) (by decide) (by exact rfl) ?_
  refine rn_iconst (v := (0 : Int32)) (by exact dc_Md_emptyBody 2 rfl) (by decide) ?_
  refine rn_istore (ls' := [some (.ref 53), some (.int v0), some (.int v1), some (.long (1 : Int64)), none, some (.int (0 : Int32)), none]) (by exact dc_Md_emptyBody 3 rfl) (by decide) (by exact rfl) ?_
  obtain ⟨y4, e1, h3⟩ := rn_bind h
  clear h
  have jx2 : Rn Z M_Md_emptyBody 68 [none, none, none, some (.long y4), none, none, none] [] (emb g1 g2 x d c u t a b m o E) 0 0 (rn_Ret Z (some (.long res)) (emb g1 g2 x d c u t a b m o E)) := by
    refine rn_lload_n (by exact dc_Md_emptyBody 39 rfl) (by exact rfl) ?_
    cases h3
    exact rn_lreturn (by exact dc_Md_emptyBody 40 rfl) (by exact rfl)
  exact rn_weak _ (by repeat (first | exact rn_le_0 | apply rn_le_s | apply rn_le_x)) (p_Md_emptyBody_L5 jx2 _ _ _ e1)
def F_Md_emptyBodyCost_L5 (m : tM) (l1 : Int32) (l2 : Int32) : Nat → Int32 → Int32 → Option Int32
  | 0, _, _ => none
  | n + 1, l3, l4 =>
    Option.bind (aG (M_lengths m) 12 l1) fun x1 =>
    if x1 ≤ l4 then (
      some l3
    ) else (
      Option.bind (aG (M_bodies m) 48 (((4 : Int32) * l1) + l4)) fun x5 =>
      Option.bind (
        if l4 = l2 then (
          some (0 : Int32)
        ) else (
          Option.bind (F_Md_isLetter  x5) fun x14 =>
          if ¬ x14 = 0 then (
            some (1 : Int32)
          ) else (
            Option.bind (aG (M_emptyCost m) 6 x5) fun x17 =>
            if 0 ≤ x17 then (
              some (0 : Int32)
            ) else (
              some (1 : Int32)
            )
          )
        )
       : Option Int32) fun y8 =>
      Option.bind (
        if l3 < 0 then (
          some (-1 : Int32)
        ) else (
          if y8 = 0 then (
            if ¬ l4 = l2 then (
              Option.bind (aG (M_emptyCost m) 6 x5) fun x28 =>
              some (l3 + x28 : Int32)
            ) else (
              some (l3 : Int32)
            )
          ) else (
            some (-1 : Int32)
          )
        )
       : Option Int32) fun y21 =>
      F_Md_emptyBodyCost_L5 m l1 l2 n y21 (l4 + 1)
    )
set_option maxHeartbeats 4000000 in
set_option maxRecDepth 100000 in
theorem p_Md_emptyBodyCost_L5 {Z : rn_Z} {g1 g2 : Nat} {x : tX} {d : tD} {c : tC} {u : tU} {t : tT} {a : tG} {b : tG} {m : tM} {o : tO} {E : List rn_C}  {l1 : Int32} {l2 : Int32} {K : rn_K} {ca sa : Nat} {z3 : Int32} (hx : Rn Z M_Md_emptyBodyCost 100 [none, none, none, some (.int z3), none, none, none] [] (emb g1 g2 x d c u t a b m o E) ca sa K) (n : Nat) : ∀ (l3 : Int32) (l4 : Int32), F_Md_emptyBodyCost_L5 m l1 l2 n l3 l4 = some z3 → Rn Z M_Md_emptyBodyCost 5 [some (.ref 53), some (.int l1), some (.int l2), some (.int l3), some (.int l4), none, none] [] (emb g1 g2 x d c u t a b m o E) ca sa K := by
  induction n with
  | zero =>
    intro l3 l4 h
    rw [F_Md_emptyBodyCost_L5] at h
    cases h
  | succ n ih =>
    intro l3 l4 h
    rw [F_Md_emptyBodyCost_L5] at h
    refine rn_iload (by exact dc_Md_emptyBodyCost 4 rfl) (by exact rfl) ?_
    refine rn_aload_n (by exact dc_Md_emptyBodyCost 5 rfl) (by exact rfl) ?_
    refine rn_getf (v := .ref 58) fd_Md_22 (by exact dc_Md_emptyBodyCost 6 rfl) (by exact rfl) (by exact rfl) ?_
    refine rn_iload_n (by exact dc_Md_emptyBodyCost 7 rfl) (by exact rfl) ?_
    obtain ⟨x1, e2, h3⟩ := rn_bind h
    clear h
    refine rn_iaload (by exact dc_Md_emptyBodyCost 8 rfl) (by exact rfl) e2 ?_
    by_cases c4 : x1 ≤ l4
    · replace h3 := rn_ifp c4 h3
      refine rn_icmp_ge_t 100 (by exact dc_Md_emptyBodyCost 9 rfl) (by exact rfl) c4 ?_
      cases h3
      exact rn_weak _ (by repeat (first | exact rn_le_0 | apply rn_le_s | apply rn_le_x)) hx
    · replace h3 := rn_ifn c4 h3
      refine rn_icmp_ge_f 100 (by exact dc_Md_emptyBodyCost 9 rfl) (by exact rfl) c4 ?_
      refine rn_aload_n (by exact dc_Md_emptyBodyCost 10 rfl) (by exact rfl) ?_
      refine rn_getf (v := .ref 59) fd_Md_25 (by exact dc_Md_emptyBodyCost 11 rfl) (by exact rfl) (by exact rfl) ?_
      refine rn_iconst (v := (4 : Int32)) (by exact dc_Md_emptyBodyCost 12 rfl) (by decide) ?_
      refine rn_iload_n (by exact dc_Md_emptyBodyCost 13 rfl) (by exact rfl) ?_
      refine rn_imul (by exact dc_Md_emptyBodyCost 14 rfl) ?_
      refine rn_iload (by exact dc_Md_emptyBodyCost 15 rfl) (by exact rfl) ?_
      refine rn_iadd (by exact dc_Md_emptyBodyCost 16 rfl) ?_
      obtain ⟨x5, e6, h7⟩ := rn_bind h3
      clear h3
      refine rn_iaload (by exact dc_Md_emptyBodyCost 17 rfl) (by exact rfl) e6 ?_
      refine rn_istore (ls' := [some (.ref 53), some (.int l1), some (.int l2), some (.int l3), some (.int l4), some (.int x5), none]) (by exact dc_Md_emptyBodyCost 18 rfl) (by decide) (by exact rfl) ?_
      refine rn_iload (by exact dc_Md_emptyBodyCost 19 rfl) (by exact rfl) ?_
      refine rn_iload_n (by exact dc_Md_emptyBodyCost 20 rfl) (by exact rfl) ?_
      obtain ⟨y8, e9, h11⟩ := rn_bind h7
      clear h7
      have jq10 : Rn Z M_Md_emptyBodyCost 59 [some (.ref 53), some (.int l1), some (.int l2), some (.int l3), some (.int l4), some (.int x5), none] [.int y8] (emb g1 g2 x d c u t a b m o E) ca sa K := by
        refine rn_istore (ls' := [some (.ref 53), some (.int l1), some (.int l2), some (.int l3), some (.int l4), some (.int x5), some (.int y8)]) (by exact dc_Md_emptyBodyCost 34 rfl) (by decide) (by exact rfl) ?_
        refine rn_iload_n (by exact dc_Md_emptyBodyCost 35 rfl) (by exact rfl) ?_
        obtain ⟨y21, e22, h24⟩ := rn_bind h11
        clear h11
        have jq23 : Rn Z M_Md_emptyBodyCost 93 [some (.ref 53), some (.int l1), some (.int l2), none, some (.int l4), none, none] [.int y21] (emb g1 g2 x d c u t a b m o E) ca sa K := by
          refine rn_istore_n (ls' := [some (.ref 53), some (.int l1), some (.int l2), some (.int y21), some (.int l4), none, none]) (by exact dc_Md_emptyBodyCost 52 rfl) (by decide) (by exact rfl) ?_
          refine rn_iinc (ls' := [some (.ref 53), some (.int l1), some (.int l2), some (.int y21), some (.int (l4 + 1)), none, none]) (by exact dc_Md_emptyBodyCost 53 rfl) (by decide) (by exact rfl) (by exact rn_inc_1 _) (by exact rfl) ?_
          refine rn_goto 5 (by exact dc_Md_emptyBodyCost 54 rfl) (by exact rfl) ?_
          exact rn_weak _ (by repeat (first | exact rn_le_0 | apply rn_le_s | apply rn_le_x)) (ih _ _ h24)
        by_cases c25 : l3 < 0
        · replace e22 := rn_ifp c25 e22
          refine rn_if_lt_t 70 (by exact dc_Md_emptyBodyCost 36 rfl) (by exact rfl) c25 ?_
          refine rn_iconst (v := (-1 : Int32)) (by exact dc_Md_emptyBodyCost 39 rfl) (by decide) ?_
          refine rn_goto 93 (by exact dc_Md_emptyBodyCost 40 rfl) (by exact rfl) ?_
          cases e22
          exact rn_weak _ (by repeat (first | exact rn_le_0 | apply rn_le_s | apply rn_le_x)) jq23
        · replace e22 := rn_ifn c25 e22
          refine rn_if_lt_f 70 (by exact dc_Md_emptyBodyCost 36 rfl) (by exact rfl) c25 ?_
          refine rn_iload (by exact dc_Md_emptyBodyCost 37 rfl) (by exact rfl) ?_
          by_cases c26 : y8 = 0
          · replace e22 := rn_ifp c26 e22
            refine rn_if_eq_t 74 (by exact dc_Md_emptyBodyCost 38 rfl) (by exact rfl) c26 ?_
            refine rn_iload (by exact dc_Md_emptyBodyCost 41 rfl) (by exact rfl) ?_
            refine rn_iload_n (by exact dc_Md_emptyBodyCost 42 rfl) (by exact rfl) ?_
            by_cases c27 : ¬ l4 = l2
            · replace e22 := rn_ifp c27 e22
              refine rn_icmp_ne_t 84 (by exact dc_Md_emptyBodyCost 43 rfl) (by exact rfl) c27 ?_
              refine rn_iload_n (by exact dc_Md_emptyBodyCost 46 rfl) (by exact rfl) ?_
              refine rn_aload_n (by exact dc_Md_emptyBodyCost 47 rfl) (by exact rfl) ?_
              refine rn_getf (v := .ref 65) fd_Md_44 (by exact dc_Md_emptyBodyCost 48 rfl) (by exact rfl) (by exact rfl) ?_
              refine rn_iload (by exact dc_Md_emptyBodyCost 49 rfl) (by exact rfl) ?_
              obtain ⟨x28, e29, h30⟩ := rn_bind e22
              clear e22
              refine rn_iaload (by exact dc_Md_emptyBodyCost 50 rfl) (by exact rfl) e29 ?_
              refine rn_iadd (by exact dc_Md_emptyBodyCost 51 rfl) ?_
              cases h30
              exact rn_weak _ (by repeat (first | exact rn_le_0 | apply rn_le_s | apply rn_le_x)) jq23
            · replace e22 := rn_ifn c27 e22
              refine rn_icmp_ne_f 84 (by exact dc_Md_emptyBodyCost 43 rfl) (by exact rfl) (Classical.not_not.mp c27) ?_
              refine rn_iload_n (by exact dc_Md_emptyBodyCost 44 rfl) (by exact rfl) ?_
              refine rn_goto 93 (by exact dc_Md_emptyBodyCost 45 rfl) (by exact rfl) ?_
              cases e22
              exact rn_weak _ (by repeat (first | exact rn_le_0 | apply rn_le_s | apply rn_le_x)) jq23
          · replace e22 := rn_ifn c26 e22
            refine rn_if_eq_f 74 (by exact dc_Md_emptyBodyCost 38 rfl) (by exact rfl) c26 ?_
            refine rn_iconst (v := (-1 : Int32)) (by exact dc_Md_emptyBodyCost 39 rfl) (by decide) ?_
            refine rn_goto 93 (by exact dc_Md_emptyBodyCost 40 rfl) (by exact rfl) ?_
            cases e22
            exact rn_weak _ (by repeat (first | exact rn_le_0 | apply rn_le_s | apply rn_le_x)) jq23
      by_cases c12 : l4 = l2
      · replace e9 := rn_ifp c12 e9
        refine rn_icmp_eq_t 58 (by exact dc_Md_emptyBodyCost 21 rfl) (by exact rfl) c12 ?_
        refine rn_iconst (v := (0 : Int32)) (by exact dc_Md_emptyBodyCost 33 rfl) (by decide) ?_
        cases e9
        exact rn_weak _ (by repeat (first | exact rn_le_0 | apply rn_le_s | apply rn_le_x)) jq10
      · replace e9 := rn_ifn c12 e9
        refine rn_icmp_eq_f 58 (by exact dc_Md_emptyBodyCost 21 rfl) (by exact rfl) c12 ?_
        refine rn_aload_n (by exact dc_Md_emptyBodyCost 22 rfl) (by exact rfl) ?_
        refine rn_iload (by exact dc_Md_emptyBodyCost 23 rfl) (by exact rfl) ?_
        obtain ⟨x14, e13, h15⟩ := rn_bind e9
        clear e9
        refine rn_invV0 (by exact c_Md_isLetter e13) iv_Md_134 (by exact ⟨Nat.le_of_ble_eq_true rfl, Nat.le_of_ble_eq_true rfl⟩) (by exact dc_Md_emptyBodyCost 24 rfl) (by exact rfl) (by exact rfl) (by exact rfl) (by exact Nat.le_of_ble_eq_true rfl) ?_
        show Rn _ _ 41 [some (.ref 53), some (.int l1), some (.int l2), some (.int l3), some (.int l4), some (.int x5), none] [.int x14] (emb g1 g2 x d c u t a b m o E) _ _ _
        by_cases c16 : ¬ x14 = 0
        · replace h15 := rn_ifp c16 h15
          refine rn_if_ne_t 54 (by exact dc_Md_emptyBodyCost 25 rfl) (by exact rfl) c16 ?_
          refine rn_iconst (v := (1 : Int32)) (by exact dc_Md_emptyBodyCost 31 rfl) (by decide) ?_
          refine rn_goto 59 (by exact dc_Md_emptyBodyCost 32 rfl) (by exact rfl) ?_
          cases h15
          exact rn_weak _ (by repeat (first | exact rn_le_0 | apply rn_le_s | apply rn_le_x)) jq10
        · replace h15 := rn_ifn c16 h15
          refine rn_if_ne_f 54 (by exact dc_Md_emptyBodyCost 25 rfl) (by exact rfl) (Classical.not_not.mp c16) ?_
          refine rn_aload_n (by exact dc_Md_emptyBodyCost 26 rfl) (by exact rfl) ?_
          refine rn_getf (v := .ref 65) fd_Md_44 (by exact dc_Md_emptyBodyCost 27 rfl) (by exact rfl) (by exact rfl) ?_
          refine rn_iload (by exact dc_Md_emptyBodyCost 28 rfl) (by exact rfl) ?_
          obtain ⟨x17, e18, h19⟩ := rn_bind h15
          clear h15
          refine rn_iaload (by exact dc_Md_emptyBodyCost 29 rfl) (by exact rfl) e18 ?_
          by_cases c20 : 0 ≤ x17
          · replace h19 := rn_ifp c20 h19
            refine rn_if_ge_t 58 (by exact dc_Md_emptyBodyCost 30 rfl) (by exact rfl) c20 ?_
            refine rn_iconst (v := (0 : Int32)) (by exact dc_Md_emptyBodyCost 33 rfl) (by decide) ?_
            cases h19
            exact rn_weak _ (by repeat (first | exact rn_le_0 | apply rn_le_s | apply rn_le_x)) jq10
          · replace h19 := rn_ifn c20 h19
            refine rn_if_ge_f 58 (by exact dc_Md_emptyBodyCost 30 rfl) (by exact rfl) c20 ?_
            refine rn_iconst (v := (1 : Int32)) (by exact dc_Md_emptyBodyCost 31 rfl) (by decide) ?_
            refine rn_goto 59 (by exact dc_Md_emptyBodyCost 32 rfl) (by exact rfl) ?_
            cases h19
            exact rn_weak _ (by repeat (first | exact rn_le_0 | apply rn_le_s | apply rn_le_x)) jq10
def F_Md_emptyBodyCost (m : tM) (v0 : Int32) (v1 : Int32) : Option Int32 :=
  Option.bind (F_Md_emptyBodyCost_L5 m v0 v1 rn_fu (0 : Int32) (0 : Int32)) fun y4 =>
  some y4
set_option maxHeartbeats 4000000 in
set_option maxRecDepth 100000 in
theorem c_Md_emptyBodyCost {Z : rn_Z} {g1 g2 : Nat} {x : tX} {d : tD} {c : tC} {u : tU} {t : tT} {a : tG} {b : tG} {m : tM} {o : tO} {E : List rn_C} {v0 : Int32} {v1 : Int32} {res : Int32} (h : F_Md_emptyBodyCost m v0 v1 = some res) : Call Z M_Md_emptyBodyCost [.ref 53, .int v0, .int v1] (emb g1 g2 x d c u t a b m o E) 0 0 (some (.int res)) (emb g1 g2 x d c u t a b m o E) := by
  unfold F_Md_emptyBodyCost at h
  refine rn_call (by decide) 4 (by exact Nat.le_of_ble_eq_true rfl) ?_
  show Rn Z M_Md_emptyBodyCost 0 [some (.ref 53), some (.int v0), some (.int v1), none, none, none, none] [] (emb g1 g2 x d c u t a b m o E) 0 0 _
  refine rn_iconst (v := (0 : Int32)) (by exact dc_Md_emptyBodyCost 0 rfl) (by decide) ?_
  refine rn_istore_n (ls' := [some (.ref 53), some (.int v0), some (.int v1), some (.int (0 : Int32)), none, none, none]) (by exact dc_Md_emptyBodyCost 1 rfl) (by decide) (by exact rfl) ?_
  refine rn_iconst (v := (0 : Int32)) (by exact dc_Md_emptyBodyCost 2 rfl) (by decide) ?_
  refine rn_istore (ls' := [some (.ref 53), some (.int v0), some (.int v1), some (.int (0 : Int32)), some (.int (0 : Int32)), none, none]) (by exact dc_Md_emptyBodyCost 3 rfl) (by decide) (by exact rfl) ?_
  obtain ⟨y4, e1, h3⟩ := rn_bind h
  clear h
  have jx2 : Rn Z M_Md_emptyBodyCost 100 [none, none, none, some (.int y4), none, none, none] [] (emb g1 g2 x d c u t a b m o E) 0 0 (rn_Ret Z (some (.int res)) (emb g1 g2 x d c u t a b m o E)) := by
    refine rn_iload_n (by exact dc_Md_emptyBodyCost 55 rfl) (by exact rfl) ?_
    cases h3
    exact rn_ireturn (by exact dc_Md_emptyBodyCost 56 rfl) (by exact rfl)
  exact rn_weak _ (by repeat (first | exact rn_le_0 | apply rn_le_s | apply rn_le_x)) (p_Md_emptyBodyCost_L5 jx2 _ _ _ e1)
def F_Md_findEmptyable_L2  : Nat → tM → Int32 → Option tM
  | 0, _, _ => none
  | n + 1, m, l1 =>
    if (M_symbols m) ≤ l1 then (
      some m
    ) else (
      Option.bind (aS (M_emptyCost m) 6 l1 (-1 : Int32)) fun f2 =>
      F_Md_findEmptyable_L2  n (M_put_emptyCost m f2) (l1 + 1)
    )
set_option maxHeartbeats 4000000 in
set_option maxRecDepth 100000 in
theorem p_Md_findEmptyable_L2 {Z : rn_Z} {g1 g2 : Nat} {x : tX} {d : tD} {c : tC} {u : tU} {t : tT} {a : tG} {b : tG}  {o : tO} {E : List rn_C}   {K : rn_K} {ca sa : Nat} {mz : tM} (hx : Rn Z M_Md_findEmptyable 23 [some (.ref 53), none, none] [] (emb g1 g2 x d c u t a b mz o E) ca sa K) (n : Nat) : ∀ (m : tM) (l1 : Int32), F_Md_findEmptyable_L2  n m l1 = some mz → Rn Z M_Md_findEmptyable 2 [some (.ref 53), some (.int l1), none] [] (emb g1 g2 x d c u t a b m o E) ca sa K := by
  induction n with
  | zero =>
    intro m l1 h
    rw [F_Md_findEmptyable_L2] at h
    cases h
  | succ n ih =>
    intro m l1 h
    rw [F_Md_findEmptyable_L2] at h
    refine rn_iload_n (by exact dc_Md_findEmptyable 2 rfl) (by exact rfl) ?_
    refine rn_aload_n (by exact dc_Md_findEmptyable 3 rfl) (by exact rfl) ?_
    refine rn_getf (v := .int (M_symbols m)) fd_Md_99 (by exact dc_Md_findEmptyable 4 rfl) (by exact rfl) (by exact rfl) ?_
    by_cases c1 : (M_symbols m) ≤ l1
    · replace h := rn_ifp c1 h
      refine rn_icmp_ge_t 23 (by exact dc_Md_findEmptyable 5 rfl) (by exact rfl) c1 ?_
      cases h
      exact rn_weak _ (by repeat (first | exact rn_le_0 | apply rn_le_s | apply rn_le_x)) hx
    · replace h := rn_ifn c1 h
      refine rn_icmp_ge_f 23 (by exact dc_Md_findEmptyable 5 rfl) (by exact rfl) c1 ?_
      refine rn_aload_n (by exact dc_Md_findEmptyable 6 rfl) (by exact rfl) ?_
      refine rn_getf (v := .ref 65) fd_Md_44 (by exact dc_Md_findEmptyable 7 rfl) (by exact rfl) (by exact rfl) ?_
      refine rn_iload_n (by exact dc_Md_findEmptyable 8 rfl) (by exact rfl) ?_
      refine rn_iconst (v := (-1 : Int32)) (by exact dc_Md_findEmptyable 9 rfl) (by decide) ?_
      obtain ⟨f2, e3, h4⟩ := rn_bind h
      clear h
      refine rn_iastore (w2 := (emb g1 g2 x d c u t a b (M_put_emptyCost m f2) o E)) (by exact dc_Md_findEmptyable 10 rfl) (by exact rfl) e3 (by exact sm_emptyCost) ?_
      refine rn_iinc (ls' := [some (.ref 53), some (.int (l1 + 1)), none]) (by exact dc_Md_findEmptyable 11 rfl) (by decide) (by exact rfl) (by exact rn_inc_1 _) (by exact rfl) ?_
      refine rn_goto 2 (by exact dc_Md_findEmptyable 12 rfl) (by exact rfl) ?_
      exact rn_weak _ (by repeat (first | exact rn_le_0 | apply rn_le_s | apply rn_le_x)) (ih _ _ h4)
def F_Md_findEmptyable_L35 (l1 : Int32) : Nat → tM → Int32 → Option tM
  | 0, _, _ => none
  | n + 1, m, l2 =>
    if (M_rules m) ≤ l2 then (
      some m
    ) else (
      Option.bind (aG (M_heads m) 12 l2) fun x2 =>
      Option.bind (F_Md_emptyBodyCost m l2 (-1 : Int32)) fun x6 =>
      Option.bind (
        if x6 < 0 then (
          Option.bind (aG (M_heads m) 12 l2) fun x13 =>
          Option.bind (aG (M_emptyCost m) 6 x13) fun x16 =>
          some (x16 : Int32)
        ) else (
          some (0 : Int32)
        )
       : Option Int32) fun y8 =>
      Option.bind (aS (M_emptyCost m) 6 x2 y8) fun f19 =>
      F_Md_findEmptyable_L35 l1 n (M_put_emptyCost m f19) (l2 + 1)
    )
set_option maxHeartbeats 4000000 in
set_option maxRecDepth 100000 in
theorem p_Md_findEmptyable_L35 {Z : rn_Z} {g1 g2 : Nat} {x : tX} {d : tD} {c : tC} {u : tU} {t : tT} {a : tG} {b : tG}  {o : tO} {E : List rn_C}  {l1 : Int32} {K : rn_K} {ca sa : Nat} {mz : tM} (hx : Rn Z M_Md_findEmptyable 84 [some (.ref 53), some (.int l1), none] [] (emb g1 g2 x d c u t a b mz o E) ca sa K) (n : Nat) : ∀ (m : tM) (l2 : Int32), F_Md_findEmptyable_L35 l1 n m l2 = some mz → Rn Z M_Md_findEmptyable 35 [some (.ref 53), some (.int l1), some (.int l2)] [] (emb g1 g2 x d c u t a b m o E) ca sa K := by
  induction n with
  | zero =>
    intro m l2 h
    rw [F_Md_findEmptyable_L35] at h
    cases h
  | succ n ih =>
    intro m l2 h
    rw [F_Md_findEmptyable_L35] at h
    refine rn_iload_n (by exact dc_Md_findEmptyable 21 rfl) (by exact rfl) ?_
    refine rn_aload_n (by exact dc_Md_findEmptyable 22 rfl) (by exact rfl) ?_
    refine rn_getf (v := .int (M_rules m)) fd_Md_115 (by exact dc_Md_findEmptyable 23 rfl) (by exact rfl) (by exact rfl) ?_
    by_cases c1 : (M_rules m) ≤ l2
    · replace h := rn_ifp c1 h
      refine rn_icmp_ge_t 84 (by exact dc_Md_findEmptyable 24 rfl) (by exact rfl) c1 ?_
      cases h
      exact rn_weak _ (by repeat (first | exact rn_le_0 | apply rn_le_s | apply rn_le_x)) hx
    · replace h := rn_ifn c1 h
      refine rn_icmp_ge_f 84 (by exact dc_Md_findEmptyable 24 rfl) (by exact rfl) c1 ?_
      refine rn_aload_n (by exact dc_Md_findEmptyable 25 rfl) (by exact rfl) ?_
      refine rn_getf (v := .ref 65) fd_Md_44 (by exact dc_Md_findEmptyable 26 rfl) (by exact rfl) (by exact rfl) ?_
      refine rn_aload_n (by exact dc_Md_findEmptyable 27 rfl) (by exact rfl) ?_
      refine rn_getf (v := .ref 57) fd_Md_19 (by exact dc_Md_findEmptyable 28 rfl) (by exact rfl) (by exact rfl) ?_
      refine rn_iload_n (by exact dc_Md_findEmptyable 29 rfl) (by exact rfl) ?_
      obtain ⟨x2, e3, h4⟩ := rn_bind h
      clear h
      refine rn_iaload (by exact dc_Md_findEmptyable 30 rfl) (by exact rfl) e3 ?_
      refine rn_aload_n (by exact dc_Md_findEmptyable 31 rfl) (by exact rfl) ?_
      refine rn_iload_n (by exact dc_Md_findEmptyable 32 rfl) (by exact rfl) ?_
      refine rn_iconst (v := (-1 : Int32)) (by exact dc_Md_findEmptyable 33 rfl) (by decide) ?_
      obtain ⟨x6, e5, h7⟩ := rn_bind h4
      clear h4
      refine rn_invV0 (by exact c_Md_emptyBodyCost e5) iv_Md_137 (by exact ⟨Nat.le_of_ble_eq_true rfl, Nat.le_of_ble_eq_true rfl⟩) (by exact dc_Md_findEmptyable 34 rfl) (by exact rfl) (by exact rfl) (by exact rfl) (by exact Nat.le_of_ble_eq_true rfl) ?_
      show Rn _ _ 59 [some (.ref 53), some (.int l1), some (.int l2)] [.int x6, .int x2, .ref 65] (emb g1 g2 x d c u t a b m o E) _ _ _
      obtain ⟨y8, e9, h11⟩ := rn_bind h7
      clear h7
      have jq10 : Rn Z M_Md_findEmptyable 77 [some (.ref 53), some (.int l1), some (.int l2)] [.int y8, .int x2, .ref 65] (emb g1 g2 x d c u t a b m o E) ca sa K := by
        obtain ⟨f19, e20, h21⟩ := rn_bind h11
        clear h11
        refine rn_iastore (w2 := (emb g1 g2 x d c u t a b (M_put_emptyCost m f19) o E)) (by exact dc_Md_findEmptyable 45 rfl) (by exact rfl) e20 (by exact sm_emptyCost) ?_
        refine rn_iinc (ls' := [some (.ref 53), some (.int l1), some (.int (l2 + 1))]) (by exact dc_Md_findEmptyable 46 rfl) (by decide) (by exact rfl) (by exact rn_inc_1 _) (by exact rfl) ?_
        refine rn_goto 35 (by exact dc_Md_findEmptyable 47 rfl) (by exact rfl) ?_
        exact rn_weak _ (by repeat (first | exact rn_le_0 | apply rn_le_s | apply rn_le_x)) (ih _ _ h21)
      by_cases c12 : x6 < 0
      · replace e9 := rn_ifp c12 e9
        refine rn_if_lt_t 66 (by exact dc_Md_findEmptyable 35 rfl) (by exact rfl) c12 ?_
        refine rn_aload_n (by exact dc_Md_findEmptyable 38 rfl) (by exact rfl) ?_
        refine rn_getf (v := .ref 65) fd_Md_44 (by exact dc_Md_findEmptyable 39 rfl) (by exact rfl) (by exact rfl) ?_
        refine rn_aload_n (by exact dc_Md_findEmptyable 40 rfl) (by exact rfl) ?_
        refine rn_getf (v := .ref 57) fd_Md_19 (by exact dc_Md_findEmptyable 41 rfl) (by exact rfl) (by exact rfl) ?_
        refine rn_iload_n (by exact dc_Md_findEmptyable 42 rfl) (by exact rfl) ?_
        obtain ⟨x13, e14, h15⟩ := rn_bind e9
        clear e9
        refine rn_iaload (by exact dc_Md_findEmptyable 43 rfl) (by exact rfl) e14 ?_
        obtain ⟨x16, e17, h18⟩ := rn_bind h15
        clear h15
        refine rn_iaload (by exact dc_Md_findEmptyable 44 rfl) (by exact rfl) e17 ?_
        cases h18
        exact rn_weak _ (by repeat (first | exact rn_le_0 | apply rn_le_s | apply rn_le_x)) jq10
      · replace e9 := rn_ifn c12 e9
        refine rn_if_lt_f 66 (by exact dc_Md_findEmptyable 35 rfl) (by exact rfl) c12 ?_
        refine rn_iconst (v := (0 : Int32)) (by exact dc_Md_findEmptyable 36 rfl) (by decide) ?_
        refine rn_goto 77 (by exact dc_Md_findEmptyable 37 rfl) (by exact rfl) ?_
        cases e9
        exact rn_weak _ (by repeat (first | exact rn_le_0 | apply rn_le_s | apply rn_le_x)) jq10
def F_Md_findEmptyable_L25  : Nat → tM → Int32 → Option tM
  | 0, _, _ => none
  | n + 1, m, l1 =>
    if (M_symbols m) ≤ l1 then (
      some m
    ) else (
      Option.bind (F_Md_findEmptyable_L35 l1 rn_fu m (0 : Int32)) fun m5 =>
      F_Md_findEmptyable_L25  n m5 (l1 + 1)
    )
set_option maxHeartbeats 4000000 in
set_option maxRecDepth 100000 in
theorem p_Md_findEmptyable_L25 {Z : rn_Z} {g1 g2 : Nat} {x : tX} {d : tD} {c : tC} {u : tU} {t : tT} {a : tG} {b : tG}  {o : tO} {E : List rn_C}   {K : rn_K} {ca sa : Nat} {mz : tM} (hx : Rn Z M_Md_findEmptyable 90 [none, none, none] [] (emb g1 g2 x d c u t a b mz o E) ca sa K) (n : Nat) : ∀ (m : tM) (l1 : Int32), F_Md_findEmptyable_L25  n m l1 = some mz → Rn Z M_Md_findEmptyable 25 [some (.ref 53), some (.int l1), none] [] (emb g1 g2 x d c u t a b m o E) ca sa K := by
  induction n with
  | zero =>
    intro m l1 h
    rw [F_Md_findEmptyable_L25] at h
    cases h
  | succ n ih =>
    intro m l1 h
    rw [F_Md_findEmptyable_L25] at h
    refine rn_iload_n (by exact dc_Md_findEmptyable 15 rfl) (by exact rfl) ?_
    refine rn_aload_n (by exact dc_Md_findEmptyable 16 rfl) (by exact rfl) ?_
    refine rn_getf (v := .int (M_symbols m)) fd_Md_99 (by exact dc_Md_findEmptyable 17 rfl) (by exact rfl) (by exact rfl) ?_
    by_cases c1 : (M_symbols m) ≤ l1
    · replace h := rn_ifp c1 h
      refine rn_icmp_ge_t 90 (by exact dc_Md_findEmptyable 18 rfl) (by exact rfl) c1 ?_
      cases h
      exact rn_weak _ (by repeat (first | exact rn_le_0 | apply rn_le_s | apply rn_le_x)) hx
    · replace h := rn_ifn c1 h
      refine rn_icmp_ge_f 90 (by exact dc_Md_findEmptyable 18 rfl) (by exact rfl) c1 ?_
      refine rn_iconst (v := (0 : Int32)) (by exact dc_Md_findEmptyable 19 rfl) (by decide) ?_
      refine rn_istore_n (ls' := [some (.ref 53), some (.int l1), some (.int (0 : Int32))]) (by exact dc_Md_findEmptyable 20 rfl) (by decide) (by exact rfl) ?_
      obtain ⟨m5, e2, h4⟩ := rn_bind h
      clear h
      have jx3 : Rn Z M_Md_findEmptyable 84 [some (.ref 53), some (.int l1), none] [] (emb g1 g2 x d c u t a b m5 o E) ca sa K := by
        refine rn_iinc (ls' := [some (.ref 53), some (.int (l1 + 1)), none]) (by exact dc_Md_findEmptyable 48 rfl) (by decide) (by exact rfl) (by exact rn_inc_1 _) (by exact rfl) ?_
        refine rn_goto 25 (by exact dc_Md_findEmptyable 49 rfl) (by exact rfl) ?_
        exact rn_weak _ (by repeat (first | exact rn_le_0 | apply rn_le_s | apply rn_le_x)) (ih _ _ h4)
      exact rn_weak _ (by repeat (first | exact rn_le_0 | apply rn_le_s | apply rn_le_x)) (p_Md_findEmptyable_L35 jx3 _ _ _ e2)
def F_Md_findEmptyable (m : tM)  : Option tM :=
  Option.bind (F_Md_findEmptyable_L2  rn_fu m (0 : Int32)) fun m4 =>
  Option.bind (F_Md_findEmptyable_L25  rn_fu m4 (0 : Int32)) fun m8 =>
  some m8
set_option maxHeartbeats 4000000 in
set_option maxRecDepth 100000 in
theorem c_Md_findEmptyable {Z : rn_Z} {g1 g2 : Nat} {x : tX} {d : tD} {c : tC} {u : tU} {t : tT} {a : tG} {b : tG} {m : tM} {o : tO} {E : List rn_C}  {m_r : tM} (h : F_Md_findEmptyable m  = some m_r) : Call Z M_Md_findEmptyable [.ref 53] (emb g1 g2 x d c u t a b m o E) 0 0 none (emb g1 g2 x d c u t a b m_r o E) := by
  unfold F_Md_findEmptyable at h
  refine rn_call (by decide) 2 (by exact Nat.le_of_ble_eq_true rfl) ?_
  show Rn Z M_Md_findEmptyable 0 [some (.ref 53), none, none] [] (emb g1 g2 x d c u t a b m o E) 0 0 _
  refine rn_iconst (v := (0 : Int32)) (by exact dc_Md_findEmptyable 0 rfl) (by decide) ?_
  refine rn_istore_n (ls' := [some (.ref 53), some (.int (0 : Int32)), none]) (by exact dc_Md_findEmptyable 1 rfl) (by decide) (by exact rfl) ?_
  obtain ⟨m4, e1, h3⟩ := rn_bind h
  clear h
  have jx2 : Rn Z M_Md_findEmptyable 23 [some (.ref 53), none, none] [] (emb g1 g2 x d c u t a b m4 o E) 0 0 (rn_Ret Z none (emb g1 g2 x d c u t a b m_r o E)) := by
    refine rn_iconst (v := (0 : Int32)) (by exact dc_Md_findEmptyable 13 rfl) (by decide) ?_
    refine rn_istore_n (ls' := [some (.ref 53), some (.int (0 : Int32)), none]) (by exact dc_Md_findEmptyable 14 rfl) (by decide) (by exact rfl) ?_
    obtain ⟨m8, e5, h7⟩ := rn_bind h3
    clear h3
    have jx6 : Rn Z M_Md_findEmptyable 90 [none, none, none] [] (emb g1 g2 x d c u t a b m8 o E) 0 0 (rn_Ret Z none (emb g1 g2 x d c u t a b m_r o E)) := by
      cases h7
      exact rn_return (by exact dc_Md_findEmptyable 50 rfl) (by exact rfl)
    exact rn_weak _ (by repeat (first | exact rn_le_0 | apply rn_le_s | apply rn_le_x)) (p_Md_findEmptyable_L25 jx6 _ _ _ e5)
  exact rn_weak _ (by repeat (first | exact rn_le_0 | apply rn_le_s | apply rn_le_x)) (p_Md_findEmptyable_L2 jx2 _ _ _ e1)
def F_Md_loops_L19 (m : tM) (l3 : Int32) : Nat → Int64 → Int32 → Option Int64
  | 0, _, _ => none
  | n + 1, l1, l4 =>
    Option.bind (aG (M_lengths m) 12 l3) fun x1 =>
    if x1 ≤ l4 then (
      some l1
    ) else (
      Option.bind (aG (M_bodies m) 48 (((4 : Int32) * l3) + l4)) fun x5 =>
      Option.bind (F_Md_isLetter  x5) fun x9 =>
      Option.bind (
        if ¬ x9 = 0 then (
          some (l1 : Int64)
        ) else (
          Option.bind (F_Md_emptyBodyCost m l3 l4) fun x17 =>
          if x17 < 0 then (
            some (l1 : Int64)
          ) else (
            Option.bind (aG (M_heads m) 12 l3) fun x20 =>
            some (l1 ||| ((1 : Int64) <<< ((((6 : Int32) * x20) + x5).toInt64 &&& 63)) : Int64)
          )
        )
       : Option Int64) fun y11 =>
      F_Md_loops_L19 m l3 n y11 (l4 + 1)
    )
set_option maxHeartbeats 4000000 in
set_option maxRecDepth 100000 in
theorem p_Md_loops_L19 {Z : rn_Z} {g1 g2 : Nat} {x : tX} {d : tD} {c : tC} {u : tU} {t : tT} {a : tG} {b : tG} {m : tM} {o : tO} {E : List rn_C}  {l3 : Int32} {K : rn_K} {ca sa : Nat} {z1 : Int64} (hx : Rn Z M_Md_loops 89 [some (.ref 53), some (.long z1), none, some (.int l3), none, none] [] (emb g1 g2 x d c u t a b m o E) ca sa K) (n : Nat) : ∀ (l1 : Int64) (l4 : Int32), F_Md_loops_L19 m l3 n l1 l4 = some z1 → Rn Z M_Md_loops 19 [some (.ref 53), some (.long l1), none, some (.int l3), some (.int l4), none] [] (emb g1 g2 x d c u t a b m o E) ca sa K := by
  induction n with
  | zero =>
    intro l1 l4 h
    rw [F_Md_loops_L19] at h
    cases h
  | succ n ih =>
    intro l1 l4 h
    rw [F_Md_loops_L19] at h
    refine rn_iload (by exact dc_Md_loops 12 rfl) (by exact rfl) ?_
    refine rn_aload_n (by exact dc_Md_loops 13 rfl) (by exact rfl) ?_
    refine rn_getf (v := .ref 58) fd_Md_22 (by exact dc_Md_loops 14 rfl) (by exact rfl) (by exact rfl) ?_
    refine rn_iload_n (by exact dc_Md_loops 15 rfl) (by exact rfl) ?_
    obtain ⟨x1, e2, h3⟩ := rn_bind h
    clear h
    refine rn_iaload (by exact dc_Md_loops 16 rfl) (by exact rfl) e2 ?_
    by_cases c4 : x1 ≤ l4
    · replace h3 := rn_ifp c4 h3
      refine rn_icmp_ge_t 89 (by exact dc_Md_loops 17 rfl) (by exact rfl) c4 ?_
      cases h3
      exact rn_weak _ (by repeat (first | exact rn_le_0 | apply rn_le_s | apply rn_le_x)) hx
    · replace h3 := rn_ifn c4 h3
      refine rn_icmp_ge_f 89 (by exact dc_Md_loops 17 rfl) (by exact rfl) c4 ?_
      refine rn_aload_n (by exact dc_Md_loops 18 rfl) (by exact rfl) ?_
      refine rn_getf (v := .ref 59) fd_Md_25 (by exact dc_Md_loops 19 rfl) (by exact rfl) (by exact rfl) ?_
      refine rn_iconst (v := (4 : Int32)) (by exact dc_Md_loops 20 rfl) (by decide) ?_
      refine rn_iload_n (by exact dc_Md_loops 21 rfl) (by exact rfl) ?_
      refine rn_imul (by exact dc_Md_loops 22 rfl) ?_
      refine rn_iload (by exact dc_Md_loops 23 rfl) (by exact rfl) ?_
      refine rn_iadd (by exact dc_Md_loops 24 rfl) ?_
      obtain ⟨x5, e6, h7⟩ := rn_bind h3
      clear h3
      refine rn_iaload (by exact dc_Md_loops 25 rfl) (by exact rfl) e6 ?_
      refine rn_istore (ls' := [some (.ref 53), some (.long l1), none, some (.int l3), some (.int l4), some (.int x5)]) (by exact dc_Md_loops 26 rfl) (by decide) (by exact rfl) ?_
      refine rn_aload_n (by exact dc_Md_loops 27 rfl) (by exact rfl) ?_
      refine rn_iload (by exact dc_Md_loops 28 rfl) (by exact rfl) ?_
      obtain ⟨x9, e8, h10⟩ := rn_bind h7
      clear h7
      refine rn_invV0 (by exact c_Md_isLetter e8) iv_Md_134 (by exact ⟨Nat.le_of_ble_eq_true rfl, Nat.le_of_ble_eq_true rfl⟩) (by exact dc_Md_loops 29 rfl) (by exact rfl) (by exact rfl) (by exact rfl) (by exact Nat.le_of_ble_eq_true rfl) ?_
      show Rn _ _ 49 [some (.ref 53), some (.long l1), none, some (.int l3), some (.int l4), some (.int x5)] [.int x9] (emb g1 g2 x d c u t a b m o E) _ _ _
      obtain ⟨y11, e12, h14⟩ := rn_bind h10
      clear h10
      have jq13 : Rn Z M_Md_loops 82 [some (.ref 53), none, none, some (.int l3), some (.int l4), none] [.long y11] (emb g1 g2 x d c u t a b m o E) ca sa K := by
        refine rn_lstore_n (ls' := [some (.ref 53), some (.long y11), none, some (.int l3), some (.int l4), none]) (by exact dc_Md_loops 50 rfl) (by decide) (by exact rfl) ?_
        refine rn_iinc (ls' := [some (.ref 53), some (.long y11), none, some (.int l3), some (.int (l4 + 1)), none]) (by exact dc_Md_loops 51 rfl) (by decide) (by exact rfl) (by exact rn_inc_1 _) (by exact rfl) ?_
        refine rn_goto 19 (by exact dc_Md_loops 52 rfl) (by exact rfl) ?_
        exact rn_weak _ (by repeat (first | exact rn_le_0 | apply rn_le_s | apply rn_le_x)) (ih _ _ h14)
      by_cases c15 : ¬ x9 = 0
      · replace e12 := rn_ifp c15 e12
        refine rn_if_ne_t 81 (by exact dc_Md_loops 30 rfl) (by exact rfl) c15 ?_
        refine rn_lload_n (by exact dc_Md_loops 49 rfl) (by exact rfl) ?_
        cases e12
        exact rn_weak _ (by repeat (first | exact rn_le_0 | apply rn_le_s | apply rn_le_x)) jq13
      · replace e12 := rn_ifn c15 e12
        refine rn_if_ne_f 81 (by exact dc_Md_loops 30 rfl) (by exact rfl) (Classical.not_not.mp c15) ?_
        refine rn_aload_n (by exact dc_Md_loops 31 rfl) (by exact rfl) ?_
        refine rn_iload_n (by exact dc_Md_loops 32 rfl) (by exact rfl) ?_
        refine rn_iload (by exact dc_Md_loops 33 rfl) (by exact rfl) ?_
        obtain ⟨x17, e16, h18⟩ := rn_bind e12
        clear e12
        refine rn_invV0 (by exact c_Md_emptyBodyCost e16) iv_Md_137 (by exact ⟨Nat.le_of_ble_eq_true rfl, Nat.le_of_ble_eq_true rfl⟩) (by exact dc_Md_loops 34 rfl) (by exact rfl) (by exact rfl) (by exact rfl) (by exact Nat.le_of_ble_eq_true rfl) ?_
        show Rn _ _ 59 [some (.ref 53), some (.long l1), none, some (.int l3), some (.int l4), some (.int x5)] [.int x17] (emb g1 g2 x d c u t a b m o E) _ _ _
        by_cases c19 : x17 < 0
        · replace h18 := rn_ifp c19 h18
          refine rn_if_lt_t 81 (by exact dc_Md_loops 35 rfl) (by exact rfl) c19 ?_
          refine rn_lload_n (by exact dc_Md_loops 49 rfl) (by exact rfl) ?_
          cases h18
          exact rn_weak _ (by repeat (first | exact rn_le_0 | apply rn_le_s | apply rn_le_x)) jq13
        · replace h18 := rn_ifn c19 h18
          refine rn_if_lt_f 81 (by exact dc_Md_loops 35 rfl) (by exact rfl) c19 ?_
          refine rn_lload_n (by exact dc_Md_loops 36 rfl) (by exact rfl) ?_
          refine rn_lconst (v := (1 : Int64)) (by exact dc_Md_loops 37 rfl) (by decide) ?_
          refine rn_bipush (v := (6 : Int32)) (by exact dc_Md_loops 38 rfl) (by decide) ?_
          refine rn_aload_n (by exact dc_Md_loops 39 rfl) (by exact rfl) ?_
          refine rn_getf (v := .ref 57) fd_Md_19 (by exact dc_Md_loops 40 rfl) (by exact rfl) (by exact rfl) ?_
          refine rn_iload_n (by exact dc_Md_loops 41 rfl) (by exact rfl) ?_
          obtain ⟨x20, e21, h22⟩ := rn_bind h18
          clear h18
          refine rn_iaload (by exact dc_Md_loops 42 rfl) (by exact rfl) e21 ?_
          refine rn_imul (by exact dc_Md_loops 43 rfl) ?_
          refine rn_iload (by exact dc_Md_loops 44 rfl) (by exact rfl) ?_
          refine rn_iadd (by exact dc_Md_loops 45 rfl) ?_
          refine rn_lshl (by exact dc_Md_loops 46 rfl) ?_
          refine rn_lor (by exact dc_Md_loops 47 rfl) ?_
          refine rn_goto 82 (by exact dc_Md_loops 48 rfl) (by exact rfl) ?_
          cases h22
          exact rn_weak _ (by repeat (first | exact rn_le_0 | apply rn_le_s | apply rn_le_x)) jq13
def F_Md_loops_L8 (m : tM) : Nat → Int64 → Int32 → Option Int64
  | 0, _, _ => none
  | n + 1, l1, l3 =>
    if (M_rules m) ≤ l3 then (
      some l1
    ) else (
      Option.bind (F_Md_loops_L19 m l3 rn_fu l1 (0 : Int32)) fun y5 =>
      F_Md_loops_L8 m n y5 (l3 + 1)
    )
set_option maxHeartbeats 4000000 in
set_option maxRecDepth 100000 in
theorem p_Md_loops_L8 {Z : rn_Z} {g1 g2 : Nat} {x : tX} {d : tD} {c : tC} {u : tU} {t : tT} {a : tG} {b : tG} {m : tM} {o : tO} {E : List rn_C}   {K : rn_K} {ca sa : Nat} {z1 : Int64} (hx : Rn Z M_Md_loops 95 [none, some (.long z1), none, none, none, none] [] (emb g1 g2 x d c u t a b m o E) ca sa K) (n : Nat) : ∀ (l1 : Int64) (l3 : Int32), F_Md_loops_L8 m n l1 l3 = some z1 → Rn Z M_Md_loops 8 [some (.ref 53), some (.long l1), none, some (.int l3), none, none] [] (emb g1 g2 x d c u t a b m o E) ca sa K := by
  induction n with
  | zero =>
    intro l1 l3 h
    rw [F_Md_loops_L8] at h
    cases h
  | succ n ih =>
    intro l1 l3 h
    rw [F_Md_loops_L8] at h
    refine rn_iload_n (by exact dc_Md_loops 6 rfl) (by exact rfl) ?_
    refine rn_aload_n (by exact dc_Md_loops 7 rfl) (by exact rfl) ?_
    refine rn_getf (v := .int (M_rules m)) fd_Md_115 (by exact dc_Md_loops 8 rfl) (by exact rfl) (by exact rfl) ?_
    by_cases c1 : (M_rules m) ≤ l3
    · replace h := rn_ifp c1 h
      refine rn_icmp_ge_t 95 (by exact dc_Md_loops 9 rfl) (by exact rfl) c1 ?_
      cases h
      exact rn_weak _ (by repeat (first | exact rn_le_0 | apply rn_le_s | apply rn_le_x)) hx
    · replace h := rn_ifn c1 h
      refine rn_icmp_ge_f 95 (by exact dc_Md_loops 9 rfl) (by exact rfl) c1 ?_
      refine rn_iconst (v := (0 : Int32)) (by exact dc_Md_loops 10 rfl) (by decide) ?_
      refine rn_istore (ls' := [some (.ref 53), some (.long l1), none, some (.int l3), some (.int (0 : Int32)), none]) (by exact dc_Md_loops 11 rfl) (by decide) (by exact rfl) ?_
      obtain ⟨y5, e2, h4⟩ := rn_bind h
      clear h
      have jx3 : Rn Z M_Md_loops 89 [some (.ref 53), some (.long y5), none, some (.int l3), none, none] [] (emb g1 g2 x d c u t a b m o E) ca sa K := by
        refine rn_iinc (ls' := [some (.ref 53), some (.long y5), none, some (.int (l3 + 1)), none, none]) (by exact dc_Md_loops 53 rfl) (by decide) (by exact rfl) (by exact rn_inc_1 _) (by exact rfl) ?_
        refine rn_goto 8 (by exact dc_Md_loops 54 rfl) (by exact rfl) ?_
        exact rn_weak _ (by repeat (first | exact rn_le_0 | apply rn_le_s | apply rn_le_x)) (ih _ _ h4)
      exact rn_weak _ (by repeat (first | exact rn_le_0 | apply rn_le_s | apply rn_le_x)) (p_Md_loops_L19 jx3 _ _ _ e2)
def F_Md_loops_L106 (l3 : Int32) : Nat → Int64 → Int32 → Option Int64
  | 0, _, _ => none
  | n + 1, l1, l4 =>
    if (6 : Int32) ≤ l4 then (
      some l1
    ) else (
      Option.bind (
        if ¬ (lg_cmp ((l1 >>> ((((6 : Int32) * l4) + l3).toInt64 &&& 63)) &&& (1 : Int64)) (1 : Int64)) = 0 then (
          some (l1 : Int64)
        ) else (
          some (l1 ||| (((l1 >>> (((6 : Int32) * l3).toInt64 &&& 63)) &&& (63 : Int64)) <<< (((6 : Int32) * l4).toInt64 &&& 63)) : Int64)
        )
       : Option Int64) fun y2 =>
      F_Md_loops_L106 l3 n y2 (l4 + 1)
    )
set_option maxHeartbeats 4000000 in
set_option maxRecDepth 100000 in
theorem p_Md_loops_L106 {Z : rn_Z} {g1 g2 : Nat} {x : tX} {d : tD} {c : tC} {u : tU} {t : tT} {a : tG} {b : tG} {m : tM} {o : tO} {E : List rn_C}  {l3 : Int32} {K : rn_K} {ca sa : Nat} {z1 : Int64} (hx : Rn Z M_Md_loops 158 [none, some (.long z1), none, some (.int l3), none, none] [] (emb g1 g2 x d c u t a b m o E) ca sa K) (n : Nat) : ∀ (l1 : Int64) (l4 : Int32), F_Md_loops_L106 l3 n l1 l4 = some z1 → Rn Z M_Md_loops 106 [none, some (.long l1), none, some (.int l3), some (.int l4), none] [] (emb g1 g2 x d c u t a b m o E) ca sa K := by
  induction n with
  | zero =>
    intro l1 l4 h
    rw [F_Md_loops_L106] at h
    cases h
  | succ n ih =>
    intro l1 l4 h
    rw [F_Md_loops_L106] at h
    refine rn_iload (by exact dc_Md_loops 62 rfl) (by exact rfl) ?_
    refine rn_bipush (v := (6 : Int32)) (by exact dc_Md_loops 63 rfl) (by decide) ?_
    by_cases c1 : (6 : Int32) ≤ l4
    · replace h := rn_ifp c1 h
      refine rn_icmp_ge_t 158 (by exact dc_Md_loops 64 rfl) (by exact rfl) c1 ?_
      cases h
      exact rn_weak _ (by repeat (first | exact rn_le_0 | apply rn_le_s | apply rn_le_x)) hx
    · replace h := rn_ifn c1 h
      refine rn_icmp_ge_f 158 (by exact dc_Md_loops 64 rfl) (by exact rfl) c1 ?_
      refine rn_lload_n (by exact dc_Md_loops 65 rfl) (by exact rfl) ?_
      refine rn_bipush (v := (6 : Int32)) (by exact dc_Md_loops 66 rfl) (by decide) ?_
      refine rn_iload (by exact dc_Md_loops 67 rfl) (by exact rfl) ?_
      refine rn_imul (by exact dc_Md_loops 68 rfl) ?_
      refine rn_iload_n (by exact dc_Md_loops 69 rfl) (by exact rfl) ?_
      refine rn_iadd (by exact dc_Md_loops 70 rfl) ?_
      refine rn_lshr (by exact dc_Md_loops 71 rfl) ?_
      refine rn_lconst (v := (1 : Int64)) (by exact dc_Md_loops 72 rfl) (by decide) ?_
      refine rn_land (by exact dc_Md_loops 73 rfl) ?_
      refine rn_lconst (v := (1 : Int64)) (by exact dc_Md_loops 74 rfl) (by decide) ?_
      refine rn_lcmp (by exact dc_Md_loops 75 rfl) ?_
      obtain ⟨y2, e3, h5⟩ := rn_bind h
      clear h
      have jq4 : Rn Z M_Md_loops 151 [none, none, none, some (.int l3), some (.int l4), none] [.long y2] (emb g1 g2 x d c u t a b m o E) ca sa K := by
        refine rn_lstore_n (ls' := [none, some (.long y2), none, some (.int l3), some (.int l4), none]) (by exact dc_Md_loops 92 rfl) (by decide) (by exact rfl) ?_
        refine rn_iinc (ls' := [none, some (.long y2), none, some (.int l3), some (.int (l4 + 1)), none]) (by exact dc_Md_loops 93 rfl) (by decide) (by exact rfl) (by exact rn_inc_1 _) (by exact rfl) ?_
        refine rn_goto 106 (by exact dc_Md_loops 94 rfl) (by exact rfl) ?_
        exact rn_weak _ (by repeat (first | exact rn_le_0 | apply rn_le_s | apply rn_le_x)) (ih _ _ h5)
      by_cases c6 : ¬ (lg_cmp ((l1 >>> ((((6 : Int32) * l4) + l3).toInt64 &&& 63)) &&& (1 : Int64)) (1 : Int64)) = 0
      · replace e3 := rn_ifp c6 e3
        refine rn_if_ne_t 150 (by exact dc_Md_loops 76 rfl) (by exact rfl) c6 ?_
        refine rn_lload_n (by exact dc_Md_loops 91 rfl) (by exact rfl) ?_
        cases e3
        exact rn_weak _ (by repeat (first | exact rn_le_0 | apply rn_le_s | apply rn_le_x)) jq4
      · replace e3 := rn_ifn c6 e3
        refine rn_if_ne_f 150 (by exact dc_Md_loops 76 rfl) (by exact rfl) (Classical.not_not.mp c6) ?_
        refine rn_lload_n (by exact dc_Md_loops 77 rfl) (by exact rfl) ?_
        refine rn_lload_n (by exact dc_Md_loops 78 rfl) (by exact rfl) ?_
        refine rn_bipush (v := (6 : Int32)) (by exact dc_Md_loops 79 rfl) (by decide) ?_
        refine rn_iload_n (by exact dc_Md_loops 80 rfl) (by exact rfl) ?_
        refine rn_imul (by exact dc_Md_loops 81 rfl) ?_
        refine rn_lshr (by exact dc_Md_loops 82 rfl) ?_
        refine rn_ldc2 (v := (63 : Int64)) (by exact dc_Md_loops 83 rfl) kl_Md_144 ?_
        refine rn_land (by exact dc_Md_loops 84 rfl) ?_
        refine rn_bipush (v := (6 : Int32)) (by exact dc_Md_loops 85 rfl) (by decide) ?_
        refine rn_iload (by exact dc_Md_loops 86 rfl) (by exact rfl) ?_
        refine rn_imul (by exact dc_Md_loops 87 rfl) ?_
        refine rn_lshl (by exact dc_Md_loops 88 rfl) ?_
        refine rn_lor (by exact dc_Md_loops 89 rfl) ?_
        refine rn_goto 151 (by exact dc_Md_loops 90 rfl) (by exact rfl) ?_
        cases e3
        exact rn_weak _ (by repeat (first | exact rn_le_0 | apply rn_le_s | apply rn_le_x)) jq4
def F_Md_loops_L97  : Nat → Int64 → Int32 → Option Int64
  | 0, _, _ => none
  | n + 1, l1, l3 =>
    if (6 : Int32) ≤ l3 then (
      some l1
    ) else (
      Option.bind (F_Md_loops_L106 l3 rn_fu l1 (0 : Int32)) fun y5 =>
      F_Md_loops_L97  n y5 (l3 + 1)
    )
set_option maxHeartbeats 4000000 in
set_option maxRecDepth 100000 in
theorem p_Md_loops_L97 {Z : rn_Z} {g1 g2 : Nat} {x : tX} {d : tD} {c : tC} {u : tU} {t : tT} {a : tG} {b : tG} {m : tM} {o : tO} {E : List rn_C}   {K : rn_K} {ca sa : Nat} {z1 : Int64} (hx : Rn Z M_Md_loops 164 [none, some (.long z1), none, none, none, none] [] (emb g1 g2 x d c u t a b m o E) ca sa K) (n : Nat) : ∀ (l1 : Int64) (l3 : Int32), F_Md_loops_L97  n l1 l3 = some z1 → Rn Z M_Md_loops 97 [none, some (.long l1), none, some (.int l3), none, none] [] (emb g1 g2 x d c u t a b m o E) ca sa K := by
  induction n with
  | zero =>
    intro l1 l3 h
    rw [F_Md_loops_L97] at h
    cases h
  | succ n ih =>
    intro l1 l3 h
    rw [F_Md_loops_L97] at h
    refine rn_iload_n (by exact dc_Md_loops 57 rfl) (by exact rfl) ?_
    refine rn_bipush (v := (6 : Int32)) (by exact dc_Md_loops 58 rfl) (by decide) ?_
    by_cases c1 : (6 : Int32) ≤ l3
    · replace h := rn_ifp c1 h
      refine rn_icmp_ge_t 164 (by exact dc_Md_loops 59 rfl) (by exact rfl) c1 ?_
      cases h
      exact rn_weak _ (by repeat (first | exact rn_le_0 | apply rn_le_s | apply rn_le_x)) hx
    · replace h := rn_ifn c1 h
      refine rn_icmp_ge_f 164 (by exact dc_Md_loops 59 rfl) (by exact rfl) c1 ?_
      refine rn_iconst (v := (0 : Int32)) (by exact dc_Md_loops 60 rfl) (by decide) ?_
      refine rn_istore (ls' := [none, some (.long l1), none, some (.int l3), some (.int (0 : Int32)), none]) (by exact dc_Md_loops 61 rfl) (by decide) (by exact rfl) ?_
      obtain ⟨y5, e2, h4⟩ := rn_bind h
      clear h
      have jx3 : Rn Z M_Md_loops 158 [none, some (.long y5), none, some (.int l3), none, none] [] (emb g1 g2 x d c u t a b m o E) ca sa K := by
        refine rn_iinc (ls' := [none, some (.long y5), none, some (.int (l3 + 1)), none, none]) (by exact dc_Md_loops 95 rfl) (by decide) (by exact rfl) (by exact rn_inc_1 _) (by exact rfl) ?_
        refine rn_goto 97 (by exact dc_Md_loops 96 rfl) (by exact rfl) ?_
        exact rn_weak _ (by repeat (first | exact rn_le_0 | apply rn_le_s | apply rn_le_x)) (ih _ _ h4)
      exact rn_weak _ (by repeat (first | exact rn_le_0 | apply rn_le_s | apply rn_le_x)) (p_Md_loops_L106 jx3 _ _ _ e2)
def F_Md_loops_L169 (l1 : Int64) : Nat → Int32 → Int32 → Option Int32
  | 0, _, _ => none
  | n + 1, l3, l4 =>
    if (6 : Int32) ≤ l4 then (
      some l3
    ) else (
      Option.bind (
        if ¬ l3 = 0 then (
          some (1 : Int32)
        ) else (
          if ¬ (lg_cmp ((l1 >>> (((7 : Int32) * l4).toInt64 &&& 63)) &&& (1 : Int64)) (1 : Int64)) = 0 then (
            some (0 : Int32)
          ) else (
            some (1 : Int32)
          )
        )
       : Option Int32) fun y2 =>
      F_Md_loops_L169 l1 n y2 (l4 + 1)
    )
set_option maxHeartbeats 4000000 in
set_option maxRecDepth 100000 in
theorem p_Md_loops_L169 {Z : rn_Z} {g1 g2 : Nat} {x : tX} {d : tD} {c : tC} {u : tU} {t : tT} {a : tG} {b : tG} {m : tM} {o : tO} {E : List rn_C}  {l1 : Int64} {K : rn_K} {ca sa : Nat} {z3 : Int32} (hx : Rn Z M_Md_loops 206 [none, none, none, some (.int z3), none, none] [] (emb g1 g2 x d c u t a b m o E) ca sa K) (n : Nat) : ∀ (l3 : Int32) (l4 : Int32), F_Md_loops_L169 l1 n l3 l4 = some z3 → Rn Z M_Md_loops 169 [none, some (.long l1), none, some (.int l3), some (.int l4), none] [] (emb g1 g2 x d c u t a b m o E) ca sa K := by
  induction n with
  | zero =>
    intro l3 l4 h
    rw [F_Md_loops_L169] at h
    cases h
  | succ n ih =>
    intro l3 l4 h
    rw [F_Md_loops_L169] at h
    refine rn_iload (by exact dc_Md_loops 101 rfl) (by exact rfl) ?_
    refine rn_bipush (v := (6 : Int32)) (by exact dc_Md_loops 102 rfl) (by decide) ?_
    by_cases c1 : (6 : Int32) ≤ l4
    · replace h := rn_ifp c1 h
      refine rn_icmp_ge_t 206 (by exact dc_Md_loops 103 rfl) (by exact rfl) c1 ?_
      cases h
      exact rn_weak _ (by repeat (first | exact rn_le_0 | apply rn_le_s | apply rn_le_x)) hx
    · replace h := rn_ifn c1 h
      refine rn_icmp_ge_f 206 (by exact dc_Md_loops 103 rfl) (by exact rfl) c1 ?_
      refine rn_iload_n (by exact dc_Md_loops 104 rfl) (by exact rfl) ?_
      obtain ⟨y2, e3, h5⟩ := rn_bind h
      clear h
      have jq4 : Rn Z M_Md_loops 199 [none, some (.long l1), none, none, some (.int l4), none] [.int y2] (emb g1 g2 x d c u t a b m o E) ca sa K := by
        refine rn_istore_n (ls' := [none, some (.long l1), none, some (.int y2), some (.int l4), none]) (by exact dc_Md_loops 119 rfl) (by decide) (by exact rfl) ?_
        refine rn_iinc (ls' := [none, some (.long l1), none, some (.int y2), some (.int (l4 + 1)), none]) (by exact dc_Md_loops 120 rfl) (by decide) (by exact rfl) (by exact rn_inc_1 _) (by exact rfl) ?_
        refine rn_goto 169 (by exact dc_Md_loops 121 rfl) (by exact rfl) ?_
        exact rn_weak _ (by repeat (first | exact rn_le_0 | apply rn_le_s | apply rn_le_x)) (ih _ _ h5)
      by_cases c6 : ¬ l3 = 0
      · replace e3 := rn_ifp c6 e3
        refine rn_if_ne_t 194 (by exact dc_Md_loops 105 rfl) (by exact rfl) c6 ?_
        refine rn_iconst (v := (1 : Int32)) (by exact dc_Md_loops 116 rfl) (by decide) ?_
        refine rn_goto 199 (by exact dc_Md_loops 117 rfl) (by exact rfl) ?_
        cases e3
        exact rn_weak _ (by repeat (first | exact rn_le_0 | apply rn_le_s | apply rn_le_x)) jq4
      · replace e3 := rn_ifn c6 e3
        refine rn_if_ne_f 194 (by exact dc_Md_loops 105 rfl) (by exact rfl) (Classical.not_not.mp c6) ?_
        refine rn_lload_n (by exact dc_Md_loops 106 rfl) (by exact rfl) ?_
        refine rn_bipush (v := (7 : Int32)) (by exact dc_Md_loops 107 rfl) (by decide) ?_
        refine rn_iload (by exact dc_Md_loops 108 rfl) (by exact rfl) ?_
        refine rn_imul (by exact dc_Md_loops 109 rfl) ?_
        refine rn_lshr (by exact dc_Md_loops 110 rfl) ?_
        refine rn_lconst (v := (1 : Int64)) (by exact dc_Md_loops 111 rfl) (by decide) ?_
        refine rn_land (by exact dc_Md_loops 112 rfl) ?_
        refine rn_lconst (v := (1 : Int64)) (by exact dc_Md_loops 113 rfl) (by decide) ?_
        refine rn_lcmp (by exact dc_Md_loops 114 rfl) ?_
        by_cases c7 : ¬ (lg_cmp ((l1 >>> (((7 : Int32) * l4).toInt64 &&& 63)) &&& (1 : Int64)) (1 : Int64)) = 0
        · replace e3 := rn_ifp c7 e3
          refine rn_if_ne_t 198 (by exact dc_Md_loops 115 rfl) (by exact rfl) c7 ?_
          refine rn_iconst (v := (0 : Int32)) (by exact dc_Md_loops 118 rfl) (by decide) ?_
          cases e3
          exact rn_weak _ (by repeat (first | exact rn_le_0 | apply rn_le_s | apply rn_le_x)) jq4
        · replace e3 := rn_ifn c7 e3
          refine rn_if_ne_f 198 (by exact dc_Md_loops 115 rfl) (by exact rfl) (Classical.not_not.mp c7) ?_
          refine rn_iconst (v := (1 : Int32)) (by exact dc_Md_loops 116 rfl) (by decide) ?_
          refine rn_goto 199 (by exact dc_Md_loops 117 rfl) (by exact rfl) ?_
          cases e3
          exact rn_weak _ (by repeat (first | exact rn_le_0 | apply rn_le_s | apply rn_le_x)) jq4
def F_Md_loops (m : tM)  : Option (Int32 × tM) :=
  Option.bind (F_Md_findEmptyable m ) fun m2 =>
  Option.bind (F_Md_loops_L8 m2 rn_fu (0 : Int64) (0 : Int32)) fun y7 =>
  Option.bind (F_Md_loops_L97  rn_fu y7 (0 : Int32)) fun y11 =>
  Option.bind (F_Md_loops_L169 y11 rn_fu (0 : Int32) (0 : Int32)) fun y15 =>
  Option.bind (rn_bl y15) fun y16 =>
  some (y16, m2)
set_option maxHeartbeats 4000000 in
set_option maxRecDepth 100000 in
theorem c_Md_loops {Z : rn_Z} {g1 g2 : Nat} {x : tX} {d : tD} {c : tC} {u : tU} {t : tT} {a : tG} {b : tG} {m : tM} {o : tO} {E : List rn_C}  {res : Int32} {m_r : tM} (h : F_Md_loops m  = some (res, m_r)) : Call Z M_Md_loops [.ref 53] (emb g1 g2 x d c u t a b m o E) 0 0 (some (.int res)) (emb g1 g2 x d c u t a b m_r o E) := by
  unfold F_Md_loops at h
  refine rn_call (by decide) 5 (by exact Nat.le_of_ble_eq_true rfl) ?_
  show Rn Z M_Md_loops 0 [some (.ref 53), none, none, none, none, none] [] (emb g1 g2 x d c u t a b m o E) 0 0 _
  refine rn_aload_n (by exact dc_Md_loops 0 rfl) (by exact rfl) ?_
  obtain ⟨m2, e1, h3⟩ := rn_bind h
  clear h
  refine rn_invV0 (by exact c_Md_findEmptyable e1) iv_Md_141 (by exact ⟨Nat.le_of_ble_eq_true rfl, Nat.le_of_ble_eq_true rfl⟩) (by exact dc_Md_loops 1 rfl) (by exact rfl) (by exact rfl) (by exact rfl) (by exact Nat.le_of_ble_eq_true rfl) ?_
  show Rn _ _ 4 [some (.ref 53), none, none, none, none, none] [] (emb g1 g2 x d c u t a b m2 o E) _ _ _
  refine rn_lconst (v := (0 : Int64)) (by exact dc_Md_loops 2 rfl) (by decide) ?_
  refine rn_lstore_n (ls' := [some (.ref 53), some (.long (0 : Int64)), none, none, none, none]) (by exact dc_Md_loops 3 rfl) (by decide) (by exact rfl) ?_
  refine rn_iconst (v := (0 : Int32)) (by exact dc_Md_loops 4 rfl) (by decide) ?_
  refine rn_istore_n (ls' := [some (.ref 53), some (.long (0 : Int64)), none, some (.int (0 : Int32)), none, none]) (by exact dc_Md_loops 5 rfl) (by decide) (by exact rfl) ?_
  obtain ⟨y7, e4, h6⟩ := rn_bind h3
  clear h3
  have jx5 : Rn Z M_Md_loops 95 [none, some (.long y7), none, none, none, none] [] (emb g1 g2 x d c u t a b m2 o E) 0 0 (rn_Ret Z (some (.int res)) (emb g1 g2 x d c u t a b m_r o E)) := by
    refine rn_iconst (v := (0 : Int32)) (by exact dc_Md_loops 55 rfl) (by decide) ?_
    refine rn_istore_n (ls' := [none, some (.long y7), none, some (.int (0 : Int32)), none, none]) (by exact dc_Md_loops 56 rfl) (by decide) (by exact rfl) ?_
    obtain ⟨y11, e8, h10⟩ := rn_bind h6
    clear h6
    have jx9 : Rn Z M_Md_loops 164 [none, some (.long y11), none, none, none, none] [] (emb g1 g2 x d c u t a b m2 o E) 0 0 (rn_Ret Z (some (.int res)) (emb g1 g2 x d c u t a b m_r o E)) := by
      refine rn_iconst (v := (0 : Int32)) (by exact dc_Md_loops 97 rfl) (by decide) ?_
      refine rn_istore_n (ls' := [none, some (.long y11), none, some (.int (0 : Int32)), none, none]) (by exact dc_Md_loops 98 rfl) (by decide) (by exact rfl) ?_
      refine rn_iconst (v := (0 : Int32)) (by exact dc_Md_loops 99 rfl) (by decide) ?_
      refine rn_istore (ls' := [none, some (.long y11), none, some (.int (0 : Int32)), some (.int (0 : Int32)), none]) (by exact dc_Md_loops 100 rfl) (by decide) (by exact rfl) ?_
      obtain ⟨y15, e12, h14⟩ := rn_bind h10
      clear h10
      have jx13 : Rn Z M_Md_loops 206 [none, none, none, some (.int y15), none, none] [] (emb g1 g2 x d c u t a b m2 o E) 0 0 (rn_Ret Z (some (.int res)) (emb g1 g2 x d c u t a b m_r o E)) := by
        refine rn_iload_n (by exact dc_Md_loops 122 rfl) (by exact rfl) ?_
        obtain ⟨y16, e17, h19⟩ := rn_bind h14
        clear h14
        obtain ⟨rfl, hb18⟩ := rn_bl_some e17
        cases h19
        exact rn_zreturn (by exact dc_Md_loops 123 rfl) (by exact rfl) hb18
      exact rn_weak _ (by repeat (first | exact rn_le_0 | apply rn_le_s | apply rn_le_x)) (p_Md_loops_L169 jx13 _ _ _ e12)
    exact rn_weak _ (by repeat (first | exact rn_le_0 | apply rn_le_s | apply rn_le_x)) (p_Md_loops_L97 jx9 _ _ _ e8)
  exact rn_weak _ (by repeat (first | exact rn_le_0 | apply rn_le_s | apply rn_le_x)) (p_Md_loops_L8 jx5 _ _ _ e4)
