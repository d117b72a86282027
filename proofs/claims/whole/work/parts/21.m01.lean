def F_Gr_clear (b : tG)  : Option tG :=
  some (G_heads b, G_bodies b, G_bodyLengths b, G_weights b, G_costs b, G_capitals b, G_order b, (0 : Int32), (0 : Int32), G_reached b)
set_option maxHeartbeats 4000000 in
set_option maxRecDepth 100000 in
theorem c_Gr_clear_b {Z : rn_Z} {g1 g2 : Nat} {x : tX} {d : tD} {c : tC} {u : tU} {t : tT} {a : tG} {b : tG} {m : tM} {o : tO} {E : List rn_C}  {b_r : tG} (h : F_Gr_clear b  = some b_r) : Call Z M_Gr_clear [.ref 44] (emb g1 g2 x d c u t a b m o E) 0 0 none (emb g1 g2 x d c u t a b_r m o E) := by
  unfold F_Gr_clear at h
  refine rn_call (by decide) 0 (by exact Nat.le_of_ble_eq_true rfl) ?_
  show Rn Z M_Gr_clear 0 [some (.ref 44)] [] (emb g1 g2 x d c u t a b m o E) 0 0 _
  refine rn_aload_n (by exact dc_Gr_clear 0 rfl) (by exact rfl) ?_
  refine rn_iconst (v := (0 : Int32)) (by exact dc_Gr_clear 1 rfl) (by decide) ?_
  refine rn_putf (w2 := (emb g1 g2 x d c u t a (G_heads b, G_bodies b, G_bodyLengths b, G_weights b, G_costs b, G_capitals b, G_order b, (0 : Int32), G_nonterminalCount b, G_reached b) m o E)) fd_Gr_34 (by exact dc_Gr_clear 2 rfl) (by exact rfl) (by exact rfl) (by exact Nat.le_of_ble_eq_true rfl) (by exact rfl) ?_
  refine rn_aload_n (by exact dc_Gr_clear 3 rfl) (by exact rfl) ?_
  refine rn_iconst (v := (0 : Int32)) (by exact dc_Gr_clear 4 rfl) (by decide) ?_
  refine rn_putf (w2 := (emb g1 g2 x d c u t a (G_heads b, G_bodies b, G_bodyLengths b, G_weights b, G_costs b, G_capitals b, G_order b, (0 : Int32), (0 : Int32), G_reached b) m o E)) fd_Gr_38 (by exact dc_Gr_clear 5 rfl) (by exact rfl) (by exact rfl) (by exact Nat.le_of_ble_eq_true rfl) (by exact rfl) ?_
  cases h
  exact rn_return (by exact dc_Gr_clear 6 rfl) (by exact rfl)
def F_Gr_symbol (b : tG) (v0 : Int32) (v1 : Int32) : Option Int32 :=
  Option.bind (aG (G_bodies b) 48 ((v0 * (4 : Int32)) + v1)) fun x1 =>
  some x1
set_option maxHeartbeats 4000000 in
set_option maxRecDepth 100000 in
theorem c_Gr_symbol_b {Z : rn_Z} {g1 g2 : Nat} {x : tX} {d : tD} {c : tC} {u : tU} {t : tT} {a : tG} {b : tG} {m : tM} {o : tO} {E : List rn_C} {v0 : Int32} {v1 : Int32} {res : Int32} (h : F_Gr_symbol b v0 v1 = some res) : Call Z M_Gr_symbol [.ref 44, .int v0, .int v1] (emb g1 g2 x d c u t a b m o E) 0 0 (some (.int res)) (emb g1 g2 x d c u t a b m o E) := by
  unfold F_Gr_symbol at h
  refine rn_call (by decide) 0 (by exact Nat.le_of_ble_eq_true rfl) ?_
  show Rn Z M_Gr_symbol 0 [some (.ref 44), some (.int v0), some (.int v1)] [] (emb g1 g2 x d c u t a b m o E) 0 0 _
  refine rn_aload_n (by exact dc_Gr_symbol 0 rfl) (by exact rfl) ?_
  refine rn_getf (v := .ref 46) fd_Gr_15 (by exact dc_Gr_symbol 1 rfl) (by exact rfl) (by exact rfl) ?_
  refine rn_iload_n (by exact dc_Gr_symbol 2 rfl) (by exact rfl) ?_
  refine rn_iconst (v := (4 : Int32)) (by exact dc_Gr_symbol 3 rfl) (by decide) ?_
  refine rn_imul (by exact dc_Gr_symbol 4 rfl) ?_
  refine rn_iload_n (by exact dc_Gr_symbol 5 rfl) (by exact rfl) ?_
  refine rn_iadd (by exact dc_Gr_symbol 6 rfl) ?_
  obtain ⟨x1, e2, h3⟩ := rn_bind h
  clear h
  refine rn_iaload (by exact dc_Gr_symbol 7 rfl) (by exact rfl) e2 ?_
  cases h3
  exact rn_ireturn (by exact dc_Gr_symbol 8 rfl) (by exact rfl)
def F_Gr_isNonterminal (v0 : Int32) : Option Int32 :=
  Option.bind (
    if (6 : Int32) ≤ v0 then (
      some (0 : Int32)
    ) else (
      some (1 : Int32)
    )
   : Option Int32) fun y1 =>
  Option.bind (rn_bl y1) fun y6 =>
  some y6
set_option maxHeartbeats 4000000 in
set_option maxRecDepth 100000 in
theorem c_Gr_isNonterminal {Z : rn_Z} {g1 g2 : Nat} {x : tX} {d : tD} {c : tC} {u : tU} {t : tT} {a : tG} {b : tG} {m : tM} {o : tO} {E : List rn_C} {v0 : Int32} {res : Int32} (h : F_Gr_isNonterminal  v0 = some res) : Call Z M_Gr_isNonterminal [.int v0] (emb g1 g2 x d c u t a b m o E) 0 0 (some (.int res)) (emb g1 g2 x d c u t a b m o E) := by
  unfold F_Gr_isNonterminal at h
  refine rn_call (by decide) 0 (by exact Nat.le_of_ble_eq_true rfl) ?_
  show Rn Z M_Gr_isNonterminal 0 [some (.int v0)] [] (emb g1 g2 x d c u t a b m o E) 0 0 _
  refine rn_iload_n (by exact dc_Gr_isNonterminal 0 rfl) (by exact rfl) ?_
  refine rn_bipush (v := (6 : Int32)) (by exact dc_Gr_isNonterminal 1 rfl) (by decide) ?_
  obtain ⟨y1, e2, h4⟩ := rn_bind h
  clear h
  have jq3 : Rn Z M_Gr_isNonterminal 11 [none] [.int y1] (emb g1 g2 x d c u t a b m o E) 0 0 (rn_Ret Z (some (.int res)) (emb g1 g2 x d c u t a b m o E)) := by
    obtain ⟨y6, e7, h9⟩ := rn_bind h4
    clear h4
    obtain ⟨rfl, hb8⟩ := rn_bl_some e7
    cases h9
    exact rn_zreturn (by exact dc_Gr_isNonterminal 6 rfl) (by exact rfl) hb8
  by_cases c5 : (6 : Int32) ≤ v0
  · replace e2 := rn_ifp c5 e2
    refine rn_icmp_ge_t 10 (by exact dc_Gr_isNonterminal 2 rfl) (by exact rfl) c5 ?_
    refine rn_iconst (v := (0 : Int32)) (by exact dc_Gr_isNonterminal 5 rfl) (by decide) ?_
    cases e2
    exact rn_weak _ (by repeat (first | exact rn_le_0 | apply rn_le_s | apply rn_le_x)) jq3
  · replace e2 := rn_ifn c5 e2
    refine rn_icmp_ge_f 10 (by exact dc_Gr_isNonterminal 2 rfl) (by exact rfl) c5 ?_
    refine rn_iconst (v := (1 : Int32)) (by exact dc_Gr_isNonterminal 3 rfl) (by decide) ?_
    refine rn_goto 11 (by exact dc_Gr_isNonterminal 4 rfl) (by exact rfl) ?_
    cases e2
    exact rn_weak _ (by repeat (first | exact rn_le_0 | apply rn_le_s | apply rn_le_x)) jq3
def F_Gr_hasBit (v0 : Int32) (v1 : Int32) : Option Int32 :=
  Option.bind (
    if ((v0 >>> (v1 &&& 31)) &&& (1 : Int32)) = 0 then (
      some (0 : Int32)
    ) else (
      some (1 : Int32)
    )
   : Option Int32) fun y1 =>
  Option.bind (rn_bl y1) fun y6 =>
  some y6
set_option maxHeartbeats 4000000 in
set_option maxRecDepth 100000 in
theorem c_Gr_hasBit {Z : rn_Z} {g1 g2 : Nat} {x : tX} {d : tD} {c : tC} {u : tU} {t : tT} {a : tG} {b : tG} {m : tM} {o : tO} {E : List rn_C} {v0 : Int32} {v1 : Int32} {res : Int32} (h : F_Gr_hasBit  v0 v1 = some res) : Call Z M_Gr_hasBit [.int v0, .int v1] (emb g1 g2 x d c u t a b m o E) 0 0 (some (.int res)) (emb g1 g2 x d c u t a b m o E) := by
  unfold F_Gr_hasBit at h
  refine rn_call (by decide) 0 (by exact Nat.le_of_ble_eq_true rfl) ?_
  show Rn Z M_Gr_hasBit 0 [some (.int v0), some (.int v1)] [] (emb g1 g2 x d c u t a b m o E) 0 0 _
  refine rn_iload_n (by exact dc_Gr_hasBit 0 rfl) (by exact rfl) ?_
  refine rn_iload_n (by exact dc_Gr_hasBit 1 rfl) (by exact rfl) ?_
  refine rn_ishr (by exact dc_Gr_hasBit 2 rfl) ?_
  refine rn_iconst (v := (1 : Int32)) (by exact dc_Gr_hasBit 3 rfl) (by decide) ?_
  refine rn_iand (by exact dc_Gr_hasBit 4 rfl) ?_
  obtain ⟨y1, e2, h4⟩ := rn_bind h
  clear h
  have jq3 : Rn Z M_Gr_hasBit 13 [none, none] [.int y1] (emb g1 g2 x d c u t a b m o E) 0 0 (rn_Ret Z (some (.int res)) (emb g1 g2 x d c u t a b m o E)) := by
    obtain ⟨y6, e7, h9⟩ := rn_bind h4
    clear h4
    obtain ⟨rfl, hb8⟩ := rn_bl_some e7
    cases h9
    exact rn_zreturn (by exact dc_Gr_hasBit 9 rfl) (by exact rfl) hb8
  by_cases c5 : ((v0 >>> (v1 &&& 31)) &&& (1 : Int32)) = 0
  · replace e2 := rn_ifp c5 e2
    refine rn_if_eq_t 12 (by exact dc_Gr_hasBit 5 rfl) (by exact rfl) c5 ?_
    refine rn_iconst (v := (0 : Int32)) (by exact dc_Gr_hasBit 8 rfl) (by decide) ?_
    cases e2
    exact rn_weak _ (by repeat (first | exact rn_le_0 | apply rn_le_s | apply rn_le_x)) jq3
  · replace e2 := rn_ifn c5 e2
    refine rn_if_eq_f 12 (by exact dc_Gr_hasBit 5 rfl) (by exact rfl) c5 ?_
    refine rn_iconst (v := (1 : Int32)) (by exact dc_Gr_hasBit 6 rfl) (by decide) ?_
    refine rn_goto 13 (by exact dc_Gr_hasBit 7 rfl) (by exact rfl) ?_
    cases e2
    exact rn_weak _ (by repeat (first | exact rn_le_0 | apply rn_le_s | apply rn_le_x)) jq3
def F_Gr_vanishes_L3 (b : tG) (l1 : Int32) (l2 : Int32) (l3 : Int32) : Nat → Int32 → Option (Int32 ⊕ Unit)
  | 0, _ => none
  | n + 1, l4 =>
    Option.bind (aG (G_bodyLengths b) 12 l1) fun x1 =>
    if x1 ≤ l4 then (
      some (.inr ())
    ) else (
      Option.bind (F_Gr_symbol b l1 l4) fun x6 =>
      if l4 = l2 then (
        F_Gr_vanishes_L3 b l1 l2 l3 n (l4 + 1)
      ) else (
        Option.bind (F_Gr_isNonterminal  x6) fun x10 =>
        if x10 = 0 then (
          some (.inl (0 : Int32))
        ) else (
          Option.bind (F_Gr_hasBit  l3 x6) fun x14 =>
          if ¬ x14 = 0 then (
            F_Gr_vanishes_L3 b l1 l2 l3 n (l4 + 1)
          ) else (
            some (.inl (0 : Int32))
          )
        )
      )
    )
set_option maxHeartbeats 4000000 in
set_option maxRecDepth 100000 in
theorem p_Gr_vanishes_L3_b {Z : rn_Z} {g1 g2 : Nat} {x : tX} {d : tD} {c : tC} {u : tU} {t : tT} {a : tG} {b : tG} {m : tM} {o : tO} {E : List rn_C}  {l1 : Int32} {l2 : Int32} {l3 : Int32} {K : rn_K} {ca sa : Nat} {out : (Int32 ⊕ Unit)} (hx : out = .inr () → Rn Z M_Gr_vanishes 54 [none, none, none, none, none, none] [] (emb g1 g2 x d c u t a b m o E) ca sa K) (hr : ∀ (rv : Int32), out = .inl rv → K = rn_Ret Z (some (.int rv)) (emb g1 g2 x d c u t a b m o E)) (n : Nat) : ∀ (l4 : Int32), F_Gr_vanishes_L3 b l1 l2 l3 n l4 = some out → Rn Z M_Gr_vanishes 3 [some (.ref 44), some (.int l1), some (.int l2), some (.int l3), some (.int l4), none] [] (emb g1 g2 x d c u t a b m o E) ca sa K := by
  induction n with
  | zero =>
    intro l4 h
    rw [F_Gr_vanishes_L3] at h
    cases h
  | succ n ih =>
    intro l4 h
    rw [F_Gr_vanishes_L3] at h
    refine rn_iload (by exact dc_Gr_vanishes 2 rfl) (by exact rfl) ?_
    refine rn_aload_n (by exact dc_Gr_vanishes 3 rfl) (by exact rfl) ?_
    refine rn_getf (v := .ref 47) fd_Gr_18 (by exact dc_Gr_vanishes 4 rfl) (by exact rfl) (by exact rfl) ?_
    refine rn_iload_n (by exact dc_Gr_vanishes 5 rfl) (by exact rfl) ?_
    obtain ⟨x1, e2, h3⟩ := rn_bind h
    clear h
    refine rn_iaload (by exact dc_Gr_vanishes 6 rfl) (by exact rfl) e2 ?_
    by_cases c4 : x1 ≤ l4
    · replace h3 := rn_ifp c4 h3
      refine rn_icmp_ge_t 54 (by exact dc_Gr_vanishes 7 rfl) (by exact rfl) c4 ?_
      cases h3
      exact rn_weak _ (by repeat (first | exact rn_le_0 | apply rn_le_s | apply rn_le_x)) (hx rfl)
    · replace h3 := rn_ifn c4 h3
      refine rn_icmp_ge_f 54 (by exact dc_Gr_vanishes 7 rfl) (by exact rfl) c4 ?_
      refine rn_aload_n (by exact dc_Gr_vanishes 8 rfl) (by exact rfl) ?_
      refine rn_iload_n (by exact dc_Gr_vanishes 9 rfl) (by exact rfl) ?_
      refine rn_iload (by exact dc_Gr_vanishes 10 rfl) (by exact rfl) ?_
      obtain ⟨x6, e5, h7⟩ := rn_bind h3
      clear h3
      refine rn_invV0 (by exact c_Gr_symbol_b e5) iv_Gr_66 (by exact ⟨Nat.le_of_ble_eq_true rfl, Nat.le_of_ble_eq_true rfl⟩) (by exact dc_Gr_vanishes 11 rfl) (by exact rfl) (by exact rfl) (by exact rfl) (by exact Nat.le_of_ble_eq_true rfl) ?_
      show Rn _ _ 21 [some (.ref 44), some (.int l1), some (.int l2), some (.int l3), some (.int l4), none] [.int x6] (emb g1 g2 x d c u t a b m o E) _ _ _
      refine rn_istore (ls' := [some (.ref 44), some (.int l1), some (.int l2), some (.int l3), some (.int l4), some (.int x6)]) (by exact dc_Gr_vanishes 12 rfl) (by decide) (by exact rfl) ?_
      refine rn_iload (by exact dc_Gr_vanishes 13 rfl) (by exact rfl) ?_
      refine rn_iload_n (by exact dc_Gr_vanishes 14 rfl) (by exact rfl) ?_
      by_cases c8 : l4 = l2
      · replace h7 := rn_ifp c8 h7
        refine rn_icmp_eq_t 48 (by exact dc_Gr_vanishes 15 rfl) (by exact rfl) c8 ?_
        refine rn_iinc (ls' := [some (.ref 44), some (.int l1), some (.int l2), some (.int l3), some (.int (l4 + 1)), some (.int x6)]) (by exact dc_Gr_vanishes 25 rfl) (by decide) (by exact rfl) (by exact rn_inc_1 _) (by exact rfl) ?_
        refine rn_goto 3 (by exact dc_Gr_vanishes 26 rfl) (by exact rfl) ?_
        exact rn_weak _ (by repeat (first | exact rn_le_0 | apply rn_le_s | apply rn_le_x)) (ih _ h7)
      · replace h7 := rn_ifn c8 h7
        refine rn_icmp_eq_f 48 (by exact dc_Gr_vanishes 15 rfl) (by exact rfl) c8 ?_
        refine rn_iload (by exact dc_Gr_vanishes 16 rfl) (by exact rfl) ?_
        obtain ⟨x10, e9, h11⟩ := rn_bind h7
        clear h7
        refine rn_invS0 (by exact c_Gr_isNonterminal e9) is_Gr_70 (by exact ⟨Nat.le_of_ble_eq_true rfl, Nat.le_of_ble_eq_true rfl⟩) (by exact dc_Gr_vanishes 17 rfl) (by exact rfl) (by exact rfl) (by exact Nat.le_of_ble_eq_true rfl) ?_
        show Rn _ _ 34 [some (.ref 44), some (.int l1), some (.int l2), some (.int l3), some (.int l4), some (.int x6)] [.int x10] (emb g1 g2 x d c u t a b m o E) _ _ _
        by_cases c12 : x10 = 0
        · replace h11 := rn_ifp c12 h11
          refine rn_if_eq_t 46 (by exact dc_Gr_vanishes 18 rfl) (by exact rfl) c12 ?_
          refine rn_iconst (v := (0 : Int32)) (by exact dc_Gr_vanishes 23 rfl) (by decide) ?_
          cases h11
          have hK := hr _ rfl
          subst hK
          exact rn_zreturn (by exact dc_Gr_vanishes 24 rfl) (by exact rfl) (by first | exact Or.inl rfl | exact Or.inr rfl)
        · replace h11 := rn_ifn c12 h11
          refine rn_if_eq_f 46 (by exact dc_Gr_vanishes 18 rfl) (by exact rfl) c12 ?_
          refine rn_iload_n (by exact dc_Gr_vanishes 19 rfl) (by exact rfl) ?_
          refine rn_iload (by exact dc_Gr_vanishes 20 rfl) (by exact rfl) ?_
          obtain ⟨x14, e13, h15⟩ := rn_bind h11
          clear h11
          refine rn_invS0 (by exact c_Gr_hasBit e13) is_Gr_52 (by exact ⟨Nat.le_of_ble_eq_true rfl, Nat.le_of_ble_eq_true rfl⟩) (by exact dc_Gr_vanishes 21 rfl) (by exact rfl) (by exact rfl) (by exact Nat.le_of_ble_eq_true rfl) ?_
          show Rn _ _ 43 [some (.ref 44), some (.int l1), some (.int l2), some (.int l3), some (.int l4), some (.int x6)] [.int x14] (emb g1 g2 x d c u t a b m o E) _ _ _
          by_cases c16 : ¬ x14 = 0
          · replace h15 := rn_ifp c16 h15
            refine rn_if_ne_t 48 (by exact dc_Gr_vanishes 22 rfl) (by exact rfl) c16 ?_
            refine rn_iinc (ls' := [some (.ref 44), some (.int l1), some (.int l2), some (.int l3), some (.int (l4 + 1)), some (.int x6)]) (by exact dc_Gr_vanishes 25 rfl) (by decide) (by exact rfl) (by exact rn_inc_1 _) (by exact rfl) ?_
            refine rn_goto 3 (by exact dc_Gr_vanishes 26 rfl) (by exact rfl) ?_
            exact rn_weak _ (by repeat (first | exact rn_le_0 | apply rn_le_s | apply rn_le_x)) (ih _ h15)
          · replace h15 := rn_ifn c16 h15
            refine rn_if_ne_f 48 (by exact dc_Gr_vanishes 22 rfl) (by exact rfl) (Classical.not_not.mp c16) ?_
            refine rn_iconst (v := (0 : Int32)) (by exact dc_Gr_vanishes 23 rfl) (by decide) ?_
            cases h15
            have hK := hr _ rfl
            subst hK
            exact rn_zreturn (by exact dc_Gr_vanishes 24 rfl) (by exact rfl) (by first | exact Or.inl rfl | exact Or.inr rfl)
def F_Gr_vanishes (b : tG) (v0 : Int32) (v1 : Int32) (v2 : Int32) : Option Int32 :=
  Option.bind (F_Gr_vanishes_L3 b v0 v1 v2 rn_fu (0 : Int32)) fun z5 =>
  match z5 with
  | .inl r4 => some r4
  | .inr _ =>
    some (1 : Int32)
set_option maxHeartbeats 4000000 in
set_option maxRecDepth 100000 in
theorem c_Gr_vanishes_b {Z : rn_Z} {g1 g2 : Nat} {x : tX} {d : tD} {c : tC} {u : tU} {t : tT} {a : tG} {b : tG} {m : tM} {o : tO} {E : List rn_C} {v0 : Int32} {v1 : Int32} {v2 : Int32} {res : Int32} (h : F_Gr_vanishes b v0 v1 v2 = some res) : Call Z M_Gr_vanishes [.ref 44, .int v0, .int v1, .int v2] (emb g1 g2 x d c u t a b m o E) 0 0 (some (.int res)) (emb g1 g2 x d c u t a b m o E) := by
  unfold F_Gr_vanishes at h
  refine rn_call (by decide) 2 (by exact Nat.le_of_ble_eq_true rfl) ?_
  show Rn Z M_Gr_vanishes 0 [some (.ref 44), some (.int v0), some (.int v1), some (.int v2), none, none] [] (emb g1 g2 x d c u t a b m o E) 0 0 _
  refine rn_iconst (v := (0 : Int32)) (by exact dc_Gr_vanishes 0 rfl) (by decide) ?_
  refine rn_istore (ls' := [some (.ref 44), some (.int v0), some (.int v1), some (.int v2), some (.int (0 : Int32)), none]) (by exact dc_Gr_vanishes 1 rfl) (by decide) (by exact rfl) ?_
  obtain ⟨z5, e1, h3⟩ := rn_bind h
  clear h
  rcases z5 with w6 | _
  · dsimp only at h3
    cases h3
    exact rn_weak _ (by repeat (first | exact rn_le_0 | apply rn_le_s | apply rn_le_x)) (p_Gr_vanishes_L3_b (fun q => by cases q) (fun _ q => by cases q; rfl) _ _ e1)
  · dsimp only at h3
    have jx2 : Rn Z M_Gr_vanishes 54 [none, none, none, none, none, none] [] (emb g1 g2 x d c u t a b m o E) 0 0 (rn_Ret Z (some (.int res)) (emb g1 g2 x d c u t a b m o E)) := by
      refine rn_iconst (v := (1 : Int32)) (by exact dc_Gr_vanishes 27 rfl) (by decide) ?_
      cases h3
      exact rn_zreturn (by exact dc_Gr_vanishes 28 rfl) (by exact rfl) (by first | exact Or.inl rfl | exact Or.inr rfl)
    exact rn_weak _ (by repeat (first | exact rn_le_0 | apply rn_le_s | apply rn_le_x)) (p_Gr_vanishes_L3_b (fun q => by cases q; exact jx2) (fun _ q => by cases q) _ _ e1)
def F_Gr_emptyable_L14 (b : tG) (l2 : Int32) : Nat → Int32 → Int32 → Option Int32
  | 0, _, _ => none
  | n + 1, l1, l3 =>
    if (G_ruleCount b) ≤ l3 then (
      some l1
    ) else (
      Option.bind (F_Gr_vanishes b l3 (-1 : Int32) l1) fun x3 =>
      Option.bind (
        if x3 = 0 then (
          some (l1 : Int32)
        ) else (
          Option.bind (aG (G_heads b) 12 l3) fun x10 =>
          some (l1 ||| ((1 : Int32) <<< (x10 &&& 31)) : Int32)
        )
       : Option Int32) fun y5 =>
      F_Gr_emptyable_L14 b l2 n y5 (l3 + 1)
    )
set_option maxHeartbeats 4000000 in
set_option maxRecDepth 100000 in
theorem p_Gr_emptyable_L14_b {Z : rn_Z} {g1 g2 : Nat} {x : tX} {d : tD} {c : tC} {u : tU} {t : tT} {a : tG} {b : tG} {m : tM} {o : tO} {E : List rn_C}  {l2 : Int32} {K : rn_K} {ca sa : Nat} {z1 : Int32} (hx : Rn Z M_Gr_emptyable 49 [some (.ref 44), some (.int z1), some (.int l2), none] [] (emb g1 g2 x d c u t a b m o E) ca sa K) (n : Nat) : ∀ (l1 : Int32) (l3 : Int32), F_Gr_emptyable_L14 b l2 n l1 l3 = some z1 → Rn Z M_Gr_emptyable 14 [some (.ref 44), some (.int l1), some (.int l2), some (.int l3)] [] (emb g1 g2 x d c u t a b m o E) ca sa K := by
  induction n with
  | zero =>
    intro l1 l3 h
    rw [F_Gr_emptyable_L14] at h
    cases h
  | succ n ih =>
    intro l1 l3 h
    rw [F_Gr_emptyable_L14] at h
    refine rn_iload_n (by exact dc_Gr_emptyable 10 rfl) (by exact rfl) ?_
    refine rn_aload_n (by exact dc_Gr_emptyable 11 rfl) (by exact rfl) ?_
    refine rn_getf (v := .int (G_ruleCount b)) fd_Gr_34 (by exact dc_Gr_emptyable 12 rfl) (by exact rfl) (by exact rfl) ?_
    by_cases c1 : (G_ruleCount b) ≤ l3
    · replace h := rn_ifp c1 h
      refine rn_icmp_ge_t 49 (by exact dc_Gr_emptyable 13 rfl) (by exact rfl) c1 ?_
      cases h
      exact rn_weak _ (by repeat (first | exact rn_le_0 | apply rn_le_s | apply rn_le_x)) hx
    · replace h := rn_ifn c1 h
      refine rn_icmp_ge_f 49 (by exact dc_Gr_emptyable 13 rfl) (by exact rfl) c1 ?_
      refine rn_aload_n (by exact dc_Gr_emptyable 14 rfl) (by exact rfl) ?_
      refine rn_iload_n (by exact dc_Gr_emptyable 15 rfl) (by exact rfl) ?_
      refine rn_iconst (v := (-1 : Int32)) (by exact dc_Gr_emptyable 16 rfl) (by decide) ?_
      refine rn_iload_n (by exact dc_Gr_emptyable 17 rfl) (by exact rfl) ?_
      obtain ⟨x3, e2, h4⟩ := rn_bind h
      clear h
      refine rn_invV0 (by exact c_Gr_vanishes_b e2) iv_Gr_62 (by exact ⟨Nat.le_of_ble_eq_true rfl, Nat.le_of_ble_eq_true rfl⟩) (by exact dc_Gr_emptyable 18 rfl) (by exact rfl) (by exact rfl) (by exact rfl) (by exact Nat.le_of_ble_eq_true rfl) ?_
      show Rn _ _ 29 [some (.ref 44), some (.int l1), some (.int l2), some (.int l3)] [.int x3] (emb g1 g2 x d c u t a b m o E) _ _ _
      obtain ⟨y5, e6, h8⟩ := rn_bind h4
      clear h4
      have jq7 : Rn Z M_Gr_emptyable 43 [some (.ref 44), some (.int y5), some (.int l2), some (.int l3)] [] (emb g1 g2 x d c u t a b m o E) ca sa K := by
        refine rn_iinc (ls' := [some (.ref 44), some (.int y5), some (.int l2), some (.int (l3 + 1))]) (by exact dc_Gr_emptyable 29 rfl) (by decide) (by exact rfl) (by exact rn_inc_1 _) (by exact rfl) ?_
        refine rn_goto 14 (by exact dc_Gr_emptyable 30 rfl) (by exact rfl) ?_
        exact rn_weak _ (by repeat (first | exact rn_le_0 | apply rn_le_s | apply rn_le_x)) (ih _ _ h8)
      by_cases c9 : x3 = 0
      · replace e6 := rn_ifp c9 e6
        refine rn_if_eq_t 43 (by exact dc_Gr_emptyable 19 rfl) (by exact rfl) c9 ?_
        cases e6
        exact rn_weak _ (by repeat (first | exact rn_le_0 | apply rn_le_s | apply rn_le_x)) jq7
      · replace e6 := rn_ifn c9 e6
        refine rn_if_eq_f 43 (by exact dc_Gr_emptyable 19 rfl) (by exact rfl) c9 ?_
        refine rn_iload_n (by exact dc_Gr_emptyable 20 rfl) (by exact rfl) ?_
        refine rn_iconst (v := (1 : Int32)) (by exact dc_Gr_emptyable 21 rfl) (by decide) ?_
        refine rn_aload_n (by exact dc_Gr_emptyable 22 rfl) (by exact rfl) ?_
        refine rn_getf (v := .ref 45) fd_Gr_9 (by exact dc_Gr_emptyable 23 rfl) (by exact rfl) (by exact rfl) ?_
        refine rn_iload_n (by exact dc_Gr_emptyable 24 rfl) (by exact rfl) ?_
        obtain ⟨x10, e11, h12⟩ := rn_bind e6
        clear e6
        refine rn_iaload (by exact dc_Gr_emptyable 25 rfl) (by exact rfl) e11 ?_
        refine rn_ishl (by exact dc_Gr_emptyable 26 rfl) ?_
        refine rn_ior (by exact dc_Gr_emptyable 27 rfl) ?_
        refine rn_istore_n (ls' := [some (.ref 44), some (.int (l1 ||| ((1 : Int32) <<< (x10 &&& 31)))), some (.int l2), some (.int l3)]) (by exact dc_Gr_emptyable 28 rfl) (by decide) (by exact rfl) ?_
        cases h12
        exact rn_weak _ (by repeat (first | exact rn_le_0 | apply rn_le_s | apply rn_le_x)) jq7
def F_Gr_emptyable_L4 (b : tG) : Nat → Int32 → Int32 → Option Int32
  | 0, _, _ => none
  | n + 1, l1, l2 =>
    if (G_nonterminalCount b) ≤ l2 then (
      some l1
    ) else (
      Option.bind (F_Gr_emptyable_L14 b l2 rn_fu l1 (0 : Int32)) fun y5 =>
      F_Gr_emptyable_L4 b n y5 (l2 + 1)
    )
set_option maxHeartbeats 4000000 in
set_option maxRecDepth 100000 in
theorem p_Gr_emptyable_L4_b {Z : rn_Z} {g1 g2 : Nat} {x : tX} {d : tD} {c : tC} {u : tU} {t : tT} {a : tG} {b : tG} {m : tM} {o : tO} {E : List rn_C}   {K : rn_K} {ca sa : Nat} {z1 : Int32} (hx : Rn Z M_Gr_emptyable 55 [none, some (.int z1), none, none] [] (emb g1 g2 x d c u t a b m o E) ca sa K) (n : Nat) : ∀ (l1 : Int32) (l2 : Int32), F_Gr_emptyable_L4 b n l1 l2 = some z1 → Rn Z M_Gr_emptyable 4 [some (.ref 44), some (.int l1), some (.int l2), none] [] (emb g1 g2 x d c u t a b m o E) ca sa K := by
  induction n with
  | zero =>
    intro l1 l2 h
    rw [F_Gr_emptyable_L4] at h
    cases h
  | succ n ih =>
    intro l1 l2 h
    rw [F_Gr_emptyable_L4] at h
    refine rn_iload_n (by exact dc_Gr_emptyable 4 rfl) (by exact rfl) ?_
    refine rn_aload_n (by exact dc_Gr_emptyable 5 rfl) (by exact rfl) ?_
    refine rn_getf (v := .int (G_nonterminalCount b)) fd_Gr_38 (by exact dc_Gr_emptyable 6 rfl) (by exact rfl) (by exact rfl) ?_
    by_cases c1 : (G_nonterminalCount b) ≤ l2
    · replace h := rn_ifp c1 h
      refine rn_icmp_ge_t 55 (by exact dc_Gr_emptyable 7 rfl) (by exact rfl) c1 ?_
      cases h
      exact rn_weak _ (by repeat (first | exact rn_le_0 | apply rn_le_s | apply rn_le_x)) hx
    · replace h := rn_ifn c1 h
      refine rn_icmp_ge_f 55 (by exact dc_Gr_emptyable 7 rfl) (by exact rfl) c1 ?_
      refine rn_iconst (v := (0 : Int32)) (by exact dc_Gr_emptyable 8 rfl) (by decide) ?_
      refine rn_istore_n (ls' := [some (.ref 44), some (.int l1), some (.int l2), some (.int (0 : Int32))]) (by exact dc_Gr_emptyable 9 rfl) (by decide) (by exact rfl) ?_
      obtain ⟨y5, e2, h4⟩ := rn_bind h
      clear h
      have jx3 : Rn Z M_Gr_emptyable 49 [some (.ref 44), some (.int y5), some (.int l2), none] [] (emb g1 g2 x d c u t a b m o E) ca sa K := by
        refine rn_iinc (ls' := [some (.ref 44), some (.int y5), some (.int (l2 + 1)), none]) (by exact dc_Gr_emptyable 31 rfl) (by decide) (by exact rfl) (by exact rn_inc_1 _) (by exact rfl) ?_
        refine rn_goto 4 (by exact dc_Gr_emptyable 32 rfl) (by exact rfl) ?_
        exact rn_weak _ (by repeat (first | exact rn_le_0 | apply rn_le_s | apply rn_le_x)) (ih _ _ h4)
      exact rn_weak _ (by repeat (first | exact rn_le_0 | apply rn_le_s | apply rn_le_x)) (p_Gr_emptyable_L14_b jx3 _ _ _ e2)
def F_Gr_emptyable (b : tG)  : Option Int32 :=
  Option.bind (F_Gr_emptyable_L4 b rn_fu (0 : Int32) (0 : Int32)) fun y4 =>
  some y4
set_option maxHeartbeats 4000000 in
set_option maxRecDepth 100000 in
theorem c_Gr_emptyable_b {Z : rn_Z} {g1 g2 : Nat} {x : tX} {d : tD} {c : tC} {u : tU} {t : tT} {a : tG} {b : tG} {m : tM} {o : tO} {E : List rn_C}  {res : Int32} (h : F_Gr_emptyable b  = some res) : Call Z M_Gr_emptyable [.ref 44] (emb g1 g2 x d c u t a b m o E) 0 0 (some (.int res)) (emb g1 g2 x d c u t a b m o E) := by
  unfold F_Gr_emptyable at h
  refine rn_call (by decide) 3 (by exact Nat.le_of_ble_eq_true rfl) ?_
  show Rn Z M_Gr_emptyable 0 [some (.ref 44), none, none, none] [] (emb g1 g2 x d c u t a b m o E) 0 0 _
  refine rn_iconst (v := (0 : Int32)) (by exact dc_Gr_emptyable 0 rfl) (by decide) ?_
  refine rn_istore_n (ls' := [some (.ref 44), some (.int (0 : Int32)), none, none]) (by exact dc_Gr_emptyable 1 rfl) (by decide) (by exact rfl) ?_
  refine rn_iconst (v := (0 : Int32)) (by exact dc_Gr_emptyable 2 rfl) (by decide) ?_
  refine rn_istore_n (ls' := [some (.ref 44), some (.int (0 : Int32)), some (.int (0 : Int32)), none]) (by exact dc_Gr_emptyable 3 rfl) (by decide) (by exact rfl) ?_
  obtain ⟨y4, e1, h3⟩ := rn_bind h
  clear h
  have jx2 : Rn Z M_Gr_emptyable 55 [none, some (.int y4), none, none] [] (emb g1 g2 x d c u t a b m o E) 0 0 (rn_Ret Z (some (.int res)) (emb g1 g2 x d c u t a b m o E)) := by
    refine rn_iload_n (by exact dc_Gr_emptyable 33 rfl) (by exact rfl) ?_
    cases h3
    exact rn_ireturn (by exact dc_Gr_emptyable 34 rfl) (by exact rfl)
  exact rn_weak _ (by repeat (first | exact rn_le_0 | apply rn_le_s | apply rn_le_x)) (p_Gr_emptyable_L4_b jx2 _ _ _ e1)
def F_Gr_closeReached_L12 (l1 : Int32) : Nat → tG → Int32 → Option tG
  | 0, _, _ => none
  | n + 1, b, l2 =>
    if (G_nonterminalCount b) ≤ l2 then (
      some b
    ) else (
      Option.bind (aG (G_reached b) 6 l2) fun x2 =>
      Option.bind (F_Gr_hasBit  x2 l1) fun x6 =>
      Option.bind (
        if x6 = 0 then (
          some b
        ) else (
          Option.bind (aG (G_reached b) 6 l2) fun x13 =>
          Option.bind (aG (G_reached b) 6 l1) fun x16 =>
          Option.bind (aS (G_reached b) 6 l2 (x13 ||| x16)) fun f19 =>
          some (G_heads b, G_bodies b, G_bodyLengths b, G_weights b, G_costs b, G_capitals b, G_order b, G_ruleCount b, G_nonterminalCount b, f19)
        )
       : Option tG) fun b8 =>
      F_Gr_closeReached_L12 l1 n b8 (l2 + 1)
    )
set_option maxHeartbeats 4000000 in
set_option maxRecDepth 100000 in
theorem p_Gr_closeReached_L12_b {Z : rn_Z} {g1 g2 : Nat} {x : tX} {d : tD} {c : tC} {u : tU} {t : tT} {a : tG}  {m : tM} {o : tO} {E : List rn_C}  {l1 : Int32} {K : rn_K} {ca sa : Nat} {bz : tG} (hx : Rn Z M_Gr_closeReached 54 [some (.ref 44), some (.int l1), none] [] (emb g1 g2 x d c u t a bz m o E) ca sa K) (n : Nat) : ∀ (b : tG) (l2 : Int32), F_Gr_closeReached_L12 l1 n b l2 = some bz → Rn Z M_Gr_closeReached 12 [some (.ref 44), some (.int l1), some (.int l2)] [] (emb g1 g2 x d c u t a b m o E) ca sa K := by
  induction n with
  | zero =>
    intro b l2 h
    rw [F_Gr_closeReached_L12] at h
    cases h
  | succ n ih =>
    intro b l2 h
    rw [F_Gr_closeReached_L12] at h
    refine rn_iload_n (by exact dc_Gr_closeReached 8 rfl) (by exact rfl) ?_
    refine rn_aload_n (by exact dc_Gr_closeReached 9 rfl) (by exact rfl) ?_
    refine rn_getf (v := .int (G_nonterminalCount b)) fd_Gr_38 (by exact dc_Gr_closeReached 10 rfl) (by exact rfl) (by exact rfl) ?_
    by_cases c1 : (G_nonterminalCount b) ≤ l2
    · replace h := rn_ifp c1 h
      refine rn_icmp_ge_t 54 (by exact dc_Gr_closeReached 11 rfl) (by exact rfl) c1 ?_
      cases h
      exact rn_weak _ (by repeat (first | exact rn_le_0 | apply rn_le_s | apply rn_le_x)) hx
    · replace h := rn_ifn c1 h
      refine rn_icmp_ge_f 54 (by exact dc_Gr_closeReached 11 rfl) (by exact rfl) c1 ?_
      refine rn_aload_n (by exact dc_Gr_closeReached 12 rfl) (by exact rfl) ?_
      refine rn_getf (v := .ref 52) fd_Gr_41 (by exact dc_Gr_closeReached 13 rfl) (by exact rfl) (by exact rfl) ?_
      refine rn_iload_n (by exact dc_Gr_closeReached 14 rfl) (by exact rfl) ?_
      obtain ⟨x2, e3, h4⟩ := rn_bind h
      clear h
      refine rn_iaload (by exact dc_Gr_closeReached 15 rfl) (by exact rfl) e3 ?_
      refine rn_iload_n (by exact dc_Gr_closeReached 16 rfl) (by exact rfl) ?_
      obtain ⟨x6, e5, h7⟩ := rn_bind h4
      clear h4
      refine rn_invS0 (by exact c_Gr_hasBit e5) is_Gr_52 (by exact ⟨Nat.le_of_ble_eq_true rfl, Nat.le_of_ble_eq_true rfl⟩) (by exact dc_Gr_closeReached 17 rfl) (by exact rfl) (by exact rfl) (by exact Nat.le_of_ble_eq_true rfl) ?_
      show Rn _ _ 30 [some (.ref 44), some (.int l1), some (.int l2)] [.int x6] (emb g1 g2 x d c u t a b m o E) _ _ _
      obtain ⟨b8, e9, h11⟩ := rn_bind h7
      clear h7
      have jq10 : Rn Z M_Gr_closeReached 48 [some (.ref 44), some (.int l1), some (.int l2)] [] (emb g1 g2 x d c u t a b8 m o E) ca sa K := by
        refine rn_iinc (ls' := [some (.ref 44), some (.int l1), some (.int (l2 + 1))]) (by exact dc_Gr_closeReached 30 rfl) (by decide) (by exact rfl) (by exact rn_inc_1 _) (by exact rfl) ?_
        refine rn_goto 12 (by exact dc_Gr_closeReached 31 rfl) (by exact rfl) ?_
        exact rn_weak _ (by repeat (first | exact rn_le_0 | apply rn_le_s | apply rn_le_x)) (ih _ _ h11)
      by_cases c12 : x6 = 0
      · replace e9 := rn_ifp c12 e9
        refine rn_if_eq_t 48 (by exact dc_Gr_closeReached 18 rfl) (by exact rfl) c12 ?_
        cases e9
        exact rn_weak _ (by repeat (first | exact rn_le_0 | apply rn_le_s | apply rn_le_x)) jq10
      · replace e9 := rn_ifn c12 e9
        refine rn_if_eq_f 48 (by exact dc_Gr_closeReached 18 rfl) (by exact rfl) c12 ?_
        refine rn_aload_n (by exact dc_Gr_closeReached 19 rfl) (by exact rfl) ?_
        refine rn_getf (v := .ref 52) fd_Gr_41 (by exact dc_Gr_closeReached 20 rfl) (by exact rfl) (by exact rfl) ?_
        refine rn_iload_n (by exact dc_Gr_closeReached 21 rfl) (by exact rfl) ?_
        refine rn_dup2 (by exact dc_Gr_closeReached 22 rfl) (by exact rfl) (by exact rfl) ?_
        obtain ⟨x13, e14, h15⟩ := rn_bind e9
        clear e9
        refine rn_iaload (by exact dc_Gr_closeReached 23 rfl) (by exact rfl) e14 ?_
        refine rn_aload_n (by exact dc_Gr_closeReached 24 rfl) (by exact rfl) ?_
        refine rn_getf (v := .ref 52) fd_Gr_41 (by exact dc_Gr_closeReached 25 rfl) (by exact rfl) (by exact rfl) ?_
        refine rn_iload_n (by exact dc_Gr_closeReached 26 rfl) (by exact rfl) ?_
        obtain ⟨x16, e17, h18⟩ := rn_bind h15
        clear h15
        refine rn_iaload (by exact dc_Gr_closeReached 27 rfl) (by exact rfl) e17 ?_
        refine rn_ior (by exact dc_Gr_closeReached 28 rfl) ?_
        obtain ⟨f19, e20, h21⟩ := rn_bind h18
        clear h18
        refine rn_iastore (w2 := (emb g1 g2 x d c u t a (G_heads b, G_bodies b, G_bodyLengths b, G_weights b, G_costs b, G_capitals b, G_order b, G_ruleCount b, G_nonterminalCount b, f19) m o E)) (by exact dc_Gr_closeReached 29 rfl) (by exact rfl) e20 (by exact rfl) ?_
        cases h21
        exact rn_weak _ (by repeat (first | exact rn_le_0 | apply rn_le_s | apply rn_le_x)) jq10
def F_Gr_closeReached_L2  : Nat → tG → Int32 → Option tG
  | 0, _, _ => none
  | n + 1, b, l1 =>
    if (G_nonterminalCount b) ≤ l1 then (
      some b
    ) else (
      Option.bind (F_Gr_closeReached_L12 l1 rn_fu b (0 : Int32)) fun b5 =>
      F_Gr_closeReached_L2  n b5 (l1 + 1)
    )
set_option maxHeartbeats 4000000 in
set_option maxRecDepth 100000 in
theorem p_Gr_closeReached_L2_b {Z : rn_Z} {g1 g2 : Nat} {x : tX} {d : tD} {c : tC} {u : tU} {t : tT} {a : tG}  {m : tM} {o : tO} {E : List rn_C}   {K : rn_K} {ca sa : Nat} {bz : tG} (hx : Rn Z M_Gr_closeReached 60 [none, none, none] [] (emb g1 g2 x d c u t a bz m o E) ca sa K) (n : Nat) : ∀ (b : tG) (l1 : Int32), F_Gr_closeReached_L2  n b l1 = some bz → Rn Z M_Gr_closeReached 2 [some (.ref 44), some (.int l1), none] [] (emb g1 g2 x d c u t a b m o E) ca sa K := by
  induction n with
  | zero =>
    intro b l1 h
    rw [F_Gr_closeReached_L2] at h
    cases h
  | succ n ih =>
    intro b l1 h
    rw [F_Gr_closeReached_L2] at h
    refine rn_iload_n (by exact dc_Gr_closeReached 2 rfl) (by exact rfl) ?_
    refine rn_aload_n (by exact dc_Gr_closeReached 3 rfl) (by exact rfl) ?_
    refine rn_getf (v := .int (G_nonterminalCount b)) fd_Gr_38 (by exact dc_Gr_closeReached 4 rfl) (by exact rfl) (by exact rfl) ?_
    by_cases c1 : (G_nonterminalCount b) ≤ l1
    · replace h := rn_ifp c1 h
      refine rn_icmp_ge_t 60 (by exact dc_Gr_closeReached 5 rfl) (by exact rfl) c1 ?_
      cases h
      exact rn_weak _ (by repeat (first | exact rn_le_0 | apply rn_le_s | apply rn_le_x)) hx
    · replace h := rn_ifn c1 h
      refine rn_icmp_ge_f 60 (by exact dc_Gr_closeReached 5 rfl) (by exact rfl) c1 ?_
      refine rn_iconst (v := (0 : Int32)) (by exact dc_Gr_closeReached 6 rfl) (by decide) ?_
      refine rn_istore_n (ls' := [some (.ref 44), some (.int l1), some (.int (0 : Int32))]) (by exact dc_Gr_closeReached 7 rfl) (by decide) (by exact rfl) ?_
      obtain ⟨b5, e2, h4⟩ := rn_bind h
      clear h
      have jx3 : Rn Z M_Gr_closeReached 54 [some (.ref 44), some (.int l1), none] [] (emb g1 g2 x d c u t a b5 m o E) ca sa K := by
        refine rn_iinc (ls' := [some (.ref 44), some (.int (l1 + 1)), none]) (by exact dc_Gr_closeReached 32 rfl) (by decide) (by exact rfl) (by exact rn_inc_1 _) (by exact rfl) ?_
        refine rn_goto 2 (by exact dc_Gr_closeReached 33 rfl) (by exact rfl) ?_
        exact rn_weak _ (by repeat (first | exact rn_le_0 | apply rn_le_s | apply rn_le_x)) (ih _ _ h4)
      exact rn_weak _ (by repeat (first | exact rn_le_0 | apply rn_le_s | apply rn_le_x)) (p_Gr_closeReached_L12_b jx3 _ _ _ e2)
def F_Gr_closeReached (b : tG)  : Option tG :=
  Option.bind (F_Gr_closeReached_L2  rn_fu b (0 : Int32)) fun b4 =>
  some b4
set_option maxHeartbeats 4000000 in
set_option maxRecDepth 100000 in
theorem c_Gr_closeReached_b {Z : rn_Z} {g1 g2 : Nat} {x : tX} {d : tD} {c : tC} {u : tU} {t : tT} {a : tG} {b : tG} {m : tM} {o : tO} {E : List rn_C}  {b_r : tG} (h : F_Gr_closeReached b  = some b_r) : Call Z M_Gr_closeReached [.ref 44] (emb g1 g2 x d c u t a b m o E) 0 0 none (emb g1 g2 x d c u t a b_r m o E) := by
  unfold F_Gr_closeReached at h
  refine rn_call (by decide) 2 (by exact Nat.le_of_ble_eq_true rfl) ?_
  show Rn Z M_Gr_closeReached 0 [some (.ref 44), none, none] [] (emb g1 g2 x d c u t a b m o E) 0 0 _
  refine rn_iconst (v := (0 : Int32)) (by exact dc_Gr_closeReached 0 rfl) (by decide) ?_
  refine rn_istore_n (ls' := [some (.ref 44), some (.int (0 : Int32)), none]) (by exact dc_Gr_closeReached 1 rfl) (by decide) (by exact rfl) ?_
  obtain ⟨b4, e1, h3⟩ := rn_bind h
  clear h
  have jx2 : Rn Z M_Gr_closeReached 60 [none, none, none] [] (emb g1 g2 x d c u t a b4 m o E) 0 0 (rn_Ret Z none (emb g1 g2 x d c u t a b_r m o E)) := by
    cases h3
    exact rn_return (by exact dc_Gr_closeReached 34 rfl) (by exact rfl)
  exact rn_weak _ (by repeat (first | exact rn_le_0 | apply rn_le_s | apply rn_le_x)) (p_Gr_closeReached_L2_b jx2 _ _ _ e1)
def F_Gr_findReached_L2 (l1 : Int32) : Nat → tG → Int32 → Option tG
  | 0, _, _ => none
  | n + 1, b, l2 =>
    if (G_nonterminalCount b) ≤ l2 then (
      some b
    ) else (
      Option.bind (aS (G_reached b) 6 l2 (0 : Int32)) fun f2 =>
      F_Gr_findReached_L2 l1 n (G_heads b, G_bodies b, G_bodyLengths b, G_weights b, G_costs b, G_capitals b, G_order b, G_ruleCount b, G_nonterminalCount b, f2) (l2 + 1)
    )
set_option maxHeartbeats 4000000 in
set_option maxRecDepth 100000 in
theorem p_Gr_findReached_L2_b {Z : rn_Z} {g1 g2 : Nat} {x : tX} {d : tD} {c : tC} {u : tU} {t : tT} {a : tG}  {m : tM} {o : tO} {E : List rn_C}  {l1 : Int32} {K : rn_K} {ca sa : Nat} {bz : tG} (hx : Rn Z M_Gr_findReached 23 [some (.ref 44), some (.int l1), none, none, none] [] (emb g1 g2 x d c u t a bz m o E) ca sa K) (n : Nat) : ∀ (b : tG) (l2 : Int32), F_Gr_findReached_L2 l1 n b l2 = some bz → Rn Z M_Gr_findReached 2 [some (.ref 44), some (.int l1), some (.int l2), none, none] [] (emb g1 g2 x d c u t a b m o E) ca sa K := by
  induction n with
  | zero =>
    intro b l2 h
    rw [F_Gr_findReached_L2] at h
    cases h
  | succ n ih =>
    intro b l2 h
    rw [F_Gr_findReached_L2] at h
    refine rn_iload_n (by exact dc_Gr_findReached 2 rfl) (by exact rfl) ?_
    refine rn_aload_n (by exact dc_Gr_findReached 3 rfl) (by exact rfl) ?_
    refine rn_getf (v := .int (G_nonterminalCount b)) fd_Gr_38 (by exact dc_Gr_findReached 4 rfl) (by exact rfl) (by exact rfl) ?_
    by_cases c1 : (G_nonterminalCount b) ≤ l2
    · replace h := rn_ifp c1 h
      refine rn_icmp_ge_t 23 (by exact dc_Gr_findReached 5 rfl) (by exact rfl) c1 ?_
      cases h
      exact rn_weak _ (by repeat (first | exact rn_le_0 | apply rn_le_s | apply rn_le_x)) hx
    · replace h := rn_ifn c1 h
      refine rn_icmp_ge_f 23 (by exact dc_Gr_findReached 5 rfl) (by exact rfl) c1 ?_
      refine rn_aload_n (by exact dc_Gr_findReached 6 rfl) (by exact rfl) ?_
      refine rn_getf (v := .ref 52) fd_Gr_41 (by exact dc_Gr_findReached 7 rfl) (by exact rfl) (by exact rfl) ?_
      refine rn_iload_n (by exact dc_Gr_findReached 8 rfl) (by exact rfl) ?_
      refine rn_iconst (v := (0 : Int32)) (by exact dc_Gr_findReached 9 rfl) (by decide) ?_
      obtain ⟨f2, e3, h4⟩ := rn_bind h
      clear h
      refine rn_iastore (w2 := (emb g1 g2 x d c u t a (G_heads b, G_bodies b, G_bodyLengths b, G_weights b, G_costs b, G_capitals b, G_order b, G_ruleCount b, G_nonterminalCount b, f2) m o E)) (by exact dc_Gr_findReached 10 rfl) (by exact rfl) e3 (by exact rfl) ?_
      refine rn_iinc (ls' := [some (.ref 44), some (.int l1), some (.int (l2 + 1)), none, none]) (by exact dc_Gr_findReached 11 rfl) (by decide) (by exact rfl) (by exact rn_inc_1 _) (by exact rfl) ?_
      refine rn_goto 2 (by exact dc_Gr_findReached 12 rfl) (by exact rfl) ?_
      exact rn_weak _ (by repeat (first | exact rn_le_0 | apply rn_le_s | apply rn_le_x)) (ih _ _ h4)
def F_Gr_findReached_L35 (l1 : Int32) (l2 : Int32) : Nat → tG → Int32 → Option tG
  | 0, _, _ => none
  | n + 1, b, l3 =>
    Option.bind (aG (G_bodyLengths b) 12 l2) fun x1 =>
    if x1 ≤ l3 then (
      some b
    ) else (
      Option.bind (F_Gr_symbol b l2 l3) fun x6 =>
      Option.bind (F_Gr_isNonterminal  x6) fun x9 =>
      Option.bind (
        if x9 = 0 then (
          some b
        ) else (
          Option.bind (F_Gr_vanishes b l2 l3 l1) fun x17 =>
          if x17 = 0 then (
            some b
          ) else (
            Option.bind (aG (G_heads b) 12 l2) fun x20 =>
            Option.bind (aG (G_reached b) 6 x20) fun x23 =>
            Option.bind (aS (G_reached b) 6 x20 (x23 ||| ((1 : Int32) <<< (x6 &&& 31)))) fun f26 =>
            some (G_heads b, G_bodies b, G_bodyLengths b, G_weights b, G_costs b, G_capitals b, G_order b, G_ruleCount b, G_nonterminalCount b, f26)
          )
        )
       : Option tG) fun b11 =>
      F_Gr_findReached_L35 l1 l2 n b11 (l3 + 1)
    )
set_option maxHeartbeats 4000000 in
set_option maxRecDepth 100000 in
theorem p_Gr_findReached_L35_b {Z : rn_Z} {g1 g2 : Nat} {x : tX} {d : tD} {c : tC} {u : tU} {t : tT} {a : tG}  {m : tM} {o : tO} {E : List rn_C}  {l1 : Int32} {l2 : Int32} {K : rn_K} {ca sa : Nat} {bz : tG} (hx : Rn Z M_Gr_findReached 95 [some (.ref 44), some (.int l1), some (.int l2), none, none] [] (emb g1 g2 x d c u t a bz m o E) ca sa K) (n : Nat) : ∀ (b : tG) (l3 : Int32), F_Gr_findReached_L35 l1 l2 n b l3 = some bz → Rn Z M_Gr_findReached 35 [some (.ref 44), some (.int l1), some (.int l2), some (.int l3), none] [] (emb g1 g2 x d c u t a b m o E) ca sa K := by
  induction n with
  | zero =>
    intro b l3 h
    rw [F_Gr_findReached_L35] at h
    cases h
  | succ n ih =>
    intro b l3 h
    rw [F_Gr_findReached_L35] at h
    refine rn_iload_n (by exact dc_Gr_findReached 21 rfl) (by exact rfl) ?_
    refine rn_aload_n (by exact dc_Gr_findReached 22 rfl) (by exact rfl) ?_
    refine rn_getf (v := .ref 47) fd_Gr_18 (by exact dc_Gr_findReached 23 rfl) (by exact rfl) (by exact rfl) ?_
    refine rn_iload_n (by exact dc_Gr_findReached 24 rfl) (by exact rfl) ?_
    obtain ⟨x1, e2, h3⟩ := rn_bind h
    clear h
    refine rn_iaload (by exact dc_Gr_findReached 25 rfl) (by exact rfl) e2 ?_
    by_cases c4 : x1 ≤ l3
    · replace h3 := rn_ifp c4 h3
      refine rn_icmp_ge_t 95 (by exact dc_Gr_findReached 26 rfl) (by exact rfl) c4 ?_
      cases h3
      exact rn_weak _ (by repeat (first | exact rn_le_0 | apply rn_le_s | apply rn_le_x)) hx
    · replace h3 := rn_ifn c4 h3
      refine rn_icmp_ge_f 95 (by exact dc_Gr_findReached 26 rfl) (by exact rfl) c4 ?_
      refine rn_aload_n (by exact dc_Gr_findReached 27 rfl) (by exact rfl) ?_
      refine rn_iload_n (by exact dc_Gr_findReached 28 rfl) (by exact rfl) ?_
      refine rn_iload_n (by exact dc_Gr_findReached 29 rfl) (by exact rfl) ?_
      obtain ⟨x6, e5, h7⟩ := rn_bind h3
      clear h3
      refine rn_invV0 (by exact c_Gr_symbol_b e5) iv_Gr_66 (by exact ⟨Nat.le_of_ble_eq_true rfl, Nat.le_of_ble_eq_true rfl⟩) (by exact dc_Gr_findReached 30 rfl) (by exact rfl) (by exact rfl) (by exact rfl) (by exact Nat.le_of_ble_eq_true rfl) ?_
      show Rn _ _ 51 [some (.ref 44), some (.int l1), some (.int l2), some (.int l3), none] [.int x6] (emb g1 g2 x d c u t a b m o E) _ _ _
      refine rn_istore (ls' := [some (.ref 44), some (.int l1), some (.int l2), some (.int l3), some (.int x6)]) (by exact dc_Gr_findReached 31 rfl) (by decide) (by exact rfl) ?_
      refine rn_iload (by exact dc_Gr_findReached 32 rfl) (by exact rfl) ?_
      obtain ⟨x9, e8, h10⟩ := rn_bind h7
      clear h7
      refine rn_invS0 (by exact c_Gr_isNonterminal e8) is_Gr_70 (by exact ⟨Nat.le_of_ble_eq_true rfl, Nat.le_of_ble_eq_true rfl⟩) (by exact dc_Gr_findReached 33 rfl) (by exact rfl) (by exact rfl) (by exact Nat.le_of_ble_eq_true rfl) ?_
      show Rn _ _ 58 [some (.ref 44), some (.int l1), some (.int l2), some (.int l3), some (.int x6)] [.int x9] (emb g1 g2 x d c u t a b m o E) _ _ _
      obtain ⟨b11, e12, h14⟩ := rn_bind h10
      clear h10
      have jq13 : Rn Z M_Gr_findReached 89 [some (.ref 44), some (.int l1), some (.int l2), some (.int l3), none] [] (emb g1 g2 x d c u t a b11 m o E) ca sa K := by
        refine rn_iinc (ls' := [some (.ref 44), some (.int l1), some (.int l2), some (.int (l3 + 1)), none]) (by exact dc_Gr_findReached 54 rfl) (by decide) (by exact rfl) (by exact rn_inc_1 _) (by exact rfl) ?_
        refine rn_goto 35 (by exact dc_Gr_findReached 55 rfl) (by exact rfl) ?_
        exact rn_weak _ (by repeat (first | exact rn_le_0 | apply rn_le_s | apply rn_le_x)) (ih _ _ h14)
      by_cases c15 : x9 = 0
      · replace e12 := rn_ifp c15 e12
        refine rn_if_eq_t 89 (by exact dc_Gr_findReached 34 rfl) (by exact rfl) c15 ?_
        cases e12
        exact rn_weak _ (by repeat (first | exact rn_le_0 | apply rn_le_s | apply rn_le_x)) jq13
      · replace e12 := rn_ifn c15 e12
        refine rn_if_eq_f 89 (by exact dc_Gr_findReached 34 rfl) (by exact rfl) c15 ?_
        refine rn_aload_n (by exact dc_Gr_findReached 35 rfl) (by exact rfl) ?_
        refine rn_iload_n (by exact dc_Gr_findReached 36 rfl) (by exact rfl) ?_
        refine rn_iload_n (by exact dc_Gr_findReached 37 rfl) (by exact rfl) ?_
        refine rn_iload_n (by exact dc_Gr_findReached 38 rfl) (by exact rfl) ?_
        obtain ⟨x17, e16, h18⟩ := rn_bind e12
        clear e12
        refine rn_invV0 (by exact c_Gr_vanishes_b e16) iv_Gr_62 (by exact ⟨Nat.le_of_ble_eq_true rfl, Nat.le_of_ble_eq_true rfl⟩) (by exact dc_Gr_findReached 39 rfl) (by exact rfl) (by exact rfl) (by exact rfl) (by exact Nat.le_of_ble_eq_true rfl) ?_
        show Rn _ _ 68 [some (.ref 44), some (.int l1), some (.int l2), some (.int l3), some (.int x6)] [.int x17] (emb g1 g2 x d c u t a b m o E) _ _ _
        by_cases c19 : x17 = 0
        · replace h18 := rn_ifp c19 h18
          refine rn_if_eq_t 89 (by exact dc_Gr_findReached 40 rfl) (by exact rfl) c19 ?_
          cases h18
          exact rn_weak _ (by repeat (first | exact rn_le_0 | apply rn_le_s | apply rn_le_x)) jq13
        · replace h18 := rn_ifn c19 h18
          refine rn_if_eq_f 89 (by exact dc_Gr_findReached 40 rfl) (by exact rfl) c19 ?_
          refine rn_aload_n (by exact dc_Gr_findReached 41 rfl) (by exact rfl) ?_
          refine rn_getf (v := .ref 52) fd_Gr_41 (by exact dc_Gr_findReached 42 rfl) (by exact rfl) (by exact rfl) ?_
          refine rn_aload_n (by exact dc_Gr_findReached 43 rfl) (by exact rfl) ?_
          refine rn_getf (v := .ref 45) fd_Gr_9 (by exact dc_Gr_findReached 44 rfl) (by exact rfl) (by exact rfl) ?_
          refine rn_iload_n (by exact dc_Gr_findReached 45 rfl) (by exact rfl) ?_
          obtain ⟨x20, e21, h22⟩ := rn_bind h18
          clear h18
          refine rn_iaload (by exact dc_Gr_findReached 46 rfl) (by exact rfl) e21 ?_
          refine rn_dup2 (by exact dc_Gr_findReached 47 rfl) (by exact rfl) (by exact rfl) ?_
          obtain ⟨x23, e24, h25⟩ := rn_bind h22
          clear h22
          refine rn_iaload (by exact dc_Gr_findReached 48 rfl) (by exact rfl) e24 ?_
          refine rn_iconst (v := (1 : Int32)) (by exact dc_Gr_findReached 49 rfl) (by decide) ?_
          refine rn_iload (by exact dc_Gr_findReached 50 rfl) (by exact rfl) ?_
          refine rn_ishl (by exact dc_Gr_findReached 51 rfl) ?_
          refine rn_ior (by exact dc_Gr_findReached 52 rfl) ?_
          obtain ⟨f26, e27, h28⟩ := rn_bind h25
          clear h25
          refine rn_iastore (w2 := (emb g1 g2 x d c u t a (G_heads b, G_bodies b, G_bodyLengths b, G_weights b, G_costs b, G_capitals b, G_order b, G_ruleCount b, G_nonterminalCount b, f26) m o E)) (by exact dc_Gr_findReached 53 rfl) (by exact rfl) e27 (by exact rfl) ?_
          cases h28
          exact rn_weak _ (by repeat (first | exact rn_le_0 | apply rn_le_s | apply rn_le_x)) jq13
def F_Gr_findReached_L25 (l1 : Int32) : Nat → tG → Int32 → Option tG
  | 0, _, _ => none
  | n + 1, b, l2 =>
    if (G_ruleCount b) ≤ l2 then (
      some b
    ) else (
      Option.bind (F_Gr_findReached_L35 l1 l2 rn_fu b (0 : Int32)) fun b5 =>
      F_Gr_findReached_L25 l1 n b5 (l2 + 1)
    )
set_option maxHeartbeats 4000000 in
set_option maxRecDepth 100000 in
theorem p_Gr_findReached_L25_b {Z : rn_Z} {g1 g2 : Nat} {x : tX} {d : tD} {c : tC} {u : tU} {t : tT} {a : tG}  {m : tM} {o : tO} {E : List rn_C}  {l1 : Int32} {K : rn_K} {ca sa : Nat} {bz : tG} (hx : Rn Z M_Gr_findReached 101 [some (.ref 44), none, none, none, none] [] (emb g1 g2 x d c u t a bz m o E) ca sa K) (n : Nat) : ∀ (b : tG) (l2 : Int32), F_Gr_findReached_L25 l1 n b l2 = some bz → Rn Z M_Gr_findReached 25 [some (.ref 44), some (.int l1), some (.int l2), none, none] [] (emb g1 g2 x d c u t a b m o E) ca sa K := by
  induction n with
  | zero =>
    intro b l2 h
    rw [F_Gr_findReached_L25] at h
    cases h
  | succ n ih =>
    intro b l2 h
    rw [F_Gr_findReached_L25] at h
    refine rn_iload_n (by exact dc_Gr_findReached 15 rfl) (by exact rfl) ?_
    refine rn_aload_n (by exact dc_Gr_findReached 16 rfl) (by exact rfl) ?_
    refine rn_getf (v := .int (G_ruleCount b)) fd_Gr_34 (by exact dc_Gr_findReached 17 rfl) (by exact rfl) (by exact rfl) ?_
    by_cases c1 : (G_ruleCount b) ≤ l2
    · replace h := rn_ifp c1 h
      refine rn_icmp_ge_t 101 (by exact dc_Gr_findReached 18 rfl) (by exact rfl) c1 ?_
      cases h
      exact rn_weak _ (by repeat (first | exact rn_le_0 | apply rn_le_s | apply rn_le_x)) hx
    · replace h := rn_ifn c1 h
      refine rn_icmp_ge_f 101 (by exact dc_Gr_findReached 18 rfl) (by exact rfl) c1 ?_
      refine rn_iconst (v := (0 : Int32)) (by exact dc_Gr_findReached 19 rfl) (by decide) ?_
      refine rn_istore_n (ls' := [some (.ref 44), some (.int l1), some (.int l2), some (.int (0 : Int32)), none]) (by exact dc_Gr_findReached 20 rfl) (by decide) (by exact rfl) ?_
      obtain ⟨b5, e2, h4⟩ := rn_bind h
      clear h
      have jx3 : Rn Z M_Gr_findReached 95 [some (.ref 44), some (.int l1), some (.int l2), none, none] [] (emb g1 g2 x d c u t a b5 m o E) ca sa K := by
        refine rn_iinc (ls' := [some (.ref 44), some (.int l1), some (.int (l2 + 1)), none, none]) (by exact dc_Gr_findReached 56 rfl) (by decide) (by exact rfl) (by exact rn_inc_1 _) (by exact rfl) ?_
        refine rn_goto 25 (by exact dc_Gr_findReached 57 rfl) (by exact rfl) ?_
        exact rn_weak _ (by repeat (first | exact rn_le_0 | apply rn_le_s | apply rn_le_x)) (ih _ _ h4)
      exact rn_weak _ (by repeat (first | exact rn_le_0 | apply rn_le_s | apply rn_le_x)) (p_Gr_findReached_L35_b jx3 _ _ _ e2)
def F_Gr_findReached (b : tG) (v0 : Int32) : Option tG :=
  Option.bind (F_Gr_findReached_L2 v0 rn_fu b (0 : Int32)) fun b4 =>
  Option.bind (F_Gr_findReached_L25 v0 rn_fu b4 (0 : Int32)) fun b8 =>
  Option.bind (F_Gr_closeReached b8 ) fun b10 =>
  some b10
set_option maxHeartbeats 4000000 in
set_option maxRecDepth 100000 in
theorem c_Gr_findReached_b {Z : rn_Z} {g1 g2 : Nat} {x : tX} {d : tD} {c : tC} {u : tU} {t : tT} {a : tG} {b : tG} {m : tM} {o : tO} {E : List rn_C} {v0 : Int32} {b_r : tG} (h : F_Gr_findReached b v0 = some b_r) : Call Z M_Gr_findReached [.ref 44, .int v0] (emb g1 g2 x d c u t a b m o E) 0 0 none (emb g1 g2 x d c u t a b_r m o E) := by
  unfold F_Gr_findReached at h
  refine rn_call (by decide) 3 (by exact Nat.le_of_ble_eq_true rfl) ?_
  show Rn Z M_Gr_findReached 0 [some (.ref 44), some (.int v0), none, none, none] [] (emb g1 g2 x d c u t a b m o E) 0 0 _
  refine rn_iconst (v := (0 : Int32)) (by exact dc_Gr_findReached 0 rfl) (by decide) ?_
  refine rn_istore_n (ls' := [some (.ref 44), some (.int v0), some (.int (0 : Int32)), none, none]) (by exact dc_Gr_findReached 1 rfl) (by decide) (by exact rfl) ?_
  obtain ⟨b4, e1, h3⟩ := rn_bind h
  clear h
  have jx2 : Rn Z M_Gr_findReached 23 [some (.ref 44), some (.int v0), none, none, none] [] (emb g1 g2 x d c u t a b4 m o E) 0 0 (rn_Ret Z none (emb g1 g2 x d c u t a b_r m o E)) := by
    refine rn_iconst (v := (0 : Int32)) (by exact dc_Gr_findReached 13 rfl) (by decide) ?_
    refine rn_istore_n (ls' := [some (.ref 44), some (.int v0), some (.int (0 : Int32)), none, none]) (by exact dc_Gr_findReached 14 rfl) (by decide) (by exact rfl) ?_
    obtain ⟨b8, e5, h7⟩ := rn_bind h3
    clear h3
    have jx6 : Rn Z M_Gr_findReached 101 [some (.ref 44), none, none, none, none] [] (emb g1 g2 x d c u t a b8 m o E) 0 0 (rn_Ret Z none (emb g1 g2 x d c u t a b_r m o E)) := by
      refine rn_aload_n (by exact dc_Gr_findReached 58 rfl) (by exact rfl) ?_
      obtain ⟨b10, e9, h11⟩ := rn_bind h7
      clear h7
      refine rn_invV0 (by exact c_Gr_closeReached_b e9) iv_Gr_74 (by exact ⟨Nat.le_of_ble_eq_true rfl, Nat.le_of_ble_eq_true rfl⟩) (by exact dc_Gr_findReached 59 rfl) (by exact rfl) (by exact rfl) (by exact rfl) (by exact Nat.le_of_ble_eq_true rfl) ?_
      show Rn _ _ 105 [some (.ref 44), none, none, none, none] [] (emb g1 g2 x d c u t a b10 m o E) _ _ _
      cases h11
      exact rn_return (by exact dc_Gr_findReached 60 rfl) (by exact rfl)
    exact rn_weak _ (by repeat (first | exact rn_le_0 | apply rn_le_s | apply rn_le_x)) (p_Gr_findReached_L25_b jx6 _ _ _ e5)
  exact rn_weak _ (by repeat (first | exact rn_le_0 | apply rn_le_s | apply rn_le_x)) (p_Gr_findReached_L2_b jx2 _ _ _ e1)
