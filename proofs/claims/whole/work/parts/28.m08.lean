def F_Ut_addRule_L59 (l3 : Int32) (l4 : Int32) (l5 : Int32) (l6 : Int32) (l7 : Int64) : Nat → tU → Int32 → Option tU
  | 0, _, _ => none
  | n + 1, u, l9 =>
    if (6 : Int32) ≤ l9 then (
      some u
    ) else (
      Option.bind (aG u 36 ((l4 * (6 : Int32)) + l9)) fun x2 =>
      Option.bind (F_Ut_sum u l6 l9) fun x6 =>
      Option.bind (aS u 36 ((l4 * (6 : Int32)) + l9) (x2 + (l7 * x6))) fun f8 =>
      F_Ut_addRule_L59 l3 l4 l5 l6 l7 n f8 (l9 + 1)
    )
set_option maxHeartbeats 4000000 in
set_option maxRecDepth 100000 in
theorem p_Ut_addRule_L59_b {Z : rn_Z} {g1 g2 : Nat} {x : tX} {d : tD} {c : tC}  {t : tT} {a : tG} {b : tG} {m : tM} {o : tO} {E : List rn_C}  {l3 : Int32} {l4 : Int32} {l5 : Int32} {l6 : Int32} {l7 : Int64} {K : rn_K} {ca sa : Nat} {uz : tU} (hx : Rn Z M_Ut_addRule 99 [some (.ref 28), some (.ref 44), some (.ref 4), some (.int l3), some (.int l4), some (.int l5), none, none, none, none] [] (emb g1 g2 x d c uz t a b m o E) ca sa K) (n : Nat) : ∀ (u : tU) (l9 : Int32), F_Ut_addRule_L59 l3 l4 l5 l6 l7 n u l9 = some uz → Rn Z M_Ut_addRule 59 [some (.ref 28), some (.ref 44), some (.ref 4), some (.int l3), some (.int l4), some (.int l5), some (.int l6), some (.long l7), none, some (.int l9)] [] (emb g1 g2 x d c u t a b m o E) ca sa K := by
  induction n with
  | zero =>
    intro u l9 h
    rw [F_Ut_addRule_L59] at h
    cases h
  | succ n ih =>
    intro u l9 h
    rw [F_Ut_addRule_L59] at h
    refine rn_iload (by exact dc_Ut_addRule 34 rfl) (by exact rfl) ?_
    refine rn_bipush (v := (6 : Int32)) (by exact dc_Ut_addRule 35 rfl) (by decide) ?_
    by_cases c1 : (6 : Int32) ≤ l9
    · replace h := rn_ifp c1 h
      refine rn_icmp_ge_t 99 (by exact dc_Ut_addRule 36 rfl) (by exact rfl) c1 ?_
      cases h
      exact rn_weak _ (by repeat (first | exact rn_le_0 | apply rn_le_s | apply rn_le_x)) hx
    · replace h := rn_ifn c1 h
      refine rn_icmp_ge_f 99 (by exact dc_Ut_addRule 36 rfl) (by exact rfl) c1 ?_
      refine rn_aload_n (by exact dc_Ut_addRule 37 rfl) (by exact rfl) ?_
      refine rn_getf (v := .ref 29) fd_Ut_9 (by exact dc_Ut_addRule 38 rfl) (by exact rfl) (by exact rfl) ?_
      refine rn_iload (by exact dc_Ut_addRule 39 rfl) (by exact rfl) ?_
      refine rn_bipush (v := (6 : Int32)) (by exact dc_Ut_addRule 40 rfl) (by decide) ?_
      refine rn_imul (by exact dc_Ut_addRule 41 rfl) ?_
      refine rn_iload (by exact dc_Ut_addRule 42 rfl) (by exact rfl) ?_
      refine rn_iadd (by exact dc_Ut_addRule 43 rfl) ?_
      refine rn_dup2 (by exact dc_Ut_addRule 44 rfl) (by exact rfl) (by exact rfl) ?_
      obtain ⟨x2, e3, h4⟩ := rn_bind h
      clear h
      refine rn_laload (by exact dc_Ut_addRule 45 rfl) (by exact rfl) e3 ?_
      refine rn_lload (by exact dc_Ut_addRule 46 rfl) (by exact rfl) ?_
      refine rn_aload_n (by exact dc_Ut_addRule 47 rfl) (by exact rfl) ?_
      refine rn_iload (by exact dc_Ut_addRule 48 rfl) (by exact rfl) ?_
      refine rn_iload (by exact dc_Ut_addRule 49 rfl) (by exact rfl) ?_
      obtain ⟨x6, e5, h7⟩ := rn_bind h4
      clear h4
      refine rn_invV0 (by exact c_Ut_sum e5) iv_Ut_53 (by exact ⟨Nat.le_of_ble_eq_true rfl, Nat.le_of_ble_eq_true rfl⟩) (by exact dc_Ut_addRule 50 rfl) (by exact rfl) (by exact rfl) (by exact rfl) (by exact Nat.le_of_ble_eq_true rfl) ?_
      show Rn _ _ 90 [some (.ref 28), some (.ref 44), some (.ref 4), some (.int l3), some (.int l4), some (.int l5), some (.int l6), some (.long l7), none, some (.int l9)] [.long x6, .long l7, .long x2, .int ((l4 * (6 : Int32)) + l9), .ref 29] (emb g1 g2 x d c u t a b m o E) _ _ _
      refine rn_lmul (by exact dc_Ut_addRule 51 rfl) ?_
      refine rn_ladd (by exact dc_Ut_addRule 52 rfl) ?_
      obtain ⟨f8, e9, h10⟩ := rn_bind h7
      clear h7
      refine rn_lastore (w2 := (emb g1 g2 x d c f8 t a b m o E)) (by exact dc_Ut_addRule 53 rfl) (by exact rfl) e9 (by exact rfl) ?_
      refine rn_iinc (ls' := [some (.ref 28), some (.ref 44), some (.ref 4), some (.int l3), some (.int l4), some (.int l5), some (.int l6), some (.long l7), none, some (.int (l9 + 1))]) (by exact dc_Ut_addRule 54 rfl) (by decide) (by exact rfl) (by exact rn_inc_1 _) (by exact rfl) ?_
      refine rn_goto 59 (by exact dc_Ut_addRule 55 rfl) (by exact rfl) ?_
      exact rn_weak _ (by repeat (first | exact rn_le_0 | apply rn_le_s | apply rn_le_x)) (ih _ _ h10)
def F_Ut_addRule_L11 (c : tC) (b : tG) (l3 : Int32) (l4 : Int32) : Nat → tU → Int32 → Option tU
  | 0, _, _ => none
  | n + 1, u, l5 =>
    Option.bind (aG (G_bodyLengths b) 12 l3) fun x1 =>
    if x1 ≤ l5 then (
      some u
    ) else (
      Option.bind (F_Gr_symbol b l3 l5) fun x6 =>
      Option.bind (F_Gr_isNonterminal  x6) fun x9 =>
      Option.bind (
        if x9 = 0 then (
          some u
        ) else (
          Option.bind (aG (G_weights b) 12 l3) fun x16 =>
          Option.bind (F_Ut_emptyProduct c b l3 l5) fun x20 =>
          Option.bind (F_Ut_addRule_L59 l3 l4 l5 x6 (x16 * x20) rn_fu u (0 : Int32)) fun u25 =>
          some u25
        )
       : Option tU) fun u11 =>
      F_Ut_addRule_L11 c b l3 l4 n u11 (l5 + 1)
    )
set_option maxHeartbeats 4000000 in
set_option maxRecDepth 100000 in
theorem p_Ut_addRule_L11_b {Z : rn_Z} {g1 g2 : Nat} {x : tX} {d : tD} {c : tC}  {t : tT} {a : tG} {b : tG} {m : tM} {o : tO} {E : List rn_C}  {l3 : Int32} {l4 : Int32} {K : rn_K} {ca sa : Nat} {uz : tU} (hx : Rn Z M_Ut_addRule 105 [none, none, none, none, none, none, none, none, none, none] [] (emb g1 g2 x d c uz t a b m o E) ca sa K) (n : Nat) : ∀ (u : tU) (l5 : Int32), F_Ut_addRule_L11 c b l3 l4 n u l5 = some uz → Rn Z M_Ut_addRule 11 [some (.ref 28), some (.ref 44), some (.ref 4), some (.int l3), some (.int l4), some (.int l5), none, none, none, none] [] (emb g1 g2 x d c u t a b m o E) ca sa K := by
  induction n with
  | zero =>
    intro u l5 h
    rw [F_Ut_addRule_L11] at h
    cases h
  | succ n ih =>
    intro u l5 h
    rw [F_Ut_addRule_L11] at h
    refine rn_iload (by exact dc_Ut_addRule 7 rfl) (by exact rfl) ?_
    refine rn_aload_n (by exact dc_Ut_addRule 8 rfl) (by exact rfl) ?_
    refine rn_getf (v := .ref 47) fd_Ut_35 (by exact dc_Ut_addRule 9 rfl) (by exact rfl) (by exact rfl) ?_
    refine rn_iload_n (by exact dc_Ut_addRule 10 rfl) (by exact rfl) ?_
    obtain ⟨x1, e2, h3⟩ := rn_bind h
    clear h
    refine rn_iaload (by exact dc_Ut_addRule 11 rfl) (by exact rfl) e2 ?_
    by_cases c4 : x1 ≤ l5
    · replace h3 := rn_ifp c4 h3
      refine rn_icmp_ge_t 105 (by exact dc_Ut_addRule 12 rfl) (by exact rfl) c4 ?_
      cases h3
      exact rn_weak _ (by repeat (first | exact rn_le_0 | apply rn_le_s | apply rn_le_x)) hx
    · replace h3 := rn_ifn c4 h3
      refine rn_icmp_ge_f 105 (by exact dc_Ut_addRule 12 rfl) (by exact rfl) c4 ?_
      refine rn_aload_n (by exact dc_Ut_addRule 13 rfl) (by exact rfl) ?_
      refine rn_iload_n (by exact dc_Ut_addRule 14 rfl) (by exact rfl) ?_
      refine rn_iload (by exact dc_Ut_addRule 15 rfl) (by exact rfl) ?_
      obtain ⟨x6, e5, h7⟩ := rn_bind h3
      clear h3
      refine rn_invV0 (by exact c_Gr_symbol_b e5) iv_Ut_38 (by exact ⟨Nat.le_of_ble_eq_true rfl, Nat.le_of_ble_eq_true rfl⟩) (by exact dc_Ut_addRule 16 rfl) (by exact rfl) (by exact rfl) (by exact rfl) (by exact Nat.le_of_ble_eq_true rfl) ?_
      show Rn _ _ 29 [some (.ref 28), some (.ref 44), some (.ref 4), some (.int l3), some (.int l4), some (.int l5), none, none, none, none] [.int x6] (emb g1 g2 x d c u t a b m o E) _ _ _
      refine rn_istore (ls' := [some (.ref 28), some (.ref 44), some (.ref 4), some (.int l3), some (.int l4), some (.int l5), some (.int x6), none, none, none]) (by exact dc_Ut_addRule 17 rfl) (by decide) (by exact rfl) ?_
      refine rn_iload (by exact dc_Ut_addRule 18 rfl) (by exact rfl) ?_
      obtain ⟨x9, e8, h10⟩ := rn_bind h7
      clear h7
      refine rn_invS0 (by exact c_Gr_isNonterminal e8) is_Ut_42 (by exact ⟨Nat.le_of_ble_eq_true rfl, Nat.le_of_ble_eq_true rfl⟩) (by exact dc_Ut_addRule 19 rfl) (by exact rfl) (by exact rfl) (by exact Nat.le_of_ble_eq_true rfl) ?_
      show Rn _ _ 36 [some (.ref 28), some (.ref 44), some (.ref 4), some (.int l3), some (.int l4), some (.int l5), some (.int x6), none, none, none] [.int x9] (emb g1 g2 x d c u t a b m o E) _ _ _
      obtain ⟨u11, e12, h14⟩ := rn_bind h10
      clear h10
      have jq13 : Rn Z M_Ut_addRule 99 [some (.ref 28), some (.ref 44), some (.ref 4), some (.int l3), some (.int l4), some (.int l5), none, none, none, none] [] (emb g1 g2 x d c u11 t a b m o E) ca sa K := by
        refine rn_iinc (ls' := [some (.ref 28), some (.ref 44), some (.ref 4), some (.int l3), some (.int l4), some (.int (l5 + 1)), none, none, none, none]) (by exact dc_Ut_addRule 56 rfl) (by decide) (by exact rfl) (by exact rn_inc_1 _) (by exact rfl) ?_
        refine rn_goto 11 (by exact dc_Ut_addRule 57 rfl) (by exact rfl) ?_
        exact rn_weak _ (by repeat (first | exact rn_le_0 | apply rn_le_s | apply rn_le_x)) (ih _ _ h14)
      by_cases c15 : x9 = 0
      · replace e12 := rn_ifp c15 e12
        refine rn_if_eq_t 99 (by exact dc_Ut_addRule 20 rfl) (by exact rfl) c15 ?_
        cases e12
        exact rn_weak _ (by repeat (first | exact rn_le_0 | apply rn_le_s | apply rn_le_x)) jq13
      · replace e12 := rn_ifn c15 e12
        refine rn_if_eq_f 99 (by exact dc_Ut_addRule 20 rfl) (by exact rfl) c15 ?_
        refine rn_aload_n (by exact dc_Ut_addRule 21 rfl) (by exact rfl) ?_
        refine rn_getf (v := .ref 48) fd_Ut_46 (by exact dc_Ut_addRule 22 rfl) (by exact rfl) (by exact rfl) ?_
        refine rn_iload_n (by exact dc_Ut_addRule 23 rfl) (by exact rfl) ?_
        obtain ⟨x16, e17, h18⟩ := rn_bind e12
        clear e12
        refine rn_laload (by exact dc_Ut_addRule 24 rfl) (by exact rfl) e17 ?_
        refine rn_aload_n (by exact dc_Ut_addRule 25 rfl) (by exact rfl) ?_
        refine rn_aload_n (by exact dc_Ut_addRule 26 rfl) (by exact rfl) ?_
        refine rn_iload_n (by exact dc_Ut_addRule 27 rfl) (by exact rfl) ?_
        refine rn_iload (by exact dc_Ut_addRule 28 rfl) (by exact rfl) ?_
        obtain ⟨x20, e19, h21⟩ := rn_bind h18
        clear h18
        refine rn_invS0 (by exact c_Ut_emptyProduct_b e19) is_Ut_49 (by exact ⟨Nat.le_of_ble_eq_true rfl, Nat.le_of_ble_eq_true rfl⟩) (by exact dc_Ut_addRule 29 rfl) (by exact rfl) (by exact rfl) (by exact Nat.le_of_ble_eq_true rfl) ?_
        show Rn _ _ 53 [some (.ref 28), some (.ref 44), some (.ref 4), some (.int l3), some (.int l4), some (.int l5), some (.int x6), none, none, none] [.long x20, .long x16] (emb g1 g2 x d c u t a b m o E) _ _ _
        refine rn_lmul (by exact dc_Ut_addRule 30 rfl) ?_
        refine rn_lstore (ls' := [some (.ref 28), some (.ref 44), some (.ref 4), some (.int l3), some (.int l4), some (.int l5), some (.int x6), some (.long (x16 * x20)), none, none]) (by exact dc_Ut_addRule 31 rfl) (by decide) (by exact rfl) ?_
        refine rn_iconst (v := (0 : Int32)) (by exact dc_Ut_addRule 32 rfl) (by decide) ?_
        refine rn_istore (ls' := [some (.ref 28), some (.ref 44), some (.ref 4), some (.int l3), some (.int l4), some (.int l5), some (.int x6), some (.long (x16 * x20)), none, some (.int (0 : Int32))]) (by exact dc_Ut_addRule 33 rfl) (by decide) (by exact rfl) ?_
        obtain ⟨u25, e22, h24⟩ := rn_bind h21
        clear h21
        have jx23 : Rn Z M_Ut_addRule 99 [some (.ref 28), some (.ref 44), some (.ref 4), some (.int l3), some (.int l4), some (.int l5), none, none, none, none] [] (emb g1 g2 x d c u25 t a b m o E) ca sa K := by
          cases h24
          exact rn_weak _ (by repeat (first | exact rn_le_0 | apply rn_le_s | apply rn_le_x)) jq13
        exact rn_weak _ (by repeat (first | exact rn_le_0 | apply rn_le_s | apply rn_le_x)) (p_Ut_addRule_L59_b jx23 _ _ _ e22)
def F_Ut_addRule (c : tC) (u : tU) (b : tG) (v0 : Int32) : Option tU :=
  Option.bind (aG (G_heads b) 12 v0) fun x1 =>
  Option.bind (F_Ut_addRule_L11 c b v0 x1 rn_fu u (0 : Int32)) fun u7 =>
  some u7
set_option maxHeartbeats 4000000 in
set_option maxRecDepth 100000 in
theorem c_Ut_addRule_b {Z : rn_Z} {g1 g2 : Nat} {x : tX} {d : tD} {c : tC} {u : tU} {t : tT} {a : tG} {b : tG} {m : tM} {o : tO} {E : List rn_C} {v0 : Int32} {u_r : tU} (h : F_Ut_addRule c u b v0 = some u_r) : Call Z M_Ut_addRule [.ref 28, .ref 44, .ref 4, .int v0] (emb g1 g2 x d c u t a b m o E) 0 0 none (emb g1 g2 x d c u_r t a b m o E) := by
  unfold F_Ut_addRule at h
  refine rn_call (by decide) 6 (by exact Nat.le_of_ble_eq_true rfl) ?_
  show Rn Z M_Ut_addRule 0 [some (.ref 28), some (.ref 44), some (.ref 4), some (.int v0), none, none, none, none, none, none] [] (emb g1 g2 x d c u t a b m o E) 0 0 _
  refine rn_aload_n (by exact dc_Ut_addRule 0 rfl) (by exact rfl) ?_
  refine rn_getf (v := .ref 45) fd_Ut_28 (by exact dc_Ut_addRule 1 rfl) (by exact rfl) (by exact rfl) ?_
  refine rn_iload_n (by exact dc_Ut_addRule 2 rfl) (by exact rfl) ?_
  obtain ⟨x1, e2, h3⟩ := rn_bind h
  clear h
  refine rn_iaload (by exact dc_Ut_addRule 3 rfl) (by exact rfl) e2 ?_
  refine rn_istore (ls' := [some (.ref 28), some (.ref 44), some (.ref 4), some (.int v0), some (.int x1), none, none, none, none, none]) (by exact dc_Ut_addRule 4 rfl) (by decide) (by exact rfl) ?_
  refine rn_iconst (v := (0 : Int32)) (by exact dc_Ut_addRule 5 rfl) (by decide) ?_
  refine rn_istore (ls' := [some (.ref 28), some (.ref 44), some (.ref 4), some (.int v0), some (.int x1), some (.int (0 : Int32)), none, none, none, none]) (by exact dc_Ut_addRule 6 rfl) (by decide) (by exact rfl) ?_
  obtain ⟨u7, e4, h6⟩ := rn_bind h3
  clear h3
  have jx5 : Rn Z M_Ut_addRule 105 [none, none, none, none, none, none, none, none, none, none] [] (emb g1 g2 x d c u7 t a b m o E) 0 0 (rn_Ret Z none (emb g1 g2 x d c u_r t a b m o E)) := by
    cases h6
    exact rn_return (by exact dc_Ut_addRule 58 rfl) (by exact rfl)
  exact rn_weak _ (by repeat (first | exact rn_le_0 | apply rn_le_s | apply rn_le_x)) (p_Ut_addRule_L11_b jx5 _ _ _ e4)
def F_Ut_fill_L21 (l3 : Int32) (l4 : Int32) : Nat → tU → Int32 → Option tU
  | 0, _, _ => none
  | n + 1, u, l5 =>
    if (6 : Int32) ≤ l5 then (
      some u
    ) else (
      Option.bind (
        if ¬ l4 = l5 then (
          some (0 : Int64)
        ) else (
          some (1 : Int64)
        )
       : Option Int64) fun y2 =>
      Option.bind (aS u 36 ((l4 * (6 : Int32)) + l5) y2) fun f7 =>
      F_Ut_fill_L21 l3 l4 n f7 (l5 + 1)
    )
set_option maxHeartbeats 4000000 in
set_option maxRecDepth 100000 in
theorem p_Ut_fill_L21_b {Z : rn_Z} {g1 g2 : Nat} {x : tX} {d : tD} {c : tC}  {t : tT} {a : tG} {b : tG} {m : tM} {o : tO} {E : List rn_C}  {l3 : Int32} {l4 : Int32} {K : rn_K} {ca sa : Nat} {uz : tU} (hx : Rn Z M_Ut_fill 59 [some (.ref 28), some (.ref 44), some (.ref 4), some (.int l3), some (.int l4), none] [] (emb g1 g2 x d c uz t a b m o E) ca sa K) (n : Nat) : ∀ (u : tU) (l5 : Int32), F_Ut_fill_L21 l3 l4 n u l5 = some uz → Rn Z M_Ut_fill 21 [some (.ref 28), some (.ref 44), some (.ref 4), some (.int l3), some (.int l4), some (.int l5)] [] (emb g1 g2 x d c u t a b m o E) ca sa K := by
  induction n with
  | zero =>
    intro u l5 h
    rw [F_Ut_fill_L21] at h
    cases h
  | succ n ih =>
    intro u l5 h
    rw [F_Ut_fill_L21] at h
    refine rn_iload (by exact dc_Ut_fill 13 rfl) (by exact rfl) ?_
    refine rn_bipush (v := (6 : Int32)) (by exact dc_Ut_fill 14 rfl) (by decide) ?_
    by_cases c1 : (6 : Int32) ≤ l5
    · replace h := rn_ifp c1 h
      refine rn_icmp_ge_t 59 (by exact dc_Ut_fill 15 rfl) (by exact rfl) c1 ?_
      cases h
      exact rn_weak _ (by repeat (first | exact rn_le_0 | apply rn_le_s | apply rn_le_x)) hx
    · replace h := rn_ifn c1 h
      refine rn_icmp_ge_f 59 (by exact dc_Ut_fill 15 rfl) (by exact rfl) c1 ?_
      refine rn_aload_n (by exact dc_Ut_fill 16 rfl) (by exact rfl) ?_
      refine rn_getf (v := .ref 29) fd_Ut_9 (by exact dc_Ut_fill 17 rfl) (by exact rfl) (by exact rfl) ?_
      refine rn_iload (by exact dc_Ut_fill 18 rfl) (by exact rfl) ?_
      refine rn_bipush (v := (6 : Int32)) (by exact dc_Ut_fill 19 rfl) (by decide) ?_
      refine rn_imul (by exact dc_Ut_fill 20 rfl) ?_
      refine rn_iload (by exact dc_Ut_fill 21 rfl) (by exact rfl) ?_
      refine rn_iadd (by exact dc_Ut_fill 22 rfl) ?_
      refine rn_iload (by exact dc_Ut_fill 23 rfl) (by exact rfl) ?_
      refine rn_iload (by exact dc_Ut_fill 24 rfl) (by exact rfl) ?_
      obtain ⟨y2, e3, h5⟩ := rn_bind h
      clear h
      have jq4 : Rn Z M_Ut_fill 52 [some (.ref 28), some (.ref 44), some (.ref 4), some (.int l3), some (.int l4), some (.int l5)] [.long y2, .int ((l4 * (6 : Int32)) + l5), .ref 29] (emb g1 g2 x d c u t a b m o E) ca sa K := by
        obtain ⟨f7, e8, h9⟩ := rn_bind h5
        clear h5
        refine rn_lastore (w2 := (emb g1 g2 x d c f7 t a b m o E)) (by exact dc_Ut_fill 29 rfl) (by exact rfl) e8 (by exact rfl) ?_
        refine rn_iinc (ls' := [some (.ref 28), some (.ref 44), some (.ref 4), some (.int l3), some (.int l4), some (.int (l5 + 1))]) (by exact dc_Ut_fill 30 rfl) (by decide) (by exact rfl) (by exact rn_inc_1 _) (by exact rfl) ?_
        refine rn_goto 21 (by exact dc_Ut_fill 31 rfl) (by exact rfl) ?_
        exact rn_weak _ (by repeat (first | exact rn_le_0 | apply rn_le_s | apply rn_le_x)) (ih _ _ h9)
      by_cases c6 : ¬ l4 = l5
      · replace e3 := rn_ifp c6 e3
        refine rn_icmp_ne_t 51 (by exact dc_Ut_fill 25 rfl) (by exact rfl) c6 ?_
        refine rn_lconst (v := (0 : Int64)) (by exact dc_Ut_fill 28 rfl) (by decide) ?_
        cases e3
        exact rn_weak _ (by repeat (first | exact rn_le_0 | apply rn_le_s | apply rn_le_x)) jq4
      · replace e3 := rn_ifn c6 e3
        refine rn_icmp_ne_f 51 (by exact dc_Ut_fill 25 rfl) (by exact rfl) (Classical.not_not.mp c6) ?_
        refine rn_lconst (v := (1 : Int64)) (by exact dc_Ut_fill 26 rfl) (by decide) ?_
        refine rn_goto 52 (by exact dc_Ut_fill 27 rfl) (by exact rfl) ?_
        cases e3
        exact rn_weak _ (by repeat (first | exact rn_le_0 | apply rn_le_s | apply rn_le_x)) jq4
def F_Ut_fill_L62 (c : tC) (b : tG) (l3 : Int32) (l4 : Int32) : Nat → tU → Int32 → Option tU
  | 0, _, _ => none
  | n + 1, u, l5 =>
    if (G_ruleCount b) ≤ l5 then (
      some u
    ) else (
      Option.bind (aG (G_heads b) 12 l5) fun x2 =>
      Option.bind (
        if ¬ x2 = l4 then (
          some u
        ) else (
          Option.bind (F_Ut_addRule c u b l5) fun u11 =>
          some u11
        )
       : Option tU) fun u5 =>
      F_Ut_fill_L62 c b l3 l4 n u5 (l5 + 1)
    )
set_option maxHeartbeats 4000000 in
set_option maxRecDepth 100000 in
theorem p_Ut_fill_L62_b {Z : rn_Z} {g1 g2 : Nat} {x : tX} {d : tD} {c : tC}  {t : tT} {a : tG} {b : tG} {m : tM} {o : tO} {E : List rn_C}  {l3 : Int32} {l4 : Int32} {K : rn_K} {ca sa : Nat} {uz : tU} (hx : Rn Z M_Ut_fill 97 [some (.ref 28), some (.ref 44), some (.ref 4), some (.int l3), none, none] [] (emb g1 g2 x d c uz t a b m o E) ca sa K) (n : Nat) : ∀ (u : tU) (l5 : Int32), F_Ut_fill_L62 c b l3 l4 n u l5 = some uz → Rn Z M_Ut_fill 62 [some (.ref 28), some (.ref 44), some (.ref 4), some (.int l3), some (.int l4), some (.int l5)] [] (emb g1 g2 x d c u t a b m o E) ca sa K := by
  induction n with
  | zero =>
    intro u l5 h
    rw [F_Ut_fill_L62] at h
    cases h
  | succ n ih =>
    intro u l5 h
    rw [F_Ut_fill_L62] at h
    refine rn_iload (by exact dc_Ut_fill 34 rfl) (by exact rfl) ?_
    refine rn_aload_n (by exact dc_Ut_fill 35 rfl) (by exact rfl) ?_
    refine rn_getf (v := .int (G_ruleCount b)) fd_Ut_25 (by exact dc_Ut_fill 36 rfl) (by exact rfl) (by exact rfl) ?_
    by_cases c1 : (G_ruleCount b) ≤ l5
    · replace h := rn_ifp c1 h
      refine rn_icmp_ge_t 97 (by exact dc_Ut_fill 37 rfl) (by exact rfl) c1 ?_
      cases h
      exact rn_weak _ (by repeat (first | exact rn_le_0 | apply rn_le_s | apply rn_le_x)) hx
    · replace h := rn_ifn c1 h
      refine rn_icmp_ge_f 97 (by exact dc_Ut_fill 37 rfl) (by exact rfl) c1 ?_
      refine rn_aload_n (by exact dc_Ut_fill 38 rfl) (by exact rfl) ?_
      refine rn_getf (v := .ref 45) fd_Ut_28 (by exact dc_Ut_fill 39 rfl) (by exact rfl) (by exact rfl) ?_
      refine rn_iload (by exact dc_Ut_fill 40 rfl) (by exact rfl) ?_
      obtain ⟨x2, e3, h4⟩ := rn_bind h
      clear h
      refine rn_iaload (by exact dc_Ut_fill 41 rfl) (by exact rfl) e3 ?_
      refine rn_iload (by exact dc_Ut_fill 42 rfl) (by exact rfl) ?_
      obtain ⟨u5, e6, h8⟩ := rn_bind h4
      clear h4
      have jq7 : Rn Z M_Ut_fill 91 [some (.ref 28), some (.ref 44), some (.ref 4), some (.int l3), some (.int l4), some (.int l5)] [] (emb g1 g2 x d c u5 t a b m o E) ca sa K := by
        refine rn_iinc (ls' := [some (.ref 28), some (.ref 44), some (.ref 4), some (.int l3), some (.int l4), some (.int (l5 + 1))]) (by exact dc_Ut_fill 49 rfl) (by decide) (by exact rfl) (by exact rn_inc_1 _) (by exact rfl) ?_
        refine rn_goto 62 (by exact dc_Ut_fill 50 rfl) (by exact rfl) ?_
        exact rn_weak _ (by repeat (first | exact rn_le_0 | apply rn_le_s | apply rn_le_x)) (ih _ _ h8)
      by_cases c9 : ¬ x2 = l4
      · replace e6 := rn_ifp c9 e6
        refine rn_icmp_ne_t 91 (by exact dc_Ut_fill 43 rfl) (by exact rfl) c9 ?_
        cases e6
        exact rn_weak _ (by repeat (first | exact rn_le_0 | apply rn_le_s | apply rn_le_x)) jq7
      · replace e6 := rn_ifn c9 e6
        refine rn_icmp_ne_f 91 (by exact dc_Ut_fill 43 rfl) (by exact rfl) (Classical.not_not.mp c9) ?_
        refine rn_aload_n (by exact dc_Ut_fill 44 rfl) (by exact rfl) ?_
        refine rn_aload_n (by exact dc_Ut_fill 45 rfl) (by exact rfl) ?_
        refine rn_aload_n (by exact dc_Ut_fill 46 rfl) (by exact rfl) ?_
        refine rn_iload (by exact dc_Ut_fill 47 rfl) (by exact rfl) ?_
        obtain ⟨u11, e10, h12⟩ := rn_bind e6
        clear e6
        refine rn_invV0 (by exact c_Ut_addRule_b e10) iv_Ut_31 (by exact ⟨Nat.le_of_ble_eq_true rfl, Nat.le_of_ble_eq_true rfl⟩) (by exact dc_Ut_fill 48 rfl) (by exact rfl) (by exact rfl) (by exact rfl) (by exact Nat.le_of_ble_eq_true rfl) ?_
        show Rn _ _ 91 [some (.ref 28), some (.ref 44), some (.ref 4), some (.int l3), some (.int l4), some (.int l5)] [] (emb g1 g2 x d c u11 t a b m o E) _ _ _
        cases h12
        exact rn_weak _ (by repeat (first | exact rn_le_0 | apply rn_le_s | apply rn_le_x)) jq7
def F_Ut_fill_L2 (c : tC) (b : tG) : Nat → tU → Int32 → Option tU
  | 0, _, _ => none
  | n + 1, u, l3 =>
    if (G_nonterminalCount b) ≤ l3 then (
      some u
    ) else (
      Option.bind (aG (G_order b) 6 l3) fun x2 =>
      Option.bind (F_Ut_fill_L21 l3 x2 rn_fu u (0 : Int32)) fun u8 =>
      Option.bind (F_Ut_fill_L62 c b l3 x2 rn_fu u8 (0 : Int32)) fun u12 =>
      F_Ut_fill_L2 c b n u12 (l3 + 1)
    )
set_option maxHeartbeats 4000000 in
set_option maxRecDepth 100000 in
theorem p_Ut_fill_L2_b {Z : rn_Z} {g1 g2 : Nat} {x : tX} {d : tD} {c : tC}  {t : tT} {a : tG} {b : tG} {m : tM} {o : tO} {E : List rn_C}   {K : rn_K} {ca sa : Nat} {uz : tU} (hx : Rn Z M_Ut_fill 103 [none, none, none, none, none, none] [] (emb g1 g2 x d c uz t a b m o E) ca sa K) (n : Nat) : ∀ (u : tU) (l3 : Int32), F_Ut_fill_L2 c b n u l3 = some uz → Rn Z M_Ut_fill 2 [some (.ref 28), some (.ref 44), some (.ref 4), some (.int l3), none, none] [] (emb g1 g2 x d c u t a b m o E) ca sa K := by
  induction n with
  | zero =>
    intro u l3 h
    rw [F_Ut_fill_L2] at h
    cases h
  | succ n ih =>
    intro u l3 h
    rw [F_Ut_fill_L2] at h
    refine rn_iload_n (by exact dc_Ut_fill 2 rfl) (by exact rfl) ?_
    refine rn_aload_n (by exact dc_Ut_fill 3 rfl) (by exact rfl) ?_
    refine rn_getf (v := .int (G_nonterminalCount b)) fd_Ut_15 (by exact dc_Ut_fill 4 rfl) (by exact rfl) (by exact rfl) ?_
    by_cases c1 : (G_nonterminalCount b) ≤ l3
    · replace h := rn_ifp c1 h
      refine rn_icmp_ge_t 103 (by exact dc_Ut_fill 5 rfl) (by exact rfl) c1 ?_
      cases h
      exact rn_weak _ (by repeat (first | exact rn_le_0 | apply rn_le_s | apply rn_le_x)) hx
    · replace h := rn_ifn c1 h
      refine rn_icmp_ge_f 103 (by exact dc_Ut_fill 5 rfl) (by exact rfl) c1 ?_
      refine rn_aload_n (by exact dc_Ut_fill 6 rfl) (by exact rfl) ?_
      refine rn_getf (v := .ref 51) fd_Ut_21 (by exact dc_Ut_fill 7 rfl) (by exact rfl) (by exact rfl) ?_
      refine rn_iload_n (by exact dc_Ut_fill 8 rfl) (by exact rfl) ?_
      obtain ⟨x2, e3, h4⟩ := rn_bind h
      clear h
      refine rn_iaload (by exact dc_Ut_fill 9 rfl) (by exact rfl) e3 ?_
      refine rn_istore (ls' := [some (.ref 28), some (.ref 44), some (.ref 4), some (.int l3), some (.int x2), none]) (by exact dc_Ut_fill 10 rfl) (by decide) (by exact rfl) ?_
      refine rn_iconst (v := (0 : Int32)) (by exact dc_Ut_fill 11 rfl) (by decide) ?_
      refine rn_istore (ls' := [some (.ref 28), some (.ref 44), some (.ref 4), some (.int l3), some (.int x2), some (.int (0 : Int32))]) (by exact dc_Ut_fill 12 rfl) (by decide) (by exact rfl) ?_
      obtain ⟨u8, e5, h7⟩ := rn_bind h4
      clear h4
      have jx6 : Rn Z M_Ut_fill 59 [some (.ref 28), some (.ref 44), some (.ref 4), some (.int l3), some (.int x2), none] [] (emb g1 g2 x d c u8 t a b m o E) ca sa K := by
        refine rn_iconst (v := (0 : Int32)) (by exact dc_Ut_fill 32 rfl) (by decide) ?_
        refine rn_istore (ls' := [some (.ref 28), some (.ref 44), some (.ref 4), some (.int l3), some (.int x2), some (.int (0 : Int32))]) (by exact dc_Ut_fill 33 rfl) (by decide) (by exact rfl) ?_
        obtain ⟨u12, e9, h11⟩ := rn_bind h7
        clear h7
        have jx10 : Rn Z M_Ut_fill 97 [some (.ref 28), some (.ref 44), some (.ref 4), some (.int l3), none, none] [] (emb g1 g2 x d c u12 t a b m o E) ca sa K := by
          refine rn_iinc (ls' := [some (.ref 28), some (.ref 44), some (.ref 4), some (.int (l3 + 1)), none, none]) (by exact dc_Ut_fill 51 rfl) (by decide) (by exact rfl) (by exact rn_inc_1 _) (by exact rfl) ?_
          refine rn_goto 2 (by exact dc_Ut_fill 52 rfl) (by exact rfl) ?_
          exact rn_weak _ (by repeat (first | exact rn_le_0 | apply rn_le_s | apply rn_le_x)) (ih _ _ h11)
        exact rn_weak _ (by repeat (first | exact rn_le_0 | apply rn_le_s | apply rn_le_x)) (p_Ut_fill_L62_b jx10 _ _ _ e9)
      exact rn_weak _ (by repeat (first | exact rn_le_0 | apply rn_le_s | apply rn_le_x)) (p_Ut_fill_L21_b jx6 _ _ _ e5)
def F_Ut_fill (c : tC) (u : tU) (b : tG)  : Option tU :=
  Option.bind (F_Ut_fill_L2 c b rn_fu u (0 : Int32)) fun u4 =>
  some u4
set_option maxHeartbeats 4000000 in
set_option maxRecDepth 100000 in
theorem c_Ut_fill_b {Z : rn_Z} {g1 g2 : Nat} {x : tX} {d : tD} {c : tC} {u : tU} {t : tT} {a : tG} {b : tG} {m : tM} {o : tO} {E : List rn_C}  {u_r : tU} (h : F_Ut_fill c u b  = some u_r) : Call Z M_Ut_fill [.ref 28, .ref 44, .ref 4] (emb g1 g2 x d c u t a b m o E) 0 0 none (emb g1 g2 x d c u_r t a b m o E) := by
  unfold F_Ut_fill at h
  refine rn_call (by decide) 3 (by exact Nat.le_of_ble_eq_true rfl) ?_
  show Rn Z M_Ut_fill 0 [some (.ref 28), some (.ref 44), some (.ref 4), none, none, none] [] (emb g1 g2 x d c u t a b m o E) 0 0 _
  refine rn_iconst (v := (0 : Int32)) (by exact dc_Ut_fill 0 rfl) (by decide) ?_
  refine rn_istore_n (ls' := [some (.ref 28), some (.ref 44), some (.ref 4), some (.int (0 : Int32)), none, none]) (by exact dc_Ut_fill 1 rfl) (by decide) (by exact rfl) ?_
  obtain ⟨u4, e1, h3⟩ := rn_bind h
  clear h
  have jx2 : Rn Z M_Ut_fill 103 [none, none, none, none, none, none] [] (emb g1 g2 x d c u4 t a b m o E) 0 0 (rn_Ret Z none (emb g1 g2 x d c u_r t a b m o E)) := by
    cases h3
    exact rn_return (by exact dc_Ut_fill 53 rfl) (by exact rfl)
  exact rn_weak _ (by repeat (first | exact rn_le_0 | apply rn_le_s | apply rn_le_x)) (p_Ut_fill_L2_b jx2 _ _ _ e1)
def F_Tl_clear (t : tT)  : Option tT :=
  some (T_rules t, T_starts t, T_ends t, T_symbols t, (0 : Int32))
set_option maxHeartbeats 4000000 in
set_option maxRecDepth 100000 in
theorem c_Tl_clear {Z : rn_Z} {g1 g2 : Nat} {x : tX} {d : tD} {c : tC} {u : tU} {t : tT} {a : tG} {b : tG} {m : tM} {o : tO} {E : List rn_C}  {t_r : tT} (h : F_Tl_clear t  = some t_r) : Call Z M_Tl_clear [.ref 30] (emb g1 g2 x d c u t a b m o E) 0 0 none (emb g1 g2 x d c u t_r a b m o E) := by
  unfold F_Tl_clear at h
  refine rn_call (by decide) 0 (by exact Nat.le_of_ble_eq_true rfl) ?_
  show Rn Z M_Tl_clear 0 [some (.ref 30)] [] (emb g1 g2 x d c u t a b m o E) 0 0 _
  refine rn_aload_n (by exact dc_Tl_clear 0 rfl) (by exact rfl) ?_
  refine rn_iconst (v := (0 : Int32)) (by exact dc_Tl_clear 1 rfl) (by decide) ?_
  refine rn_putf (w2 := (emb g1 g2 x d c u (T_rules t, T_starts t, T_ends t, T_symbols t, (0 : Int32)) a b m o E)) fd_Tl_24 (by exact dc_Tl_clear 2 rfl) (by exact rfl) (by exact rfl) (by exact Nat.le_of_ble_eq_true rfl) (by exact rfl) ?_
  cases h
  exact rn_return (by exact dc_Tl_clear 3 rfl) (by exact rfl)
def F_Tl_shownCount (t : tT)  : Option Int32 :=
  some (if (100 : Int32) < T_nodeCount t then (100 : Int32) else T_nodeCount t)
set_option maxHeartbeats 4000000 in
set_option maxRecDepth 100000 in
theorem c_Tl_shownCount {Z : rn_Z} {g1 g2 : Nat} {x : tX} {d : tD} {c : tC} {u : tU} {t : tT} {a : tG} {b : tG} {m : tM} {o : tO} {E : List rn_C}  {res : Int32} (h : F_Tl_shownCount t  = some res) : Call Z M_Tl_shownCount [.ref 30] (emb g1 g2 x d c u t a b m o E) 0 0 (some (.int res)) (emb g1 g2 x d c u t a b m o E) := by
  unfold F_Tl_shownCount at h
  refine rn_call (by decide) 0 (by exact Nat.le_of_ble_eq_true rfl) ?_
  show Rn Z M_Tl_shownCount 0 [some (.ref 30)] [] (emb g1 g2 x d c u t a b m o E) 0 0 _
  refine rn_aload_n (by exact dc_Tl_shownCount 0 rfl) (by exact rfl) ?_
  refine rn_getf (v := .int (T_nodeCount t)) fd_Tl_24 (by exact dc_Tl_shownCount 1 rfl) (by exact rfl) (by exact rfl) ?_
  refine rn_bipush (v := (100 : Int32)) (by exact dc_Tl_shownCount 2 rfl) (by decide) ?_
  refine rn_mmin mm_Tl_28 mm_1 mm_2 mm_3 (by exact dc_Tl_shownCount 3 rfl) (by decide) (by decide) ?_
  cases h
  exact rn_ireturn (by exact dc_Tl_shownCount 4 rfl) (by exact rfl)
def F_Tl_keepPlace (t : tT) (v0 : Int32) (v1 : Int32) (v2 : Int32) (v3 : Int32) : Option tT :=
  Option.bind (aS (T_symbols t) 100 v0 v1) fun f1 =>
  Option.bind (aS (T_starts t) 100 v0 v2) fun f4 =>
  Option.bind (aS (T_ends t) 100 v0 v3) fun f7 =>
  some (T_rules t, f4, f7, f1, T_nodeCount t)
set_option maxHeartbeats 4000000 in
set_option maxRecDepth 100000 in
theorem c_Tl_keepPlace {Z : rn_Z} {g1 g2 : Nat} {x : tX} {d : tD} {c : tC} {u : tU} {t : tT} {a : tG} {b : tG} {m : tM} {o : tO} {E : List rn_C} {v0 : Int32} {v1 : Int32} {v2 : Int32} {v3 : Int32} {t_r : tT} (h : F_Tl_keepPlace t v0 v1 v2 v3 = some t_r) : Call Z M_Tl_keepPlace [.ref 30, .int v0, .int v1, .int v2, .int v3] (emb g1 g2 x d c u t a b m o E) 0 0 none (emb g1 g2 x d c u t_r a b m o E) := by
  unfold F_Tl_keepPlace at h
  refine rn_call (by decide) 0 (by exact Nat.le_of_ble_eq_true rfl) ?_
  show Rn Z M_Tl_keepPlace 0 [some (.ref 30), some (.int v0), some (.int v1), some (.int v2), some (.int v3)] [] (emb g1 g2 x d c u t a b m o E) 0 0 _
  refine rn_aload_n (by exact dc_Tl_keepPlace 0 rfl) (by exact rfl) ?_
  refine rn_getf (v := .ref 34) fd_Tl_21 (by exact dc_Tl_keepPlace 1 rfl) (by exact rfl) (by exact rfl) ?_
  refine rn_iload_n (by exact dc_Tl_keepPlace 2 rfl) (by exact rfl) ?_
  refine rn_iload_n (by exact dc_Tl_keepPlace 3 rfl) (by exact rfl) ?_
  obtain ⟨f1, e2, h3⟩ := rn_bind h
  clear h
  refine rn_iastore (w2 := (emb g1 g2 x d c u (T_rules t, T_starts t, T_ends t, f1, T_nodeCount t) a b m o E)) (by exact dc_Tl_keepPlace 4 rfl) (by exact rfl) e2 (by exact rfl) ?_
  refine rn_aload_n (by exact dc_Tl_keepPlace 5 rfl) (by exact rfl) ?_
  refine rn_getf (v := .ref 32) fd_Tl_15 (by exact dc_Tl_keepPlace 6 rfl) (by exact rfl) (by exact rfl) ?_
  refine rn_iload_n (by exact dc_Tl_keepPlace 7 rfl) (by exact rfl) ?_
  refine rn_iload_n (by exact dc_Tl_keepPlace 8 rfl) (by exact rfl) ?_
  obtain ⟨f4, e5, h6⟩ := rn_bind h3
  clear h3
  refine rn_iastore (w2 := (emb g1 g2 x d c u (T_rules t, f4, T_ends t, f1, T_nodeCount t) a b m o E)) (by exact dc_Tl_keepPlace 9 rfl) (by exact rfl) e5 (by exact rfl) ?_
  refine rn_aload_n (by exact dc_Tl_keepPlace 10 rfl) (by exact rfl) ?_
  refine rn_getf (v := .ref 33) fd_Tl_18 (by exact dc_Tl_keepPlace 11 rfl) (by exact rfl) (by exact rfl) ?_
  refine rn_iload_n (by exact dc_Tl_keepPlace 12 rfl) (by exact rfl) ?_
  refine rn_iload (by exact dc_Tl_keepPlace 13 rfl) (by exact rfl) ?_
  obtain ⟨f7, e8, h9⟩ := rn_bind h6
  clear h6
  refine rn_iastore (w2 := (emb g1 g2 x d c u (T_rules t, f4, f7, f1, T_nodeCount t) a b m o E)) (by exact dc_Tl_keepPlace 14 rfl) (by exact rfl) e8 (by exact rfl) ?_
  cases h9
  exact rn_return (by exact dc_Tl_keepPlace 15 rfl) (by exact rfl)
def F_Ch_lengthOf (c : tC) (v0 : Int32) (v1 : Int32) : Option Int32 :=
  Option.bind (aG (C_lengths c) 390 v0) fun x1 =>
  some ((x1 >>> (((4 : Int32) * v1) &&& 31)) &&& (15 : Int32))
set_option maxHeartbeats 4000000 in
set_option maxRecDepth 100000 in
theorem c_Ch_lengthOf {Z : rn_Z} {g1 g2 : Nat} {x : tX} {d : tD} {c : tC} {u : tU} {t : tT} {a : tG} {b : tG} {m : tM} {o : tO} {E : List rn_C} {v0 : Int32} {v1 : Int32} {res : Int32} (h : F_Ch_lengthOf c v0 v1 = some res) : Call Z M_Ch_lengthOf [.ref 4, .int v0, .int v1] (emb g1 g2 x d c u t a b m o E) 0 0 (some (.int res)) (emb g1 g2 x d c u t a b m o E) := by
  unfold F_Ch_lengthOf at h
  refine rn_call (by decide) 0 (by exact Nat.le_of_ble_eq_true rfl) ?_
  show Rn Z M_Ch_lengthOf 0 [some (.ref 4), some (.int v0), some (.int v1)] [] (emb g1 g2 x d c u t a b m o E) 0 0 _
  refine rn_aload_n (by exact dc_Ch_lengthOf 0 rfl) (by exact rfl) ?_
  refine rn_getf (v := .ref 9) fd_Ch_25 (by exact dc_Ch_lengthOf 1 rfl) (by exact rfl) (by exact rfl) ?_
  refine rn_iload_n (by exact dc_Ch_lengthOf 2 rfl) (by exact rfl) ?_
  obtain ⟨x1, e2, h3⟩ := rn_bind h
  clear h
  refine rn_iaload (by exact dc_Ch_lengthOf 3 rfl) (by exact rfl) e2 ?_
  refine rn_iconst (v := (4 : Int32)) (by exact dc_Ch_lengthOf 4 rfl) (by decide) ?_
  refine rn_iload_n (by exact dc_Ch_lengthOf 5 rfl) (by exact rfl) ?_
  refine rn_imul (by exact dc_Ch_lengthOf 6 rfl) ?_
  refine rn_ishr (by exact dc_Ch_lengthOf 7 rfl) ?_
  refine rn_bipush (v := (15 : Int32)) (by exact dc_Ch_lengthOf 8 rfl) (by decide) ?_
  refine rn_iand (by exact dc_Ch_lengthOf 9 rfl) ?_
  cases h3
  exact rn_ireturn (by exact dc_Ch_lengthOf 10 rfl) (by exact rfl)
def F_Tl_expand_L56 (c : tC) (a : tG) (l4 : Int32) (l5 : Int32) : Nat → tT → Int32 → Int32 → Int32 → Option tT
  | 0, _, _, _, _ => none
  | n + 1, t, l6, l7, l8 =>
    Option.bind (aG (G_bodyLengths a) 12 l5) fun x1 =>
    if x1 ≤ l8 then (
      some t
    ) else (
      Option.bind (F_Gr_symbol a l5 l8) fun x6 =>
      Option.bind (F_Ch_lengthOf c l4 l8) fun x9 =>
      Option.bind (F_Gr_isNonterminal  x6) fun x12 =>
      Option.bind (
        if x12 = 0 then (
          some ((l6 : Int32), t)
        ) else (
          Option.bind (
            if (100 : Int32) ≤ l6 then (
              some t
            ) else (
              Option.bind (F_Tl_keepPlace t l6 x6 l7 (l7 + x9)) fun t26 =>
              some t26
            )
           : Option tT) fun t20 =>
          Option.bind (F_Ch_cell  x6 l7 (l7 + x9)) fun x29 =>
          Option.bind (aG (C_sizes c) 390 x29) fun x31 =>
          some ((l6 + x31 : Int32), t20)
        )
       : Option (Int32 × tT)) fun (y14, t15) =>
      F_Tl_expand_L56 c a l4 l5 n t15 y14 (l7 + x9) (l8 + 1)
    )
set_option maxHeartbeats 4000000 in
set_option maxRecDepth 100000 in
theorem p_Tl_expand_L56 {Z : rn_Z} {g1 g2 : Nat} {x : tX} {d : tD} {c : tC} {u : tU}  {a : tG} {b : tG} {m : tM} {o : tO} {E : List rn_C}  {l4 : Int32} {l5 : Int32} {K : rn_K} {ca sa : Nat} {tz : tT} (hx : Rn Z M_Tl_expand 147 [none, none, none, none, none, none, none, none, none, none, none] [] (emb g1 g2 x d c u tz a b m o E) ca sa K) (n : Nat) : ∀ (t : tT) (l6 : Int32) (l7 : Int32) (l8 : Int32), F_Tl_expand_L56 c a l4 l5 n t l6 l7 l8 = some tz → Rn Z M_Tl_expand 56 [some (.ref 30), some (.ref 35), some (.ref 4), none, some (.int l4), some (.int l5), some (.int l6), some (.int l7), some (.int l8), none, none] [] (emb g1 g2 x d c u t a b m o E) ca sa K := by
  induction n with
  | zero =>
    intro t l6 l7 l8 h
    rw [F_Tl_expand_L56] at h
    cases h
  | succ n ih =>
    intro t l6 l7 l8 h
    rw [F_Tl_expand_L56] at h
    refine rn_iload (by exact dc_Tl_expand 35 rfl) (by exact rfl) ?_
    refine rn_aload_n (by exact dc_Tl_expand 36 rfl) (by exact rfl) ?_
    refine rn_getf (v := .ref 38) fd_Tl_56 (by exact dc_Tl_expand 37 rfl) (by exact rfl) (by exact rfl) ?_
    refine rn_iload (by exact dc_Tl_expand 38 rfl) (by exact rfl) ?_
    obtain ⟨x1, e2, h3⟩ := rn_bind h
    clear h
    refine rn_iaload (by exact dc_Tl_expand 39 rfl) (by exact rfl) e2 ?_
    by_cases c4 : x1 ≤ l8
    · replace h3 := rn_ifp c4 h3
      refine rn_icmp_ge_t 147 (by exact dc_Tl_expand 40 rfl) (by exact rfl) c4 ?_
      cases h3
      exact rn_weak _ (by repeat (first | exact rn_le_0 | apply rn_le_s | apply rn_le_x)) hx
    · replace h3 := rn_ifn c4 h3
      refine rn_icmp_ge_f 147 (by exact dc_Tl_expand 40 rfl) (by exact rfl) c4 ?_
      refine rn_aload_n (by exact dc_Tl_expand 41 rfl) (by exact rfl) ?_
      refine rn_iload (by exact dc_Tl_expand 42 rfl) (by exact rfl) ?_
      refine rn_iload (by exact dc_Tl_expand 43 rfl) (by exact rfl) ?_
      obtain ⟨x6, e5, h7⟩ := rn_bind h3
      clear h3
      refine rn_invV0 (by exact c_Gr_symbol e5) iv_Tl_61 (by exact ⟨Nat.le_of_ble_eq_true rfl, Nat.le_of_ble_eq_true rfl⟩) (by exact dc_Tl_expand 44 rfl) (by exact rfl) (by exact rfl) (by exact rfl) (by exact Nat.le_of_ble_eq_true rfl) ?_
      show Rn _ _ 76 [some (.ref 30), some (.ref 35), some (.ref 4), none, some (.int l4), some (.int l5), some (.int l6), some (.int l7), some (.int l8), none, none] [.int x6] (emb g1 g2 x d c u t a b m o E) _ _ _
      refine rn_istore (ls' := [some (.ref 30), some (.ref 35), some (.ref 4), none, some (.int l4), some (.int l5), some (.int l6), some (.int l7), some (.int l8), some (.int x6), none]) (by exact dc_Tl_expand 45 rfl) (by decide) (by exact rfl) ?_
      refine rn_iload (by exact dc_Tl_expand 46 rfl) (by exact rfl) ?_
      refine rn_aload_n (by exact dc_Tl_expand 47 rfl) (by exact rfl) ?_
      refine rn_iload (by exact dc_Tl_expand 48 rfl) (by exact rfl) ?_
      refine rn_iload (by exact dc_Tl_expand 49 rfl) (by exact rfl) ?_
      obtain ⟨x9, e8, h10⟩ := rn_bind h7
      clear h7
      refine rn_invV0 (by exact c_Ch_lengthOf e8) iv_Tl_64 (by exact ⟨Nat.le_of_ble_eq_true rfl, Nat.le_of_ble_eq_true rfl⟩) (by exact dc_Tl_expand 50 rfl) (by exact rfl) (by exact rfl) (by exact rfl) (by exact Nat.le_of_ble_eq_true rfl) ?_
      show Rn _ _ 88 [some (.ref 30), some (.ref 35), some (.ref 4), none, some (.int l4), some (.int l5), some (.int l6), some (.int l7), some (.int l8), some (.int x6), none] [.int x9, .int l7] (emb g1 g2 x d c u t a b m o E) _ _ _
      refine rn_iadd (by exact dc_Tl_expand 51 rfl) ?_
      refine rn_istore (ls' := [some (.ref 30), some (.ref 35), some (.ref 4), none, some (.int l4), some (.int l5), some (.int l6), some (.int l7), some (.int l8), some (.int x6), some (.int (l7 + x9))]) (by exact dc_Tl_expand 52 rfl) (by decide) (by exact rfl) ?_
      refine rn_iload (by exact dc_Tl_expand 53 rfl) (by exact rfl) ?_
      obtain ⟨x12, e11, h13⟩ := rn_bind h10
      clear h10
      refine rn_invS0 (by exact c_Gr_isNonterminal e11) is_Tl_67 (by exact ⟨Nat.le_of_ble_eq_true rfl, Nat.le_of_ble_eq_true rfl⟩) (by exact dc_Tl_expand 54 rfl) (by exact rfl) (by exact rfl) (by exact Nat.le_of_ble_eq_true rfl) ?_
      show Rn _ _ 96 [some (.ref 30), some (.ref 35), some (.ref 4), none, some (.int l4), some (.int l5), some (.int l6), some (.int l7), some (.int l8), some (.int x6), some (.int (l7 + x9))] [.int x12] (emb g1 g2 x d c u t a b m o E) _ _ _
      obtain ⟨⟨y14, t15⟩, e16, h18⟩ := rn_bind h13
      clear h13
      dsimp only at h18
      have jq17 : Rn Z M_Tl_expand 137 [some (.ref 30), some (.ref 35), some (.ref 4), none, some (.int l4), some (.int l5), some (.int y14), none, some (.int l8), none, some (.int (l7 + x9))] [] (emb g1 g2 x d c u t15 a b m o E) ca sa K := by
        refine rn_iload (by exact dc_Tl_expand 75 rfl) (by exact rfl) ?_
        refine rn_istore (ls' := [some (.ref 30), some (.ref 35), some (.ref 4), none, some (.int l4), some (.int l5), some (.int y14), some (.int (l7 + x9)), some (.int l8), none, some (.int (l7 + x9))]) (by exact dc_Tl_expand 76 rfl) (by decide) (by exact rfl) ?_
        refine rn_iinc (ls' := [some (.ref 30), some (.ref 35), some (.ref 4), none, some (.int l4), some (.int l5), some (.int y14), some (.int (l7 + x9)), some (.int (l8 + 1)), none, some (.int (l7 + x9))]) (by exact dc_Tl_expand 77 rfl) (by decide) (by exact rfl) (by exact rn_inc_1 _) (by exact rfl) ?_
        refine rn_goto 56 (by exact dc_Tl_expand 78 rfl) (by exact rfl) ?_
        exact rn_weak _ (by repeat (first | exact rn_le_0 | apply rn_le_s | apply rn_le_x)) (ih _ _ _ _ h18)
      by_cases c19 : x12 = 0
      · replace e16 := rn_ifp c19 e16
        refine rn_if_eq_t 137 (by exact dc_Tl_expand 55 rfl) (by exact rfl) c19 ?_
        cases e16
        exact rn_weak _ (by repeat (first | exact rn_le_0 | apply rn_le_s | apply rn_le_x)) jq17
      · replace e16 := rn_ifn c19 e16
        refine rn_if_eq_f 137 (by exact dc_Tl_expand 55 rfl) (by exact rfl) c19 ?_
        refine rn_iload (by exact dc_Tl_expand 56 rfl) (by exact rfl) ?_
        refine rn_bipush (v := (100 : Int32)) (by exact dc_Tl_expand 57 rfl) (by decide) ?_
        obtain ⟨t20, e21, h23⟩ := rn_bind e16
        clear e16
        have jq22 : Rn Z M_Tl_expand 118 [some (.ref 30), some (.ref 35), some (.ref 4), none, some (.int l4), some (.int l5), some (.int l6), some (.int l7), some (.int l8), some (.int x6), some (.int (l7 + x9))] [] (emb g1 g2 x d c u t20 a b m o E) ca sa K := by
          refine rn_iload (by exact dc_Tl_expand 65 rfl) (by exact rfl) ?_
          refine rn_aload_n (by exact dc_Tl_expand 66 rfl) (by exact rfl) ?_
          refine rn_getf (v := .ref 8) fd_Tl_34 (by exact dc_Tl_expand 67 rfl) (by exact rfl) (by exact rfl) ?_
          refine rn_iload (by exact dc_Tl_expand 68 rfl) (by exact rfl) ?_
          refine rn_iload (by exact dc_Tl_expand 69 rfl) (by exact rfl) ?_
          refine rn_iload (by exact dc_Tl_expand 70 rfl) (by exact rfl) ?_
          obtain ⟨x29, e28, h30⟩ := rn_bind h23
          clear h23
          refine rn_invS0 (by exact c_Ch_cell e28) is_Tl_39 (by exact ⟨Nat.le_of_ble_eq_true rfl, Nat.le_of_ble_eq_true rfl⟩) (by exact dc_Tl_expand 71 rfl) (by exact rfl) (by exact rfl) (by exact Nat.le_of_ble_eq_true rfl) ?_
          show Rn _ _ 133 [some (.ref 30), some (.ref 35), some (.ref 4), none, some (.int l4), some (.int l5), some (.int l6), some (.int l7), some (.int l8), some (.int x6), some (.int (l7 + x9))] [.int x29, .ref 8, .int l6] (emb g1 g2 x d c u t20 a b m o E) _ _ _
          obtain ⟨x31, e32, h33⟩ := rn_bind h30
          clear h30
          refine rn_iaload (by exact dc_Tl_expand 72 rfl) (by exact rfl) e32 ?_
          refine rn_iadd (by exact dc_Tl_expand 73 rfl) ?_
          refine rn_istore (ls' := [some (.ref 30), some (.ref 35), some (.ref 4), none, some (.int l4), some (.int l5), some (.int (l6 + x31)), some (.int l7), some (.int l8), some (.int x6), some (.int (l7 + x9))]) (by exact dc_Tl_expand 74 rfl) (by decide) (by exact rfl) ?_
          cases h33
          exact rn_weak _ (by repeat (first | exact rn_le_0 | apply rn_le_s | apply rn_le_x)) jq17
        by_cases c24 : (100 : Int32) ≤ l6
        · replace e21 := rn_ifp c24 e21
          refine rn_icmp_ge_t 118 (by exact dc_Tl_expand 58 rfl) (by exact rfl) c24 ?_
          cases e21
          exact rn_weak _ (by repeat (first | exact rn_le_0 | apply rn_le_s | apply rn_le_x)) jq22
        · replace e21 := rn_ifn c24 e21
          refine rn_icmp_ge_f 118 (by exact dc_Tl_expand 58 rfl) (by exact rfl) c24 ?_
          refine rn_aload_n (by exact dc_Tl_expand 59 rfl) (by exact rfl) ?_
          refine rn_iload (by exact dc_Tl_expand 60 rfl) (by exact rfl) ?_
          refine rn_iload (by exact dc_Tl_expand 61 rfl) (by exact rfl) ?_
          refine rn_iload (by exact dc_Tl_expand 62 rfl) (by exact rfl) ?_
          refine rn_iload (by exact dc_Tl_expand 63 rfl) (by exact rfl) ?_
          obtain ⟨t26, e25, h27⟩ := rn_bind e21
          clear e21
          refine rn_invV0 (by exact c_Tl_keepPlace e25) iv_Tl_43 (by exact ⟨Nat.le_of_ble_eq_true rfl, Nat.le_of_ble_eq_true rfl⟩) (by exact dc_Tl_expand 64 rfl) (by exact rfl) (by exact rfl) (by exact rfl) (by exact Nat.le_of_ble_eq_true rfl) ?_
          show Rn _ _ 118 [some (.ref 30), some (.ref 35), some (.ref 4), none, some (.int l4), some (.int l5), some (.int l6), some (.int l7), some (.int l8), some (.int x6), some (.int (l7 + x9))] [] (emb g1 g2 x d c u t26 a b m o E) _ _ _
          cases h27
          exact rn_weak _ (by repeat (first | exact rn_le_0 | apply rn_le_s | apply rn_le_x)) jq22
def F_Tl_expand (c : tC) (t : tT) (a : tG) (v0 : Int32) : Option tT :=
  Option.bind (aG (T_symbols t) 100 v0) fun x1 =>
  Option.bind (aG (T_starts t) 100 v0) fun x4 =>
  Option.bind (aG (T_ends t) 100 v0) fun x7 =>
  Option.bind (F_Ch_cell  x1 x4 x7) fun x11 =>
  Option.bind (aG (C_rules c) 390 x11) fun x13 =>
  Option.bind (aS (T_rules t) 100 v0 x13) fun f16 =>
  Option.bind (aG (T_starts t) 100 v0) fun x19 =>
  Option.bind (F_Tl_expand_L56 c a x11 x13 rn_fu (f16, T_starts t, T_ends t, T_symbols t, T_nodeCount t) (v0 + (1 : Int32)) x19 (0 : Int32)) fun t25 =>
  some t25
set_option maxHeartbeats 4000000 in
set_option maxRecDepth 100000 in
theorem c_Tl_expand {Z : rn_Z} {g1 g2 : Nat} {x : tX} {d : tD} {c : tC} {u : tU} {t : tT} {a : tG} {b : tG} {m : tM} {o : tO} {E : List rn_C} {v0 : Int32} {t_r : tT} (h : F_Tl_expand c t a v0 = some t_r) : Call Z M_Tl_expand [.ref 30, .ref 35, .ref 4, .int v0] (emb g1 g2 x d c u t a b m o E) 0 0 none (emb g1 g2 x d c u t_r a b m o E) := by
  unfold F_Tl_expand at h
  refine rn_call (by decide) 7 (by exact Nat.le_of_ble_eq_true rfl) ?_
  show Rn Z M_Tl_expand 0 [some (.ref 30), some (.ref 35), some (.ref 4), some (.int v0), none, none, none, none, none, none, none] [] (emb g1 g2 x d c u t a b m o E) 0 0 _
  refine rn_aload_n (by exact dc_Tl_expand 0 rfl) (by exact rfl) ?_
  refine rn_getf (v := .ref 34) fd_Tl_21 (by exact dc_Tl_expand 1 rfl) (by exact rfl) (by exact rfl) ?_
  refine rn_iload_n (by exact dc_Tl_expand 2 rfl) (by exact rfl) ?_
  obtain ⟨x1, e2, h3⟩ := rn_bind h
  clear h
  refine rn_iaload (by exact dc_Tl_expand 3 rfl) (by exact rfl) e2 ?_
  refine rn_aload_n (by exact dc_Tl_expand 4 rfl) (by exact rfl) ?_
  refine rn_getf (v := .ref 32) fd_Tl_15 (by exact dc_Tl_expand 5 rfl) (by exact rfl) (by exact rfl) ?_
  refine rn_iload_n (by exact dc_Tl_expand 6 rfl) (by exact rfl) ?_
  obtain ⟨x4, e5, h6⟩ := rn_bind h3
  clear h3
  refine rn_iaload (by exact dc_Tl_expand 7 rfl) (by exact rfl) e5 ?_
  refine rn_aload_n (by exact dc_Tl_expand 8 rfl) (by exact rfl) ?_
  refine rn_getf (v := .ref 33) fd_Tl_18 (by exact dc_Tl_expand 9 rfl) (by exact rfl) (by exact rfl) ?_
  refine rn_iload_n (by exact dc_Tl_expand 10 rfl) (by exact rfl) ?_
  obtain ⟨x7, e8, h9⟩ := rn_bind h6
  clear h6
  refine rn_iaload (by exact dc_Tl_expand 11 rfl) (by exact rfl) e8 ?_
  obtain ⟨x11, e10, h12⟩ := rn_bind h9
  clear h9
  refine rn_invS0 (by exact c_Ch_cell e10) is_Tl_39 (by exact ⟨Nat.le_of_ble_eq_true rfl, Nat.le_of_ble_eq_true rfl⟩) (by exact dc_Tl_expand 12 rfl) (by exact rfl) (by exact rfl) (by exact Nat.le_of_ble_eq_true rfl) ?_
  show Rn _ _ 21 [some (.ref 30), some (.ref 35), some (.ref 4), some (.int v0), none, none, none, none, none, none, none] [.int x11] (emb g1 g2 x d c u t a b m o E) _ _ _
  refine rn_istore (ls' := [some (.ref 30), some (.ref 35), some (.ref 4), some (.int v0), some (.int x11), none, none, none, none, none, none]) (by exact dc_Tl_expand 13 rfl) (by decide) (by exact rfl) ?_
  refine rn_aload_n (by exact dc_Tl_expand 14 rfl) (by exact rfl) ?_
  refine rn_getf (v := .ref 7) fd_Tl_55 (by exact dc_Tl_expand 15 rfl) (by exact rfl) (by exact rfl) ?_
  refine rn_iload (by exact dc_Tl_expand 16 rfl) (by exact rfl) ?_
  obtain ⟨x13, e14, h15⟩ := rn_bind h12
  clear h12
  refine rn_iaload (by exact dc_Tl_expand 17 rfl) (by exact rfl) e14 ?_
  refine rn_istore (ls' := [some (.ref 30), some (.ref 35), some (.ref 4), some (.int v0), some (.int x11), some (.int x13), none, none, none, none, none]) (by exact dc_Tl_expand 18 rfl) (by decide) (by exact rfl) ?_
  refine rn_aload_n (by exact dc_Tl_expand 19 rfl) (by exact rfl) ?_
  refine rn_getf (v := .ref 31) fd_Tl_9 (by exact dc_Tl_expand 20 rfl) (by exact rfl) (by exact rfl) ?_
  refine rn_iload_n (by exact dc_Tl_expand 21 rfl) (by exact rfl) ?_
  refine rn_iload (by exact dc_Tl_expand 22 rfl) (by exact rfl) ?_
  obtain ⟨f16, e17, h18⟩ := rn_bind h15
  clear h15
  refine rn_iastore (w2 := (emb g1 g2 x d c u (f16, T_starts t, T_ends t, T_symbols t, T_nodeCount t) a b m o E)) (by exact dc_Tl_expand 23 rfl) (by exact rfl) e17 (by exact rfl) ?_
  refine rn_iload_n (by exact dc_Tl_expand 24 rfl) (by exact rfl) ?_
  refine rn_iconst (v := (1 : Int32)) (by exact dc_Tl_expand 25 rfl) (by decide) ?_
  refine rn_iadd (by exact dc_Tl_expand 26 rfl) ?_
  refine rn_istore (ls' := [some (.ref 30), some (.ref 35), some (.ref 4), some (.int v0), some (.int x11), some (.int x13), some (.int (v0 + (1 : Int32))), none, none, none, none]) (by exact dc_Tl_expand 27 rfl) (by decide) (by exact rfl) ?_
  refine rn_aload_n (by exact dc_Tl_expand 28 rfl) (by exact rfl) ?_
  refine rn_getf (v := .ref 32) fd_Tl_15 (by exact dc_Tl_expand 29 rfl) (by exact rfl) (by exact rfl) ?_
  refine rn_iload_n (by exact dc_Tl_expand 30 rfl) (by exact rfl) ?_
  obtain ⟨x19, e20, h21⟩ := rn_bind h18
  clear h18
  refine rn_iaload (by exact dc_Tl_expand 31 rfl) (by exact rfl) e20 ?_
  refine rn_istore (ls' := [some (.ref 30), some (.ref 35), some (.ref 4), some (.int v0), some (.int x11), some (.int x13), some (.int (v0 + (1 : Int32))), some (.int x19), none, none, none]) (by exact dc_Tl_expand 32 rfl) (by decide) (by exact rfl) ?_
  refine rn_iconst (v := (0 : Int32)) (by exact dc_Tl_expand 33 rfl) (by decide) ?_
  refine rn_istore (ls' := [some (.ref 30), some (.ref 35), some (.ref 4), some (.int v0), some (.int x11), some (.int x13), some (.int (v0 + (1 : Int32))), some (.int x19), some (.int (0 : Int32)), none, none]) (by exact dc_Tl_expand 34 rfl) (by decide) (by exact rfl) ?_
  obtain ⟨t25, e22, h24⟩ := rn_bind h21
  clear h21
  have jx23 : Rn Z M_Tl_expand 147 [none, none, none, none, none, none, none, none, none, none, none] [] (emb g1 g2 x d c u t25 a b m o E) 0 0 (rn_Ret Z none (emb g1 g2 x d c u t_r a b m o E)) := by
    cases h24
    exact rn_return (by exact dc_Tl_expand 79 rfl) (by exact rfl)
  exact rn_weak _ (by repeat (first | exact rn_le_0 | apply rn_le_s | apply rn_le_x)) (p_Tl_expand_L56 jx23 _ _ _ _ _ e22)
