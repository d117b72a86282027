def F_Tl_list_L36 (c : tC) (a : tG) (l6 : Int32) : Nat → tT → Int32 → Option tT
  | 0, _, _ => none
  | n + 1, t, l7 =>
    if l6 ≤ l7 then (
      some t
    ) else (
      Option.bind (F_Tl_expand c t a l7) fun t3 =>
      F_Tl_list_L36 c a l6 n t3 (l7 + 1)
    )
set_option maxHeartbeats 4000000 in
set_option maxRecDepth 100000 in
theorem p_Tl_list_L36 {Z : rn_Z} {g1 g2 : Nat} {x : tX} {d : tD} {c : tC} {u : tU}  {a : tG} {b : tG} {m : tM} {o : tO} {E : List rn_C}  {l6 : Int32} {K : rn_K} {ca sa : Nat} {tz : tT} (hx : Rn Z M_Tl_list 57 [none, none, none, none, none, none, none, none] [] (emb g1 g2 x d c u tz a b m o E) ca sa K) (n : Nat) : ∀ (t : tT) (l7 : Int32), F_Tl_list_L36 c a l6 n t l7 = some tz → Rn Z M_Tl_list 36 [some (.ref 30), some (.ref 35), some (.ref 4), none, none, none, some (.int l6), some (.int l7)] [] (emb g1 g2 x d c u t a b m o E) ca sa K := by
  induction n with
  | zero =>
    intro t l7 h
    rw [F_Tl_list_L36] at h
    cases h
  | succ n ih =>
    intro t l7 h
    rw [F_Tl_list_L36] at h
    refine rn_iload (by exact dc_Tl_list 20 rfl) (by exact rfl) ?_
    refine rn_iload (by exact dc_Tl_list 21 rfl) (by exact rfl) ?_
    by_cases c1 : l6 ≤ l7
    · replace h := rn_ifp c1 h
      refine rn_icmp_ge_t 57 (by exact dc_Tl_list 22 rfl) (by exact rfl) c1 ?_
      cases h
      exact rn_weak _ (by repeat (first | exact rn_le_0 | apply rn_le_s | apply rn_le_x)) hx
    · replace h := rn_ifn c1 h
      refine rn_icmp_ge_f 57 (by exact dc_Tl_list 22 rfl) (by exact rfl) c1 ?_
      refine rn_aload_n (by exact dc_Tl_list 23 rfl) (by exact rfl) ?_
      refine rn_aload_n (by exact dc_Tl_list 24 rfl) (by exact rfl) ?_
      refine rn_aload_n (by exact dc_Tl_list 25 rfl) (by exact rfl) ?_
      refine rn_iload (by exact dc_Tl_list 26 rfl) (by exact rfl) ?_
      obtain ⟨t3, e2, h4⟩ := rn_bind h
      clear h
      refine rn_invV0 (by exact c_Tl_expand e2) iv_Tl_51 (by exact ⟨Nat.le_of_ble_eq_true rfl, Nat.le_of_ble_eq_true rfl⟩) (by exact dc_Tl_list 27 rfl) (by exact rfl) (by exact rfl) (by exact rfl) (by exact Nat.le_of_ble_eq_true rfl) ?_
      show Rn _ _ 51 [some (.ref 30), some (.ref 35), some (.ref 4), none, none, none, some (.int l6), some (.int l7)] [] (emb g1 g2 x d c u t3 a b m o E) _ _ _
      refine rn_iinc (ls' := [some (.ref 30), some (.ref 35), some (.ref 4), none, none, none, some (.int l6), some (.int (l7 + 1))]) (by exact dc_Tl_list 28 rfl) (by decide) (by exact rfl) (by exact rn_inc_1 _) (by exact rfl) ?_
      refine rn_goto 36 (by exact dc_Tl_list 29 rfl) (by exact rfl) ?_
      exact rn_weak _ (by repeat (first | exact rn_le_0 | apply rn_le_s | apply rn_le_x)) (ih _ _ h4)
def F_Tl_list (c : tC) (t : tT) (a : tG) (v0 : Int32) (v1 : Int32) (v2 : Int32) : Option tT :=
  Option.bind (F_Ch_cell  v0 v1 v2) fun x2 =>
  Option.bind (aG (C_sizes c) 390 x2) fun x4 =>
  Option.bind (F_Tl_keepPlace (T_rules t, T_starts t, T_ends t, T_symbols t, x4) (0 : Int32) v0 v1 v2) fun t8 =>
  Option.bind (F_Tl_shownCount t8 ) fun x11 =>
  Option.bind (F_Tl_list_L36 c a x11 rn_fu t8 (0 : Int32)) fun t16 =>
  some t16
set_option maxHeartbeats 4000000 in
set_option maxRecDepth 100000 in
theorem c_Tl_list {Z : rn_Z} {g1 g2 : Nat} {x : tX} {d : tD} {c : tC} {u : tU} {t : tT} {a : tG} {b : tG} {m : tM} {o : tO} {E : List rn_C} {v0 : Int32} {v1 : Int32} {v2 : Int32} {t_r : tT} (h : F_Tl_list c t a v0 v1 v2 = some t_r) : Call Z M_Tl_list [.ref 30, .ref 35, .ref 4, .int v0, .int v1, .int v2] (emb g1 g2 x d c u t a b m o E) 0 0 none (emb g1 g2 x d c u t_r a b m o E) := by
  unfold F_Tl_list at h
  refine rn_call (by decide) 2 (by exact Nat.le_of_ble_eq_true rfl) ?_
  show Rn Z M_Tl_list 0 [some (.ref 30), some (.ref 35), some (.ref 4), some (.int v0), some (.int v1), some (.int v2), none, none] [] (emb g1 g2 x d c u t a b m o E) 0 0 _
  refine rn_aload_n (by exact dc_Tl_list 0 rfl) (by exact rfl) ?_
  refine rn_aload_n (by exact dc_Tl_list 1 rfl) (by exact rfl) ?_
  refine rn_getf (v := .ref 8) fd_Tl_34 (by exact dc_Tl_list 2 rfl) (by exact rfl) (by exact rfl) ?_
  refine rn_iload_n (by exact dc_Tl_list 3 rfl) (by exact rfl) ?_
  refine rn_iload (by exact dc_Tl_list 4 rfl) (by exact rfl) ?_
  refine rn_iload (by exact dc_Tl_list 5 rfl) (by exact rfl) ?_
  obtain ⟨x2, e1, h3⟩ := rn_bind h
  clear h
  refine rn_invS0 (by exact c_Ch_cell e1) is_Tl_39 (by exact ⟨Nat.le_of_ble_eq_true rfl, Nat.le_of_ble_eq_true rfl⟩) (by exact dc_Tl_list 6 rfl) (by exact rfl) (by exact rfl) (by exact Nat.le_of_ble_eq_true rfl) ?_
  show Rn _ _ 13 [some (.ref 30), some (.ref 35), some (.ref 4), some (.int v0), some (.int v1), some (.int v2), none, none] [.int x2, .ref 8, .ref 30] (emb g1 g2 x d c u t a b m o E) _ _ _
  obtain ⟨x4, e5, h6⟩ := rn_bind h3
  clear h3
  refine rn_iaload (by exact dc_Tl_list 7 rfl) (by exact rfl) e5 ?_
  refine rn_putf (w2 := (emb g1 g2 x d c u (T_rules t, T_starts t, T_ends t, T_symbols t, x4) a b m o E)) fd_Tl_24 (by exact dc_Tl_list 8 rfl) (by exact rfl) (by exact rfl) (by exact Nat.le_of_ble_eq_true rfl) (by exact rfl) ?_
  refine rn_aload_n (by exact dc_Tl_list 9 rfl) (by exact rfl) ?_
  refine rn_iconst (v := (0 : Int32)) (by exact dc_Tl_list 10 rfl) (by decide) ?_
  refine rn_iload_n (by exact dc_Tl_list 11 rfl) (by exact rfl) ?_
  refine rn_iload (by exact dc_Tl_list 12 rfl) (by exact rfl) ?_
  refine rn_iload (by exact dc_Tl_list 13 rfl) (by exact rfl) ?_
  obtain ⟨t8, e7, h9⟩ := rn_bind h6
  clear h6
  refine rn_invV0 (by exact c_Tl_keepPlace e7) iv_Tl_43 (by exact ⟨Nat.le_of_ble_eq_true rfl, Nat.le_of_ble_eq_true rfl⟩) (by exact dc_Tl_list 14 rfl) (by exact rfl) (by exact rfl) (by exact rfl) (by exact Nat.le_of_ble_eq_true rfl) ?_
  show Rn _ _ 27 [some (.ref 30), some (.ref 35), some (.ref 4), some (.int v0), some (.int v1), some (.int v2), none, none] [] (emb g1 g2 x d c u t8 a b m o E) _ _ _
  refine rn_aload_n (by exact dc_Tl_list 15 rfl) (by exact rfl) ?_
  obtain ⟨x11, e10, h12⟩ := rn_bind h9
  clear h9
  refine rn_invV0 (by exact c_Tl_shownCount e10) iv_Tl_47 (by exact ⟨Nat.le_of_ble_eq_true rfl, Nat.le_of_ble_eq_true rfl⟩) (by exact dc_Tl_list 16 rfl) (by exact rfl) (by exact rfl) (by exact rfl) (by exact Nat.le_of_ble_eq_true rfl) ?_
  show Rn _ _ 31 [some (.ref 30), some (.ref 35), some (.ref 4), some (.int v0), some (.int v1), some (.int v2), none, none] [.int x11] (emb g1 g2 x d c u t8 a b m o E) _ _ _
  refine rn_istore (ls' := [some (.ref 30), some (.ref 35), some (.ref 4), some (.int v0), some (.int v1), some (.int v2), some (.int x11), none]) (by exact dc_Tl_list 17 rfl) (by decide) (by exact rfl) ?_
  refine rn_iconst (v := (0 : Int32)) (by exact dc_Tl_list 18 rfl) (by decide) ?_
  refine rn_istore (ls' := [some (.ref 30), some (.ref 35), some (.ref 4), some (.int v0), some (.int v1), some (.int v2), some (.int x11), some (.int (0 : Int32))]) (by exact dc_Tl_list 19 rfl) (by decide) (by exact rfl) ?_
  obtain ⟨t16, e13, h15⟩ := rn_bind h12
  clear h12
  have jx14 : Rn Z M_Tl_list 57 [none, none, none, none, none, none, none, none] [] (emb g1 g2 x d c u t16 a b m o E) 0 0 (rn_Ret Z none (emb g1 g2 x d c u t_r a b m o E)) := by
    cases h15
    exact rn_return (by exact dc_Tl_list 30 rfl) (by exact rfl)
  exact rn_weak _ (by repeat (first | exact rn_le_0 | apply rn_le_s | apply rn_le_x)) (p_Tl_list_L36 jx14 _ _ _ e13)
def F_Md_thrown (m : tM)  : Option Int32 :=
  some (M_code m)
set_option maxHeartbeats 4000000 in
set_option maxRecDepth 100000 in
theorem c_Md_thrown {Z : rn_Z} {g1 g2 : Nat} {x : tX} {d : tD} {c : tC} {u : tU} {t : tT} {a : tG} {b : tG} {m : tM} {o : tO} {E : List rn_C}  {res : Int32} (h : F_Md_thrown m  = some res) : Call Z M_Md_thrown [.ref 53] (emb g1 g2 x d c u t a b m o E) 0 0 (some (.int res)) (emb g1 g2 x d c u t a b m o E) := by
  unfold F_Md_thrown at h
  refine rn_call (by decide) 0 (by exact Nat.le_of_ble_eq_true rfl) ?_
  show Rn Z M_Md_thrown 0 [some (.ref 53)] [] (emb g1 g2 x d c u t a b m o E) 0 0 _
  refine rn_aload_n (by exact dc_Md_thrown 0 rfl) (by exact rfl) ?_
  refine rn_getf (v := .int (M_code m)) fd_Md_77 (by exact dc_Md_thrown 1 rfl) (by exact rfl) (by exact rfl) ?_
  cases h
  exact rn_ireturn (by exact dc_Md_thrown 2 rfl) (by exact rfl)
def F_Md_put_L36 (l1 : Int32) (l2 : Int64) : Nat → Int32 → Int32 → Option Int32
  | 0, _, _ => none
  | n + 1, l4, l5 =>
    if l1 ≤ l5 then (
      some l4
    ) else (
      Option.bind (
        if l4 = 0 then (
          some (0 : Int32)
        ) else (
          if ((((l2.toUInt64 >>> (((8 : Int32) * l5).toInt64.toUInt64 &&& Int64.toUInt64 63)).toInt64) &&& (255 : Int64)).toInt32) = (10 : Int32) then (
            some (1 : Int32)
          ) else (
            if ((((l2.toUInt64 >>> (((8 : Int32) * l5).toInt64.toUInt64 &&& Int64.toUInt64 63)).toInt64) &&& (255 : Int64)).toInt32) < (32 : Int32) then (
              some (0 : Int32)
            ) else (
              if (126 : Int32) < ((((l2.toUInt64 >>> (((8 : Int32) * l5).toInt64.toUInt64 &&& Int64.toUInt64 63)).toInt64) &&& (255 : Int64)).toInt32) then (
                some (0 : Int32)
              ) else (
                some (1 : Int32)
              )
            )
          )
        )
       : Option Int32) fun y2 =>
      F_Md_put_L36 l1 l2 n y2 (l5 + 1)
    )
set_option maxHeartbeats 4000000 in
set_option maxRecDepth 100000 in
theorem p_Md_put_L36 {Z : rn_Z} {g1 g2 : Nat} {x : tX} {d : tD} {c : tC} {u : tU} {t : tT} {a : tG} {b : tG} {m : tM} {o : tO} {E : List rn_C}  {l1 : Int32} {l2 : Int64} {K : rn_K} {ca sa : Nat} {z4 : Int32} (hx : Rn Z M_Md_put 95 [some (.ref 53), some (.int l1), some (.long l2), none, some (.int z4), none, none] [] (emb g1 g2 x d c u t a b m o E) ca sa K) (n : Nat) : ∀ (l4 : Int32) (l5 : Int32), F_Md_put_L36 l1 l2 n l4 l5 = some z4 → Rn Z M_Md_put 36 [some (.ref 53), some (.int l1), some (.long l2), none, some (.int l4), some (.int l5), none] [] (emb g1 g2 x d c u t a b m o E) ca sa K := by
  induction n with
  | zero =>
    intro l4 l5 h
    rw [F_Md_put_L36] at h
    cases h
  | succ n ih =>
    intro l4 l5 h
    rw [F_Md_put_L36] at h
    refine rn_iload (by exact dc_Md_put 21 rfl) (by exact rfl) ?_
    refine rn_iload_n (by exact dc_Md_put 22 rfl) (by exact rfl) ?_
    by_cases c1 : l1 ≤ l5
    · replace h := rn_ifp c1 h
      refine rn_icmp_ge_t 95 (by exact dc_Md_put 23 rfl) (by exact rfl) c1 ?_
      cases h
      exact rn_weak _ (by repeat (first | exact rn_le_0 | apply rn_le_s | apply rn_le_x)) hx
    · replace h := rn_ifn c1 h
      refine rn_icmp_ge_f 95 (by exact dc_Md_put 23 rfl) (by exact rfl) c1 ?_
      refine rn_lload_n (by exact dc_Md_put 24 rfl) (by exact rfl) ?_
      refine rn_bipush (v := (8 : Int32)) (by exact dc_Md_put 25 rfl) (by decide) ?_
      refine rn_iload (by exact dc_Md_put 26 rfl) (by exact rfl) ?_
      refine rn_imul (by exact dc_Md_put 27 rfl) ?_
      refine rn_lushr (by exact dc_Md_put 28 rfl) ?_
      refine rn_ldc2 (v := (255 : Int64)) (by exact dc_Md_put 29 rfl) kl_Md_84 ?_
      refine rn_land (by exact dc_Md_put 30 rfl) ?_
      refine rn_l2i (by exact dc_Md_put 31 rfl) ?_
      refine rn_istore (ls' := [some (.ref 53), some (.int l1), some (.long l2), none, some (.int l4), some (.int l5), some (.int ((((l2.toUInt64 >>> (((8 : Int32) * l5).toInt64.toUInt64 &&& Int64.toUInt64 63)).toInt64) &&& (255 : Int64)).toInt32))]) (by exact dc_Md_put 32 rfl) (by decide) (by exact rfl) ?_
      refine rn_iload (by exact dc_Md_put 33 rfl) (by exact rfl) ?_
      obtain ⟨y2, e3, h5⟩ := rn_bind h
      clear h
      have jq4 : Rn Z M_Md_put 87 [some (.ref 53), some (.int l1), some (.long l2), none, none, some (.int l5), none] [.int y2] (emb g1 g2 x d c u t a b m o E) ca sa K := by
        refine rn_istore (ls' := [some (.ref 53), some (.int l1), some (.long l2), none, some (.int y2), some (.int l5), none]) (by exact dc_Md_put 47 rfl) (by decide) (by exact rfl) ?_
        refine rn_iinc (ls' := [some (.ref 53), some (.int l1), some (.long l2), none, some (.int y2), some (.int (l5 + 1)), none]) (by exact dc_Md_put 48 rfl) (by decide) (by exact rfl) (by exact rn_inc_1 _) (by exact rfl) ?_
        refine rn_goto 36 (by exact dc_Md_put 49 rfl) (by exact rfl) ?_
        exact rn_weak _ (by repeat (first | exact rn_le_0 | apply rn_le_s | apply rn_le_x)) (ih _ _ h5)
      by_cases c6 : l4 = 0
      · replace e3 := rn_ifp c6 e3
        refine rn_if_eq_t 86 (by exact dc_Md_put 34 rfl) (by exact rfl) c6 ?_
        refine rn_iconst (v := (0 : Int32)) (by exact dc_Md_put 46 rfl) (by decide) ?_
        cases e3
        exact rn_weak _ (by repeat (first | exact rn_le_0 | apply rn_le_s | apply rn_le_x)) jq4
      · replace e3 := rn_ifn c6 e3
        refine rn_if_eq_f 86 (by exact dc_Md_put 34 rfl) (by exact rfl) c6 ?_
        refine rn_iload (by exact dc_Md_put 35 rfl) (by exact rfl) ?_
        refine rn_bipush (v := (10 : Int32)) (by exact dc_Md_put 36 rfl) (by decide) ?_
        by_cases c7 : ((((l2.toUInt64 >>> (((8 : Int32) * l5).toInt64.toUInt64 &&& Int64.toUInt64 63)).toInt64) &&& (255 : Int64)).toInt32) = (10 : Int32)
        · replace e3 := rn_ifp c7 e3
          refine rn_icmp_eq_t 82 (by exact dc_Md_put 37 rfl) (by exact rfl) c7 ?_
          refine rn_iconst (v := (1 : Int32)) (by exact dc_Md_put 44 rfl) (by decide) ?_
          refine rn_goto 87 (by exact dc_Md_put 45 rfl) (by exact rfl) ?_
          cases e3
          exact rn_weak _ (by repeat (first | exact rn_le_0 | apply rn_le_s | apply rn_le_x)) jq4
        · replace e3 := rn_ifn c7 e3
          refine rn_icmp_eq_f 82 (by exact dc_Md_put 37 rfl) (by exact rfl) c7 ?_
          refine rn_iload (by exact dc_Md_put 38 rfl) (by exact rfl) ?_
          refine rn_bipush (v := (32 : Int32)) (by exact dc_Md_put 39 rfl) (by decide) ?_
          by_cases c8 : ((((l2.toUInt64 >>> (((8 : Int32) * l5).toInt64.toUInt64 &&& Int64.toUInt64 63)).toInt64) &&& (255 : Int64)).toInt32) < (32 : Int32)
          · replace e3 := rn_ifp c8 e3
            refine rn_icmp_lt_t 86 (by exact dc_Md_put 40 rfl) (by exact rfl) c8 ?_
            refine rn_iconst (v := (0 : Int32)) (by exact dc_Md_put 46 rfl) (by decide) ?_
            cases e3
            exact rn_weak _ (by repeat (first | exact rn_le_0 | apply rn_le_s | apply rn_le_x)) jq4
          · replace e3 := rn_ifn c8 e3
            refine rn_icmp_lt_f 86 (by exact dc_Md_put 40 rfl) (by exact rfl) c8 ?_
            refine rn_iload (by exact dc_Md_put 41 rfl) (by exact rfl) ?_
            refine rn_bipush (v := (126 : Int32)) (by exact dc_Md_put 42 rfl) (by decide) ?_
            by_cases c9 : (126 : Int32) < ((((l2.toUInt64 >>> (((8 : Int32) * l5).toInt64.toUInt64 &&& Int64.toUInt64 63)).toInt64) &&& (255 : Int64)).toInt32)
            · replace e3 := rn_ifp c9 e3
              refine rn_icmp_gt_t 86 (by exact dc_Md_put 43 rfl) (by exact rfl) c9 ?_
              refine rn_iconst (v := (0 : Int32)) (by exact dc_Md_put 46 rfl) (by decide) ?_
              cases e3
              exact rn_weak _ (by repeat (first | exact rn_le_0 | apply rn_le_s | apply rn_le_x)) jq4
            · replace e3 := rn_ifn c9 e3
              refine rn_icmp_gt_f 86 (by exact dc_Md_put 43 rfl) (by exact rfl) c9 ?_
              refine rn_iconst (v := (1 : Int32)) (by exact dc_Md_put 44 rfl) (by decide) ?_
              refine rn_goto 87 (by exact dc_Md_put 45 rfl) (by exact rfl) ?_
              cases e3
              exact rn_weak _ (by repeat (first | exact rn_le_0 | apply rn_le_s | apply rn_le_x)) jq4
def F_Md_put_L100 (l2 : Int64) (l4 : Int32) : Nat → tM → Int32 → Option tM
  | 0, _, _ => none
  | n + 1, m, l5 =>
    if l5 < 0 then (
      some m
    ) else (
      if l4 = 0 then (
        some m
      ) else (
        Option.bind (aS (M_draft m) 300 (M_size m) ((((l2.toUInt64 >>> (((8 : Int32) * l5).toInt64.toUInt64 &&& Int64.toUInt64 63)).toInt64) &&& (255 : Int64)).toInt32)) fun f3 =>
        F_Md_put_L100 l2 l4 n (M_put_size (M_put_draft m f3) ((M_size (M_put_draft m f3)) + (1 : Int32))) (l5 + (-1))
      )
    )
set_option maxHeartbeats 4000000 in
set_option maxRecDepth 100000 in
theorem p_Md_put_L100 {Z : rn_Z} {g1 g2 : Nat} {x : tX} {d : tD} {c : tC} {u : tU} {t : tT} {a : tG} {b : tG}  {o : tO} {E : List rn_C}  {l2 : Int64} {l4 : Int32} {K : rn_K} {ca sa : Nat} {mz : tM} (hx : Rn Z M_Md_put 147 [none, none, none, none, some (.int l4), none, none] [] (emb g1 g2 x d c u t a b mz o E) ca sa K) (n : Nat) : ∀ (m : tM) (l5 : Int32), F_Md_put_L100 l2 l4 n m l5 = some mz → Rn Z M_Md_put 100 [some (.ref 53), none, some (.long l2), none, some (.int l4), some (.int l5), none] [] (emb g1 g2 x d c u t a b m o E) ca sa K := by
  induction n with
  | zero =>
    intro m l5 h
    rw [F_Md_put_L100] at h
    cases h
  | succ n ih =>
    intro m l5 h
    rw [F_Md_put_L100] at h
    refine rn_iload (by exact dc_Md_put 54 rfl) (by exact rfl) ?_
    by_cases c1 : l5 < 0
    · replace h := rn_ifp c1 h
      refine rn_if_lt_t 147 (by exact dc_Md_put 55 rfl) (by exact rfl) c1 ?_
      cases h
      exact rn_weak _ (by repeat (first | exact rn_le_0 | apply rn_le_s | apply rn_le_x)) hx
    · replace h := rn_ifn c1 h
      refine rn_if_lt_f 147 (by exact dc_Md_put 55 rfl) (by exact rfl) c1 ?_
      refine rn_iload (by exact dc_Md_put 56 rfl) (by exact rfl) ?_
      by_cases c2 : l4 = 0
      · replace h := rn_ifp c2 h
        refine rn_if_eq_t 147 (by exact dc_Md_put 57 rfl) (by exact rfl) c2 ?_
        cases h
        exact rn_weak _ (by repeat (first | exact rn_le_0 | apply rn_le_s | apply rn_le_x)) hx
      · replace h := rn_ifn c2 h
        refine rn_if_eq_f 147 (by exact dc_Md_put 57 rfl) (by exact rfl) c2 ?_
        refine rn_aload_n (by exact dc_Md_put 58 rfl) (by exact rfl) ?_
        refine rn_getf (v := .ref 54) fd_Md_7 (by exact dc_Md_put 59 rfl) (by exact rfl) (by exact rfl) ?_
        refine rn_aload_n (by exact dc_Md_put 60 rfl) (by exact rfl) ?_
        refine rn_getf (v := .int (M_size m)) fd_Md_81 (by exact dc_Md_put 61 rfl) (by exact rfl) (by exact rfl) ?_
        refine rn_lload_n (by exact dc_Md_put 62 rfl) (by exact rfl) ?_
        refine rn_bipush (v := (8 : Int32)) (by exact dc_Md_put 63 rfl) (by decide) ?_
        refine rn_iload (by exact dc_Md_put 64 rfl) (by exact rfl) ?_
        refine rn_imul (by exact dc_Md_put 65 rfl) ?_
        refine rn_lushr (by exact dc_Md_put 66 rfl) ?_
        refine rn_ldc2 (v := (255 : Int64)) (by exact dc_Md_put 67 rfl) kl_Md_84 ?_
        refine rn_land (by exact dc_Md_put 68 rfl) ?_
        refine rn_l2i (by exact dc_Md_put 69 rfl) ?_
        obtain ⟨f3, e4, h5⟩ := rn_bind h
        clear h
        refine rn_iastore (w2 := (emb g1 g2 x d c u t a b (M_put_draft m f3) o E)) (by exact dc_Md_put 70 rfl) (by exact rfl) e4 (by exact sm_draft) ?_
        refine rn_aload_n (by exact dc_Md_put 71 rfl) (by exact rfl) ?_
        refine rn_dup (by exact dc_Md_put 72 rfl) (by exact rfl) ?_
        refine rn_getf (v := .int (M_size (M_put_draft m f3))) fd_Md_81 (by exact dc_Md_put 73 rfl) (by exact rfl) (by exact rfl) ?_
        refine rn_iconst (v := (1 : Int32)) (by exact dc_Md_put 74 rfl) (by decide) ?_
        refine rn_iadd (by exact dc_Md_put 75 rfl) ?_
        refine rn_putf (w2 := (emb g1 g2 x d c u t a b (M_put_size (M_put_draft m f3) ((M_size (M_put_draft m f3)) + (1 : Int32))) o E)) fd_Md_81 (by exact dc_Md_put 76 rfl) (by exact rfl) (by exact rfl) (by exact Nat.le_of_ble_eq_true rfl) (by exact sm_size) ?_
        refine rn_iinc (ls' := [some (.ref 53), none, some (.long l2), none, some (.int l4), some (.int (l5 + (-1))), none]) (by exact dc_Md_put 77 rfl) (by decide) (by exact rfl) (by exact rn_inc_m1 _) (by exact rfl) ?_
        refine rn_goto 100 (by exact dc_Md_put 78 rfl) (by exact rfl) ?_
        exact rn_weak _ (by repeat (first | exact rn_le_0 | apply rn_le_s | apply rn_le_x)) (ih _ _ h5)
def F_Md_put (m : tM) (v0 : Int32) (v1 : Int64) : Option (Int32 × tM) :=
  if v0 < (1 : Int32) then (
    some ((0 : Int32), (M_put_code m (0 : Int32)))
  ) else (
    if (8 : Int32) < v0 then (
      some ((0 : Int32), (M_put_code m (0 : Int32)))
    ) else (
      if ((M_size (M_put_code m (0 : Int32))) + v0) ≤ (300 : Int32) then (
        Option.bind (F_Md_put_L36 v0 v1 rn_fu (1 : Int32) (0 : Int32)) fun y7 =>
        Option.bind (F_Md_put_L100 v1 y7 rn_fu (M_put_code m (0 : Int32)) (v0 - (1 : Int32))) fun m11 =>
        Option.bind (rn_bl y7) fun y12 =>
        some (y12, m11)
      ) else (
        some ((0 : Int32), (M_put_code m (0 : Int32)))
      )
    )
  )
set_option maxHeartbeats 4000000 in
set_option maxRecDepth 100000 in
theorem c_Md_put {Z : rn_Z} {g1 g2 : Nat} {x : tX} {d : tD} {c : tC} {u : tU} {t : tT} {a : tG} {b : tG} {m : tM} {o : tO} {E : List rn_C} {v0 : Int32} {v1 : Int64} {res : Int32} {m_r : tM} (h : F_Md_put m v0 v1 = some (res, m_r)) : Call Z M_Md_put [.ref 53, .int v0, .long v1] (emb g1 g2 x d c u t a b m o E) 0 0 (some (.int res)) (emb g1 g2 x d c u t a b m_r o E) := by
  unfold F_Md_put at h
  refine rn_call (by decide) 3 (by exact Nat.le_of_ble_eq_true rfl) ?_
  show Rn Z M_Md_put 0 [some (.ref 53), some (.int v0), some (.long v1), none, none, none, none] [] (emb g1 g2 x d c u t a b m o E) 0 0 _
  refine rn_aload_n (by exact dc_Md_put 0 rfl) (by exact rfl) ?_
  refine rn_iconst (v := (0 : Int32)) (by exact dc_Md_put 1 rfl) (by decide) ?_
  refine rn_putf (w2 := (emb g1 g2 x d c u t a b (M_put_code m (0 : Int32)) o E)) fd_Md_77 (by exact dc_Md_put 2 rfl) (by exact rfl) (by exact rfl) (by exact Nat.le_of_ble_eq_true rfl) (by exact sm_code) ?_
  refine rn_iload_n (by exact dc_Md_put 3 rfl) (by exact rfl) ?_
  refine rn_iconst (v := (1 : Int32)) (by exact dc_Md_put 4 rfl) (by decide) ?_
  by_cases c1 : v0 < (1 : Int32)
  · replace h := rn_ifp c1 h
    refine rn_icmp_lt_t 28 (by exact dc_Md_put 5 rfl) (by exact rfl) c1 ?_
    refine rn_iconst (v := (0 : Int32)) (by exact dc_Md_put 15 rfl) (by decide) ?_
    cases h
    exact rn_zreturn (by exact dc_Md_put 16 rfl) (by exact rfl) (by first | exact Or.inl rfl | exact Or.inr rfl)
  · replace h := rn_ifn c1 h
    refine rn_icmp_lt_f 28 (by exact dc_Md_put 5 rfl) (by exact rfl) c1 ?_
    refine rn_iload_n (by exact dc_Md_put 6 rfl) (by exact rfl) ?_
    refine rn_bipush (v := (8 : Int32)) (by exact dc_Md_put 7 rfl) (by decide) ?_
    by_cases c2 : (8 : Int32) < v0
    · replace h := rn_ifp c2 h
      refine rn_icmp_gt_t 28 (by exact dc_Md_put 8 rfl) (by exact rfl) c2 ?_
      refine rn_iconst (v := (0 : Int32)) (by exact dc_Md_put 15 rfl) (by decide) ?_
      cases h
      exact rn_zreturn (by exact dc_Md_put 16 rfl) (by exact rfl) (by first | exact Or.inl rfl | exact Or.inr rfl)
    · replace h := rn_ifn c2 h
      refine rn_icmp_gt_f 28 (by exact dc_Md_put 8 rfl) (by exact rfl) c2 ?_
      refine rn_aload_n (by exact dc_Md_put 9 rfl) (by exact rfl) ?_
      refine rn_getf (v := .int (M_size (M_put_code m (0 : Int32)))) fd_Md_81 (by exact dc_Md_put 10 rfl) (by exact rfl) (by exact rfl) ?_
      refine rn_iload_n (by exact dc_Md_put 11 rfl) (by exact rfl) ?_
      refine rn_iadd (by exact dc_Md_put 12 rfl) ?_
      refine rn_sipush (v := (300 : Int32)) (by exact dc_Md_put 13 rfl) (by decide) ?_
      by_cases c3 : ((M_size (M_put_code m (0 : Int32))) + v0) ≤ (300 : Int32)
      · replace h := rn_ifp c3 h
        refine rn_icmp_le_t 30 (by exact dc_Md_put 14 rfl) (by exact rfl) c3 ?_
        refine rn_iconst (v := (1 : Int32)) (by exact dc_Md_put 17 rfl) (by decide) ?_
        refine rn_istore (ls' := [some (.ref 53), some (.int v0), some (.long v1), none, some (.int (1 : Int32)), none, none]) (by exact dc_Md_put 18 rfl) (by decide) (by exact rfl) ?_
        refine rn_iconst (v := (0 : Int32)) (by exact dc_Md_put 19 rfl) (by decide) ?_
        refine rn_istore (ls' := [some (.ref 53), some (.int v0), some (.long v1), none, some (.int (1 : Int32)), some (.int (0 : Int32)), none]) (by exact dc_Md_put 20 rfl) (by decide) (by exact rfl) ?_
        obtain ⟨y7, e4, h6⟩ := rn_bind h
        clear h
        have jx5 : Rn Z M_Md_put 95 [some (.ref 53), some (.int v0), some (.long v1), none, some (.int y7), none, none] [] (emb g1 g2 x d c u t a b (M_put_code m (0 : Int32)) o E) 0 0 (rn_Ret Z (some (.int res)) (emb g1 g2 x d c u t a b m_r o E)) := by
          refine rn_iload_n (by exact dc_Md_put 50 rfl) (by exact rfl) ?_
          refine rn_iconst (v := (1 : Int32)) (by exact dc_Md_put 51 rfl) (by decide) ?_
          refine rn_isub (by exact dc_Md_put 52 rfl) ?_
          refine rn_istore (ls' := [some (.ref 53), some (.int v0), some (.long v1), none, some (.int y7), some (.int (v0 - (1 : Int32))), none]) (by exact dc_Md_put 53 rfl) (by decide) (by exact rfl) ?_
          obtain ⟨m11, e8, h10⟩ := rn_bind h6
          clear h6
          have jx9 : Rn Z M_Md_put 147 [none, none, none, none, some (.int y7), none, none] [] (emb g1 g2 x d c u t a b m11 o E) 0 0 (rn_Ret Z (some (.int res)) (emb g1 g2 x d c u t a b m_r o E)) := by
            refine rn_iload (by exact dc_Md_put 79 rfl) (by exact rfl) ?_
            obtain ⟨y12, e13, h15⟩ := rn_bind h10
            clear h10
            obtain ⟨rfl, hb14⟩ := rn_bl_some e13
            cases h15
            exact rn_zreturn (by exact dc_Md_put 80 rfl) (by exact rfl) hb14
          exact rn_weak _ (by repeat (first | exact rn_le_0 | apply rn_le_s | apply rn_le_x)) (p_Md_put_L100 jx9 _ _ _ e8)
        exact rn_weak _ (by repeat (first | exact rn_le_0 | apply rn_le_s | apply rn_le_x)) (p_Md_put_L36 jx5 _ _ _ e4)
      · replace h := rn_ifn c3 h
        refine rn_icmp_le_f 30 (by exact dc_Md_put 14 rfl) (by exact rfl) c3 ?_
        refine rn_iconst (v := (0 : Int32)) (by exact dc_Md_put 15 rfl) (by decide) ?_
        cases h
        exact rn_zreturn (by exact dc_Md_put 16 rfl) (by exact rfl) (by first | exact Or.inl rfl | exact Or.inr rfl)
def F_Md_scrap (m : tM)  : Option tM :=
  some (M_put_size (M_put_code m (0 : Int32)) (0 : Int32))
set_option maxHeartbeats 4000000 in
set_option maxRecDepth 100000 in
theorem c_Md_scrap {Z : rn_Z} {g1 g2 : Nat} {x : tX} {d : tD} {c : tC} {u : tU} {t : tT} {a : tG} {b : tG} {m : tM} {o : tO} {E : List rn_C}  {m_r : tM} (h : F_Md_scrap m  = some m_r) : Call Z M_Md_scrap [.ref 53] (emb g1 g2 x d c u t a b m o E) 0 0 none (emb g1 g2 x d c u t a b m_r o E) := by
  unfold F_Md_scrap at h
  refine rn_call (by decide) 0 (by exact Nat.le_of_ble_eq_true rfl) ?_
  show Rn Z M_Md_scrap 0 [some (.ref 53)] [] (emb g1 g2 x d c u t a b m o E) 0 0 _
  refine rn_aload_n (by exact dc_Md_scrap 0 rfl) (by exact rfl) ?_
  refine rn_iconst (v := (0 : Int32)) (by exact dc_Md_scrap 1 rfl) (by decide) ?_
  refine rn_putf (w2 := (emb g1 g2 x d c u t a b (M_put_code m (0 : Int32)) o E)) fd_Md_77 (by exact dc_Md_scrap 2 rfl) (by exact rfl) (by exact rfl) (by exact Nat.le_of_ble_eq_true rfl) (by exact sm_code) ?_
  refine rn_aload_n (by exact dc_Md_scrap 3 rfl) (by exact rfl) ?_
  refine rn_iconst (v := (0 : Int32)) (by exact dc_Md_scrap 4 rfl) (by decide) ?_
  refine rn_putf (w2 := (emb g1 g2 x d c u t a b (M_put_size (M_put_code m (0 : Int32)) (0 : Int32)) o E)) fd_Md_81 (by exact dc_Md_scrap 5 rfl) (by exact rfl) (by exact rfl) (by exact Nat.le_of_ble_eq_true rfl) (by exact sm_size) ?_
  cases h
  exact rn_return (by exact dc_Md_scrap 6 rfl) (by exact rfl)
def F_Md_next (m : tM) (v0 : Int32) : Option (Int32 × tM) :=
  Option.bind (
    if (M_end m) ≤ (M_at m) then (
      some (0 : Int32)
    ) else (
      Option.bind (aG (M_src m) 300 (M_at m)) fun x6 =>
      if ¬ x6 = v0 then (
        some (0 : Int32)
      ) else (
        some (1 : Int32)
      )
    )
   : Option Int32) fun y1 =>
  Option.bind (
    if y1 = 0 then (
      some (M_at m : Int32)
    ) else (
      some ((M_at m) + (1 : Int32))
    )
   : Option Int32) fun y10 =>
  Option.bind (rn_bl y1) fun y15 =>
  some (y15, (M_put_at m y10))
set_option maxHeartbeats 4000000 in
set_option maxRecDepth 100000 in
theorem c_Md_next {Z : rn_Z} {g1 g2 : Nat} {x : tX} {d : tD} {c : tC} {u : tU} {t : tT} {a : tG} {b : tG} {m : tM} {o : tO} {E : List rn_C} {v0 : Int32} {res : Int32} {m_r : tM} (h : F_Md_next m v0 = some (res, m_r)) : Call Z M_Md_next [.ref 53, .int v0] (emb g1 g2 x d c u t a b m o E) 0 0 (some (.int res)) (emb g1 g2 x d c u t a b m_r o E) := by
  unfold F_Md_next at h
  refine rn_call (by decide) 1 (by exact Nat.le_of_ble_eq_true rfl) ?_
  show Rn Z M_Md_next 0 [some (.ref 53), some (.int v0), none] [] (emb g1 g2 x d c u t a b m o E) 0 0 _
  refine rn_aload_n (by exact dc_Md_next 0 rfl) (by exact rfl) ?_
  refine rn_getf (v := .int (M_at m)) fd_Md_86 (by exact dc_Md_next 1 rfl) (by exact rfl) (by exact rfl) ?_
  refine rn_aload_n (by exact dc_Md_next 2 rfl) (by exact rfl) ?_
  refine rn_getf (v := .int (M_end m)) fd_Md_89 (by exact dc_Md_next 3 rfl) (by exact rfl) (by exact rfl) ?_
  obtain ⟨y1, e2, h4⟩ := rn_bind h
  clear h
  have jq3 : Rn Z M_Md_next 29 [some (.ref 53), none, none] [.int y1] (emb g1 g2 x d c u t a b m o E) 0 0 (rn_Ret Z (some (.int res)) (emb g1 g2 x d c u t a b m_r o E)) := by
    refine rn_istore_n (ls' := [some (.ref 53), none, some (.int y1)]) (by exact dc_Md_next 15 rfl) (by decide) (by exact rfl) ?_
    refine rn_aload_n (by exact dc_Md_next 16 rfl) (by exact rfl) ?_
    refine rn_iload_n (by exact dc_Md_next 17 rfl) (by exact rfl) ?_
    obtain ⟨y10, e11, h13⟩ := rn_bind h4
    clear h4
    have jq12 : Rn Z M_Md_next 48 [none, none, some (.int y1)] [.int y10, .ref 53] (emb g1 g2 x d c u t a b m o E) 0 0 (rn_Ret Z (some (.int res)) (emb g1 g2 x d c u t a b m_r o E)) := by
      refine rn_putf (w2 := (emb g1 g2 x d c u t a b (M_put_at m y10) o E)) fd_Md_86 (by exact dc_Md_next 26 rfl) (by exact rfl) (by exact rfl) (by exact Nat.le_of_ble_eq_true rfl) (by exact sm_at) ?_
      refine rn_iload_n (by exact dc_Md_next 27 rfl) (by exact rfl) ?_
      obtain ⟨y15, e16, h18⟩ := rn_bind h13
      clear h13
      obtain ⟨rfl, hb17⟩ := rn_bl_some e16
      cases h18
      exact rn_zreturn (by exact dc_Md_next 28 rfl) (by exact rfl) hb17
    by_cases c14 : y1 = 0
    · replace e11 := rn_ifp c14 e11
      refine rn_if_eq_t 44 (by exact dc_Md_next 18 rfl) (by exact rfl) c14 ?_
      refine rn_aload_n (by exact dc_Md_next 24 rfl) (by exact rfl) ?_
      refine rn_getf (v := .int (M_at m)) fd_Md_86 (by exact dc_Md_next 25 rfl) (by exact rfl) (by exact rfl) ?_
      cases e11
      exact rn_weak _ (by repeat (first | exact rn_le_0 | apply rn_le_s | apply rn_le_x)) jq12
    · replace e11 := rn_ifn c14 e11
      refine rn_if_eq_f 44 (by exact dc_Md_next 18 rfl) (by exact rfl) c14 ?_
      refine rn_aload_n (by exact dc_Md_next 19 rfl) (by exact rfl) ?_
      refine rn_getf (v := .int (M_at m)) fd_Md_86 (by exact dc_Md_next 20 rfl) (by exact rfl) (by exact rfl) ?_
      refine rn_iconst (v := (1 : Int32)) (by exact dc_Md_next 21 rfl) (by decide) ?_
      refine rn_iadd (by exact dc_Md_next 22 rfl) ?_
      refine rn_goto 48 (by exact dc_Md_next 23 rfl) (by exact rfl) ?_
      cases e11
      exact rn_weak _ (by repeat (first | exact rn_le_0 | apply rn_le_s | apply rn_le_x)) jq12
  by_cases c5 : (M_end m) ≤ (M_at m)
  · replace e2 := rn_ifp c5 e2
    refine rn_icmp_ge_t 28 (by exact dc_Md_next 4 rfl) (by exact rfl) c5 ?_
    refine rn_iconst (v := (0 : Int32)) (by exact dc_Md_next 14 rfl) (by decide) ?_
    cases e2
    exact rn_weak _ (by repeat (first | exact rn_le_0 | apply rn_le_s | apply rn_le_x)) jq3
  · replace e2 := rn_ifn c5 e2
    refine rn_icmp_ge_f 28 (by exact dc_Md_next 4 rfl) (by exact rfl) c5 ?_
    refine rn_aload_n (by exact dc_Md_next 5 rfl) (by exact rfl) ?_
    refine rn_getf (v := .ref 55) fd_Md_13 (by exact dc_Md_next 6 rfl) (by exact rfl) (by exact rfl) ?_
    refine rn_aload_n (by exact dc_Md_next 7 rfl) (by exact rfl) ?_
    refine rn_getf (v := .int (M_at m)) fd_Md_86 (by exact dc_Md_next 8 rfl) (by exact rfl) (by exact rfl) ?_
    obtain ⟨x6, e7, h8⟩ := rn_bind e2
    clear e2
    refine rn_iaload (by exact dc_Md_next 9 rfl) (by exact rfl) e7 ?_
    refine rn_iload_n (by exact dc_Md_next 10 rfl) (by exact rfl) ?_
    by_cases c9 : ¬ x6 = v0
    · replace h8 := rn_ifp c9 h8
      refine rn_icmp_ne_t 28 (by exact dc_Md_next 11 rfl) (by exact rfl) c9 ?_
      refine rn_iconst (v := (0 : Int32)) (by exact dc_Md_next 14 rfl) (by decide) ?_
      cases h8
      exact rn_weak _ (by repeat (first | exact rn_le_0 | apply rn_le_s | apply rn_le_x)) jq3
    · replace h8 := rn_ifn c9 h8
      refine rn_icmp_ne_f 28 (by exact dc_Md_next 11 rfl) (by exact rfl) (Classical.not_not.mp c9) ?_
      refine rn_iconst (v := (1 : Int32)) (by exact dc_Md_next 12 rfl) (by decide) ?_
      refine rn_goto 29 (by exact dc_Md_next 13 rfl) (by exact rfl) ?_
      cases h8
      exact rn_weak _ (by repeat (first | exact rn_le_0 | apply rn_le_s | apply rn_le_x)) jq3
def F_Md_isCapital (v0 : Int32) : Option Int32 :=
  Option.bind (
    if v0 < (65 : Int32) then (
      some (0 : Int32)
    ) else (
      if (90 : Int32) < v0 then (
        some (0 : Int32)
      ) else (
        some (1 : Int32)
      )
    )
   : Option Int32) fun y1 =>
  Option.bind (rn_bl y1) fun y7 =>
  some y7
set_option maxHeartbeats 4000000 in
set_option maxRecDepth 100000 in
theorem c_Md_isCapital {Z : rn_Z} {g1 g2 : Nat} {x : tX} {d : tD} {c : tC} {u : tU} {t : tT} {a : tG} {b : tG} {m : tM} {o : tO} {E : List rn_C} {v0 : Int32} {res : Int32} (h : F_Md_isCapital  v0 = some res) : Call Z M_Md_isCapital [.int v0] (emb g1 g2 x d c u t a b m o E) 0 0 (some (.int res)) (emb g1 g2 x d c u t a b m o E) := by
  unfold F_Md_isCapital at h
  refine rn_call (by decide) 0 (by exact Nat.le_of_ble_eq_true rfl) ?_
  show Rn Z M_Md_isCapital 0 [some (.int v0)] [] (emb g1 g2 x d c u t a b m o E) 0 0 _
  refine rn_iload_n (by exact dc_Md_isCapital 0 rfl) (by exact rfl) ?_
  refine rn_bipush (v := (65 : Int32)) (by exact dc_Md_isCapital 1 rfl) (by decide) ?_
  obtain ⟨y1, e2, h4⟩ := rn_bind h
  clear h
  have jq3 : Rn Z M_Md_isCapital 17 [none] [.int y1] (emb g1 g2 x d c u t a b m o E) 0 0 (rn_Ret Z (some (.int res)) (emb g1 g2 x d c u t a b m o E)) := by
    obtain ⟨y7, e8, h10⟩ := rn_bind h4
    clear h4
    obtain ⟨rfl, hb9⟩ := rn_bl_some e8
    cases h10
    exact rn_zreturn (by exact dc_Md_isCapital 9 rfl) (by exact rfl) hb9
  by_cases c5 : v0 < (65 : Int32)
  · replace e2 := rn_ifp c5 e2
    refine rn_icmp_lt_t 16 (by exact dc_Md_isCapital 2 rfl) (by exact rfl) c5 ?_
    refine rn_iconst (v := (0 : Int32)) (by exact dc_Md_isCapital 8 rfl) (by decide) ?_
    cases e2
    exact rn_weak _ (by repeat (first | exact rn_le_0 | apply rn_le_s | apply rn_le_x)) jq3
  · replace e2 := rn_ifn c5 e2
    refine rn_icmp_lt_f 16 (by exact dc_Md_isCapital 2 rfl) (by exact rfl) c5 ?_
    refine rn_iload_n (by exact dc_Md_isCapital 3 rfl) (by exact rfl) ?_
    refine rn_bipush (v := (90 : Int32)) (by exact dc_Md_isCapital 4 rfl) (by decide) ?_
    by_cases c6 : (90 : Int32) < v0
    · replace e2 := rn_ifp c6 e2
      refine rn_icmp_gt_t 16 (by exact dc_Md_isCapital 5 rfl) (by exact rfl) c6 ?_
      refine rn_iconst (v := (0 : Int32)) (by exact dc_Md_isCapital 8 rfl) (by decide) ?_
      cases e2
      exact rn_weak _ (by repeat (first | exact rn_le_0 | apply rn_le_s | apply rn_le_x)) jq3
    · replace e2 := rn_ifn c6 e2
      refine rn_icmp_gt_f 16 (by exact dc_Md_isCapital 5 rfl) (by exact rfl) c6 ?_
      refine rn_iconst (v := (1 : Int32)) (by exact dc_Md_isCapital 6 rfl) (by decide) ?_
      refine rn_goto 17 (by exact dc_Md_isCapital 7 rfl) (by exact rfl) ?_
      cases e2
      exact rn_weak _ (by repeat (first | exact rn_le_0 | apply rn_le_s | apply rn_le_x)) jq3
def F_Md_isSmall (v0 : Int32) : Option Int32 :=
  Option.bind (
    if v0 < (97 : Int32) then (
      some (0 : Int32)
    ) else (
      if (122 : Int32) < v0 then (
        some (0 : Int32)
      ) else (
        some (1 : Int32)
      )
    )
   : Option Int32) fun y1 =>
  Option.bind (rn_bl y1) fun y7 =>
  some y7
set_option maxHeartbeats 4000000 in
set_option maxRecDepth 100000 in
theorem c_Md_isSmall {Z : rn_Z} {g1 g2 : Nat} {x : tX} {d : tD} {c : tC} {u : tU} {t : tT} {a : tG} {b : tG} {m : tM} {o : tO} {E : List rn_C} {v0 : Int32} {res : Int32} (h : F_Md_isSmall  v0 = some res) : Call Z M_Md_isSmall [.int v0] (emb g1 g2 x d c u t a b m o E) 0 0 (some (.int res)) (emb g1 g2 x d c u t a b m o E) := by
  unfold F_Md_isSmall at h
  refine rn_call (by decide) 0 (by exact Nat.le_of_ble_eq_true rfl) ?_
  show Rn Z M_Md_isSmall 0 [some (.int v0)] [] (emb g1 g2 x d c u t a b m o E) 0 0 _
  refine rn_iload_n (by exact dc_Md_isSmall 0 rfl) (by exact rfl) ?_
  refine rn_bipush (v := (97 : Int32)) (by exact dc_Md_isSmall 1 rfl) (by decide) ?_
  obtain ⟨y1, e2, h4⟩ := rn_bind h
  clear h
  have jq3 : Rn Z M_Md_isSmall 17 [none] [.int y1] (emb g1 g2 x d c u t a b m o E) 0 0 (rn_Ret Z (some (.int res)) (emb g1 g2 x d c u t a b m o E)) := by
    obtain ⟨y7, e8, h10⟩ := rn_bind h4
    clear h4
    obtain ⟨rfl, hb9⟩ := rn_bl_some e8
    cases h10
    exact rn_zreturn (by exact dc_Md_isSmall 9 rfl) (by exact rfl) hb9
  by_cases c5 : v0 < (97 : Int32)
  · replace e2 := rn_ifp c5 e2
    refine rn_icmp_lt_t 16 (by exact dc_Md_isSmall 2 rfl) (by exact rfl) c5 ?_
    refine rn_iconst (v := (0 : Int32)) (by exact dc_Md_isSmall 8 rfl) (by decide) ?_
    cases e2
    exact rn_weak _ (by repeat (first | exact rn_le_0 | apply rn_le_s | apply rn_le_x)) jq3
  · replace e2 := rn_ifn c5 e2
    refine rn_icmp_lt_f 16 (by exact dc_Md_isSmall 2 rfl) (by exact rfl) c5 ?_
    refine rn_iload_n (by exact dc_Md_isSmall 3 rfl) (by exact rfl) ?_
    refine rn_bipush (v := (122 : Int32)) (by exact dc_Md_isSmall 4 rfl) (by decide) ?_
    by_cases c6 : (122 : Int32) < v0
    · replace e2 := rn_ifp c6 e2
      refine rn_icmp_gt_t 16 (by exact dc_Md_isSmall 5 rfl) (by exact rfl) c6 ?_
      refine rn_iconst (v := (0 : Int32)) (by exact dc_Md_isSmall 8 rfl) (by decide) ?_
      cases e2
      exact rn_weak _ (by repeat (first | exact rn_le_0 | apply rn_le_s | apply rn_le_x)) jq3
    · replace e2 := rn_ifn c6 e2
      refine rn_icmp_gt_f 16 (by exact dc_Md_isSmall 5 rfl) (by exact rfl) c6 ?_
      refine rn_iconst (v := (1 : Int32)) (by exact dc_Md_isSmall 6 rfl) (by decide) ?_
      refine rn_goto 17 (by exact dc_Md_isSmall 7 rfl) (by exact rfl) ?_
      cases e2
      exact rn_weak _ (by repeat (first | exact rn_le_0 | apply rn_le_s | apply rn_le_x)) jq3
def F_Md_isFigure (m : tM)  : Option Int32 :=
  Option.bind (
    if (M_end m) ≤ (M_at m) then (
      some (0 : Int32)
    ) else (
      Option.bind (aG (M_src m) 300 (M_at m)) fun x6 =>
      if x6 < (48 : Int32) then (
        some (0 : Int32)
      ) else (
        Option.bind (aG (M_src m) 300 (M_at m)) fun x10 =>
        if (57 : Int32) < x10 then (
          some (0 : Int32)
        ) else (
          some (1 : Int32)
        )
      )
    )
   : Option Int32) fun y1 =>
  Option.bind (rn_bl y1) fun y14 =>
  some y14
set_option maxHeartbeats 4000000 in
set_option maxRecDepth 100000 in
theorem c_Md_isFigure {Z : rn_Z} {g1 g2 : Nat} {x : tX} {d : tD} {c : tC} {u : tU} {t : tT} {a : tG} {b : tG} {m : tM} {o : tO} {E : List rn_C}  {res : Int32} (h : F_Md_isFigure m  = some res) : Call Z M_Md_isFigure [.ref 53] (emb g1 g2 x d c u t a b m o E) 0 0 (some (.int res)) (emb g1 g2 x d c u t a b m o E) := by
  unfold F_Md_isFigure at h
  refine rn_call (by decide) 0 (by exact Nat.le_of_ble_eq_true rfl) ?_
  show Rn Z M_Md_isFigure 0 [some (.ref 53)] [] (emb g1 g2 x d c u t a b m o E) 0 0 _
  refine rn_aload_n (by exact dc_Md_isFigure 0 rfl) (by exact rfl) ?_
  refine rn_getf (v := .int (M_at m)) fd_Md_86 (by exact dc_Md_isFigure 1 rfl) (by exact rfl) (by exact rfl) ?_
  refine rn_aload_n (by exact dc_Md_isFigure 2 rfl) (by exact rfl) ?_
  refine rn_getf (v := .int (M_end m)) fd_Md_89 (by exact dc_Md_isFigure 3 rfl) (by exact rfl) (by exact rfl) ?_
  obtain ⟨y1, e2, h4⟩ := rn_bind h
  clear h
  have jq3 : Rn Z M_Md_isFigure 44 [none] [.int y1] (emb g1 g2 x d c u t a b m o E) 0 0 (rn_Ret Z (some (.int res)) (emb g1 g2 x d c u t a b m o E)) := by
    obtain ⟨y14, e15, h17⟩ := rn_bind h4
    clear h4
    obtain ⟨rfl, hb16⟩ := rn_bl_some e15
    cases h17
    exact rn_zreturn (by exact dc_Md_isFigure 22 rfl) (by exact rfl) hb16
  by_cases c5 : (M_end m) ≤ (M_at m)
  · replace e2 := rn_ifp c5 e2
    refine rn_icmp_ge_t 43 (by exact dc_Md_isFigure 4 rfl) (by exact rfl) c5 ?_
    refine rn_iconst (v := (0 : Int32)) (by exact dc_Md_isFigure 21 rfl) (by decide) ?_
    cases e2
    exact rn_weak _ (by repeat (first | exact rn_le_0 | apply rn_le_s | apply rn_le_x)) jq3
  · replace e2 := rn_ifn c5 e2
    refine rn_icmp_ge_f 43 (by exact dc_Md_isFigure 4 rfl) (by exact rfl) c5 ?_
    refine rn_aload_n (by exact dc_Md_isFigure 5 rfl) (by exact rfl) ?_
    refine rn_getf (v := .ref 55) fd_Md_13 (by exact dc_Md_isFigure 6 rfl) (by exact rfl) (by exact rfl) ?_
    refine rn_aload_n (by exact dc_Md_isFigure 7 rfl) (by exact rfl) ?_
    refine rn_getf (v := .int (M_at m)) fd_Md_86 (by exact dc_Md_isFigure 8 rfl) (by exact rfl) (by exact rfl) ?_
    obtain ⟨x6, e7, h8⟩ := rn_bind e2
    clear e2
    refine rn_iaload (by exact dc_Md_isFigure 9 rfl) (by exact rfl) e7 ?_
    refine rn_bipush (v := (48 : Int32)) (by exact dc_Md_isFigure 10 rfl) (by decide) ?_
    by_cases c9 : x6 < (48 : Int32)
    · replace h8 := rn_ifp c9 h8
      refine rn_icmp_lt_t 43 (by exact dc_Md_isFigure 11 rfl) (by exact rfl) c9 ?_
      refine rn_iconst (v := (0 : Int32)) (by exact dc_Md_isFigure 21 rfl) (by decide) ?_
      cases h8
      exact rn_weak _ (by repeat (first | exact rn_le_0 | apply rn_le_s | apply rn_le_x)) jq3
    · replace h8 := rn_ifn c9 h8
      refine rn_icmp_lt_f 43 (by exact dc_Md_isFigure 11 rfl) (by exact rfl) c9 ?_
      refine rn_aload_n (by exact dc_Md_isFigure 12 rfl) (by exact rfl) ?_
      refine rn_getf (v := .ref 55) fd_Md_13 (by exact dc_Md_isFigure 13 rfl) (by exact rfl) (by exact rfl) ?_
      refine rn_aload_n (by exact dc_Md_isFigure 14 rfl) (by exact rfl) ?_
      refine rn_getf (v := .int (M_at m)) fd_Md_86 (by exact dc_Md_isFigure 15 rfl) (by exact rfl) (by exact rfl) ?_
      obtain ⟨x10, e11, h12⟩ := rn_bind h8
      clear h8
      refine rn_iaload (by exact dc_Md_isFigure 16 rfl) (by exact rfl) e11 ?_
      refine rn_bipush (v := (57 : Int32)) (by exact dc_Md_isFigure 17 rfl) (by decide) ?_
      by_cases c13 : (57 : Int32) < x10
      · replace h12 := rn_ifp c13 h12
        refine rn_icmp_gt_t 43 (by exact dc_Md_isFigure 18 rfl) (by exact rfl) c13 ?_
        refine rn_iconst (v := (0 : Int32)) (by exact dc_Md_isFigure 21 rfl) (by decide) ?_
        cases h12
        exact rn_weak _ (by repeat (first | exact rn_le_0 | apply rn_le_s | apply rn_le_x)) jq3
      · replace h12 := rn_ifn c13 h12
        refine rn_icmp_gt_f 43 (by exact dc_Md_isFigure 18 rfl) (by exact rfl) c13 ?_
        refine rn_iconst (v := (1 : Int32)) (by exact dc_Md_isFigure 19 rfl) (by decide) ?_
        refine rn_goto 44 (by exact dc_Md_isFigure 20 rfl) (by exact rfl) ?_
        cases h12
        exact rn_weak _ (by repeat (first | exact rn_le_0 | apply rn_le_s | apply rn_le_x)) jq3
