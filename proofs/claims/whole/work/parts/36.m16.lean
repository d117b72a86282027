def F_Md_parse_L24 (m : tM) (l1 : Int32) : Nat → Int32 → Int32 → Option Int32
  | 0, _, _ => none
  | n + 1, l2, l3 =>
    if l1 ≤ l3 then (
      some l2
    ) else (
      Option.bind (
        if l2 = 0 then (
          some (0 : Int32)
        ) else (
          Option.bind (aG (M_draft m) 300 l3) fun x7 =>
          Option.bind (F_Md_isSmall  x7) fun x11 =>
          if x11 = 0 then (
            some (0 : Int32)
          ) else (
            some (1 : Int32)
          )
        )
       : Option Int32) fun y2 =>
      F_Md_parse_L24 m l1 n y2 (l3 + 1)
    )
set_option maxHeartbeats 4000000 in
set_option maxRecDepth 100000 in
theorem p_Md_parse_L24 {Z : rn_Z} {g1 g2 : Nat} {x : tX} {d : tD} {c : tC} {u : tU} {t : tT} {a : tG} {b : tG} {m : tM} {o : tO} {E : List rn_C}  {l1 : Int32} {K : rn_K} {ca sa : Nat} {z2 : Int32} (hx : Rn Z M_Md_parse 57 [some (.ref 53), some (.int l1), some (.int z2), none, none] [] (emb g1 g2 x d c u t a b m o E) ca sa K) (n : Nat) : ∀ (l2 : Int32) (l3 : Int32), F_Md_parse_L24 m l1 n l2 l3 = some z2 → Rn Z M_Md_parse 24 [some (.ref 53), some (.int l1), some (.int l2), some (.int l3), none] [] (emb g1 g2 x d c u t a b m o E) ca sa K := by
  induction n with
  | zero =>
    intro l2 l3 h
    rw [F_Md_parse_L24] at h
    cases h
  | succ n ih =>
    intro l2 l3 h
    rw [F_Md_parse_L24] at h
    refine rn_iload_n (by exact dc_Md_parse 15 rfl) (by exact rfl) ?_
    refine rn_iload_n (by exact dc_Md_parse 16 rfl) (by exact rfl) ?_
    by_cases c1 : l1 ≤ l3
    · replace h := rn_ifp c1 h
      refine rn_icmp_ge_t 57 (by exact dc_Md_parse 17 rfl) (by exact rfl) c1 ?_
      cases h
      exact rn_weak _ (by repeat (first | exact rn_le_0 | apply rn_le_s | apply rn_le_x)) hx
    · replace h := rn_ifn c1 h
      refine rn_icmp_ge_f 57 (by exact dc_Md_parse 17 rfl) (by exact rfl) c1 ?_
      refine rn_iload_n (by exact dc_Md_parse 18 rfl) (by exact rfl) ?_
      obtain ⟨y2, e3, h5⟩ := rn_bind h
      clear h
      have jq4 : Rn Z M_Md_parse 50 [some (.ref 53), some (.int l1), none, some (.int l3), none] [.int y2] (emb g1 g2 x d c u t a b m o E) ca sa K := by
        refine rn_istore_n (ls' := [some (.ref 53), some (.int l1), some (.int y2), some (.int l3), none]) (by exact dc_Md_parse 29 rfl) (by decide) (by exact rfl) ?_
        refine rn_iinc (ls' := [some (.ref 53), some (.int l1), some (.int y2), some (.int (l3 + 1)), none]) (by exact dc_Md_parse 30 rfl) (by decide) (by exact rfl) (by exact rn_inc_1 _) (by exact rfl) ?_
        refine rn_goto 24 (by exact dc_Md_parse 31 rfl) (by exact rfl) ?_
        exact rn_weak _ (by repeat (first | exact rn_le_0 | apply rn_le_s | apply rn_le_x)) (ih _ _ h5)
      by_cases c6 : l2 = 0
      · replace e3 := rn_ifp c6 e3
        refine rn_if_eq_t 49 (by exact dc_Md_parse 19 rfl) (by exact rfl) c6 ?_
        refine rn_iconst (v := (0 : Int32)) (by exact dc_Md_parse 28 rfl) (by decide) ?_
        cases e3
        exact rn_weak _ (by repeat (first | exact rn_le_0 | apply rn_le_s | apply rn_le_x)) jq4
      · replace e3 := rn_ifn c6 e3
        refine rn_if_eq_f 49 (by exact dc_Md_parse 19 rfl) (by exact rfl) c6 ?_
        refine rn_aload_n (by exact dc_Md_parse 20 rfl) (by exact rfl) ?_
        refine rn_getf (v := .ref 54) fd_Md_7 (by exact dc_Md_parse 21 rfl) (by exact rfl) (by exact rfl) ?_
        refine rn_iload_n (by exact dc_Md_parse 22 rfl) (by exact rfl) ?_
        obtain ⟨x7, e8, h9⟩ := rn_bind e3
        clear e3
        refine rn_iaload (by exact dc_Md_parse 23 rfl) (by exact rfl) e8 ?_
        obtain ⟨x11, e10, h12⟩ := rn_bind h9
        clear h9
        refine rn_invS0 (by exact c_Md_isSmall e10) is_Md_108 (by exact ⟨Nat.le_of_ble_eq_true rfl, Nat.le_of_ble_eq_true rfl⟩) (by exact dc_Md_parse 24 rfl) (by exact rfl) (by exact rfl) (by exact Nat.le_of_ble_eq_true rfl) ?_
        show Rn _ _ 42 [some (.ref 53), some (.int l1), some (.int l2), some (.int l3), none] [.int x11] (emb g1 g2 x d c u t a b m o E) _ _ _
        by_cases c13 : x11 = 0
        · replace h12 := rn_ifp c13 h12
          refine rn_if_eq_t 49 (by exact dc_Md_parse 25 rfl) (by exact rfl) c13 ?_
          refine rn_iconst (v := (0 : Int32)) (by exact dc_Md_parse 28 rfl) (by decide) ?_
          cases h12
          exact rn_weak _ (by repeat (first | exact rn_le_0 | apply rn_le_s | apply rn_le_x)) jq4
        · replace h12 := rn_ifn c13 h12
          refine rn_if_eq_f 49 (by exact dc_Md_parse 25 rfl) (by exact rfl) c13 ?_
          refine rn_iconst (v := (1 : Int32)) (by exact dc_Md_parse 26 rfl) (by decide) ?_
          refine rn_goto 50 (by exact dc_Md_parse 27 rfl) (by exact rfl) ?_
          cases h12
          exact rn_weak _ (by repeat (first | exact rn_le_0 | apply rn_le_s | apply rn_le_x)) jq4
def F_Md_parse_L107 (l1 : Int32) : Nat → tM → Int32 → Option tM
  | 0, _, _ => none
  | n + 1, m, l3 =>
    if l1 ≤ l3 then (
      some m
    ) else (
      Option.bind (aG (M_draft m) 300 l3) fun x2 =>
      Option.bind (aS (M_text m) 8 l3 x2) fun f5 =>
      F_Md_parse_L107 l1 n (M_put_text m f5) (l3 + 1)
    )
set_option maxHeartbeats 4000000 in
set_option maxRecDepth 100000 in
theorem p_Md_parse_L107 {Z : rn_Z} {g1 g2 : Nat} {x : tX} {d : tD} {c : tC} {u : tU} {t : tT} {a : tG} {b : tG}  {o : tO} {E : List rn_C}  {l1 : Int32} {K : rn_K} {ca sa : Nat} {mz : tM} (hx : Rn Z M_Md_parse 130 [some (.ref 53), some (.int l1), none, none, none] [] (emb g1 g2 x d c u t a b mz o E) ca sa K) (n : Nat) : ∀ (m : tM) (l3 : Int32), F_Md_parse_L107 l1 n m l3 = some mz → Rn Z M_Md_parse 107 [some (.ref 53), some (.int l1), none, some (.int l3), none] [] (emb g1 g2 x d c u t a b m o E) ca sa K := by
  induction n with
  | zero =>
    intro m l3 h
    rw [F_Md_parse_L107] at h
    cases h
  | succ n ih =>
    intro m l3 h
    rw [F_Md_parse_L107] at h
    refine rn_iload_n (by exact dc_Md_parse 60 rfl) (by exact rfl) ?_
    refine rn_iload_n (by exact dc_Md_parse 61 rfl) (by exact rfl) ?_
    by_cases c1 : l1 ≤ l3
    · replace h := rn_ifp c1 h
      refine rn_icmp_ge_t 130 (by exact dc_Md_parse 62 rfl) (by exact rfl) c1 ?_
      cases h
      exact rn_weak _ (by repeat (first | exact rn_le_0 | apply rn_le_s | apply rn_le_x)) hx
    · replace h := rn_ifn c1 h
      refine rn_icmp_ge_f 130 (by exact dc_Md_parse 62 rfl) (by exact rfl) c1 ?_
      refine rn_aload_n (by exact dc_Md_parse 63 rfl) (by exact rfl) ?_
      refine rn_getf (v := .ref 63) fd_Md_38 (by exact dc_Md_parse 64 rfl) (by exact rfl) (by exact rfl) ?_
      refine rn_iload_n (by exact dc_Md_parse 65 rfl) (by exact rfl) ?_
      refine rn_aload_n (by exact dc_Md_parse 66 rfl) (by exact rfl) ?_
      refine rn_getf (v := .ref 54) fd_Md_7 (by exact dc_Md_parse 67 rfl) (by exact rfl) (by exact rfl) ?_
      refine rn_iload_n (by exact dc_Md_parse 68 rfl) (by exact rfl) ?_
      obtain ⟨x2, e3, h4⟩ := rn_bind h
      clear h
      refine rn_iaload (by exact dc_Md_parse 69 rfl) (by exact rfl) e3 ?_
      obtain ⟨f5, e6, h7⟩ := rn_bind h4
      clear h4
      refine rn_iastore (w2 := (emb g1 g2 x d c u t a b (M_put_text m f5) o E)) (by exact dc_Md_parse 70 rfl) (by exact rfl) e6 (by exact sm_text) ?_
      refine rn_iinc (ls' := [some (.ref 53), some (.int l1), none, some (.int (l3 + 1)), none]) (by exact dc_Md_parse 71 rfl) (by decide) (by exact rfl) (by exact rn_inc_1 _) (by exact rfl) ?_
      refine rn_goto 107 (by exact dc_Md_parse 72 rfl) (by exact rfl) ?_
      exact rn_weak _ (by repeat (first | exact rn_le_0 | apply rn_le_s | apply rn_le_x)) (ih _ _ h7)
def F_Md_parse_L140 (l1 : Int32) (l3 : Int32) : Nat → tM → Int32 → Option tM
  | 0, _, _ => none
  | n + 1, m, l4 =>
    if l1 < (l4 + l3) then (
      some m
    ) else (
      Option.bind (F_Md_fillPart m l4 (l4 + l3)) fun m3 =>
      F_Md_parse_L140 l1 l3 n m3 (l4 + 1)
    )
set_option maxHeartbeats 4000000 in
set_option maxRecDepth 100000 in
theorem p_Md_parse_L140 {Z : rn_Z} {g1 g2 : Nat} {x : tX} {d : tD} {c : tC} {u : tU} {t : tT} {a : tG} {b : tG}  {o : tO} {E : List rn_C}  {l1 : Int32} {l3 : Int32} {K : rn_K} {ca sa : Nat} {mz : tM} (hx : Rn Z M_Md_parse 164 [some (.ref 53), some (.int l1), none, some (.int l3), none] [] (emb g1 g2 x d c u t a b mz o E) ca sa K) (n : Nat) : ∀ (m : tM) (l4 : Int32), F_Md_parse_L140 l1 l3 n m l4 = some mz → Rn Z M_Md_parse 140 [some (.ref 53), some (.int l1), none, some (.int l3), some (.int l4)] [] (emb g1 g2 x d c u t a b m o E) ca sa K := by
  induction n with
  | zero =>
    intro m l4 h
    rw [F_Md_parse_L140] at h
    cases h
  | succ n ih =>
    intro m l4 h
    rw [F_Md_parse_L140] at h
    refine rn_iload (by exact dc_Md_parse 80 rfl) (by exact rfl) ?_
    refine rn_iload_n (by exact dc_Md_parse 81 rfl) (by exact rfl) ?_
    refine rn_iadd (by exact dc_Md_parse 82 rfl) ?_
    refine rn_iload_n (by exact dc_Md_parse 83 rfl) (by exact rfl) ?_
    by_cases c1 : l1 < (l4 + l3)
    · replace h := rn_ifp c1 h
      refine rn_icmp_gt_t 164 (by exact dc_Md_parse 84 rfl) (by exact rfl) c1 ?_
      cases h
      exact rn_weak _ (by repeat (first | exact rn_le_0 | apply rn_le_s | apply rn_le_x)) hx
    · replace h := rn_ifn c1 h
      refine rn_icmp_gt_f 164 (by exact dc_Md_parse 84 rfl) (by exact rfl) c1 ?_
      refine rn_aload_n (by exact dc_Md_parse 85 rfl) (by exact rfl) ?_
      refine rn_iload (by exact dc_Md_parse 86 rfl) (by exact rfl) ?_
      refine rn_iload (by exact dc_Md_parse 87 rfl) (by exact rfl) ?_
      refine rn_iload_n (by exact dc_Md_parse 88 rfl) (by exact rfl) ?_
      refine rn_iadd (by exact dc_Md_parse 89 rfl) ?_
      obtain ⟨m3, e2, h4⟩ := rn_bind h
      clear h
      refine rn_invV0 (by exact c_Md_fillPart e2) iv_Md_201 (by exact ⟨Nat.le_of_ble_eq_true rfl, Nat.le_of_ble_eq_true rfl⟩) (by exact dc_Md_parse 90 rfl) (by exact rfl) (by exact rfl) (by exact rfl) (by exact Nat.le_of_ble_eq_true rfl) ?_
      show Rn _ _ 158 [some (.ref 53), some (.int l1), none, some (.int l3), some (.int l4)] [] (emb g1 g2 x d c u t a b m3 o E) _ _ _
      refine rn_iinc (ls' := [some (.ref 53), some (.int l1), none, some (.int l3), some (.int (l4 + 1))]) (by exact dc_Md_parse 91 rfl) (by decide) (by exact rfl) (by exact rn_inc_1 _) (by exact rfl) ?_
      refine rn_goto 140 (by exact dc_Md_parse 92 rfl) (by exact rfl) ?_
      exact rn_weak _ (by repeat (first | exact rn_le_0 | apply rn_le_s | apply rn_le_x)) (ih _ _ h4)
def F_Md_parse_L132 (l1 : Int32) : Nat → tM → Int32 → Option tM
  | 0, _, _ => none
  | n + 1, m, l3 =>
    if l1 < l3 then (
      some m
    ) else (
      Option.bind (F_Md_parse_L140 l1 l3 rn_fu m (0 : Int32)) fun m5 =>
      F_Md_parse_L132 l1 n m5 (l3 + 1)
    )
set_option maxHeartbeats 4000000 in
set_option maxRecDepth 100000 in
theorem p_Md_parse_L132 {Z : rn_Z} {g1 g2 : Nat} {x : tX} {d : tD} {c : tC} {u : tU} {t : tT} {a : tG} {b : tG}  {o : tO} {E : List rn_C}  {l1 : Int32} {K : rn_K} {ca sa : Nat} {mz : tM} (hx : Rn Z M_Md_parse 170 [some (.ref 53), some (.int l1), none, none, none] [] (emb g1 g2 x d c u t a b mz o E) ca sa K) (n : Nat) : ∀ (m : tM) (l3 : Int32), F_Md_parse_L132 l1 n m l3 = some mz → Rn Z M_Md_parse 132 [some (.ref 53), some (.int l1), none, some (.int l3), none] [] (emb g1 g2 x d c u t a b m o E) ca sa K := by
  induction n with
  | zero =>
    intro m l3 h
    rw [F_Md_parse_L132] at h
    cases h
  | succ n ih =>
    intro m l3 h
    rw [F_Md_parse_L132] at h
    refine rn_iload_n (by exact dc_Md_parse 75 rfl) (by exact rfl) ?_
    refine rn_iload_n (by exact dc_Md_parse 76 rfl) (by exact rfl) ?_
    by_cases c1 : l1 < l3
    · replace h := rn_ifp c1 h
      refine rn_icmp_gt_t 170 (by exact dc_Md_parse 77 rfl) (by exact rfl) c1 ?_
      cases h
      exact rn_weak _ (by repeat (first | exact rn_le_0 | apply rn_le_s | apply rn_le_x)) hx
    · replace h := rn_ifn c1 h
      refine rn_icmp_gt_f 170 (by exact dc_Md_parse 77 rfl) (by exact rfl) c1 ?_
      refine rn_iconst (v := (0 : Int32)) (by exact dc_Md_parse 78 rfl) (by decide) ?_
      refine rn_istore (ls' := [some (.ref 53), some (.int l1), none, some (.int l3), some (.int (0 : Int32))]) (by exact dc_Md_parse 79 rfl) (by decide) (by exact rfl) ?_
      obtain ⟨m5, e2, h4⟩ := rn_bind h
      clear h
      have jx3 : Rn Z M_Md_parse 164 [some (.ref 53), some (.int l1), none, some (.int l3), none] [] (emb g1 g2 x d c u t a b m5 o E) ca sa K := by
        refine rn_iinc (ls' := [some (.ref 53), some (.int l1), none, some (.int (l3 + 1)), none]) (by exact dc_Md_parse 93 rfl) (by decide) (by exact rfl) (by exact rn_inc_1 _) (by exact rfl) ?_
        refine rn_goto 132 (by exact dc_Md_parse 94 rfl) (by exact rfl) ?_
        exact rn_weak _ (by repeat (first | exact rn_le_0 | apply rn_le_s | apply rn_le_x)) (ih _ _ h4)
      exact rn_weak _ (by repeat (first | exact rn_le_0 | apply rn_le_s | apply rn_le_x)) (p_Md_parse_L140 jx3 _ _ _ e2)
def F_Md_parse (m : tM)  : Option (Int32 × tM) :=
  Option.bind (
    if (8 : Int32) < (M_size m) then (
      some (0 : Int32)
    ) else (
      some (1 : Int32)
    )
   : Option Int32) fun y1 =>
  Option.bind (F_Md_parse_L24 (M_put_size m (0 : Int32)) (M_size m) rn_fu y1 (0 : Int32)) fun y9 =>
  Option.bind (
    if ¬ y9 = 0 then (
      if ¬ (M_loaded (M_put_size m (0 : Int32))) = 0 then (
        some (0 : Int32)
      ) else (
        some (2 : Int32)
      )
    ) else (
      some (1 : Int32)
    )
   : Option Int32) fun y10 =>
  if (M_code (M_put_code (M_put_size m (0 : Int32)) y10)) ≤ 0 then (
    Option.bind (F_Md_parse_L107 (M_size m) rn_fu (M_put_letters (M_put_nodes (M_put_hasText (M_put_code (M_put_size m (0 : Int32)) y10) (1 : Int32)) (0 : Int32)) (M_size m)) (0 : Int32)) fun m20 =>
    Option.bind (F_Md_parse_L132 (M_size m) rn_fu m20 (1 : Int32)) fun m24 =>
    Option.bind (F_Md_costOf m24 (0 : Int32) (0 : Int32) (M_size m)) fun x26 =>
    Option.bind (
      if x26 < 0 then (
        some (0 : Int32)
      ) else (
        some (1 : Int32)
      )
     : Option Int32) fun y28 =>
    Option.bind (rn_bl y28) fun y33 =>
    some (y33, m24)
  ) else (
    some ((0 : Int32), (M_put_code (M_put_size m (0 : Int32)) y10))
  )
set_option maxHeartbeats 4000000 in
set_option maxRecDepth 100000 in
theorem c_Md_parse {Z : rn_Z} {g1 g2 : Nat} {x : tX} {d : tD} {c : tC} {u : tU} {t : tT} {a : tG} {b : tG} {m : tM} {o : tO} {E : List rn_C}  {res : Int32} {m_r : tM} (h : F_Md_parse m  = some (res, m_r)) : Call Z M_Md_parse [.ref 53] (emb g1 g2 x d c u t a b m o E) 0 0 (some (.int res)) (emb g1 g2 x d c u t a b m_r o E) := by
  unfold F_Md_parse at h
  refine rn_call (by decide) 4 (by exact Nat.le_of_ble_eq_true rfl) ?_
  show Rn Z M_Md_parse 0 [some (.ref 53), none, none, none, none] [] (emb g1 g2 x d c u t a b m o E) 0 0 _
  refine rn_aload_n (by exact dc_Md_parse 0 rfl) (by exact rfl) ?_
  refine rn_getf (v := .int (M_size m)) fd_Md_81 (by exact dc_Md_parse 1 rfl) (by exact rfl) (by exact rfl) ?_
  refine rn_istore_n (ls' := [some (.ref 53), some (.int (M_size m)), none, none, none]) (by exact dc_Md_parse 2 rfl) (by decide) (by exact rfl) ?_
  refine rn_aload_n (by exact dc_Md_parse 3 rfl) (by exact rfl) ?_
  refine rn_iconst (v := (0 : Int32)) (by exact dc_Md_parse 4 rfl) (by decide) ?_
  refine rn_putf (w2 := (emb g1 g2 x d c u t a b (M_put_size m (0 : Int32)) o E)) fd_Md_81 (by exact dc_Md_parse 5 rfl) (by exact rfl) (by exact rfl) (by exact Nat.le_of_ble_eq_true rfl) (by exact sm_size) ?_
  refine rn_iload_n (by exact dc_Md_parse 6 rfl) (by exact rfl) ?_
  refine rn_bipush (v := (8 : Int32)) (by exact dc_Md_parse 7 rfl) (by decide) ?_
  obtain ⟨y1, e2, h4⟩ := rn_bind h
  clear h
  have jq3 : Rn Z M_Md_parse 21 [some (.ref 53), some (.int (M_size m)), none, none, none] [.int y1] (emb g1 g2 x d c u t a b (M_put_size m (0 : Int32)) o E) 0 0 (rn_Ret Z (some (.int res)) (emb g1 g2 x d c u t a b m_r o E)) := by
    refine rn_istore_n (ls' := [some (.ref 53), some (.int (M_size m)), some (.int y1), none, none]) (by exact dc_Md_parse 12 rfl) (by decide) (by exact rfl) ?_
    refine rn_iconst (v := (0 : Int32)) (by exact dc_Md_parse 13 rfl) (by decide) ?_
    refine rn_istore_n (ls' := [some (.ref 53), some (.int (M_size m)), some (.int y1), some (.int (0 : Int32)), none]) (by exact dc_Md_parse 14 rfl) (by decide) (by exact rfl) ?_
    obtain ⟨y9, e6, h8⟩ := rn_bind h4
    clear h4
    have jx7 : Rn Z M_Md_parse 57 [some (.ref 53), some (.int (M_size m)), some (.int y9), none, none] [] (emb g1 g2 x d c u t a b (M_put_size m (0 : Int32)) o E) 0 0 (rn_Ret Z (some (.int res)) (emb g1 g2 x d c u t a b m_r o E)) := by
      refine rn_aload_n (by exact dc_Md_parse 32 rfl) (by exact rfl) ?_
      refine rn_iload_n (by exact dc_Md_parse 33 rfl) (by exact rfl) ?_
      obtain ⟨y10, e11, h13⟩ := rn_bind h8
      clear h8
      have jq12 : Rn Z M_Md_parse 78 [some (.ref 53), some (.int (M_size m)), none, none, none] [.int y10, .ref 53] (emb g1 g2 x d c u t a b (M_put_size m (0 : Int32)) o E) 0 0 (rn_Ret Z (some (.int res)) (emb g1 g2 x d c u t a b m_r o E)) := by
        refine rn_putf (w2 := (emb g1 g2 x d c u t a b (M_put_code (M_put_size m (0 : Int32)) y10) o E)) fd_Md_77 (by exact dc_Md_parse 43 rfl) (by exact rfl) (by exact rfl) (by exact Nat.le_of_ble_eq_true rfl) (by exact sm_code) ?_
        refine rn_aload_n (by exact dc_Md_parse 44 rfl) (by exact rfl) ?_
        refine rn_getf (v := .int (M_code (M_put_code (M_put_size m (0 : Int32)) y10))) fd_Md_77 (by exact dc_Md_parse 45 rfl) (by exact rfl) (by exact rfl) ?_
        by_cases c16 : (M_code (M_put_code (M_put_size m (0 : Int32)) y10)) ≤ 0
        · replace h13 := rn_ifp c16 h13
          refine rn_if_le_t 90 (by exact dc_Md_parse 46 rfl) (by exact rfl) c16 ?_
          refine rn_aload_n (by exact dc_Md_parse 49 rfl) (by exact rfl) ?_
          refine rn_iconst (v := (1 : Int32)) (by exact dc_Md_parse 50 rfl) (by decide) ?_
          refine rn_putf (w2 := (emb g1 g2 x d c u t a b (M_put_hasText (M_put_code (M_put_size m (0 : Int32)) y10) (1 : Int32)) o E)) fd_Md_172 (by exact dc_Md_parse 51 rfl) (by exact rfl) (by exact rfl) (by exact Nat.le_of_ble_eq_true rfl) (by exact sm_hasText) ?_
          refine rn_aload_n (by exact dc_Md_parse 52 rfl) (by exact rfl) ?_
          refine rn_iconst (v := (0 : Int32)) (by exact dc_Md_parse 53 rfl) (by decide) ?_
          refine rn_putf (w2 := (emb g1 g2 x d c u t a b (M_put_nodes (M_put_hasText (M_put_code (M_put_size m (0 : Int32)) y10) (1 : Int32)) (0 : Int32)) o E)) fd_Md_175 (by exact dc_Md_parse 54 rfl) (by exact rfl) (by exact rfl) (by exact Nat.le_of_ble_eq_true rfl) (by exact sm_nodes) ?_
          refine rn_aload_n (by exact dc_Md_parse 55 rfl) (by exact rfl) ?_
          refine rn_iload_n (by exact dc_Md_parse 56 rfl) (by exact rfl) ?_
          refine rn_putf (w2 := (emb g1 g2 x d c u t a b (M_put_letters (M_put_nodes (M_put_hasText (M_put_code (M_put_size m (0 : Int32)) y10) (1 : Int32)) (0 : Int32)) (M_size m)) o E)) fd_Md_198 (by exact dc_Md_parse 57 rfl) (by exact rfl) (by exact rfl) (by exact Nat.le_of_ble_eq_true rfl) (by exact sm_letters) ?_
          refine rn_iconst (v := (0 : Int32)) (by exact dc_Md_parse 58 rfl) (by decide) ?_
          refine rn_istore_n (ls' := [some (.ref 53), some (.int (M_size m)), none, some (.int (0 : Int32)), none]) (by exact dc_Md_parse 59 rfl) (by decide) (by exact rfl) ?_
          obtain ⟨m20, e17, h19⟩ := rn_bind h13
          clear h13
          have jx18 : Rn Z M_Md_parse 130 [some (.ref 53), some (.int (M_size m)), none, none, none] [] (emb g1 g2 x d c u t a b m20 o E) 0 0 (rn_Ret Z (some (.int res)) (emb g1 g2 x d c u t a b m_r o E)) := by
            refine rn_iconst (v := (1 : Int32)) (by exact dc_Md_parse 73 rfl) (by decide) ?_
            refine rn_istore_n (ls' := [some (.ref 53), some (.int (M_size m)), none, some (.int (1 : Int32)), none]) (by exact dc_Md_parse 74 rfl) (by decide) (by exact rfl) ?_
            obtain ⟨m24, e21, h23⟩ := rn_bind h19
            clear h19
            have jx22 : Rn Z M_Md_parse 170 [some (.ref 53), some (.int (M_size m)), none, none, none] [] (emb g1 g2 x d c u t a b m24 o E) 0 0 (rn_Ret Z (some (.int res)) (emb g1 g2 x d c u t a b m_r o E)) := by
              refine rn_aload_n (by exact dc_Md_parse 95 rfl) (by exact rfl) ?_
              refine rn_iconst (v := (0 : Int32)) (by exact dc_Md_parse 96 rfl) (by decide) ?_
              refine rn_iconst (v := (0 : Int32)) (by exact dc_Md_parse 97 rfl) (by decide) ?_
              refine rn_iload_n (by exact dc_Md_parse 98 rfl) (by exact rfl) ?_
              obtain ⟨x26, e25, h27⟩ := rn_bind h23
              clear h23
              refine rn_invV0 (by exact c_Md_costOf e25) iv_Md_189 (by exact ⟨Nat.le_of_ble_eq_true rfl, Nat.le_of_ble_eq_true rfl⟩) (by exact dc_Md_parse 99 rfl) (by exact rfl) (by exact rfl) (by exact rfl) (by exact Nat.le_of_ble_eq_true rfl) ?_
              show Rn _ _ 177 [some (.ref 53), some (.int (M_size m)), none, none, none] [.int x26] (emb g1 g2 x d c u t a b m24 o E) _ _ _
              obtain ⟨y28, e29, h31⟩ := rn_bind h27
              clear h27
              have jq30 : Rn Z M_Md_parse 185 [none, none, none, none, none] [.int y28] (emb g1 g2 x d c u t a b m24 o E) 0 0 (rn_Ret Z (some (.int res)) (emb g1 g2 x d c u t a b m_r o E)) := by
                obtain ⟨y33, e34, h36⟩ := rn_bind h31
                clear h31
                obtain ⟨rfl, hb35⟩ := rn_bl_some e34
                cases h36
                exact rn_zreturn (by exact dc_Md_parse 104 rfl) (by exact rfl) hb35
              by_cases c32 : x26 < 0
              · replace e29 := rn_ifp c32 e29
                refine rn_if_lt_t 184 (by exact dc_Md_parse 100 rfl) (by exact rfl) c32 ?_
                refine rn_iconst (v := (0 : Int32)) (by exact dc_Md_parse 103 rfl) (by decide) ?_
                cases e29
                exact rn_weak _ (by repeat (first | exact rn_le_0 | apply rn_le_s | apply rn_le_x)) jq30
              · replace e29 := rn_ifn c32 e29
                refine rn_if_lt_f 184 (by exact dc_Md_parse 100 rfl) (by exact rfl) c32 ?_
                refine rn_iconst (v := (1 : Int32)) (by exact dc_Md_parse 101 rfl) (by decide) ?_
                refine rn_goto 185 (by exact dc_Md_parse 102 rfl) (by exact rfl) ?_
                cases e29
                exact rn_weak _ (by repeat (first | exact rn_le_0 | apply rn_le_s | apply rn_le_x)) jq30
            exact rn_weak _ (by repeat (first | exact rn_le_0 | apply rn_le_s | apply rn_le_x)) (p_Md_parse_L132 jx22 _ _ _ e21)
          exact rn_weak _ (by repeat (first | exact rn_le_0 | apply rn_le_s | apply rn_le_x)) (p_Md_parse_L107 jx18 _ _ _ e17)
        · replace h13 := rn_ifn c16 h13
          refine rn_if_le_f 90 (by exact dc_Md_parse 46 rfl) (by exact rfl) c16 ?_
          refine rn_iconst (v := (0 : Int32)) (by exact dc_Md_parse 47 rfl) (by decide) ?_
          cases h13
          exact rn_zreturn (by exact dc_Md_parse 48 rfl) (by exact rfl) (by first | exact Or.inl rfl | exact Or.inr rfl)
      by_cases c14 : ¬ y9 = 0
      · replace e11 := rn_ifp c14 e11
        refine rn_if_ne_t 66 (by exact dc_Md_parse 34 rfl) (by exact rfl) c14 ?_
        refine rn_aload_n (by exact dc_Md_parse 37 rfl) (by exact rfl) ?_
        refine rn_getf (v := .int (M_loaded (M_put_size m (0 : Int32)))) fd_Md_168 (by exact dc_Md_parse 38 rfl) (by exact rfl) (by exact rfl) ?_
        by_cases c15 : ¬ (M_loaded (M_put_size m (0 : Int32))) = 0
        · replace e11 := rn_ifp c15 e11
          refine rn_if_ne_t 77 (by exact dc_Md_parse 39 rfl) (by exact rfl) c15 ?_
          refine rn_iconst (v := (0 : Int32)) (by exact dc_Md_parse 42 rfl) (by decide) ?_
          cases e11
          exact rn_weak _ (by repeat (first | exact rn_le_0 | apply rn_le_s | apply rn_le_x)) jq12
        · replace e11 := rn_ifn c15 e11
          refine rn_if_ne_f 77 (by exact dc_Md_parse 39 rfl) (by exact rfl) (Classical.not_not.mp c15) ?_
          refine rn_iconst (v := (2 : Int32)) (by exact dc_Md_parse 40 rfl) (by decide) ?_
          refine rn_goto 78 (by exact dc_Md_parse 41 rfl) (by exact rfl) ?_
          cases e11
          exact rn_weak _ (by repeat (first | exact rn_le_0 | apply rn_le_s | apply rn_le_x)) jq12
      · replace e11 := rn_ifn c14 e11
        refine rn_if_ne_f 66 (by exact dc_Md_parse 34 rfl) (by exact rfl) (Classical.not_not.mp c14) ?_
        refine rn_iconst (v := (1 : Int32)) (by exact dc_Md_parse 35 rfl) (by decide) ?_
        refine rn_goto 78 (by exact dc_Md_parse 36 rfl) (by exact rfl) ?_
        cases e11
        exact rn_weak _ (by repeat (first | exact rn_le_0 | apply rn_le_s | apply rn_le_x)) jq12
    exact rn_weak _ (by repeat (first | exact rn_le_0 | apply rn_le_s | apply rn_le_x)) (p_Md_parse_L24 jx7 _ _ _ e6)
  by_cases c5 : (8 : Int32) < (M_size m)
  · replace e2 := rn_ifp c5 e2
    refine rn_icmp_gt_t 20 (by exact dc_Md_parse 8 rfl) (by exact rfl) c5 ?_
    refine rn_iconst (v := (0 : Int32)) (by exact dc_Md_parse 11 rfl) (by decide) ?_
    cases e2
    exact rn_weak _ (by repeat (first | exact rn_le_0 | apply rn_le_s | apply rn_le_x)) jq3
  · replace e2 := rn_ifn c5 e2
    refine rn_icmp_gt_f 20 (by exact dc_Md_parse 8 rfl) (by exact rfl) c5 ?_
    refine rn_iconst (v := (1 : Int32)) (by exact dc_Md_parse 9 rfl) (by decide) ?_
    refine rn_goto 21 (by exact dc_Md_parse 10 rfl) (by exact rfl) ?_
    cases e2
    exact rn_weak _ (by repeat (first | exact rn_le_0 | apply rn_le_s | apply rn_le_x)) jq3
def F_Md_ruleFor_L6 (l1 : Int32) (l2 : Int32) (l3 : Int32) : Nat → tM → Int32 → Int32 → Option (Int32 × tM)
  | 0, _, _, _ => none
  | n + 1, m, l4, l5 =>
    if ¬ l5 = 0 then (
      some (l4, m)
    ) else (
      Option.bind (aG (M_heads m) 12 l4) fun x2 =>
      Option.bind (
        if ¬ x2 = l1 then (
          some ((-1 : Int32), m)
        ) else (
          Option.bind (F_Md_bodyCost m l4 l2 l3) fun (x12, m13) =>
          some ((x12 : Int32), m13)
        )
       : Option (Int32 × tM)) fun (y5, m6) =>
      Option.bind (
        if y5 < 0 then (
          some (0 : Int32)
        ) else (
          Option.bind (aG (M_costs m6) 12 l4) fun x20 =>
          Option.bind (F_Md_costOf m6 l1 l2 l3) fun x24 =>
          if ¬ (y5 + x20) = x24 then (
            some (0 : Int32)
          ) else (
            some (1 : Int32)
          )
        )
       : Option Int32) fun y15 =>
      Option.bind (
        if y15 = 0 then (
          some (l4 + (1 : Int32) : Int32)
        ) else (
          some (l4 : Int32)
        )
       : Option Int32) fun y27 =>
      F_Md_ruleFor_L6 l1 l2 l3 n m6 y27 y15
    )
set_option maxHeartbeats 4000000 in
set_option maxRecDepth 100000 in
theorem p_Md_ruleFor_L6 {Z : rn_Z} {g1 g2 : Nat} {x : tX} {d : tD} {c : tC} {u : tU} {t : tT} {a : tG} {b : tG}  {o : tO} {E : List rn_C}  {l1 : Int32} {l2 : Int32} {l3 : Int32} {K : rn_K} {ca sa : Nat} {z4 : Int32} {mz : tM} (hx : Rn Z M_Md_ruleFor 87 [none, none, none, none, some (.int z4), none, none] [] (emb g1 g2 x d c u t a b mz o E) ca sa K) (n : Nat) : ∀ (m : tM) (l4 : Int32) (l5 : Int32), F_Md_ruleFor_L6 l1 l2 l3 n m l4 l5 = some (z4, mz) → Rn Z M_Md_ruleFor 6 [some (.ref 53), some (.int l1), some (.int l2), some (.int l3), some (.int l4), some (.int l5), none] [] (emb g1 g2 x d c u t a b m o E) ca sa K := by
  induction n with
  | zero =>
    intro m l4 l5 h
    rw [F_Md_ruleFor_L6] at h
    cases h
  | succ n ih =>
    intro m l4 l5 h
    rw [F_Md_ruleFor_L6] at h
    refine rn_iload (by exact dc_Md_ruleFor 4 rfl) (by exact rfl) ?_
    by_cases c1 : ¬ l5 = 0
    · replace h := rn_ifp c1 h
      refine rn_if_ne_t 87 (by exact dc_Md_ruleFor 5 rfl) (by exact rfl) c1 ?_
      cases h
      exact rn_weak _ (by repeat (first | exact rn_le_0 | apply rn_le_s | apply rn_le_x)) hx
    · replace h := rn_ifn c1 h
      refine rn_if_ne_f 87 (by exact dc_Md_ruleFor 5 rfl) (by exact rfl) (Classical.not_not.mp c1) ?_
      refine rn_aload_n (by exact dc_Md_ruleFor 6 rfl) (by exact rfl) ?_
      refine rn_getf (v := .ref 57) fd_Md_19 (by exact dc_Md_ruleFor 7 rfl) (by exact rfl) (by exact rfl) ?_
      refine rn_iload (by exact dc_Md_ruleFor 8 rfl) (by exact rfl) ?_
      obtain ⟨x2, e3, h4⟩ := rn_bind h
      clear h
      refine rn_iaload (by exact dc_Md_ruleFor 9 rfl) (by exact rfl) e3 ?_
      refine rn_iload_n (by exact dc_Md_ruleFor 10 rfl) (by exact rfl) ?_
      obtain ⟨⟨y5, m6⟩, e7, h9⟩ := rn_bind h4
      clear h4
      dsimp only at h9
      have jq8 : Rn Z M_Md_ruleFor 34 [some (.ref 53), some (.int l1), some (.int l2), some (.int l3), some (.int l4), none, none] [.int y5] (emb g1 g2 x d c u t a b m6 o E) ca sa K := by
        refine rn_istore (ls' := [some (.ref 53), some (.int l1), some (.int l2), some (.int l3), some (.int l4), none, some (.int y5)]) (by exact dc_Md_ruleFor 19 rfl) (by decide) (by exact rfl) ?_
        refine rn_iload (by exact dc_Md_ruleFor 20 rfl) (by exact rfl) ?_
        obtain ⟨y15, e16, h18⟩ := rn_bind h9
        clear h9
        have jq17 : Rn Z M_Md_ruleFor 66 [some (.ref 53), some (.int l1), some (.int l2), some (.int l3), some (.int l4), none, none] [.int y15] (emb g1 g2 x d c u t a b m6 o E) ca sa K := by
          refine rn_istore (ls' := [some (.ref 53), some (.int l1), some (.int l2), some (.int l3), some (.int l4), some (.int y15), none]) (by exact dc_Md_ruleFor 37 rfl) (by decide) (by exact rfl) ?_
          refine rn_iload (by exact dc_Md_ruleFor 38 rfl) (by exact rfl) ?_
          obtain ⟨y27, e28, h30⟩ := rn_bind h18
          clear h18
          have jq29 : Rn Z M_Md_ruleFor 82 [some (.ref 53), some (.int l1), some (.int l2), some (.int l3), none, some (.int y15), none] [.int y27] (emb g1 g2 x d c u t a b m6 o E) ca sa K := by
            refine rn_istore (ls' := [some (.ref 53), some (.int l1), some (.int l2), some (.int l3), some (.int y27), some (.int y15), none]) (by exact dc_Md_ruleFor 45 rfl) (by decide) (by exact rfl) ?_
            refine rn_goto 6 (by exact dc_Md_ruleFor 46 rfl) (by exact rfl) ?_
            exact rn_weak _ (by repeat (first | exact rn_le_0 | apply rn_le_s | apply rn_le_x)) (ih _ _ _ h30)
          by_cases c31 : y15 = 0
          · replace e28 := rn_ifp c31 e28
            refine rn_if_eq_t 78 (by exact dc_Md_ruleFor 39 rfl) (by exact rfl) c31 ?_
            refine rn_iload (by exact dc_Md_ruleFor 42 rfl) (by exact rfl) ?_
            refine rn_iconst (v := (1 : Int32)) (by exact dc_Md_ruleFor 43 rfl) (by decide) ?_
            refine rn_iadd (by exact dc_Md_ruleFor 44 rfl) ?_
            cases e28
            exact rn_weak _ (by repeat (first | exact rn_le_0 | apply rn_le_s | apply rn_le_x)) jq29
          · replace e28 := rn_ifn c31 e28
            refine rn_if_eq_f 78 (by exact dc_Md_ruleFor 39 rfl) (by exact rfl) c31 ?_
            refine rn_iload (by exact dc_Md_ruleFor 40 rfl) (by exact rfl) ?_
            refine rn_goto 82 (by exact dc_Md_ruleFor 41 rfl) (by exact rfl) ?_
            cases e28
            exact rn_weak _ (by repeat (first | exact rn_le_0 | apply rn_le_s | apply rn_le_x)) jq29
        by_cases c19 : y5 < 0
        · replace e16 := rn_ifp c19 e16
          refine rn_if_lt_t 65 (by exact dc_Md_ruleFor 21 rfl) (by exact rfl) c19 ?_
          refine rn_iconst (v := (0 : Int32)) (by exact dc_Md_ruleFor 36 rfl) (by decide) ?_
          cases e16
          exact rn_weak _ (by repeat (first | exact rn_le_0 | apply rn_le_s | apply rn_le_x)) jq17
        · replace e16 := rn_ifn c19 e16
          refine rn_if_lt_f 65 (by exact dc_Md_ruleFor 21 rfl) (by exact rfl) c19 ?_
          refine rn_iload (by exact dc_Md_ruleFor 22 rfl) (by exact rfl) ?_
          refine rn_aload_n (by exact dc_Md_ruleFor 23 rfl) (by exact rfl) ?_
          refine rn_getf (v := .ref 61) fd_Md_32 (by exact dc_Md_ruleFor 24 rfl) (by exact rfl) (by exact rfl) ?_
          refine rn_iload (by exact dc_Md_ruleFor 25 rfl) (by exact rfl) ?_
          obtain ⟨x20, e21, h22⟩ := rn_bind e16
          clear e16
          refine rn_iaload (by exact dc_Md_ruleFor 26 rfl) (by exact rfl) e21 ?_
          refine rn_iadd (by exact dc_Md_ruleFor 27 rfl) ?_
          refine rn_aload_n (by exact dc_Md_ruleFor 28 rfl) (by exact rfl) ?_
          refine rn_iload_n (by exact dc_Md_ruleFor 29 rfl) (by exact rfl) ?_
          refine rn_iload_n (by exact dc_Md_ruleFor 30 rfl) (by exact rfl) ?_
          refine rn_iload_n (by exact dc_Md_ruleFor 31 rfl) (by exact rfl) ?_
          obtain ⟨x24, e23, h25⟩ := rn_bind h22
          clear h22
          refine rn_invV0 (by exact c_Md_costOf e23) iv_Md_189 (by exact ⟨Nat.le_of_ble_eq_true rfl, Nat.le_of_ble_eq_true rfl⟩) (by exact dc_Md_ruleFor 32 rfl) (by exact rfl) (by exact rfl) (by exact rfl) (by exact Nat.le_of_ble_eq_true rfl) ?_
          show Rn _ _ 58 [some (.ref 53), some (.int l1), some (.int l2), some (.int l3), some (.int l4), none, some (.int y5)] [.int x24, .int (y5 + x20)] (emb g1 g2 x d c u t a b m6 o E) _ _ _
          by_cases c26 : ¬ (y5 + x20) = x24
          · replace h25 := rn_ifp c26 h25
            refine rn_icmp_ne_t 65 (by exact dc_Md_ruleFor 33 rfl) (by exact rfl) c26 ?_
            refine rn_iconst (v := (0 : Int32)) (by exact dc_Md_ruleFor 36 rfl) (by decide) ?_
            cases h25
            exact rn_weak _ (by repeat (first | exact rn_le_0 | apply rn_le_s | apply rn_le_x)) jq17
          · replace h25 := rn_ifn c26 h25
            refine rn_icmp_ne_f 65 (by exact dc_Md_ruleFor 33 rfl) (by exact rfl) (Classical.not_not.mp c26) ?_
            refine rn_iconst (v := (1 : Int32)) (by exact dc_Md_ruleFor 34 rfl) (by decide) ?_
            refine rn_goto 66 (by exact dc_Md_ruleFor 35 rfl) (by exact rfl) ?_
            cases h25
            exact rn_weak _ (by repeat (first | exact rn_le_0 | apply rn_le_s | apply rn_le_x)) jq17
      by_cases c10 : ¬ x2 = l1
      · replace e7 := rn_ifp c10 e7
        refine rn_icmp_ne_t 33 (by exact dc_Md_ruleFor 11 rfl) (by exact rfl) c10 ?_
        refine rn_iconst (v := (-1 : Int32)) (by exact dc_Md_ruleFor 18 rfl) (by decide) ?_
        cases e7
        exact rn_weak _ (by repeat (first | exact rn_le_0 | apply rn_le_s | apply rn_le_x)) jq8
      · replace e7 := rn_ifn c10 e7
        refine rn_icmp_ne_f 33 (by exact dc_Md_ruleFor 11 rfl) (by exact rfl) (Classical.not_not.mp c10) ?_
        refine rn_aload_n (by exact dc_Md_ruleFor 12 rfl) (by exact rfl) ?_
        refine rn_iload (by exact dc_Md_ruleFor 13 rfl) (by exact rfl) ?_
        refine rn_iload_n (by exact dc_Md_ruleFor 14 rfl) (by exact rfl) ?_
        refine rn_iload_n (by exact dc_Md_ruleFor 15 rfl) (by exact rfl) ?_
        obtain ⟨⟨x12, m13⟩, e11, h14⟩ := rn_bind e7
        clear e7
        dsimp only at h14
        refine rn_invV0 (by exact c_Md_bodyCost e11) iv_Md_195 (by exact ⟨Nat.le_of_ble_eq_true rfl, Nat.le_of_ble_eq_true rfl⟩) (by exact dc_Md_ruleFor 16 rfl) (by exact rfl) (by exact rfl) (by exact rfl) (by exact Nat.le_of_ble_eq_true rfl) ?_
        show Rn _ _ 30 [some (.ref 53), some (.int l1), some (.int l2), some (.int l3), some (.int l4), some (.int l5), none] [.int x12] (emb g1 g2 x d c u t a b m13 o E) _ _ _
        refine rn_goto 34 (by exact dc_Md_ruleFor 17 rfl) (by exact rfl) ?_
        cases h14
        exact rn_weak _ (by repeat (first | exact rn_le_0 | apply rn_le_s | apply rn_le_x)) jq8
def F_Md_ruleFor (m : tM) (v0 : Int32) (v1 : Int32) (v2 : Int32) : Option (Int32 × tM) :=
  Option.bind (F_Md_ruleFor_L6 v0 v1 v2 rn_fu m (0 : Int32) (0 : Int32)) fun (y4, m5) =>
  some (y4, m5)
set_option maxHeartbeats 4000000 in
set_option maxRecDepth 100000 in
theorem c_Md_ruleFor {Z : rn_Z} {g1 g2 : Nat} {x : tX} {d : tD} {c : tC} {u : tU} {t : tT} {a : tG} {b : tG} {m : tM} {o : tO} {E : List rn_C} {v0 : Int32} {v1 : Int32} {v2 : Int32} {res : Int32} {m_r : tM} (h : F_Md_ruleFor m v0 v1 v2 = some (res, m_r)) : Call Z M_Md_ruleFor [.ref 53, .int v0, .int v1, .int v2] (emb g1 g2 x d c u t a b m o E) 0 0 (some (.int res)) (emb g1 g2 x d c u t a b m_r o E) := by
  unfold F_Md_ruleFor at h
  refine rn_call (by decide) 3 (by exact Nat.le_of_ble_eq_true rfl) ?_
  show Rn Z M_Md_ruleFor 0 [some (.ref 53), some (.int v0), some (.int v1), some (.int v2), none, none, none] [] (emb g1 g2 x d c u t a b m o E) 0 0 _
  refine rn_iconst (v := (0 : Int32)) (by exact dc_Md_ruleFor 0 rfl) (by decide) ?_
  refine rn_istore (ls' := [some (.ref 53), some (.int v0), some (.int v1), some (.int v2), some (.int (0 : Int32)), none, none]) (by exact dc_Md_ruleFor 1 rfl) (by decide) (by exact rfl) ?_
  refine rn_iconst (v := (0 : Int32)) (by exact dc_Md_ruleFor 2 rfl) (by decide) ?_
  refine rn_istore (ls' := [some (.ref 53), some (.int v0), some (.int v1), some (.int v2), some (.int (0 : Int32)), some (.int (0 : Int32)), none]) (by exact dc_Md_ruleFor 3 rfl) (by decide) (by exact rfl) ?_
  obtain ⟨⟨y4, m5⟩, e1, h3⟩ := rn_bind h
  clear h
  dsimp only at h3
  have jx2 : Rn Z M_Md_ruleFor 87 [none, none, none, none, some (.int y4), none, none] [] (emb g1 g2 x d c u t a b m5 o E) 0 0 (rn_Ret Z (some (.int res)) (emb g1 g2 x d c u t a b m_r o E)) := by
    refine rn_iload (by exact dc_Md_ruleFor 47 rfl) (by exact rfl) ?_
    cases h3
    exact rn_ireturn (by exact dc_Md_ruleFor 48 rfl) (by exact rfl)
  exact rn_weak _ (by repeat (first | exact rn_le_0 | apply rn_le_s | apply rn_le_x)) (p_Md_ruleFor_L6 jx2 _ _ _ _ e1)
def F_Md_defer (m : tM) (v0 : Int32) (v1 : Int32) (v2 : Int32) (v3 : Int32) : Option (Int32 × tM) :=
  Option.bind (aS (M_waits m) 1500 ((3 : Int32) * v0) v1) fun f1 =>
  Option.bind (aS (M_waits (M_put_waits m f1)) 1500 (((3 : Int32) * v0) + (1 : Int32)) v2) fun f4 =>
  Option.bind (aS (M_waits (M_put_waits (M_put_waits m f1) f4)) 1500 (((3 : Int32) * v0) + (2 : Int32)) v3) fun f7 =>
  some (v0 + (1 : Int32), (M_put_waits (M_put_waits (M_put_waits m f1) f4) f7))
set_option maxHeartbeats 4000000 in
set_option maxRecDepth 100000 in
theorem c_Md_defer {Z : rn_Z} {g1 g2 : Nat} {x : tX} {d : tD} {c : tC} {u : tU} {t : tT} {a : tG} {b : tG} {m : tM} {o : tO} {E : List rn_C} {v0 : Int32} {v1 : Int32} {v2 : Int32} {v3 : Int32} {res : Int32} {m_r : tM} (h : F_Md_defer m v0 v1 v2 v3 = some (res, m_r)) : Call Z M_Md_defer [.ref 53, .int v0, .int v1, .int v2, .int v3] (emb g1 g2 x d c u t a b m o E) 0 0 (some (.int res)) (emb g1 g2 x d c u t a b m_r o E) := by
  unfold F_Md_defer at h
  refine rn_call (by decide) 0 (by exact Nat.le_of_ble_eq_true rfl) ?_
  show Rn Z M_Md_defer 0 [some (.ref 53), some (.int v0), some (.int v1), some (.int v2), some (.int v3)] [] (emb g1 g2 x d c u t a b m o E) 0 0 _
  refine rn_aload_n (by exact dc_Md_defer 0 rfl) (by exact rfl) ?_
  refine rn_getf (v := .ref 75) fd_Md_74 (by exact dc_Md_defer 1 rfl) (by exact rfl) (by exact rfl) ?_
  refine rn_iconst (v := (3 : Int32)) (by exact dc_Md_defer 2 rfl) (by decide) ?_
  refine rn_iload_n (by exact dc_Md_defer 3 rfl) (by exact rfl) ?_
  refine rn_imul (by exact dc_Md_defer 4 rfl) ?_
  refine rn_iload_n (by exact dc_Md_defer 5 rfl) (by exact rfl) ?_
  obtain ⟨f1, e2, h3⟩ := rn_bind h
  clear h
  refine rn_iastore (w2 := (emb g1 g2 x d c u t a b (M_put_waits m f1) o E)) (by exact dc_Md_defer 6 rfl) (by exact rfl) e2 (by exact sm_waits) ?_
  refine rn_aload_n (by exact dc_Md_defer 7 rfl) (by exact rfl) ?_
  refine rn_getf (v := .ref 75) fd_Md_74 (by exact dc_Md_defer 8 rfl) (by exact rfl) (by exact rfl) ?_
  refine rn_iconst (v := (3 : Int32)) (by exact dc_Md_defer 9 rfl) (by decide) ?_
  refine rn_iload_n (by exact dc_Md_defer 10 rfl) (by exact rfl) ?_
  refine rn_imul (by exact dc_Md_defer 11 rfl) ?_
  refine rn_iconst (v := (1 : Int32)) (by exact dc_Md_defer 12 rfl) (by decide) ?_
  refine rn_iadd (by exact dc_Md_defer 13 rfl) ?_
  refine rn_iload_n (by exact dc_Md_defer 14 rfl) (by exact rfl) ?_
  obtain ⟨f4, e5, h6⟩ := rn_bind h3
  clear h3
  refine rn_iastore (w2 := (emb g1 g2 x d c u t a b (M_put_waits (M_put_waits m f1) f4) o E)) (by exact dc_Md_defer 15 rfl) (by exact rfl) e5 (by exact sm_waits) ?_
  refine rn_aload_n (by exact dc_Md_defer 16 rfl) (by exact rfl) ?_
  refine rn_getf (v := .ref 75) fd_Md_74 (by exact dc_Md_defer 17 rfl) (by exact rfl) (by exact rfl) ?_
  refine rn_iconst (v := (3 : Int32)) (by exact dc_Md_defer 18 rfl) (by decide) ?_
  refine rn_iload_n (by exact dc_Md_defer 19 rfl) (by exact rfl) ?_
  refine rn_imul (by exact dc_Md_defer 20 rfl) ?_
  refine rn_iconst (v := (2 : Int32)) (by exact dc_Md_defer 21 rfl) (by decide) ?_
  refine rn_iadd (by exact dc_Md_defer 22 rfl) ?_
  refine rn_iload (by exact dc_Md_defer 23 rfl) (by exact rfl) ?_
  obtain ⟨f7, e8, h9⟩ := rn_bind h6
  clear h6
  refine rn_iastore (w2 := (emb g1 g2 x d c u t a b (M_put_waits (M_put_waits (M_put_waits m f1) f4) f7) o E)) (by exact dc_Md_defer 24 rfl) (by exact rfl) e8 (by exact sm_waits) ?_
  refine rn_iload_n (by exact dc_Md_defer 25 rfl) (by exact rfl) ?_
  refine rn_iconst (v := (1 : Int32)) (by exact dc_Md_defer 26 rfl) (by decide) ?_
  refine rn_iadd (by exact dc_Md_defer 27 rfl) ?_
  cases h9
  exact rn_ireturn (by exact dc_Md_defer 28 rfl) (by exact rfl)
def F_Md_turnOver_L25 (l1 : Int32) (l2 : Int32) (l3 : Int32) (l4 : Int32) : Nat → tM → Int32 → Option tM
  | 0, _, _ => none
  | n + 1, m, l5 =>
    if (3 : Int32) ≤ l5 then (
      some m
    ) else (
      Option.bind (aG (M_waits m) 1500 (((3 : Int32) * l3) + l5)) fun x2 =>
      Option.bind (aG (M_waits m) 1500 (((3 : Int32) * l4) + l5)) fun x5 =>
      Option.bind (aS (M_waits m) 1500 (((3 : Int32) * l3) + l5) x5) fun f8 =>
      Option.bind (aS (M_waits (M_put_waits m f8)) 1500 (((3 : Int32) * l4) + l5) x2) fun f11 =>
      F_Md_turnOver_L25 l1 l2 l3 l4 n (M_put_waits (M_put_waits m f8) f11) (l5 + 1)
    )
set_option maxHeartbeats 4000000 in
set_option maxRecDepth 100000 in
theorem p_Md_turnOver_L25 {Z : rn_Z} {g1 g2 : Nat} {x : tX} {d : tD} {c : tC} {u : tU} {t : tT} {a : tG} {b : tG}  {o : tO} {E : List rn_C}  {l1 : Int32} {l2 : Int32} {l3 : Int32} {l4 : Int32} {K : rn_K} {ca sa : Nat} {mz : tM} (hx : Rn Z M_Md_turnOver 87 [some (.ref 53), some (.int l1), some (.int l2), some (.int l3), none, none, none] [] (emb g1 g2 x d c u t a b mz o E) ca sa K) (n : Nat) : ∀ (m : tM) (l5 : Int32), F_Md_turnOver_L25 l1 l2 l3 l4 n m l5 = some mz → Rn Z M_Md_turnOver 25 [some (.ref 53), some (.int l1), some (.int l2), some (.int l3), some (.int l4), some (.int l5), none] [] (emb g1 g2 x d c u t a b m o E) ca sa K := by
  induction n with
  | zero =>
    intro m l5 h
    rw [F_Md_turnOver_L25] at h
    cases h
  | succ n ih =>
    intro m l5 h
    rw [F_Md_turnOver_L25] at h
    refine rn_iload (by exact dc_Md_turnOver 21 rfl) (by exact rfl) ?_
    refine rn_iconst (v := (3 : Int32)) (by exact dc_Md_turnOver 22 rfl) (by decide) ?_
    by_cases c1 : (3 : Int32) ≤ l5
    · replace h := rn_ifp c1 h
      refine rn_icmp_ge_t 87 (by exact dc_Md_turnOver 23 rfl) (by exact rfl) c1 ?_
      cases h
      exact rn_weak _ (by repeat (first | exact rn_le_0 | apply rn_le_s | apply rn_le_x)) hx
    · replace h := rn_ifn c1 h
      refine rn_icmp_ge_f 87 (by exact dc_Md_turnOver 23 rfl) (by exact rfl) c1 ?_
      refine rn_aload_n (by exact dc_Md_turnOver 24 rfl) (by exact rfl) ?_
      refine rn_getf (v := .ref 75) fd_Md_74 (by exact dc_Md_turnOver 25 rfl) (by exact rfl) (by exact rfl) ?_
      refine rn_iconst (v := (3 : Int32)) (by exact dc_Md_turnOver 26 rfl) (by decide) ?_
      refine rn_iload_n (by exact dc_Md_turnOver 27 rfl) (by exact rfl) ?_
      refine rn_imul (by exact dc_Md_turnOver 28 rfl) ?_
      refine rn_iload (by exact dc_Md_turnOver 29 rfl) (by exact rfl) ?_
      refine rn_iadd (by exact dc_Md_turnOver 30 rfl) ?_
      obtain ⟨x2, e3, h4⟩ := rn_bind h
      clear h
      refine rn_iaload (by exact dc_Md_turnOver 31 rfl) (by exact rfl) e3 ?_
      refine rn_istore (ls' := [some (.ref 53), some (.int l1), some (.int l2), some (.int l3), some (.int l4), some (.int l5), some (.int x2)]) (by exact dc_Md_turnOver 32 rfl) (by decide) (by exact rfl) ?_
      refine rn_aload_n (by exact dc_Md_turnOver 33 rfl) (by exact rfl) ?_
      refine rn_getf (v := .ref 75) fd_Md_74 (by exact dc_Md_turnOver 34 rfl) (by exact rfl) (by exact rfl) ?_
      refine rn_iconst (v := (3 : Int32)) (by exact dc_Md_turnOver 35 rfl) (by decide) ?_
      refine rn_iload_n (by exact dc_Md_turnOver 36 rfl) (by exact rfl) ?_
      refine rn_imul (by exact dc_Md_turnOver 37 rfl) ?_
      refine rn_iload (by exact dc_Md_turnOver 38 rfl) (by exact rfl) ?_
      refine rn_iadd (by exact dc_Md_turnOver 39 rfl) ?_
      refine rn_aload_n (by exact dc_Md_turnOver 40 rfl) (by exact rfl) ?_
      refine rn_getf (v := .ref 75) fd_Md_74 (by exact dc_Md_turnOver 41 rfl) (by exact rfl) (by exact rfl) ?_
      refine rn_iconst (v := (3 : Int32)) (by exact dc_Md_turnOver 42 rfl) (by decide) ?_
      refine rn_iload (by exact dc_Md_turnOver 43 rfl) (by exact rfl) ?_
      refine rn_imul (by exact dc_Md_turnOver 44 rfl) ?_
      refine rn_iload (by exact dc_Md_turnOver 45 rfl) (by exact rfl) ?_
      refine rn_iadd (by exact dc_Md_turnOver 46 rfl) ?_
      obtain ⟨x5, e6, h7⟩ := rn_bind h4
      clear h4
      refine rn_iaload (by exact dc_Md_turnOver 47 rfl) (by exact rfl) e6 ?_
      obtain ⟨f8, e9, h10⟩ := rn_bind h7
      clear h7
      refine rn_iastore (w2 := (emb g1 g2 x d c u t a b (M_put_waits m f8) o E)) (by exact dc_Md_turnOver 48 rfl) (by exact rfl) e9 (by exact sm_waits) ?_
      refine rn_aload_n (by exact dc_Md_turnOver 49 rfl) (by exact rfl) ?_
      refine rn_getf (v := .ref 75) fd_Md_74 (by exact dc_Md_turnOver 50 rfl) (by exact rfl) (by exact rfl) ?_
      refine rn_iconst (v := (3 : Int32)) (by exact dc_Md_turnOver 51 rfl) (by decide) ?_
      refine rn_iload (by exact dc_Md_turnOver 52 rfl) (by exact rfl) ?_
      refine rn_imul (by exact dc_Md_turnOver 53 rfl) ?_
      refine rn_iload (by exact dc_Md_turnOver 54 rfl) (by exact rfl) ?_
      refine rn_iadd (by exact dc_Md_turnOver 55 rfl) ?_
      refine rn_iload (by exact dc_Md_turnOver 56 rfl) (by exact rfl) ?_
      obtain ⟨f11, e12, h13⟩ := rn_bind h10
      clear h10
      refine rn_iastore (w2 := (emb g1 g2 x d c u t a b (M_put_waits (M_put_waits m f8) f11) o E)) (by exact dc_Md_turnOver 57 rfl) (by exact rfl) e12 (by exact sm_waits) ?_
      refine rn_iinc (ls' := [some (.ref 53), some (.int l1), some (.int l2), some (.int l3), some (.int l4), some (.int (l5 + 1)), some (.int x2)]) (by exact dc_Md_turnOver 58 rfl) (by decide) (by exact rfl) (by exact rn_inc_1 _) (by exact rfl) ?_
      refine rn_goto 25 (by exact dc_Md_turnOver 59 rfl) (by exact rfl) ?_
      exact rn_weak _ (by repeat (first | exact rn_le_0 | apply rn_le_s | apply rn_le_x)) (ih _ _ h13)
def F_Md_turnOver_L2 (l1 : Int32) (l2 : Int32) : Nat → tM → Int32 → Option tM
  | 0, _, _ => none
  | n + 1, m, l3 =>
    if ((l2 - (1 : Int32)) - (l3 - l1)) ≤ l3 then (
      some m
    ) else (
      Option.bind (F_Md_turnOver_L25 l1 l2 l3 ((l2 - (1 : Int32)) - (l3 - l1)) rn_fu m (0 : Int32)) fun m5 =>
      F_Md_turnOver_L2 l1 l2 n m5 (l3 + 1)
    )
set_option maxHeartbeats 4000000 in
set_option maxRecDepth 100000 in
theorem p_Md_turnOver_L2 {Z : rn_Z} {g1 g2 : Nat} {x : tX} {d : tD} {c : tC} {u : tU} {t : tT} {a : tG} {b : tG}  {o : tO} {E : List rn_C}  {l1 : Int32} {l2 : Int32} {K : rn_K} {ca sa : Nat} {mz : tM} (hx : Rn Z M_Md_turnOver 93 [none, none, none, none, none, none, none] [] (emb g1 g2 x d c u t a b mz o E) ca sa K) (n : Nat) : ∀ (m : tM) (l3 : Int32), F_Md_turnOver_L2 l1 l2 n m l3 = some mz → Rn Z M_Md_turnOver 2 [some (.ref 53), some (.int l1), some (.int l2), some (.int l3), none, none, none] [] (emb g1 g2 x d c u t a b m o E) ca sa K := by
  induction n with
  | zero =>
    intro m l3 h
    rw [F_Md_turnOver_L2] at h
    cases h
  | succ n ih =>
    intro m l3 h
    rw [F_Md_turnOver_L2] at h
    refine rn_iload_n (by exact dc_Md_turnOver 2 rfl) (by exact rfl) ?_
    refine rn_iload_n (by exact dc_Md_turnOver 3 rfl) (by exact rfl) ?_
    refine rn_iconst (v := (1 : Int32)) (by exact dc_Md_turnOver 4 rfl) (by decide) ?_
    refine rn_isub (by exact dc_Md_turnOver 5 rfl) ?_
    refine rn_iload_n (by exact dc_Md_turnOver 6 rfl) (by exact rfl) ?_
    refine rn_iload_n (by exact dc_Md_turnOver 7 rfl) (by exact rfl) ?_
    refine rn_isub (by exact dc_Md_turnOver 8 rfl) ?_
    refine rn_isub (by exact dc_Md_turnOver 9 rfl) ?_
    by_cases c1 : ((l2 - (1 : Int32)) - (l3 - l1)) ≤ l3
    · replace h := rn_ifp c1 h
      refine rn_icmp_ge_t 93 (by exact dc_Md_turnOver 10 rfl) (by exact rfl) c1 ?_
      cases h
      exact rn_weak _ (by repeat (first | exact rn_le_0 | apply rn_le_s | apply rn_le_x)) hx
    · replace h := rn_ifn c1 h
      refine rn_icmp_ge_f 93 (by exact dc_Md_turnOver 10 rfl) (by exact rfl) c1 ?_
      refine rn_iload_n (by exact dc_Md_turnOver 11 rfl) (by exact rfl) ?_
      refine rn_iconst (v := (1 : Int32)) (by exact dc_Md_turnOver 12 rfl) (by decide) ?_
      refine rn_isub (by exact dc_Md_turnOver 13 rfl) ?_
      refine rn_iload_n (by exact dc_Md_turnOver 14 rfl) (by exact rfl) ?_
      refine rn_iload_n (by exact dc_Md_turnOver 15 rfl) (by exact rfl) ?_
      refine rn_isub (by exact dc_Md_turnOver 16 rfl) ?_
      refine rn_isub (by exact dc_Md_turnOver 17 rfl) ?_
      refine rn_istore (ls' := [some (.ref 53), some (.int l1), some (.int l2), some (.int l3), some (.int ((l2 - (1 : Int32)) - (l3 - l1))), none, none]) (by exact dc_Md_turnOver 18 rfl) (by decide) (by exact rfl) ?_
      refine rn_iconst (v := (0 : Int32)) (by exact dc_Md_turnOver 19 rfl) (by decide) ?_
      refine rn_istore (ls' := [some (.ref 53), some (.int l1), some (.int l2), some (.int l3), some (.int ((l2 - (1 : Int32)) - (l3 - l1))), some (.int (0 : Int32)), none]) (by exact dc_Md_turnOver 20 rfl) (by decide) (by exact rfl) ?_
      obtain ⟨m5, e2, h4⟩ := rn_bind h
      clear h
      have jx3 : Rn Z M_Md_turnOver 87 [some (.ref 53), some (.int l1), some (.int l2), some (.int l3), none, none, none] [] (emb g1 g2 x d c u t a b m5 o E) ca sa K := by
        refine rn_iinc (ls' := [some (.ref 53), some (.int l1), some (.int l2), some (.int (l3 + 1)), none, none, none]) (by exact dc_Md_turnOver 60 rfl) (by decide) (by exact rfl) (by exact rn_inc_1 _) (by exact rfl) ?_
        refine rn_goto 2 (by exact dc_Md_turnOver 61 rfl) (by exact rfl) ?_
        exact rn_weak _ (by repeat (first | exact rn_le_0 | apply rn_le_s | apply rn_le_x)) (ih _ _ h4)
      exact rn_weak _ (by repeat (first | exact rn_le_0 | apply rn_le_s | apply rn_le_x)) (p_Md_turnOver_L25 jx3 _ _ _ e2)
def F_Md_turnOver (m : tM) (v0 : Int32) (v1 : Int32) : Option tM :=
  Option.bind (F_Md_turnOver_L2 v0 v1 rn_fu m v0) fun m4 =>
  some m4
set_option maxHeartbeats 4000000 in
set_option maxRecDepth 100000 in
theorem c_Md_turnOver {Z : rn_Z} {g1 g2 : Nat} {x : tX} {d : tD} {c : tC} {u : tU} {t : tT} {a : tG} {b : tG} {m : tM} {o : tO} {E : List rn_C} {v0 : Int32} {v1 : Int32} {m_r : tM} (h : F_Md_turnOver m v0 v1 = some m_r) : Call Z M_Md_turnOver [.ref 53, .int v0, .int v1] (emb g1 g2 x d c u t a b m o E) 0 0 none (emb g1 g2 x d c u t a b m_r o E) := by
  unfold F_Md_turnOver at h
  refine rn_call (by decide) 4 (by exact Nat.le_of_ble_eq_true rfl) ?_
  show Rn Z M_Md_turnOver 0 [some (.ref 53), some (.int v0), some (.int v1), none, none, none, none] [] (emb g1 g2 x d c u t a b m o E) 0 0 _
  refine rn_iload_n (by exact dc_Md_turnOver 0 rfl) (by exact rfl) ?_
  refine rn_istore_n (ls' := [some (.ref 53), some (.int v0), some (.int v1), some (.int v0), none, none, none]) (by exact dc_Md_turnOver 1 rfl) (by decide) (by exact rfl) ?_
  obtain ⟨m4, e1, h3⟩ := rn_bind h
  clear h
  have jx2 : Rn Z M_Md_turnOver 93 [none, none, none, none, none, none, none] [] (emb g1 g2 x d c u t a b m4 o E) 0 0 (rn_Ret Z none (emb g1 g2 x d c u t a b m_r o E)) := by
    cases h3
    exact rn_return (by exact dc_Md_turnOver 62 rfl) (by exact rfl)
  exact rn_weak _ (by repeat (first | exact rn_le_0 | apply rn_le_s | apply rn_le_x)) (p_Md_turnOver_L2 jx2 _ _ _ e1)
