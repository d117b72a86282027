def F_Md_take (m : tM) (v0 : Int32) : Option (Int32 × tM) :=
  Option.bind (F_Md_readGrammar m v0) fun (x2, m3) =>
  if x2 ≤ 0 then (
    Option.bind (F_Md_loops m3 ) fun (x7, m8) =>
    if x7 = 0 then (
      Option.bind (F_Md_fillEmpty m8 ) fun m12 =>
      Option.bind (F_Md_fillUnits m12 ) fun m15 =>
      some ((0 : Int32), m15)
    ) else (
      some ((2 : Int32), m8)
    )
  ) else (
    some ((1 : Int32), (M_put_value m3 x2))
  )
set_option maxHeartbeats 4000000 in
set_option maxRecDepth 100000 in
theorem c_Md_take {Z : rn_Z} {g1 g2 : Nat} {x : tX} {d : tD} {c : tC} {u : tU} {t : tT} {a : tG} {b : tG} {m : tM} {o : tO} {E : List rn_C} {v0 : Int32} {res : Int32} {m_r : tM} (h : F_Md_take m v0 = some (res, m_r)) : Call Z M_Md_take [.ref 53, .int v0] (emb g1 g2 x d c u t a b m o E) 0 0 (some (.int res)) (emb g1 g2 x d c u t a b m_r o E) := by
  unfold F_Md_take at h
  refine rn_call (by decide) 1 (by exact Nat.le_of_ble_eq_true rfl) ?_
  show Rn Z M_Md_take 0 [some (.ref 53), some (.int v0), none] [] (emb g1 g2 x d c u t a b m o E) 0 0 _
  refine rn_aload_n (by exact dc_Md_take 0 rfl) (by exact rfl) ?_
  refine rn_iload_n (by exact dc_Md_take 1 rfl) (by exact rfl) ?_
  obtain ⟨⟨x2, m3⟩, e1, h4⟩ := rn_bind h
  clear h
  dsimp only at h4
  refine rn_invV0 (by exact c_Md_readGrammar e1) iv_Md_150 (by exact ⟨Nat.le_of_ble_eq_true rfl, Nat.le_of_ble_eq_true rfl⟩) (by exact dc_Md_take 2 rfl) (by exact rfl) (by exact rfl) (by exact rfl) (by exact Nat.le_of_ble_eq_true rfl) ?_
  show Rn _ _ 5 [some (.ref 53), some (.int v0), none] [.int x2] (emb g1 g2 x d c u t a b m3 o E) _ _ _
  refine rn_istore_n (ls' := [some (.ref 53), some (.int v0), some (.int x2)]) (by exact dc_Md_take 3 rfl) (by decide) (by exact rfl) ?_
  refine rn_iload_n (by exact dc_Md_take 4 rfl) (by exact rfl) ?_
  by_cases c5 : x2 ≤ 0
  · replace h4 := rn_ifp c5 h4
    refine rn_if_le_t 17 (by exact dc_Md_take 5 rfl) (by exact rfl) c5 ?_
    refine rn_aload_n (by exact dc_Md_take 11 rfl) (by exact rfl) ?_
    obtain ⟨⟨x7, m8⟩, e6, h9⟩ := rn_bind h4
    clear h4
    dsimp only at h9
    refine rn_invV0 (by exact c_Md_loops e6) iv_Md_153 (by exact ⟨Nat.le_of_ble_eq_true rfl, Nat.le_of_ble_eq_true rfl⟩) (by exact dc_Md_take 12 rfl) (by exact rfl) (by exact rfl) (by exact rfl) (by exact Nat.le_of_ble_eq_true rfl) ?_
    show Rn _ _ 21 [some (.ref 53), some (.int v0), some (.int x2)] [.int x7] (emb g1 g2 x d c u t a b m8 o E) _ _ _
    by_cases c10 : x7 = 0
    · replace h9 := rn_ifp c10 h9
      refine rn_if_eq_t 26 (by exact dc_Md_take 13 rfl) (by exact rfl) c10 ?_
      refine rn_aload_n (by exact dc_Md_take 16 rfl) (by exact rfl) ?_
      obtain ⟨m12, e11, h13⟩ := rn_bind h9
      clear h9
      refine rn_invV0 (by exact c_Md_fillEmpty e11) iv_Md_156 (by exact ⟨Nat.le_of_ble_eq_true rfl, Nat.le_of_ble_eq_true rfl⟩) (by exact dc_Md_take 17 rfl) (by exact rfl) (by exact rfl) (by exact rfl) (by exact Nat.le_of_ble_eq_true rfl) ?_
      show Rn _ _ 30 [some (.ref 53), some (.int v0), some (.int x2)] [] (emb g1 g2 x d c u t a b m12 o E) _ _ _
      refine rn_aload_n (by exact dc_Md_take 18 rfl) (by exact rfl) ?_
      obtain ⟨m15, e14, h16⟩ := rn_bind h13
      clear h13
      refine rn_invV0 (by exact c_Md_fillUnits e14) iv_Md_159 (by exact ⟨Nat.le_of_ble_eq_true rfl, Nat.le_of_ble_eq_true rfl⟩) (by exact dc_Md_take 19 rfl) (by exact rfl) (by exact rfl) (by exact rfl) (by exact Nat.le_of_ble_eq_true rfl) ?_
      show Rn _ _ 34 [some (.ref 53), some (.int v0), some (.int x2)] [] (emb g1 g2 x d c u t a b m15 o E) _ _ _
      refine rn_iconst (v := (0 : Int32)) (by exact dc_Md_take 20 rfl) (by decide) ?_
      cases h16
      exact rn_ireturn (by exact dc_Md_take 21 rfl) (by exact rfl)
    · replace h9 := rn_ifn c10 h9
      refine rn_if_eq_f 26 (by exact dc_Md_take 13 rfl) (by exact rfl) c10 ?_
      refine rn_iconst (v := (2 : Int32)) (by exact dc_Md_take 14 rfl) (by decide) ?_
      cases h9
      exact rn_ireturn (by exact dc_Md_take 15 rfl) (by exact rfl)
  · replace h4 := rn_ifn c5 h4
    refine rn_if_le_f 17 (by exact dc_Md_take 5 rfl) (by exact rfl) c5 ?_
    refine rn_aload_n (by exact dc_Md_take 6 rfl) (by exact rfl) ?_
    refine rn_iload_n (by exact dc_Md_take 7 rfl) (by exact rfl) ?_
    refine rn_putf (w2 := (emb g1 g2 x d c u t a b (M_put_value m3 x2) o E)) fd_Md_92 (by exact dc_Md_take 8 rfl) (by exact rfl) (by exact rfl) (by exact Nat.le_of_ble_eq_true rfl) (by exact sm_value) ?_
    refine rn_iconst (v := (1 : Int32)) (by exact dc_Md_take 9 rfl) (by decide) ?_
    cases h4
    exact rn_ireturn (by exact dc_Md_take 10 rfl) (by exact rfl)
def F_Md_load_L2  : Nat → tM → Int32 → Option tM
  | 0, _, _ => none
  | n + 1, m, l1 =>
    if (M_size m) ≤ l1 then (
      some m
    ) else (
      Option.bind (aG (M_draft m) 300 l1) fun x2 =>
      Option.bind (aS (M_src m) 300 l1 x2) fun f5 =>
      F_Md_load_L2  n (M_put_src m f5) (l1 + 1)
    )
set_option maxHeartbeats 4000000 in
set_option maxRecDepth 100000 in
theorem p_Md_load_L2 {Z : rn_Z} {g1 g2 : Nat} {x : tX} {d : tD} {c : tC} {u : tU} {t : tT} {a : tG} {b : tG}  {o : tO} {E : List rn_C}   {K : rn_K} {ca sa : Nat} {mz : tM} (hx : Rn Z M_Md_load 28 [some (.ref 53), none, none] [] (emb g1 g2 x d c u t a b mz o E) ca sa K) (n : Nat) : ∀ (m : tM) (l1 : Int32), F_Md_load_L2  n m l1 = some mz → Rn Z M_Md_load 2 [some (.ref 53), some (.int l1), none] [] (emb g1 g2 x d c u t a b m o E) ca sa K := by
  induction n with
  | zero =>
    intro m l1 h
    rw [F_Md_load_L2] at h
    cases h
  | succ n ih =>
    intro m l1 h
    rw [F_Md_load_L2] at h
    refine rn_iload_n (by exact dc_Md_load 2 rfl) (by exact rfl) ?_
    refine rn_aload_n (by exact dc_Md_load 3 rfl) (by exact rfl) ?_
    refine rn_getf (v := .int (M_size m)) fd_Md_81 (by exact dc_Md_load 4 rfl) (by exact rfl) (by exact rfl) ?_
    by_cases c1 : (M_size m) ≤ l1
    · replace h := rn_ifp c1 h
      refine rn_icmp_ge_t 28 (by exact dc_Md_load 5 rfl) (by exact rfl) c1 ?_
      cases h
      exact rn_weak _ (by repeat (first | exact rn_le_0 | apply rn_le_s | apply rn_le_x)) hx
    · replace h := rn_ifn c1 h
      refine rn_icmp_ge_f 28 (by exact dc_Md_load 5 rfl) (by exact rfl) c1 ?_
      refine rn_aload_n (by exact dc_Md_load 6 rfl) (by exact rfl) ?_
      refine rn_getf (v := .ref 55) fd_Md_13 (by exact dc_Md_load 7 rfl) (by exact rfl) (by exact rfl) ?_
      refine rn_iload_n (by exact dc_Md_load 8 rfl) (by exact rfl) ?_
      refine rn_aload_n (by exact dc_Md_load 9 rfl) (by exact rfl) ?_
      refine rn_getf (v := .ref 54) fd_Md_7 (by exact dc_Md_load 10 rfl) (by exact rfl) (by exact rfl) ?_
      refine rn_iload_n (by exact dc_Md_load 11 rfl) (by exact rfl) ?_
      obtain ⟨x2, e3, h4⟩ := rn_bind h
      clear h
      refine rn_iaload (by exact dc_Md_load 12 rfl) (by exact rfl) e3 ?_
      obtain ⟨f5, e6, h7⟩ := rn_bind h4
      clear h4
      refine rn_iastore (w2 := (emb g1 g2 x d c u t a b (M_put_src m f5) o E)) (by exact dc_Md_load 13 rfl) (by exact rfl) e6 (by exact sm_src) ?_
      refine rn_iinc (ls' := [some (.ref 53), some (.int (l1 + 1)), none]) (by exact dc_Md_load 14 rfl) (by decide) (by exact rfl) (by exact rn_inc_1 _) (by exact rfl) ?_
      refine rn_goto 2 (by exact dc_Md_load 15 rfl) (by exact rfl) ?_
      exact rn_weak _ (by repeat (first | exact rn_le_0 | apply rn_le_s | apply rn_le_x)) (ih _ _ h7)
def F_Md_load_L129  : Nat → tM → Int32 → Option tM
  | 0, _, _ => none
  | n + 1, m, l2 =>
    if (M_keptSize m) ≤ l2 then (
      some m
    ) else (
      Option.bind (aG (M_kept m) 300 l2) fun x2 =>
      Option.bind (aS (M_src m) 300 l2 x2) fun f5 =>
      F_Md_load_L129  n (M_put_src m f5) (l2 + 1)
    )
set_option maxHeartbeats 4000000 in
set_option maxRecDepth 100000 in
theorem p_Md_load_L129 {Z : rn_Z} {g1 g2 : Nat} {x : tX} {d : tD} {c : tC} {u : tU} {t : tT} {a : tG} {b : tG}  {o : tO} {E : List rn_C}   {K : rn_K} {ca sa : Nat} {mz : tM} (hx : Rn Z M_Md_load 155 [some (.ref 53), none, none] [] (emb g1 g2 x d c u t a b mz o E) ca sa K) (n : Nat) : ∀ (m : tM) (l2 : Int32), F_Md_load_L129  n m l2 = some mz → Rn Z M_Md_load 129 [some (.ref 53), none, some (.int l2)] [] (emb g1 g2 x d c u t a b m o E) ca sa K := by
  induction n with
  | zero =>
    intro m l2 h
    rw [F_Md_load_L129] at h
    cases h
  | succ n ih =>
    intro m l2 h
    rw [F_Md_load_L129] at h
    refine rn_iload_n (by exact dc_Md_load 73 rfl) (by exact rfl) ?_
    refine rn_aload_n (by exact dc_Md_load 74 rfl) (by exact rfl) ?_
    refine rn_getf (v := .int (M_keptSize m)) fd_Md_165 (by exact dc_Md_load 75 rfl) (by exact rfl) (by exact rfl) ?_
    by_cases c1 : (M_keptSize m) ≤ l2
    · replace h := rn_ifp c1 h
      refine rn_icmp_ge_t 155 (by exact dc_Md_load 76 rfl) (by exact rfl) c1 ?_
      cases h
      exact rn_weak _ (by repeat (first | exact rn_le_0 | apply rn_le_s | apply rn_le_x)) hx
    · replace h := rn_ifn c1 h
      refine rn_icmp_ge_f 155 (by exact dc_Md_load 76 rfl) (by exact rfl) c1 ?_
      refine rn_aload_n (by exact dc_Md_load 77 rfl) (by exact rfl) ?_
      refine rn_getf (v := .ref 55) fd_Md_13 (by exact dc_Md_load 78 rfl) (by exact rfl) (by exact rfl) ?_
      refine rn_iload_n (by exact dc_Md_load 79 rfl) (by exact rfl) ?_
      refine rn_aload_n (by exact dc_Md_load 80 rfl) (by exact rfl) ?_
      refine rn_getf (v := .ref 56) fd_Md_16 (by exact dc_Md_load 81 rfl) (by exact rfl) (by exact rfl) ?_
      refine rn_iload_n (by exact dc_Md_load 82 rfl) (by exact rfl) ?_
      obtain ⟨x2, e3, h4⟩ := rn_bind h
      clear h
      refine rn_iaload (by exact dc_Md_load 83 rfl) (by exact rfl) e3 ?_
      obtain ⟨f5, e6, h7⟩ := rn_bind h4
      clear h4
      refine rn_iastore (w2 := (emb g1 g2 x d c u t a b (M_put_src m f5) o E)) (by exact dc_Md_load 84 rfl) (by exact rfl) e6 (by exact sm_src) ?_
      refine rn_iinc (ls' := [some (.ref 53), none, some (.int (l2 + 1))]) (by exact dc_Md_load 85 rfl) (by decide) (by exact rfl) (by exact rn_inc_1 _) (by exact rfl) ?_
      refine rn_goto 129 (by exact dc_Md_load 86 rfl) (by exact rfl) ?_
      exact rn_weak _ (by repeat (first | exact rn_le_0 | apply rn_le_s | apply rn_le_x)) (ih _ _ h7)
def F_Md_load_L56 (l1 : Int32) : Nat → tM → Int32 → Option tM
  | 0, _, _ => none
  | n + 1, m, l2 =>
    if l1 ≤ l2 then (
      some m
    ) else (
      Option.bind (aG (M_src m) 300 l2) fun x2 =>
      Option.bind (aS (M_kept m) 300 l2 x2) fun f5 =>
      F_Md_load_L56 l1 n (M_put_kept m f5) (l2 + 1)
    )
set_option maxHeartbeats 4000000 in
set_option maxRecDepth 100000 in
theorem p_Md_load_L56 {Z : rn_Z} {g1 g2 : Nat} {x : tX} {d : tD} {c : tC} {u : tU} {t : tT} {a : tG} {b : tG}  {o : tO} {E : List rn_C}  {l1 : Int32} {K : rn_K} {ca sa : Nat} {mz : tM} (hx : Rn Z M_Md_load 79 [some (.ref 53), some (.int l1), none] [] (emb g1 g2 x d c u t a b mz o E) ca sa K) (n : Nat) : ∀ (m : tM) (l2 : Int32), F_Md_load_L56 l1 n m l2 = some mz → Rn Z M_Md_load 56 [some (.ref 53), some (.int l1), some (.int l2)] [] (emb g1 g2 x d c u t a b m o E) ca sa K := by
  induction n with
  | zero =>
    intro m l2 h
    rw [F_Md_load_L56] at h
    cases h
  | succ n ih =>
    intro m l2 h
    rw [F_Md_load_L56] at h
    refine rn_iload_n (by exact dc_Md_load 32 rfl) (by exact rfl) ?_
    refine rn_iload_n (by exact dc_Md_load 33 rfl) (by exact rfl) ?_
    by_cases c1 : l1 ≤ l2
    · replace h := rn_ifp c1 h
      refine rn_icmp_ge_t 79 (by exact dc_Md_load 34 rfl) (by exact rfl) c1 ?_
      cases h
      exact rn_weak _ (by repeat (first | exact rn_le_0 | apply rn_le_s | apply rn_le_x)) hx
    · replace h := rn_ifn c1 h
      refine rn_icmp_ge_f 79 (by exact dc_Md_load 34 rfl) (by exact rfl) c1 ?_
      refine rn_aload_n (by exact dc_Md_load 35 rfl) (by exact rfl) ?_
      refine rn_getf (v := .ref 56) fd_Md_16 (by exact dc_Md_load 36 rfl) (by exact rfl) (by exact rfl) ?_
      refine rn_iload_n (by exact dc_Md_load 37 rfl) (by exact rfl) ?_
      refine rn_aload_n (by exact dc_Md_load 38 rfl) (by exact rfl) ?_
      refine rn_getf (v := .ref 55) fd_Md_13 (by exact dc_Md_load 39 rfl) (by exact rfl) (by exact rfl) ?_
      refine rn_iload_n (by exact dc_Md_load 40 rfl) (by exact rfl) ?_
      obtain ⟨x2, e3, h4⟩ := rn_bind h
      clear h
      refine rn_iaload (by exact dc_Md_load 41 rfl) (by exact rfl) e3 ?_
      obtain ⟨f5, e6, h7⟩ := rn_bind h4
      clear h4
      refine rn_iastore (w2 := (emb g1 g2 x d c u t a b (M_put_kept m f5) o E)) (by exact dc_Md_load 42 rfl) (by exact rfl) e6 (by exact sm_kept) ?_
      refine rn_iinc (ls' := [some (.ref 53), some (.int l1), some (.int (l2 + 1))]) (by exact dc_Md_load 43 rfl) (by decide) (by exact rfl) (by exact rn_inc_1 _) (by exact rfl) ?_
      refine rn_goto 56 (by exact dc_Md_load 44 rfl) (by exact rfl) ?_
      exact rn_weak _ (by repeat (first | exact rn_le_0 | apply rn_le_s | apply rn_le_x)) (ih _ _ h7)
def F_Md_load (m : tM)  : Option (Int32 × tM) :=
  Option.bind (F_Md_load_L2  rn_fu m (0 : Int32)) fun m4 =>
  Option.bind (F_Md_take (M_put_size m4 (0 : Int32)) (M_size m4)) fun (x6, m7) =>
  if ¬ (M_code (M_put_code m7 x6)) = 0 then (
    Option.bind (
      if ¬ (M_code (M_put_code m7 x6)) = (1 : Int32) then (
        some (M_wrongLine (M_put_code m7 x6) : Int32)
      ) else (
        some (M_value (M_put_code m7 x6) : Int32)
      )
     : Option Int32) fun y10 =>
    Option.bind (F_Md_load_L129  rn_fu (M_put_wrongLine (M_put_code m7 x6) y10) (0 : Int32)) fun m18 =>
    if (M_loaded m18) = 0 then (
      some ((0 : Int32), m18)
    ) else (
      Option.bind (F_Md_take m18 (M_keptSize m18)) fun (x21, m22) =>
      some (x21, m22)
    )
  ) else (
    Option.bind (F_Md_load_L56 (M_size m4) rn_fu (M_put_code m7 x6) (0 : Int32)) fun m27 =>
    some (M_rules (M_put_nodes (M_put_hasText (M_put_loaded (M_put_keptSize m27 (M_size m4)) (1 : Int32)) (0 : Int32)) (0 : Int32)), (M_put_nodes (M_put_hasText (M_put_loaded (M_put_keptSize m27 (M_size m4)) (1 : Int32)) (0 : Int32)) (0 : Int32)))
  )
set_option maxHeartbeats 4000000 in
set_option maxRecDepth 100000 in
theorem c_Md_load {Z : rn_Z} {g1 g2 : Nat} {x : tX} {d : tD} {c : tC} {u : tU} {t : tT} {a : tG} {b : tG} {m : tM} {o : tO} {E : List rn_C}  {res : Int32} {m_r : tM} (h : F_Md_load m  = some (res, m_r)) : Call Z M_Md_load [.ref 53] (emb g1 g2 x d c u t a b m o E) 0 0 (some (.int res)) (emb g1 g2 x d c u t a b m_r o E) := by
  unfold F_Md_load at h
  refine rn_call (by decide) 2 (by exact Nat.le_of_ble_eq_true rfl) ?_
  show Rn Z M_Md_load 0 [some (.ref 53), none, none] [] (emb g1 g2 x d c u t a b m o E) 0 0 _
  refine rn_iconst (v := (0 : Int32)) (by exact dc_Md_load 0 rfl) (by decide) ?_
  refine rn_istore_n (ls' := [some (.ref 53), some (.int (0 : Int32)), none]) (by exact dc_Md_load 1 rfl) (by decide) (by exact rfl) ?_
  obtain ⟨m4, e1, h3⟩ := rn_bind h
  clear h
  have jx2 : Rn Z M_Md_load 28 [some (.ref 53), none, none] [] (emb g1 g2 x d c u t a b m4 o E) 0 0 (rn_Ret Z (some (.int res)) (emb g1 g2 x d c u t a b m_r o E)) := by
    refine rn_aload_n (by exact dc_Md_load 16 rfl) (by exact rfl) ?_
    refine rn_getf (v := .int (M_size m4)) fd_Md_81 (by exact dc_Md_load 17 rfl) (by exact rfl) (by exact rfl) ?_
    refine rn_istore_n (ls' := [some (.ref 53), some (.int (M_size m4)), none]) (by exact dc_Md_load 18 rfl) (by decide) (by exact rfl) ?_
    refine rn_aload_n (by exact dc_Md_load 19 rfl) (by exact rfl) ?_
    refine rn_iconst (v := (0 : Int32)) (by exact dc_Md_load 20 rfl) (by decide) ?_
    refine rn_putf (w2 := (emb g1 g2 x d c u t a b (M_put_size m4 (0 : Int32)) o E)) fd_Md_81 (by exact dc_Md_load 21 rfl) (by exact rfl) (by exact rfl) (by exact Nat.le_of_ble_eq_true rfl) (by exact sm_size) ?_
    refine rn_aload_n (by exact dc_Md_load 22 rfl) (by exact rfl) ?_
    refine rn_aload_n (by exact dc_Md_load 23 rfl) (by exact rfl) ?_
    refine rn_iload_n (by exact dc_Md_load 24 rfl) (by exact rfl) ?_
    obtain ⟨⟨x6, m7⟩, e5, h8⟩ := rn_bind h3
    clear h3
    dsimp only at h8
    refine rn_invV0 (by exact c_Md_take e5) iv_Md_162 (by exact ⟨Nat.le_of_ble_eq_true rfl, Nat.le_of_ble_eq_true rfl⟩) (by exact dc_Md_load 25 rfl) (by exact rfl) (by exact rfl) (by exact rfl) (by exact Nat.le_of_ble_eq_true rfl) ?_
    show Rn _ _ 44 [some (.ref 53), some (.int (M_size m4)), none] [.int x6, .ref 53] (emb g1 g2 x d c u t a b m7 o E) _ _ _
    refine rn_putf (w2 := (emb g1 g2 x d c u t a b (M_put_code m7 x6) o E)) fd_Md_77 (by exact dc_Md_load 26 rfl) (by exact rfl) (by exact rfl) (by exact Nat.le_of_ble_eq_true rfl) (by exact sm_code) ?_
    refine rn_aload_n (by exact dc_Md_load 27 rfl) (by exact rfl) ?_
    refine rn_getf (v := .int (M_code (M_put_code m7 x6))) fd_Md_77 (by exact dc_Md_load 28 rfl) (by exact rfl) (by exact rfl) ?_
    by_cases c9 : ¬ (M_code (M_put_code m7 x6)) = 0
    · replace h8 := rn_ifp c9 h8
      refine rn_if_ne_t 104 (by exact dc_Md_load 29 rfl) (by exact rfl) c9 ?_
      refine rn_aload_n (by exact dc_Md_load 60 rfl) (by exact rfl) ?_
      refine rn_aload_n (by exact dc_Md_load 61 rfl) (by exact rfl) ?_
      refine rn_getf (v := .int (M_code (M_put_code m7 x6))) fd_Md_77 (by exact dc_Md_load 62 rfl) (by exact rfl) (by exact rfl) ?_
      refine rn_iconst (v := (1 : Int32)) (by exact dc_Md_load 63 rfl) (by decide) ?_
      obtain ⟨y10, e11, h13⟩ := rn_bind h8
      clear h8
      have jq12 : Rn Z M_Md_load 124 [some (.ref 53), none, none] [.int y10, .ref 53] (emb g1 g2 x d c u t a b (M_put_code m7 x6) o E) 0 0 (rn_Ret Z (some (.int res)) (emb g1 g2 x d c u t a b m_r o E)) := by
        refine rn_putf (w2 := (emb g1 g2 x d c u t a b (M_put_wrongLine (M_put_code m7 x6) y10) o E)) fd_Md_178 (by exact dc_Md_load 70 rfl) (by exact rfl) (by exact rfl) (by exact Nat.le_of_ble_eq_true rfl) (by exact sm_wrongLine) ?_
        refine rn_iconst (v := (0 : Int32)) (by exact dc_Md_load 71 rfl) (by decide) ?_
        refine rn_istore_n (ls' := [some (.ref 53), none, some (.int (0 : Int32))]) (by exact dc_Md_load 72 rfl) (by decide) (by exact rfl) ?_
        obtain ⟨m18, e15, h17⟩ := rn_bind h13
        clear h13
        have jx16 : Rn Z M_Md_load 155 [some (.ref 53), none, none] [] (emb g1 g2 x d c u t a b m18 o E) 0 0 (rn_Ret Z (some (.int res)) (emb g1 g2 x d c u t a b m_r o E)) := by
          refine rn_aload_n (by exact dc_Md_load 87 rfl) (by exact rfl) ?_
          refine rn_getf (v := .int (M_loaded m18)) fd_Md_168 (by exact dc_Md_load 88 rfl) (by exact rfl) (by exact rfl) ?_
          by_cases c19 : (M_loaded m18) = 0
          · replace h17 := rn_ifp c19 h17
            refine rn_if_eq_t 173 (by exact dc_Md_load 89 rfl) (by exact rfl) c19 ?_
            refine rn_iconst (v := (0 : Int32)) (by exact dc_Md_load 97 rfl) (by decide) ?_
            cases h17
            exact rn_ireturn (by exact dc_Md_load 98 rfl) (by exact rfl)
          · replace h17 := rn_ifn c19 h17
            refine rn_if_eq_f 173 (by exact dc_Md_load 89 rfl) (by exact rfl) c19 ?_
            refine rn_aload_n (by exact dc_Md_load 90 rfl) (by exact rfl) ?_
            refine rn_aload_n (by exact dc_Md_load 91 rfl) (by exact rfl) ?_
            refine rn_getf (v := .int (M_keptSize m18)) fd_Md_165 (by exact dc_Md_load 92 rfl) (by exact rfl) (by exact rfl) ?_
            obtain ⟨⟨x21, m22⟩, e20, h23⟩ := rn_bind h17
            clear h17
            dsimp only at h23
            refine rn_invV0 (by exact c_Md_take e20) iv_Md_162 (by exact ⟨Nat.le_of_ble_eq_true rfl, Nat.le_of_ble_eq_true rfl⟩) (by exact dc_Md_load 93 rfl) (by exact rfl) (by exact rfl) (by exact rfl) (by exact Nat.le_of_ble_eq_true rfl) ?_
            show Rn _ _ 170 [some (.ref 53), none, none] [.int x21] (emb g1 g2 x d c u t a b m22 o E) _ _ _
            refine rn_istore_n (ls' := [some (.ref 53), none, some (.int x21)]) (by exact dc_Md_load 94 rfl) (by decide) (by exact rfl) ?_
            refine rn_iload_n (by exact dc_Md_load 95 rfl) (by exact rfl) ?_
            cases h23
            exact rn_ireturn (by exact dc_Md_load 96 rfl) (by exact rfl)
        exact rn_weak _ (by repeat (first | exact rn_le_0 | apply rn_le_s | apply rn_le_x)) (p_Md_load_L129 jx16 _ _ _ e15)
      by_cases c14 : ¬ (M_code (M_put_code m7 x6)) = (1 : Int32)
      · replace e11 := rn_ifp c14 e11
        refine rn_icmp_ne_t 120 (by exact dc_Md_load 64 rfl) (by exact rfl) c14 ?_
        refine rn_aload_n (by exact dc_Md_load 68 rfl) (by exact rfl) ?_
        refine rn_getf (v := .int (M_wrongLine (M_put_code m7 x6))) fd_Md_178 (by exact dc_Md_load 69 rfl) (by exact rfl) (by exact rfl) ?_
        cases e11
        exact rn_weak _ (by repeat (first | exact rn_le_0 | apply rn_le_s | apply rn_le_x)) jq12
      · replace e11 := rn_ifn c14 e11
        refine rn_icmp_ne_f 120 (by exact dc_Md_load 64 rfl) (by exact rfl) (Classical.not_not.mp c14) ?_
        refine rn_aload_n (by exact dc_Md_load 65 rfl) (by exact rfl) ?_
        refine rn_getf (v := .int (M_value (M_put_code m7 x6))) fd_Md_92 (by exact dc_Md_load 66 rfl) (by exact rfl) (by exact rfl) ?_
        refine rn_goto 124 (by exact dc_Md_load 67 rfl) (by exact rfl) ?_
        cases e11
        exact rn_weak _ (by repeat (first | exact rn_le_0 | apply rn_le_s | apply rn_le_x)) jq12
    · replace h8 := rn_ifn c9 h8
      refine rn_if_ne_f 104 (by exact dc_Md_load 29 rfl) (by exact rfl) (Classical.not_not.mp c9) ?_
      refine rn_iconst (v := (0 : Int32)) (by exact dc_Md_load 30 rfl) (by decide) ?_
      refine rn_istore_n (ls' := [some (.ref 53), some (.int (M_size m4)), some (.int (0 : Int32))]) (by exact dc_Md_load 31 rfl) (by decide) (by exact rfl) ?_
      obtain ⟨m27, e24, h26⟩ := rn_bind h8
      clear h8
      have jx25 : Rn Z M_Md_load 79 [some (.ref 53), some (.int (M_size m4)), none] [] (emb g1 g2 x d c u t a b m27 o E) 0 0 (rn_Ret Z (some (.int res)) (emb g1 g2 x d c u t a b m_r o E)) := by
        refine rn_aload_n (by exact dc_Md_load 45 rfl) (by exact rfl) ?_
        refine rn_iload_n (by exact dc_Md_load 46 rfl) (by exact rfl) ?_
        refine rn_putf (w2 := (emb g1 g2 x d c u t a b (M_put_keptSize m27 (M_size m4)) o E)) fd_Md_165 (by exact dc_Md_load 47 rfl) (by exact rfl) (by exact rfl) (by exact Nat.le_of_ble_eq_true rfl) (by exact sm_keptSize) ?_
        refine rn_aload_n (by exact dc_Md_load 48 rfl) (by exact rfl) ?_
        refine rn_iconst (v := (1 : Int32)) (by exact dc_Md_load 49 rfl) (by decide) ?_
        refine rn_putf (w2 := (emb g1 g2 x d c u t a b (M_put_loaded (M_put_keptSize m27 (M_size m4)) (1 : Int32)) o E)) fd_Md_168 (by exact dc_Md_load 50 rfl) (by exact rfl) (by exact rfl) (by exact Nat.le_of_ble_eq_true rfl) (by exact sm_loaded) ?_
        refine rn_aload_n (by exact dc_Md_load 51 rfl) (by exact rfl) ?_
        refine rn_iconst (v := (0 : Int32)) (by exact dc_Md_load 52 rfl) (by decide) ?_
        refine rn_putf (w2 := (emb g1 g2 x d c u t a b (M_put_hasText (M_put_loaded (M_put_keptSize m27 (M_size m4)) (1 : Int32)) (0 : Int32)) o E)) fd_Md_172 (by exact dc_Md_load 53 rfl) (by exact rfl) (by exact rfl) (by exact Nat.le_of_ble_eq_true rfl) (by exact sm_hasText) ?_
        refine rn_aload_n (by exact dc_Md_load 54 rfl) (by exact rfl) ?_
        refine rn_iconst (v := (0 : Int32)) (by exact dc_Md_load 55 rfl) (by decide) ?_
        refine rn_putf (w2 := (emb g1 g2 x d c u t a b (M_put_nodes (M_put_hasText (M_put_loaded (M_put_keptSize m27 (M_size m4)) (1 : Int32)) (0 : Int32)) (0 : Int32)) o E)) fd_Md_175 (by exact dc_Md_load 56 rfl) (by exact rfl) (by exact rfl) (by exact Nat.le_of_ble_eq_true rfl) (by exact sm_nodes) ?_
        refine rn_aload_n (by exact dc_Md_load 57 rfl) (by exact rfl) ?_
        refine rn_getf (v := .int (M_rules (M_put_nodes (M_put_hasText (M_put_loaded (M_put_keptSize m27 (M_size m4)) (1 : Int32)) (0 : Int32)) (0 : Int32)))) fd_Md_115 (by exact dc_Md_load 58 rfl) (by exact rfl) (by exact rfl) ?_
        cases h26
        exact rn_ireturn (by exact dc_Md_load 59 rfl) (by exact rfl)
      exact rn_weak _ (by repeat (first | exact rn_le_0 | apply rn_le_s | apply rn_le_x)) (p_Md_load_L56 jx25 _ _ _ e24)
  exact rn_weak _ (by repeat (first | exact rn_le_0 | apply rn_le_s | apply rn_le_x)) (p_Md_load_L2 jx2 _ _ _ e1)
def F_Md_wrong (m : tM)  : Option (Int32 × tM) :=
  some (M_wrongLine (M_put_code m (0 : Int32)), (M_put_code m (0 : Int32)))
set_option maxHeartbeats 4000000 in
set_option maxRecDepth 100000 in
theorem c_Md_wrong {Z : rn_Z} {g1 g2 : Nat} {x : tX} {d : tD} {c : tC} {u : tU} {t : tT} {a : tG} {b : tG} {m : tM} {o : tO} {E : List rn_C}  {res : Int32} {m_r : tM} (h : F_Md_wrong m  = some (res, m_r)) : Call Z M_Md_wrong [.ref 53] (emb g1 g2 x d c u t a b m o E) 0 0 (some (.int res)) (emb g1 g2 x d c u t a b m_r o E) := by
  unfold F_Md_wrong at h
  refine rn_call (by decide) 0 (by exact Nat.le_of_ble_eq_true rfl) ?_
  show Rn Z M_Md_wrong 0 [some (.ref 53)] [] (emb g1 g2 x d c u t a b m o E) 0 0 _
  refine rn_aload_n (by exact dc_Md_wrong 0 rfl) (by exact rfl) ?_
  refine rn_iconst (v := (0 : Int32)) (by exact dc_Md_wrong 1 rfl) (by decide) ?_
  refine rn_putf (w2 := (emb g1 g2 x d c u t a b (M_put_code m (0 : Int32)) o E)) fd_Md_77 (by exact dc_Md_wrong 2 rfl) (by exact rfl) (by exact rfl) (by exact Nat.le_of_ble_eq_true rfl) (by exact sm_code) ?_
  refine rn_aload_n (by exact dc_Md_wrong 3 rfl) (by exact rfl) ?_
  refine rn_getf (v := .int (M_wrongLine (M_put_code m (0 : Int32)))) fd_Md_178 (by exact dc_Md_wrong 4 rfl) (by exact rfl) (by exact rfl) ?_
  cases h
  exact rn_ireturn (by exact dc_Md_wrong 5 rfl) (by exact rfl)
def F_Md_cell (v0 : Int32) (v1 : Int32) (v2 : Int32) : Option Int32 :=
  some ((((81 : Int32) * v0) + ((9 : Int32) * v1)) + v2)
set_option maxHeartbeats 4000000 in
set_option maxRecDepth 100000 in
theorem c_Md_cell {Z : rn_Z} {g1 g2 : Nat} {x : tX} {d : tD} {c : tC} {u : tU} {t : tT} {a : tG} {b : tG} {m : tM} {o : tO} {E : List rn_C} {v0 : Int32} {v1 : Int32} {v2 : Int32} {res : Int32} (h : F_Md_cell  v0 v1 v2 = some res) : Call Z M_Md_cell [.int v0, .int v1, .int v2] (emb g1 g2 x d c u t a b m o E) 0 0 (some (.int res)) (emb g1 g2 x d c u t a b m o E) := by
  unfold F_Md_cell at h
  refine rn_call (by decide) 0 (by exact Nat.le_of_ble_eq_true rfl) ?_
  show Rn Z M_Md_cell 0 [some (.int v0), some (.int v1), some (.int v2)] [] (emb g1 g2 x d c u t a b m o E) 0 0 _
  refine rn_bipush (v := (81 : Int32)) (by exact dc_Md_cell 0 rfl) (by decide) ?_
  refine rn_iload_n (by exact dc_Md_cell 1 rfl) (by exact rfl) ?_
  refine rn_imul (by exact dc_Md_cell 2 rfl) ?_
  refine rn_bipush (v := (9 : Int32)) (by exact dc_Md_cell 3 rfl) (by decide) ?_
  refine rn_iload_n (by exact dc_Md_cell 4 rfl) (by exact rfl) ?_
  refine rn_imul (by exact dc_Md_cell 5 rfl) ?_
  refine rn_iadd (by exact dc_Md_cell 6 rfl) ?_
  refine rn_iload_n (by exact dc_Md_cell 7 rfl) (by exact rfl) ?_
  refine rn_iadd (by exact dc_Md_cell 8 rfl) ?_
  cases h
  exact rn_ireturn (by exact dc_Md_cell 9 rfl) (by exact rfl)
def F_Md_sumOf (m : tM) (v0 : Int32) (v1 : Int32) (v2 : Int32) : Option Int64 :=
  Option.bind (F_Md_isLetter  v0) fun x2 =>
  if x2 = 0 then (
    Option.bind (
      if ¬ v1 = v2 then (
        Option.bind (F_Md_cell  v0 v1 v2) fun x11 =>
        Option.bind (aG (M_sums m) 486 x11) fun x13 =>
        some (x13 : Int64)
      ) else (
        Option.bind (aG (M_emptySum m) 6 v0) fun x16 =>
        some (x16 : Int64)
      )
     : Option Int64) fun y5 =>
    some y5
  ) else (
    Option.bind (
      if ¬ v2 = (v1 + (1 : Int32)) then (
        some (0 : Int64)
      ) else (
        Option.bind (aG (M_text m) 8 v1) fun x24 =>
        if ¬ x24 = v0 then (
          some (0 : Int64)
        ) else (
          some (1 : Int64)
        )
      )
     : Option Int64) fun y19 =>
    some y19
  )
set_option maxHeartbeats 4000000 in
set_option maxRecDepth 100000 in
theorem c_Md_sumOf {Z : rn_Z} {g1 g2 : Nat} {x : tX} {d : tD} {c : tC} {u : tU} {t : tT} {a : tG} {b : tG} {m : tM} {o : tO} {E : List rn_C} {v0 : Int32} {v1 : Int32} {v2 : Int32} {res : Int64} (h : F_Md_sumOf m v0 v1 v2 = some res) : Call Z M_Md_sumOf [.ref 53, .int v0, .int v1, .int v2] (emb g1 g2 x d c u t a b m o E) 0 0 (some (.long res)) (emb g1 g2 x d c u t a b m o E) := by
  unfold F_Md_sumOf at h
  refine rn_call (by decide) 0 (by exact Nat.le_of_ble_eq_true rfl) ?_
  show Rn Z M_Md_sumOf 0 [some (.ref 53), some (.int v0), some (.int v1), some (.int v2)] [] (emb g1 g2 x d c u t a b m o E) 0 0 _
  refine rn_aload_n (by exact dc_Md_sumOf 0 rfl) (by exact rfl) ?_
  refine rn_iload_n (by exact dc_Md_sumOf 1 rfl) (by exact rfl) ?_
  obtain ⟨x2, e1, h3⟩ := rn_bind h
  clear h
  refine rn_invV0 (by exact c_Md_isLetter e1) iv_Md_134 (by exact ⟨Nat.le_of_ble_eq_true rfl, Nat.le_of_ble_eq_true rfl⟩) (by exact dc_Md_sumOf 2 rfl) (by exact rfl) (by exact rfl) (by exact rfl) (by exact Nat.le_of_ble_eq_true rfl) ?_
  show Rn _ _ 5 [some (.ref 53), some (.int v0), some (.int v1), some (.int v2)] [.int x2] (emb g1 g2 x d c u t a b m o E) _ _ _
  by_cases c4 : x2 = 0
  · replace h3 := rn_ifp c4 h3
    refine rn_if_eq_t 31 (by exact dc_Md_sumOf 3 rfl) (by exact rfl) c4 ?_
    refine rn_iload_n (by exact dc_Md_sumOf 19 rfl) (by exact rfl) ?_
    refine rn_iload_n (by exact dc_Md_sumOf 20 rfl) (by exact rfl) ?_
    obtain ⟨y5, e6, h8⟩ := rn_bind h3
    clear h3
    have jq7 : Rn Z M_Md_sumOf 56 [none, none, none, none] [.long y5] (emb g1 g2 x d c u t a b m o E) 0 0 (rn_Ret Z (some (.long res)) (emb g1 g2 x d c u t a b m o E)) := by
      cases h8
      exact rn_lreturn (by exact dc_Md_sumOf 34 rfl) (by exact rfl)
    by_cases c9 : ¬ v1 = v2
    · replace e6 := rn_ifp c9 e6
      refine rn_icmp_ne_t 45 (by exact dc_Md_sumOf 21 rfl) (by exact rfl) c9 ?_
      refine rn_aload_n (by exact dc_Md_sumOf 27 rfl) (by exact rfl) ?_
      refine rn_getf (v := .ref 66) fd_Md_47 (by exact dc_Md_sumOf 28 rfl) (by exact rfl) (by exact rfl) ?_
      refine rn_iload_n (by exact dc_Md_sumOf 29 rfl) (by exact rfl) ?_
      refine rn_iload_n (by exact dc_Md_sumOf 30 rfl) (by exact rfl) ?_
      refine rn_iload_n (by exact dc_Md_sumOf 31 rfl) (by exact rfl) ?_
      obtain ⟨x11, e10, h12⟩ := rn_bind e6
      clear e6
      refine rn_invS0 (by exact c_Md_cell e10) is_Md_181 (by exact ⟨Nat.le_of_ble_eq_true rfl, Nat.le_of_ble_eq_true rfl⟩) (by exact dc_Md_sumOf 32 rfl) (by exact rfl) (by exact rfl) (by exact Nat.le_of_ble_eq_true rfl) ?_
      show Rn _ _ 55 [some (.ref 53), some (.int v0), some (.int v1), some (.int v2)] [.int x11, .ref 66] (emb g1 g2 x d c u t a b m o E) _ _ _
      obtain ⟨x13, e14, h15⟩ := rn_bind h12
      clear h12
      refine rn_laload (by exact dc_Md_sumOf 33 rfl) (by exact rfl) e14 ?_
      cases h15
      exact rn_weak _ (by repeat (first | exact rn_le_0 | apply rn_le_s | apply rn_le_x)) jq7
    · replace e6 := rn_ifn c9 e6
      refine rn_icmp_ne_f 45 (by exact dc_Md_sumOf 21 rfl) (by exact rfl) (Classical.not_not.mp c9) ?_
      refine rn_aload_n (by exact dc_Md_sumOf 22 rfl) (by exact rfl) ?_
      refine rn_getf (v := .ref 64) fd_Md_41 (by exact dc_Md_sumOf 23 rfl) (by exact rfl) (by exact rfl) ?_
      refine rn_iload_n (by exact dc_Md_sumOf 24 rfl) (by exact rfl) ?_
      obtain ⟨x16, e17, h18⟩ := rn_bind e6
      clear e6
      refine rn_laload (by exact dc_Md_sumOf 25 rfl) (by exact rfl) e17 ?_
      refine rn_goto 56 (by exact dc_Md_sumOf 26 rfl) (by exact rfl) ?_
      cases h18
      exact rn_weak _ (by repeat (first | exact rn_le_0 | apply rn_le_s | apply rn_le_x)) jq7
  · replace h3 := rn_ifn c4 h3
    refine rn_if_eq_f 31 (by exact dc_Md_sumOf 3 rfl) (by exact rfl) c4 ?_
    refine rn_iload_n (by exact dc_Md_sumOf 4 rfl) (by exact rfl) ?_
    refine rn_iload_n (by exact dc_Md_sumOf 5 rfl) (by exact rfl) ?_
    refine rn_iconst (v := (1 : Int32)) (by exact dc_Md_sumOf 6 rfl) (by decide) ?_
    refine rn_iadd (by exact dc_Md_sumOf 7 rfl) ?_
    obtain ⟨y19, e20, h22⟩ := rn_bind h3
    clear h3
    have jq21 : Rn Z M_Md_sumOf 30 [none, none, none, none] [.long y19] (emb g1 g2 x d c u t a b m o E) 0 0 (rn_Ret Z (some (.long res)) (emb g1 g2 x d c u t a b m o E)) := by
      cases h22
      exact rn_lreturn (by exact dc_Md_sumOf 18 rfl) (by exact rfl)
    by_cases c23 : ¬ v2 = (v1 + (1 : Int32))
    · replace e20 := rn_ifp c23 e20
      refine rn_icmp_ne_t 29 (by exact dc_Md_sumOf 8 rfl) (by exact rfl) c23 ?_
      refine rn_lconst (v := (0 : Int64)) (by exact dc_Md_sumOf 17 rfl) (by decide) ?_
      cases e20
      exact rn_weak _ (by repeat (first | exact rn_le_0 | apply rn_le_s | apply rn_le_x)) jq21
    · replace e20 := rn_ifn c23 e20
      refine rn_icmp_ne_f 29 (by exact dc_Md_sumOf 8 rfl) (by exact rfl) (Classical.not_not.mp c23) ?_
      refine rn_aload_n (by exact dc_Md_sumOf 9 rfl) (by exact rfl) ?_
      refine rn_getf (v := .ref 63) fd_Md_38 (by exact dc_Md_sumOf 10 rfl) (by exact rfl) (by exact rfl) ?_
      refine rn_iload_n (by exact dc_Md_sumOf 11 rfl) (by exact rfl) ?_
      obtain ⟨x24, e25, h26⟩ := rn_bind e20
      clear e20
      refine rn_iaload (by exact dc_Md_sumOf 12 rfl) (by exact rfl) e25 ?_
      refine rn_iload_n (by exact dc_Md_sumOf 13 rfl) (by exact rfl) ?_
      by_cases c27 : ¬ x24 = v0
      · replace h26 := rn_ifp c27 h26
        refine rn_icmp_ne_t 29 (by exact dc_Md_sumOf 14 rfl) (by exact rfl) c27 ?_
        refine rn_lconst (v := (0 : Int64)) (by exact dc_Md_sumOf 17 rfl) (by decide) ?_
        cases h26
        exact rn_weak _ (by repeat (first | exact rn_le_0 | apply rn_le_s | apply rn_le_x)) jq21
      · replace h26 := rn_ifn c27 h26
        refine rn_icmp_ne_f 29 (by exact dc_Md_sumOf 14 rfl) (by exact rfl) (Classical.not_not.mp c27) ?_
        refine rn_lconst (v := (1 : Int64)) (by exact dc_Md_sumOf 15 rfl) (by decide) ?_
        refine rn_goto 30 (by exact dc_Md_sumOf 16 rfl) (by exact rfl) ?_
        cases h26
        exact rn_weak _ (by repeat (first | exact rn_le_0 | apply rn_le_s | apply rn_le_x)) jq21
def F_Md_costOf (m : tM) (v0 : Int32) (v1 : Int32) (v2 : Int32) : Option Int32 :=
  Option.bind (F_Md_isLetter  v0) fun x2 =>
  if x2 = 0 then (
    Option.bind (
      if ¬ v1 = v2 then (
        Option.bind (F_Md_cell  v0 v1 v2) fun x11 =>
        Option.bind (aG (M_least m) 486 x11) fun x13 =>
        some (x13 : Int32)
      ) else (
        Option.bind (aG (M_emptyCost m) 6 v0) fun x16 =>
        some (x16 : Int32)
      )
     : Option Int32) fun y5 =>
    some y5
  ) else (
    Option.bind (
      if ¬ v2 = (v1 + (1 : Int32)) then (
        some (-1 : Int32)
      ) else (
        Option.bind (aG (M_text m) 8 v1) fun x24 =>
        if ¬ x24 = v0 then (
          some (-1 : Int32)
        ) else (
          some (0 : Int32)
        )
      )
     : Option Int32) fun y19 =>
    some y19
  )
set_option maxHeartbeats 4000000 in
set_option maxRecDepth 100000 in
theorem c_Md_costOf {Z : rn_Z} {g1 g2 : Nat} {x : tX} {d : tD} {c : tC} {u : tU} {t : tT} {a : tG} {b : tG} {m : tM} {o : tO} {E : List rn_C} {v0 : Int32} {v1 : Int32} {v2 : Int32} {res : Int32} (h : F_Md_costOf m v0 v1 v2 = some res) : Call Z M_Md_costOf [.ref 53, .int v0, .int v1, .int v2] (emb g1 g2 x d c u t a b m o E) 0 0 (some (.int res)) (emb g1 g2 x d c u t a b m o E) := by
  unfold F_Md_costOf at h
  refine rn_call (by decide) 0 (by exact Nat.le_of_ble_eq_true rfl) ?_
  show Rn Z M_Md_costOf 0 [some (.ref 53), some (.int v0), some (.int v1), some (.int v2)] [] (emb g1 g2 x d c u t a b m o E) 0 0 _
  refine rn_aload_n (by exact dc_Md_costOf 0 rfl) (by exact rfl) ?_
  refine rn_iload_n (by exact dc_Md_costOf 1 rfl) (by exact rfl) ?_
  obtain ⟨x2, e1, h3⟩ := rn_bind h
  clear h
  refine rn_invV0 (by exact c_Md_isLetter e1) iv_Md_134 (by exact ⟨Nat.le_of_ble_eq_true rfl, Nat.le_of_ble_eq_true rfl⟩) (by exact dc_Md_costOf 2 rfl) (by exact rfl) (by exact rfl) (by exact rfl) (by exact Nat.le_of_ble_eq_true rfl) ?_
  show Rn _ _ 5 [some (.ref 53), some (.int v0), some (.int v1), some (.int v2)] [.int x2] (emb g1 g2 x d c u t a b m o E) _ _ _
  by_cases c4 : x2 = 0
  · replace h3 := rn_ifp c4 h3
    refine rn_if_eq_t 31 (by exact dc_Md_costOf 3 rfl) (by exact rfl) c4 ?_
    refine rn_iload_n (by exact dc_Md_costOf 19 rfl) (by exact rfl) ?_
    refine rn_iload_n (by exact dc_Md_costOf 20 rfl) (by exact rfl) ?_
    obtain ⟨y5, e6, h8⟩ := rn_bind h3
    clear h3
    have jq7 : Rn Z M_Md_costOf 56 [none, none, none, none] [.int y5] (emb g1 g2 x d c u t a b m o E) 0 0 (rn_Ret Z (some (.int res)) (emb g1 g2 x d c u t a b m o E)) := by
      cases h8
      exact rn_ireturn (by exact dc_Md_costOf 34 rfl) (by exact rfl)
    by_cases c9 : ¬ v1 = v2
    · replace e6 := rn_ifp c9 e6
      refine rn_icmp_ne_t 45 (by exact dc_Md_costOf 21 rfl) (by exact rfl) c9 ?_
      refine rn_aload_n (by exact dc_Md_costOf 27 rfl) (by exact rfl) ?_
      refine rn_getf (v := .ref 67) fd_Md_50 (by exact dc_Md_costOf 28 rfl) (by exact rfl) (by exact rfl) ?_
      refine rn_iload_n (by exact dc_Md_costOf 29 rfl) (by exact rfl) ?_
      refine rn_iload_n (by exact dc_Md_costOf 30 rfl) (by exact rfl) ?_
      refine rn_iload_n (by exact dc_Md_costOf 31 rfl) (by exact rfl) ?_
      obtain ⟨x11, e10, h12⟩ := rn_bind e6
      clear e6
      refine rn_invS0 (by exact c_Md_cell e10) is_Md_181 (by exact ⟨Nat.le_of_ble_eq_true rfl, Nat.le_of_ble_eq_true rfl⟩) (by exact dc_Md_costOf 32 rfl) (by exact rfl) (by exact rfl) (by exact Nat.le_of_ble_eq_true rfl) ?_
      show Rn _ _ 55 [some (.ref 53), some (.int v0), some (.int v1), some (.int v2)] [.int x11, .ref 67] (emb g1 g2 x d c u t a b m o E) _ _ _
      obtain ⟨x13, e14, h15⟩ := rn_bind h12
      clear h12
      refine rn_iaload (by exact dc_Md_costOf 33 rfl) (by exact rfl) e14 ?_
      cases h15
      exact rn_weak _ (by repeat (first | exact rn_le_0 | apply rn_le_s | apply rn_le_x)) jq7
    · replace e6 := rn_ifn c9 e6
      refine rn_icmp_ne_f 45 (by exact dc_Md_costOf 21 rfl) (by exact rfl) (Classical.not_not.mp c9) ?_
      refine rn_aload_n (by exact dc_Md_costOf 22 rfl) (by exact rfl) ?_
      refine rn_getf (v := .ref 65) fd_Md_44 (by exact dc_Md_costOf 23 rfl) (by exact rfl) (by exact rfl) ?_
      refine rn_iload_n (by exact dc_Md_costOf 24 rfl) (by exact rfl) ?_
      obtain ⟨x16, e17, h18⟩ := rn_bind e6
      clear e6
      refine rn_iaload (by exact dc_Md_costOf 25 rfl) (by exact rfl) e17 ?_
      refine rn_goto 56 (by exact dc_Md_costOf 26 rfl) (by exact rfl) ?_
      cases h18
      exact rn_weak _ (by repeat (first | exact rn_le_0 | apply rn_le_s | apply rn_le_x)) jq7
  · replace h3 := rn_ifn c4 h3
    refine rn_if_eq_f 31 (by exact dc_Md_costOf 3 rfl) (by exact rfl) c4 ?_
    refine rn_iload_n (by exact dc_Md_costOf 4 rfl) (by exact rfl) ?_
    refine rn_iload_n (by exact dc_Md_costOf 5 rfl) (by exact rfl) ?_
    refine rn_iconst (v := (1 : Int32)) (by exact dc_Md_costOf 6 rfl) (by decide) ?_
    refine rn_iadd (by exact dc_Md_costOf 7 rfl) ?_
    obtain ⟨y19, e20, h22⟩ := rn_bind h3
    clear h3
    have jq21 : Rn Z M_Md_costOf 30 [none, none, none, none] [.int y19] (emb g1 g2 x d c u t a b m o E) 0 0 (rn_Ret Z (some (.int res)) (emb g1 g2 x d c u t a b m o E)) := by
      cases h22
      exact rn_ireturn (by exact dc_Md_costOf 18 rfl) (by exact rfl)
    by_cases c23 : ¬ v2 = (v1 + (1 : Int32))
    · replace e20 := rn_ifp c23 e20
      refine rn_icmp_ne_t 29 (by exact dc_Md_costOf 8 rfl) (by exact rfl) c23 ?_
      refine rn_iconst (v := (-1 : Int32)) (by exact dc_Md_costOf 17 rfl) (by decide) ?_
      cases e20
      exact rn_weak _ (by repeat (first | exact rn_le_0 | apply rn_le_s | apply rn_le_x)) jq21
    · replace e20 := rn_ifn c23 e20
      refine rn_icmp_ne_f 29 (by exact dc_Md_costOf 8 rfl) (by exact rfl) (Classical.not_not.mp c23) ?_
      refine rn_aload_n (by exact dc_Md_costOf 9 rfl) (by exact rfl) ?_
      refine rn_getf (v := .ref 63) fd_Md_38 (by exact dc_Md_costOf 10 rfl) (by exact rfl) (by exact rfl) ?_
      refine rn_iload_n (by exact dc_Md_costOf 11 rfl) (by exact rfl) ?_
      obtain ⟨x24, e25, h26⟩ := rn_bind e20
      clear e20
      refine rn_iaload (by exact dc_Md_costOf 12 rfl) (by exact rfl) e25 ?_
      refine rn_iload_n (by exact dc_Md_costOf 13 rfl) (by exact rfl) ?_
      by_cases c27 : ¬ x24 = v0
      · replace h26 := rn_ifp c27 h26
        refine rn_icmp_ne_t 29 (by exact dc_Md_costOf 14 rfl) (by exact rfl) c27 ?_
        refine rn_iconst (v := (-1 : Int32)) (by exact dc_Md_costOf 17 rfl) (by decide) ?_
        cases h26
        exact rn_weak _ (by repeat (first | exact rn_le_0 | apply rn_le_s | apply rn_le_x)) jq21
      · replace h26 := rn_ifn c27 h26
        refine rn_icmp_ne_f 29 (by exact dc_Md_costOf 14 rfl) (by exact rfl) (Classical.not_not.mp c27) ?_
        refine rn_iconst (v := (0 : Int32)) (by exact dc_Md_costOf 15 rfl) (by decide) ?_
        refine rn_goto 30 (by exact dc_Md_costOf 16 rfl) (by exact rfl) ?_
        cases h26
        exact rn_weak _ (by repeat (first | exact rn_le_0 | apply rn_le_s | apply rn_le_x)) jq21
def F_Md_bodySum_L3 (l1 : Int32) (l2 : Int32) (l3 : Int32) : Nat → tM → Int32 → Option tM
  | 0, _, _ => none
  | n + 1, m, l4 =>
    if l3 < l4 then (
      some m
    ) else (
      Option.bind (
        if ¬ l4 = l2 then (
          some (0 : Int64)
        ) else (
          some (1 : Int64)
        )
       : Option Int64) fun y2 =>
      Option.bind (aS (M_upTo m) 10 l4 y2) fun f7 =>
      F_Md_bodySum_L3 l1 l2 l3 n (M_put_upTo m f7) (l4 + 1)
    )
set_option maxHeartbeats 4000000 in
set_option maxRecDepth 100000 in
theorem p_Md_bodySum_L3 {Z : rn_Z} {g1 g2 : Nat} {x : tX} {d : tD} {c : tC} {u : tU} {t : tT} {a : tG} {b : tG}  {o : tO} {E : List rn_C}  {l1 : Int32} {l2 : Int32} {l3 : Int32} {K : rn_K} {ca sa : Nat} {mz : tM} (hx : Rn Z M_Md_bodySum 33 [some (.ref 53), some (.int l1), some (.int l2), some (.int l3), none, none, none] [] (emb g1 g2 x d c u t a b mz o E) ca sa K) (n : Nat) : ∀ (m : tM) (l4 : Int32), F_Md_bodySum_L3 l1 l2 l3 n m l4 = some mz → Rn Z M_Md_bodySum 3 [some (.ref 53), some (.int l1), some (.int l2), some (.int l3), some (.int l4), none, none] [] (emb g1 g2 x d c u t a b m o E) ca sa K := by
  induction n with
  | zero =>
    intro m l4 h
    rw [F_Md_bodySum_L3] at h
    cases h
  | succ n ih =>
    intro m l4 h
    rw [F_Md_bodySum_L3] at h
    refine rn_iload (by exact dc_Md_bodySum 2 rfl) (by exact rfl) ?_
    refine rn_iload_n (by exact dc_Md_bodySum 3 rfl) (by exact rfl) ?_
    by_cases c1 : l3 < l4
    · replace h := rn_ifp c1 h
      refine rn_icmp_gt_t 33 (by exact dc_Md_bodySum 4 rfl) (by exact rfl) c1 ?_
      cases h
      exact rn_weak _ (by repeat (first | exact rn_le_0 | apply rn_le_s | apply rn_le_x)) hx
    · replace h := rn_ifn c1 h
      refine rn_icmp_gt_f 33 (by exact dc_Md_bodySum 4 rfl) (by exact rfl) c1 ?_
      refine rn_aload_n (by exact dc_Md_bodySum 5 rfl) (by exact rfl) ?_
      refine rn_getf (v := .ref 69) fd_Md_56 (by exact dc_Md_bodySum 6 rfl) (by exact rfl) (by exact rfl) ?_
      refine rn_iload (by exact dc_Md_bodySum 7 rfl) (by exact rfl) ?_
      refine rn_iload (by exact dc_Md_bodySum 8 rfl) (by exact rfl) ?_
      refine rn_iload_n (by exact dc_Md_bodySum 9 rfl) (by exact rfl) ?_
      obtain ⟨y2, e3, h5⟩ := rn_bind h
      clear h
      have jq4 : Rn Z M_Md_bodySum 26 [some (.ref 53), some (.int l1), some (.int l2), some (.int l3), some (.int l4), none, none] [.long y2, .int l4, .ref 69] (emb g1 g2 x d c u t a b m o E) ca sa K := by
        obtain ⟨f7, e8, h9⟩ := rn_bind h5
        clear h5
        refine rn_lastore (w2 := (emb g1 g2 x d c u t a b (M_put_upTo m f7) o E)) (by exact dc_Md_bodySum 14 rfl) (by exact rfl) e8 (by exact sm_upTo) ?_
        refine rn_iinc (ls' := [some (.ref 53), some (.int l1), some (.int l2), some (.int l3), some (.int (l4 + 1)), none, none]) (by exact dc_Md_bodySum 15 rfl) (by decide) (by exact rfl) (by exact rn_inc_1 _) (by exact rfl) ?_
        refine rn_goto 3 (by exact dc_Md_bodySum 16 rfl) (by exact rfl) ?_
        exact rn_weak _ (by repeat (first | exact rn_le_0 | apply rn_le_s | apply rn_le_x)) (ih _ _ h9)
      by_cases c6 : ¬ l4 = l2
      · replace e3 := rn_ifp c6 e3
        refine rn_icmp_ne_t 25 (by exact dc_Md_bodySum 10 rfl) (by exact rfl) c6 ?_
        refine rn_lconst (v := (0 : Int64)) (by exact dc_Md_bodySum 13 rfl) (by decide) ?_
        cases e3
        exact rn_weak _ (by repeat (first | exact rn_le_0 | apply rn_le_s | apply rn_le_x)) jq4
      · replace e3 := rn_ifn c6 e3
        refine rn_icmp_ne_f 25 (by exact dc_Md_bodySum 10 rfl) (by exact rfl) (Classical.not_not.mp c6) ?_
        refine rn_lconst (v := (1 : Int64)) (by exact dc_Md_bodySum 11 rfl) (by decide) ?_
        refine rn_goto 26 (by exact dc_Md_bodySum 12 rfl) (by exact rfl) ?_
        cases e3
        exact rn_weak _ (by repeat (first | exact rn_le_0 | apply rn_le_s | apply rn_le_x)) jq4
def F_Md_bodySum_L67 (l1 : Int32) (l2 : Int32) (l3 : Int32) (l4 : Int32) (l5 : Int32) : Nat → tM → Int32 → Option tM
  | 0, _, _ => none
  | n + 1, m, l6 =>
    if l5 < l6 then (
      some m
    ) else (
      Option.bind (aG (M_upToNext m) 10 l5) fun x2 =>
      Option.bind (aG (M_upTo m) 10 l6) fun x5 =>
      Option.bind (aG (M_bodies m) 48 (((4 : Int32) * l1) + l4)) fun x8 =>
      Option.bind (F_Md_sumOf m x8 l6 l5) fun x12 =>
      Option.bind (aS (M_upToNext m) 10 l5 (x2 + (x5 * x12))) fun f14 =>
      F_Md_bodySum_L67 l1 l2 l3 l4 l5 n (M_put_upToNext m f14) (l6 + 1)
    )
set_option maxHeartbeats 4000000 in
set_option maxRecDepth 100000 in
theorem p_Md_bodySum_L67 {Z : rn_Z} {g1 g2 : Nat} {x : tX} {d : tD} {c : tC} {u : tU} {t : tT} {a : tG} {b : tG}  {o : tO} {E : List rn_C}  {l1 : Int32} {l2 : Int32} {l3 : Int32} {l4 : Int32} {l5 : Int32} {K : rn_K} {ca sa : Nat} {mz : tM} (hx : Rn Z M_Md_bodySum 122 [some (.ref 53), some (.int l1), some (.int l2), some (.int l3), some (.int l4), some (.int l5), none] [] (emb g1 g2 x d c u t a b mz o E) ca sa K) (n : Nat) : ∀ (m : tM) (l6 : Int32), F_Md_bodySum_L67 l1 l2 l3 l4 l5 n m l6 = some mz → Rn Z M_Md_bodySum 67 [some (.ref 53), some (.int l1), some (.int l2), some (.int l3), some (.int l4), some (.int l5), some (.int l6)] [] (emb g1 g2 x d c u t a b m o E) ca sa K := by
  induction n with
  | zero =>
    intro m l6 h
    rw [F_Md_bodySum_L67] at h
    cases h
  | succ n ih =>
    intro m l6 h
    rw [F_Md_bodySum_L67] at h
    refine rn_iload (by exact dc_Md_bodySum 37 rfl) (by exact rfl) ?_
    refine rn_iload (by exact dc_Md_bodySum 38 rfl) (by exact rfl) ?_
    by_cases c1 : l5 < l6
    · replace h := rn_ifp c1 h
      refine rn_icmp_gt_t 122 (by exact dc_Md_bodySum 39 rfl) (by exact rfl) c1 ?_
      cases h
      exact rn_weak _ (by repeat (first | exact rn_le_0 | apply rn_le_s | apply rn_le_x)) hx
    · replace h := rn_ifn c1 h
      refine rn_icmp_gt_f 122 (by exact dc_Md_bodySum 39 rfl) (by exact rfl) c1 ?_
      refine rn_aload_n (by exact dc_Md_bodySum 40 rfl) (by exact rfl) ?_
      refine rn_getf (v := .ref 70) fd_Md_59 (by exact dc_Md_bodySum 41 rfl) (by exact rfl) (by exact rfl) ?_
      refine rn_iload (by exact dc_Md_bodySum 42 rfl) (by exact rfl) ?_
      refine rn_aload_n (by exact dc_Md_bodySum 43 rfl) (by exact rfl) ?_
      refine rn_getf (v := .ref 70) fd_Md_59 (by exact dc_Md_bodySum 44 rfl) (by exact rfl) (by exact rfl) ?_
      refine rn_iload (by exact dc_Md_bodySum 45 rfl) (by exact rfl) ?_
      obtain ⟨x2, e3, h4⟩ := rn_bind h
      clear h
      refine rn_laload (by exact dc_Md_bodySum 46 rfl) (by exact rfl) e3 ?_
      refine rn_aload_n (by exact dc_Md_bodySum 47 rfl) (by exact rfl) ?_
      refine rn_getf (v := .ref 69) fd_Md_56 (by exact dc_Md_bodySum 48 rfl) (by exact rfl) (by exact rfl) ?_
      refine rn_iload (by exact dc_Md_bodySum 49 rfl) (by exact rfl) ?_
      obtain ⟨x5, e6, h7⟩ := rn_bind h4
      clear h4
      refine rn_laload (by exact dc_Md_bodySum 50 rfl) (by exact rfl) e6 ?_
      refine rn_aload_n (by exact dc_Md_bodySum 51 rfl) (by exact rfl) ?_
      refine rn_aload_n (by exact dc_Md_bodySum 52 rfl) (by exact rfl) ?_
      refine rn_getf (v := .ref 59) fd_Md_25 (by exact dc_Md_bodySum 53 rfl) (by exact rfl) (by exact rfl) ?_
      refine rn_iconst (v := (4 : Int32)) (by exact dc_Md_bodySum 54 rfl) (by decide) ?_
      refine rn_iload_n (by exact dc_Md_bodySum 55 rfl) (by exact rfl) ?_
      refine rn_imul (by exact dc_Md_bodySum 56 rfl) ?_
      refine rn_iload (by exact dc_Md_bodySum 57 rfl) (by exact rfl) ?_
      refine rn_iadd (by exact dc_Md_bodySum 58 rfl) ?_
      obtain ⟨x8, e9, h10⟩ := rn_bind h7
      clear h7
      refine rn_iaload (by exact dc_Md_bodySum 59 rfl) (by exact rfl) e9 ?_
      refine rn_iload (by exact dc_Md_bodySum 60 rfl) (by exact rfl) ?_
      refine rn_iload (by exact dc_Md_bodySum 61 rfl) (by exact rfl) ?_
      obtain ⟨x12, e11, h13⟩ := rn_bind h10
      clear h10
      refine rn_invV0 (by exact c_Md_sumOf e11) iv_Md_185 (by exact ⟨Nat.le_of_ble_eq_true rfl, Nat.le_of_ble_eq_true rfl⟩) (by exact dc_Md_bodySum 62 rfl) (by exact rfl) (by exact rfl) (by exact rfl) (by exact Nat.le_of_ble_eq_true rfl) ?_
      show Rn _ _ 113 [some (.ref 53), some (.int l1), some (.int l2), some (.int l3), some (.int l4), some (.int l5), some (.int l6)] [.long x12, .long x5, .long x2, .int l5, .ref 70] (emb g1 g2 x d c u t a b m o E) _ _ _
      refine rn_lmul (by exact dc_Md_bodySum 63 rfl) ?_
      refine rn_ladd (by exact dc_Md_bodySum 64 rfl) ?_
      obtain ⟨f14, e15, h16⟩ := rn_bind h13
      clear h13
      refine rn_lastore (w2 := (emb g1 g2 x d c u t a b (M_put_upToNext m f14) o E)) (by exact dc_Md_bodySum 65 rfl) (by exact rfl) e15 (by exact sm_upToNext) ?_
      refine rn_iinc (ls' := [some (.ref 53), some (.int l1), some (.int l2), some (.int l3), some (.int l4), some (.int l5), some (.int (l6 + 1))]) (by exact dc_Md_bodySum 66 rfl) (by decide) (by exact rfl) (by exact rn_inc_1 _) (by exact rfl) ?_
      refine rn_goto 67 (by exact dc_Md_bodySum 67 rfl) (by exact rfl) ?_
      exact rn_weak _ (by repeat (first | exact rn_le_0 | apply rn_le_s | apply rn_le_x)) (ih _ _ h16)
def F_Md_bodySum_L50 (l1 : Int32) (l2 : Int32) (l3 : Int32) (l4 : Int32) : Nat → tM → Int32 → Option tM
  | 0, _, _ => none
  | n + 1, m, l5 =>
    if l3 < l5 then (
      some m
    ) else (
      Option.bind (aS (M_upToNext m) 10 l5 (0 : Int64)) fun f2 =>
      Option.bind (F_Md_bodySum_L67 l1 l2 l3 l4 l5 rn_fu (M_put_upToNext m f2) l2) fun m8 =>
      F_Md_bodySum_L50 l1 l2 l3 l4 n m8 (l5 + 1)
    )
set_option maxHeartbeats 4000000 in
set_option maxRecDepth 100000 in
theorem p_Md_bodySum_L50 {Z : rn_Z} {g1 g2 : Nat} {x : tX} {d : tD} {c : tC} {u : tU} {t : tT} {a : tG} {b : tG}  {o : tO} {E : List rn_C}  {l1 : Int32} {l2 : Int32} {l3 : Int32} {l4 : Int32} {K : rn_K} {ca sa : Nat} {mz : tM} (hx : Rn Z M_Md_bodySum 128 [some (.ref 53), some (.int l1), some (.int l2), some (.int l3), some (.int l4), none, none] [] (emb g1 g2 x d c u t a b mz o E) ca sa K) (n : Nat) : ∀ (m : tM) (l5 : Int32), F_Md_bodySum_L50 l1 l2 l3 l4 n m l5 = some mz → Rn Z M_Md_bodySum 50 [some (.ref 53), some (.int l1), some (.int l2), some (.int l3), some (.int l4), some (.int l5), none] [] (emb g1 g2 x d c u t a b m o E) ca sa K := by
  induction n with
  | zero =>
    intro m l5 h
    rw [F_Md_bodySum_L50] at h
    cases h
  | succ n ih =>
    intro m l5 h
    rw [F_Md_bodySum_L50] at h
    refine rn_iload (by exact dc_Md_bodySum 27 rfl) (by exact rfl) ?_
    refine rn_iload_n (by exact dc_Md_bodySum 28 rfl) (by exact rfl) ?_
    by_cases c1 : l3 < l5
    · replace h := rn_ifp c1 h
      refine rn_icmp_gt_t 128 (by exact dc_Md_bodySum 29 rfl) (by exact rfl) c1 ?_
      cases h
      exact rn_weak _ (by repeat (first | exact rn_le_0 | apply rn_le_s | apply rn_le_x)) hx
    · replace h := rn_ifn c1 h
      refine rn_icmp_gt_f 128 (by exact dc_Md_bodySum 29 rfl) (by exact rfl) c1 ?_
      refine rn_aload_n (by exact dc_Md_bodySum 30 rfl) (by exact rfl) ?_
      refine rn_getf (v := .ref 70) fd_Md_59 (by exact dc_Md_bodySum 31 rfl) (by exact rfl) (by exact rfl) ?_
      refine rn_iload (by exact dc_Md_bodySum 32 rfl) (by exact rfl) ?_
      refine rn_lconst (v := (0 : Int64)) (by exact dc_Md_bodySum 33 rfl) (by decide) ?_
      obtain ⟨f2, e3, h4⟩ := rn_bind h
      clear h
      refine rn_lastore (w2 := (emb g1 g2 x d c u t a b (M_put_upToNext m f2) o E)) (by exact dc_Md_bodySum 34 rfl) (by exact rfl) e3 (by exact sm_upToNext) ?_
      refine rn_iload_n (by exact dc_Md_bodySum 35 rfl) (by exact rfl) ?_
      refine rn_istore (ls' := [some (.ref 53), some (.int l1), some (.int l2), some (.int l3), some (.int l4), some (.int l5), some (.int l2)]) (by exact dc_Md_bodySum 36 rfl) (by decide) (by exact rfl) ?_
      obtain ⟨m8, e5, h7⟩ := rn_bind h4
      clear h4
      have jx6 : Rn Z M_Md_bodySum 122 [some (.ref 53), some (.int l1), some (.int l2), some (.int l3), some (.int l4), some (.int l5), none] [] (emb g1 g2 x d c u t a b m8 o E) ca sa K := by
        refine rn_iinc (ls' := [some (.ref 53), some (.int l1), some (.int l2), some (.int l3), some (.int l4), some (.int (l5 + 1)), none]) (by exact dc_Md_bodySum 68 rfl) (by decide) (by exact rfl) (by exact rn_inc_1 _) (by exact rfl) ?_
        refine rn_goto 50 (by exact dc_Md_bodySum 69 rfl) (by exact rfl) ?_
        exact rn_weak _ (by repeat (first | exact rn_le_0 | apply rn_le_s | apply rn_le_x)) (ih _ _ h7)
      exact rn_weak _ (by repeat (first | exact rn_le_0 | apply rn_le_s | apply rn_le_x)) (p_Md_bodySum_L67 jx6 _ _ _ e5)
def F_Md_bodySum_L131 (l1 : Int32) (l2 : Int32) (l3 : Int32) (l4 : Int32) : Nat → tM → Int32 → Option tM
  | 0, _, _ => none
  | n + 1, m, l5 =>
    if l3 < l5 then (
      some m
    ) else (
      Option.bind (aG (M_upToNext m) 10 l5) fun x2 =>
      Option.bind (aS (M_upTo m) 10 l5 x2) fun f5 =>
      F_Md_bodySum_L131 l1 l2 l3 l4 n (M_put_upTo m f5) (l5 + 1)
    )
set_option maxHeartbeats 4000000 in
set_option maxRecDepth 100000 in
theorem p_Md_bodySum_L131 {Z : rn_Z} {g1 g2 : Nat} {x : tX} {d : tD} {c : tC} {u : tU} {t : tT} {a : tG} {b : tG}  {o : tO} {E : List rn_C}  {l1 : Int32} {l2 : Int32} {l3 : Int32} {l4 : Int32} {K : rn_K} {ca sa : Nat} {mz : tM} (hx : Rn Z M_Md_bodySum 157 [some (.ref 53), some (.int l1), some (.int l2), some (.int l3), some (.int l4), none, none] [] (emb g1 g2 x d c u t a b mz o E) ca sa K) (n : Nat) : ∀ (m : tM) (l5 : Int32), F_Md_bodySum_L131 l1 l2 l3 l4 n m l5 = some mz → Rn Z M_Md_bodySum 131 [some (.ref 53), some (.int l1), some (.int l2), some (.int l3), some (.int l4), some (.int l5), none] [] (emb g1 g2 x d c u t a b m o E) ca sa K := by
  induction n with
  | zero =>
    intro m l5 h
    rw [F_Md_bodySum_L131] at h
    cases h
  | succ n ih =>
    intro m l5 h
    rw [F_Md_bodySum_L131] at h
    refine rn_iload (by exact dc_Md_bodySum 72 rfl) (by exact rfl) ?_
    refine rn_iload_n (by exact dc_Md_bodySum 73 rfl) (by exact rfl) ?_
    by_cases c1 : l3 < l5
    · replace h := rn_ifp c1 h
      refine rn_icmp_gt_t 157 (by exact dc_Md_bodySum 74 rfl) (by exact rfl) c1 ?_
      cases h
      exact rn_weak _ (by repeat (first | exact rn_le_0 | apply rn_le_s | apply rn_le_x)) hx
    · replace h := rn_ifn c1 h
      refine rn_icmp_gt_f 157 (by exact dc_Md_bodySum 74 rfl) (by exact rfl) c1 ?_
      refine rn_aload_n (by exact dc_Md_bodySum 75 rfl) (by exact rfl) ?_
      refine rn_getf (v := .ref 69) fd_Md_56 (by exact dc_Md_bodySum 76 rfl) (by exact rfl) (by exact rfl) ?_
      refine rn_iload (by exact dc_Md_bodySum 77 rfl) (by exact rfl) ?_
      refine rn_aload_n (by exact dc_Md_bodySum 78 rfl) (by exact rfl) ?_
      refine rn_getf (v := .ref 70) fd_Md_59 (by exact dc_Md_bodySum 79 rfl) (by exact rfl) (by exact rfl) ?_
      refine rn_iload (by exact dc_Md_bodySum 80 rfl) (by exact rfl) ?_
      obtain ⟨x2, e3, h4⟩ := rn_bind h
      clear h
      refine rn_laload (by exact dc_Md_bodySum 81 rfl) (by exact rfl) e3 ?_
      obtain ⟨f5, e6, h7⟩ := rn_bind h4
      clear h4
      refine rn_lastore (w2 := (emb g1 g2 x d c u t a b (M_put_upTo m f5) o E)) (by exact dc_Md_bodySum 82 rfl) (by exact rfl) e6 (by exact sm_upTo) ?_
      refine rn_iinc (ls' := [some (.ref 53), some (.int l1), some (.int l2), some (.int l3), some (.int l4), some (.int (l5 + 1)), none]) (by exact dc_Md_bodySum 83 rfl) (by decide) (by exact rfl) (by exact rn_inc_1 _) (by exact rfl) ?_
      refine rn_goto 131 (by exact dc_Md_bodySum 84 rfl) (by exact rfl) ?_
      exact rn_weak _ (by repeat (first | exact rn_le_0 | apply rn_le_s | apply rn_le_x)) (ih _ _ h7)
def F_Md_bodySum_L36 (l1 : Int32) (l2 : Int32) (l3 : Int32) : Nat → tM → Int32 → Option tM
  | 0, _, _ => none
  | n + 1, m, l4 =>
    Option.bind (aG (M_lengths m) 12 l1) fun x1 =>
    if x1 ≤ l4 then (
      some m
    ) else (
      Option.bind (F_Md_bodySum_L50 l1 l2 l3 l4 rn_fu m l2) fun m8 =>
      Option.bind (F_Md_bodySum_L131 l1 l2 l3 l4 rn_fu m8 l2) fun m12 =>
      F_Md_bodySum_L36 l1 l2 l3 n m12 (l4 + 1)
    )
set_option maxHeartbeats 4000000 in
set_option maxRecDepth 100000 in
theorem p_Md_bodySum_L36 {Z : rn_Z} {g1 g2 : Nat} {x : tX} {d : tD} {c : tC} {u : tU} {t : tT} {a : tG} {b : tG}  {o : tO} {E : List rn_C}  {l1 : Int32} {l2 : Int32} {l3 : Int32} {K : rn_K} {ca sa : Nat} {mz : tM} (hx : Rn Z M_Md_bodySum 163 [some (.ref 53), none, none, some (.int l3), none, none, none] [] (emb g1 g2 x d c u t a b mz o E) ca sa K) (n : Nat) : ∀ (m : tM) (l4 : Int32), F_Md_bodySum_L36 l1 l2 l3 n m l4 = some mz → Rn Z M_Md_bodySum 36 [some (.ref 53), some (.int l1), some (.int l2), some (.int l3), some (.int l4), none, none] [] (emb g1 g2 x d c u t a b m o E) ca sa K := by
  induction n with
  | zero =>
    intro m l4 h
    rw [F_Md_bodySum_L36] at h
    cases h
  | succ n ih =>
    intro m l4 h
    rw [F_Md_bodySum_L36] at h
    refine rn_iload (by exact dc_Md_bodySum 19 rfl) (by exact rfl) ?_
    refine rn_aload_n (by exact dc_Md_bodySum 20 rfl) (by exact rfl) ?_
    refine rn_getf (v := .ref 58) fd_Md_22 (by exact dc_Md_bodySum 21 rfl) (by exact rfl) (by exact rfl) ?_
    refine rn_iload_n (by exact dc_Md_bodySum 22 rfl) (by exact rfl) ?_
    obtain ⟨x1, e2, h3⟩ := rn_bind h
    clear h
    refine rn_iaload (by exact dc_Md_bodySum 23 rfl) (by exact rfl) e2 ?_
    by_cases c4 : x1 ≤ l4
    · replace h3 := rn_ifp c4 h3
      refine rn_icmp_ge_t 163 (by exact dc_Md_bodySum 24 rfl) (by exact rfl) c4 ?_
      cases h3
      exact rn_weak _ (by repeat (first | exact rn_le_0 | apply rn_le_s | apply rn_le_x)) hx
    · replace h3 := rn_ifn c4 h3
      refine rn_icmp_ge_f 163 (by exact dc_Md_bodySum 24 rfl) (by exact rfl) c4 ?_
      refine rn_iload_n (by exact dc_Md_bodySum 25 rfl) (by exact rfl) ?_
      refine rn_istore (ls' := [some (.ref 53), some (.int l1), some (.int l2), some (.int l3), some (.int l4), some (.int l2), none]) (by exact dc_Md_bodySum 26 rfl) (by decide) (by exact rfl) ?_
      obtain ⟨m8, e5, h7⟩ := rn_bind h3
      clear h3
      have jx6 : Rn Z M_Md_bodySum 128 [some (.ref 53), some (.int l1), some (.int l2), some (.int l3), some (.int l4), none, none] [] (emb g1 g2 x d c u t a b m8 o E) ca sa K := by
        refine rn_iload_n (by exact dc_Md_bodySum 70 rfl) (by exact rfl) ?_
        refine rn_istore (ls' := [some (.ref 53), some (.int l1), some (.int l2), some (.int l3), some (.int l4), some (.int l2), none]) (by exact dc_Md_bodySum 71 rfl) (by decide) (by exact rfl) ?_
        obtain ⟨m12, e9, h11⟩ := rn_bind h7
        clear h7
        have jx10 : Rn Z M_Md_bodySum 157 [some (.ref 53), some (.int l1), some (.int l2), some (.int l3), some (.int l4), none, none] [] (emb g1 g2 x d c u t a b m12 o E) ca sa K := by
          refine rn_iinc (ls' := [some (.ref 53), some (.int l1), some (.int l2), some (.int l3), some (.int (l4 + 1)), none, none]) (by exact dc_Md_bodySum 85 rfl) (by decide) (by exact rfl) (by exact rn_inc_1 _) (by exact rfl) ?_
          refine rn_goto 36 (by exact dc_Md_bodySum 86 rfl) (by exact rfl) ?_
          exact rn_weak _ (by repeat (first | exact rn_le_0 | apply rn_le_s | apply rn_le_x)) (ih _ _ h11)
        exact rn_weak _ (by repeat (first | exact rn_le_0 | apply rn_le_s | apply rn_le_x)) (p_Md_bodySum_L131 jx10 _ _ _ e9)
      exact rn_weak _ (by repeat (first | exact rn_le_0 | apply rn_le_s | apply rn_le_x)) (p_Md_bodySum_L50 jx6 _ _ _ e5)
def F_Md_bodySum (m : tM) (v0 : Int32) (v1 : Int32) (v2 : Int32) : Option (Int64 × tM) :=
  Option.bind (F_Md_bodySum_L3 v0 v1 v2 rn_fu m v1) fun m4 =>
  Option.bind (F_Md_bodySum_L36 v0 v1 v2 rn_fu m4 (0 : Int32)) fun m8 =>
  Option.bind (aG (M_upTo m8) 10 v2) fun x9 =>
  some (x9, m8)
set_option maxHeartbeats 4000000 in
set_option maxRecDepth 100000 in
theorem c_Md_bodySum {Z : rn_Z} {g1 g2 : Nat} {x : tX} {d : tD} {c : tC} {u : tU} {t : tT} {a : tG} {b : tG} {m : tM} {o : tO} {E : List rn_C} {v0 : Int32} {v1 : Int32} {v2 : Int32} {res : Int64} {m_r : tM} (h : F_Md_bodySum m v0 v1 v2 = some (res, m_r)) : Call Z M_Md_bodySum [.ref 53, .int v0, .int v1, .int v2] (emb g1 g2 x d c u t a b m o E) 0 0 (some (.long res)) (emb g1 g2 x d c u t a b m_r o E) := by
  unfold F_Md_bodySum at h
  refine rn_call (by decide) 3 (by exact Nat.le_of_ble_eq_true rfl) ?_
  show Rn Z M_Md_bodySum 0 [some (.ref 53), some (.int v0), some (.int v1), some (.int v2), none, none, none] [] (emb g1 g2 x d c u t a b m o E) 0 0 _
  refine rn_iload_n (by exact dc_Md_bodySum 0 rfl) (by exact rfl) ?_
  refine rn_istore (ls' := [some (.ref 53), some (.int v0), some (.int v1), some (.int v2), some (.int v1), none, none]) (by exact dc_Md_bodySum 1 rfl) (by decide) (by exact rfl) ?_
  obtain ⟨m4, e1, h3⟩ := rn_bind h
  clear h
  have jx2 : Rn Z M_Md_bodySum 33 [some (.ref 53), some (.int v0), some (.int v1), some (.int v2), none, none, none] [] (emb g1 g2 x d c u t a b m4 o E) 0 0 (rn_Ret Z (some (.long res)) (emb g1 g2 x d c u t a b m_r o E)) := by
    refine rn_iconst (v := (0 : Int32)) (by exact dc_Md_bodySum 17 rfl) (by decide) ?_
    refine rn_istore (ls' := [some (.ref 53), some (.int v0), some (.int v1), some (.int v2), some (.int (0 : Int32)), none, none]) (by exact dc_Md_bodySum 18 rfl) (by decide) (by exact rfl) ?_
    obtain ⟨m8, e5, h7⟩ := rn_bind h3
    clear h3
    have jx6 : Rn Z M_Md_bodySum 163 [some (.ref 53), none, none, some (.int v2), none, none, none] [] (emb g1 g2 x d c u t a b m8 o E) 0 0 (rn_Ret Z (some (.long res)) (emb g1 g2 x d c u t a b m_r o E)) := by
      refine rn_aload_n (by exact dc_Md_bodySum 87 rfl) (by exact rfl) ?_
      refine rn_getf (v := .ref 69) fd_Md_56 (by exact dc_Md_bodySum 88 rfl) (by exact rfl) (by exact rfl) ?_
      refine rn_iload_n (by exact dc_Md_bodySum 89 rfl) (by exact rfl) ?_
      obtain ⟨x9, e10, h11⟩ := rn_bind h7
      clear h7
      refine rn_laload (by exact dc_Md_bodySum 90 rfl) (by exact rfl) e10 ?_
      cases h11
      exact rn_lreturn (by exact dc_Md_bodySum 91 rfl) (by exact rfl)
    exact rn_weak _ (by repeat (first | exact rn_le_0 | apply rn_le_s | apply rn_le_x)) (p_Md_bodySum_L36 jx6 _ _ _ e5)
  exact rn_weak _ (by repeat (first | exact rn_le_0 | apply rn_le_s | apply rn_le_x)) (p_Md_bodySum_L3 jx2 _ _ _ e1)
