def F_Lw_law_put (xs : Nat → Int32) (L : Nat) (d : tD) (m : tM) (i : Int32) : Option (tD × tM) :=
  Option.bind (aG xs L (i + (1 : Int32))) fun x1 =>
  Option.bind (aG xs L (i + (2 : Int32))) fun x4 =>
  Option.bind (aG xs L (i + (3 : Int32))) fun x7 =>
  Option.bind (F_Wt_put d x1 (((x4.toInt64) <<< ((32 : Int32).toInt64 &&& 63)) ||| ((x7.toInt64) &&& (4294967295 : Int64)))) fun (x11, d12) =>
  Option.bind (aG xs L (i + (1 : Int32))) fun x14 =>
  Option.bind (aG xs L (i + (2 : Int32))) fun x17 =>
  Option.bind (aG xs L (i + (3 : Int32))) fun x20 =>
  Option.bind (F_Md_put m x14 (((x17.toInt64) <<< ((32 : Int32).toInt64 &&& 63)) ||| ((x20.toInt64) &&& (4294967295 : Int64)))) fun (x24, m25) =>
  if x11 = x24 then (
    some (d12, m25)
  ) else (
    none
  )
set_option maxHeartbeats 4000000 in
set_option maxRecDepth 100000 in
theorem p_Lw_law_put {Z : rn_Z} {x : tX} {d : tD} {c : tC} {u : tU} {t : tT} {a : tG} {b : tG} {m : tM} {o : tO} {i : Int32} {K : rn_K} {ca sa : Nat} {d_r : tD} {m_r : tM} (hZ : Z.1.stackTraces = false) (hK : ∀ below args s mc ms A a b, K below args s mc ms A a = K below args s mc ms A b) (h : F_Lw_law_put Z.2.2.2.2 Z.2.2.2.1 d m i = some (d_r, m_r)) (hx : Rn Z M_Lw_law 861 [some (.ref 0), some (.ref 1), some (.ref 53), some (.ref 76), some (.int i), none, none, none] [] (emb 35 44 x d_r c u t a b m_r o []) ca sa K) : Rn Z M_Lw_law 108 [some (.ref 0), some (.ref 1), some (.ref 53), some (.ref 76), some (.int i), none, none, none] [] (emb 35 44 x d c u t a b m o []) ca sa K := by
  unfold F_Lw_law_put at h
  refine rn_aload_n (by exact dc_Lw_law 25 rfl) (by exact rfl) ?_
  refine rn_aload_n (by exact dc_Lw_law 26 rfl) (by exact rfl) ?_
  refine rn_iload (by exact dc_Lw_law 27 rfl) (by exact rfl) ?_
  refine rn_iconst (v := (1 : Int32)) (by exact dc_Lw_law 28 rfl) (by decide) ?_
  refine rn_iadd (by exact dc_Lw_law 29 rfl) ?_
  obtain ⟨x1, e2, h3⟩ := rn_bind h
  clear h
  refine rn_sload (by exact dc_Lw_law 30 rfl) (by exact rfl) e2 ?_
  refine rn_aload_n (by exact dc_Lw_law 31 rfl) (by exact rfl) ?_
  refine rn_iload (by exact dc_Lw_law 32 rfl) (by exact rfl) ?_
  refine rn_iconst (v := (2 : Int32)) (by exact dc_Lw_law 33 rfl) (by decide) ?_
  refine rn_iadd (by exact dc_Lw_law 34 rfl) ?_
  obtain ⟨x4, e5, h6⟩ := rn_bind h3
  clear h3
  refine rn_sload (by exact dc_Lw_law 35 rfl) (by exact rfl) e5 ?_
  refine rn_i2l (by exact dc_Lw_law 36 rfl) ?_
  refine rn_bipush (v := (32 : Int32)) (by exact dc_Lw_law 37 rfl) (by decide) ?_
  refine rn_lshl (by exact dc_Lw_law 38 rfl) ?_
  refine rn_aload_n (by exact dc_Lw_law 39 rfl) (by exact rfl) ?_
  refine rn_iload (by exact dc_Lw_law 40 rfl) (by exact rfl) ?_
  refine rn_iconst (v := (3 : Int32)) (by exact dc_Lw_law 41 rfl) (by decide) ?_
  refine rn_iadd (by exact dc_Lw_law 42 rfl) ?_
  obtain ⟨x7, e8, h9⟩ := rn_bind h6
  clear h6
  refine rn_sload (by exact dc_Lw_law 43 rfl) (by exact rfl) e8 ?_
  refine rn_i2l (by exact dc_Lw_law 44 rfl) ?_
  refine rn_ldc2 (v := (4294967295 : Int64)) (by exact dc_Lw_law 45 rfl) kl_Lw_57 ?_
  refine rn_land (by exact dc_Lw_law 46 rfl) ?_
  refine rn_lor (by exact dc_Lw_law 47 rfl) ?_
  obtain ⟨⟨x11, d12⟩, e10, h13⟩ := rn_bind h9
  clear h9
  dsimp only at h13
  refine rn_invV0 (by exact c_Wt_put e10) iv_Lw_59 (by exact ⟨Nat.le_of_ble_eq_true rfl, Nat.le_of_ble_eq_true rfl⟩) (by exact dc_Lw_law 48 rfl) (by exact rfl) (by exact rfl) (by exact rfl) (by exact Nat.le_of_ble_eq_true rfl) ?_
  show Rn _ _ 140 [some (.ref 0), some (.ref 1), some (.ref 53), some (.ref 76), some (.int i), none, none, none] [.int x11] (emb 35 44 x d12 c u t a b m o []) _ _ _
  refine rn_aload_n (by exact dc_Lw_law 49 rfl) (by exact rfl) ?_
  refine rn_aload_n (by exact dc_Lw_law 50 rfl) (by exact rfl) ?_
  refine rn_iload (by exact dc_Lw_law 51 rfl) (by exact rfl) ?_
  refine rn_iconst (v := (1 : Int32)) (by exact dc_Lw_law 52 rfl) (by decide) ?_
  refine rn_iadd (by exact dc_Lw_law 53 rfl) ?_
  obtain ⟨x14, e15, h16⟩ := rn_bind h13
  clear h13
  refine rn_sload (by exact dc_Lw_law 54 rfl) (by exact rfl) e15 ?_
  refine rn_aload_n (by exact dc_Lw_law 55 rfl) (by exact rfl) ?_
  refine rn_iload (by exact dc_Lw_law 56 rfl) (by exact rfl) ?_
  refine rn_iconst (v := (2 : Int32)) (by exact dc_Lw_law 57 rfl) (by decide) ?_
  refine rn_iadd (by exact dc_Lw_law 58 rfl) ?_
  obtain ⟨x17, e18, h19⟩ := rn_bind h16
  clear h16
  refine rn_sload (by exact dc_Lw_law 59 rfl) (by exact rfl) e18 ?_
  refine rn_i2l (by exact dc_Lw_law 60 rfl) ?_
  refine rn_bipush (v := (32 : Int32)) (by exact dc_Lw_law 61 rfl) (by decide) ?_
  refine rn_lshl (by exact dc_Lw_law 62 rfl) ?_
  refine rn_aload_n (by exact dc_Lw_law 63 rfl) (by exact rfl) ?_
  refine rn_iload (by exact dc_Lw_law 64 rfl) (by exact rfl) ?_
  refine rn_iconst (v := (3 : Int32)) (by exact dc_Lw_law 65 rfl) (by decide) ?_
  refine rn_iadd (by exact dc_Lw_law 66 rfl) ?_
  obtain ⟨x20, e21, h22⟩ := rn_bind h19
  clear h19
  refine rn_sload (by exact dc_Lw_law 67 rfl) (by exact rfl) e21 ?_
  refine rn_i2l (by exact dc_Lw_law 68 rfl) ?_
  refine rn_ldc2 (v := (4294967295 : Int64)) (by exact dc_Lw_law 69 rfl) kl_Lw_57 ?_
  refine rn_land (by exact dc_Lw_law 70 rfl) ?_
  refine rn_lor (by exact dc_Lw_law 71 rfl) ?_
  obtain ⟨⟨x24, m25⟩, e23, h26⟩ := rn_bind h22
  clear h22
  dsimp only at h26
  refine rn_invV0 (by exact c_Md_put e23) iv_Lw_63 (by exact ⟨Nat.le_of_ble_eq_true rfl, Nat.le_of_ble_eq_true rfl⟩) (by exact dc_Lw_law 72 rfl) (by exact rfl) (by exact rfl) (by exact rfl) (by exact Nat.le_of_ble_eq_true rfl) ?_
  show Rn _ _ 172 [some (.ref 0), some (.ref 1), some (.ref 53), some (.ref 76), some (.int i), none, none, none] [.int x24, .int x11] (emb 35 44 x d12 c u t a b m25 o []) _ _ _
  by_cases c27 : x11 = x24
  · replace h26 := rn_ifp c27 h26
    refine rn_icmp_eq_t 861 (by exact dc_Lw_law 73 rfl) (by exact rfl) c27 ?_
    cases h26
    exact rn_weak _ (by repeat (first | exact rn_le_0 | apply rn_le_s | apply rn_le_x)) hx
  · replace h26 := rn_ifn c27 h26
    refine rn_icmp_eq_f 861 (by exact dc_Lw_law 73 rfl) (by exact rfl) c27 ?_
    refine rn_iconst (v := (0 : Int32)) (by exact dc_Lw_law 74 rfl) (by decide) ?_
    cases h26
def F_Lw_law_scrap (xs : Nat → Int32) (L : Nat) (d : tD) (m : tM) (i : Int32) : Option (tD × tM) :=
  Option.bind (F_Wt_scrap d ) fun d2 =>
  Option.bind (F_Md_scrap m ) fun m5 =>
  some (d2, m5)
set_option maxHeartbeats 4000000 in
set_option maxRecDepth 100000 in
theorem p_Lw_law_scrap {Z : rn_Z} {x : tX} {d : tD} {c : tC} {u : tU} {t : tT} {a : tG} {b : tG} {m : tM} {o : tO} {i : Int32} {K : rn_K} {ca sa : Nat} {d_r : tD} {m_r : tM} (hZ : Z.1.stackTraces = false) (hK : ∀ below args s mc ms A a b, K below args s mc ms A a = K below args s mc ms A b) (h : F_Lw_law_scrap Z.2.2.2.2 Z.2.2.2.1 d m i = some (d_r, m_r)) (hx : Rn Z M_Lw_law 861 [some (.ref 0), some (.ref 1), some (.ref 53), some (.ref 76), some (.int i), none, none, none] [] (emb 35 44 x d_r c u t a b m_r o []) ca sa K) : Rn Z M_Lw_law 177 [some (.ref 0), some (.ref 1), some (.ref 53), some (.ref 76), some (.int i), none, none, none] [] (emb 35 44 x d c u t a b m o []) ca sa K := by
  unfold F_Lw_law_scrap at h
  refine rn_aload_n (by exact dc_Lw_law 76 rfl) (by exact rfl) ?_
  obtain ⟨d2, e1, h3⟩ := rn_bind h
  clear h
  refine rn_invV0 (by exact c_Wt_scrap e1) iv_Lw_64 (by exact ⟨Nat.le_of_ble_eq_true rfl, Nat.le_of_ble_eq_true rfl⟩) (by exact dc_Lw_law 77 rfl) (by exact rfl) (by exact rfl) (by exact rfl) (by exact Nat.le_of_ble_eq_true rfl) ?_
  show Rn _ _ 181 [some (.ref 0), some (.ref 1), some (.ref 53), some (.ref 76), some (.int i), none, none, none] [] (emb 35 44 x d2 c u t a b m o []) _ _ _
  refine rn_aload_n (by exact dc_Lw_law 78 rfl) (by exact rfl) ?_
  obtain ⟨m5, e4, h6⟩ := rn_bind h3
  clear h3
  refine rn_invV0 (by exact c_Md_scrap e4) iv_Lw_67 (by exact ⟨Nat.le_of_ble_eq_true rfl, Nat.le_of_ble_eq_true rfl⟩) (by exact dc_Lw_law 79 rfl) (by exact rfl) (by exact rfl) (by exact rfl) (by exact Nat.le_of_ble_eq_true rfl) ?_
  show Rn _ _ 185 [some (.ref 0), some (.ref 1), some (.ref 53), some (.ref 76), some (.int i), none, none, none] [] (emb 35 44 x d2 c u t a b m5 o []) _ _ _
  refine rn_goto 861 (by exact dc_Lw_law 80 rfl) (by exact rfl) ?_
  cases h6
  exact rn_weak _ (by repeat (first | exact rn_le_0 | apply rn_le_s | apply rn_le_x)) hx
def F_Lw_law_load (xs : Nat → Int32) (L : Nat) (x : tX) (d : tD) (c : tC) (u : tU) (t : tT) (a : tG) (b : tG) (m : tM) (o : tO) (i : Int32) : Option (tX × tD × tC × tU × tT × tG × tG × tM × tO) :=
  Option.bind (F_Lw_load x d c u t b o ) fun (x2, x3, d4, c5, u6, t7, b8, o9, r10) =>
  Option.bind (F_Md_load m ) fun (x13, m14) =>
  Option.bind (F_Md_thrown m14 ) fun x17 =>
  if x17 = x2 then (
    if ¬ x2 = 0 then (
      some (x3, d4, c5, u6, t7, (if x2 = 0 then b8 else a), (if x2 = 0 then a else b8), m14, o9)
    ) else (
      Option.bind (aG o9 1 (0 : Int32)) fun x21 =>
      if (lg_cmp x21 (x13.toInt64)) = 0 then (
        some (x3, d4, c5, u6, t7, (if x2 = 0 then b8 else a), (if x2 = 0 then a else b8), m14, o9)
      ) else (
        none
      )
    )
  ) else (
    none
  )
set_option maxHeartbeats 4000000 in
set_option maxRecDepth 100000 in
theorem p_Lw_law_load {Z : rn_Z} {x : tX} {d : tD} {c : tC} {u : tU} {t : tT} {a : tG} {b : tG} {m : tM} {o : tO} {i : Int32} {K : rn_K} {ca sa : Nat} {x_r : tX} {d_r : tD} {c_r : tC} {u_r : tU} {t_r : tT} {a_r : tG} {b_r : tG} {m_r : tM} {o_r : tO} (hZ : Z.1.stackTraces = false) (hK : ∀ below args s mc ms A a b, K below args s mc ms A a = K below args s mc ms A b) (h : F_Lw_law_load Z.2.2.2.2 Z.2.2.2.1 x d c u t a b m o i = some (x_r, d_r, c_r, u_r, t_r, a_r, b_r, m_r, o_r)) (hx : Rn Z M_Lw_law 861 [some (.ref 0), some (.ref 1), some (.ref 53), some (.ref 76), some (.int i), none, none, none] [] (emb 35 44 x_r d_r c_r u_r t_r a_r b_r m_r o_r []) ca sa K) : Rn Z M_Lw_law 188 [some (.ref 0), some (.ref 1), some (.ref 53), some (.ref 76), some (.int i), none, none, none] [] (emb 35 44 x d c u t a b m o []) (ca + 2) (sa + 10) K := by
  unfold F_Lw_law_load at h
  refine rn_aload_n (by exact dc_Lw_law 81 rfl) (by exact rfl) ?_
  refine rn_aload_n (by exact dc_Lw_law 82 rfl) (by exact rfl) ?_
  obtain ⟨⟨x2, x3, d4, c5, u6, t7, b8, o9, r10⟩, e1, h11⟩ := rn_bind h
  clear h
  dsimp only at h11
  refine rn_invSH (n := 2) (ca := ca) (sa := sa) (ca' := 2) (sa' := 10) (by exact c_Lw_load hZ e1) cw_Lw_load lw_ini (by decide) (by decide +kernel) lk_68 ls_68 (by exact ⟨Nat.le_of_ble_eq_true rfl, Nat.le_of_ble_eq_true rfl⟩) (by exact dc_Lw_law 83 rfl) (by exact rfl) (by exact rfl) (by exact Nat.le_of_ble_eq_true rfl) ?_
  refine lw_swap hK (by exact rfl) (by exact rfl) (by exact rfl) (by exact rfl) ?_
  show Rn _ _ 193 [some (.ref 0), some (.ref 1), some (.ref 53), some (.ref 76), some (.int i), none, none, none] [.int x2] (emb 35 44 x3 d4 c5 u6 t7 (if x2 = 0 then b8 else a) (if x2 = 0 then a else b8) m o9 []) _ _ _
  refine rn_istore (ls' := [some (.ref 0), some (.ref 1), some (.ref 53), some (.ref 76), some (.int i), some (.int x2), none, none]) (by exact dc_Lw_law 84 rfl) (by decide) (by exact rfl) ?_
  refine rn_aload_n (by exact dc_Lw_law 85 rfl) (by exact rfl) ?_
  obtain ⟨⟨x13, m14⟩, e12, h15⟩ := rn_bind h11
  clear h11
  dsimp only at h15
  refine rn_invV0 (by exact c_Md_load e12) iv_Lw_73 (by exact ⟨Nat.le_of_ble_eq_true rfl, Nat.le_of_ble_eq_true rfl⟩) (by exact dc_Lw_law 86 rfl) (by exact rfl) (by exact rfl) (by exact rfl) (by exact Nat.le_of_ble_eq_true rfl) ?_
  show Rn _ _ 199 [some (.ref 0), some (.ref 1), some (.ref 53), some (.ref 76), some (.int i), some (.int x2), none, none] [.int x13] (emb 35 44 x3 d4 c5 u6 t7 (if x2 = 0 then b8 else a) (if x2 = 0 then a else b8) m14 o9 []) _ _ _
  refine rn_istore (ls' := [some (.ref 0), some (.ref 1), some (.ref 53), some (.ref 76), some (.int i), some (.int x2), some (.int x13), none]) (by exact dc_Lw_law 87 rfl) (by decide) (by exact rfl) ?_
  refine rn_aload_n (by exact dc_Lw_law 88 rfl) (by exact rfl) ?_
  obtain ⟨x17, e16, h18⟩ := rn_bind h15
  clear h15
  refine rn_invV0 (by exact c_Md_thrown e16) iv_Lw_74 (by exact ⟨Nat.le_of_ble_eq_true rfl, Nat.le_of_ble_eq_true rfl⟩) (by exact dc_Lw_law 89 rfl) (by exact rfl) (by exact rfl) (by exact rfl) (by exact Nat.le_of_ble_eq_true rfl) ?_
  show Rn _ _ 205 [some (.ref 0), some (.ref 1), some (.ref 53), some (.ref 76), some (.int i), some (.int x2), some (.int x13), none] [.int x17] (emb 35 44 x3 d4 c5 u6 t7 (if x2 = 0 then b8 else a) (if x2 = 0 then a else b8) m14 o9 []) _ _ _
  refine rn_iload (by exact dc_Lw_law 90 rfl) (by exact rfl) ?_
  by_cases c19 : x17 = x2
  · replace h18 := rn_ifp c19 h18
    refine rn_icmp_eq_t 212 (by exact dc_Lw_law 91 rfl) (by exact rfl) c19 ?_
    refine rn_iload (by exact dc_Lw_law 94 rfl) (by exact rfl) ?_
    by_cases c20 : ¬ x2 = 0
    · replace h18 := rn_ifp c20 h18
      refine rn_if_ne_t 229 (by exact dc_Lw_law 95 rfl) (by exact rfl) c20 ?_
      refine rn_goto 861 (by exact dc_Lw_law 105 rfl) (by exact rfl) ?_
      cases h18
      exact rn_weak _ (by repeat (first | exact rn_le_0 | apply rn_le_s | apply rn_le_x)) hx
    · replace h18 := rn_ifn c20 h18
      refine rn_if_ne_f 229 (by exact dc_Lw_law 95 rfl) (by exact rfl) (Classical.not_not.mp c20) ?_
      refine rn_aload_n (by exact dc_Lw_law 96 rfl) (by exact rfl) ?_
      refine rn_iconst (v := (0 : Int32)) (by exact dc_Lw_law 97 rfl) (by decide) ?_
      obtain ⟨x21, e22, h23⟩ := rn_bind h18
      clear h18
      refine rn_laload (by exact dc_Lw_law 98 rfl) (by exact rfl) e22 ?_
      refine rn_iload (by exact dc_Lw_law 99 rfl) (by exact rfl) ?_
      refine rn_i2l (by exact dc_Lw_law 100 rfl) ?_
      refine rn_lcmp (by exact dc_Lw_law 101 rfl) ?_
      by_cases c24 : (lg_cmp x21 (x13.toInt64)) = 0
      · replace h23 := rn_ifp c24 h23
        refine rn_if_eq_t 229 (by exact dc_Lw_law 102 rfl) (by exact rfl) c24 ?_
        refine rn_goto 861 (by exact dc_Lw_law 105 rfl) (by exact rfl) ?_
        cases h23
        exact rn_weak _ (by repeat (first | exact rn_le_0 | apply rn_le_s | apply rn_le_x)) hx
      · replace h23 := rn_ifn c24 h23
        refine rn_if_eq_f 229 (by exact dc_Lw_law 102 rfl) (by exact rfl) c24 ?_
        refine rn_iconst (v := (0 : Int32)) (by exact dc_Lw_law 103 rfl) (by decide) ?_
        cases h23
  · replace h18 := rn_ifn c19 h18
    refine rn_icmp_eq_f 212 (by exact dc_Lw_law 91 rfl) (by exact rfl) c19 ?_
    refine rn_iconst (v := (0 : Int32)) (by exact dc_Lw_law 92 rfl) (by decide) ?_
    cases h18
def F_Lw_law_wrong (xs : Nat → Int32) (L : Nat) (x : tX) (m : tM) (i : Int32) : Option tM :=
  Option.bind (F_Wt_wrong x ) fun x2 =>
  Option.bind (F_Md_wrong m ) fun (x5, m6) =>
  if x2 = x5 then (
    some m6
  ) else (
    none
  )
set_option maxHeartbeats 4000000 in
set_option maxRecDepth 100000 in
theorem p_Lw_law_wrong {Z : rn_Z} {x : tX} {d : tD} {c : tC} {u : tU} {t : tT} {a : tG} {b : tG} {m : tM} {o : tO} {i : Int32} {K : rn_K} {ca sa : Nat} {m_r : tM} (hZ : Z.1.stackTraces = false) (hK : ∀ below args s mc ms A a b, K below args s mc ms A a = K below args s mc ms A b) (h : F_Lw_law_wrong Z.2.2.2.2 Z.2.2.2.1 x m i = some m_r) (hx : Rn Z M_Lw_law 861 [some (.ref 0), some (.ref 1), some (.ref 53), some (.ref 76), some (.int i), none, none, none] [] (emb 35 44 x d c u t a b m_r o []) ca sa K) : Rn Z M_Lw_law 232 [some (.ref 0), some (.ref 1), some (.ref 53), some (.ref 76), some (.int i), none, none, none] [] (emb 35 44 x d c u t a b m o []) ca sa K := by
  unfold F_Lw_law_wrong at h
  refine rn_aload_n (by exact dc_Lw_law 106 rfl) (by exact rfl) ?_
  obtain ⟨x2, e1, h3⟩ := rn_bind h
  clear h
  refine rn_invV0 (by exact c_Wt_wrong e1) iv_Lw_77 (by exact ⟨Nat.le_of_ble_eq_true rfl, Nat.le_of_ble_eq_true rfl⟩) (by exact dc_Lw_law 107 rfl) (by exact rfl) (by exact rfl) (by exact rfl) (by exact Nat.le_of_ble_eq_true rfl) ?_
  show Rn _ _ 236 [some (.ref 0), some (.ref 1), some (.ref 53), some (.ref 76), some (.int i), none, none, none] [.int x2] (emb 35 44 x d c u t a b m o []) _ _ _
  refine rn_aload_n (by exact dc_Lw_law 108 rfl) (by exact rfl) ?_
  obtain ⟨⟨x5, m6⟩, e4, h7⟩ := rn_bind h3
  clear h3
  dsimp only at h7
  refine rn_invV0 (by exact c_Md_wrong e4) iv_Lw_80 (by exact ⟨Nat.le_of_ble_eq_true rfl, Nat.le_of_ble_eq_true rfl⟩) (by exact dc_Lw_law 109 rfl) (by exact rfl) (by exact rfl) (by exact rfl) (by exact Nat.le_of_ble_eq_true rfl) ?_
  show Rn _ _ 240 [some (.ref 0), some (.ref 1), some (.ref 53), some (.ref 76), some (.int i), none, none, none] [.int x5, .int x2] (emb 35 44 x d c u t a b m6 o []) _ _ _
  by_cases c8 : x2 = x5
  · replace h7 := rn_ifp c8 h7
    refine rn_icmp_eq_t 861 (by exact dc_Lw_law 110 rfl) (by exact rfl) c8 ?_
    cases h7
    exact rn_weak _ (by repeat (first | exact rn_le_0 | apply rn_le_s | apply rn_le_x)) hx
  · replace h7 := rn_ifn c8 h7
    refine rn_icmp_eq_f 861 (by exact dc_Lw_law 110 rfl) (by exact rfl) c8 ?_
    refine rn_iconst (v := (0 : Int32)) (by exact dc_Lw_law 111 rfl) (by decide) ?_
    cases h7
def F_Lw_law_parse (xs : Nat → Int32) (L : Nat) (d : tD) (c : tC) (t : tT) (a : tG) (m : tM) (o : tO) (i : Int32) : Option (tD × tC × tT × tM × tO) :=
  Option.bind (F_Lw_parse d c t a o ) fun (x2, d3, c4, t5, o6) =>
  Option.bind (F_Md_parse m ) fun (x9, m10) =>
  Option.bind (F_Md_thrown m10 ) fun x13 =>
  if x13 = x2 then (
    if ¬ x2 = 0 then (
      some (d3, c4, t5, m10, o6)
    ) else (
      Option.bind (aG o6 1 (0 : Int32)) fun x17 =>
      Option.bind (
        if x9 = 0 then (
          some (0 : Int64)
        ) else (
          some (1 : Int64)
        )
       : Option Int64) fun y20 =>
      if (lg_cmp x17 y20) = 0 then (
        some (d3, c4, t5, m10, o6)
      ) else (
        none
      )
    )
  ) else (
    none
  )
set_option maxHeartbeats 4000000 in
set_option maxRecDepth 100000 in
theorem p_Lw_law_parse {Z : rn_Z} {x : tX} {d : tD} {c : tC} {u : tU} {t : tT} {a : tG} {b : tG} {m : tM} {o : tO} {i : Int32} {K : rn_K} {ca sa : Nat} {d_r : tD} {c_r : tC} {t_r : tT} {m_r : tM} {o_r : tO} (hZ : Z.1.stackTraces = false) (hK : ∀ below args s mc ms A a b, K below args s mc ms A a = K below args s mc ms A b) (h : F_Lw_law_parse Z.2.2.2.2 Z.2.2.2.1 d c t a m o i = some (d_r, c_r, t_r, m_r, o_r)) (hx : Rn Z M_Lw_law 861 [some (.ref 0), some (.ref 1), some (.ref 53), some (.ref 76), some (.int i), none, none, none] [] (emb 35 44 x d_r c_r u t_r a b m_r o_r []) ca sa K) : Rn Z M_Lw_law 245 [some (.ref 0), some (.ref 1), some (.ref 53), some (.ref 76), some (.int i), none, none, none] [] (emb 35 44 x d c u t a b m o []) (ca + 1) (sa + 6) K := by
  unfold F_Lw_law_parse at h
  refine rn_aload_n (by exact dc_Lw_law 113 rfl) (by exact rfl) ?_
  refine rn_aload_n (by exact dc_Lw_law 114 rfl) (by exact rfl) ?_
  obtain ⟨⟨x2, d3, c4, t5, o6⟩, e1, h7⟩ := rn_bind h
  clear h
  dsimp only at h7
  refine rn_invSH (n := 2) (ca := ca) (sa := sa) (ca' := 1) (sa' := 6) (by exact c_Lw_parse hZ e1) cw_Lw_parse lw_ini (by decide) (by decide +kernel) lk_81 ls_81 (by exact ⟨Nat.le_of_ble_eq_true rfl, Nat.le_of_ble_eq_true rfl⟩) (by exact dc_Lw_law 115 rfl) (by exact rfl) (by exact rfl) (by exact Nat.le_of_ble_eq_true rfl) ?_
  show Rn _ _ 250 [some (.ref 0), some (.ref 1), some (.ref 53), some (.ref 76), some (.int i), none, none, none] [.int x2] (emb 35 44 x d3 c4 u t5 a b m o6 []) _ _ _
  refine rn_istore (ls' := [some (.ref 0), some (.ref 1), some (.ref 53), some (.ref 76), some (.int i), some (.int x2), none, none]) (by exact dc_Lw_law 116 rfl) (by decide) (by exact rfl) ?_
  refine rn_aload_n (by exact dc_Lw_law 117 rfl) (by exact rfl) ?_
  obtain ⟨⟨x9, m10⟩, e8, h11⟩ := rn_bind h7
  clear h7
  dsimp only at h11
  refine rn_invV0 (by exact c_Md_parse e8) iv_Lw_83 (by exact ⟨Nat.le_of_ble_eq_true rfl, Nat.le_of_ble_eq_true rfl⟩) (by exact dc_Lw_law 118 rfl) (by exact rfl) (by exact rfl) (by exact rfl) (by exact Nat.le_of_ble_eq_true rfl) ?_
  show Rn _ _ 256 [some (.ref 0), some (.ref 1), some (.ref 53), some (.ref 76), some (.int i), some (.int x2), none, none] [.int x9] (emb 35 44 x d3 c4 u t5 a b m10 o6 []) _ _ _
  refine rn_istore (ls' := [some (.ref 0), some (.ref 1), some (.ref 53), some (.ref 76), some (.int i), some (.int x2), some (.int x9), none]) (by exact dc_Lw_law 119 rfl) (by decide) (by exact rfl) ?_
  refine rn_aload_n (by exact dc_Lw_law 120 rfl) (by exact rfl) ?_
  obtain ⟨x13, e12, h14⟩ := rn_bind h11
  clear h11
  refine rn_invV0 (by exact c_Md_thrown e12) iv_Lw_74 (by exact ⟨Nat.le_of_ble_eq_true rfl, Nat.le_of_ble_eq_true rfl⟩) (by exact dc_Lw_law 121 rfl) (by exact rfl) (by exact rfl) (by exact rfl) (by exact Nat.le_of_ble_eq_true rfl) ?_
  show Rn _ _ 262 [some (.ref 0), some (.ref 1), some (.ref 53), some (.ref 76), some (.int i), some (.int x2), some (.int x9), none] [.int x13] (emb 35 44 x d3 c4 u t5 a b m10 o6 []) _ _ _
  refine rn_iload (by exact dc_Lw_law 122 rfl) (by exact rfl) ?_
  by_cases c15 : x13 = x2
  · replace h14 := rn_ifp c15 h14
    refine rn_icmp_eq_t 269 (by exact dc_Lw_law 123 rfl) (by exact rfl) c15 ?_
    refine rn_iload (by exact dc_Lw_law 126 rfl) (by exact rfl) ?_
    by_cases c16 : ¬ x2 = 0
    · replace h14 := rn_ifp c16 h14
      refine rn_if_ne_t 293 (by exact dc_Lw_law 127 rfl) (by exact rfl) c16 ?_
      refine rn_goto 861 (by exact dc_Lw_law 140 rfl) (by exact rfl) ?_
      cases h14
      exact rn_weak _ (by repeat (first | exact rn_le_0 | apply rn_le_s | apply rn_le_x)) hx
    · replace h14 := rn_ifn c16 h14
      refine rn_if_ne_f 293 (by exact dc_Lw_law 127 rfl) (by exact rfl) (Classical.not_not.mp c16) ?_
      refine rn_aload_n (by exact dc_Lw_law 128 rfl) (by exact rfl) ?_
      refine rn_iconst (v := (0 : Int32)) (by exact dc_Lw_law 129 rfl) (by decide) ?_
      obtain ⟨x17, e18, h19⟩ := rn_bind h14
      clear h14
      refine rn_laload (by exact dc_Lw_law 130 rfl) (by exact rfl) e18 ?_
      refine rn_iload (by exact dc_Lw_law 131 rfl) (by exact rfl) ?_
      obtain ⟨y20, e21, h23⟩ := rn_bind h19
      clear h19
      have jq22 : Rn Z M_Lw_law 287 [some (.ref 0), some (.ref 1), some (.ref 53), some (.ref 76), some (.int i), none, none, none] [.long y20, .long x17] (emb 35 44 x d3 c4 u t5 a b m10 o6 []) ca sa K := by
        refine rn_lcmp (by exact dc_Lw_law 136 rfl) ?_
        by_cases c25 : (lg_cmp x17 y20) = 0
        · replace h23 := rn_ifp c25 h23
          refine rn_if_eq_t 293 (by exact dc_Lw_law 137 rfl) (by exact rfl) c25 ?_
          refine rn_goto 861 (by exact dc_Lw_law 140 rfl) (by exact rfl) ?_
          cases h23
          exact rn_weak _ (by repeat (first | exact rn_le_0 | apply rn_le_s | apply rn_le_x)) hx
        · replace h23 := rn_ifn c25 h23
          refine rn_if_eq_f 293 (by exact dc_Lw_law 137 rfl) (by exact rfl) c25 ?_
          refine rn_iconst (v := (0 : Int32)) (by exact dc_Lw_law 138 rfl) (by decide) ?_
          cases h23
      by_cases c24 : x9 = 0
      · replace e21 := rn_ifp c24 e21
        refine rn_if_eq_t 286 (by exact dc_Lw_law 132 rfl) (by exact rfl) c24 ?_
        refine rn_lconst (v := (0 : Int64)) (by exact dc_Lw_law 135 rfl) (by decide) ?_
        cases e21
        exact rn_weak _ (by repeat (first | exact rn_le_0 | apply rn_le_s | apply rn_le_x)) jq22
      · replace e21 := rn_ifn c24 e21
        refine rn_if_eq_f 286 (by exact dc_Lw_law 132 rfl) (by exact rfl) c24 ?_
        refine rn_lconst (v := (1 : Int64)) (by exact dc_Lw_law 133 rfl) (by decide) ?_
        refine rn_goto 287 (by exact dc_Lw_law 134 rfl) (by exact rfl) ?_
        cases e21
        exact rn_weak _ (by repeat (first | exact rn_le_0 | apply rn_le_s | apply rn_le_x)) jq22
  · replace h14 := rn_ifn c15 h14
    refine rn_icmp_eq_f 269 (by exact dc_Lw_law 123 rfl) (by exact rfl) c15 ?_
    refine rn_iconst (v := (0 : Int32)) (by exact dc_Lw_law 124 rfl) (by decide) ?_
    cases h14
def F_Lw_law_count (xs : Nat → Int32) (L : Nat) (c : tC) (a : tG) (m : tM) (i : Int32) : Option tM :=
  Option.bind (aG xs L (i + (1 : Int32))) fun x1 =>
  Option.bind (F_Wt_count c a x1) fun x5 =>
  Option.bind (aG xs L (i + (1 : Int32))) fun x7 =>
  Option.bind (F_Md_count m x7) fun (x11, m12) =>
  if x5 = x11 then (
    some m12
  ) else (
    none
  )
set_option maxHeartbeats 4000000 in
set_option maxRecDepth 100000 in
theorem p_Lw_law_count {Z : rn_Z} {x : tX} {d : tD} {c : tC} {u : tU} {t : tT} {a : tG} {b : tG} {m : tM} {o : tO} {i : Int32} {K : rn_K} {ca sa : Nat} {m_r : tM} (hZ : Z.1.stackTraces = false) (hK : ∀ below args s mc ms A a b, K below args s mc ms A a = K below args s mc ms A b) (h : F_Lw_law_count Z.2.2.2.2 Z.2.2.2.1 c a m i = some m_r) (hx : Rn Z M_Lw_law 861 [some (.ref 0), some (.ref 1), some (.ref 53), some (.ref 76), some (.int i), none, none, none] [] (emb 35 44 x d c u t a b m_r o []) ca sa K) : Rn Z M_Lw_law 296 [some (.ref 0), some (.ref 1), some (.ref 53), some (.ref 76), some (.int i), none, none, none] [] (emb 35 44 x d c u t a b m o []) ca sa K := by
  unfold F_Lw_law_count at h
  refine rn_aload_n (by exact dc_Lw_law 141 rfl) (by exact rfl) ?_
  refine rn_aload_n (by exact dc_Lw_law 142 rfl) (by exact rfl) ?_
  refine rn_iload (by exact dc_Lw_law 143 rfl) (by exact rfl) ?_
  refine rn_iconst (v := (1 : Int32)) (by exact dc_Lw_law 144 rfl) (by decide) ?_
  refine rn_iadd (by exact dc_Lw_law 145 rfl) ?_
  obtain ⟨x1, e2, h3⟩ := rn_bind h
  clear h
  refine rn_sload (by exact dc_Lw_law 146 rfl) (by exact rfl) e2 ?_
  obtain ⟨x5, e4, h6⟩ := rn_bind h3
  clear h3
  refine rn_invV0 (by exact c_Wt_count e4) iv_Lw_84 (by exact ⟨Nat.le_of_ble_eq_true rfl, Nat.le_of_ble_eq_true rfl⟩) (by exact dc_Lw_law 147 rfl) (by exact rfl) (by exact rfl) (by exact rfl) (by exact Nat.le_of_ble_eq_true rfl) ?_
  show Rn _ _ 306 [some (.ref 0), some (.ref 1), some (.ref 53), some (.ref 76), some (.int i), none, none, none] [.int x5] (emb 35 44 x d c u t a b m o []) _ _ _
  refine rn_aload_n (by exact dc_Lw_law 148 rfl) (by exact rfl) ?_
  refine rn_aload_n (by exact dc_Lw_law 149 rfl) (by exact rfl) ?_
  refine rn_iload (by exact dc_Lw_law 150 rfl) (by exact rfl) ?_
  refine rn_iconst (v := (1 : Int32)) (by exact dc_Lw_law 151 rfl) (by decide) ?_
  refine rn_iadd (by exact dc_Lw_law 152 rfl) ?_
  obtain ⟨x7, e8, h9⟩ := rn_bind h6
  clear h6
  refine rn_sload (by exact dc_Lw_law 153 rfl) (by exact rfl) e8 ?_
  obtain ⟨⟨x11, m12⟩, e10, h13⟩ := rn_bind h9
  clear h9
  dsimp only at h13
  refine rn_invV0 (by exact c_Md_count e10) iv_Lw_87 (by exact ⟨Nat.le_of_ble_eq_true rfl, Nat.le_of_ble_eq_true rfl⟩) (by exact dc_Lw_law 154 rfl) (by exact rfl) (by exact rfl) (by exact rfl) (by exact Nat.le_of_ble_eq_true rfl) ?_
  show Rn _ _ 316 [some (.ref 0), some (.ref 1), some (.ref 53), some (.ref 76), some (.int i), none, none, none] [.int x11, .int x5] (emb 35 44 x d c u t a b m12 o []) _ _ _
  by_cases c14 : x5 = x11
  · replace h13 := rn_ifp c14 h13
    refine rn_icmp_eq_t 861 (by exact dc_Lw_law 155 rfl) (by exact rfl) c14 ?_
    cases h13
    exact rn_weak _ (by repeat (first | exact rn_le_0 | apply rn_le_s | apply rn_le_x)) hx
  · replace h13 := rn_ifn c14 h13
    refine rn_icmp_eq_f 861 (by exact dc_Lw_law 155 rfl) (by exact rfl) c14 ?_
    refine rn_iconst (v := (0 : Int32)) (by exact dc_Lw_law 156 rfl) (by decide) ?_
    cases h13
def F_Lw_law_name (xs : Nat → Int32) (L : Nat) (a : tG) (m : tM) (o : tO) (i : Int32) : Option (tM × tO) :=
  Option.bind (aG xs L (i + (1 : Int32))) fun x1 =>
  Option.bind (F_Lw_name a o x1) fun (x5, o6) =>
  Option.bind (aG xs L (i + (1 : Int32))) fun x8 =>
  Option.bind (F_Md_name m x8) fun (x12, m13) =>
  Option.bind (F_Md_thrown m13 ) fun x16 =>
  if x16 = x5 then (
    if ¬ x5 = 0 then (
      some (m13, o6)
    ) else (
      Option.bind (aG o6 1 (0 : Int32)) fun x20 =>
      if (lg_cmp x20 (x12.toInt64)) = 0 then (
        some (m13, o6)
      ) else (
        none
      )
    )
  ) else (
    none
  )
set_option maxHeartbeats 4000000 in
set_option maxRecDepth 100000 in
theorem p_Lw_law_name {Z : rn_Z} {x : tX} {d : tD} {c : tC} {u : tU} {t : tT} {a : tG} {b : tG} {m : tM} {o : tO} {i : Int32} {K : rn_K} {ca sa : Nat} {m_r : tM} {o_r : tO} (hZ : Z.1.stackTraces = false) (hK : ∀ below args s mc ms A a b, K below args s mc ms A a = K below args s mc ms A b) (h : F_Lw_law_name Z.2.2.2.2 Z.2.2.2.1 a m o i = some (m_r, o_r)) (hx : Rn Z M_Lw_law 861 [some (.ref 0), some (.ref 1), some (.ref 53), some (.ref 76), some (.int i), none, none, none] [] (emb 35 44 x d c u t a b m_r o_r []) ca sa K) : Rn Z M_Lw_law 321 [some (.ref 0), some (.ref 1), some (.ref 53), some (.ref 76), some (.int i), none, none, none] [] (emb 35 44 x d c u t a b m o []) (ca + 1) (sa + 6) K := by
  unfold F_Lw_law_name at h
  refine rn_aload_n (by exact dc_Lw_law 158 rfl) (by exact rfl) ?_
  refine rn_aload_n (by exact dc_Lw_law 159 rfl) (by exact rfl) ?_
  refine rn_iload (by exact dc_Lw_law 160 rfl) (by exact rfl) ?_
  refine rn_iconst (v := (1 : Int32)) (by exact dc_Lw_law 161 rfl) (by decide) ?_
  refine rn_iadd (by exact dc_Lw_law 162 rfl) ?_
  obtain ⟨x1, e2, h3⟩ := rn_bind h
  clear h
  refine rn_sload (by exact dc_Lw_law 163 rfl) (by exact rfl) e2 ?_
  refine rn_aload_n (by exact dc_Lw_law 164 rfl) (by exact rfl) ?_
  obtain ⟨⟨x5, o6⟩, e4, h7⟩ := rn_bind h3
  clear h3
  dsimp only at h7
  refine rn_invSH (n := 3) (ca := ca) (sa := sa) (ca' := 1) (sa' := 6) (by exact c_Lw_name hZ e4) cw_Lw_name lw_ini (by decide) (by decide +kernel) lk_88 ls_88 (by exact ⟨Nat.le_of_ble_eq_true rfl, Nat.le_of_ble_eq_true rfl⟩) (by exact dc_Lw_law 165 rfl) (by exact rfl) (by exact rfl) (by exact Nat.le_of_ble_eq_true rfl) ?_
  show Rn _ _ 332 [some (.ref 0), some (.ref 1), some (.ref 53), some (.ref 76), some (.int i), none, none, none] [.int x5] (emb 35 44 x d c u t a b m o6 []) _ _ _
  refine rn_istore (ls' := [some (.ref 0), some (.ref 1), some (.ref 53), some (.ref 76), some (.int i), some (.int x5), none, none]) (by exact dc_Lw_law 166 rfl) (by decide) (by exact rfl) ?_
  refine rn_aload_n (by exact dc_Lw_law 167 rfl) (by exact rfl) ?_
  refine rn_aload_n (by exact dc_Lw_law 168 rfl) (by exact rfl) ?_
  refine rn_iload (by exact dc_Lw_law 169 rfl) (by exact rfl) ?_
  refine rn_iconst (v := (1 : Int32)) (by exact dc_Lw_law 170 rfl) (by decide) ?_
  refine rn_iadd (by exact dc_Lw_law 171 rfl) ?_
  obtain ⟨x8, e9, h10⟩ := rn_bind h7
  clear h7
  refine rn_sload (by exact dc_Lw_law 172 rfl) (by exact rfl) e9 ?_
  obtain ⟨⟨x12, m13⟩, e11, h14⟩ := rn_bind h10
  clear h10
  dsimp only at h14
  refine rn_invV0 (by exact c_Md_name e11) iv_Lw_91 (by exact ⟨Nat.le_of_ble_eq_true rfl, Nat.le_of_ble_eq_true rfl⟩) (by exact dc_Lw_law 173 rfl) (by exact rfl) (by exact rfl) (by exact rfl) (by exact Nat.le_of_ble_eq_true rfl) ?_
  show Rn _ _ 344 [some (.ref 0), some (.ref 1), some (.ref 53), some (.ref 76), some (.int i), some (.int x5), none, none] [.int x12] (emb 35 44 x d c u t a b m13 o6 []) _ _ _
  refine rn_istore (ls' := [some (.ref 0), some (.ref 1), some (.ref 53), some (.ref 76), some (.int i), some (.int x5), some (.int x12), none]) (by exact dc_Lw_law 174 rfl) (by decide) (by exact rfl) ?_
  refine rn_aload_n (by exact dc_Lw_law 175 rfl) (by exact rfl) ?_
  obtain ⟨x16, e15, h17⟩ := rn_bind h14
  clear h14
  refine rn_invV0 (by exact c_Md_thrown e15) iv_Lw_74 (by exact ⟨Nat.le_of_ble_eq_true rfl, Nat.le_of_ble_eq_true rfl⟩) (by exact dc_Lw_law 176 rfl) (by exact rfl) (by exact rfl) (by exact rfl) (by exact Nat.le_of_ble_eq_true rfl) ?_
  show Rn _ _ 350 [some (.ref 0), some (.ref 1), some (.ref 53), some (.ref 76), some (.int i), some (.int x5), some (.int x12), none] [.int x16] (emb 35 44 x d c u t a b m13 o6 []) _ _ _
  refine rn_iload (by exact dc_Lw_law 177 rfl) (by exact rfl) ?_
  by_cases c18 : x16 = x5
  · replace h17 := rn_ifp c18 h17
    refine rn_icmp_eq_t 357 (by exact dc_Lw_law 178 rfl) (by exact rfl) c18 ?_
    refine rn_iload (by exact dc_Lw_law 181 rfl) (by exact rfl) ?_
    by_cases c19 : ¬ x5 = 0
    · replace h17 := rn_ifp c19 h17
      refine rn_if_ne_t 374 (by exact dc_Lw_law 182 rfl) (by exact rfl) c19 ?_
      refine rn_goto 861 (by exact dc_Lw_law 192 rfl) (by exact rfl) ?_
      cases h17
      exact rn_weak _ (by repeat (first | exact rn_le_0 | apply rn_le_s | apply rn_le_x)) hx
    · replace h17 := rn_ifn c19 h17
      refine rn_if_ne_f 374 (by exact dc_Lw_law 182 rfl) (by exact rfl) (Classical.not_not.mp c19) ?_
      refine rn_aload_n (by exact dc_Lw_law 183 rfl) (by exact rfl) ?_
      refine rn_iconst (v := (0 : Int32)) (by exact dc_Lw_law 184 rfl) (by decide) ?_
      obtain ⟨x20, e21, h22⟩ := rn_bind h17
      clear h17
      refine rn_laload (by exact dc_Lw_law 185 rfl) (by exact rfl) e21 ?_
      refine rn_iload (by exact dc_Lw_law 186 rfl) (by exact rfl) ?_
      refine rn_i2l (by exact dc_Lw_law 187 rfl) ?_
      refine rn_lcmp (by exact dc_Lw_law 188 rfl) ?_
      by_cases c23 : (lg_cmp x20 (x12.toInt64)) = 0
      · replace h22 := rn_ifp c23 h22
        refine rn_if_eq_t 374 (by exact dc_Lw_law 189 rfl) (by exact rfl) c23 ?_
        refine rn_goto 861 (by exact dc_Lw_law 192 rfl) (by exact rfl) ?_
        cases h22
        exact rn_weak _ (by repeat (first | exact rn_le_0 | apply rn_le_s | apply rn_le_x)) hx
      · replace h22 := rn_ifn c23 h22
        refine rn_if_eq_f 374 (by exact dc_Lw_law 189 rfl) (by exact rfl) c23 ?_
        refine rn_iconst (v := (0 : Int32)) (by exact dc_Lw_law 190 rfl) (by decide) ?_
        cases h22
  · replace h17 := rn_ifn c18 h17
    refine rn_icmp_eq_f 357 (by exact dc_Lw_law 178 rfl) (by exact rfl) c18 ?_
    refine rn_iconst (v := (0 : Int32)) (by exact dc_Lw_law 179 rfl) (by decide) ?_
    cases h17
def F_Lw_law_weight (xs : Nat → Int32) (L : Nat) (a : tG) (m : tM) (o : tO) (i : Int32) : Option (tM × tO) :=
  Option.bind (aG xs L (i + (1 : Int32))) fun x1 =>
  Option.bind (F_Lw_weight a o x1) fun (x5, o6) =>
  Option.bind (aG xs L (i + (1 : Int32))) fun x8 =>
  Option.bind (F_Md_weight m x8) fun (x12, m13) =>
  Option.bind (F_Md_thrown m13 ) fun x16 =>
  if x16 = x5 then (
    if ¬ x5 = 0 then (
      some (m13, o6)
    ) else (
      Option.bind (aG o6 1 (0 : Int32)) fun x20 =>
      if (lg_cmp x20 x12) = 0 then (
        some (m13, o6)
      ) else (
        none
      )
    )
  ) else (
    none
  )
set_option maxHeartbeats 4000000 in
set_option maxRecDepth 100000 in
theorem p_Lw_law_weight {Z : rn_Z} {x : tX} {d : tD} {c : tC} {u : tU} {t : tT} {a : tG} {b : tG} {m : tM} {o : tO} {i : Int32} {K : rn_K} {ca sa : Nat} {m_r : tM} {o_r : tO} (hZ : Z.1.stackTraces = false) (hK : ∀ below args s mc ms A a b, K below args s mc ms A a = K below args s mc ms A b) (h : F_Lw_law_weight Z.2.2.2.2 Z.2.2.2.1 a m o i = some (m_r, o_r)) (hx : Rn Z M_Lw_law 861 [some (.ref 0), some (.ref 1), some (.ref 53), some (.ref 76), some (.int i), none, none, none] [] (emb 35 44 x d c u t a b m_r o_r []) ca sa K) : Rn Z M_Lw_law 377 [some (.ref 0), some (.ref 1), some (.ref 53), some (.ref 76), some (.int i), none, none, none] [] (emb 35 44 x d c u t a b m o []) (ca + 1) (sa + 6) K := by
  unfold F_Lw_law_weight at h
  refine rn_aload_n (by exact dc_Lw_law 193 rfl) (by exact rfl) ?_
  refine rn_aload_n (by exact dc_Lw_law 194 rfl) (by exact rfl) ?_
  refine rn_iload (by exact dc_Lw_law 195 rfl) (by exact rfl) ?_
  refine rn_iconst (v := (1 : Int32)) (by exact dc_Lw_law 196 rfl) (by decide) ?_
  refine rn_iadd (by exact dc_Lw_law 197 rfl) ?_
  obtain ⟨x1, e2, h3⟩ := rn_bind h
  clear h
  refine rn_sload (by exact dc_Lw_law 198 rfl) (by exact rfl) e2 ?_
  refine rn_aload_n (by exact dc_Lw_law 199 rfl) (by exact rfl) ?_
  obtain ⟨⟨x5, o6⟩, e4, h7⟩ := rn_bind h3
  clear h3
  dsimp only at h7
  refine rn_invSH (n := 3) (ca := ca) (sa := sa) (ca' := 1) (sa' := 6) (by exact c_Lw_weight hZ e4) cw_Lw_weight lw_ini (by decide) (by decide +kernel) lk_92 ls_92 (by exact ⟨Nat.le_of_ble_eq_true rfl, Nat.le_of_ble_eq_true rfl⟩) (by exact dc_Lw_law 200 rfl) (by exact rfl) (by exact rfl) (by exact Nat.le_of_ble_eq_true rfl) ?_
  show Rn _ _ 388 [some (.ref 0), some (.ref 1), some (.ref 53), some (.ref 76), some (.int i), none, none, none] [.int x5] (emb 35 44 x d c u t a b m o6 []) _ _ _
  refine rn_istore (ls' := [some (.ref 0), some (.ref 1), some (.ref 53), some (.ref 76), some (.int i), some (.int x5), none, none]) (by exact dc_Lw_law 201 rfl) (by decide) (by exact rfl) ?_
  refine rn_aload_n (by exact dc_Lw_law 202 rfl) (by exact rfl) ?_
  refine rn_aload_n (by exact dc_Lw_law 203 rfl) (by exact rfl) ?_
  refine rn_iload (by exact dc_Lw_law 204 rfl) (by exact rfl) ?_
  refine rn_iconst (v := (1 : Int32)) (by exact dc_Lw_law 205 rfl) (by decide) ?_
  refine rn_iadd (by exact dc_Lw_law 206 rfl) ?_
  obtain ⟨x8, e9, h10⟩ := rn_bind h7
  clear h7
  refine rn_sload (by exact dc_Lw_law 207 rfl) (by exact rfl) e9 ?_
  obtain ⟨⟨x12, m13⟩, e11, h14⟩ := rn_bind h10
  clear h10
  dsimp only at h14
  refine rn_invV0 (by exact c_Md_weight e11) iv_Lw_94 (by exact ⟨Nat.le_of_ble_eq_true rfl, Nat.le_of_ble_eq_true rfl⟩) (by exact dc_Lw_law 208 rfl) (by exact rfl) (by exact rfl) (by exact rfl) (by exact Nat.le_of_ble_eq_true rfl) ?_
  show Rn _ _ 400 [some (.ref 0), some (.ref 1), some (.ref 53), some (.ref 76), some (.int i), some (.int x5), none, none] [.long x12] (emb 35 44 x d c u t a b m13 o6 []) _ _ _
  refine rn_lstore (ls' := [some (.ref 0), some (.ref 1), some (.ref 53), some (.ref 76), some (.int i), some (.int x5), some (.long x12), none]) (by exact dc_Lw_law 209 rfl) (by decide) (by exact rfl) ?_
  refine rn_aload_n (by exact dc_Lw_law 210 rfl) (by exact rfl) ?_
  obtain ⟨x16, e15, h17⟩ := rn_bind h14
  clear h14
  refine rn_invV0 (by exact c_Md_thrown e15) iv_Lw_74 (by exact ⟨Nat.le_of_ble_eq_true rfl, Nat.le_of_ble_eq_true rfl⟩) (by exact dc_Lw_law 211 rfl) (by exact rfl) (by exact rfl) (by exact rfl) (by exact Nat.le_of_ble_eq_true rfl) ?_
  show Rn _ _ 406 [some (.ref 0), some (.ref 1), some (.ref 53), some (.ref 76), some (.int i), some (.int x5), some (.long x12), none] [.int x16] (emb 35 44 x d c u t a b m13 o6 []) _ _ _
  refine rn_iload (by exact dc_Lw_law 212 rfl) (by exact rfl) ?_
  by_cases c18 : x16 = x5
  · replace h17 := rn_ifp c18 h17
    refine rn_icmp_eq_t 413 (by exact dc_Lw_law 213 rfl) (by exact rfl) c18 ?_
    refine rn_iload (by exact dc_Lw_law 216 rfl) (by exact rfl) ?_
    by_cases c19 : ¬ x5 = 0
    · replace h17 := rn_ifp c19 h17
      refine rn_if_ne_t 429 (by exact dc_Lw_law 217 rfl) (by exact rfl) c19 ?_
      refine rn_goto 861 (by exact dc_Lw_law 226 rfl) (by exact rfl) ?_
      cases h17
      exact rn_weak _ (by repeat (first | exact rn_le_0 | apply rn_le_s | apply rn_le_x)) hx
    · replace h17 := rn_ifn c19 h17
      refine rn_if_ne_f 429 (by exact dc_Lw_law 217 rfl) (by exact rfl) (Classical.not_not.mp c19) ?_
      refine rn_aload_n (by exact dc_Lw_law 218 rfl) (by exact rfl) ?_
      refine rn_iconst (v := (0 : Int32)) (by exact dc_Lw_law 219 rfl) (by decide) ?_
      obtain ⟨x20, e21, h22⟩ := rn_bind h17
      clear h17
      refine rn_laload (by exact dc_Lw_law 220 rfl) (by exact rfl) e21 ?_
      refine rn_lload (by exact dc_Lw_law 221 rfl) (by exact rfl) ?_
      refine rn_lcmp (by exact dc_Lw_law 222 rfl) ?_
      by_cases c23 : (lg_cmp x20 x12) = 0
      · replace h22 := rn_ifp c23 h22
        refine rn_if_eq_t 429 (by exact dc_Lw_law 223 rfl) (by exact rfl) c23 ?_
        refine rn_goto 861 (by exact dc_Lw_law 226 rfl) (by exact rfl) ?_
        cases h22
        exact rn_weak _ (by repeat (first | exact rn_le_0 | apply rn_le_s | apply rn_le_x)) hx
      · replace h22 := rn_ifn c23 h22
        refine rn_if_eq_f 429 (by exact dc_Lw_law 223 rfl) (by exact rfl) c23 ?_
        refine rn_iconst (v := (0 : Int32)) (by exact dc_Lw_law 224 rfl) (by decide) ?_
        cases h22
  · replace h17 := rn_ifn c18 h17
    refine rn_icmp_eq_f 413 (by exact dc_Lw_law 213 rfl) (by exact rfl) c18 ?_
    refine rn_iconst (v := (0 : Int32)) (by exact dc_Lw_law 214 rfl) (by decide) ?_
    cases h17
def F_Lw_law_empty (xs : Nat → Int32) (L : Nat) (c : tC) (a : tG) (m : tM) (o : tO) (i : Int32) : Option (tM × tO) :=
  Option.bind (aG xs L (i + (1 : Int32))) fun x1 =>
  Option.bind (F_Lw_empty c a o x1) fun (x5, o6) =>
  Option.bind (aG xs L (i + (1 : Int32))) fun x8 =>
  Option.bind (F_Md_empty m x8) fun (x12, m13) =>
  Option.bind (F_Md_thrown m13 ) fun x16 =>
  if x16 = x5 then (
    if ¬ x5 = 0 then (
      some (m13, o6)
    ) else (
      Option.bind (aG o6 1 (0 : Int32)) fun x20 =>
      if (lg_cmp x20 x12) = 0 then (
        some (m13, o6)
      ) else (
        none
      )
    )
  ) else (
    none
  )
set_option maxHeartbeats 4000000 in
set_option maxRecDepth 100000 in
theorem p_Lw_law_empty {Z : rn_Z} {x : tX} {d : tD} {c : tC} {u : tU} {t : tT} {a : tG} {b : tG} {m : tM} {o : tO} {i : Int32} {K : rn_K} {ca sa : Nat} {m_r : tM} {o_r : tO} (hZ : Z.1.stackTraces = false) (hK : ∀ below args s mc ms A a b, K below args s mc ms A a = K below args s mc ms A b) (h : F_Lw_law_empty Z.2.2.2.2 Z.2.2.2.1 c a m o i = some (m_r, o_r)) (hx : Rn Z M_Lw_law 861 [some (.ref 0), some (.ref 1), some (.ref 53), some (.ref 76), some (.int i), none, none, none] [] (emb 35 44 x d c u t a b m_r o_r []) ca sa K) : Rn Z M_Lw_law 432 [some (.ref 0), some (.ref 1), some (.ref 53), some (.ref 76), some (.int i), none, none, none] [] (emb 35 44 x d c u t a b m o []) (ca + 1) (sa + 6) K := by
  unfold F_Lw_law_empty at h
  refine rn_aload_n (by exact dc_Lw_law 227 rfl) (by exact rfl) ?_
  refine rn_aload_n (by exact dc_Lw_law 228 rfl) (by exact rfl) ?_
  refine rn_iload (by exact dc_Lw_law 229 rfl) (by exact rfl) ?_
  refine rn_iconst (v := (1 : Int32)) (by exact dc_Lw_law 230 rfl) (by decide) ?_
  refine rn_iadd (by exact dc_Lw_law 231 rfl) ?_
  obtain ⟨x1, e2, h3⟩ := rn_bind h
  clear h
  refine rn_sload (by exact dc_Lw_law 232 rfl) (by exact rfl) e2 ?_
  refine rn_aload_n (by exact dc_Lw_law 233 rfl) (by exact rfl) ?_
  obtain ⟨⟨x5, o6⟩, e4, h7⟩ := rn_bind h3
  clear h3
  dsimp only at h7
  refine rn_invSH (n := 3) (ca := ca) (sa := sa) (ca' := 1) (sa' := 6) (by exact c_Lw_empty hZ e4) cw_Lw_empty lw_ini (by decide) (by decide +kernel) lk_95 ls_95 (by exact ⟨Nat.le_of_ble_eq_true rfl, Nat.le_of_ble_eq_true rfl⟩) (by exact dc_Lw_law 234 rfl) (by exact rfl) (by exact rfl) (by exact Nat.le_of_ble_eq_true rfl) ?_
  show Rn _ _ 443 [some (.ref 0), some (.ref 1), some (.ref 53), some (.ref 76), some (.int i), none, none, none] [.int x5] (emb 35 44 x d c u t a b m o6 []) _ _ _
  refine rn_istore (ls' := [some (.ref 0), some (.ref 1), some (.ref 53), some (.ref 76), some (.int i), some (.int x5), none, none]) (by exact dc_Lw_law 235 rfl) (by decide) (by exact rfl) ?_
  refine rn_aload_n (by exact dc_Lw_law 236 rfl) (by exact rfl) ?_
  refine rn_aload_n (by exact dc_Lw_law 237 rfl) (by exact rfl) ?_
  refine rn_iload (by exact dc_Lw_law 238 rfl) (by exact rfl) ?_
  refine rn_iconst (v := (1 : Int32)) (by exact dc_Lw_law 239 rfl) (by decide) ?_
  refine rn_iadd (by exact dc_Lw_law 240 rfl) ?_
  obtain ⟨x8, e9, h10⟩ := rn_bind h7
  clear h7
  refine rn_sload (by exact dc_Lw_law 241 rfl) (by exact rfl) e9 ?_
  obtain ⟨⟨x12, m13⟩, e11, h14⟩ := rn_bind h10
  clear h10
  dsimp only at h14
  refine rn_invV0 (by exact c_Md_empty e11) iv_Lw_97 (by exact ⟨Nat.le_of_ble_eq_true rfl, Nat.le_of_ble_eq_true rfl⟩) (by exact dc_Lw_law 242 rfl) (by exact rfl) (by exact rfl) (by exact rfl) (by exact Nat.le_of_ble_eq_true rfl) ?_
  show Rn _ _ 455 [some (.ref 0), some (.ref 1), some (.ref 53), some (.ref 76), some (.int i), some (.int x5), none, none] [.long x12] (emb 35 44 x d c u t a b m13 o6 []) _ _ _
  refine rn_lstore (ls' := [some (.ref 0), some (.ref 1), some (.ref 53), some (.ref 76), some (.int i), some (.int x5), some (.long x12), none]) (by exact dc_Lw_law 243 rfl) (by decide) (by exact rfl) ?_
  refine rn_aload_n (by exact dc_Lw_law 244 rfl) (by exact rfl) ?_
  obtain ⟨x16, e15, h17⟩ := rn_bind h14
  clear h14
  refine rn_invV0 (by exact c_Md_thrown e15) iv_Lw_74 (by exact ⟨Nat.le_of_ble_eq_true rfl, Nat.le_of_ble_eq_true rfl⟩) (by exact dc_Lw_law 245 rfl) (by exact rfl) (by exact rfl) (by exact rfl) (by exact Nat.le_of_ble_eq_true rfl) ?_
  show Rn _ _ 461 [some (.ref 0), some (.ref 1), some (.ref 53), some (.ref 76), some (.int i), some (.int x5), some (.long x12), none] [.int x16] (emb 35 44 x d c u t a b m13 o6 []) _ _ _
  refine rn_iload (by exact dc_Lw_law 246 rfl) (by exact rfl) ?_
  by_cases c18 : x16 = x5
  · replace h17 := rn_ifp c18 h17
    refine rn_icmp_eq_t 468 (by exact dc_Lw_law 247 rfl) (by exact rfl) c18 ?_
    refine rn_iload (by exact dc_Lw_law 250 rfl) (by exact rfl) ?_
    by_cases c19 : ¬ x5 = 0
    · replace h17 := rn_ifp c19 h17
      refine rn_if_ne_t 484 (by exact dc_Lw_law 251 rfl) (by exact rfl) c19 ?_
      refine rn_goto 861 (by exact dc_Lw_law 260 rfl) (by exact rfl) ?_
      cases h17
      exact rn_weak _ (by repeat (first | exact rn_le_0 | apply rn_le_s | apply rn_le_x)) hx
    · replace h17 := rn_ifn c19 h17
      refine rn_if_ne_f 484 (by exact dc_Lw_law 251 rfl) (by exact rfl) (Classical.not_not.mp c19) ?_
      refine rn_aload_n (by exact dc_Lw_law 252 rfl) (by exact rfl) ?_
      refine rn_iconst (v := (0 : Int32)) (by exact dc_Lw_law 253 rfl) (by decide) ?_
      obtain ⟨x20, e21, h22⟩ := rn_bind h17
      clear h17
      refine rn_laload (by exact dc_Lw_law 254 rfl) (by exact rfl) e21 ?_
      refine rn_lload (by exact dc_Lw_law 255 rfl) (by exact rfl) ?_
      refine rn_lcmp (by exact dc_Lw_law 256 rfl) ?_
      by_cases c23 : (lg_cmp x20 x12) = 0
      · replace h22 := rn_ifp c23 h22
        refine rn_if_eq_t 484 (by exact dc_Lw_law 257 rfl) (by exact rfl) c23 ?_
        refine rn_goto 861 (by exact dc_Lw_law 260 rfl) (by exact rfl) ?_
        cases h22
        exact rn_weak _ (by repeat (first | exact rn_le_0 | apply rn_le_s | apply rn_le_x)) hx
      · replace h22 := rn_ifn c23 h22
        refine rn_if_eq_f 484 (by exact dc_Lw_law 257 rfl) (by exact rfl) c23 ?_
        refine rn_iconst (v := (0 : Int32)) (by exact dc_Lw_law 258 rfl) (by decide) ?_
        cases h22
  · replace h17 := rn_ifn c18 h17
    refine rn_icmp_eq_f 468 (by exact dc_Lw_law 247 rfl) (by exact rfl) c18 ?_
    refine rn_iconst (v := (0 : Int32)) (by exact dc_Lw_law 248 rfl) (by decide) ?_
    cases h17
def F_Lw_law_unit (xs : Nat → Int32) (L : Nat) (u : tU) (a : tG) (m : tM) (o : tO) (i : Int32) : Option (tM × tO) :=
  Option.bind (aG xs L (i + (1 : Int32))) fun x1 =>
  Option.bind (aG xs L (i + (2 : Int32))) fun x4 =>
  Option.bind (F_Lw_unit u a o x1 x4) fun (x8, o9) =>
  Option.bind (aG xs L (i + (1 : Int32))) fun x11 =>
  Option.bind (aG xs L (i + (2 : Int32))) fun x14 =>
  Option.bind (F_Md_unit m x11 x14) fun (x18, m19) =>
  Option.bind (F_Md_thrown m19 ) fun x22 =>
  if x22 = x8 then (
    if ¬ x8 = 0 then (
      some (m19, o9)
    ) else (
      Option.bind (aG o9 1 (0 : Int32)) fun x26 =>
      if (lg_cmp x26 x18) = 0 then (
        some (m19, o9)
      ) else (
        none
      )
    )
  ) else (
    none
  )
set_option maxHeartbeats 4000000 in
set_option maxRecDepth 100000 in
theorem p_Lw_law_unit {Z : rn_Z} {x : tX} {d : tD} {c : tC} {u : tU} {t : tT} {a : tG} {b : tG} {m : tM} {o : tO} {i : Int32} {K : rn_K} {ca sa : Nat} {m_r : tM} {o_r : tO} (hZ : Z.1.stackTraces = false) (hK : ∀ below args s mc ms A a b, K below args s mc ms A a = K below args s mc ms A b) (h : F_Lw_law_unit Z.2.2.2.2 Z.2.2.2.1 u a m o i = some (m_r, o_r)) (hx : Rn Z M_Lw_law 861 [some (.ref 0), some (.ref 1), some (.ref 53), some (.ref 76), some (.int i), none, none, none] [] (emb 35 44 x d c u t a b m_r o_r []) ca sa K) : Rn Z M_Lw_law 487 [some (.ref 0), some (.ref 1), some (.ref 53), some (.ref 76), some (.int i), none, none, none] [] (emb 35 44 x d c u t a b m o []) (ca + 1) (sa + 6) K := by
  unfold F_Lw_law_unit at h
  refine rn_aload_n (by exact dc_Lw_law 261 rfl) (by exact rfl) ?_
  refine rn_aload_n (by exact dc_Lw_law 262 rfl) (by exact rfl) ?_
  refine rn_iload (by exact dc_Lw_law 263 rfl) (by exact rfl) ?_
  refine rn_iconst (v := (1 : Int32)) (by exact dc_Lw_law 264 rfl) (by decide) ?_
  refine rn_iadd (by exact dc_Lw_law 265 rfl) ?_
  obtain ⟨x1, e2, h3⟩ := rn_bind h
  clear h
  refine rn_sload (by exact dc_Lw_law 266 rfl) (by exact rfl) e2 ?_
  refine rn_aload_n (by exact dc_Lw_law 267 rfl) (by exact rfl) ?_
  refine rn_iload (by exact dc_Lw_law 268 rfl) (by exact rfl) ?_
  refine rn_iconst (v := (2 : Int32)) (by exact dc_Lw_law 269 rfl) (by decide) ?_
  refine rn_iadd (by exact dc_Lw_law 270 rfl) ?_
  obtain ⟨x4, e5, h6⟩ := rn_bind h3
  clear h3
  refine rn_sload (by exact dc_Lw_law 271 rfl) (by exact rfl) e5 ?_
  refine rn_aload_n (by exact dc_Lw_law 272 rfl) (by exact rfl) ?_
  obtain ⟨⟨x8, o9⟩, e7, h10⟩ := rn_bind h6
  clear h6
  dsimp only at h10
  refine rn_invSH (n := 4) (ca := ca) (sa := sa) (ca' := 1) (sa' := 6) (by exact c_Lw_unit hZ e7) cw_Lw_unit lw_ini (by decide) (by decide +kernel) lk_98 ls_98 (by exact ⟨Nat.le_of_ble_eq_true rfl, Nat.le_of_ble_eq_true rfl⟩) (by exact dc_Lw_law 273 rfl) (by exact rfl) (by exact rfl) (by exact Nat.le_of_ble_eq_true rfl) ?_
  show Rn _ _ 504 [some (.ref 0), some (.ref 1), some (.ref 53), some (.ref 76), some (.int i), none, none, none] [.int x8] (emb 35 44 x d c u t a b m o9 []) _ _ _
  refine rn_istore (ls' := [some (.ref 0), some (.ref 1), some (.ref 53), some (.ref 76), some (.int i), some (.int x8), none, none]) (by exact dc_Lw_law 274 rfl) (by decide) (by exact rfl) ?_
  refine rn_aload_n (by exact dc_Lw_law 275 rfl) (by exact rfl) ?_
  refine rn_aload_n (by exact dc_Lw_law 276 rfl) (by exact rfl) ?_
  refine rn_iload (by exact dc_Lw_law 277 rfl) (by exact rfl) ?_
  refine rn_iconst (v := (1 : Int32)) (by exact dc_Lw_law 278 rfl) (by decide) ?_
  refine rn_iadd (by exact dc_Lw_law 279 rfl) ?_
  obtain ⟨x11, e12, h13⟩ := rn_bind h10
  clear h10
  refine rn_sload (by exact dc_Lw_law 280 rfl) (by exact rfl) e12 ?_
  refine rn_aload_n (by exact dc_Lw_law 281 rfl) (by exact rfl) ?_
  refine rn_iload (by exact dc_Lw_law 282 rfl) (by exact rfl) ?_
  refine rn_iconst (v := (2 : Int32)) (by exact dc_Lw_law 283 rfl) (by decide) ?_
  refine rn_iadd (by exact dc_Lw_law 284 rfl) ?_
  obtain ⟨x14, e15, h16⟩ := rn_bind h13
  clear h13
  refine rn_sload (by exact dc_Lw_law 285 rfl) (by exact rfl) e15 ?_
  obtain ⟨⟨x18, m19⟩, e17, h20⟩ := rn_bind h16
  clear h16
  dsimp only at h20
  refine rn_invV0 (by exact c_Md_unit e17) iv_Lw_101 (by exact ⟨Nat.le_of_ble_eq_true rfl, Nat.le_of_ble_eq_true rfl⟩) (by exact dc_Lw_law 286 rfl) (by exact rfl) (by exact rfl) (by exact rfl) (by exact Nat.le_of_ble_eq_true rfl) ?_
  show Rn _ _ 522 [some (.ref 0), some (.ref 1), some (.ref 53), some (.ref 76), some (.int i), some (.int x8), none, none] [.long x18] (emb 35 44 x d c u t a b m19 o9 []) _ _ _
  refine rn_lstore (ls' := [some (.ref 0), some (.ref 1), some (.ref 53), some (.ref 76), some (.int i), some (.int x8), some (.long x18), none]) (by exact dc_Lw_law 287 rfl) (by decide) (by exact rfl) ?_
  refine rn_aload_n (by exact dc_Lw_law 288 rfl) (by exact rfl) ?_
  obtain ⟨x22, e21, h23⟩ := rn_bind h20
  clear h20
  refine rn_invV0 (by exact c_Md_thrown e21) iv_Lw_74 (by exact ⟨Nat.le_of_ble_eq_true rfl, Nat.le_of_ble_eq_true rfl⟩) (by exact dc_Lw_law 289 rfl) (by exact rfl) (by exact rfl) (by exact rfl) (by exact Nat.le_of_ble_eq_true rfl) ?_
  show Rn _ _ 528 [some (.ref 0), some (.ref 1), some (.ref 53), some (.ref 76), some (.int i), some (.int x8), some (.long x18), none] [.int x22] (emb 35 44 x d c u t a b m19 o9 []) _ _ _
  refine rn_iload (by exact dc_Lw_law 290 rfl) (by exact rfl) ?_
  by_cases c24 : x22 = x8
  · replace h23 := rn_ifp c24 h23
    refine rn_icmp_eq_t 535 (by exact dc_Lw_law 291 rfl) (by exact rfl) c24 ?_
    refine rn_iload (by exact dc_Lw_law 294 rfl) (by exact rfl) ?_
    by_cases c25 : ¬ x8 = 0
    · replace h23 := rn_ifp c25 h23
      refine rn_if_ne_t 551 (by exact dc_Lw_law 295 rfl) (by exact rfl) c25 ?_
      refine rn_goto 861 (by exact dc_Lw_law 304 rfl) (by exact rfl) ?_
      cases h23
      exact rn_weak _ (by repeat (first | exact rn_le_0 | apply rn_le_s | apply rn_le_x)) hx
    · replace h23 := rn_ifn c25 h23
      refine rn_if_ne_f 551 (by exact dc_Lw_law 295 rfl) (by exact rfl) (Classical.not_not.mp c25) ?_
      refine rn_aload_n (by exact dc_Lw_law 296 rfl) (by exact rfl) ?_
      refine rn_iconst (v := (0 : Int32)) (by exact dc_Lw_law 297 rfl) (by decide) ?_
      obtain ⟨x26, e27, h28⟩ := rn_bind h23
      clear h23
      refine rn_laload (by exact dc_Lw_law 298 rfl) (by exact rfl) e27 ?_
      refine rn_lload (by exact dc_Lw_law 299 rfl) (by exact rfl) ?_
      refine rn_lcmp (by exact dc_Lw_law 300 rfl) ?_
      by_cases c29 : (lg_cmp x26 x18) = 0
      · replace h28 := rn_ifp c29 h28
        refine rn_if_eq_t 551 (by exact dc_Lw_law 301 rfl) (by exact rfl) c29 ?_
        refine rn_goto 861 (by exact dc_Lw_law 304 rfl) (by exact rfl) ?_
        cases h28
        exact rn_weak _ (by repeat (first | exact rn_le_0 | apply rn_le_s | apply rn_le_x)) hx
      · replace h28 := rn_ifn c29 h28
        refine rn_if_eq_f 551 (by exact dc_Lw_law 301 rfl) (by exact rfl) c29 ?_
        refine rn_iconst (v := (0 : Int32)) (by exact dc_Lw_law 302 rfl) (by decide) ?_
        cases h28
  · replace h23 := rn_ifn c24 h23
    refine rn_icmp_eq_f 535 (by exact dc_Lw_law 291 rfl) (by exact rfl) c24 ?_
    refine rn_iconst (v := (0 : Int32)) (by exact dc_Lw_law 292 rfl) (by decide) ?_
    cases h23
def F_Lw_law_inside (xs : Nat → Int32) (L : Nat) (c : tC) (a : tG) (m : tM) (o : tO) (i : Int32) : Option (tM × tO) :=
  Option.bind (aG xs L (i + (1 : Int32))) fun x1 =>
  Option.bind (aG xs L (i + (2 : Int32))) fun x4 =>
  Option.bind (aG xs L (i + (3 : Int32))) fun x7 =>
  Option.bind (F_Lw_inside c a o x1 x4 x7) fun (x11, o12) =>
  Option.bind (aG xs L (i + (1 : Int32))) fun x14 =>
  Option.bind (aG xs L (i + (2 : Int32))) fun x17 =>
  Option.bind (aG xs L (i + (3 : Int32))) fun x20 =>
  Option.bind (F_Md_inside m x14 x17 x20) fun (x24, m25) =>
  Option.bind (F_Md_thrown m25 ) fun x28 =>
  if x28 = x11 then (
    if ¬ x11 = 0 then (
      some (m25, o12)
    ) else (
      Option.bind (aG o12 1 (0 : Int32)) fun x32 =>
      if (lg_cmp x32 x24) = 0 then (
        some (m25, o12)
      ) else (
        none
      )
    )
  ) else (
    none
  )
set_option maxHeartbeats 4000000 in
set_option maxRecDepth 100000 in
theorem p_Lw_law_inside {Z : rn_Z} {x : tX} {d : tD} {c : tC} {u : tU} {t : tT} {a : tG} {b : tG} {m : tM} {o : tO} {i : Int32} {K : rn_K} {ca sa : Nat} {m_r : tM} {o_r : tO} (hZ : Z.1.stackTraces = false) (hK : ∀ below args s mc ms A a b, K below args s mc ms A a = K below args s mc ms A b) (h : F_Lw_law_inside Z.2.2.2.2 Z.2.2.2.1 c a m o i = some (m_r, o_r)) (hx : Rn Z M_Lw_law 861 [some (.ref 0), some (.ref 1), some (.ref 53), some (.ref 76), some (.int i), none, none, none] [] (emb 35 44 x d c u t a b m_r o_r []) ca sa K) : Rn Z M_Lw_law 554 [some (.ref 0), some (.ref 1), some (.ref 53), some (.ref 76), some (.int i), none, none, none] [] (emb 35 44 x d c u t a b m o []) (ca + 1) (sa + 6) K := by
  unfold F_Lw_law_inside at h
  refine rn_aload_n (by exact dc_Lw_law 305 rfl) (by exact rfl) ?_
  refine rn_aload_n (by exact dc_Lw_law 306 rfl) (by exact rfl) ?_
  refine rn_iload (by exact dc_Lw_law 307 rfl) (by exact rfl) ?_
  refine rn_iconst (v := (1 : Int32)) (by exact dc_Lw_law 308 rfl) (by decide) ?_
  refine rn_iadd (by exact dc_Lw_law 309 rfl) ?_
  obtain ⟨x1, e2, h3⟩ := rn_bind h
  clear h
  refine rn_sload (by exact dc_Lw_law 310 rfl) (by exact rfl) e2 ?_
  refine rn_aload_n (by exact dc_Lw_law 311 rfl) (by exact rfl) ?_
  refine rn_iload (by exact dc_Lw_law 312 rfl) (by exact rfl) ?_
  refine rn_iconst (v := (2 : Int32)) (by exact dc_Lw_law 313 rfl) (by decide) ?_
  refine rn_iadd (by exact dc_Lw_law 314 rfl) ?_
  obtain ⟨x4, e5, h6⟩ := rn_bind h3
  clear h3
  refine rn_sload (by exact dc_Lw_law 315 rfl) (by exact rfl) e5 ?_
  refine rn_aload_n (by exact dc_Lw_law 316 rfl) (by exact rfl) ?_
  refine rn_iload (by exact dc_Lw_law 317 rfl) (by exact rfl) ?_
  refine rn_iconst (v := (3 : Int32)) (by exact dc_Lw_law 318 rfl) (by decide) ?_
  refine rn_iadd (by exact dc_Lw_law 319 rfl) ?_
  obtain ⟨x7, e8, h9⟩ := rn_bind h6
  clear h6
  refine rn_sload (by exact dc_Lw_law 320 rfl) (by exact rfl) e8 ?_
  refine rn_aload_n (by exact dc_Lw_law 321 rfl) (by exact rfl) ?_
  obtain ⟨⟨x11, o12⟩, e10, h13⟩ := rn_bind h9
  clear h9
  dsimp only at h13
  refine rn_invSH (n := 5) (ca := ca) (sa := sa) (ca' := 1) (sa' := 6) (by exact c_Lw_inside hZ e10) cw_Lw_inside lw_ini (by decide) (by decide +kernel) lk_102 ls_102 (by exact ⟨Nat.le_of_ble_eq_true rfl, Nat.le_of_ble_eq_true rfl⟩) (by exact dc_Lw_law 322 rfl) (by exact rfl) (by exact rfl) (by exact Nat.le_of_ble_eq_true rfl) ?_
  show Rn _ _ 577 [some (.ref 0), some (.ref 1), some (.ref 53), some (.ref 76), some (.int i), none, none, none] [.int x11] (emb 35 44 x d c u t a b m o12 []) _ _ _
  refine rn_istore (ls' := [some (.ref 0), some (.ref 1), some (.ref 53), some (.ref 76), some (.int i), some (.int x11), none, none]) (by exact dc_Lw_law 323 rfl) (by decide) (by exact rfl) ?_
  refine rn_aload_n (by exact dc_Lw_law 324 rfl) (by exact rfl) ?_
  refine rn_aload_n (by exact dc_Lw_law 325 rfl) (by exact rfl) ?_
  refine rn_iload (by exact dc_Lw_law 326 rfl) (by exact rfl) ?_
  refine rn_iconst (v := (1 : Int32)) (by exact dc_Lw_law 327 rfl) (by decide) ?_
  refine rn_iadd (by exact dc_Lw_law 328 rfl) ?_
  obtain ⟨x14, e15, h16⟩ := rn_bind h13
  clear h13
  refine rn_sload (by exact dc_Lw_law 329 rfl) (by exact rfl) e15 ?_
  refine rn_aload_n (by exact dc_Lw_law 330 rfl) (by exact rfl) ?_
  refine rn_iload (by exact dc_Lw_law 331 rfl) (by exact rfl) ?_
  refine rn_iconst (v := (2 : Int32)) (by exact dc_Lw_law 332 rfl) (by decide) ?_
  refine rn_iadd (by exact dc_Lw_law 333 rfl) ?_
  obtain ⟨x17, e18, h19⟩ := rn_bind h16
  clear h16
  refine rn_sload (by exact dc_Lw_law 334 rfl) (by exact rfl) e18 ?_
  refine rn_aload_n (by exact dc_Lw_law 335 rfl) (by exact rfl) ?_
  refine rn_iload (by exact dc_Lw_law 336 rfl) (by exact rfl) ?_
  refine rn_iconst (v := (3 : Int32)) (by exact dc_Lw_law 337 rfl) (by decide) ?_
  refine rn_iadd (by exact dc_Lw_law 338 rfl) ?_
  obtain ⟨x20, e21, h22⟩ := rn_bind h19
  clear h19
  refine rn_sload (by exact dc_Lw_law 339 rfl) (by exact rfl) e21 ?_
  obtain ⟨⟨x24, m25⟩, e23, h26⟩ := rn_bind h22
  clear h22
  dsimp only at h26
  refine rn_invV0 (by exact c_Md_inside e23) iv_Lw_105 (by exact ⟨Nat.le_of_ble_eq_true rfl, Nat.le_of_ble_eq_true rfl⟩) (by exact dc_Lw_law 340 rfl) (by exact rfl) (by exact rfl) (by exact rfl) (by exact Nat.le_of_ble_eq_true rfl) ?_
  show Rn _ _ 601 [some (.ref 0), some (.ref 1), some (.ref 53), some (.ref 76), some (.int i), some (.int x11), none, none] [.long x24] (emb 35 44 x d c u t a b m25 o12 []) _ _ _
  refine rn_lstore (ls' := [some (.ref 0), some (.ref 1), some (.ref 53), some (.ref 76), some (.int i), some (.int x11), some (.long x24), none]) (by exact dc_Lw_law 341 rfl) (by decide) (by exact rfl) ?_
  refine rn_aload_n (by exact dc_Lw_law 342 rfl) (by exact rfl) ?_
  obtain ⟨x28, e27, h29⟩ := rn_bind h26
  clear h26
  refine rn_invV0 (by exact c_Md_thrown e27) iv_Lw_74 (by exact ⟨Nat.le_of_ble_eq_true rfl, Nat.le_of_ble_eq_true rfl⟩) (by exact dc_Lw_law 343 rfl) (by exact rfl) (by exact rfl) (by exact rfl) (by exact Nat.le_of_ble_eq_true rfl) ?_
  show Rn _ _ 607 [some (.ref 0), some (.ref 1), some (.ref 53), some (.ref 76), some (.int i), some (.int x11), some (.long x24), none] [.int x28] (emb 35 44 x d c u t a b m25 o12 []) _ _ _
  refine rn_iload (by exact dc_Lw_law 344 rfl) (by exact rfl) ?_
  by_cases c30 : x28 = x11
  · replace h29 := rn_ifp c30 h29
    refine rn_icmp_eq_t 614 (by exact dc_Lw_law 345 rfl) (by exact rfl) c30 ?_
    refine rn_iload (by exact dc_Lw_law 348 rfl) (by exact rfl) ?_
    by_cases c31 : ¬ x11 = 0
    · replace h29 := rn_ifp c31 h29
      refine rn_if_ne_t 630 (by exact dc_Lw_law 349 rfl) (by exact rfl) c31 ?_
      refine rn_goto 861 (by exact dc_Lw_law 358 rfl) (by exact rfl) ?_
      cases h29
      exact rn_weak _ (by repeat (first | exact rn_le_0 | apply rn_le_s | apply rn_le_x)) hx
    · replace h29 := rn_ifn c31 h29
      refine rn_if_ne_f 630 (by exact dc_Lw_law 349 rfl) (by exact rfl) (Classical.not_not.mp c31) ?_
      refine rn_aload_n (by exact dc_Lw_law 350 rfl) (by exact rfl) ?_
      refine rn_iconst (v := (0 : Int32)) (by exact dc_Lw_law 351 rfl) (by decide) ?_
      obtain ⟨x32, e33, h34⟩ := rn_bind h29
      clear h29
      refine rn_laload (by exact dc_Lw_law 352 rfl) (by exact rfl) e33 ?_
      refine rn_lload (by exact dc_Lw_law 353 rfl) (by exact rfl) ?_
      refine rn_lcmp (by exact dc_Lw_law 354 rfl) ?_
      by_cases c35 : (lg_cmp x32 x24) = 0
      · replace h34 := rn_ifp c35 h34
        refine rn_if_eq_t 630 (by exact dc_Lw_law 355 rfl) (by exact rfl) c35 ?_
        refine rn_goto 861 (by exact dc_Lw_law 358 rfl) (by exact rfl) ?_
        cases h34
        exact rn_weak _ (by repeat (first | exact rn_le_0 | apply rn_le_s | apply rn_le_x)) hx
      · replace h34 := rn_ifn c35 h34
        refine rn_if_eq_f 630 (by exact dc_Lw_law 355 rfl) (by exact rfl) c35 ?_
        refine rn_iconst (v := (0 : Int32)) (by exact dc_Lw_law 356 rfl) (by decide) ?_
        cases h34
  · replace h29 := rn_ifn c30 h29
    refine rn_icmp_eq_f 614 (by exact dc_Lw_law 345 rfl) (by exact rfl) c30 ?_
    refine rn_iconst (v := (0 : Int32)) (by exact dc_Lw_law 346 rfl) (by decide) ?_
    cases h29
def F_Lw_law_cheapest (xs : Nat → Int32) (L : Nat) (c : tC) (a : tG) (m : tM) (o : tO) (i : Int32) : Option (tM × tO) :=
  Option.bind (aG xs L (i + (1 : Int32))) fun x1 =>
  Option.bind (aG xs L (i + (2 : Int32))) fun x4 =>
  Option.bind (aG xs L (i + (3 : Int32))) fun x7 =>
  Option.bind (F_Lw_cheapest c a o x1 x4 x7) fun (x11, o12) =>
  Option.bind (aG xs L (i + (1 : Int32))) fun x14 =>
  Option.bind (aG xs L (i + (2 : Int32))) fun x17 =>
  Option.bind (aG xs L (i + (3 : Int32))) fun x20 =>
  Option.bind (F_Md_cheapest m x14 x17 x20) fun (x24, m25) =>
  Option.bind (F_Md_thrown m25 ) fun x28 =>
  if x28 = x11 then (
    if ¬ x11 = 0 then (
      some (m25, o12)
    ) else (
      Option.bind (aG o12 1 (0 : Int32)) fun x32 =>
      if (lg_cmp x32 (x24.toInt64)) = 0 then (
        some (m25, o12)
      ) else (
        none
      )
    )
  ) else (
    none
  )
set_option maxHeartbeats 4000000 in
set_option maxRecDepth 100000 in
theorem p_Lw_law_cheapest {Z : rn_Z} {x : tX} {d : tD} {c : tC} {u : tU} {t : tT} {a : tG} {b : tG} {m : tM} {o : tO} {i : Int32} {K : rn_K} {ca sa : Nat} {m_r : tM} {o_r : tO} (hZ : Z.1.stackTraces = false) (hK : ∀ below args s mc ms A a b, K below args s mc ms A a = K below args s mc ms A b) (h : F_Lw_law_cheapest Z.2.2.2.2 Z.2.2.2.1 c a m o i = some (m_r, o_r)) (hx : Rn Z M_Lw_law 861 [some (.ref 0), some (.ref 1), some (.ref 53), some (.ref 76), some (.int i), none, none, none] [] (emb 35 44 x d c u t a b m_r o_r []) ca sa K) : Rn Z M_Lw_law 633 [some (.ref 0), some (.ref 1), some (.ref 53), some (.ref 76), some (.int i), none, none, none] [] (emb 35 44 x d c u t a b m o []) (ca + 1) (sa + 6) K := by
  unfold F_Lw_law_cheapest at h
  refine rn_aload_n (by exact dc_Lw_law 359 rfl) (by exact rfl) ?_
  refine rn_aload_n (by exact dc_Lw_law 360 rfl) (by exact rfl) ?_
  refine rn_iload (by exact dc_Lw_law 361 rfl) (by exact rfl) ?_
  refine rn_iconst (v := (1 : Int32)) (by exact dc_Lw_law 362 rfl) (by decide) ?_
  refine rn_iadd (by exact dc_Lw_law 363 rfl) ?_
  obtain ⟨x1, e2, h3⟩ := rn_bind h
  clear h
  refine rn_sload (by exact dc_Lw_law 364 rfl) (by exact rfl) e2 ?_
  refine rn_aload_n (by exact dc_Lw_law 365 rfl) (by exact rfl) ?_
  refine rn_iload (by exact dc_Lw_law 366 rfl) (by exact rfl) ?_
  refine rn_iconst (v := (2 : Int32)) (by exact dc_Lw_law 367 rfl) (by decide) ?_
  refine rn_iadd (by exact dc_Lw_law 368 rfl) ?_
  obtain ⟨x4, e5, h6⟩ := rn_bind h3
  clear h3
  refine rn_sload (by exact dc_Lw_law 369 rfl) (by exact rfl) e5 ?_
  refine rn_aload_n (by exact dc_Lw_law 370 rfl) (by exact rfl) ?_
  refine rn_iload (by exact dc_Lw_law 371 rfl) (by exact rfl) ?_
  refine rn_iconst (v := (3 : Int32)) (by exact dc_Lw_law 372 rfl) (by decide) ?_
  refine rn_iadd (by exact dc_Lw_law 373 rfl) ?_
  obtain ⟨x7, e8, h9⟩ := rn_bind h6
  clear h6
  refine rn_sload (by exact dc_Lw_law 374 rfl) (by exact rfl) e8 ?_
  refine rn_aload_n (by exact dc_Lw_law 375 rfl) (by exact rfl) ?_
  obtain ⟨⟨x11, o12⟩, e10, h13⟩ := rn_bind h9
  clear h9
  dsimp only at h13
  refine rn_invSH (n := 5) (ca := ca) (sa := sa) (ca' := 1) (sa' := 6) (by exact c_Lw_cheapest hZ e10) cw_Lw_cheapest lw_ini (by decide) (by decide +kernel) lk_106 ls_106 (by exact ⟨Nat.le_of_ble_eq_true rfl, Nat.le_of_ble_eq_true rfl⟩) (by exact dc_Lw_law 376 rfl) (by exact rfl) (by exact rfl) (by exact Nat.le_of_ble_eq_true rfl) ?_
  show Rn _ _ 656 [some (.ref 0), some (.ref 1), some (.ref 53), some (.ref 76), some (.int i), none, none, none] [.int x11] (emb 35 44 x d c u t a b m o12 []) _ _ _
  refine rn_istore (ls' := [some (.ref 0), some (.ref 1), some (.ref 53), some (.ref 76), some (.int i), some (.int x11), none, none]) (by exact dc_Lw_law 377 rfl) (by decide) (by exact rfl) ?_
  refine rn_aload_n (by exact dc_Lw_law 378 rfl) (by exact rfl) ?_
  refine rn_aload_n (by exact dc_Lw_law 379 rfl) (by exact rfl) ?_
  refine rn_iload (by exact dc_Lw_law 380 rfl) (by exact rfl) ?_
  refine rn_iconst (v := (1 : Int32)) (by exact dc_Lw_law 381 rfl) (by decide) ?_
  refine rn_iadd (by exact dc_Lw_law 382 rfl) ?_
  obtain ⟨x14, e15, h16⟩ := rn_bind h13
  clear h13
  refine rn_sload (by exact dc_Lw_law 383 rfl) (by exact rfl) e15 ?_
  refine rn_aload_n (by exact dc_Lw_law 384 rfl) (by exact rfl) ?_
  refine rn_iload (by exact dc_Lw_law 385 rfl) (by exact rfl) ?_
  refine rn_iconst (v := (2 : Int32)) (by exact dc_Lw_law 386 rfl) (by decide) ?_
  refine rn_iadd (by exact dc_Lw_law 387 rfl) ?_
  obtain ⟨x17, e18, h19⟩ := rn_bind h16
  clear h16
  refine rn_sload (by exact dc_Lw_law 388 rfl) (by exact rfl) e18 ?_
  refine rn_aload_n (by exact dc_Lw_law 389 rfl) (by exact rfl) ?_
  refine rn_iload (by exact dc_Lw_law 390 rfl) (by exact rfl) ?_
  refine rn_iconst (v := (3 : Int32)) (by exact dc_Lw_law 391 rfl) (by decide) ?_
  refine rn_iadd (by exact dc_Lw_law 392 rfl) ?_
  obtain ⟨x20, e21, h22⟩ := rn_bind h19
  clear h19
  refine rn_sload (by exact dc_Lw_law 393 rfl) (by exact rfl) e21 ?_
  obtain ⟨⟨x24, m25⟩, e23, h26⟩ := rn_bind h22
  clear h22
  dsimp only at h26
  refine rn_invV0 (by exact c_Md_cheapest e23) iv_Lw_108 (by exact ⟨Nat.le_of_ble_eq_true rfl, Nat.le_of_ble_eq_true rfl⟩) (by exact dc_Lw_law 394 rfl) (by exact rfl) (by exact rfl) (by exact rfl) (by exact Nat.le_of_ble_eq_true rfl) ?_
  show Rn _ _ 680 [some (.ref 0), some (.ref 1), some (.ref 53), some (.ref 76), some (.int i), some (.int x11), none, none] [.int x24] (emb 35 44 x d c u t a b m25 o12 []) _ _ _
  refine rn_istore (ls' := [some (.ref 0), some (.ref 1), some (.ref 53), some (.ref 76), some (.int i), some (.int x11), some (.int x24), none]) (by exact dc_Lw_law 395 rfl) (by decide) (by exact rfl) ?_
  refine rn_aload_n (by exact dc_Lw_law 396 rfl) (by exact rfl) ?_
  obtain ⟨x28, e27, h29⟩ := rn_bind h26
  clear h26
  refine rn_invV0 (by exact c_Md_thrown e27) iv_Lw_74 (by exact ⟨Nat.le_of_ble_eq_true rfl, Nat.le_of_ble_eq_true rfl⟩) (by exact dc_Lw_law 397 rfl) (by exact rfl) (by exact rfl) (by exact rfl) (by exact Nat.le_of_ble_eq_true rfl) ?_
  show Rn _ _ 686 [some (.ref 0), some (.ref 1), some (.ref 53), some (.ref 76), some (.int i), some (.int x11), some (.int x24), none] [.int x28] (emb 35 44 x d c u t a b m25 o12 []) _ _ _
  refine rn_iload (by exact dc_Lw_law 398 rfl) (by exact rfl) ?_
  by_cases c30 : x28 = x11
  · replace h29 := rn_ifp c30 h29
    refine rn_icmp_eq_t 693 (by exact dc_Lw_law 399 rfl) (by exact rfl) c30 ?_
    refine rn_iload (by exact dc_Lw_law 402 rfl) (by exact rfl) ?_
    by_cases c31 : ¬ x11 = 0
    · replace h29 := rn_ifp c31 h29
      refine rn_if_ne_t 710 (by exact dc_Lw_law 403 rfl) (by exact rfl) c31 ?_
      refine rn_goto 861 (by exact dc_Lw_law 413 rfl) (by exact rfl) ?_
      cases h29
      exact rn_weak _ (by repeat (first | exact rn_le_0 | apply rn_le_s | apply rn_le_x)) hx
    · replace h29 := rn_ifn c31 h29
      refine rn_if_ne_f 710 (by exact dc_Lw_law 403 rfl) (by exact rfl) (Classical.not_not.mp c31) ?_
      refine rn_aload_n (by exact dc_Lw_law 404 rfl) (by exact rfl) ?_
      refine rn_iconst (v := (0 : Int32)) (by exact dc_Lw_law 405 rfl) (by decide) ?_
      obtain ⟨x32, e33, h34⟩ := rn_bind h29
      clear h29
      refine rn_laload (by exact dc_Lw_law 406 rfl) (by exact rfl) e33 ?_
      refine rn_iload (by exact dc_Lw_law 407 rfl) (by exact rfl) ?_
      refine rn_i2l (by exact dc_Lw_law 408 rfl) ?_
      refine rn_lcmp (by exact dc_Lw_law 409 rfl) ?_
      by_cases c35 : (lg_cmp x32 (x24.toInt64)) = 0
      · replace h34 := rn_ifp c35 h34
        refine rn_if_eq_t 710 (by exact dc_Lw_law 410 rfl) (by exact rfl) c35 ?_
        refine rn_goto 861 (by exact dc_Lw_law 413 rfl) (by exact rfl) ?_
        cases h34
        exact rn_weak _ (by repeat (first | exact rn_le_0 | apply rn_le_s | apply rn_le_x)) hx
      · replace h34 := rn_ifn c35 h34
        refine rn_if_eq_f 710 (by exact dc_Lw_law 410 rfl) (by exact rfl) c35 ?_
        refine rn_iconst (v := (0 : Int32)) (by exact dc_Lw_law 411 rfl) (by decide) ?_
        cases h34
  · replace h29 := rn_ifn c30 h29
    refine rn_icmp_eq_f 693 (by exact dc_Lw_law 399 rfl) (by exact rfl) c30 ?_
    refine rn_iconst (v := (0 : Int32)) (by exact dc_Lw_law 400 rfl) (by decide) ?_
    cases h29
def F_Lw_law_build (xs : Nat → Int32) (L : Nat) (c : tC) (t : tT) (a : tG) (m : tM) (o : tO) (i : Int32) : Option (tT × tM × tO) :=
  Option.bind (aG xs L (i + (1 : Int32))) fun x1 =>
  Option.bind (aG xs L (i + (2 : Int32))) fun x4 =>
  Option.bind (aG xs L (i + (3 : Int32))) fun x7 =>
  Option.bind (F_Lw_build c t a o x1 x4 x7) fun (x11, t12, o13) =>
  Option.bind (aG xs L (i + (1 : Int32))) fun x15 =>
  Option.bind (aG xs L (i + (2 : Int32))) fun x18 =>
  Option.bind (aG xs L (i + (3 : Int32))) fun x21 =>
  Option.bind (F_Md_build m x15 x18 x21) fun (x25, m26) =>
  Option.bind (F_Md_thrown m26 ) fun x29 =>
  if x29 = x11 then (
    if ¬ x11 = 0 then (
      some (t12, m26, o13)
    ) else (
      Option.bind (aG o13 1 (0 : Int32)) fun x33 =>
      if (lg_cmp x33 (x25.toInt64)) = 0 then (
        some (t12, m26, o13)
      ) else (
        none
      )
    )
  ) else (
    none
  )
set_option maxHeartbeats 4000000 in
set_option maxRecDepth 100000 in
theorem p_Lw_law_build {Z : rn_Z} {x : tX} {d : tD} {c : tC} {u : tU} {t : tT} {a : tG} {b : tG} {m : tM} {o : tO} {i : Int32} {K : rn_K} {ca sa : Nat} {t_r : tT} {m_r : tM} {o_r : tO} (hZ : Z.1.stackTraces = false) (hK : ∀ below args s mc ms A a b, K below args s mc ms A a = K below args s mc ms A b) (h : F_Lw_law_build Z.2.2.2.2 Z.2.2.2.1 c t a m o i = some (t_r, m_r, o_r)) (hx : Rn Z M_Lw_law 861 [some (.ref 0), some (.ref 1), some (.ref 53), some (.ref 76), some (.int i), none, none, none] [] (emb 35 44 x d c u t_r a b m_r o_r []) ca sa K) : Rn Z M_Lw_law 713 [some (.ref 0), some (.ref 1), some (.ref 53), some (.ref 76), some (.int i), none, none, none] [] (emb 35 44 x d c u t a b m o []) (ca + 1) (sa + 6) K := by
  unfold F_Lw_law_build at h
  refine rn_aload_n (by exact dc_Lw_law 414 rfl) (by exact rfl) ?_
  refine rn_aload_n (by exact dc_Lw_law 415 rfl) (by exact rfl) ?_
  refine rn_iload (by exact dc_Lw_law 416 rfl) (by exact rfl) ?_
  refine rn_iconst (v := (1 : Int32)) (by exact dc_Lw_law 417 rfl) (by decide) ?_
  refine rn_iadd (by exact dc_Lw_law 418 rfl) ?_
  obtain ⟨x1, e2, h3⟩ := rn_bind h
  clear h
  refine rn_sload (by exact dc_Lw_law 419 rfl) (by exact rfl) e2 ?_
  refine rn_aload_n (by exact dc_Lw_law 420 rfl) (by exact rfl) ?_
  refine rn_iload (by exact dc_Lw_law 421 rfl) (by exact rfl) ?_
  refine rn_iconst (v := (2 : Int32)) (by exact dc_Lw_law 422 rfl) (by decide) ?_
  refine rn_iadd (by exact dc_Lw_law 423 rfl) ?_
  obtain ⟨x4, e5, h6⟩ := rn_bind h3
  clear h3
  refine rn_sload (by exact dc_Lw_law 424 rfl) (by exact rfl) e5 ?_
  refine rn_aload_n (by exact dc_Lw_law 425 rfl) (by exact rfl) ?_
  refine rn_iload (by exact dc_Lw_law 426 rfl) (by exact rfl) ?_
  refine rn_iconst (v := (3 : Int32)) (by exact dc_Lw_law 427 rfl) (by decide) ?_
  refine rn_iadd (by exact dc_Lw_law 428 rfl) ?_
  obtain ⟨x7, e8, h9⟩ := rn_bind h6
  clear h6
  refine rn_sload (by exact dc_Lw_law 429 rfl) (by exact rfl) e8 ?_
  refine rn_aload_n (by exact dc_Lw_law 430 rfl) (by exact rfl) ?_
  obtain ⟨⟨x11, t12, o13⟩, e10, h14⟩ := rn_bind h9
  clear h9
  dsimp only at h14
  refine rn_invSH (n := 5) (ca := ca) (sa := sa) (ca' := 1) (sa' := 6) (by exact c_Lw_build hZ e10) cw_Lw_build lw_ini (by decide) (by decide +kernel) lk_109 ls_109 (by exact ⟨Nat.le_of_ble_eq_true rfl, Nat.le_of_ble_eq_true rfl⟩) (by exact dc_Lw_law 431 rfl) (by exact rfl) (by exact rfl) (by exact Nat.le_of_ble_eq_true rfl) ?_
  show Rn _ _ 736 [some (.ref 0), some (.ref 1), some (.ref 53), some (.ref 76), some (.int i), none, none, none] [.int x11] (emb 35 44 x d c u t12 a b m o13 []) _ _ _
  refine rn_istore (ls' := [some (.ref 0), some (.ref 1), some (.ref 53), some (.ref 76), some (.int i), some (.int x11), none, none]) (by exact dc_Lw_law 432 rfl) (by decide) (by exact rfl) ?_
  refine rn_aload_n (by exact dc_Lw_law 433 rfl) (by exact rfl) ?_
  refine rn_aload_n (by exact dc_Lw_law 434 rfl) (by exact rfl) ?_
  refine rn_iload (by exact dc_Lw_law 435 rfl) (by exact rfl) ?_
  refine rn_iconst (v := (1 : Int32)) (by exact dc_Lw_law 436 rfl) (by decide) ?_
  refine rn_iadd (by exact dc_Lw_law 437 rfl) ?_
  obtain ⟨x15, e16, h17⟩ := rn_bind h14
  clear h14
  refine rn_sload (by exact dc_Lw_law 438 rfl) (by exact rfl) e16 ?_
  refine rn_aload_n (by exact dc_Lw_law 439 rfl) (by exact rfl) ?_
  refine rn_iload (by exact dc_Lw_law 440 rfl) (by exact rfl) ?_
  refine rn_iconst (v := (2 : Int32)) (by exact dc_Lw_law 441 rfl) (by decide) ?_
  refine rn_iadd (by exact dc_Lw_law 442 rfl) ?_
  obtain ⟨x18, e19, h20⟩ := rn_bind h17
  clear h17
  refine rn_sload (by exact dc_Lw_law 443 rfl) (by exact rfl) e19 ?_
  refine rn_aload_n (by exact dc_Lw_law 444 rfl) (by exact rfl) ?_
  refine rn_iload (by exact dc_Lw_law 445 rfl) (by exact rfl) ?_
  refine rn_iconst (v := (3 : Int32)) (by exact dc_Lw_law 446 rfl) (by decide) ?_
  refine rn_iadd (by exact dc_Lw_law 447 rfl) ?_
  obtain ⟨x21, e22, h23⟩ := rn_bind h20
  clear h20
  refine rn_sload (by exact dc_Lw_law 448 rfl) (by exact rfl) e22 ?_
  obtain ⟨⟨x25, m26⟩, e24, h27⟩ := rn_bind h23
  clear h23
  dsimp only at h27
  refine rn_invV0 (by exact c_Md_build e24) iv_Lw_111 (by exact ⟨Nat.le_of_ble_eq_true rfl, Nat.le_of_ble_eq_true rfl⟩) (by exact dc_Lw_law 449 rfl) (by exact rfl) (by exact rfl) (by exact rfl) (by exact Nat.le_of_ble_eq_true rfl) ?_
  show Rn _ _ 760 [some (.ref 0), some (.ref 1), some (.ref 53), some (.ref 76), some (.int i), some (.int x11), none, none] [.int x25] (emb 35 44 x d c u t12 a b m26 o13 []) _ _ _
  refine rn_istore (ls' := [some (.ref 0), some (.ref 1), some (.ref 53), some (.ref 76), some (.int i), some (.int x11), some (.int x25), none]) (by exact dc_Lw_law 450 rfl) (by decide) (by exact rfl) ?_
  refine rn_aload_n (by exact dc_Lw_law 451 rfl) (by exact rfl) ?_
  obtain ⟨x29, e28, h30⟩ := rn_bind h27
  clear h27
  refine rn_invV0 (by exact c_Md_thrown e28) iv_Lw_74 (by exact ⟨Nat.le_of_ble_eq_true rfl, Nat.le_of_ble_eq_true rfl⟩) (by exact dc_Lw_law 452 rfl) (by exact rfl) (by exact rfl) (by exact rfl) (by exact Nat.le_of_ble_eq_true rfl) ?_
  show Rn _ _ 766 [some (.ref 0), some (.ref 1), some (.ref 53), some (.ref 76), some (.int i), some (.int x11), some (.int x25), none] [.int x29] (emb 35 44 x d c u t12 a b m26 o13 []) _ _ _
  refine rn_iload (by exact dc_Lw_law 453 rfl) (by exact rfl) ?_
  by_cases c31 : x29 = x11
  · replace h30 := rn_ifp c31 h30
    refine rn_icmp_eq_t 773 (by exact dc_Lw_law 454 rfl) (by exact rfl) c31 ?_
    refine rn_iload (by exact dc_Lw_law 457 rfl) (by exact rfl) ?_
    by_cases c32 : ¬ x11 = 0
    · replace h30 := rn_ifp c32 h30
      refine rn_if_ne_t 790 (by exact dc_Lw_law 458 rfl) (by exact rfl) c32 ?_
      refine rn_goto 861 (by exact dc_Lw_law 468 rfl) (by exact rfl) ?_
      cases h30
      exact rn_weak _ (by repeat (first | exact rn_le_0 | apply rn_le_s | apply rn_le_x)) hx
    · replace h30 := rn_ifn c32 h30
      refine rn_if_ne_f 790 (by exact dc_Lw_law 458 rfl) (by exact rfl) (Classical.not_not.mp c32) ?_
      refine rn_aload_n (by exact dc_Lw_law 459 rfl) (by exact rfl) ?_
      refine rn_iconst (v := (0 : Int32)) (by exact dc_Lw_law 460 rfl) (by decide) ?_
      obtain ⟨x33, e34, h35⟩ := rn_bind h30
      clear h30
      refine rn_laload (by exact dc_Lw_law 461 rfl) (by exact rfl) e34 ?_
      refine rn_iload (by exact dc_Lw_law 462 rfl) (by exact rfl) ?_
      refine rn_i2l (by exact dc_Lw_law 463 rfl) ?_
      refine rn_lcmp (by exact dc_Lw_law 464 rfl) ?_
      by_cases c36 : (lg_cmp x33 (x25.toInt64)) = 0
      · replace h35 := rn_ifp c36 h35
        refine rn_if_eq_t 790 (by exact dc_Lw_law 465 rfl) (by exact rfl) c36 ?_
        refine rn_goto 861 (by exact dc_Lw_law 468 rfl) (by exact rfl) ?_
        cases h35
        exact rn_weak _ (by repeat (first | exact rn_le_0 | apply rn_le_s | apply rn_le_x)) hx
      · replace h35 := rn_ifn c36 h35
        refine rn_if_eq_f 790 (by exact dc_Lw_law 465 rfl) (by exact rfl) c36 ?_
        refine rn_iconst (v := (0 : Int32)) (by exact dc_Lw_law 466 rfl) (by decide) ?_
        cases h35
  · replace h30 := rn_ifn c31 h30
    refine rn_icmp_eq_f 773 (by exact dc_Lw_law 454 rfl) (by exact rfl) c31 ?_
    refine rn_iconst (v := (0 : Int32)) (by exact dc_Lw_law 455 rfl) (by decide) ?_
    cases h30
def F_Lw_law_node (xs : Nat → Int32) (L : Nat) (t : tT) (m : tM) (o : tO) (i : Int32) : Option (tM × tO) :=
  Option.bind (aG xs L (i + (1 : Int32))) fun x1 =>
  Option.bind (aG xs L (i + (2 : Int32))) fun x4 =>
  Option.bind (F_Lw_node t o x1 x4) fun (x8, o9) =>
  Option.bind (aG xs L (i + (1 : Int32))) fun x11 =>
  Option.bind (aG xs L (i + (2 : Int32))) fun x14 =>
  Option.bind (F_Md_node m x11 x14) fun (x18, m19) =>
  Option.bind (F_Md_thrown m19 ) fun x22 =>
  if x22 = x8 then (
    if ¬ x8 = 0 then (
      some (m19, o9)
    ) else (
      Option.bind (aG o9 1 (0 : Int32)) fun x26 =>
      if (lg_cmp x26 (x18.toInt64)) = 0 then (
        some (m19, o9)
      ) else (
        none
      )
    )
  ) else (
    none
  )
set_option maxHeartbeats 4000000 in
set_option maxRecDepth 100000 in
theorem p_Lw_law_node {Z : rn_Z} {x : tX} {d : tD} {c : tC} {u : tU} {t : tT} {a : tG} {b : tG} {m : tM} {o : tO} {i : Int32} {K : rn_K} {ca sa : Nat} {m_r : tM} {o_r : tO} (hZ : Z.1.stackTraces = false) (hK : ∀ below args s mc ms A a b, K below args s mc ms A a = K below args s mc ms A b) (h : F_Lw_law_node Z.2.2.2.2 Z.2.2.2.1 t m o i = some (m_r, o_r)) (hx : Rn Z M_Lw_law 861 [some (.ref 0), some (.ref 1), some (.ref 53), some (.ref 76), some (.int i), none, none, none] [] (emb 35 44 x d c u t a b m_r o_r []) ca sa K) : Rn Z M_Lw_law 793 [some (.ref 0), some (.ref 1), some (.ref 53), some (.ref 76), some (.int i), none, none, none] [] (emb 35 44 x d c u t a b m o []) (ca + 1) (sa + 6) K := by
  unfold F_Lw_law_node at h
  refine rn_aload_n (by exact dc_Lw_law 469 rfl) (by exact rfl) ?_
  refine rn_aload_n (by exact dc_Lw_law 470 rfl) (by exact rfl) ?_
  refine rn_iload (by exact dc_Lw_law 471 rfl) (by exact rfl) ?_
  refine rn_iconst (v := (1 : Int32)) (by exact dc_Lw_law 472 rfl) (by decide) ?_
  refine rn_iadd (by exact dc_Lw_law 473 rfl) ?_
  obtain ⟨x1, e2, h3⟩ := rn_bind h
  clear h
  refine rn_sload (by exact dc_Lw_law 474 rfl) (by exact rfl) e2 ?_
  refine rn_aload_n (by exact dc_Lw_law 475 rfl) (by exact rfl) ?_
  refine rn_iload (by exact dc_Lw_law 476 rfl) (by exact rfl) ?_
  refine rn_iconst (v := (2 : Int32)) (by exact dc_Lw_law 477 rfl) (by decide) ?_
  refine rn_iadd (by exact dc_Lw_law 478 rfl) ?_
  obtain ⟨x4, e5, h6⟩ := rn_bind h3
  clear h3
  refine rn_sload (by exact dc_Lw_law 479 rfl) (by exact rfl) e5 ?_
  refine rn_aload_n (by exact dc_Lw_law 480 rfl) (by exact rfl) ?_
  obtain ⟨⟨x8, o9⟩, e7, h10⟩ := rn_bind h6
  clear h6
  dsimp only at h10
  refine rn_invSH (n := 4) (ca := ca) (sa := sa) (ca' := 1) (sa' := 6) (by exact c_Lw_node hZ e7) cw_Lw_node lw_ini (by decide) (by decide +kernel) lk_112 ls_112 (by exact ⟨Nat.le_of_ble_eq_true rfl, Nat.le_of_ble_eq_true rfl⟩) (by exact dc_Lw_law 481 rfl) (by exact rfl) (by exact rfl) (by exact Nat.le_of_ble_eq_true rfl) ?_
  show Rn _ _ 810 [some (.ref 0), some (.ref 1), some (.ref 53), some (.ref 76), some (.int i), none, none, none] [.int x8] (emb 35 44 x d c u t a b m o9 []) _ _ _
  refine rn_istore (ls' := [some (.ref 0), some (.ref 1), some (.ref 53), some (.ref 76), some (.int i), some (.int x8), none, none]) (by exact dc_Lw_law 482 rfl) (by decide) (by exact rfl) ?_
  refine rn_aload_n (by exact dc_Lw_law 483 rfl) (by exact rfl) ?_
  refine rn_aload_n (by exact dc_Lw_law 484 rfl) (by exact rfl) ?_
  refine rn_iload (by exact dc_Lw_law 485 rfl) (by exact rfl) ?_
  refine rn_iconst (v := (1 : Int32)) (by exact dc_Lw_law 486 rfl) (by decide) ?_
  refine rn_iadd (by exact dc_Lw_law 487 rfl) ?_
  obtain ⟨x11, e12, h13⟩ := rn_bind h10
  clear h10
  refine rn_sload (by exact dc_Lw_law 488 rfl) (by exact rfl) e12 ?_
  refine rn_aload_n (by exact dc_Lw_law 489 rfl) (by exact rfl) ?_
  refine rn_iload (by exact dc_Lw_law 490 rfl) (by exact rfl) ?_
  refine rn_iconst (v := (2 : Int32)) (by exact dc_Lw_law 491 rfl) (by decide) ?_
  refine rn_iadd (by exact dc_Lw_law 492 rfl) ?_
  obtain ⟨x14, e15, h16⟩ := rn_bind h13
  clear h13
  refine rn_sload (by exact dc_Lw_law 493 rfl) (by exact rfl) e15 ?_
  obtain ⟨⟨x18, m19⟩, e17, h20⟩ := rn_bind h16
  clear h16
  dsimp only at h20
  refine rn_invV0 (by exact c_Md_node e17) iv_Lw_114 (by exact ⟨Nat.le_of_ble_eq_true rfl, Nat.le_of_ble_eq_true rfl⟩) (by exact dc_Lw_law 494 rfl) (by exact rfl) (by exact rfl) (by exact rfl) (by exact Nat.le_of_ble_eq_true rfl) ?_
  show Rn _ _ 828 [some (.ref 0), some (.ref 1), some (.ref 53), some (.ref 76), some (.int i), some (.int x8), none, none] [.int x18] (emb 35 44 x d c u t a b m19 o9 []) _ _ _
  refine rn_istore (ls' := [some (.ref 0), some (.ref 1), some (.ref 53), some (.ref 76), some (.int i), some (.int x8), some (.int x18), none]) (by exact dc_Lw_law 495 rfl) (by decide) (by exact rfl) ?_
  refine rn_aload_n (by exact dc_Lw_law 496 rfl) (by exact rfl) ?_
  obtain ⟨x22, e21, h23⟩ := rn_bind h20
  clear h20
  refine rn_invV0 (by exact c_Md_thrown e21) iv_Lw_74 (by exact ⟨Nat.le_of_ble_eq_true rfl, Nat.le_of_ble_eq_true rfl⟩) (by exact dc_Lw_law 497 rfl) (by exact rfl) (by exact rfl) (by exact rfl) (by exact Nat.le_of_ble_eq_true rfl) ?_
  show Rn _ _ 834 [some (.ref 0), some (.ref 1), some (.ref 53), some (.ref 76), some (.int i), some (.int x8), some (.int x18), none] [.int x22] (emb 35 44 x d c u t a b m19 o9 []) _ _ _
  refine rn_iload (by exact dc_Lw_law 498 rfl) (by exact rfl) ?_
  by_cases c24 : x22 = x8
  · replace h23 := rn_ifp c24 h23
    refine rn_icmp_eq_t 841 (by exact dc_Lw_law 499 rfl) (by exact rfl) c24 ?_
    refine rn_iload (by exact dc_Lw_law 502 rfl) (by exact rfl) ?_
    by_cases c25 : ¬ x8 = 0
    · replace h23 := rn_ifp c25 h23
      refine rn_if_ne_t 858 (by exact dc_Lw_law 503 rfl) (by exact rfl) c25 ?_
      refine rn_goto 861 (by exact dc_Lw_law 513 rfl) (by exact rfl) ?_
      cases h23
      exact rn_weak _ (by repeat (first | exact rn_le_0 | apply rn_le_s | apply rn_le_x)) hx
    · replace h23 := rn_ifn c25 h23
      refine rn_if_ne_f 858 (by exact dc_Lw_law 503 rfl) (by exact rfl) (Classical.not_not.mp c25) ?_
      refine rn_aload_n (by exact dc_Lw_law 504 rfl) (by exact rfl) ?_
      refine rn_iconst (v := (0 : Int32)) (by exact dc_Lw_law 505 rfl) (by decide) ?_
      obtain ⟨x26, e27, h28⟩ := rn_bind h23
      clear h23
      refine rn_laload (by exact dc_Lw_law 506 rfl) (by exact rfl) e27 ?_
      refine rn_iload (by exact dc_Lw_law 507 rfl) (by exact rfl) ?_
      refine rn_i2l (by exact dc_Lw_law 508 rfl) ?_
      refine rn_lcmp (by exact dc_Lw_law 509 rfl) ?_
      by_cases c29 : (lg_cmp x26 (x18.toInt64)) = 0
      · replace h28 := rn_ifp c29 h28
        refine rn_if_eq_t 858 (by exact dc_Lw_law 510 rfl) (by exact rfl) c29 ?_
        refine rn_goto 861 (by exact dc_Lw_law 513 rfl) (by exact rfl) ?_
        cases h28
        exact rn_weak _ (by repeat (first | exact rn_le_0 | apply rn_le_s | apply rn_le_x)) hx
      · replace h28 := rn_ifn c29 h28
        refine rn_if_eq_f 858 (by exact dc_Lw_law 510 rfl) (by exact rfl) c29 ?_
        refine rn_iconst (v := (0 : Int32)) (by exact dc_Lw_law 511 rfl) (by decide) ?_
        cases h28
  · replace h23 := rn_ifn c24 h23
    refine rn_icmp_eq_f 841 (by exact dc_Lw_law 499 rfl) (by exact rfl) c24 ?_
    refine rn_iconst (v := (0 : Int32)) (by exact dc_Lw_law 500 rfl) (by decide) ?_
    cases h23
