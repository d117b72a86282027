def F_Rd_readHead (d : tD) (b : tG) (r : tR) (v0 : Int32) : Option (Int32 × tG × tR) :=
  Option.bind (F_Rd_seen d r ) fun x2 =>
  Option.bind (F_Wt_isCapital  x2) fun x5 =>
  if ¬ x5 = 0 then (
    Option.bind (F_Rd_readSymbol d b r ) fun (x9, b10, r11) =>
    Option.bind (aS (G_heads b10) 12 v0 x9) fun f13 =>
    Option.bind (aG f13 12 v0) fun x16 =>
    Option.bind (
      if x16 = (-1 : Int32) then (
        some (0 : Int32)
      ) else (
        some (1 : Int32)
      )
     : Option Int32) fun y19 =>
    Option.bind (rn_bl y19) fun y24 =>
    some (y24, (f13, G_bodies b10, G_bodyLengths b10, G_weights b10, G_costs b10, G_capitals b10, G_order b10, G_ruleCount b10, G_nonterminalCount b10, G_reached b10), r11)
  ) else (
    some ((0 : Int32), b, r)
  )
set_option maxHeartbeats 4000000 in
set_option maxRecDepth 100000 in
theorem c_Rd_readHead {Z : rn_Z} {g1 g2 : Nat} {x : tX} {d : tD} {c : tC} {u : tU} {t : tT} {a : tG} {b : tG} {m : tM} {o : tO} {r : tR} {v0 : Int32} {res : Int32} {b_r : tG} {r_r : tR} (h : F_Rd_readHead d b r v0 = some (res, b_r, r_r)) : Call Z M_Rd_readHead [.ref 77, .int v0] (emb g1 g2 x d c u t a b m o [rd_cell r]) 0 0 (some (.int res)) (emb g1 g2 x d c u t a b_r m o [rd_cell r_r]) := by
  unfold F_Rd_readHead at h
  refine rn_call (by decide) 0 (by exact Nat.le_of_ble_eq_true rfl) ?_
  show Rn Z M_Rd_readHead 0 [some (.ref 77), some (.int v0)] [] (emb g1 g2 x d c u t a b m o [rd_cell r]) 0 0 _
  refine rn_aload_n (by exact dc_Rd_readHead 0 rfl) (by exact rfl) ?_
  obtain ⟨x2, e1, h3⟩ := rn_bind h
  clear h
  refine rn_invV0 (by exact c_Rd_seen e1) iv_Rd_71 (by exact ⟨Nat.le_of_ble_eq_true rfl, Nat.le_of_ble_eq_true rfl⟩) (by exact dc_Rd_readHead 1 rfl) (by exact rfl) (by exact rfl) (by exact rfl) (by exact Nat.le_of_ble_eq_true rfl) ?_
  show Rn _ _ 4 [some (.ref 77), some (.int v0)] [.int x2] (emb g1 g2 x d c u t a b m o [rd_cell r]) _ _ _
  obtain ⟨x5, e4, h6⟩ := rn_bind h3
  clear h3
  refine rn_invS0 (by exact c_Wt_isCapital e4) is_Rd_74 (by exact ⟨Nat.le_of_ble_eq_true rfl, Nat.le_of_ble_eq_true rfl⟩) (by exact dc_Rd_readHead 2 rfl) (by exact rfl) (by exact rfl) (by exact Nat.le_of_ble_eq_true rfl) ?_
  show Rn _ _ 7 [some (.ref 77), some (.int v0)] [.int x5] (emb g1 g2 x d c u t a b m o [rd_cell r]) _ _ _
  by_cases c7 : ¬ x5 = 0
  · replace h6 := rn_ifp c7 h6
    refine rn_if_ne_t 12 (by exact dc_Rd_readHead 3 rfl) (by exact rfl) c7 ?_
    refine rn_aload_n (by exact dc_Rd_readHead 6 rfl) (by exact rfl) ?_
    refine rn_getf (v := .ref 44) fd_Rd_15 (by exact dc_Rd_readHead 7 rfl) (by exact rfl) (by exact rfl) ?_
    refine rn_getf (v := .ref 45) fd_Rd_77 (by exact dc_Rd_readHead 8 rfl) (by exact rfl) (by exact rfl) ?_
    refine rn_iload_n (by exact dc_Rd_readHead 9 rfl) (by exact rfl) ?_
    refine rn_aload_n (by exact dc_Rd_readHead 10 rfl) (by exact rfl) ?_
    obtain ⟨⟨x9, b10, r11⟩, e8, h12⟩ := rn_bind h6
    clear h6
    dsimp only at h12
    refine rn_invV0 (by exact c_Rd_readSymbol e8) iv_Rd_81 (by exact ⟨Nat.le_of_ble_eq_true rfl, Nat.le_of_ble_eq_true rfl⟩) (by exact dc_Rd_readHead 11 rfl) (by exact rfl) (by exact rfl) (by exact rfl) (by exact Nat.le_of_ble_eq_true rfl) ?_
    show Rn _ _ 24 [some (.ref 77), some (.int v0)] [.int x9, .int v0, .ref 45] (emb g1 g2 x d c u t a b10 m o [rd_cell r11]) _ _ _
    obtain ⟨f13, e14, h15⟩ := rn_bind h12
    clear h12
    refine rn_iastore (w2 := (emb g1 g2 x d c u t a (f13, G_bodies b10, G_bodyLengths b10, G_weights b10, G_costs b10, G_capitals b10, G_order b10, G_ruleCount b10, G_nonterminalCount b10, G_reached b10) m o [rd_cell r11])) (by exact dc_Rd_readHead 12 rfl) (by exact rfl) e14 (by exact rfl) ?_
    refine rn_aload_n (by exact dc_Rd_readHead 13 rfl) (by exact rfl) ?_
    refine rn_getf (v := .ref 44) fd_Rd_15 (by exact dc_Rd_readHead 14 rfl) (by exact rfl) (by exact rfl) ?_
    refine rn_getf (v := .ref 45) fd_Rd_77 (by exact dc_Rd_readHead 15 rfl) (by exact rfl) (by exact rfl) ?_
    refine rn_iload_n (by exact dc_Rd_readHead 16 rfl) (by exact rfl) ?_
    obtain ⟨x16, e17, h18⟩ := rn_bind h15
    clear h15
    refine rn_iaload (by exact dc_Rd_readHead 17 rfl) (by exact rfl) e17 ?_
    refine rn_iconst (v := (-1 : Int32)) (by exact dc_Rd_readHead 18 rfl) (by decide) ?_
    obtain ⟨y19, e20, h22⟩ := rn_bind h18
    clear h18
    have jq21 : Rn Z M_Rd_readHead 43 [none, none] [.int y19] (emb g1 g2 x d c u t a (f13, G_bodies b10, G_bodyLengths b10, G_weights b10, G_costs b10, G_capitals b10, G_order b10, G_ruleCount b10, G_nonterminalCount b10, G_reached b10) m o [rd_cell r11]) 0 0 (rn_Ret Z (some (.int res)) (emb g1 g2 x d c u t a b_r m o [rd_cell r_r])) := by
      obtain ⟨y24, e25, h27⟩ := rn_bind h22
      clear h22
      obtain ⟨rfl, hb26⟩ := rn_bl_some e25
      cases h27
      exact rn_zreturn (by exact dc_Rd_readHead 23 rfl) (by exact rfl) hb26
    by_cases c23 : x16 = (-1 : Int32)
    · replace e20 := rn_ifp c23 e20
      refine rn_icmp_eq_t 42 (by exact dc_Rd_readHead 19 rfl) (by exact rfl) c23 ?_
      refine rn_iconst (v := (0 : Int32)) (by exact dc_Rd_readHead 22 rfl) (by decide) ?_
      cases e20
      exact rn_weak _ (by repeat (first | exact rn_le_0 | apply rn_le_s | apply rn_le_x)) jq21
    · replace e20 := rn_ifn c23 e20
      refine rn_icmp_eq_f 42 (by exact dc_Rd_readHead 19 rfl) (by exact rfl) c23 ?_
      refine rn_iconst (v := (1 : Int32)) (by exact dc_Rd_readHead 20 rfl) (by decide) ?_
      refine rn_goto 43 (by exact dc_Rd_readHead 21 rfl) (by exact rfl) ?_
      cases e20
      exact rn_weak _ (by repeat (first | exact rn_le_0 | apply rn_le_s | apply rn_le_x)) jq21
  · replace h6 := rn_ifn c7 h6
    refine rn_if_ne_f 12 (by exact dc_Rd_readHead 3 rfl) (by exact rfl) (Classical.not_not.mp c7) ?_
    refine rn_iconst (v := (0 : Int32)) (by exact dc_Rd_readHead 4 rfl) (by decide) ?_
    cases h6
    exact rn_zreturn (by exact dc_Rd_readHead 5 rfl) (by exact rfl) (by first | exact Or.inl rfl | exact Or.inr rfl)
def F_Rd_skip (d : tD) (r : tR) (v0 : Int32) : Option (Int32 × tR) :=
  Option.bind (F_Rd_sees d r v0) fun x2 =>
  if ¬ x2 = 0 then (
    some ((1 : Int32), ((R_at r) + (1 : Int32), R_end r))
  ) else (
    some ((0 : Int32), r)
  )
set_option maxHeartbeats 4000000 in
set_option maxRecDepth 100000 in
theorem c_Rd_skip {Z : rn_Z} {g1 g2 : Nat} {x : tX} {d : tD} {c : tC} {u : tU} {t : tT} {a : tG} {b : tG} {m : tM} {o : tO} {r : tR} {v0 : Int32} {res : Int32} {r_r : tR} (h : F_Rd_skip d r v0 = some (res, r_r)) : Call Z M_Rd_skip [.ref 77, .int v0] (emb g1 g2 x d c u t a b m o [rd_cell r]) 0 0 (some (.int res)) (emb g1 g2 x d c u t a b m o [rd_cell r_r]) := by
  unfold F_Rd_skip at h
  refine rn_call (by decide) 0 (by exact Nat.le_of_ble_eq_true rfl) ?_
  show Rn Z M_Rd_skip 0 [some (.ref 77), some (.int v0)] [] (emb g1 g2 x d c u t a b m o [rd_cell r]) 0 0 _
  refine rn_aload_n (by exact dc_Rd_skip 0 rfl) (by exact rfl) ?_
  refine rn_iload_n (by exact dc_Rd_skip 1 rfl) (by exact rfl) ?_
  obtain ⟨x2, e1, h3⟩ := rn_bind h
  clear h
  refine rn_invV0 (by exact c_Rd_sees e1) iv_Rd_51 (by exact ⟨Nat.le_of_ble_eq_true rfl, Nat.le_of_ble_eq_true rfl⟩) (by exact dc_Rd_skip 2 rfl) (by exact rfl) (by exact rfl) (by exact rfl) (by exact Nat.le_of_ble_eq_true rfl) ?_
  show Rn _ _ 5 [some (.ref 77), some (.int v0)] [.int x2] (emb g1 g2 x d c u t a b m o [rd_cell r]) _ _ _
  by_cases c4 : ¬ x2 = 0
  · replace h3 := rn_ifp c4 h3
    refine rn_if_ne_t 10 (by exact dc_Rd_skip 3 rfl) (by exact rfl) c4 ?_
    refine rn_aload_n (by exact dc_Rd_skip 6 rfl) (by exact rfl) ?_
    refine rn_dup (by exact dc_Rd_skip 7 rfl) (by exact rfl) ?_
    refine rn_getf (v := .int (R_at r)) fd_Rd_19 (by exact dc_Rd_skip 8 rfl) (by exact rfl) (by exact rfl) ?_
    refine rn_iconst (v := (1 : Int32)) (by exact dc_Rd_skip 9 rfl) (by decide) ?_
    refine rn_iadd (by exact dc_Rd_skip 10 rfl) ?_
    refine rn_putf (w2 := (emb g1 g2 x d c u t a b m o [rd_cell ((R_at r) + (1 : Int32), R_end r)])) fd_Rd_19 (by exact dc_Rd_skip 11 rfl) (by exact rfl) (by exact rfl) (by exact Nat.le_of_ble_eq_true rfl) (by exact rfl) ?_
    refine rn_iconst (v := (1 : Int32)) (by exact dc_Rd_skip 12 rfl) (by decide) ?_
    cases h3
    exact rn_zreturn (by exact dc_Rd_skip 13 rfl) (by exact rfl) (by first | exact Or.inl rfl | exact Or.inr rfl)
  · replace h3 := rn_ifn c4 h3
    refine rn_if_ne_f 10 (by exact dc_Rd_skip 3 rfl) (by exact rfl) (Classical.not_not.mp c4) ?_
    refine rn_iconst (v := (0 : Int32)) (by exact dc_Rd_skip 4 rfl) (by decide) ?_
    cases h3
    exact rn_zreturn (by exact dc_Rd_skip 5 rfl) (by exact rfl) (by first | exact Or.inl rfl | exact Or.inr rfl)
def F_Rd_readBody_L2 (d : tD) (l1 : Int32) : Nat → tG → tR → Int32 → Option ((Int32 × tG × tR) ⊕ (Int32 × tG × tR))
  | 0, _, _, _ => none
  | n + 1, b, r, l2 =>
    if (4 : Int32) ≤ l2 then (
      some (.inr (l2, b, r))
    ) else (
      Option.bind (F_Rd_seen d r ) fun x3 =>
      Option.bind (F_Wt_isCapital  x3) fun x6 =>
      if ¬ x6 = 0 then (
        Option.bind (F_Rd_readSymbol d b r ) fun (x10, b11, r12) =>
        if ¬ x10 = (-1 : Int32) then (
          Option.bind (aS (G_bodies b11) 48 ((l1 * (4 : Int32)) + l2) x10) fun f15 =>
          F_Rd_readBody_L2 d l1 n (G_heads b11, f15, G_bodyLengths b11, G_weights b11, G_costs b11, G_capitals b11, G_order b11, G_ruleCount b11, G_nonterminalCount b11, G_reached b11) r12 (l2 + 1)
        ) else (
          some (.inl ((0 : Int32), b11, r12))
        )
      ) else (
        Option.bind (F_Rd_seen d r ) fun x19 =>
        Option.bind (F_Wt_isSmallLetter  x19) fun x22 =>
        if x22 = 0 then (
          some (.inr (l2, b, r))
        ) else (
          Option.bind (F_Rd_readSymbol d b r ) fun (x26, b27, r28) =>
          if ¬ x26 = (-1 : Int32) then (
            Option.bind (aS (G_bodies b27) 48 ((l1 * (4 : Int32)) + l2) x26) fun f31 =>
            F_Rd_readBody_L2 d l1 n (G_heads b27, f31, G_bodyLengths b27, G_weights b27, G_costs b27, G_capitals b27, G_order b27, G_ruleCount b27, G_nonterminalCount b27, G_reached b27) r28 (l2 + 1)
          ) else (
            some (.inl ((0 : Int32), b27, r28))
          )
        )
      )
    )
set_option maxHeartbeats 4000000 in
set_option maxRecDepth 100000 in
theorem p_Rd_readBody_L2 {Z : rn_Z} {g1 g2 : Nat} {x : tX} {d : tD} {c : tC} {u : tU} {t : tT} {a : tG}  {m : tM} {o : tO}   {l1 : Int32} {K : rn_K} {ca sa : Nat} {out : ((Int32 × tG × tR) ⊕ (Int32 × tG × tR))} (hx : ∀ (z2 : Int32) (bz : tG) (rz : tR), out = .inr (z2, bz, rz) → Rn Z M_Rd_readBody 59 [some (.ref 77), some (.int l1), some (.int z2), none] [] (emb g1 g2 x d c u t a bz m o [rd_cell rz]) ca sa K) (hr : ∀ (rv : Int32) (bw : tG) (rw : tR), out = .inl (rv, bw, rw) → K = rn_Ret Z (some (.int rv)) (emb g1 g2 x d c u t a bw m o [rd_cell rw])) (n : Nat) : ∀ (b : tG) (r : tR) (l2 : Int32), F_Rd_readBody_L2 d l1 n b r l2 = some out → Rn Z M_Rd_readBody 2 [some (.ref 77), some (.int l1), some (.int l2), none] [] (emb g1 g2 x d c u t a b m o [rd_cell r]) ca sa K := by
  induction n with
  | zero =>
    intro b r l2 h
    rw [F_Rd_readBody_L2] at h
    cases h
  | succ n ih =>
    intro b r l2 h
    rw [F_Rd_readBody_L2] at h
    refine rn_iload_n (by exact dc_Rd_readBody 2 rfl) (by exact rfl) ?_
    refine rn_iconst (v := (4 : Int32)) (by exact dc_Rd_readBody 3 rfl) (by decide) ?_
    by_cases c1 : (4 : Int32) ≤ l2
    · replace h := rn_ifp c1 h
      refine rn_icmp_ge_t 59 (by exact dc_Rd_readBody 4 rfl) (by exact rfl) c1 ?_
      cases h
      exact rn_weak _ (by repeat (first | exact rn_le_0 | apply rn_le_s | apply rn_le_x)) (hx _ _ _ rfl)
    · replace h := rn_ifn c1 h
      refine rn_icmp_ge_f 59 (by exact dc_Rd_readBody 4 rfl) (by exact rfl) c1 ?_
      refine rn_aload_n (by exact dc_Rd_readBody 5 rfl) (by exact rfl) ?_
      obtain ⟨x3, e2, h4⟩ := rn_bind h
      clear h
      refine rn_invV0 (by exact c_Rd_seen e2) iv_Rd_71 (by exact ⟨Nat.le_of_ble_eq_true rfl, Nat.le_of_ble_eq_true rfl⟩) (by exact dc_Rd_readBody 6 rfl) (by exact rfl) (by exact rfl) (by exact rfl) (by exact Nat.le_of_ble_eq_true rfl) ?_
      show Rn _ _ 11 [some (.ref 77), some (.int l1), some (.int l2), none] [.int x3] (emb g1 g2 x d c u t a b m o [rd_cell r]) _ _ _
      obtain ⟨x6, e5, h7⟩ := rn_bind h4
      clear h4
      refine rn_invS0 (by exact c_Wt_isCapital e5) is_Rd_74 (by exact ⟨Nat.le_of_ble_eq_true rfl, Nat.le_of_ble_eq_true rfl⟩) (by exact dc_Rd_readBody 7 rfl) (by exact rfl) (by exact rfl) (by exact Nat.le_of_ble_eq_true rfl) ?_
      show Rn _ _ 14 [some (.ref 77), some (.int l1), some (.int l2), none] [.int x6] (emb g1 g2 x d c u t a b m o [rd_cell r]) _ _ _
      by_cases c8 : ¬ x6 = 0
      · replace h7 := rn_ifp c8 h7
        refine rn_if_ne_t 27 (by exact dc_Rd_readBody 8 rfl) (by exact rfl) c8 ?_
        refine rn_aload_n (by exact dc_Rd_readBody 13 rfl) (by exact rfl) ?_
        obtain ⟨⟨x10, b11, r12⟩, e9, h13⟩ := rn_bind h7
        clear h7
        dsimp only at h13
        refine rn_invV0 (by exact c_Rd_readSymbol e9) iv_Rd_81 (by exact ⟨Nat.le_of_ble_eq_true rfl, Nat.le_of_ble_eq_true rfl⟩) (by exact dc_Rd_readBody 14 rfl) (by exact rfl) (by exact rfl) (by exact rfl) (by exact Nat.le_of_ble_eq_true rfl) ?_
        show Rn _ _ 31 [some (.ref 77), some (.int l1), some (.int l2), none] [.int x10] (emb g1 g2 x d c u t a b11 m o [rd_cell r12]) _ _ _
        refine rn_istore_n (ls' := [some (.ref 77), some (.int l1), some (.int l2), some (.int x10)]) (by exact dc_Rd_readBody 15 rfl) (by decide) (by exact rfl) ?_
        refine rn_iload_n (by exact dc_Rd_readBody 16 rfl) (by exact rfl) ?_
        refine rn_iconst (v := (-1 : Int32)) (by exact dc_Rd_readBody 17 rfl) (by decide) ?_
        by_cases c14 : ¬ x10 = (-1 : Int32)
        · replace h13 := rn_ifp c14 h13
          refine rn_icmp_ne_t 39 (by exact dc_Rd_readBody 18 rfl) (by exact rfl) c14 ?_
          refine rn_aload_n (by exact dc_Rd_readBody 21 rfl) (by exact rfl) ?_
          refine rn_getf (v := .ref 44) fd_Rd_15 (by exact dc_Rd_readBody 22 rfl) (by exact rfl) (by exact rfl) ?_
          refine rn_getf (v := .ref 46) fd_Rd_87 (by exact dc_Rd_readBody 23 rfl) (by exact rfl) (by exact rfl) ?_
          refine rn_iload_n (by exact dc_Rd_readBody 24 rfl) (by exact rfl) ?_
          refine rn_iconst (v := (4 : Int32)) (by exact dc_Rd_readBody 25 rfl) (by decide) ?_
          refine rn_imul (by exact dc_Rd_readBody 26 rfl) ?_
          refine rn_iload_n (by exact dc_Rd_readBody 27 rfl) (by exact rfl) ?_
          refine rn_iadd (by exact dc_Rd_readBody 28 rfl) ?_
          refine rn_iload_n (by exact dc_Rd_readBody 29 rfl) (by exact rfl) ?_
          obtain ⟨f15, e16, h17⟩ := rn_bind h13
          clear h13
          refine rn_iastore (w2 := (emb g1 g2 x d c u t a (G_heads b11, f15, G_bodyLengths b11, G_weights b11, G_costs b11, G_capitals b11, G_order b11, G_ruleCount b11, G_nonterminalCount b11, G_reached b11) m o [rd_cell r12])) (by exact dc_Rd_readBody 30 rfl) (by exact rfl) e16 (by exact rfl) ?_
          refine rn_iinc (ls' := [some (.ref 77), some (.int l1), some (.int (l2 + 1)), some (.int x10)]) (by exact dc_Rd_readBody 31 rfl) (by decide) (by exact rfl) (by exact rn_inc_1 _) (by exact rfl) ?_
          refine rn_goto 2 (by exact dc_Rd_readBody 32 rfl) (by exact rfl) ?_
          exact rn_weak _ (by repeat (first | exact rn_le_0 | apply rn_le_s | apply rn_le_x)) (ih _ _ _ h17)
        · replace h13 := rn_ifn c14 h13
          refine rn_icmp_ne_f 39 (by exact dc_Rd_readBody 18 rfl) (by exact rfl) (Classical.not_not.mp c14) ?_
          refine rn_iconst (v := (0 : Int32)) (by exact dc_Rd_readBody 19 rfl) (by decide) ?_
          cases h13
          have hK := hr _ _ _ rfl
          subst hK
          exact rn_zreturn (by exact dc_Rd_readBody 20 rfl) (by exact rfl) (by first | exact Or.inl rfl | exact Or.inr rfl)
      · replace h7 := rn_ifn c8 h7
        refine rn_if_ne_f 27 (by exact dc_Rd_readBody 8 rfl) (by exact rfl) (Classical.not_not.mp c8) ?_
        refine rn_aload_n (by exact dc_Rd_readBody 9 rfl) (by exact rfl) ?_
        obtain ⟨x19, e18, h20⟩ := rn_bind h7
        clear h7
        refine rn_invV0 (by exact c_Rd_seen e18) iv_Rd_71 (by exact ⟨Nat.le_of_ble_eq_true rfl, Nat.le_of_ble_eq_true rfl⟩) (by exact dc_Rd_readBody 10 rfl) (by exact rfl) (by exact rfl) (by exact rfl) (by exact Nat.le_of_ble_eq_true rfl) ?_
        show Rn _ _ 21 [some (.ref 77), some (.int l1), some (.int l2), none] [.int x19] (emb g1 g2 x d c u t a b m o [rd_cell r]) _ _ _
        obtain ⟨x22, e21, h23⟩ := rn_bind h20
        clear h20
        refine rn_invS0 (by exact c_Wt_isSmallLetter e21) is_Rd_84 (by exact ⟨Nat.le_of_ble_eq_true rfl, Nat.le_of_ble_eq_true rfl⟩) (by exact dc_Rd_readBody 11 rfl) (by exact rfl) (by exact rfl) (by exact Nat.le_of_ble_eq_true rfl) ?_
        show Rn _ _ 24 [some (.ref 77), some (.int l1), some (.int l2), none] [.int x22] (emb g1 g2 x d c u t a b m o [rd_cell r]) _ _ _
        by_cases c24 : x22 = 0
        · replace h23 := rn_ifp c24 h23
          refine rn_if_eq_t 59 (by exact dc_Rd_readBody 12 rfl) (by exact rfl) c24 ?_
          cases h23
          exact rn_weak _ (by repeat (first | exact rn_le_0 | apply rn_le_s | apply rn_le_x)) (hx _ _ _ rfl)
        · replace h23 := rn_ifn c24 h23
          refine rn_if_eq_f 59 (by exact dc_Rd_readBody 12 rfl) (by exact rfl) c24 ?_
          refine rn_aload_n (by exact dc_Rd_readBody 13 rfl) (by exact rfl) ?_
          obtain ⟨⟨x26, b27, r28⟩, e25, h29⟩ := rn_bind h23
          clear h23
          dsimp only at h29
          refine rn_invV0 (by exact c_Rd_readSymbol e25) iv_Rd_81 (by exact ⟨Nat.le_of_ble_eq_true rfl, Nat.le_of_ble_eq_true rfl⟩) (by exact dc_Rd_readBody 14 rfl) (by exact rfl) (by exact rfl) (by exact rfl) (by exact Nat.le_of_ble_eq_true rfl) ?_
          show Rn _ _ 31 [some (.ref 77), some (.int l1), some (.int l2), none] [.int x26] (emb g1 g2 x d c u t a b27 m o [rd_cell r28]) _ _ _
          refine rn_istore_n (ls' := [some (.ref 77), some (.int l1), some (.int l2), some (.int x26)]) (by exact dc_Rd_readBody 15 rfl) (by decide) (by exact rfl) ?_
          refine rn_iload_n (by exact dc_Rd_readBody 16 rfl) (by exact rfl) ?_
          refine rn_iconst (v := (-1 : Int32)) (by exact dc_Rd_readBody 17 rfl) (by decide) ?_
          by_cases c30 : ¬ x26 = (-1 : Int32)
          · replace h29 := rn_ifp c30 h29
            refine rn_icmp_ne_t 39 (by exact dc_Rd_readBody 18 rfl) (by exact rfl) c30 ?_
            refine rn_aload_n (by exact dc_Rd_readBody 21 rfl) (by exact rfl) ?_
            refine rn_getf (v := .ref 44) fd_Rd_15 (by exact dc_Rd_readBody 22 rfl) (by exact rfl) (by exact rfl) ?_
            refine rn_getf (v := .ref 46) fd_Rd_87 (by exact dc_Rd_readBody 23 rfl) (by exact rfl) (by exact rfl) ?_
            refine rn_iload_n (by exact dc_Rd_readBody 24 rfl) (by exact rfl) ?_
            refine rn_iconst (v := (4 : Int32)) (by exact dc_Rd_readBody 25 rfl) (by decide) ?_
            refine rn_imul (by exact dc_Rd_readBody 26 rfl) ?_
            refine rn_iload_n (by exact dc_Rd_readBody 27 rfl) (by exact rfl) ?_
            refine rn_iadd (by exact dc_Rd_readBody 28 rfl) ?_
            refine rn_iload_n (by exact dc_Rd_readBody 29 rfl) (by exact rfl) ?_
            obtain ⟨f31, e32, h33⟩ := rn_bind h29
            clear h29
            refine rn_iastore (w2 := (emb g1 g2 x d c u t a (G_heads b27, f31, G_bodyLengths b27, G_weights b27, G_costs b27, G_capitals b27, G_order b27, G_ruleCount b27, G_nonterminalCount b27, G_reached b27) m o [rd_cell r28])) (by exact dc_Rd_readBody 30 rfl) (by exact rfl) e32 (by exact rfl) ?_
            refine rn_iinc (ls' := [some (.ref 77), some (.int l1), some (.int (l2 + 1)), some (.int x26)]) (by exact dc_Rd_readBody 31 rfl) (by decide) (by exact rfl) (by exact rn_inc_1 _) (by exact rfl) ?_
            refine rn_goto 2 (by exact dc_Rd_readBody 32 rfl) (by exact rfl) ?_
            exact rn_weak _ (by repeat (first | exact rn_le_0 | apply rn_le_s | apply rn_le_x)) (ih _ _ _ h33)
          · replace h29 := rn_ifn c30 h29
            refine rn_icmp_ne_f 39 (by exact dc_Rd_readBody 18 rfl) (by exact rfl) (Classical.not_not.mp c30) ?_
            refine rn_iconst (v := (0 : Int32)) (by exact dc_Rd_readBody 19 rfl) (by decide) ?_
            cases h29
            have hK := hr _ _ _ rfl
            subst hK
            exact rn_zreturn (by exact dc_Rd_readBody 20 rfl) (by exact rfl) (by first | exact Or.inl rfl | exact Or.inr rfl)
def F_Rd_readBody (d : tD) (b : tG) (r : tR) (v0 : Int32) : Option (Int32 × tG × tR) :=
  Option.bind (F_Rd_readBody_L2 d v0 rn_fu b r (0 : Int32)) fun z11 =>
  match z11 with
  | .inl r10 => some r10
  | .inr (y4, b5, r6) =>
    Option.bind (aS (G_bodyLengths b5) 12 v0 y4) fun f7 =>
    some ((1 : Int32), (G_heads b5, G_bodies b5, f7, G_weights b5, G_costs b5, G_capitals b5, G_order b5, G_ruleCount b5, G_nonterminalCount b5, G_reached b5), r6)
set_option maxHeartbeats 4000000 in
set_option maxRecDepth 100000 in
theorem c_Rd_readBody {Z : rn_Z} {g1 g2 : Nat} {x : tX} {d : tD} {c : tC} {u : tU} {t : tT} {a : tG} {b : tG} {m : tM} {o : tO} {r : tR} {v0 : Int32} {res : Int32} {b_r : tG} {r_r : tR} (h : F_Rd_readBody d b r v0 = some (res, b_r, r_r)) : Call Z M_Rd_readBody [.ref 77, .int v0] (emb g1 g2 x d c u t a b m o [rd_cell r]) 0 0 (some (.int res)) (emb g1 g2 x d c u t a b_r m o [rd_cell r_r]) := by
  unfold F_Rd_readBody at h
  refine rn_call (by decide) 2 (by exact Nat.le_of_ble_eq_true rfl) ?_
  show Rn Z M_Rd_readBody 0 [some (.ref 77), some (.int v0), none, none] [] (emb g1 g2 x d c u t a b m o [rd_cell r]) 0 0 _
  refine rn_iconst (v := (0 : Int32)) (by exact dc_Rd_readBody 0 rfl) (by decide) ?_
  refine rn_istore_n (ls' := [some (.ref 77), some (.int v0), some (.int (0 : Int32)), none]) (by exact dc_Rd_readBody 1 rfl) (by decide) (by exact rfl) ?_
  obtain ⟨z11, e1, h3⟩ := rn_bind h
  clear h
  rcases z11 with ⟨w12, w13, w14⟩ | ⟨y4, b5, r6⟩
  · dsimp only at h3
    cases h3
    exact rn_weak _ (by repeat (first | exact rn_le_0 | apply rn_le_s | apply rn_le_x)) (p_Rd_readBody_L2 (fun _ _ _ q => by cases q) (fun _ _ _ q => by cases q; rfl) _ _ _ _ e1)
  · dsimp only at h3
    have jx2 : Rn Z M_Rd_readBody 59 [some (.ref 77), some (.int v0), some (.int y4), none] [] (emb g1 g2 x d c u t a b5 m o [rd_cell r6]) 0 0 (rn_Ret Z (some (.int res)) (emb g1 g2 x d c u t a b_r m o [rd_cell r_r])) := by
      refine rn_aload_n (by exact dc_Rd_readBody 33 rfl) (by exact rfl) ?_
      refine rn_getf (v := .ref 44) fd_Rd_15 (by exact dc_Rd_readBody 34 rfl) (by exact rfl) (by exact rfl) ?_
      refine rn_getf (v := .ref 47) fd_Rd_90 (by exact dc_Rd_readBody 35 rfl) (by exact rfl) (by exact rfl) ?_
      refine rn_iload_n (by exact dc_Rd_readBody 36 rfl) (by exact rfl) ?_
      refine rn_iload_n (by exact dc_Rd_readBody 37 rfl) (by exact rfl) ?_
      obtain ⟨f7, e8, h9⟩ := rn_bind h3
      clear h3
      refine rn_iastore (w2 := (emb g1 g2 x d c u t a (G_heads b5, G_bodies b5, f7, G_weights b5, G_costs b5, G_capitals b5, G_order b5, G_ruleCount b5, G_nonterminalCount b5, G_reached b5) m o [rd_cell r6])) (by exact dc_Rd_readBody 38 rfl) (by exact rfl) e8 (by exact rfl) ?_
      refine rn_iconst (v := (1 : Int32)) (by exact dc_Rd_readBody 39 rfl) (by decide) ?_
      cases h9
      exact rn_zreturn (by exact dc_Rd_readBody 40 rfl) (by exact rfl) (by first | exact Or.inl rfl | exact Or.inr rfl)
    exact rn_weak _ (by repeat (first | exact rn_le_0 | apply rn_le_s | apply rn_le_x)) (p_Rd_readBody_L2 (fun _ _ _ q => by cases q; exact jx2) (fun _ _ _ q => by cases q) _ _ _ _ e1)
def F_Rd_readNumber_L4 (d : tD) : Nat → tR → Int32 → Int32 → Option (Int32 × Int32 × tR)
  | 0, _, _, _ => none
  | n + 1, r, l1, l2 =>
    if (3 : Int32) ≤ l2 then (
      some (l1, l2, r)
    ) else (
      Option.bind (F_Rd_seen d r ) fun x3 =>
      if x3 < (48 : Int32) then (
        some (l1, l2, r)
      ) else (
        Option.bind (F_Rd_seen d r ) fun x7 =>
        if (57 : Int32) < x7 then (
          some (l1, l2, r)
        ) else (
          Option.bind (F_Rd_seen d r ) fun x11 =>
          F_Rd_readNumber_L4 d n ((R_at r) + (1 : Int32), R_end r) (((10 : Int32) * l1) + (x11 - (48 : Int32))) (l2 + 1)
        )
      )
    )
set_option maxHeartbeats 4000000 in
set_option maxRecDepth 100000 in
theorem p_Rd_readNumber_L4 {Z : rn_Z} {g1 g2 : Nat} {x : tX} {d : tD} {c : tC} {u : tU} {t : tT} {a : tG} {b : tG} {m : tM} {o : tO}    {K : rn_K} {ca sa : Nat} {z1 : Int32} {z2 : Int32} {rz : tR} (hx : Rn Z M_Rd_readNumber 56 [none, some (.int z1), some (.int z2)] [] (emb g1 g2 x d c u t a b m o [rd_cell rz]) ca sa K) (n : Nat) : ∀ (r : tR) (l1 : Int32) (l2 : Int32), F_Rd_readNumber_L4 d n r l1 l2 = some (z1, z2, rz) → Rn Z M_Rd_readNumber 4 [some (.ref 77), some (.int l1), some (.int l2)] [] (emb g1 g2 x d c u t a b m o [rd_cell r]) ca sa K := by
  induction n with
  | zero =>
    intro r l1 l2 h
    rw [F_Rd_readNumber_L4] at h
    cases h
  | succ n ih =>
    intro r l1 l2 h
    rw [F_Rd_readNumber_L4] at h
    refine rn_iload_n (by exact dc_Rd_readNumber 4 rfl) (by exact rfl) ?_
    refine rn_iconst (v := (3 : Int32)) (by exact dc_Rd_readNumber 5 rfl) (by decide) ?_
    by_cases c1 : (3 : Int32) ≤ l2
    · replace h := rn_ifp c1 h
      refine rn_icmp_ge_t 56 (by exact dc_Rd_readNumber 6 rfl) (by exact rfl) c1 ?_
      cases h
      exact rn_weak _ (by repeat (first | exact rn_le_0 | apply rn_le_s | apply rn_le_x)) hx
    · replace h := rn_ifn c1 h
      refine rn_icmp_ge_f 56 (by exact dc_Rd_readNumber 6 rfl) (by exact rfl) c1 ?_
      refine rn_aload_n (by exact dc_Rd_readNumber 7 rfl) (by exact rfl) ?_
      obtain ⟨x3, e2, h4⟩ := rn_bind h
      clear h
      refine rn_invV0 (by exact c_Rd_seen e2) iv_Rd_71 (by exact ⟨Nat.le_of_ble_eq_true rfl, Nat.le_of_ble_eq_true rfl⟩) (by exact dc_Rd_readNumber 8 rfl) (by exact rfl) (by exact rfl) (by exact rfl) (by exact Nat.le_of_ble_eq_true rfl) ?_
      show Rn _ _ 13 [some (.ref 77), some (.int l1), some (.int l2)] [.int x3] (emb g1 g2 x d c u t a b m o [rd_cell r]) _ _ _
      refine rn_bipush (v := (48 : Int32)) (by exact dc_Rd_readNumber 9 rfl) (by decide) ?_
      by_cases c5 : x3 < (48 : Int32)
      · replace h4 := rn_ifp c5 h4
        refine rn_icmp_lt_t 56 (by exact dc_Rd_readNumber 10 rfl) (by exact rfl) c5 ?_
        cases h4
        exact rn_weak _ (by repeat (first | exact rn_le_0 | apply rn_le_s | apply rn_le_x)) hx
      · replace h4 := rn_ifn c5 h4
        refine rn_icmp_lt_f 56 (by exact dc_Rd_readNumber 10 rfl) (by exact rfl) c5 ?_
        refine rn_aload_n (by exact dc_Rd_readNumber 11 rfl) (by exact rfl) ?_
        obtain ⟨x7, e6, h8⟩ := rn_bind h4
        clear h4
        refine rn_invV0 (by exact c_Rd_seen e6) iv_Rd_71 (by exact ⟨Nat.le_of_ble_eq_true rfl, Nat.le_of_ble_eq_true rfl⟩) (by exact dc_Rd_readNumber 12 rfl) (by exact rfl) (by exact rfl) (by exact rfl) (by exact Nat.le_of_ble_eq_true rfl) ?_
        show Rn _ _ 22 [some (.ref 77), some (.int l1), some (.int l2)] [.int x7] (emb g1 g2 x d c u t a b m o [rd_cell r]) _ _ _
        refine rn_bipush (v := (57 : Int32)) (by exact dc_Rd_readNumber 13 rfl) (by decide) ?_
        by_cases c9 : (57 : Int32) < x7
        · replace h8 := rn_ifp c9 h8
          refine rn_icmp_gt_t 56 (by exact dc_Rd_readNumber 14 rfl) (by exact rfl) c9 ?_
          cases h8
          exact rn_weak _ (by repeat (first | exact rn_le_0 | apply rn_le_s | apply rn_le_x)) hx
        · replace h8 := rn_ifn c9 h8
          refine rn_icmp_gt_f 56 (by exact dc_Rd_readNumber 14 rfl) (by exact rfl) c9 ?_
          refine rn_bipush (v := (10 : Int32)) (by exact dc_Rd_readNumber 15 rfl) (by decide) ?_
          refine rn_iload_n (by exact dc_Rd_readNumber 16 rfl) (by exact rfl) ?_
          refine rn_imul (by exact dc_Rd_readNumber 17 rfl) ?_
          refine rn_aload_n (by exact dc_Rd_readNumber 18 rfl) (by exact rfl) ?_
          obtain ⟨x11, e10, h12⟩ := rn_bind h8
          clear h8
          refine rn_invV0 (by exact c_Rd_seen e10) iv_Rd_71 (by exact ⟨Nat.le_of_ble_eq_true rfl, Nat.le_of_ble_eq_true rfl⟩) (by exact dc_Rd_readNumber 19 rfl) (by exact rfl) (by exact rfl) (by exact rfl) (by exact Nat.le_of_ble_eq_true rfl) ?_
          show Rn _ _ 35 [some (.ref 77), some (.int l1), some (.int l2)] [.int x11, .int ((10 : Int32) * l1)] (emb g1 g2 x d c u t a b m o [rd_cell r]) _ _ _
          refine rn_bipush (v := (48 : Int32)) (by exact dc_Rd_readNumber 20 rfl) (by decide) ?_
          refine rn_isub (by exact dc_Rd_readNumber 21 rfl) ?_
          refine rn_iadd (by exact dc_Rd_readNumber 22 rfl) ?_
          refine rn_istore_n (ls' := [some (.ref 77), some (.int (((10 : Int32) * l1) + (x11 - (48 : Int32)))), some (.int l2)]) (by exact dc_Rd_readNumber 23 rfl) (by decide) (by exact rfl) ?_
          refine rn_aload_n (by exact dc_Rd_readNumber 24 rfl) (by exact rfl) ?_
          refine rn_dup (by exact dc_Rd_readNumber 25 rfl) (by exact rfl) ?_
          refine rn_getf (v := .int (R_at r)) fd_Rd_19 (by exact dc_Rd_readNumber 26 rfl) (by exact rfl) (by exact rfl) ?_
          refine rn_iconst (v := (1 : Int32)) (by exact dc_Rd_readNumber 27 rfl) (by decide) ?_
          refine rn_iadd (by exact dc_Rd_readNumber 28 rfl) ?_
          refine rn_putf (w2 := (emb g1 g2 x d c u t a b m o [rd_cell ((R_at r) + (1 : Int32), R_end r)])) fd_Rd_19 (by exact dc_Rd_readNumber 29 rfl) (by exact rfl) (by exact rfl) (by exact Nat.le_of_ble_eq_true rfl) (by exact rfl) ?_
          refine rn_iinc (ls' := [some (.ref 77), some (.int (((10 : Int32) * l1) + (x11 - (48 : Int32)))), some (.int (l2 + 1))]) (by exact dc_Rd_readNumber 30 rfl) (by decide) (by exact rfl) (by exact rn_inc_1 _) (by exact rfl) ?_
          refine rn_goto 4 (by exact dc_Rd_readNumber 31 rfl) (by exact rfl) ?_
          exact rn_weak _ (by repeat (first | exact rn_le_0 | apply rn_le_s | apply rn_le_x)) (ih _ _ _ h12)
def F_Rd_readNumber (d : tD) (r : tR)  : Option (Int32 × tR) :=
  Option.bind (F_Rd_readNumber_L4 d rn_fu r (0 : Int32) (0 : Int32)) fun (y4, y5, r6) =>
  Option.bind (
    if ¬ y5 = 0 then (
      some (y4 : Int32)
    ) else (
      some (-1 : Int32)
    )
   : Option Int32) fun y7 =>
  some (y7, r6)
set_option maxHeartbeats 4000000 in
set_option maxRecDepth 100000 in
theorem c_Rd_readNumber {Z : rn_Z} {g1 g2 : Nat} {x : tX} {d : tD} {c : tC} {u : tU} {t : tT} {a : tG} {b : tG} {m : tM} {o : tO} {r : tR}  {res : Int32} {r_r : tR} (h : F_Rd_readNumber d r  = some (res, r_r)) : Call Z M_Rd_readNumber [.ref 77] (emb g1 g2 x d c u t a b m o [rd_cell r]) 0 0 (some (.int res)) (emb g1 g2 x d c u t a b m o [rd_cell r_r]) := by
  unfold F_Rd_readNumber at h
  refine rn_call (by decide) 2 (by exact Nat.le_of_ble_eq_true rfl) ?_
  show Rn Z M_Rd_readNumber 0 [some (.ref 77), none, none] [] (emb g1 g2 x d c u t a b m o [rd_cell r]) 0 0 _
  refine rn_iconst (v := (0 : Int32)) (by exact dc_Rd_readNumber 0 rfl) (by decide) ?_
  refine rn_istore_n (ls' := [some (.ref 77), some (.int (0 : Int32)), none]) (by exact dc_Rd_readNumber 1 rfl) (by decide) (by exact rfl) ?_
  refine rn_iconst (v := (0 : Int32)) (by exact dc_Rd_readNumber 2 rfl) (by decide) ?_
  refine rn_istore_n (ls' := [some (.ref 77), some (.int (0 : Int32)), some (.int (0 : Int32))]) (by exact dc_Rd_readNumber 3 rfl) (by decide) (by exact rfl) ?_
  obtain ⟨⟨y4, y5, r6⟩, e1, h3⟩ := rn_bind h
  clear h
  dsimp only at h3
  have jx2 : Rn Z M_Rd_readNumber 56 [none, some (.int y4), some (.int y5)] [] (emb g1 g2 x d c u t a b m o [rd_cell r6]) 0 0 (rn_Ret Z (some (.int res)) (emb g1 g2 x d c u t a b m o [rd_cell r_r])) := by
    refine rn_iload_n (by exact dc_Rd_readNumber 32 rfl) (by exact rfl) ?_
    obtain ⟨y7, e8, h10⟩ := rn_bind h3
    clear h3
    have jq9 : Rn Z M_Rd_readNumber 65 [none, none, none] [.int y7] (emb g1 g2 x d c u t a b m o [rd_cell r6]) 0 0 (rn_Ret Z (some (.int res)) (emb g1 g2 x d c u t a b m o [rd_cell r_r])) := by
      cases h10
      exact rn_ireturn (by exact dc_Rd_readNumber 37 rfl) (by exact rfl)
    by_cases c11 : ¬ y5 = 0
    · replace e8 := rn_ifp c11 e8
      refine rn_if_ne_t 64 (by exact dc_Rd_readNumber 33 rfl) (by exact rfl) c11 ?_
      refine rn_iload_n (by exact dc_Rd_readNumber 36 rfl) (by exact rfl) ?_
      cases e8
      exact rn_weak _ (by repeat (first | exact rn_le_0 | apply rn_le_s | apply rn_le_x)) jq9
    · replace e8 := rn_ifn c11 e8
      refine rn_if_ne_f 64 (by exact dc_Rd_readNumber 33 rfl) (by exact rfl) (Classical.not_not.mp c11) ?_
      refine rn_iconst (v := (-1 : Int32)) (by exact dc_Rd_readNumber 34 rfl) (by decide) ?_
      refine rn_goto 65 (by exact dc_Rd_readNumber 35 rfl) (by exact rfl) ?_
      cases e8
      exact rn_weak _ (by repeat (first | exact rn_le_0 | apply rn_le_s | apply rn_le_x)) jq9
  exact rn_weak _ (by repeat (first | exact rn_le_0 | apply rn_le_s | apply rn_le_x)) (p_Rd_readNumber_L4 jx2 _ _ _ _ e1)
def F_Rd_inverse_L5 (l0 : Int64) : Nat → Int64 → Int32 → Option Int64
  | 0, _, _ => none
  | n + 1, l2, l4 =>
    if (5 : Int32) ≤ l4 then (
      some l2
    ) else (
      F_Rd_inverse_L5 l0 n (l2 * ((2 : Int64) - (l0 * l2))) (l4 + 1)
    )
set_option maxHeartbeats 4000000 in
set_option maxRecDepth 100000 in
theorem p_Rd_inverse_L5 {Z : rn_Z} {g1 g2 : Nat} {x : tX} {d : tD} {c : tC} {u : tU} {t : tT} {a : tG} {b : tG} {m : tM} {o : tO} {E : List rn_C}  {l0 : Int64} {K : rn_K} {ca sa : Nat} {z2 : Int64} (hx : Rn Z M_Rd_inverse 27 [none, none, some (.long z2), none, none] [] (emb g1 g2 x d c u t a b m o E) ca sa K) (n : Nat) : ∀ (l2 : Int64) (l4 : Int32), F_Rd_inverse_L5 l0 n l2 l4 = some z2 → Rn Z M_Rd_inverse 5 [some (.long l0), none, some (.long l2), none, some (.int l4)] [] (emb g1 g2 x d c u t a b m o E) ca sa K := by
  induction n with
  | zero =>
    intro l2 l4 h
    rw [F_Rd_inverse_L5] at h
    cases h
  | succ n ih =>
    intro l2 l4 h
    rw [F_Rd_inverse_L5] at h
    refine rn_iload (by exact dc_Rd_inverse 4 rfl) (by exact rfl) ?_
    refine rn_iconst (v := (5 : Int32)) (by exact dc_Rd_inverse 5 rfl) (by decide) ?_
    by_cases c1 : (5 : Int32) ≤ l4
    · replace h := rn_ifp c1 h
      refine rn_icmp_ge_t 27 (by exact dc_Rd_inverse 6 rfl) (by exact rfl) c1 ?_
      cases h
      exact rn_weak _ (by repeat (first | exact rn_le_0 | apply rn_le_s | apply rn_le_x)) hx
    · replace h := rn_ifn c1 h
      refine rn_icmp_ge_f 27 (by exact dc_Rd_inverse 6 rfl) (by exact rfl) c1 ?_
      refine rn_lload_n (by exact dc_Rd_inverse 7 rfl) (by exact rfl) ?_
      refine rn_ldc2 (v := (2 : Int64)) (by exact dc_Rd_inverse 8 rfl) kl_Rd_110 ?_
      refine rn_lload_n (by exact dc_Rd_inverse 9 rfl) (by exact rfl) ?_
      refine rn_lload_n (by exact dc_Rd_inverse 10 rfl) (by exact rfl) ?_
      refine rn_lmul (by exact dc_Rd_inverse 11 rfl) ?_
      refine rn_lsub (by exact dc_Rd_inverse 12 rfl) ?_
      refine rn_lmul (by exact dc_Rd_inverse 13 rfl) ?_
      refine rn_lstore_n (ls' := [some (.long l0), none, some (.long (l2 * ((2 : Int64) - (l0 * l2)))), none, some (.int l4)]) (by exact dc_Rd_inverse 14 rfl) (by decide) (by exact rfl) ?_
      refine rn_iinc (ls' := [some (.long l0), none, some (.long (l2 * ((2 : Int64) - (l0 * l2)))), none, some (.int (l4 + 1))]) (by exact dc_Rd_inverse 15 rfl) (by decide) (by exact rfl) (by exact rn_inc_1 _) (by exact rfl) ?_
      refine rn_goto 5 (by exact dc_Rd_inverse 16 rfl) (by exact rfl) ?_
      exact rn_weak _ (by repeat (first | exact rn_le_0 | apply rn_le_s | apply rn_le_x)) (ih _ _ h)
def F_Rd_inverse (v0 : Int64) : Option Int64 :=
  Option.bind (F_Rd_inverse_L5 v0 rn_fu v0 (0 : Int32)) fun y4 =>
  some y4
set_option maxHeartbeats 4000000 in
set_option maxRecDepth 100000 in
theorem c_Rd_inverse {Z : rn_Z} {g1 g2 : Nat} {x : tX} {d : tD} {c : tC} {u : tU} {t : tT} {a : tG} {b : tG} {m : tM} {o : tO} {E : List rn_C} {v0 : Int64} {res : Int64} (h : F_Rd_inverse  v0 = some res) : Call Z M_Rd_inverse [.long v0] (emb g1 g2 x d c u t a b m o E) 0 0 (some (.long res)) (emb g1 g2 x d c u t a b m o E) := by
  unfold F_Rd_inverse at h
  refine rn_call (by decide) 3 (by exact Nat.le_of_ble_eq_true rfl) ?_
  show Rn Z M_Rd_inverse 0 [some (.long v0), none, none, none, none] [] (emb g1 g2 x d c u t a b m o E) 0 0 _
  refine rn_lload_n (by exact dc_Rd_inverse 0 rfl) (by exact rfl) ?_
  refine rn_lstore_n (ls' := [some (.long v0), none, some (.long v0), none, none]) (by exact dc_Rd_inverse 1 rfl) (by decide) (by exact rfl) ?_
  refine rn_iconst (v := (0 : Int32)) (by exact dc_Rd_inverse 2 rfl) (by decide) ?_
  refine rn_istore (ls' := [some (.long v0), none, some (.long v0), none, some (.int (0 : Int32))]) (by exact dc_Rd_inverse 3 rfl) (by decide) (by exact rfl) ?_
  obtain ⟨y4, e1, h3⟩ := rn_bind h
  clear h
  have jx2 : Rn Z M_Rd_inverse 27 [none, none, some (.long y4), none, none] [] (emb g1 g2 x d c u t a b m o E) 0 0 (rn_Ret Z (some (.long res)) (emb g1 g2 x d c u t a b m o E)) := by
    refine rn_lload_n (by exact dc_Rd_inverse 17 rfl) (by exact rfl) ?_
    cases h3
    exact rn_lreturn (by exact dc_Rd_inverse 18 rfl) (by exact rfl)
  exact rn_weak _ (by repeat (first | exact rn_le_0 | apply rn_le_s | apply rn_le_x)) (p_Rd_inverse_L5 jx2 _ _ _ e1)
def F_Rd_readWeight (d : tD) (b : tG) (r : tR) (v0 : Int32) : Option (Int32 × tG × tR) :=
  Option.bind (F_Rd_readNumber d r ) fun (x2, r3) =>
  Option.bind (
    if x2 = (-1 : Int32) then (
      some ((1 : Int32), r3)
    ) else (
      Option.bind (F_Rd_skip d r3 (47 : Int32)) fun (x12, r13) =>
      if x12 = 0 then (
        some ((1 : Int32), r13)
      ) else (
        Option.bind (F_Rd_readNumber d r13 ) fun (x17, r18) =>
        some ((x17 : Int32), r18)
      )
    )
   : Option (Int32 × tR)) fun (y5, r6) =>
  if x2 = (-1 : Int32) then (
    some ((0 : Int32), b, r6)
  ) else (
    if y5 = (-1 : Int32) then (
      some ((0 : Int32), b, r6)
    ) else (
      if ¬ (y5 - y5 / (2 : Int32) * (2 : Int32)) = 0 then (
        Option.bind (F_Rd_inverse  (y5.toInt64)) fun x24 =>
        Option.bind (aS (G_weights b) 12 v0 ((x2.toInt64) * x24)) fun f26 =>
        some ((1 : Int32), (G_heads b, G_bodies b, G_bodyLengths b, f26, G_costs b, G_capitals b, G_order b, G_ruleCount b, G_nonterminalCount b, G_reached b), r6)
      ) else (
        some ((0 : Int32), b, r6)
      )
    )
  )
set_option maxHeartbeats 4000000 in
set_option maxRecDepth 100000 in
theorem c_Rd_readWeight {Z : rn_Z} {g1 g2 : Nat} {x : tX} {d : tD} {c : tC} {u : tU} {t : tT} {a : tG} {b : tG} {m : tM} {o : tO} {r : tR} {v0 : Int32} {res : Int32} {b_r : tG} {r_r : tR} (h : F_Rd_readWeight d b r v0 = some (res, b_r, r_r)) : Call Z M_Rd_readWeight [.ref 77, .int v0] (emb g1 g2 x d c u t a b m o [rd_cell r]) 0 0 (some (.int res)) (emb g1 g2 x d c u t a b_r m o [rd_cell r_r]) := by
  unfold F_Rd_readWeight at h
  refine rn_call (by decide) 2 (by exact Nat.le_of_ble_eq_true rfl) ?_
  show Rn Z M_Rd_readWeight 0 [some (.ref 77), some (.int v0), none, none] [] (emb g1 g2 x d c u t a b m o [rd_cell r]) 0 0 _
  refine rn_aload_n (by exact dc_Rd_readWeight 0 rfl) (by exact rfl) ?_
  obtain ⟨⟨x2, r3⟩, e1, h4⟩ := rn_bind h
  clear h
  dsimp only at h4
  refine rn_invV0 (by exact c_Rd_readNumber e1) iv_Rd_96 (by exact ⟨Nat.le_of_ble_eq_true rfl, Nat.le_of_ble_eq_true rfl⟩) (by exact dc_Rd_readWeight 1 rfl) (by exact rfl) (by exact rfl) (by exact rfl) (by exact Nat.le_of_ble_eq_true rfl) ?_
  show Rn _ _ 4 [some (.ref 77), some (.int v0), none, none] [.int x2] (emb g1 g2 x d c u t a b m o [rd_cell r3]) _ _ _
  refine rn_istore_n (ls' := [some (.ref 77), some (.int v0), some (.int x2), none]) (by exact dc_Rd_readWeight 2 rfl) (by decide) (by exact rfl) ?_
  refine rn_iconst (v := (1 : Int32)) (by exact dc_Rd_readWeight 3 rfl) (by decide) ?_
  refine rn_istore_n (ls' := [some (.ref 77), some (.int v0), some (.int x2), some (.int (1 : Int32))]) (by exact dc_Rd_readWeight 4 rfl) (by decide) (by exact rfl) ?_
  refine rn_iload_n (by exact dc_Rd_readWeight 5 rfl) (by exact rfl) ?_
  refine rn_iconst (v := (-1 : Int32)) (by exact dc_Rd_readWeight 6 rfl) (by decide) ?_
  obtain ⟨⟨y5, r6⟩, e7, h9⟩ := rn_bind h4
  clear h4
  dsimp only at h9
  have jq8 : Rn Z M_Rd_readWeight 26 [some (.ref 77), some (.int v0), some (.int x2), some (.int y5)] [] (emb g1 g2 x d c u t a b m o [rd_cell r6]) 0 0 (rn_Ret Z (some (.int res)) (emb g1 g2 x d c u t a b_r m o [rd_cell r_r])) := by
    refine rn_iload_n (by exact dc_Rd_readWeight 15 rfl) (by exact rfl) ?_
    refine rn_iconst (v := (-1 : Int32)) (by exact dc_Rd_readWeight 16 rfl) (by decide) ?_
    by_cases c20 : x2 = (-1 : Int32)
    · replace h9 := rn_ifp c20 h9
      refine rn_icmp_eq_t 42 (by exact dc_Rd_readWeight 17 rfl) (by exact rfl) c20 ?_
      refine rn_iconst (v := (0 : Int32)) (by exact dc_Rd_readWeight 25 rfl) (by decide) ?_
      cases h9
      exact rn_zreturn (by exact dc_Rd_readWeight 26 rfl) (by exact rfl) (by first | exact Or.inl rfl | exact Or.inr rfl)
    · replace h9 := rn_ifn c20 h9
      refine rn_icmp_eq_f 42 (by exact dc_Rd_readWeight 17 rfl) (by exact rfl) c20 ?_
      refine rn_iload_n (by exact dc_Rd_readWeight 18 rfl) (by exact rfl) ?_
      refine rn_iconst (v := (-1 : Int32)) (by exact dc_Rd_readWeight 19 rfl) (by decide) ?_
      by_cases c21 : y5 = (-1 : Int32)
      · replace h9 := rn_ifp c21 h9
        refine rn_icmp_eq_t 42 (by exact dc_Rd_readWeight 20 rfl) (by exact rfl) c21 ?_
        refine rn_iconst (v := (0 : Int32)) (by exact dc_Rd_readWeight 25 rfl) (by decide) ?_
        cases h9
        exact rn_zreturn (by exact dc_Rd_readWeight 26 rfl) (by exact rfl) (by first | exact Or.inl rfl | exact Or.inr rfl)
      · replace h9 := rn_ifn c21 h9
        refine rn_icmp_eq_f 42 (by exact dc_Rd_readWeight 20 rfl) (by exact rfl) c21 ?_
        refine rn_iload_n (by exact dc_Rd_readWeight 21 rfl) (by exact rfl) ?_
        refine rn_iconst (v := (2 : Int32)) (by exact dc_Rd_readWeight 22 rfl) (by decide) ?_
        refine rn_irem (by exact dc_Rd_readWeight 23 rfl) (by decide) ?_
        by_cases c22 : ¬ (y5 - y5 / (2 : Int32) * (2 : Int32)) = 0
        · replace h9 := rn_ifp c22 h9
          refine rn_if_ne_t 44 (by exact dc_Rd_readWeight 24 rfl) (by exact rfl) c22 ?_
          refine rn_aload_n (by exact dc_Rd_readWeight 27 rfl) (by exact rfl) ?_
          refine rn_getf (v := .ref 44) fd_Rd_15 (by exact dc_Rd_readWeight 28 rfl) (by exact rfl) (by exact rfl) ?_
          refine rn_getf (v := .ref 48) fd_Rd_99 (by exact dc_Rd_readWeight 29 rfl) (by exact rfl) (by exact rfl) ?_
          refine rn_iload_n (by exact dc_Rd_readWeight 30 rfl) (by exact rfl) ?_
          refine rn_iload_n (by exact dc_Rd_readWeight 31 rfl) (by exact rfl) ?_
          refine rn_i2l (by exact dc_Rd_readWeight 32 rfl) ?_
          refine rn_iload_n (by exact dc_Rd_readWeight 33 rfl) (by exact rfl) ?_
          refine rn_i2l (by exact dc_Rd_readWeight 34 rfl) ?_
          obtain ⟨x24, e23, h25⟩ := rn_bind h9
          clear h9
          refine rn_invS0 (by exact c_Rd_inverse e23) is_Rd_103 (by exact ⟨Nat.le_of_ble_eq_true rfl, Nat.le_of_ble_eq_true rfl⟩) (by exact dc_Rd_readWeight 35 rfl) (by exact rfl) (by exact rfl) (by exact Nat.le_of_ble_eq_true rfl) ?_
          show Rn _ _ 59 [some (.ref 77), some (.int v0), some (.int x2), some (.int y5)] [.long x24, .long (x2.toInt64), .int v0, .ref 48] (emb g1 g2 x d c u t a b m o [rd_cell r6]) _ _ _
          refine rn_lmul (by exact dc_Rd_readWeight 36 rfl) ?_
          obtain ⟨f26, e27, h28⟩ := rn_bind h25
          clear h25
          refine rn_lastore (w2 := (emb g1 g2 x d c u t a (G_heads b, G_bodies b, G_bodyLengths b, f26, G_costs b, G_capitals b, G_order b, G_ruleCount b, G_nonterminalCount b, G_reached b) m o [rd_cell r6])) (by exact dc_Rd_readWeight 37 rfl) (by exact rfl) e27 (by exact rfl) ?_
          refine rn_iconst (v := (1 : Int32)) (by exact dc_Rd_readWeight 38 rfl) (by decide) ?_
          cases h28
          exact rn_zreturn (by exact dc_Rd_readWeight 39 rfl) (by exact rfl) (by first | exact Or.inl rfl | exact Or.inr rfl)
        · replace h9 := rn_ifn c22 h9
          refine rn_if_ne_f 44 (by exact dc_Rd_readWeight 24 rfl) (by exact rfl) (Classical.not_not.mp c22) ?_
          refine rn_iconst (v := (0 : Int32)) (by exact dc_Rd_readWeight 25 rfl) (by decide) ?_
          cases h9
          exact rn_zreturn (by exact dc_Rd_readWeight 26 rfl) (by exact rfl) (by first | exact Or.inl rfl | exact Or.inr rfl)
  by_cases c10 : x2 = (-1 : Int32)
  · replace e7 := rn_ifp c10 e7
    refine rn_icmp_eq_t 26 (by exact dc_Rd_readWeight 7 rfl) (by exact rfl) c10 ?_
    cases e7
    exact rn_weak _ (by repeat (first | exact rn_le_0 | apply rn_le_s | apply rn_le_x)) jq8
  · replace e7 := rn_ifn c10 e7
    refine rn_icmp_eq_f 26 (by exact dc_Rd_readWeight 7 rfl) (by exact rfl) c10 ?_
    refine rn_aload_n (by exact dc_Rd_readWeight 8 rfl) (by exact rfl) ?_
    refine rn_bipush (v := (47 : Int32)) (by exact dc_Rd_readWeight 9 rfl) (by decide) ?_
    obtain ⟨⟨x12, r13⟩, e11, h14⟩ := rn_bind e7
    clear e7
    dsimp only at h14
    refine rn_invV0 (by exact c_Rd_skip e11) iv_Rd_59 (by exact ⟨Nat.le_of_ble_eq_true rfl, Nat.le_of_ble_eq_true rfl⟩) (by exact dc_Rd_readWeight 10 rfl) (by exact rfl) (by exact rfl) (by exact rfl) (by exact Nat.le_of_ble_eq_true rfl) ?_
    show Rn _ _ 18 [some (.ref 77), some (.int v0), some (.int x2), some (.int (1 : Int32))] [.int x12] (emb g1 g2 x d c u t a b m o [rd_cell r13]) _ _ _
    by_cases c15 : x12 = 0
    · replace h14 := rn_ifp c15 h14
      refine rn_if_eq_t 26 (by exact dc_Rd_readWeight 11 rfl) (by exact rfl) c15 ?_
      cases h14
      exact rn_weak _ (by repeat (first | exact rn_le_0 | apply rn_le_s | apply rn_le_x)) jq8
    · replace h14 := rn_ifn c15 h14
      refine rn_if_eq_f 26 (by exact dc_Rd_readWeight 11 rfl) (by exact rfl) c15 ?_
      refine rn_aload_n (by exact dc_Rd_readWeight 12 rfl) (by exact rfl) ?_
      obtain ⟨⟨x17, r18⟩, e16, h19⟩ := rn_bind h14
      clear h14
      dsimp only at h19
      refine rn_invV0 (by exact c_Rd_readNumber e16) iv_Rd_96 (by exact ⟨Nat.le_of_ble_eq_true rfl, Nat.le_of_ble_eq_true rfl⟩) (by exact dc_Rd_readWeight 13 rfl) (by exact rfl) (by exact rfl) (by exact rfl) (by exact Nat.le_of_ble_eq_true rfl) ?_
      show Rn _ _ 25 [some (.ref 77), some (.int v0), some (.int x2), some (.int (1 : Int32))] [.int x17] (emb g1 g2 x d c u t a b m o [rd_cell r18]) _ _ _
      refine rn_istore_n (ls' := [some (.ref 77), some (.int v0), some (.int x2), some (.int x17)]) (by exact dc_Rd_readWeight 14 rfl) (by decide) (by exact rfl) ?_
      cases h19
      exact rn_weak _ (by repeat (first | exact rn_le_0 | apply rn_le_s | apply rn_le_x)) jq8
