def F_Md_unroll_L165 (m : tM) (l4 : Int32) (l8 : Int32) (l9 : Int32) (l10 : Int32) (l11 : Int32) (l12 : Int32) : Nat → Int32 → Option Int32
  | 0, _ => none
  | n + 1, l13 =>
    Option.bind (F_Md_costOf m l12 l10 l13) fun x2 =>
    if x2 < 0 then (
      F_Md_unroll_L165 m l4 l8 l9 l10 l11 l12 n (l13 + 1)
    ) else (
      Option.bind (aG (M_rest m) 50 ((((10 : Int32) * l11) + (10 : Int32)) + l13)) fun x5 =>
      if x5 < 0 then (
        F_Md_unroll_L165 m l4 l8 l9 l10 l11 l12 n (l13 + 1)
      ) else (
        Option.bind (F_Md_costOf m l12 l10 l13) fun x10 =>
        Option.bind (aG (M_rest m) 50 ((((10 : Int32) * l11) + (10 : Int32)) + l13)) fun x12 =>
        Option.bind (aG (M_rest m) 50 (((10 : Int32) * l11) + l10)) fun x15 =>
        if (x10 + x12) = x15 then (
          some l13
        ) else (
          F_Md_unroll_L165 m l4 l8 l9 l10 l11 l12 n (l13 + 1)
        )
      )
    )
set_option maxHeartbeats 4000000 in
set_option maxRecDepth 100000 in
theorem p_Md_unroll_L165 {Z : rn_Z} {g1 g2 : Nat} {x : tX} {d : tD} {c : tC} {u : tU} {t : tT} {a : tG} {b : tG} {m : tM} {o : tO} {E : List rn_C}  {l4 : Int32} {l8 : Int32} {l9 : Int32} {l10 : Int32} {l11 : Int32} {l12 : Int32} {K : rn_K} {ca sa : Nat} {z13 : Int32} (hx : Rn Z M_Md_unroll 246 [some (.ref 53), none, none, none, some (.int l4), none, none, none, some (.int l8), some (.int l9), some (.int l10), some (.int l11), some (.int l12), some (.int z13)] [] (emb g1 g2 x d c u t a b m o E) ca sa K) (n : Nat) : ∀ (l13 : Int32), F_Md_unroll_L165 m l4 l8 l9 l10 l11 l12 n l13 = some z13 → Rn Z M_Md_unroll 165 [some (.ref 53), none, none, none, some (.int l4), none, none, none, some (.int l8), some (.int l9), some (.int l10), some (.int l11), some (.int l12), some (.int l13)] [] (emb g1 g2 x d c u t a b m o E) ca sa K := by
  induction n with
  | zero =>
    intro l13 h
    rw [F_Md_unroll_L165] at h
    cases h
  | succ n ih =>
    intro l13 h
    rw [F_Md_unroll_L165] at h
    refine rn_aload_n (by exact dc_Md_unroll 95 rfl) (by exact rfl) ?_
    refine rn_iload (by exact dc_Md_unroll 96 rfl) (by exact rfl) ?_
    refine rn_iload (by exact dc_Md_unroll 97 rfl) (by exact rfl) ?_
    refine rn_iload (by exact dc_Md_unroll 98 rfl) (by exact rfl) ?_
    obtain ⟨x2, e1, h3⟩ := rn_bind h
    clear h
    refine rn_invV0 (by exact c_Md_costOf e1) iv_Md_189 (by exact ⟨Nat.le_of_ble_eq_true rfl, Nat.le_of_ble_eq_true rfl⟩) (by exact dc_Md_unroll 99 rfl) (by exact rfl) (by exact rfl) (by exact rfl) (by exact Nat.le_of_ble_eq_true rfl) ?_
    show Rn _ _ 175 [some (.ref 53), none, none, none, some (.int l4), none, none, none, some (.int l8), some (.int l9), some (.int l10), some (.int l11), some (.int l12), some (.int l13)] [.int x2] (emb g1 g2 x d c u t a b m o E) _ _ _
    by_cases c4 : x2 < 0
    · replace h3 := rn_ifp c4 h3
      refine rn_if_lt_t 240 (by exact dc_Md_unroll 100 rfl) (by exact rfl) c4 ?_
      refine rn_iinc (ls' := [some (.ref 53), none, none, none, some (.int l4), none, none, none, some (.int l8), some (.int l9), some (.int l10), some (.int l11), some (.int l12), some (.int (l13 + 1))]) (by exact dc_Md_unroll 137 rfl) (by decide) (by exact rfl) (by exact rn_inc_1 _) (by exact rfl) ?_
      refine rn_goto 165 (by exact dc_Md_unroll 138 rfl) (by exact rfl) ?_
      exact rn_weak _ (by repeat (first | exact rn_le_0 | apply rn_le_s | apply rn_le_x)) (ih _ h3)
    · replace h3 := rn_ifn c4 h3
      refine rn_if_lt_f 240 (by exact dc_Md_unroll 100 rfl) (by exact rfl) c4 ?_
      refine rn_aload_n (by exact dc_Md_unroll 101 rfl) (by exact rfl) ?_
      refine rn_getf (v := .ref 71) fd_Md_62 (by exact dc_Md_unroll 102 rfl) (by exact rfl) (by exact rfl) ?_
      refine rn_bipush (v := (10 : Int32)) (by exact dc_Md_unroll 103 rfl) (by decide) ?_
      refine rn_iload (by exact dc_Md_unroll 104 rfl) (by exact rfl) ?_
      refine rn_imul (by exact dc_Md_unroll 105 rfl) ?_
      refine rn_bipush (v := (10 : Int32)) (by exact dc_Md_unroll 106 rfl) (by decide) ?_
      refine rn_iadd (by exact dc_Md_unroll 107 rfl) ?_
      refine rn_iload (by exact dc_Md_unroll 108 rfl) (by exact rfl) ?_
      refine rn_iadd (by exact dc_Md_unroll 109 rfl) ?_
      obtain ⟨x5, e6, h7⟩ := rn_bind h3
      clear h3
      refine rn_iaload (by exact dc_Md_unroll 110 rfl) (by exact rfl) e6 ?_
      by_cases c8 : x5 < 0
      · replace h7 := rn_ifp c8 h7
        refine rn_if_lt_t 240 (by exact dc_Md_unroll 111 rfl) (by exact rfl) c8 ?_
        refine rn_iinc (ls' := [some (.ref 53), none, none, none, some (.int l4), none, none, none, some (.int l8), some (.int l9), some (.int l10), some (.int l11), some (.int l12), some (.int (l13 + 1))]) (by exact dc_Md_unroll 137 rfl) (by decide) (by exact rfl) (by exact rn_inc_1 _) (by exact rfl) ?_
        refine rn_goto 165 (by exact dc_Md_unroll 138 rfl) (by exact rfl) ?_
        exact rn_weak _ (by repeat (first | exact rn_le_0 | apply rn_le_s | apply rn_le_x)) (ih _ h7)
      · replace h7 := rn_ifn c8 h7
        refine rn_if_lt_f 240 (by exact dc_Md_unroll 111 rfl) (by exact rfl) c8 ?_
        refine rn_aload_n (by exact dc_Md_unroll 112 rfl) (by exact rfl) ?_
        refine rn_iload (by exact dc_Md_unroll 113 rfl) (by exact rfl) ?_
        refine rn_iload (by exact dc_Md_unroll 114 rfl) (by exact rfl) ?_
        refine rn_iload (by exact dc_Md_unroll 115 rfl) (by exact rfl) ?_
        obtain ⟨x10, e9, h11⟩ := rn_bind h7
        clear h7
        refine rn_invV0 (by exact c_Md_costOf e9) iv_Md_189 (by exact ⟨Nat.le_of_ble_eq_true rfl, Nat.le_of_ble_eq_true rfl⟩) (by exact dc_Md_unroll 116 rfl) (by exact rfl) (by exact rfl) (by exact rfl) (by exact Nat.le_of_ble_eq_true rfl) ?_
        show Rn _ _ 207 [some (.ref 53), none, none, none, some (.int l4), none, none, none, some (.int l8), some (.int l9), some (.int l10), some (.int l11), some (.int l12), some (.int l13)] [.int x10] (emb g1 g2 x d c u t a b m o E) _ _ _
        refine rn_aload_n (by exact dc_Md_unroll 117 rfl) (by exact rfl) ?_
        refine rn_getf (v := .ref 71) fd_Md_62 (by exact dc_Md_unroll 118 rfl) (by exact rfl) (by exact rfl) ?_
        refine rn_bipush (v := (10 : Int32)) (by exact dc_Md_unroll 119 rfl) (by decide) ?_
        refine rn_iload (by exact dc_Md_unroll 120 rfl) (by exact rfl) ?_
        refine rn_imul (by exact dc_Md_unroll 121 rfl) ?_
        refine rn_bipush (v := (10 : Int32)) (by exact dc_Md_unroll 122 rfl) (by decide) ?_
        refine rn_iadd (by exact dc_Md_unroll 123 rfl) ?_
        refine rn_iload (by exact dc_Md_unroll 124 rfl) (by exact rfl) ?_
        refine rn_iadd (by exact dc_Md_unroll 125 rfl) ?_
        obtain ⟨x12, e13, h14⟩ := rn_bind h11
        clear h11
        refine rn_iaload (by exact dc_Md_unroll 126 rfl) (by exact rfl) e13 ?_
        refine rn_iadd (by exact dc_Md_unroll 127 rfl) ?_
        refine rn_aload_n (by exact dc_Md_unroll 128 rfl) (by exact rfl) ?_
        refine rn_getf (v := .ref 71) fd_Md_62 (by exact dc_Md_unroll 129 rfl) (by exact rfl) (by exact rfl) ?_
        refine rn_bipush (v := (10 : Int32)) (by exact dc_Md_unroll 130 rfl) (by decide) ?_
        refine rn_iload (by exact dc_Md_unroll 131 rfl) (by exact rfl) ?_
        refine rn_imul (by exact dc_Md_unroll 132 rfl) ?_
        refine rn_iload (by exact dc_Md_unroll 133 rfl) (by exact rfl) ?_
        refine rn_iadd (by exact dc_Md_unroll 134 rfl) ?_
        obtain ⟨x15, e16, h17⟩ := rn_bind h14
        clear h14
        refine rn_iaload (by exact dc_Md_unroll 135 rfl) (by exact rfl) e16 ?_
        by_cases c18 : (x10 + x12) = x15
        · replace h17 := rn_ifp c18 h17
          refine rn_icmp_eq_t 246 (by exact dc_Md_unroll 136 rfl) (by exact rfl) c18 ?_
          cases h17
          exact rn_weak _ (by repeat (first | exact rn_le_0 | apply rn_le_s | apply rn_le_x)) hx
        · replace h17 := rn_ifn c18 h17
          refine rn_icmp_eq_f 246 (by exact dc_Md_unroll 136 rfl) (by exact rfl) c18 ?_
          refine rn_iinc (ls' := [some (.ref 53), none, none, none, some (.int l4), none, none, none, some (.int l8), some (.int l9), some (.int l10), some (.int l11), some (.int l12), some (.int (l13 + 1))]) (by exact dc_Md_unroll 137 rfl) (by decide) (by exact rfl) (by exact rn_inc_1 _) (by exact rfl) ?_
          refine rn_goto 165 (by exact dc_Md_unroll 138 rfl) (by exact rfl) ?_
          exact rn_weak _ (by repeat (first | exact rn_le_0 | apply rn_le_s | apply rn_le_x)) (ih _ h17)
def F_Md_unroll_L135 (l8 : Int32) (l9 : Int32) : Nat → tM → Int32 → Int32 → Int32 → Option (Int32 × tM)
  | 0, _, _, _, _ => none
  | n + 1, m, l4, l10, l11 =>
    Option.bind (aG (M_lengths m) 12 l8) fun x1 =>
    if x1 ≤ l11 then (
      some (l4, m)
    ) else (
      Option.bind (aG (M_bodies m) 48 (((4 : Int32) * l8) + l11)) fun x5 =>
      Option.bind (F_Md_unroll_L165 m l4 l8 l9 l10 l11 x5 rn_fu l10) fun y11 =>
      Option.bind (F_Md_isLetter  x5) fun x13 =>
      Option.bind (
        if x13 = 0 then (
          Option.bind (F_Md_defer m l4 x5 l10 y11) fun (x22, m23) =>
          some ((x22 : Int32), m23)
        ) else (
          some ((l4 : Int32), m)
        )
       : Option (Int32 × tM)) fun (y15, m16) =>
      F_Md_unroll_L135 l8 l9 n m16 y15 y11 (l11 + 1)
    )
set_option maxHeartbeats 4000000 in
set_option maxRecDepth 100000 in
theorem p_Md_unroll_L135 {Z : rn_Z} {g1 g2 : Nat} {x : tX} {d : tD} {c : tC} {u : tU} {t : tT} {a : tG} {b : tG}  {o : tO} {E : List rn_C}  {l8 : Int32} {l9 : Int32} {K : rn_K} {ca sa : Nat} {z4 : Int32} {mz : tM} (hx : Rn Z M_Md_unroll 284 [some (.ref 53), none, none, none, some (.int z4), none, none, none, none, some (.int l9), none, none, none, none] [] (emb g1 g2 x d c u t a b mz o E) ca sa K) (n : Nat) : ∀ (m : tM) (l4 : Int32) (l10 : Int32) (l11 : Int32), F_Md_unroll_L135 l8 l9 n m l4 l10 l11 = some (z4, mz) → Rn Z M_Md_unroll 135 [some (.ref 53), none, none, none, some (.int l4), none, none, none, some (.int l8), some (.int l9), some (.int l10), some (.int l11), none, none] [] (emb g1 g2 x d c u t a b m o E) ca sa K := by
  induction n with
  | zero =>
    intro m l4 l10 l11 h
    rw [F_Md_unroll_L135] at h
    cases h
  | succ n ih =>
    intro m l4 l10 l11 h
    rw [F_Md_unroll_L135] at h
    refine rn_iload (by exact dc_Md_unroll 78 rfl) (by exact rfl) ?_
    refine rn_aload_n (by exact dc_Md_unroll 79 rfl) (by exact rfl) ?_
    refine rn_getf (v := .ref 58) fd_Md_22 (by exact dc_Md_unroll 80 rfl) (by exact rfl) (by exact rfl) ?_
    refine rn_iload (by exact dc_Md_unroll 81 rfl) (by exact rfl) ?_
    obtain ⟨x1, e2, h3⟩ := rn_bind h
    clear h
    refine rn_iaload (by exact dc_Md_unroll 82 rfl) (by exact rfl) e2 ?_
    by_cases c4 : x1 ≤ l11
    · replace h3 := rn_ifp c4 h3
      refine rn_icmp_ge_t 284 (by exact dc_Md_unroll 83 rfl) (by exact rfl) c4 ?_
      cases h3
      exact rn_weak _ (by repeat (first | exact rn_le_0 | apply rn_le_s | apply rn_le_x)) hx
    · replace h3 := rn_ifn c4 h3
      refine rn_icmp_ge_f 284 (by exact dc_Md_unroll 83 rfl) (by exact rfl) c4 ?_
      refine rn_aload_n (by exact dc_Md_unroll 84 rfl) (by exact rfl) ?_
      refine rn_getf (v := .ref 59) fd_Md_25 (by exact dc_Md_unroll 85 rfl) (by exact rfl) (by exact rfl) ?_
      refine rn_iconst (v := (4 : Int32)) (by exact dc_Md_unroll 86 rfl) (by decide) ?_
      refine rn_iload (by exact dc_Md_unroll 87 rfl) (by exact rfl) ?_
      refine rn_imul (by exact dc_Md_unroll 88 rfl) ?_
      refine rn_iload (by exact dc_Md_unroll 89 rfl) (by exact rfl) ?_
      refine rn_iadd (by exact dc_Md_unroll 90 rfl) ?_
      obtain ⟨x5, e6, h7⟩ := rn_bind h3
      clear h3
      refine rn_iaload (by exact dc_Md_unroll 91 rfl) (by exact rfl) e6 ?_
      refine rn_istore (ls' := [some (.ref 53), none, none, none, some (.int l4), none, none, none, some (.int l8), some (.int l9), some (.int l10), some (.int l11), some (.int x5), none]) (by exact dc_Md_unroll 92 rfl) (by decide) (by exact rfl) ?_
      refine rn_iload (by exact dc_Md_unroll 93 rfl) (by exact rfl) ?_
      refine rn_istore (ls' := [some (.ref 53), none, none, none, some (.int l4), none, none, none, some (.int l8), some (.int l9), some (.int l10), some (.int l11), some (.int x5), some (.int l10)]) (by exact dc_Md_unroll 94 rfl) (by decide) (by exact rfl) ?_
      obtain ⟨y11, e8, h10⟩ := rn_bind h7
      clear h7
      have jx9 : Rn Z M_Md_unroll 246 [some (.ref 53), none, none, none, some (.int l4), none, none, none, some (.int l8), some (.int l9), some (.int l10), some (.int l11), some (.int x5), some (.int y11)] [] (emb g1 g2 x d c u t a b m o E) ca sa K := by
        refine rn_aload_n (by exact dc_Md_unroll 139 rfl) (by exact rfl) ?_
        refine rn_iload (by exact dc_Md_unroll 140 rfl) (by exact rfl) ?_
        obtain ⟨x13, e12, h14⟩ := rn_bind h10
        clear h10
        refine rn_invV0 (by exact c_Md_isLetter e12) iv_Md_134 (by exact ⟨Nat.le_of_ble_eq_true rfl, Nat.le_of_ble_eq_true rfl⟩) (by exact dc_Md_unroll 141 rfl) (by exact rfl) (by exact rfl) (by exact rfl) (by exact Nat.le_of_ble_eq_true rfl) ?_
        show Rn _ _ 252 [some (.ref 53), none, none, none, some (.int l4), none, none, none, some (.int l8), some (.int l9), some (.int l10), some (.int l11), some (.int x5), some (.int y11)] [.int x13] (emb g1 g2 x d c u t a b m o E) _ _ _
        obtain ⟨⟨y15, m16⟩, e17, h19⟩ := rn_bind h14
        clear h14
        dsimp only at h19
        have jq18 : Rn Z M_Md_unroll 272 [some (.ref 53), none, none, none, none, none, none, none, some (.int l8), some (.int l9), none, some (.int l11), none, some (.int y11)] [.int y15] (emb g1 g2 x d c u t a b m16 o E) ca sa K := by
          refine rn_istore (ls' := [some (.ref 53), none, none, none, some (.int y15), none, none, none, some (.int l8), some (.int l9), none, some (.int l11), none, some (.int y11)]) (by exact dc_Md_unroll 151 rfl) (by decide) (by exact rfl) ?_
          refine rn_iload (by exact dc_Md_unroll 152 rfl) (by exact rfl) ?_
          refine rn_istore (ls' := [some (.ref 53), none, none, none, some (.int y15), none, none, none, some (.int l8), some (.int l9), some (.int y11), some (.int l11), none, some (.int y11)]) (by exact dc_Md_unroll 153 rfl) (by decide) (by exact rfl) ?_
          refine rn_iinc (ls' := [some (.ref 53), none, none, none, some (.int y15), none, none, none, some (.int l8), some (.int l9), some (.int y11), some (.int (l11 + 1)), none, some (.int y11)]) (by exact dc_Md_unroll 154 rfl) (by decide) (by exact rfl) (by exact rn_inc_1 _) (by exact rfl) ?_
          refine rn_goto 135 (by exact dc_Md_unroll 155 rfl) (by exact rfl) ?_
          exact rn_weak _ (by repeat (first | exact rn_le_0 | apply rn_le_s | apply rn_le_x)) (ih _ _ _ _ h19)
        by_cases c20 : x13 = 0
        · replace e17 := rn_ifp c20 e17
          refine rn_if_eq_t 260 (by exact dc_Md_unroll 142 rfl) (by exact rfl) c20 ?_
          refine rn_aload_n (by exact dc_Md_unroll 145 rfl) (by exact rfl) ?_
          refine rn_iload (by exact dc_Md_unroll 146 rfl) (by exact rfl) ?_
          refine rn_iload (by exact dc_Md_unroll 147 rfl) (by exact rfl) ?_
          refine rn_iload (by exact dc_Md_unroll 148 rfl) (by exact rfl) ?_
          refine rn_iload (by exact dc_Md_unroll 149 rfl) (by exact rfl) ?_
          obtain ⟨⟨x22, m23⟩, e21, h24⟩ := rn_bind e17
          clear e17
          dsimp only at h24
          refine rn_invV0 (by exact c_Md_defer e21) iv_Md_205 (by exact ⟨Nat.le_of_ble_eq_true rfl, Nat.le_of_ble_eq_true rfl⟩) (by exact dc_Md_unroll 150 rfl) (by exact rfl) (by exact rfl) (by exact rfl) (by exact Nat.le_of_ble_eq_true rfl) ?_
          show Rn _ _ 272 [some (.ref 53), none, none, none, some (.int l4), none, none, none, some (.int l8), some (.int l9), some (.int l10), some (.int l11), some (.int x5), some (.int y11)] [.int x22] (emb g1 g2 x d c u t a b m23 o E) _ _ _
          cases h24
          exact rn_weak _ (by repeat (first | exact rn_le_0 | apply rn_le_s | apply rn_le_x)) jq18
        · replace e17 := rn_ifn c20 e17
          refine rn_if_eq_f 260 (by exact dc_Md_unroll 142 rfl) (by exact rfl) c20 ?_
          refine rn_iload (by exact dc_Md_unroll 143 rfl) (by exact rfl) ?_
          refine rn_goto 272 (by exact dc_Md_unroll 144 rfl) (by exact rfl) ?_
          cases e17
          exact rn_weak _ (by repeat (first | exact rn_le_0 | apply rn_le_s | apply rn_le_x)) jq18
      exact rn_weak _ (by repeat (first | exact rn_le_0 | apply rn_le_s | apply rn_le_x)) (p_Md_unroll_L165 jx9 _ _ e8)
def F_Md_unroll_L15  : Nat → tM → Int32 → Option tM
  | 0, _, _ => none
  | n + 1, m, l4 =>
    if l4 ≤ 0 then (
      some m
    ) else (
      Option.bind (aG (M_waits m) 1500 ((3 : Int32) * (l4 + (-1)))) fun x2 =>
      Option.bind (aG (M_waits m) 1500 (((3 : Int32) * (l4 + (-1))) + (1 : Int32))) fun x5 =>
      Option.bind (aG (M_waits m) 1500 (((3 : Int32) * (l4 + (-1))) + (2 : Int32))) fun x8 =>
      Option.bind (F_Md_ruleFor m x2 x5 x8) fun (x12, m13) =>
      Option.bind (
        if (100 : Int32) ≤ (M_nodes m13) then (
          some m13
        ) else (
          Option.bind (aS (M_nodeRule m13) 100 (M_nodes m13) x12) fun f20 =>
          Option.bind (aS (M_nodeFrom (M_put_nodeRule m13 f20)) 100 (M_nodes (M_put_nodeRule m13 f20)) x5) fun f23 =>
          Option.bind (aS (M_nodeTo (M_put_nodeFrom (M_put_nodeRule m13 f20) f23)) 100 (M_nodes (M_put_nodeFrom (M_put_nodeRule m13 f20) f23)) x8) fun f26 =>
          some (M_put_nodeTo (M_put_nodeFrom (M_put_nodeRule m13 f20) f23) f26)
        )
       : Option tM) fun m15 =>
      Option.bind (F_Md_unroll_L135 x12 (l4 + (-1)) rn_fu (M_put_nodes m15 ((M_nodes m15) + (1 : Int32))) (l4 + (-1)) x5 (0 : Int32)) fun (y32, m33) =>
      Option.bind (F_Md_turnOver m33 (l4 + (-1)) y32) fun m35 =>
      F_Md_unroll_L15  n m35 y32
    )
set_option maxHeartbeats 4000000 in
set_option maxRecDepth 100000 in
theorem p_Md_unroll_L15 {Z : rn_Z} {g1 g2 : Nat} {x : tX} {d : tD} {c : tC} {u : tU} {t : tT} {a : tG} {b : tG}  {o : tO} {E : List rn_C}   {K : rn_K} {ca sa : Nat} {mz : tM} (hx : Rn Z M_Md_unroll 295 [none, none, none, none, none, none, none, none, none, none, none, none, none, none] [] (emb g1 g2 x d c u t a b mz o E) ca sa K) (n : Nat) : ∀ (m : tM) (l4 : Int32), F_Md_unroll_L15  n m l4 = some mz → Rn Z M_Md_unroll 15 [some (.ref 53), none, none, none, some (.int l4), none, none, none, none, none, none, none, none, none] [] (emb g1 g2 x d c u t a b m o E) ca sa K := by
  induction n with
  | zero =>
    intro m l4 h
    rw [F_Md_unroll_L15] at h
    cases h
  | succ n ih =>
    intro m l4 h
    rw [F_Md_unroll_L15] at h
    refine rn_iload (by exact dc_Md_unroll 10 rfl) (by exact rfl) ?_
    by_cases c1 : l4 ≤ 0
    · replace h := rn_ifp c1 h
      refine rn_if_le_t 295 (by exact dc_Md_unroll 11 rfl) (by exact rfl) c1 ?_
      cases h
      exact rn_weak _ (by repeat (first | exact rn_le_0 | apply rn_le_s | apply rn_le_x)) hx
    · replace h := rn_ifn c1 h
      refine rn_if_le_f 295 (by exact dc_Md_unroll 11 rfl) (by exact rfl) c1 ?_
      refine rn_iinc (ls' := [some (.ref 53), none, none, none, some (.int (l4 + (-1))), none, none, none, none, none, none, none, none, none]) (by exact dc_Md_unroll 12 rfl) (by decide) (by exact rfl) (by exact rn_inc_m1 _) (by exact rfl) ?_
      refine rn_aload_n (by exact dc_Md_unroll 13 rfl) (by exact rfl) ?_
      refine rn_getf (v := .ref 75) fd_Md_74 (by exact dc_Md_unroll 14 rfl) (by exact rfl) (by exact rfl) ?_
      refine rn_iconst (v := (3 : Int32)) (by exact dc_Md_unroll 15 rfl) (by decide) ?_
      refine rn_iload (by exact dc_Md_unroll 16 rfl) (by exact rfl) ?_
      refine rn_imul (by exact dc_Md_unroll 17 rfl) ?_
      obtain ⟨x2, e3, h4⟩ := rn_bind h
      clear h
      refine rn_iaload (by exact dc_Md_unroll 18 rfl) (by exact rfl) e3 ?_
      refine rn_istore (ls' := [some (.ref 53), none, none, none, some (.int (l4 + (-1))), some (.int x2), none, none, none, none, none, none, none, none]) (by exact dc_Md_unroll 19 rfl) (by decide) (by exact rfl) ?_
      refine rn_aload_n (by exact dc_Md_unroll 20 rfl) (by exact rfl) ?_
      refine rn_getf (v := .ref 75) fd_Md_74 (by exact dc_Md_unroll 21 rfl) (by exact rfl) (by exact rfl) ?_
      refine rn_iconst (v := (3 : Int32)) (by exact dc_Md_unroll 22 rfl) (by decide) ?_
      refine rn_iload (by exact dc_Md_unroll 23 rfl) (by exact rfl) ?_
      refine rn_imul (by exact dc_Md_unroll 24 rfl) ?_
      refine rn_iconst (v := (1 : Int32)) (by exact dc_Md_unroll 25 rfl) (by decide) ?_
      refine rn_iadd (by exact dc_Md_unroll 26 rfl) ?_
      obtain ⟨x5, e6, h7⟩ := rn_bind h4
      clear h4
      refine rn_iaload (by exact dc_Md_unroll 27 rfl) (by exact rfl) e6 ?_
      refine rn_istore (ls' := [some (.ref 53), none, none, none, some (.int (l4 + (-1))), some (.int x2), some (.int x5), none, none, none, none, none, none, none]) (by exact dc_Md_unroll 28 rfl) (by decide) (by exact rfl) ?_
      refine rn_aload_n (by exact dc_Md_unroll 29 rfl) (by exact rfl) ?_
      refine rn_getf (v := .ref 75) fd_Md_74 (by exact dc_Md_unroll 30 rfl) (by exact rfl) (by exact rfl) ?_
      refine rn_iconst (v := (3 : Int32)) (by exact dc_Md_unroll 31 rfl) (by decide) ?_
      refine rn_iload (by exact dc_Md_unroll 32 rfl) (by exact rfl) ?_
      refine rn_imul (by exact dc_Md_unroll 33 rfl) ?_
      refine rn_iconst (v := (2 : Int32)) (by exact dc_Md_unroll 34 rfl) (by decide) ?_
      refine rn_iadd (by exact dc_Md_unroll 35 rfl) ?_
      obtain ⟨x8, e9, h10⟩ := rn_bind h7
      clear h7
      refine rn_iaload (by exact dc_Md_unroll 36 rfl) (by exact rfl) e9 ?_
      refine rn_istore (ls' := [some (.ref 53), none, none, none, some (.int (l4 + (-1))), some (.int x2), some (.int x5), some (.int x8), none, none, none, none, none, none]) (by exact dc_Md_unroll 37 rfl) (by decide) (by exact rfl) ?_
      refine rn_aload_n (by exact dc_Md_unroll 38 rfl) (by exact rfl) ?_
      refine rn_iload (by exact dc_Md_unroll 39 rfl) (by exact rfl) ?_
      refine rn_iload (by exact dc_Md_unroll 40 rfl) (by exact rfl) ?_
      refine rn_iload (by exact dc_Md_unroll 41 rfl) (by exact rfl) ?_
      obtain ⟨⟨x12, m13⟩, e11, h14⟩ := rn_bind h10
      clear h10
      dsimp only at h14
      refine rn_invV0 (by exact c_Md_ruleFor e11) iv_Md_209 (by exact ⟨Nat.le_of_ble_eq_true rfl, Nat.le_of_ble_eq_true rfl⟩) (by exact dc_Md_unroll 42 rfl) (by exact rfl) (by exact rfl) (by exact rfl) (by exact Nat.le_of_ble_eq_true rfl) ?_
      show Rn _ _ 70 [some (.ref 53), none, none, none, some (.int (l4 + (-1))), some (.int x2), some (.int x5), some (.int x8), none, none, none, none, none, none] [.int x12] (emb g1 g2 x d c u t a b m13 o E) _ _ _
      refine rn_istore (ls' := [some (.ref 53), none, none, none, some (.int (l4 + (-1))), some (.int x2), some (.int x5), some (.int x8), some (.int x12), none, none, none, none, none]) (by exact dc_Md_unroll 43 rfl) (by decide) (by exact rfl) ?_
      refine rn_aload_n (by exact dc_Md_unroll 44 rfl) (by exact rfl) ?_
      refine rn_getf (v := .int (M_nodes m13)) fd_Md_175 (by exact dc_Md_unroll 45 rfl) (by exact rfl) (by exact rfl) ?_
      refine rn_bipush (v := (100 : Int32)) (by exact dc_Md_unroll 46 rfl) (by decide) ?_
      obtain ⟨m15, e16, h18⟩ := rn_bind h14
      clear h14
      have jq17 : Rn Z M_Md_unroll 114 [some (.ref 53), none, none, none, some (.int (l4 + (-1))), none, some (.int x5), none, some (.int x12), none, none, none, none, none] [] (emb g1 g2 x d c u t a b m15 o E) ca sa K := by
        refine rn_aload_n (by exact dc_Md_unroll 66 rfl) (by exact rfl) ?_
        refine rn_dup (by exact dc_Md_unroll 67 rfl) (by exact rfl) ?_
        refine rn_getf (v := .int (M_nodes m15)) fd_Md_175 (by exact dc_Md_unroll 68 rfl) (by exact rfl) (by exact rfl) ?_
        refine rn_iconst (v := (1 : Int32)) (by exact dc_Md_unroll 69 rfl) (by decide) ?_
        refine rn_iadd (by exact dc_Md_unroll 70 rfl) ?_
        refine rn_putf (w2 := (emb g1 g2 x d c u t a b (M_put_nodes m15 ((M_nodes m15) + (1 : Int32))) o E)) fd_Md_175 (by exact dc_Md_unroll 71 rfl) (by exact rfl) (by exact rfl) (by exact Nat.le_of_ble_eq_true rfl) (by exact sm_nodes) ?_
        refine rn_iload (by exact dc_Md_unroll 72 rfl) (by exact rfl) ?_
        refine rn_istore (ls' := [some (.ref 53), none, none, none, some (.int (l4 + (-1))), none, some (.int x5), none, some (.int x12), some (.int (l4 + (-1))), none, none, none, none]) (by exact dc_Md_unroll 73 rfl) (by decide) (by exact rfl) ?_
        refine rn_iload (by exact dc_Md_unroll 74 rfl) (by exact rfl) ?_
        refine rn_istore (ls' := [some (.ref 53), none, none, none, some (.int (l4 + (-1))), none, some (.int x5), none, some (.int x12), some (.int (l4 + (-1))), some (.int x5), none, none, none]) (by exact dc_Md_unroll 75 rfl) (by decide) (by exact rfl) ?_
        refine rn_iconst (v := (0 : Int32)) (by exact dc_Md_unroll 76 rfl) (by decide) ?_
        refine rn_istore (ls' := [some (.ref 53), none, none, none, some (.int (l4 + (-1))), none, some (.int x5), none, some (.int x12), some (.int (l4 + (-1))), some (.int x5), some (.int (0 : Int32)), none, none]) (by exact dc_Md_unroll 77 rfl) (by decide) (by exact rfl) ?_
        obtain ⟨⟨y32, m33⟩, e29, h31⟩ := rn_bind h18
        clear h18
        dsimp only at h31
        have jx30 : Rn Z M_Md_unroll 284 [some (.ref 53), none, none, none, some (.int y32), none, none, none, none, some (.int (l4 + (-1))), none, none, none, none] [] (emb g1 g2 x d c u t a b m33 o E) ca sa K := by
          refine rn_aload_n (by exact dc_Md_unroll 156 rfl) (by exact rfl) ?_
          refine rn_iload (by exact dc_Md_unroll 157 rfl) (by exact rfl) ?_
          refine rn_iload (by exact dc_Md_unroll 158 rfl) (by exact rfl) ?_
          obtain ⟨m35, e34, h36⟩ := rn_bind h31
          clear h31
          refine rn_invV0 (by exact c_Md_turnOver e34) iv_Md_212 (by exact ⟨Nat.le_of_ble_eq_true rfl, Nat.le_of_ble_eq_true rfl⟩) (by exact dc_Md_unroll 159 rfl) (by exact rfl) (by exact rfl) (by exact rfl) (by exact Nat.le_of_ble_eq_true rfl) ?_
          show Rn _ _ 292 [some (.ref 53), none, none, none, some (.int y32), none, none, none, none, some (.int (l4 + (-1))), none, none, none, none] [] (emb g1 g2 x d c u t a b m35 o E) _ _ _
          refine rn_goto 15 (by exact dc_Md_unroll 160 rfl) (by exact rfl) ?_
          exact rn_weak _ (by repeat (first | exact rn_le_0 | apply rn_le_s | apply rn_le_x)) (ih _ _ h36)
        exact rn_weak _ (by repeat (first | exact rn_le_0 | apply rn_le_s | apply rn_le_x)) (p_Md_unroll_L135 jx30 _ _ _ _ _ e29)
      by_cases c19 : (100 : Int32) ≤ (M_nodes m13)
      · replace e16 := rn_ifp c19 e16
        refine rn_icmp_ge_t 114 (by exact dc_Md_unroll 47 rfl) (by exact rfl) c19 ?_
        cases e16
        exact rn_weak _ (by repeat (first | exact rn_le_0 | apply rn_le_s | apply rn_le_x)) jq17
      · replace e16 := rn_ifn c19 e16
        refine rn_icmp_ge_f 114 (by exact dc_Md_unroll 47 rfl) (by exact rfl) c19 ?_
        refine rn_aload_n (by exact dc_Md_unroll 48 rfl) (by exact rfl) ?_
        refine rn_getf (v := .ref 72) fd_Md_65 (by exact dc_Md_unroll 49 rfl) (by exact rfl) (by exact rfl) ?_
        refine rn_aload_n (by exact dc_Md_unroll 50 rfl) (by exact rfl) ?_
        refine rn_getf (v := .int (M_nodes m13)) fd_Md_175 (by exact dc_Md_unroll 51 rfl) (by exact rfl) (by exact rfl) ?_
        refine rn_iload (by exact dc_Md_unroll 52 rfl) (by exact rfl) ?_
        obtain ⟨f20, e21, h22⟩ := rn_bind e16
        clear e16
        refine rn_iastore (w2 := (emb g1 g2 x d c u t a b (M_put_nodeRule m13 f20) o E)) (by exact dc_Md_unroll 53 rfl) (by exact rfl) e21 (by exact sm_nodeRule) ?_
        refine rn_aload_n (by exact dc_Md_unroll 54 rfl) (by exact rfl) ?_
        refine rn_getf (v := .ref 73) fd_Md_68 (by exact dc_Md_unroll 55 rfl) (by exact rfl) (by exact rfl) ?_
        refine rn_aload_n (by exact dc_Md_unroll 56 rfl) (by exact rfl) ?_
        refine rn_getf (v := .int (M_nodes (M_put_nodeRule m13 f20))) fd_Md_175 (by exact dc_Md_unroll 57 rfl) (by exact rfl) (by exact rfl) ?_
        refine rn_iload (by exact dc_Md_unroll 58 rfl) (by exact rfl) ?_
        obtain ⟨f23, e24, h25⟩ := rn_bind h22
        clear h22
        refine rn_iastore (w2 := (emb g1 g2 x d c u t a b (M_put_nodeFrom (M_put_nodeRule m13 f20) f23) o E)) (by exact dc_Md_unroll 59 rfl) (by exact rfl) e24 (by exact sm_nodeFrom) ?_
        refine rn_aload_n (by exact dc_Md_unroll 60 rfl) (by exact rfl) ?_
        refine rn_getf (v := .ref 74) fd_Md_71 (by exact dc_Md_unroll 61 rfl) (by exact rfl) (by exact rfl) ?_
        refine rn_aload_n (by exact dc_Md_unroll 62 rfl) (by exact rfl) ?_
        refine rn_getf (v := .int (M_nodes (M_put_nodeFrom (M_put_nodeRule m13 f20) f23))) fd_Md_175 (by exact dc_Md_unroll 63 rfl) (by exact rfl) (by exact rfl) ?_
        refine rn_iload (by exact dc_Md_unroll 64 rfl) (by exact rfl) ?_
        obtain ⟨f26, e27, h28⟩ := rn_bind h25
        clear h25
        refine rn_iastore (w2 := (emb g1 g2 x d c u t a b (M_put_nodeTo (M_put_nodeFrom (M_put_nodeRule m13 f20) f23) f26) o E)) (by exact dc_Md_unroll 65 rfl) (by exact rfl) e27 (by exact sm_nodeTo) ?_
        cases h28
        exact rn_weak _ (by repeat (first | exact rn_le_0 | apply rn_le_s | apply rn_le_x)) jq17
def F_Md_unroll (m : tM) (v0 : Int32) (v1 : Int32) (v2 : Int32) : Option tM :=
  Option.bind (F_Md_defer m (0 : Int32) v0 v1 v2) fun (x2, m3) =>
  Option.bind (F_Md_unroll_L15  rn_fu (M_put_nodes m3 (0 : Int32)) x2) fun m8 =>
  some m8
set_option maxHeartbeats 4000000 in
set_option maxRecDepth 100000 in
theorem c_Md_unroll {Z : rn_Z} {g1 g2 : Nat} {x : tX} {d : tD} {c : tC} {u : tU} {t : tT} {a : tG} {b : tG} {m : tM} {o : tO} {E : List rn_C} {v0 : Int32} {v1 : Int32} {v2 : Int32} {m_r : tM} (h : F_Md_unroll m v0 v1 v2 = some m_r) : Call Z M_Md_unroll [.ref 53, .int v0, .int v1, .int v2] (emb g1 g2 x d c u t a b m o E) 0 0 none (emb g1 g2 x d c u t a b m_r o E) := by
  unfold F_Md_unroll at h
  refine rn_call (by decide) 10 (by exact Nat.le_of_ble_eq_true rfl) ?_
  show Rn Z M_Md_unroll 0 [some (.ref 53), some (.int v0), some (.int v1), some (.int v2), none, none, none, none, none, none, none, none, none, none] [] (emb g1 g2 x d c u t a b m o E) 0 0 _
  refine rn_aload_n (by exact dc_Md_unroll 0 rfl) (by exact rfl) ?_
  refine rn_iconst (v := (0 : Int32)) (by exact dc_Md_unroll 1 rfl) (by decide) ?_
  refine rn_iload_n (by exact dc_Md_unroll 2 rfl) (by exact rfl) ?_
  refine rn_iload_n (by exact dc_Md_unroll 3 rfl) (by exact rfl) ?_
  refine rn_iload_n (by exact dc_Md_unroll 4 rfl) (by exact rfl) ?_
  obtain ⟨⟨x2, m3⟩, e1, h4⟩ := rn_bind h
  clear h
  dsimp only at h4
  refine rn_invV0 (by exact c_Md_defer e1) iv_Md_205 (by exact ⟨Nat.le_of_ble_eq_true rfl, Nat.le_of_ble_eq_true rfl⟩) (by exact dc_Md_unroll 5 rfl) (by exact rfl) (by exact rfl) (by exact rfl) (by exact Nat.le_of_ble_eq_true rfl) ?_
  show Rn _ _ 8 [some (.ref 53), some (.int v0), some (.int v1), some (.int v2), none, none, none, none, none, none, none, none, none, none] [.int x2] (emb g1 g2 x d c u t a b m3 o E) _ _ _
  refine rn_istore (ls' := [some (.ref 53), some (.int v0), some (.int v1), some (.int v2), some (.int x2), none, none, none, none, none, none, none, none, none]) (by exact dc_Md_unroll 6 rfl) (by decide) (by exact rfl) ?_
  refine rn_aload_n (by exact dc_Md_unroll 7 rfl) (by exact rfl) ?_
  refine rn_iconst (v := (0 : Int32)) (by exact dc_Md_unroll 8 rfl) (by decide) ?_
  refine rn_putf (w2 := (emb g1 g2 x d c u t a b (M_put_nodes m3 (0 : Int32)) o E)) fd_Md_175 (by exact dc_Md_unroll 9 rfl) (by exact rfl) (by exact rfl) (by exact Nat.le_of_ble_eq_true rfl) (by exact sm_nodes) ?_
  obtain ⟨m8, e5, h7⟩ := rn_bind h4
  clear h4
  have jx6 : Rn Z M_Md_unroll 295 [none, none, none, none, none, none, none, none, none, none, none, none, none, none] [] (emb g1 g2 x d c u t a b m8 o E) 0 0 (rn_Ret Z none (emb g1 g2 x d c u t a b m_r o E)) := by
    cases h7
    exact rn_return (by exact dc_Md_unroll 161 rfl) (by exact rfl)
  exact rn_weak _ (by repeat (first | exact rn_le_0 | apply rn_le_s | apply rn_le_x)) (p_Md_unroll_L15 jx6 _ _ _ e5)
def F_Md_isSymbol (m : tM) (v0 : Int32) : Option Int32 :=
  Option.bind (
    if (M_loaded m) = 0 then (
      some (0 : Int32)
    ) else (
      if v0 < 0 then (
        some (0 : Int32)
      ) else (
        if (M_symbols m) ≤ v0 then (
          some (0 : Int32)
        ) else (
          some (1 : Int32)
        )
      )
    )
   : Option Int32) fun y1 =>
  Option.bind (rn_bl y1) fun y8 =>
  some y8
set_option maxHeartbeats 4000000 in
set_option maxRecDepth 100000 in
theorem c_Md_isSymbol {Z : rn_Z} {g1 g2 : Nat} {x : tX} {d : tD} {c : tC} {u : tU} {t : tT} {a : tG} {b : tG} {m : tM} {o : tO} {E : List rn_C} {v0 : Int32} {res : Int32} (h : F_Md_isSymbol m v0 = some res) : Call Z M_Md_isSymbol [.ref 53, .int v0] (emb g1 g2 x d c u t a b m o E) 0 0 (some (.int res)) (emb g1 g2 x d c u t a b m o E) := by
  unfold F_Md_isSymbol at h
  refine rn_call (by decide) 0 (by exact Nat.le_of_ble_eq_true rfl) ?_
  show Rn Z M_Md_isSymbol 0 [some (.ref 53), some (.int v0)] [] (emb g1 g2 x d c u t a b m o E) 0 0 _
  refine rn_aload_n (by exact dc_Md_isSymbol 0 rfl) (by exact rfl) ?_
  refine rn_getf (v := .int (M_loaded m)) fd_Md_168 (by exact dc_Md_isSymbol 1 rfl) (by exact rfl) (by exact rfl) ?_
  obtain ⟨y1, e2, h4⟩ := rn_bind h
  clear h
  have jq3 : Rn Z M_Md_isSymbol 24 [none, none] [.int y1] (emb g1 g2 x d c u t a b m o E) 0 0 (rn_Ret Z (some (.int res)) (emb g1 g2 x d c u t a b m o E)) := by
    obtain ⟨y8, e9, h11⟩ := rn_bind h4
    clear h4
    obtain ⟨rfl, hb10⟩ := rn_bl_some e9
    cases h11
    exact rn_zreturn (by exact dc_Md_isSymbol 12 rfl) (by exact rfl) hb10
  by_cases c5 : (M_loaded m) = 0
  · replace e2 := rn_ifp c5 e2
    refine rn_if_eq_t 23 (by exact dc_Md_isSymbol 2 rfl) (by exact rfl) c5 ?_
    refine rn_iconst (v := (0 : Int32)) (by exact dc_Md_isSymbol 11 rfl) (by decide) ?_
    cases e2
    exact rn_weak _ (by repeat (first | exact rn_le_0 | apply rn_le_s | apply rn_le_x)) jq3
  · replace e2 := rn_ifn c5 e2
    refine rn_if_eq_f 23 (by exact dc_Md_isSymbol 2 rfl) (by exact rfl) c5 ?_
    refine rn_iload_n (by exact dc_Md_isSymbol 3 rfl) (by exact rfl) ?_
    by_cases c6 : v0 < 0
    · replace e2 := rn_ifp c6 e2
      refine rn_if_lt_t 23 (by exact dc_Md_isSymbol 4 rfl) (by exact rfl) c6 ?_
      refine rn_iconst (v := (0 : Int32)) (by exact dc_Md_isSymbol 11 rfl) (by decide) ?_
      cases e2
      exact rn_weak _ (by repeat (first | exact rn_le_0 | apply rn_le_s | apply rn_le_x)) jq3
    · replace e2 := rn_ifn c6 e2
      refine rn_if_lt_f 23 (by exact dc_Md_isSymbol 4 rfl) (by exact rfl) c6 ?_
      refine rn_iload_n (by exact dc_Md_isSymbol 5 rfl) (by exact rfl) ?_
      refine rn_aload_n (by exact dc_Md_isSymbol 6 rfl) (by exact rfl) ?_
      refine rn_getf (v := .int (M_symbols m)) fd_Md_99 (by exact dc_Md_isSymbol 7 rfl) (by exact rfl) (by exact rfl) ?_
      by_cases c7 : (M_symbols m) ≤ v0
      · replace e2 := rn_ifp c7 e2
        refine rn_icmp_ge_t 23 (by exact dc_Md_isSymbol 8 rfl) (by exact rfl) c7 ?_
        refine rn_iconst (v := (0 : Int32)) (by exact dc_Md_isSymbol 11 rfl) (by decide) ?_
        cases e2
        exact rn_weak _ (by repeat (first | exact rn_le_0 | apply rn_le_s | apply rn_le_x)) jq3
      · replace e2 := rn_ifn c7 e2
        refine rn_icmp_ge_f 23 (by exact dc_Md_isSymbol 8 rfl) (by exact rfl) c7 ?_
        refine rn_iconst (v := (1 : Int32)) (by exact dc_Md_isSymbol 9 rfl) (by decide) ?_
        refine rn_goto 24 (by exact dc_Md_isSymbol 10 rfl) (by exact rfl) ?_
        cases e2
        exact rn_weak _ (by repeat (first | exact rn_le_0 | apply rn_le_s | apply rn_le_x)) jq3
def F_Md_refusal (m : tM) (v0 : Int32) (v1 : Int32) (v2 : Int32) : Option Int32 :=
  Option.bind (F_Md_isSymbol m v0) fun x2 =>
  Option.bind (
    if ¬ x2 = 0 then (
      if (M_hasText m) = 0 then (
        some (2 : Int32)
      ) else (
        if v1 < 0 then (
          some (2 : Int32)
        ) else (
          if v2 < v1 then (
            some (2 : Int32)
          ) else (
            if v2 ≤ (M_letters m) then (
              some (0 : Int32)
            ) else (
              some (2 : Int32)
            )
          )
        )
      )
    ) else (
      some (1 : Int32)
    )
   : Option Int32) fun y4 =>
  some y4
set_option maxHeartbeats 4000000 in
set_option maxRecDepth 100000 in
theorem c_Md_refusal {Z : rn_Z} {g1 g2 : Nat} {x : tX} {d : tD} {c : tC} {u : tU} {t : tT} {a : tG} {b : tG} {m : tM} {o : tO} {E : List rn_C} {v0 : Int32} {v1 : Int32} {v2 : Int32} {res : Int32} (h : F_Md_refusal m v0 v1 v2 = some res) : Call Z M_Md_refusal [.ref 53, .int v0, .int v1, .int v2] (emb g1 g2 x d c u t a b m o E) 0 0 (some (.int res)) (emb g1 g2 x d c u t a b m o E) := by
  unfold F_Md_refusal at h
  refine rn_call (by decide) 0 (by exact Nat.le_of_ble_eq_true rfl) ?_
  show Rn Z M_Md_refusal 0 [some (.ref 53), some (.int v0), some (.int v1), some (.int v2)] [] (emb g1 g2 x d c u t a b m o E) 0 0 _
  refine rn_aload_n (by exact dc_Md_refusal 0 rfl) (by exact rfl) ?_
  refine rn_iload_n (by exact dc_Md_refusal 1 rfl) (by exact rfl) ?_
  obtain ⟨x2, e1, h3⟩ := rn_bind h
  clear h
  refine rn_invV0 (by exact c_Md_isSymbol e1) iv_Md_215 (by exact ⟨Nat.le_of_ble_eq_true rfl, Nat.le_of_ble_eq_true rfl⟩) (by exact dc_Md_refusal 2 rfl) (by exact rfl) (by exact rfl) (by exact rfl) (by exact Nat.le_of_ble_eq_true rfl) ?_
  show Rn _ _ 5 [some (.ref 53), some (.int v0), some (.int v1), some (.int v2)] [.int x2] (emb g1 g2 x d c u t a b m o E) _ _ _
  obtain ⟨y4, e5, h7⟩ := rn_bind h3
  clear h3
  have jq6 : Rn Z M_Md_refusal 41 [none, none, none, none] [.int y4] (emb g1 g2 x d c u t a b m o E) 0 0 (rn_Ret Z (some (.int res)) (emb g1 g2 x d c u t a b m o E)) := by
    cases h7
    exact rn_ireturn (by exact dc_Md_refusal 21 rfl) (by exact rfl)
  by_cases c8 : ¬ x2 = 0
  · replace e5 := rn_ifp c8 e5
    refine rn_if_ne_t 12 (by exact dc_Md_refusal 3 rfl) (by exact rfl) c8 ?_
    refine rn_aload_n (by exact dc_Md_refusal 6 rfl) (by exact rfl) ?_
    refine rn_getf (v := .int (M_hasText m)) fd_Md_172 (by exact dc_Md_refusal 7 rfl) (by exact rfl) (by exact rfl) ?_
    by_cases c9 : (M_hasText m) = 0
    · replace e5 := rn_ifp c9 e5
      refine rn_if_eq_t 36 (by exact dc_Md_refusal 8 rfl) (by exact rfl) c9 ?_
      refine rn_iconst (v := (2 : Int32)) (by exact dc_Md_refusal 18 rfl) (by decide) ?_
      refine rn_goto 41 (by exact dc_Md_refusal 19 rfl) (by exact rfl) ?_
      cases e5
      exact rn_weak _ (by repeat (first | exact rn_le_0 | apply rn_le_s | apply rn_le_x)) jq6
    · replace e5 := rn_ifn c9 e5
      refine rn_if_eq_f 36 (by exact dc_Md_refusal 8 rfl) (by exact rfl) c9 ?_
      refine rn_iload_n (by exact dc_Md_refusal 9 rfl) (by exact rfl) ?_
      by_cases c10 : v1 < 0
      · replace e5 := rn_ifp c10 e5
        refine rn_if_lt_t 36 (by exact dc_Md_refusal 10 rfl) (by exact rfl) c10 ?_
        refine rn_iconst (v := (2 : Int32)) (by exact dc_Md_refusal 18 rfl) (by decide) ?_
        refine rn_goto 41 (by exact dc_Md_refusal 19 rfl) (by exact rfl) ?_
        cases e5
        exact rn_weak _ (by repeat (first | exact rn_le_0 | apply rn_le_s | apply rn_le_x)) jq6
      · replace e5 := rn_ifn c10 e5
        refine rn_if_lt_f 36 (by exact dc_Md_refusal 10 rfl) (by exact rfl) c10 ?_
        refine rn_iload_n (by exact dc_Md_refusal 11 rfl) (by exact rfl) ?_
        refine rn_iload_n (by exact dc_Md_refusal 12 rfl) (by exact rfl) ?_
        by_cases c11 : v2 < v1
        · replace e5 := rn_ifp c11 e5
          refine rn_icmp_gt_t 36 (by exact dc_Md_refusal 13 rfl) (by exact rfl) c11 ?_
          refine rn_iconst (v := (2 : Int32)) (by exact dc_Md_refusal 18 rfl) (by decide) ?_
          refine rn_goto 41 (by exact dc_Md_refusal 19 rfl) (by exact rfl) ?_
          cases e5
          exact rn_weak _ (by repeat (first | exact rn_le_0 | apply rn_le_s | apply rn_le_x)) jq6
        · replace e5 := rn_ifn c11 e5
          refine rn_icmp_gt_f 36 (by exact dc_Md_refusal 13 rfl) (by exact rfl) c11 ?_
          refine rn_iload_n (by exact dc_Md_refusal 14 rfl) (by exact rfl) ?_
          refine rn_aload_n (by exact dc_Md_refusal 15 rfl) (by exact rfl) ?_
          refine rn_getf (v := .int (M_letters m)) fd_Md_198 (by exact dc_Md_refusal 16 rfl) (by exact rfl) (by exact rfl) ?_
          by_cases c12 : v2 ≤ (M_letters m)
          · replace e5 := rn_ifp c12 e5
            refine rn_icmp_le_t 40 (by exact dc_Md_refusal 17 rfl) (by exact rfl) c12 ?_
            refine rn_iconst (v := (0 : Int32)) (by exact dc_Md_refusal 20 rfl) (by decide) ?_
            cases e5
            exact rn_weak _ (by repeat (first | exact rn_le_0 | apply rn_le_s | apply rn_le_x)) jq6
          · replace e5 := rn_ifn c12 e5
            refine rn_icmp_le_f 40 (by exact dc_Md_refusal 17 rfl) (by exact rfl) c12 ?_
            refine rn_iconst (v := (2 : Int32)) (by exact dc_Md_refusal 18 rfl) (by decide) ?_
            refine rn_goto 41 (by exact dc_Md_refusal 19 rfl) (by exact rfl) ?_
            cases e5
            exact rn_weak _ (by repeat (first | exact rn_le_0 | apply rn_le_s | apply rn_le_x)) jq6
  · replace e5 := rn_ifn c8 e5
    refine rn_if_ne_f 12 (by exact dc_Md_refusal 3 rfl) (by exact rfl) (Classical.not_not.mp c8) ?_
    refine rn_iconst (v := (1 : Int32)) (by exact dc_Md_refusal 4 rfl) (by decide) ?_
    refine rn_goto 41 (by exact dc_Md_refusal 5 rfl) (by exact rfl) ?_
    cases e5
    exact rn_weak _ (by repeat (first | exact rn_le_0 | apply rn_le_s | apply rn_le_x)) jq6
def F_Md_count (m : tM) (v0 : Int32) : Option (Int32 × tM) :=
  if v0 < 0 then (
    some ((-1 : Int32), (M_put_code m (0 : Int32)))
  ) else (
    if (2 : Int32) < v0 then (
      some ((-1 : Int32), (M_put_code m (0 : Int32)))
    ) else (
      if (M_loaded (M_put_code m (0 : Int32))) = 0 then (
        some ((-1 : Int32), (M_put_code m (0 : Int32)))
      ) else (
        if ¬ v0 = (2 : Int32) then (
          Option.bind (
            if ¬ v0 = 0 then (
              if ¬ v0 = (1 : Int32) then (
                some (M_letters (M_put_code m (0 : Int32)) : Int32)
              ) else (
                some (M_symbols (M_put_code m (0 : Int32)) : Int32)
              )
            ) else (
              some (M_rules (M_put_code m (0 : Int32)) : Int32)
            )
           : Option Int32) fun y5 =>
          some (y5, (M_put_code m (0 : Int32)))
        ) else (
          if ¬ (M_hasText (M_put_code m (0 : Int32))) = 0 then (
            Option.bind (
              if ¬ v0 = 0 then (
                if ¬ v0 = (1 : Int32) then (
                  some (M_letters (M_put_code m (0 : Int32)) : Int32)
                ) else (
                  some (M_symbols (M_put_code m (0 : Int32)) : Int32)
                )
              ) else (
                some (M_rules (M_put_code m (0 : Int32)) : Int32)
              )
             : Option Int32) fun y12 =>
            some (y12, (M_put_code m (0 : Int32)))
          ) else (
            some ((-1 : Int32), (M_put_code m (0 : Int32)))
          )
        )
      )
    )
  )
set_option maxHeartbeats 4000000 in
set_option maxRecDepth 100000 in
theorem c_Md_count {Z : rn_Z} {g1 g2 : Nat} {x : tX} {d : tD} {c : tC} {u : tU} {t : tT} {a : tG} {b : tG} {m : tM} {o : tO} {E : List rn_C} {v0 : Int32} {res : Int32} {m_r : tM} (h : F_Md_count m v0 = some (res, m_r)) : Call Z M_Md_count [.ref 53, .int v0] (emb g1 g2 x d c u t a b m o E) 0 0 (some (.int res)) (emb g1 g2 x d c u t a b m_r o E) := by
  unfold F_Md_count at h
  refine rn_call (by decide) 0 (by exact Nat.le_of_ble_eq_true rfl) ?_
  show Rn Z M_Md_count 0 [some (.ref 53), some (.int v0)] [] (emb g1 g2 x d c u t a b m o E) 0 0 _
  refine rn_aload_n (by exact dc_Md_count 0 rfl) (by exact rfl) ?_
  refine rn_iconst (v := (0 : Int32)) (by exact dc_Md_count 1 rfl) (by decide) ?_
  refine rn_putf (w2 := (emb g1 g2 x d c u t a b (M_put_code m (0 : Int32)) o E)) fd_Md_77 (by exact dc_Md_count 2 rfl) (by exact rfl) (by exact rfl) (by exact Nat.le_of_ble_eq_true rfl) (by exact sm_code) ?_
  refine rn_iload_n (by exact dc_Md_count 3 rfl) (by exact rfl) ?_
  by_cases c1 : v0 < 0
  · replace h := rn_ifp c1 h
    refine rn_if_lt_t 33 (by exact dc_Md_count 4 rfl) (by exact rfl) c1 ?_
    refine rn_iconst (v := (-1 : Int32)) (by exact dc_Md_count 17 rfl) (by decide) ?_
    cases h
    exact rn_ireturn (by exact dc_Md_count 18 rfl) (by exact rfl)
  · replace h := rn_ifn c1 h
    refine rn_if_lt_f 33 (by exact dc_Md_count 4 rfl) (by exact rfl) c1 ?_
    refine rn_iload_n (by exact dc_Md_count 5 rfl) (by exact rfl) ?_
    refine rn_iconst (v := (2 : Int32)) (by exact dc_Md_count 6 rfl) (by decide) ?_
    by_cases c2 : (2 : Int32) < v0
    · replace h := rn_ifp c2 h
      refine rn_icmp_gt_t 33 (by exact dc_Md_count 7 rfl) (by exact rfl) c2 ?_
      refine rn_iconst (v := (-1 : Int32)) (by exact dc_Md_count 17 rfl) (by decide) ?_
      cases h
      exact rn_ireturn (by exact dc_Md_count 18 rfl) (by exact rfl)
    · replace h := rn_ifn c2 h
      refine rn_icmp_gt_f 33 (by exact dc_Md_count 7 rfl) (by exact rfl) c2 ?_
      refine rn_aload_n (by exact dc_Md_count 8 rfl) (by exact rfl) ?_
      refine rn_getf (v := .int (M_loaded (M_put_code m (0 : Int32)))) fd_Md_168 (by exact dc_Md_count 9 rfl) (by exact rfl) (by exact rfl) ?_
      by_cases c3 : (M_loaded (M_put_code m (0 : Int32))) = 0
      · replace h := rn_ifp c3 h
        refine rn_if_eq_t 33 (by exact dc_Md_count 10 rfl) (by exact rfl) c3 ?_
        refine rn_iconst (v := (-1 : Int32)) (by exact dc_Md_count 17 rfl) (by decide) ?_
        cases h
        exact rn_ireturn (by exact dc_Md_count 18 rfl) (by exact rfl)
      · replace h := rn_ifn c3 h
        refine rn_if_eq_f 33 (by exact dc_Md_count 10 rfl) (by exact rfl) c3 ?_
        refine rn_iload_n (by exact dc_Md_count 11 rfl) (by exact rfl) ?_
        refine rn_iconst (v := (2 : Int32)) (by exact dc_Md_count 12 rfl) (by decide) ?_
        by_cases c4 : ¬ v0 = (2 : Int32)
        · replace h := rn_ifp c4 h
          refine rn_icmp_ne_t 35 (by exact dc_Md_count 13 rfl) (by exact rfl) c4 ?_
          refine rn_iload_n (by exact dc_Md_count 19 rfl) (by exact rfl) ?_
          obtain ⟨y5, e6, h8⟩ := rn_bind h
          clear h
          have jq7 : Rn Z M_Md_count 62 [none, none] [.int y5] (emb g1 g2 x d c u t a b (M_put_code m (0 : Int32)) o E) 0 0 (rn_Ret Z (some (.int res)) (emb g1 g2 x d c u t a b m_r o E)) := by
            cases h8
            exact rn_ireturn (by exact dc_Md_count 32 rfl) (by exact rfl)
          by_cases c9 : ¬ v0 = 0
          · replace e6 := rn_ifp c9 e6
            refine rn_if_ne_t 46 (by exact dc_Md_count 20 rfl) (by exact rfl) c9 ?_
            refine rn_iload_n (by exact dc_Md_count 24 rfl) (by exact rfl) ?_
            refine rn_iconst (v := (1 : Int32)) (by exact dc_Md_count 25 rfl) (by decide) ?_
            by_cases c10 : ¬ v0 = (1 : Int32)
            · replace e6 := rn_ifp c10 e6
              refine rn_icmp_ne_t 58 (by exact dc_Md_count 26 rfl) (by exact rfl) c10 ?_
              refine rn_aload_n (by exact dc_Md_count 30 rfl) (by exact rfl) ?_
              refine rn_getf (v := .int (M_letters (M_put_code m (0 : Int32)))) fd_Md_198 (by exact dc_Md_count 31 rfl) (by exact rfl) (by exact rfl) ?_
              cases e6
              exact rn_weak _ (by repeat (first | exact rn_le_0 | apply rn_le_s | apply rn_le_x)) jq7
            · replace e6 := rn_ifn c10 e6
              refine rn_icmp_ne_f 58 (by exact dc_Md_count 26 rfl) (by exact rfl) (Classical.not_not.mp c10) ?_
              refine rn_aload_n (by exact dc_Md_count 27 rfl) (by exact rfl) ?_
              refine rn_getf (v := .int (M_symbols (M_put_code m (0 : Int32)))) fd_Md_99 (by exact dc_Md_count 28 rfl) (by exact rfl) (by exact rfl) ?_
              refine rn_goto 62 (by exact dc_Md_count 29 rfl) (by exact rfl) ?_
              cases e6
              exact rn_weak _ (by repeat (first | exact rn_le_0 | apply rn_le_s | apply rn_le_x)) jq7
          · replace e6 := rn_ifn c9 e6
            refine rn_if_ne_f 46 (by exact dc_Md_count 20 rfl) (by exact rfl) (Classical.not_not.mp c9) ?_
            refine rn_aload_n (by exact dc_Md_count 21 rfl) (by exact rfl) ?_
            refine rn_getf (v := .int (M_rules (M_put_code m (0 : Int32)))) fd_Md_115 (by exact dc_Md_count 22 rfl) (by exact rfl) (by exact rfl) ?_
            refine rn_goto 62 (by exact dc_Md_count 23 rfl) (by exact rfl) ?_
            cases e6
            exact rn_weak _ (by repeat (first | exact rn_le_0 | apply rn_le_s | apply rn_le_x)) jq7
        · replace h := rn_ifn c4 h
          refine rn_icmp_ne_f 35 (by exact dc_Md_count 13 rfl) (by exact rfl) (Classical.not_not.mp c4) ?_
          refine rn_aload_n (by exact dc_Md_count 14 rfl) (by exact rfl) ?_
          refine rn_getf (v := .int (M_hasText (M_put_code m (0 : Int32)))) fd_Md_172 (by exact dc_Md_count 15 rfl) (by exact rfl) (by exact rfl) ?_
          by_cases c11 : ¬ (M_hasText (M_put_code m (0 : Int32))) = 0
          · replace h := rn_ifp c11 h
            refine rn_if_ne_t 35 (by exact dc_Md_count 16 rfl) (by exact rfl) c11 ?_
            refine rn_iload_n (by exact dc_Md_count 19 rfl) (by exact rfl) ?_
            obtain ⟨y12, e13, h15⟩ := rn_bind h
            clear h
            have jq14 : Rn Z M_Md_count 62 [none, none] [.int y12] (emb g1 g2 x d c u t a b (M_put_code m (0 : Int32)) o E) 0 0 (rn_Ret Z (some (.int res)) (emb g1 g2 x d c u t a b m_r o E)) := by
              cases h15
              exact rn_ireturn (by exact dc_Md_count 32 rfl) (by exact rfl)
            by_cases c16 : ¬ v0 = 0
            · replace e13 := rn_ifp c16 e13
              refine rn_if_ne_t 46 (by exact dc_Md_count 20 rfl) (by exact rfl) c16 ?_
              refine rn_iload_n (by exact dc_Md_count 24 rfl) (by exact rfl) ?_
              refine rn_iconst (v := (1 : Int32)) (by exact dc_Md_count 25 rfl) (by decide) ?_
              by_cases c17 : ¬ v0 = (1 : Int32)
              · replace e13 := rn_ifp c17 e13
                refine rn_icmp_ne_t 58 (by exact dc_Md_count 26 rfl) (by exact rfl) c17 ?_
                refine rn_aload_n (by exact dc_Md_count 30 rfl) (by exact rfl) ?_
                refine rn_getf (v := .int (M_letters (M_put_code m (0 : Int32)))) fd_Md_198 (by exact dc_Md_count 31 rfl) (by exact rfl) (by exact rfl) ?_
                cases e13
                exact rn_weak _ (by repeat (first | exact rn_le_0 | apply rn_le_s | apply rn_le_x)) jq14
              · replace e13 := rn_ifn c17 e13
                refine rn_icmp_ne_f 58 (by exact dc_Md_count 26 rfl) (by exact rfl) (Classical.not_not.mp c17) ?_
                refine rn_aload_n (by exact dc_Md_count 27 rfl) (by exact rfl) ?_
                refine rn_getf (v := .int (M_symbols (M_put_code m (0 : Int32)))) fd_Md_99 (by exact dc_Md_count 28 rfl) (by exact rfl) (by exact rfl) ?_
                refine rn_goto 62 (by exact dc_Md_count 29 rfl) (by exact rfl) ?_
                cases e13
                exact rn_weak _ (by repeat (first | exact rn_le_0 | apply rn_le_s | apply rn_le_x)) jq14
            · replace e13 := rn_ifn c16 e13
              refine rn_if_ne_f 46 (by exact dc_Md_count 20 rfl) (by exact rfl) (Classical.not_not.mp c16) ?_
              refine rn_aload_n (by exact dc_Md_count 21 rfl) (by exact rfl) ?_
              refine rn_getf (v := .int (M_rules (M_put_code m (0 : Int32)))) fd_Md_115 (by exact dc_Md_count 22 rfl) (by exact rfl) (by exact rfl) ?_
              refine rn_goto 62 (by exact dc_Md_count 23 rfl) (by exact rfl) ?_
              cases e13
              exact rn_weak _ (by repeat (first | exact rn_le_0 | apply rn_le_s | apply rn_le_x)) jq14
          · replace h := rn_ifn c11 h
            refine rn_if_ne_f 35 (by exact dc_Md_count 16 rfl) (by exact rfl) (Classical.not_not.mp c11) ?_
            refine rn_iconst (v := (-1 : Int32)) (by exact dc_Md_count 17 rfl) (by decide) ?_
            cases h
            exact rn_ireturn (by exact dc_Md_count 18 rfl) (by exact rfl)
