set_option maxHeartbeats 4000000 in
set_option maxRecDepth 100000 in
theorem c_Rd_init {Z : rn_Z} {g1 g2 : Nat} {x : tX} {d : tD} {c : tC} {u : tU} {t : tT} {a : tG} {b : tG} {m : tM} {o : tO} : Call Z M_Rd_init [.ref 77, .ref 2, .ref 44] (emb g1 g2 x d c u t a b m o [rd_raw]) 0 0 none (emb g1 g2 x d c u t a b m o [rd_cell ((0 : Int32), (-1 : Int32))]) := by
  refine rn_call (by decide) 0 (by exact Nat.le_of_ble_eq_true rfl) ?_
  show Rn Z M_Rd_init 0 [some (.ref 77), some (.ref 2), some (.ref 44)] [] (emb g1 g2 x d c u t a b m o [rd_raw]) 0 0 _
  refine rn_aload_n (by exact dc_Rd_init 0 rfl) (by exact rfl) ?_
  refine rn_objInit oi_Rd_3 oi_1 oi_2 (by exact dc_Rd_init 1 rfl) (by decide) (by decide) ?_
  refine rn_aload_n (by exact dc_Rd_init 2 rfl) (by exact rfl) ?_
  refine rn_aload_n (by exact dc_Rd_init 3 rfl) (by exact rfl) ?_
  refine rn_putF (w2 := (emb g1 g2 x d c u t a b m o [rn_o 6 [.ref 2, .null, .int 0, .int 0]])) ff_Rd_9 (by exact rfl) (by exact dc_Rd_init 4 rfl) (by exact rfl) (by exact rfl) (by exact Nat.le_of_ble_eq_true rfl) (by exact rfl) ?_
  refine rn_aload_n (by exact dc_Rd_init 5 rfl) (by exact rfl) ?_
  refine rn_aload_n (by exact dc_Rd_init 6 rfl) (by exact rfl) ?_
  refine rn_putF (w2 := (emb g1 g2 x d c u t a b m o [rn_o 6 [.ref 2, .ref 44, .int 0, .int 0]])) ff_Rd_15 (by exact rfl) (by exact dc_Rd_init 7 rfl) (by exact rfl) (by exact rfl) (by exact Nat.le_of_ble_eq_true rfl) (by exact rfl) ?_
  refine rn_aload_n (by exact dc_Rd_init 8 rfl) (by exact rfl) ?_
  refine rn_iconst (v := (0 : Int32)) (by exact dc_Rd_init 9 rfl) (by decide) ?_
  refine rn_putf (w2 := (emb g1 g2 x d c u t a b m o [rn_o 6 [.ref 2, .ref 44, .int 0, .int 0]])) fd_Rd_19 (by exact dc_Rd_init 10 rfl) (by exact rfl) (by exact rfl) (by exact Nat.le_of_ble_eq_true rfl) (by exact rfl) ?_
  refine rn_aload_n (by exact dc_Rd_init 11 rfl) (by exact rfl) ?_
  refine rn_iconst (v := (-1 : Int32)) (by exact dc_Rd_init 12 rfl) (by decide) ?_
  refine rn_putf (w2 := (emb g1 g2 x d c u t a b m o [rn_o 6 [.ref 2, .ref 44, .int 0, .int (-1)]])) fd_Rd_23 (by exact dc_Rd_init 13 rfl) (by exact rfl) (by exact rfl) (by exact Nat.le_of_ble_eq_true rfl) (by exact rfl) ?_
  exact rn_return (by exact dc_Rd_init 14 rfl) (by exact rfl)
def F_Dr_clear (d : tD)  : Option tD :=
  some (D_characters d, (0 : Int32))
set_option maxHeartbeats 4000000 in
set_option maxRecDepth 100000 in
theorem c_Dr_clear {Z : rn_Z} {g1 g2 : Nat} {x : tX} {d : tD} {c : tC} {u : tU} {t : tT} {a : tG} {b : tG} {m : tM} {o : tO} {E : List rn_C}  {d_r : tD} (h : F_Dr_clear d  = some d_r) : Call Z M_Dr_clear [.ref 2] (emb g1 g2 x d c u t a b m o E) 0 0 none (emb g1 g2 x d_r c u t a b m o E) := by
  unfold F_Dr_clear at h
  refine rn_call (by decide) 0 (by exact Nat.le_of_ble_eq_true rfl) ?_
  show Rn Z M_Dr_clear 0 [some (.ref 2)] [] (emb g1 g2 x d c u t a b m o E) 0 0 _
  refine rn_aload_n (by exact dc_Dr_clear 0 rfl) (by exact rfl) ?_
  refine rn_iconst (v := (0 : Int32)) (by exact dc_Dr_clear 1 rfl) (by decide) ?_
  refine rn_putf (w2 := (emb g1 g2 x (D_characters d, (0 : Int32)) c u t a b m o E)) fd_Dr_15 (by exact dc_Dr_clear 2 rfl) (by exact rfl) (by exact rfl) (by exact Nat.le_of_ble_eq_true rfl) (by exact rfl) ?_
  cases h
  exact rn_return (by exact dc_Dr_clear 3 rfl) (by exact rfl)
def F_Dr_codeAt (v0 : Int64) (v1 : Int32) : Option Int32 :=
  some ((((v0.toUInt64 >>> (((8 : Int32) * v1).toInt64.toUInt64 &&& Int64.toUInt64 63)).toInt64) &&& (255 : Int64)).toInt32)
set_option maxHeartbeats 4000000 in
set_option maxRecDepth 100000 in
theorem c_Dr_codeAt {Z : rn_Z} {g1 g2 : Nat} {x : tX} {d : tD} {c : tC} {u : tU} {t : tT} {a : tG} {b : tG} {m : tM} {o : tO} {E : List rn_C} {v0 : Int64} {v1 : Int32} {res : Int32} (h : F_Dr_codeAt  v0 v1 = some res) : Call Z M_Dr_codeAt [.long v0, .int v1] (emb g1 g2 x d c u t a b m o E) 0 0 (some (.int res)) (emb g1 g2 x d c u t a b m o E) := by
  unfold F_Dr_codeAt at h
  refine rn_call (by decide) 0 (by exact Nat.le_of_ble_eq_true rfl) ?_
  show Rn Z M_Dr_codeAt 0 [some (.long v0), none, some (.int v1)] [] (emb g1 g2 x d c u t a b m o E) 0 0 _
  refine rn_lload_n (by exact dc_Dr_codeAt 0 rfl) (by exact rfl) ?_
  refine rn_bipush (v := (8 : Int32)) (by exact dc_Dr_codeAt 1 rfl) (by decide) ?_
  refine rn_iload_n (by exact dc_Dr_codeAt 2 rfl) (by exact rfl) ?_
  refine rn_imul (by exact dc_Dr_codeAt 3 rfl) ?_
  refine rn_lushr (by exact dc_Dr_codeAt 4 rfl) ?_
  refine rn_ldc2 (v := (255 : Int64)) (by exact dc_Dr_codeAt 5 rfl) kl_Dr_30 ?_
  refine rn_land (by exact dc_Dr_codeAt 6 rfl) ?_
  refine rn_l2i (by exact dc_Dr_codeAt 7 rfl) ?_
  cases h
  exact rn_ireturn (by exact dc_Dr_codeAt 8 rfl) (by exact rfl)
def F_Dr_isAllowed (v0 : Int32) : Option Int32 :=
  Option.bind (
    if v0 = (10 : Int32) then (
      some (1 : Int32)
    ) else (
      if v0 < (32 : Int32) then (
        some (0 : Int32)
      ) else (
        if (126 : Int32) < v0 then (
          some (0 : Int32)
        ) else (
          some (1 : Int32)
        )
      )
    )
   : Option Int32) fun y1 =>
  Option.bind (rn_bl y1) fun y8 =>
  some y8
set_option maxHeartbeats 4000000 in
set_option maxRecDepth 100000 in
theorem c_Dr_isAllowed {Z : rn_Z} {g1 g2 : Nat} {x : tX} {d : tD} {c : tC} {u : tU} {t : tT} {a : tG} {b : tG} {m : tM} {o : tO} {E : List rn_C} {v0 : Int32} {res : Int32} (h : F_Dr_isAllowed  v0 = some res) : Call Z M_Dr_isAllowed [.int v0] (emb g1 g2 x d c u t a b m o E) 0 0 (some (.int res)) (emb g1 g2 x d c u t a b m o E) := by
  unfold F_Dr_isAllowed at h
  refine rn_call (by decide) 0 (by exact Nat.le_of_ble_eq_true rfl) ?_
  show Rn Z M_Dr_isAllowed 0 [some (.int v0)] [] (emb g1 g2 x d c u t a b m o E) 0 0 _
  refine rn_iload_n (by exact dc_Dr_isAllowed 0 rfl) (by exact rfl) ?_
  refine rn_bipush (v := (10 : Int32)) (by exact dc_Dr_isAllowed 1 rfl) (by decide) ?_
  obtain ⟨y1, e2, h4⟩ := rn_bind h
  clear h
  have jq3 : Rn Z M_Dr_isAllowed 23 [none] [.int y1] (emb g1 g2 x d c u t a b m o E) 0 0 (rn_Ret Z (some (.int res)) (emb g1 g2 x d c u t a b m o E)) := by
    obtain ⟨y8, e9, h11⟩ := rn_bind h4
    clear h4
    obtain ⟨rfl, hb10⟩ := rn_bl_some e9
    cases h11
    exact rn_zreturn (by exact dc_Dr_isAllowed 12 rfl) (by exact rfl) hb10
  by_cases c5 : v0 = (10 : Int32)
  · replace e2 := rn_ifp c5 e2
    refine rn_icmp_eq_t 18 (by exact dc_Dr_isAllowed 2 rfl) (by exact rfl) c5 ?_
    refine rn_iconst (v := (1 : Int32)) (by exact dc_Dr_isAllowed 9 rfl) (by decide) ?_
    refine rn_goto 23 (by exact dc_Dr_isAllowed 10 rfl) (by exact rfl) ?_
    cases e2
    exact rn_weak _ (by repeat (first | exact rn_le_0 | apply rn_le_s | apply rn_le_x)) jq3
  · replace e2 := rn_ifn c5 e2
    refine rn_icmp_eq_f 18 (by exact dc_Dr_isAllowed 2 rfl) (by exact rfl) c5 ?_
    refine rn_iload_n (by exact dc_Dr_isAllowed 3 rfl) (by exact rfl) ?_
    refine rn_bipush (v := (32 : Int32)) (by exact dc_Dr_isAllowed 4 rfl) (by decide) ?_
    by_cases c6 : v0 < (32 : Int32)
    · replace e2 := rn_ifp c6 e2
      refine rn_icmp_lt_t 22 (by exact dc_Dr_isAllowed 5 rfl) (by exact rfl) c6 ?_
      refine rn_iconst (v := (0 : Int32)) (by exact dc_Dr_isAllowed 11 rfl) (by decide) ?_
      cases e2
      exact rn_weak _ (by repeat (first | exact rn_le_0 | apply rn_le_s | apply rn_le_x)) jq3
    · replace e2 := rn_ifn c6 e2
      refine rn_icmp_lt_f 22 (by exact dc_Dr_isAllowed 5 rfl) (by exact rfl) c6 ?_
      refine rn_iload_n (by exact dc_Dr_isAllowed 6 rfl) (by exact rfl) ?_
      refine rn_bipush (v := (126 : Int32)) (by exact dc_Dr_isAllowed 7 rfl) (by decide) ?_
      by_cases c7 : (126 : Int32) < v0
      · replace e2 := rn_ifp c7 e2
        refine rn_icmp_gt_t 22 (by exact dc_Dr_isAllowed 8 rfl) (by exact rfl) c7 ?_
        refine rn_iconst (v := (0 : Int32)) (by exact dc_Dr_isAllowed 11 rfl) (by decide) ?_
        cases e2
        exact rn_weak _ (by repeat (first | exact rn_le_0 | apply rn_le_s | apply rn_le_x)) jq3
      · replace e2 := rn_ifn c7 e2
        refine rn_icmp_gt_f 22 (by exact dc_Dr_isAllowed 8 rfl) (by exact rfl) c7 ?_
        refine rn_iconst (v := (1 : Int32)) (by exact dc_Dr_isAllowed 9 rfl) (by decide) ?_
        refine rn_goto 23 (by exact dc_Dr_isAllowed 10 rfl) (by exact rfl) ?_
        cases e2
        exact rn_weak _ (by repeat (first | exact rn_le_0 | apply rn_le_s | apply rn_le_x)) jq3
def F_Dr_append_L28 (d : tD) (l1 : Int32) (l2 : Int64) : Nat → Int32 → Option ((Int32 × tD) ⊕ Unit)
  | 0, _ => none
  | n + 1, l4 =>
    if l1 ≤ l4 then (
      some (.inr ())
    ) else (
      Option.bind (F_Dr_codeAt  l2 l4) fun x3 =>
      Option.bind (F_Dr_isAllowed  x3) fun x6 =>
      if ¬ x6 = 0 then (
        F_Dr_append_L28 d l1 l2 n (l4 + 1)
      ) else (
        some (.inl ((0 : Int32), d))
      )
    )
set_option maxHeartbeats 4000000 in
set_option maxRecDepth 100000 in
theorem p_Dr_append_L28 {Z : rn_Z} {g1 g2 : Nat} {x : tX} {d : tD} {c : tC} {u : tU} {t : tT} {a : tG} {b : tG} {m : tM} {o : tO} {E : List rn_C}  {l1 : Int32} {l2 : Int64} {K : rn_K} {ca sa : Nat} {out : ((Int32 × tD) ⊕ Unit)} (hx : out = .inr () → Rn Z M_Dr_append 54 [some (.ref 2), some (.int l1), some (.long l2), none, none] [] (emb g1 g2 x d c u t a b m o E) ca sa K) (hr : ∀ (rv : Int32) (dw : tD), out = .inl (rv, dw) → K = rn_Ret Z (some (.int rv)) (emb g1 g2 x dw c u t a b m o E)) (n : Nat) : ∀ (l4 : Int32), F_Dr_append_L28 d l1 l2 n l4 = some out → Rn Z M_Dr_append 28 [some (.ref 2), some (.int l1), some (.long l2), none, some (.int l4)] [] (emb g1 g2 x d c u t a b m o E) ca sa K := by
  induction n with
  | zero =>
    intro l4 h
    rw [F_Dr_append_L28] at h
    cases h
  | succ n ih =>
    intro l4 h
    rw [F_Dr_append_L28] at h
    refine rn_iload (by exact dc_Dr_append 16 rfl) (by exact rfl) ?_
    refine rn_iload_n (by exact dc_Dr_append 17 rfl) (by exact rfl) ?_
    by_cases c1 : l1 ≤ l4
    · replace h := rn_ifp c1 h
      refine rn_icmp_ge_t 54 (by exact dc_Dr_append 18 rfl) (by exact rfl) c1 ?_
      cases h
      exact rn_weak _ (by repeat (first | exact rn_le_0 | apply rn_le_s | apply rn_le_x)) (hx rfl)
    · replace h := rn_ifn c1 h
      refine rn_icmp_ge_f 54 (by exact dc_Dr_append 18 rfl) (by exact rfl) c1 ?_
      refine rn_lload_n (by exact dc_Dr_append 19 rfl) (by exact rfl) ?_
      refine rn_iload (by exact dc_Dr_append 20 rfl) (by exact rfl) ?_
      obtain ⟨x3, e2, h4⟩ := rn_bind h
      clear h
      refine rn_invS0 (by exact c_Dr_codeAt e2) is_Dr_19 (by exact ⟨Nat.le_of_ble_eq_true rfl, Nat.le_of_ble_eq_true rfl⟩) (by exact dc_Dr_append 21 rfl) (by exact rfl) (by exact rfl) (by exact Nat.le_of_ble_eq_true rfl) ?_
      show Rn _ _ 40 [some (.ref 2), some (.int l1), some (.long l2), none, some (.int l4)] [.int x3] (emb g1 g2 x d c u t a b m o E) _ _ _
      obtain ⟨x6, e5, h7⟩ := rn_bind h4
      clear h4
      refine rn_invS0 (by exact c_Dr_isAllowed e5) is_Dr_23 (by exact ⟨Nat.le_of_ble_eq_true rfl, Nat.le_of_ble_eq_true rfl⟩) (by exact dc_Dr_append 22 rfl) (by exact rfl) (by exact rfl) (by exact Nat.le_of_ble_eq_true rfl) ?_
      show Rn _ _ 43 [some (.ref 2), some (.int l1), some (.long l2), none, some (.int l4)] [.int x6] (emb g1 g2 x d c u t a b m o E) _ _ _
      by_cases c8 : ¬ x6 = 0
      · replace h7 := rn_ifp c8 h7
        refine rn_if_ne_t 48 (by exact dc_Dr_append 23 rfl) (by exact rfl) c8 ?_
        refine rn_iinc (ls' := [some (.ref 2), some (.int l1), some (.long l2), none, some (.int (l4 + 1))]) (by exact dc_Dr_append 26 rfl) (by decide) (by exact rfl) (by exact rn_inc_1 _) (by exact rfl) ?_
        refine rn_goto 28 (by exact dc_Dr_append 27 rfl) (by exact rfl) ?_
        exact rn_weak _ (by repeat (first | exact rn_le_0 | apply rn_le_s | apply rn_le_x)) (ih _ h7)
      · replace h7 := rn_ifn c8 h7
        refine rn_if_ne_f 48 (by exact dc_Dr_append 23 rfl) (by exact rfl) (Classical.not_not.mp c8) ?_
        refine rn_iconst (v := (0 : Int32)) (by exact dc_Dr_append 24 rfl) (by decide) ?_
        cases h7
        have hK := hr _ _ rfl
        subst hK
        exact rn_zreturn (by exact dc_Dr_append 25 rfl) (by exact rfl) (by first | exact Or.inl rfl | exact Or.inr rfl)
def F_Dr_append_L59 (l2 : Int64) : Nat → tD → Int32 → Option tD
  | 0, _, _ => none
  | n + 1, d, l4 =>
    if l4 < 0 then (
      some d
    ) else (
      Option.bind (F_Dr_codeAt  l2 l4) fun x3 =>
      Option.bind (aS (D_characters d) 300 (D_length d) (rn_ch ((x3.toUInt32 % 65536).toInt32))) fun f5 =>
      F_Dr_append_L59 l2 n (f5, (D_length d) + (1 : Int32)) (l4 + (-1))
    )
set_option maxHeartbeats 4000000 in
set_option maxRecDepth 100000 in
theorem p_Dr_append_L59 {Z : rn_Z} {g1 g2 : Nat} {x : tX}  {c : tC} {u : tU} {t : tT} {a : tG} {b : tG} {m : tM} {o : tO} {E : List rn_C}  {l2 : Int64} {K : rn_K} {ca sa : Nat} {dz : tD} (hx : Rn Z M_Dr_append 96 [none, none, none, none, none] [] (emb g1 g2 x dz c u t a b m o E) ca sa K) (n : Nat) : ∀ (d : tD) (l4 : Int32), F_Dr_append_L59 l2 n d l4 = some dz → Rn Z M_Dr_append 59 [some (.ref 2), none, some (.long l2), none, some (.int l4)] [] (emb g1 g2 x d c u t a b m o E) ca sa K := by
  induction n with
  | zero =>
    intro d l4 h
    rw [F_Dr_append_L59] at h
    cases h
  | succ n ih =>
    intro d l4 h
    rw [F_Dr_append_L59] at h
    refine rn_iload (by exact dc_Dr_append 32 rfl) (by exact rfl) ?_
    by_cases c1 : l4 < 0
    · replace h := rn_ifp c1 h
      refine rn_if_lt_t 96 (by exact dc_Dr_append 33 rfl) (by exact rfl) c1 ?_
      cases h
      exact rn_weak _ (by repeat (first | exact rn_le_0 | apply rn_le_s | apply rn_le_x)) hx
    · replace h := rn_ifn c1 h
      refine rn_if_lt_f 96 (by exact dc_Dr_append 33 rfl) (by exact rfl) c1 ?_
      refine rn_aload_n (by exact dc_Dr_append 34 rfl) (by exact rfl) ?_
      refine rn_getf (v := .ref 3) fd_Dr_9 (by exact dc_Dr_append 35 rfl) (by exact rfl) (by exact rfl) ?_
      refine rn_aload_n (by exact dc_Dr_append 36 rfl) (by exact rfl) ?_
      refine rn_getf (v := .int (D_length d)) fd_Dr_15 (by exact dc_Dr_append 37 rfl) (by exact rfl) (by exact rfl) ?_
      refine rn_lload_n (by exact dc_Dr_append 38 rfl) (by exact rfl) ?_
      refine rn_iload (by exact dc_Dr_append 39 rfl) (by exact rfl) ?_
      obtain ⟨x3, e2, h4⟩ := rn_bind h
      clear h
      refine rn_invS0 (by exact c_Dr_codeAt e2) is_Dr_19 (by exact ⟨Nat.le_of_ble_eq_true rfl, Nat.le_of_ble_eq_true rfl⟩) (by exact dc_Dr_append 40 rfl) (by exact rfl) (by exact rfl) (by exact Nat.le_of_ble_eq_true rfl) ?_
      show Rn _ _ 78 [some (.ref 2), none, some (.long l2), none, some (.int l4)] [.int x3, .int (D_length d), .ref 3] (emb g1 g2 x d c u t a b m o E) _ _ _
      refine rn_i2c (by exact dc_Dr_append 41 rfl) ?_
      obtain ⟨f5, e6, h7⟩ := rn_bind h4
      clear h4
      refine rn_castore (w2 := (emb g1 g2 x (f5, D_length d) c u t a b m o E)) (by exact dc_Dr_append 42 rfl) (by exact rfl) e6 (by exact rfl) ?_
      refine rn_aload_n (by exact dc_Dr_append 43 rfl) (by exact rfl) ?_
      refine rn_dup (by exact dc_Dr_append 44 rfl) (by exact rfl) ?_
      refine rn_getf (v := .int (D_length d)) fd_Dr_15 (by exact dc_Dr_append 45 rfl) (by exact rfl) (by exact rfl) ?_
      refine rn_iconst (v := (1 : Int32)) (by exact dc_Dr_append 46 rfl) (by decide) ?_
      refine rn_iadd (by exact dc_Dr_append 47 rfl) ?_
      refine rn_putf (w2 := (emb g1 g2 x (f5, (D_length d) + (1 : Int32)) c u t a b m o E)) fd_Dr_15 (by exact dc_Dr_append 48 rfl) (by exact rfl) (by exact rfl) (by exact Nat.le_of_ble_eq_true rfl) (by exact rfl) ?_
      refine rn_iinc (ls' := [some (.ref 2), none, some (.long l2), none, some (.int (l4 + (-1)))]) (by exact dc_Dr_append 49 rfl) (by decide) (by exact rfl) (by exact rn_inc_m1 _) (by exact rfl) ?_
      refine rn_goto 59 (by exact dc_Dr_append 50 rfl) (by exact rfl) ?_
      exact rn_weak _ (by repeat (first | exact rn_le_0 | apply rn_le_s | apply rn_le_x)) (ih _ _ h7)
def F_Dr_append (d : tD) (v0 : Int32) (v1 : Int64) : Option (Int32 × tD) :=
  if v0 < (1 : Int32) then (
    some ((0 : Int32), d)
  ) else (
    if (8 : Int32) < v0 then (
      some ((0 : Int32), d)
    ) else (
      if ((D_length d) + v0) ≤ (300 : Int32) then (
        Option.bind (F_Dr_append_L28 d v0 v1 rn_fu (0 : Int32)) fun z12 =>
        match z12 with
        | .inl r11 => some r11
        | .inr _ =>
          Option.bind (F_Dr_append_L59 v1 rn_fu d (v0 - (1 : Int32))) fun d10 =>
          some ((1 : Int32), d10)
      ) else (
        some ((0 : Int32), d)
      )
    )
  )
set_option maxHeartbeats 4000000 in
set_option maxRecDepth 100000 in
theorem c_Dr_append {Z : rn_Z} {g1 g2 : Nat} {x : tX} {d : tD} {c : tC} {u : tU} {t : tT} {a : tG} {b : tG} {m : tM} {o : tO} {E : List rn_C} {v0 : Int32} {v1 : Int64} {res : Int32} {d_r : tD} (h : F_Dr_append d v0 v1 = some (res, d_r)) : Call Z M_Dr_append [.ref 2, .int v0, .long v1] (emb g1 g2 x d c u t a b m o E) 0 0 (some (.int res)) (emb g1 g2 x d_r c u t a b m o E) := by
  unfold F_Dr_append at h
  refine rn_call (by decide) 1 (by exact Nat.le_of_ble_eq_true rfl) ?_
  show Rn Z M_Dr_append 0 [some (.ref 2), some (.int v0), some (.long v1), none, none] [] (emb g1 g2 x d c u t a b m o E) 0 0 _
  refine rn_iload_n (by exact dc_Dr_append 0 rfl) (by exact rfl) ?_
  refine rn_iconst (v := (1 : Int32)) (by exact dc_Dr_append 1 rfl) (by decide) ?_
  by_cases c1 : v0 < (1 : Int32)
  · replace h := rn_ifp c1 h
    refine rn_icmp_lt_t 23 (by exact dc_Dr_append 2 rfl) (by exact rfl) c1 ?_
    refine rn_iconst (v := (0 : Int32)) (by exact dc_Dr_append 12 rfl) (by decide) ?_
    cases h
    exact rn_zreturn (by exact dc_Dr_append 13 rfl) (by exact rfl) (by first | exact Or.inl rfl | exact Or.inr rfl)
  · replace h := rn_ifn c1 h
    refine rn_icmp_lt_f 23 (by exact dc_Dr_append 2 rfl) (by exact rfl) c1 ?_
    refine rn_iload_n (by exact dc_Dr_append 3 rfl) (by exact rfl) ?_
    refine rn_bipush (v := (8 : Int32)) (by exact dc_Dr_append 4 rfl) (by decide) ?_
    by_cases c2 : (8 : Int32) < v0
    · replace h := rn_ifp c2 h
      refine rn_icmp_gt_t 23 (by exact dc_Dr_append 5 rfl) (by exact rfl) c2 ?_
      refine rn_iconst (v := (0 : Int32)) (by exact dc_Dr_append 12 rfl) (by decide) ?_
      cases h
      exact rn_zreturn (by exact dc_Dr_append 13 rfl) (by exact rfl) (by first | exact Or.inl rfl | exact Or.inr rfl)
    · replace h := rn_ifn c2 h
      refine rn_icmp_gt_f 23 (by exact dc_Dr_append 5 rfl) (by exact rfl) c2 ?_
      refine rn_aload_n (by exact dc_Dr_append 6 rfl) (by exact rfl) ?_
      refine rn_getf (v := .int (D_length d)) fd_Dr_15 (by exact dc_Dr_append 7 rfl) (by exact rfl) (by exact rfl) ?_
      refine rn_iload_n (by exact dc_Dr_append 8 rfl) (by exact rfl) ?_
      refine rn_iadd (by exact dc_Dr_append 9 rfl) ?_
      refine rn_sipush (v := (300 : Int32)) (by exact dc_Dr_append 10 rfl) (by decide) ?_
      by_cases c3 : ((D_length d) + v0) ≤ (300 : Int32)
      · replace h := rn_ifp c3 h
        refine rn_icmp_le_t 25 (by exact dc_Dr_append 11 rfl) (by exact rfl) c3 ?_
        refine rn_iconst (v := (0 : Int32)) (by exact dc_Dr_append 14 rfl) (by decide) ?_
        refine rn_istore (ls' := [some (.ref 2), some (.int v0), some (.long v1), none, some (.int (0 : Int32))]) (by exact dc_Dr_append 15 rfl) (by decide) (by exact rfl) ?_
        obtain ⟨z12, e4, h6⟩ := rn_bind h
        clear h
        rcases z12 with ⟨w13, w14⟩ | _
        · dsimp only at h6
          cases h6
          exact rn_weak _ (by repeat (first | exact rn_le_0 | apply rn_le_s | apply rn_le_x)) (p_Dr_append_L28 (fun q => by cases q) (fun _ _ q => by cases q; rfl) _ _ e4)
        · dsimp only at h6
          have jx5 : Rn Z M_Dr_append 54 [some (.ref 2), some (.int v0), some (.long v1), none, none] [] (emb g1 g2 x d c u t a b m o E) 0 0 (rn_Ret Z (some (.int res)) (emb g1 g2 x d_r c u t a b m o E)) := by
            refine rn_iload_n (by exact dc_Dr_append 28 rfl) (by exact rfl) ?_
            refine rn_iconst (v := (1 : Int32)) (by exact dc_Dr_append 29 rfl) (by decide) ?_
            refine rn_isub (by exact dc_Dr_append 30 rfl) ?_
            refine rn_istore (ls' := [some (.ref 2), some (.int v0), some (.long v1), none, some (.int (v0 - (1 : Int32)))]) (by exact dc_Dr_append 31 rfl) (by decide) (by exact rfl) ?_
            obtain ⟨d10, e7, h9⟩ := rn_bind h6
            clear h6
            have jx8 : Rn Z M_Dr_append 96 [none, none, none, none, none] [] (emb g1 g2 x d10 c u t a b m o E) 0 0 (rn_Ret Z (some (.int res)) (emb g1 g2 x d_r c u t a b m o E)) := by
              refine rn_iconst (v := (1 : Int32)) (by exact dc_Dr_append 51 rfl) (by decide) ?_
              cases h9
              exact rn_zreturn (by exact dc_Dr_append 52 rfl) (by exact rfl) (by first | exact Or.inl rfl | exact Or.inr rfl)
            exact rn_weak _ (by repeat (first | exact rn_le_0 | apply rn_le_s | apply rn_le_x)) (p_Dr_append_L59 jx8 _ _ _ e7)
          exact rn_weak _ (by repeat (first | exact rn_le_0 | apply rn_le_s | apply rn_le_x)) (p_Dr_append_L28 (fun q => by cases q; exact jx5) (fun _ _ q => by cases q) _ _ e4)
      · replace h := rn_ifn c3 h
        refine rn_icmp_le_f 25 (by exact dc_Dr_append 11 rfl) (by exact rfl) c3 ?_
        refine rn_iconst (v := (0 : Int32)) (by exact dc_Dr_append 12 rfl) (by decide) ?_
        cases h
        exact rn_zreturn (by exact dc_Dr_append 13 rfl) (by exact rfl) (by first | exact Or.inl rfl | exact Or.inr rfl)
def F_Wt_isSmallLetter (v0 : Int32) : Option Int32 :=
  Option.bind (
    if v0 < (97 : Int32) then (
      some (0 : Int32)
    ) else (
      if (122 : Int32) < v0 then (
        some (0 : Int32)
      ) else (
        some (1 : Int32)
      )
    )
   : Option Int32) fun y1 =>
  Option.bind (rn_bl y1) fun y7 =>
  some y7
set_option maxHeartbeats 4000000 in
set_option maxRecDepth 100000 in
theorem c_Wt_isSmallLetter {Z : rn_Z} {g1 g2 : Nat} {x : tX} {d : tD} {c : tC} {u : tU} {t : tT} {a : tG} {b : tG} {m : tM} {o : tO} {E : List rn_C} {v0 : Int32} {res : Int32} (h : F_Wt_isSmallLetter  v0 = some res) : Call Z M_Wt_isSmallLetter [.int v0] (emb g1 g2 x d c u t a b m o E) 0 0 (some (.int res)) (emb g1 g2 x d c u t a b m o E) := by
  unfold F_Wt_isSmallLetter at h
  refine rn_call (by decide) 0 (by exact Nat.le_of_ble_eq_true rfl) ?_
  show Rn Z M_Wt_isSmallLetter 0 [some (.int v0)] [] (emb g1 g2 x d c u t a b m o E) 0 0 _
  refine rn_iload_n (by exact dc_Wt_isSmallLetter 0 rfl) (by exact rfl) ?_
  refine rn_bipush (v := (97 : Int32)) (by exact dc_Wt_isSmallLetter 1 rfl) (by decide) ?_
  obtain ⟨y1, e2, h4⟩ := rn_bind h
  clear h
  have jq3 : Rn Z M_Wt_isSmallLetter 17 [none] [.int y1] (emb g1 g2 x d c u t a b m o E) 0 0 (rn_Ret Z (some (.int res)) (emb g1 g2 x d c u t a b m o E)) := by
    obtain ⟨y7, e8, h10⟩ := rn_bind h4
    clear h4
    obtain ⟨rfl, hb9⟩ := rn_bl_some e8
    cases h10
    exact rn_zreturn (by exact dc_Wt_isSmallLetter 9 rfl) (by exact rfl) hb9
  by_cases c5 : v0 < (97 : Int32)
  · replace e2 := rn_ifp c5 e2
    refine rn_icmp_lt_t 16 (by exact dc_Wt_isSmallLetter 2 rfl) (by exact rfl) c5 ?_
    refine rn_iconst (v := (0 : Int32)) (by exact dc_Wt_isSmallLetter 8 rfl) (by decide) ?_
    cases e2
    exact rn_weak _ (by repeat (first | exact rn_le_0 | apply rn_le_s | apply rn_le_x)) jq3
  · replace e2 := rn_ifn c5 e2
    refine rn_icmp_lt_f 16 (by exact dc_Wt_isSmallLetter 2 rfl) (by exact rfl) c5 ?_
    refine rn_iload_n (by exact dc_Wt_isSmallLetter 3 rfl) (by exact rfl) ?_
    refine rn_bipush (v := (122 : Int32)) (by exact dc_Wt_isSmallLetter 4 rfl) (by decide) ?_
    by_cases c6 : (122 : Int32) < v0
    · replace e2 := rn_ifp c6 e2
      refine rn_icmp_gt_t 16 (by exact dc_Wt_isSmallLetter 5 rfl) (by exact rfl) c6 ?_
      refine rn_iconst (v := (0 : Int32)) (by exact dc_Wt_isSmallLetter 8 rfl) (by decide) ?_
      cases e2
      exact rn_weak _ (by repeat (first | exact rn_le_0 | apply rn_le_s | apply rn_le_x)) jq3
    · replace e2 := rn_ifn c6 e2
      refine rn_icmp_gt_f 16 (by exact dc_Wt_isSmallLetter 5 rfl) (by exact rfl) c6 ?_
      refine rn_iconst (v := (1 : Int32)) (by exact dc_Wt_isSmallLetter 6 rfl) (by decide) ?_
      refine rn_goto 17 (by exact dc_Wt_isSmallLetter 7 rfl) (by exact rfl) ?_
      cases e2
      exact rn_weak _ (by repeat (first | exact rn_le_0 | apply rn_le_s | apply rn_le_x)) jq3
def F_Dr_isText_L13 (d : tD) : Nat → Int32 → Option (Int32 ⊕ Unit)
  | 0, _ => none
  | n + 1, l1 =>
    if (D_length d) ≤ l1 then (
      some (.inr ())
    ) else (
      Option.bind (aG (D_characters d) 300 l1) fun x2 =>
      Option.bind (F_Wt_isSmallLetter  x2) fun x6 =>
      if ¬ x6 = 0 then (
        F_Dr_isText_L13 d n (l1 + 1)
      ) else (
        some (.inl (0 : Int32))
      )
    )
set_option maxHeartbeats 4000000 in
set_option maxRecDepth 100000 in
theorem p_Dr_isText_L13 {Z : rn_Z} {g1 g2 : Nat} {x : tX} {d : tD} {c : tC} {u : tU} {t : tT} {a : tG} {b : tG} {m : tM} {o : tO} {E : List rn_C}   {K : rn_K} {ca sa : Nat} {out : (Int32 ⊕ Unit)} (hx : out = .inr () → Rn Z M_Dr_isText 41 [none, none] [] (emb g1 g2 x d c u t a b m o E) ca sa K) (hr : ∀ (rv : Int32), out = .inl rv → K = rn_Ret Z (some (.int rv)) (emb g1 g2 x d c u t a b m o E)) (n : Nat) : ∀ (l1 : Int32), F_Dr_isText_L13 d n l1 = some out → Rn Z M_Dr_isText 13 [some (.ref 2), some (.int l1)] [] (emb g1 g2 x d c u t a b m o E) ca sa K := by
  induction n with
  | zero =>
    intro l1 h
    rw [F_Dr_isText_L13] at h
    cases h
  | succ n ih =>
    intro l1 h
    rw [F_Dr_isText_L13] at h
    refine rn_iload_n (by exact dc_Dr_isText 8 rfl) (by exact rfl) ?_
    refine rn_aload_n (by exact dc_Dr_isText 9 rfl) (by exact rfl) ?_
    refine rn_getf (v := .int (D_length d)) fd_Dr_15 (by exact dc_Dr_isText 10 rfl) (by exact rfl) (by exact rfl) ?_
    by_cases c1 : (D_length d) ≤ l1
    · replace h := rn_ifp c1 h
      refine rn_icmp_ge_t 41 (by exact dc_Dr_isText 11 rfl) (by exact rfl) c1 ?_
      cases h
      exact rn_weak _ (by repeat (first | exact rn_le_0 | apply rn_le_s | apply rn_le_x)) (hx rfl)
    · replace h := rn_ifn c1 h
      refine rn_icmp_ge_f 41 (by exact dc_Dr_isText 11 rfl) (by exact rfl) c1 ?_
      refine rn_aload_n (by exact dc_Dr_isText 12 rfl) (by exact rfl) ?_
      refine rn_getf (v := .ref 3) fd_Dr_9 (by exact dc_Dr_isText 13 rfl) (by exact rfl) (by exact rfl) ?_
      refine rn_iload_n (by exact dc_Dr_isText 14 rfl) (by exact rfl) ?_
      obtain ⟨x2, e3, h4⟩ := rn_bind h
      clear h
      refine rn_caload (by exact dc_Dr_isText 15 rfl) (by exact rfl) e3 ?_
      obtain ⟨x6, e5, h7⟩ := rn_bind h4
      clear h4
      refine rn_invS0 (by exact c_Wt_isSmallLetter e5) is_Dr_27 (by exact ⟨Nat.le_of_ble_eq_true rfl, Nat.le_of_ble_eq_true rfl⟩) (by exact dc_Dr_isText 16 rfl) (by exact rfl) (by exact rfl) (by exact Nat.le_of_ble_eq_true rfl) ?_
      show Rn _ _ 30 [some (.ref 2), some (.int l1)] [.int x6] (emb g1 g2 x d c u t a b m o E) _ _ _
      by_cases c8 : ¬ x6 = 0
      · replace h7 := rn_ifp c8 h7
        refine rn_if_ne_t 35 (by exact dc_Dr_isText 17 rfl) (by exact rfl) c8 ?_
        refine rn_iinc (ls' := [some (.ref 2), some (.int (l1 + 1))]) (by exact dc_Dr_isText 20 rfl) (by decide) (by exact rfl) (by exact rn_inc_1 _) (by exact rfl) ?_
        refine rn_goto 13 (by exact dc_Dr_isText 21 rfl) (by exact rfl) ?_
        exact rn_weak _ (by repeat (first | exact rn_le_0 | apply rn_le_s | apply rn_le_x)) (ih _ h7)
      · replace h7 := rn_ifn c8 h7
        refine rn_if_ne_f 35 (by exact dc_Dr_isText 17 rfl) (by exact rfl) (Classical.not_not.mp c8) ?_
        refine rn_iconst (v := (0 : Int32)) (by exact dc_Dr_isText 18 rfl) (by decide) ?_
        cases h7
        have hK := hr _ rfl
        subst hK
        exact rn_zreturn (by exact dc_Dr_isText 19 rfl) (by exact rfl) (by first | exact Or.inl rfl | exact Or.inr rfl)
def F_Dr_isText (d : tD)  : Option Int32 :=
  if (D_length d) ≤ (8 : Int32) then (
    Option.bind (F_Dr_isText_L13 d rn_fu (0 : Int32)) fun z6 =>
    match z6 with
    | .inl r5 => some r5
    | .inr _ =>
      some (1 : Int32)
  ) else (
    some (0 : Int32)
  )
set_option maxHeartbeats 4000000 in
set_option maxRecDepth 100000 in
theorem c_Dr_isText {Z : rn_Z} {g1 g2 : Nat} {x : tX} {d : tD} {c : tC} {u : tU} {t : tT} {a : tG} {b : tG} {m : tM} {o : tO} {E : List rn_C}  {res : Int32} (h : F_Dr_isText d  = some res) : Call Z M_Dr_isText [.ref 2] (emb g1 g2 x d c u t a b m o E) 0 0 (some (.int res)) (emb g1 g2 x d c u t a b m o E) := by
  unfold F_Dr_isText at h
  refine rn_call (by decide) 1 (by exact Nat.le_of_ble_eq_true rfl) ?_
  show Rn Z M_Dr_isText 0 [some (.ref 2), none] [] (emb g1 g2 x d c u t a b m o E) 0 0 _
  refine rn_aload_n (by exact dc_Dr_isText 0 rfl) (by exact rfl) ?_
  refine rn_getf (v := .int (D_length d)) fd_Dr_15 (by exact dc_Dr_isText 1 rfl) (by exact rfl) (by exact rfl) ?_
  refine rn_bipush (v := (8 : Int32)) (by exact dc_Dr_isText 2 rfl) (by decide) ?_
  by_cases c1 : (D_length d) ≤ (8 : Int32)
  · replace h := rn_ifp c1 h
    refine rn_icmp_le_t 11 (by exact dc_Dr_isText 3 rfl) (by exact rfl) c1 ?_
    refine rn_iconst (v := (0 : Int32)) (by exact dc_Dr_isText 6 rfl) (by decide) ?_
    refine rn_istore_n (ls' := [some (.ref 2), some (.int (0 : Int32))]) (by exact dc_Dr_isText 7 rfl) (by decide) (by exact rfl) ?_
    obtain ⟨z6, e2, h4⟩ := rn_bind h
    clear h
    rcases z6 with w7 | _
    · dsimp only at h4
      cases h4
      exact rn_weak _ (by repeat (first | exact rn_le_0 | apply rn_le_s | apply rn_le_x)) (p_Dr_isText_L13 (fun q => by cases q) (fun _ q => by cases q; rfl) _ _ e2)
    · dsimp only at h4
      have jx3 : Rn Z M_Dr_isText 41 [none, none] [] (emb g1 g2 x d c u t a b m o E) 0 0 (rn_Ret Z (some (.int res)) (emb g1 g2 x d c u t a b m o E)) := by
        refine rn_iconst (v := (1 : Int32)) (by exact dc_Dr_isText 22 rfl) (by decide) ?_
        cases h4
        exact rn_zreturn (by exact dc_Dr_isText 23 rfl) (by exact rfl) (by first | exact Or.inl rfl | exact Or.inr rfl)
      exact rn_weak _ (by repeat (first | exact rn_le_0 | apply rn_le_s | apply rn_le_x)) (p_Dr_isText_L13 (fun q => by cases q; exact jx3) (fun _ q => by cases q) _ _ e2)
  · replace h := rn_ifn c1 h
    refine rn_icmp_le_f 11 (by exact dc_Dr_isText 3 rfl) (by exact rfl) c1 ?_
    refine rn_iconst (v := (0 : Int32)) (by exact dc_Dr_isText 4 rfl) (by decide) ?_
    cases h
    exact rn_zreturn (by exact dc_Dr_isText 5 rfl) (by exact rfl) (by first | exact Or.inl rfl | exact Or.inr rfl)
def F_Dr_lineCount_L4 (d : tD) : Nat → Int32 → Int32 → Option Int32
  | 0, _, _ => none
  | n + 1, l1, l2 =>
    if (D_length d) ≤ l2 then (
      some l1
    ) else (
      Option.bind (aG (D_characters d) 300 l2) fun x2 =>
      Option.bind (
        if ¬ x2 = (10 : Int32) then (
          some (l1 : Int32)
        ) else (
          some (l1 + 1 : Int32)
        )
       : Option Int32) fun y5 =>
      F_Dr_lineCount_L4 d n y5 (l2 + 1)
    )
set_option maxHeartbeats 4000000 in
set_option maxRecDepth 100000 in
theorem p_Dr_lineCount_L4 {Z : rn_Z} {g1 g2 : Nat} {x : tX} {d : tD} {c : tC} {u : tU} {t : tT} {a : tG} {b : tG} {m : tM} {o : tO} {E : List rn_C}   {K : rn_K} {ca sa : Nat} {z1 : Int32} (hx : Rn Z M_Dr_lineCount 32 [none, some (.int z1), none] [] (emb g1 g2 x d c u t a b m o E) ca sa K) (n : Nat) : ∀ (l1 : Int32) (l2 : Int32), F_Dr_lineCount_L4 d n l1 l2 = some z1 → Rn Z M_Dr_lineCount 4 [some (.ref 2), some (.int l1), some (.int l2)] [] (emb g1 g2 x d c u t a b m o E) ca sa K := by
  induction n with
  | zero =>
    intro l1 l2 h
    rw [F_Dr_lineCount_L4] at h
    cases h
  | succ n ih =>
    intro l1 l2 h
    rw [F_Dr_lineCount_L4] at h
    refine rn_iload_n (by exact dc_Dr_lineCount 4 rfl) (by exact rfl) ?_
    refine rn_aload_n (by exact dc_Dr_lineCount 5 rfl) (by exact rfl) ?_
    refine rn_getf (v := .int (D_length d)) fd_Dr_15 (by exact dc_Dr_lineCount 6 rfl) (by exact rfl) (by exact rfl) ?_
    by_cases c1 : (D_length d) ≤ l2
    · replace h := rn_ifp c1 h
      refine rn_icmp_ge_t 32 (by exact dc_Dr_lineCount 7 rfl) (by exact rfl) c1 ?_
      cases h
      exact rn_weak _ (by repeat (first | exact rn_le_0 | apply rn_le_s | apply rn_le_x)) hx
    · replace h := rn_ifn c1 h
      refine rn_icmp_ge_f 32 (by exact dc_Dr_lineCount 7 rfl) (by exact rfl) c1 ?_
      refine rn_aload_n (by exact dc_Dr_lineCount 8 rfl) (by exact rfl) ?_
      refine rn_getf (v := .ref 3) fd_Dr_9 (by exact dc_Dr_lineCount 9 rfl) (by exact rfl) (by exact rfl) ?_
      refine rn_iload_n (by exact dc_Dr_lineCount 10 rfl) (by exact rfl) ?_
      obtain ⟨x2, e3, h4⟩ := rn_bind h
      clear h
      refine rn_caload (by exact dc_Dr_lineCount 11 rfl) (by exact rfl) e3 ?_
      refine rn_bipush (v := (10 : Int32)) (by exact dc_Dr_lineCount 12 rfl) (by decide) ?_
      obtain ⟨y5, e6, h8⟩ := rn_bind h4
      clear h4
      have jq7 : Rn Z M_Dr_lineCount 26 [some (.ref 2), some (.int y5), some (.int l2)] [] (emb g1 g2 x d c u t a b m o E) ca sa K := by
        refine rn_iinc (ls' := [some (.ref 2), some (.int y5), some (.int (l2 + 1))]) (by exact dc_Dr_lineCount 15 rfl) (by decide) (by exact rfl) (by exact rn_inc_1 _) (by exact rfl) ?_
        refine rn_goto 4 (by exact dc_Dr_lineCount 16 rfl) (by exact rfl) ?_
        exact rn_weak _ (by repeat (first | exact rn_le_0 | apply rn_le_s | apply rn_le_x)) (ih _ _ h8)
      by_cases c9 : ¬ x2 = (10 : Int32)
      · replace e6 := rn_ifp c9 e6
        refine rn_icmp_ne_t 26 (by exact dc_Dr_lineCount 13 rfl) (by exact rfl) c9 ?_
        cases e6
        exact rn_weak _ (by repeat (first | exact rn_le_0 | apply rn_le_s | apply rn_le_x)) jq7
      · replace e6 := rn_ifn c9 e6
        refine rn_icmp_ne_f 26 (by exact dc_Dr_lineCount 13 rfl) (by exact rfl) (Classical.not_not.mp c9) ?_
        refine rn_iinc (ls' := [some (.ref 2), some (.int (l1 + 1)), some (.int l2)]) (by exact dc_Dr_lineCount 14 rfl) (by decide) (by exact rfl) (by exact rn_inc_1 _) (by exact rfl) ?_
        cases e6
        exact rn_weak _ (by repeat (first | exact rn_le_0 | apply rn_le_s | apply rn_le_x)) jq7
def F_Dr_lineCount (d : tD)  : Option Int32 :=
  Option.bind (F_Dr_lineCount_L4 d rn_fu (1 : Int32) (0 : Int32)) fun y4 =>
  some y4
set_option maxHeartbeats 4000000 in
set_option maxRecDepth 100000 in
theorem c_Dr_lineCount {Z : rn_Z} {g1 g2 : Nat} {x : tX} {d : tD} {c : tC} {u : tU} {t : tT} {a : tG} {b : tG} {m : tM} {o : tO} {E : List rn_C}  {res : Int32} (h : F_Dr_lineCount d  = some res) : Call Z M_Dr_lineCount [.ref 2] (emb g1 g2 x d c u t a b m o E) 0 0 (some (.int res)) (emb g1 g2 x d c u t a b m o E) := by
  unfold F_Dr_lineCount at h
  refine rn_call (by decide) 2 (by exact Nat.le_of_ble_eq_true rfl) ?_
  show Rn Z M_Dr_lineCount 0 [some (.ref 2), none, none] [] (emb g1 g2 x d c u t a b m o E) 0 0 _
  refine rn_iconst (v := (1 : Int32)) (by exact dc_Dr_lineCount 0 rfl) (by decide) ?_
  refine rn_istore_n (ls' := [some (.ref 2), some (.int (1 : Int32)), none]) (by exact dc_Dr_lineCount 1 rfl) (by decide) (by exact rfl) ?_
  refine rn_iconst (v := (0 : Int32)) (by exact dc_Dr_lineCount 2 rfl) (by decide) ?_
  refine rn_istore_n (ls' := [some (.ref 2), some (.int (1 : Int32)), some (.int (0 : Int32))]) (by exact dc_Dr_lineCount 3 rfl) (by decide) (by exact rfl) ?_
  obtain ⟨y4, e1, h3⟩ := rn_bind h
  clear h
  have jx2 : Rn Z M_Dr_lineCount 32 [none, some (.int y4), none] [] (emb g1 g2 x d c u t a b m o E) 0 0 (rn_Ret Z (some (.int res)) (emb g1 g2 x d c u t a b m o E)) := by
    refine rn_iload_n (by exact dc_Dr_lineCount 17 rfl) (by exact rfl) ?_
    cases h3
    exact rn_ireturn (by exact dc_Dr_lineCount 18 rfl) (by exact rfl)
  exact rn_weak _ (by repeat (first | exact rn_le_0 | apply rn_le_s | apply rn_le_x)) (p_Dr_lineCount_L4 jx2 _ _ _ e1)
def F_Dr_lineEnd_L2 (d : tD) : Nat → Int32 → Option (Int32 ⊕ Unit)
  | 0, _ => none
  | n + 1, l2 =>
    if (D_length d) ≤ l2 then (
      some (.inr ())
    ) else (
      Option.bind (aG (D_characters d) 300 l2) fun x2 =>
      if ¬ x2 = (10 : Int32) then (
        F_Dr_lineEnd_L2 d n (l2 + 1)
      ) else (
        some (.inl l2)
      )
    )
set_option maxHeartbeats 4000000 in
set_option maxRecDepth 100000 in
theorem p_Dr_lineEnd_L2 {Z : rn_Z} {g1 g2 : Nat} {x : tX} {d : tD} {c : tC} {u : tU} {t : tT} {a : tG} {b : tG} {m : tM} {o : tO} {E : List rn_C}   {K : rn_K} {ca sa : Nat} {out : (Int32 ⊕ Unit)} (hx : out = .inr () → Rn Z M_Dr_lineEnd 29 [some (.ref 2), none, none] [] (emb g1 g2 x d c u t a b m o E) ca sa K) (hr : ∀ (rv : Int32), out = .inl rv → K = rn_Ret Z (some (.int rv)) (emb g1 g2 x d c u t a b m o E)) (n : Nat) : ∀ (l2 : Int32), F_Dr_lineEnd_L2 d n l2 = some out → Rn Z M_Dr_lineEnd 2 [some (.ref 2), none, some (.int l2)] [] (emb g1 g2 x d c u t a b m o E) ca sa K := by
  induction n with
  | zero =>
    intro l2 h
    rw [F_Dr_lineEnd_L2] at h
    cases h
  | succ n ih =>
    intro l2 h
    rw [F_Dr_lineEnd_L2] at h
    refine rn_iload_n (by exact dc_Dr_lineEnd 2 rfl) (by exact rfl) ?_
    refine rn_aload_n (by exact dc_Dr_lineEnd 3 rfl) (by exact rfl) ?_
    refine rn_getf (v := .int (D_length d)) fd_Dr_15 (by exact dc_Dr_lineEnd 4 rfl) (by exact rfl) (by exact rfl) ?_
    by_cases c1 : (D_length d) ≤ l2
    · replace h := rn_ifp c1 h
      refine rn_icmp_ge_t 29 (by exact dc_Dr_lineEnd 5 rfl) (by exact rfl) c1 ?_
      cases h
      exact rn_weak _ (by repeat (first | exact rn_le_0 | apply rn_le_s | apply rn_le_x)) (hx rfl)
    · replace h := rn_ifn c1 h
      refine rn_icmp_ge_f 29 (by exact dc_Dr_lineEnd 5 rfl) (by exact rfl) c1 ?_
      refine rn_aload_n (by exact dc_Dr_lineEnd 6 rfl) (by exact rfl) ?_
      refine rn_getf (v := .ref 3) fd_Dr_9 (by exact dc_Dr_lineEnd 7 rfl) (by exact rfl) (by exact rfl) ?_
      refine rn_iload_n (by exact dc_Dr_lineEnd 8 rfl) (by exact rfl) ?_
      obtain ⟨x2, e3, h4⟩ := rn_bind h
      clear h
      refine rn_caload (by exact dc_Dr_lineEnd 9 rfl) (by exact rfl) e3 ?_
      refine rn_bipush (v := (10 : Int32)) (by exact dc_Dr_lineEnd 10 rfl) (by decide) ?_
      by_cases c5 : ¬ x2 = (10 : Int32)
      · replace h4 := rn_ifp c5 h4
        refine rn_icmp_ne_t 23 (by exact dc_Dr_lineEnd 11 rfl) (by exact rfl) c5 ?_
        refine rn_iinc (ls' := [some (.ref 2), none, some (.int (l2 + 1))]) (by exact dc_Dr_lineEnd 14 rfl) (by decide) (by exact rfl) (by exact rn_inc_1 _) (by exact rfl) ?_
        refine rn_goto 2 (by exact dc_Dr_lineEnd 15 rfl) (by exact rfl) ?_
        exact rn_weak _ (by repeat (first | exact rn_le_0 | apply rn_le_s | apply rn_le_x)) (ih _ h4)
      · replace h4 := rn_ifn c5 h4
        refine rn_icmp_ne_f 23 (by exact dc_Dr_lineEnd 11 rfl) (by exact rfl) (Classical.not_not.mp c5) ?_
        refine rn_iload_n (by exact dc_Dr_lineEnd 12 rfl) (by exact rfl) ?_
        cases h4
        have hK := hr _ rfl
        subst hK
        exact rn_ireturn (by exact dc_Dr_lineEnd 13 rfl) (by exact rfl)
def F_Dr_lineEnd (d : tD) (v0 : Int32) : Option Int32 :=
  Option.bind (F_Dr_lineEnd_L2 d rn_fu v0) fun z5 =>
  match z5 with
  | .inl r4 => some r4
  | .inr _ =>
    some (D_length d)
set_option maxHeartbeats 4000000 in
set_option maxRecDepth 100000 in
theorem c_Dr_lineEnd {Z : rn_Z} {g1 g2 : Nat} {x : tX} {d : tD} {c : tC} {u : tU} {t : tT} {a : tG} {b : tG} {m : tM} {o : tO} {E : List rn_C} {v0 : Int32} {res : Int32} (h : F_Dr_lineEnd d v0 = some res) : Call Z M_Dr_lineEnd [.ref 2, .int v0] (emb g1 g2 x d c u t a b m o E) 0 0 (some (.int res)) (emb g1 g2 x d c u t a b m o E) := by
  unfold F_Dr_lineEnd at h
  refine rn_call (by decide) 1 (by exact Nat.le_of_ble_eq_true rfl) ?_
  show Rn Z M_Dr_lineEnd 0 [some (.ref 2), some (.int v0), none] [] (emb g1 g2 x d c u t a b m o E) 0 0 _
  refine rn_iload_n (by exact dc_Dr_lineEnd 0 rfl) (by exact rfl) ?_
  refine rn_istore_n (ls' := [some (.ref 2), some (.int v0), some (.int v0)]) (by exact dc_Dr_lineEnd 1 rfl) (by decide) (by exact rfl) ?_
  obtain ⟨z5, e1, h3⟩ := rn_bind h
  clear h
  rcases z5 with w6 | _
  · dsimp only at h3
    cases h3
    exact rn_weak _ (by repeat (first | exact rn_le_0 | apply rn_le_s | apply rn_le_x)) (p_Dr_lineEnd_L2 (fun q => by cases q) (fun _ q => by cases q; rfl) _ _ e1)
  · dsimp only at h3
    have jx2 : Rn Z M_Dr_lineEnd 29 [some (.ref 2), none, none] [] (emb g1 g2 x d c u t a b m o E) 0 0 (rn_Ret Z (some (.int res)) (emb g1 g2 x d c u t a b m o E)) := by
      refine rn_aload_n (by exact dc_Dr_lineEnd 16 rfl) (by exact rfl) ?_
      refine rn_getf (v := .int (D_length d)) fd_Dr_15 (by exact dc_Dr_lineEnd 17 rfl) (by exact rfl) (by exact rfl) ?_
      cases h3
      exact rn_ireturn (by exact dc_Dr_lineEnd 18 rfl) (by exact rfl)
    exact rn_weak _ (by repeat (first | exact rn_le_0 | apply rn_le_s | apply rn_le_x)) (p_Dr_lineEnd_L2 (fun q => by cases q; exact jx2) (fun _ q => by cases q) _ _ e1)
