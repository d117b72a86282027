def F_Ji_bitCount (v0 : Int32) : Option Int32 :=
  some ((((((((v0 - (((v0.toUInt32 >>> ((1 : Int32).toUInt32 &&& Int32.toUInt32 31)).toInt32) &&& (1431655765 : Int32))) &&& (858993459 : Int32)) + ((((v0 - (((v0.toUInt32 >>> ((1 : Int32).toUInt32 &&& Int32.toUInt32 31)).toInt32) &&& (1431655765 : Int32))).toUInt32 >>> ((2 : Int32).toUInt32 &&& Int32.toUInt32 31)).toInt32) &&& (858993459 : Int32))) + (((((v0 - (((v0.toUInt32 >>> ((1 : Int32).toUInt32 &&& Int32.toUInt32 31)).toInt32) &&& (1431655765 : Int32))) &&& (858993459 : Int32)) + ((((v0 - (((v0.toUInt32 >>> ((1 : Int32).toUInt32 &&& Int32.toUInt32 31)).toInt32) &&& (1431655765 : Int32))).toUInt32 >>> ((2 : Int32).toUInt32 &&& Int32.toUInt32 31)).toInt32) &&& (858993459 : Int32))).toUInt32 >>> ((4 : Int32).toUInt32 &&& Int32.toUInt32 31)).toInt32)) &&& (252645135 : Int32)) + (((((((v0 - (((v0.toUInt32 >>> ((1 : Int32).toUInt32 &&& Int32.toUInt32 31)).toInt32) &&& (1431655765 : Int32))) &&& (858993459 : Int32)) + ((((v0 - (((v0.toUInt32 >>> ((1 : Int32).toUInt32 &&& Int32.toUInt32 31)).toInt32) &&& (1431655765 : Int32))).toUInt32 >>> ((2 : Int32).toUInt32 &&& Int32.toUInt32 31)).toInt32) &&& (858993459 : Int32))) + (((((v0 - (((v0.toUInt32 >>> ((1 : Int32).toUInt32 &&& Int32.toUInt32 31)).toInt32) &&& (1431655765 : Int32))) &&& (858993459 : Int32)) + ((((v0 - (((v0.toUInt32 >>> ((1 : Int32).toUInt32 &&& Int32.toUInt32 31)).toInt32) &&& (1431655765 : Int32))).toUInt32 >>> ((2 : Int32).toUInt32 &&& Int32.toUInt32 31)).toInt32) &&& (858993459 : Int32))).toUInt32 >>> ((4 : Int32).toUInt32 &&& Int32.toUInt32 31)).toInt32)) &&& (252645135 : Int32)).toUInt32 >>> ((8 : Int32).toUInt32 &&& Int32.toUInt32 31)).toInt32)) + ((((((((v0 - (((v0.toUInt32 >>> ((1 : Int32).toUInt32 &&& Int32.toUInt32 31)).toInt32) &&& (1431655765 : Int32))) &&& (858993459 : Int32)) + ((((v0 - (((v0.toUInt32 >>> ((1 : Int32).toUInt32 &&& Int32.toUInt32 31)).toInt32) &&& (1431655765 : Int32))).toUInt32 >>> ((2 : Int32).toUInt32 &&& Int32.toUInt32 31)).toInt32) &&& (858993459 : Int32))) + (((((v0 - (((v0.toUInt32 >>> ((1 : Int32).toUInt32 &&& Int32.toUInt32 31)).toInt32) &&& (1431655765 : Int32))) &&& (858993459 : Int32)) + ((((v0 - (((v0.toUInt32 >>> ((1 : Int32).toUInt32 &&& Int32.toUInt32 31)).toInt32) &&& (1431655765 : Int32))).toUInt32 >>> ((2 : Int32).toUInt32 &&& Int32.toUInt32 31)).toInt32) &&& (858993459 : Int32))).toUInt32 >>> ((4 : Int32).toUInt32 &&& Int32.toUInt32 31)).toInt32)) &&& (252645135 : Int32)) + (((((((v0 - (((v0.toUInt32 >>> ((1 : Int32).toUInt32 &&& Int32.toUInt32 31)).toInt32) &&& (1431655765 : Int32))) &&& (858993459 : Int32)) + ((((v0 - (((v0.toUInt32 >>> ((1 : Int32).toUInt32 &&& Int32.toUInt32 31)).toInt32) &&& (1431655765 : Int32))).toUInt32 >>> ((2 : Int32).toUInt32 &&& Int32.toUInt32 31)).toInt32) &&& (858993459 : Int32))) + (((((v0 - (((v0.toUInt32 >>> ((1 : Int32).toUInt32 &&& Int32.toUInt32 31)).toInt32) &&& (1431655765 : Int32))) &&& (858993459 : Int32)) + ((((v0 - (((v0.toUInt32 >>> ((1 : Int32).toUInt32 &&& Int32.toUInt32 31)).toInt32) &&& (1431655765 : Int32))).toUInt32 >>> ((2 : Int32).toUInt32 &&& Int32.toUInt32 31)).toInt32) &&& (858993459 : Int32))).toUInt32 >>> ((4 : Int32).toUInt32 &&& Int32.toUInt32 31)).toInt32)) &&& (252645135 : Int32)).toUInt32 >>> ((8 : Int32).toUInt32 &&& Int32.toUInt32 31)).toInt32)).toUInt32 >>> ((16 : Int32).toUInt32 &&& Int32.toUInt32 31)).toInt32)) &&& (63 : Int32))
set_option maxHeartbeats 4000000 in
set_option maxRecDepth 100000 in
theorem c_Ji_bitCount {Z : rn_Z} {g1 g2 : Nat} {x : tX} {d : tD} {c : tC} {u : tU} {t : tT} {a : tG} {b : tG} {m : tM} {o : tO} {E : List rn_C} {v0 : Int32} {res : Int32} (h : F_Ji_bitCount  v0 = some res) : Call Z M_Ji_bitCount [.int v0] (emb g1 g2 x d c u t a b m o E) 0 0 (some (.int res)) (emb g1 g2 x d c u t a b m o E) := by
  unfold F_Ji_bitCount at h
  refine rn_call (by decide) 0 (by exact Nat.le_of_ble_eq_true rfl) ?_
  show Rn Z M_Ji_bitCount 0 [some (.int v0)] [] (emb g1 g2 x d c u t a b m o E) 0 0 _
  refine rn_iload_n (by exact dc_Ji_bitCount 0 rfl) (by exact rfl) ?_
  refine rn_iload_n (by exact dc_Ji_bitCount 1 rfl) (by exact rfl) ?_
  refine rn_iconst (v := (1 : Int32)) (by exact dc_Ji_bitCount 2 rfl) (by decide) ?_
  refine rn_iushr (by exact dc_Ji_bitCount 3 rfl) ?_
  refine rn_ldcw (v := (1431655765 : Int32)) (by exact dc_Ji_bitCount 4 rfl) kc_Ji_265 ?_
  refine rn_iand (by exact dc_Ji_bitCount 5 rfl) ?_
  refine rn_isub (by exact dc_Ji_bitCount 6 rfl) ?_
  refine rn_istore_n (ls' := [some (.int (v0 - (((v0.toUInt32 >>> ((1 : Int32).toUInt32 &&& Int32.toUInt32 31)).toInt32) &&& (1431655765 : Int32))))]) (by exact dc_Ji_bitCount 7 rfl) (by decide) (by exact rfl) ?_
  refine rn_iload_n (by exact dc_Ji_bitCount 8 rfl) (by exact rfl) ?_
  refine rn_ldcw (v := (858993459 : Int32)) (by exact dc_Ji_bitCount 9 rfl) kc_Ji_266 ?_
  refine rn_iand (by exact dc_Ji_bitCount 10 rfl) ?_
  refine rn_iload_n (by exact dc_Ji_bitCount 11 rfl) (by exact rfl) ?_
  refine rn_iconst (v := (2 : Int32)) (by exact dc_Ji_bitCount 12 rfl) (by decide) ?_
  refine rn_iushr (by exact dc_Ji_bitCount 13 rfl) ?_
  refine rn_ldcw (v := (858993459 : Int32)) (by exact dc_Ji_bitCount 14 rfl) kc_Ji_266 ?_
  refine rn_iand (by exact dc_Ji_bitCount 15 rfl) ?_
  refine rn_iadd (by exact dc_Ji_bitCount 16 rfl) ?_
  refine rn_istore_n (ls' := [some (.int (((v0 - (((v0.toUInt32 >>> ((1 : Int32).toUInt32 &&& Int32.toUInt32 31)).toInt32) &&& (1431655765 : Int32))) &&& (858993459 : Int32)) + ((((v0 - (((v0.toUInt32 >>> ((1 : Int32).toUInt32 &&& Int32.toUInt32 31)).toInt32) &&& (1431655765 : Int32))).toUInt32 >>> ((2 : Int32).toUInt32 &&& Int32.toUInt32 31)).toInt32) &&& (858993459 : Int32))))]) (by exact dc_Ji_bitCount 17 rfl) (by decide) (by exact rfl) ?_
  refine rn_iload_n (by exact dc_Ji_bitCount 18 rfl) (by exact rfl) ?_
  refine rn_iload_n (by exact dc_Ji_bitCount 19 rfl) (by exact rfl) ?_
  refine rn_iconst (v := (4 : Int32)) (by exact dc_Ji_bitCount 20 rfl) (by decide) ?_
  refine rn_iushr (by exact dc_Ji_bitCount 21 rfl) ?_
  refine rn_iadd (by exact dc_Ji_bitCount 22 rfl) ?_
  refine rn_ldcw (v := (252645135 : Int32)) (by exact dc_Ji_bitCount 23 rfl) kc_Ji_267 ?_
  refine rn_iand (by exact dc_Ji_bitCount 24 rfl) ?_
  refine rn_istore_n (ls' := [some (.int (((((v0 - (((v0.toUInt32 >>> ((1 : Int32).toUInt32 &&& Int32.toUInt32 31)).toInt32) &&& (1431655765 : Int32))) &&& (858993459 : Int32)) + ((((v0 - (((v0.toUInt32 >>> ((1 : Int32).toUInt32 &&& Int32.toUInt32 31)).toInt32) &&& (1431655765 : Int32))).toUInt32 >>> ((2 : Int32).toUInt32 &&& Int32.toUInt32 31)).toInt32) &&& (858993459 : Int32))) + (((((v0 - (((v0.toUInt32 >>> ((1 : Int32).toUInt32 &&& Int32.toUInt32 31)).toInt32) &&& (1431655765 : Int32))) &&& (858993459 : Int32)) + ((((v0 - (((v0.toUInt32 >>> ((1 : Int32).toUInt32 &&& Int32.toUInt32 31)).toInt32) &&& (1431655765 : Int32))).toUInt32 >>> ((2 : Int32).toUInt32 &&& Int32.toUInt32 31)).toInt32) &&& (858993459 : Int32))).toUInt32 >>> ((4 : Int32).toUInt32 &&& Int32.toUInt32 31)).toInt32)) &&& (252645135 : Int32)))]) (by exact dc_Ji_bitCount 25 rfl) (by decide) (by exact rfl) ?_
  refine rn_iload_n (by exact dc_Ji_bitCount 26 rfl) (by exact rfl) ?_
  refine rn_iload_n (by exact dc_Ji_bitCount 27 rfl) (by exact rfl) ?_
  refine rn_bipush (v := (8 : Int32)) (by exact dc_Ji_bitCount 28 rfl) (by decide) ?_
  refine rn_iushr (by exact dc_Ji_bitCount 29 rfl) ?_
  refine rn_iadd (by exact dc_Ji_bitCount 30 rfl) ?_
  refine rn_istore_n (ls' := [some (.int ((((((v0 - (((v0.toUInt32 >>> ((1 : Int32).toUInt32 &&& Int32.toUInt32 31)).toInt32) &&& (1431655765 : Int32))) &&& (858993459 : Int32)) + ((((v0 - (((v0.toUInt32 >>> ((1 : Int32).toUInt32 &&& Int32.toUInt32 31)).toInt32) &&& (1431655765 : Int32))).toUInt32 >>> ((2 : Int32).toUInt32 &&& Int32.toUInt32 31)).toInt32) &&& (858993459 : Int32))) + (((((v0 - (((v0.toUInt32 >>> ((1 : Int32).toUInt32 &&& Int32.toUInt32 31)).toInt32) &&& (1431655765 : Int32))) &&& (858993459 : Int32)) + ((((v0 - (((v0.toUInt32 >>> ((1 : Int32).toUInt32 &&& Int32.toUInt32 31)).toInt32) &&& (1431655765 : Int32))).toUInt32 >>> ((2 : Int32).toUInt32 &&& Int32.toUInt32 31)).toInt32) &&& (858993459 : Int32))).toUInt32 >>> ((4 : Int32).toUInt32 &&& Int32.toUInt32 31)).toInt32)) &&& (252645135 : Int32)) + (((((((v0 - (((v0.toUInt32 >>> ((1 : Int32).toUInt32 &&& Int32.toUInt32 31)).toInt32) &&& (1431655765 : Int32))) &&& (858993459 : Int32)) + ((((v0 - (((v0.toUInt32 >>> ((1 : Int32).toUInt32 &&& Int32.toUInt32 31)).toInt32) &&& (1431655765 : Int32))).toUInt32 >>> ((2 : Int32).toUInt32 &&& Int32.toUInt32 31)).toInt32) &&& (858993459 : Int32))) + (((((v0 - (((v0.toUInt32 >>> ((1 : Int32).toUInt32 &&& Int32.toUInt32 31)).toInt32) &&& (1431655765 : Int32))) &&& (858993459 : Int32)) + ((((v0 - (((v0.toUInt32 >>> ((1 : Int32).toUInt32 &&& Int32.toUInt32 31)).toInt32) &&& (1431655765 : Int32))).toUInt32 >>> ((2 : Int32).toUInt32 &&& Int32.toUInt32 31)).toInt32) &&& (858993459 : Int32))).toUInt32 >>> ((4 : Int32).toUInt32 &&& Int32.toUInt32 31)).toInt32)) &&& (252645135 : Int32)).toUInt32 >>> ((8 : Int32).toUInt32 &&& Int32.toUInt32 31)).toInt32)))]) (by exact dc_Ji_bitCount 31 rfl) (by decide) (by exact rfl) ?_
  refine rn_iload_n (by exact dc_Ji_bitCount 32 rfl) (by exact rfl) ?_
  refine rn_iload_n (by exact dc_Ji_bitCount 33 rfl) (by exact rfl) ?_
  refine rn_bipush (v := (16 : Int32)) (by exact dc_Ji_bitCount 34 rfl) (by decide) ?_
  refine rn_iushr (by exact dc_Ji_bitCount 35 rfl) ?_
  refine rn_iadd (by exact dc_Ji_bitCount 36 rfl) ?_
  refine rn_istore_n (ls' := [some (.int (((((((v0 - (((v0.toUInt32 >>> ((1 : Int32).toUInt32 &&& Int32.toUInt32 31)).toInt32) &&& (1431655765 : Int32))) &&& (858993459 : Int32)) + ((((v0 - (((v0.toUInt32 >>> ((1 : Int32).toUInt32 &&& Int32.toUInt32 31)).toInt32) &&& (1431655765 : Int32))).toUInt32 >>> ((2 : Int32).toUInt32 &&& Int32.toUInt32 31)).toInt32) &&& (858993459 : Int32))) + (((((v0 - (((v0.toUInt32 >>> ((1 : Int32).toUInt32 &&& Int32.toUInt32 31)).toInt32) &&& (1431655765 : Int32))) &&& (858993459 : Int32)) + ((((v0 - (((v0.toUInt32 >>> ((1 : Int32).toUInt32 &&& Int32.toUInt32 31)).toInt32) &&& (1431655765 : Int32))).toUInt32 >>> ((2 : Int32).toUInt32 &&& Int32.toUInt32 31)).toInt32) &&& (858993459 : Int32))).toUInt32 >>> ((4 : Int32).toUInt32 &&& Int32.toUInt32 31)).toInt32)) &&& (252645135 : Int32)) + (((((((v0 - (((v0.toUInt32 >>> ((1 : Int32).toUInt32 &&& Int32.toUInt32 31)).toInt32) &&& (1431655765 : Int32))) &&& (858993459 : Int32)) + ((((v0 - (((v0.toUInt32 >>> ((1 : Int32).toUInt32 &&& Int32.toUInt32 31)).toInt32) &&& (1431655765 : Int32))).toUInt32 >>> ((2 : Int32).toUInt32 &&& Int32.toUInt32 31)).toInt32) &&& (858993459 : Int32))) + (((((v0 - (((v0.toUInt32 >>> ((1 : Int32).toUInt32 &&& Int32.toUInt32 31)).toInt32) &&& (1431655765 : Int32))) &&& (858993459 : Int32)) + ((((v0 - (((v0.toUInt32 >>> ((1 : Int32).toUInt32 &&& Int32.toUInt32 31)).toInt32) &&& (1431655765 : Int32))).toUInt32 >>> ((2 : Int32).toUInt32 &&& Int32.toUInt32 31)).toInt32) &&& (858993459 : Int32))).toUInt32 >>> ((4 : Int32).toUInt32 &&& Int32.toUInt32 31)).toInt32)) &&& (252645135 : Int32)).toUInt32 >>> ((8 : Int32).toUInt32 &&& Int32.toUInt32 31)).toInt32)) + ((((((((v0 - (((v0.toUInt32 >>> ((1 : Int32).toUInt32 &&& Int32.toUInt32 31)).toInt32) &&& (1431655765 : Int32))) &&& (858993459 : Int32)) + ((((v0 - (((v0.toUInt32 >>> ((1 : Int32).toUInt32 &&& Int32.toUInt32 31)).toInt32) &&& (1431655765 : Int32))).toUInt32 >>> ((2 : Int32).toUInt32 &&& Int32.toUInt32 31)).toInt32) &&& (858993459 : Int32))) + (((((v0 - (((v0.toUInt32 >>> ((1 : Int32).toUInt32 &&& Int32.toUInt32 31)).toInt32) &&& (1431655765 : Int32))) &&& (858993459 : Int32)) + ((((v0 - (((v0.toUInt32 >>> ((1 : Int32).toUInt32 &&& Int32.toUInt32 31)).toInt32) &&& (1431655765 : Int32))).toUInt32 >>> ((2 : Int32).toUInt32 &&& Int32.toUInt32 31)).toInt32) &&& (858993459 : Int32))).toUInt32 >>> ((4 : Int32).toUInt32 &&& Int32.toUInt32 31)).toInt32)) &&& (252645135 : Int32)) + (((((((v0 - (((v0.toUInt32 >>> ((1 : Int32).toUInt32 &&& Int32.toUInt32 31)).toInt32) &&& (1431655765 : Int32))) &&& (858993459 : Int32)) + ((((v0 - (((v0.toUInt32 >>> ((1 : Int32).toUInt32 &&& Int32.toUInt32 31)).toInt32) &&& (1431655765 : Int32))).toUInt32 >>> ((2 : Int32).toUInt32 &&& Int32.toUInt32 31)).toInt32) &&& (858993459 : Int32))) + (((((v0 - (((v0.toUInt32 >>> ((1 : Int32).toUInt32 &&& Int32.toUInt32 31)).toInt32) &&& (1431655765 : Int32))) &&& (858993459 : Int32)) + ((((v0 - (((v0.toUInt32 >>> ((1 : Int32).toUInt32 &&& Int32.toUInt32 31)).toInt32) &&& (1431655765 : Int32))).toUInt32 >>> ((2 : Int32).toUInt32 &&& Int32.toUInt32 31)).toInt32) &&& (858993459 : Int32))).toUInt32 >>> ((4 : Int32).toUInt32 &&& Int32.toUInt32 31)).toInt32)) &&& (252645135 : Int32)).toUInt32 >>> ((8 : Int32).toUInt32 &&& Int32.toUInt32 31)).toInt32)).toUInt32 >>> ((16 : Int32).toUInt32 &&& Int32.toUInt32 31)).toInt32)))]) (by exact dc_Ji_bitCount 37 rfl) (by decide) (by exact rfl) ?_
  refine rn_iload_n (by exact dc_Ji_bitCount 38 rfl) (by exact rfl) ?_
  refine rn_bipush (v := (63 : Int32)) (by exact dc_Ji_bitCount 39 rfl) (by decide) ?_
  refine rn_iand (by exact dc_Ji_bitCount 40 rfl) ?_
  cases h
  exact rn_ireturn (by exact dc_Ji_bitCount 41 rfl) (by exact rfl)
def F_Gr_findOrder_L10 (b : tG) : Nat → Int32 → Option ((Int32 × tG) ⊕ Unit)
  | 0, _ => none
  | n + 1, l1 =>
    if (G_nonterminalCount b) ≤ l1 then (
      some (.inr ())
    ) else (
      Option.bind (aG (G_reached b) 6 l1) fun x2 =>
      Option.bind (F_Gr_hasBit  x2 l1) fun x6 =>
      if x6 = 0 then (
        F_Gr_findOrder_L10 b n (l1 + 1)
      ) else (
        some (.inl ((0 : Int32), b))
      )
    )
set_option maxHeartbeats 4000000 in
set_option maxRecDepth 100000 in
theorem p_Gr_findOrder_L10_b {Z : rn_Z} {g1 g2 : Nat} {x : tX} {d : tD} {c : tC} {u : tU} {t : tT} {a : tG} {b : tG} {m : tM} {o : tO} {E : List rn_C}   {K : rn_K} {ca sa : Nat} {out : ((Int32 × tG) ⊕ Unit)} (hx : out = .inr () → Rn Z M_Gr_findOrder 39 [some (.ref 44), none, none, none] [] (emb g1 g2 x d c u t a b m o E) ca sa K) (hr : ∀ (rv : Int32) (bw : tG), out = .inl (rv, bw) → K = rn_Ret Z (some (.int rv)) (emb g1 g2 x d c u t a bw m o E)) (n : Nat) : ∀ (l1 : Int32), F_Gr_findOrder_L10 b n l1 = some out → Rn Z M_Gr_findOrder 10 [some (.ref 44), some (.int l1), none, none] [] (emb g1 g2 x d c u t a b m o E) ca sa K := by
  induction n with
  | zero =>
    intro l1 h
    rw [F_Gr_findOrder_L10] at h
    cases h
  | succ n ih =>
    intro l1 h
    rw [F_Gr_findOrder_L10] at h
    refine rn_iload_n (by exact dc_Gr_findOrder 6 rfl) (by exact rfl) ?_
    refine rn_aload_n (by exact dc_Gr_findOrder 7 rfl) (by exact rfl) ?_
    refine rn_getf (v := .int (G_nonterminalCount b)) fd_Gr_38 (by exact dc_Gr_findOrder 8 rfl) (by exact rfl) (by exact rfl) ?_
    by_cases c1 : (G_nonterminalCount b) ≤ l1
    · replace h := rn_ifp c1 h
      refine rn_icmp_ge_t 39 (by exact dc_Gr_findOrder 9 rfl) (by exact rfl) c1 ?_
      cases h
      exact rn_weak _ (by repeat (first | exact rn_le_0 | apply rn_le_s | apply rn_le_x)) (hx rfl)
    · replace h := rn_ifn c1 h
      refine rn_icmp_ge_f 39 (by exact dc_Gr_findOrder 9 rfl) (by exact rfl) c1 ?_
      refine rn_aload_n (by exact dc_Gr_findOrder 10 rfl) (by exact rfl) ?_
      refine rn_getf (v := .ref 52) fd_Gr_41 (by exact dc_Gr_findOrder 11 rfl) (by exact rfl) (by exact rfl) ?_
      refine rn_iload_n (by exact dc_Gr_findOrder 12 rfl) (by exact rfl) ?_
      obtain ⟨x2, e3, h4⟩ := rn_bind h
      clear h
      refine rn_iaload (by exact dc_Gr_findOrder 13 rfl) (by exact rfl) e3 ?_
      refine rn_iload_n (by exact dc_Gr_findOrder 14 rfl) (by exact rfl) ?_
      obtain ⟨x6, e5, h7⟩ := rn_bind h4
      clear h4
      refine rn_invS0 (by exact c_Gr_hasBit e5) is_Gr_52 (by exact ⟨Nat.le_of_ble_eq_true rfl, Nat.le_of_ble_eq_true rfl⟩) (by exact dc_Gr_findOrder 15 rfl) (by exact rfl) (by exact rfl) (by exact Nat.le_of_ble_eq_true rfl) ?_
      show Rn _ _ 28 [some (.ref 44), some (.int l1), none, none] [.int x6] (emb g1 g2 x d c u t a b m o E) _ _ _
      by_cases c8 : x6 = 0
      · replace h7 := rn_ifp c8 h7
        refine rn_if_eq_t 33 (by exact dc_Gr_findOrder 16 rfl) (by exact rfl) c8 ?_
        refine rn_iinc (ls' := [some (.ref 44), some (.int (l1 + 1)), none, none]) (by exact dc_Gr_findOrder 19 rfl) (by decide) (by exact rfl) (by exact rn_inc_1 _) (by exact rfl) ?_
        refine rn_goto 10 (by exact dc_Gr_findOrder 20 rfl) (by exact rfl) ?_
        exact rn_weak _ (by repeat (first | exact rn_le_0 | apply rn_le_s | apply rn_le_x)) (ih _ h7)
      · replace h7 := rn_ifn c8 h7
        refine rn_if_eq_f 33 (by exact dc_Gr_findOrder 16 rfl) (by exact rfl) c8 ?_
        refine rn_iconst (v := (0 : Int32)) (by exact dc_Gr_findOrder 17 rfl) (by decide) ?_
        cases h7
        have hK := hr _ _ rfl
        subst hK
        exact rn_zreturn (by exact dc_Gr_findOrder 18 rfl) (by exact rfl) (by first | exact Or.inl rfl | exact Or.inr rfl)
def F_Gr_findOrder_L53 (l2 : Int32) : Nat → tG → Int32 → Int32 → Option (Int32 × tG)
  | 0, _, _, _ => none
  | n + 1, b, l1, l3 =>
    if (G_nonterminalCount b) ≤ l3 then (
      some (l1, b)
    ) else (
      Option.bind (aG (G_reached b) 6 l3) fun x2 =>
      Option.bind (F_Ji_bitCount  x2) fun x6 =>
      Option.bind (
        if ¬ x6 = l2 then (
          some ((l1 : Int32), b)
        ) else (
          Option.bind (aS (G_order b) 6 l1 l3) fun f14 =>
          some ((l1 + 1 : Int32), (G_heads b, G_bodies b, G_bodyLengths b, G_weights b, G_costs b, G_capitals b, f14, G_ruleCount b, G_nonterminalCount b, G_reached b))
        )
       : Option (Int32 × tG)) fun (y8, b9) =>
      F_Gr_findOrder_L53 l2 n b9 y8 (l3 + 1)
    )
set_option maxHeartbeats 4000000 in
set_option maxRecDepth 100000 in
theorem p_Gr_findOrder_L53_b {Z : rn_Z} {g1 g2 : Nat} {x : tX} {d : tD} {c : tC} {u : tU} {t : tT} {a : tG}  {m : tM} {o : tO} {E : List rn_C}  {l2 : Int32} {K : rn_K} {ca sa : Nat} {z1 : Int32} {bz : tG} (hx : Rn Z M_Gr_findOrder 90 [some (.ref 44), some (.int z1), some (.int l2), none] [] (emb g1 g2 x d c u t a bz m o E) ca sa K) (n : Nat) : ∀ (b : tG) (l1 : Int32) (l3 : Int32), F_Gr_findOrder_L53 l2 n b l1 l3 = some (z1, bz) → Rn Z M_Gr_findOrder 53 [some (.ref 44), some (.int l1), some (.int l2), some (.int l3)] [] (emb g1 g2 x d c u t a b m o E) ca sa K := by
  induction n with
  | zero =>
    intro b l1 l3 h
    rw [F_Gr_findOrder_L53] at h
    cases h
  | succ n ih =>
    intro b l1 l3 h
    rw [F_Gr_findOrder_L53] at h
    refine rn_iload_n (by exact dc_Gr_findOrder 31 rfl) (by exact rfl) ?_
    refine rn_aload_n (by exact dc_Gr_findOrder 32 rfl) (by exact rfl) ?_
    refine rn_getf (v := .int (G_nonterminalCount b)) fd_Gr_38 (by exact dc_Gr_findOrder 33 rfl) (by exact rfl) (by exact rfl) ?_
    by_cases c1 : (G_nonterminalCount b) ≤ l3
    · replace h := rn_ifp c1 h
      refine rn_icmp_ge_t 90 (by exact dc_Gr_findOrder 34 rfl) (by exact rfl) c1 ?_
      cases h
      exact rn_weak _ (by repeat (first | exact rn_le_0 | apply rn_le_s | apply rn_le_x)) hx
    · replace h := rn_ifn c1 h
      refine rn_icmp_ge_f 90 (by exact dc_Gr_findOrder 34 rfl) (by exact rfl) c1 ?_
      refine rn_aload_n (by exact dc_Gr_findOrder 35 rfl) (by exact rfl) ?_
      refine rn_getf (v := .ref 52) fd_Gr_41 (by exact dc_Gr_findOrder 36 rfl) (by exact rfl) (by exact rfl) ?_
      refine rn_iload_n (by exact dc_Gr_findOrder 37 rfl) (by exact rfl) ?_
      obtain ⟨x2, e3, h4⟩ := rn_bind h
      clear h
      refine rn_iaload (by exact dc_Gr_findOrder 38 rfl) (by exact rfl) e3 ?_
      obtain ⟨x6, e5, h7⟩ := rn_bind h4
      clear h4
      refine rn_invS0 (by exact c_Ji_bitCount e5) is_Gr_56 (by exact ⟨Nat.le_of_ble_eq_true rfl, Nat.le_of_ble_eq_true rfl⟩) (by exact dc_Gr_findOrder 39 rfl) (by exact rfl) (by exact rfl) (by exact Nat.le_of_ble_eq_true rfl) ?_
      show Rn _ _ 70 [some (.ref 44), some (.int l1), some (.int l2), some (.int l3)] [.int x6] (emb g1 g2 x d c u t a b m o E) _ _ _
      refine rn_iload_n (by exact dc_Gr_findOrder 40 rfl) (by exact rfl) ?_
      obtain ⟨⟨y8, b9⟩, e10, h12⟩ := rn_bind h7
      clear h7
      dsimp only at h12
      have jq11 : Rn Z M_Gr_findOrder 84 [some (.ref 44), some (.int y8), some (.int l2), some (.int l3)] [] (emb g1 g2 x d c u t a b9 m o E) ca sa K := by
        refine rn_iinc (ls' := [some (.ref 44), some (.int y8), some (.int l2), some (.int (l3 + 1))]) (by exact dc_Gr_findOrder 48 rfl) (by decide) (by exact rfl) (by exact rn_inc_1 _) (by exact rfl) ?_
        refine rn_goto 53 (by exact dc_Gr_findOrder 49 rfl) (by exact rfl) ?_
        exact rn_weak _ (by repeat (first | exact rn_le_0 | apply rn_le_s | apply rn_le_x)) (ih _ _ _ h12)
      by_cases c13 : ¬ x6 = l2
      · replace e10 := rn_ifp c13 e10
        refine rn_icmp_ne_t 84 (by exact dc_Gr_findOrder 41 rfl) (by exact rfl) c13 ?_
        cases e10
        exact rn_weak _ (by repeat (first | exact rn_le_0 | apply rn_le_s | apply rn_le_x)) jq11
      · replace e10 := rn_ifn c13 e10
        refine rn_icmp_ne_f 84 (by exact dc_Gr_findOrder 41 rfl) (by exact rfl) (Classical.not_not.mp c13) ?_
        refine rn_aload_n (by exact dc_Gr_findOrder 42 rfl) (by exact rfl) ?_
        refine rn_getf (v := .ref 51) fd_Gr_31 (by exact dc_Gr_findOrder 43 rfl) (by exact rfl) (by exact rfl) ?_
        refine rn_iload_n (by exact dc_Gr_findOrder 44 rfl) (by exact rfl) ?_
        refine rn_iload_n (by exact dc_Gr_findOrder 45 rfl) (by exact rfl) ?_
        obtain ⟨f14, e15, h16⟩ := rn_bind e10
        clear e10
        refine rn_iastore (w2 := (emb g1 g2 x d c u t a (G_heads b, G_bodies b, G_bodyLengths b, G_weights b, G_costs b, G_capitals b, f14, G_ruleCount b, G_nonterminalCount b, G_reached b) m o E)) (by exact dc_Gr_findOrder 46 rfl) (by exact rfl) e15 (by exact rfl) ?_
        refine rn_iinc (ls' := [some (.ref 44), some (.int (l1 + 1)), some (.int l2), some (.int l3)]) (by exact dc_Gr_findOrder 47 rfl) (by decide) (by exact rfl) (by exact rn_inc_1 _) (by exact rfl) ?_
        cases h16
        exact rn_weak _ (by repeat (first | exact rn_le_0 | apply rn_le_s | apply rn_le_x)) jq11
def F_Gr_findOrder_L43  : Nat → tG → Int32 → Int32 → Option tG
  | 0, _, _, _ => none
  | n + 1, b, l1, l2 =>
    if (G_nonterminalCount b) ≤ l2 then (
      some b
    ) else (
      Option.bind (F_Gr_findOrder_L53 l2 rn_fu b l1 (0 : Int32)) fun (y5, b6) =>
      F_Gr_findOrder_L43  n b6 y5 (l2 + 1)
    )
set_option maxHeartbeats 4000000 in
set_option maxRecDepth 100000 in
theorem p_Gr_findOrder_L43_b {Z : rn_Z} {g1 g2 : Nat} {x : tX} {d : tD} {c : tC} {u : tU} {t : tT} {a : tG}  {m : tM} {o : tO} {E : List rn_C}   {K : rn_K} {ca sa : Nat} {bz : tG} (hx : Rn Z M_Gr_findOrder 96 [none, none, none, none] [] (emb g1 g2 x d c u t a bz m o E) ca sa K) (n : Nat) : ∀ (b : tG) (l1 : Int32) (l2 : Int32), F_Gr_findOrder_L43  n b l1 l2 = some bz → Rn Z M_Gr_findOrder 43 [some (.ref 44), some (.int l1), some (.int l2), none] [] (emb g1 g2 x d c u t a b m o E) ca sa K := by
  induction n with
  | zero =>
    intro b l1 l2 h
    rw [F_Gr_findOrder_L43] at h
    cases h
  | succ n ih =>
    intro b l1 l2 h
    rw [F_Gr_findOrder_L43] at h
    refine rn_iload_n (by exact dc_Gr_findOrder 25 rfl) (by exact rfl) ?_
    refine rn_aload_n (by exact dc_Gr_findOrder 26 rfl) (by exact rfl) ?_
    refine rn_getf (v := .int (G_nonterminalCount b)) fd_Gr_38 (by exact dc_Gr_findOrder 27 rfl) (by exact rfl) (by exact rfl) ?_
    by_cases c1 : (G_nonterminalCount b) ≤ l2
    · replace h := rn_ifp c1 h
      refine rn_icmp_ge_t 96 (by exact dc_Gr_findOrder 28 rfl) (by exact rfl) c1 ?_
      cases h
      exact rn_weak _ (by repeat (first | exact rn_le_0 | apply rn_le_s | apply rn_le_x)) hx
    · replace h := rn_ifn c1 h
      refine rn_icmp_ge_f 96 (by exact dc_Gr_findOrder 28 rfl) (by exact rfl) c1 ?_
      refine rn_iconst (v := (0 : Int32)) (by exact dc_Gr_findOrder 29 rfl) (by decide) ?_
      refine rn_istore_n (ls' := [some (.ref 44), some (.int l1), some (.int l2), some (.int (0 : Int32))]) (by exact dc_Gr_findOrder 30 rfl) (by decide) (by exact rfl) ?_
      obtain ⟨⟨y5, b6⟩, e2, h4⟩ := rn_bind h
      clear h
      dsimp only at h4
      have jx3 : Rn Z M_Gr_findOrder 90 [some (.ref 44), some (.int y5), some (.int l2), none] [] (emb g1 g2 x d c u t a b6 m o E) ca sa K := by
        refine rn_iinc (ls' := [some (.ref 44), some (.int y5), some (.int (l2 + 1)), none]) (by exact dc_Gr_findOrder 50 rfl) (by decide) (by exact rfl) (by exact rn_inc_1 _) (by exact rfl) ?_
        refine rn_goto 43 (by exact dc_Gr_findOrder 51 rfl) (by exact rfl) ?_
        exact rn_weak _ (by repeat (first | exact rn_le_0 | apply rn_le_s | apply rn_le_x)) (ih _ _ _ h4)
      exact rn_weak _ (by repeat (first | exact rn_le_0 | apply rn_le_s | apply rn_le_x)) (p_Gr_findOrder_L53_b jx3 _ _ _ _ e2)
def F_Gr_findOrder (b : tG)  : Option (Int32 × tG) :=
  Option.bind (F_Gr_emptyable b ) fun x2 =>
  Option.bind (F_Gr_findReached b x2) fun b5 =>
  Option.bind (F_Gr_findOrder_L10 b5 rn_fu (0 : Int32)) fun z15 =>
  match z15 with
  | .inl r14 => some r14
  | .inr _ =>
    Option.bind (F_Gr_findOrder_L43  rn_fu b5 (0 : Int32) (0 : Int32)) fun b13 =>
    some ((1 : Int32), b13)
set_option maxHeartbeats 4000000 in
set_option maxRecDepth 100000 in
theorem c_Gr_findOrder_b {Z : rn_Z} {g1 g2 : Nat} {x : tX} {d : tD} {c : tC} {u : tU} {t : tT} {a : tG} {b : tG} {m : tM} {o : tO} {E : List rn_C}  {res : Int32} {b_r : tG} (h : F_Gr_findOrder b  = some (res, b_r)) : Call Z M_Gr_findOrder [.ref 44] (emb g1 g2 x d c u t a b m o E) 0 0 (some (.int res)) (emb g1 g2 x d c u t a b_r m o E) := by
  unfold F_Gr_findOrder at h
  refine rn_call (by decide) 3 (by exact Nat.le_of_ble_eq_true rfl) ?_
  show Rn Z M_Gr_findOrder 0 [some (.ref 44), none, none, none] [] (emb g1 g2 x d c u t a b m o E) 0 0 _
  refine rn_aload_n (by exact dc_Gr_findOrder 0 rfl) (by exact rfl) ?_
  refine rn_aload_n (by exact dc_Gr_findOrder 1 rfl) (by exact rfl) ?_
  obtain ⟨x2, e1, h3⟩ := rn_bind h
  clear h
  refine rn_invV0 (by exact c_Gr_emptyable_b e1) iv_Gr_44 (by exact ⟨Nat.le_of_ble_eq_true rfl, Nat.le_of_ble_eq_true rfl⟩) (by exact dc_Gr_findOrder 2 rfl) (by exact rfl) (by exact rfl) (by exact rfl) (by exact Nat.le_of_ble_eq_true rfl) ?_
  show Rn _ _ 5 [some (.ref 44), none, none, none] [.int x2, .ref 44] (emb g1 g2 x d c u t a b m o E) _ _ _
  obtain ⟨b5, e4, h6⟩ := rn_bind h3
  clear h3
  refine rn_invV0 (by exact c_Gr_findReached_b e4) iv_Gr_48 (by exact ⟨Nat.le_of_ble_eq_true rfl, Nat.le_of_ble_eq_true rfl⟩) (by exact dc_Gr_findOrder 3 rfl) (by exact rfl) (by exact rfl) (by exact rfl) (by exact Nat.le_of_ble_eq_true rfl) ?_
  show Rn _ _ 8 [some (.ref 44), none, none, none] [] (emb g1 g2 x d c u t a b5 m o E) _ _ _
  refine rn_iconst (v := (0 : Int32)) (by exact dc_Gr_findOrder 4 rfl) (by decide) ?_
  refine rn_istore_n (ls' := [some (.ref 44), some (.int (0 : Int32)), none, none]) (by exact dc_Gr_findOrder 5 rfl) (by decide) (by exact rfl) ?_
  obtain ⟨z15, e7, h9⟩ := rn_bind h6
  clear h6
  rcases z15 with ⟨w16, w17⟩ | _
  · dsimp only at h9
    cases h9
    exact rn_weak _ (by repeat (first | exact rn_le_0 | apply rn_le_s | apply rn_le_x)) (p_Gr_findOrder_L10_b (fun q => by cases q) (fun _ _ q => by cases q; rfl) _ _ e7)
  · dsimp only at h9
    have jx8 : Rn Z M_Gr_findOrder 39 [some (.ref 44), none, none, none] [] (emb g1 g2 x d c u t a b5 m o E) 0 0 (rn_Ret Z (some (.int res)) (emb g1 g2 x d c u t a b_r m o E)) := by
      refine rn_iconst (v := (0 : Int32)) (by exact dc_Gr_findOrder 21 rfl) (by decide) ?_
      refine rn_istore_n (ls' := [some (.ref 44), some (.int (0 : Int32)), none, none]) (by exact dc_Gr_findOrder 22 rfl) (by decide) (by exact rfl) ?_
      refine rn_iconst (v := (0 : Int32)) (by exact dc_Gr_findOrder 23 rfl) (by decide) ?_
      refine rn_istore_n (ls' := [some (.ref 44), some (.int (0 : Int32)), some (.int (0 : Int32)), none]) (by exact dc_Gr_findOrder 24 rfl) (by decide) (by exact rfl) ?_
      obtain ⟨b13, e10, h12⟩ := rn_bind h9
      clear h9
      have jx11 : Rn Z M_Gr_findOrder 96 [none, none, none, none] [] (emb g1 g2 x d c u t a b13 m o E) 0 0 (rn_Ret Z (some (.int res)) (emb g1 g2 x d c u t a b_r m o E)) := by
        refine rn_iconst (v := (1 : Int32)) (by exact dc_Gr_findOrder 52 rfl) (by decide) ?_
        cases h12
        exact rn_zreturn (by exact dc_Gr_findOrder 53 rfl) (by exact rfl) (by first | exact Or.inl rfl | exact Or.inr rfl)
      exact rn_weak _ (by repeat (first | exact rn_le_0 | apply rn_le_s | apply rn_le_x)) (p_Gr_findOrder_L43_b jx11 _ _ _ _ e10)
    exact rn_weak _ (by repeat (first | exact rn_le_0 | apply rn_le_s | apply rn_le_x)) (p_Gr_findOrder_L10_b (fun q => by cases q; exact jx8) (fun _ _ q => by cases q) _ _ e7)
def F_Rd_seen (d : tD) (r : tR)  : Option Int32 :=
  Option.bind (
    if (R_end r) ≤ (R_at r) then (
      some (-1 : Int32)
    ) else (
      Option.bind (aG (D_characters d) 300 (R_at r)) fun x6 =>
      some (x6 : Int32)
    )
   : Option Int32) fun y1 =>
  some y1
set_option maxHeartbeats 4000000 in
set_option maxRecDepth 100000 in
theorem c_Rd_seen {Z : rn_Z} {g1 g2 : Nat} {x : tX} {d : tD} {c : tC} {u : tU} {t : tT} {a : tG} {b : tG} {m : tM} {o : tO} {r : tR}  {res : Int32} (h : F_Rd_seen d r  = some res) : Call Z M_Rd_seen [.ref 77] (emb g1 g2 x d c u t a b m o [rd_cell r]) 0 0 (some (.int res)) (emb g1 g2 x d c u t a b m o [rd_cell r]) := by
  unfold F_Rd_seen at h
  refine rn_call (by decide) 0 (by exact Nat.le_of_ble_eq_true rfl) ?_
  show Rn Z M_Rd_seen 0 [some (.ref 77)] [] (emb g1 g2 x d c u t a b m o [rd_cell r]) 0 0 _
  refine rn_aload_n (by exact dc_Rd_seen 0 rfl) (by exact rfl) ?_
  refine rn_getf (v := .int (R_at r)) fd_Rd_19 (by exact dc_Rd_seen 1 rfl) (by exact rfl) (by exact rfl) ?_
  refine rn_aload_n (by exact dc_Rd_seen 2 rfl) (by exact rfl) ?_
  refine rn_getf (v := .int (R_end r)) fd_Rd_23 (by exact dc_Rd_seen 3 rfl) (by exact rfl) (by exact rfl) ?_
  obtain ⟨y1, e2, h4⟩ := rn_bind h
  clear h
  have jq3 : Rn Z M_Rd_seen 27 [none] [.int y1] (emb g1 g2 x d c u t a b m o [rd_cell r]) 0 0 (rn_Ret Z (some (.int res)) (emb g1 g2 x d c u t a b m o [rd_cell r])) := by
    cases h4
    exact rn_ireturn (by exact dc_Rd_seen 13 rfl) (by exact rfl)
  by_cases c5 : (R_end r) ≤ (R_at r)
  · replace e2 := rn_ifp c5 e2
    refine rn_icmp_ge_t 26 (by exact dc_Rd_seen 4 rfl) (by exact rfl) c5 ?_
    refine rn_iconst (v := (-1 : Int32)) (by exact dc_Rd_seen 12 rfl) (by decide) ?_
    cases e2
    exact rn_weak _ (by repeat (first | exact rn_le_0 | apply rn_le_s | apply rn_le_x)) jq3
  · replace e2 := rn_ifn c5 e2
    refine rn_icmp_ge_f 26 (by exact dc_Rd_seen 4 rfl) (by exact rfl) c5 ?_
    refine rn_aload_n (by exact dc_Rd_seen 5 rfl) (by exact rfl) ?_
    refine rn_getf (v := .ref 2) fd_Rd_9 (by exact dc_Rd_seen 6 rfl) (by exact rfl) (by exact rfl) ?_
    refine rn_getf (v := .ref 3) fd_Rd_112 (by exact dc_Rd_seen 7 rfl) (by exact rfl) (by exact rfl) ?_
    refine rn_aload_n (by exact dc_Rd_seen 8 rfl) (by exact rfl) ?_
    refine rn_getf (v := .int (R_at r)) fd_Rd_19 (by exact dc_Rd_seen 9 rfl) (by exact rfl) (by exact rfl) ?_
    obtain ⟨x6, e7, h8⟩ := rn_bind e2
    clear e2
    refine rn_caload (by exact dc_Rd_seen 10 rfl) (by exact rfl) e7 ?_
    refine rn_goto 27 (by exact dc_Rd_seen 11 rfl) (by exact rfl) ?_
    cases h8
    exact rn_weak _ (by repeat (first | exact rn_le_0 | apply rn_le_s | apply rn_le_x)) jq3
def F_Rd_sees (d : tD) (r : tR) (v0 : Int32) : Option Int32 :=
  Option.bind (F_Rd_seen d r ) fun x2 =>
  Option.bind (
    if ¬ x2 = v0 then (
      some (0 : Int32)
    ) else (
      some (1 : Int32)
    )
   : Option Int32) fun y4 =>
  Option.bind (rn_bl y4) fun y9 =>
  some y9
set_option maxHeartbeats 4000000 in
set_option maxRecDepth 100000 in
theorem c_Rd_sees {Z : rn_Z} {g1 g2 : Nat} {x : tX} {d : tD} {c : tC} {u : tU} {t : tT} {a : tG} {b : tG} {m : tM} {o : tO} {r : tR} {v0 : Int32} {res : Int32} (h : F_Rd_sees d r v0 = some res) : Call Z M_Rd_sees [.ref 77, .int v0] (emb g1 g2 x d c u t a b m o [rd_cell r]) 0 0 (some (.int res)) (emb g1 g2 x d c u t a b m o [rd_cell r]) := by
  unfold F_Rd_sees at h
  refine rn_call (by decide) 0 (by exact Nat.le_of_ble_eq_true rfl) ?_
  show Rn Z M_Rd_sees 0 [some (.ref 77), some (.int v0)] [] (emb g1 g2 x d c u t a b m o [rd_cell r]) 0 0 _
  refine rn_aload_n (by exact dc_Rd_sees 0 rfl) (by exact rfl) ?_
  obtain ⟨x2, e1, h3⟩ := rn_bind h
  clear h
  refine rn_invV0 (by exact c_Rd_seen e1) iv_Rd_71 (by exact ⟨Nat.le_of_ble_eq_true rfl, Nat.le_of_ble_eq_true rfl⟩) (by exact dc_Rd_sees 1 rfl) (by exact rfl) (by exact rfl) (by exact rfl) (by exact Nat.le_of_ble_eq_true rfl) ?_
  show Rn _ _ 4 [some (.ref 77), some (.int v0)] [.int x2] (emb g1 g2 x d c u t a b m o [rd_cell r]) _ _ _
  refine rn_iload_n (by exact dc_Rd_sees 2 rfl) (by exact rfl) ?_
  obtain ⟨y4, e5, h7⟩ := rn_bind h3
  clear h3
  have jq6 : Rn Z M_Rd_sees 13 [none, none] [.int y4] (emb g1 g2 x d c u t a b m o [rd_cell r]) 0 0 (rn_Ret Z (some (.int res)) (emb g1 g2 x d c u t a b m o [rd_cell r])) := by
    obtain ⟨y9, e10, h12⟩ := rn_bind h7
    clear h7
    obtain ⟨rfl, hb11⟩ := rn_bl_some e10
    cases h12
    exact rn_zreturn (by exact dc_Rd_sees 7 rfl) (by exact rfl) hb11
  by_cases c8 : ¬ x2 = v0
  · replace e5 := rn_ifp c8 e5
    refine rn_icmp_ne_t 12 (by exact dc_Rd_sees 3 rfl) (by exact rfl) c8 ?_
    refine rn_iconst (v := (0 : Int32)) (by exact dc_Rd_sees 6 rfl) (by decide) ?_
    cases e5
    exact rn_weak _ (by repeat (first | exact rn_le_0 | apply rn_le_s | apply rn_le_x)) jq6
  · replace e5 := rn_ifn c8 e5
    refine rn_icmp_ne_f 12 (by exact dc_Rd_sees 3 rfl) (by exact rfl) (Classical.not_not.mp c8) ?_
    refine rn_iconst (v := (1 : Int32)) (by exact dc_Rd_sees 4 rfl) (by decide) ?_
    refine rn_goto 13 (by exact dc_Rd_sees 5 rfl) (by exact rfl) ?_
    cases e5
    exact rn_weak _ (by repeat (first | exact rn_le_0 | apply rn_le_s | apply rn_le_x)) jq6
def F_Rd_isLeftOut (d : tD) (r : tR)  : Option Int32 :=
  Option.bind (
    if (R_at r) = (R_end r) then (
      some (1 : Int32)
    ) else (
      Option.bind (F_Rd_sees d r (35 : Int32)) fun x7 =>
      if x7 = 0 then (
        some (0 : Int32)
      ) else (
        some (1 : Int32)
      )
    )
   : Option Int32) fun y1 =>
  Option.bind (rn_bl y1) fun y10 =>
  some y10
set_option maxHeartbeats 4000000 in
set_option maxRecDepth 100000 in
theorem c_Rd_isLeftOut {Z : rn_Z} {g1 g2 : Nat} {x : tX} {d : tD} {c : tC} {u : tU} {t : tT} {a : tG} {b : tG} {m : tM} {o : tO} {r : tR}  {res : Int32} (h : F_Rd_isLeftOut d r  = some res) : Call Z M_Rd_isLeftOut [.ref 77] (emb g1 g2 x d c u t a b m o [rd_cell r]) 0 0 (some (.int res)) (emb g1 g2 x d c u t a b m o [rd_cell r]) := by
  unfold F_Rd_isLeftOut at h
  refine rn_call (by decide) 0 (by exact Nat.le_of_ble_eq_true rfl) ?_
  show Rn Z M_Rd_isLeftOut 0 [some (.ref 77)] [] (emb g1 g2 x d c u t a b m o [rd_cell r]) 0 0 _
  refine rn_aload_n (by exact dc_Rd_isLeftOut 0 rfl) (by exact rfl) ?_
  refine rn_getf (v := .int (R_at r)) fd_Rd_19 (by exact dc_Rd_isLeftOut 1 rfl) (by exact rfl) (by exact rfl) ?_
  refine rn_aload_n (by exact dc_Rd_isLeftOut 2 rfl) (by exact rfl) ?_
  refine rn_getf (v := .int (R_end r)) fd_Rd_23 (by exact dc_Rd_isLeftOut 3 rfl) (by exact rfl) (by exact rfl) ?_
  obtain ⟨y1, e2, h4⟩ := rn_bind h
  clear h
  have jq3 : Rn Z M_Rd_isLeftOut 25 [none] [.int y1] (emb g1 g2 x d c u t a b m o [rd_cell r]) 0 0 (rn_Ret Z (some (.int res)) (emb g1 g2 x d c u t a b m o [rd_cell r])) := by
    obtain ⟨y10, e11, h13⟩ := rn_bind h4
    clear h4
    obtain ⟨rfl, hb12⟩ := rn_bl_some e11
    cases h13
    exact rn_zreturn (by exact dc_Rd_isLeftOut 12 rfl) (by exact rfl) hb12
  by_cases c5 : (R_at r) = (R_end r)
  · replace e2 := rn_ifp c5 e2
    refine rn_icmp_eq_t 20 (by exact dc_Rd_isLeftOut 4 rfl) (by exact rfl) c5 ?_
    refine rn_iconst (v := (1 : Int32)) (by exact dc_Rd_isLeftOut 9 rfl) (by decide) ?_
    refine rn_goto 25 (by exact dc_Rd_isLeftOut 10 rfl) (by exact rfl) ?_
    cases e2
    exact rn_weak _ (by repeat (first | exact rn_le_0 | apply rn_le_s | apply rn_le_x)) jq3
  · replace e2 := rn_ifn c5 e2
    refine rn_icmp_eq_f 20 (by exact dc_Rd_isLeftOut 4 rfl) (by exact rfl) c5 ?_
    refine rn_aload_n (by exact dc_Rd_isLeftOut 5 rfl) (by exact rfl) ?_
    refine rn_bipush (v := (35 : Int32)) (by exact dc_Rd_isLeftOut 6 rfl) (by decide) ?_
    obtain ⟨x7, e6, h8⟩ := rn_bind e2
    clear e2
    refine rn_invV0 (by exact c_Rd_sees e6) iv_Rd_51 (by exact ⟨Nat.le_of_ble_eq_true rfl, Nat.le_of_ble_eq_true rfl⟩) (by exact dc_Rd_isLeftOut 7 rfl) (by exact rfl) (by exact rfl) (by exact rfl) (by exact Nat.le_of_ble_eq_true rfl) ?_
    show Rn _ _ 17 [some (.ref 77)] [.int x7] (emb g1 g2 x d c u t a b m o [rd_cell r]) _ _ _
    by_cases c9 : x7 = 0
    · replace h8 := rn_ifp c9 h8
      refine rn_if_eq_t 24 (by exact dc_Rd_isLeftOut 8 rfl) (by exact rfl) c9 ?_
      refine rn_iconst (v := (0 : Int32)) (by exact dc_Rd_isLeftOut 11 rfl) (by decide) ?_
      cases h8
      exact rn_weak _ (by repeat (first | exact rn_le_0 | apply rn_le_s | apply rn_le_x)) jq3
    · replace h8 := rn_ifn c9 h8
      refine rn_if_eq_f 24 (by exact dc_Rd_isLeftOut 8 rfl) (by exact rfl) c9 ?_
      refine rn_iconst (v := (1 : Int32)) (by exact dc_Rd_isLeftOut 9 rfl) (by decide) ?_
      refine rn_goto 25 (by exact dc_Rd_isLeftOut 10 rfl) (by exact rfl) ?_
      cases h8
      exact rn_weak _ (by repeat (first | exact rn_le_0 | apply rn_le_s | apply rn_le_x)) jq3
def F_Wt_isCapital (v0 : Int32) : Option Int32 :=
  Option.bind (
    if v0 < (65 : Int32) then (
      some (0 : Int32)
    ) else (
      if (90 : Int32) < v0 then (
        some (0 : Int32)
      ) else (
        some (1 : Int32)
      )
    )
   : Option Int32) fun y1 =>
  Option.bind (rn_bl y1) fun y7 =>
  some y7
set_option maxHeartbeats 4000000 in
set_option maxRecDepth 100000 in
theorem c_Wt_isCapital {Z : rn_Z} {g1 g2 : Nat} {x : tX} {d : tD} {c : tC} {u : tU} {t : tT} {a : tG} {b : tG} {m : tM} {o : tO} {E : List rn_C} {v0 : Int32} {res : Int32} (h : F_Wt_isCapital  v0 = some res) : Call Z M_Wt_isCapital [.int v0] (emb g1 g2 x d c u t a b m o E) 0 0 (some (.int res)) (emb g1 g2 x d c u t a b m o E) := by
  unfold F_Wt_isCapital at h
  refine rn_call (by decide) 0 (by exact Nat.le_of_ble_eq_true rfl) ?_
  show Rn Z M_Wt_isCapital 0 [some (.int v0)] [] (emb g1 g2 x d c u t a b m o E) 0 0 _
  refine rn_iload_n (by exact dc_Wt_isCapital 0 rfl) (by exact rfl) ?_
  refine rn_bipush (v := (65 : Int32)) (by exact dc_Wt_isCapital 1 rfl) (by decide) ?_
  obtain ⟨y1, e2, h4⟩ := rn_bind h
  clear h
  have jq3 : Rn Z M_Wt_isCapital 17 [none] [.int y1] (emb g1 g2 x d c u t a b m o E) 0 0 (rn_Ret Z (some (.int res)) (emb g1 g2 x d c u t a b m o E)) := by
    obtain ⟨y7, e8, h10⟩ := rn_bind h4
    clear h4
    obtain ⟨rfl, hb9⟩ := rn_bl_some e8
    cases h10
    exact rn_zreturn (by exact dc_Wt_isCapital 9 rfl) (by exact rfl) hb9
  by_cases c5 : v0 < (65 : Int32)
  · replace e2 := rn_ifp c5 e2
    refine rn_icmp_lt_t 16 (by exact dc_Wt_isCapital 2 rfl) (by exact rfl) c5 ?_
    refine rn_iconst (v := (0 : Int32)) (by exact dc_Wt_isCapital 8 rfl) (by decide) ?_
    cases e2
    exact rn_weak _ (by repeat (first | exact rn_le_0 | apply rn_le_s | apply rn_le_x)) jq3
  · replace e2 := rn_ifn c5 e2
    refine rn_icmp_lt_f 16 (by exact dc_Wt_isCapital 2 rfl) (by exact rfl) c5 ?_
    refine rn_iload_n (by exact dc_Wt_isCapital 3 rfl) (by exact rfl) ?_
    refine rn_bipush (v := (90 : Int32)) (by exact dc_Wt_isCapital 4 rfl) (by decide) ?_
    by_cases c6 : (90 : Int32) < v0
    · replace e2 := rn_ifp c6 e2
      refine rn_icmp_gt_t 16 (by exact dc_Wt_isCapital 5 rfl) (by exact rfl) c6 ?_
      refine rn_iconst (v := (0 : Int32)) (by exact dc_Wt_isCapital 8 rfl) (by decide) ?_
      cases e2
      exact rn_weak _ (by repeat (first | exact rn_le_0 | apply rn_le_s | apply rn_le_x)) jq3
    · replace e2 := rn_ifn c6 e2
      refine rn_icmp_gt_f 16 (by exact dc_Wt_isCapital 5 rfl) (by exact rfl) c6 ?_
      refine rn_iconst (v := (1 : Int32)) (by exact dc_Wt_isCapital 6 rfl) (by decide) ?_
      refine rn_goto 17 (by exact dc_Wt_isCapital 7 rfl) (by exact rfl) ?_
      cases e2
      exact rn_weak _ (by repeat (first | exact rn_le_0 | apply rn_le_s | apply rn_le_x)) jq3
def F_Gr_nonterminalOf_L2 (b : tG) (l1 : Int32) : Nat → Int32 → Option ((Int32 × tG) ⊕ Unit)
  | 0, _ => none
  | n + 1, l2 =>
    if (G_nonterminalCount b) ≤ l2 then (
      some (.inr ())
    ) else (
      Option.bind (aG (G_capitals b) 6 l2) fun x2 =>
      if ¬ x2 = l1 then (
        F_Gr_nonterminalOf_L2 b l1 n (l2 + 1)
      ) else (
        some (.inl (l2, b))
      )
    )
set_option maxHeartbeats 4000000 in
set_option maxRecDepth 100000 in
theorem p_Gr_nonterminalOf_L2_b {Z : rn_Z} {g1 g2 : Nat} {x : tX} {d : tD} {c : tC} {u : tU} {t : tT} {a : tG} {b : tG} {m : tM} {o : tO} {E : List rn_C}  {l1 : Int32} {K : rn_K} {ca sa : Nat} {out : ((Int32 × tG) ⊕ Unit)} (hx : out = .inr () → Rn Z M_Gr_nonterminalOf 28 [some (.ref 44), some (.int l1), none] [] (emb g1 g2 x d c u t a b m o E) ca sa K) (hr : ∀ (rv : Int32) (bw : tG), out = .inl (rv, bw) → K = rn_Ret Z (some (.int rv)) (emb g1 g2 x d c u t a bw m o E)) (n : Nat) : ∀ (l2 : Int32), F_Gr_nonterminalOf_L2 b l1 n l2 = some out → Rn Z M_Gr_nonterminalOf 2 [some (.ref 44), some (.int l1), some (.int l2)] [] (emb g1 g2 x d c u t a b m o E) ca sa K := by
  induction n with
  | zero =>
    intro l2 h
    rw [F_Gr_nonterminalOf_L2] at h
    cases h
  | succ n ih =>
    intro l2 h
    rw [F_Gr_nonterminalOf_L2] at h
    refine rn_iload_n (by exact dc_Gr_nonterminalOf 2 rfl) (by exact rfl) ?_
    refine rn_aload_n (by exact dc_Gr_nonterminalOf 3 rfl) (by exact rfl) ?_
    refine rn_getf (v := .int (G_nonterminalCount b)) fd_Gr_38 (by exact dc_Gr_nonterminalOf 4 rfl) (by exact rfl) (by exact rfl) ?_
    by_cases c1 : (G_nonterminalCount b) ≤ l2
    · replace h := rn_ifp c1 h
      refine rn_icmp_ge_t 28 (by exact dc_Gr_nonterminalOf 5 rfl) (by exact rfl) c1 ?_
      cases h
      exact rn_weak _ (by repeat (first | exact rn_le_0 | apply rn_le_s | apply rn_le_x)) (hx rfl)
    · replace h := rn_ifn c1 h
      refine rn_icmp_ge_f 28 (by exact dc_Gr_nonterminalOf 5 rfl) (by exact rfl) c1 ?_
      refine rn_aload_n (by exact dc_Gr_nonterminalOf 6 rfl) (by exact rfl) ?_
      refine rn_getf (v := .ref 50) fd_Gr_28 (by exact dc_Gr_nonterminalOf 7 rfl) (by exact rfl) (by exact rfl) ?_
      refine rn_iload_n (by exact dc_Gr_nonterminalOf 8 rfl) (by exact rfl) ?_
      obtain ⟨x2, e3, h4⟩ := rn_bind h
      clear h
      refine rn_iaload (by exact dc_Gr_nonterminalOf 9 rfl) (by exact rfl) e3 ?_
      refine rn_iload_n (by exact dc_Gr_nonterminalOf 10 rfl) (by exact rfl) ?_
      by_cases c5 : ¬ x2 = l1
      · replace h4 := rn_ifp c5 h4
        refine rn_icmp_ne_t 22 (by exact dc_Gr_nonterminalOf 11 rfl) (by exact rfl) c5 ?_
        refine rn_iinc (ls' := [some (.ref 44), some (.int l1), some (.int (l2 + 1))]) (by exact dc_Gr_nonterminalOf 14 rfl) (by decide) (by exact rfl) (by exact rn_inc_1 _) (by exact rfl) ?_
        refine rn_goto 2 (by exact dc_Gr_nonterminalOf 15 rfl) (by exact rfl) ?_
        exact rn_weak _ (by repeat (first | exact rn_le_0 | apply rn_le_s | apply rn_le_x)) (ih _ h4)
      · replace h4 := rn_ifn c5 h4
        refine rn_icmp_ne_f 22 (by exact dc_Gr_nonterminalOf 11 rfl) (by exact rfl) (Classical.not_not.mp c5) ?_
        refine rn_iload_n (by exact dc_Gr_nonterminalOf 12 rfl) (by exact rfl) ?_
        cases h4
        have hK := hr _ _ rfl
        subst hK
        exact rn_ireturn (by exact dc_Gr_nonterminalOf 13 rfl) (by exact rfl)
def F_Gr_nonterminalOf (b : tG) (v0 : Int32) : Option (Int32 × tG) :=
  Option.bind (F_Gr_nonterminalOf_L2 b v0 rn_fu (0 : Int32)) fun z9 =>
  match z9 with
  | .inl r8 => some r8
  | .inr _ =>
    if ¬ (G_nonterminalCount b) = (6 : Int32) then (
      Option.bind (aS (G_capitals b) 6 (G_nonterminalCount b) v0) fun f5 =>
      some (((G_nonterminalCount b) + (1 : Int32)) - (1 : Int32), (G_heads b, G_bodies b, G_bodyLengths b, G_weights b, G_costs b, f5, G_order b, G_ruleCount b, (G_nonterminalCount b) + (1 : Int32), G_reached b))
    ) else (
      some ((-1 : Int32), b)
    )
set_option maxHeartbeats 4000000 in
set_option maxRecDepth 100000 in
theorem c_Gr_nonterminalOf_b {Z : rn_Z} {g1 g2 : Nat} {x : tX} {d : tD} {c : tC} {u : tU} {t : tT} {a : tG} {b : tG} {m : tM} {o : tO} {E : List rn_C} {v0 : Int32} {res : Int32} {b_r : tG} (h : F_Gr_nonterminalOf b v0 = some (res, b_r)) : Call Z M_Gr_nonterminalOf [.ref 44, .int v0] (emb g1 g2 x d c u t a b m o E) 0 0 (some (.int res)) (emb g1 g2 x d c u t a b_r m o E) := by
  unfold F_Gr_nonterminalOf at h
  refine rn_call (by decide) 1 (by exact Nat.le_of_ble_eq_true rfl) ?_
  show Rn Z M_Gr_nonterminalOf 0 [some (.ref 44), some (.int v0), none] [] (emb g1 g2 x d c u t a b m o E) 0 0 _
  refine rn_iconst (v := (0 : Int32)) (by exact dc_Gr_nonterminalOf 0 rfl) (by decide) ?_
  refine rn_istore_n (ls' := [some (.ref 44), some (.int v0), some (.int (0 : Int32))]) (by exact dc_Gr_nonterminalOf 1 rfl) (by decide) (by exact rfl) ?_
  obtain ⟨z9, e1, h3⟩ := rn_bind h
  clear h
  rcases z9 with ⟨w10, w11⟩ | _
  · dsimp only at h3
    cases h3
    exact rn_weak _ (by repeat (first | exact rn_le_0 | apply rn_le_s | apply rn_le_x)) (p_Gr_nonterminalOf_L2_b (fun q => by cases q) (fun _ _ q => by cases q; rfl) _ _ e1)
  · dsimp only at h3
    have jx2 : Rn Z M_Gr_nonterminalOf 28 [some (.ref 44), some (.int v0), none] [] (emb g1 g2 x d c u t a b m o E) 0 0 (rn_Ret Z (some (.int res)) (emb g1 g2 x d c u t a b_r m o E)) := by
      refine rn_aload_n (by exact dc_Gr_nonterminalOf 16 rfl) (by exact rfl) ?_
      refine rn_getf (v := .int (G_nonterminalCount b)) fd_Gr_38 (by exact dc_Gr_nonterminalOf 17 rfl) (by exact rfl) (by exact rfl) ?_
      refine rn_bipush (v := (6 : Int32)) (by exact dc_Gr_nonterminalOf 18 rfl) (by decide) ?_
      by_cases c4 : ¬ (G_nonterminalCount b) = (6 : Int32)
      · replace h3 := rn_ifp c4 h3
        refine rn_icmp_ne_t 39 (by exact dc_Gr_nonterminalOf 19 rfl) (by exact rfl) c4 ?_
        refine rn_aload_n (by exact dc_Gr_nonterminalOf 22 rfl) (by exact rfl) ?_
        refine rn_getf (v := .ref 50) fd_Gr_28 (by exact dc_Gr_nonterminalOf 23 rfl) (by exact rfl) (by exact rfl) ?_
        refine rn_aload_n (by exact dc_Gr_nonterminalOf 24 rfl) (by exact rfl) ?_
        refine rn_getf (v := .int (G_nonterminalCount b)) fd_Gr_38 (by exact dc_Gr_nonterminalOf 25 rfl) (by exact rfl) (by exact rfl) ?_
        refine rn_iload_n (by exact dc_Gr_nonterminalOf 26 rfl) (by exact rfl) ?_
        obtain ⟨f5, e6, h7⟩ := rn_bind h3
        clear h3
        refine rn_iastore (w2 := (emb g1 g2 x d c u t a (G_heads b, G_bodies b, G_bodyLengths b, G_weights b, G_costs b, f5, G_order b, G_ruleCount b, G_nonterminalCount b, G_reached b) m o E)) (by exact dc_Gr_nonterminalOf 27 rfl) (by exact rfl) e6 (by exact rfl) ?_
        refine rn_aload_n (by exact dc_Gr_nonterminalOf 28 rfl) (by exact rfl) ?_
        refine rn_dup (by exact dc_Gr_nonterminalOf 29 rfl) (by exact rfl) ?_
        refine rn_getf (v := .int (G_nonterminalCount b)) fd_Gr_38 (by exact dc_Gr_nonterminalOf 30 rfl) (by exact rfl) (by exact rfl) ?_
        refine rn_iconst (v := (1 : Int32)) (by exact dc_Gr_nonterminalOf 31 rfl) (by decide) ?_
        refine rn_iadd (by exact dc_Gr_nonterminalOf 32 rfl) ?_
        refine rn_putf (w2 := (emb g1 g2 x d c u t a (G_heads b, G_bodies b, G_bodyLengths b, G_weights b, G_costs b, f5, G_order b, G_ruleCount b, (G_nonterminalCount b) + (1 : Int32), G_reached b) m o E)) fd_Gr_38 (by exact dc_Gr_nonterminalOf 33 rfl) (by exact rfl) (by exact rfl) (by exact Nat.le_of_ble_eq_true rfl) (by exact rfl) ?_
        refine rn_aload_n (by exact dc_Gr_nonterminalOf 34 rfl) (by exact rfl) ?_
        refine rn_getf (v := .int ((G_nonterminalCount b) + (1 : Int32))) fd_Gr_38 (by exact dc_Gr_nonterminalOf 35 rfl) (by exact rfl) (by exact rfl) ?_
        refine rn_iconst (v := (1 : Int32)) (by exact dc_Gr_nonterminalOf 36 rfl) (by decide) ?_
        refine rn_isub (by exact dc_Gr_nonterminalOf 37 rfl) ?_
        cases h7
        exact rn_ireturn (by exact dc_Gr_nonterminalOf 38 rfl) (by exact rfl)
      · replace h3 := rn_ifn c4 h3
        refine rn_icmp_ne_f 39 (by exact dc_Gr_nonterminalOf 19 rfl) (by exact rfl) (Classical.not_not.mp c4) ?_
        refine rn_iconst (v := (-1 : Int32)) (by exact dc_Gr_nonterminalOf 20 rfl) (by decide) ?_
        cases h3
        exact rn_ireturn (by exact dc_Gr_nonterminalOf 21 rfl) (by exact rfl)
    exact rn_weak _ (by repeat (first | exact rn_le_0 | apply rn_le_s | apply rn_le_x)) (p_Gr_nonterminalOf_L2_b (fun q => by cases q; exact jx2) (fun _ _ q => by cases q) _ _ e1)
def F_Rd_readSymbol (d : tD) (b : tG) (r : tR)  : Option (Int32 × tG × tR) :=
  Option.bind (F_Rd_seen d r ) fun x2 =>
  Option.bind (F_Wt_isCapital  x2) fun x5 =>
  Option.bind (
    if x5 = 0 then (
      some ((x2 : Int32), b)
    ) else (
      Option.bind (F_Gr_nonterminalOf b x2) fun (x14, b15) =>
      some ((x14 : Int32), b15)
    )
   : Option (Int32 × tG)) fun (y7, b8) =>
  some (y7, b8, ((R_at r) + (1 : Int32), R_end r))
set_option maxHeartbeats 4000000 in
set_option maxRecDepth 100000 in
theorem c_Rd_readSymbol {Z : rn_Z} {g1 g2 : Nat} {x : tX} {d : tD} {c : tC} {u : tU} {t : tT} {a : tG} {b : tG} {m : tM} {o : tO} {r : tR}  {res : Int32} {b_r : tG} {r_r : tR} (h : F_Rd_readSymbol d b r  = some (res, b_r, r_r)) : Call Z M_Rd_readSymbol [.ref 77] (emb g1 g2 x d c u t a b m o [rd_cell r]) 0 0 (some (.int res)) (emb g1 g2 x d c u t a b_r m o [rd_cell r_r]) := by
  unfold F_Rd_readSymbol at h
  refine rn_call (by decide) 1 (by exact Nat.le_of_ble_eq_true rfl) ?_
  show Rn Z M_Rd_readSymbol 0 [some (.ref 77), none] [] (emb g1 g2 x d c u t a b m o [rd_cell r]) 0 0 _
  refine rn_aload_n (by exact dc_Rd_readSymbol 0 rfl) (by exact rfl) ?_
  obtain ⟨x2, e1, h3⟩ := rn_bind h
  clear h
  refine rn_invV0 (by exact c_Rd_seen e1) iv_Rd_71 (by exact ⟨Nat.le_of_ble_eq_true rfl, Nat.le_of_ble_eq_true rfl⟩) (by exact dc_Rd_readSymbol 1 rfl) (by exact rfl) (by exact rfl) (by exact rfl) (by exact Nat.le_of_ble_eq_true rfl) ?_
  show Rn _ _ 4 [some (.ref 77), none] [.int x2] (emb g1 g2 x d c u t a b m o [rd_cell r]) _ _ _
  refine rn_istore_n (ls' := [some (.ref 77), some (.int x2)]) (by exact dc_Rd_readSymbol 2 rfl) (by decide) (by exact rfl) ?_
  refine rn_aload_n (by exact dc_Rd_readSymbol 3 rfl) (by exact rfl) ?_
  refine rn_dup (by exact dc_Rd_readSymbol 4 rfl) (by exact rfl) ?_
  refine rn_getf (v := .int (R_at r)) fd_Rd_19 (by exact dc_Rd_readSymbol 5 rfl) (by exact rfl) (by exact rfl) ?_
  refine rn_iconst (v := (1 : Int32)) (by exact dc_Rd_readSymbol 6 rfl) (by decide) ?_
  refine rn_iadd (by exact dc_Rd_readSymbol 7 rfl) ?_
  refine rn_putf (w2 := (emb g1 g2 x d c u t a b m o [rd_cell ((R_at r) + (1 : Int32), R_end r)])) fd_Rd_19 (by exact dc_Rd_readSymbol 8 rfl) (by exact rfl) (by exact rfl) (by exact Nat.le_of_ble_eq_true rfl) (by exact rfl) ?_
  refine rn_iload_n (by exact dc_Rd_readSymbol 9 rfl) (by exact rfl) ?_
  obtain ⟨x5, e4, h6⟩ := rn_bind h3
  clear h3
  refine rn_invS0 (by exact c_Wt_isCapital e4) is_Rd_74 (by exact ⟨Nat.le_of_ble_eq_true rfl, Nat.le_of_ble_eq_true rfl⟩) (by exact dc_Rd_readSymbol 10 rfl) (by exact rfl) (by exact rfl) (by exact Nat.le_of_ble_eq_true rfl) ?_
  show Rn _ _ 19 [some (.ref 77), some (.int x2)] [.int x5] (emb g1 g2 x d c u t a b m o [rd_cell ((R_at r) + (1 : Int32), R_end r)]) _ _ _
  obtain ⟨⟨y7, b8⟩, e9, h11⟩ := rn_bind h6
  clear h6
  dsimp only at h11
  have jq10 : Rn Z M_Rd_readSymbol 34 [none, none] [.int y7] (emb g1 g2 x d c u t a b8 m o [rd_cell ((R_at r) + (1 : Int32), R_end r)]) 0 0 (rn_Ret Z (some (.int res)) (emb g1 g2 x d c u t a b_r m o [rd_cell r_r])) := by
    cases h11
    exact rn_ireturn (by exact dc_Rd_readSymbol 18 rfl) (by exact rfl)
  by_cases c12 : x5 = 0
  · replace e9 := rn_ifp c12 e9
    refine rn_if_eq_t 33 (by exact dc_Rd_readSymbol 11 rfl) (by exact rfl) c12 ?_
    refine rn_iload_n (by exact dc_Rd_readSymbol 17 rfl) (by exact rfl) ?_
    cases e9
    exact rn_weak _ (by repeat (first | exact rn_le_0 | apply rn_le_s | apply rn_le_x)) jq10
  · replace e9 := rn_ifn c12 e9
    refine rn_if_eq_f 33 (by exact dc_Rd_readSymbol 11 rfl) (by exact rfl) c12 ?_
    refine rn_aload_n (by exact dc_Rd_readSymbol 12 rfl) (by exact rfl) ?_
    refine rn_getf (v := .ref 44) fd_Rd_15 (by exact dc_Rd_readSymbol 13 rfl) (by exact rfl) (by exact rfl) ?_
    refine rn_iload_n (by exact dc_Rd_readSymbol 14 rfl) (by exact rfl) ?_
    obtain ⟨⟨x14, b15⟩, e13, h16⟩ := rn_bind e9
    clear e9
    dsimp only at h16
    refine rn_invV0 (by exact c_Gr_nonterminalOf_b e13) iv_Rd_93 (by exact ⟨Nat.le_of_ble_eq_true rfl, Nat.le_of_ble_eq_true rfl⟩) (by exact dc_Rd_readSymbol 15 rfl) (by exact rfl) (by exact rfl) (by exact rfl) (by exact Nat.le_of_ble_eq_true rfl) ?_
    show Rn _ _ 30 [some (.ref 77), some (.int x2)] [.int x14] (emb g1 g2 x d c u t a b15 m o [rd_cell ((R_at r) + (1 : Int32), R_end r)]) _ _ _
    refine rn_goto 34 (by exact dc_Rd_readSymbol 16 rfl) (by exact rfl) ?_
    cases h16
    exact rn_weak _ (by repeat (first | exact rn_le_0 | apply rn_le_s | apply rn_le_x)) jq10
