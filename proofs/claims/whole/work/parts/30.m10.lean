def F_Md_number_L10 (l1 : Int32) : Nat → tM → Option tM
  | 0, _ => none
  | n + 1, m =>
    Option.bind (F_Md_isFigure m ) fun x2 =>
    if x2 = 0 then (
      some m
    ) else (
      if (l1 + (3 : Int32)) ≤ (M_at m) then (
        some m
      ) else (
        Option.bind (aG (M_src m) 300 (M_at m)) fun x6 =>
        F_Md_number_L10 l1 n (M_put_at (M_put_value m ((((10 : Int32) * (M_value m)) + x6) - (48 : Int32))) ((M_at (M_put_value m ((((10 : Int32) * (M_value m)) + x6) - (48 : Int32)))) + (1 : Int32)))
      )
    )
set_option maxHeartbeats 4000000 in
set_option maxRecDepth 100000 in
theorem p_Md_number_L10 {Z : rn_Z} {g1 g2 : Nat} {x : tX} {d : tD} {c : tC} {u : tU} {t : tT} {a : tG} {b : tG}  {o : tO} {E : List rn_C}  {l1 : Int32} {K : rn_K} {ca sa : Nat} {mz : tM} (hx : Rn Z M_Md_number 64 [some (.ref 53), some (.int l1)] [] (emb g1 g2 x d c u t a b mz o E) ca sa K) (n : Nat) : ∀ (m : tM), F_Md_number_L10 l1 n m = some mz → Rn Z M_Md_number 10 [some (.ref 53), some (.int l1)] [] (emb g1 g2 x d c u t a b m o E) ca sa K := by
  induction n with
  | zero =>
    intro m h
    rw [F_Md_number_L10] at h
    cases h
  | succ n ih =>
    intro m h
    rw [F_Md_number_L10] at h
    refine rn_aload_n (by exact dc_Md_number 6 rfl) (by exact rfl) ?_
    obtain ⟨x2, e1, h3⟩ := rn_bind h
    clear h
    refine rn_invV0 (by exact c_Md_isFigure e1) iv_Md_95 (by exact ⟨Nat.le_of_ble_eq_true rfl, Nat.le_of_ble_eq_true rfl⟩) (by exact dc_Md_number 7 rfl) (by exact rfl) (by exact rfl) (by exact rfl) (by exact Nat.le_of_ble_eq_true rfl) ?_
    show Rn _ _ 14 [some (.ref 53), some (.int l1)] [.int x2] (emb g1 g2 x d c u t a b m o E) _ _ _
    by_cases c4 : x2 = 0
    · replace h3 := rn_ifp c4 h3
      refine rn_if_eq_t 64 (by exact dc_Md_number 8 rfl) (by exact rfl) c4 ?_
      cases h3
      exact rn_weak _ (by repeat (first | exact rn_le_0 | apply rn_le_s | apply rn_le_x)) hx
    · replace h3 := rn_ifn c4 h3
      refine rn_if_eq_f 64 (by exact dc_Md_number 8 rfl) (by exact rfl) c4 ?_
      refine rn_aload_n (by exact dc_Md_number 9 rfl) (by exact rfl) ?_
      refine rn_getf (v := .int (M_at m)) fd_Md_86 (by exact dc_Md_number 10 rfl) (by exact rfl) (by exact rfl) ?_
      refine rn_iload_n (by exact dc_Md_number 11 rfl) (by exact rfl) ?_
      refine rn_iconst (v := (3 : Int32)) (by exact dc_Md_number 12 rfl) (by decide) ?_
      refine rn_iadd (by exact dc_Md_number 13 rfl) ?_
      by_cases c5 : (l1 + (3 : Int32)) ≤ (M_at m)
      · replace h3 := rn_ifp c5 h3
        refine rn_icmp_ge_t 64 (by exact dc_Md_number 14 rfl) (by exact rfl) c5 ?_
        cases h3
        exact rn_weak _ (by repeat (first | exact rn_le_0 | apply rn_le_s | apply rn_le_x)) hx
      · replace h3 := rn_ifn c5 h3
        refine rn_icmp_ge_f 64 (by exact dc_Md_number 14 rfl) (by exact rfl) c5 ?_
        refine rn_aload_n (by exact dc_Md_number 15 rfl) (by exact rfl) ?_
        refine rn_bipush (v := (10 : Int32)) (by exact dc_Md_number 16 rfl) (by decide) ?_
        refine rn_aload_n (by exact dc_Md_number 17 rfl) (by exact rfl) ?_
        refine rn_getf (v := .int (M_value m)) fd_Md_92 (by exact dc_Md_number 18 rfl) (by exact rfl) (by exact rfl) ?_
        refine rn_imul (by exact dc_Md_number 19 rfl) ?_
        refine rn_aload_n (by exact dc_Md_number 20 rfl) (by exact rfl) ?_
        refine rn_getf (v := .ref 55) fd_Md_13 (by exact dc_Md_number 21 rfl) (by exact rfl) (by exact rfl) ?_
        refine rn_aload_n (by exact dc_Md_number 22 rfl) (by exact rfl) ?_
        refine rn_getf (v := .int (M_at m)) fd_Md_86 (by exact dc_Md_number 23 rfl) (by exact rfl) (by exact rfl) ?_
        obtain ⟨x6, e7, h8⟩ := rn_bind h3
        clear h3
        refine rn_iaload (by exact dc_Md_number 24 rfl) (by exact rfl) e7 ?_
        refine rn_iadd (by exact dc_Md_number 25 rfl) ?_
        refine rn_bipush (v := (48 : Int32)) (by exact dc_Md_number 26 rfl) (by decide) ?_
        refine rn_isub (by exact dc_Md_number 27 rfl) ?_
        refine rn_putf (w2 := (emb g1 g2 x d c u t a b (M_put_value m ((((10 : Int32) * (M_value m)) + x6) - (48 : Int32))) o E)) fd_Md_92 (by exact dc_Md_number 28 rfl) (by exact rfl) (by exact rfl) (by exact Nat.le_of_ble_eq_true rfl) (by exact sm_value) ?_
        refine rn_aload_n (by exact dc_Md_number 29 rfl) (by exact rfl) ?_
        refine rn_dup (by exact dc_Md_number 30 rfl) (by exact rfl) ?_
        refine rn_getf (v := .int (M_at (M_put_value m ((((10 : Int32) * (M_value m)) + x6) - (48 : Int32))))) fd_Md_86 (by exact dc_Md_number 31 rfl) (by exact rfl) (by exact rfl) ?_
        refine rn_iconst (v := (1 : Int32)) (by exact dc_Md_number 32 rfl) (by decide) ?_
        refine rn_iadd (by exact dc_Md_number 33 rfl) ?_
        refine rn_putf (w2 := (emb g1 g2 x d c u t a b (M_put_at (M_put_value m ((((10 : Int32) * (M_value m)) + x6) - (48 : Int32))) ((M_at (M_put_value m ((((10 : Int32) * (M_value m)) + x6) - (48 : Int32)))) + (1 : Int32))) o E)) fd_Md_86 (by exact dc_Md_number 34 rfl) (by exact rfl) (by exact rfl) (by exact Nat.le_of_ble_eq_true rfl) (by exact sm_at) ?_
        refine rn_goto 10 (by exact dc_Md_number 35 rfl) (by exact rfl) ?_
        exact rn_weak _ (by repeat (first | exact rn_le_0 | apply rn_le_s | apply rn_le_x)) (ih _ h8)
def F_Md_number (m : tM)  : Option (Int32 × tM) :=
  Option.bind (F_Md_number_L10 (M_at m) rn_fu (M_put_value m (0 : Int32))) fun m4 =>
  Option.bind (
    if (M_at m4) ≤ (M_at m) then (
      some (0 : Int32)
    ) else (
      Option.bind (F_Md_isFigure m4 ) fun x11 =>
      if ¬ x11 = 0 then (
        some (0 : Int32)
      ) else (
        some (1 : Int32)
      )
    )
   : Option Int32) fun y5 =>
  Option.bind (rn_bl y5) fun y14 =>
  some (y14, m4)
set_option maxHeartbeats 4000000 in
set_option maxRecDepth 100000 in
theorem c_Md_number {Z : rn_Z} {g1 g2 : Nat} {x : tX} {d : tD} {c : tC} {u : tU} {t : tT} {a : tG} {b : tG} {m : tM} {o : tO} {E : List rn_C}  {res : Int32} {m_r : tM} (h : F_Md_number m  = some (res, m_r)) : Call Z M_Md_number [.ref 53] (emb g1 g2 x d c u t a b m o E) 0 0 (some (.int res)) (emb g1 g2 x d c u t a b m_r o E) := by
  unfold F_Md_number at h
  refine rn_call (by decide) 1 (by exact Nat.le_of_ble_eq_true rfl) ?_
  show Rn Z M_Md_number 0 [some (.ref 53), none] [] (emb g1 g2 x d c u t a b m o E) 0 0 _
  refine rn_aload_n (by exact dc_Md_number 0 rfl) (by exact rfl) ?_
  refine rn_getf (v := .int (M_at m)) fd_Md_86 (by exact dc_Md_number 1 rfl) (by exact rfl) (by exact rfl) ?_
  refine rn_istore_n (ls' := [some (.ref 53), some (.int (M_at m))]) (by exact dc_Md_number 2 rfl) (by decide) (by exact rfl) ?_
  refine rn_aload_n (by exact dc_Md_number 3 rfl) (by exact rfl) ?_
  refine rn_iconst (v := (0 : Int32)) (by exact dc_Md_number 4 rfl) (by decide) ?_
  refine rn_putf (w2 := (emb g1 g2 x d c u t a b (M_put_value m (0 : Int32)) o E)) fd_Md_92 (by exact dc_Md_number 5 rfl) (by exact rfl) (by exact rfl) (by exact Nat.le_of_ble_eq_true rfl) (by exact sm_value) ?_
  obtain ⟨m4, e1, h3⟩ := rn_bind h
  clear h
  have jx2 : Rn Z M_Md_number 64 [some (.ref 53), some (.int (M_at m))] [] (emb g1 g2 x d c u t a b m4 o E) 0 0 (rn_Ret Z (some (.int res)) (emb g1 g2 x d c u t a b m_r o E)) := by
    refine rn_aload_n (by exact dc_Md_number 36 rfl) (by exact rfl) ?_
    refine rn_getf (v := .int (M_at m4)) fd_Md_86 (by exact dc_Md_number 37 rfl) (by exact rfl) (by exact rfl) ?_
    refine rn_iload_n (by exact dc_Md_number 38 rfl) (by exact rfl) ?_
    obtain ⟨y5, e6, h8⟩ := rn_bind h3
    clear h3
    have jq7 : Rn Z M_Md_number 84 [none, none] [.int y5] (emb g1 g2 x d c u t a b m4 o E) 0 0 (rn_Ret Z (some (.int res)) (emb g1 g2 x d c u t a b m_r o E)) := by
      obtain ⟨y14, e15, h17⟩ := rn_bind h8
      clear h8
      obtain ⟨rfl, hb16⟩ := rn_bl_some e15
      cases h17
      exact rn_zreturn (by exact dc_Md_number 46 rfl) (by exact rfl) hb16
    by_cases c9 : (M_at m4) ≤ (M_at m)
    · replace e6 := rn_ifp c9 e6
      refine rn_icmp_le_t 83 (by exact dc_Md_number 39 rfl) (by exact rfl) c9 ?_
      refine rn_iconst (v := (0 : Int32)) (by exact dc_Md_number 45 rfl) (by decide) ?_
      cases e6
      exact rn_weak _ (by repeat (first | exact rn_le_0 | apply rn_le_s | apply rn_le_x)) jq7
    · replace e6 := rn_ifn c9 e6
      refine rn_icmp_le_f 83 (by exact dc_Md_number 39 rfl) (by exact rfl) c9 ?_
      refine rn_aload_n (by exact dc_Md_number 40 rfl) (by exact rfl) ?_
      obtain ⟨x11, e10, h12⟩ := rn_bind e6
      clear e6
      refine rn_invV0 (by exact c_Md_isFigure e10) iv_Md_95 (by exact ⟨Nat.le_of_ble_eq_true rfl, Nat.le_of_ble_eq_true rfl⟩) (by exact dc_Md_number 41 rfl) (by exact rfl) (by exact rfl) (by exact rfl) (by exact Nat.le_of_ble_eq_true rfl) ?_
      show Rn _ _ 76 [some (.ref 53), some (.int (M_at m))] [.int x11] (emb g1 g2 x d c u t a b m4 o E) _ _ _
      by_cases c13 : ¬ x11 = 0
      · replace h12 := rn_ifp c13 h12
        refine rn_if_ne_t 83 (by exact dc_Md_number 42 rfl) (by exact rfl) c13 ?_
        refine rn_iconst (v := (0 : Int32)) (by exact dc_Md_number 45 rfl) (by decide) ?_
        cases h12
        exact rn_weak _ (by repeat (first | exact rn_le_0 | apply rn_le_s | apply rn_le_x)) jq7
      · replace h12 := rn_ifn c13 h12
        refine rn_if_ne_f 83 (by exact dc_Md_number 42 rfl) (by exact rfl) (Classical.not_not.mp c13) ?_
        refine rn_iconst (v := (1 : Int32)) (by exact dc_Md_number 43 rfl) (by decide) ?_
        refine rn_goto 84 (by exact dc_Md_number 44 rfl) (by exact rfl) ?_
        cases h12
        exact rn_weak _ (by repeat (first | exact rn_le_0 | apply rn_le_s | apply rn_le_x)) jq7
  exact rn_weak _ (by repeat (first | exact rn_le_0 | apply rn_le_s | apply rn_le_x)) (p_Md_number_L10 jx2 _ _ e1)
def F_Md_symbol_L2 (m : tM) (l1 : Int32) : Nat → Int32 → Option ((Int32 × tM) ⊕ Unit)
  | 0, _ => none
  | n + 1, l2 =>
    if (M_symbols m) ≤ l2 then (
      some (.inr ())
    ) else (
      Option.bind (aG (M_names m) 6 l2) fun x2 =>
      if ¬ x2 = l1 then (
        F_Md_symbol_L2 m l1 n (l2 + 1)
      ) else (
        some (.inl (l2, m))
      )
    )
set_option maxHeartbeats 4000000 in
set_option maxRecDepth 100000 in
theorem p_Md_symbol_L2 {Z : rn_Z} {g1 g2 : Nat} {x : tX} {d : tD} {c : tC} {u : tU} {t : tT} {a : tG} {b : tG} {m : tM} {o : tO} {E : List rn_C}  {l1 : Int32} {K : rn_K} {ca sa : Nat} {out : ((Int32 × tM) ⊕ Unit)} (hx : out = .inr () → Rn Z M_Md_symbol 28 [some (.ref 53), some (.int l1), none] [] (emb g1 g2 x d c u t a b m o E) ca sa K) (hr : ∀ (rv : Int32) (mw : tM), out = .inl (rv, mw) → K = rn_Ret Z (some (.int rv)) (emb g1 g2 x d c u t a b mw o E)) (n : Nat) : ∀ (l2 : Int32), F_Md_symbol_L2 m l1 n l2 = some out → Rn Z M_Md_symbol 2 [some (.ref 53), some (.int l1), some (.int l2)] [] (emb g1 g2 x d c u t a b m o E) ca sa K := by
  induction n with
  | zero =>
    intro l2 h
    rw [F_Md_symbol_L2] at h
    cases h
  | succ n ih =>
    intro l2 h
    rw [F_Md_symbol_L2] at h
    refine rn_iload_n (by exact dc_Md_symbol 2 rfl) (by exact rfl) ?_
    refine rn_aload_n (by exact dc_Md_symbol 3 rfl) (by exact rfl) ?_
    refine rn_getf (v := .int (M_symbols m)) fd_Md_99 (by exact dc_Md_symbol 4 rfl) (by exact rfl) (by exact rfl) ?_
    by_cases c1 : (M_symbols m) ≤ l2
    · replace h := rn_ifp c1 h
      refine rn_icmp_ge_t 28 (by exact dc_Md_symbol 5 rfl) (by exact rfl) c1 ?_
      cases h
      exact rn_weak _ (by repeat (first | exact rn_le_0 | apply rn_le_s | apply rn_le_x)) (hx rfl)
    · replace h := rn_ifn c1 h
      refine rn_icmp_ge_f 28 (by exact dc_Md_symbol 5 rfl) (by exact rfl) c1 ?_
      refine rn_aload_n (by exact dc_Md_symbol 6 rfl) (by exact rfl) ?_
      refine rn_getf (v := .ref 62) fd_Md_35 (by exact dc_Md_symbol 7 rfl) (by exact rfl) (by exact rfl) ?_
      refine rn_iload_n (by exact dc_Md_symbol 8 rfl) (by exact rfl) ?_
      obtain ⟨x2, e3, h4⟩ := rn_bind h
      clear h
      refine rn_iaload (by exact dc_Md_symbol 9 rfl) (by exact rfl) e3 ?_
      refine rn_iload_n (by exact dc_Md_symbol 10 rfl) (by exact rfl) ?_
      by_cases c5 : ¬ x2 = l1
      · replace h4 := rn_ifp c5 h4
        refine rn_icmp_ne_t 22 (by exact dc_Md_symbol 11 rfl) (by exact rfl) c5 ?_
        refine rn_iinc (ls' := [some (.ref 53), some (.int l1), some (.int (l2 + 1))]) (by exact dc_Md_symbol 14 rfl) (by decide) (by exact rfl) (by exact rn_inc_1 _) (by exact rfl) ?_
        refine rn_goto 2 (by exact dc_Md_symbol 15 rfl) (by exact rfl) ?_
        exact rn_weak _ (by repeat (first | exact rn_le_0 | apply rn_le_s | apply rn_le_x)) (ih _ h4)
      · replace h4 := rn_ifn c5 h4
        refine rn_icmp_ne_f 22 (by exact dc_Md_symbol 11 rfl) (by exact rfl) (Classical.not_not.mp c5) ?_
        refine rn_iload_n (by exact dc_Md_symbol 12 rfl) (by exact rfl) ?_
        cases h4
        have hK := hr _ _ rfl
        subst hK
        exact rn_ireturn (by exact dc_Md_symbol 13 rfl) (by exact rfl)
def F_Md_symbol (m : tM) (v0 : Int32) : Option (Int32 × tM) :=
  Option.bind (F_Md_symbol_L2 m v0 rn_fu (0 : Int32)) fun z9 =>
  match z9 with
  | .inl r8 => some r8
  | .inr _ =>
    if ¬ (M_symbols m) = (6 : Int32) then (
      Option.bind (aS (M_names m) 6 (M_symbols m) v0) fun f5 =>
      some ((M_symbols (M_put_symbols (M_put_names m f5) ((M_symbols (M_put_names m f5)) + (1 : Int32)))) - (1 : Int32), (M_put_symbols (M_put_names m f5) ((M_symbols (M_put_names m f5)) + (1 : Int32))))
    ) else (
      some ((-1 : Int32), m)
    )
set_option maxHeartbeats 4000000 in
set_option maxRecDepth 100000 in
theorem c_Md_symbol {Z : rn_Z} {g1 g2 : Nat} {x : tX} {d : tD} {c : tC} {u : tU} {t : tT} {a : tG} {b : tG} {m : tM} {o : tO} {E : List rn_C} {v0 : Int32} {res : Int32} {m_r : tM} (h : F_Md_symbol m v0 = some (res, m_r)) : Call Z M_Md_symbol [.ref 53, .int v0] (emb g1 g2 x d c u t a b m o E) 0 0 (some (.int res)) (emb g1 g2 x d c u t a b m_r o E) := by
  unfold F_Md_symbol at h
  refine rn_call (by decide) 1 (by exact Nat.le_of_ble_eq_true rfl) ?_
  show Rn Z M_Md_symbol 0 [some (.ref 53), some (.int v0), none] [] (emb g1 g2 x d c u t a b m o E) 0 0 _
  refine rn_iconst (v := (0 : Int32)) (by exact dc_Md_symbol 0 rfl) (by decide) ?_
  refine rn_istore_n (ls' := [some (.ref 53), some (.int v0), some (.int (0 : Int32))]) (by exact dc_Md_symbol 1 rfl) (by decide) (by exact rfl) ?_
  obtain ⟨z9, e1, h3⟩ := rn_bind h
  clear h
  rcases z9 with ⟨w10, w11⟩ | _
  · dsimp only at h3
    cases h3
    exact rn_weak _ (by repeat (first | exact rn_le_0 | apply rn_le_s | apply rn_le_x)) (p_Md_symbol_L2 (fun q => by cases q) (fun _ _ q => by cases q; rfl) _ _ e1)
  · dsimp only at h3
    have jx2 : Rn Z M_Md_symbol 28 [some (.ref 53), some (.int v0), none] [] (emb g1 g2 x d c u t a b m o E) 0 0 (rn_Ret Z (some (.int res)) (emb g1 g2 x d c u t a b m_r o E)) := by
      refine rn_aload_n (by exact dc_Md_symbol 16 rfl) (by exact rfl) ?_
      refine rn_getf (v := .int (M_symbols m)) fd_Md_99 (by exact dc_Md_symbol 17 rfl) (by exact rfl) (by exact rfl) ?_
      refine rn_bipush (v := (6 : Int32)) (by exact dc_Md_symbol 18 rfl) (by decide) ?_
      by_cases c4 : ¬ (M_symbols m) = (6 : Int32)
      · replace h3 := rn_ifp c4 h3
        refine rn_icmp_ne_t 39 (by exact dc_Md_symbol 19 rfl) (by exact rfl) c4 ?_
        refine rn_aload_n (by exact dc_Md_symbol 22 rfl) (by exact rfl) ?_
        refine rn_getf (v := .ref 62) fd_Md_35 (by exact dc_Md_symbol 23 rfl) (by exact rfl) (by exact rfl) ?_
        refine rn_aload_n (by exact dc_Md_symbol 24 rfl) (by exact rfl) ?_
        refine rn_getf (v := .int (M_symbols m)) fd_Md_99 (by exact dc_Md_symbol 25 rfl) (by exact rfl) (by exact rfl) ?_
        refine rn_iload_n (by exact dc_Md_symbol 26 rfl) (by exact rfl) ?_
        obtain ⟨f5, e6, h7⟩ := rn_bind h3
        clear h3
        refine rn_iastore (w2 := (emb g1 g2 x d c u t a b (M_put_names m f5) o E)) (by exact dc_Md_symbol 27 rfl) (by exact rfl) e6 (by exact sm_names) ?_
        refine rn_aload_n (by exact dc_Md_symbol 28 rfl) (by exact rfl) ?_
        refine rn_dup (by exact dc_Md_symbol 29 rfl) (by exact rfl) ?_
        refine rn_getf (v := .int (M_symbols (M_put_names m f5))) fd_Md_99 (by exact dc_Md_symbol 30 rfl) (by exact rfl) (by exact rfl) ?_
        refine rn_iconst (v := (1 : Int32)) (by exact dc_Md_symbol 31 rfl) (by decide) ?_
        refine rn_iadd (by exact dc_Md_symbol 32 rfl) ?_
        refine rn_putf (w2 := (emb g1 g2 x d c u t a b (M_put_symbols (M_put_names m f5) ((M_symbols (M_put_names m f5)) + (1 : Int32))) o E)) fd_Md_99 (by exact dc_Md_symbol 33 rfl) (by exact rfl) (by exact rfl) (by exact Nat.le_of_ble_eq_true rfl) (by exact sm_symbols) ?_
        refine rn_aload_n (by exact dc_Md_symbol 34 rfl) (by exact rfl) ?_
        refine rn_getf (v := .int (M_symbols (M_put_symbols (M_put_names m f5) ((M_symbols (M_put_names m f5)) + (1 : Int32))))) fd_Md_99 (by exact dc_Md_symbol 35 rfl) (by exact rfl) (by exact rfl) ?_
        refine rn_iconst (v := (1 : Int32)) (by exact dc_Md_symbol 36 rfl) (by decide) ?_
        refine rn_isub (by exact dc_Md_symbol 37 rfl) ?_
        cases h7
        exact rn_ireturn (by exact dc_Md_symbol 38 rfl) (by exact rfl)
      · replace h3 := rn_ifn c4 h3
        refine rn_icmp_ne_f 39 (by exact dc_Md_symbol 19 rfl) (by exact rfl) (Classical.not_not.mp c4) ?_
        refine rn_iconst (v := (-1 : Int32)) (by exact dc_Md_symbol 20 rfl) (by decide) ?_
        cases h3
        exact rn_ireturn (by exact dc_Md_symbol 21 rfl) (by exact rfl)
    exact rn_weak _ (by repeat (first | exact rn_le_0 | apply rn_le_s | apply rn_le_x)) (p_Md_symbol_L2 (fun q => by cases q; exact jx2) (fun _ _ q => by cases q) _ _ e1)
def F_Md_inverse_L5 (l0 : Int64) : Nat → Int64 → Int32 → Option Int64
  | 0, _, _ => none
  | n + 1, l2, l4 =>
    if (6 : Int32) ≤ l4 then (
      some l2
    ) else (
      F_Md_inverse_L5 l0 n (l2 * ((2 : Int64) - (l0 * l2))) (l4 + 1)
    )
set_option maxHeartbeats 4000000 in
set_option maxRecDepth 100000 in
theorem p_Md_inverse_L5 {Z : rn_Z} {g1 g2 : Nat} {x : tX} {d : tD} {c : tC} {u : tU} {t : tT} {a : tG} {b : tG} {m : tM} {o : tO} {E : List rn_C}  {l0 : Int64} {K : rn_K} {ca sa : Nat} {z2 : Int64} (hx : Rn Z M_Md_inverse 28 [none, none, some (.long z2), none, none] [] (emb g1 g2 x d c u t a b m o E) ca sa K) (n : Nat) : ∀ (l2 : Int64) (l4 : Int32), F_Md_inverse_L5 l0 n l2 l4 = some z2 → Rn Z M_Md_inverse 5 [some (.long l0), none, some (.long l2), none, some (.int l4)] [] (emb g1 g2 x d c u t a b m o E) ca sa K := by
  induction n with
  | zero =>
    intro l2 l4 h
    rw [F_Md_inverse_L5] at h
    cases h
  | succ n ih =>
    intro l2 l4 h
    rw [F_Md_inverse_L5] at h
    refine rn_iload (by exact dc_Md_inverse 4 rfl) (by exact rfl) ?_
    refine rn_bipush (v := (6 : Int32)) (by exact dc_Md_inverse 5 rfl) (by decide) ?_
    by_cases c1 : (6 : Int32) ≤ l4
    · replace h := rn_ifp c1 h
      refine rn_icmp_ge_t 28 (by exact dc_Md_inverse 6 rfl) (by exact rfl) c1 ?_
      cases h
      exact rn_weak _ (by repeat (first | exact rn_le_0 | apply rn_le_s | apply rn_le_x)) hx
    · replace h := rn_ifn c1 h
      refine rn_icmp_ge_f 28 (by exact dc_Md_inverse 6 rfl) (by exact rfl) c1 ?_
      refine rn_lload_n (by exact dc_Md_inverse 7 rfl) (by exact rfl) ?_
      refine rn_ldc2 (v := (2 : Int64)) (by exact dc_Md_inverse 8 rfl) kl_Md_102 ?_
      refine rn_lload_n (by exact dc_Md_inverse 9 rfl) (by exact rfl) ?_
      refine rn_lload_n (by exact dc_Md_inverse 10 rfl) (by exact rfl) ?_
      refine rn_lmul (by exact dc_Md_inverse 11 rfl) ?_
      refine rn_lsub (by exact dc_Md_inverse 12 rfl) ?_
      refine rn_lmul (by exact dc_Md_inverse 13 rfl) ?_
      refine rn_lstore_n (ls' := [some (.long l0), none, some (.long (l2 * ((2 : Int64) - (l0 * l2)))), none, some (.int l4)]) (by exact dc_Md_inverse 14 rfl) (by decide) (by exact rfl) ?_
      refine rn_iinc (ls' := [some (.long l0), none, some (.long (l2 * ((2 : Int64) - (l0 * l2)))), none, some (.int (l4 + 1))]) (by exact dc_Md_inverse 15 rfl) (by decide) (by exact rfl) (by exact rn_inc_1 _) (by exact rfl) ?_
      refine rn_goto 5 (by exact dc_Md_inverse 16 rfl) (by exact rfl) ?_
      exact rn_weak _ (by repeat (first | exact rn_le_0 | apply rn_le_s | apply rn_le_x)) (ih _ _ h)
def F_Md_inverse (v0 : Int64) : Option Int64 :=
  Option.bind (F_Md_inverse_L5 v0 rn_fu v0 (0 : Int32)) fun y4 =>
  some y4
set_option maxHeartbeats 4000000 in
set_option maxRecDepth 100000 in
theorem c_Md_inverse {Z : rn_Z} {g1 g2 : Nat} {x : tX} {d : tD} {c : tC} {u : tU} {t : tT} {a : tG} {b : tG} {m : tM} {o : tO} {E : List rn_C} {v0 : Int64} {res : Int64} (h : F_Md_inverse  v0 = some res) : Call Z M_Md_inverse [.long v0] (emb g1 g2 x d c u t a b m o E) 0 0 (some (.long res)) (emb g1 g2 x d c u t a b m o E) := by
  unfold F_Md_inverse at h
  refine rn_call (by decide) 3 (by exact Nat.le_of_ble_eq_true rfl) ?_
  show Rn Z M_Md_inverse 0 [some (.long v0), none, none, none, none] [] (emb g1 g2 x d c u t a b m o E) 0 0 _
  refine rn_lload_n (by exact dc_Md_inverse 0 rfl) (by exact rfl) ?_
  refine rn_lstore_n (ls' := [some (.long v0), none, some (.long v0), none, none]) (by exact dc_Md_inverse 1 rfl) (by decide) (by exact rfl) ?_
  refine rn_iconst (v := (0 : Int32)) (by exact dc_Md_inverse 2 rfl) (by decide) ?_
  refine rn_istore (ls' := [some (.long v0), none, some (.long v0), none, some (.int (0 : Int32))]) (by exact dc_Md_inverse 3 rfl) (by decide) (by exact rfl) ?_
  obtain ⟨y4, e1, h3⟩ := rn_bind h
  clear h
  have jx2 : Rn Z M_Md_inverse 28 [none, none, some (.long y4), none, none] [] (emb g1 g2 x d c u t a b m o E) 0 0 (rn_Ret Z (some (.long res)) (emb g1 g2 x d c u t a b m o E)) := by
    refine rn_lload_n (by exact dc_Md_inverse 17 rfl) (by exact rfl) ?_
    cases h3
    exact rn_lreturn (by exact dc_Md_inverse 18 rfl) (by exact rfl)
  exact rn_weak _ (by repeat (first | exact rn_le_0 | apply rn_le_s | apply rn_le_x)) (p_Md_inverse_L5 jx2 _ _ _ e1)
def F_Md_body_L7 (l1 : Int32) : Nat → tM → Option ((Int32 × tM) ⊕ tM)
  | 0, _ => none
  | n + 1, m =>
    if (M_end m) ≤ (M_at m) then (
      some (.inr m)
    ) else (
      Option.bind (aG (M_src m) 300 (M_at m)) fun x2 =>
      Option.bind (F_Md_isCapital  x2) fun x6 =>
      if ¬ x6 = 0 then (
        Option.bind (aG (M_src m) 300 (M_at m)) fun x9 =>
        Option.bind (F_Md_isCapital  x9) fun x13 =>
        Option.bind (
          if x13 = 0 then (
            Option.bind (aG (M_src m) 300 (M_at m)) fun x21 =>
            some ((x21 : Int32), m)
          ) else (
            Option.bind (aG (M_src m) 300 (M_at m)) fun x24 =>
            Option.bind (F_Md_symbol m x24) fun (x28, m29) =>
            some ((x28 : Int32), m29)
          )
         : Option (Int32 × tM)) fun (y15, m16) =>
        if y15 < 0 then (
          some (.inl ((0 : Int32), m16))
        ) else (
          Option.bind (aG (M_lengths m16) 12 l1) fun x32 =>
          if ¬ x32 = (4 : Int32) then (
            Option.bind (aG (M_lengths m16) 12 l1) fun x36 =>
            Option.bind (aS (M_bodies m16) 48 (((4 : Int32) * l1) + x36) y15) fun f39 =>
            Option.bind (aG (M_lengths (M_put_bodies m16 f39)) 12 l1) fun x42 =>
            Option.bind (aS (M_lengths (M_put_bodies m16 f39)) 12 l1 (x42 + (1 : Int32))) fun f45 =>
            F_Md_body_L7 l1 n (M_put_at (M_put_lengths (M_put_bodies m16 f39) f45) ((M_at (M_put_lengths (M_put_bodies m16 f39) f45)) + (1 : Int32)))
          ) else (
            some (.inl ((0 : Int32), m16))
          )
        )
      ) else (
        Option.bind (aG (M_src m) 300 (M_at m)) fun x48 =>
        Option.bind (F_Md_isSmall  x48) fun x52 =>
        if x52 = 0 then (
          some (.inr m)
        ) else (
          Option.bind (aG (M_src m) 300 (M_at m)) fun x55 =>
          Option.bind (F_Md_isCapital  x55) fun x59 =>
          Option.bind (
            if x59 = 0 then (
              Option.bind (aG (M_src m) 300 (M_at m)) fun x67 =>
              some ((x67 : Int32), m)
            ) else (
              Option.bind (aG (M_src m) 300 (M_at m)) fun x70 =>
              Option.bind (F_Md_symbol m x70) fun (x74, m75) =>
              some ((x74 : Int32), m75)
            )
           : Option (Int32 × tM)) fun (y61, m62) =>
          if y61 < 0 then (
            some (.inl ((0 : Int32), m62))
          ) else (
            Option.bind (aG (M_lengths m62) 12 l1) fun x78 =>
            if ¬ x78 = (4 : Int32) then (
              Option.bind (aG (M_lengths m62) 12 l1) fun x82 =>
              Option.bind (aS (M_bodies m62) 48 (((4 : Int32) * l1) + x82) y61) fun f85 =>
              Option.bind (aG (M_lengths (M_put_bodies m62 f85)) 12 l1) fun x88 =>
              Option.bind (aS (M_lengths (M_put_bodies m62 f85)) 12 l1 (x88 + (1 : Int32))) fun f91 =>
              F_Md_body_L7 l1 n (M_put_at (M_put_lengths (M_put_bodies m62 f85) f91) ((M_at (M_put_lengths (M_put_bodies m62 f85) f91)) + (1 : Int32)))
            ) else (
              some (.inl ((0 : Int32), m62))
            )
          )
        )
      )
    )
set_option maxHeartbeats 4000000 in
set_option maxRecDepth 100000 in
theorem p_Md_body_L7 {Z : rn_Z} {g1 g2 : Nat} {x : tX} {d : tD} {c : tC} {u : tU} {t : tT} {a : tG} {b : tG}  {o : tO} {E : List rn_C}  {l1 : Int32} {K : rn_K} {ca sa : Nat} {out : ((Int32 × tM) ⊕ tM)} (hx : ∀ (mz : tM), out = .inr mz → Rn Z M_Md_body 144 [none, none, none] [] (emb g1 g2 x d c u t a b mz o E) ca sa K) (hr : ∀ (rv : Int32) (mw : tM), out = .inl (rv, mw) → K = rn_Ret Z (some (.int rv)) (emb g1 g2 x d c u t a b mw o E)) (n : Nat) : ∀ (m : tM), F_Md_body_L7 l1 n m = some out → Rn Z M_Md_body 7 [some (.ref 53), some (.int l1), none] [] (emb g1 g2 x d c u t a b m o E) ca sa K := by
  induction n with
  | zero =>
    intro m h
    rw [F_Md_body_L7] at h
    cases h
  | succ n ih =>
    intro m h
    rw [F_Md_body_L7] at h
    refine rn_aload_n (by exact dc_Md_body 5 rfl) (by exact rfl) ?_
    refine rn_getf (v := .int (M_at m)) fd_Md_86 (by exact dc_Md_body 6 rfl) (by exact rfl) (by exact rfl) ?_
    refine rn_aload_n (by exact dc_Md_body 7 rfl) (by exact rfl) ?_
    refine rn_getf (v := .int (M_end m)) fd_Md_89 (by exact dc_Md_body 8 rfl) (by exact rfl) (by exact rfl) ?_
    by_cases c1 : (M_end m) ≤ (M_at m)
    · replace h := rn_ifp c1 h
      refine rn_icmp_ge_t 144 (by exact dc_Md_body 9 rfl) (by exact rfl) c1 ?_
      cases h
      exact rn_weak _ (by repeat (first | exact rn_le_0 | apply rn_le_s | apply rn_le_x)) (hx _ rfl)
    · replace h := rn_ifn c1 h
      refine rn_icmp_ge_f 144 (by exact dc_Md_body 9 rfl) (by exact rfl) c1 ?_
      refine rn_aload_n (by exact dc_Md_body 10 rfl) (by exact rfl) ?_
      refine rn_getf (v := .ref 55) fd_Md_13 (by exact dc_Md_body 11 rfl) (by exact rfl) (by exact rfl) ?_
      refine rn_aload_n (by exact dc_Md_body 12 rfl) (by exact rfl) ?_
      refine rn_getf (v := .int (M_at m)) fd_Md_86 (by exact dc_Md_body 13 rfl) (by exact rfl) (by exact rfl) ?_
      obtain ⟨x2, e3, h4⟩ := rn_bind h
      clear h
      refine rn_iaload (by exact dc_Md_body 14 rfl) (by exact rfl) e3 ?_
      obtain ⟨x6, e5, h7⟩ := rn_bind h4
      clear h4
      refine rn_invS0 (by exact c_Md_isCapital e5) is_Md_104 (by exact ⟨Nat.le_of_ble_eq_true rfl, Nat.le_of_ble_eq_true rfl⟩) (by exact dc_Md_body 15 rfl) (by exact rfl) (by exact rfl) (by exact Nat.le_of_ble_eq_true rfl) ?_
      show Rn _ _ 30 [some (.ref 53), some (.int l1), none] [.int x6] (emb g1 g2 x d c u t a b m o E) _ _ _
      by_cases c8 : ¬ x6 = 0
      · replace h7 := rn_ifp c8 h7
        refine rn_if_ne_t 48 (by exact dc_Md_body 16 rfl) (by exact rfl) c8 ?_
        refine rn_aload_n (by exact dc_Md_body 24 rfl) (by exact rfl) ?_
        refine rn_getf (v := .ref 55) fd_Md_13 (by exact dc_Md_body 25 rfl) (by exact rfl) (by exact rfl) ?_
        refine rn_aload_n (by exact dc_Md_body 26 rfl) (by exact rfl) ?_
        refine rn_getf (v := .int (M_at m)) fd_Md_86 (by exact dc_Md_body 27 rfl) (by exact rfl) (by exact rfl) ?_
        obtain ⟨x9, e10, h11⟩ := rn_bind h7
        clear h7
        refine rn_iaload (by exact dc_Md_body 28 rfl) (by exact rfl) e10 ?_
        obtain ⟨x13, e12, h14⟩ := rn_bind h11
        clear h11
        refine rn_invS0 (by exact c_Md_isCapital e12) is_Md_104 (by exact ⟨Nat.le_of_ble_eq_true rfl, Nat.le_of_ble_eq_true rfl⟩) (by exact dc_Md_body 29 rfl) (by exact rfl) (by exact rfl) (by exact Nat.le_of_ble_eq_true rfl) ?_
        show Rn _ _ 60 [some (.ref 53), some (.int l1), none] [.int x13] (emb g1 g2 x d c u t a b m o E) _ _ _
        obtain ⟨⟨y15, m16⟩, e17, h19⟩ := rn_bind h14
        clear h14
        dsimp only at h19
        have jq18 : Rn Z M_Md_body 88 [some (.ref 53), some (.int l1), none] [.int y15] (emb g1 g2 x d c u t a b m16 o E) ca sa K := by
          refine rn_istore_n (ls' := [some (.ref 53), some (.int l1), some (.int y15)]) (by exact dc_Md_body 44 rfl) (by decide) (by exact rfl) ?_
          refine rn_iload_n (by exact dc_Md_body 45 rfl) (by exact rfl) ?_
          by_cases c31 : y15 < 0
          · replace h19 := rn_ifp c31 h19
            refine rn_if_lt_t 103 (by exact dc_Md_body 46 rfl) (by exact rfl) c31 ?_
            refine rn_iconst (v := (0 : Int32)) (by exact dc_Md_body 53 rfl) (by decide) ?_
            cases h19
            have hK := hr _ _ rfl
            subst hK
            exact rn_zreturn (by exact dc_Md_body 54 rfl) (by exact rfl) (by first | exact Or.inl rfl | exact Or.inr rfl)
          · replace h19 := rn_ifn c31 h19
            refine rn_if_lt_f 103 (by exact dc_Md_body 46 rfl) (by exact rfl) c31 ?_
            refine rn_aload_n (by exact dc_Md_body 47 rfl) (by exact rfl) ?_
            refine rn_getf (v := .ref 58) fd_Md_22 (by exact dc_Md_body 48 rfl) (by exact rfl) (by exact rfl) ?_
            refine rn_iload_n (by exact dc_Md_body 49 rfl) (by exact rfl) ?_
            obtain ⟨x32, e33, h34⟩ := rn_bind h19
            clear h19
            refine rn_iaload (by exact dc_Md_body 50 rfl) (by exact rfl) e33 ?_
            refine rn_iconst (v := (4 : Int32)) (by exact dc_Md_body 51 rfl) (by decide) ?_
            by_cases c35 : ¬ x32 = (4 : Int32)
            · replace h34 := rn_ifp c35 h34
              refine rn_icmp_ne_t 105 (by exact dc_Md_body 52 rfl) (by exact rfl) c35 ?_
              refine rn_aload_n (by exact dc_Md_body 55 rfl) (by exact rfl) ?_
              refine rn_getf (v := .ref 59) fd_Md_25 (by exact dc_Md_body 56 rfl) (by exact rfl) (by exact rfl) ?_
              refine rn_iconst (v := (4 : Int32)) (by exact dc_Md_body 57 rfl) (by decide) ?_
              refine rn_iload_n (by exact dc_Md_body 58 rfl) (by exact rfl) ?_
              refine rn_imul (by exact dc_Md_body 59 rfl) ?_
              refine rn_aload_n (by exact dc_Md_body 60 rfl) (by exact rfl) ?_
              refine rn_getf (v := .ref 58) fd_Md_22 (by exact dc_Md_body 61 rfl) (by exact rfl) (by exact rfl) ?_
              refine rn_iload_n (by exact dc_Md_body 62 rfl) (by exact rfl) ?_
              obtain ⟨x36, e37, h38⟩ := rn_bind h34
              clear h34
              refine rn_iaload (by exact dc_Md_body 63 rfl) (by exact rfl) e37 ?_
              refine rn_iadd (by exact dc_Md_body 64 rfl) ?_
              refine rn_iload_n (by exact dc_Md_body 65 rfl) (by exact rfl) ?_
              obtain ⟨f39, e40, h41⟩ := rn_bind h38
              clear h38
              refine rn_iastore (w2 := (emb g1 g2 x d c u t a b (M_put_bodies m16 f39) o E)) (by exact dc_Md_body 66 rfl) (by exact rfl) e40 (by exact sm_bodies) ?_
              refine rn_aload_n (by exact dc_Md_body 67 rfl) (by exact rfl) ?_
              refine rn_getf (v := .ref 58) fd_Md_22 (by exact dc_Md_body 68 rfl) (by exact rfl) (by exact rfl) ?_
              refine rn_iload_n (by exact dc_Md_body 69 rfl) (by exact rfl) ?_
              refine rn_dup2 (by exact dc_Md_body 70 rfl) (by exact rfl) (by exact rfl) ?_
              obtain ⟨x42, e43, h44⟩ := rn_bind h41
              clear h41
              refine rn_iaload (by exact dc_Md_body 71 rfl) (by exact rfl) e43 ?_
              refine rn_iconst (v := (1 : Int32)) (by exact dc_Md_body 72 rfl) (by decide) ?_
              refine rn_iadd (by exact dc_Md_body 73 rfl) ?_
              obtain ⟨f45, e46, h47⟩ := rn_bind h44
              clear h44
              refine rn_iastore (w2 := (emb g1 g2 x d c u t a b (M_put_lengths (M_put_bodies m16 f39) f45) o E)) (by exact dc_Md_body 74 rfl) (by exact rfl) e46 (by exact sm_lengths) ?_
              refine rn_aload_n (by exact dc_Md_body 75 rfl) (by exact rfl) ?_
              refine rn_dup (by exact dc_Md_body 76 rfl) (by exact rfl) ?_
              refine rn_getf (v := .int (M_at (M_put_lengths (M_put_bodies m16 f39) f45))) fd_Md_86 (by exact dc_Md_body 77 rfl) (by exact rfl) (by exact rfl) ?_
              refine rn_iconst (v := (1 : Int32)) (by exact dc_Md_body 78 rfl) (by decide) ?_
              refine rn_iadd (by exact dc_Md_body 79 rfl) ?_
              refine rn_putf (w2 := (emb g1 g2 x d c u t a b (M_put_at (M_put_lengths (M_put_bodies m16 f39) f45) ((M_at (M_put_lengths (M_put_bodies m16 f39) f45)) + (1 : Int32))) o E)) fd_Md_86 (by exact dc_Md_body 80 rfl) (by exact rfl) (by exact rfl) (by exact Nat.le_of_ble_eq_true rfl) (by exact sm_at) ?_
              refine rn_goto 7 (by exact dc_Md_body 81 rfl) (by exact rfl) ?_
              exact rn_weak _ (by repeat (first | exact rn_le_0 | apply rn_le_s | apply rn_le_x)) (ih _ h47)
            · replace h34 := rn_ifn c35 h34
              refine rn_icmp_ne_f 105 (by exact dc_Md_body 52 rfl) (by exact rfl) (Classical.not_not.mp c35) ?_
              refine rn_iconst (v := (0 : Int32)) (by exact dc_Md_body 53 rfl) (by decide) ?_
              cases h34
              have hK := hr _ _ rfl
              subst hK
              exact rn_zreturn (by exact dc_Md_body 54 rfl) (by exact rfl) (by first | exact Or.inl rfl | exact Or.inr rfl)
        by_cases c20 : x13 = 0
        · replace e17 := rn_ifp c20 e17
          refine rn_if_eq_t 79 (by exact dc_Md_body 30 rfl) (by exact rfl) c20 ?_
          refine rn_aload_n (by exact dc_Md_body 39 rfl) (by exact rfl) ?_
          refine rn_getf (v := .ref 55) fd_Md_13 (by exact dc_Md_body 40 rfl) (by exact rfl) (by exact rfl) ?_
          refine rn_aload_n (by exact dc_Md_body 41 rfl) (by exact rfl) ?_
          refine rn_getf (v := .int (M_at m)) fd_Md_86 (by exact dc_Md_body 42 rfl) (by exact rfl) (by exact rfl) ?_
          obtain ⟨x21, e22, h23⟩ := rn_bind e17
          clear e17
          refine rn_iaload (by exact dc_Md_body 43 rfl) (by exact rfl) e22 ?_
          cases h23
          exact rn_weak _ (by repeat (first | exact rn_le_0 | apply rn_le_s | apply rn_le_x)) jq18
        · replace e17 := rn_ifn c20 e17
          refine rn_if_eq_f 79 (by exact dc_Md_body 30 rfl) (by exact rfl) c20 ?_
          refine rn_aload_n (by exact dc_Md_body 31 rfl) (by exact rfl) ?_
          refine rn_aload_n (by exact dc_Md_body 32 rfl) (by exact rfl) ?_
          refine rn_getf (v := .ref 55) fd_Md_13 (by exact dc_Md_body 33 rfl) (by exact rfl) (by exact rfl) ?_
          refine rn_aload_n (by exact dc_Md_body 34 rfl) (by exact rfl) ?_
          refine rn_getf (v := .int (M_at m)) fd_Md_86 (by exact dc_Md_body 35 rfl) (by exact rfl) (by exact rfl) ?_
          obtain ⟨x24, e25, h26⟩ := rn_bind e17
          clear e17
          refine rn_iaload (by exact dc_Md_body 36 rfl) (by exact rfl) e25 ?_
          obtain ⟨⟨x28, m29⟩, e27, h30⟩ := rn_bind h26
          clear h26
          dsimp only at h30
          refine rn_invV0 (by exact c_Md_symbol e27) iv_Md_111 (by exact ⟨Nat.le_of_ble_eq_true rfl, Nat.le_of_ble_eq_true rfl⟩) (by exact dc_Md_body 37 rfl) (by exact rfl) (by exact rfl) (by exact rfl) (by exact Nat.le_of_ble_eq_true rfl) ?_
          show Rn _ _ 76 [some (.ref 53), some (.int l1), none] [.int x28] (emb g1 g2 x d c u t a b m29 o E) _ _ _
          refine rn_goto 88 (by exact dc_Md_body 38 rfl) (by exact rfl) ?_
          cases h30
          exact rn_weak _ (by repeat (first | exact rn_le_0 | apply rn_le_s | apply rn_le_x)) jq18
      · replace h7 := rn_ifn c8 h7
        refine rn_if_ne_f 48 (by exact dc_Md_body 16 rfl) (by exact rfl) (Classical.not_not.mp c8) ?_
        refine rn_aload_n (by exact dc_Md_body 17 rfl) (by exact rfl) ?_
        refine rn_getf (v := .ref 55) fd_Md_13 (by exact dc_Md_body 18 rfl) (by exact rfl) (by exact rfl) ?_
        refine rn_aload_n (by exact dc_Md_body 19 rfl) (by exact rfl) ?_
        refine rn_getf (v := .int (M_at m)) fd_Md_86 (by exact dc_Md_body 20 rfl) (by exact rfl) (by exact rfl) ?_
        obtain ⟨x48, e49, h50⟩ := rn_bind h7
        clear h7
        refine rn_iaload (by exact dc_Md_body 21 rfl) (by exact rfl) e49 ?_
        obtain ⟨x52, e51, h53⟩ := rn_bind h50
        clear h50
        refine rn_invS0 (by exact c_Md_isSmall e51) is_Md_108 (by exact ⟨Nat.le_of_ble_eq_true rfl, Nat.le_of_ble_eq_true rfl⟩) (by exact dc_Md_body 22 rfl) (by exact rfl) (by exact rfl) (by exact Nat.le_of_ble_eq_true rfl) ?_
        show Rn _ _ 45 [some (.ref 53), some (.int l1), none] [.int x52] (emb g1 g2 x d c u t a b m o E) _ _ _
        by_cases c54 : x52 = 0
        · replace h53 := rn_ifp c54 h53
          refine rn_if_eq_t 144 (by exact dc_Md_body 23 rfl) (by exact rfl) c54 ?_
          cases h53
          exact rn_weak _ (by repeat (first | exact rn_le_0 | apply rn_le_s | apply rn_le_x)) (hx _ rfl)
        · replace h53 := rn_ifn c54 h53
          refine rn_if_eq_f 144 (by exact dc_Md_body 23 rfl) (by exact rfl) c54 ?_
          refine rn_aload_n (by exact dc_Md_body 24 rfl) (by exact rfl) ?_
          refine rn_getf (v := .ref 55) fd_Md_13 (by exact dc_Md_body 25 rfl) (by exact rfl) (by exact rfl) ?_
          refine rn_aload_n (by exact dc_Md_body 26 rfl) (by exact rfl) ?_
          refine rn_getf (v := .int (M_at m)) fd_Md_86 (by exact dc_Md_body 27 rfl) (by exact rfl) (by exact rfl) ?_
          obtain ⟨x55, e56, h57⟩ := rn_bind h53
          clear h53
          refine rn_iaload (by exact dc_Md_body 28 rfl) (by exact rfl) e56 ?_
          obtain ⟨x59, e58, h60⟩ := rn_bind h57
          clear h57
          refine rn_invS0 (by exact c_Md_isCapital e58) is_Md_104 (by exact ⟨Nat.le_of_ble_eq_true rfl, Nat.le_of_ble_eq_true rfl⟩) (by exact dc_Md_body 29 rfl) (by exact rfl) (by exact rfl) (by exact Nat.le_of_ble_eq_true rfl) ?_
          show Rn _ _ 60 [some (.ref 53), some (.int l1), none] [.int x59] (emb g1 g2 x d c u t a b m o E) _ _ _
          obtain ⟨⟨y61, m62⟩, e63, h65⟩ := rn_bind h60
          clear h60
          dsimp only at h65
          have jq64 : Rn Z M_Md_body 88 [some (.ref 53), some (.int l1), none] [.int y61] (emb g1 g2 x d c u t a b m62 o E) ca sa K := by
            refine rn_istore_n (ls' := [some (.ref 53), some (.int l1), some (.int y61)]) (by exact dc_Md_body 44 rfl) (by decide) (by exact rfl) ?_
            refine rn_iload_n (by exact dc_Md_body 45 rfl) (by exact rfl) ?_
            by_cases c77 : y61 < 0
            · replace h65 := rn_ifp c77 h65
              refine rn_if_lt_t 103 (by exact dc_Md_body 46 rfl) (by exact rfl) c77 ?_
              refine rn_iconst (v := (0 : Int32)) (by exact dc_Md_body 53 rfl) (by decide) ?_
              cases h65
              have hK := hr _ _ rfl
              subst hK
              exact rn_zreturn (by exact dc_Md_body 54 rfl) (by exact rfl) (by first | exact Or.inl rfl | exact Or.inr rfl)
            · replace h65 := rn_ifn c77 h65
              refine rn_if_lt_f 103 (by exact dc_Md_body 46 rfl) (by exact rfl) c77 ?_
              refine rn_aload_n (by exact dc_Md_body 47 rfl) (by exact rfl) ?_
              refine rn_getf (v := .ref 58) fd_Md_22 (by exact dc_Md_body 48 rfl) (by exact rfl) (by exact rfl) ?_
              refine rn_iload_n (by exact dc_Md_body 49 rfl) (by exact rfl) ?_
              obtain ⟨x78, e79, h80⟩ := rn_bind h65
              clear h65
              refine rn_iaload (by exact dc_Md_body 50 rfl) (by exact rfl) e79 ?_
              refine rn_iconst (v := (4 : Int32)) (by exact dc_Md_body 51 rfl) (by decide) ?_
              by_cases c81 : ¬ x78 = (4 : Int32)
              · replace h80 := rn_ifp c81 h80
                refine rn_icmp_ne_t 105 (by exact dc_Md_body 52 rfl) (by exact rfl) c81 ?_
                refine rn_aload_n (by exact dc_Md_body 55 rfl) (by exact rfl) ?_
                refine rn_getf (v := .ref 59) fd_Md_25 (by exact dc_Md_body 56 rfl) (by exact rfl) (by exact rfl) ?_
                refine rn_iconst (v := (4 : Int32)) (by exact dc_Md_body 57 rfl) (by decide) ?_
                refine rn_iload_n (by exact dc_Md_body 58 rfl) (by exact rfl) ?_
                refine rn_imul (by exact dc_Md_body 59 rfl) ?_
                refine rn_aload_n (by exact dc_Md_body 60 rfl) (by exact rfl) ?_
                refine rn_getf (v := .ref 58) fd_Md_22 (by exact dc_Md_body 61 rfl) (by exact rfl) (by exact rfl) ?_
                refine rn_iload_n (by exact dc_Md_body 62 rfl) (by exact rfl) ?_
                obtain ⟨x82, e83, h84⟩ := rn_bind h80
                clear h80
                refine rn_iaload (by exact dc_Md_body 63 rfl) (by exact rfl) e83 ?_
                refine rn_iadd (by exact dc_Md_body 64 rfl) ?_
                refine rn_iload_n (by exact dc_Md_body 65 rfl) (by exact rfl) ?_
                obtain ⟨f85, e86, h87⟩ := rn_bind h84
                clear h84
                refine rn_iastore (w2 := (emb g1 g2 x d c u t a b (M_put_bodies m62 f85) o E)) (by exact dc_Md_body 66 rfl) (by exact rfl) e86 (by exact sm_bodies) ?_
                refine rn_aload_n (by exact dc_Md_body 67 rfl) (by exact rfl) ?_
                refine rn_getf (v := .ref 58) fd_Md_22 (by exact dc_Md_body 68 rfl) (by exact rfl) (by exact rfl) ?_
                refine rn_iload_n (by exact dc_Md_body 69 rfl) (by exact rfl) ?_
                refine rn_dup2 (by exact dc_Md_body 70 rfl) (by exact rfl) (by exact rfl) ?_
                obtain ⟨x88, e89, h90⟩ := rn_bind h87
                clear h87
                refine rn_iaload (by exact dc_Md_body 71 rfl) (by exact rfl) e89 ?_
                refine rn_iconst (v := (1 : Int32)) (by exact dc_Md_body 72 rfl) (by decide) ?_
                refine rn_iadd (by exact dc_Md_body 73 rfl) ?_
                obtain ⟨f91, e92, h93⟩ := rn_bind h90
                clear h90
                refine rn_iastore (w2 := (emb g1 g2 x d c u t a b (M_put_lengths (M_put_bodies m62 f85) f91) o E)) (by exact dc_Md_body 74 rfl) (by exact rfl) e92 (by exact sm_lengths) ?_
                refine rn_aload_n (by exact dc_Md_body 75 rfl) (by exact rfl) ?_
                refine rn_dup (by exact dc_Md_body 76 rfl) (by exact rfl) ?_
                refine rn_getf (v := .int (M_at (M_put_lengths (M_put_bodies m62 f85) f91))) fd_Md_86 (by exact dc_Md_body 77 rfl) (by exact rfl) (by exact rfl) ?_
                refine rn_iconst (v := (1 : Int32)) (by exact dc_Md_body 78 rfl) (by decide) ?_
                refine rn_iadd (by exact dc_Md_body 79 rfl) ?_
                refine rn_putf (w2 := (emb g1 g2 x d c u t a b (M_put_at (M_put_lengths (M_put_bodies m62 f85) f91) ((M_at (M_put_lengths (M_put_bodies m62 f85) f91)) + (1 : Int32))) o E)) fd_Md_86 (by exact dc_Md_body 80 rfl) (by exact rfl) (by exact rfl) (by exact Nat.le_of_ble_eq_true rfl) (by exact sm_at) ?_
                refine rn_goto 7 (by exact dc_Md_body 81 rfl) (by exact rfl) ?_
                exact rn_weak _ (by repeat (first | exact rn_le_0 | apply rn_le_s | apply rn_le_x)) (ih _ h93)
              · replace h80 := rn_ifn c81 h80
                refine rn_icmp_ne_f 105 (by exact dc_Md_body 52 rfl) (by exact rfl) (Classical.not_not.mp c81) ?_
                refine rn_iconst (v := (0 : Int32)) (by exact dc_Md_body 53 rfl) (by decide) ?_
                cases h80
                have hK := hr _ _ rfl
                subst hK
                exact rn_zreturn (by exact dc_Md_body 54 rfl) (by exact rfl) (by first | exact Or.inl rfl | exact Or.inr rfl)
          by_cases c66 : x59 = 0
          · replace e63 := rn_ifp c66 e63
            refine rn_if_eq_t 79 (by exact dc_Md_body 30 rfl) (by exact rfl) c66 ?_
            refine rn_aload_n (by exact dc_Md_body 39 rfl) (by exact rfl) ?_
            refine rn_getf (v := .ref 55) fd_Md_13 (by exact dc_Md_body 40 rfl) (by exact rfl) (by exact rfl) ?_
            refine rn_aload_n (by exact dc_Md_body 41 rfl) (by exact rfl) ?_
            refine rn_getf (v := .int (M_at m)) fd_Md_86 (by exact dc_Md_body 42 rfl) (by exact rfl) (by exact rfl) ?_
            obtain ⟨x67, e68, h69⟩ := rn_bind e63
            clear e63
            refine rn_iaload (by exact dc_Md_body 43 rfl) (by exact rfl) e68 ?_
            cases h69
            exact rn_weak _ (by repeat (first | exact rn_le_0 | apply rn_le_s | apply rn_le_x)) jq64
          · replace e63 := rn_ifn c66 e63
            refine rn_if_eq_f 79 (by exact dc_Md_body 30 rfl) (by exact rfl) c66 ?_
            refine rn_aload_n (by exact dc_Md_body 31 rfl) (by exact rfl) ?_
            refine rn_aload_n (by exact dc_Md_body 32 rfl) (by exact rfl) ?_
            refine rn_getf (v := .ref 55) fd_Md_13 (by exact dc_Md_body 33 rfl) (by exact rfl) (by exact rfl) ?_
            refine rn_aload_n (by exact dc_Md_body 34 rfl) (by exact rfl) ?_
            refine rn_getf (v := .int (M_at m)) fd_Md_86 (by exact dc_Md_body 35 rfl) (by exact rfl) (by exact rfl) ?_
            obtain ⟨x70, e71, h72⟩ := rn_bind e63
            clear e63
            refine rn_iaload (by exact dc_Md_body 36 rfl) (by exact rfl) e71 ?_
            obtain ⟨⟨x74, m75⟩, e73, h76⟩ := rn_bind h72
            clear h72
            dsimp only at h76
            refine rn_invV0 (by exact c_Md_symbol e73) iv_Md_111 (by exact ⟨Nat.le_of_ble_eq_true rfl, Nat.le_of_ble_eq_true rfl⟩) (by exact dc_Md_body 37 rfl) (by exact rfl) (by exact rfl) (by exact rfl) (by exact Nat.le_of_ble_eq_true rfl) ?_
            show Rn _ _ 76 [some (.ref 53), some (.int l1), none] [.int x74] (emb g1 g2 x d c u t a b m75 o E) _ _ _
            refine rn_goto 88 (by exact dc_Md_body 38 rfl) (by exact rfl) ?_
            cases h76
            exact rn_weak _ (by repeat (first | exact rn_le_0 | apply rn_le_s | apply rn_le_x)) jq64
def F_Md_body (m : tM) (v0 : Int32) : Option (Int32 × tM) :=
  Option.bind (aS (M_lengths m) 12 v0 (0 : Int32)) fun f1 =>
  Option.bind (F_Md_body_L7 v0 rn_fu (M_put_lengths m f1)) fun z9 =>
  match z9 with
  | .inl r8 => some r8
  | .inr m7 =>
    some ((1 : Int32), m7)
set_option maxHeartbeats 4000000 in
set_option maxRecDepth 100000 in
theorem c_Md_body {Z : rn_Z} {g1 g2 : Nat} {x : tX} {d : tD} {c : tC} {u : tU} {t : tT} {a : tG} {b : tG} {m : tM} {o : tO} {E : List rn_C} {v0 : Int32} {res : Int32} {m_r : tM} (h : F_Md_body m v0 = some (res, m_r)) : Call Z M_Md_body [.ref 53, .int v0] (emb g1 g2 x d c u t a b m o E) 0 0 (some (.int res)) (emb g1 g2 x d c u t a b m_r o E) := by
  unfold F_Md_body at h
  refine rn_call (by decide) 1 (by exact Nat.le_of_ble_eq_true rfl) ?_
  show Rn Z M_Md_body 0 [some (.ref 53), some (.int v0), none] [] (emb g1 g2 x d c u t a b m o E) 0 0 _
  refine rn_aload_n (by exact dc_Md_body 0 rfl) (by exact rfl) ?_
  refine rn_getf (v := .ref 58) fd_Md_22 (by exact dc_Md_body 1 rfl) (by exact rfl) (by exact rfl) ?_
  refine rn_iload_n (by exact dc_Md_body 2 rfl) (by exact rfl) ?_
  refine rn_iconst (v := (0 : Int32)) (by exact dc_Md_body 3 rfl) (by decide) ?_
  obtain ⟨f1, e2, h3⟩ := rn_bind h
  clear h
  refine rn_iastore (w2 := (emb g1 g2 x d c u t a b (M_put_lengths m f1) o E)) (by exact dc_Md_body 4 rfl) (by exact rfl) e2 (by exact sm_lengths) ?_
  obtain ⟨z9, e4, h6⟩ := rn_bind h3
  clear h3
  rcases z9 with ⟨w10, w11⟩ | m7
  · dsimp only at h6
    cases h6
    exact rn_weak _ (by repeat (first | exact rn_le_0 | apply rn_le_s | apply rn_le_x)) (p_Md_body_L7 (fun _ q => by cases q) (fun _ _ q => by cases q; rfl) _ _ e4)
  · dsimp only at h6
    have jx5 : Rn Z M_Md_body 144 [none, none, none] [] (emb g1 g2 x d c u t a b m7 o E) 0 0 (rn_Ret Z (some (.int res)) (emb g1 g2 x d c u t a b m_r o E)) := by
      refine rn_iconst (v := (1 : Int32)) (by exact dc_Md_body 82 rfl) (by decide) ?_
      cases h6
      exact rn_zreturn (by exact dc_Md_body 83 rfl) (by exact rfl) (by first | exact Or.inl rfl | exact Or.inr rfl)
    exact rn_weak _ (by repeat (first | exact rn_le_0 | apply rn_le_s | apply rn_le_x)) (p_Md_body_L7 (fun _ q => by cases q; exact jx5) (fun _ _ q => by cases q) _ _ e4)
