def z9_iD (d : tD) (m : tM) : Prop := ∃ n, z9_pDR d (M_draft m) n ∧ M_size m = z9_i32 n
def z9_iW (x : tX) (m : tM) : Prop := x = M_wrongLine m
def z9_iN (t : tT) (m : tM) : Prop := ∃ N, N ≤ 400000 ∧ M_nodes m = z9_i32 N ∧ T_nodeCount t = z9_i32 N ∧ ∀ k, k < 100 → k < N → T_rules t k = M_nodeRule m k ∧ T_starts t k = M_nodeFrom m k ∧ T_ends t k = M_nodeTo m k
def z9_kept (m : tM) (a : tG) (u : tU) : Prop := ∃ n cf, n ≤ 300 ∧ M_keptSize m = z9_i32 n ∧ z9_rSF (M_kept m) n cf ∧ ∀ m0, z9_rSF (M_src m0) n cf → ∃ m1, F_Md_take m0 (z9_i32 n) = some (0, m1) ∧ z9_mFrT m0 m1 ∧ z9_mGr m1 (z9_absG a) a u
def z9_text (c : tC) (a : tG) (m : tM) (n : Nat) (tx : Nat → Nat) : Prop := n ≤ 8 ∧ M_hasText m = 1 ∧ C_textLength c = z9_i32 n ∧ M_letters m = z9_i32 n ∧ (∀ s p q, s < z9_A_nS (z9_absG a) → p ≤ q → q ≤ n → z9_fin c (z9_absG a) tx s p q) ∧ z9_mAll m (z9_absG a) tx n
def z9_iG (c : tC) (u : tU) (a : tG) (m : tM) : Prop := z9_cW c ∧ ((M_loaded m = 0 ∧ G_ruleCount a = 0 ∧ G_nonterminalCount a = 0 ∧ C_textLength c = -1 ∧ ∃ n, n ≤ 300 ∧ M_keptSize m = z9_i32 n) ∨ (M_loaded m = 1 ∧ z9_cGr c a (z9_absG a) ∧ z9_mGr m (z9_absG a) a u ∧ z9_kept m a u ∧ ((M_hasText m = 0 ∧ C_textLength c = -1) ∨ ∃ n tx, z9_text c a m n tx)))
def z9_INV (x : tX) (d : tD) (c : tC) (u : tU) (t : tT) (a : tG) (m : tM) : Prop := z9_iD d m ∧ z9_iW x m ∧ z9_iN t m ∧ z9_iG c u a m
theorem z9_iD_fr {d : tD} {m m' : tM} (h : z9_iD d m) (e : z9_bD m' = z9_bD m) : z9_iD d m' := by
  simp only [z9_bD, Prod.mk.injEq] at e
  unfold z9_iD at *; rw [e.1, e.2]; exact h
theorem z9_iW_fr {x : tX} {m m' : tM} (h : z9_iW x m) (e : z9_bW m' = z9_bW m) : z9_iW x m' := by
  simp only [z9_bW] at e
  unfold z9_iW at *; rw [e]; exact h
theorem z9_iN_fr {t : tT} {m m' : tM} (h : z9_iN t m) (e : z9_bN m' = z9_bN m) : z9_iN t m' := by
  simp only [z9_bN, Prod.mk.injEq] at e
  unfold z9_iN at *; rw [e.1, e.2.1, e.2.2.1, e.2.2.2]; exact h
theorem z9_mGr_fr {m m' : tM} {g : z9_tA} {a : tG} {u : tU} (h : z9_mGr m g a u) (e1 : z9_bG m' = z9_bG m) (e2 : z9_bE m' = z9_bE m) (e3 : z9_bU m' = z9_bU m) : z9_mGr m' g a u := by
  have e1' := e1
  simp only [z9_bG, Prod.mk.injEq] at e1
  simp only [z9_bE, Prod.mk.injEq] at e2
  simp only [z9_bU] at e3
  obtain ⟨h1, h2, h3, h4⟩ := h
  refine ⟨z9_mIs_fr h1 e1', ?_, ?_, ?_⟩
  · rw [e1.2.2.2.2.2.2.2]; exact h2
  · rw [e2.1, e2.2]; exact h3
  · rw [e3]; exact h4
theorem z9_kept_fr {m m' : tM} {a : tG} {u : tU} (h : z9_kept m a u) (e : z9_bK m' = z9_bK m) : z9_kept m' a u := by
  simp only [z9_bK, Prod.mk.injEq] at e
  unfold z9_kept at *; rw [e.1, e.2.1]; exact h
theorem z9_mAll_fr' {m m' : tM} {g : z9_tA} {tx : Nat → Nat} {n : Nat} (h : z9_mAll m g tx n) (e1 : z9_bE m' = z9_bE m) (e2 : z9_bC m' = z9_bC m) (e3 : z9_bX m' = z9_bX m) : z9_mAll m' g tx n := by
  simp only [z9_bE, Prod.mk.injEq] at e1
  simp only [z9_bC, Prod.mk.injEq] at e2
  simp only [z9_bX, Prod.mk.injEq] at e3
  unfold z9_mAll z9_mfin at *
  rw [e1.1, e1.2, e2.1, e2.2, e3.2.2]; exact h
theorem z9_text_fr {c : tC} {a : tG} {m m' : tM} {n : Nat} {tx : Nat → Nat} (h : z9_text c a m n tx) (e1 : z9_bE m' = z9_bE m) (e2 : z9_bC m' = z9_bC m) (e3 : z9_bX m' = z9_bX m) : z9_text c a m' n tx := by
  obtain ⟨h1, h2, h3, h4, h5, h6⟩ := h
  have h6' := z9_mAll_fr' h6 e1 e2 e3
  simp only [z9_bX, Prod.mk.injEq] at e3
  exact ⟨h1, by rw [e3.1]; exact h2, h3, by rw [e3.2.1]; exact h4, h5, h6'⟩
theorem z9_iG_fr {c : tC} {u : tU} {a : tG} {m m' : tM} (h : z9_iG c u a m) (e1 : z9_bG m' = z9_bG m) (e2 : z9_bE m' = z9_bE m) (e3 : z9_bU m' = z9_bU m) (e4 : z9_bX m' = z9_bX m) (e5 : z9_bC m' = z9_bC m) (e6 : z9_bK m' = z9_bK m) : z9_iG c u a m' := by
  obtain ⟨h0, h⟩ := h
  refine ⟨h0, ?_⟩
  have e6' := e6
  have e4' := e4
  simp only [z9_bK, Prod.mk.injEq] at e6
  simp only [z9_bX, Prod.mk.injEq] at e4
  rcases h with ⟨h1, h2, h3, h4, h5⟩ | ⟨h1, h2, h3, h4, h5⟩
  · left; rw [e6.2.1, e6.2.2]; exact ⟨h1, h2, h3, h4, h5⟩
  · right
    refine ⟨by rw [e6.2.2]; exact h1, h2, z9_mGr_fr h3 e1 e2 e3, z9_kept_fr h4 e6', ?_⟩
    rcases h5 with h5 | ⟨n, tx, h5⟩
    · left; rw [e4.1]; exact h5
    · right; exact ⟨n, tx, z9_text_fr h5 e2 e5 e4'⟩
theorem z9_iG_code {c : tC} {u : tU} {a : tG} {m : tM} (h : z9_iG c u a m) (v : Int32) : z9_iG c u a (M_put_code m v) := z9_iG_fr h (by simp only [z9_fG]) (by simp only [z9_fE]) (by simp only [z9_fU]) (by simp only [z9_fX]) (by simp only [z9_fC]) (by simp only [z9_fK])
theorem z9_INV_code {x : tX} {d : tD} {c : tC} {u : tU} {t : tT} {a : tG} {m : tM} (h : z9_INV x d c u t a m) (v : Int32) : z9_INV x d c u t a (M_put_code m v) := ⟨z9_iD_fr h.1 (by simp only [z9_fD]), z9_iW_fr h.2.1 (by simp only [z9_fW]), z9_iN_fr h.2.2.1 (by simp only [z9_fN]), z9_iG_code h.2.2.2 v⟩
section
variable {xs : Nat → Int32} {L I : Nat} {x : tX} {d : tD} {c : tC} {u : tU} {t : tT} {a b : tG} {m : tM} {o : tO}
theorem z9_sc {k : Nat} (hL : L ≤ 2048) (hI : I + 4 ≤ L) (hk : k ≤ 3) : aG xs L (z9_i32 I + z9_i32 k) = some (xs (I + k)) := by
  rw [z9_i32_add]; exact z9_aG_i (by omega) (by omega)
theorem z9_l_put (h : z9_INV x d c u t a m) (hL : L ≤ 2048) (hI : I + 4 ≤ L) : ∃ d' m', F_Lw_law_put xs L d m (z9_i32 I) = some (d', m') ∧ z9_INV x d' c u t a m' := by
  obtain ⟨⟨n, h1, h2⟩, h3, h4, h5⟩ := h
  unfold F_Lw_law_put
  rw [show (1 : Int32) = z9_i32 1 from rfl, show (2 : Int32) = z9_i32 2 from rfl, show (3 : Int32) = z9_i32 3 from rfl, z9_sc hL hI (by omega), z9_sc hL hI (by omega), z9_sc hL hI (by omega)]
  simp only [Option.bind_some]
  obtain ⟨r, d', m', n', e1, e2, e3, e4, e5⟩ := z9_p_put (xs (I + 1)) (((xs (I + 2)).toInt64 <<< ((32 : Int32).toInt64 &&& 63)) ||| ((xs (I + 3)).toInt64 &&& (4294967295 : Int64))) h1 h2
  rw [e1]
  simp only [Option.bind_some]
  rw [e2]
  simp only [Option.bind_some, if_true]
  obtain ⟨f1, f2, f3, f4, f5, f6, f7, f8⟩ := e5
  exact ⟨d', m', rfl, ⟨n', e3, e4⟩, z9_iW_fr h3 f8, z9_iN_fr h4 f7, z9_iG_fr h5 f1 f2 f3 f4 f5 f6⟩
theorem z9_l_scrap (h : z9_INV x d c u t a m) : ∃ d' m', F_Lw_law_scrap xs L d m (z9_i32 I) = some (d', m') ∧ z9_INV x d' c u t a m' := by
  obtain ⟨⟨n, h1, h2⟩, h3, h4, h5⟩ := h
  refine ⟨(D_characters d, 0), M_put_size (M_put_code m 0) 0, rfl, ⟨0, ⟨by omega, ?_, fun k hk => by omega⟩, ?_⟩, z9_iW_fr h3 (by simp only [z9_fW]), z9_iN_fr h4 (by simp only [z9_fN]), z9_iG_fr h5 (by simp only [z9_fG]) (by simp only [z9_fE]) (by simp only [z9_fU]) (by simp only [z9_fX]) (by simp only [z9_fC]) (by simp only [z9_fK])⟩
  · simp only [z9_dt]; rfl
  · simp only [z9_mp_size]; rfl
theorem z9_l_wrong (h : z9_INV x d c u t a m) : ∃ m', F_Lw_law_wrong xs L x m (z9_i32 I) = some m' ∧ z9_INV x d c u t a m' := by
  refine ⟨M_put_code m 0, ?_, z9_INV_code h 0⟩
  unfold F_Lw_law_wrong F_Wt_wrong F_Md_wrong
  simp only [Option.bind_some, z9_mp_code]
  have hw := h.2.1
  unfold z9_iW at hw
  rw [if_pos hw]
theorem z9_gCount (h : z9_iG c u a m) : (M_loaded m = 0 ∧ G_ruleCount a = z9_i32 0 ∧ G_nonterminalCount a = z9_i32 0) ∨ (M_loaded m = 1 ∧ ∃ nR nS, 0 < nR ∧ nR ≤ 12 ∧ nS ≤ 6 ∧ z9_A_nR (z9_absG a) = nR ∧ z9_A_nS (z9_absG a) = nS ∧ G_ruleCount a = z9_i32 nR ∧ M_rules m = z9_i32 nR ∧ G_nonterminalCount a = z9_i32 nS ∧ M_symbols m = z9_i32 nS) := by
  rcases h.2 with ⟨h1, h2, h3, _⟩ | ⟨h1, ⟨F, rk, od, g1, g2, g3, g4, g5⟩, h3, _⟩
  · exact Or.inl ⟨h1, h2, h3⟩
  · right
    exact ⟨h1, z9_A_nR (z9_absG a), z9_A_nS (z9_absG a), g1.1.1, g1.1.2.1, g1.1.2.2.1, rfl, rfl, g3.1, h3.1.1, g3.2.1, h3.1.2.1⟩
theorem z9_l_count (h : z9_INV x d c u t a m) (hL : L ≤ 2048) (hI : I + 4 ≤ L) : ∃ m', F_Lw_law_count xs L c a m (z9_i32 I) = some m' ∧ z9_INV x d c u t a m' := by
  have hG := h.2.2.2
  refine ⟨M_put_code m 0, ?_, z9_INV_code h 0⟩
  unfold F_Lw_law_count
  rw [show (1 : Int32) = z9_i32 1 from rfl, z9_sc hL hI (by omega)]
  simp only [Option.bind_some]
  generalize xs (I + 1) = v
  have goal : ∃ y, F_Wt_count c a v = some y ∧ F_Md_count m v = some (y, M_put_code m 0) := by
    have hgr : ∀ n, n ≤ 12 → G_ruleCount a = z9_i32 n → F_Wt_hasGrammar a = some (z9_b01 (0 < n)) := by
      intro n hn hr
      unfold F_Wt_hasGrammar z9_b01 rn_bl
      rw [hr]
      have : (z9_i32 n ≤ 0) = (n ≤ 0) := z9_i32_le (b := 0) (by omega) (by decide)
      simp only [this]
      by_cases h0 : n ≤ 0
      · rw [if_pos h0, if_neg (by omega)]; rfl
      · rw [if_neg h0, if_pos (by omega)]; rfl
    have hxc : ∀ v' : Int32, (v' = 0 ∨ v' = 1 ∨ v' = 2 ∨ v' < 0 ∨ 2 < v') := by
      intro v'
      by_cases h0 : v' < 0
      · simp [h0]
      · by_cases h2 : (2 : Int32) < v'
        · simp [h2]
        · obtain ⟨n, hn, rfl⟩ := z9_i32_of (x := v') (Int32.not_lt.mp h0)
          have : ¬ 2 < n := by
            intro hh
            apply h2
            show z9_i32 2 < z9_i32 n
            rw [z9_i32_lt (by decide) hn]; exact hh
          have : n = 0 ∨ n = 1 ∨ n = 2 := by omega
          rcases this with rfl | rfl | rfl
          · exact Or.inl rfl
          · exact Or.inr (Or.inl rfl)
          · exact Or.inr (Or.inr (Or.inl rfl))
    unfold F_Wt_count F_Md_count
    simp only [z9_mp_code]
    rcases z9_gCount hG with ⟨h1, h2, h3⟩ | ⟨h1, nR, nS, k1, k2, k3, k4, k5, k6, k7, k8, k9⟩
    · have hc : C_textLength c = -1 := by
        rcases hG.2 with ⟨_, _, _, hc, _⟩ | ⟨q, _⟩
        · exact hc
        · rw [h1] at q; exact absurd q (by decide)
      rw [hgr 0 (by omega) h2, h1, hc]
      refine ⟨-1, ?_, ?_⟩
      · simp only [Option.bind_some, z9_b01_0]
        simp
      · split
        · rfl
        · split
          · rfl
          · rw [if_pos rfl]
    · rw [hgr nR k2 k6, h1, k6, k7, k8, k9]
      simp only [Option.bind_some, z9_b01_0, k1, not_true, if_false, show ¬ (1 : Int32) = 0 by decide]
      rcases hxc v with rfl | rfl | rfl | h0 | h2
      · refine ⟨z9_i32 nR, by simp, by simp⟩
      · refine ⟨z9_i32 nS, by simp, by simp⟩
      · refine ⟨C_textLength c, by simp, ?_⟩
        rcases hG.2 with ⟨q, _⟩ | ⟨_, _, _, _, ⟨t1, t2⟩ | ⟨n, tx, t1, t2, t3, t4, _⟩⟩
        · rw [h1] at q; exact absurd q (by decide)
        · rw [t1, t2]; simp
        · rw [t2, t3, t4]; simp
      · refine ⟨-1, ?_, by rw [if_pos h0]⟩
        have n0 : ¬ v = 0 := by intro e; rw [e] at h0; exact absurd h0 (by decide)
        have n1 : ¬ v = 1 := by intro e; rw [e] at h0; exact absurd h0 (by decide)
        have n2 : ¬ v = 2 := by intro e; rw [e] at h0; exact absurd h0 (by decide)
        rw [if_neg n0, if_neg n1, if_neg n2]
      · have n0 : ¬ v = 0 := by intro e; rw [e] at h2; exact absurd h2 (by decide)
        have n1 : ¬ v = 1 := by intro e; rw [e] at h2; exact absurd h2 (by decide)
        have n2 : ¬ v = 2 := by intro e; rw [e] at h2; exact absurd h2 (by decide)
        refine ⟨-1, by rw [if_neg n0, if_neg n1, if_neg n2], ?_⟩
        by_cases hv : v < 0
        · rw [if_pos hv]
        · rw [if_neg hv, if_pos h2]
  obtain ⟨y, e1, e2⟩ := goal
  rw [e1]
  simp only [Option.bind_some]
  rw [e2]
  simp only [Option.bind_some, if_true]
theorem z9_symCase (hG : z9_iG c u a m) (v : Int32) : (F_Wt_requireNonterminal a v = some (.inr 3) ∧ F_Md_isSymbol m v = some 0) ∨ (∃ s, s < z9_A_nS (z9_absG a) ∧ v = z9_i32 s ∧ M_loaded m = 1 ∧ F_Wt_requireNonterminal a v = some (.inl ()) ∧ F_Md_isSymbol m v = some 1) := by
  unfold F_Wt_requireNonterminal F_Md_isSymbol rn_bl
  by_cases h0 : v < 0
  · left
    simp only [h0, if_true]
    refine ⟨trivial, ?_⟩
    split <;> rfl
  · obtain ⟨s, hs, rfl⟩ := z9_i32_of (x := v) (Int32.not_lt.mp h0)
    simp only [h0, if_false]
    rcases z9_gCount hG with ⟨h1, h2, h3⟩ | ⟨h1, nR, nS, k1, k2, k3, k4, k5, k6, k7, k8, k9⟩
    · left
      rw [h1, h3]
      simp only [z9_i32_lt hs (show 0 < 2147483648 by decide), Nat.not_lt_zero, if_false, if_true]
      exact ⟨trivial, rfl⟩
    · rw [h1, k8, k9]
      simp only [z9_i32_lt hs (show nS < 2147483648 by omega), z9_i32_le (show nS < 2147483648 by omega) hs, show ¬ (1 : Int32) = 0 by decide, if_false]
      by_cases hsn : s < nS
      · right
        rw [if_pos hsn, if_neg (by omega)]
        exact ⟨s, by omega, rfl, trivial, rfl, rfl⟩
      · left
        rw [if_neg hsn, if_pos (by omega)]
        exact ⟨rfl, rfl⟩
theorem z9_loaded_GR (hG : z9_iG c u a m) (h1 : M_loaded m = 1) : z9_cGr c a (z9_absG a) ∧ z9_mGr m (z9_absG a) a u ∧ z9_kept m a u ∧ ((M_hasText m = 0 ∧ C_textLength c = -1) ∨ ∃ n tx, z9_text c a m n tx) := by
  rcases hG.2 with ⟨q, _⟩ | ⟨_, h⟩
  · rw [h1] at q; exact absurd q (by decide)
  · exact h
theorem z9_out_ok (o : tO) (y : Int64) : aS o 1 0 y = some (fun j => if j = 0 then y else o j) ∧ aG (fun j => if j = 0 then y else o j) 1 0 = some y := by
  refine ⟨z9_aS_i (k := 0) (by omega) (by decide), ?_⟩
  rw [show (0 : Int32) = z9_i32 0 from rfl, z9_aG_i (by omega) (by decide)]; simp
theorem z9_lg_refl (y : Int64) : lg_cmp y y = 0 := (lg_cmp_eq y y).mpr rfl
theorem z9_l_name (h : z9_INV x d c u t a m) (hL : L ≤ 2048) (hI : I + 4 ≤ L) : ∃ m' o', F_Lw_law_name xs L a m o (z9_i32 I) = some (m', o') ∧ z9_INV x d c u t a m' := by
  have hG := h.2.2.2
  unfold F_Lw_law_name F_Lw_name F_Wt_name F_Md_name F_Md_thrown
  rw [show (1 : Int32) = z9_i32 1 from rfl, z9_sc hL hI (by omega)]
  simp only [Option.bind_some]
  rcases z9_symCase hG (xs (I + 1)) with ⟨e1, e2⟩ | ⟨s, hs, e0, hl, e1, e2⟩
  · rw [e1, e2]
    refine ⟨M_put_code m 1, o, ?_, z9_INV_code h 1⟩
    simp only [Option.bind_some, if_true, z9_mp_code, show ¬ (1 : Int32) ≤ 0 by decide, if_false, show (z9_i32 1 : Int32) = 1 from rfl, show ¬ (1 : Int32) = 0 by decide, not_false_eq_true]
  · obtain ⟨⟨F, rk, od, g1, g2, g3, g4, g5⟩, hm, _⟩ := z9_loaded_GR hG hl
    have h6 := g1.1.2.2.1
    rw [e1, e2, e0]
    refine ⟨M_put_code m 0, fun j => if j = 0 then (G_capitals a s).toInt64 else o j, ?_, z9_INV_code h 0⟩
    simp only [Option.bind_some, show ¬ (1 : Int32) = 0 by decide, if_false, z9_mp_code, show ((0 : Int32) ≤ 0) = True from eq_true (by decide), if_true]
    rw [z9_aG_i (by omega) (by decide), z9_aG_i (by omega) (by decide), hm.2.1 s hs]
    simp only [Option.bind_some]
    rw [(z9_out_ok o _).1]
    simp only [Option.bind_some, if_true, not_true, if_false]
    rw [(z9_out_ok o _).2]
    simp only [Option.bind_some, z9_lg_refl, if_true, z9_mp_code]
theorem z9_l_weight (h : z9_INV x d c u t a m) (hL : L ≤ 2048) (hI : I + 4 ≤ L) : ∃ m' o', F_Lw_law_weight xs L a m o (z9_i32 I) = some (m', o') ∧ z9_INV x d c u t a m' := by
  have hG := h.2.2.2
  unfold F_Lw_law_weight F_Lw_weight F_Wt_weight F_Md_weight F_Md_thrown
  rw [show (1 : Int32) = z9_i32 1 from rfl, z9_sc hL hI (by omega)]
  simp only [Option.bind_some]
  generalize xs (I + 1) = v
  by_cases h0 : v < 0
  · refine ⟨M_put_code m 1, o, ?_, z9_INV_code h 1⟩
    have : (if M_loaded m = 0 then some (z9_i32 1) else if v < 0 then some (z9_i32 1) else if M_rules m ≤ v then some (z9_i32 1) else some (0 : Int32)) = some 1 := by
      rw [if_pos h0]; split <;> rfl
    simp only [h0, if_true, Option.bind_some] at this ⊢
    rw [this]
    simp only [Option.bind_some, z9_mp_code, show ¬ (1 : Int32) ≤ 0 by decide, if_false, show (z9_i32 1 : Int32) = 1 from rfl, if_true, show ¬ (1 : Int32) = 0 by decide, not_false_eq_true]
  · obtain ⟨s, hs, rfl⟩ := z9_i32_of (x := v) (Int32.not_lt.mp h0)
    simp only [h0, if_false]
    rcases z9_gCount hG with ⟨h1, h2, h3⟩ | ⟨h1, nR, nS, k1, k2, k3, k4, k5, k6, k7, k8, k9⟩
    · rw [h1, h2]
      refine ⟨M_put_code m 1, o, ?_, z9_INV_code h 1⟩
      simp only [z9_i32_lt hs (show 0 < 2147483648 by decide), Nat.not_lt_zero, if_false, if_true, Option.bind_some, z9_mp_code, show (z9_i32 1 : Int32) = 1 from rfl, show ¬ (1 : Int32) ≤ 0 by decide, show ¬ (1 : Int32) = 0 by decide, not_false_eq_true]
    · rw [h1, k6, k7]
      simp only [z9_i32_lt hs (show nR < 2147483648 by omega), z9_i32_le (show nR < 2147483648 by omega) hs, show ¬ (1 : Int32) = 0 by decide, if_false]
      by_cases hsn : s < nR
      · obtain ⟨⟨F, rk, od, g1, g2, g3, g4, g5⟩, hm, _⟩ := z9_loaded_GR hG h1
        rw [if_pos hsn, if_neg (show ¬ nR ≤ s by omega)]
        refine ⟨M_put_code m 0, fun j => if j = 0 then G_weights a s else o j, ?_, z9_INV_code h 0⟩
        simp only [Option.bind_some, z9_mp_code, show ((0 : Int32) ≤ 0) = True from eq_true (by decide), if_true]
        rw [z9_aG_i (by omega) (by decide), z9_aG_i (by omega) (by decide), (hm.1.2.2 s (by omega)).2.2.2.1, (g3.2.2 s (by omega)).2.2.2.1]
        simp only [Option.bind_some]
        rw [(z9_out_ok o _).1]
        simp only [Option.bind_some, if_true, not_true, if_false]
        rw [(z9_out_ok o _).2]
        simp only [Option.bind_some, z9_lg_refl, if_true, z9_mp_code]
      · rw [if_neg hsn, if_pos (show nR ≤ s by omega)]
        refine ⟨M_put_code m 1, o, ?_, z9_INV_code h 1⟩
        simp only [Option.bind_some, z9_mp_code, show (z9_i32 1 : Int32) = 1 from rfl, show ¬ (1 : Int32) ≤ 0 by decide, if_false, if_true, show ¬ (1 : Int32) = 0 by decide, not_false_eq_true]
theorem z9_l_empty (h : z9_INV x d c u t a m) (hL : L ≤ 2048) (hI : I + 4 ≤ L) : ∃ m' o', F_Lw_law_empty xs L c a m o (z9_i32 I) = some (m', o') ∧ z9_INV x d c u t a m' := by
  have hG := h.2.2.2
  unfold F_Lw_law_empty F_Lw_empty F_Wt_empty F_Md_empty F_Md_thrown
  rw [show (1 : Int32) = z9_i32 1 from rfl, z9_sc hL hI (by omega)]
  simp only [Option.bind_some]
  rcases z9_symCase hG (xs (I + 1)) with ⟨e1, e2⟩ | ⟨s, hs, e0, hl, e1, e2⟩
  · rw [e1, e2]
    refine ⟨M_put_code m 1, o, ?_, z9_INV_code h 1⟩
    simp only [Option.bind_some, if_true, z9_mp_code, show ¬ (1 : Int32) ≤ 0 by decide, if_false, show (z9_i32 1 : Int32) = 1 from rfl, show ¬ (1 : Int32) = 0 by decide, not_false_eq_true]
  · obtain ⟨⟨F, rk, od, g1, g2, g3, g4, g5⟩, hm, _⟩ := z9_loaded_GR hG hl
    have h6 := g1.1.2.2.1
    rw [e1, e2, e0]
    refine ⟨M_put_code m 0, fun j => if j = 0 then z9_VS (z9_absG a) (fun _ => 0) s 0 0 else o j, ?_, z9_INV_code h 0⟩
    unfold F_Ch_emptySum
    rw [show F_Ch_cell (z9_i32 s) 0 0 = some (z9_i32 (z9_cel s 0 0)) from z9_c_cell (s := s) (p := 0) (q := 0) (by omega) (by omega) (by omega)]
    simp only [Option.bind_some, show ¬ (1 : Int32) = 0 by decide, if_false, z9_mp_code, show ((0 : Int32) ≤ 0) = True from eq_true (by decide), if_true]
    rw [z9_aG_i (z9_cel_lt (by omega) (Nat.le_refl _) (by omega)) (by decide), z9_aG_i (by omega) (by decide), (hm.2.2.1 (fun _ => 0) s hs).1, (g5 (fun _ => 0) s hs).1]
    simp only [Option.bind_some]
    rw [(z9_out_ok o _).1]
    simp only [Option.bind_some, if_true, not_true, if_false]
    rw [(z9_out_ok o _).2]
    simp only [Option.bind_some, z9_lg_refl, if_true, z9_mp_code]
theorem z9_l_unit (h : z9_INV x d c u t a m) (hL : L ≤ 2048) (hI : I + 4 ≤ L) : ∃ m' o', F_Lw_law_unit xs L u a m o (z9_i32 I) = some (m', o') ∧ z9_INV x d c u t a m' := by
  have hG := h.2.2.2
  unfold F_Lw_law_unit F_Lw_unit F_Wt_unit F_Md_unit F_Md_thrown
  rw [show (1 : Int32) = z9_i32 1 from rfl, show (2 : Int32) = z9_i32 2 from rfl, z9_sc hL hI (by omega), z9_sc hL hI (by omega)]
  simp only [Option.bind_some]
  rcases z9_symCase hG (xs (I + 1)) with ⟨e1, e2⟩ | ⟨s, hs, e0, hl, e1, e2⟩
  · rw [e1, e2]
    refine ⟨M_put_code m 1, o, ?_, z9_INV_code h 1⟩
    simp only [Option.bind_some, if_true, z9_mp_code, show ¬ (1 : Int32) ≤ 0 by decide, if_false, show (z9_i32 1 : Int32) = 1 from rfl, show ¬ (1 : Int32) = 0 by decide, not_false_eq_true]
  · rcases z9_symCase hG (xs (I + 2)) with ⟨f1, f2⟩ | ⟨q, hq, f0, _, f1, f2⟩
    · rw [e1, e2]
      simp only [Option.bind_some]
      rw [f1, f2]
      refine ⟨M_put_code m 1, o, ?_, z9_INV_code h 1⟩
      simp only [Option.bind_some, if_true, z9_mp_code, show ¬ (1 : Int32) ≤ 0 by decide, if_false, show (z9_i32 1 : Int32) = 1 from rfl, show ¬ (1 : Int32) = 0 by decide, not_false_eq_true]
    · obtain ⟨⟨F, rk, od, g1, g2, g3, g4, g5⟩, hm, _⟩ := z9_loaded_GR hG hl
      have h6 := g1.1.2.2.1
      rw [e1, e2]
      simp only [Option.bind_some]
      rw [f1, f2, e0, f0]
      refine ⟨M_put_code m 0, fun j => if j = 0 then u (s * 6 + q) else o j, ?_, z9_INV_code h 0⟩
      unfold F_Ut_sum
      simp only [Option.bind_some, show ¬ (1 : Int32) = 0 by decide, if_false, z9_mp_code, show ((0 : Int32) ≤ 0) = True from eq_true (by decide), if_true, show (6 : Int32) = z9_i32 6 from rfl, z9_i32_mul, z9_i32_add]
      rw [z9_aG_i (by omega) (by decide), z9_aG_i (by omega) (by decide), hm.2.2.2 s q hs hq]
      simp only [Option.bind_some]
      rw [(z9_out_ok o _).1]
      simp only [Option.bind_some, if_true, not_true, if_false]
      rw [(z9_out_ok o _).2]
      simp only [Option.bind_some, z9_lg_refl, if_true, z9_mp_code]
end
section
variable {xs : Nat → Int32} {L I : Nat} {x : tX} {d : tD} {c : tC} {u : tU} {t : tT} {a b : tG} {m : tM} {o : tO}
theorem z9_refuse0 {v0 v1 v2 : Int32} (h : F_Md_isSymbol m v0 = some 0) : F_Md_refusal m v0 v1 v2 = some 1 := by
  unfold F_Md_refusal; rw [h]; rfl
theorem z9_partCase (hG : z9_iG c u a m) (hl : M_loaded m = 1) {v0 : Int32} (hs : F_Md_isSymbol m v0 = some 1) (v1 v2 : Int32) : (F_Wt_requirePart c v1 v2 = some (.inr 1) ∧ F_Md_refusal m v0 v1 v2 = some 2) ∨ (∃ n tx p q, z9_text c a m n tx ∧ v1 = z9_i32 p ∧ v2 = z9_i32 q ∧ p ≤ q ∧ q ≤ n ∧ F_Wt_requirePart c v1 v2 = some (.inl ()) ∧ F_Md_refusal m v0 v1 v2 = some 0) := by
  obtain ⟨_, _, _, ht⟩ := z9_loaded_GR hG hl
  unfold F_Wt_requirePart F_Md_refusal
  rw [hs]
  simp only [Option.bind_some, show ¬ (1 : Int32) = 0 by decide, not_false_eq_true, if_true]
  by_cases h1 : v1 < 0
  · left
    simp only [h1, if_true]
    refine ⟨trivial, ?_⟩
    split <;> rfl
  · simp only [h1, if_false]
    by_cases h2 : v2 < v1
    · left
      simp only [h2, if_true]
      refine ⟨trivial, ?_⟩
      split <;> rfl
    · simp only [h2, if_false]
      have hv2 : 0 ≤ v2 := Int32.le_trans (Int32.not_lt.mp h1) (Int32.not_lt.mp h2)
      obtain ⟨p, hp, rfl⟩ := z9_i32_of (x := v1) (Int32.not_lt.mp h1)
      obtain ⟨q, hq, rfl⟩ := z9_i32_of (x := v2) hv2
      rw [z9_i32_lt hq hp] at h2
      rcases ht with ⟨t1, t2⟩ | ⟨n, tx, ht⟩
      · left
        have : ¬ z9_i32 q ≤ -1 := by
          rw [Int32.le_iff_toInt_le, z9_i32_toInt hq]
          have : (-1 : Int32).toInt = -1 := by decide
          rw [this]; omega
        rw [t1, t2, if_neg this]
        simp only [if_true, Option.bind_some, and_self]
      · have ht' := ht
        obtain ⟨t1, t2, t3, t4, t5, t6⟩ := ht
        rw [t2, t3, t4]
        simp only [show ¬ (1 : Int32) = 0 by decide, if_false, z9_i32_le hq (show n < 2147483648 by omega)]
        by_cases hqn : q ≤ n
        · right
          simp only [hqn, if_true, Option.bind_some]
          exact ⟨n, tx, p, q, ht', rfl, rfl, by omega, hqn, trivial, trivial⟩
        · left
          simp only [hqn, if_false, Option.bind_some, and_self]
theorem z9_l_inside (h : z9_INV x d c u t a m) (hL : L ≤ 2048) (hI : I + 4 ≤ L) : ∃ m' o', F_Lw_law_inside xs L c a m o (z9_i32 I) = some (m', o') ∧ z9_INV x d c u t a m' := by
  have hG := h.2.2.2
  unfold F_Lw_law_inside F_Lw_inside F_Wt_inside F_Md_inside F_Md_thrown
  rw [show (1 : Int32) = z9_i32 1 from rfl, show (2 : Int32) = z9_i32 2 from rfl, show (3 : Int32) = z9_i32 3 from rfl, z9_sc hL hI (by omega), z9_sc hL hI (by omega), z9_sc hL hI (by omega)]
  simp only [Option.bind_some]
  rcases z9_symCase hG (xs (I + 1)) with ⟨e1, e2⟩ | ⟨s, hs, e0, hl, e1, e2⟩
  · rw [e1, z9_refuse0 e2]
    refine ⟨M_put_code m 1, o, ?_, z9_INV_code h 1⟩
    simp only [Option.bind_some, if_true, z9_mp_code, show ¬ (1 : Int32) ≤ 0 by decide, if_false, show (z9_i32 1 : Int32) = 1 from rfl, show ¬ (1 : Int32) = 0 by decide, not_false_eq_true, show ¬ (3 : Nat) = 1 by decide]
  · rw [e1]
    simp only [Option.bind_some]
    rcases z9_partCase hG hl e2 (xs (I + 2)) (xs (I + 3)) with ⟨f1, f2⟩ | ⟨n, tx, p, q, ht, p0, q0, hpq, hqn, f1, f2⟩
    · rw [f1, f2]
      refine ⟨M_put_code m 2, o, ?_, z9_INV_code h 2⟩
      simp only [Option.bind_some, if_true, z9_mp_code, show ¬ (2 : Int32) ≤ 0 by decide, if_false, show (z9_i32 2 : Int32) = 2 from rfl, show ¬ (2 : Int32) = 0 by decide, not_false_eq_true]
    · obtain ⟨⟨F, rk, od, g1, g2, g3, g4, g5⟩, hm, _⟩ := z9_loaded_GR hG hl
      have h6 := g1.1.2.2.1
      obtain ⟨t1, t2, t3, t4, t5, t6⟩ := ht
      have hA : z9_mAll (M_put_code m 0) (z9_absG a) tx n := z9_mAll_fr' t6 (by simp only [z9_fE]) (by simp only [z9_fC]) (by simp only [z9_fX])
      have hsum := z9_m_sumOf g1.1 (z9_mAll_CH g1 t1 hA (Nat.le_refl n) (i := 0)) t1 (Or.inl hs) (Nat.zero_le p) hpq hqn
      rw [f1, f2, e0, p0, q0]
      refine ⟨M_put_code m 0, fun j => if j = 0 then z9_VS (z9_absG a) tx s p q else o j, ?_, z9_INV_code h 0⟩
      simp only [Option.bind_some, z9_mp_code, show ((0 : Int32) ≤ 0) = True from eq_true (by decide), if_true]
      rw [hsum, z9_c_cell (by omega) (by omega) (by omega)]
      simp only [Option.bind_some]
      rw [z9_aG_i (z9_cel_lt (by omega) hpq (by omega)) (by decide), (t5 s p q hs hpq hqn).1, z9_symS_lt (by omega)]
      simp only [Option.bind_some]
      rw [(z9_out_ok o _).1]
      simp only [Option.bind_some, if_true, not_true, if_false]
      rw [(z9_out_ok o _).2]
      simp only [Option.bind_some, z9_lg_refl, if_true, z9_mp_code]
theorem z9_l_cheapest (h : z9_INV x d c u t a m) (hL : L ≤ 2048) (hI : I + 4 ≤ L) : ∃ m' o', F_Lw_law_cheapest xs L c a m o (z9_i32 I) = some (m', o') ∧ z9_INV x d c u t a m' := by
  have hG := h.2.2.2
  unfold F_Lw_law_cheapest F_Lw_cheapest F_Wt_cheapest F_Md_cheapest F_Md_thrown
  rw [show (1 : Int32) = z9_i32 1 from rfl, show (2 : Int32) = z9_i32 2 from rfl, show (3 : Int32) = z9_i32 3 from rfl, z9_sc hL hI (by omega), z9_sc hL hI (by omega), z9_sc hL hI (by omega)]
  simp only [Option.bind_some]
  rcases z9_symCase hG (xs (I + 1)) with ⟨e1, e2⟩ | ⟨s, hs, e0, hl, e1, e2⟩
  · rw [e1, z9_refuse0 e2]
    refine ⟨M_put_code m 1, o, ?_, z9_INV_code h 1⟩
    simp only [Option.bind_some, if_true, z9_mp_code, show ¬ (1 : Int32) ≤ 0 by decide, if_false, show (z9_i32 1 : Int32) = 1 from rfl, show ¬ (1 : Int32) = 0 by decide, not_false_eq_true, show ¬ (3 : Nat) = 1 by decide]
  · rw [e1]
    simp only [Option.bind_some]
    rcases z9_partCase hG hl e2 (xs (I + 2)) (xs (I + 3)) with ⟨f1, f2⟩ | ⟨n, tx, p, q, ht, p0, q0, hpq, hqn, f1, f2⟩
    · rw [f1, f2]
      refine ⟨M_put_code m 2, o, ?_, z9_INV_code h 2⟩
      simp only [Option.bind_some, if_true, z9_mp_code, show ¬ (2 : Int32) ≤ 0 by decide, if_false, show (z9_i32 2 : Int32) = 2 from rfl, show ¬ (2 : Int32) = 0 by decide, not_false_eq_true]
    · obtain ⟨⟨F, rk, od, g1, g2, g3, g4, g5⟩, hm, _⟩ := z9_loaded_GR hG hl
      have h6 := g1.1.2.2.1
      obtain ⟨t1, t2, t3, t4, t5, t6⟩ := ht
      have hA : z9_mAll (M_put_code m 0) (z9_absG a) tx n := z9_mAll_fr' t6 (by simp only [z9_fE]) (by simp only [z9_fC]) (by simp only [z9_fX])
      have hcost := z9_m_costOf g1.1 (z9_mAll_CH g1 t1 hA (Nat.le_refl n) (i := 0)) t1 (Or.inl hs) (Nat.zero_le p) hpq hqn
      rw [f1, f2, e0, p0, q0]
      refine ⟨M_put_code m 0, fun j => if j = 0 then (z9_ec (z9_vC (z9_absG a) tx s p q)).toInt64 else o j, ?_, z9_INV_code h 0⟩
      simp only [Option.bind_some, z9_mp_code, show ((0 : Int32) ≤ 0) = True from eq_true (by decide), if_true]
      rw [hcost, z9_c_cell (by omega) (by omega) (by omega)]
      simp only [Option.bind_some]
      rw [z9_aG_i (z9_cel_lt (by omega) hpq (by omega)) (by decide), (t5 s p q hs hpq hqn).2.1, z9_symC_lt (by omega)]
      simp only [Option.bind_some]
      rw [(z9_out_ok o _).1]
      simp only [Option.bind_some, if_true, not_true, if_false]
      rw [(z9_out_ok o _).2]
      simp only [Option.bind_some, z9_lg_refl, if_true, z9_mp_code]
theorem z9_l_build (h : z9_INV x d c u t a m) (hL : L ≤ 2048) (hI : I + 4 ≤ L) : ∃ t' m' o', F_Lw_law_build xs L c t a m o (z9_i32 I) = some (t', m', o') ∧ z9_INV x d c u t' a m' := by
  have hcB : z9_cB = 40000000 := rfl
  have hG := h.2.2.2
  unfold F_Lw_law_build F_Lw_build F_Wt_build F_Md_build F_Md_thrown
  rw [show (1 : Int32) = z9_i32 1 from rfl, show (2 : Int32) = z9_i32 2 from rfl, show (3 : Int32) = z9_i32 3 from rfl, z9_sc hL hI (by omega), z9_sc hL hI (by omega), z9_sc hL hI (by omega)]
  simp only [Option.bind_some]
  have cc : ∀ v v', z9_INV x d c u t a (M_put_code (M_put_code m v) v') := fun v v' => z9_INV_code (z9_INV_code h v) v'
  rcases z9_symCase hG (xs (I + 1)) with ⟨e1, e2⟩ | ⟨s, hs, e0, hl, e1, e2⟩
  · rw [e1, z9_refuse0 e2]
    refine ⟨t, M_put_code (M_put_code m 1) 1, o, ?_, cc 1 1⟩
    simp only [Option.bind_some, if_true, z9_mp_code, show ¬ (1 : Int32) ≤ 0 by decide, if_false, show (z9_i32 1 : Int32) = 1 from rfl, show ¬ (1 : Int32) = 0 by decide, not_false_eq_true, show ¬ (3 : Nat) = 1 by decide, show ¬ (3 : Nat) = 2 by decide]
  · rw [e1]
    simp only [Option.bind_some]
    rcases z9_partCase hG hl e2 (xs (I + 2)) (xs (I + 3)) with ⟨f1, f2⟩ | ⟨n, tx, p, q, ht, p0, q0, hpq, hqn, f1, f2⟩
    · rw [f1, f2]
      refine ⟨t, M_put_code (M_put_code m 2) 2, o, ?_, cc 2 2⟩
      simp only [Option.bind_some, if_true, z9_mp_code, show ¬ (2 : Int32) ≤ 0 by decide, if_false, show (z9_i32 2 : Int32) = 2 from rfl, show ¬ (2 : Int32) = 0 by decide, not_false_eq_true]
    · obtain ⟨⟨F, rk, od, g1, g2, g3, g4, g5⟩, hm, hk, _⟩ := z9_loaded_GR hG hl
      have h6 := g1.1.2.2.1
      have ht' := ht
      obtain ⟨t1, t2, t3, t4, t5, t6⟩ := ht
      have hA : z9_mAll (M_put_code m 0) (z9_absG a) tx n := z9_mAll_fr' t6 (by simp only [z9_fE]) (by simp only [z9_fC]) (by simp only [z9_fX])
      have hcost := z9_m_costOf g1.1 (z9_mAll_CH g1 t1 hA (Nat.le_refl n) (i := 0)) t1 (Or.inl hs) (Nat.zero_le p) hpq hqn
      rw [z9_symC_lt (show s < 6 by omega)] at hcost
      have hvl := z9_v_le g1 hs hpq (show q - p ≤ 8 by omega) (tx := tx)
      have hht : F_Ch_hasTree c (z9_i32 s) (z9_i32 p) (z9_i32 q) = some (z9_b01 (z9_vC (z9_absG a) tx s p q ≠ none)) := by
        unfold F_Ch_hasTree
        rw [z9_c_cell (by omega) (by omega) (by omega)]
        simp only [Option.bind_some]
        rw [z9_aG_i (z9_cel_lt (by omega) hpq (by omega)) (by decide), (t5 s p q hs hpq hqn).2.1]
        simp only [Option.bind_some, z9_ec_m1 hvl (show z9_cB < 2147483648 by omega)]
        unfold z9_b01 rn_bl
        by_cases hv : z9_vC (z9_absG a) tx s p q = none
        · simp [hv]
        · simp [hv]
      rw [f1, f2, e0, p0, q0]
      simp only [Option.bind_some]
      rw [hht]
      simp only [Option.bind_some, z9_b01_0, z9_mp_code, show ((0 : Int32) = 0) = True from eq_true rfl, not_true, if_false]
      rw [hcost]
      simp only [Option.bind_some, z9_ec_le0 hvl (show z9_cB < 2147483648 by omega), ne_eq, Classical.not_not]
      by_cases hv : z9_vC (z9_absG a) tx s p q = none
      · simp only [hv, not_true, if_false, if_true]
        refine ⟨t, M_put_code (M_put_code m 0) 3, o, ?_, cc 0 3⟩
        simp only [Option.bind_some, z9_mp_code, show (z9_i32 3 : Int32) = 3 from rfl, show ¬ (3 : Int32) ≤ 0 by decide, if_false, if_true, show ¬ (2 : Nat) = 1 by decide, show ¬ (3 : Int32) = 0 by decide, not_false_eq_true]
      · simp only [hv, not_false_eq_true, if_true, if_false]
        have hx : z9_nOK (z9_absG a) tx n (s, p, q) := ⟨hs, hpq, hqn, hv⟩
        obtain ⟨t', l1, l2, l3⟩ := z9_c_list g1 g3 t1 t5 t hx
        have hm2 : z9_mIs (M_put_code (M_put_code m 0) 0) (z9_absG a) := z9_mIs_fr hm.1 (by simp only [z9_fG])
        have hA2 : z9_mAll (M_put_code (M_put_code m 0) 0) (z9_absG a) tx n := z9_mAll_fr' t6 (by simp only [z9_fE]) (by simp only [z9_fC]) (by simp only [z9_fX])
        obtain ⟨m', u1, u2, u3, u4⟩ := z9_m_unroll g1 hm2 t1 hA2 hx
        have hmax : z9_sz (z9_absG a) tx s p q ≤ 368640 := z9_sz_max g1 hs hpq (by omega) hv
        rw [l1]
        simp only [Option.bind_some, z9_mp_code, show ((0 : Int32) ≤ 0) = True from eq_true (by decide), if_true]
        rw [u1]
        obtain ⟨w1, w2, w3, w4, w5, w6, w7, w8, w9⟩ := u2
        refine ⟨t', m', fun j => if j = 0 then (z9_i32 (z9_sz (z9_absG a) tx s p q)).toInt64 else o j, ?_, z9_iD_fr h.1 (w7.trans (by simp only [z9_fD])), z9_iW_fr h.2.1 (w8.trans (by simp only [z9_fW])), ⟨z9_sz (z9_absG a) tx s p q, by omega, u3, l2, ?_⟩, z9_iG_fr hG (w1.trans (by simp only [z9_fG])) (w2.trans (by simp only [z9_fE])) (w3.trans (by simp only [z9_fU])) (w4.trans (by simp only [z9_fX])) (w5.trans (by simp only [z9_fC])) (w6.trans (by simp only [z9_fK]))⟩
        · simp only [Option.bind_some, l2, u3]
          rw [(z9_out_ok o _).1]
          simp only [Option.bind_some, w9, z9_mp_code, if_true, not_true, if_false]
          rw [(z9_out_ok o _).2]
          simp only [Option.bind_some, z9_lg_refl, if_true]
        · intro k hk1 hk2
          obtain ⟨y1, y2, y3⟩ := l3 k hk1 hk2
          obtain ⟨z1, z2, z3⟩ := u4 k hk1 hk2
          rw [y1, y2, y3, z1, z2, z3]; exact ⟨rfl, rfl, rfl⟩
theorem z9_l_node (h : z9_INV x d c u t a m) (hL : L ≤ 2048) (hI : I + 4 ≤ L) : ∃ m' o', F_Lw_law_node xs L t m o (z9_i32 I) = some (m', o') ∧ z9_INV x d c u t a m' := by
  obtain ⟨N, n1, n2, n3, n4⟩ := h.2.2.1
  unfold F_Lw_law_node F_Lw_node F_Wt_node F_Md_node F_Md_thrown F_Tl_shownCount
  rw [show (1 : Int32) = z9_i32 1 from rfl, show (2 : Int32) = z9_i32 2 from rfl, z9_sc hL hI (by omega), z9_sc hL hI (by omega)]
  simp only [Option.bind_some]
  generalize xs (I + 1) = v
  generalize xs (I + 2) = y
  by_cases h0 : v < 0
  · refine ⟨M_put_code m 1, o, ?_, z9_INV_code h 1⟩
    simp only [h0, if_true, Option.bind_some, z9_mp_code, show (z9_i32 1 : Int32) = 1 from rfl, show ¬ (1 : Int32) ≤ 0 by decide, if_false, show ¬ (1 : Int32) = 0 by decide, not_false_eq_true]
  · obtain ⟨k, hk, rfl⟩ := z9_i32_of (x := v) (Int32.not_lt.mp h0)
    simp only [h0, if_false]
    rw [n2, n3]
    have e1 : ((100 : Int32) < z9_i32 N) = (100 < N) := z9_i32_lt (by decide) (by omega)
    have e2 : (z9_i32 k < (if (100 : Int32) < z9_i32 N then (100 : Int32) else z9_i32 N)) = (k < 100 ∧ k < N) := by
      simp only [e1]
      by_cases hN : 100 < N
      · rw [if_pos hN]
        have : (z9_i32 k < (100 : Int32)) = (k < 100) := z9_i32_lt hk (by decide)
        rw [this]; apply propext; omega
      · rw [if_neg hN, z9_i32_lt hk (by omega)]; apply propext; omega
    have e3 : (z9_i32 k ≤ (99 : Int32)) = (k ≤ 99) := z9_i32_le hk (by decide)
    simp only [e2, z9_i32_le (show N < 2147483648 by omega) hk, e3]
    by_cases hkk : k < 100 ∧ k < N
    · obtain ⟨y1, y2, y3⟩ := n4 k hkk.1 hkk.2
      simp only [hkk, and_self, if_true, show ¬ N ≤ k by omega, if_false, show k ≤ 99 by omega, Option.bind_some, z9_mp_code, show ((0 : Int32) ≤ 0) = True from eq_true (by decide)]
      rw [z9_aG_i (show k < 100 by omega) (by decide), z9_aG_i (show k < 100 by omega) (by decide), z9_aG_i (show k < 100 by omega) (by decide), z9_aG_i (show k < 100 by omega) (by decide), z9_aG_i (show k < 100 by omega) (by decide), z9_aG_i (show k < 100 by omega) (by decide), y1, y2, y3]
      by_cases c0 : y = 0
      · simp only [c0, if_true, not_true, if_false, Option.bind_some]
        rw [(z9_out_ok o _).1]
        simp only [Option.bind_some, z9_mp_code, if_true, not_true, if_false]
        rw [(z9_out_ok o _).2]
        simp only [Option.bind_some, z9_lg_refl, if_true]
        exact ⟨_, _, rfl, z9_INV_code h 0⟩
      · by_cases c1 : y = 1
        · simp only [c1, show ¬ (1 : Int32) = 0 by decide, show ((1 : Int32) = z9_i32 1) = True from eq_true rfl, if_true, not_true, if_false, not_false_eq_true, Option.bind_some]
          rw [(z9_out_ok o _).1]
          simp only [Option.bind_some, z9_mp_code, if_true, not_true, if_false]
          rw [(z9_out_ok o _).2]
          simp only [Option.bind_some, z9_lg_refl, if_true]
          exact ⟨_, _, rfl, z9_INV_code h 0⟩
        · by_cases c2 : y = 2
          · simp only [c2, show ¬ (2 : Int32) = 0 by decide, show ¬ (2 : Int32) = 1 by decide, show ((2 : Int32) = z9_i32 1) = False from eq_false (by decide), show ((2 : Int32) = z9_i32 2) = True from eq_true rfl, if_true, not_true, if_false, not_false_eq_true, Option.bind_some]
            rw [(z9_out_ok o _).1]
            simp only [Option.bind_some, z9_mp_code, if_true, not_true, if_false]
            rw [(z9_out_ok o _).2]
            simp only [Option.bind_some, z9_lg_refl, if_true]
            exact ⟨_, _, rfl, z9_INV_code h 0⟩
          · have c1' : ¬ y = z9_i32 1 := c1
            have c2' : ¬ y = z9_i32 2 := c2
            simp only [c0, c1, c2, c1', c2', not_false_eq_true, if_true, if_false, Option.bind_some]
            rw [(z9_out_ok o _).1]
            simp only [Option.bind_some, z9_mp_code, if_true, not_true, if_false]
            rw [(z9_out_ok o _).2]
            simp only [Option.bind_some, z9_lg_refl, if_true]
            exact ⟨_, _, rfl, z9_INV_code h 0⟩
    · refine ⟨M_put_code m 1, o, ?_, z9_INV_code h 1⟩
      have e4 : (if N ≤ k then some (z9_i32 1) else if k ≤ 99 then some (0 : Int32) else some (z9_i32 1)) = some 1 := by
        by_cases h1 : N ≤ k
        · rw [if_pos h1]; rfl
        · rw [if_neg h1, if_neg (by omega)]; rfl
      simp only [hkk, if_false, Option.bind_some]
      rw [e4]
      simp only [Option.bind_some, z9_mp_code, show (z9_i32 1 : Int32) = 1 from rfl, show ¬ (1 : Int32) ≤ 0 by decide, if_false, if_true, show ¬ (1 : Int32) = 0 by decide, not_false_eq_true]
end
section
variable {xs : Nat → Int32} {L I : Nat} {x : tX} {d : tD} {c : tC} {u : tU} {t : tT} {a b : tG} {m : tM} {o : tO}
theorem z9_hasGr (hG : z9_iG c u a m) : (M_loaded m = 0 ∧ F_Wt_hasGrammar a = some 0) ∨ (M_loaded m = 1 ∧ F_Wt_hasGrammar a = some 1) := by
  unfold F_Wt_hasGrammar rn_bl
  rcases z9_gCount hG with ⟨h1, h2, h3⟩ | ⟨h1, nR, nS, k1, k2, k3, k4, k5, k6, k7, k8, k9⟩
  · left
    rw [h2]; exact ⟨h1, rfl⟩
  · right
    rw [k6]
    have : (z9_i32 nR ≤ 0) = (nR ≤ 0) := z9_i32_le (b := 0) (by omega) (by decide)
    simp only [this, show ¬ nR ≤ 0 by omega, if_false]
    exact ⟨h1, rfl⟩
theorem z9_m_copyText {m : tM} {n : Nat} {cf : Nat → Nat} (h8 : n ≤ 8) (hm : z9_rSF (M_draft m) n cf) : ∃ m', F_Md_parse_L107 (z9_i32 n) rn_fu m 0 = some m' ∧ (∀ p, p < n → M_text m' p = z9_i32 (cf p)) ∧ z9_bG m' = z9_bG m ∧ z9_bE m' = z9_bE m ∧ z9_bU m' = z9_bU m ∧ z9_bC m' = z9_bC m ∧ z9_bK m' = z9_bK m ∧ z9_bD m' = z9_bD m ∧ z9_bN m' = z9_bN m ∧ z9_bW m' = z9_bW m ∧ M_code m' = M_code m ∧ M_hasText m' = M_hasText m ∧ M_letters m' = M_letters m := by
  refine z9_forU (L := fun f (st : tM) k => F_Md_parse_L107 (z9_i32 n) f st k) (Q := fun o => ∃ m', o = some m' ∧ (∀ p, p < n → M_text m' p = z9_i32 (cf p)) ∧ z9_bG m' = z9_bG m ∧ z9_bE m' = z9_bE m ∧ z9_bU m' = z9_bU m ∧ z9_bC m' = z9_bC m ∧ z9_bK m' = z9_bK m ∧ z9_bD m' = z9_bD m ∧ z9_bN m' = z9_bN m ∧ z9_bW m' = z9_bW m ∧ M_code m' = M_code m ∧ M_hasText m' = M_hasText m ∧ M_letters m' = M_letters m) (P := fun k st => (∀ p, p < k → M_text st p = z9_i32 (cf p)) ∧ z9_bG st = z9_bG m ∧ z9_bE st = z9_bE m ∧ z9_bU st = z9_bU m ∧ z9_bC st = z9_bC m ∧ z9_bK st = z9_bK m ∧ z9_bD st = z9_bD m ∧ z9_bN st = z9_bN m ∧ z9_bW st = z9_bW m ∧ M_code st = M_code m ∧ M_hasText st = M_hasText m ∧ M_letters st = M_letters m) (K := n) 0 m (by omega) (by omega) ⟨fun p hp => by omega, rfl, rfl, rfl, rfl, rfl, rfl, rfl, rfl, rfl, rfl, rfl⟩ ?_ ?_
  · intro f st hP
    refine ⟨st, ?_, hP⟩
    simp only [F_Md_parse_L107, Int32.le_refl, if_true]
  · intro f st k hk hP
    obtain ⟨p0, p1, p2, p3, p4, p5, p6, p7, p8, p9, p10, p11⟩ := hP
    left
    have hd := p6
    simp only [z9_bD, Prod.mk.injEq] at hd
    refine ⟨M_put_text st (fun j => if j = k then z9_i32 (cf k) else M_text st j), ?_, ?_, ?_⟩
    · simp only [F_Md_parse_L107, z9_i32_le (show n < 2147483648 by omega) (show k < 2147483648 by omega)]
      rw [if_neg (by omega), z9_aG_i (by omega) (by decide), hd.1, hm k hk]
      simp only [Option.bind_some]
      rw [z9_aS_i (by omega) (by decide)]; rfl
    · intro p hp
      simp only [z9_mp_text]
      by_cases hpk : p = k
      · rw [if_pos hpk, hpk]
      · rw [if_neg hpk]; exact p0 p (by omega)
    · simp only [z9_fG, z9_fE, z9_fU, z9_fC, z9_fK, z9_fD, z9_fN, z9_fW, z9_mp_text]
      exact ⟨p1, p2, p3, p4, p5, p6, p7, p8, p9, p10, p11⟩
theorem z9_l_parse (h : z9_INV x d c u t a m) : ∃ d' c' t' m' o', F_Lw_law_parse xs L d c t a m o (z9_i32 I) = some (d', c', t', m', o') ∧ z9_INV x d' c' u t' a m' := by
  have hcB : z9_cB = 40000000 := rfl
  obtain ⟨⟨n, h1, h2⟩, h3, h4, hG⟩ := h
  obtain ⟨hd, hs⟩ := z9_pDR_cf h1
  generalize hcf : (fun k => (M_draft m k).toNatClampNeg) = cf at hd hs
  have hn := hd.1
  have hcc : ∀ k, k < n → cf k ≤ 126 := fun k hk => (hd.2.2 k hk).2
  have iD0 : ∀ (m' : tM), M_draft m' = M_draft m → M_size m' = 0 → z9_iD (D_characters d, 0) m' := by
    intro m' e1 e2
    refine ⟨0, ⟨by omega, by simp only [z9_dt]; rfl, fun k hk => by omega⟩, e2⟩
  have hy1 : ∃ y1, (if (8 : Int32) < M_size m then some (0 : Int32) else some 1) = some y1 ∧ ((n ≤ 8 ∧ y1 = 1) ∨ (¬ n ≤ 8 ∧ y1 = 0)) := by
    rw [h2]
    have : ((8 : Int32) < z9_i32 n) = (8 < n) := z9_i32_lt (by decide) (by omega)
    simp only [this]
    by_cases h8 : 8 < n
    · rw [if_pos h8]; exact ⟨0, rfl, Or.inr ⟨by omega, rfl⟩⟩
    · rw [if_neg h8]; exact ⟨1, rfl, Or.inl ⟨by omega, rfl⟩⟩
  obtain ⟨y1, hy1a, hy1b⟩ := hy1
  have hs0 : z9_rSF (M_draft (M_put_size m 0)) n cf := by simp only [z9_mp_size]; exact hs
  have hmt := z9_m_isText hn hs0 hcc y1 hy1b
  unfold F_Lw_law_parse F_Lw_parse F_Wt_parse F_Md_parse F_Md_thrown F_Dr_clear
  rw [hy1a]
  simp only [Option.bind_some, h2]
  by_cases htx : z9_isTx cf n
  · rw [(z9_c_isText hd).1 htx, hmt.1 htx]
    simp only [Option.bind_some, show ¬ (1 : Int32) = 0 by decide, if_false, not_false_eq_true, if_true, z9_mp_size]
    rcases z9_hasGr hG with ⟨g1, g2⟩ | ⟨g1, g2⟩
    ·
      rw [g1, g2]
      simp only [Option.bind_some, if_true, not_true, if_false, z9_mp_code, show ¬ (2 : Int32) ≤ 0 by decide, show ¬ (2 : Nat) = 1 by decide, show ¬ (2 : Int32) = 0 by decide, not_false_eq_true]
      refine ⟨_, _, _, _, _, rfl, iD0 _ (by simp only [z9_mp_code, z9_mp_size]) (by simp only [z9_mp_code, z9_mp_size]), z9_iW_fr h3 (by simp only [z9_fW]), z9_iN_fr h4 (by simp only [z9_fN]), z9_iG_fr hG (by simp only [z9_fG]) (by simp only [z9_fE]) (by simp only [z9_fU]) (by simp only [z9_fX]) (by simp only [z9_fC]) (by simp only [z9_fK])⟩
    · rw [g1, g2]
      obtain ⟨⟨F, rk, od, k1, k2, k3, k4, k5⟩, hmg, hkp, _⟩ := z9_loaded_GR hG g1
      have h6 := k1.1.2.2.1
      have h8 := htx.1
      obtain ⟨c1, e1, e2, e3, e4⟩ := z9_c_takeText (c := c) hd h8
      have hf0 : ∀ s p, s < z9_A_nS (z9_absG a) → z9_fin c1 (z9_absG a) cf s p p := fun s p hs => z9_fin_eq (e2 _) (z9_fin_pp (k5 cf s hs))
      obtain ⟨c2, q1, q2, q3, q4⟩ := z9_c_fillText k1 k3 k2 (z9_cW_eq e2 k4) h8 (fun p hp => ⟨e4 p hp, hcc p hp⟩) e3 hf0
      simp only [Option.bind_some, show ¬ (1 : Int32) = 0 by decide, if_false, not_false_eq_true, if_true, z9_mp_code, show ((0 : Int32) ≤ 0) = True from eq_true (by decide)]
      rw [e1]
      unfold F_Tl_clear
      simp only [Option.bind_some]
      rw [q1]
      have htl : C_textLength c2 = z9_i32 n := by rw [q2.2, e3]
      have hvl : ∀ s, s < z9_A_nS (z9_absG a) → z9_ole z9_cB (z9_vC (z9_absG a) cf s 0 n) := fun s hs => z9_v_le k1 hs (Nat.zero_le _) (by omega)
     
      have hS0 : 0 < z9_A_nS (z9_absG a) := by
        have := (k1.1.2.2.2 0 k1.1.1).1; omega
      have hht : F_Ch_hasTree c2 0 0 (z9_i32 n) = some (z9_b01 (z9_vC (z9_absG a) cf 0 0 n ≠ none)) := by
        unfold F_Ch_hasTree
        rw [show F_Ch_cell 0 0 (z9_i32 n) = some (z9_i32 (z9_cel 0 0 n)) from z9_c_cell (s := 0) (p := 0) (by omega) (by omega) (by omega)]
        simp only [Option.bind_some]
        rw [z9_aG_i (z9_cel_lt (by omega) (Nat.zero_le _) (by omega)) (by decide), (q4 0 0 n hS0 (Nat.zero_le _) (Nat.le_refl _)).2.1]
        simp only [Option.bind_some, z9_ec_m1 (hvl 0 hS0) (show z9_cB < 2147483648 by omega)]
        unfold z9_b01 rn_bl
        by_cases hv : z9_vC (z9_absG a) cf 0 0 n = none
        · simp [hv]
        · simp [hv]
      simp only [Option.bind_some, htl]
      rw [hht]
      simp only [Option.bind_some, z9_b01_bl]
     
      have hsr : z9_rSF (M_draft (M_put_letters (M_put_nodes (M_put_hasText (M_put_code (M_put_size m 0) 0) 1) 0) (z9_i32 n))) n cf := by
        simp only [z9_mp_letters, z9_mp_nodes, z9_mp_hasText, z9_mp_code, z9_mp_size]; exact hs
      obtain ⟨m2, r1, r2, r3, r4, r5, r6, r7, r8, r9, r10, r11, r12, r13⟩ := z9_m_copyText h8 hsr
      simp only [z9_fG, z9_fE, z9_fU, z9_fC, z9_fK, z9_fW, z9_mp_letters, z9_mp_nodes, z9_mp_hasText, z9_mp_code] at r3 r4 r5 r6 r7 r10 r11 r12 r13
      rw [r1]
      have hm2 : z9_mIs m2 (z9_absG a) := z9_mIs_fr hmg.1 r3
      have hg2 : z9_mGr m2 (z9_absG a) a u := z9_mGr_fr hmg r3 r4 r5
      have hmf0 : ∀ s p, s < z9_A_nS (z9_absG a) → z9_mfin m2 (z9_absG a) cf s p p := by
        intro s p hs
        unfold z9_mfin
        rw [if_pos rfl, if_pos rfl, z9_VS_pp (z9_absG a) cf cf s p 0, z9_vC_pp (z9_absG a) cf cf s p 0]
        exact hg2.2.2.1 cf s hs
      obtain ⟨m3, s1, s2, s3⟩ := z9_m_fillText k1 hm2 h8 (fun p hp => ⟨r2 p hp, hcc p hp⟩) hmf0
      simp only [Option.bind_some]
      rw [s1]
      obtain ⟨w1, w2, w3, w4, w6, w7, w8, w9, w10⟩ := s2
      have hX := w4
      simp only [z9_bX, Prod.mk.injEq] at hX
      have hA3 : z9_mAll m3 (z9_absG a) cf n := ⟨s3, fun p hp => by rw [hX.2.2]; exact ⟨r2 p hp, hcc p hp⟩⟩
      have hcost : F_Md_costOf m3 0 0 (z9_i32 n) = some (z9_ec (z9_vC (z9_absG a) cf 0 0 n)) := by
        have := z9_m_costOf k1.1 (z9_mAll_CH k1 h8 hA3 (Nat.le_refl n) (i := 0)) h8 (s := 0) (p := 0) (Or.inl hS0) (Nat.le_refl _) (Nat.zero_le _) (Nat.le_refl n)
        rw [z9_symC_lt (by omega)] at this; exact this
      simp only [Option.bind_some]
      rw [hcost]
      have hcode : M_code m3 = 0 := by rw [w10, r11]
      have hb3 : ∀ (v : Int64), True := fun _ => trivial
      simp only [Option.bind_some, z9_ec_lt0 (hvl 0 hS0) (show z9_cB < 2147483648 by omega)]
      have finI : z9_INV x (D_characters d, 0) c2 u (T_rules t, T_starts t, T_ends t, T_symbols t, 0) a m3 := by
        have hD2 := w7.trans r8
        simp only [z9_bD, z9_mp_letters, z9_mp_nodes, z9_mp_hasText, z9_mp_code, z9_mp_size, Prod.mk.injEq] at hD2
        have hN2 := w8.trans r9
        simp only [z9_bN, z9_mp_letters, z9_mp_nodes, Prod.mk.injEq] at hN2
        refine ⟨iD0 m3 hD2.1 hD2.2, z9_iW_fr h3 (w9.trans r10), ⟨0, by omega, hN2.1, by simp only [z9_tt]; rfl, fun k _ hk => by omega⟩, q3, Or.inr ⟨?_, ⟨F, rk, od, k1, k2, k3, q3, fun tx s hs => z9_fin_pp (q4 s 0 0 hs (Nat.le_refl _) (Nat.zero_le _))⟩, z9_mGr_fr hg2 w1 w2 w3, z9_kept_fr hkp (w6.trans r7), Or.inr ⟨n, cf, h8, ?_, htl, ?_, q4, hA3⟩⟩⟩
        · have hK := w6.trans r7
          simp only [z9_bK, Prod.mk.injEq] at hK
          rw [hK.2.2]; exact g1
        · rw [hX.1]; exact r12
        · rw [hX.2.1]; exact r13
      by_cases hv : z9_vC (z9_absG a) cf 0 0 n = none
      · refine ⟨_, c2, _, m3, fun j => if j = 0 then 0 else o j, ?_, finI⟩
        simp only [hv, ne_eq, not_true, z9_b01, if_false, if_true, Option.bind_some]
        rw [(z9_out_ok o _).1]
        simp only [Option.bind_some, hcode, if_true, not_true, if_false, show rn_bl 0 = some 0 from rfl]
        rw [(z9_out_ok o _).2]
        simp only [Option.bind_some, z9_lg_refl, if_true]
      · refine ⟨_, c2, _, m3, fun j => if j = 0 then 1 else o j, ?_, finI⟩
        simp only [hv, ne_eq, not_false_eq_true, z9_b01, if_false, if_true, Option.bind_some, show ¬ (1 : Int32) = 0 by decide]
        rw [(z9_out_ok o _).1]
        simp only [Option.bind_some, hcode, if_true, not_true, if_false, show rn_bl 1 = some 1 from rfl, show ¬ (1 : Int32) = 0 by decide]
        rw [(z9_out_ok o _).2]
        simp only [Option.bind_some, z9_lg_refl, if_true]
  · rw [(z9_c_isText hd).2 htx, hmt.2 htx]
    simp only [Option.bind_some, if_true, not_true, if_false, z9_mp_code, show ¬ (1 : Int32) ≤ 0 by decide, show ¬ (1 : Int32) = 0 by decide, not_false_eq_true]
    refine ⟨_, _, _, _, _, rfl, iD0 _ (by simp only [z9_mp_code, z9_mp_size]) (by simp only [z9_mp_code, z9_mp_size]), z9_iW_fr h3 (by simp only [z9_fW]), z9_iN_fr h4 (by simp only [z9_fN]), z9_iG_fr hG (by simp only [z9_fG]) (by simp only [z9_fE]) (by simp only [z9_fU]) (by simp only [z9_fX]) (by simp only [z9_fC]) (by simp only [z9_fK])⟩
end
section
variable {xs : Nat → Int32} {L I : Nat} {x : tX} {d : tD} {c : tC} {u : tU} {t : tT} {a b : tG} {m : tM} {o : tO}
def z9_mFrL (m m' : tM) : Prop := z9_bG m' = z9_bG m ∧ z9_bE m' = z9_bE m ∧ z9_bU m' = z9_bU m ∧ z9_bX m' = z9_bX m ∧ z9_bC m' = z9_bC m ∧ z9_bK m' = z9_bK m ∧ z9_bD m' = z9_bD m ∧ z9_bN m' = z9_bN m ∧ z9_bW m' = z9_bW m ∧ M_code m' = M_code m
theorem z9_m_src1 {m : tM} {n : Nat} {cf : Nat → Nat} (hn : n ≤ 300) (hsz : M_size m = z9_i32 n) (hm : z9_rSF (M_draft m) n cf) : ∃ m', F_Md_load_L2 rn_fu m 0 = some m' ∧ z9_rSF (M_src m') n cf ∧ z9_mFrL m m' := by
  refine z9_forU (L := fun f (st : tM) k => F_Md_load_L2 f st k) (Q := fun o => ∃ m', o = some m' ∧ z9_rSF (M_src m') n cf ∧ z9_mFrL m m') (P := fun k st => (∀ p, p < k → M_src st p = z9_i32 (cf p)) ∧ z9_mFrL m st) (K := n) 0 m (by omega) (by omega) ⟨fun p hp => by omega, rfl, rfl, rfl, rfl, rfl, rfl, rfl, rfl, rfl, rfl⟩ ?_ ?_
  · intro f st hP
    have hd := hP.2.2.2.2.2.2.2.1
    simp only [z9_bD, Prod.mk.injEq] at hd
    refine ⟨st, ?_, hP⟩
    simp only [F_Md_load_L2, hd.2, hsz, Int32.le_refl, if_true]
  · intro f st k hk hP
    obtain ⟨p0, p1⟩ := hP
    left
    have hd := p1.2.2.2.2.2.2.1
    simp only [z9_bD, Prod.mk.injEq] at hd
    refine ⟨M_put_src st (fun j => if j = k then z9_i32 (cf k) else M_src st j), ?_, ?_, ?_⟩
    · simp only [F_Md_load_L2, hd.2, hsz, z9_i32_le (show n < 2147483648 by omega) (show k < 2147483648 by omega)]
      rw [if_neg (by omega), z9_aG_i (by omega) (by decide), hd.1, hm k hk]
      simp only [Option.bind_some]
      rw [z9_aS_i (by omega) (by decide)]; rfl
    · intro p hp
      simp only [z9_mp_src]
      by_cases hpk : p = k
      · rw [if_pos hpk, hpk]
      · rw [if_neg hpk]; exact p0 p (by omega)
    · unfold z9_mFrL at p1 ⊢
      simp only [z9_fG, z9_fE, z9_fU, z9_fX, z9_fC, z9_fK, z9_fD, z9_fN, z9_fW, z9_mp_src]; exact p1
theorem z9_m_src2 {m : tM} {n : Nat} (hn : n ≤ 300) (hsz : M_keptSize m = z9_i32 n) : ∃ m', F_Md_load_L129 rn_fu m 0 = some m' ∧ (∀ p, p < n → M_src m' p = M_kept m p) ∧ z9_mFrL m m' := by
  refine z9_forU (L := fun f (st : tM) k => F_Md_load_L129 f st k) (Q := fun o => ∃ m', o = some m' ∧ (∀ p, p < n → M_src m' p = M_kept m p) ∧ z9_mFrL m m') (P := fun k st => (∀ p, p < k → M_src st p = M_kept m p) ∧ z9_mFrL m st) (K := n) 0 m (by omega) (by omega) ⟨fun p hp => by omega, rfl, rfl, rfl, rfl, rfl, rfl, rfl, rfl, rfl, rfl⟩ ?_ ?_
  · intro f st hP
    have hd := hP.2.2.2.2.2.2.1
    simp only [z9_bK, Prod.mk.injEq] at hd
    refine ⟨st, ?_, hP⟩
    simp only [F_Md_load_L129, hd.2.1, hsz, Int32.le_refl, if_true]
  · intro f st k hk hP
    obtain ⟨p0, p1⟩ := hP
    left
    have hd := p1.2.2.2.2.2.1
    simp only [z9_bK, Prod.mk.injEq] at hd
    refine ⟨M_put_src st (fun j => if j = k then M_kept m k else M_src st j), ?_, ?_, ?_⟩
    · simp only [F_Md_load_L129, hd.2.1, hsz, z9_i32_le (show n < 2147483648 by omega) (show k < 2147483648 by omega)]
      rw [if_neg (by omega), z9_aG_i (by omega) (by decide), hd.1]
      simp only [Option.bind_some]
      rw [z9_aS_i (by omega) (by decide)]; rfl
    · intro p hp
      simp only [z9_mp_src]
      by_cases hpk : p = k
      · rw [if_pos hpk, hpk]
      · rw [if_neg hpk]; exact p0 p (by omega)
    · unfold z9_mFrL at p1 ⊢
      simp only [z9_fG, z9_fE, z9_fU, z9_fX, z9_fC, z9_fK, z9_fD, z9_fN, z9_fW, z9_mp_src]; exact p1
theorem z9_m_keep {m : tM} {n : Nat} {cf : Nat → Nat} (hn : n ≤ 300) (hm : z9_rSF (M_src m) n cf) : ∃ m', F_Md_load_L56 (z9_i32 n) rn_fu m 0 = some m' ∧ z9_rSF (M_kept m') n cf ∧ z9_bG m' = z9_bG m ∧ z9_bE m' = z9_bE m ∧ z9_bU m' = z9_bU m ∧ z9_bD m' = z9_bD m ∧ z9_bW m' = z9_bW m ∧ M_code m' = M_code m := by
  refine z9_forU (L := fun f (st : tM) k => F_Md_load_L56 (z9_i32 n) f st k) (Q := fun o => ∃ m', o = some m' ∧ z9_rSF (M_kept m') n cf ∧ z9_bG m' = z9_bG m ∧ z9_bE m' = z9_bE m ∧ z9_bU m' = z9_bU m ∧ z9_bD m' = z9_bD m ∧ z9_bW m' = z9_bW m ∧ M_code m' = M_code m) (P := fun k st => (∀ p, p < k → M_kept st p = z9_i32 (cf p)) ∧ M_src st = M_src m ∧ z9_bG st = z9_bG m ∧ z9_bE st = z9_bE m ∧ z9_bU st = z9_bU m ∧ z9_bD st = z9_bD m ∧ z9_bW st = z9_bW m ∧ M_code st = M_code m) (K := n) 0 m (by omega) (by omega) ⟨fun p hp => by omega, rfl, rfl, rfl, rfl, rfl, rfl, rfl⟩ ?_ ?_
  · intro f st hP
    refine ⟨st, ?_, hP.1, hP.2.2⟩
    simp only [F_Md_load_L56, Int32.le_refl, if_true]
  · intro f st k hk hP
    obtain ⟨p0, p1, p2⟩ := hP
    left
    refine ⟨M_put_kept st (fun j => if j = k then z9_i32 (cf k) else M_kept st j), ?_, ?_, ?_, ?_⟩
    · simp only [F_Md_load_L56, z9_i32_le (show n < 2147483648 by omega) (show k < 2147483648 by omega)]
      rw [if_neg (by omega), z9_aG_i (by omega) (by decide), p1, hm k hk]
      simp only [Option.bind_some]
      rw [z9_aS_i (by omega) (by decide)]; rfl
    · intro p hp
      simp only [z9_mp_kept]
      by_cases hpk : p = k
      · rw [if_pos hpk, hpk]
      · rw [if_neg hpk]; exact p0 p (by omega)
    · simp only [z9_mp_kept]; exact p1
    · simp only [z9_fG, z9_fE, z9_fU, z9_fD, z9_fW, z9_mp_kept]; exact p2
theorem z9_iG_kept (hG : z9_iG c u a m) : ∃ n, n ≤ 300 ∧ M_keptSize m = z9_i32 n := by
  rcases hG.2 with ⟨_, _, _, _, h⟩ | ⟨_, _, _, ⟨n, cf, h1, h2, _⟩, _⟩
  · exact h
  · exact ⟨n, h1, h2⟩
theorem z9_m_back (hG : z9_iG c u a m) {m1 : tM} {y : Int32} (e1 : z9_bX m1 = z9_bX m) (e2 : z9_bC m1 = z9_bC m) (e3 : z9_bK m1 = z9_bK m) :
    ∃ z m2, (Option.bind (F_Md_load_L129 rn_fu (M_put_wrongLine m1 y) 0) fun m18 => if M_loaded m18 = 0 then some ((0 : Int32), m18) else Option.bind (F_Md_take m18 (M_keptSize m18)) fun (x21, m22) => some (x21, m22)) = some (z, m2) ∧ z9_iG c u a m2 ∧ z9_bD m2 = z9_bD m1 ∧ z9_bN m2 = z9_bN m1 ∧ M_wrongLine m2 = y ∧ M_code m2 = M_code m1 := by
  obtain ⟨n, hn, hk⟩ := z9_iG_kept hG
  have e3' := e3
  simp only [z9_bK, Prod.mk.injEq] at e3
  have hks : M_keptSize (M_put_wrongLine m1 y) = z9_i32 n := by simp only [z9_mp_wrongLine]; rw [e3.2.1]; exact hk
  obtain ⟨m18, q1, q2, q3⟩ := z9_m_src2 hn hks
  obtain ⟨f1, f2, f3, f4, f5, f6, f7, f8, f9, f10⟩ := q3
  simp only [z9_fG, z9_fE, z9_fU, z9_fX, z9_fC, z9_fK, z9_fD, z9_fN, z9_mp_wrongLine] at f1 f2 f3 f4 f5 f6 f7 f8 f10
  have f9' : M_wrongLine m18 = y := by
    have := f9
    simp only [z9_bW, z9_mp_wrongLine] at this; exact this
  have f6' := f6
  simp only [z9_bK, Prod.mk.injEq] at f6'
  rw [q1]
  simp only [Option.bind_some]
  have hG' := hG
  rcases hG.2 with ⟨h1, h2, h3, h4, h5⟩ | ⟨h1, h2, h3, ⟨z9_nk, cf, k1, k2, k3, k4⟩, h5⟩
  · have hl : M_loaded m18 = 0 := by rw [f6'.2.2, e3.2.2]; exact h1
    rw [if_pos hl]
    refine ⟨0, m18, rfl, ⟨hG.1, Or.inl ⟨hl, h2, h3, h4, ?_⟩⟩, f7, f8, f9', f10⟩
    rw [f6'.2.1, e3.2.1]; exact h5
  · have hl : M_loaded m18 = 1 := by rw [f6'.2.2, e3.2.2]; exact h1
    have hnk : z9_nk = n := by
      rw [k2] at hk
      have : (z9_i32 z9_nk = z9_i32 n) = (z9_nk = n) := z9_i32_inj (by omega) (by omega)
      rw [this] at hk; exact hk
    subst hnk
    have hsrc : z9_rSF (M_src m18) z9_nk cf := by
      intro p hp
      rw [q2 p hp]
      simp only [z9_mp_wrongLine]
      rw [e3.1]; exact k3 p hp
    obtain ⟨m22, t1, t2, t3⟩ := k4 m18 hsrc
    obtain ⟨u1, u2, u3, u4, u5, u6, u7, u8⟩ := t2
    have hks2 : M_keptSize m18 = z9_i32 z9_nk := by rw [f6'.2.1, e3.2.1]; exact k2
    rw [if_neg (by rw [hl]; decide), hks2, t1]
    refine ⟨0, m22, rfl, ⟨hG.1, Or.inr ⟨?_, h2, t3, ⟨z9_nk, cf, k1, ?_, ?_, k4⟩, ?_⟩⟩, u6.trans f7, u7.trans f8, ?_, u2.trans f10⟩
    · have := u5; simp only [z9_bK, Prod.mk.injEq] at this
      rw [this.2.2]; exact hl
    · have := u5; simp only [z9_bK, Prod.mk.injEq] at this
      rw [this.2.1]; exact hks2
    · have := u5; simp only [z9_bK, Prod.mk.injEq] at this
      rw [this.1, f6'.1, e3.1]; exact k3
    · have eX := (u3.trans f4).trans e1
      have z9_eC := (u4.trans f5).trans e2
      simp only [z9_bX, Prod.mk.injEq] at eX
      simp only [z9_bC, Prod.mk.injEq] at z9_eC
      rcases h5 with ⟨w1, w2⟩ | ⟨nn, tx, w1, w2, w3, w4, w5, w6⟩
      · left; rw [eX.1]; exact ⟨w1, w2⟩
      · right
        refine ⟨nn, tx, w1, by rw [eX.1]; exact w2, w3, by rw [eX.2.1]; exact w4, w5, ?_, ?_⟩
        · intro s p q hs hp hq
          unfold z9_mfin
          by_cases hpq : p = q
          · subst hpq
            rw [if_pos rfl, if_pos rfl, z9_VS_pp (z9_absG a) tx tx s p 0, z9_vC_pp (z9_absG a) tx tx s p 0]
            exact t3.2.2.1 tx s hs
          · rw [if_neg hpq, if_neg hpq, z9_eC.1, z9_eC.2]
            have := w6.1 s p q hs hp hq
            unfold z9_mfin at this
            rw [if_neg hpq, if_neg hpq] at this; exact this
        · intro p hp
          rw [eX.2.2]; exact w6.2 p hp
    · have := u8; simp only [z9_bW] at this
      rw [this]; exact f9'
theorem z9_l_load (h : z9_INV x d c u t a m) : ∃ x' d' c' u' t' a' b' m' o', F_Lw_law_load xs L x d c u t a b m o (z9_i32 I) = some (x', d', c', u', t', a', b', m', o') ∧ z9_INV x' d' c' u' t' a' m' := by
  obtain ⟨⟨n, h1, h2⟩, h3, h4, hG⟩ := h
  obtain ⟨hd, hs⟩ := z9_pDR_cf h1
  generalize hcf : (fun k => (M_draft m k).toNatClampNeg) = cf at hd hs
  have hn := hd.1
  obtain ⟨m1, a1, a2, a3⟩ := z9_m_src1 hn h2 hs
  obtain ⟨f1, f2, f3, f4, f5, f6, f7, f8, f9, f10⟩ := a3
  have f7' := f7
  simp only [z9_bD, Prod.mk.injEq] at f7'
  have hsz1 : M_size m1 = z9_i32 n := by rw [f7'.2]; exact h2
  have hsrc : z9_rSF (M_src (M_put_size m1 0)) n cf := by simp only [z9_mp_size]; exact a2
  have iD0 : ∀ (m' : tM), M_size m' = 0 → z9_iD (D_characters d, 0) m' := by
    intro m' e2
    exact ⟨0, ⟨by omega, by simp only [z9_dt]; rfl, fun k hk => by omega⟩, e2⟩
  unfold F_Lw_law_load F_Lw_load F_Md_load F_Md_thrown
  rw [a1]
  simp only [Option.bind_some, hsz1]
  rcases z9_t_take hd x b hG.1 u t (M_put_size m1 0) hsrc with ⟨l, b', r', l1, l2, e1, e2⟩ | ⟨b', r', e1, e2⟩ | ⟨a', c', u', r', e1, e2, e3, e4⟩
  ·
    obtain ⟨m2, q1, q2, q3⟩ := e2 _ hsrc
    obtain ⟨u1, u2, u3, u4, u5, u6, u7, u8⟩ := q2
    simp only [z9_fX, z9_fC, z9_fK, z9_fN, z9_fW, z9_mp_size] at u1 u2 u3 u4 u5 u7 u8
    rw [e1, q1]
    simp only [Option.bind_some, z9_mp_code, show ¬ (1 : Int32) = 0 by decide, not_false_eq_true, if_true, not_true, if_false, q3]
    obtain ⟨z, m3, w1, w2, w3, w4, w5, w6⟩ := z9_m_back hG (m1 := M_put_code m2 1) (y := z9_i32 l) (by simp only [z9_fX]; exact u3.trans f4) (by simp only [z9_fC]; exact u4.trans f5) (by simp only [z9_fK]; exact u5.trans f6)
    have w1' := w1
    rw [show (Option.bind (F_Md_load_L129 rn_fu (M_put_wrongLine (M_put_code m2 1) (z9_i32 l)) 0) fun m18 => if M_loaded m18 = 0 then some ((0 : Int32), m18) else Option.bind (F_Md_take m18 (M_keptSize m18)) fun x => some (x.1, x.2)) = some (z, m3) from w1']
    simp only [z9_fD, z9_mp_code] at w3 w6
    have hsz3 : M_size m3 = 0 := by
      have := w3.trans u6
      simp only [z9_bD, z9_mp_size, Prod.mk.injEq] at this; exact this.2
    simp only [Option.bind_some, w6, if_true]
    refine ⟨_, _, _, _, _, _, _, _, _, rfl, iD0 m3 hsz3, w5.symm, z9_iN_fr h4 ?_, w2⟩
    rw [w4]; simp only [z9_fN]; exact u7.trans f8
  ·
    obtain ⟨m2, q1, q2⟩ := e2 _ hsrc
    obtain ⟨u1, u2, u3, u4, u5, u6, u7, u8⟩ := q2
    simp only [z9_fX, z9_fC, z9_fK, z9_fN, z9_fW, z9_mp_size] at u1 u2 u3 u4 u5 u7 u8
    rw [e1, q1]
    simp only [Option.bind_some, z9_mp_code, show ¬ (2 : Int32) = 0 by decide, show ¬ (2 : Int32) = 1 by decide, show ¬ (2 : Nat) = 1 by decide, not_false_eq_true, if_true, not_true, if_false]
    obtain ⟨z, m3, w1, w2, w3, w4, w5, w6⟩ := z9_m_back hG (m1 := M_put_code m2 2) (y := M_wrongLine m2) (by simp only [z9_fX]; exact u3.trans f4) (by simp only [z9_fC]; exact u4.trans f5) (by simp only [z9_fK]; exact u5.trans f6)
    have w1' := w1
    rw [show (Option.bind (F_Md_load_L129 rn_fu (M_put_wrongLine (M_put_code m2 2) (M_wrongLine m2)) 0) fun m18 => if M_loaded m18 = 0 then some ((0 : Int32), m18) else Option.bind (F_Md_take m18 (M_keptSize m18)) fun x => some (x.1, x.2)) = some (z, m3) from w1']
    simp only [z9_fD, z9_mp_code] at w3 w6
    have hsz3 : M_size m3 = 0 := by
      have := w3.trans u6
      simp only [z9_bD, z9_mp_size, Prod.mk.injEq] at this; exact this.2
    simp only [Option.bind_some, w6, if_true]
    refine ⟨_, _, _, _, _, _, _, _, _, rfl, iD0 m3 hsz3, ?_, z9_iN_fr h4 ?_, w2⟩
    · unfold z9_iW at *
      rw [w5]
      have e8 := u8
      have e9 := f9
      simp only [z9_bW] at e8 e9
      rw [e8, e9]; exact h3
    · rw [w4]; simp only [z9_fN]; exact u7.trans f8
  ·
    obtain ⟨m2, q1, q2, q3⟩ := e4 _ hsrc
    obtain ⟨u1, u2, u3, u4, u5, u6, u7, u8⟩ := q2
    simp only [z9_mp_size, z9_fW] at u1 u8
    have hsr2 : z9_rSF (M_src (M_put_code m2 0)) n cf := by simp only [z9_mp_code]; rw [u1]; exact a2
    obtain ⟨m3, k1, k2, k3, k4, k5, k6, k7, k8⟩ := z9_m_keep hn hsr2
    simp only [z9_fG, z9_fE, z9_fU, z9_fD, z9_fW, z9_mp_code] at k3 k4 k5 k6 k7 k8
    rw [e1, q1]
    simp only [Option.bind_some, z9_mp_code, not_true, if_false]
    rw [k1, (z9_out_ok o _).1]
    simp only [Option.bind_some, z9_mp_nodes, z9_mp_hasText, z9_mp_loaded, z9_mp_keptSize, k8, if_true, not_true, if_false]
    rw [(z9_out_ok o _).2]
    have hrules : G_ruleCount a' = M_rules m3 := by
      obtain ⟨F, rk, od, g1, g2, g3, g4, g5⟩ := e2
      have := k3
      simp only [z9_bG, Prod.mk.injEq] at this
      rw [this.1, g3.1, q3.1.1]
    simp only [Option.bind_some, hrules, z9_lg_refl, if_true]
    refine ⟨_, _, _, _, _, _, _, _, _, rfl, iD0 _ ?_, ?_, ⟨0, by omega, ?_, ?_, fun k _ hk => by omega⟩, ?_, Or.inr ⟨?_, e2, z9_mGr_fr q3 ?_ ?_ ?_, ⟨n, cf, hn, ?_, ?_, e4⟩, Or.inl ⟨?_, e3⟩⟩⟩
    · simp only [z9_mp_nodes, z9_mp_hasText, z9_mp_loaded, z9_mp_keptSize]
      have := k6.trans u6
      simp only [z9_bD, z9_mp_size, Prod.mk.injEq] at this; exact this.2
    · unfold z9_iW at *
      simp only [z9_mp_nodes, z9_mp_hasText, z9_mp_loaded, z9_mp_keptSize]
      have e7 := k7
      have e8 := u8
      have e9 := f9
      simp only [z9_bW] at e7 e8 e9
      rw [e7, e8, e9]; exact h3
    · simp only [z9_mp_nodes]; rfl
    · simp only [z9_tt]; rfl
    · obtain ⟨F, rk, od, g1, g2, g3, g4, g5⟩ := e2
      exact g4
    · simp only [z9_mp_nodes, z9_mp_hasText, z9_mp_loaded]
    · simp only [z9_fG]; exact k3
    · simp only [z9_fE]; exact k4
    · simp only [z9_fU]; exact k5
    · simp only [z9_mp_nodes, z9_mp_hasText, z9_mp_loaded, z9_mp_keptSize]
    · simp only [z9_mp_nodes, z9_mp_hasText, z9_mp_loaded, z9_mp_keptSize]; exact k2
    · simp only [z9_mp_nodes, z9_mp_hasText]
end
