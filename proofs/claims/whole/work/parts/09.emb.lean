abbrev tX : Type := Int32
abbrev tD : Type := (Nat → Int32) × Int32
def D_characters (d9 : tD) : Nat → Int32 := d9.1
def D_length (d9 : tD) : Int32 := d9.2
abbrev tC : Type := (Nat → Int64) × (Nat → Int32) × (Nat → Int32) × (Nat → Int32) × (Nat → Int32) × (Nat → Int32) × Int32 × (Nat → Nat → Int64) × (Nat → Nat → Int32) × (Nat → Nat → Int32)
def C_sums (c9 : tC) : Nat → Int64 := c9.1
def C_costs (c9 : tC) : Nat → Int32 := c9.2.1
def C_rules (c9 : tC) : Nat → Int32 := c9.2.2.1
def C_sizes (c9 : tC) : Nat → Int32 := c9.2.2.2.1
def C_lengths (c9 : tC) : Nat → Int32 := c9.2.2.2.2.1
def C_letters (c9 : tC) : Nat → Int32 := c9.2.2.2.2.2.1
def C_textLength (c9 : tC) : Int32 := c9.2.2.2.2.2.2.1
def C_restSums (c9 : tC) : Nat → Nat → Int64 := c9.2.2.2.2.2.2.2.1
def C_restCosts (c9 : tC) : Nat → Nat → Int32 := c9.2.2.2.2.2.2.2.2.1
def C_restLengths (c9 : tC) : Nat → Nat → Int32 := c9.2.2.2.2.2.2.2.2.2
abbrev tU : Type := Nat → Int64
abbrev tT : Type := (Nat → Int32) × (Nat → Int32) × (Nat → Int32) × (Nat → Int32) × Int32
def T_rules (t9 : tT) : Nat → Int32 := t9.1
def T_starts (t9 : tT) : Nat → Int32 := t9.2.1
def T_ends (t9 : tT) : Nat → Int32 := t9.2.2.1
def T_symbols (t9 : tT) : Nat → Int32 := t9.2.2.2.1
def T_nodeCount (t9 : tT) : Int32 := t9.2.2.2.2
abbrev tG : Type := (Nat → Int32) × (Nat → Int32) × (Nat → Int32) × (Nat → Int64) × (Nat → Int32) × (Nat → Int32) × (Nat → Int32) × Int32 × Int32 × (Nat → Int32)
def G_heads (g9 : tG) : Nat → Int32 := g9.1
def G_bodies (g9 : tG) : Nat → Int32 := g9.2.1
def G_bodyLengths (g9 : tG) : Nat → Int32 := g9.2.2.1
def G_weights (g9 : tG) : Nat → Int64 := g9.2.2.2.1
def G_costs (g9 : tG) : Nat → Int32 := g9.2.2.2.2.1
def G_capitals (g9 : tG) : Nat → Int32 := g9.2.2.2.2.2.1
def G_order (g9 : tG) : Nat → Int32 := g9.2.2.2.2.2.2.1
def G_ruleCount (g9 : tG) : Int32 := g9.2.2.2.2.2.2.2.1
def G_nonterminalCount (g9 : tG) : Int32 := g9.2.2.2.2.2.2.2.2.1
def G_reached (g9 : tG) : Nat → Int32 := g9.2.2.2.2.2.2.2.2.2
abbrev tM : Type := Int32 × (Nat → Int32) × Int32 × (Nat → Int32) × (Nat → Int32) × Int32 × Int32 × Int32 × Int32 × (Nat → Int32) × (Nat → Int32) × (Nat → Int32) × (Nat → Int64) × (Nat → Int32) × Int32 × (Nat → Int32) × Int32 × Int32 × (Nat → Int32) × (Nat → Int64) × (Nat → Int32) × (Nat → Int64) × (Nat → Int32) × (Nat → Int64) × (Nat → Int64) × (Nat → Int64) × (Nat → Int32) × Int32 × (Nat → Int32) × (Nat → Int32) × (Nat → Int32) × (Nat → Int32) × Int32 × Int32 × Int32
def M_code (m9 : tM) : Int32 := m9.1
def M_draft (m9 : tM) : Nat → Int32 := m9.2.1
def M_size (m9 : tM) : Int32 := m9.2.2.1
def M_src (m9 : tM) : Nat → Int32 := m9.2.2.2.1
def M_kept (m9 : tM) : Nat → Int32 := m9.2.2.2.2.1
def M_keptSize (m9 : tM) : Int32 := m9.2.2.2.2.2.1
def M_loaded (m9 : tM) : Int32 := m9.2.2.2.2.2.2.1
def M_wrongLine (m9 : tM) : Int32 := m9.2.2.2.2.2.2.2.1
def M_rules (m9 : tM) : Int32 := m9.2.2.2.2.2.2.2.2.1
def M_heads (m9 : tM) : Nat → Int32 := m9.2.2.2.2.2.2.2.2.2.1
def M_lengths (m9 : tM) : Nat → Int32 := m9.2.2.2.2.2.2.2.2.2.2.1
def M_bodies (m9 : tM) : Nat → Int32 := m9.2.2.2.2.2.2.2.2.2.2.2.1
def M_weights (m9 : tM) : Nat → Int64 := m9.2.2.2.2.2.2.2.2.2.2.2.2.1
def M_costs (m9 : tM) : Nat → Int32 := m9.2.2.2.2.2.2.2.2.2.2.2.2.2.1
def M_symbols (m9 : tM) : Int32 := m9.2.2.2.2.2.2.2.2.2.2.2.2.2.2.1
def M_names (m9 : tM) : Nat → Int32 := m9.2.2.2.2.2.2.2.2.2.2.2.2.2.2.2.1
def M_hasText (m9 : tM) : Int32 := m9.2.2.2.2.2.2.2.2.2.2.2.2.2.2.2.2.1
def M_letters (m9 : tM) : Int32 := m9.2.2.2.2.2.2.2.2.2.2.2.2.2.2.2.2.2.1
def M_text (m9 : tM) : Nat → Int32 := m9.2.2.2.2.2.2.2.2.2.2.2.2.2.2.2.2.2.2.1
def M_emptySum (m9 : tM) : Nat → Int64 := m9.2.2.2.2.2.2.2.2.2.2.2.2.2.2.2.2.2.2.2.1
def M_emptyCost (m9 : tM) : Nat → Int32 := m9.2.2.2.2.2.2.2.2.2.2.2.2.2.2.2.2.2.2.2.2.1
def M_sums (m9 : tM) : Nat → Int64 := m9.2.2.2.2.2.2.2.2.2.2.2.2.2.2.2.2.2.2.2.2.2.1
def M_least (m9 : tM) : Nat → Int32 := m9.2.2.2.2.2.2.2.2.2.2.2.2.2.2.2.2.2.2.2.2.2.2.1
def M_units (m9 : tM) : Nat → Int64 := m9.2.2.2.2.2.2.2.2.2.2.2.2.2.2.2.2.2.2.2.2.2.2.2.1
def M_upTo (m9 : tM) : Nat → Int64 := m9.2.2.2.2.2.2.2.2.2.2.2.2.2.2.2.2.2.2.2.2.2.2.2.2.1
def M_upToNext (m9 : tM) : Nat → Int64 := m9.2.2.2.2.2.2.2.2.2.2.2.2.2.2.2.2.2.2.2.2.2.2.2.2.2.1
def M_rest (m9 : tM) : Nat → Int32 := m9.2.2.2.2.2.2.2.2.2.2.2.2.2.2.2.2.2.2.2.2.2.2.2.2.2.2.1
def M_nodes (m9 : tM) : Int32 := m9.2.2.2.2.2.2.2.2.2.2.2.2.2.2.2.2.2.2.2.2.2.2.2.2.2.2.2.1
def M_nodeRule (m9 : tM) : Nat → Int32 := m9.2.2.2.2.2.2.2.2.2.2.2.2.2.2.2.2.2.2.2.2.2.2.2.2.2.2.2.2.1
def M_nodeFrom (m9 : tM) : Nat → Int32 := m9.2.2.2.2.2.2.2.2.2.2.2.2.2.2.2.2.2.2.2.2.2.2.2.2.2.2.2.2.2.1
def M_nodeTo (m9 : tM) : Nat → Int32 := m9.2.2.2.2.2.2.2.2.2.2.2.2.2.2.2.2.2.2.2.2.2.2.2.2.2.2.2.2.2.2.1
def M_waits (m9 : tM) : Nat → Int32 := m9.2.2.2.2.2.2.2.2.2.2.2.2.2.2.2.2.2.2.2.2.2.2.2.2.2.2.2.2.2.2.2.1
def M_at (m9 : tM) : Int32 := m9.2.2.2.2.2.2.2.2.2.2.2.2.2.2.2.2.2.2.2.2.2.2.2.2.2.2.2.2.2.2.2.2.1
def M_end (m9 : tM) : Int32 := m9.2.2.2.2.2.2.2.2.2.2.2.2.2.2.2.2.2.2.2.2.2.2.2.2.2.2.2.2.2.2.2.2.2.1
def M_value (m9 : tM) : Int32 := m9.2.2.2.2.2.2.2.2.2.2.2.2.2.2.2.2.2.2.2.2.2.2.2.2.2.2.2.2.2.2.2.2.2.2
abbrev tO : Type := Nat → Int64
abbrev tR : Type := Int32 × Int32
def R_at (r9 : tR) : Int32 := r9.1
def R_end (r9 : tR) : Int32 := r9.2
def emb (g1 g2 : Nat) (x : tX) (d : tD) (c : tC) (u : tU) (t : tT) (a : tG) (b : tG) (m : tM) (o : tO) (E : List rn_C) : List rn_C := rn_s ::
  rn_o 0 [.ref 2, .ref 4, .ref 28, .ref 30, .ref g1, .ref g2, .int (x)] ::
  rn_o 1 [.ref 3, .int (D_length d)] ::
  rn_i .char 300 (D_characters d) ::
  rn_o 2 [.ref 5, .ref 6, .ref 7, .ref 8, .ref 9, .ref 10, .int (C_textLength c), .ref 11, .ref 17, .ref 23] ::
  rn_l 390 (C_sums c) ::
  rn_i .int 390 (C_costs c) ::
  rn_i .int 390 (C_rules c) ::
  rn_i .int 390 (C_sizes c) ::
  rn_i .int 390 (C_lengths c) ::
  rn_i .char 8 (C_letters c) ::
  rn_q (.array .long) [some 12, some 13, some 14, some 15, some 16] ::
  rn_l 9 (C_restSums c 0) ::
  rn_l 9 (C_restSums c 1) ::
  rn_l 9 (C_restSums c 2) ::
  rn_l 9 (C_restSums c 3) ::
  rn_l 9 (C_restSums c 4) ::
  rn_q (.array .int) [some 18, some 19, some 20, some 21, some 22] ::
  rn_i .int 9 (C_restCosts c 0) ::
  rn_i .int 9 (C_restCosts c 1) ::
  rn_i .int 9 (C_restCosts c 2) ::
  rn_i .int 9 (C_restCosts c 3) ::
  rn_i .int 9 (C_restCosts c 4) ::
  rn_q (.array .int) [some 24, some 25, some 26, some 27] ::
  rn_i .int 9 (C_restLengths c 0) ::
  rn_i .int 9 (C_restLengths c 1) ::
  rn_i .int 9 (C_restLengths c 2) ::
  rn_i .int 9 (C_restLengths c 3) ::
  rn_o 3 [.ref 29] ::
  rn_l 36 (u) ::
  rn_o 4 [.ref 31, .ref 32, .ref 33, .ref 34, .int (T_nodeCount t)] ::
  rn_i .int 100 (T_rules t) ::
  rn_i .int 100 (T_starts t) ::
  rn_i .int 100 (T_ends t) ::
  rn_i .int 100 (T_symbols t) ::
  rn_o 5 [.ref 36, .ref 37, .ref 38, .ref 39, .ref 40, .ref 41, .ref 42, .int (G_ruleCount a), .int (G_nonterminalCount a), .ref 43] ::
  rn_i .int 12 (G_heads a) ::
  rn_i .int 48 (G_bodies a) ::
  rn_i .int 12 (G_bodyLengths a) ::
  rn_l 12 (G_weights a) ::
  rn_i .int 12 (G_costs a) ::
  rn_i .int 6 (G_capitals a) ::
  rn_i .int 6 (G_order a) ::
  rn_i .int 6 (G_reached a) ::
  rn_o 5 [.ref 45, .ref 46, .ref 47, .ref 48, .ref 49, .ref 50, .ref 51, .int (G_ruleCount b), .int (G_nonterminalCount b), .ref 52] ::
  rn_i .int 12 (G_heads b) ::
  rn_i .int 48 (G_bodies b) ::
  rn_i .int 12 (G_bodyLengths b) ::
  rn_l 12 (G_weights b) ::
  rn_i .int 12 (G_costs b) ::
  rn_i .int 6 (G_capitals b) ::
  rn_i .int 6 (G_order b) ::
  rn_i .int 6 (G_reached b) ::
  rn_o 7 [.int (M_code m), .ref 54, .int (M_size m), .ref 55, .ref 56, .int (M_keptSize m), .int (M_loaded m), .int (M_wrongLine m), .int (M_rules m), .ref 57, .ref 58, .ref 59, .ref 60, .ref 61, .int (M_symbols m), .ref 62, .int (M_hasText m), .int (M_letters m), .ref 63, .ref 64, .ref 65, .ref 66, .ref 67, .ref 68, .ref 69, .ref 70, .ref 71, .int (M_nodes m), .ref 72, .ref 73, .ref 74, .ref 75, .int (M_at m), .int (M_end m), .int (M_value m)] ::
  rn_i .int 300 (M_draft m) ::
  rn_i .int 300 (M_src m) ::
  rn_i .int 300 (M_kept m) ::
  rn_i .int 12 (M_heads m) ::
  rn_i .int 12 (M_lengths m) ::
  rn_i .int 48 (M_bodies m) ::
  rn_l 12 (M_weights m) ::
  rn_i .int 12 (M_costs m) ::
  rn_i .int 6 (M_names m) ::
  rn_i .int 8 (M_text m) ::
  rn_l 6 (M_emptySum m) ::
  rn_i .int 6 (M_emptyCost m) ::
  rn_l 486 (M_sums m) ::
  rn_i .int 486 (M_least m) ::
  rn_l 36 (M_units m) ::
  rn_l 10 (M_upTo m) ::
  rn_l 10 (M_upToNext m) ::
  rn_i .int 50 (M_rest m) ::
  rn_i .int 100 (M_nodeRule m) ::
  rn_i .int 100 (M_nodeFrom m) ::
  rn_i .int 100 (M_nodeTo m) ::
  rn_i .int 1500 (M_waits m) ::
  rn_l 1 (o) :: E
def rd_cell (r : tR) : rn_C := rn_o 6 [.ref 2, .ref 44, .int (R_at r), .int (R_end r)]
theorem aq_restSums {i : Int32} {j : Nat} (h : aI 5 i = some j) : [some 12, some 13, some 14, some 15, some 16][i.toNatClampNeg]? = some (some (12 + j)) := by
  obtain ⟨-, e, h⟩ := aI_some h
  rw [e]
  rcases j with _ | j
  · rfl
  rcases j with _ | j
  · rfl
  rcases j with _ | j
  · rfl
  rcases j with _ | j
  · rfl
  rcases j with _ | j
  · rfl
  omega
theorem ag_restSums {g1 g2 : Nat} {x : tX} {d : tD} {c : tC} {u : tU} {t : tT} {a : tG} {b : tG} {m : tM} {o : tO} {E : List rn_C} {i : Int32} {j : Nat} (h : aI 5 i = some j) : (emb g1 g2 x d c u t a b m o E)[12 + j]? = some (rn_l 9 (C_restSums c j)) := by
  obtain ⟨-, -, h⟩ := aI_some h
  rcases j with _ | j
  · rfl
  rcases j with _ | j
  · rfl
  rcases j with _ | j
  · rfl
  rcases j with _ | j
  · rfl
  rcases j with _ | j
  · rfl
  omega
theorem as_restSums {g1 g2 : Nat} {x : tX} {d : tD} {c : tC} {u : tU} {t : tT} {a : tG} {b : tG} {m : tM} {o : tO} {E : List rn_C} {i : Int32} {j : Nat} {f : Nat → Int64} (h : aI 5 i = some j) : (emb g1 g2 x d c u t a b m o E).set (12 + j) (rn_l 9 f) = emb g1 g2 x d (C_sums c, C_costs c, C_rules c, C_sizes c, C_lengths c, C_letters c, C_textLength c, up2 (C_restSums c) j f, C_restCosts c, C_restLengths c) u t a b m o E := by
  obtain ⟨-, -, h⟩ := aI_some h
  rcases j with _ | j
  · rfl
  rcases j with _ | j
  · rfl
  rcases j with _ | j
  · rfl
  rcases j with _ | j
  · rfl
  rcases j with _ | j
  · rfl
  omega
theorem aq_restCosts {i : Int32} {j : Nat} (h : aI 5 i = some j) : [some 18, some 19, some 20, some 21, some 22][i.toNatClampNeg]? = some (some (18 + j)) := by
  obtain ⟨-, e, h⟩ := aI_some h
  rw [e]
  rcases j with _ | j
  · rfl
  rcases j with _ | j
  · rfl
  rcases j with _ | j
  · rfl
  rcases j with _ | j
  · rfl
  rcases j with _ | j
  · rfl
  omega
theorem ag_restCosts {g1 g2 : Nat} {x : tX} {d : tD} {c : tC} {u : tU} {t : tT} {a : tG} {b : tG} {m : tM} {o : tO} {E : List rn_C} {i : Int32} {j : Nat} (h : aI 5 i = some j) : (emb g1 g2 x d c u t a b m o E)[18 + j]? = some (rn_i .int 9 (C_restCosts c j)) := by
  obtain ⟨-, -, h⟩ := aI_some h
  rcases j with _ | j
  · rfl
  rcases j with _ | j
  · rfl
  rcases j with _ | j
  · rfl
  rcases j with _ | j
  · rfl
  rcases j with _ | j
  · rfl
  omega
theorem as_restCosts {g1 g2 : Nat} {x : tX} {d : tD} {c : tC} {u : tU} {t : tT} {a : tG} {b : tG} {m : tM} {o : tO} {E : List rn_C} {i : Int32} {j : Nat} {f : Nat → Int32} (h : aI 5 i = some j) : (emb g1 g2 x d c u t a b m o E).set (18 + j) (rn_i .int 9 f) = emb g1 g2 x d (C_sums c, C_costs c, C_rules c, C_sizes c, C_lengths c, C_letters c, C_textLength c, C_restSums c, up2 (C_restCosts c) j f, C_restLengths c) u t a b m o E := by
  obtain ⟨-, -, h⟩ := aI_some h
  rcases j with _ | j
  · rfl
  rcases j with _ | j
  · rfl
  rcases j with _ | j
  · rfl
  rcases j with _ | j
  · rfl
  rcases j with _ | j
  · rfl
  omega
theorem aq_restLengths {i : Int32} {j : Nat} (h : aI 4 i = some j) : [some 24, some 25, some 26, some 27][i.toNatClampNeg]? = some (some (24 + j)) := by
  obtain ⟨-, e, h⟩ := aI_some h
  rw [e]
  rcases j with _ | j
  · rfl
  rcases j with _ | j
  · rfl
  rcases j with _ | j
  · rfl
  rcases j with _ | j
  · rfl
  omega
theorem ag_restLengths {g1 g2 : Nat} {x : tX} {d : tD} {c : tC} {u : tU} {t : tT} {a : tG} {b : tG} {m : tM} {o : tO} {E : List rn_C} {i : Int32} {j : Nat} (h : aI 4 i = some j) : (emb g1 g2 x d c u t a b m o E)[24 + j]? = some (rn_i .int 9 (C_restLengths c j)) := by
  obtain ⟨-, -, h⟩ := aI_some h
  rcases j with _ | j
  · rfl
  rcases j with _ | j
  · rfl
  rcases j with _ | j
  · rfl
  rcases j with _ | j
  · rfl
  omega
theorem as_restLengths {g1 g2 : Nat} {x : tX} {d : tD} {c : tC} {u : tU} {t : tT} {a : tG} {b : tG} {m : tM} {o : tO} {E : List rn_C} {i : Int32} {j : Nat} {f : Nat → Int32} (h : aI 4 i = some j) : (emb g1 g2 x d c u t a b m o E).set (24 + j) (rn_i .int 9 f) = emb g1 g2 x d (C_sums c, C_costs c, C_rules c, C_sizes c, C_lengths c, C_letters c, C_textLength c, C_restSums c, C_restCosts c, up2 (C_restLengths c) j f) u t a b m o E := by
  obtain ⟨-, -, h⟩ := aI_some h
  rcases j with _ | j
  · rfl
  rcases j with _ | j
  · rfl
  rcases j with _ | j
  · rfl
  rcases j with _ | j
  · rfl
  omega
def rd_raw : rn_C := rn_o 6 [.null, .null, .int 0, .int 0]
def M_put_code (m : tM) (v : Int32) : tM := (v, M_draft m, M_size m, M_src m, M_kept m, M_keptSize m, M_loaded m, M_wrongLine m, M_rules m, M_heads m, M_lengths m, M_bodies m, M_weights m, M_costs m, M_symbols m, M_names m, M_hasText m, M_letters m, M_text m, M_emptySum m, M_emptyCost m, M_sums m, M_least m, M_units m, M_upTo m, M_upToNext m, M_rest m, M_nodes m, M_nodeRule m, M_nodeFrom m, M_nodeTo m, M_waits m, M_at m, M_end m, M_value m)
theorem sm_code {g1 g2 : Nat} {x : tX} {d : tD} {c : tC} {u : tU} {t : tT} {a : tG} {b : tG} {m : tM} {o : tO} {E : List rn_C} {v : Int32} : (emb g1 g2 x d c u t a b m o E).set 53 (rn_o 7 (List.set [.int (M_code m), .ref 54, .int (M_size m), .ref 55, .ref 56, .int (M_keptSize m), .int (M_loaded m), .int (M_wrongLine m), .int (M_rules m), .ref 57, .ref 58, .ref 59, .ref 60, .ref 61, .int (M_symbols m), .ref 62, .int (M_hasText m), .int (M_letters m), .ref 63, .ref 64, .ref 65, .ref 66, .ref 67, .ref 68, .ref 69, .ref 70, .ref 71, .int (M_nodes m), .ref 72, .ref 73, .ref 74, .ref 75, .int (M_at m), .int (M_end m), .int (M_value m)] 0 (.int v))) = emb g1 g2 x d c u t a b (M_put_code m v) o E := rfl
def M_put_draft (m : tM) (v : Nat → Int32) : tM := (M_code m, v, M_size m, M_src m, M_kept m, M_keptSize m, M_loaded m, M_wrongLine m, M_rules m, M_heads m, M_lengths m, M_bodies m, M_weights m, M_costs m, M_symbols m, M_names m, M_hasText m, M_letters m, M_text m, M_emptySum m, M_emptyCost m, M_sums m, M_least m, M_units m, M_upTo m, M_upToNext m, M_rest m, M_nodes m, M_nodeRule m, M_nodeFrom m, M_nodeTo m, M_waits m, M_at m, M_end m, M_value m)
theorem sm_draft {g1 g2 : Nat} {x : tX} {d : tD} {c : tC} {u : tU} {t : tT} {a : tG} {b : tG} {m : tM} {o : tO} {E : List rn_C} {v : Nat → Int32} : (emb g1 g2 x d c u t a b m o E).set 54 (rn_i .int 300 v) = emb g1 g2 x d c u t a b (M_put_draft m v) o E := rfl
def M_put_size (m : tM) (v : Int32) : tM := (M_code m, M_draft m, v, M_src m, M_kept m, M_keptSize m, M_loaded m, M_wrongLine m, M_rules m, M_heads m, M_lengths m, M_bodies m, M_weights m, M_costs m, M_symbols m, M_names m, M_hasText m, M_letters m, M_text m, M_emptySum m, M_emptyCost m, M_sums m, M_least m, M_units m, M_upTo m, M_upToNext m, M_rest m, M_nodes m, M_nodeRule m, M_nodeFrom m, M_nodeTo m, M_waits m, M_at m, M_end m, M_value m)
theorem sm_size {g1 g2 : Nat} {x : tX} {d : tD} {c : tC} {u : tU} {t : tT} {a : tG} {b : tG} {m : tM} {o : tO} {E : List rn_C} {v : Int32} : (emb g1 g2 x d c u t a b m o E).set 53 (rn_o 7 (List.set [.int (M_code m), .ref 54, .int (M_size m), .ref 55, .ref 56, .int (M_keptSize m), .int (M_loaded m), .int (M_wrongLine m), .int (M_rules m), .ref 57, .ref 58, .ref 59, .ref 60, .ref 61, .int (M_symbols m), .ref 62, .int (M_hasText m), .int (M_letters m), .ref 63, .ref 64, .ref 65, .ref 66, .ref 67, .ref 68, .ref 69, .ref 70, .ref 71, .int (M_nodes m), .ref 72, .ref 73, .ref 74, .ref 75, .int (M_at m), .int (M_end m), .int (M_value m)] 2 (.int v))) = emb g1 g2 x d c u t a b (M_put_size m v) o E := rfl
def M_put_src (m : tM) (v : Nat → Int32) : tM := (M_code m, M_draft m, M_size m, v, M_kept m, M_keptSize m, M_loaded m, M_wrongLine m, M_rules m, M_heads m, M_lengths m, M_bodies m, M_weights m, M_costs m, M_symbols m, M_names m, M_hasText m, M_letters m, M_text m, M_emptySum m, M_emptyCost m, M_sums m, M_least m, M_units m, M_upTo m, M_upToNext m, M_rest m, M_nodes m, M_nodeRule m, M_nodeFrom m, M_nodeTo m, M_waits m, M_at m, M_end m, M_value m)
theorem sm_src {g1 g2 : Nat} {x : tX} {d : tD} {c : tC} {u : tU} {t : tT} {a : tG} {b : tG} {m : tM} {o : tO} {E : List rn_C} {v : Nat → Int32} : (emb g1 g2 x d c u t a b m o E).set 55 (rn_i .int 300 v) = emb g1 g2 x d c u t a b (M_put_src m v) o E := rfl
def M_put_kept (m : tM) (v : Nat → Int32) : tM := (M_code m, M_draft m, M_size m, M_src m, v, M_keptSize m, M_loaded m, M_wrongLine m, M_rules m, M_heads m, M_lengths m, M_bodies m, M_weights m, M_costs m, M_symbols m, M_names m, M_hasText m, M_letters m, M_text m, M_emptySum m, M_emptyCost m, M_sums m, M_least m, M_units m, M_upTo m, M_upToNext m, M_rest m, M_nodes m, M_nodeRule m, M_nodeFrom m, M_nodeTo m, M_waits m, M_at m, M_end m, M_value m)
theorem sm_kept {g1 g2 : Nat} {x : tX} {d : tD} {c : tC} {u : tU} {t : tT} {a : tG} {b : tG} {m : tM} {o : tO} {E : List rn_C} {v : Nat → Int32} : (emb g1 g2 x d c u t a b m o E).set 56 (rn_i .int 300 v) = emb g1 g2 x d c u t a b (M_put_kept m v) o E := rfl
def M_put_keptSize (m : tM) (v : Int32) : tM := (M_code m, M_draft m, M_size m, M_src m, M_kept m, v, M_loaded m, M_wrongLine m, M_rules m, M_heads m, M_lengths m, M_bodies m, M_weights m, M_costs m, M_symbols m, M_names m, M_hasText m, M_letters m, M_text m, M_emptySum m, M_emptyCost m, M_sums m, M_least m, M_units m, M_upTo m, M_upToNext m, M_rest m, M_nodes m, M_nodeRule m, M_nodeFrom m, M_nodeTo m, M_waits m, M_at m, M_end m, M_value m)
theorem sm_keptSize {g1 g2 : Nat} {x : tX} {d : tD} {c : tC} {u : tU} {t : tT} {a : tG} {b : tG} {m : tM} {o : tO} {E : List rn_C} {v : Int32} : (emb g1 g2 x d c u t a b m o E).set 53 (rn_o 7 (List.set [.int (M_code m), .ref 54, .int (M_size m), .ref 55, .ref 56, .int (M_keptSize m), .int (M_loaded m), .int (M_wrongLine m), .int (M_rules m), .ref 57, .ref 58, .ref 59, .ref 60, .ref 61, .int (M_symbols m), .ref 62, .int (M_hasText m), .int (M_letters m), .ref 63, .ref 64, .ref 65, .ref 66, .ref 67, .ref 68, .ref 69, .ref 70, .ref 71, .int (M_nodes m), .ref 72, .ref 73, .ref 74, .ref 75, .int (M_at m), .int (M_end m), .int (M_value m)] 5 (.int v))) = emb g1 g2 x d c u t a b (M_put_keptSize m v) o E := rfl
def M_put_loaded (m : tM) (v : Int32) : tM := (M_code m, M_draft m, M_size m, M_src m, M_kept m, M_keptSize m, v, M_wrongLine m, M_rules m, M_heads m, M_lengths m, M_bodies m, M_weights m, M_costs m, M_symbols m, M_names m, M_hasText m, M_letters m, M_text m, M_emptySum m, M_emptyCost m, M_sums m, M_least m, M_units m, M_upTo m, M_upToNext m, M_rest m, M_nodes m, M_nodeRule m, M_nodeFrom m, M_nodeTo m, M_waits m, M_at m, M_end m, M_value m)
theorem sm_loaded {g1 g2 : Nat} {x : tX} {d : tD} {c : tC} {u : tU} {t : tT} {a : tG} {b : tG} {m : tM} {o : tO} {E : List rn_C} {v : Int32} : (emb g1 g2 x d c u t a b m o E).set 53 (rn_o 7 (List.set [.int (M_code m), .ref 54, .int (M_size m), .ref 55, .ref 56, .int (M_keptSize m), .int (M_loaded m), .int (M_wrongLine m), .int (M_rules m), .ref 57, .ref 58, .ref 59, .ref 60, .ref 61, .int (M_symbols m), .ref 62, .int (M_hasText m), .int (M_letters m), .ref 63, .ref 64, .ref 65, .ref 66, .ref 67, .ref 68, .ref 69, .ref 70, .ref 71, .int (M_nodes m), .ref 72, .ref 73, .ref 74, .ref 75, .int (M_at m), .int (M_end m), .int (M_value m)] 6 (.int v))) = emb g1 g2 x d c u t a b (M_put_loaded m v) o E := rfl
def M_put_wrongLine (m : tM) (v : Int32) : tM := (M_code m, M_draft m, M_size m, M_src m, M_kept m, M_keptSize m, M_loaded m, v, M_rules m, M_heads m, M_lengths m, M_bodies m, M_weights m, M_costs m, M_symbols m, M_names m, M_hasText m, M_letters m, M_text m, M_emptySum m, M_emptyCost m, M_sums m, M_least m, M_units m, M_upTo m, M_upToNext m, M_rest m, M_nodes m, M_nodeRule m, M_nodeFrom m, M_nodeTo m, M_waits m, M_at m, M_end m, M_value m)
theorem sm_wrongLine {g1 g2 : Nat} {x : tX} {d : tD} {c : tC} {u : tU} {t : tT} {a : tG} {b : tG} {m : tM} {o : tO} {E : List rn_C} {v : Int32} : (emb g1 g2 x d c u t a b m o E).set 53 (rn_o 7 (List.set [.int (M_code m), .ref 54, .int (M_size m), .ref 55, .ref 56, .int (M_keptSize m), .int (M_loaded m), .int (M_wrongLine m), .int (M_rules m), .ref 57, .ref 58, .ref 59, .ref 60, .ref 61, .int (M_symbols m), .ref 62, .int (M_hasText m), .int (M_letters m), .ref 63, .ref 64, .ref 65, .ref 66, .ref 67, .ref 68, .ref 69, .ref 70, .ref 71, .int (M_nodes m), .ref 72, .ref 73, .ref 74, .ref 75, .int (M_at m), .int (M_end m), .int (M_value m)] 7 (.int v))) = emb g1 g2 x d c u t a b (M_put_wrongLine m v) o E := rfl
def M_put_rules (m : tM) (v : Int32) : tM := (M_code m, M_draft m, M_size m, M_src m, M_kept m, M_keptSize m, M_loaded m, M_wrongLine m, v, M_heads m, M_lengths m, M_bodies m, M_weights m, M_costs m, M_symbols m, M_names m, M_hasText m, M_letters m, M_text m, M_emptySum m, M_emptyCost m, M_sums m, M_least m, M_units m, M_upTo m, M_upToNext m, M_rest m, M_nodes m, M_nodeRule m, M_nodeFrom m, M_nodeTo m, M_waits m, M_at m, M_end m, M_value m)
theorem sm_rules {g1 g2 : Nat} {x : tX} {d : tD} {c : tC} {u : tU} {t : tT} {a : tG} {b : tG} {m : tM} {o : tO} {E : List rn_C} {v : Int32} : (emb g1 g2 x d c u t a b m o E).set 53 (rn_o 7 (List.set [.int (M_code m), .ref 54, .int (M_size m), .ref 55, .ref 56, .int (M_keptSize m), .int (M_loaded m), .int (M_wrongLine m), .int (M_rules m), .ref 57, .ref 58, .ref 59, .ref 60, .ref 61, .int (M_symbols m), .ref 62, .int (M_hasText m), .int (M_letters m), .ref 63, .ref 64, .ref 65, .ref 66, .ref 67, .ref 68, .ref 69, .ref 70, .ref 71, .int (M_nodes m), .ref 72, .ref 73, .ref 74, .ref 75, .int (M_at m), .int (M_end m), .int (M_value m)] 8 (.int v))) = emb g1 g2 x d c u t a b (M_put_rules m v) o E := rfl
def M_put_heads (m : tM) (v : Nat → Int32) : tM := (M_code m, M_draft m, M_size m, M_src m, M_kept m, M_keptSize m, M_loaded m, M_wrongLine m, M_rules m, v, M_lengths m, M_bodies m, M_weights m, M_costs m, M_symbols m, M_names m, M_hasText m, M_letters m, M_text m, M_emptySum m, M_emptyCost m, M_sums m, M_least m, M_units m, M_upTo m, M_upToNext m, M_rest m, M_nodes m, M_nodeRule m, M_nodeFrom m, M_nodeTo m, M_waits m, M_at m, M_end m, M_value m)
theorem sm_heads {g1 g2 : Nat} {x : tX} {d : tD} {c : tC} {u : tU} {t : tT} {a : tG} {b : tG} {m : tM} {o : tO} {E : List rn_C} {v : Nat → Int32} : (emb g1 g2 x d c u t a b m o E).set 57 (rn_i .int 12 v) = emb g1 g2 x d c u t a b (M_put_heads m v) o E := rfl
def M_put_lengths (m : tM) (v : Nat → Int32) : tM := (M_code m, M_draft m, M_size m, M_src m, M_kept m, M_keptSize m, M_loaded m, M_wrongLine m, M_rules m, M_heads m, v, M_bodies m, M_weights m, M_costs m, M_symbols m, M_names m, M_hasText m, M_letters m, M_text m, M_emptySum m, M_emptyCost m, M_sums m, M_least m, M_units m, M_upTo m, M_upToNext m, M_rest m, M_nodes m, M_nodeRule m, M_nodeFrom m, M_nodeTo m, M_waits m, M_at m, M_end m, M_value m)
theorem sm_lengths {g1 g2 : Nat} {x : tX} {d : tD} {c : tC} {u : tU} {t : tT} {a : tG} {b : tG} {m : tM} {o : tO} {E : List rn_C} {v : Nat → Int32} : (emb g1 g2 x d c u t a b m o E).set 58 (rn_i .int 12 v) = emb g1 g2 x d c u t a b (M_put_lengths m v) o E := rfl
def M_put_bodies (m : tM) (v : Nat → Int32) : tM := (M_code m, M_draft m, M_size m, M_src m, M_kept m, M_keptSize m, M_loaded m, M_wrongLine m, M_rules m, M_heads m, M_lengths m, v, M_weights m, M_costs m, M_symbols m, M_names m, M_hasText m, M_letters m, M_text m, M_emptySum m, M_emptyCost m, M_sums m, M_least m, M_units m, M_upTo m, M_upToNext m, M_rest m, M_nodes m, M_nodeRule m, M_nodeFrom m, M_nodeTo m, M_waits m, M_at m, M_end m, M_value m)
theorem sm_bodies {g1 g2 : Nat} {x : tX} {d : tD} {c : tC} {u : tU} {t : tT} {a : tG} {b : tG} {m : tM} {o : tO} {E : List rn_C} {v : Nat → Int32} : (emb g1 g2 x d c u t a b m o E).set 59 (rn_i .int 48 v) = emb g1 g2 x d c u t a b (M_put_bodies m v) o E := rfl
def M_put_weights (m : tM) (v : Nat → Int64) : tM := (M_code m, M_draft m, M_size m, M_src m, M_kept m, M_keptSize m, M_loaded m, M_wrongLine m, M_rules m, M_heads m, M_lengths m, M_bodies m, v, M_costs m, M_symbols m, M_names m, M_hasText m, M_letters m, M_text m, M_emptySum m, M_emptyCost m, M_sums m, M_least m, M_units m, M_upTo m, M_upToNext m, M_rest m, M_nodes m, M_nodeRule m, M_nodeFrom m, M_nodeTo m, M_waits m, M_at m, M_end m, M_value m)
theorem sm_weights {g1 g2 : Nat} {x : tX} {d : tD} {c : tC} {u : tU} {t : tT} {a : tG} {b : tG} {m : tM} {o : tO} {E : List rn_C} {v : Nat → Int64} : (emb g1 g2 x d c u t a b m o E).set 60 (rn_l 12 v) = emb g1 g2 x d c u t a b (M_put_weights m v) o E := rfl
def M_put_costs (m : tM) (v : Nat → Int32) : tM := (M_code m, M_draft m, M_size m, M_src m, M_kept m, M_keptSize m, M_loaded m, M_wrongLine m, M_rules m, M_heads m, M_lengths m, M_bodies m, M_weights m, v, M_symbols m, M_names m, M_hasText m, M_letters m, M_text m, M_emptySum m, M_emptyCost m, M_sums m, M_least m, M_units m, M_upTo m, M_upToNext m, M_rest m, M_nodes m, M_nodeRule m, M_nodeFrom m, M_nodeTo m, M_waits m, M_at m, M_end m, M_value m)
theorem sm_costs {g1 g2 : Nat} {x : tX} {d : tD} {c : tC} {u : tU} {t : tT} {a : tG} {b : tG} {m : tM} {o : tO} {E : List rn_C} {v : Nat → Int32} : (emb g1 g2 x d c u t a b m o E).set 61 (rn_i .int 12 v) = emb g1 g2 x d c u t a b (M_put_costs m v) o E := rfl
def M_put_symbols (m : tM) (v : Int32) : tM := (M_code m, M_draft m, M_size m, M_src m, M_kept m, M_keptSize m, M_loaded m, M_wrongLine m, M_rules m, M_heads m, M_lengths m, M_bodies m, M_weights m, M_costs m, v, M_names m, M_hasText m, M_letters m, M_text m, M_emptySum m, M_emptyCost m, M_sums m, M_least m, M_units m, M_upTo m, M_upToNext m, M_rest m, M_nodes m, M_nodeRule m, M_nodeFrom m, M_nodeTo m, M_waits m, M_at m, M_end m, M_value m)
theorem sm_symbols {g1 g2 : Nat} {x : tX} {d : tD} {c : tC} {u : tU} {t : tT} {a : tG} {b : tG} {m : tM} {o : tO} {E : List rn_C} {v : Int32} : (emb g1 g2 x d c u t a b m o E).set 53 (rn_o 7 (List.set [.int (M_code m), .ref 54, .int (M_size m), .ref 55, .ref 56, .int (M_keptSize m), .int (M_loaded m), .int (M_wrongLine m), .int (M_rules m), .ref 57, .ref 58, .ref 59, .ref 60, .ref 61, .int (M_symbols m), .ref 62, .int (M_hasText m), .int (M_letters m), .ref 63, .ref 64, .ref 65, .ref 66, .ref 67, .ref 68, .ref 69, .ref 70, .ref 71, .int (M_nodes m), .ref 72, .ref 73, .ref 74, .ref 75, .int (M_at m), .int (M_end m), .int (M_value m)] 14 (.int v))) = emb g1 g2 x d c u t a b (M_put_symbols m v) o E := rfl
def M_put_names (m : tM) (v : Nat → Int32) : tM := (M_code m, M_draft m, M_size m, M_src m, M_kept m, M_keptSize m, M_loaded m, M_wrongLine m, M_rules m, M_heads m, M_lengths m, M_bodies m, M_weights m, M_costs m, M_symbols m, v, M_hasText m, M_letters m, M_text m, M_emptySum m, M_emptyCost m, M_sums m, M_least m, M_units m, M_upTo m, M_upToNext m, M_rest m, M_nodes m, M_nodeRule m, M_nodeFrom m, M_nodeTo m, M_waits m, M_at m, M_end m, M_value m)
theorem sm_names {g1 g2 : Nat} {x : tX} {d : tD} {c : tC} {u : tU} {t : tT} {a : tG} {b : tG} {m : tM} {o : tO} {E : List rn_C} {v : Nat → Int32} : (emb g1 g2 x d c u t a b m o E).set 62 (rn_i .int 6 v) = emb g1 g2 x d c u t a b (M_put_names m v) o E := rfl
def M_put_hasText (m : tM) (v : Int32) : tM := (M_code m, M_draft m, M_size m, M_src m, M_kept m, M_keptSize m, M_loaded m, M_wrongLine m, M_rules m, M_heads m, M_lengths m, M_bodies m, M_weights m, M_costs m, M_symbols m, M_names m, v, M_letters m, M_text m, M_emptySum m, M_emptyCost m, M_sums m, M_least m, M_units m, M_upTo m, M_upToNext m, M_rest m, M_nodes m, M_nodeRule m, M_nodeFrom m, M_nodeTo m, M_waits m, M_at m, M_end m, M_value m)
theorem sm_hasText {g1 g2 : Nat} {x : tX} {d : tD} {c : tC} {u : tU} {t : tT} {a : tG} {b : tG} {m : tM} {o : tO} {E : List rn_C} {v : Int32} : (emb g1 g2 x d c u t a b m o E).set 53 (rn_o 7 (List.set [.int (M_code m), .ref 54, .int (M_size m), .ref 55, .ref 56, .int (M_keptSize m), .int (M_loaded m), .int (M_wrongLine m), .int (M_rules m), .ref 57, .ref 58, .ref 59, .ref 60, .ref 61, .int (M_symbols m), .ref 62, .int (M_hasText m), .int (M_letters m), .ref 63, .ref 64, .ref 65, .ref 66, .ref 67, .ref 68, .ref 69, .ref 70, .ref 71, .int (M_nodes m), .ref 72, .ref 73, .ref 74, .ref 75, .int (M_at m), .int (M_end m), .int (M_value m)] 16 (.int v))) = emb g1 g2 x d c u t a b (M_put_hasText m v) o E := rfl
def M_put_letters (m : tM) (v : Int32) : tM := (M_code m, M_draft m, M_size m, M_src m, M_kept m, M_keptSize m, M_loaded m, M_wrongLine m, M_rules m, M_heads m, M_lengths m, M_bodies m, M_weights m, M_costs m, M_symbols m, M_names m, M_hasText m, v, M_text m, M_emptySum m, M_emptyCost m, M_sums m, M_least m, M_units m, M_upTo m, M_upToNext m, M_rest m, M_nodes m, M_nodeRule m, M_nodeFrom m, M_nodeTo m, M_waits m, M_at m, M_end m, M_value m)
theorem sm_letters {g1 g2 : Nat} {x : tX} {d : tD} {c : tC} {u : tU} {t : tT} {a : tG} {b : tG} {m : tM} {o : tO} {E : List rn_C} {v : Int32} : (emb g1 g2 x d c u t a b m o E).set 53 (rn_o 7 (List.set [.int (M_code m), .ref 54, .int (M_size m), .ref 55, .ref 56, .int (M_keptSize m), .int (M_loaded m), .int (M_wrongLine m), .int (M_rules m), .ref 57, .ref 58, .ref 59, .ref 60, .ref 61, .int (M_symbols m), .ref 62, .int (M_hasText m), .int (M_letters m), .ref 63, .ref 64, .ref 65, .ref 66, .ref 67, .ref 68, .ref 69, .ref 70, .ref 71, .int (M_nodes m), .ref 72, .ref 73, .ref 74, .ref 75, .int (M_at m), .int (M_end m), .int (M_value m)] 17 (.int v))) = emb g1 g2 x d c u t a b (M_put_letters m v) o E := rfl
def M_put_text (m : tM) (v : Nat → Int32) : tM := (M_code m, M_draft m, M_size m, M_src m, M_kept m, M_keptSize m, M_loaded m, M_wrongLine m, M_rules m, M_heads m, M_lengths m, M_bodies m, M_weights m, M_costs m, M_symbols m, M_names m, M_hasText m, M_letters m, v, M_emptySum m, M_emptyCost m, M_sums m, M_least m, M_units m, M_upTo m, M_upToNext m, M_rest m, M_nodes m, M_nodeRule m, M_nodeFrom m, M_nodeTo m, M_waits m, M_at m, M_end m, M_value m)
theorem sm_text {g1 g2 : Nat} {x : tX} {d : tD} {c : tC} {u : tU} {t : tT} {a : tG} {b : tG} {m : tM} {o : tO} {E : List rn_C} {v : Nat → Int32} : (emb g1 g2 x d c u t a b m o E).set 63 (rn_i .int 8 v) = emb g1 g2 x d c u t a b (M_put_text m v) o E := rfl
def M_put_emptySum (m : tM) (v : Nat → Int64) : tM := (M_code m, M_draft m, M_size m, M_src m, M_kept m, M_keptSize m, M_loaded m, M_wrongLine m, M_rules m, M_heads m, M_lengths m, M_bodies m, M_weights m, M_costs m, M_symbols m, M_names m, M_hasText m, M_letters m, M_text m, v, M_emptyCost m, M_sums m, M_least m, M_units m, M_upTo m, M_upToNext m, M_rest m, M_nodes m, M_nodeRule m, M_nodeFrom m, M_nodeTo m, M_waits m, M_at m, M_end m, M_value m)
theorem sm_emptySum {g1 g2 : Nat} {x : tX} {d : tD} {c : tC} {u : tU} {t : tT} {a : tG} {b : tG} {m : tM} {o : tO} {E : List rn_C} {v : Nat → Int64} : (emb g1 g2 x d c u t a b m o E).set 64 (rn_l 6 v) = emb g1 g2 x d c u t a b (M_put_emptySum m v) o E := rfl
def M_put_emptyCost (m : tM) (v : Nat → Int32) : tM := (M_code m, M_draft m, M_size m, M_src m, M_kept m, M_keptSize m, M_loaded m, M_wrongLine m, M_rules m, M_heads m, M_lengths m, M_bodies m, M_weights m, M_costs m, M_symbols m, M_names m, M_hasText m, M_letters m, M_text m, M_emptySum m, v, M_sums m, M_least m, M_units m, M_upTo m, M_upToNext m, M_rest m, M_nodes m, M_nodeRule m, M_nodeFrom m, M_nodeTo m, M_waits m, M_at m, M_end m, M_value m)
theorem sm_emptyCost {g1 g2 : Nat} {x : tX} {d : tD} {c : tC} {u : tU} {t : tT} {a : tG} {b : tG} {m : tM} {o : tO} {E : List rn_C} {v : Nat → Int32} : (emb g1 g2 x d c u t a b m o E).set 65 (rn_i .int 6 v) = emb g1 g2 x d c u t a b (M_put_emptyCost m v) o E := rfl
def M_put_sums (m : tM) (v : Nat → Int64) : tM := (M_code m, M_draft m, M_size m, M_src m, M_kept m, M_keptSize m, M_loaded m, M_wrongLine m, M_rules m, M_heads m, M_lengths m, M_bodies m, M_weights m, M_costs m, M_symbols m, M_names m, M_hasText m, M_letters m, M_text m, M_emptySum m, M_emptyCost m, v, M_least m, M_units m, M_upTo m, M_upToNext m, M_rest m, M_nodes m, M_nodeRule m, M_nodeFrom m, M_nodeTo m, M_waits m, M_at m, M_end m, M_value m)
theorem sm_sums {g1 g2 : Nat} {x : tX} {d : tD} {c : tC} {u : tU} {t : tT} {a : tG} {b : tG} {m : tM} {o : tO} {E : List rn_C} {v : Nat → Int64} : (emb g1 g2 x d c u t a b m o E).set 66 (rn_l 486 v) = emb g1 g2 x d c u t a b (M_put_sums m v) o E := rfl
def M_put_least (m : tM) (v : Nat → Int32) : tM := (M_code m, M_draft m, M_size m, M_src m, M_kept m, M_keptSize m, M_loaded m, M_wrongLine m, M_rules m, M_heads m, M_lengths m, M_bodies m, M_weights m, M_costs m, M_symbols m, M_names m, M_hasText m, M_letters m, M_text m, M_emptySum m, M_emptyCost m, M_sums m, v, M_units m, M_upTo m, M_upToNext m, M_rest m, M_nodes m, M_nodeRule m, M_nodeFrom m, M_nodeTo m, M_waits m, M_at m, M_end m, M_value m)
theorem sm_least {g1 g2 : Nat} {x : tX} {d : tD} {c : tC} {u : tU} {t : tT} {a : tG} {b : tG} {m : tM} {o : tO} {E : List rn_C} {v : Nat → Int32} : (emb g1 g2 x d c u t a b m o E).set 67 (rn_i .int 486 v) = emb g1 g2 x d c u t a b (M_put_least m v) o E := rfl
def M_put_units (m : tM) (v : Nat → Int64) : tM := (M_code m, M_draft m, M_size m, M_src m, M_kept m, M_keptSize m, M_loaded m, M_wrongLine m, M_rules m, M_heads m, M_lengths m, M_bodies m, M_weights m, M_costs m, M_symbols m, M_names m, M_hasText m, M_letters m, M_text m, M_emptySum m, M_emptyCost m, M_sums m, M_least m, v, M_upTo m, M_upToNext m, M_rest m, M_nodes m, M_nodeRule m, M_nodeFrom m, M_nodeTo m, M_waits m, M_at m, M_end m, M_value m)
theorem sm_units {g1 g2 : Nat} {x : tX} {d : tD} {c : tC} {u : tU} {t : tT} {a : tG} {b : tG} {m : tM} {o : tO} {E : List rn_C} {v : Nat → Int64} : (emb g1 g2 x d c u t a b m o E).set 68 (rn_l 36 v) = emb g1 g2 x d c u t a b (M_put_units m v) o E := rfl
def M_put_upTo (m : tM) (v : Nat → Int64) : tM := (M_code m, M_draft m, M_size m, M_src m, M_kept m, M_keptSize m, M_loaded m, M_wrongLine m, M_rules m, M_heads m, M_lengths m, M_bodies m, M_weights m, M_costs m, M_symbols m, M_names m, M_hasText m, M_letters m, M_text m, M_emptySum m, M_emptyCost m, M_sums m, M_least m, M_units m, v, M_upToNext m, M_rest m, M_nodes m, M_nodeRule m, M_nodeFrom m, M_nodeTo m, M_waits m, M_at m, M_end m, M_value m)
theorem sm_upTo {g1 g2 : Nat} {x : tX} {d : tD} {c : tC} {u : tU} {t : tT} {a : tG} {b : tG} {m : tM} {o : tO} {E : List rn_C} {v : Nat → Int64} : (emb g1 g2 x d c u t a b m o E).set 69 (rn_l 10 v) = emb g1 g2 x d c u t a b (M_put_upTo m v) o E := rfl
def M_put_upToNext (m : tM) (v : Nat → Int64) : tM := (M_code m, M_draft m, M_size m, M_src m, M_kept m, M_keptSize m, M_loaded m, M_wrongLine m, M_rules m, M_heads m, M_lengths m, M_bodies m, M_weights m, M_costs m, M_symbols m, M_names m, M_hasText m, M_letters m, M_text m, M_emptySum m, M_emptyCost m, M_sums m, M_least m, M_units m, M_upTo m, v, M_rest m, M_nodes m, M_nodeRule m, M_nodeFrom m, M_nodeTo m, M_waits m, M_at m, M_end m, M_value m)
theorem sm_upToNext {g1 g2 : Nat} {x : tX} {d : tD} {c : tC} {u : tU} {t : tT} {a : tG} {b : tG} {m : tM} {o : tO} {E : List rn_C} {v : Nat → Int64} : (emb g1 g2 x d c u t a b m o E).set 70 (rn_l 10 v) = emb g1 g2 x d c u t a b (M_put_upToNext m v) o E := rfl
def M_put_rest (m : tM) (v : Nat → Int32) : tM := (M_code m, M_draft m, M_size m, M_src m, M_kept m, M_keptSize m, M_loaded m, M_wrongLine m, M_rules m, M_heads m, M_lengths m, M_bodies m, M_weights m, M_costs m, M_symbols m, M_names m, M_hasText m, M_letters m, M_text m, M_emptySum m, M_emptyCost m, M_sums m, M_least m, M_units m, M_upTo m, M_upToNext m, v, M_nodes m, M_nodeRule m, M_nodeFrom m, M_nodeTo m, M_waits m, M_at m, M_end m, M_value m)
theorem sm_rest {g1 g2 : Nat} {x : tX} {d : tD} {c : tC} {u : tU} {t : tT} {a : tG} {b : tG} {m : tM} {o : tO} {E : List rn_C} {v : Nat → Int32} : (emb g1 g2 x d c u t a b m o E).set 71 (rn_i .int 50 v) = emb g1 g2 x d c u t a b (M_put_rest m v) o E := rfl
def M_put_nodes (m : tM) (v : Int32) : tM := (M_code m, M_draft m, M_size m, M_src m, M_kept m, M_keptSize m, M_loaded m, M_wrongLine m, M_rules m, M_heads m, M_lengths m, M_bodies m, M_weights m, M_costs m, M_symbols m, M_names m, M_hasText m, M_letters m, M_text m, M_emptySum m, M_emptyCost m, M_sums m, M_least m, M_units m, M_upTo m, M_upToNext m, M_rest m, v, M_nodeRule m, M_nodeFrom m, M_nodeTo m, M_waits m, M_at m, M_end m, M_value m)
theorem sm_nodes {g1 g2 : Nat} {x : tX} {d : tD} {c : tC} {u : tU} {t : tT} {a : tG} {b : tG} {m : tM} {o : tO} {E : List rn_C} {v : Int32} : (emb g1 g2 x d c u t a b m o E).set 53 (rn_o 7 (List.set [.int (M_code m), .ref 54, .int (M_size m), .ref 55, .ref 56, .int (M_keptSize m), .int (M_loaded m), .int (M_wrongLine m), .int (M_rules m), .ref 57, .ref 58, .ref 59, .ref 60, .ref 61, .int (M_symbols m), .ref 62, .int (M_hasText m), .int (M_letters m), .ref 63, .ref 64, .ref 65, .ref 66, .ref 67, .ref 68, .ref 69, .ref 70, .ref 71, .int (M_nodes m), .ref 72, .ref 73, .ref 74, .ref 75, .int (M_at m), .int (M_end m), .int (M_value m)] 27 (.int v))) = emb g1 g2 x d c u t a b (M_put_nodes m v) o E := rfl
def M_put_nodeRule (m : tM) (v : Nat → Int32) : tM := (M_code m, M_draft m, M_size m, M_src m, M_kept m, M_keptSize m, M_loaded m, M_wrongLine m, M_rules m, M_heads m, M_lengths m, M_bodies m, M_weights m, M_costs m, M_symbols m, M_names m, M_hasText m, M_letters m, M_text m, M_emptySum m, M_emptyCost m, M_sums m, M_least m, M_units m, M_upTo m, M_upToNext m, M_rest m, M_nodes m, v, M_nodeFrom m, M_nodeTo m, M_waits m, M_at m, M_end m, M_value m)
theorem sm_nodeRule {g1 g2 : Nat} {x : tX} {d : tD} {c : tC} {u : tU} {t : tT} {a : tG} {b : tG} {m : tM} {o : tO} {E : List rn_C} {v : Nat → Int32} : (emb g1 g2 x d c u t a b m o E).set 72 (rn_i .int 100 v) = emb g1 g2 x d c u t a b (M_put_nodeRule m v) o E := rfl
def M_put_nodeFrom (m : tM) (v : Nat → Int32) : tM := (M_code m, M_draft m, M_size m, M_src m, M_kept m, M_keptSize m, M_loaded m, M_wrongLine m, M_rules m, M_heads m, M_lengths m, M_bodies m, M_weights m, M_costs m, M_symbols m, M_names m, M_hasText m, M_letters m, M_text m, M_emptySum m, M_emptyCost m, M_sums m, M_least m, M_units m, M_upTo m, M_upToNext m, M_rest m, M_nodes m, M_nodeRule m, v, M_nodeTo m, M_waits m, M_at m, M_end m, M_value m)
theorem sm_nodeFrom {g1 g2 : Nat} {x : tX} {d : tD} {c : tC} {u : tU} {t : tT} {a : tG} {b : tG} {m : tM} {o : tO} {E : List rn_C} {v : Nat → Int32} : (emb g1 g2 x d c u t a b m o E).set 73 (rn_i .int 100 v) = emb g1 g2 x d c u t a b (M_put_nodeFrom m v) o E := rfl
def M_put_nodeTo (m : tM) (v : Nat → Int32) : tM := (M_code m, M_draft m, M_size m, M_src m, M_kept m, M_keptSize m, M_loaded m, M_wrongLine m, M_rules m, M_heads m, M_lengths m, M_bodies m, M_weights m, M_costs m, M_symbols m, M_names m, M_hasText m, M_letters m, M_text m, M_emptySum m, M_emptyCost m, M_sums m, M_least m, M_units m, M_upTo m, M_upToNext m, M_rest m, M_nodes m, M_nodeRule m, M_nodeFrom m, v, M_waits m, M_at m, M_end m, M_value m)
theorem sm_nodeTo {g1 g2 : Nat} {x : tX} {d : tD} {c : tC} {u : tU} {t : tT} {a : tG} {b : tG} {m : tM} {o : tO} {E : List rn_C} {v : Nat → Int32} : (emb g1 g2 x d c u t a b m o E).set 74 (rn_i .int 100 v) = emb g1 g2 x d c u t a b (M_put_nodeTo m v) o E := rfl
def M_put_waits (m : tM) (v : Nat → Int32) : tM := (M_code m, M_draft m, M_size m, M_src m, M_kept m, M_keptSize m, M_loaded m, M_wrongLine m, M_rules m, M_heads m, M_lengths m, M_bodies m, M_weights m, M_costs m, M_symbols m, M_names m, M_hasText m, M_letters m, M_text m, M_emptySum m, M_emptyCost m, M_sums m, M_least m, M_units m, M_upTo m, M_upToNext m, M_rest m, M_nodes m, M_nodeRule m, M_nodeFrom m, M_nodeTo m, v, M_at m, M_end m, M_value m)
theorem sm_waits {g1 g2 : Nat} {x : tX} {d : tD} {c : tC} {u : tU} {t : tT} {a : tG} {b : tG} {m : tM} {o : tO} {E : List rn_C} {v : Nat → Int32} : (emb g1 g2 x d c u t a b m o E).set 75 (rn_i .int 1500 v) = emb g1 g2 x d c u t a b (M_put_waits m v) o E := rfl
def M_put_at (m : tM) (v : Int32) : tM := (M_code m, M_draft m, M_size m, M_src m, M_kept m, M_keptSize m, M_loaded m, M_wrongLine m, M_rules m, M_heads m, M_lengths m, M_bodies m, M_weights m, M_costs m, M_symbols m, M_names m, M_hasText m, M_letters m, M_text m, M_emptySum m, M_emptyCost m, M_sums m, M_least m, M_units m, M_upTo m, M_upToNext m, M_rest m, M_nodes m, M_nodeRule m, M_nodeFrom m, M_nodeTo m, M_waits m, v, M_end m, M_value m)
theorem sm_at {g1 g2 : Nat} {x : tX} {d : tD} {c : tC} {u : tU} {t : tT} {a : tG} {b : tG} {m : tM} {o : tO} {E : List rn_C} {v : Int32} : (emb g1 g2 x d c u t a b m o E).set 53 (rn_o 7 (List.set [.int (M_code m), .ref 54, .int (M_size m), .ref 55, .ref 56, .int (M_keptSize m), .int (M_loaded m), .int (M_wrongLine m), .int (M_rules m), .ref 57, .ref 58, .ref 59, .ref 60, .ref 61, .int (M_symbols m), .ref 62, .int (M_hasText m), .int (M_letters m), .ref 63, .ref 64, .ref 65, .ref 66, .ref 67, .ref 68, .ref 69, .ref 70, .ref 71, .int (M_nodes m), .ref 72, .ref 73, .ref 74, .ref 75, .int (M_at m), .int (M_end m), .int (M_value m)] 32 (.int v))) = emb g1 g2 x d c u t a b (M_put_at m v) o E := rfl
def M_put_end (m : tM) (v : Int32) : tM := (M_code m, M_draft m, M_size m, M_src m, M_kept m, M_keptSize m, M_loaded m, M_wrongLine m, M_rules m, M_heads m, M_lengths m, M_bodies m, M_weights m, M_costs m, M_symbols m, M_names m, M_hasText m, M_letters m, M_text m, M_emptySum m, M_emptyCost m, M_sums m, M_least m, M_units m, M_upTo m, M_upToNext m, M_rest m, M_nodes m, M_nodeRule m, M_nodeFrom m, M_nodeTo m, M_waits m, M_at m, v, M_value m)
theorem sm_end {g1 g2 : Nat} {x : tX} {d : tD} {c : tC} {u : tU} {t : tT} {a : tG} {b : tG} {m : tM} {o : tO} {E : List rn_C} {v : Int32} : (emb g1 g2 x d c u t a b m o E).set 53 (rn_o 7 (List.set [.int (M_code m), .ref 54, .int (M_size m), .ref 55, .ref 56, .int (M_keptSize m), .int (M_loaded m), .int (M_wrongLine m), .int (M_rules m), .ref 57, .ref 58, .ref 59, .ref 60, .ref 61, .int (M_symbols m), .ref 62, .int (M_hasText m), .int (M_letters m), .ref 63, .ref 64, .ref 65, .ref 66, .ref 67, .ref 68, .ref 69, .ref 70, .ref 71, .int (M_nodes m), .ref 72, .ref 73, .ref 74, .ref 75, .int (M_at m), .int (M_end m), .int (M_value m)] 33 (.int v))) = emb g1 g2 x d c u t a b (M_put_end m v) o E := rfl
def M_put_value (m : tM) (v : Int32) : tM := (M_code m, M_draft m, M_size m, M_src m, M_kept m, M_keptSize m, M_loaded m, M_wrongLine m, M_rules m, M_heads m, M_lengths m, M_bodies m, M_weights m, M_costs m, M_symbols m, M_names m, M_hasText m, M_letters m, M_text m, M_emptySum m, M_emptyCost m, M_sums m, M_least m, M_units m, M_upTo m, M_upToNext m, M_rest m, M_nodes m, M_nodeRule m, M_nodeFrom m, M_nodeTo m, M_waits m, M_at m, M_end m, v)
theorem sm_value {g1 g2 : Nat} {x : tX} {d : tD} {c : tC} {u : tU} {t : tT} {a : tG} {b : tG} {m : tM} {o : tO} {E : List rn_C} {v : Int32} : (emb g1 g2 x d c u t a b m o E).set 53 (rn_o 7 (List.set [.int (M_code m), .ref 54, .int (M_size m), .ref 55, .ref 56, .int (M_keptSize m), .int (M_loaded m), .int (M_wrongLine m), .int (M_rules m), .ref 57, .ref 58, .ref 59, .ref 60, .ref 61, .int (M_symbols m), .ref 62, .int (M_hasText m), .int (M_letters m), .ref 63, .ref 64, .ref 65, .ref 66, .ref 67, .ref 68, .ref 69, .ref 70, .ref 71, .int (M_nodes m), .ref 72, .ref 73, .ref 74, .ref 75, .int (M_at m), .int (M_end m), .int (M_value m)] 34 (.int v))) = emb g1 g2 x d c u t a b (M_put_value m v) o E := rfl
