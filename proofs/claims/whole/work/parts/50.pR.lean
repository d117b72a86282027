def z9_i32 (n : Nat) : Int32 := Int32.ofNat n
theorem z9_i32_lit (n : Nat) : (@OfNat.ofNat Int32 n _) = z9_i32 (@OfNat.ofNat Nat n _) := rfl
theorem z9_i32_add (a b : Nat) : z9_i32 a + z9_i32 b = z9_i32 (a + b) := (Int32.ofNat_add a b).symm
theorem z9_i32_mul (a b : Nat) : z9_i32 a * z9_i32 b = z9_i32 (a * b) := (Int32.ofNat_mul a b).symm
theorem z9_i32_toInt {a : Nat} (h : a < 2147483648) : (z9_i32 a).toInt = a := Int32.toInt_ofNat_of_lt h
theorem z9_i32_nat {a : Nat} (h : a < 2147483648) : (z9_i32 a).toNatClampNeg = a := by
  show (z9_i32 a).toInt.toNat = a
  rw [z9_i32_toInt h]; rfl
theorem z9_i32_le {a b : Nat} (ha : a < 2147483648) (hb : b < 2147483648) : (z9_i32 a ≤ z9_i32 b) = (a ≤ b) := by
  rw [Int32.le_iff_toInt_le, z9_i32_toInt ha, z9_i32_toInt hb]; simp
theorem z9_i32_lt {a b : Nat} (ha : a < 2147483648) (hb : b < 2147483648) : (z9_i32 a < z9_i32 b) = (a < b) := by
  rw [Int32.lt_iff_toInt_lt, z9_i32_toInt ha, z9_i32_toInt hb]; simp
theorem z9_i32_inj {a b : Nat} (ha : a < 2147483648) (hb : b < 2147483648) : (z9_i32 a = z9_i32 b) = (a = b) := by
  rw [← Int32.toInt_inj, z9_i32_toInt ha, z9_i32_toInt hb]; exact propext Int.ofNat_inj
theorem z9_i32_sub {a b : Nat} (h : b ≤ a) : z9_i32 a - z9_i32 b = z9_i32 (a - b) := by
  have : z9_i32 a = z9_i32 (a - b) + z9_i32 b := by rw [z9_i32_add]; congr 1; omega
  rw [this, Int32.add_sub_cancel]
theorem z9_i32_neg1 {a : Nat} (h : 0 < a) : z9_i32 a + (-1) = z9_i32 (a - 1) := by
  have : z9_i32 a = z9_i32 (a - 1) + z9_i32 1 := by rw [z9_i32_add]; congr 1; omega
  rw [this, Int32.add_assoc]
  show _ + (0 : Int32) = _
  exact Int32.add_zero _
theorem z9_i32_m1 {a : Nat} (ha : a < 2147483648) : (z9_i32 a = -1) = False := by
  rw [← Int32.toInt_inj, z9_i32_toInt ha]
  have h1 : (-1 : Int32).toInt = -1 := by decide
  rw [h1]; exact eq_false (by omega)
theorem z9_i32_n0 {a : Nat} (ha : a < 2147483648) : (z9_i32 a < 0) = False := by
  rw [Int32.lt_iff_toInt_lt, z9_i32_toInt ha]; simp
theorem z9_i32_p0 {a : Nat} (ha : a < 2147483648) : (0 ≤ z9_i32 a) = True := by
  rw [Int32.le_iff_toInt_le, z9_i32_toInt ha]; simp
theorem z9_aG_i {α : Type} {f : Nat → α} {n k : Nat} (hk : k < n) (hn : n < 2147483648) : aG f n (z9_i32 k) = some (f k) := by
  have h : k < 2147483648 := by omega
  unfold aG
  rw [if_neg, z9_i32_nat h]
  rw [z9_i32_nat h, z9_i32_n0 h]; simp; omega
theorem z9_aS_i {α : Type} {f : Nat → α} {n k : Nat} {v : α} (hk : k < n) (hn : n < 2147483648) : aS f n (z9_i32 k) v = some (fun j => if j = k then v else f j) := by
  have h : k < 2147483648 := by omega
  unfold aS
  rw [if_neg, z9_i32_nat h]
  rw [z9_i32_nat h, z9_i32_n0 h]; simp; omega
theorem z9_aI_i {n k : Nat} (hk : k < n) (hn : n < 2147483648) : aI n (z9_i32 k) = some k := by
  have h : k < 2147483648 := by omega
  unfold aI
  rw [if_neg, z9_i32_nat h]
  rw [z9_i32_nat h, z9_i32_n0 h]; simp; omega
theorem z9_i32_of {x : Int32} (h : 0 ≤ x) : ∃ n, n < 2147483648 ∧ x = z9_i32 n := by
  rw [Int32.le_iff_toInt_le] at h
  have h0 : (0 : Int32).toInt = 0 := by decide
  rw [h0] at h
  refine ⟨x.toInt.toNat, ?_, ?_⟩
  · have := Int32.toInt_lt x; omega
  · rw [← Int32.toInt_inj, z9_i32_toInt]
    · omega
    · have := Int32.toInt_lt x; omega
theorem z9_for_up {σ τ : Type} (L : Nat → σ → Int32 → τ) (Q : τ → Prop) (P : Nat → σ → Prop) (K : Nat)
    (hend : ∀ n st, P K st → Q (L (n + 1) st (z9_i32 K)))
    (hstep : ∀ n st k, k < K → P k st → (∃ st', L (n + 1) st (z9_i32 k) = L n st' (z9_i32 k + 1) ∧ P (k + 1) st') ∨ Q (L (n + 1) st (z9_i32 k))) :
    ∀ (fuel k : Nat) (st : σ), k ≤ K → K < fuel + k → P k st → Q (L fuel st (z9_i32 k)) := by
  intro fuel
  induction fuel with
  | zero => intro k st h1 h2 _; omega
  | succ n ih =>
    intro k st h1 h2 hP
    by_cases hk : k = K
    · subst hk; exact hend n st hP
    · rcases hstep n st k (by omega) hP with ⟨st', he, hP'⟩ | hq
      · rw [he, show z9_i32 k + 1 = z9_i32 (k + 1) from z9_i32_add k 1]; exact ih (k + 1) st' (by omega) (by omega) hP'
      · exact hq
theorem z9_for_dn {σ τ : Type} (L : Nat → σ → Int32 → τ) (Q : τ → Prop) (P : Nat → σ → Prop)
    (hend : ∀ n st, P 0 st → Q (L (n + 1) st (-1)))
    (hstep : ∀ n st k, P (k + 1) st → (∃ st', L (n + 1) st (z9_i32 k) = L n st' (z9_i32 k + (-1)) ∧ P k st') ∨ Q (L (n + 1) st (z9_i32 k))) :
    ∀ (k fuel : Nat) (st : σ), k < fuel → P k st → Q (L fuel st (if k = 0 then -1 else z9_i32 (k - 1))) := by
  intro k
  induction k with
  | zero =>
    intro fuel st h1 hP
    cases fuel with
    | zero => omega
    | succ n => exact hend n st hP
  | succ k ih =>
    intro fuel st h1 hP
    cases fuel with
    | zero => omega
    | succ n =>
      rcases hstep n st k hP with ⟨st', he, hP'⟩ | hq
      · simp only [Nat.add_one_sub_one, Nat.succ_ne_zero, if_false]
        rw [he]
        have := ih n st' (by omega) hP'
        by_cases hk : k = 0
        · subst hk; exact this
        · rw [if_neg hk] at this
          rw [z9_i32_neg1 (by omega)]; exact this
      · exact hq
theorem z9_forU {σ τ : Type} (L : Nat → σ → Int32 → τ) (Q : τ → Prop) (P : Nat → σ → Prop) (K : Nat)
    (k : Nat) (st : σ) (hk : k ≤ K) (hK : K < 1000000) (hP : P k st)
    (hend : ∀ n st, P K st → Q (L (n + 1) st (z9_i32 K)))
    (hstep : ∀ n st k, k < K → P k st → (∃ st', L (n + 1) st (z9_i32 k) = L n st' (z9_i32 k + 1) ∧ P (k + 1) st') ∨ Q (L (n + 1) st (z9_i32 k))) : Q (L rn_fu st (z9_i32 k)) :=
  z9_for_up L Q P K hend hstep rn_fu k st hk (show K < 1000000 + k by omega) hP
theorem z9_forD {σ τ : Type} (L : Nat → σ → Int32 → τ) (Q : τ → Prop) (P : Nat → σ → Prop)
    (k : Nat) (st : σ) (hk : k < 1000000) (hP : P k st)
    (hend : ∀ n st, P 0 st → Q (L (n + 1) st (-1)))
    (hstep : ∀ n st k, P (k + 1) st → (∃ st', L (n + 1) st (z9_i32 k) = L n st' (z9_i32 k + (-1)) ∧ P k st') ∨ Q (L (n + 1) st (z9_i32 k))) : Q (L rn_fu st (z9_i32 k - 1)) := by
  have h := z9_for_dn L Q P hend hstep k rn_fu st hk hP
  by_cases h0 : k = 0
  · subst h0; exact h
  · rw [if_neg h0] at h
    rw [show z9_i32 k - 1 = z9_i32 (k - 1) from z9_i32_sub (by omega : 1 ≤ k)]; exact h
theorem z9_mp_code (m : tM) (v : Int32) : M_code (M_put_code m v) = v ∧ M_draft (M_put_code m v) = M_draft m ∧ M_size (M_put_code m v) = M_size m ∧ M_src (M_put_code m v) = M_src m ∧ M_kept (M_put_code m v) = M_kept m ∧ M_keptSize (M_put_code m v) = M_keptSize m ∧ M_loaded (M_put_code m v) = M_loaded m ∧ M_wrongLine (M_put_code m v) = M_wrongLine m ∧ M_rules (M_put_code m v) = M_rules m ∧ M_heads (M_put_code m v) = M_heads m ∧ M_lengths (M_put_code m v) = M_lengths m ∧ M_bodies (M_put_code m v) = M_bodies m ∧ M_weights (M_put_code m v) = M_weights m ∧ M_costs (M_put_code m v) = M_costs m ∧ M_symbols (M_put_code m v) = M_symbols m ∧ M_names (M_put_code m v) = M_names m ∧ M_hasText (M_put_code m v) = M_hasText m ∧ M_letters (M_put_code m v) = M_letters m ∧ M_text (M_put_code m v) = M_text m ∧ M_emptySum (M_put_code m v) = M_emptySum m ∧ M_emptyCost (M_put_code m v) = M_emptyCost m ∧ M_sums (M_put_code m v) = M_sums m ∧ M_least (M_put_code m v) = M_least m ∧ M_units (M_put_code m v) = M_units m ∧ M_upTo (M_put_code m v) = M_upTo m ∧ M_upToNext (M_put_code m v) = M_upToNext m ∧ M_rest (M_put_code m v) = M_rest m ∧ M_nodes (M_put_code m v) = M_nodes m ∧ M_nodeRule (M_put_code m v) = M_nodeRule m ∧ M_nodeFrom (M_put_code m v) = M_nodeFrom m ∧ M_nodeTo (M_put_code m v) = M_nodeTo m ∧ M_waits (M_put_code m v) = M_waits m ∧ M_at (M_put_code m v) = M_at m ∧ M_end (M_put_code m v) = M_end m ∧ M_value (M_put_code m v) = M_value m := by simp only [M_put_code, M_code, M_draft, M_size, M_src, M_kept, M_keptSize, M_loaded, M_wrongLine, M_rules, M_heads, M_lengths, M_bodies, M_weights, M_costs, M_symbols, M_names, M_hasText, M_letters, M_text, M_emptySum, M_emptyCost, M_sums, M_least, M_units, M_upTo, M_upToNext, M_rest, M_nodes, M_nodeRule, M_nodeFrom, M_nodeTo, M_waits, M_at, M_end, M_value, and_self]
theorem z9_mp_draft (m : tM) (v : Nat → Int32) : M_code (M_put_draft m v) = M_code m ∧ M_draft (M_put_draft m v) = v ∧ M_size (M_put_draft m v) = M_size m ∧ M_src (M_put_draft m v) = M_src m ∧ M_kept (M_put_draft m v) = M_kept m ∧ M_keptSize (M_put_draft m v) = M_keptSize m ∧ M_loaded (M_put_draft m v) = M_loaded m ∧ M_wrongLine (M_put_draft m v) = M_wrongLine m ∧ M_rules (M_put_draft m v) = M_rules m ∧ M_heads (M_put_draft m v) = M_heads m ∧ M_lengths (M_put_draft m v) = M_lengths m ∧ M_bodies (M_put_draft m v) = M_bodies m ∧ M_weights (M_put_draft m v) = M_weights m ∧ M_costs (M_put_draft m v) = M_costs m ∧ M_symbols (M_put_draft m v) = M_symbols m ∧ M_names (M_put_draft m v) = M_names m ∧ M_hasText (M_put_draft m v) = M_hasText m ∧ M_letters (M_put_draft m v) = M_letters m ∧ M_text (M_put_draft m v) = M_text m ∧ M_emptySum (M_put_draft m v) = M_emptySum m ∧ M_emptyCost (M_put_draft m v) = M_emptyCost m ∧ M_sums (M_put_draft m v) = M_sums m ∧ M_least (M_put_draft m v) = M_least m ∧ M_units (M_put_draft m v) = M_units m ∧ M_upTo (M_put_draft m v) = M_upTo m ∧ M_upToNext (M_put_draft m v) = M_upToNext m ∧ M_rest (M_put_draft m v) = M_rest m ∧ M_nodes (M_put_draft m v) = M_nodes m ∧ M_nodeRule (M_put_draft m v) = M_nodeRule m ∧ M_nodeFrom (M_put_draft m v) = M_nodeFrom m ∧ M_nodeTo (M_put_draft m v) = M_nodeTo m ∧ M_waits (M_put_draft m v) = M_waits m ∧ M_at (M_put_draft m v) = M_at m ∧ M_end (M_put_draft m v) = M_end m ∧ M_value (M_put_draft m v) = M_value m := by simp only [M_put_draft, M_code, M_draft, M_size, M_src, M_kept, M_keptSize, M_loaded, M_wrongLine, M_rules, M_heads, M_lengths, M_bodies, M_weights, M_costs, M_symbols, M_names, M_hasText, M_letters, M_text, M_emptySum, M_emptyCost, M_sums, M_least, M_units, M_upTo, M_upToNext, M_rest, M_nodes, M_nodeRule, M_nodeFrom, M_nodeTo, M_waits, M_at, M_end, M_value, and_self]
theorem z9_mp_size (m : tM) (v : Int32) : M_code (M_put_size m v) = M_code m ∧ M_draft (M_put_size m v) = M_draft m ∧ M_size (M_put_size m v) = v ∧ M_src (M_put_size m v) = M_src m ∧ M_kept (M_put_size m v) = M_kept m ∧ M_keptSize (M_put_size m v) = M_keptSize m ∧ M_loaded (M_put_size m v) = M_loaded m ∧ M_wrongLine (M_put_size m v) = M_wrongLine m ∧ M_rules (M_put_size m v) = M_rules m ∧ M_heads (M_put_size m v) = M_heads m ∧ M_lengths (M_put_size m v) = M_lengths m ∧ M_bodies (M_put_size m v) = M_bodies m ∧ M_weights (M_put_size m v) = M_weights m ∧ M_costs (M_put_size m v) = M_costs m ∧ M_symbols (M_put_size m v) = M_symbols m ∧ M_names (M_put_size m v) = M_names m ∧ M_hasText (M_put_size m v) = M_hasText m ∧ M_letters (M_put_size m v) = M_letters m ∧ M_text (M_put_size m v) = M_text m ∧ M_emptySum (M_put_size m v) = M_emptySum m ∧ M_emptyCost (M_put_size m v) = M_emptyCost m ∧ M_sums (M_put_size m v) = M_sums m ∧ M_least (M_put_size m v) = M_least m ∧ M_units (M_put_size m v) = M_units m ∧ M_upTo (M_put_size m v) = M_upTo m ∧ M_upToNext (M_put_size m v) = M_upToNext m ∧ M_rest (M_put_size m v) = M_rest m ∧ M_nodes (M_put_size m v) = M_nodes m ∧ M_nodeRule (M_put_size m v) = M_nodeRule m ∧ M_nodeFrom (M_put_size m v) = M_nodeFrom m ∧ M_nodeTo (M_put_size m v) = M_nodeTo m ∧ M_waits (M_put_size m v) = M_waits m ∧ M_at (M_put_size m v) = M_at m ∧ M_end (M_put_size m v) = M_end m ∧ M_value (M_put_size m v) = M_value m := by simp only [M_put_size, M_code, M_draft, M_size, M_src, M_kept, M_keptSize, M_loaded, M_wrongLine, M_rules, M_heads, M_lengths, M_bodies, M_weights, M_costs, M_symbols, M_names, M_hasText, M_letters, M_text, M_emptySum, M_emptyCost, M_sums, M_least, M_units, M_upTo, M_upToNext, M_rest, M_nodes, M_nodeRule, M_nodeFrom, M_nodeTo, M_waits, M_at, M_end, M_value, and_self]
theorem z9_mp_src (m : tM) (v : Nat → Int32) : M_code (M_put_src m v) = M_code m ∧ M_draft (M_put_src m v) = M_draft m ∧ M_size (M_put_src m v) = M_size m ∧ M_src (M_put_src m v) = v ∧ M_kept (M_put_src m v) = M_kept m ∧ M_keptSize (M_put_src m v) = M_keptSize m ∧ M_loaded (M_put_src m v) = M_loaded m ∧ M_wrongLine (M_put_src m v) = M_wrongLine m ∧ M_rules (M_put_src m v) = M_rules m ∧ M_heads (M_put_src m v) = M_heads m ∧ M_lengths (M_put_src m v) = M_lengths m ∧ M_bodies (M_put_src m v) = M_bodies m ∧ M_weights (M_put_src m v) = M_weights m ∧ M_costs (M_put_src m v) = M_costs m ∧ M_symbols (M_put_src m v) = M_symbols m ∧ M_names (M_put_src m v) = M_names m ∧ M_hasText (M_put_src m v) = M_hasText m ∧ M_letters (M_put_src m v) = M_letters m ∧ M_text (M_put_src m v) = M_text m ∧ M_emptySum (M_put_src m v) = M_emptySum m ∧ M_emptyCost (M_put_src m v) = M_emptyCost m ∧ M_sums (M_put_src m v) = M_sums m ∧ M_least (M_put_src m v) = M_least m ∧ M_units (M_put_src m v) = M_units m ∧ M_upTo (M_put_src m v) = M_upTo m ∧ M_upToNext (M_put_src m v) = M_upToNext m ∧ M_rest (M_put_src m v) = M_rest m ∧ M_nodes (M_put_src m v) = M_nodes m ∧ M_nodeRule (M_put_src m v) = M_nodeRule m ∧ M_nodeFrom (M_put_src m v) = M_nodeFrom m ∧ M_nodeTo (M_put_src m v) = M_nodeTo m ∧ M_waits (M_put_src m v) = M_waits m ∧ M_at (M_put_src m v) = M_at m ∧ M_end (M_put_src m v) = M_end m ∧ M_value (M_put_src m v) = M_value m := by simp only [M_put_src, M_code, M_draft, M_size, M_src, M_kept, M_keptSize, M_loaded, M_wrongLine, M_rules, M_heads, M_lengths, M_bodies, M_weights, M_costs, M_symbols, M_names, M_hasText, M_letters, M_text, M_emptySum, M_emptyCost, M_sums, M_least, M_units, M_upTo, M_upToNext, M_rest, M_nodes, M_nodeRule, M_nodeFrom, M_nodeTo, M_waits, M_at, M_end, M_value, and_self]
theorem z9_mp_kept (m : tM) (v : Nat → Int32) : M_code (M_put_kept m v) = M_code m ∧ M_draft (M_put_kept m v) = M_draft m ∧ M_size (M_put_kept m v) = M_size m ∧ M_src (M_put_kept m v) = M_src m ∧ M_kept (M_put_kept m v) = v ∧ M_keptSize (M_put_kept m v) = M_keptSize m ∧ M_loaded (M_put_kept m v) = M_loaded m ∧ M_wrongLine (M_put_kept m v) = M_wrongLine m ∧ M_rules (M_put_kept m v) = M_rules m ∧ M_heads (M_put_kept m v) = M_heads m ∧ M_lengths (M_put_kept m v) = M_lengths m ∧ M_bodies (M_put_kept m v) = M_bodies m ∧ M_weights (M_put_kept m v) = M_weights m ∧ M_costs (M_put_kept m v) = M_costs m ∧ M_symbols (M_put_kept m v) = M_symbols m ∧ M_names (M_put_kept m v) = M_names m ∧ M_hasText (M_put_kept m v) = M_hasText m ∧ M_letters (M_put_kept m v) = M_letters m ∧ M_text (M_put_kept m v) = M_text m ∧ M_emptySum (M_put_kept m v) = M_emptySum m ∧ M_emptyCost (M_put_kept m v) = M_emptyCost m ∧ M_sums (M_put_kept m v) = M_sums m ∧ M_least (M_put_kept m v) = M_least m ∧ M_units (M_put_kept m v) = M_units m ∧ M_upTo (M_put_kept m v) = M_upTo m ∧ M_upToNext (M_put_kept m v) = M_upToNext m ∧ M_rest (M_put_kept m v) = M_rest m ∧ M_nodes (M_put_kept m v) = M_nodes m ∧ M_nodeRule (M_put_kept m v) = M_nodeRule m ∧ M_nodeFrom (M_put_kept m v) = M_nodeFrom m ∧ M_nodeTo (M_put_kept m v) = M_nodeTo m ∧ M_waits (M_put_kept m v) = M_waits m ∧ M_at (M_put_kept m v) = M_at m ∧ M_end (M_put_kept m v) = M_end m ∧ M_value (M_put_kept m v) = M_value m := by simp only [M_put_kept, M_code, M_draft, M_size, M_src, M_kept, M_keptSize, M_loaded, M_wrongLine, M_rules, M_heads, M_lengths, M_bodies, M_weights, M_costs, M_symbols, M_names, M_hasText, M_letters, M_text, M_emptySum, M_emptyCost, M_sums, M_least, M_units, M_upTo, M_upToNext, M_rest, M_nodes, M_nodeRule, M_nodeFrom, M_nodeTo, M_waits, M_at, M_end, M_value, and_self]
theorem z9_mp_keptSize (m : tM) (v : Int32) : M_code (M_put_keptSize m v) = M_code m ∧ M_draft (M_put_keptSize m v) = M_draft m ∧ M_size (M_put_keptSize m v) = M_size m ∧ M_src (M_put_keptSize m v) = M_src m ∧ M_kept (M_put_keptSize m v) = M_kept m ∧ M_keptSize (M_put_keptSize m v) = v ∧ M_loaded (M_put_keptSize m v) = M_loaded m ∧ M_wrongLine (M_put_keptSize m v) = M_wrongLine m ∧ M_rules (M_put_keptSize m v) = M_rules m ∧ M_heads (M_put_keptSize m v) = M_heads m ∧ M_lengths (M_put_keptSize m v) = M_lengths m ∧ M_bodies (M_put_keptSize m v) = M_bodies m ∧ M_weights (M_put_keptSize m v) = M_weights m ∧ M_costs (M_put_keptSize m v) = M_costs m ∧ M_symbols (M_put_keptSize m v) = M_symbols m ∧ M_names (M_put_keptSize m v) = M_names m ∧ M_hasText (M_put_keptSize m v) = M_hasText m ∧ M_letters (M_put_keptSize m v) = M_letters m ∧ M_text (M_put_keptSize m v) = M_text m ∧ M_emptySum (M_put_keptSize m v) = M_emptySum m ∧ M_emptyCost (M_put_keptSize m v) = M_emptyCost m ∧ M_sums (M_put_keptSize m v) = M_sums m ∧ M_least (M_put_keptSize m v) = M_least m ∧ M_units (M_put_keptSize m v) = M_units m ∧ M_upTo (M_put_keptSize m v) = M_upTo m ∧ M_upToNext (M_put_keptSize m v) = M_upToNext m ∧ M_rest (M_put_keptSize m v) = M_rest m ∧ M_nodes (M_put_keptSize m v) = M_nodes m ∧ M_nodeRule (M_put_keptSize m v) = M_nodeRule m ∧ M_nodeFrom (M_put_keptSize m v) = M_nodeFrom m ∧ M_nodeTo (M_put_keptSize m v) = M_nodeTo m ∧ M_waits (M_put_keptSize m v) = M_waits m ∧ M_at (M_put_keptSize m v) = M_at m ∧ M_end (M_put_keptSize m v) = M_end m ∧ M_value (M_put_keptSize m v) = M_value m := by simp only [M_put_keptSize, M_code, M_draft, M_size, M_src, M_kept, M_keptSize, M_loaded, M_wrongLine, M_rules, M_heads, M_lengths, M_bodies, M_weights, M_costs, M_symbols, M_names, M_hasText, M_letters, M_text, M_emptySum, M_emptyCost, M_sums, M_least, M_units, M_upTo, M_upToNext, M_rest, M_nodes, M_nodeRule, M_nodeFrom, M_nodeTo, M_waits, M_at, M_end, M_value, and_self]
theorem z9_mp_loaded (m : tM) (v : Int32) : M_code (M_put_loaded m v) = M_code m ∧ M_draft (M_put_loaded m v) = M_draft m ∧ M_size (M_put_loaded m v) = M_size m ∧ M_src (M_put_loaded m v) = M_src m ∧ M_kept (M_put_loaded m v) = M_kept m ∧ M_keptSize (M_put_loaded m v) = M_keptSize m ∧ M_loaded (M_put_loaded m v) = v ∧ M_wrongLine (M_put_loaded m v) = M_wrongLine m ∧ M_rules (M_put_loaded m v) = M_rules m ∧ M_heads (M_put_loaded m v) = M_heads m ∧ M_lengths (M_put_loaded m v) = M_lengths m ∧ M_bodies (M_put_loaded m v) = M_bodies m ∧ M_weights (M_put_loaded m v) = M_weights m ∧ M_costs (M_put_loaded m v) = M_costs m ∧ M_symbols (M_put_loaded m v) = M_symbols m ∧ M_names (M_put_loaded m v) = M_names m ∧ M_hasText (M_put_loaded m v) = M_hasText m ∧ M_letters (M_put_loaded m v) = M_letters m ∧ M_text (M_put_loaded m v) = M_text m ∧ M_emptySum (M_put_loaded m v) = M_emptySum m ∧ M_emptyCost (M_put_loaded m v) = M_emptyCost m ∧ M_sums (M_put_loaded m v) = M_sums m ∧ M_least (M_put_loaded m v) = M_least m ∧ M_units (M_put_loaded m v) = M_units m ∧ M_upTo (M_put_loaded m v) = M_upTo m ∧ M_upToNext (M_put_loaded m v) = M_upToNext m ∧ M_rest (M_put_loaded m v) = M_rest m ∧ M_nodes (M_put_loaded m v) = M_nodes m ∧ M_nodeRule (M_put_loaded m v) = M_nodeRule m ∧ M_nodeFrom (M_put_loaded m v) = M_nodeFrom m ∧ M_nodeTo (M_put_loaded m v) = M_nodeTo m ∧ M_waits (M_put_loaded m v) = M_waits m ∧ M_at (M_put_loaded m v) = M_at m ∧ M_end (M_put_loaded m v) = M_end m ∧ M_value (M_put_loaded m v) = M_value m := by simp only [M_put_loaded, M_code, M_draft, M_size, M_src, M_kept, M_keptSize, M_loaded, M_wrongLine, M_rules, M_heads, M_lengths, M_bodies, M_weights, M_costs, M_symbols, M_names, M_hasText, M_letters, M_text, M_emptySum, M_emptyCost, M_sums, M_least, M_units, M_upTo, M_upToNext, M_rest, M_nodes, M_nodeRule, M_nodeFrom, M_nodeTo, M_waits, M_at, M_end, M_value, and_self]
theorem z9_mp_wrongLine (m : tM) (v : Int32) : M_code (M_put_wrongLine m v) = M_code m ∧ M_draft (M_put_wrongLine m v) = M_draft m ∧ M_size (M_put_wrongLine m v) = M_size m ∧ M_src (M_put_wrongLine m v) = M_src m ∧ M_kept (M_put_wrongLine m v) = M_kept m ∧ M_keptSize (M_put_wrongLine m v) = M_keptSize m ∧ M_loaded (M_put_wrongLine m v) = M_loaded m ∧ M_wrongLine (M_put_wrongLine m v) = v ∧ M_rules (M_put_wrongLine m v) = M_rules m ∧ M_heads (M_put_wrongLine m v) = M_heads m ∧ M_lengths (M_put_wrongLine m v) = M_lengths m ∧ M_bodies (M_put_wrongLine m v) = M_bodies m ∧ M_weights (M_put_wrongLine m v) = M_weights m ∧ M_costs (M_put_wrongLine m v) = M_costs m ∧ M_symbols (M_put_wrongLine m v) = M_symbols m ∧ M_names (M_put_wrongLine m v) = M_names m ∧ M_hasText (M_put_wrongLine m v) = M_hasText m ∧ M_letters (M_put_wrongLine m v) = M_letters m ∧ M_text (M_put_wrongLine m v) = M_text m ∧ M_emptySum (M_put_wrongLine m v) = M_emptySum m ∧ M_emptyCost (M_put_wrongLine m v) = M_emptyCost m ∧ M_sums (M_put_wrongLine m v) = M_sums m ∧ M_least (M_put_wrongLine m v) = M_least m ∧ M_units (M_put_wrongLine m v) = M_units m ∧ M_upTo (M_put_wrongLine m v) = M_upTo m ∧ M_upToNext (M_put_wrongLine m v) = M_upToNext m ∧ M_rest (M_put_wrongLine m v) = M_rest m ∧ M_nodes (M_put_wrongLine m v) = M_nodes m ∧ M_nodeRule (M_put_wrongLine m v) = M_nodeRule m ∧ M_nodeFrom (M_put_wrongLine m v) = M_nodeFrom m ∧ M_nodeTo (M_put_wrongLine m v) = M_nodeTo m ∧ M_waits (M_put_wrongLine m v) = M_waits m ∧ M_at (M_put_wrongLine m v) = M_at m ∧ M_end (M_put_wrongLine m v) = M_end m ∧ M_value (M_put_wrongLine m v) = M_value m := by simp only [M_put_wrongLine, M_code, M_draft, M_size, M_src, M_kept, M_keptSize, M_loaded, M_wrongLine, M_rules, M_heads, M_lengths, M_bodies, M_weights, M_costs, M_symbols, M_names, M_hasText, M_letters, M_text, M_emptySum, M_emptyCost, M_sums, M_least, M_units, M_upTo, M_upToNext, M_rest, M_nodes, M_nodeRule, M_nodeFrom, M_nodeTo, M_waits, M_at, M_end, M_value, and_self]
theorem z9_mp_rules (m : tM) (v : Int32) : M_code (M_put_rules m v) = M_code m ∧ M_draft (M_put_rules m v) = M_draft m ∧ M_size (M_put_rules m v) = M_size m ∧ M_src (M_put_rules m v) = M_src m ∧ M_kept (M_put_rules m v) = M_kept m ∧ M_keptSize (M_put_rules m v) = M_keptSize m ∧ M_loaded (M_put_rules m v) = M_loaded m ∧ M_wrongLine (M_put_rules m v) = M_wrongLine m ∧ M_rules (M_put_rules m v) = v ∧ M_heads (M_put_rules m v) = M_heads m ∧ M_lengths (M_put_rules m v) = M_lengths m ∧ M_bodies (M_put_rules m v) = M_bodies m ∧ M_weights (M_put_rules m v) = M_weights m ∧ M_costs (M_put_rules m v) = M_costs m ∧ M_symbols (M_put_rules m v) = M_symbols m ∧ M_names (M_put_rules m v) = M_names m ∧ M_hasText (M_put_rules m v) = M_hasText m ∧ M_letters (M_put_rules m v) = M_letters m ∧ M_text (M_put_rules m v) = M_text m ∧ M_emptySum (M_put_rules m v) = M_emptySum m ∧ M_emptyCost (M_put_rules m v) = M_emptyCost m ∧ M_sums (M_put_rules m v) = M_sums m ∧ M_least (M_put_rules m v) = M_least m ∧ M_units (M_put_rules m v) = M_units m ∧ M_upTo (M_put_rules m v) = M_upTo m ∧ M_upToNext (M_put_rules m v) = M_upToNext m ∧ M_rest (M_put_rules m v) = M_rest m ∧ M_nodes (M_put_rules m v) = M_nodes m ∧ M_nodeRule (M_put_rules m v) = M_nodeRule m ∧ M_nodeFrom (M_put_rules m v) = M_nodeFrom m ∧ M_nodeTo (M_put_rules m v) = M_nodeTo m ∧ M_waits (M_put_rules m v) = M_waits m ∧ M_at (M_put_rules m v) = M_at m ∧ M_end (M_put_rules m v) = M_end m ∧ M_value (M_put_rules m v) = M_value m := by simp only [M_put_rules, M_code, M_draft, M_size, M_src, M_kept, M_keptSize, M_loaded, M_wrongLine, M_rules, M_heads, M_lengths, M_bodies, M_weights, M_costs, M_symbols, M_names, M_hasText, M_letters, M_text, M_emptySum, M_emptyCost, M_sums, M_least, M_units, M_upTo, M_upToNext, M_rest, M_nodes, M_nodeRule, M_nodeFrom, M_nodeTo, M_waits, M_at, M_end, M_value, and_self]
theorem z9_mp_heads (m : tM) (v : Nat → Int32) : M_code (M_put_heads m v) = M_code m ∧ M_draft (M_put_heads m v) = M_draft m ∧ M_size (M_put_heads m v) = M_size m ∧ M_src (M_put_heads m v) = M_src m ∧ M_kept (M_put_heads m v) = M_kept m ∧ M_keptSize (M_put_heads m v) = M_keptSize m ∧ M_loaded (M_put_heads m v) = M_loaded m ∧ M_wrongLine (M_put_heads m v) = M_wrongLine m ∧ M_rules (M_put_heads m v) = M_rules m ∧ M_heads (M_put_heads m v) = v ∧ M_lengths (M_put_heads m v) = M_lengths m ∧ M_bodies (M_put_heads m v) = M_bodies m ∧ M_weights (M_put_heads m v) = M_weights m ∧ M_costs (M_put_heads m v) = M_costs m ∧ M_symbols (M_put_heads m v) = M_symbols m ∧ M_names (M_put_heads m v) = M_names m ∧ M_hasText (M_put_heads m v) = M_hasText m ∧ M_letters (M_put_heads m v) = M_letters m ∧ M_text (M_put_heads m v) = M_text m ∧ M_emptySum (M_put_heads m v) = M_emptySum m ∧ M_emptyCost (M_put_heads m v) = M_emptyCost m ∧ M_sums (M_put_heads m v) = M_sums m ∧ M_least (M_put_heads m v) = M_least m ∧ M_units (M_put_heads m v) = M_units m ∧ M_upTo (M_put_heads m v) = M_upTo m ∧ M_upToNext (M_put_heads m v) = M_upToNext m ∧ M_rest (M_put_heads m v) = M_rest m ∧ M_nodes (M_put_heads m v) = M_nodes m ∧ M_nodeRule (M_put_heads m v) = M_nodeRule m ∧ M_nodeFrom (M_put_heads m v) = M_nodeFrom m ∧ M_nodeTo (M_put_heads m v) = M_nodeTo m ∧ M_waits (M_put_heads m v) = M_waits m ∧ M_at (M_put_heads m v) = M_at m ∧ M_end (M_put_heads m v) = M_end m ∧ M_value (M_put_heads m v) = M_value m := by simp only [M_put_heads, M_code, M_draft, M_size, M_src, M_kept, M_keptSize, M_loaded, M_wrongLine, M_rules, M_heads, M_lengths, M_bodies, M_weights, M_costs, M_symbols, M_names, M_hasText, M_letters, M_text, M_emptySum, M_emptyCost, M_sums, M_least, M_units, M_upTo, M_upToNext, M_rest, M_nodes, M_nodeRule, M_nodeFrom, M_nodeTo, M_waits, M_at, M_end, M_value, and_self]
theorem z9_mp_lengths (m : tM) (v : Nat → Int32) : M_code (M_put_lengths m v) = M_code m ∧ M_draft (M_put_lengths m v) = M_draft m ∧ M_size (M_put_lengths m v) = M_size m ∧ M_src (M_put_lengths m v) = M_src m ∧ M_kept (M_put_lengths m v) = M_kept m ∧ M_keptSize (M_put_lengths m v) = M_keptSize m ∧ M_loaded (M_put_lengths m v) = M_loaded m ∧ M_wrongLine (M_put_lengths m v) = M_wrongLine m ∧ M_rules (M_put_lengths m v) = M_rules m ∧ M_heads (M_put_lengths m v) = M_heads m ∧ M_lengths (M_put_lengths m v) = v ∧ M_bodies (M_put_lengths m v) = M_bodies m ∧ M_weights (M_put_lengths m v) = M_weights m ∧ M_costs (M_put_lengths m v) = M_costs m ∧ M_symbols (M_put_lengths m v) = M_symbols m ∧ M_names (M_put_lengths m v) = M_names m ∧ M_hasText (M_put_lengths m v) = M_hasText m ∧ M_letters (M_put_lengths m v) = M_letters m ∧ M_text (M_put_lengths m v) = M_text m ∧ M_emptySum (M_put_lengths m v) = M_emptySum m ∧ M_emptyCost (M_put_lengths m v) = M_emptyCost m ∧ M_sums (M_put_lengths m v) = M_sums m ∧ M_least (M_put_lengths m v) = M_least m ∧ M_units (M_put_lengths m v) = M_units m ∧ M_upTo (M_put_lengths m v) = M_upTo m ∧ M_upToNext (M_put_lengths m v) = M_upToNext m ∧ M_rest (M_put_lengths m v) = M_rest m ∧ M_nodes (M_put_lengths m v) = M_nodes m ∧ M_nodeRule (M_put_lengths m v) = M_nodeRule m ∧ M_nodeFrom (M_put_lengths m v) = M_nodeFrom m ∧ M_nodeTo (M_put_lengths m v) = M_nodeTo m ∧ M_waits (M_put_lengths m v) = M_waits m ∧ M_at (M_put_lengths m v) = M_at m ∧ M_end (M_put_lengths m v) = M_end m ∧ M_value (M_put_lengths m v) = M_value m := by simp only [M_put_lengths, M_code, M_draft, M_size, M_src, M_kept, M_keptSize, M_loaded, M_wrongLine, M_rules, M_heads, M_lengths, M_bodies, M_weights, M_costs, M_symbols, M_names, M_hasText, M_letters, M_text, M_emptySum, M_emptyCost, M_sums, M_least, M_units, M_upTo, M_upToNext, M_rest, M_nodes, M_nodeRule, M_nodeFrom, M_nodeTo, M_waits, M_at, M_end, M_value, and_self]
theorem z9_mp_bodies (m : tM) (v : Nat → Int32) : M_code (M_put_bodies m v) = M_code m ∧ M_draft (M_put_bodies m v) = M_draft m ∧ M_size (M_put_bodies m v) = M_size m ∧ M_src (M_put_bodies m v) = M_src m ∧ M_kept (M_put_bodies m v) = M_kept m ∧ M_keptSize (M_put_bodies m v) = M_keptSize m ∧ M_loaded (M_put_bodies m v) = M_loaded m ∧ M_wrongLine (M_put_bodies m v) = M_wrongLine m ∧ M_rules (M_put_bodies m v) = M_rules m ∧ M_heads (M_put_bodies m v) = M_heads m ∧ M_lengths (M_put_bodies m v) = M_lengths m ∧ M_bodies (M_put_bodies m v) = v ∧ M_weights (M_put_bodies m v) = M_weights m ∧ M_costs (M_put_bodies m v) = M_costs m ∧ M_symbols (M_put_bodies m v) = M_symbols m ∧ M_names (M_put_bodies m v) = M_names m ∧ M_hasText (M_put_bodies m v) = M_hasText m ∧ M_letters (M_put_bodies m v) = M_letters m ∧ M_text (M_put_bodies m v) = M_text m ∧ M_emptySum (M_put_bodies m v) = M_emptySum m ∧ M_emptyCost (M_put_bodies m v) = M_emptyCost m ∧ M_sums (M_put_bodies m v) = M_sums m ∧ M_least (M_put_bodies m v) = M_least m ∧ M_units (M_put_bodies m v) = M_units m ∧ M_upTo (M_put_bodies m v) = M_upTo m ∧ M_upToNext (M_put_bodies m v) = M_upToNext m ∧ M_rest (M_put_bodies m v) = M_rest m ∧ M_nodes (M_put_bodies m v) = M_nodes m ∧ M_nodeRule (M_put_bodies m v) = M_nodeRule m ∧ M_nodeFrom (M_put_bodies m v) = M_nodeFrom m ∧ M_nodeTo (M_put_bodies m v) = M_nodeTo m ∧ M_waits (M_put_bodies m v) = M_waits m ∧ M_at (M_put_bodies m v) = M_at m ∧ M_end (M_put_bodies m v) = M_end m ∧ M_value (M_put_bodies m v) = M_value m := by simp only [M_put_bodies, M_code, M_draft, M_size, M_src, M_kept, M_keptSize, M_loaded, M_wrongLine, M_rules, M_heads, M_lengths, M_bodies, M_weights, M_costs, M_symbols, M_names, M_hasText, M_letters, M_text, M_emptySum, M_emptyCost, M_sums, M_least, M_units, M_upTo, M_upToNext, M_rest, M_nodes, M_nodeRule, M_nodeFrom, M_nodeTo, M_waits, M_at, M_end, M_value, and_self]
theorem z9_mp_weights (m : tM) (v : Nat → Int64) : M_code (M_put_weights m v) = M_code m ∧ M_draft (M_put_weights m v) = M_draft m ∧ M_size (M_put_weights m v) = M_size m ∧ M_src (M_put_weights m v) = M_src m ∧ M_kept (M_put_weights m v) = M_kept m ∧ M_keptSize (M_put_weights m v) = M_keptSize m ∧ M_loaded (M_put_weights m v) = M_loaded m ∧ M_wrongLine (M_put_weights m v) = M_wrongLine m ∧ M_rules (M_put_weights m v) = M_rules m ∧ M_heads (M_put_weights m v) = M_heads m ∧ M_lengths (M_put_weights m v) = M_lengths m ∧ M_bodies (M_put_weights m v) = M_bodies m ∧ M_weights (M_put_weights m v) = v ∧ M_costs (M_put_weights m v) = M_costs m ∧ M_symbols (M_put_weights m v) = M_symbols m ∧ M_names (M_put_weights m v) = M_names m ∧ M_hasText (M_put_weights m v) = M_hasText m ∧ M_letters (M_put_weights m v) = M_letters m ∧ M_text (M_put_weights m v) = M_text m ∧ M_emptySum (M_put_weights m v) = M_emptySum m ∧ M_emptyCost (M_put_weights m v) = M_emptyCost m ∧ M_sums (M_put_weights m v) = M_sums m ∧ M_least (M_put_weights m v) = M_least m ∧ M_units (M_put_weights m v) = M_units m ∧ M_upTo (M_put_weights m v) = M_upTo m ∧ M_upToNext (M_put_weights m v) = M_upToNext m ∧ M_rest (M_put_weights m v) = M_rest m ∧ M_nodes (M_put_weights m v) = M_nodes m ∧ M_nodeRule (M_put_weights m v) = M_nodeRule m ∧ M_nodeFrom (M_put_weights m v) = M_nodeFrom m ∧ M_nodeTo (M_put_weights m v) = M_nodeTo m ∧ M_waits (M_put_weights m v) = M_waits m ∧ M_at (M_put_weights m v) = M_at m ∧ M_end (M_put_weights m v) = M_end m ∧ M_value (M_put_weights m v) = M_value m := by simp only [M_put_weights, M_code, M_draft, M_size, M_src, M_kept, M_keptSize, M_loaded, M_wrongLine, M_rules, M_heads, M_lengths, M_bodies, M_weights, M_costs, M_symbols, M_names, M_hasText, M_letters, M_text, M_emptySum, M_emptyCost, M_sums, M_least, M_units, M_upTo, M_upToNext, M_rest, M_nodes, M_nodeRule, M_nodeFrom, M_nodeTo, M_waits, M_at, M_end, M_value, and_self]
theorem z9_mp_costs (m : tM) (v : Nat → Int32) : M_code (M_put_costs m v) = M_code m ∧ M_draft (M_put_costs m v) = M_draft m ∧ M_size (M_put_costs m v) = M_size m ∧ M_src (M_put_costs m v) = M_src m ∧ M_kept (M_put_costs m v) = M_kept m ∧ M_keptSize (M_put_costs m v) = M_keptSize m ∧ M_loaded (M_put_costs m v) = M_loaded m ∧ M_wrongLine (M_put_costs m v) = M_wrongLine m ∧ M_rules (M_put_costs m v) = M_rules m ∧ M_heads (M_put_costs m v) = M_heads m ∧ M_lengths (M_put_costs m v) = M_lengths m ∧ M_bodies (M_put_costs m v) = M_bodies m ∧ M_weights (M_put_costs m v) = M_weights m ∧ M_costs (M_put_costs m v) = v ∧ M_symbols (M_put_costs m v) = M_symbols m ∧ M_names (M_put_costs m v) = M_names m ∧ M_hasText (M_put_costs m v) = M_hasText m ∧ M_letters (M_put_costs m v) = M_letters m ∧ M_text (M_put_costs m v) = M_text m ∧ M_emptySum (M_put_costs m v) = M_emptySum m ∧ M_emptyCost (M_put_costs m v) = M_emptyCost m ∧ M_sums (M_put_costs m v) = M_sums m ∧ M_least (M_put_costs m v) = M_least m ∧ M_units (M_put_costs m v) = M_units m ∧ M_upTo (M_put_costs m v) = M_upTo m ∧ M_upToNext (M_put_costs m v) = M_upToNext m ∧ M_rest (M_put_costs m v) = M_rest m ∧ M_nodes (M_put_costs m v) = M_nodes m ∧ M_nodeRule (M_put_costs m v) = M_nodeRule m ∧ M_nodeFrom (M_put_costs m v) = M_nodeFrom m ∧ M_nodeTo (M_put_costs m v) = M_nodeTo m ∧ M_waits (M_put_costs m v) = M_waits m ∧ M_at (M_put_costs m v) = M_at m ∧ M_end (M_put_costs m v) = M_end m ∧ M_value (M_put_costs m v) = M_value m := by simp only [M_put_costs, M_code, M_draft, M_size, M_src, M_kept, M_keptSize, M_loaded, M_wrongLine, M_rules, M_heads, M_lengths, M_bodies, M_weights, M_costs, M_symbols, M_names, M_hasText, M_letters, M_text, M_emptySum, M_emptyCost, M_sums, M_least, M_units, M_upTo, M_upToNext, M_rest, M_nodes, M_nodeRule, M_nodeFrom, M_nodeTo, M_waits, M_at, M_end, M_value, and_self]
theorem z9_mp_symbols (m : tM) (v : Int32) : M_code (M_put_symbols m v) = M_code m ∧ M_draft (M_put_symbols m v) = M_draft m ∧ M_size (M_put_symbols m v) = M_size m ∧ M_src (M_put_symbols m v) = M_src m ∧ M_kept (M_put_symbols m v) = M_kept m ∧ M_keptSize (M_put_symbols m v) = M_keptSize m ∧ M_loaded (M_put_symbols m v) = M_loaded m ∧ M_wrongLine (M_put_symbols m v) = M_wrongLine m ∧ M_rules (M_put_symbols m v) = M_rules m ∧ M_heads (M_put_symbols m v) = M_heads m ∧ M_lengths (M_put_symbols m v) = M_lengths m ∧ M_bodies (M_put_symbols m v) = M_bodies m ∧ M_weights (M_put_symbols m v) = M_weights m ∧ M_costs (M_put_symbols m v) = M_costs m ∧ M_symbols (M_put_symbols m v) = v ∧ M_names (M_put_symbols m v) = M_names m ∧ M_hasText (M_put_symbols m v) = M_hasText m ∧ M_letters (M_put_symbols m v) = M_letters m ∧ M_text (M_put_symbols m v) = M_text m ∧ M_emptySum (M_put_symbols m v) = M_emptySum m ∧ M_emptyCost (M_put_symbols m v) = M_emptyCost m ∧ M_sums (M_put_symbols m v) = M_sums m ∧ M_least (M_put_symbols m v) = M_least m ∧ M_units (M_put_symbols m v) = M_units m ∧ M_upTo (M_put_symbols m v) = M_upTo m ∧ M_upToNext (M_put_symbols m v) = M_upToNext m ∧ M_rest (M_put_symbols m v) = M_rest m ∧ M_nodes (M_put_symbols m v) = M_nodes m ∧ M_nodeRule (M_put_symbols m v) = M_nodeRule m ∧ M_nodeFrom (M_put_symbols m v) = M_nodeFrom m ∧ M_nodeTo (M_put_symbols m v) = M_nodeTo m ∧ M_waits (M_put_symbols m v) = M_waits m ∧ M_at (M_put_symbols m v) = M_at m ∧ M_end (M_put_symbols m v) = M_end m ∧ M_value (M_put_symbols m v) = M_value m := by simp only [M_put_symbols, M_code, M_draft, M_size, M_src, M_kept, M_keptSize, M_loaded, M_wrongLine, M_rules, M_heads, M_lengths, M_bodies, M_weights, M_costs, M_symbols, M_names, M_hasText, M_letters, M_text, M_emptySum, M_emptyCost, M_sums, M_least, M_units, M_upTo, M_upToNext, M_rest, M_nodes, M_nodeRule, M_nodeFrom, M_nodeTo, M_waits, M_at, M_end, M_value, and_self]
theorem z9_mp_names (m : tM) (v : Nat → Int32) : M_code (M_put_names m v) = M_code m ∧ M_draft (M_put_names m v) = M_draft m ∧ M_size (M_put_names m v) = M_size m ∧ M_src (M_put_names m v) = M_src m ∧ M_kept (M_put_names m v) = M_kept m ∧ M_keptSize (M_put_names m v) = M_keptSize m ∧ M_loaded (M_put_names m v) = M_loaded m ∧ M_wrongLine (M_put_names m v) = M_wrongLine m ∧ M_rules (M_put_names m v) = M_rules m ∧ M_heads (M_put_names m v) = M_heads m ∧ M_lengths (M_put_names m v) = M_lengths m ∧ M_bodies (M_put_names m v) = M_bodies m ∧ M_weights (M_put_names m v) = M_weights m ∧ M_costs (M_put_names m v) = M_costs m ∧ M_symbols (M_put_names m v) = M_symbols m ∧ M_names (M_put_names m v) = v ∧ M_hasText (M_put_names m v) = M_hasText m ∧ M_letters (M_put_names m v) = M_letters m ∧ M_text (M_put_names m v) = M_text m ∧ M_emptySum (M_put_names m v) = M_emptySum m ∧ M_emptyCost (M_put_names m v) = M_emptyCost m ∧ M_sums (M_put_names m v) = M_sums m ∧ M_least (M_put_names m v) = M_least m ∧ M_units (M_put_names m v) = M_units m ∧ M_upTo (M_put_names m v) = M_upTo m ∧ M_upToNext (M_put_names m v) = M_upToNext m ∧ M_rest (M_put_names m v) = M_rest m ∧ M_nodes (M_put_names m v) = M_nodes m ∧ M_nodeRule (M_put_names m v) = M_nodeRule m ∧ M_nodeFrom (M_put_names m v) = M_nodeFrom m ∧ M_nodeTo (M_put_names m v) = M_nodeTo m ∧ M_waits (M_put_names m v) = M_waits m ∧ M_at (M_put_names m v) = M_at m ∧ M_end (M_put_names m v) = M_end m ∧ M_value (M_put_names m v) = M_value m := by simp only [M_put_names, M_code, M_draft, M_size, M_src, M_kept, M_keptSize, M_loaded, M_wrongLine, M_rules, M_heads, M_lengths, M_bodies, M_weights, M_costs, M_symbols, M_names, M_hasText, M_letters, M_text, M_emptySum, M_emptyCost, M_sums, M_least, M_units, M_upTo, M_upToNext, M_rest, M_nodes, M_nodeRule, M_nodeFrom, M_nodeTo, M_waits, M_at, M_end, M_value, and_self]
theorem z9_mp_hasText (m : tM) (v : Int32) : M_code (M_put_hasText m v) = M_code m ∧ M_draft (M_put_hasText m v) = M_draft m ∧ M_size (M_put_hasText m v) = M_size m ∧ M_src (M_put_hasText m v) = M_src m ∧ M_kept (M_put_hasText m v) = M_kept m ∧ M_keptSize (M_put_hasText m v) = M_keptSize m ∧ M_loaded (M_put_hasText m v) = M_loaded m ∧ M_wrongLine (M_put_hasText m v) = M_wrongLine m ∧ M_rules (M_put_hasText m v) = M_rules m ∧ M_heads (M_put_hasText m v) = M_heads m ∧ M_lengths (M_put_hasText m v) = M_lengths m ∧ M_bodies (M_put_hasText m v) = M_bodies m ∧ M_weights (M_put_hasText m v) = M_weights m ∧ M_costs (M_put_hasText m v) = M_costs m ∧ M_symbols (M_put_hasText m v) = M_symbols m ∧ M_names (M_put_hasText m v) = M_names m ∧ M_hasText (M_put_hasText m v) = v ∧ M_letters (M_put_hasText m v) = M_letters m ∧ M_text (M_put_hasText m v) = M_text m ∧ M_emptySum (M_put_hasText m v) = M_emptySum m ∧ M_emptyCost (M_put_hasText m v) = M_emptyCost m ∧ M_sums (M_put_hasText m v) = M_sums m ∧ M_least (M_put_hasText m v) = M_least m ∧ M_units (M_put_hasText m v) = M_units m ∧ M_upTo (M_put_hasText m v) = M_upTo m ∧ M_upToNext (M_put_hasText m v) = M_upToNext m ∧ M_rest (M_put_hasText m v) = M_rest m ∧ M_nodes (M_put_hasText m v) = M_nodes m ∧ M_nodeRule (M_put_hasText m v) = M_nodeRule m ∧ M_nodeFrom (M_put_hasText m v) = M_nodeFrom m ∧ M_nodeTo (M_put_hasText m v) = M_nodeTo m ∧ M_waits (M_put_hasText m v) = M_waits m ∧ M_at (M_put_hasText m v) = M_at m ∧ M_end (M_put_hasText m v) = M_end m ∧ M_value (M_put_hasText m v) = M_value m := by simp only [M_put_hasText, M_code, M_draft, M_size, M_src, M_kept, M_keptSize, M_loaded, M_wrongLine, M_rules, M_heads, M_lengths, M_bodies, M_weights, M_costs, M_symbols, M_names, M_hasText, M_letters, M_text, M_emptySum, M_emptyCost, M_sums, M_least, M_units, M_upTo, M_upToNext, M_rest, M_nodes, M_nodeRule, M_nodeFrom, M_nodeTo, M_waits, M_at, M_end, M_value, and_self]
theorem z9_mp_letters (m : tM) (v : Int32) : M_code (M_put_letters m v) = M_code m ∧ M_draft (M_put_letters m v) = M_draft m ∧ M_size (M_put_letters m v) = M_size m ∧ M_src (M_put_letters m v) = M_src m ∧ M_kept (M_put_letters m v) = M_kept m ∧ M_keptSize (M_put_letters m v) = M_keptSize m ∧ M_loaded (M_put_letters m v) = M_loaded m ∧ M_wrongLine (M_put_letters m v) = M_wrongLine m ∧ M_rules (M_put_letters m v) = M_rules m ∧ M_heads (M_put_letters m v) = M_heads m ∧ M_lengths (M_put_letters m v) = M_lengths m ∧ M_bodies (M_put_letters m v) = M_bodies m ∧ M_weights (M_put_letters m v) = M_weights m ∧ M_costs (M_put_letters m v) = M_costs m ∧ M_symbols (M_put_letters m v) = M_symbols m ∧ M_names (M_put_letters m v) = M_names m ∧ M_hasText (M_put_letters m v) = M_hasText m ∧ M_letters (M_put_letters m v) = v ∧ M_text (M_put_letters m v) = M_text m ∧ M_emptySum (M_put_letters m v) = M_emptySum m ∧ M_emptyCost (M_put_letters m v) = M_emptyCost m ∧ M_sums (M_put_letters m v) = M_sums m ∧ M_least (M_put_letters m v) = M_least m ∧ M_units (M_put_letters m v) = M_units m ∧ M_upTo (M_put_letters m v) = M_upTo m ∧ M_upToNext (M_put_letters m v) = M_upToNext m ∧ M_rest (M_put_letters m v) = M_rest m ∧ M_nodes (M_put_letters m v) = M_nodes m ∧ M_nodeRule (M_put_letters m v) = M_nodeRule m ∧ M_nodeFrom (M_put_letters m v) = M_nodeFrom m ∧ M_nodeTo (M_put_letters m v) = M_nodeTo m ∧ M_waits (M_put_letters m v) = M_waits m ∧ M_at (M_put_letters m v) = M_at m ∧ M_end (M_put_letters m v) = M_end m ∧ M_value (M_put_letters m v) = M_value m := by simp only [M_put_letters, M_code, M_draft, M_size, M_src, M_kept, M_keptSize, M_loaded, M_wrongLine, M_rules, M_heads, M_lengths, M_bodies, M_weights, M_costs, M_symbols, M_names, M_hasText, M_letters, M_text, M_emptySum, M_emptyCost, M_sums, M_least, M_units, M_upTo, M_upToNext, M_rest, M_nodes, M_nodeRule, M_nodeFrom, M_nodeTo, M_waits, M_at, M_end, M_value, and_self]
theorem z9_mp_text (m : tM) (v : Nat → Int32) : M_code (M_put_text m v) = M_code m ∧ M_draft (M_put_text m v) = M_draft m ∧ M_size (M_put_text m v) = M_size m ∧ M_src (M_put_text m v) = M_src m ∧ M_kept (M_put_text m v) = M_kept m ∧ M_keptSize (M_put_text m v) = M_keptSize m ∧ M_loaded (M_put_text m v) = M_loaded m ∧ M_wrongLine (M_put_text m v) = M_wrongLine m ∧ M_rules (M_put_text m v) = M_rules m ∧ M_heads (M_put_text m v) = M_heads m ∧ M_lengths (M_put_text m v) = M_lengths m ∧ M_bodies (M_put_text m v) = M_bodies m ∧ M_weights (M_put_text m v) = M_weights m ∧ M_costs (M_put_text m v) = M_costs m ∧ M_symbols (M_put_text m v) = M_symbols m ∧ M_names (M_put_text m v) = M_names m ∧ M_hasText (M_put_text m v) = M_hasText m ∧ M_letters (M_put_text m v) = M_letters m ∧ M_text (M_put_text m v) = v ∧ M_emptySum (M_put_text m v) = M_emptySum m ∧ M_emptyCost (M_put_text m v) = M_emptyCost m ∧ M_sums (M_put_text m v) = M_sums m ∧ M_least (M_put_text m v) = M_least m ∧ M_units (M_put_text m v) = M_units m ∧ M_upTo (M_put_text m v) = M_upTo m ∧ M_upToNext (M_put_text m v) = M_upToNext m ∧ M_rest (M_put_text m v) = M_rest m ∧ M_nodes (M_put_text m v) = M_nodes m ∧ M_nodeRule (M_put_text m v) = M_nodeRule m ∧ M_nodeFrom (M_put_text m v) = M_nodeFrom m ∧ M_nodeTo (M_put_text m v) = M_nodeTo m ∧ M_waits (M_put_text m v) = M_waits m ∧ M_at (M_put_text m v) = M_at m ∧ M_end (M_put_text m v) = M_end m ∧ M_value (M_put_text m v) = M_value m := by simp only [M_put_text, M_code, M_draft, M_size, M_src, M_kept, M_keptSize, M_loaded, M_wrongLine, M_rules, M_heads, M_lengths, M_bodies, M_weights, M_costs, M_symbols, M_names, M_hasText, M_letters, M_text, M_emptySum, M_emptyCost, M_sums, M_least, M_units, M_upTo, M_upToNext, M_rest, M_nodes, M_nodeRule, M_nodeFrom, M_nodeTo, M_waits, M_at, M_end, M_value, and_self]
theorem z9_mp_emptySum (m : tM) (v : Nat → Int64) : M_code (M_put_emptySum m v) = M_code m ∧ M_draft (M_put_emptySum m v) = M_draft m ∧ M_size (M_put_emptySum m v) = M_size m ∧ M_src (M_put_emptySum m v) = M_src m ∧ M_kept (M_put_emptySum m v) = M_kept m ∧ M_keptSize (M_put_emptySum m v) = M_keptSize m ∧ M_loaded (M_put_emptySum m v) = M_loaded m ∧ M_wrongLine (M_put_emptySum m v) = M_wrongLine m ∧ M_rules (M_put_emptySum m v) = M_rules m ∧ M_heads (M_put_emptySum m v) = M_heads m ∧ M_lengths (M_put_emptySum m v) = M_lengths m ∧ M_bodies (M_put_emptySum m v) = M_bodies m ∧ M_weights (M_put_emptySum m v) = M_weights m ∧ M_costs (M_put_emptySum m v) = M_costs m ∧ M_symbols (M_put_emptySum m v) = M_symbols m ∧ M_names (M_put_emptySum m v) = M_names m ∧ M_hasText (M_put_emptySum m v) = M_hasText m ∧ M_letters (M_put_emptySum m v) = M_letters m ∧ M_text (M_put_emptySum m v) = M_text m ∧ M_emptySum (M_put_emptySum m v) = v ∧ M_emptyCost (M_put_emptySum m v) = M_emptyCost m ∧ M_sums (M_put_emptySum m v) = M_sums m ∧ M_least (M_put_emptySum m v) = M_least m ∧ M_units (M_put_emptySum m v) = M_units m ∧ M_upTo (M_put_emptySum m v) = M_upTo m ∧ M_upToNext (M_put_emptySum m v) = M_upToNext m ∧ M_rest (M_put_emptySum m v) = M_rest m ∧ M_nodes (M_put_emptySum m v) = M_nodes m ∧ M_nodeRule (M_put_emptySum m v) = M_nodeRule m ∧ M_nodeFrom (M_put_emptySum m v) = M_nodeFrom m ∧ M_nodeTo (M_put_emptySum m v) = M_nodeTo m ∧ M_waits (M_put_emptySum m v) = M_waits m ∧ M_at (M_put_emptySum m v) = M_at m ∧ M_end (M_put_emptySum m v) = M_end m ∧ M_value (M_put_emptySum m v) = M_value m := by simp only [M_put_emptySum, M_code, M_draft, M_size, M_src, M_kept, M_keptSize, M_loaded, M_wrongLine, M_rules, M_heads, M_lengths, M_bodies, M_weights, M_costs, M_symbols, M_names, M_hasText, M_letters, M_text, M_emptySum, M_emptyCost, M_sums, M_least, M_units, M_upTo, M_upToNext, M_rest, M_nodes, M_nodeRule, M_nodeFrom, M_nodeTo, M_waits, M_at, M_end, M_value, and_self]
theorem z9_mp_emptyCost (m : tM) (v : Nat → Int32) : M_code (M_put_emptyCost m v) = M_code m ∧ M_draft (M_put_emptyCost m v) = M_draft m ∧ M_size (M_put_emptyCost m v) = M_size m ∧ M_src (M_put_emptyCost m v) = M_src m ∧ M_kept (M_put_emptyCost m v) = M_kept m ∧ M_keptSize (M_put_emptyCost m v) = M_keptSize m ∧ M_loaded (M_put_emptyCost m v) = M_loaded m ∧ M_wrongLine (M_put_emptyCost m v) = M_wrongLine m ∧ M_rules (M_put_emptyCost m v) = M_rules m ∧ M_heads (M_put_emptyCost m v) = M_heads m ∧ M_lengths (M_put_emptyCost m v) = M_lengths m ∧ M_bodies (M_put_emptyCost m v) = M_bodies m ∧ M_weights (M_put_emptyCost m v) = M_weights m ∧ M_costs (M_put_emptyCost m v) = M_costs m ∧ M_symbols (M_put_emptyCost m v) = M_symbols m ∧ M_names (M_put_emptyCost m v) = M_names m ∧ M_hasText (M_put_emptyCost m v) = M_hasText m ∧ M_letters (M_put_emptyCost m v) = M_letters m ∧ M_text (M_put_emptyCost m v) = M_text m ∧ M_emptySum (M_put_emptyCost m v) = M_emptySum m ∧ M_emptyCost (M_put_emptyCost m v) = v ∧ M_sums (M_put_emptyCost m v) = M_sums m ∧ M_least (M_put_emptyCost m v) = M_least m ∧ M_units (M_put_emptyCost m v) = M_units m ∧ M_upTo (M_put_emptyCost m v) = M_upTo m ∧ M_upToNext (M_put_emptyCost m v) = M_upToNext m ∧ M_rest (M_put_emptyCost m v) = M_rest m ∧ M_nodes (M_put_emptyCost m v) = M_nodes m ∧ M_nodeRule (M_put_emptyCost m v) = M_nodeRule m ∧ M_nodeFrom (M_put_emptyCost m v) = M_nodeFrom m ∧ M_nodeTo (M_put_emptyCost m v) = M_nodeTo m ∧ M_waits (M_put_emptyCost m v) = M_waits m ∧ M_at (M_put_emptyCost m v) = M_at m ∧ M_end (M_put_emptyCost m v) = M_end m ∧ M_value (M_put_emptyCost m v) = M_value m := by simp only [M_put_emptyCost, M_code, M_draft, M_size, M_src, M_kept, M_keptSize, M_loaded, M_wrongLine, M_rules, M_heads, M_lengths, M_bodies, M_weights, M_costs, M_symbols, M_names, M_hasText, M_letters, M_text, M_emptySum, M_emptyCost, M_sums, M_least, M_units, M_upTo, M_upToNext, M_rest, M_nodes, M_nodeRule, M_nodeFrom, M_nodeTo, M_waits, M_at, M_end, M_value, and_self]
theorem z9_mp_sums (m : tM) (v : Nat → Int64) : M_code (M_put_sums m v) = M_code m ∧ M_draft (M_put_sums m v) = M_draft m ∧ M_size (M_put_sums m v) = M_size m ∧ M_src (M_put_sums m v) = M_src m ∧ M_kept (M_put_sums m v) = M_kept m ∧ M_keptSize (M_put_sums m v) = M_keptSize m ∧ M_loaded (M_put_sums m v) = M_loaded m ∧ M_wrongLine (M_put_sums m v) = M_wrongLine m ∧ M_rules (M_put_sums m v) = M_rules m ∧ M_heads (M_put_sums m v) = M_heads m ∧ M_lengths (M_put_sums m v) = M_lengths m ∧ M_bodies (M_put_sums m v) = M_bodies m ∧ M_weights (M_put_sums m v) = M_weights m ∧ M_costs (M_put_sums m v) = M_costs m ∧ M_symbols (M_put_sums m v) = M_symbols m ∧ M_names (M_put_sums m v) = M_names m ∧ M_hasText (M_put_sums m v) = M_hasText m ∧ M_letters (M_put_sums m v) = M_letters m ∧ M_text (M_put_sums m v) = M_text m ∧ M_emptySum (M_put_sums m v) = M_emptySum m ∧ M_emptyCost (M_put_sums m v) = M_emptyCost m ∧ M_sums (M_put_sums m v) = v ∧ M_least (M_put_sums m v) = M_least m ∧ M_units (M_put_sums m v) = M_units m ∧ M_upTo (M_put_sums m v) = M_upTo m ∧ M_upToNext (M_put_sums m v) = M_upToNext m ∧ M_rest (M_put_sums m v) = M_rest m ∧ M_nodes (M_put_sums m v) = M_nodes m ∧ M_nodeRule (M_put_sums m v) = M_nodeRule m ∧ M_nodeFrom (M_put_sums m v) = M_nodeFrom m ∧ M_nodeTo (M_put_sums m v) = M_nodeTo m ∧ M_waits (M_put_sums m v) = M_waits m ∧ M_at (M_put_sums m v) = M_at m ∧ M_end (M_put_sums m v) = M_end m ∧ M_value (M_put_sums m v) = M_value m := by simp only [M_put_sums, M_code, M_draft, M_size, M_src, M_kept, M_keptSize, M_loaded, M_wrongLine, M_rules, M_heads, M_lengths, M_bodies, M_weights, M_costs, M_symbols, M_names, M_hasText, M_letters, M_text, M_emptySum, M_emptyCost, M_sums, M_least, M_units, M_upTo, M_upToNext, M_rest, M_nodes, M_nodeRule, M_nodeFrom, M_nodeTo, M_waits, M_at, M_end, M_value, and_self]
theorem z9_mp_least (m : tM) (v : Nat → Int32) : M_code (M_put_least m v) = M_code m ∧ M_draft (M_put_least m v) = M_draft m ∧ M_size (M_put_least m v) = M_size m ∧ M_src (M_put_least m v) = M_src m ∧ M_kept (M_put_least m v) = M_kept m ∧ M_keptSize (M_put_least m v) = M_keptSize m ∧ M_loaded (M_put_least m v) = M_loaded m ∧ M_wrongLine (M_put_least m v) = M_wrongLine m ∧ M_rules (M_put_least m v) = M_rules m ∧ M_heads (M_put_least m v) = M_heads m ∧ M_lengths (M_put_least m v) = M_lengths m ∧ M_bodies (M_put_least m v) = M_bodies m ∧ M_weights (M_put_least m v) = M_weights m ∧ M_costs (M_put_least m v) = M_costs m ∧ M_symbols (M_put_least m v) = M_symbols m ∧ M_names (M_put_least m v) = M_names m ∧ M_hasText (M_put_least m v) = M_hasText m ∧ M_letters (M_put_least m v) = M_letters m ∧ M_text (M_put_least m v) = M_text m ∧ M_emptySum (M_put_least m v) = M_emptySum m ∧ M_emptyCost (M_put_least m v) = M_emptyCost m ∧ M_sums (M_put_least m v) = M_sums m ∧ M_least (M_put_least m v) = v ∧ M_units (M_put_least m v) = M_units m ∧ M_upTo (M_put_least m v) = M_upTo m ∧ M_upToNext (M_put_least m v) = M_upToNext m ∧ M_rest (M_put_least m v) = M_rest m ∧ M_nodes (M_put_least m v) = M_nodes m ∧ M_nodeRule (M_put_least m v) = M_nodeRule m ∧ M_nodeFrom (M_put_least m v) = M_nodeFrom m ∧ M_nodeTo (M_put_least m v) = M_nodeTo m ∧ M_waits (M_put_least m v) = M_waits m ∧ M_at (M_put_least m v) = M_at m ∧ M_end (M_put_least m v) = M_end m ∧ M_value (M_put_least m v) = M_value m := by simp only [M_put_least, M_code, M_draft, M_size, M_src, M_kept, M_keptSize, M_loaded, M_wrongLine, M_rules, M_heads, M_lengths, M_bodies, M_weights, M_costs, M_symbols, M_names, M_hasText, M_letters, M_text, M_emptySum, M_emptyCost, M_sums, M_least, M_units, M_upTo, M_upToNext, M_rest, M_nodes, M_nodeRule, M_nodeFrom, M_nodeTo, M_waits, M_at, M_end, M_value, and_self]
theorem z9_mp_units (m : tM) (v : Nat → Int64) : M_code (M_put_units m v) = M_code m ∧ M_draft (M_put_units m v) = M_draft m ∧ M_size (M_put_units m v) = M_size m ∧ M_src (M_put_units m v) = M_src m ∧ M_kept (M_put_units m v) = M_kept m ∧ M_keptSize (M_put_units m v) = M_keptSize m ∧ M_loaded (M_put_units m v) = M_loaded m ∧ M_wrongLine (M_put_units m v) = M_wrongLine m ∧ M_rules (M_put_units m v) = M_rules m ∧ M_heads (M_put_units m v) = M_heads m ∧ M_lengths (M_put_units m v) = M_lengths m ∧ M_bodies (M_put_units m v) = M_bodies m ∧ M_weights (M_put_units m v) = M_weights m ∧ M_costs (M_put_units m v) = M_costs m ∧ M_symbols (M_put_units m v) = M_symbols m ∧ M_names (M_put_units m v) = M_names m ∧ M_hasText (M_put_units m v) = M_hasText m ∧ M_letters (M_put_units m v) = M_letters m ∧ M_text (M_put_units m v) = M_text m ∧ M_emptySum (M_put_units m v) = M_emptySum m ∧ M_emptyCost (M_put_units m v) = M_emptyCost m ∧ M_sums (M_put_units m v) = M_sums m ∧ M_least (M_put_units m v) = M_least m ∧ M_units (M_put_units m v) = v ∧ M_upTo (M_put_units m v) = M_upTo m ∧ M_upToNext (M_put_units m v) = M_upToNext m ∧ M_rest (M_put_units m v) = M_rest m ∧ M_nodes (M_put_units m v) = M_nodes m ∧ M_nodeRule (M_put_units m v) = M_nodeRule m ∧ M_nodeFrom (M_put_units m v) = M_nodeFrom m ∧ M_nodeTo (M_put_units m v) = M_nodeTo m ∧ M_waits (M_put_units m v) = M_waits m ∧ M_at (M_put_units m v) = M_at m ∧ M_end (M_put_units m v) = M_end m ∧ M_value (M_put_units m v) = M_value m := by simp only [M_put_units, M_code, M_draft, M_size, M_src, M_kept, M_keptSize, M_loaded, M_wrongLine, M_rules, M_heads, M_lengths, M_bodies, M_weights, M_costs, M_symbols, M_names, M_hasText, M_letters, M_text, M_emptySum, M_emptyCost, M_sums, M_least, M_units, M_upTo, M_upToNext, M_rest, M_nodes, M_nodeRule, M_nodeFrom, M_nodeTo, M_waits, M_at, M_end, M_value, and_self]
theorem z9_mp_upTo (m : tM) (v : Nat → Int64) : M_code (M_put_upTo m v) = M_code m ∧ M_draft (M_put_upTo m v) = M_draft m ∧ M_size (M_put_upTo m v) = M_size m ∧ M_src (M_put_upTo m v) = M_src m ∧ M_kept (M_put_upTo m v) = M_kept m ∧ M_keptSize (M_put_upTo m v) = M_keptSize m ∧ M_loaded (M_put_upTo m v) = M_loaded m ∧ M_wrongLine (M_put_upTo m v) = M_wrongLine m ∧ M_rules (M_put_upTo m v) = M_rules m ∧ M_heads (M_put_upTo m v) = M_heads m ∧ M_lengths (M_put_upTo m v) = M_lengths m ∧ M_bodies (M_put_upTo m v) = M_bodies m ∧ M_weights (M_put_upTo m v) = M_weights m ∧ M_costs (M_put_upTo m v) = M_costs m ∧ M_symbols (M_put_upTo m v) = M_symbols m ∧ M_names (M_put_upTo m v) = M_names m ∧ M_hasText (M_put_upTo m v) = M_hasText m ∧ M_letters (M_put_upTo m v) = M_letters m ∧ M_text (M_put_upTo m v) = M_text m ∧ M_emptySum (M_put_upTo m v) = M_emptySum m ∧ M_emptyCost (M_put_upTo m v) = M_emptyCost m ∧ M_sums (M_put_upTo m v) = M_sums m ∧ M_least (M_put_upTo m v) = M_least m ∧ M_units (M_put_upTo m v) = M_units m ∧ M_upTo (M_put_upTo m v) = v ∧ M_upToNext (M_put_upTo m v) = M_upToNext m ∧ M_rest (M_put_upTo m v) = M_rest m ∧ M_nodes (M_put_upTo m v) = M_nodes m ∧ M_nodeRule (M_put_upTo m v) = M_nodeRule m ∧ M_nodeFrom (M_put_upTo m v) = M_nodeFrom m ∧ M_nodeTo (M_put_upTo m v) = M_nodeTo m ∧ M_waits (M_put_upTo m v) = M_waits m ∧ M_at (M_put_upTo m v) = M_at m ∧ M_end (M_put_upTo m v) = M_end m ∧ M_value (M_put_upTo m v) = M_value m := by simp only [M_put_upTo, M_code, M_draft, M_size, M_src, M_kept, M_keptSize, M_loaded, M_wrongLine, M_rules, M_heads, M_lengths, M_bodies, M_weights, M_costs, M_symbols, M_names, M_hasText, M_letters, M_text, M_emptySum, M_emptyCost, M_sums, M_least, M_units, M_upTo, M_upToNext, M_rest, M_nodes, M_nodeRule, M_nodeFrom, M_nodeTo, M_waits, M_at, M_end, M_value, and_self]
theorem z9_mp_upToNext (m : tM) (v : Nat → Int64) : M_code (M_put_upToNext m v) = M_code m ∧ M_draft (M_put_upToNext m v) = M_draft m ∧ M_size (M_put_upToNext m v) = M_size m ∧ M_src (M_put_upToNext m v) = M_src m ∧ M_kept (M_put_upToNext m v) = M_kept m ∧ M_keptSize (M_put_upToNext m v) = M_keptSize m ∧ M_loaded (M_put_upToNext m v) = M_loaded m ∧ M_wrongLine (M_put_upToNext m v) = M_wrongLine m ∧ M_rules (M_put_upToNext m v) = M_rules m ∧ M_heads (M_put_upToNext m v) = M_heads m ∧ M_lengths (M_put_upToNext m v) = M_lengths m ∧ M_bodies (M_put_upToNext m v) = M_bodies m ∧ M_weights (M_put_upToNext m v) = M_weights m ∧ M_costs (M_put_upToNext m v) = M_costs m ∧ M_symbols (M_put_upToNext m v) = M_symbols m ∧ M_names (M_put_upToNext m v) = M_names m ∧ M_hasText (M_put_upToNext m v) = M_hasText m ∧ M_letters (M_put_upToNext m v) = M_letters m ∧ M_text (M_put_upToNext m v) = M_text m ∧ M_emptySum (M_put_upToNext m v) = M_emptySum m ∧ M_emptyCost (M_put_upToNext m v) = M_emptyCost m ∧ M_sums (M_put_upToNext m v) = M_sums m ∧ M_least (M_put_upToNext m v) = M_least m ∧ M_units (M_put_upToNext m v) = M_units m ∧ M_upTo (M_put_upToNext m v) = M_upTo m ∧ M_upToNext (M_put_upToNext m v) = v ∧ M_rest (M_put_upToNext m v) = M_rest m ∧ M_nodes (M_put_upToNext m v) = M_nodes m ∧ M_nodeRule (M_put_upToNext m v) = M_nodeRule m ∧ M_nodeFrom (M_put_upToNext m v) = M_nodeFrom m ∧ M_nodeTo (M_put_upToNext m v) = M_nodeTo m ∧ M_waits (M_put_upToNext m v) = M_waits m ∧ M_at (M_put_upToNext m v) = M_at m ∧ M_end (M_put_upToNext m v) = M_end m ∧ M_value (M_put_upToNext m v) = M_value m := by simp only [M_put_upToNext, M_code, M_draft, M_size, M_src, M_kept, M_keptSize, M_loaded, M_wrongLine, M_rules, M_heads, M_lengths, M_bodies, M_weights, M_costs, M_symbols, M_names, M_hasText, M_letters, M_text, M_emptySum, M_emptyCost, M_sums, M_least, M_units, M_upTo, M_upToNext, M_rest, M_nodes, M_nodeRule, M_nodeFrom, M_nodeTo, M_waits, M_at, M_end, M_value, and_self]
theorem z9_mp_rest (m : tM) (v : Nat → Int32) : M_code (M_put_rest m v) = M_code m ∧ M_draft (M_put_rest m v) = M_draft m ∧ M_size (M_put_rest m v) = M_size m ∧ M_src (M_put_rest m v) = M_src m ∧ M_kept (M_put_rest m v) = M_kept m ∧ M_keptSize (M_put_rest m v) = M_keptSize m ∧ M_loaded (M_put_rest m v) = M_loaded m ∧ M_wrongLine (M_put_rest m v) = M_wrongLine m ∧ M_rules (M_put_rest m v) = M_rules m ∧ M_heads (M_put_rest m v) = M_heads m ∧ M_lengths (M_put_rest m v) = M_lengths m ∧ M_bodies (M_put_rest m v) = M_bodies m ∧ M_weights (M_put_rest m v) = M_weights m ∧ M_costs (M_put_rest m v) = M_costs m ∧ M_symbols (M_put_rest m v) = M_symbols m ∧ M_names (M_put_rest m v) = M_names m ∧ M_hasText (M_put_rest m v) = M_hasText m ∧ M_letters (M_put_rest m v) = M_letters m ∧ M_text (M_put_rest m v) = M_text m ∧ M_emptySum (M_put_rest m v) = M_emptySum m ∧ M_emptyCost (M_put_rest m v) = M_emptyCost m ∧ M_sums (M_put_rest m v) = M_sums m ∧ M_least (M_put_rest m v) = M_least m ∧ M_units (M_put_rest m v) = M_units m ∧ M_upTo (M_put_rest m v) = M_upTo m ∧ M_upToNext (M_put_rest m v) = M_upToNext m ∧ M_rest (M_put_rest m v) = v ∧ M_nodes (M_put_rest m v) = M_nodes m ∧ M_nodeRule (M_put_rest m v) = M_nodeRule m ∧ M_nodeFrom (M_put_rest m v) = M_nodeFrom m ∧ M_nodeTo (M_put_rest m v) = M_nodeTo m ∧ M_waits (M_put_rest m v) = M_waits m ∧ M_at (M_put_rest m v) = M_at m ∧ M_end (M_put_rest m v) = M_end m ∧ M_value (M_put_rest m v) = M_value m := by simp only [M_put_rest, M_code, M_draft, M_size, M_src, M_kept, M_keptSize, M_loaded, M_wrongLine, M_rules, M_heads, M_lengths, M_bodies, M_weights, M_costs, M_symbols, M_names, M_hasText, M_letters, M_text, M_emptySum, M_emptyCost, M_sums, M_least, M_units, M_upTo, M_upToNext, M_rest, M_nodes, M_nodeRule, M_nodeFrom, M_nodeTo, M_waits, M_at, M_end, M_value, and_self]
theorem z9_mp_nodes (m : tM) (v : Int32) : M_code (M_put_nodes m v) = M_code m ∧ M_draft (M_put_nodes m v) = M_draft m ∧ M_size (M_put_nodes m v) = M_size m ∧ M_src (M_put_nodes m v) = M_src m ∧ M_kept (M_put_nodes m v) = M_kept m ∧ M_keptSize (M_put_nodes m v) = M_keptSize m ∧ M_loaded (M_put_nodes m v) = M_loaded m ∧ M_wrongLine (M_put_nodes m v) = M_wrongLine m ∧ M_rules (M_put_nodes m v) = M_rules m ∧ M_heads (M_put_nodes m v) = M_heads m ∧ M_lengths (M_put_nodes m v) = M_lengths m ∧ M_bodies (M_put_nodes m v) = M_bodies m ∧ M_weights (M_put_nodes m v) = M_weights m ∧ M_costs (M_put_nodes m v) = M_costs m ∧ M_symbols (M_put_nodes m v) = M_symbols m ∧ M_names (M_put_nodes m v) = M_names m ∧ M_hasText (M_put_nodes m v) = M_hasText m ∧ M_letters (M_put_nodes m v) = M_letters m ∧ M_text (M_put_nodes m v) = M_text m ∧ M_emptySum (M_put_nodes m v) = M_emptySum m ∧ M_emptyCost (M_put_nodes m v) = M_emptyCost m ∧ M_sums (M_put_nodes m v) = M_sums m ∧ M_least (M_put_nodes m v) = M_least m ∧ M_units (M_put_nodes m v) = M_units m ∧ M_upTo (M_put_nodes m v) = M_upTo m ∧ M_upToNext (M_put_nodes m v) = M_upToNext m ∧ M_rest (M_put_nodes m v) = M_rest m ∧ M_nodes (M_put_nodes m v) = v ∧ M_nodeRule (M_put_nodes m v) = M_nodeRule m ∧ M_nodeFrom (M_put_nodes m v) = M_nodeFrom m ∧ M_nodeTo (M_put_nodes m v) = M_nodeTo m ∧ M_waits (M_put_nodes m v) = M_waits m ∧ M_at (M_put_nodes m v) = M_at m ∧ M_end (M_put_nodes m v) = M_end m ∧ M_value (M_put_nodes m v) = M_value m := by simp only [M_put_nodes, M_code, M_draft, M_size, M_src, M_kept, M_keptSize, M_loaded, M_wrongLine, M_rules, M_heads, M_lengths, M_bodies, M_weights, M_costs, M_symbols, M_names, M_hasText, M_letters, M_text, M_emptySum, M_emptyCost, M_sums, M_least, M_units, M_upTo, M_upToNext, M_rest, M_nodes, M_nodeRule, M_nodeFrom, M_nodeTo, M_waits, M_at, M_end, M_value, and_self]
theorem z9_mp_nodeRule (m : tM) (v : Nat → Int32) : M_code (M_put_nodeRule m v) = M_code m ∧ M_draft (M_put_nodeRule m v) = M_draft m ∧ M_size (M_put_nodeRule m v) = M_size m ∧ M_src (M_put_nodeRule m v) = M_src m ∧ M_kept (M_put_nodeRule m v) = M_kept m ∧ M_keptSize (M_put_nodeRule m v) = M_keptSize m ∧ M_loaded (M_put_nodeRule m v) = M_loaded m ∧ M_wrongLine (M_put_nodeRule m v) = M_wrongLine m ∧ M_rules (M_put_nodeRule m v) = M_rules m ∧ M_heads (M_put_nodeRule m v) = M_heads m ∧ M_lengths (M_put_nodeRule m v) = M_lengths m ∧ M_bodies (M_put_nodeRule m v) = M_bodies m ∧ M_weights (M_put_nodeRule m v) = M_weights m ∧ M_costs (M_put_nodeRule m v) = M_costs m ∧ M_symbols (M_put_nodeRule m v) = M_symbols m ∧ M_names (M_put_nodeRule m v) = M_names m ∧ M_hasText (M_put_nodeRule m v) = M_hasText m ∧ M_letters (M_put_nodeRule m v) = M_letters m ∧ M_text (M_put_nodeRule m v) = M_text m ∧ M_emptySum (M_put_nodeRule m v) = M_emptySum m ∧ M_emptyCost (M_put_nodeRule m v) = M_emptyCost m ∧ M_sums (M_put_nodeRule m v) = M_sums m ∧ M_least (M_put_nodeRule m v) = M_least m ∧ M_units (M_put_nodeRule m v) = M_units m ∧ M_upTo (M_put_nodeRule m v) = M_upTo m ∧ M_upToNext (M_put_nodeRule m v) = M_upToNext m ∧ M_rest (M_put_nodeRule m v) = M_rest m ∧ M_nodes (M_put_nodeRule m v) = M_nodes m ∧ M_nodeRule (M_put_nodeRule m v) = v ∧ M_nodeFrom (M_put_nodeRule m v) = M_nodeFrom m ∧ M_nodeTo (M_put_nodeRule m v) = M_nodeTo m ∧ M_waits (M_put_nodeRule m v) = M_waits m ∧ M_at (M_put_nodeRule m v) = M_at m ∧ M_end (M_put_nodeRule m v) = M_end m ∧ M_value (M_put_nodeRule m v) = M_value m := by simp only [M_put_nodeRule, M_code, M_draft, M_size, M_src, M_kept, M_keptSize, M_loaded, M_wrongLine, M_rules, M_heads, M_lengths, M_bodies, M_weights, M_costs, M_symbols, M_names, M_hasText, M_letters, M_text, M_emptySum, M_emptyCost, M_sums, M_least, M_units, M_upTo, M_upToNext, M_rest, M_nodes, M_nodeRule, M_nodeFrom, M_nodeTo, M_waits, M_at, M_end, M_value, and_self]
theorem z9_mp_nodeFrom (m : tM) (v : Nat → Int32) : M_code (M_put_nodeFrom m v) = M_code m ∧ M_draft (M_put_nodeFrom m v) = M_draft m ∧ M_size (M_put_nodeFrom m v) = M_size m ∧ M_src (M_put_nodeFrom m v) = M_src m ∧ M_kept (M_put_nodeFrom m v) = M_kept m ∧ M_keptSize (M_put_nodeFrom m v) = M_keptSize m ∧ M_loaded (M_put_nodeFrom m v) = M_loaded m ∧ M_wrongLine (M_put_nodeFrom m v) = M_wrongLine m ∧ M_rules (M_put_nodeFrom m v) = M_rules m ∧ M_heads (M_put_nodeFrom m v) = M_heads m ∧ M_lengths (M_put_nodeFrom m v) = M_lengths m ∧ M_bodies (M_put_nodeFrom m v) = M_bodies m ∧ M_weights (M_put_nodeFrom m v) = M_weights m ∧ M_costs (M_put_nodeFrom m v) = M_costs m ∧ M_symbols (M_put_nodeFrom m v) = M_symbols m ∧ M_names (M_put_nodeFrom m v) = M_names m ∧ M_hasText (M_put_nodeFrom m v) = M_hasText m ∧ M_letters (M_put_nodeFrom m v) = M_letters m ∧ M_text (M_put_nodeFrom m v) = M_text m ∧ M_emptySum (M_put_nodeFrom m v) = M_emptySum m ∧ M_emptyCost (M_put_nodeFrom m v) = M_emptyCost m ∧ M_sums (M_put_nodeFrom m v) = M_sums m ∧ M_least (M_put_nodeFrom m v) = M_least m ∧ M_units (M_put_nodeFrom m v) = M_units m ∧ M_upTo (M_put_nodeFrom m v) = M_upTo m ∧ M_upToNext (M_put_nodeFrom m v) = M_upToNext m ∧ M_rest (M_put_nodeFrom m v) = M_rest m ∧ M_nodes (M_put_nodeFrom m v) = M_nodes m ∧ M_nodeRule (M_put_nodeFrom m v) = M_nodeRule m ∧ M_nodeFrom (M_put_nodeFrom m v) = v ∧ M_nodeTo (M_put_nodeFrom m v) = M_nodeTo m ∧ M_waits (M_put_nodeFrom m v) = M_waits m ∧ M_at (M_put_nodeFrom m v) = M_at m ∧ M_end (M_put_nodeFrom m v) = M_end m ∧ M_value (M_put_nodeFrom m v) = M_value m := by simp only [M_put_nodeFrom, M_code, M_draft, M_size, M_src, M_kept, M_keptSize, M_loaded, M_wrongLine, M_rules, M_heads, M_lengths, M_bodies, M_weights, M_costs, M_symbols, M_names, M_hasText, M_letters, M_text, M_emptySum, M_emptyCost, M_sums, M_least, M_units, M_upTo, M_upToNext, M_rest, M_nodes, M_nodeRule, M_nodeFrom, M_nodeTo, M_waits, M_at, M_end, M_value, and_self]
theorem z9_mp_nodeTo (m : tM) (v : Nat → Int32) : M_code (M_put_nodeTo m v) = M_code m ∧ M_draft (M_put_nodeTo m v) = M_draft m ∧ M_size (M_put_nodeTo m v) = M_size m ∧ M_src (M_put_nodeTo m v) = M_src m ∧ M_kept (M_put_nodeTo m v) = M_kept m ∧ M_keptSize (M_put_nodeTo m v) = M_keptSize m ∧ M_loaded (M_put_nodeTo m v) = M_loaded m ∧ M_wrongLine (M_put_nodeTo m v) = M_wrongLine m ∧ M_rules (M_put_nodeTo m v) = M_rules m ∧ M_heads (M_put_nodeTo m v) = M_heads m ∧ M_lengths (M_put_nodeTo m v) = M_lengths m ∧ M_bodies (M_put_nodeTo m v) = M_bodies m ∧ M_weights (M_put_nodeTo m v) = M_weights m ∧ M_costs (M_put_nodeTo m v) = M_costs m ∧ M_symbols (M_put_nodeTo m v) = M_symbols m ∧ M_names (M_put_nodeTo m v) = M_names m ∧ M_hasText (M_put_nodeTo m v) = M_hasText m ∧ M_letters (M_put_nodeTo m v) = M_letters m ∧ M_text (M_put_nodeTo m v) = M_text m ∧ M_emptySum (M_put_nodeTo m v) = M_emptySum m ∧ M_emptyCost (M_put_nodeTo m v) = M_emptyCost m ∧ M_sums (M_put_nodeTo m v) = M_sums m ∧ M_least (M_put_nodeTo m v) = M_least m ∧ M_units (M_put_nodeTo m v) = M_units m ∧ M_upTo (M_put_nodeTo m v) = M_upTo m ∧ M_upToNext (M_put_nodeTo m v) = M_upToNext m ∧ M_rest (M_put_nodeTo m v) = M_rest m ∧ M_nodes (M_put_nodeTo m v) = M_nodes m ∧ M_nodeRule (M_put_nodeTo m v) = M_nodeRule m ∧ M_nodeFrom (M_put_nodeTo m v) = M_nodeFrom m ∧ M_nodeTo (M_put_nodeTo m v) = v ∧ M_waits (M_put_nodeTo m v) = M_waits m ∧ M_at (M_put_nodeTo m v) = M_at m ∧ M_end (M_put_nodeTo m v) = M_end m ∧ M_value (M_put_nodeTo m v) = M_value m := by simp only [M_put_nodeTo, M_code, M_draft, M_size, M_src, M_kept, M_keptSize, M_loaded, M_wrongLine, M_rules, M_heads, M_lengths, M_bodies, M_weights, M_costs, M_symbols, M_names, M_hasText, M_letters, M_text, M_emptySum, M_emptyCost, M_sums, M_least, M_units, M_upTo, M_upToNext, M_rest, M_nodes, M_nodeRule, M_nodeFrom, M_nodeTo, M_waits, M_at, M_end, M_value, and_self]
theorem z9_mp_waits (m : tM) (v : Nat → Int32) : M_code (M_put_waits m v) = M_code m ∧ M_draft (M_put_waits m v) = M_draft m ∧ M_size (M_put_waits m v) = M_size m ∧ M_src (M_put_waits m v) = M_src m ∧ M_kept (M_put_waits m v) = M_kept m ∧ M_keptSize (M_put_waits m v) = M_keptSize m ∧ M_loaded (M_put_waits m v) = M_loaded m ∧ M_wrongLine (M_put_waits m v) = M_wrongLine m ∧ M_rules (M_put_waits m v) = M_rules m ∧ M_heads (M_put_waits m v) = M_heads m ∧ M_lengths (M_put_waits m v) = M_lengths m ∧ M_bodies (M_put_waits m v) = M_bodies m ∧ M_weights (M_put_waits m v) = M_weights m ∧ M_costs (M_put_waits m v) = M_costs m ∧ M_symbols (M_put_waits m v) = M_symbols m ∧ M_names (M_put_waits m v) = M_names m ∧ M_hasText (M_put_waits m v) = M_hasText m ∧ M_letters (M_put_waits m v) = M_letters m ∧ M_text (M_put_waits m v) = M_text m ∧ M_emptySum (M_put_waits m v) = M_emptySum m ∧ M_emptyCost (M_put_waits m v) = M_emptyCost m ∧ M_sums (M_put_waits m v) = M_sums m ∧ M_least (M_put_waits m v) = M_least m ∧ M_units (M_put_waits m v) = M_units m ∧ M_upTo (M_put_waits m v) = M_upTo m ∧ M_upToNext (M_put_waits m v) = M_upToNext m ∧ M_rest (M_put_waits m v) = M_rest m ∧ M_nodes (M_put_waits m v) = M_nodes m ∧ M_nodeRule (M_put_waits m v) = M_nodeRule m ∧ M_nodeFrom (M_put_waits m v) = M_nodeFrom m ∧ M_nodeTo (M_put_waits m v) = M_nodeTo m ∧ M_waits (M_put_waits m v) = v ∧ M_at (M_put_waits m v) = M_at m ∧ M_end (M_put_waits m v) = M_end m ∧ M_value (M_put_waits m v) = M_value m := by simp only [M_put_waits, M_code, M_draft, M_size, M_src, M_kept, M_keptSize, M_loaded, M_wrongLine, M_rules, M_heads, M_lengths, M_bodies, M_weights, M_costs, M_symbols, M_names, M_hasText, M_letters, M_text, M_emptySum, M_emptyCost, M_sums, M_least, M_units, M_upTo, M_upToNext, M_rest, M_nodes, M_nodeRule, M_nodeFrom, M_nodeTo, M_waits, M_at, M_end, M_value, and_self]
theorem z9_mp_at (m : tM) (v : Int32) : M_code (M_put_at m v) = M_code m ∧ M_draft (M_put_at m v) = M_draft m ∧ M_size (M_put_at m v) = M_size m ∧ M_src (M_put_at m v) = M_src m ∧ M_kept (M_put_at m v) = M_kept m ∧ M_keptSize (M_put_at m v) = M_keptSize m ∧ M_loaded (M_put_at m v) = M_loaded m ∧ M_wrongLine (M_put_at m v) = M_wrongLine m ∧ M_rules (M_put_at m v) = M_rules m ∧ M_heads (M_put_at m v) = M_heads m ∧ M_lengths (M_put_at m v) = M_lengths m ∧ M_bodies (M_put_at m v) = M_bodies m ∧ M_weights (M_put_at m v) = M_weights m ∧ M_costs (M_put_at m v) = M_costs m ∧ M_symbols (M_put_at m v) = M_symbols m ∧ M_names (M_put_at m v) = M_names m ∧ M_hasText (M_put_at m v) = M_hasText m ∧ M_letters (M_put_at m v) = M_letters m ∧ M_text (M_put_at m v) = M_text m ∧ M_emptySum (M_put_at m v) = M_emptySum m ∧ M_emptyCost (M_put_at m v) = M_emptyCost m ∧ M_sums (M_put_at m v) = M_sums m ∧ M_least (M_put_at m v) = M_least m ∧ M_units (M_put_at m v) = M_units m ∧ M_upTo (M_put_at m v) = M_upTo m ∧ M_upToNext (M_put_at m v) = M_upToNext m ∧ M_rest (M_put_at m v) = M_rest m ∧ M_nodes (M_put_at m v) = M_nodes m ∧ M_nodeRule (M_put_at m v) = M_nodeRule m ∧ M_nodeFrom (M_put_at m v) = M_nodeFrom m ∧ M_nodeTo (M_put_at m v) = M_nodeTo m ∧ M_waits (M_put_at m v) = M_waits m ∧ M_at (M_put_at m v) = v ∧ M_end (M_put_at m v) = M_end m ∧ M_value (M_put_at m v) = M_value m := by simp only [M_put_at, M_code, M_draft, M_size, M_src, M_kept, M_keptSize, M_loaded, M_wrongLine, M_rules, M_heads, M_lengths, M_bodies, M_weights, M_costs, M_symbols, M_names, M_hasText, M_letters, M_text, M_emptySum, M_emptyCost, M_sums, M_least, M_units, M_upTo, M_upToNext, M_rest, M_nodes, M_nodeRule, M_nodeFrom, M_nodeTo, M_waits, M_at, M_end, M_value, and_self]
theorem z9_mp_end (m : tM) (v : Int32) : M_code (M_put_end m v) = M_code m ∧ M_draft (M_put_end m v) = M_draft m ∧ M_size (M_put_end m v) = M_size m ∧ M_src (M_put_end m v) = M_src m ∧ M_kept (M_put_end m v) = M_kept m ∧ M_keptSize (M_put_end m v) = M_keptSize m ∧ M_loaded (M_put_end m v) = M_loaded m ∧ M_wrongLine (M_put_end m v) = M_wrongLine m ∧ M_rules (M_put_end m v) = M_rules m ∧ M_heads (M_put_end m v) = M_heads m ∧ M_lengths (M_put_end m v) = M_lengths m ∧ M_bodies (M_put_end m v) = M_bodies m ∧ M_weights (M_put_end m v) = M_weights m ∧ M_costs (M_put_end m v) = M_costs m ∧ M_symbols (M_put_end m v) = M_symbols m ∧ M_names (M_put_end m v) = M_names m ∧ M_hasText (M_put_end m v) = M_hasText m ∧ M_letters (M_put_end m v) = M_letters m ∧ M_text (M_put_end m v) = M_text m ∧ M_emptySum (M_put_end m v) = M_emptySum m ∧ M_emptyCost (M_put_end m v) = M_emptyCost m ∧ M_sums (M_put_end m v) = M_sums m ∧ M_least (M_put_end m v) = M_least m ∧ M_units (M_put_end m v) = M_units m ∧ M_upTo (M_put_end m v) = M_upTo m ∧ M_upToNext (M_put_end m v) = M_upToNext m ∧ M_rest (M_put_end m v) = M_rest m ∧ M_nodes (M_put_end m v) = M_nodes m ∧ M_nodeRule (M_put_end m v) = M_nodeRule m ∧ M_nodeFrom (M_put_end m v) = M_nodeFrom m ∧ M_nodeTo (M_put_end m v) = M_nodeTo m ∧ M_waits (M_put_end m v) = M_waits m ∧ M_at (M_put_end m v) = M_at m ∧ M_end (M_put_end m v) = v ∧ M_value (M_put_end m v) = M_value m := by simp only [M_put_end, M_code, M_draft, M_size, M_src, M_kept, M_keptSize, M_loaded, M_wrongLine, M_rules, M_heads, M_lengths, M_bodies, M_weights, M_costs, M_symbols, M_names, M_hasText, M_letters, M_text, M_emptySum, M_emptyCost, M_sums, M_least, M_units, M_upTo, M_upToNext, M_rest, M_nodes, M_nodeRule, M_nodeFrom, M_nodeTo, M_waits, M_at, M_end, M_value, and_self]
theorem z9_mp_value (m : tM) (v : Int32) : M_code (M_put_value m v) = M_code m ∧ M_draft (M_put_value m v) = M_draft m ∧ M_size (M_put_value m v) = M_size m ∧ M_src (M_put_value m v) = M_src m ∧ M_kept (M_put_value m v) = M_kept m ∧ M_keptSize (M_put_value m v) = M_keptSize m ∧ M_loaded (M_put_value m v) = M_loaded m ∧ M_wrongLine (M_put_value m v) = M_wrongLine m ∧ M_rules (M_put_value m v) = M_rules m ∧ M_heads (M_put_value m v) = M_heads m ∧ M_lengths (M_put_value m v) = M_lengths m ∧ M_bodies (M_put_value m v) = M_bodies m ∧ M_weights (M_put_value m v) = M_weights m ∧ M_costs (M_put_value m v) = M_costs m ∧ M_symbols (M_put_value m v) = M_symbols m ∧ M_names (M_put_value m v) = M_names m ∧ M_hasText (M_put_value m v) = M_hasText m ∧ M_letters (M_put_value m v) = M_letters m ∧ M_text (M_put_value m v) = M_text m ∧ M_emptySum (M_put_value m v) = M_emptySum m ∧ M_emptyCost (M_put_value m v) = M_emptyCost m ∧ M_sums (M_put_value m v) = M_sums m ∧ M_least (M_put_value m v) = M_least m ∧ M_units (M_put_value m v) = M_units m ∧ M_upTo (M_put_value m v) = M_upTo m ∧ M_upToNext (M_put_value m v) = M_upToNext m ∧ M_rest (M_put_value m v) = M_rest m ∧ M_nodes (M_put_value m v) = M_nodes m ∧ M_nodeRule (M_put_value m v) = M_nodeRule m ∧ M_nodeFrom (M_put_value m v) = M_nodeFrom m ∧ M_nodeTo (M_put_value m v) = M_nodeTo m ∧ M_waits (M_put_value m v) = M_waits m ∧ M_at (M_put_value m v) = M_at m ∧ M_end (M_put_value m v) = M_end m ∧ M_value (M_put_value m v) = v := by simp only [M_put_value, M_code, M_draft, M_size, M_src, M_kept, M_keptSize, M_loaded, M_wrongLine, M_rules, M_heads, M_lengths, M_bodies, M_weights, M_costs, M_symbols, M_names, M_hasText, M_letters, M_text, M_emptySum, M_emptyCost, M_sums, M_least, M_units, M_upTo, M_upToNext, M_rest, M_nodes, M_nodeRule, M_nodeFrom, M_nodeTo, M_waits, M_at, M_end, M_value, and_self]
def z9_bG (m : tM) : (Int32) × (Int32) × (Nat → Int32) × (Nat → Int32) × (Nat → Int32) × (Nat → Int64) × (Nat → Int32) × (Nat → Int32) := (M_rules m, M_symbols m, M_heads m, M_lengths m, M_bodies m, M_weights m, M_costs m, M_names m)
theorem z9_fG (m : tM) : (∀ v, z9_bG (M_put_code m v) = z9_bG m) ∧ (∀ v, z9_bG (M_put_draft m v) = z9_bG m) ∧ (∀ v, z9_bG (M_put_size m v) = z9_bG m) ∧ (∀ v, z9_bG (M_put_src m v) = z9_bG m) ∧ (∀ v, z9_bG (M_put_kept m v) = z9_bG m) ∧ (∀ v, z9_bG (M_put_keptSize m v) = z9_bG m) ∧ (∀ v, z9_bG (M_put_loaded m v) = z9_bG m) ∧ (∀ v, z9_bG (M_put_wrongLine m v) = z9_bG m) ∧ (∀ v, z9_bG (M_put_hasText m v) = z9_bG m) ∧ (∀ v, z9_bG (M_put_letters m v) = z9_bG m) ∧ (∀ v, z9_bG (M_put_text m v) = z9_bG m) ∧ (∀ v, z9_bG (M_put_emptySum m v) = z9_bG m) ∧ (∀ v, z9_bG (M_put_emptyCost m v) = z9_bG m) ∧ (∀ v, z9_bG (M_put_sums m v) = z9_bG m) ∧ (∀ v, z9_bG (M_put_least m v) = z9_bG m) ∧ (∀ v, z9_bG (M_put_units m v) = z9_bG m) ∧ (∀ v, z9_bG (M_put_upTo m v) = z9_bG m) ∧ (∀ v, z9_bG (M_put_upToNext m v) = z9_bG m) ∧ (∀ v, z9_bG (M_put_rest m v) = z9_bG m) ∧ (∀ v, z9_bG (M_put_nodes m v) = z9_bG m) ∧ (∀ v, z9_bG (M_put_nodeRule m v) = z9_bG m) ∧ (∀ v, z9_bG (M_put_nodeFrom m v) = z9_bG m) ∧ (∀ v, z9_bG (M_put_nodeTo m v) = z9_bG m) ∧ (∀ v, z9_bG (M_put_waits m v) = z9_bG m) ∧ (∀ v, z9_bG (M_put_at m v) = z9_bG m) ∧ (∀ v, z9_bG (M_put_end m v) = z9_bG m) ∧ (∀ v, z9_bG (M_put_value m v) = z9_bG m) := by simp only [z9_bG, z9_mp_code, z9_mp_draft, z9_mp_size, z9_mp_src, z9_mp_kept, z9_mp_keptSize, z9_mp_loaded, z9_mp_wrongLine, z9_mp_hasText, z9_mp_letters, z9_mp_text, z9_mp_emptySum, z9_mp_emptyCost, z9_mp_sums, z9_mp_least, z9_mp_units, z9_mp_upTo, z9_mp_upToNext, z9_mp_rest, z9_mp_nodes, z9_mp_nodeRule, z9_mp_nodeFrom, z9_mp_nodeTo, z9_mp_waits, z9_mp_at, z9_mp_end, z9_mp_value, implies_true, and_self]
def z9_bE (m : tM) : (Nat → Int64) × (Nat → Int32) := (M_emptySum m, M_emptyCost m)
theorem z9_fE (m : tM) : (∀ v, z9_bE (M_put_code m v) = z9_bE m) ∧ (∀ v, z9_bE (M_put_draft m v) = z9_bE m) ∧ (∀ v, z9_bE (M_put_size m v) = z9_bE m) ∧ (∀ v, z9_bE (M_put_src m v) = z9_bE m) ∧ (∀ v, z9_bE (M_put_kept m v) = z9_bE m) ∧ (∀ v, z9_bE (M_put_keptSize m v) = z9_bE m) ∧ (∀ v, z9_bE (M_put_loaded m v) = z9_bE m) ∧ (∀ v, z9_bE (M_put_wrongLine m v) = z9_bE m) ∧ (∀ v, z9_bE (M_put_rules m v) = z9_bE m) ∧ (∀ v, z9_bE (M_put_heads m v) = z9_bE m) ∧ (∀ v, z9_bE (M_put_lengths m v) = z9_bE m) ∧ (∀ v, z9_bE (M_put_bodies m v) = z9_bE m) ∧ (∀ v, z9_bE (M_put_weights m v) = z9_bE m) ∧ (∀ v, z9_bE (M_put_costs m v) = z9_bE m) ∧ (∀ v, z9_bE (M_put_symbols m v) = z9_bE m) ∧ (∀ v, z9_bE (M_put_names m v) = z9_bE m) ∧ (∀ v, z9_bE (M_put_hasText m v) = z9_bE m) ∧ (∀ v, z9_bE (M_put_letters m v) = z9_bE m) ∧ (∀ v, z9_bE (M_put_text m v) = z9_bE m) ∧ (∀ v, z9_bE (M_put_sums m v) = z9_bE m) ∧ (∀ v, z9_bE (M_put_least m v) = z9_bE m) ∧ (∀ v, z9_bE (M_put_units m v) = z9_bE m) ∧ (∀ v, z9_bE (M_put_upTo m v) = z9_bE m) ∧ (∀ v, z9_bE (M_put_upToNext m v) = z9_bE m) ∧ (∀ v, z9_bE (M_put_rest m v) = z9_bE m) ∧ (∀ v, z9_bE (M_put_nodes m v) = z9_bE m) ∧ (∀ v, z9_bE (M_put_nodeRule m v) = z9_bE m) ∧ (∀ v, z9_bE (M_put_nodeFrom m v) = z9_bE m) ∧ (∀ v, z9_bE (M_put_nodeTo m v) = z9_bE m) ∧ (∀ v, z9_bE (M_put_waits m v) = z9_bE m) ∧ (∀ v, z9_bE (M_put_at m v) = z9_bE m) ∧ (∀ v, z9_bE (M_put_end m v) = z9_bE m) ∧ (∀ v, z9_bE (M_put_value m v) = z9_bE m) := by simp only [z9_bE, z9_mp_code, z9_mp_draft, z9_mp_size, z9_mp_src, z9_mp_kept, z9_mp_keptSize, z9_mp_loaded, z9_mp_wrongLine, z9_mp_rules, z9_mp_heads, z9_mp_lengths, z9_mp_bodies, z9_mp_weights, z9_mp_costs, z9_mp_symbols, z9_mp_names, z9_mp_hasText, z9_mp_letters, z9_mp_text, z9_mp_sums, z9_mp_least, z9_mp_units, z9_mp_upTo, z9_mp_upToNext, z9_mp_rest, z9_mp_nodes, z9_mp_nodeRule, z9_mp_nodeFrom, z9_mp_nodeTo, z9_mp_waits, z9_mp_at, z9_mp_end, z9_mp_value, implies_true, and_self]
def z9_bU (m : tM) : (Nat → Int64) := (M_units m)
theorem z9_fU (m : tM) : (∀ v, z9_bU (M_put_code m v) = z9_bU m) ∧ (∀ v, z9_bU (M_put_draft m v) = z9_bU m) ∧ (∀ v, z9_bU (M_put_size m v) = z9_bU m) ∧ (∀ v, z9_bU (M_put_src m v) = z9_bU m) ∧ (∀ v, z9_bU (M_put_kept m v) = z9_bU m) ∧ (∀ v, z9_bU (M_put_keptSize m v) = z9_bU m) ∧ (∀ v, z9_bU (M_put_loaded m v) = z9_bU m) ∧ (∀ v, z9_bU (M_put_wrongLine m v) = z9_bU m) ∧ (∀ v, z9_bU (M_put_rules m v) = z9_bU m) ∧ (∀ v, z9_bU (M_put_heads m v) = z9_bU m) ∧ (∀ v, z9_bU (M_put_lengths m v) = z9_bU m) ∧ (∀ v, z9_bU (M_put_bodies m v) = z9_bU m) ∧ (∀ v, z9_bU (M_put_weights m v) = z9_bU m) ∧ (∀ v, z9_bU (M_put_costs m v) = z9_bU m) ∧ (∀ v, z9_bU (M_put_symbols m v) = z9_bU m) ∧ (∀ v, z9_bU (M_put_names m v) = z9_bU m) ∧ (∀ v, z9_bU (M_put_hasText m v) = z9_bU m) ∧ (∀ v, z9_bU (M_put_letters m v) = z9_bU m) ∧ (∀ v, z9_bU (M_put_text m v) = z9_bU m) ∧ (∀ v, z9_bU (M_put_emptySum m v) = z9_bU m) ∧ (∀ v, z9_bU (M_put_emptyCost m v) = z9_bU m) ∧ (∀ v, z9_bU (M_put_sums m v) = z9_bU m) ∧ (∀ v, z9_bU (M_put_least m v) = z9_bU m) ∧ (∀ v, z9_bU (M_put_upTo m v) = z9_bU m) ∧ (∀ v, z9_bU (M_put_upToNext m v) = z9_bU m) ∧ (∀ v, z9_bU (M_put_rest m v) = z9_bU m) ∧ (∀ v, z9_bU (M_put_nodes m v) = z9_bU m) ∧ (∀ v, z9_bU (M_put_nodeRule m v) = z9_bU m) ∧ (∀ v, z9_bU (M_put_nodeFrom m v) = z9_bU m) ∧ (∀ v, z9_bU (M_put_nodeTo m v) = z9_bU m) ∧ (∀ v, z9_bU (M_put_waits m v) = z9_bU m) ∧ (∀ v, z9_bU (M_put_at m v) = z9_bU m) ∧ (∀ v, z9_bU (M_put_end m v) = z9_bU m) ∧ (∀ v, z9_bU (M_put_value m v) = z9_bU m) := by simp only [z9_bU, z9_mp_code, z9_mp_draft, z9_mp_size, z9_mp_src, z9_mp_kept, z9_mp_keptSize, z9_mp_loaded, z9_mp_wrongLine, z9_mp_rules, z9_mp_heads, z9_mp_lengths, z9_mp_bodies, z9_mp_weights, z9_mp_costs, z9_mp_symbols, z9_mp_names, z9_mp_hasText, z9_mp_letters, z9_mp_text, z9_mp_emptySum, z9_mp_emptyCost, z9_mp_sums, z9_mp_least, z9_mp_upTo, z9_mp_upToNext, z9_mp_rest, z9_mp_nodes, z9_mp_nodeRule, z9_mp_nodeFrom, z9_mp_nodeTo, z9_mp_waits, z9_mp_at, z9_mp_end, z9_mp_value, implies_true, and_self]
def z9_bX (m : tM) : (Int32) × (Int32) × (Nat → Int32) := (M_hasText m, M_letters m, M_text m)
theorem z9_fX (m : tM) : (∀ v, z9_bX (M_put_code m v) = z9_bX m) ∧ (∀ v, z9_bX (M_put_draft m v) = z9_bX m) ∧ (∀ v, z9_bX (M_put_size m v) = z9_bX m) ∧ (∀ v, z9_bX (M_put_src m v) = z9_bX m) ∧ (∀ v, z9_bX (M_put_kept m v) = z9_bX m) ∧ (∀ v, z9_bX (M_put_keptSize m v) = z9_bX m) ∧ (∀ v, z9_bX (M_put_loaded m v) = z9_bX m) ∧ (∀ v, z9_bX (M_put_wrongLine m v) = z9_bX m) ∧ (∀ v, z9_bX (M_put_rules m v) = z9_bX m) ∧ (∀ v, z9_bX (M_put_heads m v) = z9_bX m) ∧ (∀ v, z9_bX (M_put_lengths m v) = z9_bX m) ∧ (∀ v, z9_bX (M_put_bodies m v) = z9_bX m) ∧ (∀ v, z9_bX (M_put_weights m v) = z9_bX m) ∧ (∀ v, z9_bX (M_put_costs m v) = z9_bX m) ∧ (∀ v, z9_bX (M_put_symbols m v) = z9_bX m) ∧ (∀ v, z9_bX (M_put_names m v) = z9_bX m) ∧ (∀ v, z9_bX (M_put_emptySum m v) = z9_bX m) ∧ (∀ v, z9_bX (M_put_emptyCost m v) = z9_bX m) ∧ (∀ v, z9_bX (M_put_sums m v) = z9_bX m) ∧ (∀ v, z9_bX (M_put_least m v) = z9_bX m) ∧ (∀ v, z9_bX (M_put_units m v) = z9_bX m) ∧ (∀ v, z9_bX (M_put_upTo m v) = z9_bX m) ∧ (∀ v, z9_bX (M_put_upToNext m v) = z9_bX m) ∧ (∀ v, z9_bX (M_put_rest m v) = z9_bX m) ∧ (∀ v, z9_bX (M_put_nodes m v) = z9_bX m) ∧ (∀ v, z9_bX (M_put_nodeRule m v) = z9_bX m) ∧ (∀ v, z9_bX (M_put_nodeFrom m v) = z9_bX m) ∧ (∀ v, z9_bX (M_put_nodeTo m v) = z9_bX m) ∧ (∀ v, z9_bX (M_put_waits m v) = z9_bX m) ∧ (∀ v, z9_bX (M_put_at m v) = z9_bX m) ∧ (∀ v, z9_bX (M_put_end m v) = z9_bX m) ∧ (∀ v, z9_bX (M_put_value m v) = z9_bX m) := by simp only [z9_bX, z9_mp_code, z9_mp_draft, z9_mp_size, z9_mp_src, z9_mp_kept, z9_mp_keptSize, z9_mp_loaded, z9_mp_wrongLine, z9_mp_rules, z9_mp_heads, z9_mp_lengths, z9_mp_bodies, z9_mp_weights, z9_mp_costs, z9_mp_symbols, z9_mp_names, z9_mp_emptySum, z9_mp_emptyCost, z9_mp_sums, z9_mp_least, z9_mp_units, z9_mp_upTo, z9_mp_upToNext, z9_mp_rest, z9_mp_nodes, z9_mp_nodeRule, z9_mp_nodeFrom, z9_mp_nodeTo, z9_mp_waits, z9_mp_at, z9_mp_end, z9_mp_value, implies_true, and_self]
def z9_bC (m : tM) : (Nat → Int64) × (Nat → Int32) := (M_sums m, M_least m)
theorem z9_fC (m : tM) : (∀ v, z9_bC (M_put_code m v) = z9_bC m) ∧ (∀ v, z9_bC (M_put_draft m v) = z9_bC m) ∧ (∀ v, z9_bC (M_put_size m v) = z9_bC m) ∧ (∀ v, z9_bC (M_put_src m v) = z9_bC m) ∧ (∀ v, z9_bC (M_put_kept m v) = z9_bC m) ∧ (∀ v, z9_bC (M_put_keptSize m v) = z9_bC m) ∧ (∀ v, z9_bC (M_put_loaded m v) = z9_bC m) ∧ (∀ v, z9_bC (M_put_wrongLine m v) = z9_bC m) ∧ (∀ v, z9_bC (M_put_rules m v) = z9_bC m) ∧ (∀ v, z9_bC (M_put_heads m v) = z9_bC m) ∧ (∀ v, z9_bC (M_put_lengths m v) = z9_bC m) ∧ (∀ v, z9_bC (M_put_bodies m v) = z9_bC m) ∧ (∀ v, z9_bC (M_put_weights m v) = z9_bC m) ∧ (∀ v, z9_bC (M_put_costs m v) = z9_bC m) ∧ (∀ v, z9_bC (M_put_symbols m v) = z9_bC m) ∧ (∀ v, z9_bC (M_put_names m v) = z9_bC m) ∧ (∀ v, z9_bC (M_put_hasText m v) = z9_bC m) ∧ (∀ v, z9_bC (M_put_letters m v) = z9_bC m) ∧ (∀ v, z9_bC (M_put_text m v) = z9_bC m) ∧ (∀ v, z9_bC (M_put_emptySum m v) = z9_bC m) ∧ (∀ v, z9_bC (M_put_emptyCost m v) = z9_bC m) ∧ (∀ v, z9_bC (M_put_units m v) = z9_bC m) ∧ (∀ v, z9_bC (M_put_upTo m v) = z9_bC m) ∧ (∀ v, z9_bC (M_put_upToNext m v) = z9_bC m) ∧ (∀ v, z9_bC (M_put_rest m v) = z9_bC m) ∧ (∀ v, z9_bC (M_put_nodes m v) = z9_bC m) ∧ (∀ v, z9_bC (M_put_nodeRule m v) = z9_bC m) ∧ (∀ v, z9_bC (M_put_nodeFrom m v) = z9_bC m) ∧ (∀ v, z9_bC (M_put_nodeTo m v) = z9_bC m) ∧ (∀ v, z9_bC (M_put_waits m v) = z9_bC m) ∧ (∀ v, z9_bC (M_put_at m v) = z9_bC m) ∧ (∀ v, z9_bC (M_put_end m v) = z9_bC m) ∧ (∀ v, z9_bC (M_put_value m v) = z9_bC m) := by simp only [z9_bC, z9_mp_code, z9_mp_draft, z9_mp_size, z9_mp_src, z9_mp_kept, z9_mp_keptSize, z9_mp_loaded, z9_mp_wrongLine, z9_mp_rules, z9_mp_heads, z9_mp_lengths, z9_mp_bodies, z9_mp_weights, z9_mp_costs, z9_mp_symbols, z9_mp_names, z9_mp_hasText, z9_mp_letters, z9_mp_text, z9_mp_emptySum, z9_mp_emptyCost, z9_mp_units, z9_mp_upTo, z9_mp_upToNext, z9_mp_rest, z9_mp_nodes, z9_mp_nodeRule, z9_mp_nodeFrom, z9_mp_nodeTo, z9_mp_waits, z9_mp_at, z9_mp_end, z9_mp_value, implies_true, and_self]
def z9_bK (m : tM) : (Nat → Int32) × (Int32) × (Int32) := (M_kept m, M_keptSize m, M_loaded m)
theorem z9_fK (m : tM) : (∀ v, z9_bK (M_put_code m v) = z9_bK m) ∧ (∀ v, z9_bK (M_put_draft m v) = z9_bK m) ∧ (∀ v, z9_bK (M_put_size m v) = z9_bK m) ∧ (∀ v, z9_bK (M_put_src m v) = z9_bK m) ∧ (∀ v, z9_bK (M_put_wrongLine m v) = z9_bK m) ∧ (∀ v, z9_bK (M_put_rules m v) = z9_bK m) ∧ (∀ v, z9_bK (M_put_heads m v) = z9_bK m) ∧ (∀ v, z9_bK (M_put_lengths m v) = z9_bK m) ∧ (∀ v, z9_bK (M_put_bodies m v) = z9_bK m) ∧ (∀ v, z9_bK (M_put_weights m v) = z9_bK m) ∧ (∀ v, z9_bK (M_put_costs m v) = z9_bK m) ∧ (∀ v, z9_bK (M_put_symbols m v) = z9_bK m) ∧ (∀ v, z9_bK (M_put_names m v) = z9_bK m) ∧ (∀ v, z9_bK (M_put_hasText m v) = z9_bK m) ∧ (∀ v, z9_bK (M_put_letters m v) = z9_bK m) ∧ (∀ v, z9_bK (M_put_text m v) = z9_bK m) ∧ (∀ v, z9_bK (M_put_emptySum m v) = z9_bK m) ∧ (∀ v, z9_bK (M_put_emptyCost m v) = z9_bK m) ∧ (∀ v, z9_bK (M_put_sums m v) = z9_bK m) ∧ (∀ v, z9_bK (M_put_least m v) = z9_bK m) ∧ (∀ v, z9_bK (M_put_units m v) = z9_bK m) ∧ (∀ v, z9_bK (M_put_upTo m v) = z9_bK m) ∧ (∀ v, z9_bK (M_put_upToNext m v) = z9_bK m) ∧ (∀ v, z9_bK (M_put_rest m v) = z9_bK m) ∧ (∀ v, z9_bK (M_put_nodes m v) = z9_bK m) ∧ (∀ v, z9_bK (M_put_nodeRule m v) = z9_bK m) ∧ (∀ v, z9_bK (M_put_nodeFrom m v) = z9_bK m) ∧ (∀ v, z9_bK (M_put_nodeTo m v) = z9_bK m) ∧ (∀ v, z9_bK (M_put_waits m v) = z9_bK m) ∧ (∀ v, z9_bK (M_put_at m v) = z9_bK m) ∧ (∀ v, z9_bK (M_put_end m v) = z9_bK m) ∧ (∀ v, z9_bK (M_put_value m v) = z9_bK m) := by simp only [z9_bK, z9_mp_code, z9_mp_draft, z9_mp_size, z9_mp_src, z9_mp_wrongLine, z9_mp_rules, z9_mp_heads, z9_mp_lengths, z9_mp_bodies, z9_mp_weights, z9_mp_costs, z9_mp_symbols, z9_mp_names, z9_mp_hasText, z9_mp_letters, z9_mp_text, z9_mp_emptySum, z9_mp_emptyCost, z9_mp_sums, z9_mp_least, z9_mp_units, z9_mp_upTo, z9_mp_upToNext, z9_mp_rest, z9_mp_nodes, z9_mp_nodeRule, z9_mp_nodeFrom, z9_mp_nodeTo, z9_mp_waits, z9_mp_at, z9_mp_end, z9_mp_value, implies_true, and_self]
def z9_bD (m : tM) : (Nat → Int32) × (Int32) := (M_draft m, M_size m)
theorem z9_fD (m : tM) : (∀ v, z9_bD (M_put_code m v) = z9_bD m) ∧ (∀ v, z9_bD (M_put_src m v) = z9_bD m) ∧ (∀ v, z9_bD (M_put_kept m v) = z9_bD m) ∧ (∀ v, z9_bD (M_put_keptSize m v) = z9_bD m) ∧ (∀ v, z9_bD (M_put_loaded m v) = z9_bD m) ∧ (∀ v, z9_bD (M_put_wrongLine m v) = z9_bD m) ∧ (∀ v, z9_bD (M_put_rules m v) = z9_bD m) ∧ (∀ v, z9_bD (M_put_heads m v) = z9_bD m) ∧ (∀ v, z9_bD (M_put_lengths m v) = z9_bD m) ∧ (∀ v, z9_bD (M_put_bodies m v) = z9_bD m) ∧ (∀ v, z9_bD (M_put_weights m v) = z9_bD m) ∧ (∀ v, z9_bD (M_put_costs m v) = z9_bD m) ∧ (∀ v, z9_bD (M_put_symbols m v) = z9_bD m) ∧ (∀ v, z9_bD (M_put_names m v) = z9_bD m) ∧ (∀ v, z9_bD (M_put_hasText m v) = z9_bD m) ∧ (∀ v, z9_bD (M_put_letters m v) = z9_bD m) ∧ (∀ v, z9_bD (M_put_text m v) = z9_bD m) ∧ (∀ v, z9_bD (M_put_emptySum m v) = z9_bD m) ∧ (∀ v, z9_bD (M_put_emptyCost m v) = z9_bD m) ∧ (∀ v, z9_bD (M_put_sums m v) = z9_bD m) ∧ (∀ v, z9_bD (M_put_least m v) = z9_bD m) ∧ (∀ v, z9_bD (M_put_units m v) = z9_bD m) ∧ (∀ v, z9_bD (M_put_upTo m v) = z9_bD m) ∧ (∀ v, z9_bD (M_put_upToNext m v) = z9_bD m) ∧ (∀ v, z9_bD (M_put_rest m v) = z9_bD m) ∧ (∀ v, z9_bD (M_put_nodes m v) = z9_bD m) ∧ (∀ v, z9_bD (M_put_nodeRule m v) = z9_bD m) ∧ (∀ v, z9_bD (M_put_nodeFrom m v) = z9_bD m) ∧ (∀ v, z9_bD (M_put_nodeTo m v) = z9_bD m) ∧ (∀ v, z9_bD (M_put_waits m v) = z9_bD m) ∧ (∀ v, z9_bD (M_put_at m v) = z9_bD m) ∧ (∀ v, z9_bD (M_put_end m v) = z9_bD m) ∧ (∀ v, z9_bD (M_put_value m v) = z9_bD m) := by simp only [z9_bD, z9_mp_code, z9_mp_src, z9_mp_kept, z9_mp_keptSize, z9_mp_loaded, z9_mp_wrongLine, z9_mp_rules, z9_mp_heads, z9_mp_lengths, z9_mp_bodies, z9_mp_weights, z9_mp_costs, z9_mp_symbols, z9_mp_names, z9_mp_hasText, z9_mp_letters, z9_mp_text, z9_mp_emptySum, z9_mp_emptyCost, z9_mp_sums, z9_mp_least, z9_mp_units, z9_mp_upTo, z9_mp_upToNext, z9_mp_rest, z9_mp_nodes, z9_mp_nodeRule, z9_mp_nodeFrom, z9_mp_nodeTo, z9_mp_waits, z9_mp_at, z9_mp_end, z9_mp_value, implies_true, and_self]
def z9_bN (m : tM) : (Int32) × (Nat → Int32) × (Nat → Int32) × (Nat → Int32) := (M_nodes m, M_nodeRule m, M_nodeFrom m, M_nodeTo m)
theorem z9_fN (m : tM) : (∀ v, z9_bN (M_put_code m v) = z9_bN m) ∧ (∀ v, z9_bN (M_put_draft m v) = z9_bN m) ∧ (∀ v, z9_bN (M_put_size m v) = z9_bN m) ∧ (∀ v, z9_bN (M_put_src m v) = z9_bN m) ∧ (∀ v, z9_bN (M_put_kept m v) = z9_bN m) ∧ (∀ v, z9_bN (M_put_keptSize m v) = z9_bN m) ∧ (∀ v, z9_bN (M_put_loaded m v) = z9_bN m) ∧ (∀ v, z9_bN (M_put_wrongLine m v) = z9_bN m) ∧ (∀ v, z9_bN (M_put_rules m v) = z9_bN m) ∧ (∀ v, z9_bN (M_put_heads m v) = z9_bN m) ∧ (∀ v, z9_bN (M_put_lengths m v) = z9_bN m) ∧ (∀ v, z9_bN (M_put_bodies m v) = z9_bN m) ∧ (∀ v, z9_bN (M_put_weights m v) = z9_bN m) ∧ (∀ v, z9_bN (M_put_costs m v) = z9_bN m) ∧ (∀ v, z9_bN (M_put_symbols m v) = z9_bN m) ∧ (∀ v, z9_bN (M_put_names m v) = z9_bN m) ∧ (∀ v, z9_bN (M_put_hasText m v) = z9_bN m) ∧ (∀ v, z9_bN (M_put_letters m v) = z9_bN m) ∧ (∀ v, z9_bN (M_put_text m v) = z9_bN m) ∧ (∀ v, z9_bN (M_put_emptySum m v) = z9_bN m) ∧ (∀ v, z9_bN (M_put_emptyCost m v) = z9_bN m) ∧ (∀ v, z9_bN (M_put_sums m v) = z9_bN m) ∧ (∀ v, z9_bN (M_put_least m v) = z9_bN m) ∧ (∀ v, z9_bN (M_put_units m v) = z9_bN m) ∧ (∀ v, z9_bN (M_put_upTo m v) = z9_bN m) ∧ (∀ v, z9_bN (M_put_upToNext m v) = z9_bN m) ∧ (∀ v, z9_bN (M_put_rest m v) = z9_bN m) ∧ (∀ v, z9_bN (M_put_waits m v) = z9_bN m) ∧ (∀ v, z9_bN (M_put_at m v) = z9_bN m) ∧ (∀ v, z9_bN (M_put_end m v) = z9_bN m) ∧ (∀ v, z9_bN (M_put_value m v) = z9_bN m) := by simp only [z9_bN, z9_mp_code, z9_mp_draft, z9_mp_size, z9_mp_src, z9_mp_kept, z9_mp_keptSize, z9_mp_loaded, z9_mp_wrongLine, z9_mp_rules, z9_mp_heads, z9_mp_lengths, z9_mp_bodies, z9_mp_weights, z9_mp_costs, z9_mp_symbols, z9_mp_names, z9_mp_hasText, z9_mp_letters, z9_mp_text, z9_mp_emptySum, z9_mp_emptyCost, z9_mp_sums, z9_mp_least, z9_mp_units, z9_mp_upTo, z9_mp_upToNext, z9_mp_rest, z9_mp_waits, z9_mp_at, z9_mp_end, z9_mp_value, implies_true, and_self]
def z9_bW (m : tM) : (Int32) := (M_wrongLine m)
theorem z9_fW (m : tM) : (∀ v, z9_bW (M_put_code m v) = z9_bW m) ∧ (∀ v, z9_bW (M_put_draft m v) = z9_bW m) ∧ (∀ v, z9_bW (M_put_size m v) = z9_bW m) ∧ (∀ v, z9_bW (M_put_src m v) = z9_bW m) ∧ (∀ v, z9_bW (M_put_kept m v) = z9_bW m) ∧ (∀ v, z9_bW (M_put_keptSize m v) = z9_bW m) ∧ (∀ v, z9_bW (M_put_loaded m v) = z9_bW m) ∧ (∀ v, z9_bW (M_put_rules m v) = z9_bW m) ∧ (∀ v, z9_bW (M_put_heads m v) = z9_bW m) ∧ (∀ v, z9_bW (M_put_lengths m v) = z9_bW m) ∧ (∀ v, z9_bW (M_put_bodies m v) = z9_bW m) ∧ (∀ v, z9_bW (M_put_weights m v) = z9_bW m) ∧ (∀ v, z9_bW (M_put_costs m v) = z9_bW m) ∧ (∀ v, z9_bW (M_put_symbols m v) = z9_bW m) ∧ (∀ v, z9_bW (M_put_names m v) = z9_bW m) ∧ (∀ v, z9_bW (M_put_hasText m v) = z9_bW m) ∧ (∀ v, z9_bW (M_put_letters m v) = z9_bW m) ∧ (∀ v, z9_bW (M_put_text m v) = z9_bW m) ∧ (∀ v, z9_bW (M_put_emptySum m v) = z9_bW m) ∧ (∀ v, z9_bW (M_put_emptyCost m v) = z9_bW m) ∧ (∀ v, z9_bW (M_put_sums m v) = z9_bW m) ∧ (∀ v, z9_bW (M_put_least m v) = z9_bW m) ∧ (∀ v, z9_bW (M_put_units m v) = z9_bW m) ∧ (∀ v, z9_bW (M_put_upTo m v) = z9_bW m) ∧ (∀ v, z9_bW (M_put_upToNext m v) = z9_bW m) ∧ (∀ v, z9_bW (M_put_rest m v) = z9_bW m) ∧ (∀ v, z9_bW (M_put_nodes m v) = z9_bW m) ∧ (∀ v, z9_bW (M_put_nodeRule m v) = z9_bW m) ∧ (∀ v, z9_bW (M_put_nodeFrom m v) = z9_bW m) ∧ (∀ v, z9_bW (M_put_nodeTo m v) = z9_bW m) ∧ (∀ v, z9_bW (M_put_waits m v) = z9_bW m) ∧ (∀ v, z9_bW (M_put_at m v) = z9_bW m) ∧ (∀ v, z9_bW (M_put_end m v) = z9_bW m) ∧ (∀ v, z9_bW (M_put_value m v) = z9_bW m) := by simp only [z9_bW, z9_mp_code, z9_mp_draft, z9_mp_size, z9_mp_src, z9_mp_kept, z9_mp_keptSize, z9_mp_loaded, z9_mp_rules, z9_mp_heads, z9_mp_lengths, z9_mp_bodies, z9_mp_weights, z9_mp_costs, z9_mp_symbols, z9_mp_names, z9_mp_hasText, z9_mp_letters, z9_mp_text, z9_mp_emptySum, z9_mp_emptyCost, z9_mp_sums, z9_mp_least, z9_mp_units, z9_mp_upTo, z9_mp_upToNext, z9_mp_rest, z9_mp_nodes, z9_mp_nodeRule, z9_mp_nodeFrom, z9_mp_nodeTo, z9_mp_waits, z9_mp_at, z9_mp_end, z9_mp_value, implies_true, and_self]
theorem z9_gt (x0 : Nat → Int32) (x1 : Nat → Int32) (x2 : Nat → Int32) (x3 : Nat → Int64) (x4 : Nat → Int32) (x5 : Nat → Int32) (x6 : Nat → Int32) (x7 : Int32) (x8 : Int32) (x9 : Nat → Int32) : G_heads (x0, x1, x2, x3, x4, x5, x6, x7, x8, x9) = x0 ∧ G_bodies (x0, x1, x2, x3, x4, x5, x6, x7, x8, x9) = x1 ∧ G_bodyLengths (x0, x1, x2, x3, x4, x5, x6, x7, x8, x9) = x2 ∧ G_weights (x0, x1, x2, x3, x4, x5, x6, x7, x8, x9) = x3 ∧ G_costs (x0, x1, x2, x3, x4, x5, x6, x7, x8, x9) = x4 ∧ G_capitals (x0, x1, x2, x3, x4, x5, x6, x7, x8, x9) = x5 ∧ G_order (x0, x1, x2, x3, x4, x5, x6, x7, x8, x9) = x6 ∧ G_ruleCount (x0, x1, x2, x3, x4, x5, x6, x7, x8, x9) = x7 ∧ G_nonterminalCount (x0, x1, x2, x3, x4, x5, x6, x7, x8, x9) = x8 ∧ G_reached (x0, x1, x2, x3, x4, x5, x6, x7, x8, x9) = x9 := by simp only [G_heads, G_bodies, G_bodyLengths, G_weights, G_costs, G_capitals, G_order, G_ruleCount, G_nonterminalCount, G_reached, and_self]
theorem z9_ct (x0 : Nat → Int64) (x1 : Nat → Int32) (x2 : Nat → Int32) (x3 : Nat → Int32) (x4 : Nat → Int32) (x5 : Nat → Int32) (x6 : Int32) (x7 : Nat → Nat → Int64) (x8 : Nat → Nat → Int32) (x9 : Nat → Nat → Int32) : C_sums (x0, x1, x2, x3, x4, x5, x6, x7, x8, x9) = x0 ∧ C_costs (x0, x1, x2, x3, x4, x5, x6, x7, x8, x9) = x1 ∧ C_rules (x0, x1, x2, x3, x4, x5, x6, x7, x8, x9) = x2 ∧ C_sizes (x0, x1, x2, x3, x4, x5, x6, x7, x8, x9) = x3 ∧ C_lengths (x0, x1, x2, x3, x4, x5, x6, x7, x8, x9) = x4 ∧ C_letters (x0, x1, x2, x3, x4, x5, x6, x7, x8, x9) = x5 ∧ C_textLength (x0, x1, x2, x3, x4, x5, x6, x7, x8, x9) = x6 ∧ C_restSums (x0, x1, x2, x3, x4, x5, x6, x7, x8, x9) = x7 ∧ C_restCosts (x0, x1, x2, x3, x4, x5, x6, x7, x8, x9) = x8 ∧ C_restLengths (x0, x1, x2, x3, x4, x5, x6, x7, x8, x9) = x9 := by simp only [C_sums, C_costs, C_rules, C_sizes, C_lengths, C_letters, C_textLength, C_restSums, C_restCosts, C_restLengths, and_self]
theorem z9_tt (x0 : Nat → Int32) (x1 : Nat → Int32) (x2 : Nat → Int32) (x3 : Nat → Int32) (x4 : Int32) : T_rules (x0, x1, x2, x3, x4) = x0 ∧ T_starts (x0, x1, x2, x3, x4) = x1 ∧ T_ends (x0, x1, x2, x3, x4) = x2 ∧ T_symbols (x0, x1, x2, x3, x4) = x3 ∧ T_nodeCount (x0, x1, x2, x3, x4) = x4 := by simp only [T_rules, T_starts, T_ends, T_symbols, T_nodeCount, and_self]
theorem z9_dt (x0 : Nat → Int32) (x1 : Int32) : D_characters (x0, x1) = x0 ∧ D_length (x0, x1) = x1 := by simp only [D_characters, D_length, and_self]
theorem z9_rt (x0 : Int32) (x1 : Int32) : R_at (x0, x1) = x0 ∧ R_end (x0, x1) = x1 := by simp only [R_at, R_end, and_self]
def z9_pDR (d : tD) (dr : Nat → Int32) (n : Nat) : Prop := n ≤ 300 ∧ D_length d = z9_i32 n ∧ ∀ k, k < n → D_characters d k = dr k ∧ ∃ c, (c = 10 ∨ (32 ≤ c ∧ c ≤ 126)) ∧ dr k = z9_i32 c
def z9_pcode (v : Int64) (k : Int32) : Int32 := ((((v.toUInt64 >>> (((8 : Int32) * k).toInt64.toUInt64 &&& Int64.toUInt64 63)).toInt64) &&& (255 : Int64)).toInt32)
def z9_pok (x : Int32) : Prop := x = 10 ∨ (¬ x < 32 ∧ ¬ 126 < x)
theorem z9_pok_of {x : Int32} (h : z9_pok x) : ∃ c, (c = 10 ∨ (32 ≤ c ∧ c ≤ 126)) ∧ x = z9_i32 c := by
  rcases h with h | ⟨h1, h2⟩
  · exact ⟨10, Or.inl rfl, h⟩
  · have h0 : 0 ≤ x := by
      simp only [Int32.le_iff_toInt_le, Int32.lt_iff_toInt_lt] at *
      have e1 : (32 : Int32).toInt = 32 := by decide
      have e2 : (0 : Int32).toInt = 0 := by decide
      omega
    obtain ⟨n, hn, rfl⟩ := z9_i32_of h0
    refine ⟨n, Or.inr ?_, rfl⟩
    rw [z9_i32_lit, z9_i32_lt hn (by decide)] at h1
    rw [z9_i32_lit, z9_i32_lt (by decide) hn] at h2
    omega
theorem z9_pF_isAllowed (x : Int32) : (z9_pok x → F_Dr_isAllowed x = some 1) ∧ (¬ z9_pok x → F_Dr_isAllowed x = some 0) := by
  unfold F_Dr_isAllowed z9_pok rn_bl
  constructor <;> intro h <;> simp only [Option.bind] <;> grind
theorem z9_pch {c : Nat} (h : c ≤ 126) : rn_ch (((z9_i32 c).toUInt32 % 65536).toInt32) = z9_i32 c := by
  have : ∀ c : Fin 127, rn_ch (((z9_i32 c.1).toUInt32 % 65536).toInt32) = z9_i32 c.1 := by decide
  exact this ⟨c, by omega⟩
theorem z9_pL28 (d : tD) (v : Int64) (w : Nat) (hw : w ≤ 8) : ((∀ k, k < w → z9_pok (z9_pcode v (z9_i32 k))) ∧ F_Dr_append_L28 d (z9_i32 w) v rn_fu 0 = some (.inr ())) ∨ ((¬ ∀ k, k < w → z9_pok (z9_pcode v (z9_i32 k))) ∧ F_Dr_append_L28 d (z9_i32 w) v rn_fu 0 = some (.inl (0, d))) := by
  refine z9_forU (L := fun n (_ : Unit) k => F_Dr_append_L28 d (z9_i32 w) v n k) (Q := fun o => ((∀ k, k < w → z9_pok (z9_pcode v (z9_i32 k))) ∧ o = some (.inr ())) ∨ ((¬ ∀ k, k < w → z9_pok (z9_pcode v (z9_i32 k))) ∧ o = some (.inl (0, d)))) (P := fun k _ => ∀ l, l < k → z9_pok (z9_pcode v (z9_i32 l))) (K := w) 0 () (by omega) (by omega) (by intro l hl; omega) ?_ ?_
  · intro n _ hP
    refine Or.inl ⟨hP, ?_⟩
    simp only [F_Dr_append_L28, Int32.le_refl, if_true]
  · intro n _ k hk hP
    have hle : ¬ z9_i32 w ≤ z9_i32 k := by rw [z9_i32_le (by omega) (by omega)]; omega
    have hc : F_Dr_codeAt v (z9_i32 k) = some (z9_pcode v (z9_i32 k)) := rfl
    by_cases ho : z9_pok (z9_pcode v (z9_i32 k))
    · refine Or.inl ⟨(), ?_, by grind⟩
      simp [F_Dr_append_L28, hle, hc, (z9_pF_isAllowed _).1 ho]
    · refine Or.inr (Or.inr ⟨fun h => ho (h k hk), ?_⟩)
      simp [F_Dr_append_L28, hle, hc, (z9_pF_isAllowed _).2 ho]
theorem z9_pL36 (v : Int64) (w : Nat) (hw : w ≤ 8) : ((∀ k, k < w → z9_pok (z9_pcode v (z9_i32 k))) ∧ F_Md_put_L36 (z9_i32 w) v rn_fu 1 0 = some 1) ∨ ((¬ ∀ k, k < w → z9_pok (z9_pcode v (z9_i32 k))) ∧ F_Md_put_L36 (z9_i32 w) v rn_fu 1 0 = some 0) := by
  refine z9_forU (L := fun n (g : Int32) k => F_Md_put_L36 (z9_i32 w) v n g k) (Q := fun o => ((∀ k, k < w → z9_pok (z9_pcode v (z9_i32 k))) ∧ o = some 1) ∨ ((¬ ∀ k, k < w → z9_pok (z9_pcode v (z9_i32 k))) ∧ o = some 0)) (P := fun k g => ((∀ l, l < k → z9_pok (z9_pcode v (z9_i32 l))) ∧ g = 1) ∨ ((¬ ∀ k, k < w → z9_pok (z9_pcode v (z9_i32 k))) ∧ g = 0)) (K := w) 0 1 (by omega) (by omega) (Or.inl ⟨by intro l hl; omega, rfl⟩) ?_ ?_
  · intro n g hP
    simp only [F_Md_put_L36, Int32.le_refl, if_true]
    rcases hP with ⟨h, rfl⟩ | ⟨h, rfl⟩
    · exact Or.inl ⟨h, rfl⟩
    · exact Or.inr ⟨h, rfl⟩
  · intro n g k hk hP
    have hle : ¬ z9_i32 w ≤ z9_i32 k := by rw [z9_i32_le (by omega) (by omega)]; omega
    have hpc : z9_pcode v (z9_i32 k) = ((((v.toUInt64 >>> (((8 : Int32) * (z9_i32 k)).toInt64.toUInt64 &&& Int64.toUInt64 63)).toInt64) &&& (255 : Int64)).toInt32) := rfl
    refine Or.inl ?_
    simp only [F_Md_put_L36, if_neg hle, ← hpc]
    rcases hP with ⟨h, rfl⟩ | ⟨h, rfl⟩
    · by_cases ho : z9_pok (z9_pcode v (z9_i32 k))
      · refine ⟨1, ?_, Or.inl ⟨by grind, rfl⟩⟩
        unfold z9_pok at ho
        grind
      · refine ⟨0, ?_, Or.inr ⟨fun h => ho (h k hk), rfl⟩⟩
        unfold z9_pok at ho
        grind
    · refine ⟨0, ?_, Or.inr ⟨h, rfl⟩⟩
      rw [if_pos rfl]; rfl
theorem z9_pDR_app {d : tD} {dr : Nat → Int32} {n c : Nat} (h : z9_pDR d dr n) (hn : n < 300) (hc : c = 10 ∨ (32 ≤ c ∧ c ≤ 126)) : z9_pDR (fun j => if j = n then z9_i32 c else D_characters d j, D_length d + 1) (fun j => if j = n then z9_i32 c else dr j) (n + 1) := by
  obtain ⟨h1, h2, h3⟩ := h
  refine ⟨by omega, ?_, ?_⟩
  · show D_length d + 1 = _
    rw [h2]; exact z9_i32_add n 1
  · intro k hk
    show (if k = n then z9_i32 c else D_characters d k) = (if k = n then z9_i32 c else dr k) ∧ _
    by_cases hkn : k = n
    · simp only [hkn, if_true]
      exact ⟨trivial, c, hc, rfl⟩
    · simp only [hkn, if_false]
      exact h3 k (by omega)
def z9_mFr0 (m m' : tM) : Prop := z9_bG m' = z9_bG m ∧ z9_bE m' = z9_bE m ∧ z9_bU m' = z9_bU m ∧ z9_bX m' = z9_bX m ∧ z9_bC m' = z9_bC m ∧ z9_bK m' = z9_bK m ∧ z9_bN m' = z9_bN m ∧ z9_bW m' = z9_bW m
theorem z9_mFr0_rfl (m : tM) : z9_mFr0 m m := ⟨rfl, rfl, rfl, rfl, rfl, rfl, rfl, rfl⟩
theorem z9_mFr0_code (m m' : tM) (v : Int32) : z9_mFr0 m (M_put_code m' v) = z9_mFr0 m m' := by
  simp only [z9_mFr0, z9_fG, z9_fE, z9_fU, z9_fX, z9_fC, z9_fK, z9_fN, z9_fW]
theorem z9_mFr0_ds (m m' : tM) (f : Nat → Int32) (v : Int32) : z9_mFr0 m (M_put_size (M_put_draft m' f) v) = z9_mFr0 m m' := by
  simp only [z9_mFr0, z9_fG, z9_fE, z9_fU, z9_fX, z9_fC, z9_fK, z9_fN, z9_fW]
theorem z9_pL59 (v : Int64) (w : Nat) (d : tD) (m : tM) (n : Nat) (hw : n + w ≤ 300) (hok : ∀ k, k < w → z9_pok (z9_pcode v (z9_i32 k))) (hd : z9_pDR d (M_draft m) n) (hs : M_size m = z9_i32 n) :
    ∃ d' m', F_Dr_append_L59 v rn_fu d (z9_i32 w - 1) = some d' ∧ F_Md_put_L100 v 1 rn_fu m (z9_i32 w - 1) = some m' ∧ z9_pDR d' (M_draft m') (n + w) ∧ M_size m' = z9_i32 (n + w) ∧ z9_mFr0 m m' := by
  refine z9_forD (L := fun n (st : tD × tM) k => (F_Dr_append_L59 v n st.1 k, F_Md_put_L100 v 1 n st.2 k)) (Q := fun o => ∃ d' m', o.1 = some d' ∧ o.2 = some m' ∧ z9_pDR d' (M_draft m') (n + w) ∧ M_size m' = z9_i32 (n + w) ∧ z9_mFr0 m m') (P := fun k st => k ≤ w ∧ z9_pDR st.1 (M_draft st.2) (n + (w - k)) ∧ M_size st.2 = z9_i32 (n + (w - k)) ∧ z9_mFr0 m st.2) w (d, m) (by omega) ?_ ?_ ?_
  · rw [Nat.sub_self, Nat.add_zero]
    exact ⟨Nat.le_refl _, hd, hs, z9_mFr0_rfl m⟩
  · intro f st hP
    exact ⟨st.1, st.2, rfl, rfl, hP.2.1, hP.2.2.1, hP.2.2.2⟩
  · intro f st k hP
    obtain ⟨hk, h2, h1, h3⟩ := hP
    left
    obtain ⟨c, hc, hx⟩ := z9_pok_of (hok k (by omega))
    have hn : n + (w - (k + 1)) < 300 := by omega
    refine ⟨((fun j => if j = n + (w - (k + 1)) then z9_i32 c else D_characters st.1 j, D_length st.1 + 1), M_put_size (M_put_draft st.2 (fun j => if j = n + (w - (k + 1)) then z9_i32 c else M_draft st.2 j)) (M_size st.2 + 1)), ?_, ⟨by omega, ?_, ?_, ?_⟩⟩
    · have hz : ¬ (z9_i32 k < 0) := by rw [z9_i32_n0 (by omega)]; exact id
      have hcd : F_Dr_codeAt v (z9_i32 k) = some (z9_pcode v (z9_i32 k)) := rfl
      have hdl := h2.2.1
      have hpc : ((((v.toUInt64 >>> (((8 : Int32) * (z9_i32 k)).toInt64.toUInt64 &&& Int64.toUInt64 63)).toInt64) &&& (255 : Int64)).toInt32) = z9_i32 c := hx
      have h10 : ¬ (1 : Int32) = 0 := by decide
      simp only [F_Dr_append_L59, F_Md_put_L100, if_neg hz, if_neg h10, hcd, Option.bind_some, h1, hdl, hx, hpc, z9_aS_i hn (by decide), z9_pch (show c ≤ 126 by omega), z9_mp_draft]
    · have e : n + (w - k) = n + (w - (k + 1)) + 1 := by omega
      simp only [z9_mp_draft, z9_mp_size]
      rw [e]
      exact z9_pDR_app h2 hn hc
    · have e : n + (w - k) = n + (w - (k + 1)) + 1 := by omega
      simp only [z9_mp_size]
      rw [h1, e]; exact z9_i32_add _ 1
    · simp only [z9_mFr0_ds]; exact h3
theorem z9_p_put {d : tD} {m : tM} {n : Nat} (v0 : Int32) (v1 : Int64) (hd : z9_pDR d (M_draft m) n) (hs : M_size m = z9_i32 n) :
    ∃ r d' m' n', F_Wt_put d v0 v1 = some (r, d') ∧ F_Md_put m v0 v1 = some (r, m') ∧ z9_pDR d' (M_draft m') n' ∧ M_size m' = z9_i32 n' ∧ z9_mFr0 m m' := by
  have hd0 : z9_pDR d (M_draft (M_put_code m 0)) n := by simp only [z9_mp_code]; exact hd
  have hs0 : M_size (M_put_code m 0) = z9_i32 n := by simp only [z9_mp_code]; exact hs
  have hf0 : z9_mFr0 m (M_put_code m 0) := by rw [z9_mFr0_code]; exact z9_mFr0_rfl m
  have h0 : F_Wt_put d v0 v1 = (F_Dr_append d v0 v1).bind fun (x2, d3) => (rn_bl x2).bind fun y5 => some (y5, d3) := rfl
  by_cases h1 : v0 < 1
  · refine ⟨0, d, M_put_code m 0, n, ?_, ?_, hd0, hs0, hf0⟩
    · rw [h0]; unfold F_Dr_append; rw [if_pos h1]; rfl
    · unfold F_Md_put; rw [if_pos h1]
  by_cases h2 : 8 < v0
  · refine ⟨0, d, M_put_code m 0, n, ?_, ?_, hd0, hs0, hf0⟩
    · rw [h0]; unfold F_Dr_append; rw [if_neg h1, if_pos h2]; rfl
    · unfold F_Md_put; rw [if_neg h1, if_pos h2]
  have hp : 0 ≤ v0 := by
    simp only [Int32.le_iff_toInt_le, Int32.lt_iff_toInt_lt] at *
    have e1 : (1 : Int32).toInt = 1 := by decide
    have e2 : (0 : Int32).toInt = 0 := by decide
    omega
  obtain ⟨w, hw, rfl⟩ := z9_i32_of hp
  have hw8 : w ≤ 8 := by
    rw [z9_i32_lit, z9_i32_lt (by decide) hw] at h2
    exact Nat.not_lt.mp h2
  have hn := hd.1
  by_cases h3 : n + w ≤ 300
  · have c1 : D_length d + z9_i32 w ≤ 300 := by
      rw [hd.2.1, z9_i32_add, z9_i32_lit, z9_i32_le (by omega) (by decide)]; exact h3
    have c2 : M_size (M_put_code m 0) + z9_i32 w ≤ 300 := by
      rw [hs0, z9_i32_add, z9_i32_lit, z9_i32_le (by omega) (by decide)]; exact h3
    rcases z9_pL28 d v1 w hw8 with ⟨ha, e1⟩ | ⟨ha, e1⟩
    · rcases z9_pL36 v1 w hw8 with ⟨_, e2⟩ | ⟨hb, _⟩
      · obtain ⟨d', m', q1, q2, q3, q4, q5⟩ := z9_pL59 v1 w d (M_put_code m 0) n h3 ha hd0 hs0
        refine ⟨1, d', m', n + w, ?_, ?_, q3, q4, ?_⟩
        · rw [h0]; unfold F_Dr_append; rw [if_neg h1, if_neg h2, if_pos c1, e1]
          simp only [Option.bind_some]; rw [q1]; rfl
        · unfold F_Md_put; rw [if_neg h1, if_neg h2, if_pos c2, e2]
          simp only [Option.bind_some]; rw [q2]; rfl
        · simp only [z9_mFr0, z9_fG, z9_fE, z9_fU, z9_fX, z9_fC, z9_fK, z9_fN, z9_fW] at q5 ⊢; exact q5
      · exact absurd ha hb
    · rcases z9_pL36 v1 w hw8 with ⟨hb, _⟩ | ⟨_, e2⟩
      · exact absurd hb ha
      · refine ⟨0, d, M_put_code m 0, n, ?_, ?_, hd0, hs0, hf0⟩
        · rw [h0]; unfold F_Dr_append; rw [if_neg h1, if_neg h2, if_pos c1, e1]; rfl
        · unfold F_Md_put; rw [if_neg h1, if_neg h2, if_pos c2, e2]
          have : ∀ n, F_Md_put_L100 v1 0 (n + 1) (M_put_code m 0) (z9_i32 w - 1) = some (M_put_code m 0) := by
            intro n
            simp only [F_Md_put_L100, if_true]
            split <;> rfl
          have := this 999999
          simp only [Option.bind_some]
          rw [show F_Md_put_L100 v1 0 rn_fu (M_put_code m 0) (z9_i32 w - 1) = some (M_put_code m 0) from this]; rfl
  · have c1 : ¬ D_length d + z9_i32 w ≤ 300 := by
      rw [hd.2.1, z9_i32_add, z9_i32_lit, z9_i32_le (by omega) (by decide)]; exact h3
    have c2 : ¬ M_size (M_put_code m 0) + z9_i32 w ≤ 300 := by
      rw [hs0, z9_i32_add, z9_i32_lit, z9_i32_le (by omega) (by decide)]; exact h3
    refine ⟨0, d, M_put_code m 0, n, ?_, ?_, hd0, hs0, hf0⟩
    · rw [h0]; unfold F_Dr_append; rw [if_neg h1, if_neg h2, if_neg c1]; rfl
    · unfold F_Md_put; rw [if_neg h1, if_neg h2, if_neg c2]
def z9_rCF (d : tD) (n : Nat) (cf : Nat → Nat) : Prop := n ≤ 300 ∧ D_length d = z9_i32 n ∧ ∀ k, k < n → D_characters d k = z9_i32 (cf k) ∧ cf k ≤ 126
def z9_rSF (sr : Nat → Int32) (n : Nat) (cf : Nat → Nat) : Prop := ∀ k, k < n → sr k = z9_i32 (cf k)
def z9_b01 (p : Prop) [Decidable p] : Int32 := if p then 1 else 0
theorem z9_b01_bl (p : Prop) [Decidable p] : rn_bl (z9_b01 p) = some (z9_b01 p) := by
  unfold z9_b01 rn_bl; split <;> rfl
theorem z9_b01_0 (p : Prop) [Decidable p] : (z9_b01 p = 0) = ¬ p := by
  unfold z9_b01; split <;> simp_all
theorem z9_r_cap {c : Nat} (h : c < 2147483648) : F_Wt_isCapital (z9_i32 c) = some (z9_b01 (65 ≤ c ∧ c ≤ 90)) := by
  unfold F_Wt_isCapital rn_bl z9_b01
  simp only [z9_i32_lit, z9_i32_lt h (show 65 < 2147483648 by decide), z9_i32_lt (show 90 < 2147483648 by decide) h]
  by_cases h1 : c < 65 <;> by_cases h2 : 90 < c <;> simp [h1, h2] <;> grind
theorem z9_r_capM {c : Nat} (h : c < 2147483648) : F_Md_isCapital (z9_i32 c) = some (z9_b01 (65 ≤ c ∧ c ≤ 90)) := z9_r_cap h
theorem z9_r_small {c : Nat} (h : c < 2147483648) : F_Wt_isSmallLetter (z9_i32 c) = some (z9_b01 (97 ≤ c ∧ c ≤ 122)) := by
  unfold F_Wt_isSmallLetter rn_bl z9_b01
  simp only [z9_i32_lit, z9_i32_lt h (show 97 < 2147483648 by decide), z9_i32_lt (show 122 < 2147483648 by decide) h]
  by_cases h1 : c < 97 <;> by_cases h2 : 122 < c <;> simp [h1, h2] <;> grind
theorem z9_r_smallM {c : Nat} (h : c < 2147483648) : F_Md_isSmall (z9_i32 c) = some (z9_b01 (97 ≤ c ∧ c ≤ 122)) := z9_r_small h
theorem z9_r_seen {d : tD} {n : Nat} {cf : Nat → Nat} (hd : z9_rCF d n cf) {p e : Nat} (he : e ≤ n) (hp : p ≤ 400) : F_Rd_seen d (z9_i32 p, z9_i32 e) = some (if p < e then z9_i32 (cf p) else -1) := by
  unfold F_Rd_seen
  have := hd.1
  simp only [z9_rt, z9_i32_le (show e < 2147483648 by omega) (show p < 2147483648 by omega)]
  by_cases h : p < e
  · rw [if_neg (by omega), if_pos h, z9_aG_i (by omega) (by decide), (hd.2.2 p (by omega)).1]; rfl
  · rw [if_pos (by omega), if_neg h]; rfl
theorem z9_r_skip {d : tD} {n : Nat} {cf : Nat → Nat} (hd : z9_rCF d n cf) {p e v : Nat} (he : e ≤ n) (hp : p ≤ 400) (hv : v < 2147483648) : F_Rd_skip d (z9_i32 p, z9_i32 e) (z9_i32 v) = some (if p < e ∧ cf p = v then (1, (z9_i32 (p + 1), z9_i32 e)) else (0, (z9_i32 p, z9_i32 e))) := by
  have hn := hd.1
  unfold F_Rd_skip F_Rd_sees
  rw [z9_r_seen hd he hp]
  by_cases h : p < e
  · have hc := (hd.2.2 p (by omega)).2
    simp only [if_pos h, Option.bind_some, z9_i32_inj (show cf p < 2147483648 by omega) hv]
    by_cases h2 : cf p = v
    · rw [if_neg (by simp [h2]), if_pos ⟨h, h2⟩]
      simp only [Option.bind_some, z9_rt, show (1 : Int32) = z9_i32 1 from rfl, z9_i32_add]; rfl
    · rw [if_pos h2, if_neg (by simp [h2])]; rfl
  · simp only [if_neg h, Option.bind_some]
    rw [if_pos (by rw [eq_comm, z9_i32_m1 hv]; exact id), if_neg (by simp [h])]; rfl
theorem z9_r_next {m : tM} {n : Nat} {cf : Nat → Nat} (hm : z9_rSF (M_src m) n cf) (hn : n ≤ 300) (hc : ∀ k, k < n → cf k ≤ 126) {p e v : Nat} (hp : M_at m = z9_i32 p) (hE : M_end m = z9_i32 e) (he : e ≤ n) (hp4 : p ≤ 400) (hv : v < 2147483648) : F_Md_next m (z9_i32 v) = some (if p < e ∧ cf p = v then (1, M_put_at m (z9_i32 (p + 1))) else (0, M_put_at m (z9_i32 p))) := by
  unfold F_Md_next
  simp only [hp, hE, z9_i32_le (show e < 2147483648 by omega) (show p < 2147483648 by omega)]
  by_cases h : p < e
  · have hc := hc p (by omega)
    rw [if_neg (by omega), z9_aG_i (by omega) (by decide), hm p (by omega)]
    simp only [Option.bind_some, z9_i32_inj (show cf p < 2147483648 by omega) hv]
    by_cases h2 : cf p = v
    · simp only [h2, not_true, if_false, h, and_self, if_true, Option.bind_some]
      rw [if_neg (by decide), show z9_i32 p + 1 = z9_i32 (p + 1) from z9_i32_add p 1]; rfl
    · simp only [h2, not_false_iff, if_true, and_false, if_false, Option.bind_some]; rfl
  · rw [if_pos (by omega), if_neg (by simp [h])]; rfl
def z9_fig (cf : Nat → Nat) (p e : Nat) : Prop := p < e ∧ 48 ≤ cf p ∧ cf p ≤ 57
theorem z9_r_isFig {m : tM} {n : Nat} {cf : Nat → Nat} (hm : z9_rSF (M_src m) n cf) (hn : n ≤ 300) (hc : ∀ k, k < n → cf k ≤ 126) {p e : Nat} (hp : M_at m = z9_i32 p) (hE : M_end m = z9_i32 e) (he : e ≤ n) (hp4 : p ≤ 400) : (z9_fig cf p e → F_Md_isFigure m = some 1) ∧ (¬ z9_fig cf p e → F_Md_isFigure m = some 0) := by
  unfold F_Md_isFigure z9_fig
  simp only [hp, hE, z9_i32_le (show e < 2147483648 by omega) (show p < 2147483648 by omega)]
  by_cases h : p < e
  · have hc := hc p (by omega)
    rw [if_neg (by omega), z9_aG_i (by omega) (by decide), hm p (by omega)]
    simp only [Option.bind_some, show (48 : Int32) = z9_i32 48 from rfl, show (57 : Int32) = z9_i32 57 from rfl, z9_i32_lt (show cf p < 2147483648 by omega) (show 48 < 2147483648 by decide), z9_i32_lt (show 57 < 2147483648 by decide) (show cf p < 2147483648 by omega)]
    by_cases h2 : cf p < 48 <;> by_cases h3 : 57 < cf p <;> simp [h2, h3, rn_bl, h] <;> omega
  · rw [if_pos (by omega)]
    constructor
    · intro hh; exact absurd hh.1 h
    · intro _; rfl
def z9_nk (cf : Nat → Nat) (p e : Nat) : Nat := if p < e ∧ 48 ≤ cf p ∧ cf p ≤ 57 then (if p + 1 < e ∧ 48 ≤ cf (p + 1) ∧ cf (p + 1) ≤ 57 then (if p + 2 < e ∧ 48 ≤ cf (p + 2) ∧ cf (p + 2) ≤ 57 then 3 else 2) else 1) else 0
def z9_nv (cf : Nat → Nat) (p e : Nat) : Nat := if p < e ∧ 48 ≤ cf p ∧ cf p ≤ 57 then (if p + 1 < e ∧ 48 ≤ cf (p + 1) ∧ cf (p + 1) ≤ 57 then (if p + 2 < e ∧ 48 ≤ cf (p + 2) ∧ cf (p + 2) ≤ 57 then 10 * (10 * (cf p - 48) + (cf (p + 1) - 48)) + (cf (p + 2) - 48) else 10 * (cf p - 48) + (cf (p + 1) - 48)) else cf p - 48) else 0
theorem z9_r_numC1 {d : tD} {n : Nat} {cf : Nat → Nat} (hd : z9_rCF d n cf) {p e v j f : Nat} (he : e ≤ n) (hp : p ≤ 400) (hj : j ≤ 3) (hv : v ≤ 1000) : F_Rd_readNumber_L4 d (f + 1) (z9_i32 p, z9_i32 e) (z9_i32 v) (z9_i32 j) = if j < 3 ∧ p < e ∧ 48 ≤ cf p ∧ cf p ≤ 57 then F_Rd_readNumber_L4 d f (z9_i32 (p + 1), z9_i32 e) (z9_i32 (10 * v + (cf p - 48))) (z9_i32 (j + 1)) else some (z9_i32 v, z9_i32 j, (z9_i32 p, z9_i32 e)) := by
  have hn := hd.1
  simp only [F_Rd_readNumber_L4, z9_r_seen hd he hp, Option.bind_some, z9_i32_lit, z9_i32_le (show 3 < 2147483648 by decide) (show j < 2147483648 by omega)]
  by_cases h3 : 3 ≤ j
  · rw [if_pos h3, if_neg (by omega)]
  · rw [if_neg h3]
    by_cases h : p < e
    · have hc := (hd.2.2 p (by omega)).2
      simp only [if_pos h, z9_i32_lt (show cf p < 2147483648 by omega) (show 48 < 2147483648 by decide), z9_i32_lt (show 57 < 2147483648 by decide) (show cf p < 2147483648 by omega)]
      by_cases h1 : cf p < 48
      · rw [if_pos h1, if_neg (by omega)]
      · rw [if_neg h1]
        by_cases h2 : 57 < cf p
        · rw [if_pos h2, if_neg (by omega)]
        · rw [if_neg h2, if_pos (by omega)]
          simp only [z9_rt, z9_i32_mul, z9_i32_sub (show 48 ≤ cf p by omega), z9_i32_add]
    · rw [if_neg h, if_pos (by decide), if_neg (by simp [h])]
theorem z9_r_numC {d : tD} {n : Nat} {cf : Nat → Nat} (hd : z9_rCF d n cf) {p e : Nat} (he : e ≤ n) (hp : p ≤ 390) : F_Rd_readNumber d (z9_i32 p, z9_i32 e) = some (if z9_nk cf p e = 0 then -1 else z9_i32 (z9_nv cf p e), (z9_i32 (p + z9_nk cf p e), z9_i32 e)) := by
  have key : ∀ f, F_Rd_readNumber_L4 d (f + 4) (z9_i32 p, z9_i32 e) (z9_i32 0) (z9_i32 0) = some (z9_i32 (z9_nv cf p e), z9_i32 (z9_nk cf p e), (z9_i32 (p + z9_nk cf p e), z9_i32 e)) := by
    intro f
    rw [show f + 4 = (f + 3) + 1 from rfl, z9_r_numC1 hd he (by omega) (by omega) (by omega)]
    by_cases h1 : p < e ∧ 48 ≤ cf p ∧ cf p ≤ 57
    · rw [if_pos ⟨by omega, h1⟩, z9_r_numC1 hd he (by omega) (by omega) (by omega)]
      by_cases h2 : p + 1 < e ∧ 48 ≤ cf (p + 1) ∧ cf (p + 1) ≤ 57
      · rw [if_pos ⟨by omega, h2⟩, z9_r_numC1 hd he (by omega) (by omega) (by omega)]
        by_cases h3 : p + 1 + 1 < e ∧ 48 ≤ cf (p + 1 + 1) ∧ cf (p + 1 + 1) ≤ 57
        · rw [if_pos ⟨by omega, h3⟩, z9_r_numC1 hd he (by omega) (by omega) (by omega), if_neg (by omega)]
          unfold z9_nv z9_nk; rw [if_pos h1, if_pos h1, if_pos h2, if_pos h2, if_pos h3, if_pos h3]
          simp only [Nat.mul_zero, Nat.zero_add]
        · rw [if_neg (fun hh => h3 hh.2)]
          unfold z9_nv z9_nk; rw [if_pos h1, if_pos h1, if_pos h2, if_pos h2, if_neg h3, if_neg h3]
          simp only [Nat.mul_zero, Nat.zero_add]
      · rw [if_neg (fun hh => h2 hh.2)]
        unfold z9_nv z9_nk; rw [if_pos h1, if_pos h1, if_neg h2, if_neg h2]
        simp only [Nat.mul_zero, Nat.zero_add]
    · rw [if_neg (fun hh => h1 hh.2)]
      unfold z9_nv z9_nk; rw [if_neg h1, if_neg h1]; rfl
  unfold F_Rd_readNumber
  rw [show F_Rd_readNumber_L4 d rn_fu (z9_i32 p, z9_i32 e) 0 0 = _ from key 999996]
  have hk : z9_nk cf p e ≤ 3 := by unfold z9_nk; split <;> (try split) <;> (try split) <;> omega
  simp only [Option.bind_some, show (0 : Int32) = z9_i32 0 from rfl, z9_i32_inj (show z9_nk cf p e < 2147483648 by omega) (show 0 < 2147483648 by decide)]
  by_cases h : z9_nk cf p e = 0 <;> simp [h]
def z9_mFrR (m m' : tM) : Prop := M_src m' = M_src m ∧ M_code m' = M_code m ∧ z9_bE m' = z9_bE m ∧ z9_bU m' = z9_bU m ∧ z9_bX m' = z9_bX m ∧ z9_bC m' = z9_bC m ∧ z9_bK m' = z9_bK m ∧ z9_bD m' = z9_bD m ∧ z9_bN m' = z9_bN m ∧ z9_bW m' = z9_bW m
theorem z9_mFrR_rfl (m : tM) : z9_mFrR m m := ⟨rfl, rfl, rfl, rfl, rfl, rfl, rfl, rfl, rfl, rfl⟩
theorem z9_mFrR_trans {m m' m'' : tM} (h : z9_mFrR m m') (h' : z9_mFrR m' m'') : z9_mFrR m m'' := by
  obtain ⟨a1, a2, a3, a4, a5, a6, a7, a8, a9, a10⟩ := h
  obtain ⟨b1, b2, b3, b4, b5, b6, b7, b8, b9, b10⟩ := h'
  exact ⟨b1.trans a1, b2.trans a2, b3.trans a3, b4.trans a4, b5.trans a5, b6.trans a6, b7.trans a7, b8.trans a8, b9.trans a9, b10.trans a10⟩
theorem z9_mFrR_put (m m' : tM) : (∀ v, z9_mFrR m (M_put_at m' v) = z9_mFrR m m') ∧ (∀ v, z9_mFrR m (M_put_end m' v) = z9_mFrR m m') ∧ (∀ v, z9_mFrR m (M_put_value m' v) = z9_mFrR m m') ∧ (∀ v, z9_mFrR m (M_put_rules m' v) = z9_mFrR m m') ∧ (∀ v, z9_mFrR m (M_put_symbols m' v) = z9_mFrR m m') ∧ (∀ v, z9_mFrR m (M_put_heads m' v) = z9_mFrR m m') ∧ (∀ v, z9_mFrR m (M_put_lengths m' v) = z9_mFrR m m') ∧ (∀ v, z9_mFrR m (M_put_bodies m' v) = z9_mFrR m m') ∧ (∀ v, z9_mFrR m (M_put_weights m' v) = z9_mFrR m m') ∧ (∀ v, z9_mFrR m (M_put_costs m' v) = z9_mFrR m m') ∧ (∀ v, z9_mFrR m (M_put_names m' v) = z9_mFrR m m') := by
  simp only [z9_mFrR, z9_fE, z9_fU, z9_fX, z9_fC, z9_fK, z9_fD, z9_fN, z9_fW, z9_mp_at, z9_mp_end, z9_mp_value, z9_mp_rules, z9_mp_symbols, z9_mp_heads, z9_mp_lengths, z9_mp_bodies, z9_mp_weights, z9_mp_costs, z9_mp_names, implies_true, and_self]
def z9_rAt (m : tM) (n : Nat) (cf : Nat → Nat) (p e : Nat) : Prop := z9_rSF (M_src m) n cf ∧ M_at m = z9_i32 p ∧ M_end m = z9_i32 e
theorem z9_r_numM1 {m : tM} {n : Nat} {cf : Nat → Nat} (hn : n ≤ 300) (hc : ∀ k, k < n → cf k ≤ 126) {p p0 e v f : Nat} (hm : z9_rAt m n cf p e) (he : e ≤ n) (hp : p ≤ 400) (hp0 : p0 ≤ 400) (hv : M_value m = z9_i32 v) : F_Md_number_L10 (z9_i32 p0) (f + 1) m = if (p < e ∧ 48 ≤ cf p ∧ cf p ≤ 57) ∧ p < p0 + 3 then F_Md_number_L10 (z9_i32 p0) f (M_put_at (M_put_value m (z9_i32 (10 * v + (cf p - 48)))) (z9_i32 (p + 1))) else some m := by
  obtain ⟨h1, h2, h3⟩ := hm
  simp only [F_Md_number_L10]
  by_cases h : p < e ∧ 48 ≤ cf p ∧ cf p ≤ 57
  · rw [(z9_r_isFig h1 hn hc h2 h3 he hp).1 h]
    simp only [Option.bind_some]
    rw [if_neg (by decide)]
    simp only [h2, show (3 : Int32) = z9_i32 3 from rfl, z9_i32_add, z9_i32_le (show p0 + 3 < 2147483648 by omega) (show p < 2147483648 by omega)]
    by_cases hh : p < p0 + 3
    · rw [if_neg (by omega), if_pos ⟨h, hh⟩, z9_aG_i (by omega) (by decide), h1 p (by omega)]
      simp only [Option.bind_some, z9_mp_value, h2, hv, show (10 : Int32) = z9_i32 10 from rfl, show (48 : Int32) = z9_i32 48 from rfl, z9_i32_mul, z9_i32_add, z9_i32_sub (show 48 ≤ 10 * v + cf p by omega), show z9_i32 p + 1 = z9_i32 (p + 1) from z9_i32_add p 1, show 10 * v + cf p - 48 = 10 * v + (cf p - 48) by omega]
    · rw [if_pos (by omega), if_neg (fun q => hh q.2)]
  · rw [(z9_r_isFig h1 hn hc h2 h3 he hp).2 h]
    simp only [Option.bind_some, if_true]
    rw [if_neg (fun q => h q.1)]
theorem z9_r_numM {m : tM} {n : Nat} {cf : Nat → Nat} (hn : n ≤ 300) (hc : ∀ k, k < n → cf k ≤ 126) {p e : Nat} (hm : z9_rAt m n cf p e) (he : e ≤ n) (hp : p ≤ 390) : ∃ m' x, F_Md_number m = some (x, m') ∧ ((z9_nk cf p e ≠ 0 ∧ ¬ z9_fig cf (p + z9_nk cf p e) e ∧ x = 1) ∨ ((z9_nk cf p e = 0 ∨ z9_fig cf (p + z9_nk cf p e) e) ∧ x = 0)) ∧ z9_rAt m' n cf (p + z9_nk cf p e) e ∧ M_value m' = z9_i32 (z9_nv cf p e) ∧ z9_bG m' = z9_bG m ∧ z9_mFrR m m' := by
  have z9_stp : ∀ {q : Nat} {mm : tM} (v q' : Nat), z9_rAt mm n cf q e → z9_bG mm = z9_bG m → z9_mFrR m mm → z9_rAt (M_put_at (M_put_value mm (z9_i32 v)) (z9_i32 q')) n cf q' e ∧ M_value (M_put_at (M_put_value mm (z9_i32 v)) (z9_i32 q')) = z9_i32 v ∧ z9_bG (M_put_at (M_put_value mm (z9_i32 v)) (z9_i32 q')) = z9_bG m ∧ z9_mFrR m (M_put_at (M_put_value mm (z9_i32 v)) (z9_i32 q')) := by
    intro q mm v q' h1 h2 h3
    unfold z9_rAt at h1 ⊢
    simp only [z9_mp_at, z9_mp_value, z9_fG, z9_mFrR_put]
    exact ⟨⟨h1.1, trivial, h1.2.2⟩, trivial, h2, h3⟩
  have key : ∀ f, ∃ m', F_Md_number_L10 (z9_i32 p) (f + 4) (M_put_value m (z9_i32 0)) = some m' ∧ z9_rAt m' n cf (p + z9_nk cf p e) e ∧ M_value m' = z9_i32 (z9_nv cf p e) ∧ z9_bG m' = z9_bG m ∧ z9_mFrR m m' := by
    intro f
    have a0 : z9_rAt (M_put_value m (z9_i32 0)) n cf p e := by unfold z9_rAt at hm ⊢; simp only [z9_mp_value]; exact hm
    have a1 : M_value (M_put_value m (z9_i32 0)) = z9_i32 0 := by simp only [z9_mp_value]
    have a2 : z9_bG (M_put_value m (z9_i32 0)) = z9_bG m := by simp only [z9_fG]
    have a3 : z9_mFrR m (M_put_value m (z9_i32 0)) := by simp only [z9_mFrR_put]; exact z9_mFrR_rfl m
    rw [show f + 4 = (f + 3) + 1 from rfl, z9_r_numM1 hn hc a0 he (by omega) (by omega) a1]
    by_cases h1 : p < e ∧ 48 ≤ cf p ∧ cf p ≤ 57
    · rw [if_pos ⟨h1, by omega⟩]
      obtain ⟨b0, b1, b2, b3⟩ := z9_stp (10 * 0 + (cf p - 48)) (p + 1) a0 a2 a3
      rw [z9_r_numM1 hn hc b0 he (by omega) (by omega) b1]
      by_cases h2 : p + 1 < e ∧ 48 ≤ cf (p + 1) ∧ cf (p + 1) ≤ 57
      · rw [if_pos ⟨h2, by omega⟩]
        obtain ⟨c0, c1, c2, c3⟩ := z9_stp (10 * (10 * 0 + (cf p - 48)) + (cf (p + 1) - 48)) (p + 1 + 1) b0 b2 b3
        rw [z9_r_numM1 hn hc c0 he (by omega) (by omega) c1]
        by_cases h3 : p + 1 + 1 < e ∧ 48 ≤ cf (p + 1 + 1) ∧ cf (p + 1 + 1) ≤ 57
        · rw [if_pos ⟨h3, by omega⟩]
          obtain ⟨e0, e1, e2, e3⟩ := z9_stp (10 * (10 * (10 * 0 + (cf p - 48)) + (cf (p + 1) - 48)) + (cf (p + 1 + 1) - 48)) (p + 1 + 1 + 1) c0 c2 c3
          rw [z9_r_numM1 hn hc e0 he (by omega) (by omega) e1, if_neg (by omega)]
          unfold z9_nv z9_nk; rw [if_pos h1, if_pos h1, if_pos h2, if_pos h2, if_pos h3, if_pos h3]
          refine ⟨_, rfl, e0, ?_, e2, e3⟩
          rw [e1]; simp only [Nat.mul_zero, Nat.zero_add]
        · rw [if_neg (fun q => h3 q.1)]
          unfold z9_nv z9_nk; rw [if_pos h1, if_pos h1, if_pos h2, if_pos h2, if_neg h3, if_neg h3]
          refine ⟨_, rfl, c0, ?_, c2, c3⟩
          rw [c1]; simp only [Nat.mul_zero, Nat.zero_add]
      · rw [if_neg (fun q => h2 q.1)]
        unfold z9_nv z9_nk; rw [if_pos h1, if_pos h1, if_neg h2, if_neg h2]
        refine ⟨_, rfl, b0, ?_, b2, b3⟩
        rw [b1]; simp only [Nat.mul_zero, Nat.zero_add]
    · rw [if_neg (fun q => h1 q.1)]
      unfold z9_nv z9_nk; rw [if_neg h1, if_neg h1]
      exact ⟨_, rfl, a0, a1, a2, a3⟩
  obtain ⟨m', k1, k2, k3, k4, k5⟩ := key 999996
  have hk : z9_nk cf p e ≤ 3 := by unfold z9_nk; split <;> (try split) <;> (try split) <;> omega
  have hM : M_at m = z9_i32 p := hm.2.1
  unfold F_Md_number
  rw [hM, show F_Md_number_L10 (z9_i32 p) rn_fu (M_put_value m 0) = some m' from k1]
  simp only [Option.bind_some, k2.2.1, z9_i32_le (show p + z9_nk cf p e < 2147483648 by omega) (show p < 2147483648 by omega)]
  by_cases h0 : z9_nk cf p e = 0
  · rw [if_pos (by omega)]
    exact ⟨m', 0, rfl, Or.inr ⟨Or.inl h0, rfl⟩, k2, k3, k4, k5⟩
  · rw [if_neg (by omega)]
    by_cases hf : z9_fig cf (p + z9_nk cf p e) e
    · rw [(z9_r_isFig k2.1 hn hc k2.2.1 k2.2.2 he (by omega)).1 hf]
      exact ⟨m', 0, rfl, Or.inr ⟨Or.inr hf, rfl⟩, k2, k3, k4, k5⟩
    · rw [(z9_r_isFig k2.1 hn hc k2.2.1 k2.2.2 he (by omega)).2 hf]
      exact ⟨m', 1, rfl, Or.inl ⟨h0, hf, rfl⟩, k2, k3, k4, k5⟩
def z9_symOK (b : tG) (m : tM) (q nS : Nat) : Prop := G_bodies b q = M_bodies m q ∧ ∃ s, (s < nS ∨ (97 ≤ s ∧ s ≤ 122)) ∧ G_bodies b q = z9_i32 s
def z9_rowH (b : tG) (m : tM) (r nS : Nat) : Prop := G_heads b r = M_heads m r ∧ ∃ h, h < nS ∧ G_heads b r = z9_i32 h
def z9_rowB (b : tG) (m : tM) (r nS : Nat) : Prop := ∃ l, l ≤ 4 ∧ G_bodyLengths b r = z9_i32 l ∧ M_lengths m r = z9_i32 l ∧ ∀ k, k < l → z9_symOK b m (4 * r + k) nS
def z9_rowW (b : tG) (m : tM) (r : Nat) : Prop := G_weights b r = M_weights m r
def z9_rowC (b : tG) (m : tM) (r : Nat) : Prop := G_costs b r = M_costs m r ∧ ∃ c, c ≤ 99 ∧ G_costs b r = z9_i32 c
def z9_RG (b : tG) (m : tM) (nR nS : Nat) : Prop := nR ≤ 12 ∧ nS ≤ 6 ∧ G_ruleCount b = z9_i32 nR ∧ M_rules m = z9_i32 nR ∧ G_nonterminalCount b = z9_i32 nS ∧ M_symbols m = z9_i32 nS ∧ (∀ s, s < nS → G_capitals b s = M_names m s) ∧ ∀ r, r < nR → z9_rowH b m r nS ∧ z9_rowB b m r nS ∧ z9_rowW b m r ∧ z9_rowC b m r
theorem z9_symOK_mono {b : tG} {m : tM} {q nS nS' : Nat} (h : nS ≤ nS') (hs : z9_symOK b m q nS) : z9_symOK b m q nS' := by
  obtain ⟨h1, s, h2, h3⟩ := hs
  exact ⟨h1, s, by omega, h3⟩
theorem z9_rowH_mono {b : tG} {m : tM} {r nS nS' : Nat} (h : nS ≤ nS') (hs : z9_rowH b m r nS) : z9_rowH b m r nS' := by
  obtain ⟨h1, s, h2, h3⟩ := hs
  exact ⟨h1, s, by omega, h3⟩
theorem z9_rowB_mono {b : tG} {m : tM} {r nS nS' : Nat} (h : nS ≤ nS') (hs : z9_rowB b m r nS) : z9_rowB b m r nS' := by
  obtain ⟨l, h1, h2, h3, h4⟩ := hs
  exact ⟨l, h1, h2, h3, fun k hk => z9_symOK_mono h (h4 k hk)⟩
theorem z9_rowH_ext {b b' : tG} {m m' : tM} {r nS : Nat} (e1 : G_heads b' r = G_heads b r) (e2 : M_heads m' r = M_heads m r) (h : z9_rowH b m r nS) : z9_rowH b' m' r nS := by
  unfold z9_rowH at *; rw [e1, e2]; exact h
theorem z9_rowB_ext {b b' : tG} {m m' : tM} {r nS : Nat} (e1 : G_bodyLengths b' r = G_bodyLengths b r) (e2 : M_lengths m' r = M_lengths m r) (e3 : ∀ k, k < 4 → G_bodies b' (4 * r + k) = G_bodies b (4 * r + k)) (e4 : ∀ k, k < 4 → M_bodies m' (4 * r + k) = M_bodies m (4 * r + k)) (h : z9_rowB b m r nS) : z9_rowB b' m' r nS := by
  obtain ⟨l, h1, h2, h3, h4⟩ := h
  refine ⟨l, h1, e1.trans h2, e2.trans h3, fun k hk => ?_⟩
  have := h4 k hk
  unfold z9_symOK at *
  rw [e3 k (by omega), e4 k (by omega)]; exact this
theorem z9_RG_ext {b b' : tG} {m m' : tM} {nR nS : Nat} (h : z9_RG b m nR nS)
    (e1 : ∀ r, r < nR → G_heads b' r = G_heads b r) (e2 : ∀ r, r < nR → M_heads m' r = M_heads m r)
    (e3 : ∀ r, r < nR → G_bodyLengths b' r = G_bodyLengths b r) (e4 : ∀ r, r < nR → M_lengths m' r = M_lengths m r)
    (e5 : ∀ r, r < 4 * nR → G_bodies b' r = G_bodies b r) (e6 : ∀ r, r < 4 * nR → M_bodies m' r = M_bodies m r)
    (e7 : ∀ r, r < nR → G_weights b' r = G_weights b r) (e8 : ∀ r, r < nR → M_weights m' r = M_weights m r)
    (e9 : ∀ r, r < nR → G_costs b' r = G_costs b r) (e10 : ∀ r, r < nR → M_costs m' r = M_costs m r)
    (e11 : G_ruleCount b' = G_ruleCount b) (e12 : M_rules m' = M_rules m) (e13 : G_nonterminalCount b' = G_nonterminalCount b) (e14 : M_symbols m' = M_symbols m)
    (e15 : ∀ s, s < nS → G_capitals b' s = G_capitals b s) (e16 : ∀ s, s < nS → M_names m' s = M_names m s) : z9_RG b' m' nR nS := by
  obtain ⟨h1, h2, h3, h4, h5, h6, h7, h8⟩ := h
  refine ⟨h1, h2, e11.trans h3, e12.trans h4, e13.trans h5, e14.trans h6, fun s hs => ?_, fun r hr => ?_⟩
  · rw [e15 s hs, e16 s hs]; exact h7 s hs
  · obtain ⟨a1, a2, a3, a4⟩ := h8 r hr
    refine ⟨z9_rowH_ext (e1 r hr) (e2 r hr) a1, z9_rowB_ext (e3 r hr) (e4 r hr) (fun k hk => e5 _ (by omega)) (fun k hk => e6 _ (by omega)) a2, ?_, ?_⟩
    · unfold z9_rowW at *; rw [e7 r hr, e8 r hr]; exact a3
    · unfold z9_rowC at *; rw [e9 r hr, e10 r hr]; exact a4
def z9_gRows (b : tG) := (G_heads b, G_bodies b, G_bodyLengths b, G_weights b, G_costs b)
def z9_mRows (m : tM) := (M_heads m, M_bodies m, M_lengths m, M_weights m, M_costs m, M_at m, M_end m, M_value m)
theorem z9_r_symL {b : tG} {m : tM} {nR nS c : Nat} (h : z9_RG b m nR nS) : (∃ s, s < nS ∧ F_Gr_nonterminalOf_L2 b (z9_i32 c) rn_fu 0 = some (.inl (z9_i32 s, b)) ∧ F_Md_symbol_L2 m (z9_i32 c) rn_fu 0 = some (.inl (z9_i32 s, m))) ∨ (F_Gr_nonterminalOf_L2 b (z9_i32 c) rn_fu 0 = some (.inr ()) ∧ F_Md_symbol_L2 m (z9_i32 c) rn_fu 0 = some (.inr ())) := by
  obtain ⟨h1, h2, h3, h4, h5, h6, h7, h8⟩ := h
  refine z9_forU (L := fun n (_ : Unit) k => (F_Gr_nonterminalOf_L2 b (z9_i32 c) n k, F_Md_symbol_L2 m (z9_i32 c) n k)) (Q := fun o => (∃ s, s < nS ∧ o.1 = some (.inl (z9_i32 s, b)) ∧ o.2 = some (.inl (z9_i32 s, m))) ∨ (o.1 = some (.inr ()) ∧ o.2 = some (.inr ()))) (P := fun _ _ => True) (K := nS) 0 () (by omega) (by omega) trivial ?_ ?_
  · intro n _ _
    right
    simp only [F_Gr_nonterminalOf_L2, F_Md_symbol_L2, h5, h6, Int32.le_refl, if_true, and_self]
  · intro n _ k hk _
    simp only [F_Gr_nonterminalOf_L2, F_Md_symbol_L2, h5, h6, z9_i32_le (show nS < 2147483648 by omega) (show k < 2147483648 by omega)]
    rw [if_neg (by omega), if_neg (by omega), z9_aG_i (by omega) (by decide), z9_aG_i (by omega) (by decide), h7 k hk]
    simp only [Option.bind_some]
    by_cases hx : M_names m k = z9_i32 c
    · right; left
      rw [if_neg (fun q => q hx), if_neg (fun q => q hx)]
      exact ⟨k, hk, rfl, rfl⟩
    · left
      rw [if_pos hx, if_pos hx]
      exact ⟨(), rfl, trivial⟩
theorem z9_r_sym {b : tG} {m : tM} {nR nS c : Nat} (h : z9_RG b m nR nS) : ∃ x b' m', F_Gr_nonterminalOf b (z9_i32 c) = some (x, b') ∧ F_Md_symbol m (z9_i32 c) = some (x, m') ∧ z9_mFrR m m' ∧ z9_gRows b' = z9_gRows b ∧ z9_mRows m' = z9_mRows m ∧ M_rules m' = M_rules m ∧ (x = -1 ∨ ∃ s nS', x = z9_i32 s ∧ s < nS' ∧ nS ≤ nS' ∧ z9_RG b' m' nR nS') := by
  unfold F_Gr_nonterminalOf F_Md_symbol
  rcases z9_r_symL (c := c) h with ⟨s, hs, e1, e2⟩ | ⟨e1, e2⟩
  · rw [e1, e2]
    exact ⟨z9_i32 s, b, m, rfl, rfl, z9_mFrR_rfl m, rfl, rfl, rfl, Or.inr ⟨s, nS, rfl, hs, Nat.le_refl _, h⟩⟩
  · rw [e1, e2]
    have h' := h
    obtain ⟨h1, h2, h3, h4, h5, h6, h7, h8⟩ := h
    simp only [Option.bind_some, h5, h6, show (6 : Int32) = z9_i32 6 from rfl, z9_i32_inj (show nS < 2147483648 by omega) (show 6 < 2147483648 by decide)]
    by_cases h6' : nS = 6
    · rw [if_neg (fun q => q h6'), if_neg (fun q => q h6')]
      exact ⟨-1, b, m, rfl, rfl, z9_mFrR_rfl m, rfl, rfl, rfl, Or.inl rfl⟩
    · rw [if_pos h6', if_pos h6', z9_aS_i (by omega) (by decide), z9_aS_i (by omega) (by decide)]
      simp only [Option.bind_some, z9_mp_names, z9_mp_symbols, h6, show (1 : Int32) = z9_i32 1 from rfl, z9_i32_add, z9_i32_sub (show 1 ≤ nS + 1 by omega), show nS + 1 - 1 = nS from rfl]
      refine ⟨z9_i32 nS, _, _, rfl, rfl, ?_, rfl, ?_, ?_, Or.inr ⟨nS, nS + 1, rfl, by omega, by omega, ?_⟩⟩
      · simp only [z9_mFrR_put]; exact z9_mFrR_rfl m
      · simp only [z9_mRows, z9_mp_symbols, z9_mp_names]
      · simp only [z9_mp_symbols, z9_mp_names]
      · refine ⟨h1, by omega, ?_, ?_, ?_, ?_, ?_, ?_⟩
        · simp only [z9_gt]; exact h3
        · simp only [z9_mp_symbols, z9_mp_names]; exact h4
        · simp only [z9_gt]
        · simp only [z9_mp_symbols]
        · intro s hs
          simp only [z9_gt, z9_mp_symbols, z9_mp_names]
          by_cases hh : s = nS
          · rw [if_pos hh, if_pos hh]
          · rw [if_neg hh, if_neg hh]; exact h7 s (by omega)
        · intro r hr
          obtain ⟨a1, a2, a3, a4⟩ := h8 r hr
          refine ⟨z9_rowH_mono (Nat.le_succ nS) (z9_rowH_ext ?_ ?_ a1), z9_rowB_mono (Nat.le_succ nS) (z9_rowB_ext ?_ ?_ ?_ ?_ a2), ?_, ?_⟩
          all_goals (try unfold z9_rowW at *) <;> (try unfold z9_rowC at *) <;> simp only [z9_gt, z9_mp_symbols, z9_mp_names, implies_true]
          · exact a3
          · exact a4
def z9_rPart (b : tG) (m : tM) (nR nS j : Nat) : Prop := z9_RG b m nR nS ∧ z9_rowH b m nR nS ∧ M_lengths m nR = z9_i32 j ∧ ∀ k, k < j → z9_symOK b m (4 * nR + k) nS
theorem z9_r_ext {b : tG} {m : tM} {nR nS j s : Nat} {v : Int32} (h : z9_rPart b m nR nS j) (hs : s < nS ∨ (97 ≤ s ∧ s ≤ 122)) :
    z9_rPart (G_heads b, (fun q => if q = 4 * nR + j then z9_i32 s else G_bodies b q), G_bodyLengths b, G_weights b, G_costs b, G_capitals b, G_order b, G_ruleCount b, G_nonterminalCount b, G_reached b) (M_put_at (M_put_lengths (M_put_bodies m (fun q => if q = 4 * nR + j then z9_i32 s else M_bodies m q)) (fun q => if q = nR then z9_i32 (j + 1) else M_lengths m q)) v) nR nS (j + 1) := by
  obtain ⟨h1, h2, h3, h4⟩ := h
  refine ⟨z9_RG_ext h1 ?_ ?_ ?_ ?_ ?_ ?_ ?_ ?_ ?_ ?_ ?_ ?_ ?_ ?_ ?_ ?_, z9_rowH_ext ?_ ?_ h2, ?_, ?_⟩
  all_goals (try simp only [z9_gt, z9_mp_at, z9_mp_lengths, z9_mp_bodies, implies_true, if_true])
  · intro r hr; rw [if_neg (by omega)]
  · intro r hr; rw [if_neg (by omega)]
  · intro r hr; rw [if_neg (by omega)]
  · intro k hk
    unfold z9_symOK at *
    simp only [z9_gt, z9_mp_at, z9_mp_lengths, z9_mp_bodies]
    by_cases hkj : k = j
    · subst hkj; simp only [if_true]
      exact ⟨trivial, s, hs, rfl⟩
    · rw [if_neg (by omega), if_neg (by omega)]; exact h4 k (by omega)
theorem z9_r_rPart_sym {b b' : tG} {m m' : tM} {nR nS nS' j : Nat} (h : z9_rPart b m nR nS j) (hn : nS ≤ nS') (hg : z9_gRows b' = z9_gRows b) (hm : z9_mRows m' = z9_mRows m) (hR : z9_RG b' m' nR nS') : z9_rPart b' m' nR nS' j := by
  obtain ⟨h1, h2, h3, h4⟩ := h
  simp only [z9_gRows, Prod.mk.injEq] at hg
  simp only [z9_mRows, Prod.mk.injEq] at hm
  obtain ⟨g1, g2, g3, g4, g5⟩ := hg
  obtain ⟨m1, m2, m3, m4, m5, m6, m7, m8⟩ := hm
  refine ⟨hR, z9_rowH_mono hn (z9_rowH_ext (by rw [g1]) (by rw [m1]) h2), by rw [m3]; exact h3, fun k hk => z9_symOK_mono hn ?_⟩
  have := h4 k hk
  unfold z9_symOK at *
  rw [g2, m2]; exact this
def z9_rBodyQ (cf : Nat → Nat) (n e nR : Nat) (m : tM) (o1 : Option ((Int32 × tG × tR) ⊕ (Int32 × tG × tR))) (o2 : Option ((Int32 × tM) ⊕ tM)) : Prop :=
  ∃ m', z9_mFrR m m' ∧ M_rules m' = M_rules m ∧
  ((∃ b' r', o1 = some (.inl (0, b', r')) ∧ o2 = some (.inl (0, m'))) ∨
   (∃ b' p' j', j' ≤ 4 ∧ o1 = some (.inr (z9_i32 j', b', (z9_i32 p', z9_i32 e))) ∧ o2 = some (.inl (0, m')) ∧ p' < e ∧ cf p' ≠ 32) ∨
   (∃ b' p' j' nS', j' ≤ 4 ∧ o1 = some (.inr (z9_i32 j', b', (z9_i32 p', z9_i32 e))) ∧ o2 = some (.inr m') ∧ z9_rPart b' m' nR nS' j' ∧ z9_rAt m' n cf p' e ∧ p' ≤ e))
theorem z9_rBodyQ_trans {cf : Nat → Nat} {n e nR : Nat} {m m1 : tM} {o1 o2} (h : z9_rBodyQ cf n e nR m1 o1 o2) (hf : z9_mFrR m m1) (hr : M_rules m1 = M_rules m) : z9_rBodyQ cf n e nR m o1 o2 := by
  obtain ⟨m', h1, h2, h3⟩ := h
  exact ⟨m', z9_mFrR_trans hf h1, h2.trans hr, h3⟩
theorem z9_r_bodyL {d : tD} {n : Nat} {cf : Nat → Nat} (hd : z9_rCF d n cf) {e nR : Nat} (he : e ≤ n) (hR : nR < 12) : ∀ (t j f1 f2 : Nat) (b : tG) (m : tM) (p nS : Nat), j + t = 4 → t < f1 → t < f2 → z9_rPart b m nR nS j → z9_rAt m n cf p e → p ≤ e →
    z9_rBodyQ cf n e nR m (F_Rd_readBody_L2 d (z9_i32 nR) f1 b (z9_i32 p, z9_i32 e) (z9_i32 j)) (F_Md_body_L7 (z9_i32 nR) f2 m) := by
  intro t
  have hn := hd.1
  induction t with
  | zero =>
    intro j f1 f2 b m p nS hj hf1 hf2 hP hA hp
    have hj4 : j = 4 := by omega
    subst hj4
    obtain ⟨f1, rfl⟩ : ∃ k, f1 = k + 1 := ⟨f1 - 1, by omega⟩
    obtain ⟨f2, rfl⟩ : ∃ k, f2 = k + 1 := ⟨f2 - 1, by omega⟩
    simp only [F_Rd_readBody_L2, F_Md_body_L7, hA.2.1, hA.2.2, show (4 : Int32) = z9_i32 4 from rfl, Int32.le_refl, if_true, z9_i32_le (show e < 2147483648 by omega) (show p < 2147483648 by omega)]
    by_cases hpe : e ≤ p
    · rw [if_pos hpe]
      exact ⟨m, z9_mFrR_rfl m, rfl, Or.inr (Or.inr ⟨b, p, 4, nS, by omega, rfl, rfl, hP, hA, hp⟩)⟩
    · rw [if_neg hpe, z9_aG_i (by omega) (by decide), hA.1 p (by omega)]
      have hc := (hd.2.2 p (by omega)).2
      simp only [Option.bind_some, z9_r_capM (show cf p < 2147483648 by omega), z9_r_smallM (show cf p < 2147483648 by omega), z9_b01_0]
      by_cases h1 : 65 ≤ cf p ∧ cf p ≤ 90
      · simp only [h1, and_self, not_true, not_false_eq_true, if_true, if_false]
        obtain ⟨x, b', m', q1, q2, q3, q4, q5, q6, q7⟩ := z9_r_sym (c := cf p) hP.1
        rw [q2]
        simp only [Option.bind_some]
        simp only [z9_mRows, Prod.mk.injEq] at q5
        rw [q5.2.2.1, z9_aG_i (by omega) (by decide), hP.2.2.1]
        simp only [Option.bind_some, not_true, if_false]
        refine ⟨m', q3, q6, Or.inr (Or.inl ⟨b, p, 4, by omega, rfl, ?_, by omega, by omega⟩)⟩
        split <;> rfl
      · simp only [h1, not_true, not_false_eq_true, if_true, if_false]
        by_cases h2 : 97 ≤ cf p ∧ cf p ≤ 122
        · simp only [h2, and_self, not_true, not_false_eq_true, if_true, if_false, Option.bind_some]
          rw [if_neg (by rw [z9_i32_n0 (by omega)]; exact id), z9_aG_i (by omega) (by decide), hP.2.2.1]
          simp only [Option.bind_some, not_true, if_false]
          exact ⟨m, z9_mFrR_rfl m, rfl, Or.inr (Or.inl ⟨b, p, 4, by omega, rfl, rfl, by omega, by omega⟩)⟩
        · simp only [h2, not_false_eq_true, if_true]
          exact ⟨m, z9_mFrR_rfl m, rfl, Or.inr (Or.inr ⟨b, p, 4, nS, by omega, rfl, rfl, hP, hA, hp⟩)⟩
  | succ t ih =>
    intro j f1 f2 b m p nS hj hf1 hf2 hP hA hp
    obtain ⟨f1, rfl⟩ : ∃ k, f1 = k + 1 := ⟨f1 - 1, by omega⟩
    obtain ⟨f2, rfl⟩ : ∃ k, f2 = k + 1 := ⟨f2 - 1, by omega⟩
    simp only [F_Rd_readBody_L2, F_Md_body_L7, F_Rd_readSymbol, hA.2.1, hA.2.2, z9_r_seen hd he (show p ≤ 400 by omega), Option.bind_some, show (4 : Int32) = z9_i32 4 from rfl, z9_i32_le (show 4 < 2147483648 by decide) (show j < 2147483648 by omega), z9_i32_le (show e < 2147483648 by omega) (show p < 2147483648 by omega)]
    rw [if_neg (by omega)]
    by_cases hpe : e ≤ p
    · rw [if_pos hpe, if_neg (show ¬ p < e by omega), show F_Wt_isCapital (-1) = some 0 from rfl, show F_Wt_isSmallLetter (-1) = some 0 from rfl]
      exact ⟨m, z9_mFrR_rfl m, rfl, Or.inr (Or.inr ⟨b, p, j, nS, by omega, rfl, rfl, hP, hA, hp⟩)⟩
    · rw [if_neg hpe, if_pos (show p < e by omega), z9_aG_i (by omega) (by decide), hA.1 p (by omega)]
      have hc := (hd.2.2 p (by omega)).2
      simp only [Option.bind_some, z9_r_cap (show cf p < 2147483648 by omega), z9_r_small (show cf p < 2147483648 by omega), z9_r_capM (show cf p < 2147483648 by omega), z9_r_smallM (show cf p < 2147483648 by omega), z9_b01_0]
      by_cases h1 : 65 ≤ cf p ∧ cf p ≤ 90
      · simp only [h1, and_self, not_true, not_false_eq_true, if_true, if_false]
        obtain ⟨x, b', m', q1, q2, q3, q4, q5, q6, q7⟩ := z9_r_sym (c := cf p) hP.1
        rw [q1, q2]
        simp only [Option.bind_some]
        have q5' := q5
        simp only [z9_mRows, Prod.mk.injEq] at q5
        rcases q7 with rfl | ⟨s, nS', rfl, hs, hnS, hRG⟩
        · rw [if_neg (by decide), if_pos (by decide)]
          exact ⟨m', q3, q6, Or.inl ⟨b', _, rfl, rfl⟩⟩
        · have h6 := hRG.2.1
          rw [if_pos (by rw [z9_i32_m1 (by omega)]; exact id), if_neg (by rw [z9_i32_n0 (by omega)]; exact id), z9_i32_mul, z9_i32_mul, z9_i32_add, z9_aS_i (by omega) (by decide), q5.2.2.1, z9_aG_i (by omega) (by decide), hP.2.2.1]
          simp only [Option.bind_some, z9_mp_bodies, z9_i32_add, z9_i32_inj (show j < 2147483648 by omega) (show 4 < 2147483648 by decide), show (1 : Int32) = z9_i32 1 from rfl]
          rw [if_pos (by omega), z9_aS_i (by omega) (by decide), q5.2.2.1, z9_aG_i (by omega) (by decide), hP.2.2.1]
          simp only [Option.bind_some, z9_i32_add]
          rw [z9_aS_i (by omega) (by decide)]
          simp only [Option.bind_some, z9_mp_bodies, z9_mp_lengths, q5.2.2.2.2.2.1, hA.2.1, z9_i32_add, z9_rt]
          have hP' := z9_r_ext (v := z9_i32 (p + 1)) (z9_r_rPart_sym hP hnS q4 q5' hRG) (Or.inl hs)
          rw [q5.2.2.1] at hP'
          rw [Nat.mul_comm nR 4]
          refine z9_rBodyQ_trans (ih (j + 1) f1 f2 _ _ (p + 1) nS' (by omega) (by omega) (by omega) hP' ?_ (by omega)) ?_ ?_
          · refine ⟨?_, ?_, ?_⟩
            · simp only [z9_mp_at, z9_mp_lengths, z9_mp_bodies]; rw [q3.1]; exact hA.1
            · simp only [z9_mp_at]
            · simp only [z9_mp_at, z9_mp_lengths, z9_mp_bodies]; rw [q5.2.2.2.2.2.2.1]; exact hA.2.2
          · simp only [z9_mFrR_put]; exact q3
          · simp only [z9_mp_at, z9_mp_lengths, z9_mp_bodies]; exact q6
      · simp only [h1, not_true, not_false_eq_true, if_true, if_false]
        by_cases h2 : 97 ≤ cf p ∧ cf p ≤ 122
        · simp only [h2, and_self, not_true, not_false_eq_true, if_true, if_false, Option.bind_some]
          rw [if_pos (by rw [z9_i32_m1 (by omega)]; exact id), if_neg (by rw [z9_i32_n0 (by omega)]; exact id), z9_i32_mul, z9_i32_mul, z9_i32_add, z9_aS_i (by omega) (by decide), z9_aG_i (by omega) (by decide), hP.2.2.1]
          simp only [Option.bind_some, z9_mp_bodies, z9_i32_add, z9_i32_inj (show j < 2147483648 by omega) (show 4 < 2147483648 by decide), show (1 : Int32) = z9_i32 1 from rfl]
          rw [if_pos (by omega), z9_aS_i (by omega) (by decide), z9_aG_i (by omega) (by decide), hP.2.2.1]
          simp only [Option.bind_some, z9_i32_add]
          rw [z9_aS_i (by omega) (by decide)]
          simp only [Option.bind_some, z9_mp_bodies, z9_mp_lengths, hA.2.1, z9_i32_add, z9_rt]
          have hP' := z9_r_ext (v := z9_i32 (p + 1)) hP (Or.inr h2)
          rw [Nat.mul_comm nR 4]
          refine z9_rBodyQ_trans (ih (j + 1) f1 f2 _ _ (p + 1) nS (by omega) (by omega) (by omega) hP' ?_ (by omega)) ?_ ?_
          · refine ⟨?_, ?_, ?_⟩
            · simp only [z9_mp_at, z9_mp_lengths, z9_mp_bodies]; exact hA.1
            · simp only [z9_mp_at]
            · simp only [z9_mp_at, z9_mp_lengths, z9_mp_bodies]; exact hA.2.2
          · simp only [z9_mFrR_put]; exact z9_mFrR_rfl m
          · simp only [z9_mp_at, z9_mp_lengths, z9_mp_bodies]
        · simp only [h2, not_false_eq_true, if_true]
          exact ⟨m, z9_mFrR_rfl m, rfl, Or.inr (Or.inr ⟨b, p, j, nS, by omega, rfl, rfl, hP, hA, hp⟩)⟩
def z9_invK : Nat → Int64 → Int64 → Int64
  | 0, _, x => x
  | k + 1, o, x => z9_invK k o (x * (2 - o * x))
theorem z9_r_invC (o : Int64) : F_Rd_inverse o = some (z9_invK 5 o o) := by
  have : ∀ n, F_Rd_inverse_L5 o (n + 6) o 0 = some (z9_invK 5 o o) := by
    intro n
    simp [F_Rd_inverse_L5, z9_invK, show ¬ (5 : Int32) ≤ 0 by decide, show ¬ (5 : Int32) ≤ 1 by decide, show ¬ (5 : Int32) ≤ 1 + 1 by decide, show ¬ (5 : Int32) ≤ 1 + 1 + 1 by decide, show ¬ (5 : Int32) ≤ 1 + 1 + 1 + 1 by decide, show (5 : Int32) ≤ 1 + 1 + 1 + 1 + 1 by decide]
  unfold F_Rd_inverse
  rw [show F_Rd_inverse_L5 o rn_fu o 0 = _ from this 999994]; rfl
theorem z9_r_invM (o : Int64) : F_Md_inverse o = some (z9_invK 6 o o) := by
  have : ∀ n, F_Md_inverse_L5 o (n + 7) o 0 = some (z9_invK 6 o o) := by
    intro n
    simp [F_Md_inverse_L5, z9_invK, show ¬ (6 : Int32) ≤ 0 by decide, show ¬ (6 : Int32) ≤ 1 by decide, show ¬ (6 : Int32) ≤ 1 + 1 by decide, show ¬ (6 : Int32) ≤ 1 + 1 + 1 by decide, show ¬ (6 : Int32) ≤ 1 + 1 + 1 + 1 by decide, show ¬ (6 : Int32) ≤ 1 + 1 + 1 + 1 + 1 by decide, show (6 : Int32) ≤ 1 + 1 + 1 + 1 + 1 + 1 by decide]
  unfold F_Md_inverse
  rw [show F_Md_inverse_L5 o rn_fu o 0 = _ from this 999993]; rfl
set_option maxRecDepth 20000 in
theorem z9_r_inv_all : ∀ v : Fin 1000, v.1 % 2 = 1 → z9_invK 5 (z9_i32 v.1).toInt64 (z9_i32 v.1).toInt64 = z9_invK 6 (z9_i32 v.1).toInt64 (z9_i32 v.1).toInt64 := by decide +kernel
set_option maxRecDepth 20000 in
theorem z9_r_par_all : ∀ v : Fin 1000, (z9_i32 v.1 - z9_i32 v.1 / 2 * 2 = 0) ↔ v.1 % 2 = 0 := by decide +kernel
theorem z9_r_par {v : Nat} (h : v < 1000) : (z9_i32 v - z9_i32 v / 2 * 2 = 0) = (v % 2 = 0) := propext (z9_r_par_all ⟨v, h⟩)
theorem z9_r_inv1 (x : Int64) : x * z9_invK 5 (1 : Int32).toInt64 (1 : Int32).toInt64 = x := by
  rw [show z9_invK 5 (1 : Int32).toInt64 (1 : Int32).toInt64 = 1 by decide, Int64.mul_one]
theorem z9_nk_le (cf : Nat → Nat) (p e : Nat) : z9_nk cf p e ≤ 3 := by unfold z9_nk; split <;> (try split) <;> (try split) <;> omega
theorem z9_nv_lt (cf : Nat → Nat) (p e : Nat) : z9_nv cf p e < 1000 := by unfold z9_nv; split <;> (try split) <;> (try split) <;> omega
theorem z9_nk_fig {cf : Nat → Nat} {p e : Nat} (hb : z9_fig cf (p + z9_nk cf p e) e) : z9_nk cf p e ≠ 0 := by
  intro q
  unfold z9_fig at hb
  rw [q, Nat.add_zero] at hb
  unfold z9_nk at q
  rw [if_pos hb] at q
  split at q <;> (try split at q) <;> omega
theorem z9_nk_e {cf : Nat → Nat} {p e : Nat} (h : p ≤ e) : p + z9_nk cf p e ≤ e := by unfold z9_nk; split <;> (try split) <;> (try split) <;> omega
def z9_rRow (b : tG) (m : tM) (nR nS : Nat) : Prop := z9_RG b m nR nS ∧ z9_rowH b m nR nS ∧ z9_rowB b m nR nS
theorem z9_rRow_ext {b b' : tG} {m m' : tM} {nR nS : Nat} (h : z9_rRow b m nR nS)
    (e1 : G_heads b' = G_heads b) (e2 : M_heads m' = M_heads m)
    (e3 : G_bodyLengths b' = G_bodyLengths b) (e4 : M_lengths m' = M_lengths m)
    (e5 : G_bodies b' = G_bodies b) (e6 : M_bodies m' = M_bodies m)
    (e7 : ∀ r, r < nR → G_weights b' r = G_weights b r) (e8 : ∀ r, r < nR → M_weights m' r = M_weights m r)
    (e9 : ∀ r, r < nR → G_costs b' r = G_costs b r) (e10 : ∀ r, r < nR → M_costs m' r = M_costs m r)
    (e11 : G_ruleCount b' = G_ruleCount b) (e12 : M_rules m' = M_rules m) (e13 : G_nonterminalCount b' = G_nonterminalCount b) (e14 : M_symbols m' = M_symbols m)
    (e15 : G_capitals b' = G_capitals b) (e16 : M_names m' = M_names m) : z9_rRow b' m' nR nS := by
  obtain ⟨h1, h2, h3⟩ := h
  refine ⟨z9_RG_ext h1 (by rw [e1]; simp) (by rw [e2]; simp) (by rw [e3]; simp) (by rw [e4]; simp) (by rw [e5]; simp) (by rw [e6]; simp) e7 e8 e9 e10 e11 e12 e13 e14 (by rw [e15]; simp) (by rw [e16]; simp), z9_rowH_ext (by rw [e1]) (by rw [e2]) h2, z9_rowB_ext (by rw [e3]) (by rw [e4]) (by rw [e5]; simp) (by rw [e6]; simp) h3⟩
theorem z9_RG_next {b b' : tG} {m : tM} {nR nS : Nat} (h : z9_rRow b m nR nS) (hW : z9_rowW b m nR) (hC : z9_rowC b m nR) (hR : nR < 12)
    (e1 : G_heads b' = G_heads b) (e3 : G_bodyLengths b' = G_bodyLengths b) (e5 : G_bodies b' = G_bodies b) (e7 : G_weights b' = G_weights b) (e9 : G_costs b' = G_costs b) (e11 : G_ruleCount b' = z9_i32 (nR + 1)) (e13 : G_nonterminalCount b' = G_nonterminalCount b) (e15 : G_capitals b' = G_capitals b) : z9_RG b' (M_put_rules m (z9_i32 (nR + 1))) (nR + 1) nS := by
  obtain ⟨⟨h1, h2, h3, h4, h5, h6, h7, h8⟩, hH, hB⟩ := h
  refine ⟨by omega, h2, e11, by simp only [z9_mp_rules], e13.trans h5, by simp only [z9_mp_rules]; exact h6, ?_, ?_⟩
  · intro s hs; simp only [z9_mp_rules]; rw [e15]; exact h7 s hs
  · intro r hr
    have all : z9_rowH b m r nS ∧ z9_rowB b m r nS ∧ z9_rowW b m r ∧ z9_rowC b m r := by
      by_cases hh : r = nR
      · subst hh; exact ⟨hH, hB, hW, hC⟩
      · exact h8 r (by omega)
    obtain ⟨a1, a2, a3, a4⟩ := all
    refine ⟨z9_rowH_ext (by rw [e1]) (by simp only [z9_mp_rules]) a1, z9_rowB_ext (by rw [e3]) (by simp only [z9_mp_rules]) (by rw [e5]; simp) (by simp only [z9_mp_rules]; simp) a2, ?_, ?_⟩
    · unfold z9_rowW at *; simp only [z9_mp_rules]; rw [e7]; exact a3
    · unfold z9_rowC at *; simp only [z9_mp_rules]; rw [e9]; exact a4
def z9_cTail (d : tD) (b32 : tG) (r33 : tR) (R : Int32) : Option (Int32 × tG × tR) :=
  Option.bind (F_Rd_skip d r33 (32 : Int32)) fun (x37, r38) =>
  if x37 = 0 then (some ((0 : Int32), b32, r38)) else (
    Option.bind (F_Rd_readCost d b32 r38 R) fun (x42, b43, r44) =>
    if x42 = 0 then (some ((0 : Int32), b43, r44)) else (
      if ¬ (R_at r44) = (R_end r44) then (some ((0 : Int32), b43, r44)) else (some ((1 : Int32), b43, r44))))
def z9_mTail (m : tM) (R : Int32) : Option (Int32 × tM) :=
  Option.bind (F_Md_next m (32 : Int32)) fun (x53, m54) =>
  if x53 = 0 then (some ((0 : Int32), m54)) else (
    Option.bind (F_Md_number m54) fun (x58, m59) =>
    if x58 = 0 then (some ((0 : Int32), m59)) else (
      if (99 : Int32) < (M_value m59) then (some ((0 : Int32), m59)) else (
        if (M_at m59) = (M_end m59) then (
          Option.bind (aS (M_costs m59) 12 R (M_value m59)) fun f64 =>
          some ((1 : Int32), (M_put_rules (M_put_costs m59 f64) ((M_rules (M_put_costs m59 f64)) + (1 : Int32))))
        ) else (some ((0 : Int32), m59)))))
theorem z9_cTail_no {d : tD} {n : Nat} {cf : Nat → Nat} (hd : z9_rCF d n cf) {p e : Nat} (b : tG) (R : Int32) (he : e ≤ n) (hp : p < e) (hc : cf p ≠ 32) : z9_cTail d b (z9_i32 p, z9_i32 e) R = some (0, b, (z9_i32 p, z9_i32 e)) := by
  have hn := hd.1
  unfold z9_cTail
  rw [show (32 : Int32) = z9_i32 32 from rfl, z9_r_skip hd he (by omega) (by decide), if_neg (fun q => hc q.2)]; rfl
theorem z9_r_tail {d : tD} {n : Nat} {cf : Nat → Nat} (hd : z9_rCF d n cf) {b : tG} {m : tM} {nR nS p e : Nat} (h : z9_rRow b m nR nS) (hW : z9_rowW b m nR) (hR : nR < 12) (hA : z9_rAt m n cf p e) (he : e ≤ n) (hp : p ≤ e) :
    ∃ x b' r' m', z9_cTail d b (z9_i32 p, z9_i32 e) (z9_i32 nR) = some (x, b', r') ∧ z9_mTail m (z9_i32 nR) = some (x, m') ∧ z9_mFrR m m' ∧ (x = 0 ∨ (x = 1 ∧ r' = (z9_i32 e, z9_i32 e) ∧ G_ruleCount b' = z9_i32 nR ∧ ∃ m0, m' = M_put_rules m0 (z9_i32 (nR + 1)) ∧ z9_rRow b' m0 nR nS ∧ z9_rowW b' m0 nR ∧ z9_rowC b' m0 nR)) := by
  have hn := hd.1
  have hcc : ∀ k, k < n → cf k ≤ 126 := fun k hk => (hd.2.2 k hk).2
  unfold z9_cTail z9_mTail
  rw [show (32 : Int32) = z9_i32 32 from rfl, z9_r_skip hd he (by omega) (by decide), z9_r_next hA.1 hn hcc hA.2.1 hA.2.2 he (by omega) (by decide)]
  by_cases hs : p < e ∧ cf p = 32
  · rw [if_pos hs, if_pos hs]
    simp only [Option.bind_some]
    rw [if_neg (by decide), if_neg (by decide)]
    have hA1 : z9_rAt (M_put_at m (z9_i32 (p + 1))) n cf (p + 1) e := by
      unfold z9_rAt; simp only [z9_mp_at]; exact ⟨hA.1, trivial, hA.2.2⟩
    obtain ⟨m1, x1, n1, n2, n3, n4, n5, n6⟩ := z9_r_numM hn hcc hA1 he (by omega)
    unfold F_Rd_readCost
    rw [n1, z9_r_numC hd he (by omega)]
    simp only [Option.bind_some, n4, n3.2.1, n3.2.2]
    have hk := z9_nk_le cf (p + 1) e
    have hv := z9_nv_lt cf (p + 1) e
    rw [z9_aS_i (by omega) (by decide)]
    simp only [Option.bind_some, z9_rt]
    have hf1 : z9_mFrR m m1 := by
      have : z9_mFrR m (M_put_at m (z9_i32 (p + 1))) := by simp only [z9_mFrR_put]; exact z9_mFrR_rfl m
      exact z9_mFrR_trans this n6
    by_cases hk0 : z9_nk cf (p + 1) e = 0
    · have hx1 : x1 = 0 := by
        rcases n2 with ⟨q, _⟩ | ⟨_, q⟩
        · exact absurd hk0 q
        · exact q
      subst hx1
      simp only [hk0, if_true]
      exact ⟨0, _, _, m1, rfl, rfl, hf1, Or.inl rfl⟩
    · simp only [hk0, if_false, z9_i32_m1 (show z9_nv cf (p + 1) e < 2147483648 by omega), show (99 : Int32) = z9_i32 99 from rfl, z9_i32_lt (show 99 < 2147483648 by decide) (show z9_nv cf (p + 1) e < 2147483648 by omega), z9_i32_inj (show p + 1 + z9_nk cf (p + 1) e < 2147483648 by omega) (show e < 2147483648 by omega)]
      by_cases h99 : 99 < z9_nv cf (p + 1) e
      · simp only [h99, if_true]
        refine ⟨0, _, _, m1, rfl, ?_, hf1, Or.inl rfl⟩
        split <;> rfl
      · simp only [h99, if_false, Option.bind_some, rn_bl, show ¬ (1 : Int32) = 0 by decide, if_true, z9_rt, z9_i32_inj (show p + 1 + z9_nk cf (p + 1) e < 2147483648 by omega) (show e < 2147483648 by omega)]
        by_cases hpe : p + 1 + z9_nk cf (p + 1) e = e
        · have hx1 : x1 = 1 := by
            rcases n2 with ⟨_, _, q⟩ | ⟨q, _⟩
            · exact q
            · rcases q with q | q
              · exact absurd q hk0
              · unfold z9_fig at q; omega
          subst hx1
          simp only [hpe, not_true, if_false, if_true, show ¬ (1 : Int32) = 0 by decide]
          rw [z9_aS_i (by omega) (by decide)]
          simp only [Option.bind_some, z9_mp_costs]
          have hG1 : z9_bG m1 = z9_bG m := by rw [n5]; simp only [z9_fG]
          simp only [z9_bG, Prod.mk.injEq] at hG1
          obtain ⟨g1, g2, g3, g4, g5, g6, g7, g8⟩ := hG1
          have hrl : M_rules m = z9_i32 nR := h.1.2.2.2.1
          refine ⟨1, _, _, _, rfl, rfl, ?_, Or.inr ⟨rfl, rfl, ?_, M_put_costs m1 (fun j => if j = nR then z9_i32 (z9_nv cf (p + 1) e) else M_costs m1 j), ?_, ?_, ?_, ?_⟩⟩
          · simp only [z9_mFrR_put]; exact hf1
          · simp only [z9_gt]; exact h.1.2.2.1
          · rw [g1, hrl, show (1 : Int32) = z9_i32 1 from rfl, z9_i32_add]
          · refine z9_rRow_ext h ?_ ?_ ?_ ?_ ?_ ?_ ?_ ?_ ?_ ?_ ?_ ?_ ?_ ?_ ?_ ?_
            all_goals simp only [z9_gt, z9_mp_costs, g1, g2, g3, g4, g5, g6, g7, g8, implies_true]
            · intro r hr; rw [if_neg (by omega)]
            · intro r hr; rw [if_neg (by omega)]
          · unfold z9_rowW at *; simp only [z9_gt, z9_mp_costs, g6]; exact hW
          · unfold z9_rowC; simp only [z9_gt, z9_mp_costs, if_true]
            exact ⟨trivial, z9_nv cf (p + 1) e, by omega, rfl⟩
        · simp only [hpe, not_false_eq_true, if_true, if_false]
          refine ⟨0, _, _, m1, rfl, ?_, hf1, Or.inl rfl⟩
          split <;> rfl
  · rw [if_neg hs, if_neg hs]
    refine ⟨0, b, _, _, rfl, rfl, ?_, Or.inl rfl⟩
    simp only [z9_mFrR_put]; exact z9_mFrR_rfl m
theorem z9_r_weight {d : tD} {n : Nat} {cf : Nat → Nat} (hd : z9_rCF d n cf) {b : tG} {m : tM} {nR nS p e : Nat} (h : z9_rRow b m nR nS) (hR : nR < 12) (hA : z9_rAt m n cf p e) (he : e ≤ n) (hp : p ≤ e) :
    ∃ x b' r' m', (Option.bind (F_Rd_readWeight d b (z9_i32 p, z9_i32 e) (z9_i32 nR)) fun (x31, b32, r33) => if x31 = 0 then some ((0 : Int32), b32, r33) else z9_cTail d b32 r33 (z9_i32 nR)) = some (x, b', r') ∧
      (Option.bind (F_Md_number m) fun (x40, m41) => if ¬ x40 = 0 then (Option.bind (aS (M_weights m41) 12 (z9_i32 nR) ((M_value m41).toInt64)) fun f44 => Option.bind (F_Md_next (M_put_weights m41 f44) (47 : Int32)) fun (x48, m49) => if x48 = 0 then z9_mTail m49 (z9_i32 nR) else (Option.bind (F_Md_number m49) fun (x68, m69) => if x68 = 0 then some ((0 : Int32), m69) else (if ¬ ((M_value m69) - (M_value m69) / (2 : Int32) * (2 : Int32)) = 0 then (Option.bind (aG (M_weights m69) 12 (z9_i32 nR)) fun x73 => Option.bind (F_Md_inverse ((M_value m69).toInt64)) fun x77 => Option.bind (aS (M_weights m69) 12 (z9_i32 nR) (x73 * x77)) fun f79 => z9_mTail (M_put_weights m69 f79) (z9_i32 nR)) else some ((0 : Int32), m69)))) else some ((0 : Int32), m41)) = some (x, m') ∧
      z9_mFrR m m' ∧ (x = 0 ∨ (x = 1 ∧ r' = (z9_i32 e, z9_i32 e) ∧ G_ruleCount b' = z9_i32 nR ∧ ∃ m0, m' = M_put_rules m0 (z9_i32 (nR + 1)) ∧ z9_rRow b' m0 nR nS ∧ z9_rowW b' m0 nR ∧ z9_rowC b' m0 nR)) := by
  have hn := hd.1
  have hcc : ∀ k, k < n → cf k ≤ 126 := fun k hk => (hd.2.2 k hk).2
  have hk := z9_nk_le cf p e
  have hv := z9_nv_lt cf p e
  have hke := z9_nk_e (cf := cf) hp
  obtain ⟨m1, x1, n1, n2, n3, n4, n5, n6⟩ := z9_r_numM hn hcc hA he (by omega)
  rw [n1]
  unfold F_Rd_readWeight
  rw [z9_r_numC hd he (by omega)]
  simp only [Option.bind_some, n4]
  rcases n2 with ⟨hk0, hnf, rfl⟩ | ⟨hbad, rfl⟩
  ·
    simp only [show ¬ (1 : Int32) = 0 by decide, not_false_eq_true, if_true, hk0, if_false, z9_i32_m1 (show z9_nv cf p e < 2147483648 by omega)]
    rw [z9_aS_i (by omega) (by decide)]
    simp only [Option.bind_some]
    have hA1 : z9_rAt (M_put_weights m1 fun j => if j = nR then (z9_i32 (z9_nv cf p e)).toInt64 else M_weights m1 j) n cf (p + z9_nk cf p e) e := by
      unfold z9_rAt at n3 ⊢; simp only [z9_mp_weights]; exact n3
    rw [show (47 : Int32) = z9_i32 47 from rfl, z9_r_skip hd he (by omega) (by decide), z9_r_next hA1.1 hn hcc hA1.2.1 hA1.2.2 he (by omega) (by decide)]
    simp only [z9_bG, Prod.mk.injEq] at n5
    obtain ⟨g1, g2, g3, g4, g5, g6, g7, g8⟩ := n5
    by_cases hs : p + z9_nk cf p e < e ∧ cf (p + z9_nk cf p e) = 47
    · rw [if_pos hs, if_pos hs]
      simp only [Option.bind_some, show ¬ (1 : Int32) = 0 by decide, if_false]
      have hA2 : z9_rAt (M_put_at (M_put_weights m1 fun j => if j = nR then (z9_i32 (z9_nv cf p e)).toInt64 else M_weights m1 j) (z9_i32 (p + z9_nk cf p e + 1))) n cf (p + z9_nk cf p e + 1) e := by
        unfold z9_rAt at n3 ⊢; simp only [z9_mp_weights, z9_mp_at]; exact ⟨n3.1, trivial, n3.2.2⟩
      have hk2 := z9_nk_le cf (p + z9_nk cf p e + 1) e
      have hv2 := z9_nv_lt cf (p + z9_nk cf p e + 1) e
      have hke2 := z9_nk_e (cf := cf) (show p + z9_nk cf p e + 1 ≤ e by omega)
      obtain ⟨m2, x2, o1, o2, o3, o4, o5, o6⟩ := z9_r_numM hn hcc hA2 he (by omega)
      rw [o1, z9_r_numC hd he (by omega)]
      simp only [Option.bind_some, o4]
      simp only [z9_bG, z9_mp_weights, z9_mp_at, Prod.mk.injEq] at o5
      obtain ⟨g1', g2', g3', g4', g5', g6', g7', g8'⟩ := o5
      have hf2 : z9_mFrR m m2 := by
        have : z9_mFrR m (M_put_at (M_put_weights m1 fun j => if j = nR then (z9_i32 (z9_nv cf p e)).toInt64 else M_weights m1 j) (z9_i32 (p + z9_nk cf p e + 1))) := by simp only [z9_mFrR_put]; exact n6
        exact z9_mFrR_trans this o6
      rcases o2 with ⟨hk20, hnf2, rfl⟩ | ⟨hbad2, rfl⟩
      · simp only [hk20, if_false, show ¬ (1 : Int32) = 0 by decide, z9_i32_m1 (show z9_nv cf (p + z9_nk cf p e + 1) e < 2147483648 by omega), z9_r_par hv2]
        by_cases hodd : z9_nv cf (p + z9_nk cf p e + 1) e % 2 = 0
        · simp only [hodd, not_true, if_false]
          exact ⟨0, _, _, m2, rfl, rfl, hf2, Or.inl rfl⟩
        · simp only [hodd, not_false_eq_true, if_true]
          rw [z9_r_invC, z9_r_invM, z9_aG_i (by omega) (by decide)]
          simp only [Option.bind_some]
          rw [z9_aS_i (by omega) (by decide)]
          simp only [Option.bind_some]
          rw [z9_aS_i (by omega) (by decide)]
          simp only [Option.bind_some, show ¬ (1 : Int32) = 0 by decide, if_false]
          rw [z9_r_inv_all ⟨z9_nv cf (p + z9_nk cf p e + 1) e, hv2⟩ (show z9_nv cf (p + z9_nk cf p e + 1) e % 2 = 1 by omega)]
          have hA3 : z9_rAt (M_put_weights m2 fun j => if j = nR then M_weights m2 nR * z9_invK 6 (z9_i32 (z9_nv cf (p + z9_nk cf p e + 1) e)).toInt64 (z9_i32 (z9_nv cf (p + z9_nk cf p e + 1) e)).toInt64 else M_weights m2 j) n cf (p + z9_nk cf p e + 1 + z9_nk cf (p + z9_nk cf p e + 1) e) e := by
            unfold z9_rAt at o3 ⊢; simp only [z9_mp_weights]; exact o3
          have hw2 : M_weights m2 nR = (z9_i32 (z9_nv cf p e)).toInt64 := by rw [g6']; simp
          have hrow : z9_rRow (G_heads b, G_bodies b, G_bodyLengths b, (fun j => if j = nR then (z9_i32 (z9_nv cf p e)).toInt64 * z9_invK 6 (z9_i32 (z9_nv cf (p + z9_nk cf p e + 1) e)).toInt64 (z9_i32 (z9_nv cf (p + z9_nk cf p e + 1) e)).toInt64 else G_weights b j), G_costs b, G_capitals b, G_order b, G_ruleCount b, G_nonterminalCount b, G_reached b) (M_put_weights m2 fun j => if j = nR then M_weights m2 nR * z9_invK 6 (z9_i32 (z9_nv cf (p + z9_nk cf p e + 1) e)).toInt64 (z9_i32 (z9_nv cf (p + z9_nk cf p e + 1) e)).toInt64 else M_weights m2 j) nR nS := by
            refine z9_rRow_ext h ?_ ?_ ?_ ?_ ?_ ?_ ?_ ?_ ?_ ?_ ?_ ?_ ?_ ?_ ?_ ?_
            all_goals simp only [z9_gt, z9_mp_weights, g1', g2', g3', g4', g5', g6', g7', g8', g1, g2, g3, g4, g5, g6, g7, g8, implies_true]
            · intro r hr; rw [if_neg (by omega)]
            · intro r hr; rw [if_neg (by omega), if_neg (by omega)]
          have hW : z9_rowW (G_heads b, G_bodies b, G_bodyLengths b, (fun j => if j = nR then (z9_i32 (z9_nv cf p e)).toInt64 * z9_invK 6 (z9_i32 (z9_nv cf (p + z9_nk cf p e + 1) e)).toInt64 (z9_i32 (z9_nv cf (p + z9_nk cf p e + 1) e)).toInt64 else G_weights b j), G_costs b, G_capitals b, G_order b, G_ruleCount b, G_nonterminalCount b, G_reached b) (M_put_weights m2 fun j => if j = nR then M_weights m2 nR * z9_invK 6 (z9_i32 (z9_nv cf (p + z9_nk cf p e + 1) e)).toInt64 (z9_i32 (z9_nv cf (p + z9_nk cf p e + 1) e)).toInt64 else M_weights m2 j) nR := by
            unfold z9_rowW; simp only [z9_gt, z9_mp_weights, if_true, hw2]
          obtain ⟨x, b', r', m', t1, t2, t3, t4⟩ := z9_r_tail hd hrow hW hR hA3 he (by omega)
          refine ⟨x, b', r', m', t1, t2, ?_, t4⟩
          have : z9_mFrR m (M_put_weights m2 fun j => if j = nR then M_weights m2 nR * z9_invK 6 (z9_i32 (z9_nv cf (p + z9_nk cf p e + 1) e)).toInt64 (z9_i32 (z9_nv cf (p + z9_nk cf p e + 1) e)).toInt64 else M_weights m2 j) := by simp only [z9_mFrR_put]; exact hf2
          exact z9_mFrR_trans this t3
      · simp only [if_true]
        rcases hbad2 with hb | hb
        · simp only [hb, if_true]
          exact ⟨0, _, _, m2, rfl, rfl, hf2, Or.inl rfl⟩
        · have hk20 : z9_nk cf (p + z9_nk cf p e + 1) e ≠ 0 := z9_nk_fig hb
          simp only [hk20, if_false, z9_i32_m1 (show z9_nv cf (p + z9_nk cf p e + 1) e < 2147483648 by omega), z9_r_par hv2]
          by_cases hodd : z9_nv cf (p + z9_nk cf p e + 1) e % 2 = 0
          · simp only [hodd, not_true, if_false]
            exact ⟨0, _, _, m2, rfl, rfl, hf2, Or.inl rfl⟩
          · simp only [hodd, not_false_eq_true, if_true]
            rw [z9_r_invC]
            simp only [Option.bind_some]
            rw [z9_aS_i (by omega) (by decide)]
            simp only [Option.bind_some, show ¬ (1 : Int32) = 0 by decide, if_false]
            unfold z9_fig at hb
            rw [z9_cTail_no hd _ _ he hb.1 (by omega)]
            exact ⟨0, _, _, m2, rfl, rfl, hf2, Or.inl rfl⟩
    · rw [if_neg hs, if_neg hs]
      simp only [Option.bind_some, if_true, show ¬ (1 : Int32) = -1 by decide, if_false, show ¬ (1 : Int32) - 1 / 2 * 2 = 0 by decide, not_false_eq_true]
      rw [z9_r_invC]
      simp only [Option.bind_some]
      rw [z9_aS_i (by omega) (by decide)]
      simp only [Option.bind_some, z9_r_inv1, show ¬ (1 : Int32) = 0 by decide, if_false]
      have hA3 : z9_rAt (M_put_at (M_put_weights m1 fun j => if j = nR then (z9_i32 (z9_nv cf p e)).toInt64 else M_weights m1 j) (z9_i32 (p + z9_nk cf p e))) n cf (p + z9_nk cf p e) e := by
        unfold z9_rAt at n3 ⊢; simp only [z9_mp_weights, z9_mp_at]; exact ⟨n3.1, trivial, n3.2.2⟩
      have hrow : z9_rRow (G_heads b, G_bodies b, G_bodyLengths b, (fun j => if j = nR then (z9_i32 (z9_nv cf p e)).toInt64 else G_weights b j), G_costs b, G_capitals b, G_order b, G_ruleCount b, G_nonterminalCount b, G_reached b) (M_put_at (M_put_weights m1 fun j => if j = nR then (z9_i32 (z9_nv cf p e)).toInt64 else M_weights m1 j) (z9_i32 (p + z9_nk cf p e))) nR nS := by
        refine z9_rRow_ext h ?_ ?_ ?_ ?_ ?_ ?_ ?_ ?_ ?_ ?_ ?_ ?_ ?_ ?_ ?_ ?_
        all_goals simp only [z9_gt, z9_mp_weights, z9_mp_at, g1, g2, g3, g4, g5, g6, g7, g8, implies_true]
        · intro r hr; rw [if_neg (by omega)]
        · intro r hr; rw [if_neg (by omega)]
      have hW : z9_rowW (G_heads b, G_bodies b, G_bodyLengths b, (fun j => if j = nR then (z9_i32 (z9_nv cf p e)).toInt64 else G_weights b j), G_costs b, G_capitals b, G_order b, G_ruleCount b, G_nonterminalCount b, G_reached b) (M_put_at (M_put_weights m1 fun j => if j = nR then (z9_i32 (z9_nv cf p e)).toInt64 else M_weights m1 j) (z9_i32 (p + z9_nk cf p e))) nR := by
        unfold z9_rowW; simp only [z9_gt, z9_mp_weights, z9_mp_at, if_true]
      obtain ⟨x, b', r', m', t1, t2, t3, t4⟩ := z9_r_tail hd hrow hW hR hA3 he (by omega)
      refine ⟨x, b', r', m', t1, t2, ?_, t4⟩
      have : z9_mFrR m (M_put_at (M_put_weights m1 fun j => if j = nR then (z9_i32 (z9_nv cf p e)).toInt64 else M_weights m1 j) (z9_i32 (p + z9_nk cf p e))) := by simp only [z9_mFrR_put]; exact n6
      exact z9_mFrR_trans this t3
  · simp only [not_true, if_false]
    rcases hbad with hb | hb
    · simp only [hb, if_true]
      exact ⟨0, _, _, m1, rfl, rfl, n6, Or.inl rfl⟩
    · have hk0 : z9_nk cf p e ≠ 0 := z9_nk_fig hb
      unfold z9_fig at hb
      simp only [hk0, if_false, z9_i32_m1 (show z9_nv cf p e < 2147483648 by omega)]
      rw [show (47 : Int32) = z9_i32 47 from rfl, z9_r_skip hd he (by omega) (by decide), if_neg (by omega)]
      simp only [Option.bind_some, if_true, show ¬ (1 : Int32) = -1 by decide, if_false, show ¬ (1 : Int32) - 1 / 2 * 2 = 0 by decide, not_false_eq_true]
      rw [z9_r_invC]
      simp only [Option.bind_some]
      rw [z9_aS_i (by omega) (by decide)]
      simp only [Option.bind_some, show ¬ (1 : Int32) = 0 by decide, if_false]
      rw [z9_cTail_no hd _ _ he hb.1 (by omega)]
      exact ⟨0, _, _, m1, rfl, rfl, n6, Or.inl rfl⟩
theorem z9_r_rule {d : tD} {n : Nat} {cf : Nat → Nat} (hd : z9_rCF d n cf) {b : tG} {m : tM} {nR nS p e : Nat} (h : z9_RG b m nR nS) (hA : z9_rAt m n cf p e) (he : e ≤ n) (hp : p < e) :
    ∃ x b' r' m', F_Rd_readRule d b (z9_i32 p, z9_i32 e) = some (x, b', r') ∧ F_Md_ruleLine m = some (x, m') ∧ z9_mFrR m m' ∧ (x = 0 ∨ (x = 1 ∧ r' = (z9_i32 e, z9_i32 e) ∧ ∃ nS', z9_RG b' m' (nR + 1) nS')) := by
  have hn := hd.1
  have h' := h
  obtain ⟨h1, h2, h3, h4, h5, h6, h7, h8⟩ := h
  unfold F_Rd_readRule F_Md_ruleLine
  simp only [h3, h4, hA.2.1, hA.2.2, show (12 : Int32) = z9_i32 12 from rfl, z9_i32_inj (show nR < 2147483648 by omega) (show 12 < 2147483648 by decide), z9_i32_inj (show p < 2147483648 by omega) (show e < 2147483648 by omega), show ¬ p = e by omega, if_false]
  by_cases h12 : nR = 12
  · simp only [h12, not_true, if_false, if_true]
    exact ⟨0, b, _, m, rfl, rfl, z9_mFrR_rfl m, Or.inl rfl⟩
  simp only [h12, not_false_eq_true, if_true, if_false]
  have hR : nR < 12 := by omega
  have hc := (hd.2.2 p (by omega)).2
  unfold F_Rd_readHead F_Rd_readSymbol
  rw [z9_r_seen hd he (by omega), if_pos hp, z9_aG_i (by omega) (by decide), hA.1 p (by omega)]
  simp only [Option.bind_some, z9_r_cap (show cf p < 2147483648 by omega), z9_r_capM (show cf p < 2147483648 by omega), z9_b01_0]
  by_cases hcap : 65 ≤ cf p ∧ cf p ≤ 90
  · simp only [hcap, and_self, not_true, not_false_eq_true, if_true, if_false]
    obtain ⟨x, b1, m1, q1, q2, q3, q4, q5, q6, q7⟩ := z9_r_sym (c := cf p) h'
    have q5' := q5
    simp only [z9_mRows, Prod.mk.injEq] at q5
    rw [q1, q2]
    simp only [Option.bind_some]
    rw [z9_aS_i (by omega) (by decide), z9_aS_i (by omega) (by decide)]
    simp only [Option.bind_some]
    rw [z9_aG_i (by omega) (by decide)]
    simp only [Option.bind_some, if_true]
    rcases q7 with rfl | ⟨s, nS', rfl, hs, hnS, hRG⟩
    · simp only [if_true, Option.bind_some, show rn_bl 0 = some 0 from rfl, z9_mp_at, z9_mp_heads]
      rw [z9_aG_i (by omega) (by decide)]
      simp only [Option.bind_some, if_true, show ((-1 : Int32) < 0) = True from eq_true (by decide)]
      refine ⟨0, _, _, _, rfl, rfl, ?_, Or.inl rfl⟩
      simp only [z9_mFrR_put]; exact q3
    · have hs6 := hRG.2.1
      simp only [z9_i32_m1 (show s < 2147483648 by omega), if_false, Option.bind_some, show rn_bl 1 = some 1 from rfl, show ¬ (1 : Int32) = 0 by decide, z9_mp_at, z9_mp_heads]
      rw [z9_aG_i (by omega) (by decide)]
      simp only [Option.bind_some, if_true, z9_i32_n0 (show s < 2147483648 by omega), if_false, z9_rt, q5.2.2.2.2.2.1, hA.2.1, show z9_i32 p + 1 = z9_i32 (p + 1) from z9_i32_add p 1]
      have hA1 : z9_rAt (M_put_at (M_put_heads m1 fun j => if j = nR then z9_i32 s else M_heads m1 j) (z9_i32 (p + 1))) n cf (p + 1) e := by
        unfold z9_rAt; simp only [z9_mp_at, z9_mp_heads]; rw [q3.1, q5.2.2.2.2.2.2.1]; exact ⟨hA.1, trivial, hA.2.2⟩
      have hcc : ∀ k, k < n → cf k ≤ 126 := fun k hk => (hd.2.2 k hk).2
      rw [show (61 : Int32) = z9_i32 61 from rfl, z9_r_skip hd he (by omega) (by decide), z9_r_next hA1.1 hn hcc hA1.2.1 hA1.2.2 he (by omega) (by decide)]
      have hf1 : z9_mFrR m (M_put_at (M_put_heads m1 fun j => if j = nR then z9_i32 s else M_heads m1 j) (z9_i32 (p + 1))) := by simp only [z9_mFrR_put]; exact q3
      by_cases hs : p + 1 < e ∧ cf (p + 1) = 61
      · rw [if_pos hs, if_pos hs]
        simp only [Option.bind_some, show ¬ (1 : Int32) = 0 by decide, if_false]
        have hp1 : z9_rPart (fun j => if j = nR then z9_i32 s else G_heads b1 j, G_bodies b1, G_bodyLengths b1, G_weights b1, G_costs b1, G_capitals b1, G_order b1, G_ruleCount b1, G_nonterminalCount b1, G_reached b1) (M_put_lengths (M_put_at (M_put_at (M_put_heads m1 fun j => if j = nR then z9_i32 s else M_heads m1 j) (z9_i32 (p + 1))) (z9_i32 (p + 1 + 1))) (fun j => if j = nR then 0 else M_lengths m1 j)) nR nS' 0 := by
          refine ⟨z9_RG_ext hRG ?_ ?_ ?_ ?_ ?_ ?_ ?_ ?_ ?_ ?_ ?_ ?_ ?_ ?_ ?_ ?_, ?_, ?_, ?_⟩
          all_goals (try simp only [z9_gt, z9_mp_at, z9_mp_lengths, z9_mp_heads, implies_true, if_true])
          · intro r hr; rw [if_neg (by omega)]
          · intro r hr; rw [if_neg (by omega)]
          · intro r hr; rw [if_neg (by omega)]
          · unfold z9_rowH; simp only [z9_gt, z9_mp_at, z9_mp_lengths, z9_mp_heads, if_true]; exact ⟨trivial, s, by assumption, rfl⟩
          · rfl
          · intro k hk; omega
        have hA2 : z9_rAt (M_put_lengths (M_put_at (M_put_at (M_put_heads m1 fun j => if j = nR then z9_i32 s else M_heads m1 j) (z9_i32 (p + 1))) (z9_i32 (p + 1 + 1))) (fun j => if j = nR then 0 else M_lengths m1 j)) n cf (p + 1 + 1) e := by
          unfold z9_rAt at hA1 ⊢; simp only [z9_mp_at, z9_mp_lengths]; simp only [z9_mp_at] at hA1; exact ⟨hA1.1, trivial, hA1.2.2⟩
        obtain ⟨m2, u1, u2, u3⟩ := z9_r_bodyL hd he hR 4 0 rn_fu rn_fu _ _ (p + 1 + 1) nS' rfl (by decide) (by decide) hp1 hA2 (by omega)
        have hf2 : z9_mFrR m m2 := z9_mFrR_trans (by simp only [z9_mFrR_put]; exact q3) u1
        unfold F_Rd_readBody F_Md_body
        rw [z9_aS_i (by omega) (by decide)]
        simp only [Option.bind_some, z9_mp_at, z9_mp_heads]
        rcases u3 with ⟨b2, r2, v1, v2⟩ | ⟨b2, p2, j2, hj2, v1, v2, v3, v4⟩ | ⟨b2, p2, j2, nS2, hj2, v1, v2, v3, v4, v5⟩
        · rw [show F_Rd_readBody_L2 d (z9_i32 nR) rn_fu _ (z9_i32 (p + 1 + 1), z9_i32 e) 0 = _ from v1, v2]
          simp only [Option.bind_some, if_true]
          exact ⟨0, _, _, m2, rfl, rfl, hf2, Or.inl rfl⟩
        · rw [show F_Rd_readBody_L2 d (z9_i32 nR) rn_fu _ (z9_i32 (p + 1 + 1), z9_i32 e) 0 = _ from v1, v2]
          simp only [Option.bind_some, if_true]
          rw [z9_aS_i (by omega) (by decide)]
          simp only [Option.bind_some, show ¬ (1 : Int32) = 0 by decide, if_false]
          rw [show (32 : Int32) = z9_i32 32 from rfl, z9_r_skip hd he (by omega) (by decide), if_neg (by omega)]
          exact ⟨0, _, _, m2, rfl, rfl, hf2, Or.inl rfl⟩
        · rw [show F_Rd_readBody_L2 d (z9_i32 nR) rn_fu _ (z9_i32 (p + 1 + 1), z9_i32 e) 0 = _ from v1, v2]
          simp only [Option.bind_some]
          rw [z9_aS_i (by omega) (by decide)]
          simp only [Option.bind_some, show ¬ (1 : Int32) = 0 by decide, if_false]
          rw [show (32 : Int32) = z9_i32 32 from rfl, z9_r_skip hd he (by omega) (by decide), z9_r_next v4.1 hn hcc v4.2.1 v4.2.2 he (by omega) (by decide)]
          by_cases hsp : p2 < e ∧ cf p2 = 32
          · rw [if_pos hsp, if_pos hsp]
            simp only [Option.bind_some, show ¬ (1 : Int32) = 0 by decide, if_false]
            have hA3 : z9_rAt (M_put_at m2 (z9_i32 (p2 + 1))) n cf (p2 + 1) e := by
              unfold z9_rAt at v4 ⊢; simp only [z9_mp_at]; exact ⟨v4.1, trivial, v4.2.2⟩
            have hrow : z9_rRow (G_heads b2, G_bodies b2, (fun j => if j = nR then z9_i32 j2 else G_bodyLengths b2 j), G_weights b2, G_costs b2, G_capitals b2, G_order b2, G_ruleCount b2, G_nonterminalCount b2, G_reached b2) (M_put_at m2 (z9_i32 (p2 + 1))) nR nS2 := by
              obtain ⟨w1, w2, w3, w4⟩ := v3
              refine ⟨z9_RG_ext w1 ?_ ?_ ?_ ?_ ?_ ?_ ?_ ?_ ?_ ?_ ?_ ?_ ?_ ?_ ?_ ?_, z9_rowH_ext ?_ ?_ w2, j2, hj2, ?_, ?_, ?_⟩
              all_goals (try simp only [z9_gt, z9_mp_at, implies_true, if_true])
              · intro r hr; rw [if_neg (by omega)]
              · exact w3
              · intro k hk
                have := w4 k hk
                unfold z9_symOK at *; simp only [z9_gt, z9_mp_at]; exact this
            obtain ⟨x, b', r', m', t1, t2, t3, t4⟩ := z9_r_weight hd hrow hR hA3 he (by omega)
            simp only [z9_cTail, show (32 : Int32) = z9_i32 32 from rfl] at t1
            simp only [z9_mTail, show (32 : Int32) = z9_i32 32 from rfl] at t2
            have hf3 : z9_mFrR m m' := z9_mFrR_trans hf2 (z9_mFrR_trans (by simp only [z9_mFrR_put]; exact z9_mFrR_rfl m2) t3)
            rw [t1, t2]
            rcases t4 with rfl | ⟨rfl, hr', hrc, m0, hm', k1, k2, k3⟩
            · simp only [Option.bind_some, if_true]
              exact ⟨0, _, _, m', rfl, rfl, hf3, Or.inl rfl⟩
            · simp only [Option.bind_some, show ¬ (1 : Int32) = 0 by decide, if_false, show rn_bl 1 = some 1 from rfl]
              refine ⟨1, _, _, m', rfl, rfl, hf3, Or.inr ⟨rfl, hr', nS2, ?_⟩⟩
              rw [hm']
              refine z9_RG_next k1 k2 k3 hR ?_ ?_ ?_ ?_ ?_ ?_ ?_ ?_
              all_goals simp only [z9_gt, hrc]
              exact z9_i32_add nR 1
          · rw [if_neg hsp, if_neg hsp]
            refine ⟨0, _, _, _, rfl, rfl, ?_, Or.inl rfl⟩
            simp only [z9_mFrR_put]; exact hf2
      · rw [if_neg hs, if_neg hs]
        refine ⟨0, _, _, _, rfl, rfl, ?_, Or.inl rfl⟩
        simp only [z9_mFrR_put]; exact q3
  · simp only [hcap, not_true, not_false_eq_true, if_true, if_false]
    exact ⟨0, _, _, m, rfl, rfl, z9_mFrR_rfl m, Or.inl rfl⟩
def z9_nl (cf : Nat → Nat) : Nat → Nat
  | 0 => 0
  | k + 1 => z9_nl cf k + if cf k = 10 then 1 else 0
theorem z9_nl_mono (cf : Nat → Nat) {p q : Nat} (h : p ≤ q) : z9_nl cf p ≤ z9_nl cf q := by
  induction q with
  | zero => have : p = 0 := by omega
            subst this; exact Nat.le_refl _
  | succ q ih =>
    by_cases hh : p = q + 1
    · subst hh; exact Nat.le_refl _
    · have := ih (by omega); simp only [z9_nl]; omega
theorem z9_nl_le (cf : Nat → Nat) (q : Nat) : z9_nl cf q ≤ q := by
  induction q with
  | zero => exact Nat.le_refl _
  | succ q ih => simp only [z9_nl]; split <;> omega
theorem z9_nl_same (cf : Nat → Nat) {p q : Nat} (h : p ≤ q) (hq : ∀ k, p ≤ k → k < q → cf k ≠ 10) : z9_nl cf q = z9_nl cf p := by
  induction q with
  | zero => have : p = 0 := by omega
            subst this; rfl
  | succ q ih =>
    by_cases hh : p = q + 1
    · subst hh; rfl
    · simp only [z9_nl]; rw [if_neg (hq q (by omega) (by omega)), ih (by omega) (fun k h1 h2 => hq k h1 (by omega))]; rfl
theorem z9_r_lineCount {d : tD} {n : Nat} {cf : Nat → Nat} (hd : z9_rCF d n cf) : F_Dr_lineCount d = some (z9_i32 (1 + z9_nl cf n)) := by
  have hn := hd.1
  have : F_Dr_lineCount_L4 d rn_fu (z9_i32 1) (z9_i32 0) = some (z9_i32 (1 + z9_nl cf n)) := by
    refine z9_forU (L := fun n (x : Int32) k => F_Dr_lineCount_L4 d n x k) (Q := fun o => o = some (z9_i32 (1 + z9_nl cf n))) (P := fun k x => x = z9_i32 (1 + z9_nl cf k)) (K := n) 0 (z9_i32 1) (by omega) (by omega) rfl ?_ ?_
    · intro f x hx
      simp only [F_Dr_lineCount_L4, hd.2.1, Int32.le_refl, if_true, hx]
    · intro f x k hk hx
      left
      have hc := hd.2.2 k hk
      simp only [F_Dr_lineCount_L4, hd.2.1, z9_i32_le (show n < 2147483648 by omega) (show k < 2147483648 by omega)]
      rw [if_neg (by omega), z9_aG_i (by omega) (by decide), hc.1]
      simp only [Option.bind_some, show (10 : Int32) = z9_i32 10 from rfl, z9_i32_inj (show cf k < 2147483648 by omega) (show 10 < 2147483648 by decide)]
      refine ⟨z9_i32 (1 + z9_nl cf (k + 1)), ?_, rfl⟩
      by_cases h10 : cf k = 10
      · simp only [h10, not_true, if_false, Option.bind_some, z9_nl, hx, if_true, show z9_i32 (1 + z9_nl cf k) + 1 = z9_i32 (1 + z9_nl cf k + 1) from z9_i32_add _ 1, Nat.add_assoc]
      · simp only [h10, not_false_eq_true, if_true, Option.bind_some, z9_nl, hx, if_false, Nat.add_zero]
  unfold F_Dr_lineCount
  rw [show F_Dr_lineCount_L4 d rn_fu 1 0 = _ from this]; rfl
theorem z9_r_lineEnd {d : tD} {m : tM} {n : Nat} {cf : Nat → Nat} (hd : z9_rCF d n cf) (hm : z9_rSF (M_src m) n cf) {p : Nat} (hp : p ≤ n) (y z : Int32) : ∃ q, p ≤ q ∧ q ≤ n ∧ (q = n ∨ cf q = 10) ∧ (∀ k, p ≤ k → k < q → cf k ≠ 10) ∧ F_Dr_lineEnd d (z9_i32 p) = some (z9_i32 q) ∧ F_Md_readGrammar_L22 m (z9_i32 n) y z rn_fu (z9_i32 p) = some (z9_i32 q) := by
  have hn := hd.1
  have key : ∃ q, p ≤ q ∧ q ≤ n ∧ (q = n ∨ cf q = 10) ∧ (∀ k, p ≤ k → k < q → cf k ≠ 10) ∧ (Option.bind (F_Dr_lineEnd_L2 d rn_fu (z9_i32 p)) fun z5 => match z5 with | .inl r4 => some r4 | .inr _ => some (D_length d)) = some (z9_i32 q) ∧ F_Md_readGrammar_L22 m (z9_i32 n) y z rn_fu (z9_i32 p) = some (z9_i32 q) := by
    refine z9_forU (L := fun f (_ : Unit) k => (F_Dr_lineEnd_L2 d f k, F_Md_readGrammar_L22 m (z9_i32 n) y z f k)) (Q := fun o => ∃ q, p ≤ q ∧ q ≤ n ∧ (q = n ∨ cf q = 10) ∧ (∀ k, p ≤ k → k < q → cf k ≠ 10) ∧ (Option.bind o.1 fun z5 => match z5 with | .inl r4 => some r4 | .inr _ => some (D_length d)) = some (z9_i32 q) ∧ o.2 = some (z9_i32 q)) (P := fun k _ => p ≤ k ∧ ∀ l, p ≤ l → l < k → cf l ≠ 10) (K := n) p () hp (by omega) ⟨Nat.le_refl _, fun l h1 h2 => by omega⟩ ?_ ?_
    · intro f _ hP
      refine ⟨n, hP.1, Nat.le_refl _, Or.inl rfl, hP.2, ?_, ?_⟩
      · simp only [F_Dr_lineEnd_L2, hd.2.1, Int32.le_refl, if_true, Option.bind_some]
      · simp only [F_Md_readGrammar_L22, Int32.le_refl, if_true]
    · intro f _ k hk hP
      have hc := hd.2.2 k hk
      simp only [F_Dr_lineEnd_L2, F_Md_readGrammar_L22, hd.2.1, z9_i32_le (show n < 2147483648 by omega) (show k < 2147483648 by omega)]
      rw [if_neg (by omega), if_neg (by omega), z9_aG_i (by omega) (by decide), z9_aG_i (by omega) (by decide), hc.1, hm k hk]
      simp only [Option.bind_some, show (10 : Int32) = z9_i32 10 from rfl, z9_i32_inj (show cf k < 2147483648 by omega) (show 10 < 2147483648 by decide)]
      by_cases h10 : cf k = 10
      · right
        simp only [h10, not_true, if_false, if_true]
        exact ⟨k, hP.1, by omega, Or.inr h10, hP.2, rfl, rfl⟩
      · left
        simp only [h10, not_false_eq_true, if_true, if_false]
        refine ⟨(), trivial, by omega, ?_⟩
        intro l h1 h2
        by_cases hh : l = k
        · subst hh; exact h10
        · exact hP.2 l h1 (by omega)
  exact key
theorem z9_r_leftOut {d : tD} {n : Nat} {cf : Nat → Nat} (hd : z9_rCF d n cf) {p e : Nat} (he : e ≤ n) (hp : p ≤ e) : F_Rd_isLeftOut d (z9_i32 p, z9_i32 e) = some (z9_b01 (p = e ∨ cf p = 35)) := by
  have hn := hd.1
  unfold F_Rd_isLeftOut F_Rd_sees
  rw [z9_r_seen hd he (by omega)]
  simp only [z9_rt, Option.bind_some, z9_i32_inj (show p < 2147483648 by omega) (show e < 2147483648 by omega)]
  by_cases h : p = e
  · subst h
    simp only [if_true, true_or]; rfl
  · have hc := (hd.2.2 p (by omega)).2
    simp only [h, if_false, show p < e by omega, if_true, false_or, show (35 : Int32) = z9_i32 35 from rfl, z9_i32_inj (show cf p < 2147483648 by omega) (show 35 < 2147483648 by decide)]
    by_cases h2 : cf p = 35
    · simp only [h2, not_true, if_false]; rfl
    · simp only [h2, not_false_eq_true, if_true]; rfl
def z9_rLineQ (cf : Nat → Nat) (n : Nat) (m : tM) (o1 : Option ((Int32 × tG × tR) ⊕ (tG × tR))) (o2 : Option ((Int32 × tM) ⊕ (Int32 × tM))) : Prop :=
  ∃ m', z9_mFrR m m' ∧ ((∃ l b' r', 1 ≤ l ∧ l ≤ z9_nl cf n + 1 ∧ o1 = some (.inl (z9_i32 l, b', r')) ∧ o2 = some (.inl (z9_i32 l, m'))) ∨ (∃ b' r' nR nS, o1 = some (.inr (b', r')) ∧ o2 = some (.inr (z9_i32 (z9_nl cf n + 2), m')) ∧ z9_RG b' m' nR nS))
theorem z9_rLineQ_trans {cf : Nat → Nat} {n : Nat} {m m1 : tM} {o1 o2} (h : z9_rLineQ cf n m1 o1 o2) (hf : z9_mFrR m m1) : z9_rLineQ cf n m o1 o2 := by
  obtain ⟨m', h1, h2⟩ := h
  exact ⟨m', z9_mFrR_trans hf h1, h2⟩
theorem z9_r_lines {d : tD} {n : Nat} {cf : Nat → Nat} (hd : z9_rCF d n cf) : ∀ (t l f1 f2 : Nat) (b : tG) (r : tR) (m : tM) (p nR nS : Nat), l + t = z9_nl cf n + 2 → 1 ≤ l → t < f1 → t < f2 → R_end r + 1 = z9_i32 p → ((p ≤ n ∧ z9_nl cf p + 1 = l) ∨ (p = n + 1 ∧ l = z9_nl cf n + 2)) → z9_RG b m nR nS → z9_rSF (M_src m) n cf →
    z9_rLineQ cf n m (F_Rd_firstWrongLine_L17 d (z9_i32 (z9_nl cf n + 1)) f1 b r (z9_i32 l)) (F_Md_readGrammar_L14 (z9_i32 n) f2 m (z9_i32 p) (z9_i32 l)) := by
  intro t
  have hn := hd.1
  have hnl := z9_nl_le cf n
  induction t with
  | zero =>
    intro l f1 f2 b r m p nR nS hl h1 hf1 hf2 hr hp hG hm
    obtain ⟨f1, rfl⟩ : ∃ k, f1 = k + 1 := ⟨f1 - 1, by omega⟩
    obtain ⟨f2, rfl⟩ : ∃ k, f2 = k + 1 := ⟨f2 - 1, by omega⟩
    have hpn : p = n + 1 := by
      rcases hp with ⟨q1, q2⟩ | ⟨q, _⟩
      · have := z9_nl_mono cf q1; omega
      · exact q
    simp only [F_Rd_firstWrongLine_L17, F_Md_readGrammar_L14, z9_i32_lt (show z9_nl cf n + 1 < 2147483648 by omega) (show l < 2147483648 by omega), z9_i32_lt (show n < 2147483648 by omega) (show p < 2147483648 by omega)]
    rw [if_pos (by omega), if_pos (by omega), show l = z9_nl cf n + 2 by omega]
    exact ⟨m, z9_mFrR_rfl m, Or.inr ⟨b, r, nR, nS, rfl, rfl, hG⟩⟩
  | succ t ih =>
    intro l f1 f2 b r m p nR nS hl h1 hf1 hf2 hr hp hG hm
    obtain ⟨f1, rfl⟩ : ∃ k, f1 = k + 1 := ⟨f1 - 1, by omega⟩
    obtain ⟨f2, rfl⟩ : ∃ k, f2 = k + 1 := ⟨f2 - 1, by omega⟩
    have hpn : p ≤ n ∧ z9_nl cf p + 1 = l := by
      rcases hp with q | ⟨q1, q2⟩
      · exact q
      · omega
    simp only [F_Rd_firstWrongLine_L17, F_Md_readGrammar_L14, z9_i32_lt (show z9_nl cf n + 1 < 2147483648 by omega) (show l < 2147483648 by omega), z9_i32_lt (show n < 2147483648 by omega) (show p < 2147483648 by omega)]
    rw [if_neg (by omega), if_neg (by omega)]
    obtain ⟨q, q1, q2, q3, q4, q5, q6⟩ := z9_r_lineEnd hd hm hpn.1 (z9_i32 p) (z9_i32 l)
    rw [hr, q5, q6]
    simp only [Option.bind_some, z9_mp_end, z9_mp_at, z9_r_leftOut hd q2 q1, z9_b01_0, z9_i32_inj (show q < 2147483648 by omega) (show p < 2147483648 by omega)]
    have hnq := z9_nl_same cf q1 q4
    have hnext : (q + 1 ≤ n ∧ z9_nl cf (q + 1) + 1 = l + 1) ∨ (q + 1 = n + 1 ∧ l + 1 = z9_nl cf n + 2) := by
      by_cases hqn : q = n
      · right; subst hqn; omega
      · left
        have h10 : cf q = 10 := by rcases q3 with q3 | q3; exact absurd q3 hqn; exact q3
        refine ⟨by omega, ?_⟩
        simp only [z9_nl]; rw [if_pos h10]; omega
    have hf1' : z9_mFrR m (M_put_end (M_put_at m (z9_i32 p)) (z9_i32 q)) := by simp only [z9_mFrR_put]; exact z9_mFrR_rfl m
    have hA : z9_rAt (M_put_end (M_put_at m (z9_i32 p)) (z9_i32 q)) n cf p q := by
      unfold z9_rAt; simp only [z9_mp_end, z9_mp_at]; exact ⟨hm, trivial, trivial⟩
    have hG1 : z9_RG b (M_put_end (M_put_at m (z9_i32 p)) (z9_i32 q)) nR nS := by
      refine z9_RG_ext hG ?_ ?_ ?_ ?_ ?_ ?_ ?_ ?_ ?_ ?_ ?_ ?_ ?_ ?_ ?_ ?_
      all_goals (try simp only [z9_mp_end, z9_mp_at, implies_true])
    by_cases hleft : p = q ∨ cf p = 35
    · have hmod : (if q = p then some (1 : Int32) else (aG (M_src m) 300 (z9_i32 p)).bind fun x11 => if ¬ x11 = 35 then some 0 else some 1) = some 1 := by
        by_cases hqp : q = p
        · rw [if_pos hqp]
        · have hc35 : cf p = 35 := by
            rcases hleft with h | h
            · exact absurd h.symm hqp
            · exact h
          rw [if_neg hqp, z9_aG_i (by omega) (by decide), hm p (by omega), hc35]; rfl
      rw [hmod]
      simp only [hleft, not_true, not_false_eq_true, if_true, Option.bind_some, show ¬ (1 : Int32) = 0 by decide]
      rw [show z9_i32 l + 1 = z9_i32 (l + 1) from z9_i32_add l 1, show z9_i32 q + 1 = z9_i32 (q + 1) from z9_i32_add q 1]
      refine z9_rLineQ_trans (ih (l + 1) f1 f2 b _ _ (q + 1) nR nS (by omega) (by omega) (by omega) (by omega) ?_ hnext hG1 hA.1) hf1'
      simp only [z9_rt]; exact z9_i32_add q 1
    · have hmod : (if q = p then some (1 : Int32) else (aG (M_src m) 300 (z9_i32 p)).bind fun x11 => if ¬ x11 = 35 then some 0 else some 1) = some 0 := by
        rw [if_neg (fun h => hleft (Or.inl h.symm)), z9_aG_i (by omega) (by decide), hm p (by omega)]
        have hc := (hd.2.2 p (by omega)).2
        simp only [Option.bind_some, show (35 : Int32) = z9_i32 35 from rfl, z9_i32_inj (show cf p < 2147483648 by omega) (show 35 < 2147483648 by decide)]
        rw [if_pos (fun h => hleft (Or.inr h))]
      rw [hmod]
      simp only [hleft, not_true, not_false_eq_true, if_true, if_false, Option.bind_some]
      obtain ⟨x, b', r', m', t1, t2, t3, t4⟩ := z9_r_rule hd hG1 hA q2 (by omega)
      rw [t1, t2]
      simp only [Option.bind_some]
      rcases t4 with rfl | ⟨rfl, hr', nS', hRG⟩
      · simp only [not_true, if_false]
        exact ⟨m', z9_mFrR_trans hf1' t3, Or.inl ⟨l, b', r', h1, by omega, rfl, rfl⟩⟩
      · simp only [show ¬ (1 : Int32) = 0 by decide, not_false_eq_true, if_true]
        rw [show z9_i32 l + 1 = z9_i32 (l + 1) from z9_i32_add l 1, show z9_i32 q + 1 = z9_i32 (q + 1) from z9_i32_add q 1]
        refine z9_rLineQ_trans (ih (l + 1) f1 f2 b' r' m' (q + 1) (nR + 1) nS' (by omega) (by omega) (by omega) (by omega) ?_ hnext hRG ?_) (z9_mFrR_trans hf1' t3)
        · rw [hr']; simp only [z9_rt]; exact z9_i32_add q 1
        · rw [t3.1]; exact hA.1
theorem z9_r_read {d : tD} {b : tG} {m : tM} {n : Nat} {cf : Nat → Nat} (hd : z9_rCF d n cf) (hm : z9_rSF (M_src m) n cf) :
    ∃ x b' r' m', F_Rd_firstWrongLine d b (0, -1) = some (x, b', r') ∧ F_Md_readGrammar m (z9_i32 n) = some (x, m') ∧ z9_mFrR m m' ∧ ((∃ l, 1 ≤ l ∧ l ≤ 302 ∧ x = z9_i32 l) ∨ (x = 0 ∧ ∃ nR nS, 0 < nR ∧ z9_RG b' m' nR nS)) := by
  have hn := hd.1
  have hnl := z9_nl_le cf n
  unfold F_Rd_firstWrongLine F_Md_readGrammar F_Gr_clear
  rw [z9_r_lineCount hd, Nat.add_comm 1]
  simp only [Option.bind_some]
  have hG0 : z9_RG (G_heads b, G_bodies b, G_bodyLengths b, G_weights b, G_costs b, G_capitals b, G_order b, 0, 0, G_reached b) (M_put_symbols (M_put_rules m 0) 0) 0 0 := by
    refine ⟨by omega, by omega, ?_, ?_, ?_, ?_, ?_, ?_⟩
    · simp only [z9_gt]; rfl
    · simp only [z9_mp_symbols, z9_mp_rules]; rfl
    · simp only [z9_gt]; rfl
    · simp only [z9_mp_symbols]; rfl
    · intro s hs; omega
    · intro r hr; omega
  have hm0 : z9_rSF (M_src (M_put_symbols (M_put_rules m 0) 0)) n cf := by simp only [z9_mp_symbols, z9_mp_rules]; exact hm
  have hf0 : z9_mFrR m (M_put_symbols (M_put_rules m 0) 0) := by simp only [z9_mFrR_put]; exact z9_mFrR_rfl m
  obtain ⟨m', h1, h2⟩ := z9_r_lines hd (z9_nl cf n + 1) 1 rn_fu rn_fu _ (0, -1) _ 0 0 0 (by omega) (by omega) (show z9_nl cf n + 1 < 1000000 by omega) (show z9_nl cf n + 1 < 1000000 by omega) rfl (Or.inl ⟨by omega, rfl⟩) hG0 hm0
  rcases h2 with ⟨l, b', r', l1, l2, e1, e2⟩ | ⟨b', r', nR, nS, e1, e2, hG⟩
  · rw [show F_Rd_firstWrongLine_L17 d (z9_i32 (z9_nl cf n + 1)) rn_fu _ (0, -1) 1 = _ from e1, show F_Md_readGrammar_L14 (z9_i32 n) rn_fu _ 0 1 = _ from e2]
    exact ⟨z9_i32 l, b', r', m', rfl, rfl, z9_mFrR_trans hf0 h1, Or.inl ⟨l, l1, by omega, rfl⟩⟩
  · rw [show F_Rd_firstWrongLine_L17 d (z9_i32 (z9_nl cf n + 1)) rn_fu _ (0, -1) 1 = _ from e1, show F_Md_readGrammar_L14 (z9_i32 n) rn_fu _ 0 1 = _ from e2]
    have hr := hG.1
    simp only [Option.bind_some, hG.2.2.1, hG.2.2.2.1, show (0 : Int32) = z9_i32 0 from rfl, z9_i32_inj (show nR < 2147483648 by omega) (show 0 < 2147483648 by decide)]
    by_cases h0 : nR = 0
    · simp only [h0, not_true, if_false, Option.bind_some]
      exact ⟨z9_i32 (z9_nl cf n + 2), b', r', m', by rw [show z9_i32 (z9_nl cf n + 1) + 1 = z9_i32 (z9_nl cf n + 2) from z9_i32_add _ 1], rfl, z9_mFrR_trans hf0 h1, Or.inl ⟨z9_nl cf n + 2, by omega, by omega, rfl⟩⟩
    · simp only [h0, not_false_eq_true, if_true, Option.bind_some]
      exact ⟨z9_i32 0, b', r', m', rfl, rfl, z9_mFrR_trans hf0 h1, Or.inr ⟨rfl, nR, nS, by omega, hG⟩⟩
