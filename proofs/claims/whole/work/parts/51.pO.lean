abbrev z9_tA : Type := Nat × Nat × (Nat → Nat) × (Nat → Nat) × (Nat → Nat → Nat) × (Nat → Int64) × (Nat → Nat)
def z9_A_nR (g : z9_tA) : Nat := g.1
def z9_A_nS (g : z9_tA) : Nat := g.2.1
def z9_A_hd (g : z9_tA) : Nat → Nat := g.2.2.1
def z9_A_ln (g : z9_tA) : Nat → Nat := g.2.2.2.1
def z9_A_bd (g : z9_tA) : Nat → Nat → Nat := g.2.2.2.2.1
def z9_A_wt (g : z9_tA) : Nat → Int64 := g.2.2.2.2.2.1
def z9_A_ct (g : z9_tA) : Nat → Nat := g.2.2.2.2.2.2
def z9_gOK (g : z9_tA) : Prop := 0 < z9_A_nR g ∧ z9_A_nR g ≤ 12 ∧ z9_A_nS g ≤ 6 ∧ ∀ r, r < z9_A_nR g → z9_A_hd g r < z9_A_nS g ∧ z9_A_ln g r ≤ 4 ∧ z9_A_ct g r ≤ 99 ∧ ∀ k, k < z9_A_ln g r → (z9_A_bd g r k < z9_A_nS g ∨ (97 ≤ z9_A_bd g r k ∧ z9_A_bd g r k ≤ 122))
def z9_gIs (a : tG) (g : z9_tA) : Prop := G_ruleCount a = z9_i32 (z9_A_nR g) ∧ G_nonterminalCount a = z9_i32 (z9_A_nS g) ∧ ∀ r, r < z9_A_nR g → G_heads a r = z9_i32 (z9_A_hd g r) ∧ G_bodyLengths a r = z9_i32 (z9_A_ln g r) ∧ (∀ k, k < z9_A_ln g r → G_bodies a (4 * r + k) = z9_i32 (z9_A_bd g r k)) ∧ G_weights a r = z9_A_wt g r ∧ G_costs a r = z9_i32 (z9_A_ct g r)
def z9_mIs (m : tM) (g : z9_tA) : Prop := M_rules m = z9_i32 (z9_A_nR g) ∧ M_symbols m = z9_i32 (z9_A_nS g) ∧ ∀ r, r < z9_A_nR g → M_heads m r = z9_i32 (z9_A_hd g r) ∧ M_lengths m r = z9_i32 (z9_A_ln g r) ∧ (∀ k, k < z9_A_ln g r → M_bodies m (4 * r + k) = z9_i32 (z9_A_bd g r k)) ∧ M_weights m r = z9_A_wt g r ∧ M_costs m r = z9_i32 (z9_A_ct g r)
theorem z9_mIs_fr {m m' : tM} {g : z9_tA} (h : z9_mIs m g) (e : z9_bG m' = z9_bG m) : z9_mIs m' g := by
  simp only [z9_bG, Prod.mk.injEq] at e
  obtain ⟨e1, e2, e3, e4, e5, e6, e7, e8⟩ := e
  unfold z9_mIs at *
  rw [e1, e2, e3, e4, e5, e6, e7]; exact h
theorem z9_i32_self {x : Int32} {n : Nat} (hn : n < 2147483648) (h : x = z9_i32 n) : x = z9_i32 x.toNatClampNeg := by
  rw [h, z9_i32_nat hn]
theorem z9_RG_abs {b : tG} {m : tM} {nR nS : Nat} (h : z9_RG b m nR nS) (h0 : 0 < nR) : ∃ g, z9_A_nR g = nR ∧ z9_A_nS g = nS ∧ z9_gOK g ∧ z9_gIs b g ∧ z9_mIs m g ∧ ∀ s, s < nS → G_capitals b s = M_names m s := by
  obtain ⟨h1, h2, h3, h4, h5, h6, h7, h8⟩ := h
  refine ⟨(nR, nS, fun r => (G_heads b r).toNatClampNeg, fun r => (G_bodyLengths b r).toNatClampNeg, fun r k => (G_bodies b (4 * r + k)).toNatClampNeg, fun r => G_weights b r, fun r => (G_costs b r).toNatClampNeg), rfl, rfl, ⟨h0, h1, h2, ?_⟩, ⟨h3, h5, ?_⟩, ⟨h4, h6, ?_⟩, h7⟩
  · intro r hr
    obtain ⟨⟨a1, x, a2, a3⟩, ⟨l, b1, b2, b3, b4⟩, c1, ⟨d1, c, d2, d3⟩⟩ := h8 r hr
    refine ⟨?_, ?_, ?_, ?_⟩
    · show (G_heads b r).toNatClampNeg < nS
      rw [a3, z9_i32_nat (by omega)]; exact a2
    · show (G_bodyLengths b r).toNatClampNeg ≤ 4
      rw [b2, z9_i32_nat (by omega)]; exact b1
    · show (G_costs b r).toNatClampNeg ≤ 99
      rw [d3, z9_i32_nat (by omega)]; exact d2
    · intro k hk
      have hk' : k < l := by
        have : k < (G_bodyLengths b r).toNatClampNeg := hk
        rw [b2, z9_i32_nat (by omega)] at this; exact this
      obtain ⟨_, s, s1, s2⟩ := b4 k hk'
      show (G_bodies b (4 * r + k)).toNatClampNeg < nS ∨ (97 ≤ (G_bodies b (4 * r + k)).toNatClampNeg ∧ (G_bodies b (4 * r + k)).toNatClampNeg ≤ 122)
      rw [s2, z9_i32_nat (by omega)]; exact s1
  · intro r hr
    obtain ⟨⟨a1, x, a2, a3⟩, ⟨l, b1, b2, b3, b4⟩, c1, ⟨d1, c, d2, d3⟩⟩ := h8 r hr
    refine ⟨z9_i32_self (by omega) a3, z9_i32_self (by omega) b2, ?_, rfl, z9_i32_self (by omega) d3⟩
    intro k hk
    have hk' : k < l := by
      have : k < (G_bodyLengths b r).toNatClampNeg := hk
      rw [b2, z9_i32_nat (by omega)] at this; exact this
    obtain ⟨_, s, s1, s2⟩ := b4 k hk'
    exact z9_i32_self (by omega) s2
  · intro r hr
    obtain ⟨⟨a1, x, a2, a3⟩, ⟨l, b1, b2, b3, b4⟩, c1, ⟨d1, c, d2, d3⟩⟩ := h8 r hr
    refine ⟨a1.symm.trans (z9_i32_self (by omega) a3), (b3.trans b2.symm).trans (z9_i32_self (by omega) b2), ?_, c1.symm, d1.symm.trans (z9_i32_self (by omega) d3)⟩
    intro k hk
    have hk' : k < l := by
      have : k < (G_bodyLengths b r).toNatClampNeg := hk
      rw [b2, z9_i32_nat (by omega)] at this; exact this
    obtain ⟨s0, s, s1, s2⟩ := b4 k hk'
    exact s0.symm.trans (z9_i32_self (by omega) s2)
def z9_ec : Option Nat → Int32
  | none => -1
  | some n => z9_i32 n
def z9_ole (B : Nat) (v : Option Nat) : Prop := ∀ x, v = some x → x ≤ B
def z9_oadd : Option Nat → Option Nat → Option Nat
  | some a, some b => some (a + b)
  | _, _ => none
theorem z9_oadd_none (x : Option Nat) : z9_oadd x none = none := by cases x <;> rfl
theorem z9_none_oadd (x : Option Nat) : z9_oadd none x = none := by cases x <;> rfl
theorem z9_ec_m1 {B : Nat} {v : Option Nat} (h : z9_ole B v) (hB : B < 2147483648) : (z9_ec v = -1) = (v = none) := by
  cases v with
  | none => simp [z9_ec]
  | some x =>
    have := h x rfl
    simp only [z9_ec, z9_i32_m1 (show x < 2147483648 by omega)]; simp
theorem z9_ec_lt0 {B : Nat} {v : Option Nat} (h : z9_ole B v) (hB : B < 2147483648) : (z9_ec v < 0) = (v = none) := by
  cases v with
  | none => simp only [z9_ec, eq_self_iff_true]; exact eq_true (by decide)
  | some x =>
    have := h x rfl
    simp only [z9_ec, z9_i32_n0 (show x < 2147483648 by omega)]; simp
theorem z9_ec_le0 {B : Nat} {v : Option Nat} (h : z9_ole B v) (hB : B < 2147483648) : (0 ≤ z9_ec v) = (v ≠ none) := by
  cases v with
  | none => simp only [z9_ec, ne_eq, not_true]; exact eq_false (by decide)
  | some x =>
    have := h x rfl
    simp only [z9_ec, z9_i32_p0 (show x < 2147483648 by omega)]; simp
def z9_eC (g : z9_tA) (v : Nat → Option Nat) (r a : Nat) : Nat → Option Nat
  | 0 => some 0
  | k + 1 => if k = a then z9_eC g v r a k else z9_oadd (z9_eC g v r a k) (if z9_A_bd g r k < 6 then v (z9_A_bd g r k) else none)
theorem z9_m_isLetter {s : Nat} (h : s < 2147483648) : F_Md_isLetter (z9_i32 s) = some (z9_b01 (6 ≤ s)) := by
  unfold F_Md_isLetter z9_b01 rn_bl
  simp only [show (5 : Int32) = z9_i32 5 from rfl, z9_i32_le h (show 5 < 2147483648 by decide)]
  by_cases h5 : s ≤ 5
  · rw [if_pos h5, if_neg (by omega)]; rfl
  · rw [if_neg h5, if_pos (by omega)]; rfl
theorem z9_c_isNonterminal {s : Nat} (h : s < 2147483648) : F_Gr_isNonterminal (z9_i32 s) = some (z9_b01 (s < 6)) := by
  unfold F_Gr_isNonterminal z9_b01 rn_bl
  simp only [show (6 : Int32) = z9_i32 6 from rfl, z9_i32_le (show 6 < 2147483648 by decide) h]
  by_cases h5 : 6 ≤ s
  · rw [if_pos h5, if_neg (by omega)]; rfl
  · rw [if_neg h5, if_pos (by omega)]; rfl
theorem z9_eC_le {g : z9_tA} {v : Nat → Option Nat} {r a B : Nat} (hv : ∀ s, s < 6 → z9_ole B (v s)) : ∀ k, z9_ole (k * B) (z9_eC g v r a k) := by
  intro k
  induction k with
  | zero => intro x hx; simp only [z9_eC, Option.some.injEq] at hx; omega
  | succ k ih =>
    intro x hx
    simp only [z9_eC] at hx
    split at hx
    · have := ih x hx; rw [Nat.succ_mul]; omega
    · cases h1 : z9_eC g v r a k with
      | none => rw [h1, z9_none_oadd] at hx; cases hx
      | some y =>
        rw [h1] at hx
        split at hx
        · rename_i h6
          cases h2 : v (z9_A_bd g r k) with
          | none => rw [h2, z9_oadd_none] at hx; cases hx
          | some z =>
            rw [h2] at hx
            simp only [z9_oadd, Option.some.injEq] at hx
            have := ih y h1
            have := hv _ h6 z h2
            rw [Nat.succ_mul]; omega
        · cases hx
theorem z9_m_emptyBodyCost {m : tM} {g : z9_tA} (hg : z9_gOK g) (hm : z9_mIs m g) {v : Nat → Option Nat} {B : Nat} (hB : B ≤ 100000000) (hv : ∀ s, s < 6 → z9_ole B (v s)) (he : ∀ s, s < z9_A_nS g → M_emptyCost m s = z9_ec (v s)) {r a : Nat} {x : Int32} (hx : ∀ k, k < 4 → (z9_i32 k = x) = (k = a)) (hr : r < z9_A_nR g) :
    F_Md_emptyBodyCost m (z9_i32 r) x = some (z9_ec (z9_eC g v r a (z9_A_ln g r))) := by
  obtain ⟨h0, h1, h2, h3⟩ := hg
  obtain ⟨b1, b2, b3, b4⟩ := h3 r hr
  obtain ⟨c1, c2, c3, c4, c5⟩ := hm.2.2 r hr
  have key : F_Md_emptyBodyCost_L5 m (z9_i32 r) x rn_fu (z9_i32 0) (z9_i32 0) = some (z9_ec (z9_eC g v r a (z9_A_ln g r))) := by
    refine z9_forU (L := fun n (c : Int32) k => F_Md_emptyBodyCost_L5 m (z9_i32 r) x n c k) (Q := fun o => o = some (z9_ec (z9_eC g v r a (z9_A_ln g r)))) (P := fun k c => c = z9_ec (z9_eC g v r a k)) (K := z9_A_ln g r) 0 (z9_i32 0) (by omega) (by omega) rfl ?_ ?_
    · intro f c hc
      simp only [F_Md_emptyBodyCost_L5]
      rw [z9_aG_i (by omega) (by decide), c2]
      simp only [Option.bind_some, Int32.le_refl, if_true, hc]
    · intro f c k hk hc
      left
      have hbd := b4 k hk
      have hb2 : z9_A_bd g r k < 2147483648 := by omega
      have hle := z9_eC_le (g := g) (r := r) (a := a) hv k
      have hle' : z9_ole 400000000 (z9_eC g v r a k) := fun y hy => by
        have := hle y hy
        have : k * B ≤ 4 * 100000000 := Nat.mul_le_mul (by omega) hB
        omega
      refine ⟨z9_ec (z9_eC g v r a (k + 1)), ?_, rfl⟩
      simp only [F_Md_emptyBodyCost_L5]
      rw [z9_aG_i (by omega) (by decide), c2]
      simp only [Option.bind_some, z9_i32_le (show z9_A_ln g r < 2147483648 by omega) (show k < 2147483648 by omega)]
      rw [if_neg (by omega), show (4 : Int32) = z9_i32 4 from rfl, z9_i32_mul, z9_i32_add, z9_aG_i (by omega) (by decide), c3 k hk]
      simp only [Option.bind_some, hx k (by omega), z9_m_isLetter hb2, z9_b01_0, hc, z9_ec_lt0 hle' (by decide)]
      by_cases hka : k = a
      · simp only [hka, if_true, not_true, if_false, Option.bind_some, z9_eC]
        cases h : z9_eC g v r a a with
        | none => rfl
        | some y => rfl
      · simp only [hka, if_false, not_false_eq_true, if_true, z9_eC]
        by_cases h6 : 6 ≤ z9_A_bd g r k
        · simp only [h6, not_true, not_false_eq_true, if_true, Option.bind_some, show ¬ z9_A_bd g r k < 6 by omega, if_false, z9_oadd_none, show ¬ (1 : Int32) = 0 by decide]
          cases h : z9_eC g v r a k with
          | none => rfl
          | some y => rfl
        · have hs : z9_A_bd g r k < z9_A_nS g := by omega
          simp only [h6, not_false_eq_true, not_true, if_false, show z9_A_bd g r k < 6 by omega, if_true]
          rw [z9_aG_i (by omega) (by decide), he _ hs]
          have hvs := hv (z9_A_bd g r k) (by omega)
          simp only [Option.bind_some, z9_ec_le0 hvs (by omega)]
          cases h : z9_eC g v r a k with
          | none =>
            cases h2 : v (z9_A_bd g r k) with
            | none => rfl
            | some z => rfl
          | some y =>
            cases h2 : v (z9_A_bd g r k) with
            | none => rfl
            | some z =>
              simp only [ne_eq, reduceCtorEq, not_false_eq_true, if_true, if_false, Option.bind_some, z9_ec, z9_oadd, z9_i32_add]
  unfold F_Md_emptyBodyCost
  rw [show F_Md_emptyBodyCost_L5 m (z9_i32 r) x rn_fu 0 0 = _ from key]; rfl
def z9_fe (F : Nat) (s : Nat) : Option Nat := if F.testBit s then some 0 else none
theorem z9_fe_le (F s : Nat) : z9_ole 0 (z9_fe F s) := by
  intro x hx; unfold z9_fe at hx; split at hx
  · simp only [Option.some.injEq] at hx; omega
  · cases hx
set_option maxRecDepth 20000 in
theorem z9_hasBit_all : ∀ F : Fin 64, ∀ s : Fin 6, F_Gr_hasBit (z9_i32 F.1) (z9_i32 s.1) = some (if F.1.testBit s.1 then 1 else 0) := by decide +kernel
set_option maxRecDepth 20000 in
theorem z9_orBit_all : ∀ F : Fin 64, ∀ s : Fin 6, z9_i32 F.1 ||| ((1 : Int32) <<< (z9_i32 s.1 &&& 31)) = z9_i32 (F.1 ||| 2 ^ s.1) := by decide +kernel
theorem z9_hasBit {F s : Nat} (hF : F < 64) (hs : s < 6) : F_Gr_hasBit (z9_i32 F) (z9_i32 s) = some (if F.testBit s then 1 else 0) := z9_hasBit_all ⟨F, hF⟩ ⟨s, hs⟩
theorem z9_orBit {F s : Nat} (hF : F < 64) (hs : s < 6) : z9_i32 F ||| ((1 : Int32) <<< (z9_i32 s &&& 31)) = z9_i32 (F ||| 2 ^ s) := z9_orBit_all ⟨F, hF⟩ ⟨s, hs⟩
theorem z9_or_lt {F s : Nat} (hF : F < 64) (hs : s < 6) : F ||| 2 ^ s < 64 := by
  have : 2 ^ s < 2 ^ 6 := Nat.pow_lt_pow_right (by decide) hs
  exact Nat.or_lt_two_pow (n := 6) hF this
theorem z9_or_test (F s t : Nat) : (F ||| 2 ^ s).testBit t = (F.testBit t || decide (s = t)) := by
  rw [Nat.testBit_or, Nat.testBit_two_pow]
theorem z9_eC_none {g : z9_tA} {v : Nat → Option Nat} {r a k l : Nat} (h : z9_eC g v r a k = none) (hl : k ≤ l) : z9_eC g v r a l = none := by
  induction l with
  | zero => have : k = 0 := by omega
            subst this; exact h
  | succ l ih =>
    by_cases hk : k = l + 1
    · subst hk; exact h
    · have := ih (by omega)
      simp only [z9_eC]; rw [this, z9_none_oadd]; split <;> rfl
theorem z9_c_symbol {b : tG} {g : z9_tA} (hg : z9_gOK g) (hb : z9_gIs b g) {r k : Nat} (hr : r < z9_A_nR g) (hk : k < z9_A_ln g r) : F_Gr_symbol b (z9_i32 r) (z9_i32 k) = some (z9_i32 (z9_A_bd g r k)) := by
  obtain ⟨h0, h1, h2, h3⟩ := hg
  obtain ⟨b1, b2, b3, b4⟩ := h3 r hr
  obtain ⟨c1, c2, c3, c4, c5⟩ := hb.2.2 r hr
  unfold F_Gr_symbol
  rw [show (4 : Int32) = z9_i32 4 from rfl, z9_i32_mul, z9_i32_add, Nat.mul_comm r 4, z9_aG_i (by omega) (by decide), c3 k hk]; rfl
theorem z9_c_vanishes {b : tG} {g : z9_tA} (hg : z9_gOK g) (hb : z9_gIs b g) {F r a : Nat} {x : Int32} (hF : F < 64) (hx : ∀ k, k < 4 → (z9_i32 k = x) = (k = a)) (hr : r < z9_A_nR g) :
    F_Gr_vanishes b (z9_i32 r) x (z9_i32 F) = some (z9_b01 (z9_eC g (z9_fe F) r a (z9_A_ln g r) ≠ none)) := by
  have hg' := hg
  obtain ⟨h0, h1, h2, h3⟩ := hg
  obtain ⟨b1, b2, b3, b4⟩ := h3 r hr
  obtain ⟨c1, c2, c3, c4, c5⟩ := hb.2.2 r hr
  have key : (Option.bind (F_Gr_vanishes_L3 b (z9_i32 r) x (z9_i32 F) rn_fu (z9_i32 0)) fun z5 => match z5 with | .inl r4 => some r4 | .inr _ => some (1 : Int32)) = some (z9_b01 (z9_eC g (z9_fe F) r a (z9_A_ln g r) ≠ none)) := by
    refine z9_forU (L := fun n (_ : Unit) k => F_Gr_vanishes_L3 b (z9_i32 r) x (z9_i32 F) n k) (Q := fun o => (Option.bind o fun z5 => match z5 with | .inl r4 => some r4 | .inr _ => some (1 : Int32)) = some (z9_b01 (z9_eC g (z9_fe F) r a (z9_A_ln g r) ≠ none))) (P := fun k _ => z9_eC g (z9_fe F) r a k ≠ none) (K := z9_A_ln g r) 0 () (by omega) (by omega) (by simp [z9_eC]) ?_ ?_
    · intro f _ hP
      simp only [F_Gr_vanishes_L3]
      rw [z9_aG_i (by omega) (by decide), c2]
      simp only [Option.bind_some, Int32.le_refl, if_true, z9_b01, hP, ne_eq, not_false_eq_true]
    · intro f _ k hk hP
      have hbd := b4 k hk
      have hb2 : z9_A_bd g r k < 2147483648 := by omega
      simp only [F_Gr_vanishes_L3]
      rw [z9_aG_i (by omega) (by decide), c2]
      simp only [Option.bind_some, z9_i32_le (show z9_A_ln g r < 2147483648 by omega) (show k < 2147483648 by omega)]
      rw [if_neg (by omega), z9_c_symbol hg' hb hr hk]
      simp only [Option.bind_some, hx k (by omega), z9_c_isNonterminal hb2, z9_b01_0]
      have no : z9_eC g (z9_fe F) r a (k + 1) = none → z9_b01 (z9_eC g (z9_fe F) r a (z9_A_ln g r) ≠ none) = 0 := by
        intro h; unfold z9_b01; rw [if_neg (fun q => q (z9_eC_none h (by omega)))]
      by_cases hka : k = a
      · left
        rw [if_pos hka]
        refine ⟨(), rfl, ?_⟩
        simp only [z9_eC]; rw [if_pos hka]; exact hP
      · simp only [hka, if_false]
        by_cases h6 : z9_A_bd g r k < 6
        · simp only [h6, not_true, if_false]
          rw [z9_hasBit hF h6]
          simp only [Option.bind_some]
          cases ht : F.testBit (z9_A_bd g r k) with
          | true =>
            left
            refine ⟨(), by simp, ?_⟩
            simp only [z9_eC, hka, if_false, h6, if_true, z9_fe, ht]
            cases h : z9_eC g (z9_fe F) r a k with
            | none => exact absurd h hP
            | some y => simp [z9_oadd]
          | false =>
            right
            rw [no]
            · simp
            · simp only [z9_eC, hka, if_false, h6, if_true, z9_fe, ht, Bool.false_eq_true]; exact z9_oadd_none _
        · right
          rw [no]
          · simp only [h6, not_false_eq_true, if_true, Option.bind_some]
          · simp only [z9_eC, hka, if_false, h6]; exact z9_oadd_none _
  exact key
def z9_rnd (g : z9_tA) (F : Nat) : Nat → Nat
  | 0 => F
  | r + 1 => if z9_eC g (z9_fe (z9_rnd g F r)) r 9 (z9_A_ln g r) ≠ none then z9_rnd g F r ||| 2 ^ z9_A_hd g r else z9_rnd g F r
def z9_rounds (g : z9_tA) : Nat → Nat
  | 0 => 0
  | t + 1 => z9_rnd g (z9_rounds g t) (z9_A_nR g)
theorem z9_rnd_lt {g : z9_tA} (hg : z9_gOK g) {F : Nat} (hF : F < 64) : ∀ r, r ≤ z9_A_nR g → z9_rnd g F r < 64 := by
  obtain ⟨h0, h1, h2, h3⟩ := hg
  intro r
  induction r with
  | zero => intro _; exact hF
  | succ r ih =>
    intro hr
    have := ih (by omega)
    have := (h3 r (by omega)).1
    simp only [z9_rnd]; split
    · exact z9_or_lt (by assumption) (by omega)
    · assumption
theorem z9_rounds_lt {g : z9_tA} (hg : z9_gOK g) : ∀ t, z9_rounds g t < 64 := by
  intro t
  induction t with
  | zero => exact (by decide : 0 < 64)
  | succ t ih => exact z9_rnd_lt hg ih _ (Nat.le_refl _)
def z9_mFrT (m m' : tM) : Prop := M_src m' = M_src m ∧ M_code m' = M_code m ∧ z9_bX m' = z9_bX m ∧ z9_bC m' = z9_bC m ∧ z9_bK m' = z9_bK m ∧ z9_bD m' = z9_bD m ∧ z9_bN m' = z9_bN m ∧ z9_bW m' = z9_bW m
theorem z9_mFrT_rfl (m : tM) : z9_mFrT m m := ⟨rfl, rfl, rfl, rfl, rfl, rfl, rfl, rfl⟩
theorem z9_mFrT_trans {m m' m'' : tM} (h : z9_mFrT m m') (h' : z9_mFrT m' m'') : z9_mFrT m m'' := by
  obtain ⟨a1, a2, a3, a4, a5, a6, a7, a8⟩ := h
  obtain ⟨b1, b2, b3, b4, b5, b6, b7, b8⟩ := h'
  exact ⟨b1.trans a1, b2.trans a2, b3.trans a3, b4.trans a4, b5.trans a5, b6.trans a6, b7.trans a7, b8.trans a8⟩
theorem z9_mFrR_T {m m' : tM} (h : z9_mFrR m m') : z9_mFrT m m' := by
  obtain ⟨a1, a2, a3, a4, a5, a6, a7, a8, a9, a10⟩ := h
  exact ⟨a1, a2, a5, a6, a7, a8, a9, a10⟩
theorem z9_mFrT_put (m m' : tM) : (∀ v, z9_mFrT m (M_put_emptyCost m' v) = z9_mFrT m m') ∧ (∀ v, z9_mFrT m (M_put_emptySum m' v) = z9_mFrT m m') ∧ (∀ v, z9_mFrT m (M_put_units m' v) = z9_mFrT m m') ∧ (∀ v, z9_mFrT m (M_put_value m' v) = z9_mFrT m m') := by
  simp only [z9_mFrT, z9_fX, z9_fC, z9_fK, z9_fD, z9_fN, z9_fW, z9_mp_emptyCost, z9_mp_emptySum, z9_mp_units, z9_mp_value, implies_true, and_self]
theorem z9_o_round {b : tG} {m : tM} {g : z9_tA} (hg : z9_gOK g) (hb : z9_gIs b g) (hm : z9_mIs m g) {F : Nat} (hF : F < 64) (he : ∀ s, s < z9_A_nS g → M_emptyCost m s = z9_ec (z9_fe F s)) (y z : Int32) :
    ∃ m', F_Gr_emptyable_L14 b y rn_fu (z9_i32 F) 0 = some (z9_i32 (z9_rnd g F (z9_A_nR g))) ∧ F_Md_findEmptyable_L35 z rn_fu m 0 = some m' ∧ (∀ s, s < z9_A_nS g → M_emptyCost m' s = z9_ec (z9_fe (z9_rnd g F (z9_A_nR g)) s)) ∧ z9_bG m' = z9_bG m ∧ z9_mFrT m m' := by
  have hg' := hg
  obtain ⟨h0, h1, h2, h3⟩ := hg
  refine z9_forU (L := fun n (st : Int32 × tM) k => (F_Gr_emptyable_L14 b y n st.1 k, F_Md_findEmptyable_L35 z n st.2 k)) (Q := fun o => ∃ m', o.1 = some (z9_i32 (z9_rnd g F (z9_A_nR g))) ∧ o.2 = some m' ∧ (∀ s, s < z9_A_nS g → M_emptyCost m' s = z9_ec (z9_fe (z9_rnd g F (z9_A_nR g)) s)) ∧ z9_bG m' = z9_bG m ∧ z9_mFrT m m') (P := fun k st => st.1 = z9_i32 (z9_rnd g F k) ∧ (∀ s, s < z9_A_nS g → M_emptyCost st.2 s = z9_ec (z9_fe (z9_rnd g F k) s)) ∧ z9_bG st.2 = z9_bG m ∧ z9_mFrT m st.2) (K := z9_A_nR g) 0 (z9_i32 F, m) (by omega) (by omega) ⟨rfl, he, rfl, z9_mFrT_rfl m⟩ ?_ ?_
  · intro f st hP
    obtain ⟨p1, p2, p3, p4⟩ := hP
    have hm' := z9_mIs_fr hm p3
    refine ⟨st.2, ?_, ?_, p2, p3, p4⟩
    · simp only [F_Gr_emptyable_L14, hb.1, Int32.le_refl, if_true, p1]
    · simp only [F_Md_findEmptyable_L35, hm'.1, Int32.le_refl, if_true]
  · intro f st k hk hP
    obtain ⟨p1, p2, p3, p4⟩ := hP
    have hm' := z9_mIs_fr hm p3
    left
    have hlt := z9_rnd_lt hg' hF k (by omega)
    have hh := (h3 k hk).1
    have hx : ∀ l, l < 4 → (z9_i32 l = -1) = (l = 9) := by intro l hl; rw [z9_i32_m1 (by omega)]; exact (eq_false (by omega)).symm
    refine ⟨(z9_i32 (z9_rnd g F (k + 1)), M_put_emptyCost st.2 (fun s => if s = z9_A_hd g k then (if z9_eC g (z9_fe (z9_rnd g F k)) k 9 (z9_A_ln g k) = none then M_emptyCost st.2 (z9_A_hd g k) else 0) else M_emptyCost st.2 s)), ?_, rfl, ?_, ?_, ?_⟩
    · have e1 : F_Gr_emptyable_L14 b y (f + 1) st.1 (z9_i32 k) = F_Gr_emptyable_L14 b y f (z9_i32 (z9_rnd g F (k + 1))) (z9_i32 k + 1) := by
        simp only [F_Gr_emptyable_L14, hb.1, p1, z9_i32_le (show z9_A_nR g < 2147483648 by omega) (show k < 2147483648 by omega)]
        rw [if_neg (by omega), z9_c_vanishes hg' hb hlt hx hk]
        simp only [Option.bind_some, z9_b01_0, ne_eq, Classical.not_not, z9_rnd]
        by_cases hn : z9_eC g (z9_fe (z9_rnd g F k)) k 9 (z9_A_ln g k) = none
        · simp only [hn, if_true, Option.bind_some, not_true, if_false]
        · simp only [hn, if_false, not_false_eq_true, if_true]
          rw [z9_aG_i (by omega) (by decide), (hb.2.2 k hk).1]
          simp only [Option.bind_some, z9_orBit hlt (show z9_A_hd g k < 6 by omega)]
      have e2 : F_Md_findEmptyable_L35 z (f + 1) st.2 (z9_i32 k) = F_Md_findEmptyable_L35 z f (M_put_emptyCost st.2 (fun s => if s = z9_A_hd g k then (if z9_eC g (z9_fe (z9_rnd g F k)) k 9 (z9_A_ln g k) = none then M_emptyCost st.2 (z9_A_hd g k) else 0) else M_emptyCost st.2 s)) (z9_i32 k + 1) := by
        simp only [F_Md_findEmptyable_L35, hm'.1, z9_i32_le (show z9_A_nR g < 2147483648 by omega) (show k < 2147483648 by omega)]
        rw [if_neg (by omega), z9_aG_i (by omega) (by decide), (hm'.2.2 k hk).1]
        simp only [Option.bind_some]
        rw [z9_m_emptyBodyCost hg' hm' (by decide) (fun s _ => z9_fe_le _ s) p2 hx hk]
        have hle : z9_ole 4 (z9_eC g (z9_fe (z9_rnd g F k)) k 9 (z9_A_ln g k)) := fun y hy => by
          have := z9_eC_le (g := g) (r := k) (a := 9) (fun s _ => z9_fe_le (z9_rnd g F k) s) (z9_A_ln g k) y hy; omega
        simp only [Option.bind_some, z9_ec_lt0 hle (by decide)]
        rw [z9_aG_i (by omega) (by decide)]
        by_cases hn : z9_eC g (z9_fe (z9_rnd g F k)) k 9 (z9_A_ln g k) = none
        · simp only [hn, if_true, Option.bind_some]
          rw [z9_aS_i (by omega) (by decide)]; rfl
        · simp only [hn, if_false, Option.bind_some]
          rw [z9_aS_i (by omega) (by decide)]; rfl
      show (_, _) = (_, _)
      rw [e1, e2]
    · intro s hs
      simp only [z9_mp_emptyCost, z9_rnd]
      by_cases hsh : s = z9_A_hd g k
      · rw [if_pos hsh]
        by_cases hn : z9_eC g (z9_fe (z9_rnd g F k)) k 9 (z9_A_ln g k) = none
        · simp only [hn, if_true, ne_eq, not_true, if_false]
          rw [p2 _ (by omega), hsh]
        · simp only [hn, if_false, ne_eq, not_false_eq_true, if_true]
          unfold z9_fe; rw [z9_or_test, hsh]; simp [z9_ec]; rfl
      · rw [if_neg hsh, p2 s hs]
        by_cases hn : z9_eC g (z9_fe (z9_rnd g F k)) k 9 (z9_A_ln g k) = none
        · simp only [hn, ne_eq, not_true, if_false]
        · simp only [hn, ne_eq, not_false_eq_true, if_true]
          unfold z9_fe; rw [z9_or_test]; simp [show ¬ z9_A_hd g k = s from fun q => hsh q.symm]
    · simp only [z9_fG]; exact p3
    · simp only [z9_mFrT_put]; exact p4
theorem z9_o_emptyable {b : tG} {m : tM} {g : z9_tA} (hg : z9_gOK g) (hb : z9_gIs b g) (hm : z9_mIs m g) :
    ∃ m', F_Gr_emptyable b = some (z9_i32 (z9_rounds g (z9_A_nS g))) ∧ F_Md_findEmptyable m = some m' ∧ (∀ s, s < z9_A_nS g → M_emptyCost m' s = z9_ec (z9_fe (z9_rounds g (z9_A_nS g)) s)) ∧ z9_bG m' = z9_bG m ∧ z9_mFrT m m' := by
  have hg' := hg
  obtain ⟨h0, h1, h2, h3⟩ := hg
  have k1 : ∃ m1, F_Md_findEmptyable_L2 rn_fu m 0 = some m1 ∧ (∀ s, s < z9_A_nS g → M_emptyCost m1 s = -1) ∧ z9_bG m1 = z9_bG m ∧ z9_mFrT m m1 := by
    refine z9_forU (L := fun n (st : tM) k => F_Md_findEmptyable_L2 n st k) (Q := fun o => ∃ m1, o = some m1 ∧ (∀ s, s < z9_A_nS g → M_emptyCost m1 s = -1) ∧ z9_bG m1 = z9_bG m ∧ z9_mFrT m m1) (P := fun k st => (∀ s, s < k → M_emptyCost st s = -1) ∧ z9_bG st = z9_bG m ∧ z9_mFrT m st) (K := z9_A_nS g) 0 m (by omega) (by omega) ⟨fun s hs => by omega, rfl, z9_mFrT_rfl m⟩ ?_ ?_
    · intro f st hP
      refine ⟨st, ?_, hP⟩
      simp only [F_Md_findEmptyable_L2, (z9_mIs_fr hm hP.2.1).2.1, Int32.le_refl, if_true]
    · intro f st k hk hP
      left
      refine ⟨M_put_emptyCost st (fun s => if s = k then -1 else M_emptyCost st s), ?_, ?_, ?_, ?_⟩
      · simp only [F_Md_findEmptyable_L2, (z9_mIs_fr hm hP.2.1).2.1, z9_i32_le (show z9_A_nS g < 2147483648 by omega) (show k < 2147483648 by omega)]
        rw [if_neg (by omega), z9_aS_i (by omega) (by decide)]; rfl
      · intro s hs
        simp only [z9_mp_emptyCost]
        by_cases h : s = k
        · rw [if_pos h]
        · rw [if_neg h]; exact hP.1 s (by omega)
      · simp only [z9_fG]; exact hP.2.1
      · simp only [z9_mFrT_put]; exact hP.2.2
  obtain ⟨m1, a1, a2, a3, a4⟩ := k1
  have k2 : ∃ m2, F_Gr_emptyable_L4 b rn_fu 0 0 = some (z9_i32 (z9_rounds g (z9_A_nS g))) ∧ F_Md_findEmptyable_L25 rn_fu m1 0 = some m2 ∧ (∀ s, s < z9_A_nS g → M_emptyCost m2 s = z9_ec (z9_fe (z9_rounds g (z9_A_nS g)) s)) ∧ z9_bG m2 = z9_bG m ∧ z9_mFrT m m2 := by
    refine z9_forU (L := fun n (st : Int32 × tM) k => (F_Gr_emptyable_L4 b n st.1 k, F_Md_findEmptyable_L25 n st.2 k)) (Q := fun o => ∃ m2, o.1 = some (z9_i32 (z9_rounds g (z9_A_nS g))) ∧ o.2 = some m2 ∧ (∀ s, s < z9_A_nS g → M_emptyCost m2 s = z9_ec (z9_fe (z9_rounds g (z9_A_nS g)) s)) ∧ z9_bG m2 = z9_bG m ∧ z9_mFrT m m2) (P := fun k st => st.1 = z9_i32 (z9_rounds g k) ∧ (∀ s, s < z9_A_nS g → M_emptyCost st.2 s = z9_ec (z9_fe (z9_rounds g k) s)) ∧ z9_bG st.2 = z9_bG m ∧ z9_mFrT m st.2) (K := z9_A_nS g) 0 (0, m1) (by omega) (by omega) ⟨rfl, fun s hs => by rw [a2 s hs]; simp [z9_fe, z9_rounds, z9_ec], a3, a4⟩ ?_ ?_
    · intro f st hP
      refine ⟨st.2, ?_, ?_, hP.2⟩
      · simp only [F_Gr_emptyable_L4, hb.2.1, Int32.le_refl, if_true, hP.1]
      · simp only [F_Md_findEmptyable_L25, (z9_mIs_fr hm hP.2.2.1).2.1, Int32.le_refl, if_true]
    · intro f st k hk hP
      left
      have hm' := z9_mIs_fr hm hP.2.2.1
      obtain ⟨m', q1, q2, q3, q4, q5⟩ := z9_o_round hg' hb hm' (z9_rounds_lt hg' k) hP.2.1 (z9_i32 k) (z9_i32 k)
      refine ⟨(z9_i32 (z9_rounds g (k + 1)), m'), ?_, rfl, q3, q4.trans hP.2.2.1, z9_mFrT_trans hP.2.2.2 q5⟩
      simp only [F_Gr_emptyable_L4, F_Md_findEmptyable_L25, hb.2.1, hm'.2.1, hP.1, z9_i32_le (show z9_A_nS g < 2147483648 by omega) (show k < 2147483648 by omega)]
      rw [if_neg (by omega), if_neg (by omega), q1, q2]; rfl
  obtain ⟨m2, c1, c2, c3, c4, c5⟩ := k2
  refine ⟨m2, ?_, ?_, c3, c4, c5⟩
  · unfold F_Gr_emptyable; rw [c1]; rfl
  · unfold F_Md_findEmptyable; rw [a1]; simp only [Option.bind_some]; rw [c2]; rfl
def z9_lbit (x : Int64) (i : Nat) : Bool := x.toBitVec.getLsbD i
set_option maxRecDepth 20000 in
theorem z9_shk : ∀ i : Fin 36, ((z9_i32 i.1).toInt64 &&& 63).toBitVec.smod 64 = BitVec.ofNat 64 i.1 := by decide +kernel
theorem z9_lb_shr (x : Int64) {i : Nat} (hi : i < 36) (j : Nat) : z9_lbit (x >>> ((z9_i32 i).toInt64 &&& 63)) j = (decide (j < 64) && (if i + j < 64 then z9_lbit x (i + j) else z9_lbit x 63)) := by
  unfold z9_lbit
  rw [Int64.toBitVec_shiftRight, z9_shk ⟨i, hi⟩, BitVec.sshiftRight_eq', BitVec.getLsbD_sshiftRight]
  simp only [BitVec.toNat_ofNat]
  have : i % 2 ^ 64 = i := Nat.mod_eq_of_lt (by omega)
  rw [this]
  have hm : x.toBitVec.msb = x.toBitVec.getLsbD 63 := by rw [BitVec.msb_eq_getLsbD_last]
  rw [hm]
  by_cases h : j < 64
  · simp [h, Nat.not_le.mpr h]
  · simp [h, Nat.not_lt.mp h]
theorem z9_lb_or (x y : Int64) (j : Nat) : z9_lbit (x ||| y) j = (z9_lbit x j || z9_lbit y j) := by
  unfold z9_lbit; rw [Int64.toBitVec_or, BitVec.getLsbD_or]
theorem z9_lb_and (x y : Int64) (j : Nat) : z9_lbit (x &&& y) j = (z9_lbit x j && z9_lbit y j) := by
  unfold z9_lbit; rw [Int64.toBitVec_and, BitVec.getLsbD_and]
theorem z9_lb_shl (x : Int64) {i : Nat} (hi : i < 36) (j : Nat) : z9_lbit (x <<< ((z9_i32 i).toInt64 &&& 63)) j = (decide (i ≤ j) && decide (j < 64) && z9_lbit x (j - i)) := by
  unfold z9_lbit
  rw [Int64.toBitVec_shiftLeft, z9_shk ⟨i, hi⟩]
  rw [BitVec.shiftLeft_eq', BitVec.getLsbD_shiftLeft]
  have : i % 2 ^ 64 = i := Nat.mod_eq_of_lt (by omega)
  simp only [BitVec.toNat_ofNat, this]
  by_cases h : j < 64 <;> by_cases h2 : j < i <;> simp [h, h2] <;> omega
theorem z9_lb_ext {x y : Int64} (h : ∀ j, j < 64 → z9_lbit x j = z9_lbit y j) : x = y := by
  apply Int64.toBitVec_inj.mp
  exact BitVec.eq_of_getLsbD_eq h
theorem z9_lb_one (j : Nat) : z9_lbit 1 j = decide (j = 0) := by
  unfold z9_lbit
  show (1#64).getLsbD j = _
  rw [BitVec.getLsbD_one]; simp
theorem z9_lb_63 (j : Nat) : z9_lbit 63 j = decide (j < 6) := by
  by_cases h : j < 64
  · have : ∀ j : Fin 64, z9_lbit 63 j.1 = decide (j.1 < 6) := by decide
    exact this ⟨j, h⟩
  · have : z9_lbit 63 j = false := by unfold z9_lbit; exact BitVec.getLsbD_of_ge _ _ (by omega)
    rw [this]; simp; omega
theorem z9_lb_zero (j : Nat) : z9_lbit 0 j = false := by
  unfold z9_lbit; show (0#64).getLsbD j = _; simp
theorem z9_lb_test (x : Int64) {i : Nat} (hi : i < 36) : (lg_cmp ((x >>> ((z9_i32 i).toInt64 &&& 63)) &&& 1) 1 = 0) = (z9_lbit x i = true) := by
  rw [lg_cmp_eq]
  apply propext
  constructor
  · intro h
    have := congrArg (fun z => z9_lbit z 0) h
    simp only [z9_lb_and, z9_lb_shr x hi, z9_lb_one] at this
    simpa [show i < 64 by omega] using this
  · intro h
    apply z9_lb_ext
    intro j hj
    rw [z9_lb_and, z9_lb_shr x hi, z9_lb_one]
    by_cases h0 : j = 0
    · subst h0; simp [show i < 64 by omega, h]
    · simp [h0]
def z9_pcN : Nat → Nat → Nat
  | 0, _ => 0
  | n + 1, F => z9_pcN n F + if F.testBit n then 1 else 0
def z9_sub (F F' : Nat) : Prop := ∀ s, F.testBit s = true → F'.testBit s = true
theorem z9_pcN_le (n F : Nat) : z9_pcN n F ≤ n := by
  induction n with
  | zero => exact Nat.le_refl _
  | succ n ih => simp only [z9_pcN]; split <;> omega
theorem z9_pcN_mono {n F F' : Nat} (h : z9_sub F F') : z9_pcN n F ≤ z9_pcN n F' := by
  induction n with
  | zero => exact Nat.le_refl _
  | succ n ih =>
    simp only [z9_pcN]
    cases hf : F.testBit n with
    | true => rw [h n hf]; simp; exact ih
    | false => simp; omega
theorem z9_pcN_lt {n F F' s : Nat} (h : z9_sub F F') (hs : s < n) (h1 : F.testBit s = false) (h2 : F'.testBit s = true) : z9_pcN n F < z9_pcN n F' := by
  induction n with
  | zero => omega
  | succ n ih =>
    simp only [z9_pcN]
    by_cases hsn : s = n
    · subst hsn; rw [h1, h2]; simp
      have := z9_pcN_mono (n := s) h; omega
    · have := ih (by omega)
      cases hf : F.testBit n with
      | true => rw [h n hf]; simp; exact this
      | false => simp; omega
theorem z9_pcN_full {n F : Nat} (h : n ≤ z9_pcN n F) : ∀ s, s < n → F.testBit s = true := by
  induction n with
  | zero => intro s hs; omega
  | succ n ih =>
    intro s hs
    simp only [z9_pcN] at h
    have := z9_pcN_le n F
    by_cases hsn : s = n
    · subst hsn
      cases hf : F.testBit s with
      | true => rfl
      | false => rw [hf] at h; simp at h; omega
    · exact ih (by split at h <;> omega) s (by omega)
theorem z9_eC_mono {g : z9_tA} {F F' r a : Nat} (h : z9_sub F F') : ∀ k, z9_eC g (z9_fe F) r a k ≠ none → z9_eC g (z9_fe F') r a k ≠ none := by
  intro k
  induction k with
  | zero => intro _; simp [z9_eC]
  | succ k ih =>
    simp only [z9_eC]
    by_cases hka : k = a
    · simp only [hka, if_true]; rw [← hka]; rw [← hka] at ih; exact ih
    · simp only [hka, if_false]
      cases h1 : z9_eC g (z9_fe F) r a k with
      | none => intro q; rw [z9_none_oadd] at q; exact absurd rfl q
      | some y =>
        have := ih (by rw [h1]; simp)
        cases h2 : z9_eC g (z9_fe F') r a k with
        | none => exact absurd h2 this
        | some y' =>
          by_cases h6 : z9_A_bd g r k < 6
          · simp only [h6, if_true, z9_fe]
            cases hf : F.testBit (z9_A_bd g r k) with
            | true => intro _; rw [h _ hf]; simp [z9_oadd]
            | false => simp [z9_oadd]
          · simp [h6, z9_oadd]
theorem z9_rnd_sub (g : z9_tA) (F : Nat) : ∀ r r', r ≤ r' → z9_sub (z9_rnd g F r) (z9_rnd g F r') := by
  intro r r'
  induction r' with
  | zero => intro h; have : r = 0 := by omega
            subst this; exact fun s hs => hs
  | succ r' ih =>
    intro h
    by_cases hr : r = r' + 1
    · subst hr; exact fun s hs => hs
    · intro s hs
      have := ih (by omega) s hs
      simp only [z9_rnd]; split
      · rw [z9_or_test, this]; rfl
      · exact this
def z9_closedF (g : z9_tA) (F : Nat) : Prop := ∀ r, r < z9_A_nR g → z9_eC g (z9_fe F) r 9 (z9_A_ln g r) ≠ none → F.testBit (z9_A_hd g r) = true
theorem z9_rnd_closed {g : z9_tA} {F : Nat} (h : z9_closedF g F) : ∀ r, r ≤ z9_A_nR g → z9_rnd g F r = F := by
  intro r
  induction r with
  | zero => intro _; rfl
  | succ r ih =>
    intro hr
    simp only [z9_rnd]; rw [ih (by omega)]
    split
    · rename_i hh
      have := h r (by omega) hh
      apply Nat.eq_of_testBit_eq
      intro i
      rw [z9_or_test]
      by_cases hi : z9_A_hd g r = i
      · subst hi; rw [this]; rfl
      · simp [hi]
    · rfl
theorem z9_rounds_closed {g : z9_tA} (hg : z9_gOK g) : z9_closedF g (z9_rounds g (z9_A_nS g)) := by
  have key : ∀ t, z9_closedF g (z9_rounds g t) ∨ t ≤ z9_pcN (z9_A_nS g) (z9_rounds g t) := by
    intro t
    induction t with
    | zero => right; exact Nat.zero_le _
    | succ t ih =>
      by_cases hc : z9_closedF g (z9_rounds g t)
      · left
        have : z9_rounds g (t + 1) = z9_rounds g t := z9_rnd_closed hc _ (Nat.le_refl _)
        rw [this]; exact hc
      · rcases ih with ih | ih
        · exact absurd ih hc
        right
        unfold z9_closedF at hc
        simp only [Classical.not_forall] at hc
        obtain ⟨r, hr, hv, hb⟩ := hc
        have hs : z9_sub (z9_rounds g t) (z9_rounds g (t + 1)) := z9_rnd_sub g (z9_rounds g t) 0 (z9_A_nR g) (Nat.zero_le _)
        have h2 : (z9_rounds g (t + 1)).testBit (z9_A_hd g r) = true := by
          refine z9_rnd_sub g (z9_rounds g t) (r + 1) (z9_A_nR g) (by omega) _ ?_
          simp only [z9_rnd]
          rw [if_pos (z9_eC_mono (z9_rnd_sub g (z9_rounds g t) 0 r (Nat.zero_le _)) _ hv), z9_or_test]; simp
        have h1 : (z9_rounds g t).testBit (z9_A_hd g r) = false := by simpa using hb
        have := z9_pcN_lt hs (hg.2.2.2 r hr).1 h1 h2
        omega
  rcases key (z9_A_nS g) with h | h
  · exact h
  · intro r hr _; exact z9_pcN_full h _ (hg.2.2.2 r hr).1
def z9_G_put_reached (b : tG) (f : Nat → Int32) : tG := (G_heads b, G_bodies b, G_bodyLengths b, G_weights b, G_costs b, G_capitals b, G_order b, G_ruleCount b, G_nonterminalCount b, f)
theorem z9_gpr (b : tG) (f : Nat → Int32) : G_heads (z9_G_put_reached b f) = G_heads b ∧ G_bodies (z9_G_put_reached b f) = G_bodies b ∧ G_bodyLengths (z9_G_put_reached b f) = G_bodyLengths b ∧ G_weights (z9_G_put_reached b f) = G_weights b ∧ G_costs (z9_G_put_reached b f) = G_costs b ∧ G_capitals (z9_G_put_reached b f) = G_capitals b ∧ G_order (z9_G_put_reached b f) = G_order b ∧ G_ruleCount (z9_G_put_reached b f) = G_ruleCount b ∧ G_nonterminalCount (z9_G_put_reached b f) = G_nonterminalCount b ∧ G_reached (z9_G_put_reached b f) = f := by
  simp only [z9_G_put_reached, z9_gt, and_self]
theorem z9_gpr2 (b : tG) (f f' : Nat → Int32) : z9_G_put_reached (z9_G_put_reached b f) f' = z9_G_put_reached b f' := by
  simp only [z9_G_put_reached, z9_gt]
theorem z9_gpr0 (b : tG) : z9_G_put_reached b (G_reached b) = b := rfl
theorem z9_gIs_pr {b : tG} {g : z9_tA} {f : Nat → Int32} (h : z9_gIs b g) : z9_gIs (z9_G_put_reached b f) g := by
  unfold z9_gIs at *; simp only [z9_gpr]; exact h
def z9_lead (g : z9_tA) (F r k : Nat) : Prop := z9_A_bd g r k < 6 ∧ z9_eC g (z9_fe F) r k (z9_A_ln g r) ≠ none
def z9_lrel (g : z9_tA) (f : Nat → Int32) (x : Int64) (rho : Nat → Nat) : Prop := (∀ s, s < z9_A_nS g → f s = z9_i32 (rho s)) ∧ (∀ s, rho s < 64) ∧ (∀ s, z9_A_nS g ≤ s → rho s = 0) ∧ (∀ i, i < 64 → z9_lbit x i = (decide (i < 36) && (rho (i / 6)).testBit (i % 6))) ∧ ∀ s t, (rho s).testBit t = true → t < z9_A_nS g
theorem z9_lrel_bit {g : z9_tA} {f : Nat → Int32} {x : Int64} {rho : Nat → Nat} (h : z9_lrel g f x rho) {s t : Nat} (hs : s < 6) (ht : t < 6) : z9_lbit x (6 * s + t) = (rho s).testBit t := by
  rw [h.2.2.2.1 _ (by omega), show (6 * s + t) / 6 = s by omega, show (6 * s + t) % 6 = t by omega]
  simp [show 6 * s + t < 36 by omega]
theorem z9_lt64_bit {F t : Nat} (hF : F < 64) (ht : 6 ≤ t) : F.testBit t = false := Nat.testBit_lt_two_pow (Nat.lt_of_lt_of_le hF (by exact Nat.pow_le_pow_right (by decide) ht : 2 ^ 6 ≤ 2 ^ t))
theorem z9_lrel_set {g : z9_tA} (hg : z9_gOK g) {f : Nat → Int32} {x : Int64} {rho : Nat → Nat} (h : z9_lrel g f x rho) {s t : Nat} (hs : s < z9_A_nS g) (ht : t < z9_A_nS g) :
    z9_lrel g (fun q => if q = s then z9_i32 (rho s ||| 2 ^ t) else f q) (x ||| ((1 : Int64) <<< ((z9_i32 (6 * s + t)).toInt64 &&& 63))) (fun q => if q = s then rho s ||| 2 ^ t else rho q) := by
  obtain ⟨h1, h2, h3, h4, h5⟩ := h
  have h6 := hg.2.2.1
  have ht6 : t < 6 := by omega
  refine ⟨?_, ?_, ?_, ?_, ?_⟩
  · intro q hq; by_cases hqs : q = s
    · simp [hqs]
    · simp [hqs, h1 q hq]
  · intro q; by_cases hqs : q = s
    · simp only [hqs, if_true]; exact z9_or_lt (h2 s) ht6
    · simp only [hqs, if_false]; exact h2 q
  · intro q hq; show (if q = s then _ else _) = _; rw [if_neg (by omega)]; exact h3 q hq
  · intro i hi
    rw [z9_lb_or, z9_lb_shl _ (by omega), z9_lb_one, h4 i hi]
    show _ = (decide (i < 36) && (if i / 6 = s then rho s ||| 2 ^ t else rho (i / 6)).testBit (i % 6))
    by_cases hi6 : i / 6 = s
    · rw [if_pos hi6, hi6, z9_or_test]
      by_cases hit : i = 6 * s + t
      · have a1 : i % 6 = t := by omega
        have a2 : i < 36 := by omega
        rw [← hit, a1]; simp [a2, hi]
      · have : ¬ t = i % 6 := by omega
        simp [this]; omega
    · rw [if_neg hi6]
      have : ¬ i = 6 * s + t := by omega
      by_cases h36 : i < 36 <;> simp [h36] <;> omega
  · intro q u hu
    by_cases hqs : q = s
    · simp only [hqs, if_true] at hu
      rw [z9_or_test] at hu
      by_cases htu : t = u
      · omega
      · simp [htu] at hu; exact h5 s u hu
    · simp only [hqs, if_false] at hu; exact h5 q u hu
theorem z9_hx_place {a : Nat} (ha : a < 4) : ∀ k, k < 4 → (z9_i32 k = z9_i32 a) = (k = a) := fun k hk => z9_i32_inj (by omega) (by omega)
theorem z9_o_leads {b : tG} {m : tM} {g : z9_tA} (hg : z9_gOK g) (hb : z9_gIs b g) (hm : z9_mIs m g) {F : Nat} (hF : F < 64) (he : ∀ s, s < z9_A_nS g → M_emptyCost m s = z9_ec (z9_fe F s)) {f0 : Nat → Int32} {rho0 : Nat → Nat} (h0 : z9_lrel g f0 0 rho0) :
    ∃ f x rho, F_Gr_findReached_L25 (z9_i32 F) rn_fu (z9_G_put_reached b f0) 0 = some (z9_G_put_reached b f) ∧ F_Md_loops_L8 m rn_fu 0 0 = some x ∧ z9_lrel g f x rho ∧ ∀ r k, r < z9_A_nR g → k < z9_A_ln g r → z9_lead g F r k → (rho (z9_A_hd g r)).testBit (z9_A_bd g r k) = true := by
  have hg' := hg
  obtain ⟨g0, g1, g2, g3⟩ := hg
  refine z9_forU (L := fun n (st : tG × Int64) k => (F_Gr_findReached_L25 (z9_i32 F) n st.1 k, F_Md_loops_L8 m n st.2 k)) (Q := fun o => ∃ f x rho, o.1 = some (z9_G_put_reached b f) ∧ o.2 = some x ∧ z9_lrel g f x rho ∧ ∀ r k, r < z9_A_nR g → k < z9_A_ln g r → z9_lead g F r k → (rho (z9_A_hd g r)).testBit (z9_A_bd g r k) = true) (P := fun R st => ∃ f rho, st.1 = z9_G_put_reached b f ∧ z9_lrel g f st.2 rho ∧ ∀ r k, r < R → k < z9_A_ln g r → z9_lead g F r k → (rho (z9_A_hd g r)).testBit (z9_A_bd g r k) = true) (K := z9_A_nR g) 0 (z9_G_put_reached b f0, 0) (by omega) (by omega) ⟨f0, rho0, rfl, h0, fun r k hr => by omega⟩ ?_ ?_
  · intro n st hP
    obtain ⟨f, rho, p1, p2, p3⟩ := hP
    refine ⟨f, st.2, rho, ?_, ?_, p2, p3⟩
    · simp only [F_Gr_findReached_L25, p1, z9_gpr, hb.1, Int32.le_refl, if_true]
    · simp only [F_Md_loops_L8, hm.1, Int32.le_refl, if_true]
  · intro n st R hR hP
    obtain ⟨f, rho, p1, p2, p3⟩ := hP
    left
    obtain ⟨b1, b2, b3, b4⟩ := g3 R hR
    have inner : ∃ f' x' rho', F_Gr_findReached_L35 (z9_i32 F) (z9_i32 R) rn_fu (z9_G_put_reached b f) 0 = some (z9_G_put_reached b f') ∧ F_Md_loops_L19 m (z9_i32 R) rn_fu st.2 0 = some x' ∧ z9_lrel g f' x' rho' ∧ (∀ s, z9_sub (rho s) (rho' s)) ∧ ∀ k, k < z9_A_ln g R → z9_lead g F R k → (rho' (z9_A_hd g R)).testBit (z9_A_bd g R k) = true := by
      refine z9_forU (L := fun n (st : tG × Int64) k => (F_Gr_findReached_L35 (z9_i32 F) (z9_i32 R) n st.1 k, F_Md_loops_L19 m (z9_i32 R) n st.2 k)) (Q := fun o => ∃ f' x' rho', o.1 = some (z9_G_put_reached b f') ∧ o.2 = some x' ∧ z9_lrel g f' x' rho' ∧ (∀ s, z9_sub (rho s) (rho' s)) ∧ ∀ k, k < z9_A_ln g R → z9_lead g F R k → (rho' (z9_A_hd g R)).testBit (z9_A_bd g R k) = true) (P := fun K st => ∃ f' rho', st.1 = z9_G_put_reached b f' ∧ z9_lrel g f' st.2 rho' ∧ (∀ s, z9_sub (rho s) (rho' s)) ∧ ∀ k, k < K → z9_lead g F R k → (rho' (z9_A_hd g R)).testBit (z9_A_bd g R k) = true) (K := z9_A_ln g R) 0 (z9_G_put_reached b f, st.2) (by omega) (by omega) ⟨f, rho, rfl, p2, fun s t ht => ht, fun k hk => by omega⟩ ?_ ?_
      · intro n st1 hP1
        obtain ⟨f', rho', q1, q2, q3, q4⟩ := hP1
        refine ⟨f', st1.2, rho', ?_, ?_, q2, q3, q4⟩
        · simp only [F_Gr_findReached_L35, q1, z9_gpr]
          rw [z9_aG_i (by omega) (by decide), (hb.2.2 R hR).2.1]
          simp only [Option.bind_some, Int32.le_refl, if_true]
        · simp only [F_Md_loops_L19]
          rw [z9_aG_i (by omega) (by decide), (hm.2.2 R hR).2.1]
          simp only [Option.bind_some, Int32.le_refl, if_true]
      · intro n st1 k hk hP1
        obtain ⟨f', rho', q1, q2, q3, q4⟩ := hP1
        left
        have hb' : z9_gIs (z9_G_put_reached b f') g := z9_gIs_pr hb
        have hbd := b4 k hk
        have hb2 : z9_A_bd g R k < 2147483648 := by omega
        have hx := z9_hx_place (show k < 4 by omega)
        have e1 : F_Gr_findReached_L35 (z9_i32 F) (z9_i32 R) (n + 1) st1.1 (z9_i32 k) = F_Gr_findReached_L35 (z9_i32 F) (z9_i32 R) n (if z9_A_bd g R k < 6 ∧ z9_eC g (z9_fe F) R k (z9_A_ln g R) ≠ none then z9_G_put_reached b (fun q => if q = z9_A_hd g R then z9_i32 (rho' (z9_A_hd g R) ||| 2 ^ z9_A_bd g R k) else f' q) else z9_G_put_reached b f') (z9_i32 k + 1) := by
          simp only [F_Gr_findReached_L35, q1, z9_gpr]
          rw [z9_aG_i (by omega) (by decide), (hb.2.2 R hR).2.1]
          simp only [Option.bind_some, z9_i32_le (show z9_A_ln g R < 2147483648 by omega) (show k < 2147483648 by omega)]
          rw [if_neg (by omega), z9_c_symbol hg' hb' hR hk]
          simp only [Option.bind_some, z9_c_isNonterminal hb2, z9_b01_0]
          by_cases h6 : z9_A_bd g R k < 6
          · simp only [h6, not_true, if_false, true_and]
            rw [z9_c_vanishes hg' hb' hF hx hR]
            simp only [Option.bind_some, z9_b01_0, ne_eq, Classical.not_not]
            by_cases hn : z9_eC g (z9_fe F) R k (z9_A_ln g R) = none
            · simp only [hn, if_true, not_true, if_false, Option.bind_some]
            · simp only [hn, if_false, not_false_eq_true, if_true]
              rw [z9_aG_i (by omega) (by decide), (hb.2.2 R hR).1]
              simp only [Option.bind_some]
              rw [z9_aG_i (by omega) (by decide), q2.1 _ b1]
              simp only [Option.bind_some, z9_orBit (q2.2.1 _) h6]
              rw [z9_aS_i (by omega) (by decide)]
              simp only [Option.bind_some]
              rfl
          · simp only [h6, not_false_eq_true, if_true, false_and, if_false, Option.bind_some]
        have e2 : F_Md_loops_L19 m (z9_i32 R) (n + 1) st1.2 (z9_i32 k) = F_Md_loops_L19 m (z9_i32 R) n (if z9_A_bd g R k < 6 ∧ z9_eC g (z9_fe F) R k (z9_A_ln g R) ≠ none then st1.2 ||| ((1 : Int64) <<< ((z9_i32 (6 * z9_A_hd g R + z9_A_bd g R k)).toInt64 &&& 63)) else st1.2) (z9_i32 k + 1) := by
          simp only [F_Md_loops_L19]
          rw [z9_aG_i (by omega) (by decide), (hm.2.2 R hR).2.1]
          simp only [Option.bind_some, z9_i32_le (show z9_A_ln g R < 2147483648 by omega) (show k < 2147483648 by omega)]
          rw [if_neg (by omega), show (4 : Int32) = z9_i32 4 from rfl, z9_i32_mul, z9_i32_add, z9_aG_i (by omega) (by decide), (hm.2.2 R hR).2.2.1 k hk]
          simp only [Option.bind_some, z9_m_isLetter hb2, z9_b01_0]
          by_cases h6 : z9_A_bd g R k < 6
          · simp only [show ¬ 6 ≤ z9_A_bd g R k by omega, not_false_eq_true, not_true, if_false, h6, true_and]
            rw [z9_m_emptyBodyCost hg' hm (by decide) (fun s _ => z9_fe_le _ s) he hx hR]
            have hle : z9_ole 4 (z9_eC g (z9_fe F) R k (z9_A_ln g R)) := fun y hy => by
              have := z9_eC_le (g := g) (r := R) (a := k) (fun s _ => z9_fe_le F s) (z9_A_ln g R) y hy; omega
            simp only [Option.bind_some, z9_ec_lt0 hle (by decide)]
            by_cases hn : z9_eC g (z9_fe F) R k (z9_A_ln g R) = none
            · simp only [hn, if_true, ne_eq, not_true, if_false, Option.bind_some]
            · simp only [hn, if_false, ne_eq, not_false_eq_true, if_true]
              rw [z9_aG_i (by omega) (by decide), (hm.2.2 R hR).1]
              simp only [Option.bind_some, show (6 : Int32) = z9_i32 6 from rfl, z9_i32_mul, z9_i32_add]
          · simp only [show 6 ≤ z9_A_bd g R k by omega, not_true, not_false_eq_true, if_true, h6, false_and, if_false, Option.bind_some]
        by_cases hl : z9_A_bd g R k < 6 ∧ z9_eC g (z9_fe F) R k (z9_A_ln g R) ≠ none
        · rw [if_pos hl] at e1 e2
          refine ⟨(_, _), Prod.ext e1 e2, _, _, rfl, z9_lrel_set hg' q2 b1 (show z9_A_bd g R k < z9_A_nS g by omega), ?_, ?_⟩
          · intro s t ht
            have := q3 s t ht
            by_cases hs : s = z9_A_hd g R
            · simp only [hs, if_true]; rw [z9_or_test, ← hs, this]; rfl
            · simp only [hs, if_false]; exact this
          · intro k' hk' hld
            simp only [if_true]; rw [z9_or_test]
            by_cases hkk : k' = k
            · subst hkk; simp
            · rw [q4 k' (by omega) hld]; rfl
        · rw [if_neg hl] at e1 e2
          refine ⟨(_, _), Prod.ext e1 e2, f', rho', rfl, q2, q3, ?_⟩
          intro k' hk' hld
          by_cases hkk : k' = k
          · subst hkk; exact absurd hld hl
          · exact q4 k' (by omega) hld
    obtain ⟨f', x', rho', q1, q2, q3, q4, q5⟩ := inner
    refine ⟨(z9_G_put_reached b f', x'), ?_, f', rho', rfl, q3, ?_⟩
    · simp only [F_Gr_findReached_L25, F_Md_loops_L8, p1, z9_gpr, hb.1, hm.1, z9_i32_le (show z9_A_nR g < 2147483648 by omega) (show R < 2147483648 by omega)]
      rw [if_neg (by omega), if_neg (by omega), q1, q2]; rfl
    · intro r k hr hk hl
      by_cases hrr : r = R
      · subst hrr; exact q5 k hk hl
      · exact q4 _ _ (p3 r k (by omega) hk hl)
set_option maxRecDepth 20000 in
theorem z9_or32_all : ∀ F G : Fin 64, z9_i32 F.1 ||| z9_i32 G.1 = z9_i32 (F.1 ||| G.1) := by decide +kernel
theorem z9_or32 {F G : Nat} (hF : F < 64) (hG : G < 64) : z9_i32 F ||| z9_i32 G = z9_i32 (F ||| G) := z9_or32_all ⟨F, hF⟩ ⟨G, hG⟩
def z9_wst (rho : Nat → Nat) (mid : Nat) (s : Nat) : Nat := if (rho s).testBit mid then rho s ||| rho mid else rho s
theorem z9_wst_mid (rho : Nat → Nat) (mid : Nat) : z9_wst rho mid mid = rho mid := by
  unfold z9_wst; split
  · exact Nat.or_self _
  · rfl
theorem z9_wst_lt {rho : Nat → Nat} (h : ∀ s, rho s < 64) (mid s : Nat) : z9_wst rho mid s < 64 := by
  unfold z9_wst; split
  · exact Nat.or_lt_two_pow (n := 6) (h s) (h mid)
  · exact h s
def z9_wpa (rho : Nat → Nat) (mid k : Nat) (s : Nat) : Nat := if s < k then z9_wst rho mid s else rho s
theorem z9_wpa_mid (rho : Nat → Nat) (mid k : Nat) : z9_wpa rho mid k mid = rho mid := by
  unfold z9_wpa; split
  · exact z9_wst_mid rho mid
  · rfl
theorem z9_lrel_row {g : z9_tA} {f : Nat → Int32} {x : Int64} {rho : Nat → Nat} (h : z9_lrel g f x rho) {s mid : Nat} (hs : s < 6) (hm : mid < 6) (hns : s < z9_A_nS g) :
    z9_lrel g (fun q => if q = s then z9_i32 (rho s ||| rho mid) else f q) (x ||| (((x >>> ((z9_i32 (6 * mid)).toInt64 &&& 63)) &&& 63) <<< ((z9_i32 (6 * s)).toInt64 &&& 63))) (fun q => if q = s then rho s ||| rho mid else rho q) := by
  obtain ⟨h1, h2, h3, h4, h5⟩ := h
  refine ⟨?_, ?_, ?_, ?_, ?_⟩
  · intro q hq; by_cases hqs : q = s
    · simp [hqs]
    · simp [hqs, h1 q hq]
  · intro q; by_cases hqs : q = s
    · simp only [hqs, if_true]; exact Nat.or_lt_two_pow (n := 6) (h2 s) (h2 mid)
    · simp only [hqs, if_false]; exact h2 q
  · intro q hq; show (if q = s then _ else _) = _; rw [if_neg (by omega)]; exact h3 q hq
  · intro i hi
    rw [z9_lb_or, z9_lb_shl _ (by omega), z9_lb_and, z9_lb_shr _ (by omega), z9_lb_63, h4 i hi]
    show _ = (decide (i < 36) && (if i / 6 = s then rho s ||| rho mid else rho (i / 6)).testBit (i % 6))
    by_cases hi6 : i / 6 = s
    · rw [if_pos hi6, hi6, Nat.testBit_or]
      have a2 : i < 36 := by omega
      have a3 : 6 * s ≤ i := by omega
      have a4 : i - 6 * s = i % 6 := by omega
      have a5 : i % 6 < 6 := by omega
      have a6 : i % 6 < 64 := by omega
      have a7 : 6 * mid + i % 6 < 64 := by omega
      rw [a4]
      simp only [a2, a3, a5, a6, a7, hi, decide_true, Bool.true_and, Bool.and_true, if_true]
      rw [h4 _ a7, show (6 * mid + i % 6) / 6 = mid by omega, show (6 * mid + i % 6) % 6 = i % 6 by omega]
      simp [show 6 * mid + i % 6 < 36 by omega]
    · rw [if_neg hi6]
      by_cases h36 : i < 36
      · by_cases hle : 6 * s ≤ i
        · have : ¬ i - 6 * s < 6 := by omega
          simp [this]
        · simp [hle]
      · have : ¬ i - 6 * s < 6 := by omega
        simp [h36, this]
  · intro q u hu
    by_cases hqs : q = s
    · simp only [hqs, if_true] at hu
      rw [Nat.testBit_or] at hu
      cases h : (rho s).testBit u with
      | true => exact h5 s u h
      | false => rw [h] at hu; exact h5 mid u (by simpa using hu)
    · simp only [hqs, if_false] at hu; exact h5 q u hu
theorem z9_lrel_congr {g : z9_tA} {f f' : Nat → Int32} {x : Int64} {rho rho' : Nat → Nat} (h : z9_lrel g f x rho) (h1 : ∀ s, s < z9_A_nS g → f' s = f s) (h2 : ∀ s, rho' s = rho s) : z9_lrel g f' x rho' := by
  have : rho' = rho := funext h2
  subst this
  exact ⟨fun s hs => (h1 s hs).trans (h.1 s hs), h.2⟩
def z9_Wi (rho : Nat → Nat) : Nat → Nat → Nat
  | 0 => rho
  | m + 1 => z9_wst (z9_Wi rho m) m
theorem z9_Wi_lt {rho : Nat → Nat} (h : ∀ s, rho s < 64) : ∀ m s, z9_Wi rho m s < 64 := by
  intro m
  induction m with
  | zero => exact h
  | succ m ih => exact z9_wst_lt ih m
theorem z9_Wi_zero {rho : Nat → Nat} {n : Nat} (h : ∀ s, n ≤ s → rho s = 0) : ∀ m s, n ≤ s → z9_Wi rho m s = 0 := by
  intro m
  induction m with
  | zero => exact h
  | succ m ih =>
    intro s hs
    show z9_wst (z9_Wi rho m) m s = 0
    unfold z9_wst; rw [ih s hs]; simp
theorem z9_Wi_stop {rho : Nat → Nat} {n : Nat} (h : ∀ s, n ≤ s → rho s = 0) : ∀ m, n ≤ m → z9_Wi rho m = z9_Wi rho n := by
  intro m
  induction m with
  | zero => intro hm; have : n = 0 := by omega
            subst this; rfl
  | succ m ih =>
    intro hm
    by_cases hn : n = m + 1
    · subst hn; rfl
    · rw [← ih (by omega)]
      funext s
      show z9_wst (z9_Wi rho m) m s = z9_Wi rho m s
      unfold z9_wst; rw [z9_Wi_zero h m m (by omega), Nat.or_zero]; split <;> rfl
theorem z9_wst_bit (rho : Nat → Nat) (m s t : Nat) : (z9_wst rho m s).testBit t = ((rho s).testBit t || ((rho s).testBit m && (rho m).testBit t)) := by
  unfold z9_wst
  by_cases h : (rho s).testBit m
  · rw [if_pos h, Nat.testBit_or, h]; simp
  · rw [if_neg h]; simp [h]
theorem z9_Wi_trans (rho : Nat → Nat) : ∀ m k, k < m → ∀ s t, (z9_Wi rho m s).testBit k = true → (z9_Wi rho m k).testBit t = true → (z9_Wi rho m s).testBit t = true := by
  intro m
  induction m with
  | zero => intro k hk; omega
  | succ m ih =>
    intro k hk s t
    show (z9_wst (z9_Wi rho m) m s).testBit k = true → (z9_wst (z9_Wi rho m) m k).testBit t = true → (z9_wst (z9_Wi rho m) m s).testBit t = true
    rw [z9_wst_bit, z9_wst_bit, z9_wst_bit]
    by_cases hkm : k = m
    · subst hkm
      cases h1 : (z9_Wi rho k s).testBit k <;> cases h2 : (z9_Wi rho k k).testBit t <;> simp
    · have ih' := ih k (by omega)
      have a := ih' s t
      have b := ih' s m
      have c := ih' m t
      cases h1 : (z9_Wi rho m s).testBit k <;> cases h2 : (z9_Wi rho m s).testBit m <;> cases h3 : (z9_Wi rho m m).testBit k <;> cases h4 : (z9_Wi rho m k).testBit t <;> cases h5 : (z9_Wi rho m k).testBit m <;> cases h6 : (z9_Wi rho m m).testBit t <;> simp_all
theorem z9_Wi_sub (rho : Nat → Nat) : ∀ m s, z9_sub (rho s) (z9_Wi rho m s) := by
  intro m
  induction m with
  | zero => intro s t ht; exact ht
  | succ m ih =>
    intro s t ht
    show (z9_wst (z9_Wi rho m) m s).testBit t = true
    rw [z9_wst_bit, ih s t ht]; rfl
theorem z9_c_close {b : tG} {g : z9_tA} (hg : z9_gOK g) (hb : z9_gIs b g) {f : Nat → Int32} {rho : Nat → Nat} (hf : ∀ s, s < z9_A_nS g → f s = z9_i32 (rho s)) (hr : ∀ s, rho s < 64) :
    ∃ f', F_Gr_closeReached (z9_G_put_reached b f) = some (z9_G_put_reached b f') ∧ ∀ s, s < z9_A_nS g → f' s = z9_i32 (z9_Wi rho (z9_A_nS g) s) := by
  have g2 := hg.2.2.1
  have key : ∃ f', F_Gr_closeReached_L2 rn_fu (z9_G_put_reached b f) 0 = some (z9_G_put_reached b f') ∧ ∀ s, s < z9_A_nS g → f' s = z9_i32 (z9_Wi rho (z9_A_nS g) s) := by
    refine z9_forU (L := fun n (st : tG) k => F_Gr_closeReached_L2 n st k) (Q := fun o => ∃ f', o = some (z9_G_put_reached b f') ∧ ∀ s, s < z9_A_nS g → f' s = z9_i32 (z9_Wi rho (z9_A_nS g) s)) (P := fun k st => ∃ f', st = z9_G_put_reached b f' ∧ ∀ s, s < z9_A_nS g → f' s = z9_i32 (z9_Wi rho k s)) (K := z9_A_nS g) 0 (z9_G_put_reached b f) (by omega) (by omega) ⟨f, rfl, hf⟩ ?_ ?_
    · intro n st hP
      obtain ⟨f', rfl, p2⟩ := hP
      refine ⟨f', ?_, p2⟩
      simp only [F_Gr_closeReached_L2, z9_gpr, hb.2.1, Int32.le_refl, if_true]
    · intro n st mid hmid hP
      obtain ⟨f', rfl, p2⟩ := hP
      left
      have inner : ∃ f'', F_Gr_closeReached_L12 (z9_i32 mid) rn_fu (z9_G_put_reached b f') 0 = some (z9_G_put_reached b f'') ∧ ∀ s, s < z9_A_nS g → f'' s = z9_i32 (z9_wpa (z9_Wi rho mid) mid (z9_A_nS g) s) := by
        refine z9_forU (L := fun n (st : tG) k => F_Gr_closeReached_L12 (z9_i32 mid) n st k) (Q := fun o => ∃ f'', o = some (z9_G_put_reached b f'') ∧ ∀ s, s < z9_A_nS g → f'' s = z9_i32 (z9_wpa (z9_Wi rho mid) mid (z9_A_nS g) s)) (P := fun k st => ∃ f'', st = z9_G_put_reached b f'' ∧ ∀ s, s < z9_A_nS g → f'' s = z9_i32 (z9_wpa (z9_Wi rho mid) mid k s)) (K := z9_A_nS g) 0 (z9_G_put_reached b f') (by omega) (by omega) ⟨f', rfl, fun s hs => by rw [p2 s hs]; simp [z9_wpa]⟩ ?_ ?_
        · intro n st hP
          obtain ⟨f'', rfl, q2⟩ := hP
          refine ⟨f'', ?_, q2⟩
          simp only [F_Gr_closeReached_L12, z9_gpr, hb.2.1, Int32.le_refl, if_true]
        · intro n st k hk hP
          obtain ⟨f'', rfl, q2⟩ := hP
          left
          have hlt := z9_Wi_lt hr mid
          have hk' : z9_wpa (z9_Wi rho mid) mid k k = z9_Wi rho mid k := by simp [z9_wpa]
          refine ⟨z9_G_put_reached b (fun s => if s = k then z9_i32 (z9_wst (z9_Wi rho mid) mid k) else f'' s), ?_, _, rfl, ?_⟩
          · simp only [F_Gr_closeReached_L12, z9_gpr, hb.2.1, z9_i32_le (show z9_A_nS g < 2147483648 by omega) (show k < 2147483648 by omega)]
            rw [if_neg (by omega), z9_aG_i (by omega) (by decide), z9_aG_i (by omega) (by decide), q2 k hk, q2 mid hmid, hk', z9_wpa_mid]
            simp only [Option.bind_some]
            rw [z9_hasBit (hlt k) (by omega)]
            simp only [Option.bind_some]
            by_cases ht : (z9_Wi rho mid k).testBit mid
            · simp only [ht, if_true, show ¬ (1 : Int32) = 0 by decide, if_false]
              rw [z9_aS_i (by omega) (by decide), z9_or32 (hlt k) (hlt mid)]
              simp only [Option.bind_some, z9_wst, ht, if_true]
              rw [← hb.2.1]; rfl
            · simp only [ht, if_true, Bool.false_eq_true, if_false, Option.bind_some, z9_wst]
              have : (fun s => if s = k then z9_i32 (z9_Wi rho mid k) else f'' s) = f'' := by
                funext s; by_cases hs : s = k
                · rw [if_pos hs, hs, q2 k hk, hk']
                · rw [if_neg hs]
              rw [this]
          · intro s hs
            by_cases hsk : s = k
            · rw [if_pos hsk, hsk]; simp [z9_wpa]
            · rw [if_neg hsk, q2 s hs]
              unfold z9_wpa
              by_cases h : s < k
              · rw [if_pos h, if_pos (by omega)]
              · rw [if_neg h, if_neg (by omega)]
      obtain ⟨f'', q1, q2⟩ := inner
      refine ⟨z9_G_put_reached b f'', ?_, f'', rfl, ?_⟩
      · simp only [F_Gr_closeReached_L2, z9_gpr, hb.2.1, z9_i32_le (show z9_A_nS g < 2147483648 by omega) (show mid < 2147483648 by omega)]
        rw [if_neg (by omega), q1]; rfl
      · intro s hs
        rw [q2 s hs]; unfold z9_wpa; rw [if_pos hs]; rfl
  obtain ⟨f', k1, k2⟩ := key
  refine ⟨f', ?_, k2⟩
  unfold F_Gr_closeReached; rw [k1]; rfl
def z9_xrel (x : Int64) (rho : Nat → Nat) : Prop := ∀ i, i < 64 → z9_lbit x i = (decide (i < 36) && (rho (i / 6)).testBit (i % 6))
theorem z9_m_close {g : z9_tA} {x : Int64} {rho : Nat → Nat} (hx : z9_xrel x rho) (hr : ∀ s, rho s < 64) : ∃ x', F_Md_loops_L97 rn_fu x 0 = some x' ∧ z9_xrel x' (z9_Wi rho 6) := by
  refine z9_forU (L := fun n (st : Int64) k => F_Md_loops_L97 n st k) (Q := fun o => ∃ x', o = some x' ∧ z9_xrel x' (z9_Wi rho 6)) (P := fun k st => z9_xrel st (z9_Wi rho k)) (K := 6) 0 x (by omega) (by omega) hx ?_ ?_
  · intro n st hP
    refine ⟨st, ?_, hP⟩
    simp only [F_Md_loops_L97, show (6 : Int32) ≤ z9_i32 6 from by decide, if_true]
  · intro n st mid hmid hP
    left
    have hlt := z9_Wi_lt hr mid
    have inner : ∃ x', F_Md_loops_L106 (z9_i32 mid) rn_fu st 0 = some x' ∧ z9_xrel x' (z9_wpa (z9_Wi rho mid) mid 6) := by
      refine z9_forU (L := fun n (st : Int64) k => F_Md_loops_L106 (z9_i32 mid) n st k) (Q := fun o => ∃ x', o = some x' ∧ z9_xrel x' (z9_wpa (z9_Wi rho mid) mid 6)) (P := fun k st => z9_xrel st (z9_wpa (z9_Wi rho mid) mid k)) (K := 6) 0 st (by omega) (by omega) ?_ ?_ ?_
      · have : z9_wpa (z9_Wi rho mid) mid 0 = z9_Wi rho mid := by funext s; simp [z9_wpa]
        rw [this]; exact hP
      · intro n st1 hP1
        refine ⟨st1, ?_, hP1⟩
        simp only [F_Md_loops_L106, show (6 : Int32) ≤ z9_i32 6 from by decide, if_true]
      · intro n st1 s hs hP1
        left
        simp only [F_Md_loops_L106, show (6 : Int32) = z9_i32 6 from rfl, z9_i32_le (show 6 < 2147483648 by decide) (show s < 2147483648 by omega), z9_i32_mul, z9_i32_add, z9_lb_test st1 (show 6 * s + mid < 36 by omega)]
        rw [if_neg (by omega)]
        have hl : ∀ i, i < 64 → z9_lbit st1 i = (decide (i < 36) && (z9_wpa (z9_Wi rho mid) mid s (i / 6)).testBit (i % 6)) := hP1
        have hb : z9_lbit st1 (6 * s + mid) = (z9_Wi rho mid s).testBit mid := by
          rw [hl _ (by omega), show (6 * s + mid) / 6 = s by omega, show (6 * s + mid) % 6 = mid by omega]
          simp [show 6 * s + mid < 36 by omega, z9_wpa]
        have hw : ∀ q, z9_wpa (z9_Wi rho mid) mid (s + 1) q = if q = s then z9_wst (z9_Wi rho mid) mid s else z9_wpa (z9_Wi rho mid) mid s q := by
          intro q
          unfold z9_wpa
          by_cases h : q = s
          · rw [if_pos h, if_pos (by omega), h]
          · rw [if_neg h]; by_cases h2 : q < s
            · rw [if_pos h2, if_pos (by omega)]
            · rw [if_neg h2, if_neg (by omega)]
        cases ht : (z9_Wi rho mid s).testBit mid with
        | true =>
          rw [ht] at hb
          simp only [hb, not_true, if_false, Option.bind_some]
          refine ⟨_, rfl, ?_⟩
          have hlr : z9_lrel (12, 6, fun _ => 0, fun _ => 0, fun _ _ => 0, fun _ => 0, fun _ => 0) (fun q => z9_i32 (z9_wpa (z9_Wi rho mid) mid s (if q < 6 then q else q))) st1 (fun q => if q < 6 then z9_wpa (z9_Wi rho mid) mid s q else 0) := by
            refine ⟨?_, ?_, ?_, ?_, ?_⟩
            · intro q hq; have hq6 : q < 6 := hq; simp [hq6]
            · intro q; show (if q < 6 then z9_wpa (z9_Wi rho mid) mid s q else 0) < 64
              split
              · unfold z9_wpa; split
                · exact z9_wst_lt hlt mid q
                · exact hlt q
              · decide
            · intro q hq; have hq6 : 6 ≤ q := hq; show (if q < 6 then z9_wpa (z9_Wi rho mid) mid s q else 0) = 0; rw [if_neg (by omega)]
            · intro i hi; rw [hl i hi]
              by_cases h36 : i < 36
              · show _ = (_ && (if i / 6 < 6 then z9_wpa (z9_Wi rho mid) mid s (i / 6) else 0).testBit (i % 6)); rw [if_pos (by omega)]
              · simp [h36]
            · intro q u hu
              show u < 6
              have hq64 : (if q < 6 then z9_wpa (z9_Wi rho mid) mid s q else 0) < 64 := by
                split
                · unfold z9_wpa; split
                  · exact z9_wst_lt hlt mid q
                  · exact hlt q
                · decide
              by_cases hu6 : u < 6
              · exact hu6
              · have := z9_lt64_bit hq64 (show 6 ≤ u by omega)
                rw [this] at hu; cases hu
          have := (z9_lrel_row hlr hs hmid (show s < 6 from hs)).2.2.2.1
          intro i hi
          rw [this i hi]
          show (decide (i < 36) && (if i / 6 = s then (if s < 6 then z9_wpa (z9_Wi rho mid) mid s s else 0) ||| (if mid < 6 then z9_wpa (z9_Wi rho mid) mid s mid else 0) else (if i / 6 < 6 then z9_wpa (z9_Wi rho mid) mid s (i / 6) else 0)).testBit (i % 6)) = _
          rw [if_pos hs, if_pos hmid, z9_wpa_mid, hw]
          by_cases h36 : i < 36
          · rw [if_pos (show i / 6 < 6 by omega)]
            by_cases his : i / 6 = s
            · rw [if_pos his, if_pos his]
              simp [z9_wpa, z9_wst, ht]
            · rw [if_neg his, if_neg his]
          · simp [h36]
        | false =>
          rw [ht] at hb
          simp only [hb, Bool.false_eq_true, not_false_eq_true, if_true, Option.bind_some]
          refine ⟨st1, rfl, ?_⟩
          intro i hi
          rw [hl i hi, hw]
          by_cases his : i / 6 = s
          · rw [if_pos his, his]; simp [z9_wpa, z9_wst, ht]
          · rw [if_neg his]
    obtain ⟨x', q1, q2⟩ := inner
    refine ⟨x', ?_, ?_⟩
    · simp only [F_Md_loops_L97, show (6 : Int32) = z9_i32 6 from rfl, z9_i32_le (show 6 < 2147483648 by decide) (show mid < 2147483648 by omega)]
      rw [if_neg (by omega), q1]; rfl
    · intro i hi
      rw [q2 i hi]
      by_cases h36 : i < 36
      · show (_ && (z9_wpa (z9_Wi rho mid) mid 6 (i / 6)).testBit (i % 6)) = (_ && (z9_wst (z9_Wi rho mid) mid (i / 6)).testBit (i % 6))
        unfold z9_wpa; rw [if_pos (by omega)]
      · simp [h36]
def z9_G_put_order (b : tG) (f : Nat → Int32) : tG := (G_heads b, G_bodies b, G_bodyLengths b, G_weights b, G_costs b, G_capitals b, f, G_ruleCount b, G_nonterminalCount b, G_reached b)
theorem z9_gpo (b : tG) (f : Nat → Int32) : G_heads (z9_G_put_order b f) = G_heads b ∧ G_bodies (z9_G_put_order b f) = G_bodies b ∧ G_bodyLengths (z9_G_put_order b f) = G_bodyLengths b ∧ G_weights (z9_G_put_order b f) = G_weights b ∧ G_costs (z9_G_put_order b f) = G_costs b ∧ G_capitals (z9_G_put_order b f) = G_capitals b ∧ G_order (z9_G_put_order b f) = f ∧ G_ruleCount (z9_G_put_order b f) = G_ruleCount b ∧ G_nonterminalCount (z9_G_put_order b f) = G_nonterminalCount b ∧ G_reached (z9_G_put_order b f) = G_reached b := by
  simp only [z9_G_put_order, z9_gt, and_self]
theorem z9_gpo2 (b : tG) (f f' : Nat → Int32) : z9_G_put_order (z9_G_put_order b f) f' = z9_G_put_order b f' := by
  simp only [z9_G_put_order, z9_gt]
theorem z9_gIs_po {b : tG} {g : z9_tA} {f : Nat → Int32} (h : z9_gIs b g) : z9_gIs (z9_G_put_order b f) g := by
  unfold z9_gIs at *; simp only [z9_gpo]; exact h
def z9_ordOK (g : z9_tA) (F : Nat) (o : Nat → Int32) : Prop := ∃ rk od : Nat → Nat, (∀ q, q < z9_A_nS g → o q = z9_i32 (od q) ∧ od q < z9_A_nS g) ∧ (∀ s, s < z9_A_nS g → ∃ q, q < z9_A_nS g ∧ od q = s) ∧ (∀ q q', q < z9_A_nS g → q' < z9_A_nS g → od q = od q' → q = q') ∧ (∀ q q', q < q' → q' < z9_A_nS g → rk (od q) ≤ rk (od q')) ∧ (∀ s, s < z9_A_nS g → rk s < z9_A_nS g) ∧ ∀ r k, r < z9_A_nR g → k < z9_A_ln g r → z9_lead g F r k → rk (z9_A_bd g r k) < rk (z9_A_hd g r)
theorem z9_bitCount_all : ∀ F : Fin 64, F_Ji_bitCount (z9_i32 F.1) = some (z9_i32 (z9_pcN 6 F.1)) := by decide +kernel
theorem z9_bitCount {F : Nat} (hF : F < 64) : F_Ji_bitCount (z9_i32 F) = some (z9_i32 (z9_pcN 6 F)) := z9_bitCount_all ⟨F, hF⟩
def z9_cnt (P : Nat → Bool) : Nat → Nat
  | 0 => 0
  | n + 1 => z9_cnt P n + if P n then 1 else 0
theorem z9_cnt_le (P : Nat → Bool) (n : Nat) : z9_cnt P n ≤ n := by
  induction n with
  | zero => exact Nat.le_refl _
  | succ n ih => simp only [z9_cnt]; split <;> omega
theorem z9_cnt_congr {P P' : Nat → Bool} {n : Nat} (h : ∀ t, t < n → P t = P' t) : z9_cnt P n = z9_cnt P' n := by
  induction n with
  | zero => rfl
  | succ n ih => simp only [z9_cnt]; rw [ih (fun t ht => h t (by omega)), h n (by omega)]
theorem z9_cnt_one {P P' : Nat → Bool} {n s : Nat} (hs : s < n) (h : ∀ t, t < n → t ≠ s → P t = P' t) (h1 : P s = false) (h2 : P' s = true) : z9_cnt P' n = z9_cnt P n + 1 := by
  induction n with
  | zero => omega
  | succ n ih =>
    simp only [z9_cnt]
    by_cases hsn : s = n
    · subst hsn; rw [h1, h2, z9_cnt_congr (fun t ht => h t (by omega) (by omega))]; simp
    · rw [ih (by omega) (fun t ht hts => h t (by omega) hts), h n (by omega) (by omega)]; omega
theorem z9_cnt_all {P : Nat → Bool} {n : Nat} (h : ∀ t, t < n → P t = true) : z9_cnt P n = n := by
  induction n with
  | zero => rfl
  | succ n ih => simp only [z9_cnt]; rw [ih (fun t ht => h t (by omega)), h n (by omega)]; simp
def z9_bef (pc : Nat → Nat) (h s t : Nat) : Bool := decide (pc t < h) || (decide (pc t = h) && decide (t < s))
def z9_ordI (n : Nat) (pc : Nat → Nat) (h s : Nat) (o : Nat → Int32) (nx : Nat) : Prop := ∃ od : Nat → Nat, nx = z9_cnt (z9_bef pc h s) n ∧ (∀ q, q < nx → o q = z9_i32 (od q) ∧ od q < n ∧ z9_bef pc h s (od q) = true) ∧ (∀ q q', q < q' → q' < nx → z9_bef pc (pc (od q')) (od q') (od q) = true) ∧ ∀ t, t < n → z9_bef pc h s t = true → ∃ q, q < nx ∧ od q = t
theorem z9_c_order {b : tG} {n : Nat} (hn : n ≤ 6) (hb : G_nonterminalCount b = z9_i32 n) {w : Nat → Nat} (hw : ∀ s, s < n → G_reached b s = z9_i32 (w s)) (hlt : ∀ s, w s < 64) :
    ∃ o, F_Gr_findOrder_L43 rn_fu b 0 0 = some (z9_G_put_order b o) ∧ z9_ordI n (fun s => z9_pcN 6 (w s)) n 0 o (z9_cnt (z9_bef (fun s => z9_pcN 6 (w s)) n 0) n) := by
  have b0 : b = z9_G_put_order b (G_order b) := rfl
  refine z9_forU (L := fun f (st : tG × Int32) k => F_Gr_findOrder_L43 f st.1 st.2 k) (Q := fun r => ∃ o, r = some (z9_G_put_order b o) ∧ z9_ordI n (fun s => z9_pcN 6 (w s)) n 0 o (z9_cnt (z9_bef (fun s => z9_pcN 6 (w s)) n 0) n)) (P := fun h st => ∃ o nx, st = (z9_G_put_order b o, z9_i32 nx) ∧ z9_ordI n (fun s => z9_pcN 6 (w s)) h 0 o nx) (K := n) 0 (b, 0) (by omega) (by omega) ?_ ?_ ?_
  · refine ⟨G_order b, 0, rfl, fun _ => 0, ?_, fun q hq => by omega, fun q q' h1 h2 => by omega, ?_⟩
    · have : ∀ m, z9_cnt (z9_bef (fun s => z9_pcN 6 (w s)) 0 0) m = 0 := by
        intro m; induction m with
        | zero => rfl
        | succ m ih => simp only [z9_cnt, ih]; simp [z9_bef]
      exact (this n).symm
    · intro t ht h; simp [z9_bef] at h
  · intro f st hP
    obtain ⟨o, nx, rfl, p⟩ := hP
    refine ⟨o, ?_, ?_⟩
    · simp only [F_Gr_findOrder_L43, z9_gpo, hb, Int32.le_refl, if_true]
    · have : nx = z9_cnt (z9_bef (fun s => z9_pcN 6 (w s)) n 0) n := by obtain ⟨od, q1, _⟩ := p; exact q1
      rw [← this]; exact p
  · intro f st h hh hP
    obtain ⟨o, nx, rfl, p⟩ := hP
    left
    have inner : ∃ o' nx', F_Gr_findOrder_L53 (z9_i32 h) rn_fu (z9_G_put_order b o) (z9_i32 nx) 0 = some (z9_i32 nx', z9_G_put_order b o') ∧ z9_ordI n (fun s => z9_pcN 6 (w s)) h n o' nx' := by
      refine z9_forU (L := fun f (st : tG × Int32) k => F_Gr_findOrder_L53 (z9_i32 h) f st.1 st.2 k) (Q := fun r => ∃ o' nx', r = some (z9_i32 nx', z9_G_put_order b o') ∧ z9_ordI n (fun s => z9_pcN 6 (w s)) h n o' nx') (P := fun s st => ∃ o' nx', st = (z9_G_put_order b o', z9_i32 nx') ∧ z9_ordI n (fun s => z9_pcN 6 (w s)) h s o' nx') (K := n) 0 (z9_G_put_order b o, z9_i32 nx) (by omega) (by omega) ⟨o, nx, rfl, p⟩ ?_ ?_
      · intro f st hP
        obtain ⟨o', nx', rfl, q⟩ := hP
        refine ⟨o', nx', ?_, q⟩
        simp only [F_Gr_findOrder_L53, z9_gpo, hb, Int32.le_refl, if_true]
      · intro f st s hs hP
        obtain ⟨o', nx', rfl, od, q1, q2, q3, q4⟩ := hP
        left
        have hpc : z9_pcN 6 (w s) ≤ 6 := z9_pcN_le 6 _
        have hnx : nx' ≤ n := by rw [q1]; exact z9_cnt_le _ _
        simp only [F_Gr_findOrder_L53, z9_gpo, hb, z9_i32_le (show n < 2147483648 by omega) (show s < 2147483648 by omega)]
        rw [if_neg (by omega), z9_aG_i (by omega) (by decide), hw s hs]
        simp only [Option.bind_some]
        rw [z9_bitCount (hlt s)]
        simp only [Option.bind_some, z9_i32_inj (show z9_pcN 6 (w s) < 2147483648 by omega) (show h < 2147483648 by omega)]
        by_cases he : z9_pcN 6 (w s) = h
        · have hc1 : z9_cnt (z9_bef (fun s => z9_pcN 6 (w s)) h (s + 1)) n = nx' + 1 := by
            rw [q1]
            refine z9_cnt_one hs ?_ ?_ ?_
            · intro t ht hts; unfold z9_bef; congr 2; exact decide_eq_decide.mpr (by omega)
            · simp [z9_bef]; omega
            · simp [z9_bef, he]
          have hlt1 : nx' < n := by
            have := z9_cnt_le (z9_bef (fun s => z9_pcN 6 (w s)) h (s + 1)) n; omega
          simp only [he, not_true, if_false]
          rw [z9_aS_i (by omega) (by decide)]
          simp only [Option.bind_some]
          refine ⟨(z9_G_put_order b (fun q => if q = nx' then z9_i32 s else o' q), z9_i32 (nx' + 1)), ?_, _, _, rfl, fun q => if q = nx' then s else od q, hc1.symm, ?_, ?_, ?_⟩
          · show F_Gr_findOrder_L53 (z9_i32 h) f (G_heads b, G_bodies b, G_bodyLengths b, G_weights b, G_costs b, G_capitals b, _, G_ruleCount b, z9_i32 n, G_reached b) (z9_i32 nx' + 1) (z9_i32 s + 1) = _
            rw [show z9_i32 nx' + 1 = z9_i32 (nx' + 1) from z9_i32_add _ 1, ← hb]; rfl
          · intro q hq
            by_cases hqn : q = nx'
            · simp only [hqn, if_true]; exact ⟨trivial, hs, by simp [z9_bef, he]⟩
            · simp only [hqn, if_false]
              obtain ⟨a1, a2, a3⟩ := q2 q (by omega)
              refine ⟨a1, a2, ?_⟩
              unfold z9_bef at a3 ⊢
              simp only [Bool.or_eq_true, Bool.and_eq_true, decide_eq_true_eq] at a3 ⊢; omega
          · intro q q' h1 h2
            by_cases hqn : q' = nx'
            · simp only [hqn, if_true, show ¬ q = nx' by omega, if_false, he]
              exact (q2 q (by omega)).2.2
            · simp only [hqn, if_false, show ¬ q = nx' by omega]
              exact q3 q q' h1 (by omega)
          · intro t ht hb1
            by_cases hts : t = s
            · exact ⟨nx', by omega, by simp [hts]⟩
            · have : z9_bef (fun s => z9_pcN 6 (w s)) h s t = true := by
                unfold z9_bef at hb1 ⊢
                simp only [Bool.or_eq_true, Bool.and_eq_true, decide_eq_true_eq] at hb1 ⊢; omega
              obtain ⟨q, a1, a2⟩ := q4 t ht this
              exact ⟨q, by omega, by simp only [show ¬ q = nx' by omega, if_false]; exact a2⟩
        · simp only [he, not_false_eq_true, if_true, Option.bind_some]
          refine ⟨(z9_G_put_order b o', z9_i32 nx'), rfl, o', nx', rfl, od, ?_, ?_, q3, ?_⟩
          · rw [q1]; refine z9_cnt_congr ?_
            intro t ht
            unfold z9_bef
            by_cases hts : t = s
            · subst hts; simp [he]
            · congr 2; exact decide_eq_decide.mpr (by omega)
          · intro q hq
            obtain ⟨a1, a2, a3⟩ := q2 q hq
            refine ⟨a1, a2, ?_⟩
            unfold z9_bef at a3 ⊢
            simp only [Bool.or_eq_true, Bool.and_eq_true, decide_eq_true_eq] at a3 ⊢; omega
          · intro t ht hb1
            refine q4 t ht ?_
            unfold z9_bef at hb1 ⊢
            simp only [Bool.or_eq_true, Bool.and_eq_true, decide_eq_true_eq] at hb1 ⊢
            by_cases hts : t = s
            · subst hts; omega
            · omega
    obtain ⟨o', nx', q1, q2⟩ := inner
    refine ⟨(z9_G_put_order b o', z9_i32 nx'), ?_, o', nx', rfl, ?_⟩
    · simp only [F_Gr_findOrder_L43, z9_gpo, hb, z9_i32_le (show n < 2147483648 by omega) (show h < 2147483648 by omega)]
      rw [if_neg (by omega), q1]; rfl
    · obtain ⟨od, a1, a2, a3, a4⟩ := q2
      have hbb : ∀ t, t < n → z9_bef (fun s => z9_pcN 6 (w s)) h n t = z9_bef (fun s => z9_pcN 6 (w s)) (h + 1) 0 t := by
        intro t ht; unfold z9_bef
        rw [Bool.eq_iff_iff]
        simp only [Bool.or_eq_true, Bool.and_eq_true, decide_eq_true_eq]; omega
      refine ⟨od, ?_, ?_, a3, ?_⟩
      · rw [a1]; exact z9_cnt_congr hbb
      · intro q hq
        obtain ⟨c1, c2, c3⟩ := a2 q hq
        exact ⟨c1, c2, by rw [← hbb _ c2]; exact c3⟩
      · intro t ht hb1
        exact a4 t ht (by rw [hbb t ht]; exact hb1)
theorem z9_pc_lt {n F s : Nat} (hn : n ≤ 6) (hs : s < n) (hb : ∀ t, F.testBit t = true → t < n) (hF : F.testBit s = false) : z9_pcN 6 F < n := by
  have h1 : ∀ m, n ≤ m → z9_pcN m F = z9_pcN n F := by
    intro m hm
    induction m with
    | zero => have : n = 0 := by omega
              subst this; rfl
    | succ m ih =>
      by_cases h : n = m + 1
      · subst h; rfl
      · simp only [z9_pcN]; rw [ih (by omega)]
        have : F.testBit m = false := by
          cases hf : F.testBit m with
          | false => rfl
          | true => have := hb m hf; omega
        simp [this]
  rw [h1 6 hn]
  have h2 : ∀ m, s < m → z9_pcN m F < m := by
    intro m hm
    induction m with
    | zero => omega
    | succ m ih =>
      simp only [z9_pcN]
      by_cases h : s = m
      · subst h; rw [hF]; simp; have := z9_pcN_le s F; omega
      · have := ih (by omega); split <;> omega
  exact h2 n hs
theorem z9_Wi_bits {rho : Nat → Nat} {n : Nat} (h : ∀ s t, (rho s).testBit t = true → t < n) : ∀ m s t, (z9_Wi rho m s).testBit t = true → t < n := by
  intro m
  induction m with
  | zero => exact h
  | succ m ih =>
    intro s t ht
    have : (z9_wst (z9_Wi rho m) m s).testBit t = true := ht
    rw [z9_wst_bit] at this
    simp only [Bool.or_eq_true, Bool.and_eq_true] at this
    rcases this with q | ⟨_, q⟩
    · exact ih s t q
    · exact ih m t q
theorem z9_o_all {b : tG} {m : tM} {g : z9_tA} (hg : z9_gOK g) (hb : z9_gIs b g) (hm : z9_mIs m g) :
    ∃ m', z9_bG m' = z9_bG m ∧ z9_mFrT m m' ∧ ((∃ b', F_Gr_findOrder b = some (0, b') ∧ F_Md_loops m = some (1, m')) ∨ (∃ f o, F_Gr_findOrder b = some (1, z9_G_put_order (z9_G_put_reached b f) o) ∧ F_Md_loops m = some (0, m') ∧ z9_ordOK g (z9_rounds g (z9_A_nS g)) o)) := by
  have g2 := hg.2.2.1
  obtain ⟨m1, e1, e2, e3, e4, e5⟩ := z9_o_emptyable hg hb hm
  have hF := z9_rounds_lt hg (z9_A_nS g)
 
  have k1 : ∃ f0, F_Gr_findReached_L2 (z9_i32 (z9_rounds g (z9_A_nS g))) rn_fu b 0 = some (z9_G_put_reached b f0) ∧ ∀ s, s < z9_A_nS g → f0 s = 0 := by
    refine z9_forU (L := fun n (st : tG) k => F_Gr_findReached_L2 (z9_i32 (z9_rounds g (z9_A_nS g))) n st k) (Q := fun o => ∃ f0, o = some (z9_G_put_reached b f0) ∧ ∀ s, s < z9_A_nS g → f0 s = 0) (P := fun k st => ∃ f0, st = z9_G_put_reached b f0 ∧ ∀ s, s < k → f0 s = 0) (K := z9_A_nS g) 0 b (by omega) (by omega) ⟨G_reached b, rfl, fun s hs => by omega⟩ ?_ ?_
    · intro n st hP
      obtain ⟨f0, rfl, p⟩ := hP
      refine ⟨f0, ?_, p⟩
      simp only [F_Gr_findReached_L2, z9_gpr, hb.2.1, Int32.le_refl, if_true]
    · intro n st k hk hP
      obtain ⟨f0, rfl, p⟩ := hP
      left
      refine ⟨z9_G_put_reached b (fun s => if s = k then 0 else f0 s), ?_, _, rfl, ?_⟩
      · simp only [F_Gr_findReached_L2, z9_gpr, hb.2.1, z9_i32_le (show z9_A_nS g < 2147483648 by omega) (show k < 2147483648 by omega)]
        rw [if_neg (by omega), z9_aS_i (by omega) (by decide)]
        simp only [Option.bind_some]
        rw [← hb.2.1]; rfl
      · intro s hs
        by_cases h : s = k
        · rw [if_pos h]
        · rw [if_neg h]; exact p s (by omega)
  obtain ⟨f0, c1, c2⟩ := k1
  have hl0 : z9_lrel g f0 0 (fun _ => 0) := ⟨fun s hs => c2 s hs, fun s => (by decide : 0 < 64), fun s _ => rfl, fun i hi => by simp [z9_lb_zero], fun s t h => by simp at h⟩
  have hm1 := z9_mIs_fr hm e4
  obtain ⟨f1, x1, rho, d1, d2, d3, d4⟩ := z9_o_leads hg hb hm1 hF e3 hl0
  obtain ⟨f2, q1, q2⟩ := z9_c_close hg hb d3.1 d3.2.1
  obtain ⟨x2, r1, r2⟩ := z9_m_close (g := g) d3.2.2.2.1 d3.2.1
  rw [z9_Wi_stop d3.2.2.1 6 g2] at r2
  have hlt := z9_Wi_lt d3.2.1 (z9_A_nS g)
  have hbits := z9_Wi_bits d3.2.2.2.2 (z9_A_nS g)
  have hz := z9_Wi_zero d3.2.2.1 (z9_A_nS g)
  have hdiag : ∀ s, s < 6 → z9_lbit x2 (7 * s) = (z9_Wi rho (z9_A_nS g) s).testBit s := by
    intro s hs
    rw [r2 _ (by omega), show 7 * s / 6 = s by omega, show 7 * s % 6 = s by omega]
    simp [show 7 * s < 36 by omega]
  have cl : (F_Gr_findOrder_L10 (z9_G_put_reached b f2) rn_fu 0 = some (.inl (0, z9_G_put_reached b f2)) ∧ ∃ s, s < z9_A_nS g ∧ (z9_Wi rho (z9_A_nS g) s).testBit s = true) ∨ (F_Gr_findOrder_L10 (z9_G_put_reached b f2) rn_fu 0 = some (.inr ()) ∧ ∀ s, s < z9_A_nS g → (z9_Wi rho (z9_A_nS g) s).testBit s = false) := by
    refine z9_forU (L := fun n (_ : Unit) k => F_Gr_findOrder_L10 (z9_G_put_reached b f2) n k) (Q := fun o => (o = some (.inl (0, z9_G_put_reached b f2)) ∧ ∃ s, s < z9_A_nS g ∧ (z9_Wi rho (z9_A_nS g) s).testBit s = true) ∨ (o = some (.inr ()) ∧ ∀ s, s < z9_A_nS g → (z9_Wi rho (z9_A_nS g) s).testBit s = false)) (P := fun k _ => ∀ s, s < k → (z9_Wi rho (z9_A_nS g) s).testBit s = false) (K := z9_A_nS g) 0 () (by omega) (by omega) (fun s hs => by omega) ?_ ?_
    · intro n _ hP
      right
      refine ⟨?_, hP⟩
      simp only [F_Gr_findOrder_L10, z9_gpr, hb.2.1, Int32.le_refl, if_true]
    · intro n _ k hk hP
      simp only [F_Gr_findOrder_L10, z9_gpr, hb.2.1, z9_i32_le (show z9_A_nS g < 2147483648 by omega) (show k < 2147483648 by omega)]
      rw [if_neg (by omega), z9_aG_i (by omega) (by decide), q2 k hk]
      simp only [Option.bind_some]
      rw [z9_hasBit (hlt k) (by omega)]
      cases ht : (z9_Wi rho (z9_A_nS g) k).testBit k with
      | true =>
        right; left
        exact ⟨by simp, k, hk, ht⟩
      | false =>
        left
        refine ⟨(), by simp, ?_⟩
        intro s hs
        by_cases h : s = k
        · subst h; exact ht
        · exact hP s (by omega)
  have ml : (F_Md_loops_L169 x2 rn_fu 0 0 = some 1 ∧ ∃ s, s < 6 ∧ (z9_Wi rho (z9_A_nS g) s).testBit s = true) ∨ (F_Md_loops_L169 x2 rn_fu 0 0 = some 0 ∧ ∀ s, s < 6 → (z9_Wi rho (z9_A_nS g) s).testBit s = false) := by
    refine z9_forU (L := fun n (st : Int32) k => F_Md_loops_L169 x2 n st k) (Q := fun o => (o = some 1 ∧ ∃ s, s < 6 ∧ (z9_Wi rho (z9_A_nS g) s).testBit s = true) ∨ (o = some 0 ∧ ∀ s, s < 6 → (z9_Wi rho (z9_A_nS g) s).testBit s = false)) (P := fun k st => (st = 1 ∧ ∃ s, s < 6 ∧ (z9_Wi rho (z9_A_nS g) s).testBit s = true) ∨ (st = 0 ∧ ∀ s, s < k → (z9_Wi rho (z9_A_nS g) s).testBit s = false)) (K := 6) 0 0 (by omega) (by omega) (Or.inr ⟨rfl, fun s hs => by omega⟩) ?_ ?_
    · intro n st hP
      simp only [F_Md_loops_L169, show (6 : Int32) ≤ z9_i32 6 from by decide, if_true]
      rcases hP with ⟨rfl, h⟩ | ⟨rfl, h⟩
      · exact Or.inl ⟨rfl, h⟩
      · exact Or.inr ⟨rfl, h⟩
    · intro n st k hk hP
      left
      simp only [F_Md_loops_L169, show (6 : Int32) = z9_i32 6 from rfl, show (7 : Int32) = z9_i32 7 from rfl, z9_i32_le (show 6 < 2147483648 by decide) (show k < 2147483648 by omega), z9_i32_mul, z9_lb_test x2 (show 7 * k < 36 by omega), hdiag k hk]
      rw [if_neg (by omega)]
      rcases hP with ⟨rfl, h⟩ | ⟨rfl, h⟩
      · refine ⟨1, ?_, Or.inl ⟨rfl, h⟩⟩
        simp
      · cases ht : (z9_Wi rho (z9_A_nS g) k).testBit k with
        | true =>
          refine ⟨1, by simp, Or.inl ⟨rfl, k, hk, ht⟩⟩
        | false =>
          refine ⟨0, by simp, Or.inr ⟨rfl, ?_⟩⟩
          intro s hs
          by_cases h1 : s = k
          · subst h1; exact ht
          · exact h s (by omega)
  have hfo : F_Gr_findReached b (z9_i32 (z9_rounds g (z9_A_nS g))) = some (z9_G_put_reached b f2) := by
    unfold F_Gr_findReached
    rw [c1]; simp only [Option.bind_some]
    rw [d1]; simp only [Option.bind_some]
    rw [q1]; rfl
  refine ⟨m1, e4, e5, ?_⟩
  rcases cl with ⟨cl1, s, hs, hst⟩ | ⟨cl1, cl2⟩
  · left
    refine ⟨z9_G_put_reached b f2, ?_, ?_⟩
    · unfold F_Gr_findOrder
      rw [e1]; simp only [Option.bind_some]
      rw [hfo]; simp only [Option.bind_some]
      rw [cl1]; rfl
    · rcases ml with ⟨ml1, _⟩ | ⟨_, ml2⟩
      · unfold F_Md_loops
        rw [e2]; simp only [Option.bind_some]
        rw [d2]; simp only [Option.bind_some]
        rw [r1]; simp only [Option.bind_some]
        rw [ml1]; rfl
      · rw [ml2 s (by omega)] at hst; cases hst
  · right
    obtain ⟨o, o1, od, o2, o3, o4, o5⟩ := z9_c_order (b := z9_G_put_reached b f2) g2 (by rw [z9_gpr b f2 |>.2.2.2.2.2.2.2.2.1]; exact hb.2.1) (w := z9_Wi rho (z9_A_nS g)) (by intro s hs; rw [z9_gpr b f2 |>.2.2.2.2.2.2.2.2.2]; exact q2 s hs) hlt
    refine ⟨f2, o, ?_, ?_, fun s => z9_pcN 6 (z9_Wi rho (z9_A_nS g) s), od, ?_, ?_, ?_, ?_, ?_, ?_⟩
    · unfold F_Gr_findOrder
      rw [e1]; simp only [Option.bind_some]
      rw [hfo]; simp only [Option.bind_some]
      rw [cl1]; simp only [Option.bind_some]
      rw [o1]; rfl
    · rcases ml with ⟨_, s, hs, hst⟩ | ⟨ml1, ml2⟩
      · by_cases hsn : s < z9_A_nS g
        · rw [cl2 s hsn] at hst; cases hst
        · rw [hz s (by omega)] at hst; simp at hst
      · unfold F_Md_loops
        rw [e2]; simp only [Option.bind_some]
        rw [d2]; simp only [Option.bind_some]
        rw [r1]; simp only [Option.bind_some]
        rw [ml1]; rfl
    all_goals have hpc : ∀ s, s < z9_A_nS g → z9_pcN 6 (z9_Wi rho (z9_A_nS g) s) < z9_A_nS g := fun s hs => z9_pc_lt g2 hs (hbits s) (cl2 s hs)
    all_goals have hall : z9_cnt (z9_bef (fun s => z9_pcN 6 (z9_Wi rho (z9_A_nS g) s)) (z9_A_nS g) 0) (z9_A_nS g) = z9_A_nS g := z9_cnt_all (fun t ht => by simp [z9_bef, hpc t ht])
    all_goals rw [hall] at o3 o4 o5
    · intro q hq; exact ⟨(o3 q hq).1, (o3 q hq).2.1⟩
    · intro s hs; exact o5 s hs (by simp [z9_bef, hpc s hs])
    · intro q q' hq hq' he
      by_cases h1 : q < q'
      · have := o4 q q' h1 hq'; rw [he] at this; simp [z9_bef] at this
      · by_cases h2 : q' < q
        · have := o4 q' q h2 hq; rw [he] at this; simp [z9_bef] at this
        · omega
    · intro q q' h1 h2
      have := o4 q q' h1 h2
      unfold z9_bef at this
      simp only [Bool.or_eq_true, Bool.and_eq_true, decide_eq_true_eq] at this; show z9_pcN 6 _ ≤ z9_pcN 6 _; omega
    · exact hpc
    · intro r k hr hk hl
      have hh := (hg.2.2.2 r hr).1
      have hbd : z9_A_bd g r k < z9_A_nS g := by
        have := (hg.2.2.2 r hr).2.2.2 k hk
        have := hl.1; omega
      have hbit := z9_Wi_sub rho (z9_A_nS g) _ _ (d4 r k hr hk hl)
      refine z9_pcN_lt (s := z9_A_bd g r k) ?_ (by omega) (cl2 _ hbd) hbit
      intro t ht
      exact z9_Wi_trans rho (z9_A_nS g) _ hbd _ t hbit ht
