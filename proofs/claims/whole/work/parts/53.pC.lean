def z9_cel (s p q : Nat) : Nat := (if p = q then 0 else 8 * p + q) * 6 + s
theorem z9_cel_lt {s p q : Nat} (hs : s < 6) (hp : p ≤ q) (hq : q ≤ 8) : z9_cel s p q < 390 := by
  unfold z9_cel; split <;> omega
theorem z9_cel_inj {s p q s' p' q' : Nat} (hs : s < 6) (hs' : s' < 6) (hp : p ≤ q) (hq : q ≤ 8) (hp' : p' ≤ q') (hq' : q' ≤ 8) (h : z9_cel s p q = z9_cel s' p' q') : s = s' ∧ ((p = q ∧ p' = q') ∨ (p = p' ∧ q = q')) := by
  unfold z9_cel at h
  split at h <;> split at h <;> omega
theorem z9_c_cell {s p q : Nat} (hs : s < 1000) (hp : p < 1000) (hq : q < 1000) : F_Ch_cell (z9_i32 s) (z9_i32 p) (z9_i32 q) = some (z9_i32 (z9_cel s p q)) := by
  unfold F_Ch_cell z9_cel
  simp only [z9_i32_inj (show p < 2147483648 by omega) (show q < 2147483648 by omega)]
  by_cases h : p = q
  · simp only [h, not_true, if_false, if_true, Option.bind_some]
    rw [show (0 : Int32) = z9_i32 0 from rfl, show (6 : Int32) = z9_i32 6 from rfl, z9_i32_mul, z9_i32_add]
  · simp only [h, not_false_eq_true, if_true, if_false, Option.bind_some]
    rw [show (8 : Int32) = z9_i32 8 from rfl, show (6 : Int32) = z9_i32 6 from rfl, z9_i32_mul, z9_i32_add, z9_i32_mul, z9_i32_add, Nat.mul_comm p 8]
def z9_C_put_rest (c : tC) (A : Nat → Nat → Int64) (B D : Nat → Nat → Int32) : tC := (C_sums c, C_costs c, C_rules c, C_sizes c, C_lengths c, C_letters c, C_textLength c, A, B, D)
theorem z9_cpr (c : tC) (A : Nat → Nat → Int64) (B D : Nat → Nat → Int32) : C_sums (z9_C_put_rest c A B D) = C_sums c ∧ C_costs (z9_C_put_rest c A B D) = C_costs c ∧ C_rules (z9_C_put_rest c A B D) = C_rules c ∧ C_sizes (z9_C_put_rest c A B D) = C_sizes c ∧ C_lengths (z9_C_put_rest c A B D) = C_lengths c ∧ C_letters (z9_C_put_rest c A B D) = C_letters c ∧ C_textLength (z9_C_put_rest c A B D) = C_textLength c ∧ C_restSums (z9_C_put_rest c A B D) = A ∧ C_restCosts (z9_C_put_rest c A B D) = B ∧ C_restLengths (z9_C_put_rest c A B D) = D := by
  simp only [z9_C_put_rest, z9_ct, and_self]
def z9_cCH (c : tC) (V : Nat → Nat → Nat → Int64) (v : Nat → Nat → Nat → Option Nat) : Prop := ∀ s p q, s < 6 → p ≤ q → q ≤ 8 → C_sums c (z9_cel s p q) = V s p q ∧ C_costs c (z9_cel s p q) = z9_ec (v s p q) ∧ z9_ole z9_cB (v s p q) ∧ (v s p q = none → V s p q = 0)
theorem z9_fmn_mem {f : Nat → Option Nat} {p y : Nat} : ∀ n, z9_fmn f p n = some y → ∃ q, q < n ∧ f (p + q) = some y := by
  intro n h
  obtain ⟨h1, h2, _⟩ := z9_am_spec n (by rw [h]; simp)
  exact ⟨_, h1, h2.trans h⟩
theorem z9_ole_oadd {A B : Nat} {a b : Option Nat} (ha : z9_ole A a) (hb : z9_ole B b) : z9_ole (A + B) (z9_oadd a b) := by
  intro x hx
  cases a with
  | none => cases hx
  | some u => cases b with
    | none => cases hx
    | some w =>
      simp only [z9_oadd, Option.some.injEq] at hx
      have := ha u rfl
      have := hb w rfl
      omega
theorem z9_symC_le {tx : Nat → Nat} {v : Nat → Nat → Nat → Option Nat} {B s p q : Nat} (h : s < 6 → z9_ole B (v s p q)) : z9_ole B (z9_symC tx v s p q) := by
  unfold z9_symC z9_sym
  by_cases h6 : s < 6
  · rw [if_pos h6]; exact h h6
  · rw [if_neg h6]
    intro x hx
    split at hx
    · simp only [Option.some.injEq] at hx; omega
    · cases hx
theorem z9_evC_le {tx : Nat → Nat} {v : Nat → Nat → Nat → Option Nat} {B j : Nat} : ∀ (l : List Nat) (p : Nat), (∀ s p' q, s < 6 → p ≤ p' → p' ≤ q → q ≤ j → z9_ole B (v s p' q)) → z9_ole (l.length * B) (z9_evC tx v l p j) := by
  intro l
  induction l with
  | nil =>
    intro p _ x hx
    have hx' : (if p = j then some 0 else none) = some x := hx
    split at hx'
    · simp only [Option.some.injEq] at hx'; omega
    · cases hx'
  | cons s l ih =>
    intro p hv x hx
    rw [z9_evC_cons] at hx
    obtain ⟨q, hq, hx⟩ := z9_fmn_mem _ hx
    have := z9_ole_oadd (z9_symC_le (tx := tx) (s := s) (p := p) (q := p + q) (fun h6 => hv s p (p + q) h6 (Nat.le_refl _) (by omega) (by omega))) (ih (p + q) (fun s' p' q' a b c d => hv s' p' q' a (by omega) c d)) x hx
    rw [List.length_cons, Nat.add_mul]; omega
theorem z9_tl_cons {g : z9_tA} {r k n : Nat} (hk : k < n) : z9_tl g r k (n - k) = z9_A_bd g r k :: z9_tl g r (k + 1) (n - (k + 1)) := by
  rw [show n - k = (n - (k + 1)) + 1 by omega]; rfl
def z9_rowOK (g : z9_tA) (tx : Nat → Nat) (V : Nat → Nat → Nat → Int64) (v : Nat → Nat → Nat → Option Nat) (r j : Nat) (A : Nat → Nat → Int64) (B D : Nat → Nat → Int32) (k p : Nat) : Prop := A k p = z9_evS tx V (z9_tl g r k (z9_A_ln g r - k)) p j ∧ B k p = z9_ec (z9_evC tx v (z9_tl g r k (z9_A_ln g r - k)) p j) ∧ (k < z9_A_ln g r → z9_evC tx v (z9_tl g r k (z9_A_ln g r - k)) p j ≠ none → D k p = z9_i32 (z9_stp tx v (z9_A_bd g r k) (z9_tl g r (k + 1) (z9_A_ln g r - (k + 1))) p j))
theorem z9_up2_ap {α : Type} (f : Nat → Nat → α) (k : Nat) (g : Nat → α) (k' p : Nat) : up2 f k g k' p = if k' = k then g p else f k' p := by
  unfold up2; split <;> rfl
def z9_up1 {α : Type} (f : Nat → Nat → α) (k p : Nat) (x : α) : Nat → Nat → α := up2 f k (fun j => if j = p then x else f k j)
theorem z9_up1_ap {α : Type} (f : Nat → Nat → α) (k p : Nat) (x : α) (k' p' : Nat) : z9_up1 f k p x k' p' = if k' = k ∧ p' = p then x else f k' p' := by
  unfold z9_up1; rw [z9_up2_ap]
  by_cases h : k' = k
  · by_cases h2 : p' = p
    · simp [h, h2]
    · simp [h, h2]
  · simp [h]
theorem z9_symS_lt {tx : Nat → Nat} {V : Nat → Nat → Nat → Int64} {s p q : Nat} (h : s < 6) : z9_symS tx V s p q = V s p q := if_pos h
theorem z9_symC_lt {tx : Nat → Nat} {v : Nat → Nat → Nat → Option Nat} {s p q : Nat} (h : s < 6) : z9_symC tx v s p q = v s p q := if_pos h
theorem z9_ec_add {a b : Nat} : z9_ec (some a) + z9_ec (some b) = z9_ec (some (a + b)) := z9_i32_add a b
theorem z9_ec_le {a b : Nat} (ha : a < 2147483648) (hb : b < 2147483648) : (z9_ec (some a) ≤ z9_ec (some b)) = (a ≤ b) := z9_i32_le ha hb
theorem z9_c_matchNonterminal {c : tC} {V : Nat → Nat → Nat → Int64} {v : Nat → Nat → Nat → Option Nat} (hc : z9_cCH c V v) {A : Nat → Nat → Int64} {B D : Nat → Nat → Int32} {tx : Nat → Nat} {s k p j : Nat} {l : List Nat} (hs : s < 6) (hk : k < 4) (hpj : p ≤ j) (hj : j ≤ 8) (hl : l.length ≤ 4)
    (hA : ∀ q, p ≤ q → q ≤ j → A (k + 1) q = z9_evS tx V l q j) (hB : ∀ q, p ≤ q → q ≤ j → B (k + 1) q = z9_ec (z9_evC tx v l q j)) :
    ∃ x, F_Ch_matchNonterminal (z9_C_put_rest c A B D) (z9_i32 s) (z9_i32 k) (z9_i32 p) (z9_i32 j) = some (z9_C_put_rest c (z9_up1 A k p (z9_evS tx V (s :: l) p j)) (z9_up1 B k p (z9_ec (z9_evC tx v (s :: l) p j))) (z9_up1 D k p x)) ∧ (z9_evC tx v (s :: l) p j ≠ none → x = z9_i32 (z9_stp tx v s l p j)) := by
  have hcB : z9_cB = 40000000 := rfl
  have bnd : ∀ q, p ≤ q → q ≤ j → z9_ole 160000000 (z9_evC tx v l q j) := by
    intro q h1 h2 x hx
    have := z9_evC_le (tx := tx) (B := z9_cB) l q (fun s' p' q' a b c' d => (hc s' p' q' a c' (by omega)).2.2.1) x hx
    have h4 : l.length * z9_cB ≤ 4 * z9_cB := Nat.mul_le_mul_right _ hl
    omega
  have key : ∃ D', F_Ch_matchNonterminal_L9 (z9_i32 s) (z9_i32 k) (z9_i32 p) (z9_i32 j) rn_fu (z9_C_put_rest c A B D) 0 (-1) (z9_i32 p) = some (z9_evS tx V (s :: l) p j, z9_ec (z9_evC tx v (s :: l) p j), z9_C_put_rest c A B D') ∧ ∃ x, D' = z9_up1 D k p x ∧ (z9_evC tx v (s :: l) p j ≠ none → x = z9_i32 (z9_stp tx v s l p j)) := by
    refine z9_forU (L := fun n (st : tC × Int64 × Int32) q => F_Ch_matchNonterminal_L9 (z9_i32 s) (z9_i32 k) (z9_i32 p) (z9_i32 j) n st.1 st.2.1 st.2.2 q) (Q := fun o => ∃ D', o = some (z9_evS tx V (s :: l) p j, z9_ec (z9_evC tx v (s :: l) p j), z9_C_put_rest c A B D') ∧ ∃ x, D' = z9_up1 D k p x ∧ (z9_evC tx v (s :: l) p j ≠ none → x = z9_i32 (z9_stp tx v s l p j)))
      (P := fun q st => p ≤ q ∧ st.2.1 = z9_fol (fun a b => a + b) 0 (fun q => z9_symS tx V s p q * z9_evS tx V l q j) p (q - p) ∧ st.2.2 = z9_ec (z9_fmn (z9_ter tx v s l p j) p (q - p)) ∧ ∃ x, st.1 = z9_C_put_rest c A B (z9_up1 D k p x) ∧ (z9_fmn (z9_ter tx v s l p j) p (q - p) ≠ none → x = z9_i32 (z9_am (z9_ter tx v s l p j) p (q - p)))) (K := j + 1) p (z9_C_put_rest c A B D, 0, -1) (by omega) (by omega) ?_ ?_ ?_
    · refine ⟨Nat.le_refl _, ?_, ?_, D k p, ?_, ?_⟩
      · rw [Nat.sub_self]; rfl
      · rw [Nat.sub_self]; rfl
      · have : z9_up1 D k p (D k p) = D := by
          funext k' p'; rw [z9_up1_ap]; split
          · rename_i h; rw [h.1, h.2]
          · rfl
        rw [this]
      · intro h; rw [Nat.sub_self] at h; exact absurd rfl h
    · intro n st hP
      obtain ⟨h1, h2, h3, x, h4, h5⟩ := hP
      refine ⟨z9_up1 D k p x, ?_, x, rfl, h5⟩
      simp only [F_Ch_matchNonterminal_L9, z9_i32_lt (show j < 2147483648 by omega) (show j + 1 < 2147483648 by omega), show j < j + 1 by omega, if_true, h2, h3, h4]
      rfl
    · intro n st q hq hP
      obtain ⟨h1, h2, h3, x, h4, h5⟩ := hP
      left
      obtain ⟨c1, c2, c3, c4⟩ := hc s p q hs h1 (by omega)
      have hcl := z9_cel_lt hs h1 (show q ≤ 8 by omega)
      have hb := bnd q h1 (by omega)
      have eA := hA q h1 (by omega)
      have z9_eB := hB q h1 (by omega)
      have hs1 : z9_symS tx V s p q = V s p q := z9_symS_lt hs
      have hs2 : z9_symC tx v s p q = v s p q := z9_symC_lt hs
      have hq1 : q + 1 - p = (q - p) + 1 := by omega
      have hpq : p + (q - p) = q := by omega
      have z9_fS : z9_fol (fun a b => a + b) 0 (fun q => z9_symS tx V s p q * z9_evS tx V l q j) p (q + 1 - p) = z9_fol (fun a b => a + b) 0 (fun q => z9_symS tx V s p q * z9_evS tx V l q j) p (q - p) + V s p q * z9_evS tx V l q j := by
        rw [hq1]; show _ + z9_symS tx V s p (p + (q - p)) * z9_evS tx V l (p + (q - p)) j = _; rw [hpq, hs1]
      have fT : z9_fmn (z9_ter tx v s l p j) p (q + 1 - p) = z9_omin (z9_fmn (z9_ter tx v s l p j) p (q - p)) (z9_ter tx v s l p j q) := by
        rw [hq1]; show z9_omin _ (z9_ter tx v s l p j (p + (q - p))) = _; rw [hpq]
      have fM : z9_am (z9_ter tx v s l p j) p (q + 1 - p) = if z9_olt (z9_ter tx v s l p j q) (z9_fmn (z9_ter tx v s l p j) p (q - p)) = true then q - p else z9_am (z9_ter tx v s l p j) p (q - p) := by
        rw [hq1]; show (if z9_olt (z9_ter tx v s l p j (p + (q - p))) _ = true then _ else _) = _; rw [hpq]
      have tq : z9_ter tx v s l p j q = z9_oadd (v s p q) (z9_evC tx v l q j) := by unfold z9_ter; rw [hs2]
     
      have skip : z9_ter tx v s l p j q = none → V s p q * z9_evS tx V l q j = 0 := by
        intro h
        rw [tq] at h
        rcases z9_oadd_eq_none h with h | h
        · rw [c4 h, Int64.zero_mul]
        · rw [z9_evS_z l q (fun s' p' q' a _ b c' d => (hc s' p' q' a c' (by omega)).2.2.2) h, Int64.mul_zero]
      have done : ∀ (st' : tC × Int64 × Int32), F_Ch_matchNonterminal_L9 (z9_i32 s) (z9_i32 k) (z9_i32 p) (z9_i32 j) (n + 1) st.1 st.2.1 st.2.2 (z9_i32 q) = F_Ch_matchNonterminal_L9 (z9_i32 s) (z9_i32 k) (z9_i32 p) (z9_i32 j) n st'.1 st'.2.1 st'.2.2 (z9_i32 q + 1) → st'.2.1 = st.2.1 + V s p q * z9_evS tx V l q j → st'.2.2 = z9_ec (z9_omin (z9_fmn (z9_ter tx v s l p j) p (q - p)) (z9_ter tx v s l p j q)) → (∃ x', st'.1 = z9_C_put_rest c A B (z9_up1 D k p x') ∧ ((z9_olt (z9_ter tx v s l p j q) (z9_fmn (z9_ter tx v s l p j) p (q - p)) = true ∧ x' = z9_i32 (q - p)) ∨ (z9_olt (z9_ter tx v s l p j q) (z9_fmn (z9_ter tx v s l p j) p (q - p)) = false ∧ x' = x))) → ∃ st' : tC × Int64 × Int32, F_Ch_matchNonterminal_L9 (z9_i32 s) (z9_i32 k) (z9_i32 p) (z9_i32 j) (n + 1) st.1 st.2.1 st.2.2 (z9_i32 q) = F_Ch_matchNonterminal_L9 (z9_i32 s) (z9_i32 k) (z9_i32 p) (z9_i32 j) n st'.1 st'.2.1 st'.2.2 (z9_i32 q + 1) ∧ p ≤ q + 1 ∧ st'.2.1 = z9_fol (fun a b => a + b) 0 (fun q => z9_symS tx V s p q * z9_evS tx V l q j) p (q + 1 - p) ∧ st'.2.2 = z9_ec (z9_fmn (z9_ter tx v s l p j) p (q + 1 - p)) ∧ ∃ x, st'.1 = z9_C_put_rest c A B (z9_up1 D k p x) ∧ (z9_fmn (z9_ter tx v s l p j) p (q + 1 - p) ≠ none → x = z9_i32 (z9_am (z9_ter tx v s l p j) p (q + 1 - p))) := by
        intro st' e1 e2 e3 e4
        obtain ⟨x', e4, e5⟩ := e4
        refine ⟨st', e1, by omega, ?_, ?_, x', e4, ?_⟩
        · rw [z9_fS, e2, h2]
        · rw [fT, e3]
        · intro hne
          rw [fM]
          rcases e5 with ⟨o1, o2⟩ | ⟨o1, o2⟩
          · rw [if_pos o1]; exact o2
          · rw [o2, o1]
            simp only [Bool.false_eq_true, if_false]
            apply h5
            rw [fT] at hne
            unfold z9_omin at hne
            rw [o1] at hne
            simpa using hne
      have r1 : aI 5 (z9_i32 k + 1) = some (k + 1) := by rw [show z9_i32 k + 1 = z9_i32 (k + 1) from z9_i32_add k 1]; exact z9_aI_i (by omega) (by decide)
      have r2 : aI 4 (z9_i32 k) = some k := z9_aI_i (by omega) (by decide)
      cases hv : v s p q with
      | none =>
        have ht : z9_ter tx v s l p j q = none := by rw [tq, hv, z9_none_oadd]
        refine done (st.1, st.2.1, st.2.2) ?_ ?_ ?_ ?_
        · simp only [F_Ch_matchNonterminal_L9, h4, z9_cpr, z9_i32_lt (show j < 2147483648 by omega) (show q < 2147483648 by omega)]
          rw [if_neg (by omega), z9_c_cell (by omega) (by omega) (by omega)]
          simp only [Option.bind_some]
          rw [z9_aG_i hcl (by decide), c2, hv]
          simp only [Option.bind_some, z9_ec, if_true]
        · rw [skip ht]; exact (Int64.add_zero _).symm
        · rw [ht, z9_omin_none']; exact h3
        · exact ⟨x, h4, Or.inr ⟨by rw [ht]; rfl, rfl⟩⟩
      | some u =>
        have hu : u ≤ z9_cB := c3 u hv
        cases he : z9_evC tx v l q j with
        | none =>
          have ht : z9_ter tx v s l p j q = none := by rw [tq, he, z9_oadd_none]
          refine done (st.1, st.2.1, st.2.2) ?_ ?_ ?_ ?_
          · simp only [F_Ch_matchNonterminal_L9, h4, z9_cpr, z9_i32_lt (show j < 2147483648 by omega) (show q < 2147483648 by omega)]
            rw [if_neg (by omega), z9_c_cell (by omega) (by omega) (by omega)]
            simp only [Option.bind_some]
            rw [z9_aG_i hcl (by decide), c2, hv]
            simp only [Option.bind_some, z9_ec, z9_i32_m1 (show u < 2147483648 by omega), if_false, r1]
            rw [z9_aG_i (by omega) (by decide), z9_eB, he]
            simp only [Option.bind_some, z9_ec, if_true]
          · rw [skip ht]; exact (Int64.add_zero _).symm
          · rw [ht, z9_omin_none']; exact h3
          · exact ⟨x, h4, Or.inr ⟨by rw [ht]; rfl, rfl⟩⟩
        | some w =>
          have hw : w ≤ 160000000 := hb w he
          have ht : z9_ter tx v s l p j q = some (u + w) := by rw [tq, hv, he]; rfl
          have unf : ∀ (R : tC × Int64 × Int32), ((if st.2.2 = -1 then some (st.2.1 + V s p q * z9_evS tx V l q j, z9_ec (some u) + z9_ec (some w), z9_C_put_rest c A B (z9_up1 (z9_up1 D k p x) k p (z9_i32 q - z9_i32 p))) else (if st.2.2 ≤ z9_ec (some u) + z9_ec (some w) then some (st.2.1 + V s p q * z9_evS tx V l q j, st.2.2, z9_C_put_rest c A B (z9_up1 D k p x)) else some (st.2.1 + V s p q * z9_evS tx V l q j, z9_ec (some u) + z9_ec (some w), z9_C_put_rest c A B (z9_up1 (z9_up1 D k p x) k p (z9_i32 q - z9_i32 p))))) = some (R.2.1, R.2.2, R.1)) → F_Ch_matchNonterminal_L9 (z9_i32 s) (z9_i32 k) (z9_i32 p) (z9_i32 j) (n + 1) st.1 st.2.1 st.2.2 (z9_i32 q) = F_Ch_matchNonterminal_L9 (z9_i32 s) (z9_i32 k) (z9_i32 p) (z9_i32 j) n R.1 R.2.1 R.2.2 (z9_i32 q + 1) := by
            intro R hR
            simp only [F_Ch_matchNonterminal_L9, h4, z9_cpr, z9_i32_lt (show j < 2147483648 by omega) (show q < 2147483648 by omega)]
            rw [if_neg (by omega), z9_c_cell (by omega) (by omega) (by omega)]
            simp only [Option.bind_some]
            rw [z9_aG_i hcl (by decide), c2, hv]
            simp only [Option.bind_some, z9_ec_m1 (v := some u) (B := z9_cB) (fun z hz => by simp only [Option.some.injEq] at hz; omega) (by omega), reduceCtorEq, if_false, r1]
            rw [z9_aG_i (show q < 9 by omega) (by decide), z9_aG_i hcl (by decide), z9_aG_i (show q < 9 by omega) (by decide), z9_eB, eA, c1, he]
            simp only [Option.bind_some, z9_ec_m1 (v := some w) (B := 160000000) (fun z hz => by simp only [Option.some.injEq] at hz; omega) (by omega), reduceCtorEq, if_false, r2]
            rw [z9_aS_i (by omega) (by decide)]
            simp only [Option.bind_some]
            have : ∀ (o : Option (Int64 × Int32 × tC)), o = some (R.2.1, R.2.2, R.1) → (o.bind fun x => F_Ch_matchNonterminal_L9 (z9_i32 s) (z9_i32 k) (z9_i32 p) (z9_i32 j) n x.2.2 x.1 x.2.1 (z9_i32 q + 1)) = F_Ch_matchNonterminal_L9 (z9_i32 s) (z9_i32 k) (z9_i32 p) (z9_i32 j) n R.1 R.2.1 R.2.2 (z9_i32 q + 1) := by
              intro o ho; rw [ho]; rfl
            refine this _ ?_
            rw [← hR]; rfl
          have hup : z9_up1 (z9_up1 D k p x) k p (z9_i32 q - z9_i32 p) = z9_up1 D k p (z9_i32 (q - p)) := by
            funext k' p'; rw [z9_up1_ap, z9_up1_ap, z9_up1_ap, z9_i32_sub h1]
            split
            · rfl
            · rfl
          cases hf : z9_fmn (z9_ter tx v s l p j) p (q - p) with
          | none =>
            rw [hf] at h3
            refine done (z9_C_put_rest c A B (z9_up1 D k p (z9_i32 (q - p))), st.2.1 + V s p q * z9_evS tx V l q j, z9_ec (some (u + w))) (unf _ ?_) rfl ?_ ?_
            · rw [h3]; simp only [z9_ec, if_true]; rw [hup, z9_i32_add]
            · rw [hf, ht]; rfl
            · exact ⟨_, rfl, Or.inl ⟨by rw [ht, hf]; rfl, rfl⟩⟩
          | some y =>
            have hy : y < 2147483648 := by
              obtain ⟨q', hq', hx⟩ := z9_fmn_mem _ hf
              have hq2 := bnd (p + q') (by omega) (by omega)
              have := z9_ole_oadd (z9_symC_le (tx := tx) (s := s) (p := p) (q := p + q') (fun h6 => (hc s p (p + q') h6 (by omega) (by omega)).2.2.1)) hq2 y hx
              omega
            rw [hf] at h3
            have hne : ¬ st.2.2 = -1 := by
              rw [h3]; simp only [z9_ec]; rw [z9_i32_m1 hy]; exact id
            have hle : (st.2.2 ≤ z9_ec (some u) + z9_ec (some w)) = (y ≤ u + w) := by
              rw [h3, z9_ec_add, z9_ec_le hy (by omega)]
            by_cases hlt : u + w < y
            · refine done (z9_C_put_rest c A B (z9_up1 D k p (z9_i32 (q - p))), st.2.1 + V s p q * z9_evS tx V l q j, z9_ec (some (u + w))) (unf _ ?_) rfl ?_ ?_
              · rw [if_neg hne]; simp only [hle, show ¬ y ≤ u + w by omega, if_false]; rw [hup, z9_ec_add]
              · rw [hf, ht]; simp [z9_omin, z9_olt, hlt]
              · exact ⟨_, rfl, Or.inl ⟨by rw [ht, hf]; simp [z9_olt, hlt], rfl⟩⟩
            · refine done (z9_C_put_rest c A B (z9_up1 D k p x), st.2.1 + V s p q * z9_evS tx V l q j, st.2.2) (unf _ ?_) rfl ?_ ?_
              · rw [if_neg hne]; simp only [hle, show y ≤ u + w by omega, if_true]
              · rw [hf, ht, h3]; simp [z9_omin, z9_olt, hlt]
              · exact ⟨_, rfl, Or.inr ⟨by rw [ht, hf]; simp [z9_olt, hlt], rfl⟩⟩
  obtain ⟨D', k1, x, rfl, k3⟩ := key
  refine ⟨x, ?_, k3⟩
  unfold F_Ch_matchNonterminal
  rw [k1]
  simp only [Option.bind_some, z9_cpr]
  rw [z9_aI_i (by omega) (by decide)]
  simp only [Option.bind_some]
  rw [z9_aS_i (by omega) (by decide), z9_aS_i (by omega) (by decide)]
  rfl
theorem z9_fol_one {α : Type} {ad : α → α → α} {z : α} (h1 : ∀ x, ad z x = x) (h2 : ∀ x, ad x z = x) {f : Nat → α} {p : Nat} (hf : ∀ q, q ≠ p + 1 → f q = z) : ∀ n, z9_fol ad z f p n = if 1 < n then f (p + 1) else z := by
  intro n
  induction n with
  | zero => rfl
  | succ n ih =>
    simp only [z9_fol]
    rw [ih]
    by_cases hn : n = 1
    · subst hn; simp [h1]
    · by_cases hn0 : n = 0
      · subst hn0; simp [h1, hf p (by omega)]
      · rw [if_pos (by omega), if_pos (by omega), hf (p + n) (by omega), h2]
theorem z9_evS_ter {tx : Nat → Nat} {V : Nat → Nat → Nat → Int64} {s p j : Nat} {l : List Nat} (hs : 6 ≤ s) : z9_evS tx V (s :: l) p j = if p < j ∧ tx p = s then z9_evS tx V l (p + 1) j else 0 := by
  have e : ∀ q, z9_symS tx V s p q = if q = p + 1 ∧ tx p = s then 1 else 0 := fun q => by unfold z9_symS z9_sym; rw [if_neg (by omega)]
  rw [z9_evS_cons, z9_fol_one (fun x => Int64.zero_add x) (fun x => Int64.add_zero x)]
  · by_cases h : p < j
    · rw [if_pos (by omega), e]
      by_cases ht : tx p = s
      · rw [if_pos ⟨rfl, ht⟩, if_pos ⟨h, ht⟩, Int64.one_mul]
      · rw [if_neg (fun q => ht q.2), if_neg (fun q => ht q.2), Int64.zero_mul]
    · rw [if_neg (by omega), if_neg (fun q => h q.1)]
  · intro q hq
    rw [e, if_neg (fun h => hq h.1), Int64.zero_mul]
theorem z9_symC_ter {tx : Nat → Nat} {v : Nat → Nat → Nat → Option Nat} {s p q : Nat} (hs : 6 ≤ s) : z9_symC tx v s p q = if q = p + 1 ∧ tx p = s then some 0 else none := by
  unfold z9_symC z9_sym; rw [if_neg (by omega)]
theorem z9_oadd_zero (x : Option Nat) : z9_oadd (some 0) x = x := by
  cases x with
  | none => rfl
  | some y => simp [z9_oadd]
theorem z9_evC_ter {tx : Nat → Nat} {v : Nat → Nat → Nat → Option Nat} {s p j : Nat} {l : List Nat} (hs : 6 ≤ s) : z9_evC tx v (s :: l) p j = if p < j ∧ tx p = s then z9_evC tx v l (p + 1) j else none := by
  rw [z9_evC_cons, show z9_fmn (z9_ter tx v s l p j) p (j + 1 - p) = z9_fol z9_omin none (z9_ter tx v s l p j) p (j + 1 - p) from rfl, z9_fol_one z9_omin_none z9_omin_none']
  · by_cases h : p < j
    · rw [if_pos (by omega)]
      unfold z9_ter
      rw [z9_symC_ter hs]
      by_cases ht : tx p = s
      · rw [if_pos ⟨rfl, ht⟩, if_pos ⟨h, ht⟩, z9_oadd_zero]
      · rw [if_neg (fun q => ht q.2), if_neg (fun q => ht q.2), z9_none_oadd]
    · rw [if_neg (by omega), if_neg (fun q => h q.1)]
  · intro q hq
    unfold z9_ter
    rw [z9_symC_ter hs, if_neg (fun h => hq h.1), z9_none_oadd]
theorem z9_stp_ter {tx : Nat → Nat} {v : Nat → Nat → Nat → Option Nat} {s p j : Nat} {l : List Nat} (hs : 6 ≤ s) (h : z9_evC tx v (s :: l) p j ≠ none) : z9_stp tx v s l p j = 1 := by
  obtain ⟨_, h2, _⟩ := z9_stp_spec h
  rw [z9_symC_ter hs] at h2
  by_cases hq : p + z9_stp tx v s l p j = p + 1 ∧ tx p = s
  · omega
  · rw [if_neg hq] at h2; exact absurd rfl h2
theorem z9_c_matchTerminal {c : tC} {V : Nat → Nat → Nat → Int64} {v : Nat → Nat → Nat → Option Nat} {A : Nat → Nat → Int64} {B D : Nat → Nat → Int32} {tx : Nat → Nat} {s k p j : Nat} {l : List Nat} (hs : 6 ≤ s) (hs2 : s ≤ 122) (hk : k < 4) (hpj : p ≤ j) (hj : j ≤ 8)
    (hl : ∀ p, p < j → C_letters c p = z9_i32 (tx p) ∧ tx p ≤ 126)
    (hA : ∀ q, p ≤ q → q ≤ j → A (k + 1) q = z9_evS tx V l q j) (hB : ∀ q, p ≤ q → q ≤ j → B (k + 1) q = z9_ec (z9_evC tx v l q j)) :
    ∃ x, F_Ch_matchTerminal (z9_C_put_rest c A B D) (z9_i32 s) (z9_i32 k) (z9_i32 p) (z9_i32 j) = some (z9_C_put_rest c (z9_up1 A k p (z9_evS tx V (s :: l) p j)) (z9_up1 B k p (z9_ec (z9_evC tx v (s :: l) p j))) (z9_up1 D k p x)) ∧ (z9_evC tx v (s :: l) p j ≠ none → x = z9_i32 (z9_stp tx v s l p j)) := by
  refine ⟨1, ?_, fun h => by rw [z9_stp_ter hs h]; rfl⟩
  rw [z9_evS_ter hs, z9_evC_ter hs]
  unfold F_Ch_matchTerminal
  simp only [z9_cpr, z9_i32_le (show j < 2147483648 by omega) (show p < 2147483648 by omega)]
  have r0 : aI 5 (z9_i32 k) = some k := z9_aI_i (by omega) (by decide)
  have r1 : aI 5 (z9_i32 k + 1) = some (k + 1) := by rw [show z9_i32 k + 1 = z9_i32 (k + 1) from z9_i32_add k 1]; exact z9_aI_i (by omega) (by decide)
  have r2 : aI 4 (z9_i32 k) = some k := z9_aI_i (by omega) (by decide)
  have tail : ∀ (X : Int64) (Y : Int32), ((aS (A k) 9 (z9_i32 p) X).bind fun f24 => (aS (B k) 9 (z9_i32 p) Y).bind fun f41 => (aS (D k) 9 (z9_i32 p) 1).bind fun f47 => some (C_sums c, C_costs c, C_rules c, C_sizes c, C_lengths c, C_letters c, C_textLength c, up2 A k f24, up2 B k f41, up2 D k f47)) = some (z9_C_put_rest c (z9_up1 A k p X) (z9_up1 B k p Y) (z9_up1 D k p 1)) := by
    intro X Y
    rw [z9_aS_i (by omega) (by decide), z9_aS_i (by omega) (by decide), z9_aS_i (by omega) (by decide)]; rfl
  by_cases h : p < j
  · obtain ⟨l1, l2⟩ := hl p h
    have e1 : z9_i32 p + 1 = z9_i32 (p + 1) := z9_i32_add p 1
    rw [if_neg (by omega), z9_aG_i (by omega) (by decide), l1]
    simp only [Option.bind_some, z9_i32_inj (show tx p < 2147483648 by omega) (show s < 2147483648 by omega)]
    by_cases ht : tx p = s
    · simp only [ht, not_true, if_false, Option.bind_some, r0, r1, r2, show ¬ (1 : Int32) = 0 by decide, h, and_self, if_true, e1]
      rw [z9_aG_i (show p + 1 < 9 by omega) (by decide), z9_aG_i (show p + 1 < 9 by omega) (by decide), hA (p + 1) (by omega) (by omega), hB (p + 1) (by omega) (by omega)]
      simp only [Option.bind_some]
      exact tail _ _
    · simp only [ht, not_false_eq_true, if_true, Option.bind_some, r0, r2, and_false, if_false]
      exact tail _ _
  · rw [if_pos (by omega)]
    simp only [Option.bind_some, r0, r2, if_true, h, false_and, if_false]
    exact tail _ _
def z9_rowsOK (g : z9_tA) (tx : Nat → Nat) (V : Nat → Nat → Nat → Int64) (v : Nat → Nat → Nat → Option Nat) (r i j : Nat) (A : Nat → Nat → Int64) (B D : Nat → Nat → Int32) (k : Nat) : Prop := ∀ k' p, k ≤ k' → k' ≤ z9_A_ln g r → i ≤ p → p ≤ j → (k' = 0 → 0 < z9_A_ln g r → p = i) → z9_rowOK g tx V v r j A B D k' p
theorem z9_rowOK_up {g : z9_tA} {tx : Nat → Nat} {V : Nat → Nat → Nat → Int64} {v : Nat → Nat → Nat → Option Nat} {r j : Nat} {A : Nat → Nat → Int64} {B D : Nat → Nat → Int32} {k p k' p' : Nat} {x : Int64} {y w : Int32} (h : ¬ (k' = k ∧ p' = p)) (ho : z9_rowOK g tx V v r j A B D k' p') : z9_rowOK g tx V v r j (z9_up1 A k p x) (z9_up1 B k p y) (z9_up1 D k p w) k' p' := by
  unfold z9_rowOK at *
  rw [z9_up1_ap, z9_up1_ap, z9_up1_ap, if_neg h, if_neg h, if_neg h]; exact ho
theorem z9_c_matchBody {c : tC} {a : tG} {g : z9_tA} (hg : z9_gOK g) (ha : z9_gIs a g) {V : Nat → Nat → Nat → Int64} {v : Nat → Nat → Nat → Option Nat} (hc : z9_cCH c V v) {tx : Nat → Nat} {r i j : Nat} (hr : r < z9_A_nR g) (hij : i ≤ j) (hj : j ≤ 8) (hl : ∀ p, p < j → C_letters c p = z9_i32 (tx p) ∧ tx p ≤ 126) (A0 : Nat → Nat → Int64) (B0 D0 : Nat → Nat → Int32) :
    ∃ A B D, F_Ch_matchBody (z9_C_put_rest c A0 B0 D0) a (z9_i32 r) (z9_i32 i) (z9_i32 j) = some (z9_C_put_rest c A B D) ∧ z9_rowsOK g tx V v r i j A B D 0 := by
  have hg' := hg
  obtain ⟨g0, g1, g2, g3⟩ := hg
  obtain ⟨b1, b2, b3, b4⟩ := g3 r hr
  obtain ⟨a1, a2, a3, a4, a5⟩ := ha.2.2 r hr
  have init : ∃ A B, F_Ch_matchBody_L11 (z9_i32 r) (z9_i32 i) (z9_i32 j) (z9_i32 (z9_A_ln g r)) rn_fu (z9_C_put_rest c A0 B0 D0) (z9_i32 i) = some (z9_C_put_rest c A B D0) ∧ ∀ p, i ≤ p → p ≤ j → A (z9_A_ln g r) p = (if p = j then 1 else 0) ∧ B (z9_A_ln g r) p = z9_ec (if p = j then some 0 else none) := by
    refine z9_forU (L := fun n (st : tC) q => F_Ch_matchBody_L11 (z9_i32 r) (z9_i32 i) (z9_i32 j) (z9_i32 (z9_A_ln g r)) n st q) (Q := fun o => ∃ A B, o = some (z9_C_put_rest c A B D0) ∧ ∀ p, i ≤ p → p ≤ j → A (z9_A_ln g r) p = (if p = j then 1 else 0) ∧ B (z9_A_ln g r) p = z9_ec (if p = j then some 0 else none)) (P := fun q st => i ≤ q ∧ ∃ A B, st = z9_C_put_rest c A B D0 ∧ ∀ p, i ≤ p → p < q → A (z9_A_ln g r) p = (if p = j then 1 else 0) ∧ B (z9_A_ln g r) p = z9_ec (if p = j then some 0 else none)) (K := j + 1) i (z9_C_put_rest c A0 B0 D0) (by omega) (by omega) ⟨Nat.le_refl _, A0, B0, rfl, fun p h1 h2 => by omega⟩ ?_ ?_
    · intro n st hP
      obtain ⟨_, A, B, rfl, h⟩ := hP
      refine ⟨A, B, ?_, fun p h1 h2 => h p h1 (by omega)⟩
      simp only [F_Ch_matchBody_L11, z9_i32_lt (show j < 2147483648 by omega) (show j + 1 < 2147483648 by omega), show j < j + 1 by omega, if_true]
    · intro n st q hq hP
      obtain ⟨h0, A, B, rfl, h⟩ := hP
      left
      refine ⟨z9_C_put_rest c (z9_up1 A (z9_A_ln g r) q (if q = j then 1 else 0)) (z9_up1 B (z9_A_ln g r) q (z9_ec (if q = j then some 0 else none))) D0, ?_, by omega, _, _, rfl, ?_⟩
      · simp only [F_Ch_matchBody_L11, z9_cpr, z9_i32_lt (show j < 2147483648 by omega) (show q < 2147483648 by omega), z9_i32_inj (show q < 2147483648 by omega) (show j < 2147483648 by omega)]
        rw [if_neg (by omega), z9_aI_i (by omega) (by decide)]
        simp only [Option.bind_some]
        by_cases hqj : q = j
        · simp only [hqj, not_true, if_false, Option.bind_some, if_true, z9_ec]
          rw [z9_aS_i (by omega) (by decide), z9_aS_i (by omega) (by decide)]; rfl
        · simp only [hqj, not_false_eq_true, if_true, Option.bind_some, if_false, z9_ec]
          rw [z9_aS_i (by omega) (by decide), z9_aS_i (by omega) (by decide)]; rfl
      · intro p h1 h2
        rw [z9_up1_ap, z9_up1_ap]
        by_cases hpq : p = q
        · subst hpq
          simp only [and_self, if_true]
        · simp only [hpq, and_false, if_false]; exact h p h1 (by omega)
  obtain ⟨A1, B1, i1, i2⟩ := init
  have base : z9_rowsOK g tx V v r i j A1 B1 D0 (z9_A_ln g r) := by
    intro k' p h1 h2 h3 h4 _
    have hk : k' = z9_A_ln g r := by omega
    subst hk
    obtain ⟨e1, e2⟩ := i2 p h3 h4
    unfold z9_rowOK
    rw [Nat.sub_self]
    exact ⟨e1, e2, fun hh => by omega⟩
  have main : ∃ A B D, F_Ch_matchBody_L74 a (z9_i32 r) (z9_i32 i) (z9_i32 j) rn_fu (z9_C_put_rest c A1 B1 D0) (z9_i32 (z9_A_ln g r) - 1) = some (z9_C_put_rest c A B D) ∧ z9_rowsOK g tx V v r i j A B D 0 := by
    refine z9_forD (L := fun n (st : tC) q => F_Ch_matchBody_L74 a (z9_i32 r) (z9_i32 i) (z9_i32 j) n st q) (Q := fun o => ∃ A B D, o = some (z9_C_put_rest c A B D) ∧ z9_rowsOK g tx V v r i j A B D 0) (P := fun k st => k ≤ z9_A_ln g r ∧ ∃ A B D, st = z9_C_put_rest c A B D ∧ z9_rowsOK g tx V v r i j A B D k) (z9_A_ln g r) (z9_C_put_rest c A1 B1 D0) (by omega) ⟨Nat.le_refl _, A1, B1, D0, rfl, base⟩ ?_ ?_
    · intro n st hP
      obtain ⟨_, A, B, D, rfl, h⟩ := hP
      exact ⟨A, B, D, rfl, h⟩
    · intro n st k hP
      obtain ⟨hk, A, B, D, rfl, h⟩ := hP
      left
      have hbd := b4 k (by omega)
      have row : ∃ A' B' D', F_Ch_matchBody_L104 (z9_i32 r) (z9_i32 i) (z9_i32 j) (z9_i32 k) (z9_i32 (z9_A_bd g r k)) (z9_i32 (if k = 0 then i else j)) rn_fu (z9_C_put_rest c A B D) (z9_i32 i) = some (z9_C_put_rest c A' B' D') ∧ z9_rowsOK g tx V v r i j A' B' D' k := by
        refine z9_forU (L := fun n (st : tC) q => F_Ch_matchBody_L104 (z9_i32 r) (z9_i32 i) (z9_i32 j) (z9_i32 k) (z9_i32 (z9_A_bd g r k)) (z9_i32 (if k = 0 then i else j)) n st q) (Q := fun o => ∃ A' B' D', o = some (z9_C_put_rest c A' B' D') ∧ z9_rowsOK g tx V v r i j A' B' D' k) (P := fun q st => i ≤ q ∧ ∃ A' B' D', st = z9_C_put_rest c A' B' D' ∧ z9_rowsOK g tx V v r i j A' B' D' (k + 1) ∧ ∀ p, i ≤ p → p < q → z9_rowOK g tx V v r j A' B' D' k p) (K := (if k = 0 then i else j) + 1) i (z9_C_put_rest c A B D) (by split <;> omega) (by split <;> omega) ⟨Nat.le_refl _, A, B, D, rfl, h, fun p h1 h2 => by omega⟩ ?_ ?_
        · intro n st hP
          obtain ⟨_, A', B', D', rfl, h1, h2⟩ := hP
          refine ⟨A', B', D', ?_, ?_⟩
          · have hh : (if k = 0 then i else j) < 2147483647 := by split <;> omega
            simp only [F_Ch_matchBody_L104, z9_i32_lt (show (if k = 0 then i else j) < 2147483648 by omega) (show (if k = 0 then i else j) + 1 < 2147483648 by omega), Nat.lt_succ_self, if_true]
          · intro k' p q1 q2 q3 q4 q5
            by_cases hkk : k' = k
            · subst hkk
              refine h2 p q3 ?_
              by_cases hk0 : k' = 0
              · rw [if_pos hk0, q5 hk0 (by omega)]; omega
              · rw [if_neg hk0]; omega
            · exact h1 k' p (by omega) q2 q3 q4 q5
        · intro n st q hq hP
          obtain ⟨h0, A', B', D', rfl, h1, h2⟩ := hP
          left
          have hqj : q ≤ j := by split at hq <;> omega
          have hA : ∀ q', q ≤ q' → q' ≤ j → A' (k + 1) q' = z9_evS tx V (z9_tl g r (k + 1) (z9_A_ln g r - (k + 1))) q' j := fun q' x1 x2 => (h1 (k + 1) q' (by omega) (by omega) (by omega) x2 (by omega)).1
          have hB : ∀ q', q ≤ q' → q' ≤ j → B' (k + 1) q' = z9_ec (z9_evC tx v (z9_tl g r (k + 1) (z9_A_ln g r - (k + 1))) q' j) := fun q' x1 x2 => (h1 (k + 1) q' (by omega) (by omega) (by omega) x2 (by omega)).2.1
          have cell : ∃ x, (if z9_A_bd g r k < 6 then F_Ch_matchNonterminal (z9_C_put_rest c A' B' D') (z9_i32 (z9_A_bd g r k)) (z9_i32 k) (z9_i32 q) (z9_i32 j) else F_Ch_matchTerminal (z9_C_put_rest c A' B' D') (z9_i32 (z9_A_bd g r k)) (z9_i32 k) (z9_i32 q) (z9_i32 j)) = some (z9_C_put_rest c (z9_up1 A' k q (z9_evS tx V (z9_A_bd g r k :: z9_tl g r (k + 1) (z9_A_ln g r - (k + 1))) q j)) (z9_up1 B' k q (z9_ec (z9_evC tx v (z9_A_bd g r k :: z9_tl g r (k + 1) (z9_A_ln g r - (k + 1))) q j))) (z9_up1 D' k q x)) ∧ (z9_evC tx v (z9_A_bd g r k :: z9_tl g r (k + 1) (z9_A_ln g r - (k + 1))) q j ≠ none → x = z9_i32 (z9_stp tx v (z9_A_bd g r k) (z9_tl g r (k + 1) (z9_A_ln g r - (k + 1))) q j)) := by
            by_cases h6 : z9_A_bd g r k < 6
            · rw [if_pos h6]
              exact z9_c_matchNonterminal hc h6 (by omega) hqj hj (by rw [z9_tl_len]; omega) hA hB
            · rw [if_neg h6]
              exact z9_c_matchTerminal (by omega) (by omega) (by omega) hqj hj hl hA hB
          obtain ⟨x, e1, e2⟩ := cell
          refine ⟨z9_C_put_rest c (z9_up1 A' k q (z9_evS tx V (z9_A_bd g r k :: z9_tl g r (k + 1) (z9_A_ln g r - (k + 1))) q j)) (z9_up1 B' k q (z9_ec (z9_evC tx v (z9_A_bd g r k :: z9_tl g r (k + 1) (z9_A_ln g r - (k + 1))) q j))) (z9_up1 D' k q x), ?_, by omega, (z9_up1 A' k q (z9_evS tx V (z9_A_bd g r k :: z9_tl g r (k + 1) (z9_A_ln g r - (k + 1))) q j)), (z9_up1 B' k q (z9_ec (z9_evC tx v (z9_A_bd g r k :: z9_tl g r (k + 1) (z9_A_ln g r - (k + 1))) q j))), (z9_up1 D' k q x), rfl, ?_, ?_⟩
          · have hh : (if k = 0 then i else j) < 2147483648 := by split <;> omega
            simp only [F_Ch_matchBody_L104, z9_i32_lt hh (show q < 2147483648 by omega), z9_c_isNonterminal (show z9_A_bd g r k < 2147483648 by omega), Option.bind_some, z9_b01_0]
            rw [if_neg (by omega)]
            by_cases h6 : z9_A_bd g r k < 6
            · rw [if_pos h6] at e1
              simp only [h6, not_true, if_false]
              rw [e1]; rfl
            · rw [if_neg h6] at e1
              simp only [h6, not_false_eq_true, if_true]
              rw [e1]; rfl
          · intro k' p q1 q2 q3 q4 q5
            exact z9_rowOK_up (by omega) (h1 k' p q1 q2 q3 q4 q5)
          · intro p q1 q2
            by_cases hpq : p = q
            · subst hpq
              unfold z9_rowOK
              rw [z9_up1_ap, z9_up1_ap, z9_up1_ap, if_pos ⟨rfl, rfl⟩, if_pos ⟨rfl, rfl⟩, if_pos ⟨rfl, rfl⟩, z9_tl_cons (show k < z9_A_ln g r by omega)]
              exact ⟨rfl, rfl, fun _ => e2⟩
            · exact z9_rowOK_up (by omega) (h2 p q1 (by omega))
      obtain ⟨A', B', D', r1, r2⟩ := row
      refine ⟨z9_C_put_rest c A' B' D', ?_, by omega, A', B', D', rfl, r2⟩
      have hz : (z9_i32 k = 0) = (k = 0) := z9_i32_inj (show k < 2147483648 by omega) (show 0 < 2147483648 by decide)
      simp only [F_Ch_matchBody_L74, z9_i32_n0 (show k < 2147483648 by omega), if_false, z9_c_symbol hg' ha hr (show k < z9_A_ln g r by omega), Option.bind_some, hz]
      by_cases hk0 : k = 0
      · simp only [hk0, if_true] at r1
        simp only [hk0, not_true, if_false, Option.bind_some]
        rw [r1]; rfl
      · simp only [hk0, if_false] at r1
        simp only [hk0, not_false_eq_true, if_true, Option.bind_some]
        rw [r1]; rfl
  obtain ⟨A, B, D, m1, m2⟩ := main
  refine ⟨A, B, D, ?_, m2⟩
  unfold F_Ch_matchBody
  rw [z9_aG_i (by omega) (by decide), a2]
  simp only [Option.bind_some]
  rw [i1]
  simp only [Option.bind_some]
  rw [m1]; rfl
theorem z9_i32_bit (P b : Nat) (hb : b < 32) : (z9_i32 P).toBitVec.getLsbD b = P.testBit b := by
  show (BitVec.ofNat 32 P).getLsbD b = _
  rw [BitVec.getLsbD_ofNat]; simp [hb]
theorem z9_i32_or (x y : Nat) : z9_i32 x ||| z9_i32 y = z9_i32 (x ||| y) := by
  apply Int32.toBitVec_inj.mp
  apply BitVec.eq_of_getLsbD_eq
  intro b hb
  rw [Int32.toBitVec_or, BitVec.getLsbD_or, z9_i32_bit _ _ hb, z9_i32_bit _ _ hb, z9_i32_bit _ _ hb, Nat.testBit_or]
theorem z9_sh32 : ∀ k : Fin 4, (((4 : Int32) * z9_i32 k.1) &&& 31).toBitVec.smod 32 = BitVec.ofNat 32 (4 * k.1) := by decide +kernel
theorem z9_i32_shl {a k : Nat} (hk : k < 4) : z9_i32 a <<< (((4 : Int32) * z9_i32 k) &&& 31) = z9_i32 (a * 16 ^ k) := by
  apply Int32.toBitVec_inj.mp
  apply BitVec.eq_of_getLsbD_eq
  intro b hb
  rw [Int32.toBitVec_shiftLeft, z9_sh32 ⟨k, hk⟩, BitVec.shiftLeft_eq', BitVec.getLsbD_shiftLeft, z9_i32_bit _ _ hb]
  have e : (BitVec.ofNat 32 (4 * k)).toNat = 4 * k := by rw [BitVec.toNat_ofNat]; exact Nat.mod_eq_of_lt (by omega)
  have e2 : 16 ^ k = 2 ^ (4 * k) := by rw [Nat.pow_mul]
  rw [e, e2, ← Nat.shiftLeft_eq, Nat.testBit_shiftLeft]
  by_cases h : b < 4 * k
  · simp [h, hb]; omega
  · have := z9_i32_bit a (b - 4 * k) (by omega)
    rw [this]; simp [h, hb]; omega
theorem z9_i32_shr {P k : Nat} (hk : k < 4) (hP : P < 2147483648) : (z9_i32 P >>> (((4 : Int32) * z9_i32 k) &&& 31)) &&& 15 = z9_i32 (P / 16 ^ k % 16) := by
  apply Int32.toBitVec_inj.mp
  apply BitVec.eq_of_getLsbD_eq
  intro b hb
  have e : (BitVec.ofNat 32 (4 * k)).toNat = 4 * k := by rw [BitVec.toNat_ofNat]; exact Nat.mod_eq_of_lt (by omega)
  have hm : (z9_i32 P).toBitVec.msb = false := by
    rw [BitVec.msb_eq_getLsbD_last, z9_i32_bit _ _ (by decide)]
    exact Nat.testBit_lt_two_pow hP
  rw [Int32.toBitVec_and, BitVec.getLsbD_and, Int32.toBitVec_shiftRight, z9_sh32 ⟨k, hk⟩, BitVec.sshiftRight_eq', BitVec.getLsbD_sshiftRight, e, hm, z9_i32_bit _ _ hb]
  have e15 : (15 : Int32).toBitVec.getLsbD b = decide (b < 4) := by
    have := z9_i32_bit 15 b hb
    rw [show (15 : Int32) = z9_i32 15 from rfl, this]
    rw [show 15 = 2 ^ 4 - 1 from rfl, Nat.testBit_two_pow_sub_one]
  have e2 : 16 ^ k = 2 ^ (4 * k) := by rw [Nat.pow_mul]
  rw [e15, e2, ← Nat.shiftRight_eq_div_pow, show P >>> (4 * k) % 16 = P >>> (4 * k) % 2 ^ 4 from rfl, Nat.testBit_mod_two_pow, Nat.testBit_shiftRight]
  by_cases h4 : b < 4
  · rw [if_pos (by omega), z9_i32_bit _ _ (by omega)]
    simp [h4, hb]
  · simp [h4]
def z9_wk (tx : Nat → Nat) (v : Nat → Nat → Nat → Option Nat) : List Nat → Nat → Nat → List (Nat × Nat × Nat)
  | [], _, _ => []
  | s :: l, p, j => (s, p, p + z9_stp tx v s l p j) :: z9_wk tx v l (p + z9_stp tx v s l p j) j
theorem z9_chl_wk (tx : Nat → Nat) (v : Nat → Nat → Nat → Option Nat) (j : Nat) : ∀ (l : List Nat) (p : Nat), z9_chl tx v l p j = (z9_wk tx v l p j).filter (fun x => decide (x.1 < 6)) := by
  intro l
  induction l with
  | nil => intro p; rfl
  | cons s l ih =>
    intro p
    simp only [z9_chl, z9_wk, List.filter_cons, ih]
    by_cases h : s < 6 <;> simp [h]
theorem z9_tot_wk (tx : Nat → Nat) (v : Nat → Nat → Nat → Option Nat) (f : Nat → Nat → Nat → Nat) (j : Nat) : ∀ (l : List Nat) (p : Nat), z9_tot tx v f l p j = ((z9_wk tx v l p j).map (fun x => f x.1 x.2.1 x.2.2)).sum := by
  intro l
  induction l with
  | nil => intro p; rfl
  | cons s l ih => intro p; simp only [z9_tot, z9_wk, List.map_cons, List.sum_cons, ih]
def z9_pkL : List (Nat × Nat × Nat) → Nat
  | [] => 0
  | x :: l => (x.2.2 - x.2.1) + 16 * z9_pkL l
theorem z9_stp_congr {tx : Nat → Nat} {v v' : Nat → Nat → Nat → Option Nat} {s p j : Nat} {l : List Nat} (h : ∀ q, p ≤ q → q ≤ j → z9_ter tx v s l p j q = z9_ter tx v' s l p j q) : z9_stp tx v s l p j = z9_stp tx v' s l p j :=
  z9_am_congr (fun q h1 h2 => h q h1 (by omega))
theorem z9_wk_congr {tx : Nat → Nat} {v v' : Nat → Nat → Nat → Option Nat} {j : Nat} : ∀ (l : List Nat) (p : Nat), (∀ s, s ∈ l → ∀ p' q', p ≤ p' → p' ≤ q' → q' ≤ j → z9_symC tx v s p' q' = z9_symC tx v' s p' q') → z9_wk tx v l p j = z9_wk tx v' l p j := by
  intro l
  induction l with
  | nil => intro p _; rfl
  | cons s l ih =>
    intro p h
    have e : z9_stp tx v s l p j = z9_stp tx v' s l p j := z9_stp_congr (fun q h1 h2 => by
      unfold z9_ter
      rw [h s (List.mem_cons_self) p q (Nat.le_refl _) h1 h2]
      congr 1
      exact z9_ev_congr l q (fun s' hs' p' q' a b c => h s' (List.mem_cons_of_mem _ hs') p' q' (by omega) b c))
    simp only [z9_wk]
    rw [e, ih _ (fun s' hs' p' q' a b c => h s' (List.mem_cons_of_mem _ hs') p' q' (by omega) b c)]
theorem z9_wk_dep (E : Nat → Prop) {tx : Nat → Nat} {v v' : Nat → Nat → Nat → Option Nat} {i j : Nat} (hij : i ≤ j) : ∀ (l : List Nat),
    (∀ s, s ∈ l → ∀ p q, i ≤ p → p ≤ q → q ≤ j → ¬ (p = i ∧ q = j) → z9_symC tx v s p q = z9_symC tx v' s p q) →
    (∀ s, s ∈ l → ¬ E s → ∀ p, i ≤ p → p ≤ j → z9_symC tx v s p p = none ∧ z9_symC tx v' s p p = none) →
    (∀ k, k < l.length → (∀ m, m < l.length → m ≠ k → E (l.getD m 0)) → z9_symC tx v (l.getD k 0) i j = z9_symC tx v' (l.getD k 0) i j) →
    z9_evC tx v' l i j ≠ none → z9_wk tx v l i j = z9_wk tx v' l i j := by
  intro l
  induction l with
  | nil => intro _ _ _ _; rfl
  | cons s l ih =>
    intro ha hb hc hne
    have hd := (z9_ev_dep (z := none) (o := some 0) (ad := z9_omin) (mu := z9_oadd) z9_none_oadd z9_oadd_none rfl E hij (s :: l) ha hb hc).2 s l rfl
    have e : z9_stp tx v s l i j = z9_stp tx v' s l i j := z9_stp_congr (fun q h1 h2 => hd q h1 h2)
    obtain ⟨h1, h2, h3, _, _⟩ := z9_stp_spec hne
    simp only [z9_wk]
    rw [e]
    congr 1
    by_cases ha0 : z9_stp tx v' s l i j = 0
    · rw [ha0, Nat.add_zero] at h2 h3 ⊢
      have hE : E s := by
        apply Classical.byContradiction
        intro q
        exact h2 (hb s (List.mem_cons_self) q i (Nat.le_refl _) hij).2
      refine ih (fun s' hs' => ha s' (List.mem_cons_of_mem _ hs')) (fun s' hs' => hb s' (List.mem_cons_of_mem _ hs')) ?_ h3
      intro k hk hm
      have := hc (k + 1) (by simp; omega) ?_
      · simpa using this
      · intro m hml hmk
        cases m with
        | zero => simpa using hE
        | succ m => simpa using hm m (by simpa using hml) (by omega)
    · exact z9_wk_congr l _ (fun s' hs' p' q' a b c => ha s' (List.mem_cons_of_mem _ hs') p' q' (by omega) b c (by omega))
theorem z9_rule_wk {g : z9_tA} (hg : z9_gOK g) {F : Nat} {tx : Nat → Nat} {v v' : Nat → Nat → Nat → Option Nat} {r i j : Nat} (hr : r < z9_A_nR g) (hij : i ≤ j)
    (ha : ∀ s p q, s < z9_A_nS g → i ≤ p → p ≤ q → q ≤ j → ¬ (p = i ∧ q = j) → v s p q = v' s p q)
    (hb : ∀ s, s < z9_A_nS g → ¬ z9_emp F s → ∀ p, i ≤ p → p ≤ j → v s p p = none ∧ v' s p p = none)
    (hc : ∀ k, k < z9_A_ln g r → z9_lead g F r k → v (z9_A_bd g r k) i j = v' (z9_A_bd g r k) i j)
    (hne : z9_evC tx v' (z9_bl g r) i j ≠ none) : z9_wk tx v (z9_bl g r) i j = z9_wk tx v' (z9_bl g r) i j := by
  refine z9_wk_dep (z9_emp F) hij (z9_bl g r) ?_ ?_ ?_ hne
  · intro s hs p q h1 h2 h3 h4
    obtain ⟨m, _, hm, rfl⟩ := z9_tl_mem g r _ _ hs
    have := (hg.2.2.2 r hr).2.2.2 m (by omega)
    unfold z9_symC z9_sym
    by_cases h6 : z9_A_bd g r m < 6
    · rw [if_pos h6, if_pos h6]; exact ha _ p q (by omega) h1 h2 h3 h4
    · rw [if_neg h6, if_neg h6]
  · intro s hs hE p h1 h2
    obtain ⟨m, _, hm, rfl⟩ := z9_tl_mem g r _ _ hs
    have := (hg.2.2.2 r hr).2.2.2 m (by omega)
    unfold z9_symC z9_sym
    by_cases h6 : z9_A_bd g r m < 6
    · rw [if_pos h6, if_pos h6]; exact hb _ (by omega) hE p h1 h2
    · rw [if_neg h6, if_neg h6, if_neg (by omega)]; exact ⟨rfl, rfl⟩
  · intro k hk hm
    rw [z9_bl_len] at hk hm
    rw [z9_bl_get hk]
    unfold z9_symC z9_sym
    by_cases h6 : z9_A_bd g r k < 6
    · rw [if_pos h6, if_pos h6]
      refine hc k hk ⟨h6, z9_eC_some _ ?_⟩
      intro l hl hlk
      have := hm l hl hlk
      rw [z9_bl_get hl] at this; exact this
    · rw [if_neg h6, if_neg h6]
theorem z9_pk_or {x a k : Nat} (hx : x < 16 ^ k) : x ||| (a * 16 ^ k) = x + a * 16 ^ k := by
  have e2 : 16 ^ k = 2 ^ (4 * k) := by rw [Nat.pow_mul]
  rw [e2] at hx ⊢
  rw [Nat.or_comm, ← Nat.shiftLeft_eq, ← Nat.shiftLeft_add_eq_or_of_lt hx]; omega
def z9_C_put_sl (c : tC) (f h : Nat → Int32) : tC := (C_sums c, C_costs c, C_rules c, f, h, C_letters c, C_textLength c, C_restSums c, C_restCosts c, C_restLengths c)
theorem z9_c_keepBody {c : tC} {a : tG} {g : z9_tA} (hg : z9_gOK g) (ha : z9_gIs a g) {V : Nat → Nat → Nat → Int64} {v : Nat → Nat → Nat → Option Nat} {tx : Nat → Nat} {r i j cl : Nat} (hr : r < z9_A_nR g) (hij : i ≤ j) (hj : j ≤ 8) (hcl : cl < 390)
    (hrow : z9_rowsOK g tx V v r i j (C_restSums c) (C_restCosts c) (C_restLengths c) 0) (hne : z9_evC tx v (z9_bl g r) i j ≠ none)
    {f : Nat → Nat → Nat → Nat} (hf0 : ∀ s p q, 6 ≤ s → f s p q = 0) (hsz : ∀ s p q, (s, p, q) ∈ z9_chl tx v (z9_bl g r) i j → C_sizes c (z9_cel s p q) = z9_i32 (f s p q)) :
    F_Ch_keepBody c a (z9_i32 r) (z9_i32 cl) (z9_i32 i) = some (z9_C_put_sl c (fun q => if q = cl then z9_i32 (1 + z9_tot tx v f (z9_bl g r) i j) else C_sizes c q) (fun q => if q = cl then z9_i32 (z9_pkL (z9_wk tx v (z9_bl g r) i j)) else C_lengths c q)) := by
  have hg' := hg
  obtain ⟨g0, g1, g2, g3⟩ := hg
  obtain ⟨b1, b2, b3, b4⟩ := g3 r hr
  obtain ⟨a1, a2, a3, a4, a5⟩ := ha.2.2 r hr
  have key : F_Ch_keepBody_L13 c a (z9_i32 r) (z9_i32 cl) rn_fu (z9_i32 i) 1 0 (z9_i32 0) = some (z9_i32 (1 + z9_tot tx v f (z9_bl g r) i j), z9_i32 (z9_pkL (z9_wk tx v (z9_bl g r) i j))) := by
    refine z9_forU (L := fun n (st : Int32 × Int32 × Int32) k => F_Ch_keepBody_L13 c a (z9_i32 r) (z9_i32 cl) n st.1 st.2.1 st.2.2 k) (Q := fun o => o = some (z9_i32 (1 + z9_tot tx v f (z9_bl g r) i j), z9_i32 (z9_pkL (z9_wk tx v (z9_bl g r) i j))))
      (P := fun k st => ∃ p S P, st = (z9_i32 p, z9_i32 (1 + S), z9_i32 P) ∧ i ≤ p ∧ p ≤ j ∧ (k = 0 → p = i) ∧ z9_evC tx v (z9_tl g r k (z9_A_ln g r - k)) p j ≠ none ∧ S + z9_tot tx v f (z9_tl g r k (z9_A_ln g r - k)) p j = z9_tot tx v f (z9_bl g r) i j ∧ P < 16 ^ k ∧ P + 16 ^ k * z9_pkL (z9_wk tx v (z9_tl g r k (z9_A_ln g r - k)) p j) = z9_pkL (z9_wk tx v (z9_bl g r) i j) ∧ ∀ x, x ∈ z9_chl tx v (z9_tl g r k (z9_A_ln g r - k)) p j → x ∈ z9_chl tx v (z9_bl g r) i j) (K := z9_A_ln g r) 0 (z9_i32 i, 1, 0) (by omega) (by omega) ?_ ?_ ?_
    · refine ⟨i, 0, 0, rfl, Nat.le_refl _, hij, fun _ => rfl, hne, ?_, by decide, ?_, fun x hx => hx⟩
      · show 0 + z9_tot tx v f (z9_bl g r) i j = _; omega
      · show 0 + 16 ^ 0 * z9_pkL (z9_wk tx v (z9_bl g r) i j) = _; omega
    · intro n st hP
      obtain ⟨p, S, P, rfl, h1, h2, h3, h4, h5, h6, h7, h8⟩ := hP
      simp only [F_Ch_keepBody_L13]
      rw [z9_aG_i (by omega) (by decide), a2]
      simp only [Option.bind_some, Int32.le_refl, if_true]
      rw [Nat.sub_self] at h5 h7
      have e1 : z9_tot tx v f (z9_tl g r (z9_A_ln g r) 0) p j = 0 := rfl
      have e2 : z9_pkL (z9_wk tx v (z9_tl g r (z9_A_ln g r) 0) p j) = 0 := rfl
      rw [e1] at h5
      rw [e2] at h7
      rw [← h5, ← h7, Nat.mul_zero, Nat.add_zero, Nat.add_zero]
    · intro n st k hk hP
      obtain ⟨p, S, P, rfl, h1, h2, h3, h4, h5, h6, h7, h8⟩ := hP
      left
      have hbd := b4 k hk
      have hcons := z9_tl_cons (g := g) (r := r) hk
      obtain ⟨_, _, hD⟩ := hrow k p (by omega) (by omega) h1 h2 (fun q _ => h3 q)
      have hD' := hD hk h4
      rw [hcons] at h4 h5 h7 h8
      obtain ⟨s1, s2, s3, _, _⟩ := z9_stp_spec h4
      generalize hst : z9_stp tx v (z9_A_bd g r k) (z9_tl g r (k + 1) (z9_A_ln g r - (k + 1))) p j = t at *
      have hwk : z9_wk tx v (z9_A_bd g r k :: z9_tl g r (k + 1) (z9_A_ln g r - (k + 1))) p j = (z9_A_bd g r k, p, p + t) :: z9_wk tx v (z9_tl g r (k + 1) (z9_A_ln g r - (k + 1))) (p + t) j := by simp only [z9_wk, hst]
      have htot : z9_tot tx v f (z9_A_bd g r k :: z9_tl g r (k + 1) (z9_A_ln g r - (k + 1))) p j = f (z9_A_bd g r k) p (p + t) + z9_tot tx v f (z9_tl g r (k + 1) (z9_A_ln g r - (k + 1))) (p + t) j := by simp only [z9_tot, hst]
      have hchl : z9_chl tx v (z9_A_bd g r k :: z9_tl g r (k + 1) (z9_A_ln g r - (k + 1))) p j = (if z9_A_bd g r k < 6 then [(z9_A_bd g r k, p, p + t)] else []) ++ z9_chl tx v (z9_tl g r (k + 1) (z9_A_ln g r - (k + 1))) (p + t) j := by simp only [z9_chl, hst]
      rw [hwk] at h7
      rw [htot] at h5
      rw [hchl] at h8
      refine ⟨(z9_i32 (p + t), z9_i32 (1 + (S + f (z9_A_bd g r k) p (p + t))), z9_i32 (P + t * 16 ^ k)), ?_, p + t, S + f (z9_A_bd g r k) p (p + t), P + t * 16 ^ k, rfl, by omega, s1, by omega, s3, by omega, ?_, ?_, ?_⟩
      · simp only [F_Ch_keepBody_L13]
        rw [z9_aG_i (by omega) (by decide), a2]
        simp only [Option.bind_some, z9_i32_le (show z9_A_ln g r < 2147483648 by omega) (show k < 2147483648 by omega)]
        rw [if_neg (by omega), z9_aI_i (by omega) (by decide)]
        simp only [Option.bind_some]
        rw [z9_aG_i (by omega) (by decide), hD', z9_c_symbol hg' ha hr hk]
        simp only [Option.bind_some, z9_c_isNonterminal (show z9_A_bd g r k < 2147483648 by omega), z9_b01_0, z9_i32_add, z9_i32_shl (show k < 4 by omega), z9_i32_or, z9_pk_or h6]
        by_cases h6' : z9_A_bd g r k < 6
        · simp only [h6', not_true, if_false]
          rw [z9_c_cell (by omega) (by omega) (by omega)]
          simp only [Option.bind_some]
          rw [z9_aG_i (z9_cel_lt h6' (by omega) (by omega)) (by decide), hsz _ _ _ (h8 _ (by rw [if_pos h6']; simp))]
          simp only [Option.bind_some, z9_i32_add, Nat.add_assoc]
        · simp only [h6', not_false_eq_true, if_true, Option.bind_some]
          rw [hf0 _ _ _ (by omega), Nat.add_zero]
      · have ht : t < 16 := by omega
        rw [Nat.pow_succ]
        have : t * 16 ^ k ≤ 15 * 16 ^ k := Nat.mul_le_mul_right _ (by omega)
        omega
      · rw [← h7]
        show P + t * 16 ^ k + 16 ^ (k + 1) * _ = P + 16 ^ k * ((p + t - p) + 16 * _)
        rw [show p + t - p = t by omega, Nat.pow_succ, Nat.mul_add, Nat.mul_comm t, ← Nat.mul_assoc]; omega
      · intro x hx
        exact h8 x (List.mem_append_right _ hx)
  unfold F_Ch_keepBody
  rw [show F_Ch_keepBody_L13 c a (z9_i32 r) (z9_i32 cl) rn_fu (z9_i32 i) 1 0 0 = _ from key]
  simp only [Option.bind_some]
  rw [z9_aS_i hcl (by decide), z9_aS_i hcl (by decide)]; rfl
def z9_cW (c : tC) : Prop := ∀ s p q, s < 6 → p ≤ q → q ≤ 8 → ∃ x, C_costs c (z9_cel s p q) = z9_ec x ∧ z9_ole z9_cB x ∧ (x = none → C_sums c (z9_cel s p q) = 0)
def z9_Vc (c : tC) (s p q : Nat) : Int64 := C_sums c (z9_cel s p q)
def z9_vc (c : tC) (s p q : Nat) : Option Nat := if C_costs c (z9_cel s p q) = -1 then none else some (C_costs c (z9_cel s p q)).toNatClampNeg
theorem z9_vc_eq {c : tC} {s p q : Nat} {x : Option Nat} (h : C_costs c (z9_cel s p q) = z9_ec x) (hx : z9_ole z9_cB x) : z9_vc c s p q = x := by
  have hcB : z9_cB = 40000000 := rfl
  unfold z9_vc
  rw [h]
  cases x with
  | none => simp [z9_ec]
  | some y =>
    have := hx y rfl
    simp only [z9_ec, z9_i32_m1 (show y < 2147483648 by omega), if_false, z9_i32_nat (show y < 2147483648 by omega)]
theorem z9_cW_CH {c : tC} (h : z9_cW c) : z9_cCH c (z9_Vc c) (z9_vc c) := by
  intro s p q hs hp hq
  obtain ⟨x, h1, h2, h3⟩ := h s p q hs hp hq
  rw [z9_vc_eq h1 h2]
  exact ⟨rfl, h1, h2, h3⟩
def z9_par (c : tC) (g : z9_tA) (tx : Nat → Nat) (s i j n : Nat) : Prop := C_sums c (z9_cel s i j) = z9_rS g tx (z9_VS g tx) s i j n ∧ C_costs c (z9_cel s i j) = z9_ec (z9_rC g tx (z9_vC g tx) s i j n) ∧ (z9_rC g tx (z9_vC g tx) s i j n ≠ none → C_rules c (z9_cel s i j) = z9_i32 (z9_rl g tx (z9_vC g tx) s i j n) ∧ C_sizes c (z9_cel s i j) = z9_i32 (1 + z9_tot tx (z9_vC g tx) (z9_szs g tx) (z9_bl g (z9_rl g tx (z9_vC g tx) s i j n)) i j) ∧ C_lengths c (z9_cel s i j) = z9_i32 (z9_pkL (z9_wk tx (z9_vC g tx) (z9_bl g (z9_rl g tx (z9_vC g tx) s i j n)) i j)))
def z9_fin (c : tC) (g : z9_tA) (tx : Nat → Nat) (s i j : Nat) : Prop := C_sums c (z9_cel s i j) = z9_VS g tx s i j ∧ C_costs c (z9_cel s i j) = z9_ec (z9_vC g tx s i j) ∧ (z9_vC g tx s i j ≠ none → C_rules c (z9_cel s i j) = z9_i32 (z9_ruleOf g tx s i j) ∧ C_sizes c (z9_cel s i j) = z9_i32 (z9_sz g tx s i j) ∧ C_lengths c (z9_cel s i j) = z9_i32 (z9_pkL (z9_wk tx (z9_vC g tx) (z9_bl g (z9_ruleOf g tx s i j)) i j)))
theorem z9_par_fin {c : tC} {g : z9_tA} {F : Nat} {rk : Nat → Nat} (h : z9_gGood g F rk) {tx : Nat → Nat} {s i j : Nat} (hs : s < z9_A_nS g) (hij : i ≤ j) (h8 : j - i ≤ 8) (hp : z9_par c g tx s i j (z9_A_nR g)) : z9_fin c g tx s i j := by
  obtain ⟨h1, h2, h3⟩ := hp
  rw [← z9_VS_fix h hs hij h8] at h1
  rw [← z9_vC_fix h hs hij h8] at h2 h3
  refine ⟨h1, h2, fun hv => ?_⟩
  obtain ⟨a, b, c⟩ := h3 hv
  refine ⟨a, ?_, c⟩
  rw [z9_sz_fix h hs hij h8 hv]; exact b
def z9_cEq (c c' : tC) (x : Nat) : Prop := C_sums c' x = C_sums c x ∧ C_costs c' x = C_costs c x ∧ C_rules c' x = C_rules c x ∧ C_sizes c' x = C_sizes c x ∧ C_lengths c' x = C_lengths c x
theorem z9_cEq_rfl (c : tC) (x : Nat) : z9_cEq c c x := ⟨rfl, rfl, rfl, rfl, rfl⟩
theorem z9_cEq_trans {c c' c'' : tC} {x : Nat} (h : z9_cEq c c' x) (h' : z9_cEq c' c'' x) : z9_cEq c c'' x := ⟨h'.1.trans h.1, h'.2.1.trans h.2.1, h'.2.2.1.trans h.2.2.1, h'.2.2.2.1.trans h.2.2.2.1, h'.2.2.2.2.trans h.2.2.2.2⟩
theorem z9_fin_eq {c c' : tC} {g : z9_tA} {tx : Nat → Nat} {s i j : Nat} (h : z9_cEq c c' (z9_cel s i j)) (hf : z9_fin c g tx s i j) : z9_fin c' g tx s i j := by
  obtain ⟨a, b, d, e, f⟩ := h
  unfold z9_fin at *
  rw [a, b, d, e, f]; exact hf
theorem z9_par_eq {c c' : tC} {g : z9_tA} {tx : Nat → Nat} {s i j n : Nat} (h : z9_cEq c c' (z9_cel s i j)) (hf : z9_par c g tx s i j n) : z9_par c' g tx s i j n := by
  obtain ⟨a, b, d, e, f⟩ := h
  unfold z9_par at *
  rw [a, b, d, e, f]; exact hf
def z9_cTx (c c' : tC) : Prop := C_letters c' = C_letters c ∧ C_textLength c' = C_textLength c
theorem z9_rC_ole {g : z9_tA} {F : Nat} {rk : Nat → Nat} (h : z9_gGood g F rk) {tx : Nat → Nat} {s i j n : Nat} (hn : n ≤ z9_A_nR g) (hij : i ≤ j) (h8 : j - i ≤ 8) : z9_ole z9_cB (z9_rC g tx (z9_vC g tx) s i j n) := by
  intro x hx
  obtain ⟨r, h1, h2, h3⟩ := z9_rC_mem n hx
  exact z9_cnd_le h (by omega) hij h8 x h3
theorem z9_c_addRule {c : tC} {a : tG} {g : z9_tA} {F : Nat} {rk : Nat → Nat} (h : z9_gGood g F rk) (ha : z9_gIs a g) (hW : z9_cW c) {tx : Nat → Nat} {r i j : Nat} (hr : r < z9_A_nR g) (hij : i ≤ j) (hj : j ≤ 8) (hl : ∀ p, p < j → C_letters c p = z9_i32 (tx p) ∧ tx p ≤ 126)
    (H1 : ∀ s p q, s < z9_A_nS g → i ≤ p → p ≤ q → q ≤ j → ¬ (p = i ∧ q = j) → z9_fin c g tx s p q)
    (H2 : ∀ s, s < z9_A_nS g → ¬ z9_emp F s → C_costs c (z9_cel s i i) = -1 ∧ C_sums c (z9_cel s i i) = 0)
    (H3 : ∀ y, y < z9_A_nS g → rk y < rk (z9_A_hd g r) → z9_fin c g tx y i j)
    (H4 : z9_par c g tx (z9_A_hd g r) i j r) :
    ∃ c', F_Ch_addRule c a (z9_i32 r) (z9_i32 i) (z9_i32 j) = some c' ∧ z9_cTx c c' ∧ z9_cW c' ∧ (∀ x, x ≠ z9_cel (z9_A_hd g r) i j → z9_cEq c c' x) ∧ z9_par c' g tx (z9_A_hd g r) i j (r + 1) := by
  have hcB : z9_cB = 40000000 := rfl
  have hg := h.1
  obtain ⟨g0, g1, g2, g3⟩ := h.1
  obtain ⟨b1, b2, b3, b4⟩ := g3 r hr
  obtain ⟨a1, a2, a3, a4, a5⟩ := ha.2.2 r hr
  have hh6 : z9_A_hd g r < 6 := by omega
  have hCH := z9_cW_CH hW
  obtain ⟨A, B, D, m1, m2⟩ := z9_c_matchBody hg ha hCH hr hij hj hl (C_restSums c) (C_restCosts c) (C_restLengths c)
  have m1' : F_Ch_matchBody c a (z9_i32 r) (z9_i32 i) (z9_i32 j) = some (z9_C_put_rest c A B D) := m1
  obtain ⟨e1, e2, _⟩ := m2 0 i (Nat.le_refl _) (Nat.zero_le _) (Nat.le_refl _) hij (fun _ _ => rfl)
  have vfin : ∀ s p q, s < z9_A_nS g → p ≤ q → q ≤ 8 → z9_fin c g tx s p q → z9_Vc c s p q = z9_VS g tx s p q ∧ z9_vc c s p q = z9_vC g tx s p q := by
    intro s p q hs hp hq hf
    exact ⟨hf.1, z9_vc_eq hf.2.1 (z9_v_le h hs hp (by omega))⟩
 
  have ha' : ∀ s p q, s < z9_A_nS g → i ≤ p → p ≤ q → q ≤ j → ¬ (p = i ∧ q = j) → z9_Vc c s p q = z9_VS g tx s p q ∧ z9_vc c s p q = z9_vC g tx s p q := fun s p q hs x1 x2 x3 x4 => vfin s p q hs x2 (by omega) (H1 s p q hs x1 x2 x3 x4)
  have hb' : ∀ s, s < z9_A_nS g → ¬ z9_emp F s → ∀ p, i ≤ p → p ≤ j → (z9_Vc c s p p = 0 ∧ z9_VS g tx s p p = 0) ∧ (z9_vc c s p p = none ∧ z9_vC g tx s p p = none) := by
    intro s hs he p x1 x2
    have q1 := z9_VS_nemp h hs he (tx := tx) (p := p)
    have q2 := z9_vC_nemp h hs he (tx := tx) (p := p)
    have hcel : z9_cel s p p = z9_cel s i i := by unfold z9_cel; simp
    obtain ⟨u1, u2⟩ := H2 s hs he
    refine ⟨⟨?_, q1⟩, ?_, q2⟩
    · unfold z9_Vc; rw [hcel]; exact u2
    · unfold z9_vc; rw [hcel, u1]; simp
  have hc' : ∀ k, k < z9_A_ln g r → z9_lead g F r k → z9_Vc c (z9_A_bd g r k) i j = z9_VS g tx (z9_A_bd g r k) i j ∧ z9_vc c (z9_A_bd g r k) i j = z9_vC g tx (z9_A_bd g r k) i j := by
    intro k hk hld
    have := b4 k hk
    have hlt := hld.1
    exact vfin _ i j (by omega) hij hj (H3 _ (by omega) (h.2.2.2 r k hr hk hld))
  have dS : z9_evS tx (z9_Vc c) (z9_bl g r) i j = z9_evS tx (z9_VS g tx) (z9_bl g r) i j := z9_rule_dep z9_s_zm z9_s_mz rfl hg (F := F) hr hij (fun s p q x1 x2 x3 x4 x5 => (ha' s p q x1 x2 x3 x4 x5).1) (fun s x1 x2 p x3 x4 => (hb' s x1 x2 p x3 x4).1) (fun k x1 x2 => (hc' k x1 x2).1)
  have dC : z9_evC tx (z9_vc c) (z9_bl g r) i j = z9_evC tx (z9_vC g tx) (z9_bl g r) i j := z9_rule_dep z9_none_oadd z9_oadd_none rfl hg (F := F) hr hij (fun s p q x1 x2 x3 x4 x5 => (ha' s p q x1 x2 x3 x4 x5).2) (fun s x1 x2 p x3 x4 => (hb' s x1 x2 p x3 x4).2) (fun k x1 x2 => (hc' k x1 x2).2)
  have e1' : A 0 i = z9_evS tx (z9_VS g tx) (z9_bl g r) i j := by rw [← dS]; exact e1
  have e2' : B 0 i = z9_ec (z9_evC tx (z9_vC g tx) (z9_bl g r) i j) := by rw [← dC]; exact e2
  have z0 : aI 5 0 = some 0 := rfl
  have hcl := z9_cel_lt hh6 hij hj
  unfold F_Ch_addRule
  rw [m1']
  simp only [Option.bind_some, z0, z9_cpr]
  rw [z9_aG_i (by omega) (by decide), e2']
  cases hev : z9_evC tx (z9_vC g tx) (z9_bl g r) i j with
  | none =>
    simp only [Option.bind_some, z9_ec, not_true, if_false]
    have hcn : z9_cnd g tx (z9_vC g tx) i j r = none := by unfold z9_cnd; rw [hev]; rfl
    refine ⟨_, rfl, ?_, ?_, ?_, ?_⟩
    · unfold z9_cTx; simp only [z9_cpr, and_self]
    · unfold z9_cW; simp only [z9_cpr]; exact hW
    · intro x _; unfold z9_cEq; simp only [z9_cpr, and_self]
    · unfold z9_par at H4 ⊢
      simp only [z9_cpr]
      rw [z9_rS_succ, z9_rC_succ, if_pos rfl, if_pos rfl, hcn, z9_omin_none']
      have hrl : z9_rl g tx (z9_vC g tx) (z9_A_hd g r) i j (r + 1) = z9_rl g tx (z9_vC g tx) (z9_A_hd g r) i j r := by
        simp only [z9_rl]; rw [hcn]; simp [z9_olt]
      rw [hrl]
      have hz : z9_evS tx (z9_VS g tx) (z9_bl g r) i j = 0 := z9_evS_z _ _ (fun s' p' q' _ _ _ _ _ => z9_VS_z g tx s' p' q') hev
      rw [hz, Int64.mul_zero, Int64.add_zero]; exact H4
  | some y =>
    have hcn : z9_cnd g tx (z9_vC g tx) i j r = some (z9_A_ct g r + y) := by unfold z9_cnd; rw [hev]; rfl
    have hyb : z9_A_ct g r + y ≤ z9_cB := z9_cnd_le h hr hij (by omega) _ hcn
    have hy0 : ¬ z9_ec (some y) = -1 := by simp only [z9_ec]; rw [z9_i32_m1 (by omega)]; exact id
    rw [Option.bind_some, if_pos hy0]
    rw [z9_aG_i (show r < 12 by omega) (by decide), a1]
    simp only [Option.bind_some]
    rw [z9_c_cell (by omega) (by omega) (by omega)]
    simp only [Option.bind_some]
    rw [z9_aG_i hcl (by decide), z9_aG_i (show r < 12 by omega) (by decide), z9_aG_i (show i < 9 by omega) (by decide)]
    simp only [Option.bind_some]
    rw [z9_aS_i hcl (by decide), z9_aG_i (show r < 12 by omega) (by decide), z9_aG_i hcl (by decide)]
    simp only [Option.bind_some, a4, a5, e1', show z9_ec (some y) = z9_i32 y from rfl, z9_i32_add]
    obtain ⟨p1, p2, p3⟩ := H4
    rw [p1, p2]
    have hole := z9_rC_ole h (n := r) (s := z9_A_hd g r) (tx := tx) (by omega) hij (show j - i ≤ 8 by omega)
    have hne : z9_evC tx (z9_vc c) (z9_bl g r) i j ≠ none := by rw [dC, hev]; simp
    have hwk : z9_wk tx (z9_vc c) (z9_bl g r) i j = z9_wk tx (z9_vC g tx) (z9_bl g r) i j := z9_rule_wk hg (F := F) hr hij (fun s p q x1 x2 x3 x4 x5 => (ha' s p q x1 x2 x3 x4 x5).2) (fun s x1 x2 p x3 x4 => (hb' s x1 x2 p x3 x4).2) (fun k x1 x2 => (hc' k x1 x2).2) (by rw [hev]; simp)
   
    have worse : z9_olt (z9_cnd g tx (z9_vC g tx) i j r) (z9_rC g tx (z9_vC g tx) (z9_A_hd g r) i j r) = false → ∃ c', some (z9_C_put_rest (fun x => if x = z9_cel (z9_A_hd g r) i j then z9_rS g tx (z9_VS g tx) (z9_A_hd g r) i j r + z9_A_wt g r * z9_evS tx (z9_VS g tx) (z9_bl g r) i j else C_sums c x, C_costs c, C_rules c, C_sizes c, C_lengths c, C_letters c, C_textLength c, A, B, D) A B D) = some c' ∧ z9_cTx c c' ∧ z9_cW c' ∧ (∀ x, x ≠ z9_cel (z9_A_hd g r) i j → z9_cEq c c' x) ∧ z9_par c' g tx (z9_A_hd g r) i j (r + 1) := by
      intro ho
      have hrc : z9_rC g tx (z9_vC g tx) (z9_A_hd g r) i j (r + 1) = z9_rC g tx (z9_vC g tx) (z9_A_hd g r) i j r := by
        rw [z9_rC_succ, if_pos rfl]; unfold z9_omin; rw [ho]; simp
      have hrl : z9_rl g tx (z9_vC g tx) (z9_A_hd g r) i j (r + 1) = z9_rl g tx (z9_vC g tx) (z9_A_hd g r) i j r := by
        simp only [z9_rl]; rw [ho]; simp
      have hnn : z9_rC g tx (z9_vC g tx) (z9_A_hd g r) i j r ≠ none := by
        intro q; rw [q, hcn] at ho; cases ho
      refine ⟨_, rfl, ?_, ?_, ?_, ?_⟩
      · unfold z9_cTx; simp only [z9_cpr, z9_ct, and_self]
      · intro s p q hs hp hq
        simp only [z9_cpr, z9_ct]
        by_cases hx : z9_cel s p q = z9_cel (z9_A_hd g r) i j
        · rw [hx, p2, if_pos rfl]
          exact ⟨_, rfl, hole, fun q => absurd q hnn⟩
        · rw [if_neg hx]; exact hW s p q hs hp hq
      · intro x hx; unfold z9_cEq; simp only [z9_cpr, z9_ct]; rw [if_neg hx]; simp
      · unfold z9_par; simp only [z9_cpr, z9_ct]
        rw [hrc, hrl, z9_rS_succ, if_pos rfl]
        simp only [if_true]
        exact ⟨trivial, p2, p3⟩
   
    have better : z9_olt (z9_cnd g tx (z9_vC g tx) i j r) (z9_rC g tx (z9_vC g tx) (z9_A_hd g r) i j r) = true → ∃ c', (F_Ch_keepBody (fun x => if x = z9_cel (z9_A_hd g r) i j then z9_rS g tx (z9_VS g tx) (z9_A_hd g r) i j r + z9_A_wt g r * z9_evS tx (z9_VS g tx) (z9_bl g r) i j else C_sums c x, fun x => if x = z9_cel (z9_A_hd g r) i j then z9_i32 (z9_A_ct g r + y) else C_costs c x, fun x => if x = z9_cel (z9_A_hd g r) i j then z9_i32 r else C_rules c x, C_sizes c, C_lengths c, C_letters c, C_textLength c, A, B, D) a (z9_i32 r) (z9_i32 (z9_cel (z9_A_hd g r) i j)) (z9_i32 i)) = some c' ∧ z9_cTx c c' ∧ z9_cW c' ∧ (∀ x, x ≠ z9_cel (z9_A_hd g r) i j → z9_cEq c c' x) ∧ z9_par c' g tx (z9_A_hd g r) i j (r + 1) := by
      intro ho
      have hrc : z9_rC g tx (z9_vC g tx) (z9_A_hd g r) i j (r + 1) = some (z9_A_ct g r + y) := by
        rw [z9_rC_succ, if_pos rfl]; unfold z9_omin; rw [ho, hcn]; simp
      have hrl : z9_rl g tx (z9_vC g tx) (z9_A_hd g r) i j (r + 1) = r := by
        simp only [z9_rl]; rw [ho]; simp
      have kb := z9_c_keepBody (c := (fun x => if x = z9_cel (z9_A_hd g r) i j then z9_rS g tx (z9_VS g tx) (z9_A_hd g r) i j r + z9_A_wt g r * z9_evS tx (z9_VS g tx) (z9_bl g r) i j else C_sums c x, fun x => if x = z9_cel (z9_A_hd g r) i j then z9_i32 (z9_A_ct g r + y) else C_costs c x, fun x => if x = z9_cel (z9_A_hd g r) i j then z9_i32 r else C_rules c x, C_sizes c, C_lengths c, C_letters c, C_textLength c, A, B, D)) hg ha (V := z9_Vc c) (v := z9_vc c) (tx := tx) hr hij hj hcl (by simp only [z9_ct]; exact m2) hne (f := z9_szs g tx) (fun s p q h6 => by unfold z9_szs; rw [if_neg (by omega)]) (by
        intro s p q hm
        simp only [z9_ct]
        rw [z9_chl_wk, hwk, ← z9_chl_wk] at hm
        obtain ⟨k1, k2, k3, k4, k5, k6, k7⟩ := z9_chl_low h hr hij (by rw [hev]; simp) hm
        have hf : z9_fin c g tx s p q := by
          by_cases hpq : p = i ∧ q = j
          · obtain ⟨rfl, rfl⟩ := hpq
            exact H3 s k1 (k7 rfl rfl)
          · exact H1 s p q k1 k2 k3 k4 hpq
        have : z9_szs g tx s p q = z9_sz g tx s p q := by unfold z9_szs; rw [if_pos (by omega)]
        rw [this]; exact (hf.2.2 k5).2.1)
      rw [z9_tot_wk, hwk, ← z9_tot_wk] at kb
      refine ⟨_, kb, ?_, ?_, ?_, ?_⟩
      · unfold z9_cTx z9_C_put_sl; simp only [z9_ct, and_self]
      · intro s p q hs hp hq
        unfold z9_C_put_sl
        simp only [z9_ct]
        by_cases hx : z9_cel s p q = z9_cel (z9_A_hd g r) i j
        · rw [if_pos hx, if_pos hx]
          refine ⟨some (z9_A_ct g r + y), rfl, ?_, fun q => by cases q⟩
          intro z hz; simp only [Option.some.injEq] at hz; omega
        · rw [if_neg hx, if_neg hx]; exact hW s p q hs hp hq
      · intro x hx; unfold z9_cEq z9_C_put_sl; simp only [z9_ct]; rw [if_neg hx, if_neg hx, if_neg hx, if_neg hx, if_neg hx]; simp
      · unfold z9_par z9_C_put_sl; simp only [z9_ct]
        rw [hrc, hrl, z9_rS_succ, if_pos rfl]
        simp only [if_true]
        exact ⟨trivial, rfl, fun _ => ⟨trivial, trivial, trivial⟩⟩
    cases hrc : z9_rC g tx (z9_vC g tx) (z9_A_hd g r) i j r with
    | none =>
      rw [if_pos (show z9_ec none = -1 from rfl)]
      rw [z9_aS_i hcl (by decide), z9_aS_i hcl (by decide)]
      simp only [Option.bind_some]
      obtain ⟨c', k1, k2⟩ := better (by rw [hcn, hrc]; rfl)
      rw [k1]
      exact ⟨c', rfl, k2⟩
    | some z =>
      have hz : z ≤ z9_cB := hole z hrc
      have hz0 : ¬ z9_ec (some z) = -1 := by simp only [z9_ec]; rw [z9_i32_m1 (by omega)]; exact id
      have hzl : (z9_ec (some z) ≤ z9_i32 (z9_A_ct g r + y)) = (z ≤ z9_A_ct g r + y) := z9_i32_le (by omega) (by omega)
      rw [if_neg hz0]
      by_cases hlt : z9_A_ct g r + y < z
      · rw [if_neg (by rw [hzl]; omega), z9_aS_i hcl (by decide), z9_aS_i hcl (by decide)]
        simp only [Option.bind_some]
        obtain ⟨c', k1, k2⟩ := better (by rw [hcn, hrc]; simp [z9_olt, hlt])
        rw [k1]
        exact ⟨c', rfl, k2⟩
      · rw [if_pos (by rw [hzl]; omega)]
        obtain ⟨c', k1, k2⟩ := worse (by rw [hcn, hrc]; simp [z9_olt, hlt])
        refine ⟨c', ?_, k2⟩
        rw [← k1]; rfl
def z9_ordF (g : z9_tA) (rk od : Nat → Nat) (o : Nat → Int32) : Prop := (∀ q, q < z9_A_nS g → o q = z9_i32 (od q) ∧ od q < z9_A_nS g) ∧ (∀ s, s < z9_A_nS g → ∃ q, q < z9_A_nS g ∧ od q = s) ∧ (∀ q q', q < z9_A_nS g → q' < z9_A_nS g → od q = od q' → q = q') ∧ (∀ q q', q < q' → q' < z9_A_nS g → rk (od q) ≤ rk (od q'))
theorem z9_ordOK_F {g : z9_tA} {F : Nat} {o : Nat → Int32} (hg : z9_gOK g) (hF : z9_closedF g F) (h : z9_ordOK g F o) : ∃ rk od, z9_gGood g F rk ∧ z9_ordF g rk od o := by
  obtain ⟨rk, od, h1, h2, h3, h4, h5, h6⟩ := h
  exact ⟨rk, od, ⟨hg, hF, h5, h6⟩, h1, h2, h3, h4⟩
def z9_spt (i j p q : Nat) : Prop := (p = q ∧ i = j) ∨ (p = i ∧ q = j)
theorem z9_spt_ne {s s' i j p q : Nat} (hs : s < 6) (hs' : s' < 6) (hp : p ≤ q) (hq : q ≤ 8) (hi : i ≤ j) (hj : j ≤ 8) (h : ¬ z9_spt i j p q) : z9_cel s p q ≠ z9_cel s' i j := by
  intro e
  obtain ⟨_, h1⟩ := z9_cel_inj hs hs' hp hq hi hj e
  exact h h1
theorem z9_cel_ne {s s' i j : Nat} (hs : s < 6) (hs' : s' < 6) (hi : i ≤ j) (hj : j ≤ 8) (h : s ≠ s') : z9_cel s i j ≠ z9_cel s' i j := by
  intro e
  exact h (z9_cel_inj hs hs' hi hj hi hj e).1
def z9_cOut (c c' : tC) (i j : Nat) : Prop := ∀ s p q, s < 6 → p ≤ q → q ≤ 8 → ¬ z9_spt i j p q → z9_cEq c c' (z9_cel s p q)
theorem z9_cOut_trans {c c' c'' : tC} {i j : Nat} (h : z9_cOut c c' i j) (h' : z9_cOut c' c'' i j) : z9_cOut c c'' i j := fun s p q a b d e => z9_cEq_trans (h s p q a b d e) (h' s p q a b d e)
theorem z9_c_blank {c : tC} (hW : z9_cW c) {i j : Nat} (hij : i ≤ j) (hj : j ≤ 8) : ∃ c', F_Ch_fillPart_L3 (z9_i32 i) (z9_i32 j) rn_fu c 0 = some c' ∧ z9_cTx c c' ∧ z9_cW c' ∧ z9_cOut c c' i j ∧ ∀ s, s < 6 → C_sums c' (z9_cel s i j) = 0 ∧ C_costs c' (z9_cel s i j) = -1 := by
  refine z9_forU (L := fun n (st : tC) k => F_Ch_fillPart_L3 (z9_i32 i) (z9_i32 j) n st k) (Q := fun o => ∃ c', o = some c' ∧ z9_cTx c c' ∧ z9_cW c' ∧ z9_cOut c c' i j ∧ ∀ s, s < 6 → C_sums c' (z9_cel s i j) = 0 ∧ C_costs c' (z9_cel s i j) = -1) (P := fun k st => z9_cTx c st ∧ z9_cW st ∧ z9_cOut c st i j ∧ ∀ s, s < k → C_sums st (z9_cel s i j) = 0 ∧ C_costs st (z9_cel s i j) = -1) (K := 6) 0 c (by omega) (by omega) ⟨⟨rfl, rfl⟩, hW, fun s p q _ _ _ _ => z9_cEq_rfl _ _, fun s hs => by omega⟩ ?_ ?_
  · intro n st hP
    refine ⟨st, ?_, hP⟩
    simp only [F_Ch_fillPart_L3, show (6 : Int32) ≤ z9_i32 6 from by decide, if_true]
  · intro n st k hk hP
    obtain ⟨p1, p2, p3, p4⟩ := hP
    left
    have hcl := z9_cel_lt hk hij hj
    refine ⟨(fun x => if x = z9_cel k i j then 0 else C_sums st x, fun x => if x = z9_cel k i j then -1 else C_costs st x, C_rules st, C_sizes st, C_lengths st, C_letters st, C_textLength st, C_restSums st, C_restCosts st, C_restLengths st), ?_, ?_, ?_, ?_, ?_⟩
    · simp only [F_Ch_fillPart_L3, show (6 : Int32) = z9_i32 6 from rfl, z9_i32_le (show 6 < 2147483648 by decide) (show k < 2147483648 by omega)]
      rw [if_neg (by omega), z9_c_cell (by omega) (by omega) (by omega)]
      simp only [Option.bind_some]
      rw [z9_aS_i hcl (by decide), z9_aS_i hcl (by decide)]; rfl
    · unfold z9_cTx at *; simp only [z9_ct]; exact p1
    · intro s p q hs hp hq
      simp only [z9_ct]
      by_cases hx : z9_cel s p q = z9_cel k i j
      · rw [if_pos hx, if_pos hx]; exact ⟨none, rfl, (fun x hx => by cases hx), fun _ => rfl⟩
      · rw [if_neg hx, if_neg hx]; exact p2 s p q hs hp hq
    · intro s p q hs hp hq hn
      refine z9_cEq_trans (p3 s p q hs hp hq hn) ?_
      unfold z9_cEq; simp only [z9_ct]
      have := z9_spt_ne hs hk hp hq hij hj hn
      rw [if_neg this, if_neg this]; simp
    · intro s hs
      simp only [z9_ct]
      by_cases hsk : s = k
      · subst hsk; simp
      · have := z9_cel_ne (show s < 6 by omega) hk hij hj hsk
        rw [if_neg this, if_neg this]; exact p4 s (by omega)
theorem z9_c_fillPart {c : tC} {a : tG} {g : z9_tA} {F : Nat} {rk od : Nat → Nat} (h : z9_gGood g F rk) (ha : z9_gIs a g) (ho : z9_ordF g rk od (G_order a)) (hW : z9_cW c) {tx : Nat → Nat} {i j : Nat} (hij : i ≤ j) (hj : j ≤ 8) (hl : ∀ p, p < j → C_letters c p = z9_i32 (tx p) ∧ tx p ≤ 126)
    (H1 : ∀ s p q, s < z9_A_nS g → i ≤ p → p ≤ q → q ≤ j → ¬ z9_spt i j p q → z9_fin c g tx s p q) :
    ∃ c', F_Ch_fillPart c a (z9_i32 i) (z9_i32 j) = some c' ∧ z9_cTx c c' ∧ z9_cW c' ∧ z9_cOut c c' i j ∧ ∀ s, s < z9_A_nS g → z9_fin c' g tx s i j := by
  obtain ⟨g0, g1, g2, g3⟩ := h.1
  obtain ⟨o1, o2, o3, o4⟩ := ho
  obtain ⟨cb, k1, k2, k3, k4, k5⟩ := z9_c_blank hW hij hj
  have main : ∃ c', F_Ch_fillPart_L45 a (z9_i32 i) (z9_i32 j) rn_fu cb 0 = some c' ∧ z9_cTx c c' ∧ z9_cW c' ∧ z9_cOut c c' i j ∧ ∀ s, s < z9_A_nS g → z9_fin c' g tx s i j := by
    refine z9_forU (L := fun n (st : tC) k => F_Ch_fillPart_L45 a (z9_i32 i) (z9_i32 j) n st k) (Q := fun o => ∃ c', o = some c' ∧ z9_cTx c c' ∧ z9_cW c' ∧ z9_cOut c c' i j ∧ ∀ s, s < z9_A_nS g → z9_fin c' g tx s i j) (P := fun k st => z9_cTx c st ∧ z9_cW st ∧ z9_cOut c st i j ∧ (∀ q, q < k → q < z9_A_nS g → z9_fin st g tx (od q) i j) ∧ ∀ q, k ≤ q → q < z9_A_nS g → z9_par st g tx (od q) i j 0) (K := z9_A_nS g) 0 cb (by omega) (by omega) ⟨k2, k3, k4, fun q hq => by omega, ?_⟩ ?_ ?_
    · intro q _ hq
      have := (o1 q hq).2
      obtain ⟨x1, x2⟩ := k5 (od q) (by omega)
      exact ⟨x1, x2, fun q => absurd rfl q⟩
    · intro n st hP
      obtain ⟨p1, p2, p3, p4, p5⟩ := hP
      refine ⟨st, ?_, p1, p2, p3, ?_⟩
      · simp only [F_Ch_fillPart_L45, ha.2.1, Int32.le_refl, if_true]
      · intro s hs
        obtain ⟨q, hq, rfl⟩ := o2 s hs
        exact p4 q hq hq
    · intro n st k hk hP
      obtain ⟨p1, p2, p3, p4, p5⟩ := hP
      left
      have hsk := (o1 k hk).2
      have inner : ∃ c', F_Ch_fillPart_L57 a (z9_i32 i) (z9_i32 j) (z9_i32 k) rn_fu st 0 = some c' ∧ z9_cTx c c' ∧ z9_cW c' ∧ z9_cOut c c' i j ∧ (∀ s, s < 6 → s ≠ od k → z9_cEq st c' (z9_cel s i j)) ∧ z9_par c' g tx (od k) i j (z9_A_nR g) := by
        refine z9_forU (L := fun n (st : tC) r => F_Ch_fillPart_L57 a (z9_i32 i) (z9_i32 j) (z9_i32 k) n st r) (Q := fun o => ∃ c', o = some c' ∧ z9_cTx c c' ∧ z9_cW c' ∧ z9_cOut c c' i j ∧ (∀ s, s < 6 → s ≠ od k → z9_cEq st c' (z9_cel s i j)) ∧ z9_par c' g tx (od k) i j (z9_A_nR g)) (P := fun r st1 => z9_cTx c st1 ∧ z9_cW st1 ∧ z9_cOut c st1 i j ∧ (∀ s, s < 6 → s ≠ od k → z9_cEq st st1 (z9_cel s i j)) ∧ z9_par st1 g tx (od k) i j r) (K := z9_A_nR g) 0 st (by omega) (by omega) ⟨p1, p2, p3, fun s _ _ => z9_cEq_rfl _ _, p5 k (Nat.le_refl _) hk⟩ ?_ ?_
        · intro n st1 hP
          refine ⟨st1, ?_, hP⟩
          simp only [F_Ch_fillPart_L57, ha.1, Int32.le_refl, if_true]
        · intro n st1 r hr hP
          obtain ⟨q1, q2, q3, q4, q5⟩ := hP
          left
          have hhd := (g3 r hr).1
          simp only [F_Ch_fillPart_L57, ha.1, z9_i32_le (show z9_A_nR g < 2147483648 by omega) (show r < 2147483648 by omega)]
          rw [if_neg (by omega), z9_aG_i (by omega) (by decide), z9_aG_i (by omega) (by decide), (ha.2.2 r hr).1, (o1 k hk).1]
          simp only [Option.bind_some, z9_i32_inj (show z9_A_hd g r < 2147483648 by omega) (show od k < 2147483648 by omega)]
          by_cases hh : z9_A_hd g r = od k
          · have add := z9_c_addRule (c := st1) h ha q2 (tx := tx) hr hij hj (fun p hp => by rw [q1.1]; exact hl p hp) (by
                intro s p q hs x1 x2 x3 x4
                by_cases hsp : z9_spt i j p q
                · exfalso
                  rcases hsp with ⟨y1, y2⟩ | y
                  · omega
                  · exact x4 y
                · exact z9_fin_eq (q3 s p q (by omega) x2 (by omega) hsp) (H1 s p q hs x1 x2 x3 hsp)) (by
                intro s hs he
                by_cases hlt : i < j
                · have hsp : ¬ z9_spt i j i i := by unfold z9_spt; omega
                  have hf := z9_fin_eq (q3 s i i (by omega) (Nat.le_refl _) (by omega) hsp) (H1 s i i hs (Nat.le_refl _) (Nat.le_refl _) hij hsp)
                  rw [hf.1, hf.2.1, z9_VS_nemp h hs he, z9_vC_nemp h hs he]; exact ⟨rfl, rfl⟩
                · have hij' : i = j := by omega
                  subst hij'
                  by_cases hsk' : s = od k
                  · subst hsk'
                    rw [q5.1, q5.2.1]
                    have z1 : z9_rS g tx (z9_VS g tx) (od k) i i r = 0 := z9_rul_zero z9_s_zm z9_s_mz rfl h.1 h.2.1 (fun s hs he => z9_VS_nemp h hs he) he r (by omega)
                    have z2 : z9_rC g tx (z9_vC g tx) (od k) i i r = none := z9_rul_zero z9_none_oadd z9_oadd_none rfl h.1 h.2.1 (fun s hs he => z9_vC_nemp h hs he) he r (by omega)
                    rw [z1, z2]; exact ⟨rfl, rfl⟩
                  · obtain ⟨q, hq, rfl⟩ := o2 s hs
                    obtain ⟨w1, w2, _⟩ := q4 (od q) (by omega) hsk'
                    rw [w1, w2]
                    by_cases hqk : q < k
                    · have hf := p4 q hqk hq
                      rw [hf.1, hf.2.1, z9_VS_nemp h hs he, z9_vC_nemp h hs he]; exact ⟨rfl, rfl⟩
                    · have hp := p5 q (by omega) hq
                      rw [hp.1, hp.2.1]; exact ⟨rfl, rfl⟩) (by
                intro y hy hrk
                rw [hh] at hrk
                obtain ⟨q, hq, rfl⟩ := o2 y hy
                have hqk : q < k := by
                  apply Classical.byContradiction
                  intro hge
                  by_cases he : q = k
                  · subst he; omega
                  · have := o4 k q (by omega) hq; omega
                have hne : od q ≠ od k := by
                  intro e; have := o3 q k hq hk e; omega
                exact z9_fin_eq (q4 (od q) (by omega) hne) (p4 q hqk hq)) (by rw [hh]; exact q5)
            obtain ⟨c', x1, x2, x3, x4, x5⟩ := add
            rw [hh] at x4 x5
            simp only [hh, not_true, if_false]
            rw [x1]
            refine ⟨c', rfl, ⟨x2.1.trans q1.1, x2.2.trans q1.2⟩, x3, ?_, ?_, x5⟩
            · refine z9_cOut_trans q3 (fun s p q hs hp hq hn => x4 _ ?_)
              exact z9_spt_ne hs (by omega) hp hq hij hj hn
            · intro s hs hne
              exact z9_cEq_trans (q4 s hs hne) (x4 _ (z9_cel_ne hs (by omega) hij hj hne))
          · simp only [hh, not_false_eq_true, if_true, Option.bind_some]
            refine ⟨st1, rfl, q1, q2, q3, q4, ?_⟩
            unfold z9_par at q5 ⊢
            rw [z9_rS_succ, z9_rC_succ, if_neg hh, if_neg hh]
            have hrl : z9_rl g tx (z9_vC g tx) (od k) i j (r + 1) = z9_rl g tx (z9_vC g tx) (od k) i j r := by
              simp only [z9_rl]; rw [if_neg (fun q => hh q.1)]
            rw [hrl]; exact q5
      obtain ⟨c', x1, x2, x3, x4, x5, x6⟩ := inner
      refine ⟨c', ?_, x2, x3, x4, ?_, ?_⟩
      · simp only [F_Ch_fillPart_L45, ha.2.1, z9_i32_le (show z9_A_nS g < 2147483648 by omega) (show k < 2147483648 by omega)]
        rw [if_neg (by omega), x1]; rfl
      · intro q hq hqn
        by_cases hqk : q = k
        · subst hqk; exact z9_par_fin h hsk hij (by omega) x6
        · have hne : od q ≠ od k := fun e => hqk (o3 q k hqn hk e)
          have := (o1 q hqn).2
          exact z9_fin_eq (x5 _ (by omega) hne) (p4 q (by omega) hqn)
      · intro q hq hqn
        have hne : od q ≠ od k := fun e => by have := o3 q k hqn hk e; omega
        have := (o1 q hqn).2
        exact z9_par_eq (x5 _ (by omega) hne) (p5 q (by omega) hqn)
  obtain ⟨c', x1, x2⟩ := main
  refine ⟨c', ?_, x2⟩
  unfold F_Ch_fillPart
  rw [k1]
  simp only [Option.bind_some]
  rw [x1]; rfl
