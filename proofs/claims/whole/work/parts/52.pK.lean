def z9_fol {α : Type} (ad : α → α → α) (z : α) (f : Nat → α) (p : Nat) : Nat → α
  | 0 => z
  | n + 1 => ad (z9_fol ad z f p n) (f (p + n))
def z9_ev {α : Type} (z o : α) (ad mu : α → α → α) (val : Nat → Nat → Nat → α) : List Nat → Nat → Nat → α
  | [], p, j => if p = j then o else z
  | s :: l, p, j => z9_fol ad z (fun q => mu (val s p q) (z9_ev z o ad mu val l q j)) p (j + 1 - p)
theorem z9_fol_congr {α : Type} {ad : α → α → α} {z : α} {f f' : Nat → α} {p n : Nat} (h : ∀ q, p ≤ q → q < p + n → f q = f' q) : z9_fol ad z f p n = z9_fol ad z f' p n := by
  induction n with
  | zero => rfl
  | succ n ih => simp only [z9_fol]; rw [ih (fun q h1 h2 => h q h1 (by omega)), h (p + n) (by omega) (by omega)]
section
variable {α : Type} {z o : α} {ad mu : α → α → α}
theorem z9_ev_congr {val val' : Nat → Nat → Nat → α} {j : Nat} : ∀ (l : List Nat) (p : Nat), (∀ s, s ∈ l → ∀ p' q', p ≤ p' → p' ≤ q' → q' ≤ j → val s p' q' = val' s p' q') → z9_ev z o ad mu val l p j = z9_ev z o ad mu val' l p j := by
  intro l
  induction l with
  | nil => intro p _; rfl
  | cons s l ih =>
    intro p h
    simp only [z9_ev]
    refine z9_fol_congr (fun q h1 h2 => ?_)
    rw [h s (List.mem_cons_self) p q (Nat.le_refl _) h1 (by omega), ih q (fun s' hs' p' q' a b c => h s' (List.mem_cons_of_mem _ hs') p' q' (by omega) b c)]
theorem z9_ev_zero (hz1 : ∀ x, mu z x = z) (hz2 : ∀ x, mu x z = z) (hz3 : ad z z = z) {val : Nat → Nat → Nat → α} {p : Nat} : ∀ (l : List Nat), (∃ s, s ∈ l ∧ val s p p = z) → z9_ev z o ad mu val l p p = z := by
  intro l
  induction l with
  | nil => intro ⟨s, hs, _⟩; cases hs
  | cons s l ih =>
    intro ⟨t, ht, hv⟩
    simp only [z9_ev]
    rw [show p + 1 - p = 1 by omega]
    simp only [z9_fol, Nat.add_zero]
    rcases List.mem_cons.mp ht with h | h
    · subst h; rw [hv, hz1, hz3]
    · rw [ih ⟨t, h, hv⟩, hz2, hz3]
theorem z9_ev_dep (hz1 : ∀ x, mu z x = z) (hz2 : ∀ x, mu x z = z) (hz3 : ad z z = z) (E : Nat → Prop) {val val' : Nat → Nat → Nat → α} {i j : Nat} (hij : i ≤ j) : ∀ (l : List Nat),
    (∀ s, s ∈ l → ∀ p q, i ≤ p → p ≤ q → q ≤ j → ¬ (p = i ∧ q = j) → val s p q = val' s p q) →
    (∀ s, s ∈ l → ¬ E s → ∀ p, i ≤ p → p ≤ j → val s p p = z ∧ val' s p p = z) →
    (∀ k, k < l.length → (∀ m, m < l.length → m ≠ k → E (l.getD m 0)) → val (l.getD k 0) i j = val' (l.getD k 0) i j) →
    z9_ev z o ad mu val l i j = z9_ev z o ad mu val' l i j ∧ ∀ s l', l = s :: l' → ∀ q, i ≤ q → q ≤ j → mu (val s i q) (z9_ev z o ad mu val l' q j) = mu (val' s i q) (z9_ev z o ad mu val' l' q j) := by
  intro l
  induction l with
  | nil => intro _ _ _; exact ⟨rfl, fun s l' h => by cases h⟩
  | cons s l ih =>
    intro ha hb hc
    have tail : E s → z9_ev z o ad mu val l i j = z9_ev z o ad mu val' l i j := by
      intro hE
      refine (ih (fun s' hs' => ha s' (List.mem_cons_of_mem _ hs')) (fun s' hs' => hb s' (List.mem_cons_of_mem _ hs')) ?_).1
      intro k hk hm
      have := hc (k + 1) (by simp; omega) ?_
      · simpa using this
      · intro m hml hmk
        cases m with
        | zero => simpa using hE
        | succ m => simpa using hm m (by simpa using hml) (by omega)
    have term : ∀ q, i ≤ q → q ≤ j → mu (val s i q) (z9_ev z o ad mu val l q j) = mu (val' s i q) (z9_ev z o ad mu val' l q j) := by
      intro q h1 h2
      have hs := List.mem_cons_self (a := s) (l := l)
      by_cases hq : q = j
      · by_cases hl : ∀ m, m < l.length → E (l.getD m 0)
        · have h0 : val s i j = val' s i j := by
            have := hc 0 (by simp) ?_
            · simpa using this
            · intro m hml hm0
              cases m with
              | zero => exact absurd rfl hm0
              | succ m => simpa using hl m (by simpa using hml)
          rw [hq, h0]
          by_cases hij' : i = j
          · subst hij'
            by_cases hE : E s
            · rw [tail hE]
            · rw [(hb s hs hE i (by omega) (by omega)).2, hz1, hz1]
          · rw [z9_ev_congr l j (fun s' hs' p' q' a b c => ha s' (List.mem_cons_of_mem _ hs') p' q' (by omega) b c (by omega))]
        · simp only [Classical.not_forall] at hl
          obtain ⟨m, hm, hE⟩ := hl
          have hmem : l.getD m 0 ∈ l := by rw [List.getD_eq_getElem?_getD, List.getElem?_eq_getElem hm]; exact List.getElem_mem hm
          have hz := hb _ (List.mem_cons_of_mem s hmem) hE j (by omega) (by omega)
          rw [hq, z9_ev_zero hz1 hz2 hz3 l ⟨_, hmem, hz.1⟩, z9_ev_zero hz1 hz2 hz3 l ⟨_, hmem, hz.2⟩, hz2, hz2]
      · have hv : val s i q = val' s i q := ha s hs i q (by omega) h1 h2 (by omega)
        by_cases hqi : q = i
        · subst hqi
          by_cases hE : E s
          · rw [hv, tail hE]
          · rw [(hb s hs hE q (by omega) (by omega)).1, (hb s hs hE q (by omega) (by omega)).2, hz1, hz1]
        · rw [hv, z9_ev_congr l q (fun s' hs' p' q' a b c => ha s' (List.mem_cons_of_mem _ hs') p' q' (by omega) b c (by omega))]
    refine ⟨?_, ?_⟩
    · simp only [z9_ev]
      exact z9_fol_congr (fun q h1 h2 => term q h1 (by omega))
    · intro s' l' he q h1 h2
      cases he
      exact term q h1 h2
def z9_tl (g : z9_tA) (r k : Nat) : Nat → List Nat
  | 0 => []
  | n + 1 => z9_A_bd g r k :: z9_tl g r (k + 1) n
theorem z9_tl_len (g : z9_tA) (r : Nat) : ∀ n k, (z9_tl g r k n).length = n := by
  intro n
  induction n with
  | zero => intro k; rfl
  | succ n ih => intro k; simp only [z9_tl, List.length_cons, ih]
theorem z9_tl_get (g : z9_tA) (r : Nat) : ∀ n k m, m < n → (z9_tl g r k n).getD m 0 = z9_A_bd g r (k + m) := by
  intro n
  induction n with
  | zero => intro k m hm; omega
  | succ n ih =>
    intro k m hm
    cases m with
    | zero => simp [z9_tl]
    | succ m => simp only [z9_tl, List.getD_cons_succ]; rw [ih (k + 1) m (by omega)]; congr 1; omega
theorem z9_tl_mem (g : z9_tA) (r : Nat) {s : Nat} : ∀ n k, s ∈ z9_tl g r k n → ∃ m, k ≤ m ∧ m < k + n ∧ s = z9_A_bd g r m := by
  intro n
  induction n with
  | zero => intro k h; cases h
  | succ n ih =>
    intro k h
    rcases List.mem_cons.mp h with h | h
    · exact ⟨k, by omega, by omega, h⟩
    · obtain ⟨m, a, b, c⟩ := ih (k + 1) h
      exact ⟨m, by omega, by omega, c⟩
def z9_bl (g : z9_tA) (r : Nat) : List Nat := z9_tl g r 0 (z9_A_ln g r)
def z9_sym (z o : α) (tx : Nat → Nat) (V : Nat → Nat → Nat → α) (s p q : Nat) : α := if s < 6 then V s p q else if q = p + 1 ∧ tx p = s then o else z
def z9_rul (z o : α) (ad mu : α → α → α) (w : Nat → α) (g : z9_tA) (tx : Nat → Nat) (V : Nat → Nat → Nat → α) (s i j : Nat) : Nat → α
  | 0 => z
  | r + 1 => if z9_A_hd g r = s then ad (z9_rul z o ad mu w g tx V s i j r) (mu (w r) (z9_ev z o ad mu (z9_sym z o tx V) (z9_bl g r) i j)) else z9_rul z o ad mu w g tx V s i j r
def z9_cht (z o : α) (ad mu : α → α → α) (w : Nat → α) (g : z9_tA) (tx : Nat → Nat) : Nat → Nat → Nat → Nat → α
  | 0 => fun _ _ _ => z
  | n + 1 => fun s i j => z9_rul z o ad mu w g tx (z9_cht z o ad mu w g tx n) s i j (z9_A_nR g)
def z9_emp (F : Nat) (s : Nat) : Prop := s < 6 ∧ F.testBit s = true
theorem z9_eC_some {g : z9_tA} {F r a : Nat} : ∀ k, (∀ l, l < k → l ≠ a → z9_emp F (z9_A_bd g r l)) → z9_eC g (z9_fe F) r a k ≠ none := by
  intro k
  induction k with
  | zero => intro _; simp [z9_eC]
  | succ k ih =>
    intro h
    have := ih (fun l hl => h l (by omega))
    simp only [z9_eC]
    by_cases hka : k = a
    · rw [if_pos hka]; exact this
    · rw [if_neg hka]
      have he := h k (by omega) hka
      rw [if_pos he.1]
      rw [show z9_fe F (z9_A_bd g r k) = some 0 from if_pos he.2]
      cases hh : z9_eC g (z9_fe F) r a k with
      | none => exact absurd hh this
      | some y => simp [z9_oadd]
theorem z9_rule_dep (hz1 : ∀ x, mu z x = z) (hz2 : ∀ x, mu x z = z) (hz3 : ad z z = z) {g : z9_tA} (hg : z9_gOK g) {F : Nat} {tx : Nat → Nat} {V V' : Nat → Nat → Nat → α} {r i j : Nat} (hr : r < z9_A_nR g) (hij : i ≤ j)
    (ha : ∀ s p q, s < z9_A_nS g → i ≤ p → p ≤ q → q ≤ j → ¬ (p = i ∧ q = j) → V s p q = V' s p q)
    (hb : ∀ s, s < z9_A_nS g → ¬ z9_emp F s → ∀ p, i ≤ p → p ≤ j → V s p p = z ∧ V' s p p = z)
    (hc : ∀ k, k < z9_A_ln g r → z9_lead g F r k → V (z9_A_bd g r k) i j = V' (z9_A_bd g r k) i j) :
    z9_ev z o ad mu (z9_sym z o tx V) (z9_bl g r) i j = z9_ev z o ad mu (z9_sym z o tx V') (z9_bl g r) i j := by
  refine (z9_ev_dep hz1 hz2 hz3 (z9_emp F) hij (z9_bl g r) ?_ ?_ ?_).1
  · intro s hs p q h1 h2 h3 h4
    obtain ⟨m, _, hm, rfl⟩ := z9_tl_mem g r _ _ hs
    have := (hg.2.2.2 r hr).2.2.2 m (by omega)
    unfold z9_sym
    by_cases h6 : z9_A_bd g r m < 6
    · rw [if_pos h6, if_pos h6]; exact ha _ p q (by omega) h1 h2 h3 h4
    · rw [if_neg h6, if_neg h6]
  · intro s hs hE p h1 h2
    obtain ⟨m, _, hm, rfl⟩ := z9_tl_mem g r _ _ hs
    have := (hg.2.2.2 r hr).2.2.2 m (by omega)
    unfold z9_sym
    by_cases h6 : z9_A_bd g r m < 6
    · rw [if_pos h6, if_pos h6]; exact hb _ (by omega) hE p h1 h2
    · rw [if_neg h6, if_neg h6, if_neg (by omega)]; exact ⟨rfl, rfl⟩
  · intro k hk hm
    have hlen : (z9_bl g r).length = z9_A_ln g r := z9_tl_len g r _ _
    rw [hlen] at hk hm
    have hget : ∀ m, m < z9_A_ln g r → (z9_bl g r).getD m 0 = z9_A_bd g r m := by
      intro m hm; have := z9_tl_get g r (z9_A_ln g r) 0 m hm; rw [Nat.zero_add] at this; exact this
    rw [hget k hk]
    unfold z9_sym
    by_cases h6 : z9_A_bd g r k < 6
    · rw [if_pos h6, if_pos h6]
      refine hc k hk ⟨h6, z9_eC_some _ ?_⟩
      intro l hl hlk
      have := hm l hl hlk
      rw [hget l hl] at this; exact this
    · rw [if_neg h6, if_neg h6]
theorem z9_rule_zero (hz1 : ∀ x, mu z x = z) (hz2 : ∀ x, mu x z = z) (hz3 : ad z z = z) {g : z9_tA} (hg : z9_gOK g) {F : Nat} (hF : z9_closedF g F) {tx : Nat → Nat} {V : Nat → Nat → Nat → α} {r p : Nat} (hr : r < z9_A_nR g)
    (hb : ∀ s, s < z9_A_nS g → ¬ z9_emp F s → V s p p = z) (hh : ¬ z9_emp F (z9_A_hd g r)) : z9_ev z o ad mu (z9_sym z o tx V) (z9_bl g r) p p = z := by
  obtain ⟨b1, b2, b3, b4⟩ := hg.2.2.2 r hr
  have h6 := hg.2.2.1
  apply z9_ev_zero hz1 hz2 hz3
  apply Classical.byContradiction
  intro hne
  apply hh
  refine ⟨by omega, hF r hr (z9_eC_some _ ?_)⟩
  intro l hl _
  apply Classical.byContradiction
  intro he
  apply hne
  have hmem : z9_A_bd g r l ∈ z9_bl g r := by
    have hlen : (z9_bl g r).length = z9_A_ln g r := z9_tl_len g r _ _
    have := z9_tl_get g r (z9_A_ln g r) 0 l hl
    rw [Nat.zero_add] at this
    rw [← this]
    show (z9_bl g r).getD l 0 ∈ z9_bl g r
    rw [List.getD_eq_getElem?_getD, List.getElem?_eq_getElem (by rw [hlen]; exact hl)]; exact List.getElem_mem _
  refine ⟨_, hmem, ?_⟩
  unfold z9_sym
  by_cases h6' : z9_A_bd g r l < 6
  · rw [if_pos h6']
    have := b4 l hl
    exact hb _ (by omega) he
  · rw [if_neg h6', if_neg (by omega)]
variable {w : Nat → α}
theorem z9_rul_zero (hz1 : ∀ x, mu z x = z) (hz2 : ∀ x, mu x z = z) (hz3 : ad z z = z) {g : z9_tA} (hg : z9_gOK g) {F : Nat} (hF : z9_closedF g F) {tx : Nat → Nat} {V : Nat → Nat → Nat → α} {s p : Nat}
    (hb : ∀ s, s < z9_A_nS g → ¬ z9_emp F s → V s p p = z) (hh : ¬ z9_emp F s) : ∀ n, n ≤ z9_A_nR g → z9_rul z o ad mu w g tx V s p p n = z := by
  intro n
  induction n with
  | zero => intro _; rfl
  | succ n ih =>
    intro hn
    simp only [z9_rul]
    by_cases he : z9_A_hd g n = s
    · rw [if_pos he, ih (by omega), z9_rule_zero hz1 hz2 hz3 hg hF (by omega) hb (by rw [he]; exact hh), hz2, hz3]
    · rw [if_neg he]; exact ih (by omega)
theorem z9_cht_zero (hz1 : ∀ x, mu z x = z) (hz2 : ∀ x, mu x z = z) (hz3 : ad z z = z) {g : z9_tA} (hg : z9_gOK g) {F : Nat} (hF : z9_closedF g F) {tx : Nat → Nat} {p : Nat} : ∀ n s, s < z9_A_nS g → ¬ z9_emp F s → z9_cht z o ad mu w g tx n s p p = z := by
  intro n
  induction n with
  | zero => intro s _ _; rfl
  | succ n ih => intro s _ hh; exact z9_rul_zero hz1 hz2 hz3 hg hF ih hh _ (Nat.le_refl _)
theorem z9_rul_congr {g : z9_tA} {tx : Nat → Nat} {V V' : Nat → Nat → Nat → α} {s i j : Nat} : ∀ n, (∀ r, r < n → z9_A_hd g r = s → z9_ev z o ad mu (z9_sym z o tx V) (z9_bl g r) i j = z9_ev z o ad mu (z9_sym z o tx V') (z9_bl g r) i j) → z9_rul z o ad mu w g tx V s i j n = z9_rul z o ad mu w g tx V' s i j n := by
  intro n
  induction n with
  | zero => intro _; rfl
  | succ n ih =>
    intro h
    simp only [z9_rul]
    by_cases he : z9_A_hd g n = s
    · rw [if_pos he, if_pos he, ih (fun r hr => h r (by omega)), h n (by omega) he]
    · rw [if_neg he, if_neg he]; exact ih (fun r hr => h r (by omega))
theorem z9_cht_rest (hz1 : ∀ x, mu z x = z) (hz2 : ∀ x, mu x z = z) (hz3 : ad z z = z) {g : z9_tA} (hg : z9_gOK g) {F : Nat} (hF : z9_closedF g F) {tx : Nat → Nat} {rk : Nat → Nat} (hrk : ∀ s, s < z9_A_nS g → rk s < z9_A_nS g) (hlead : ∀ r k, r < z9_A_nR g → k < z9_A_ln g r → z9_lead g F r k → rk (z9_A_bd g r k) < rk (z9_A_hd g r)) :
    ∀ n s i j, s < z9_A_nS g → i ≤ j → 7 * (j - i) + rk s < n → z9_cht z o ad mu w g tx n s i j = z9_cht z o ad mu w g tx (n + 1) s i j := by
  have h6 := hg.2.2.1
  intro n
  induction n with
  | zero => intro s i j _ _ h; omega
  | succ n ih =>
    intro s i j hs hij h
    show z9_rul z o ad mu w g tx (z9_cht z o ad mu w g tx n) s i j _ = z9_rul z o ad mu w g tx (z9_cht z o ad mu w g tx (n + 1)) s i j _
    refine z9_rul_congr _ (fun r hr hh => ?_)
    refine z9_rule_dep hz1 hz2 hz3 hg (F := F) hr hij ?_ ?_ ?_
    · intro s' p q hs' h1 h2 h3 h4
      have := hrk s' hs'
      exact ih s' p q hs' h2 (by omega)
    · intro s' hs' he p _ _
      exact ⟨z9_cht_zero hz1 hz2 hz3 hg hF n s' hs' he, z9_cht_zero hz1 hz2 hz3 hg hF (n + 1) s' hs' he⟩
    · intro k hk hl
      have := hlead r k hr hk hl
      rw [hh] at this
      have hbd : z9_A_bd g r k < z9_A_nS g := by
        have := (hg.2.2.2 r hr).2.2.2 k hk
        have := hl.1; omega
      exact ih _ i j hbd hij (by omega)
end
def z9_olt : Option Nat → Option Nat → Bool
  | some a, some b => decide (a < b)
  | some _, none => true
  | none, _ => false
def z9_omin (a b : Option Nat) : Option Nat := if z9_olt b a then b else a
theorem z9_omin_none (b : Option Nat) : z9_omin none b = b := by cases b <;> rfl
theorem z9_omin_none' (a : Option Nat) : z9_omin a none = a := by cases a <;> rfl
theorem z9_omin_eq_none {a b : Option Nat} : z9_omin a b = none ↔ a = none ∧ b = none := by
  cases a <;> cases b <;> simp [z9_omin, z9_olt]
  split <;> simp
abbrev z9_fmn (f : Nat → Option Nat) (p n : Nat) : Option Nat := z9_fol z9_omin none f p n
theorem z9_fmn_none {f : Nat → Option Nat} {p : Nat} : ∀ n, z9_fmn f p n = none ↔ ∀ q, q < n → f (p + q) = none := by
  intro n
  induction n with
  | zero => simp [z9_fmn, z9_fol]
  | succ n ih =>
    show z9_omin (z9_fmn f p n) (f (p + n)) = none ↔ _
    rw [z9_omin_eq_none, ih]
    constructor
    · intro ⟨h1, h2⟩ q hq
      by_cases h : q = n
      · subst h; exact h2
      · exact h1 q (by omega)
    · intro h; exact ⟨fun q hq => h q (by omega), h n (by omega)⟩
theorem z9_fmn_le {f : Nat → Option Nat} {p : Nat} : ∀ n q x y, q < n → f (p + q) = some x → z9_fmn f p n = some y → y ≤ x := by
  intro n
  induction n with
  | zero => intro q x y hq; omega
  | succ n ih =>
    intro q x y hq hx hy
    have hy' : z9_omin (z9_fmn f p n) (f (p + n)) = some y := hy
    unfold z9_omin at hy'
    by_cases h : q = n
    · subst h
      rw [hx] at hy'
      cases hc : z9_fmn f p q with
      | none => rw [hc] at hy'; simp [z9_olt] at hy'; omega
      | some c =>
        rw [hc] at hy'; simp only [z9_olt, decide_eq_true_eq] at hy'
        by_cases hlt : x < c
        · rw [if_pos hlt] at hy'; simp at hy'; omega
        · rw [if_neg hlt] at hy'; simp at hy'; omega
    · cases hc : z9_fmn f p n with
      | none => have := (z9_fmn_none n).mp hc q (by omega); rw [this] at hx; cases hx
      | some c =>
        have := ih q x c (by omega) hx hc
        rw [hc] at hy'
        cases hn : f (p + n) with
        | none => rw [hn] at hy'; simp [z9_olt] at hy'; omega
        | some d =>
          rw [hn] at hy'; simp only [z9_olt, decide_eq_true_eq] at hy'
          by_cases hlt : d < c
          · rw [if_pos hlt] at hy'; simp at hy'; omega
          · rw [if_neg hlt] at hy'; simp at hy'; omega
def z9_am (f : Nat → Option Nat) (p : Nat) : Nat → Nat
  | 0 => 0
  | n + 1 => if z9_olt (f (p + n)) (z9_fmn f p n) then n else z9_am f p n
theorem z9_am_spec {f : Nat → Option Nat} {p : Nat} : ∀ n, z9_fmn f p n ≠ none → z9_am f p n < n ∧ f (p + z9_am f p n) = z9_fmn f p n ∧ ∀ b, b < z9_am f p n → f (p + b) ≠ z9_fmn f p n := by
  intro n
  induction n with
  | zero => intro h; exact absurd rfl h
  | succ n ih =>
    intro h
    have e : z9_fmn f p (n + 1) = z9_omin (z9_fmn f p n) (f (p + n)) := rfl
    simp only [z9_am]
    by_cases ho : z9_olt (f (p + n)) (z9_fmn f p n) = true
    · rw [if_pos ho]
      have e2 : z9_fmn f p (n + 1) = f (p + n) := by rw [e]; unfold z9_omin; rw [if_pos ho]
      refine ⟨by omega, e2.symm, ?_⟩
      intro b hb hf
      rw [e2] at hf
      rw [← hf] at ho
      cases hb1 : f (p + b) with
      | none => rw [hb1] at ho; simp [z9_olt] at ho
      | some x =>
        cases hc : z9_fmn f p n with
        | none => have := (z9_fmn_none n).mp hc b hb; rw [this] at hb1; cases hb1
        | some c =>
          have := z9_fmn_le n b x c hb hb1 hc
          rw [hb1, hc] at ho; simp [z9_olt] at ho; omega
    · rw [if_neg ho]
      have e2 : z9_fmn f p (n + 1) = z9_fmn f p n := by rw [e]; unfold z9_omin; rw [if_neg ho]
      rw [e2] at h ⊢
      obtain ⟨h1, h2, h3⟩ := ih h
      exact ⟨by omega, h2, h3⟩
theorem z9_am_congr {f f' : Nat → Option Nat} {p n : Nat} (h : ∀ q, p ≤ q → q < p + n → f q = f' q) : z9_am f p n = z9_am f' p n := by
  induction n with
  | zero => rfl
  | succ n ih =>
    simp only [z9_am]
    rw [ih (fun q h1 h2 => h q h1 (by omega)), h (p + n) (by omega) (by omega), show z9_fmn f p n = z9_fmn f' p n from z9_fol_congr (fun q h1 h2 => h q h1 (by omega))]
def z9_symS (tx : Nat → Nat) (V : Nat → Nat → Nat → Int64) : Nat → Nat → Nat → Int64 := z9_sym 0 1 tx V
def z9_symC (tx : Nat → Nat) (v : Nat → Nat → Nat → Option Nat) : Nat → Nat → Nat → Option Nat := z9_sym none (some 0) tx v
def z9_evS (tx : Nat → Nat) (V : Nat → Nat → Nat → Int64) (l : List Nat) (p j : Nat) : Int64 := z9_ev 0 1 (fun a b => a + b) (fun a b => a * b) (z9_symS tx V) l p j
def z9_evC (tx : Nat → Nat) (v : Nat → Nat → Nat → Option Nat) (l : List Nat) (p j : Nat) : Option Nat := z9_ev none (some 0) z9_omin z9_oadd (z9_symC tx v) l p j
def z9_ter (tx : Nat → Nat) (v : Nat → Nat → Nat → Option Nat) (s : Nat) (l : List Nat) (p j q : Nat) : Option Nat := z9_oadd (z9_symC tx v s p q) (z9_evC tx v l q j)
theorem z9_evC_cons (tx : Nat → Nat) (v : Nat → Nat → Nat → Option Nat) (s : Nat) (l : List Nat) (p j : Nat) : z9_evC tx v (s :: l) p j = z9_fmn (z9_ter tx v s l p j) p (j + 1 - p) := rfl
theorem z9_evS_cons (tx : Nat → Nat) (V : Nat → Nat → Nat → Int64) (s : Nat) (l : List Nat) (p j : Nat) : z9_evS tx V (s :: l) p j = z9_fol (fun a b => a + b) 0 (fun q => z9_symS tx V s p q * z9_evS tx V l q j) p (j + 1 - p) := rfl
def z9_stp (tx : Nat → Nat) (v : Nat → Nat → Nat → Option Nat) (s : Nat) (l : List Nat) (p j : Nat) : Nat := z9_am (z9_ter tx v s l p j) p (j + 1 - p)
def z9_tot (tx : Nat → Nat) (v : Nat → Nat → Nat → Option Nat) (f : Nat → Nat → Nat → Nat) : List Nat → Nat → Nat → Nat
  | [], _, _ => 0
  | s :: l, p, j => f s p (p + z9_stp tx v s l p j) + z9_tot tx v f l (p + z9_stp tx v s l p j) j
theorem z9_stp_spec {tx : Nat → Nat} {v : Nat → Nat → Nat → Option Nat} {s : Nat} {l : List Nat} {p j : Nat} (h : z9_evC tx v (s :: l) p j ≠ none) : p + z9_stp tx v s l p j ≤ j ∧ z9_symC tx v s p (p + z9_stp tx v s l p j) ≠ none ∧ z9_evC tx v l (p + z9_stp tx v s l p j) j ≠ none ∧ z9_oadd (z9_symC tx v s p (p + z9_stp tx v s l p j)) (z9_evC tx v l (p + z9_stp tx v s l p j) j) = z9_evC tx v (s :: l) p j ∧ ∀ b, b < z9_stp tx v s l p j → z9_ter tx v s l p j (p + b) ≠ z9_evC tx v (s :: l) p j := by
  rw [z9_evC_cons] at h ⊢
  obtain ⟨h1, h2, h3⟩ := z9_am_spec _ h
  have h2' : z9_oadd (z9_symC tx v s p (p + z9_stp tx v s l p j)) (z9_evC tx v l (p + z9_stp tx v s l p j) j) = z9_fmn (z9_ter tx v s l p j) p (j + 1 - p) := h2
  have h1' : z9_stp tx v s l p j < j + 1 - p := h1
  refine ⟨by omega, ?_, ?_, h2', h3⟩
  · intro q; rw [q, z9_none_oadd] at h2'; exact h h2'.symm
  · intro q; rw [q, z9_oadd_none] at h2'; exact h h2'.symm
theorem z9_tot_cost {tx : Nat → Nat} {v : Nat → Nat → Nat → Option Nat} {j : Nat} : ∀ (l : List Nat) (p y : Nat), z9_evC tx v l p j = some y → z9_tot tx v (fun s p q => (z9_symC tx v s p q).getD 0) l p j = y := by
  intro l
  induction l with
  | nil =>
    intro p y h
    have h' : (if p = j then some 0 else none) = some y := h
    split at h'
    · simpa [z9_tot] using h'
    · cases h'
  | cons s l ih =>
    intro p y h
    obtain ⟨h1, h2, h3, h4, h5⟩ := z9_stp_spec (by rw [h]; simp)
    rw [h] at h4
    simp only [z9_tot]
    cases ha : z9_symC tx v s p (p + z9_stp tx v s l p j) with
    | none => exact absurd ha h2
    | some a =>
      cases hb : z9_evC tx v l (p + z9_stp tx v s l p j) j with
      | none => exact absurd hb h3
      | some b =>
        rw [ha, hb] at h4
        simp only [z9_oadd, Option.some.injEq] at h4
        rw [ih _ b hb]; simp; exact h4
def z9_eB : Nat → Nat
  | 0 => 1
  | n + 1 => 1 + 4 * z9_eB n
def z9_uB (L : Nat) : Nat := if L = 0 then 1365 else 24576 * (2 * L - 1)
def z9_rB (L rk : Nat) : Nat := if L = 0 then z9_eB rk else 24576 * (2 * L - 2) + 4096 * (rk + 1)
theorem z9_rB_le {L rk : Nat} (h : rk ≤ 5) : z9_rB L rk ≤ z9_uB L := by
  unfold z9_rB z9_uB
  by_cases hL : L = 0
  · rw [if_pos hL, if_pos hL]
    have : ∀ n : Fin 6, z9_eB n.1 ≤ 1365 := by decide
    exact this ⟨rk, by omega⟩
  · rw [if_neg hL, if_neg hL]; omega
theorem z9_evC_all {tx : Nat → Nat} {v : Nat → Nat → Nat → Option Nat} {p : Nat} : ∀ (l : List Nat), z9_evC tx v l p p ≠ none → ∀ s, s ∈ l → z9_symC tx v s p p ≠ none := by
  intro l h s hs hn
  exact h (z9_ev_zero (mu := z9_oadd) (ad := z9_omin) z9_none_oadd z9_oadd_none rfl l ⟨s, hs, hn⟩)
theorem z9_tot_small {tx : Nat → Nat} {v : Nat → Nat → Nat → Option Nat} {f : Nat → Nat → Nat → Nat} {W j : Nat} : ∀ (l : List Nat) (p : Nat), p ≤ j → (∀ s, s ∈ l → ∀ p' q', p ≤ p' → p' ≤ q' → q' ≤ j → z9_symC tx v s p' q' ≠ none → f s p' q' ≤ W * z9_uB (q' - p')) → z9_evC tx v l p j ≠ none → (p = j → z9_tot tx v f l p j ≤ W * (l.length * 1365)) ∧ (p < j → 1 ≤ l.length ∧ z9_tot tx v f l p j ≤ W * (z9_uB (j - p) + (l.length - 1) * 1365)) := by
  intro l
  induction l with
  | nil =>
    intro p hp _ h
    refine ⟨fun _ => by simp [z9_tot], fun hlt => ?_⟩
    exfalso; apply h; show (if p = j then some 0 else none) = none; rw [if_neg (by omega)]
  | cons s l ih =>
    intro p hp hf h
    obtain ⟨h1, h2, h3, _, _⟩ := z9_stp_spec h
    have ih' := ih (p + z9_stp tx v s l p j) h1 (fun s' hs' p' q' a b c d => hf s' (List.mem_cons_of_mem _ hs') p' q' (by omega) b c d) h3
    have hs := hf s (List.mem_cons_self) p (p + z9_stp tx v s l p j) (Nat.le_refl _) (by omega) h1 h2
    rw [show p + z9_stp tx v s l p j - p = z9_stp tx v s l p j by omega] at hs
    simp only [z9_tot, List.length_cons]
    refine ⟨?_, ?_⟩
    · intro hpj
      have ha : z9_stp tx v s l p j = 0 := by omega
      rw [ha] at hs ih' ⊢
      have := ih'.1 (by omega)
      have e : z9_uB 0 = 1365 := rfl
      rw [e] at hs
      rw [Nat.add_mul, Nat.mul_add]; omega
    · intro hpj
      refine ⟨by omega, ?_⟩
      have hU : z9_uB (j - p) = 24576 * (2 * (j - p) - 1) := by unfold z9_uB; rw [if_neg (by omega)]
      by_cases ha0 : z9_stp tx v s l p j = 0
      · rw [ha0] at hs ih' ⊢
        obtain ⟨i1, i2⟩ := ih'.2 (by omega)
        rw [Nat.add_zero] at *
        have e : z9_uB 0 = 1365 := rfl
        rw [e] at hs
        have : W * (z9_uB (j - p) + (l.length + 1 - 1) * 1365) = W * 1365 + W * (z9_uB (j - p) + (l.length - 1) * 1365) := by
          rw [← Nat.mul_add]; congr 1
          have : l.length + 1 - 1 = (l.length - 1) + 1 := by omega
          rw [this, Nat.add_mul]; omega
        omega
      · by_cases haj : p + z9_stp tx v s l p j = j
        · have := ih'.1 haj
          have e : z9_stp tx v s l p j = j - p := by omega
          have hs' : f s p j ≤ W * z9_uB (j - p) := by rw [haj, e] at hs; exact hs
          rw [show l.length + 1 - 1 = l.length from rfl, Nat.mul_add]
          rw [haj] at this ⊢
          omega
        · obtain ⟨i1, i2⟩ := ih'.2 (by omega)
          have hU1 : z9_uB (z9_stp tx v s l p j) = 24576 * (2 * z9_stp tx v s l p j - 1) := by unfold z9_uB; rw [if_neg ha0]
          have hU2 : z9_uB (j - (p + z9_stp tx v s l p j)) = 24576 * (2 * (j - (p + z9_stp tx v s l p j)) - 1) := by unfold z9_uB; rw [if_neg (by omega)]
          have hsum : z9_uB (z9_stp tx v s l p j) + (z9_uB (j - (p + z9_stp tx v s l p j)) + (l.length - 1) * 1365) ≤ z9_uB (j - p) + (l.length + 1 - 1) * 1365 := by
            have : (l.length - 1) * 1365 ≤ (l.length + 1 - 1) * 1365 := Nat.mul_le_mul_right _ (by omega)
            omega
          have := Nat.mul_le_mul_left W hsum
          rw [Nat.mul_add] at this
          omega
theorem z9_tot_full {tx : Nat → Nat} {v : Nat → Nat → Nat → Option Nat} {f : Nat → Nat → Nat → Nat} {W i j X : Nat} (E : Nat → Prop) (hij : i < j) (hX : 24576 * (2 * (j - i) - 2) ≤ X) : ∀ (l : List Nat), (∀ s, s ∈ l → ∀ p' q', i ≤ p' → p' ≤ q' → q' ≤ j → ¬ (p' = i ∧ q' = j) → z9_symC tx v s p' q' ≠ none → f s p' q' ≤ W * z9_uB (q' - p')) →
    (∀ s, s ∈ l → ∀ p, z9_symC tx v s p p ≠ none → E s) →
    (∀ k, k < l.length → (∀ m, m < l.length → m ≠ k → E (l.getD m 0)) → z9_symC tx v (l.getD k 0) i j ≠ none → f (l.getD k 0) i j ≤ W * X) →
    z9_evC tx v l i j ≠ none → 1 ≤ l.length ∧ z9_tot tx v f l i j ≤ W * (X + (l.length - 1) * 1365) := by
  intro l
  induction l with
  | nil =>
    intro _ _ _ h
    exfalso; apply h; show (if i = j then some 0 else none) = none; rw [if_neg (by omega)]
  | cons s l ih =>
    intro hf hE hc h
    obtain ⟨h1, h2, h3, _, _⟩ := z9_stp_spec h
    simp only [z9_tot, List.length_cons]
    refine ⟨by omega, ?_⟩
    by_cases ha0 : z9_stp tx v s l i j = 0
    · rw [ha0, Nat.add_zero] at h2 h3 ⊢
      have hEs := hE s (List.mem_cons_self) i h2
      obtain ⟨i1, i2⟩ := ih (fun s' hs' => hf s' (List.mem_cons_of_mem _ hs')) (fun s' hs' => hE s' (List.mem_cons_of_mem _ hs')) (by
        intro k hk hm hs
        have := hc (k + 1) (by simp; omega) ?_ (by simpa using hs)
        · simpa using this
        · intro m hml hmk
          cases m with
          | zero => simpa using hEs
          | succ m => simpa using hm m (by simpa using hml) (by omega)) h3
      have hs := hf s (List.mem_cons_self) i i (Nat.le_refl _) (Nat.le_refl _) (by omega) (by omega) h2
      rw [Nat.sub_self, show z9_uB 0 = 1365 from rfl] at hs
      have : W * (X + (l.length + 1 - 1) * 1365) = W * 1365 + W * (X + (l.length - 1) * 1365) := by
        rw [← Nat.mul_add]; congr 1
        have : l.length + 1 - 1 = (l.length - 1) + 1 := by omega
        rw [this, Nat.add_mul]; omega
      omega
    · have hsm := z9_tot_small (f := f) (W := W) l (i + z9_stp tx v s l i j) h1 (fun s' hs' p' q' a b c d => hf s' (List.mem_cons_of_mem _ hs') p' q' (by omega) b c (by omega) d) h3
      by_cases haj : i + z9_stp tx v s l i j = j
      · have i1 := hsm.1 haj
        rw [haj] at h2 h3 i1 ⊢
        have hall := z9_evC_all l h3
        have hs : f s i j ≤ W * X := by
          have := hc 0 (by simp) ?_ (by simpa using h2)
          · simpa using this
          · intro m hml hm0
            cases m with
            | zero => exact absurd rfl hm0
            | succ m =>
              have hm : m < l.length := by simpa using hml
              have hmem : l.getD m 0 ∈ l := by rw [List.getD_eq_getElem?_getD, List.getElem?_eq_getElem hm]; exact List.getElem_mem hm
              simpa using hE _ (List.mem_cons_of_mem _ hmem) j (hall _ hmem)
        rw [show l.length + 1 - 1 = l.length from rfl, Nat.mul_add]; omega
      · obtain ⟨i1, i2⟩ := hsm.2 (by omega)
        have hs := hf s (List.mem_cons_self) i (i + z9_stp tx v s l i j) (Nat.le_refl _) (by omega) h1 (by omega) h2
        rw [show i + z9_stp tx v s l i j - i = z9_stp tx v s l i j by omega] at hs
        have hU1 : z9_uB (z9_stp tx v s l i j) = 24576 * (2 * z9_stp tx v s l i j - 1) := by unfold z9_uB; rw [if_neg ha0]
        have hU2 : z9_uB (j - (i + z9_stp tx v s l i j)) = 24576 * (2 * (j - (i + z9_stp tx v s l i j)) - 1) := by unfold z9_uB; rw [if_neg (by omega)]
        have hsum : z9_uB (z9_stp tx v s l i j) + (z9_uB (j - (i + z9_stp tx v s l i j)) + (l.length - 1) * 1365) ≤ X + (l.length + 1 - 1) * 1365 := by
          have : (l.length - 1) * 1365 ≤ (l.length + 1 - 1) * 1365 := Nat.mul_le_mul_right _ (by omega)
          omega
        have := Nat.mul_le_mul_left W hsum
        rw [Nat.mul_add] at this
        omega
theorem z9_tot_empty {tx : Nat → Nat} {v : Nat → Nat → Nat → Option Nat} {f : Nat → Nat → Nat → Nat} {i X : Nat} : ∀ (l : List Nat), (∀ s, s ∈ l → z9_symC tx v s i i ≠ none → f s i i ≤ X) → z9_evC tx v l i i ≠ none → z9_tot tx v f l i i ≤ l.length * X := by
  intro l
  induction l with
  | nil => intro _ _; simp [z9_tot]
  | cons s l ih =>
    intro hf h
    obtain ⟨h1, h2, h3, _, _⟩ := z9_stp_spec h
    have ha : z9_stp tx v s l i i = 0 := by omega
    rw [ha, Nat.add_zero] at h2 h3
    simp only [z9_tot, List.length_cons, ha, Nat.add_zero]
    have := ih (fun s' hs' => hf s' (List.mem_cons_of_mem _ hs')) h3
    have := hf s (List.mem_cons_self) h2
    rw [Nat.add_mul]; omega
def z9_rS (g : z9_tA) (tx : Nat → Nat) (V : Nat → Nat → Nat → Int64) (s i j n : Nat) : Int64 := z9_rul 0 1 (fun a b => a + b) (fun a b => a * b) (z9_A_wt g) g tx V s i j n
def z9_rC (g : z9_tA) (tx : Nat → Nat) (v : Nat → Nat → Nat → Option Nat) (s i j n : Nat) : Option Nat := z9_rul none (some 0) z9_omin z9_oadd (fun r => some (z9_A_ct g r)) g tx v s i j n
def z9_VS (g : z9_tA) (tx : Nat → Nat) : Nat → Nat → Nat → Int64 := z9_cht 0 1 (fun a b => a + b) (fun a b => a * b) (z9_A_wt g) g tx 70
def z9_vC (g : z9_tA) (tx : Nat → Nat) : Nat → Nat → Nat → Option Nat := z9_cht none (some 0) z9_omin z9_oadd (fun r => some (z9_A_ct g r)) g tx 70
def z9_cnd (g : z9_tA) (tx : Nat → Nat) (v : Nat → Nat → Nat → Option Nat) (i j r : Nat) : Option Nat := z9_oadd (some (z9_A_ct g r)) (z9_evC tx v (z9_bl g r) i j)
theorem z9_rS_succ (g : z9_tA) (tx : Nat → Nat) (V : Nat → Nat → Nat → Int64) (s i j n : Nat) : z9_rS g tx V s i j (n + 1) = if z9_A_hd g n = s then z9_rS g tx V s i j n + z9_A_wt g n * z9_evS tx V (z9_bl g n) i j else z9_rS g tx V s i j n := rfl
theorem z9_rC_succ (g : z9_tA) (tx : Nat → Nat) (v : Nat → Nat → Nat → Option Nat) (s i j n : Nat) : z9_rC g tx v s i j (n + 1) = if z9_A_hd g n = s then z9_omin (z9_rC g tx v s i j n) (z9_cnd g tx v i j n) else z9_rC g tx v s i j n := rfl
theorem z9_s_zm (x : Int64) : (fun a b : Int64 => a * b) 0 x = 0 := Int64.zero_mul
theorem z9_s_mz (x : Int64) : (fun a b : Int64 => a * b) x 0 = 0 := Int64.mul_zero
def z9_gGood (g : z9_tA) (F : Nat) (rk : Nat → Nat) : Prop := z9_gOK g ∧ z9_closedF g F ∧ (∀ s, s < z9_A_nS g → rk s < z9_A_nS g) ∧ ∀ r k, r < z9_A_nR g → k < z9_A_ln g r → z9_lead g F r k → rk (z9_A_bd g r k) < rk (z9_A_hd g r)
theorem z9_VS_fix {g : z9_tA} {F : Nat} {rk : Nat → Nat} (h : z9_gGood g F rk) {tx : Nat → Nat} {s i j : Nat} (hs : s < z9_A_nS g) (hij : i ≤ j) (h8 : j - i ≤ 8) : z9_VS g tx s i j = z9_rS g tx (z9_VS g tx) s i j (z9_A_nR g) := by
  obtain ⟨h1, h2, h3, h4⟩ := h
  have := h3 s hs
  have h6 := h1.2.2.1
  exact z9_cht_rest z9_s_zm z9_s_mz rfl h1 h2 h3 h4 70 s i j hs hij (by omega)
theorem z9_vC_fix {g : z9_tA} {F : Nat} {rk : Nat → Nat} (h : z9_gGood g F rk) {tx : Nat → Nat} {s i j : Nat} (hs : s < z9_A_nS g) (hij : i ≤ j) (h8 : j - i ≤ 8) : z9_vC g tx s i j = z9_rC g tx (z9_vC g tx) s i j (z9_A_nR g) := by
  obtain ⟨h1, h2, h3, h4⟩ := h
  have := h3 s hs
  have h6 := h1.2.2.1
  exact z9_cht_rest z9_none_oadd z9_oadd_none rfl h1 h2 h3 h4 70 s i j hs hij (by omega)
theorem z9_VS_nemp {g : z9_tA} {F : Nat} {rk : Nat → Nat} (h : z9_gGood g F rk) {tx : Nat → Nat} {s p : Nat} (hs : s < z9_A_nS g) (he : ¬ z9_emp F s) : z9_VS g tx s p p = 0 := z9_cht_zero z9_s_zm z9_s_mz rfl h.1 h.2.1 70 s hs he
theorem z9_vC_nemp {g : z9_tA} {F : Nat} {rk : Nat → Nat} (h : z9_gGood g F rk) {tx : Nat → Nat} {s p : Nat} (hs : s < z9_A_nS g) (he : ¬ z9_emp F s) : z9_vC g tx s p p = none := z9_cht_zero z9_none_oadd z9_oadd_none rfl h.1 h.2.1 70 s hs he
theorem z9_fol_zero {f : Nat → Int64} {p : Nat} : ∀ n, (∀ q, q < n → f (p + q) = 0) → z9_fol (fun a b => a + b) 0 f p n = 0 := by
  intro n
  induction n with
  | zero => intro _; rfl
  | succ n ih =>
    intro h
    show z9_fol (fun a b => a + b) 0 f p n + f (p + n) = 0
    rw [ih (fun q hq => h q (by omega)), h n (by omega)]; rfl
theorem z9_oadd_eq_none {a b : Option Nat} (h : z9_oadd a b = none) : a = none ∨ b = none := by
  cases a with
  | none => exact Or.inl rfl
  | some x => cases b with
    | none => exact Or.inr rfl
    | some y => cases h
theorem z9_sym_z {tx : Nat → Nat} {V : Nat → Nat → Nat → Int64} {v : Nat → Nat → Nat → Option Nat} {s p q : Nat} (hz : s < 6 → v s p q = none → V s p q = 0) (h : z9_symC tx v s p q = none) : z9_symS tx V s p q = 0 := by
  unfold z9_symC z9_sym at h
  unfold z9_symS z9_sym
  by_cases h6 : s < 6
  · rw [if_pos h6] at h ⊢; exact hz h6 h
  · rw [if_neg h6] at h ⊢
    by_cases hq : q = p + 1 ∧ tx p = s
    · rw [if_pos hq] at h; cases h
    · rw [if_neg hq]
theorem z9_evS_z {tx : Nat → Nat} {V : Nat → Nat → Nat → Int64} {v : Nat → Nat → Nat → Option Nat} {j : Nat} : ∀ (l : List Nat) (p : Nat), (∀ s p' q, s < 6 → s ∈ l → p ≤ p' → p' ≤ q → q ≤ j → v s p' q = none → V s p' q = 0) → z9_evC tx v l p j = none → z9_evS tx V l p j = 0 := by
  intro l
  induction l with
  | nil =>
    intro p _ h
    have h' : (if p = j then some 0 else none) = none := h
    show (if p = j then (1 : Int64) else 0) = 0
    split at h'
    · cases h'
    · rename_i hh; rw [if_neg hh]
  | cons s l ih =>
    intro p hz h
    rw [z9_evC_cons, z9_fmn_none] at h
    rw [z9_evS_cons]
    refine z9_fol_zero _ (fun q hq => ?_)
    have ht := h q hq
    rcases z9_oadd_eq_none ht with h1 | h1
    · rw [z9_sym_z (fun h6 => hz s p (p + q) h6 (List.mem_cons_self) (Nat.le_refl _) (by omega) (by omega)) h1, Int64.zero_mul]
    · rw [ih (p + q) (fun s' p' q' a b c d e => hz s' p' q' a (List.mem_cons_of_mem _ b) (by omega) d e) h1, Int64.mul_zero]
theorem z9_rul_z {g : z9_tA} {tx : Nat → Nat} {V : Nat → Nat → Nat → Int64} {v : Nat → Nat → Nat → Option Nat} (hz : ∀ s p q, v s p q = none → V s p q = 0) {s i j : Nat} : ∀ n, z9_rC g tx v s i j n = none → z9_rS g tx V s i j n = 0 := by
  intro n
  induction n with
  | zero => intro _; rfl
  | succ n ih =>
    rw [z9_rC_succ, z9_rS_succ]
    by_cases hh : z9_A_hd g n = s
    · rw [if_pos hh, if_pos hh]
      intro h
      rw [z9_omin_eq_none] at h
      have : z9_evC tx v (z9_bl g n) i j = none := by
        have := h.2
        unfold z9_cnd at this
        cases he : z9_evC tx v (z9_bl g n) i j with
        | none => rfl
        | some y => rw [he] at this; cases this
      rw [ih h.1, z9_evS_z _ _ (fun s' p' q' _ _ _ _ _ => hz s' p' q') this, Int64.mul_zero]; rfl
    · rw [if_neg hh, if_neg hh]; exact ih
theorem z9_VS_z (g : z9_tA) (tx : Nat → Nat) (s i j : Nat) (h : z9_vC g tx s i j = none) : z9_VS g tx s i j = 0 := by
  have key : ∀ n s i j, z9_cht none (some 0) z9_omin z9_oadd (fun r => some (z9_A_ct g r)) g tx n s i j = none → z9_cht (0 : Int64) 1 (fun a b => a + b) (fun a b => a * b) (z9_A_wt g) g tx n s i j = 0 := by
    intro n
    induction n with
    | zero => intro s i j _; rfl
    | succ n ih => intro s i j h; exact z9_rul_z ih _ h
  exact key 70 s i j h
theorem z9_rC_mem {g : z9_tA} {tx : Nat → Nat} {v : Nat → Nat → Nat → Option Nat} {s i j x : Nat} : ∀ n, z9_rC g tx v s i j n = some x → ∃ r, r < n ∧ z9_A_hd g r = s ∧ z9_cnd g tx v i j r = some x := by
  intro n
  induction n with
  | zero => intro h; cases h
  | succ n ih =>
    rw [z9_rC_succ]
    by_cases hh : z9_A_hd g n = s
    · rw [if_pos hh]
      intro h
      unfold z9_omin at h
      by_cases ho : z9_olt (z9_cnd g tx v i j n) (z9_rC g tx v s i j n) = true
      · rw [if_pos ho] at h; exact ⟨n, by omega, hh, h⟩
      · rw [if_neg ho] at h
        obtain ⟨r, a, b, c⟩ := ih h
        exact ⟨r, by omega, b, c⟩
    · rw [if_neg hh]
      intro h
      obtain ⟨r, a, b, c⟩ := ih h
      exact ⟨r, by omega, b, c⟩
def z9_chl (tx : Nat → Nat) (v : Nat → Nat → Nat → Option Nat) : List Nat → Nat → Nat → List (Nat × Nat × Nat)
  | [], _, _ => []
  | s :: l, p, j => (if s < 6 then [(s, p, p + z9_stp tx v s l p j)] else []) ++ z9_chl tx v l (p + z9_stp tx v s l p j) j
theorem z9_chl_mem {tx : Nat → Nat} {v : Nat → Nat → Nat → Option Nat} {j : Nat} {c p' q' : Nat} : ∀ (l : List Nat) (p : Nat), p ≤ j → z9_evC tx v l p j ≠ none → (c, p', q') ∈ z9_chl tx v l p j → c < 6 ∧ c ∈ l ∧ p ≤ p' ∧ p' ≤ q' ∧ q' ≤ j ∧ v c p' q' ≠ none := by
  intro l
  induction l with
  | nil => intro p _ _ h; cases h
  | cons s l ih =>
    intro p hp h hm
    obtain ⟨h1, h2, h3, _, _⟩ := z9_stp_spec h
    simp only [z9_chl, List.mem_append] at hm
    rcases hm with hm | hm
    · by_cases h6 : s < 6
      · rw [if_pos h6] at hm
        simp only [List.mem_singleton, Prod.mk.injEq] at hm
        obtain ⟨rfl, rfl, rfl⟩ := hm
        refine ⟨h6, List.mem_cons_self, Nat.le_refl _, by omega, h1, ?_⟩
        unfold z9_symC z9_sym at h2; rw [if_pos h6] at h2; exact h2
      · rw [if_neg h6] at hm; cases hm
    · obtain ⟨a, b, c, d, e, f⟩ := ih _ h1 h3 hm
      exact ⟨a, List.mem_cons_of_mem _ b, by omega, d, e, f⟩
theorem z9_chl_full {tx : Nat → Nat} {v : Nat → Nat → Nat → Option Nat} {i j : Nat} (E Good : Nat → Prop) (hij : i ≤ j) : ∀ (l : List Nat),
    (∀ s, s ∈ l → ∀ p, i ≤ p → p ≤ j → z9_symC tx v s p p ≠ none → E s) →
    (∀ k, k < l.length → (∀ m, m < l.length → m ≠ k → E (l.getD m 0)) → Good (l.getD k 0)) →
    z9_evC tx v l i j ≠ none → ∀ c, (c, i, j) ∈ z9_chl tx v l i j → Good c := by
  intro l
  induction l with
  | nil => intro _ _ _ c h; cases h
  | cons s l ih =>
    intro hE hc h c hm
    obtain ⟨h1, h2, h3, _, _⟩ := z9_stp_spec h
    have tailE : i + z9_stp tx v s l i j = j → ∀ m, m < l.length → E (l.getD m 0) := by
      intro haj m hm
      have hmem : l.getD m 0 ∈ l := by rw [List.getD_eq_getElem?_getD, List.getElem?_eq_getElem hm]; exact List.getElem_mem hm
      rw [haj] at h3
      exact hE _ (List.mem_cons_of_mem _ hmem) j hij (Nat.le_refl _) (z9_evC_all l h3 _ hmem)
    simp only [z9_chl, List.mem_append] at hm
    rcases hm with hm | hm
    · by_cases h6 : s < 6
      · rw [if_pos h6] at hm
        simp only [List.mem_singleton, Prod.mk.injEq] at hm
        obtain ⟨rfl, _, hj⟩ := hm
        have := hc 0 (by simp) ?_
        · simpa using this
        · intro m hml hm0
          cases m with
          | zero => exact absurd rfl hm0
          | succ m => simpa using tailE hj.symm m (by simpa using hml)
      · rw [if_neg h6] at hm; cases hm
    · by_cases ha0 : z9_stp tx v s l i j = 0
      · rw [ha0, Nat.add_zero] at h2 h3 hm
        have hEs := hE s (List.mem_cons_self) i (Nat.le_refl _) hij h2
        refine ih (fun s' hs' => hE s' (List.mem_cons_of_mem _ hs')) ?_ h3 c hm
        intro k hk hm'
        have := hc (k + 1) (by simp; omega) ?_
        · simpa using this
        · intro m hml hmk
          cases m with
          | zero => simpa using hEs
          | succ m => simpa using hm' m (by simpa using hml) (by omega)
      · have := (z9_chl_mem l _ h1 h3 hm).2.2.1
        omega
theorem z9_chl_low {g : z9_tA} {F : Nat} {rk : Nat → Nat} (h : z9_gGood g F rk) {tx : Nat → Nat} {r i j : Nat} (hr : r < z9_A_nR g) (hij : i ≤ j) (he : z9_evC tx (z9_vC g tx) (z9_bl g r) i j ≠ none) {c p q : Nat} (hm : (c, p, q) ∈ z9_chl tx (z9_vC g tx) (z9_bl g r) i j) : c < z9_A_nS g ∧ i ≤ p ∧ p ≤ q ∧ q ≤ j ∧ z9_vC g tx c p q ≠ none ∧ 7 * (q - p) + rk c < 7 * (j - i) + rk (z9_A_hd g r) ∧ (p = i → q = j → rk c < rk (z9_A_hd g r)) := by
  obtain ⟨h1, h2, h3, h4, h5, h6⟩ := z9_chl_mem (z9_bl g r) i hij he hm
  obtain ⟨m, _, hm1, rfl⟩ := z9_tl_mem g r _ _ h2
  have hg := h.1
  have hbd := (hg.2.2.2 r hr).2.2.2 m (by omega)
  have hc : z9_A_bd g r m < z9_A_nS g := by omega
  have hrk := h.2.2.1 _ hc
  have h6' := hg.2.2.1
  have hfull : p = i → q = j → rk (z9_A_bd g r m) < rk (z9_A_hd g r) := by
    intro hp hq
    subst hp; subst hq
    refine z9_chl_full (z9_emp F) (fun s => s < 6 → rk s < rk (z9_A_hd g r)) hij (z9_bl g r) ?_ ?_ he _ hm h1
    · intro s hs p' _ _ hn
      apply Classical.byContradiction
      intro hne
      obtain ⟨m', _, hm', rfl⟩ := z9_tl_mem g r _ _ hs
      have hb' := (hg.2.2.2 r hr).2.2.2 m' (by omega)
      apply hn
      unfold z9_symC z9_sym
      by_cases hs6 : z9_A_bd g r m' < 6
      · rw [if_pos hs6]; exact z9_vC_nemp h (by omega) hne
      · rw [if_neg hs6, if_neg (by omega)]
    · intro k hk hm' hs6
      have hlen : (z9_bl g r).length = z9_A_ln g r := z9_tl_len g r _ _
      rw [hlen] at hk hm'
      have hget : ∀ m, m < z9_A_ln g r → (z9_bl g r).getD m 0 = z9_A_bd g r m := by
        intro m hm; have := z9_tl_get g r (z9_A_ln g r) 0 m hm; rw [Nat.zero_add] at this; exact this
      rw [hget k hk] at hs6 ⊢
      refine h.2.2.2 r k hr hk ⟨hs6, z9_eC_some _ ?_⟩
      intro l hl hlk
      have := hm' l hl hlk
      rw [hget l hl] at this; exact this
  refine ⟨hc, h3, h4, h5, h6, ?_, hfull⟩
  by_cases hpq : p = i ∧ q = j
  · have := hfull hpq.1 hpq.2
    obtain ⟨rfl, rfl⟩ := hpq; omega
  · omega
theorem z9_bl_get {g : z9_tA} {r m : Nat} (hm : m < z9_A_ln g r) : (z9_bl g r).getD m 0 = z9_A_bd g r m := by
  have := z9_tl_get g r (z9_A_ln g r) 0 m hm; rw [Nat.zero_add] at this; exact this
theorem z9_bl_len (g : z9_tA) (r : Nat) : (z9_bl g r).length = z9_A_ln g r := z9_tl_len g r _ _
theorem z9_sym_emp {g : z9_tA} {F : Nat} {rk : Nat → Nat} (h : z9_gGood g F rk) {tx : Nat → Nat} {v : Nat → Nat → Nat → Option Nat} (hE : ∀ s, s < z9_A_nS g → ¬ z9_emp F s → ∀ p, v s p p = none) {r : Nat} (hr : r < z9_A_nR g) : ∀ s, s ∈ z9_bl g r → ∀ p, z9_symC tx v s p p ≠ none → z9_emp F s := by
  intro s hs p hn
  apply Classical.byContradiction
  intro hne
  obtain ⟨m', _, hm', rfl⟩ := z9_tl_mem g r _ _ hs
  have hb' := (h.1.2.2.2 r hr).2.2.2 m' (by omega)
  apply hn
  unfold z9_symC z9_sym
  by_cases hs6 : z9_A_bd g r m' < 6
  · rw [if_pos hs6]; exact hE _ (by omega) hne p
  · rw [if_neg hs6, if_neg (by omega)]
theorem z9_tot_bound {g : z9_tA} {F : Nat} {rk : Nat → Nat} (h : z9_gGood g F rk) {tx : Nat → Nat} {v : Nat → Nat → Nat → Option Nat} (hE : ∀ s, s < z9_A_nS g → ¬ z9_emp F s → ∀ p, v s p p = none) {r i j W : Nat} (hr : r < z9_A_nR g) (hij : i ≤ j) {f : Nat → Nat → Nat → Nat} (hf0 : ∀ s p q, 6 ≤ s → f s p q = 0)
    (hf : ∀ c p q, c < z9_A_nS g → i ≤ p → p ≤ q → q ≤ j → 7 * (q - p) + rk c < 7 * (j - i) + rk (z9_A_hd g r) → v c p q ≠ none → f c p q ≤ W * z9_rB (q - p) (rk c))
    (he : z9_evC tx v (z9_bl g r) i j ≠ none) : W + z9_tot tx v f (z9_bl g r) i j ≤ W * z9_rB (j - i) (rk (z9_A_hd g r)) := by
  obtain ⟨g0, g1, g2, g3⟩ := h.1
  obtain ⟨b1, b2, b3, b4⟩ := g3 r hr
  have lead' : ∀ k, k < z9_A_ln g r → (∀ m, m < z9_A_ln g r → m ≠ k → z9_emp F ((z9_bl g r).getD m 0)) → z9_A_bd g r k < 6 → rk (z9_A_bd g r k) < rk (z9_A_hd g r) := by
    intro k hk hm hs6
    refine h.2.2.2 r k hr hk ⟨hs6, z9_eC_some _ ?_⟩
    intro l hl hlk
    have := hm l hl hlk
    rw [z9_bl_get hl] at this; exact this
  have vn : ∀ s p q, s < 6 → z9_symC tx v s p q ≠ none → v s p q ≠ none := by
    intro s p q h6 hn; unfold z9_symC z9_sym at hn; rw [if_pos h6] at hn; exact hn
  by_cases hlt : i < j
  · have hX : 24576 * (2 * (j - i) - 2) ≤ 24576 * (2 * (j - i) - 2) + 4096 * rk (z9_A_hd g r) := by omega
    have key := z9_tot_full (f := f) (W := W) (z9_emp F) hlt hX (z9_bl g r) ?_ (z9_sym_emp h hE hr) ?_ he
    · rw [z9_bl_len] at key
      have hrB : z9_rB (j - i) (rk (z9_A_hd g r)) = 24576 * (2 * (j - i) - 2) + 4096 * (rk (z9_A_hd g r) + 1) := by unfold z9_rB; rw [if_neg (by omega)]
      have h3 : (z9_A_ln g r - 1) * 1365 ≤ 4095 := by
        have : (z9_A_ln g r - 1) * 1365 ≤ 3 * 1365 := Nat.mul_le_mul_right _ (by omega)
        omega
      have h4 : 1 + (24576 * (2 * (j - i) - 2) + 4096 * rk (z9_A_hd g r) + (z9_A_ln g r - 1) * 1365) ≤ z9_rB (j - i) (rk (z9_A_hd g r)) := by rw [hrB]; omega
      have := Nat.mul_le_mul_left W h4
      rw [Nat.mul_add, Nat.mul_one] at this
      omega
    · intro s hs p' q' a b c d e
      by_cases h6 : s < 6
      · obtain ⟨m, _, hm1, rfl⟩ := z9_tl_mem g r _ _ hs
        have := b4 m (by omega)
        have hc : z9_A_bd g r m < z9_A_nS g := by omega
        have hrk := h.2.2.1 _ hc
        have h1 := hf _ p' q' hc a b c (by omega) (vn _ _ _ h6 e)
        exact Nat.le_trans h1 (Nat.mul_le_mul_left W (z9_rB_le (by omega)))
      · rw [hf0 s p' q' (by omega)]; exact Nat.zero_le _
    · intro k hk hm hs
      rw [z9_bl_len] at hk hm
      rw [z9_bl_get hk] at hs ⊢
      by_cases h6 : z9_A_bd g r k < 6
      · have hl := lead' k hk hm h6
        have := b4 k hk
        have hc : z9_A_bd g r k < z9_A_nS g := by omega
        have h1 := hf _ i j hc (Nat.le_refl _) hij (Nat.le_refl _) (by omega) (vn _ _ _ h6 hs)
        refine Nat.le_trans h1 (Nat.mul_le_mul_left W ?_)
        unfold z9_rB; rw [if_neg (by omega)]; omega
      · rw [hf0 _ i j (by omega)]; exact Nat.zero_le _
  · have hij' : i = j := by omega
    subst hij'
    have hall := z9_evC_all (z9_bl g r) he
    have hlow : ∀ s, s ∈ z9_bl g r → s < 6 → s < z9_A_nS g ∧ rk s < rk (z9_A_hd g r) := by
      intro s hs h6
      obtain ⟨m, _, hm1, rfl⟩ := z9_tl_mem g r _ _ hs
      have := b4 m (by omega)
      refine ⟨by omega, lead' m (by omega) ?_ h6⟩
      intro m' hm' _
      have hmem : (z9_bl g r).getD m' 0 ∈ z9_bl g r := by
        rw [List.getD_eq_getElem?_getD, List.getElem?_eq_getElem (by rw [z9_bl_len]; exact hm')]; exact List.getElem_mem _
      exact z9_sym_emp h hE hr _ hmem i (hall _ hmem)
    rw [Nat.sub_self]
    have hr0 : z9_rB 0 (rk (z9_A_hd g r)) = z9_eB (rk (z9_A_hd g r)) := by unfold z9_rB; rw [if_pos rfl]
    rw [hr0]
    cases hk : rk (z9_A_hd g r) with
    | zero =>
      have := z9_tot_empty (f := f) (X := 0) (z9_bl g r) (fun s hs hn => by
        by_cases h6 : s < 6
        · have := (hlow s hs h6).2; omega
        · rw [hf0 s i i (by omega)]; exact Nat.le_refl _) he
      show W + _ ≤ W * 1
      omega
    | succ n =>
      have := z9_tot_empty (f := f) (X := W * z9_eB n) (z9_bl g r) (fun s hs hn => by
        by_cases h6 : s < 6
        · obtain ⟨a, b⟩ := hlow s hs h6
          have h1 := hf s i i a (Nat.le_refl _) (Nat.le_refl _) (Nat.le_refl _) (by omega) (vn _ _ _ h6 hn)
          rw [Nat.sub_self] at h1
          refine Nat.le_trans h1 (Nat.mul_le_mul_left W ?_)
          have mono : ∀ a b, a ≤ b → z9_eB a ≤ z9_eB b := by
            intro a b
            induction b with
            | zero => intro h; have : a = 0 := by omega
                      subst this; exact Nat.le_refl _
            | succ b ih =>
              intro h
              by_cases hh : a = b + 1
              · subst hh; exact Nat.le_refl _
              · have := ih (by omega)
                show z9_eB a ≤ 1 + 4 * z9_eB b
                omega
          have : z9_rB 0 (rk s) = z9_eB (rk s) := by unfold z9_rB; rw [if_pos rfl]
          rw [this]; exact mono _ _ (by omega)
        · rw [hf0 s i i (by omega)]; exact Nat.zero_le _) he
      rw [z9_bl_len] at this
      have h4 : z9_A_ln g r * (W * z9_eB n) ≤ 4 * (W * z9_eB n) := Nat.mul_le_mul_right _ b2
      show W + _ ≤ W * (1 + 4 * z9_eB n)
      have e : W * (1 + 4 * z9_eB n) = W + 4 * (W * z9_eB n) := by rw [Nat.mul_add, Nat.mul_one, ← Nat.mul_assoc, Nat.mul_comm W 4, Nat.mul_assoc]
      omega
theorem z9_v_cnd {g : z9_tA} {F : Nat} {rk : Nat → Nat} (h : z9_gGood g F rk) {tx : Nat → Nat} : ∀ n, (∀ s i j x, s < z9_A_nS g → i ≤ j → j - i ≤ 8 → 7 * (j - i) + rk s < n → z9_vC g tx s i j = some x → x ≤ 99 * z9_rB (j - i) (rk s)) ∧ (∀ r i j x, r < z9_A_nR g → i ≤ j → j - i ≤ 8 → 7 * (j - i) + rk (z9_A_hd g r) < n → z9_cnd g tx (z9_vC g tx) i j r = some x → x ≤ 99 * z9_rB (j - i) (rk (z9_A_hd g r))) := by
  intro n
  induction n with
  | zero => exact ⟨fun s i j x _ _ _ h => by omega, fun r i j x _ _ _ h => by omega⟩
  | succ n ih =>
    have c2 : ∀ r i j x, r < z9_A_nR g → i ≤ j → j - i ≤ 8 → 7 * (j - i) + rk (z9_A_hd g r) < n + 1 → z9_cnd g tx (z9_vC g tx) i j r = some x → x ≤ 99 * z9_rB (j - i) (rk (z9_A_hd g r)) := by
      intro r i j x hr hij h8 hn hx
      unfold z9_cnd at hx
      cases he : z9_evC tx (z9_vC g tx) (z9_bl g r) i j with
      | none => rw [he] at hx; cases hx
      | some y =>
        rw [he] at hx
        simp only [z9_oadd, Option.some.injEq] at hx
        have h99 := (h.1.2.2.2 r hr).2.2.1
        have ht := z9_tot_cost (z9_bl g r) i y he
        have := z9_tot_bound h (fun s hs he p => z9_vC_nemp h hs he) hr hij (W := 99) (f := fun s p q => (z9_symC tx (z9_vC g tx) s p q).getD 0) ?_ ?_ (by rw [he]; simp)
        · rw [ht] at this; omega
        · intro s p q h6
          unfold z9_symC z9_sym
          rw [if_neg (by omega)]; split <;> rfl
        · intro c p q hc h1 h2 h3 h4 h5
          have h6 := h.1.2.2.1
          show (z9_symC tx (z9_vC g tx) c p q).getD 0 ≤ _
          unfold z9_symC z9_sym
          rw [if_pos (by omega)]
          cases hv : z9_vC g tx c p q with
          | none => exact absurd hv h5
          | some z => exact ih.1 c p q z hc h2 (by omega) (by omega) hv
    refine ⟨?_, c2⟩
    intro s i j x hs hij h8 hn hx
    rw [z9_vC_fix h hs hij h8] at hx
    obtain ⟨r, hr, hh, hc⟩ := z9_rC_mem _ hx
    have := c2 r i j x hr hij h8 (by rw [hh]; exact hn) hc
    rw [hh] at this; exact this
def z9_cB : Nat := 40000000
theorem z9_rB_cB {L rk : Nat} (hL : L ≤ 8) (hk : rk ≤ 5) : 99 * z9_rB L rk ≤ z9_cB := by
  have h1 := z9_rB_le (L := L) hk
  have h2 : z9_uB L ≤ 368640 := by unfold z9_uB; split <;> omega
  unfold z9_cB; omega
theorem z9_v_le {g : z9_tA} {F : Nat} {rk : Nat → Nat} (h : z9_gGood g F rk) {tx : Nat → Nat} {s i j : Nat} (hs : s < z9_A_nS g) (hij : i ≤ j) (h8 : j - i ≤ 8) : z9_ole z9_cB (z9_vC g tx s i j) := by
  intro x hx
  have h6 := h.1.2.2.1
  have := h.2.2.1 s hs
  exact Nat.le_trans ((z9_v_cnd h _).1 s i j x hs hij h8 (Nat.lt_succ_self _) hx) (z9_rB_cB h8 (by omega))
theorem z9_cnd_le {g : z9_tA} {F : Nat} {rk : Nat → Nat} (h : z9_gGood g F rk) {tx : Nat → Nat} {r i j : Nat} (hr : r < z9_A_nR g) (hij : i ≤ j) (h8 : j - i ≤ 8) : z9_ole z9_cB (z9_cnd g tx (z9_vC g tx) i j r) := by
  intro x hx
  have h6 := h.1.2.2.1
  have := h.2.2.1 _ (h.1.2.2.2 r hr).1
  exact Nat.le_trans ((z9_v_cnd h _).2 r i j x hr hij h8 (Nat.lt_succ_self _) hx) (z9_rB_cB h8 (by omega))
def z9_rl (g : z9_tA) (tx : Nat → Nat) (v : Nat → Nat → Nat → Option Nat) (s i j : Nat) : Nat → Nat
  | 0 => 0
  | n + 1 => if z9_A_hd g n = s ∧ z9_olt (z9_cnd g tx v i j n) (z9_rC g tx v s i j n) = true then n else z9_rl g tx v s i j n
theorem z9_rC_le {g : z9_tA} {tx : Nat → Nat} {v : Nat → Nat → Nat → Option Nat} {s i j : Nat} : ∀ n b x y, b < n → z9_A_hd g b = s → z9_cnd g tx v i j b = some x → z9_rC g tx v s i j n = some y → y ≤ x := by
  intro n
  induction n with
  | zero => intro b x y hb; omega
  | succ n ih =>
    intro b x y hb hh hx hy
    rw [z9_rC_succ] at hy
    by_cases hbn : b = n
    · subst hbn
      rw [if_pos hh, hx] at hy
      unfold z9_omin at hy
      cases hc : z9_rC g tx v s i j b with
      | none => rw [hc] at hy; simp [z9_olt] at hy; omega
      | some c =>
        rw [hc] at hy; simp only [z9_olt, decide_eq_true_eq] at hy
        by_cases hlt : x < c
        · rw [if_pos hlt] at hy; simp at hy; omega
        · rw [if_neg hlt] at hy; simp at hy; omega
    · by_cases hn : z9_A_hd g n = s
      · rw [if_pos hn] at hy
        unfold z9_omin at hy
        cases hc : z9_rC g tx v s i j n with
        | none =>
          rw [hc] at hy
          exfalso
          have : ∀ m, b < m → z9_rC g tx v s i j m ≠ none := by
            intro m
            induction m with
            | zero => intro h; omega
            | succ m ihm =>
              intro h
              rw [z9_rC_succ]
              by_cases hbm : b = m
              · subst hbm; rw [if_pos hh, hx]; intro q; rw [z9_omin_eq_none] at q; cases q.2
              · split
                · intro q; rw [z9_omin_eq_none] at q; exact ihm (by omega) q.1
                · exact ihm (by omega)
          exact this n (by omega) hc
        | some c =>
          have := ih b x c (by omega) hh hx hc
          rw [hc] at hy
          cases hd : z9_cnd g tx v i j n with
          | none => rw [hd] at hy; simp [z9_olt] at hy; omega
          | some d =>
            rw [hd] at hy; simp only [z9_olt, decide_eq_true_eq] at hy
            by_cases hlt : d < c
            · rw [if_pos hlt] at hy; simp at hy; omega
            · rw [if_neg hlt] at hy; simp at hy; omega
      · rw [if_neg hn] at hy; exact ih b x y (by omega) hh hx hy
theorem z9_rC_none {g : z9_tA} {tx : Nat → Nat} {v : Nat → Nat → Nat → Option Nat} {s i j : Nat} : ∀ n, z9_rC g tx v s i j n = none → ∀ b, b < n → z9_A_hd g b = s → z9_cnd g tx v i j b = none := by
  intro n
  induction n with
  | zero => intro _ b hb; omega
  | succ n ih =>
    intro h b hb hh
    rw [z9_rC_succ] at h
    by_cases hn : z9_A_hd g n = s
    · rw [if_pos hn, z9_omin_eq_none] at h
      by_cases hbn : b = n
      · subst hbn; exact h.2
      · exact ih h.1 b (by omega) hh
    · rw [if_neg hn] at h
      by_cases hbn : b = n
      · subst hbn; exact absurd hh hn
      · exact ih h b (by omega) hh
theorem z9_rl_spec {g : z9_tA} {tx : Nat → Nat} {v : Nat → Nat → Nat → Option Nat} {s i j : Nat} : ∀ n, z9_rC g tx v s i j n ≠ none → z9_rl g tx v s i j n < n ∧ z9_A_hd g (z9_rl g tx v s i j n) = s ∧ z9_cnd g tx v i j (z9_rl g tx v s i j n) = z9_rC g tx v s i j n ∧ ∀ b, b < z9_rl g tx v s i j n → z9_A_hd g b = s → z9_cnd g tx v i j b ≠ z9_rC g tx v s i j n := by
  intro n
  induction n with
  | zero => intro h; exact absurd rfl h
  | succ n ih =>
    intro h
    simp only [z9_rl]
    by_cases hn : z9_A_hd g n = s
    · by_cases ho : z9_olt (z9_cnd g tx v i j n) (z9_rC g tx v s i j n) = true
      · rw [if_pos ⟨hn, ho⟩]
        have e2 : z9_rC g tx v s i j (n + 1) = z9_cnd g tx v i j n := by rw [z9_rC_succ, if_pos hn]; unfold z9_omin; rw [if_pos ho]
        refine ⟨by omega, hn, e2.symm, ?_⟩
        intro b hb hh hf
        rw [e2] at hf
        rw [← hf] at ho
        cases hb1 : z9_cnd g tx v i j b with
        | none => rw [hb1] at ho; simp [z9_olt] at ho
        | some x =>
          cases hc : z9_rC g tx v s i j n with
          | none => have := z9_rC_none n hc b hb hh; rw [this] at hb1; cases hb1
          | some c =>
            have := z9_rC_le n b x c hb hh hb1 hc
            rw [hb1, hc] at ho; simp [z9_olt] at ho; omega
      · rw [if_neg (fun q => ho q.2)]
        have e2 : z9_rC g tx v s i j (n + 1) = z9_rC g tx v s i j n := by rw [z9_rC_succ, if_pos hn]; unfold z9_omin; rw [if_neg ho]
        rw [e2] at h ⊢
        obtain ⟨h1, h2, h3, h4⟩ := ih h
        exact ⟨by omega, h2, h3, h4⟩
    · rw [if_neg (fun q => hn q.1)]
      have e2 : z9_rC g tx v s i j (n + 1) = z9_rC g tx v s i j n := by rw [z9_rC_succ, if_neg hn]
      rw [e2] at h ⊢
      obtain ⟨h1, h2, h3, h4⟩ := ih h
      exact ⟨by omega, h2, h3, h4⟩
def z9_ruleOf (g : z9_tA) (tx : Nat → Nat) (s i j : Nat) : Nat := z9_rl g tx (z9_vC g tx) s i j (z9_A_nR g)
def z9_kids (g : z9_tA) (tx : Nat → Nat) (s i j : Nat) : List (Nat × Nat × Nat) := z9_chl tx (z9_vC g tx) (z9_bl g (z9_ruleOf g tx s i j)) i j
def z9_ndF (g : z9_tA) (tx : Nat → Nat) : Nat → Nat → Nat → Nat → List (Nat × Nat × Nat)
  | 0 => fun _ _ _ => []
  | n + 1 => fun s i j => (z9_ruleOf g tx s i j, i, j) :: (z9_kids g tx s i j).flatMap (fun c => z9_ndF g tx n c.1 c.2.1 c.2.2)
def z9_nd (g : z9_tA) (tx : Nat → Nat) : Nat → Nat → Nat → List (Nat × Nat × Nat) := z9_ndF g tx 70
theorem z9_ruleOf_spec {g : z9_tA} {F : Nat} {rk : Nat → Nat} (h : z9_gGood g F rk) {tx : Nat → Nat} {s i j : Nat} (hs : s < z9_A_nS g) (hij : i ≤ j) (h8 : j - i ≤ 8) (hv : z9_vC g tx s i j ≠ none) : z9_ruleOf g tx s i j < z9_A_nR g ∧ z9_A_hd g (z9_ruleOf g tx s i j) = s ∧ z9_cnd g tx (z9_vC g tx) i j (z9_ruleOf g tx s i j) = z9_vC g tx s i j ∧ z9_evC tx (z9_vC g tx) (z9_bl g (z9_ruleOf g tx s i j)) i j ≠ none ∧ ∀ b, b < z9_ruleOf g tx s i j → z9_A_hd g b = s → z9_cnd g tx (z9_vC g tx) i j b ≠ z9_vC g tx s i j := by
  have hfix := z9_vC_fix h hs hij h8 (tx := tx)
  have hv' : z9_rC g tx (z9_vC g tx) s i j (z9_A_nR g) ≠ none := by rw [← hfix]; exact hv
  obtain ⟨h1, h2, h3, h4⟩ := z9_rl_spec _ hv'
  rw [← hfix] at h3 h4
  refine ⟨h1, h2, h3, ?_, h4⟩
  intro q
  apply hv
  rw [← h3]
  show z9_cnd g tx (z9_vC g tx) i j (z9_ruleOf g tx s i j) = none
  unfold z9_cnd; rw [q]; rfl
theorem z9_kids_low {g : z9_tA} {F : Nat} {rk : Nat → Nat} (h : z9_gGood g F rk) {tx : Nat → Nat} {s i j : Nat} (hs : s < z9_A_nS g) (hij : i ≤ j) (h8 : j - i ≤ 8) (hv : z9_vC g tx s i j ≠ none) {c p q : Nat} (hm : (c, p, q) ∈ z9_kids g tx s i j) : c < z9_A_nS g ∧ i ≤ p ∧ p ≤ q ∧ q ≤ j ∧ z9_vC g tx c p q ≠ none ∧ 7 * (q - p) + rk c < 7 * (j - i) + rk s := by
  obtain ⟨h1, h2, h3, h4, _⟩ := z9_ruleOf_spec h hs hij h8 hv
  obtain ⟨a, b, c1, d, e, f, _⟩ := z9_chl_low h h1 hij h4 hm
  rw [h2] at f
  exact ⟨a, b, c1, d, e, f⟩
theorem z9_flatMap_congr' {α β : Type} {l : List α} {f f' : α → List β} (h : ∀ c, c ∈ l → f c = f' c) : l.flatMap f = l.flatMap f' := by
  induction l with
  | nil => rfl
  | cons c l ih => rw [List.flatMap_cons, List.flatMap_cons, h c (List.mem_cons_self), ih (fun c hc => h c (List.mem_cons_of_mem _ hc))]
theorem z9_ndF_rest {g : z9_tA} {F : Nat} {rk : Nat → Nat} (h : z9_gGood g F rk) {tx : Nat → Nat} : ∀ n s i j, s < z9_A_nS g → i ≤ j → j - i ≤ 8 → z9_vC g tx s i j ≠ none → 7 * (j - i) + rk s < n → z9_ndF g tx n s i j = z9_ndF g tx (n + 1) s i j := by
  intro n
  induction n with
  | zero => intro s i j _ _ _ _ h; omega
  | succ n ih =>
    intro s i j hs hij h8 hv hn
    show _ :: (z9_kids g tx s i j).flatMap _ = _ :: (z9_kids g tx s i j).flatMap _
    congr 1
    refine z9_flatMap_congr' (fun c hc => ?_)
    obtain ⟨a, b, c1, d, e, f⟩ := z9_kids_low h hs hij h8 hv (c := c.1) (p := c.2.1) (q := c.2.2) hc
    exact ih _ _ _ a c1 (by omega) e (by omega)
theorem z9_nd_fix {g : z9_tA} {F : Nat} {rk : Nat → Nat} (h : z9_gGood g F rk) {tx : Nat → Nat} {s i j : Nat} (hs : s < z9_A_nS g) (hij : i ≤ j) (h8 : j - i ≤ 8) (hv : z9_vC g tx s i j ≠ none) : z9_nd g tx s i j = (z9_ruleOf g tx s i j, i, j) :: (z9_kids g tx s i j).flatMap (fun c => z9_nd g tx c.1 c.2.1 c.2.2) := by
  have := h.2.2.1 s hs
  have h6 := h.1.2.2.1
  exact z9_ndF_rest h 70 s i j hs hij h8 hv (by omega)
def z9_sz (g : z9_tA) (tx : Nat → Nat) (s p q : Nat) : Nat := (z9_nd g tx s p q).length
def z9_szs (g : z9_tA) (tx : Nat → Nat) (s p q : Nat) : Nat := if s < 6 then z9_sz g tx s p q else 0
theorem z9_chl_tot (g : z9_tA) (tx : Nat → Nat) (v : Nat → Nat → Nat → Option Nat) (j : Nat) : ∀ (l : List Nat) (p : Nat), ((z9_chl tx v l p j).flatMap (fun c => z9_nd g tx c.1 c.2.1 c.2.2)).length = z9_tot tx v (z9_szs g tx) l p j := by
  intro l
  induction l with
  | nil => intro p; rfl
  | cons s l ih =>
    intro p
    simp only [z9_chl, z9_tot, List.flatMap_append, List.length_append, ih]
    congr 1
    unfold z9_szs
    by_cases h6 : s < 6
    · rw [if_pos h6, if_pos h6]; simp [z9_sz]
    · rw [if_neg h6, if_neg h6]; rfl
theorem z9_sz_fix {g : z9_tA} {F : Nat} {rk : Nat → Nat} (h : z9_gGood g F rk) {tx : Nat → Nat} {s i j : Nat} (hs : s < z9_A_nS g) (hij : i ≤ j) (h8 : j - i ≤ 8) (hv : z9_vC g tx s i j ≠ none) : z9_sz g tx s i j = 1 + z9_tot tx (z9_vC g tx) (z9_szs g tx) (z9_bl g (z9_ruleOf g tx s i j)) i j := by
  show (z9_nd g tx s i j).length = _
  rw [z9_nd_fix h hs hij h8 hv, List.length_cons]
  rw [show (z9_kids g tx s i j).flatMap _ = (z9_chl tx (z9_vC g tx) (z9_bl g (z9_ruleOf g tx s i j)) i j).flatMap (fun c => z9_nd g tx c.1 c.2.1 c.2.2) from rfl, z9_chl_tot]; omega
theorem z9_sz_le {g : z9_tA} {F : Nat} {rk : Nat → Nat} (h : z9_gGood g F rk) {tx : Nat → Nat} : ∀ n s i j, s < z9_A_nS g → i ≤ j → j - i ≤ 8 → z9_vC g tx s i j ≠ none → 7 * (j - i) + rk s < n → z9_sz g tx s i j ≤ z9_rB (j - i) (rk s) := by
  intro n
  induction n with
  | zero => intro s i j _ _ _ _ h; omega
  | succ n ih =>
    intro s i j hs hij h8 hv hn
    obtain ⟨h1, h2, h3, h4, _⟩ := z9_ruleOf_spec h hs hij h8 hv
    have := z9_tot_bound h (fun s hs he p => z9_vC_nemp h hs he) h1 hij (W := 1) (f := z9_szs g tx) (fun s p q h6 => by unfold z9_szs; rw [if_neg (by omega)]) ?_ h4
    · rw [h2, Nat.one_mul] at this
      rw [z9_sz_fix h hs hij h8 hv]; exact this
    · intro c p q hc a b d e f
      have h6 := h.1.2.2.1
      unfold z9_szs; rw [if_pos (by omega), Nat.one_mul]
      rw [h2] at e
      exact ih c p q hc b (by omega) f (by omega)
theorem z9_sz_max {g : z9_tA} {F : Nat} {rk : Nat → Nat} (h : z9_gGood g F rk) {tx : Nat → Nat} {s i j : Nat} (hs : s < z9_A_nS g) (hij : i ≤ j) (h8 : j - i ≤ 8) (hv : z9_vC g tx s i j ≠ none) : z9_sz g tx s i j ≤ 368640 := by
  have h6 := h.1.2.2.1
  have := h.2.2.1 s hs
  refine Nat.le_trans (z9_sz_le h _ s i j hs hij h8 hv (Nat.lt_succ_self _)) (Nat.le_trans (z9_rB_le (by omega)) ?_)
  unfold z9_uB; split <;> omega
