def z9_uPl (g : z9_tA) (E : Nat → Int64) (X : Nat → Nat → Int64) (r t : Nat) (acc : Int64) : Nat → Int64
  | 0 => acc
  | k + 1 => if z9_A_bd g r k < 6 then z9_uPl g E X r t acc k + (z9_A_wt g r * z9_eS g E r k (z9_A_ln g r)) * X (z9_A_bd g r k) t else z9_uPl g E X r t acc k
def z9_uR (g : z9_tA) (E : Nat → Int64) (X : Nat → Nat → Int64) (s t : Nat) : Nat → Int64
  | 0 => if s = t then 1 else 0
  | r + 1 => if z9_A_hd g r = s then z9_uPl g E X r t (z9_uR g E X s t r) (z9_A_ln g r) else z9_uR g E X s t r
def z9_uI (g : z9_tA) (E : Nat → Int64) : Nat → Nat → Nat → Int64
  | 0 => fun _ _ => 0
  | n + 1 => fun s t => z9_uR g E (z9_uI g E n) s t (z9_A_nR g)
def z9_uS (g : z9_tA) (E : Nat → Int64) : Nat → Nat → Int64 := z9_uI g E 10
theorem z9_eS_zero {g : z9_tA} {F : Nat} {E : Nat → Int64} {r a : Nat} (hE : ∀ s, s < z9_A_nS g → ¬ z9_emp F s → E s = 0) (hg : z9_gOK g) (hr : r < z9_A_nR g) : ∀ n, n ≤ z9_A_ln g r → (∃ l, l < n ∧ l ≠ a ∧ ¬ z9_emp F (z9_A_bd g r l)) → z9_eS g E r a n = 0 := by
  intro n
  induction n with
  | zero => intro _ ⟨l, hl, _⟩; omega
  | succ n ih =>
    intro hn ⟨l, hl, hla, hle⟩
    simp only [z9_eS]
    by_cases hna : n = a
    · rw [if_pos hna]; exact ih (by omega) ⟨l, by omega, hla, hle⟩
    · rw [if_neg hna]
      by_cases h6 : z9_A_bd g r n < 6
      · rw [if_pos h6]
        by_cases hln : l = n
        · subst hln
          have := (hg.2.2.2 r hr).2.2.2 l (by omega)
          rw [hE _ (by omega) hle, Int64.mul_zero]
        · rw [ih (by omega) ⟨l, by omega, hla, hle⟩, Int64.zero_mul]
      · rw [if_neg h6]
theorem z9_eS_lead {g : z9_tA} {F : Nat} {E : Nat → Int64} {r k : Nat} (hE : ∀ s, s < z9_A_nS g → ¬ z9_emp F s → E s = 0) (hg : z9_gOK g) (hr : r < z9_A_nR g) (h6 : z9_A_bd g r k < 6) (hl : ¬ z9_lead g F r k) : z9_eS g E r k (z9_A_ln g r) = 0 := by
  apply Classical.byContradiction
  intro hne
  apply hl
  refine ⟨h6, z9_eC_some _ ?_⟩
  intro l hl hlk
  apply Classical.byContradiction
  intro hemp
  exact hne (z9_eS_zero hE hg hr _ (Nat.le_refl _) ⟨l, hl, hlk, hemp⟩)
theorem z9_uPl_dep {g : z9_tA} {F : Nat} {E : Nat → Int64} {X X' : Nat → Nat → Int64} {r t : Nat} {acc : Int64} (hE : ∀ s, s < z9_A_nS g → ¬ z9_emp F s → E s = 0) (hg : z9_gOK g) (hr : r < z9_A_nR g) : ∀ k, k ≤ z9_A_ln g r → (∀ k, k < z9_A_ln g r → z9_lead g F r k → X (z9_A_bd g r k) t = X' (z9_A_bd g r k) t) → z9_uPl g E X r t acc k = z9_uPl g E X' r t acc k := by
  intro k
  induction k with
  | zero => intro _ _; rfl
  | succ k ih =>
    intro hk h
    simp only [z9_uPl]
    rw [ih (by omega) h]
    by_cases h6 : z9_A_bd g r k < 6
    · rw [if_pos h6, if_pos h6]
      by_cases hl : z9_lead g F r k
      · rw [h k (by omega) hl]
      · rw [z9_eS_lead hE hg hr h6 hl, Int64.mul_zero, Int64.zero_mul, Int64.zero_mul]
    · rw [if_neg h6, if_neg h6]
theorem z9_uR_dep {g : z9_tA} {F : Nat} {E : Nat → Int64} {X X' : Nat → Nat → Int64} {s t : Nat} (hE : ∀ s, s < z9_A_nS g → ¬ z9_emp F s → E s = 0) (hg : z9_gOK g) : ∀ n, n ≤ z9_A_nR g → (∀ r k, r < z9_A_nR g → z9_A_hd g r = s → k < z9_A_ln g r → z9_lead g F r k → X (z9_A_bd g r k) t = X' (z9_A_bd g r k) t) → z9_uR g E X s t n = z9_uR g E X' s t n := by
  intro n
  induction n with
  | zero => intro _ _; rfl
  | succ n ih =>
    intro hn h
    simp only [z9_uR]
    rw [ih (by omega) h]
    by_cases hh : z9_A_hd g n = s
    · rw [if_pos hh, if_pos hh]
      exact z9_uPl_dep hE hg (by omega) _ (Nat.le_refl _) (fun k hk hl => h n k (by omega) hh hk hl)
    · rw [if_neg hh, if_neg hh]
theorem z9_uS_fix {g : z9_tA} {F : Nat} {rk : Nat → Nat} (h : z9_gGood g F rk) {E : Nat → Int64} (hE : ∀ s, s < z9_A_nS g → ¬ z9_emp F s → E s = 0) {s : Nat} (hs : s < z9_A_nS g) (t : Nat) : z9_uS g E s t = z9_uR g E (z9_uS g E) s t (z9_A_nR g) := by
  have key : ∀ n s, s < z9_A_nS g → rk s < n → z9_uI g E n s t = z9_uI g E (n + 1) s t := by
    intro n
    induction n with
    | zero => intro s _ hh; omega
    | succ n ih =>
      intro s hs hh
      show z9_uR g E (z9_uI g E n) s t _ = z9_uR g E (z9_uI g E (n + 1)) s t _
      refine z9_uR_dep hE h.1 _ (Nat.le_refl _) (fun r k hr hhd hk hl => ?_)
      have := h.2.2.2 r k hr hk hl
      rw [hhd] at this
      have hb := (h.1.2.2.2 r hr).2.2.2 k hk
      have := hl.1
      exact ih _ (by omega) (by omega)
  have := h.2.2.1 s hs
  have h6 := h.1.2.2.1
  exact key 10 s hs (by omega)
theorem z9_c_emptyProduct {c : tC} {b : tG} {g : z9_tA} (hg : z9_gOK g) (hb : z9_gIs b g) {E : Nat → Int64} (he : ∀ s, s < z9_A_nS g → C_sums c (z9_cel s 0 0) = E s) {r a : Nat} (ha : a < 4) (hr : r < z9_A_nR g) :
    F_Ut_emptyProduct c b (z9_i32 r) (z9_i32 a) = some (z9_eS g E r a (z9_A_ln g r)) := by
  have hg' := hg
  obtain ⟨h0, h1, h2, h3⟩ := hg
  obtain ⟨b1, b2, b3, b4⟩ := h3 r hr
  obtain ⟨c1, c2, c3, c4, c5⟩ := hb.2.2 r hr
  have key : F_Ut_emptyProduct_L6 c b (z9_i32 r) (z9_i32 a) rn_fu 1 (z9_i32 0) = some (z9_eS g E r a (z9_A_ln g r)) := by
    refine z9_forU (L := fun n (x : Int64) k => F_Ut_emptyProduct_L6 c b (z9_i32 r) (z9_i32 a) n x k) (Q := fun o => o = some (z9_eS g E r a (z9_A_ln g r))) (P := fun k x => x = z9_eS g E r a k) (K := z9_A_ln g r) 0 1 (by omega) (by omega) rfl ?_ ?_
    · intro f x hx
      simp only [F_Ut_emptyProduct_L6]
      rw [z9_aG_i (by omega) (by decide), c2]
      simp only [Option.bind_some, Int32.le_refl, if_true, hx]
    · intro f x k hk hx
      left
      have hbd := b4 k hk
      refine ⟨z9_eS g E r a (k + 1), ?_, rfl⟩
      simp only [F_Ut_emptyProduct_L6]
      rw [z9_aG_i (by omega) (by decide), c2]
      simp only [Option.bind_some, z9_i32_le (show z9_A_ln g r < 2147483648 by omega) (show k < 2147483648 by omega)]
      rw [if_neg (by omega), z9_c_symbol hg' hb hr hk]
      simp only [Option.bind_some, z9_i32_inj (show k < 2147483648 by omega) (show a < 2147483648 by omega), z9_c_isNonterminal (show z9_A_bd g r k < 2147483648 by omega), z9_b01_0, hx, z9_eS]
      by_cases hka : k = a
      · simp only [hka, if_true, Option.bind_some]
      · simp only [hka, if_false]
        by_cases h6 : z9_A_bd g r k < 6
        · simp only [h6, not_true, if_false, if_true]
          unfold F_Ch_emptySum
          rw [show (0 : Int32) = z9_i32 0 from rfl, z9_c_cell (by omega) (by omega) (by omega)]
          simp only [Option.bind_some]
          rw [z9_aG_i (z9_cel_lt h6 (Nat.le_refl _) (by omega)) (by decide), he _ (by omega)]; rfl
        · simp only [h6, not_false_eq_true, if_true, if_false, Option.bind_some, Int64.mul_zero]
  unfold F_Ut_emptyProduct
  rw [show F_Ut_emptyProduct_L6 c b (z9_i32 r) (z9_i32 a) rn_fu 1 0 = _ from key]; rfl
theorem z9_c_unitPlace {u : tU} {y s : Nat} (hy : y < 6) (hs : s < 6) (hne : y ≠ s) (st : Int64) (z1 z2 : Int32) :
    ∃ u', F_Ut_addRule_L59 z1 (z9_i32 s) z2 (z9_i32 y) st rn_fu u 0 = some u' ∧ (∀ t, t < 6 → u' (s * 6 + t) = u (s * 6 + t) + st * u (y * 6 + t)) ∧ ∀ s' t, s' < 6 → s' ≠ s → t < 6 → u' (s' * 6 + t) = u (s' * 6 + t) := by
  refine z9_forU (L := fun n (x : tU) k => F_Ut_addRule_L59 z1 (z9_i32 s) z2 (z9_i32 y) st n x k) (Q := fun o => ∃ u', o = some u' ∧ (∀ t, t < 6 → u' (s * 6 + t) = u (s * 6 + t) + st * u (y * 6 + t)) ∧ ∀ s' t, s' < 6 → s' ≠ s → t < 6 → u' (s' * 6 + t) = u (s' * 6 + t)) (P := fun k x => (∀ t, t < k → x (s * 6 + t) = u (s * 6 + t) + st * u (y * 6 + t)) ∧ (∀ t, k ≤ t → t < 6 → x (s * 6 + t) = u (s * 6 + t)) ∧ ∀ s' t, s' < 6 → s' ≠ s → t < 6 → x (s' * 6 + t) = u (s' * 6 + t)) (K := 6) 0 u (by omega) (by omega) ⟨fun t ht => by omega, fun t _ _ => rfl, fun s' t _ _ _ => rfl⟩ ?_ ?_
  · intro n x hP
    refine ⟨x, ?_, hP.1, hP.2.2⟩
    simp only [F_Ut_addRule_L59, show (6 : Int32) ≤ z9_i32 6 from by decide, if_true]
  · intro n x k hk hP
    obtain ⟨p1, p2, p3⟩ := hP
    left
    refine ⟨fun q => if q = s * 6 + k then x (s * 6 + k) + st * x (y * 6 + k) else x q, ?_, ?_, ?_, ?_⟩
    · simp only [F_Ut_addRule_L59, F_Ut_sum, show (6 : Int32) = z9_i32 6 from rfl, z9_i32_le (show 6 < 2147483648 by decide) (show k < 2147483648 by omega), z9_i32_mul, z9_i32_add]
      rw [if_neg (by omega), z9_aG_i (by omega) (by decide), z9_aG_i (by omega) (by decide)]
      simp only [Option.bind_some]
      rw [z9_aS_i (by omega) (by decide)]; rfl
    · intro t ht
      by_cases htk : t = k
      · subst htk; simp only [if_true]
        rw [p2 t (Nat.le_refl _) hk, p3 y t hy hne hk]
      · show (if s * 6 + t = s * 6 + k then _ else _) = _
        rw [if_neg (by omega)]; exact p1 t (by omega)
    · intro t h1 h2
      show (if s * 6 + t = s * 6 + k then _ else _) = _
      rw [if_neg (by omega)]; exact p2 t (by omega) h2
    · intro s' t h1 h2 h3
      show (if s' * 6 + t = s * 6 + k then _ else _) = _
      rw [if_neg (by omega)]; exact p3 s' t h1 h2 h3
theorem z9_c_unitZero {u : tU} {y s : Nat} (hy : y < 6) (hs : s < 6) (z1 z2 : Int32) :
    ∃ u', F_Ut_addRule_L59 z1 (z9_i32 s) z2 (z9_i32 y) 0 rn_fu u 0 = some u' ∧ ∀ s' t, s' < 6 → t < 6 → u' (s' * 6 + t) = u (s' * 6 + t) := by
  refine z9_forU (L := fun n (x : tU) k => F_Ut_addRule_L59 z1 (z9_i32 s) z2 (z9_i32 y) 0 n x k) (Q := fun o => ∃ u', o = some u' ∧ ∀ s' t, s' < 6 → t < 6 → u' (s' * 6 + t) = u (s' * 6 + t)) (P := fun _ x => ∀ s' t, s' < 6 → t < 6 → x (s' * 6 + t) = u (s' * 6 + t)) (K := 6) 0 u (by omega) (by omega) (fun s' t _ _ => rfl) ?_ ?_
  · intro n x hP
    refine ⟨x, ?_, hP⟩
    simp only [F_Ut_addRule_L59, show (6 : Int32) ≤ z9_i32 6 from by decide, if_true]
  · intro n x k hk hP
    left
    refine ⟨fun q => if q = s * 6 + k then x (s * 6 + k) + 0 * x (y * 6 + k) else x q, ?_, ?_⟩
    · simp only [F_Ut_addRule_L59, F_Ut_sum, show (6 : Int32) = z9_i32 6 from rfl, z9_i32_le (show 6 < 2147483648 by decide) (show k < 2147483648 by omega), z9_i32_mul, z9_i32_add]
      rw [if_neg (by omega), z9_aG_i (by omega) (by decide), z9_aG_i (by omega) (by decide)]
      simp only [Option.bind_some]
      rw [z9_aS_i (by omega) (by decide)]; rfl
    · intro s' t h1 h2
      show (if s' * 6 + t = s * 6 + k then _ else _) = _
      by_cases hh : s' * 6 + t = s * 6 + k
      · rw [if_pos hh, Int64.zero_mul, Int64.add_zero, ← hh]; exact hP s' t h1 h2
      · rw [if_neg hh]; exact hP s' t h1 h2
theorem z9_c_units {c : tC} {b : tG} {g : z9_tA} {F : Nat} {rk od : Nat → Nat} (h : z9_gGood g F rk) (hb : z9_gIs b g) (ho : z9_ordF g rk od (G_order b)) {E : Nat → Int64} (hE : ∀ s, s < z9_A_nS g → ¬ z9_emp F s → E s = 0) (he : ∀ s, s < z9_A_nS g → C_sums c (z9_cel s 0 0) = E s) (u : tU) :
    ∃ u', F_Ut_fill c u b = some u' ∧ ∀ s t, s < z9_A_nS g → t < 6 → u' (s * 6 + t) = z9_uS g E s t := by
  obtain ⟨g0, g1, g2, g3⟩ := h.1
  obtain ⟨o1, o2, o3, o4⟩ := ho
  have main : ∃ u', F_Ut_fill_L2 c b rn_fu u 0 = some u' ∧ ∀ s t, s < z9_A_nS g → t < 6 → u' (s * 6 + t) = z9_uS g E s t := by
    refine z9_forU (L := fun n (x : tU) k => F_Ut_fill_L2 c b n x k) (Q := fun o => ∃ u', o = some u' ∧ ∀ s t, s < z9_A_nS g → t < 6 → u' (s * 6 + t) = z9_uS g E s t) (P := fun k x => ∀ q t, q < k → q < z9_A_nS g → t < 6 → x (od q * 6 + t) = z9_uS g E (od q) t) (K := z9_A_nS g) 0 u (by omega) (by omega) (fun q t hq => by omega) ?_ ?_
    · intro n x hP
      refine ⟨x, ?_, ?_⟩
      · simp only [F_Ut_fill_L2, hb.2.1, Int32.le_refl, if_true]
      · intro s t hs ht
        obtain ⟨q, hq, rfl⟩ := o2 s hs
        exact hP q t hq hq ht
    · intro n x k hk hP
      left
      have hsk := (o1 k hk).2
      have ini : ∃ u1, F_Ut_fill_L21 (z9_i32 k) (z9_i32 (od k)) rn_fu x 0 = some u1 ∧ (∀ t, t < 6 → u1 (od k * 6 + t) = if od k = t then 1 else 0) ∧ ∀ s' t, s' < 6 → s' ≠ od k → t < 6 → u1 (s' * 6 + t) = x (s' * 6 + t) := by
        refine z9_forU (L := fun n (x : tU) q => F_Ut_fill_L21 (z9_i32 k) (z9_i32 (od k)) n x q) (Q := fun o => ∃ u1, o = some u1 ∧ (∀ t, t < 6 → u1 (od k * 6 + t) = if od k = t then 1 else 0) ∧ ∀ s' t, s' < 6 → s' ≠ od k → t < 6 → u1 (s' * 6 + t) = x (s' * 6 + t)) (P := fun q x1 => (∀ t, t < q → x1 (od k * 6 + t) = if od k = t then 1 else 0) ∧ ∀ s' t, s' < 6 → s' ≠ od k → t < 6 → x1 (s' * 6 + t) = x (s' * 6 + t)) (K := 6) 0 x (by omega) (by omega) ⟨fun t ht => by omega, fun s' t _ _ _ => rfl⟩ ?_ ?_
        · intro n x1 hP1
          refine ⟨x1, ?_, hP1⟩
          simp only [F_Ut_fill_L21, show (6 : Int32) ≤ z9_i32 6 from by decide, if_true]
        · intro n x1 q hq hP1
          obtain ⟨p1, p2⟩ := hP1
          left
          refine ⟨fun z => if z = od k * 6 + q then (if od k = q then 1 else 0) else x1 z, ?_, ?_, ?_⟩
          · simp only [F_Ut_fill_L21, show (6 : Int32) = z9_i32 6 from rfl, z9_i32_le (show 6 < 2147483648 by decide) (show q < 2147483648 by omega), z9_i32_mul, z9_i32_add, z9_i32_inj (show od k < 2147483648 by omega) (show q < 2147483648 by omega)]
            rw [if_neg (by omega)]
            by_cases hkq : od k = q
            · simp only [hkq, not_true, if_false, Option.bind_some, if_true]
              rw [z9_aS_i (by omega) (by decide)]; rfl
            · simp only [hkq, not_false_eq_true, if_true, Option.bind_some, if_false]
              rw [z9_aS_i (by omega) (by decide)]; rfl
          · intro t ht
            by_cases htq : t = q
            · subst htq; simp only [if_true]
            · show (if od k * 6 + t = od k * 6 + q then _ else _) = _
              rw [if_neg (by omega)]; exact p1 t (by omega)
          · intro s' t h1 h2 h3
            show (if s' * 6 + t = od k * 6 + q then _ else _) = _
            rw [if_neg (by omega)]; exact p2 s' t h1 h2 h3
      obtain ⟨u1, i1, i2, i3⟩ := ini
     
      have led : ∀ (x2 : tU), (∀ s' t, s' < 6 → s' ≠ od k → t < 6 → x2 (s' * 6 + t) = x (s' * 6 + t)) → ∀ y t, y < z9_A_nS g → rk y < rk (od k) → t < 6 → y ≠ od k ∧ x2 (y * 6 + t) = z9_uS g E y t := by
        intro x2 hx2 y t hy hrk ht
        obtain ⟨q, hq, rfl⟩ := o2 y hy
        have hqk : q < k := by
          apply Classical.byContradiction
          intro hge
          by_cases he : q = k
          · subst he; omega
          · have := o4 k q (by omega) hq; omega
        have hne : od q ≠ od k := fun e => by have := o3 q k hq hk e; omega
        exact ⟨hne, by rw [hx2 _ t (by omega) hne ht]; exact hP q t hqk hq ht⟩
      have rul' : ∃ u2, F_Ut_fill_L62 c b (z9_i32 k) (z9_i32 (od k)) rn_fu u1 0 = some u2 ∧ (∀ t, t < 6 → u2 (od k * 6 + t) = z9_uR g E (z9_uS g E) (od k) t (z9_A_nR g)) ∧ ∀ s' t, s' < 6 → s' ≠ od k → t < 6 → u2 (s' * 6 + t) = x (s' * 6 + t) := by
        refine z9_forU (L := fun n (x : tU) r => F_Ut_fill_L62 c b (z9_i32 k) (z9_i32 (od k)) n x r) (Q := fun o => ∃ u2, o = some u2 ∧ (∀ t, t < 6 → u2 (od k * 6 + t) = z9_uR g E (z9_uS g E) (od k) t (z9_A_nR g)) ∧ ∀ s' t, s' < 6 → s' ≠ od k → t < 6 → u2 (s' * 6 + t) = x (s' * 6 + t)) (P := fun r x1 => (∀ t, t < 6 → x1 (od k * 6 + t) = z9_uR g E (z9_uS g E) (od k) t r) ∧ ∀ s' t, s' < 6 → s' ≠ od k → t < 6 → x1 (s' * 6 + t) = x (s' * 6 + t)) (K := z9_A_nR g) 0 u1 (by omega) (by omega) ⟨i2, i3⟩ ?_ ?_
        · intro n x1 hP1
          refine ⟨x1, ?_, hP1⟩
          simp only [F_Ut_fill_L62, hb.1, Int32.le_refl, if_true]
        · intro n x1 r hr hP1
          obtain ⟨p1, p2⟩ := hP1
          left
          obtain ⟨b1, b2, b3, b4⟩ := g3 r hr
          obtain ⟨d1, d2, d3, d4, d5⟩ := hb.2.2 r hr
          simp only [F_Ut_fill_L62, hb.1, z9_i32_le (show z9_A_nR g < 2147483648 by omega) (show r < 2147483648 by omega)]
          rw [if_neg (by omega), z9_aG_i (by omega) (by decide), d1]
          simp only [Option.bind_some, z9_i32_inj (show z9_A_hd g r < 2147483648 by omega) (show od k < 2147483648 by omega)]
          by_cases hh : z9_A_hd g r = od k
          · have pla : ∃ x2, F_Ut_addRule_L11 c b (z9_i32 r) (z9_i32 (od k)) rn_fu x1 0 = some x2 ∧ (∀ t, t < 6 → x2 (od k * 6 + t) = z9_uPl g E (z9_uS g E) r t (z9_uR g E (z9_uS g E) (od k) t r) (z9_A_ln g r)) ∧ ∀ s' t, s' < 6 → s' ≠ od k → t < 6 → x2 (s' * 6 + t) = x (s' * 6 + t) := by
              refine z9_forU (L := fun n (x : tU) q => F_Ut_addRule_L11 c b (z9_i32 r) (z9_i32 (od k)) n x q) (Q := fun o => ∃ x2, o = some x2 ∧ (∀ t, t < 6 → x2 (od k * 6 + t) = z9_uPl g E (z9_uS g E) r t (z9_uR g E (z9_uS g E) (od k) t r) (z9_A_ln g r)) ∧ ∀ s' t, s' < 6 → s' ≠ od k → t < 6 → x2 (s' * 6 + t) = x (s' * 6 + t)) (P := fun q x2 => (∀ t, t < 6 → x2 (od k * 6 + t) = z9_uPl g E (z9_uS g E) r t (z9_uR g E (z9_uS g E) (od k) t r) q) ∧ ∀ s' t, s' < 6 → s' ≠ od k → t < 6 → x2 (s' * 6 + t) = x (s' * 6 + t)) (K := z9_A_ln g r) 0 x1 (by omega) (by omega) ⟨p1, p2⟩ ?_ ?_
              · intro n x2 hP2
                refine ⟨x2, ?_, hP2⟩
                simp only [F_Ut_addRule_L11]
                rw [z9_aG_i (by omega) (by decide), d2]
                simp only [Option.bind_some, Int32.le_refl, if_true]
              · intro n x2 q hq hP2
                obtain ⟨q1, q2⟩ := hP2
                left
                have hbd := b4 q hq
                simp only [F_Ut_addRule_L11]
                rw [z9_aG_i (by omega) (by decide), d2]
                simp only [Option.bind_some, z9_i32_le (show z9_A_ln g r < 2147483648 by omega) (show q < 2147483648 by omega)]
                rw [if_neg (by omega), z9_c_symbol h.1 hb hr hq]
                simp only [Option.bind_some, z9_c_isNonterminal (show z9_A_bd g r q < 2147483648 by omega), z9_b01_0]
                by_cases h6 : z9_A_bd g r q < 6
                · simp only [h6, not_true, if_false]
                  rw [z9_aG_i (by omega) (by decide), d4]
                  simp only [Option.bind_some]
                  rw [z9_c_emptyProduct h.1 hb he (by omega) hr]
                  simp only [Option.bind_some]
                  by_cases hl : z9_lead g F r q
                  · have hrk := h.2.2.2 r q hr hq hl
                    rw [hh] at hrk
                    have hne : z9_A_bd g r q ≠ od k := (led x2 q2 _ 0 (by omega) hrk (by omega)).1
                    obtain ⟨u', y1, y2, y3⟩ := z9_c_unitPlace (u := x2) h6 (show od k < 6 by omega) hne (z9_A_wt g r * z9_eS g E r q (z9_A_ln g r)) (z9_i32 r) (z9_i32 q)
                    rw [y1]
                    refine ⟨u', rfl, ?_, ?_⟩
                    · intro t ht
                      rw [y2 t ht, q1 t ht, (led x2 q2 _ t (by omega) hrk ht).2]
                      simp only [z9_uPl, h6, if_true]
                    · intro s' t z1 z2 z3
                      rw [y3 s' t z1 z2 z3]; exact q2 s' t z1 z2 z3
                  · rw [z9_eS_lead hE h.1 hr h6 hl, Int64.mul_zero]
                    obtain ⟨u', y1, y2⟩ := z9_c_unitZero (u := x2) h6 (show od k < 6 by omega) (z9_i32 r) (z9_i32 q)
                    rw [y1]
                    refine ⟨u', rfl, ?_, ?_⟩
                    · intro t ht
                      rw [y2 _ t (by omega) ht, q1 t ht]
                      simp only [z9_uPl, h6, if_true]
                      rw [z9_eS_lead hE h.1 hr h6 hl, Int64.mul_zero, Int64.zero_mul, Int64.add_zero]
                    · intro s' t z1 z2 z3
                      rw [y2 s' t z1 z3]; exact q2 s' t z1 z2 z3
                · simp only [h6, not_false_eq_true, if_true, Option.bind_some]
                  refine ⟨x2, rfl, ?_, q2⟩
                  intro t ht
                  simp only [z9_uPl, h6, if_false]; exact q1 t ht
            obtain ⟨x2, y1, y2, y3⟩ := pla
            simp only [hh, not_true, if_false]
            have : F_Ut_addRule c x1 b (z9_i32 r) = some x2 := by
              unfold F_Ut_addRule
              rw [z9_aG_i (by omega) (by decide), d1, hh]
              simp only [Option.bind_some]
              rw [y1]; rfl
            rw [this]
            refine ⟨x2, rfl, ?_, y3⟩
            intro t ht
            rw [y2 t ht]; simp only [z9_uR, hh, if_true]
          · simp only [hh, not_false_eq_true, if_true, Option.bind_some]
            refine ⟨x1, rfl, ?_, p2⟩
            intro t ht
            simp only [z9_uR, hh, if_false]; exact p1 t ht
      obtain ⟨u2, j1, j2, j3⟩ := rul'
      refine ⟨u2, ?_, ?_⟩
      · simp only [F_Ut_fill_L2, hb.2.1, z9_i32_le (show z9_A_nS g < 2147483648 by omega) (show k < 2147483648 by omega)]
        rw [if_neg (by omega), z9_aG_i (by omega) (by decide), (o1 k hk).1]
        simp only [Option.bind_some]
        rw [i1]
        simp only [Option.bind_some]
        rw [j1]; rfl
      · intro q t hq hqn ht
        by_cases hqk : q = k
        · subst hqk; rw [j2 t ht, ← z9_uS_fix h hE hsk]
        · have hne : od q ≠ od k := fun e => hqk (o3 q k hqn hk e)
          have := (o1 q hqn).2
          rw [j3 _ t (by omega) hne ht]; exact hP q t (by omega) hqn ht
  obtain ⟨u', x1, x2⟩ := main
  refine ⟨u', ?_, x2⟩
  unfold F_Ut_fill; rw [x1]; rfl
theorem z9_m_unitSum {m : tM} {g : z9_tA} (hg : z9_gOK g) (hm : z9_mIs m g) {E : Nat → Int64} (he : ∀ s, s < z9_A_nS g → M_emptySum m s = E s) {s t : Nat} (hs : s < z9_A_nS g) (ht : t < z9_A_nS g) (z : Int32) :
    F_Md_fillUnits_L66 m z (z9_i32 s) (z9_i32 t) rn_fu (if s = t then 1 else 0) 0 = some (z9_uR g E (fun y t => M_units m (6 * y + t)) s t (z9_A_nR g)) := by
  have hg' := hg
  obtain ⟨g0, g1, g2, g3⟩ := hg
  refine z9_forU (L := fun n (x : Int64) r => F_Md_fillUnits_L66 m z (z9_i32 s) (z9_i32 t) n x r) (Q := fun o => o = some (z9_uR g E (fun y t => M_units m (6 * y + t)) s t (z9_A_nR g))) (P := fun r x => x = z9_uR g E (fun y t => M_units m (6 * y + t)) s t r) (K := z9_A_nR g) 0 (if s = t then 1 else 0) (by omega) (by omega) rfl ?_ ?_
  · intro n x hx
    simp only [F_Md_fillUnits_L66, hm.1, Int32.le_refl, if_true, hx]
  · intro n x r hr hx
    left
    obtain ⟨b1, b2, b3, b4⟩ := g3 r hr
    obtain ⟨d1, d2, d3, d4, d5⟩ := hm.2.2 r hr
    have inner : F_Md_fillUnits_L78 m z (z9_i32 s) (z9_i32 t) (z9_i32 r) rn_fu x 0 = some (z9_uR g E (fun y t => M_units m (6 * y + t)) s t (r + 1)) := by
      simp only [z9_uR]
      by_cases hh : z9_A_hd g r = s
      · rw [if_pos hh]
        refine z9_forU (L := fun n (x : Int64) k => F_Md_fillUnits_L78 m z (z9_i32 s) (z9_i32 t) (z9_i32 r) n x k) (Q := fun o => o = some (z9_uPl g E (fun y t => M_units m (6 * y + t)) r t (z9_uR g E (fun y t => M_units m (6 * y + t)) s t r) (z9_A_ln g r))) (P := fun k y => y = z9_uPl g E (fun y t => M_units m (6 * y + t)) r t (z9_uR g E (fun y t => M_units m (6 * y + t)) s t r) k) (K := z9_A_ln g r) 0 x (by omega) (by omega) hx ?_ ?_
        · intro n y hy
          simp only [F_Md_fillUnits_L78]
          rw [z9_aG_i (by omega) (by decide), d2]
          simp only [Option.bind_some, Int32.le_refl, if_true, hy]
        · intro n y k hk hy
          left
          have hbd := b4 k hk
          simp only [F_Md_fillUnits_L78]
          rw [z9_aG_i (by omega) (by decide), d2]
          simp only [Option.bind_some, z9_i32_le (show z9_A_ln g r < 2147483648 by omega) (show k < 2147483648 by omega)]
          rw [if_neg (by omega), z9_aG_i (by omega) (by decide), d1]
          simp only [Option.bind_some, hh, not_true, if_false, show (4 : Int32) = z9_i32 4 from rfl, z9_i32_mul, z9_i32_add]
          rw [z9_aG_i (by omega) (by decide), d3 k hk]
          simp only [Option.bind_some, z9_m_isLetter (show z9_A_bd g r k < 2147483648 by omega), z9_b01_0]
          refine ⟨_, ?_, rfl⟩
          simp only [z9_uPl]
          by_cases h6 : z9_A_bd g r k < 6
          · simp only [show ¬ 6 ≤ z9_A_bd g r k by omega, not_false_eq_true, if_true, h6]
            rw [z9_aG_i (by omega) (by decide), d4]
            simp only [Option.bind_some]
            rw [z9_m_emptyBody hg' hm he (z9_hx_place (show k < 4 by omega)) hr]
            simp only [Option.bind_some, show (6 : Int32) = z9_i32 6 from rfl, z9_i32_mul, z9_i32_add]
            rw [z9_aG_i (by omega) (by decide)]
            simp only [Option.bind_some, hy]
          · simp only [show 6 ≤ z9_A_bd g r k by omega, not_true, if_false, h6, Option.bind_some, hy]
      · rw [if_neg hh]
        have : ∀ n, F_Md_fillUnits_L78 m z (z9_i32 s) (z9_i32 t) (z9_i32 r) (n + 1) x 0 = some x := by
          intro n
          simp only [F_Md_fillUnits_L78]
          rw [z9_aG_i (by omega) (by decide), d2, z9_aG_i (by omega) (by decide), d1]
          simp only [Option.bind_some, z9_i32_inj (show z9_A_hd g r < 2147483648 by omega) (show s < 2147483648 by omega), hh, not_false_eq_true, if_true]
          split <;> rfl
        rw [show F_Md_fillUnits_L78 m z (z9_i32 s) (z9_i32 t) (z9_i32 r) rn_fu x 0 = some x from this 999999, hx]
    refine ⟨_, ?_, rfl⟩
    simp only [F_Md_fillUnits_L66, hm.1, z9_i32_le (show z9_A_nR g < 2147483648 by omega) (show r < 2147483648 by omega)]
    rw [if_neg (by omega), inner]; rfl
theorem z9_m_units {m : tM} {g : z9_tA} {F : Nat} {rk : Nat → Nat} (h : z9_gGood g F rk) (hm : z9_mIs m g) {E : Nat → Int64} (hE : ∀ s, s < z9_A_nS g → ¬ z9_emp F s → E s = 0) (he : ∀ s, s < z9_A_nS g → M_emptySum m s = E s) :
    ∃ m', F_Md_fillUnits m = some m' ∧ z9_bG m' = z9_bG m ∧ z9_bE m' = z9_bE m ∧ z9_mFrT m m' ∧ ∀ s t, s < z9_A_nS g → t < z9_A_nS g → M_units m' (6 * s + t) = z9_uS g E s t := by
  obtain ⟨g0, g1, g2, g3⟩ := h.1
  have hE' : ∀ (st : tM), z9_bE st = z9_bE m → ∀ s, s < z9_A_nS g → M_emptySum st s = E s := by
    intro st hst s hs
    simp only [z9_bE, Prod.mk.injEq] at hst
    rw [hst.1]; exact he s hs
  have init : ∃ m1, F_Md_fillUnits_L2 rn_fu m 0 = some m1 ∧ z9_bG m1 = z9_bG m ∧ z9_bE m1 = z9_bE m ∧ z9_mFrT m m1 := by
    refine z9_forU (L := fun n (st : tM) k => F_Md_fillUnits_L2 n st k) (Q := fun o => ∃ m1, o = some m1 ∧ z9_bG m1 = z9_bG m ∧ z9_bE m1 = z9_bE m ∧ z9_mFrT m m1) (P := fun k st => z9_bG st = z9_bG m ∧ z9_bE st = z9_bE m ∧ z9_mFrT m st) (K := 36) 0 m (by omega) (by omega) ⟨rfl, rfl, z9_mFrT_rfl m⟩ ?_ ?_
    · intro n st hP
      refine ⟨st, ?_, hP⟩
      simp only [F_Md_fillUnits_L2, show (36 : Int32) ≤ z9_i32 36 from by decide, if_true]
    · intro n st k hk hP
      left
      refine ⟨M_put_units st (fun x => if x = k then 0 else M_units st x), ?_, ?_, ?_, ?_⟩
      · simp only [F_Md_fillUnits_L2, show (36 : Int32) = z9_i32 36 from rfl, z9_i32_le (show 36 < 2147483648 by decide) (show k < 2147483648 by omega)]
        rw [if_neg (by omega), z9_aS_i (by omega) (by decide)]; rfl
      · simp only [z9_fG]; exact hP.1
      · simp only [z9_fE]; exact hP.2.1
      · simp only [z9_mFrT_put]; exact hP.2.2
  obtain ⟨m1, i1, i2, i3, i4⟩ := init
  have main : ∃ m', F_Md_fillUnits_L23 rn_fu m1 0 = some m' ∧ z9_bG m' = z9_bG m ∧ z9_bE m' = z9_bE m ∧ z9_mFrT m m' ∧ ∀ s t, s < z9_A_nS g → t < z9_A_nS g → M_units m' (6 * s + t) = z9_uS g E s t := by
    refine z9_forU (L := fun n (st : tM) k => F_Md_fillUnits_L23 n st k) (Q := fun o => ∃ m', o = some m' ∧ z9_bG m' = z9_bG m ∧ z9_bE m' = z9_bE m ∧ z9_mFrT m m' ∧ ∀ s t, s < z9_A_nS g → t < z9_A_nS g → M_units m' (6 * s + t) = z9_uS g E s t) (P := fun T st => z9_bG st = z9_bG m ∧ z9_bE st = z9_bE m ∧ z9_mFrT m st ∧ ∀ s t, s < z9_A_nS g → t < z9_A_nS g → rk s < T → M_units st (6 * s + t) = z9_uS g E s t) (K := z9_A_nS g + 1) 0 m1 (by omega) (by omega) ⟨i2, i3, i4, fun s t _ _ hh => by omega⟩ ?_ ?_
    · intro n st hP
      obtain ⟨p1, p2, p3, p4⟩ := hP
      refine ⟨st, ?_, p1, p2, p3, ?_⟩
      · simp only [F_Md_fillUnits_L23, (z9_mIs_fr hm p1).2.1, z9_i32_lt (show z9_A_nS g < 2147483648 by omega) (show z9_A_nS g + 1 < 2147483648 by omega), Nat.lt_succ_self, if_true]
      · intro s t hs ht
        have := h.2.2.1 s hs
        exact p4 s t hs ht (by omega)
    · intro n st T hT hP
      obtain ⟨p1, p2, p3, p4⟩ := hP
      left
      have rows : ∃ m', F_Md_fillUnits_L33 (z9_i32 T) rn_fu st 0 = some m' ∧ z9_bG m' = z9_bG m ∧ z9_bE m' = z9_bE m ∧ z9_mFrT m m' ∧ ∀ s t, s < z9_A_nS g → t < z9_A_nS g → rk s < T + 1 → M_units m' (6 * s + t) = z9_uS g E s t := by
        refine z9_forU (L := fun n (st : tM) k => F_Md_fillUnits_L33 (z9_i32 T) n st k) (Q := fun o => ∃ m', o = some m' ∧ z9_bG m' = z9_bG m ∧ z9_bE m' = z9_bE m ∧ z9_mFrT m m' ∧ ∀ s t, s < z9_A_nS g → t < z9_A_nS g → rk s < T + 1 → M_units m' (6 * s + t) = z9_uS g E s t) (P := fun k st => z9_bG st = z9_bG m ∧ z9_bE st = z9_bE m ∧ z9_mFrT m st ∧ (∀ s t, s < z9_A_nS g → t < z9_A_nS g → rk s < T → M_units st (6 * s + t) = z9_uS g E s t) ∧ ∀ s t, s < k → s < z9_A_nS g → t < z9_A_nS g → rk s < T + 1 → M_units st (6 * s + t) = z9_uS g E s t) (K := z9_A_nS g) 0 st (by omega) (by omega) ⟨p1, p2, p3, p4, fun s t hs => by omega⟩ ?_ ?_
        · intro n st1 hP1
          obtain ⟨q1, q2, q3, q4, q5⟩ := hP1
          refine ⟨st1, ?_, q1, q2, q3, fun s t hs ht hh => q5 s t hs hs ht hh⟩
          simp only [F_Md_fillUnits_L33, (z9_mIs_fr hm q1).2.1, Int32.le_refl, if_true]
        · intro n st1 k hk hP1
          obtain ⟨q1, q2, q3, q4, q5⟩ := hP1
          left
          have row : ∃ m', F_Md_fillUnits_L43 (z9_i32 T) (z9_i32 k) rn_fu st1 0 = some m' ∧ z9_bG m' = z9_bG m ∧ z9_bE m' = z9_bE m ∧ z9_mFrT m m' ∧ (∀ s t, s < z9_A_nS g → t < z9_A_nS g → s ≠ k → M_units m' (6 * s + t) = M_units st1 (6 * s + t)) ∧ (rk k < T + 1 → ∀ t, t < z9_A_nS g → M_units m' (6 * k + t) = z9_uS g E k t) := by
            refine z9_forU (L := fun n (st : tM) q => F_Md_fillUnits_L43 (z9_i32 T) (z9_i32 k) n st q) (Q := fun o => ∃ m', o = some m' ∧ z9_bG m' = z9_bG m ∧ z9_bE m' = z9_bE m ∧ z9_mFrT m m' ∧ (∀ s t, s < z9_A_nS g → t < z9_A_nS g → s ≠ k → M_units m' (6 * s + t) = M_units st1 (6 * s + t)) ∧ (rk k < T + 1 → ∀ t, t < z9_A_nS g → M_units m' (6 * k + t) = z9_uS g E k t)) (P := fun q st => z9_bG st = z9_bG m ∧ z9_bE st = z9_bE m ∧ z9_mFrT m st ∧ (∀ s t, s < z9_A_nS g → t < z9_A_nS g → s ≠ k → M_units st (6 * s + t) = M_units st1 (6 * s + t)) ∧ (rk k < T + 1 → ∀ t, t < q → t < z9_A_nS g → M_units st (6 * k + t) = z9_uS g E k t)) (K := z9_A_nS g) 0 st1 (by omega) (by omega) ⟨q1, q2, q3, fun s t _ _ _ => rfl, fun _ t ht => by omega⟩ ?_ ?_
            · intro n st2 hP2
              obtain ⟨r1, r2, r3, r4, r5⟩ := hP2
              refine ⟨st2, ?_, r1, r2, r3, r4, fun hh t ht => r5 hh t ht ht⟩
              simp only [F_Md_fillUnits_L43, (z9_mIs_fr hm r1).2.1, Int32.le_refl, if_true]
            · intro n st2 t ht hP2
              obtain ⟨r1, r2, r3, r4, r5⟩ := hP2
              left
              have hm2 := z9_mIs_fr hm r1
              have hsum := z9_m_unitSum h.1 hm2 (hE' st2 r2) hk ht (z9_i32 T)
              have hright : rk k < T + 1 → z9_uR g E (fun y t => M_units st2 (6 * y + t)) k t (z9_A_nR g) = z9_uS g E k t := by
                intro hrk
                rw [z9_uS_fix h hE hk t]
                refine z9_uR_dep hE h.1 _ (Nat.le_refl _) (fun r l hr hhd hl hld => ?_)
                have h1 := h.2.2.2 r l hr hl hld
                rw [hhd] at h1
                have hb := (h.1.2.2.2 r hr).2.2.2 l hl
                have h2 := hld.1
                have hne : z9_A_bd g r l ≠ k := by intro e; rw [e] at h1; omega
                show M_units st2 (6 * z9_A_bd g r l + t) = _
                rw [r4 _ t (by omega) ht hne]
                exact q4 _ t (by omega) ht (by omega)
              generalize z9_uR g E (fun y t => M_units st2 (6 * y + t)) k t (z9_A_nR g) = X at *
              refine ⟨M_put_units st2 (fun x => if x = 6 * k + t then X else M_units st2 x), ?_, ?_, ?_, ?_, ?_, ?_⟩
              · simp only [F_Md_fillUnits_L43, hm2.2.1, z9_i32_le (show z9_A_nS g < 2147483648 by omega) (show t < 2147483648 by omega), z9_i32_inj (show k < 2147483648 by omega) (show t < 2147483648 by omega)]
                rw [if_neg (by omega)]
                by_cases hkt : k = t
                · rw [if_pos hkt] at hsum
                  rw [if_neg (fun q => q hkt)]
                  simp only [Option.bind_some]
                  rw [hsum]
                  simp only [Option.bind_some, show (6 : Int32) = z9_i32 6 from rfl, z9_i32_mul, z9_i32_add]
                  rw [z9_aS_i (by omega) (by decide)]; rfl
                · rw [if_neg hkt] at hsum
                  rw [if_pos hkt]
                  simp only [Option.bind_some]
                  rw [hsum]
                  simp only [Option.bind_some, show (6 : Int32) = z9_i32 6 from rfl, z9_i32_mul, z9_i32_add]
                  rw [z9_aS_i (by omega) (by decide)]; rfl
              · simp only [z9_fG]; exact r1
              · simp only [z9_fE]; exact r2
              · simp only [z9_mFrT_put]; exact r3
              · intro s t' hs ht' hne
                simp only [z9_mp_units]
                rw [if_neg (by omega)]; exact r4 s t' hs ht' hne
              · intro hrk t' h1 h2
                simp only [z9_mp_units]
                by_cases htt : t' = t
                · subst htt; rw [if_pos rfl]; exact hright hrk
                · rw [if_neg (by omega)]; exact r5 hrk t' (by omega) h2
          obtain ⟨m', x1, x2, x3, x4, x5, x6⟩ := row
          refine ⟨m', ?_, x2, x3, x4, ?_, ?_⟩
          · simp only [F_Md_fillUnits_L33, (z9_mIs_fr hm q1).2.1, z9_i32_le (show z9_A_nS g < 2147483648 by omega) (show k < 2147483648 by omega)]
            rw [if_neg (by omega), x1]; rfl
          · intro s t hs ht hrk
            by_cases hsk : s = k
            · subst hsk; exact x6 (by omega) t ht
            · rw [x5 s t hs ht hsk]; exact q4 s t hs ht hrk
          · intro s t h1 hs ht hrk
            by_cases hsk : s = k
            · subst hsk; exact x6 hrk t ht
            · rw [x5 s t hs ht hsk]; exact q5 s t (by omega) hs ht hrk
      obtain ⟨m', x1, x2⟩ := rows
      refine ⟨m', ?_, x2⟩
      simp only [F_Md_fillUnits_L23, (z9_mIs_fr hm p1).2.1, z9_i32_lt (show z9_A_nS g < 2147483648 by omega) (show T < 2147483648 by omega)]
      rw [if_neg (by omega), x1]; rfl
  obtain ⟨m', x1, x2⟩ := main
  refine ⟨m', ?_, x2⟩
  unfold F_Md_fillUnits
  rw [i1]
  simp only [Option.bind_some]
  rw [x1]; rfl
theorem z9_ev_pp {α : Type} {z o : α} {ad mu : α → α → α} {val val' : Nat → Nat → Nat → α} {p p' : Nat} : ∀ (l : List Nat), (∀ s, s ∈ l → val s p p = val' s p' p') → z9_ev z o ad mu val l p p = z9_ev z o ad mu val' l p' p' := by
  intro l
  induction l with
  | nil => intro _; simp only [z9_ev, if_true]
  | cons s l ih =>
    intro h
    simp only [z9_ev]
    rw [show p + 1 - p = 1 by omega, show p' + 1 - p' = 1 by omega]
    simp only [z9_fol, Nat.add_zero]
    rw [h s (List.mem_cons_self), ih (fun s' hs' => h s' (List.mem_cons_of_mem _ hs'))]
theorem z9_cht_pp {α : Type} {z o : α} {ad mu : α → α → α} {w : Nat → α} {g : z9_tA} {tx tx' : Nat → Nat} {p p' : Nat} : ∀ n s, z9_cht z o ad mu w g tx n s p p = z9_cht z o ad mu w g tx' n s p' p' := by
  intro n
  induction n with
  | zero => intro s; rfl
  | succ n ih =>
    intro s
    show z9_rul z o ad mu w g tx (z9_cht z o ad mu w g tx n) s p p (z9_A_nR g) = z9_rul z o ad mu w g tx' (z9_cht z o ad mu w g tx' n) s p' p' (z9_A_nR g)
    generalize z9_A_nR g = N
    induction N with
    | zero => rfl
    | succ N ihN =>
      simp only [z9_rul]
      rw [ihN, z9_ev_pp (val' := z9_sym z o tx' (z9_cht z o ad mu w g tx' n)) (p' := p') (z9_bl g N) (fun s' _ => by
        unfold z9_sym
        by_cases h6 : s' < 6
        · rw [if_pos h6, if_pos h6]; exact ih s'
        · rw [if_neg h6, if_neg h6, if_neg (by omega), if_neg (by omega)])]
theorem z9_VS_pp (g : z9_tA) (tx tx' : Nat → Nat) (s p p' : Nat) : z9_VS g tx s p p = z9_VS g tx' s p' p' := z9_cht_pp 70 s
theorem z9_vC_pp (g : z9_tA) (tx tx' : Nat → Nat) (s p p' : Nat) : z9_vC g tx s p p = z9_vC g tx' s p' p' := z9_cht_pp 70 s
def z9_absG (b : tG) : z9_tA := ((G_ruleCount b).toNatClampNeg, (G_nonterminalCount b).toNatClampNeg, fun r => (G_heads b r).toNatClampNeg, fun r => (G_bodyLengths b r).toNatClampNeg, fun r k => (G_bodies b (4 * r + k)).toNatClampNeg, fun r => G_weights b r, fun r => (G_costs b r).toNatClampNeg)
theorem z9_RG_absG {b : tG} {m : tM} {nR nS : Nat} (h : z9_RG b m nR nS) (h0 : 0 < nR) : z9_A_nR (z9_absG b) = nR ∧ z9_A_nS (z9_absG b) = nS ∧ z9_gOK (z9_absG b) ∧ z9_gIs b (z9_absG b) ∧ z9_mIs m (z9_absG b) ∧ ∀ s, s < nS → G_capitals b s = M_names m s := by
  have h' := h
  obtain ⟨h1, h2, h3, h4, h5, h6, h7, h8⟩ := h
  obtain ⟨g, g1, g2, g3, g4, g5, g6⟩ := z9_RG_abs h' h0
  have e1 : (G_ruleCount b).toNatClampNeg = nR := by rw [h3, z9_i32_nat (by omega)]
  have e2 : (G_nonterminalCount b).toNatClampNeg = nS := by rw [h5, z9_i32_nat (by omega)]
 
  have hh : ∀ r, r < nR → (G_heads b r).toNatClampNeg = z9_A_hd g r ∧ (G_bodyLengths b r).toNatClampNeg = z9_A_ln g r ∧ G_weights b r = z9_A_wt g r ∧ (G_costs b r).toNatClampNeg = z9_A_ct g r ∧ ∀ k, k < z9_A_ln g r → (G_bodies b (4 * r + k)).toNatClampNeg = z9_A_bd g r k := by
    intro r hr
    obtain ⟨k0, k1, k2, k3⟩ := g3
    obtain ⟨b1, b2, b3, b4⟩ := k3 r (by omega)
    obtain ⟨a1, a2, a3, a4, a5⟩ := g4.2.2 r (by omega)
    refine ⟨by rw [a1, z9_i32_nat (by omega)], by rw [a2, z9_i32_nat (by omega)], a4, by rw [a5, z9_i32_nat (by omega)], ?_⟩
    intro k hk
    have := b4 k hk
    rw [a3 k hk, z9_i32_nat (by omega)]
  have c1 : z9_A_nR (z9_absG b) = nR := e1
  have c2 : z9_A_nS (z9_absG b) = nS := e2
  refine ⟨c1, c2, ⟨by omega, by omega, by omega, ?_⟩, ⟨by rw [c1]; exact h3, by rw [c2]; exact h5, ?_⟩, ⟨by rw [c1]; exact h4, by rw [c2]; exact h6, ?_⟩, g6⟩
  · intro r hr
    obtain ⟨x1, x2, x3, x4, x5⟩ := hh r (by omega)
    obtain ⟨b1, b2, b3, b4⟩ := g3.2.2.2 r (by omega)
    have y1 : z9_A_hd (z9_absG b) r = z9_A_hd g r := x1
    have y2 : z9_A_ln (z9_absG b) r = z9_A_ln g r := x2
    have y4 : z9_A_ct (z9_absG b) r = z9_A_ct g r := x4
    rw [y1, y2, y4, c2]
    refine ⟨by omega, b2, b3, ?_⟩
    intro k hk
    have y5 : z9_A_bd (z9_absG b) r k = z9_A_bd g r k := x5 k hk
    rw [y5]
    have := b4 k hk; omega
  · intro r hr
    obtain ⟨x1, x2, x3, x4, x5⟩ := hh r (by omega)
    obtain ⟨a1, a2, a3, a4, a5⟩ := g4.2.2 r (by omega)
    have y1 : z9_A_hd (z9_absG b) r = z9_A_hd g r := x1
    have y2 : z9_A_ln (z9_absG b) r = z9_A_ln g r := x2
    have y3 : z9_A_wt (z9_absG b) r = z9_A_wt g r := x3
    have y4 : z9_A_ct (z9_absG b) r = z9_A_ct g r := x4
    rw [y1, y2, y3, y4]
    refine ⟨a1, a2, ?_, a4, a5⟩
    intro k hk
    have y5 : z9_A_bd (z9_absG b) r k = z9_A_bd g r k := x5 k hk
    rw [y5]; exact a3 k hk
  · intro r hr
    obtain ⟨x1, x2, x3, x4, x5⟩ := hh r (by omega)
    obtain ⟨a1, a2, a3, a4, a5⟩ := g5.2.2 r (by omega)
    have y1 : z9_A_hd (z9_absG b) r = z9_A_hd g r := x1
    have y2 : z9_A_ln (z9_absG b) r = z9_A_ln g r := x2
    have y3 : z9_A_wt (z9_absG b) r = z9_A_wt g r := x3
    have y4 : z9_A_ct (z9_absG b) r = z9_A_ct g r := x4
    rw [y1, y2, y3, y4]
    refine ⟨a1, a2, ?_, a4, a5⟩
    intro k hk
    have y5 : z9_A_bd (z9_absG b) r k = z9_A_bd g r k := x5 k hk
    rw [y5]; exact a3 k hk
def z9_mGr (m : tM) (g : z9_tA) (a : tG) (u : tU) : Prop := z9_mIs m g ∧ (∀ s, s < z9_A_nS g → M_names m s = G_capitals a s) ∧ (∀ tx s, s < z9_A_nS g → M_emptySum m s = z9_VS g tx s 0 0 ∧ M_emptyCost m s = z9_ec (z9_vC g tx s 0 0)) ∧ ∀ s t, s < z9_A_nS g → t < z9_A_nS g → M_units m (6 * s + t) = u (s * 6 + t)
def z9_cGr (c : tC) (a : tG) (g : z9_tA) : Prop := ∃ F rk od, z9_gGood g F rk ∧ z9_ordF g rk od (G_order a) ∧ z9_gIs a g ∧ z9_cW c ∧ ∀ tx s, s < z9_A_nS g → z9_fin c g tx s 0 0
section
variable {g : z9_tA} {tx tx' : Nat → Nat} {p p' : Nat}
theorem z9_evC_pp (l : List Nat) : z9_evC tx (z9_vC g tx) l p p = z9_evC tx' (z9_vC g tx') l p' p' := z9_ev_pp l (fun s' _ => by
  unfold z9_symC z9_sym
  by_cases h6 : s' < 6
  · rw [if_pos h6, if_pos h6]; exact z9_vC_pp g tx tx' s' p p'
  · rw [if_neg h6, if_neg h6, if_neg (by omega), if_neg (by omega)])
theorem z9_cnd_pp (r : Nat) : z9_cnd g tx (z9_vC g tx) p p r = z9_cnd g tx' (z9_vC g tx') p' p' r := by unfold z9_cnd; rw [z9_evC_pp]
theorem z9_rC_pp (s : Nat) : ∀ n, z9_rC g tx (z9_vC g tx) s p p n = z9_rC g tx' (z9_vC g tx') s p' p' n := by
  intro n
  induction n with
  | zero => rfl
  | succ n ih => rw [z9_rC_succ, z9_rC_succ, ih, z9_cnd_pp]
theorem z9_rl_pp (s : Nat) : ∀ n, z9_rl g tx (z9_vC g tx) s p p n = z9_rl g tx' (z9_vC g tx') s p' p' n := by
  intro n
  induction n with
  | zero => rfl
  | succ n ih => simp only [z9_rl]; rw [ih, z9_cnd_pp (tx' := tx') (p' := p'), z9_rC_pp (tx' := tx') (p' := p')]
theorem z9_ruleOf_pp (s : Nat) : z9_ruleOf g tx s p p = z9_ruleOf g tx' s p' p' := z9_rl_pp s _
theorem z9_stp_pp (tx : Nat → Nat) (v : Nat → Nat → Nat → Option Nat) (s' : Nat) (l : List Nat) (p : Nat) : z9_stp tx v s' l p p = 0 := by
  unfold z9_stp
  rw [show p + 1 - p = 1 by omega]
  simp only [z9_am]
  split <;> rfl
theorem z9_pkL_pp (tx : Nat → Nat) (v : Nat → Nat → Nat → Option Nat) (p : Nat) : ∀ l, z9_pkL (z9_wk tx v l p p) = 0 := by
  intro l
  induction l with
  | nil => rfl
  | cons s' l ih =>
    simp only [z9_wk, z9_stp_pp, Nat.add_zero, z9_pkL]
    omega
theorem z9_chl_pp_len {v v' : Nat → Nat → Nat → Option Nat} {f f' : Nat × Nat × Nat → List (Nat × Nat × Nat)} (h : ∀ s', (f (s', p, p)).length = (f' (s', p', p')).length) : ∀ l, ((z9_chl tx v l p p).flatMap f).length = ((z9_chl tx' v' l p' p').flatMap f').length := by
  intro l
  induction l with
  | nil => rfl
  | cons s' l ihl =>
    simp only [z9_chl, z9_stp_pp, Nat.add_zero, List.flatMap_append, List.length_append]
    rw [ihl]
    by_cases h6 : s' < 6
    · rw [if_pos h6, if_pos h6]
      simp only [List.flatMap_cons, List.flatMap_nil, List.append_nil]
      rw [h s']
    · rw [if_neg h6, if_neg h6]
      simp only [List.flatMap_nil]
theorem z9_ndF_pp : ∀ n s, (z9_ndF g tx n s p p).length = (z9_ndF g tx' n s p' p').length := by
  intro n
  induction n with
  | zero => intro s; rfl
  | succ n ih =>
    intro s
    have e : ∀ (tx : Nat → Nat) (p : Nat), z9_ndF g tx (n + 1) s p p = (z9_ruleOf g tx s p p, p, p) :: (z9_chl tx (z9_vC g tx) (z9_bl g (z9_ruleOf g tx s p p)) p p).flatMap (fun c => z9_ndF g tx n c.1 c.2.1 c.2.2) := fun _ _ => rfl
    rw [e, e, List.length_cons, List.length_cons, z9_ruleOf_pp (tx := tx) (tx' := tx') (p := p) (p' := p'), z9_chl_pp_len (tx' := tx') (p' := p') (v' := z9_vC g tx') (f' := fun c => z9_ndF g tx' n c.1 c.2.1 c.2.2) ih]
end
theorem z9_sz_pp (g : z9_tA) (tx tx' : Nat → Nat) (s p p' : Nat) : z9_sz g tx s p p = z9_sz g tx' s p' p' := by
  unfold z9_sz z9_nd
  exact z9_ndF_pp 70 s
theorem z9_fin_pp {c : tC} {g : z9_tA} {tx tx' : Nat → Nat} {s p p' : Nat} (hf : z9_fin c g tx s p p) : z9_fin c g tx' s p' p' := by
  have hc : z9_cel s p' p' = z9_cel s p p := by unfold z9_cel; simp
  obtain ⟨f1, f2, f3⟩ := hf
  unfold z9_fin
  rw [hc, ← z9_VS_pp g tx tx' s p p', ← z9_vC_pp g tx tx' s p p']
  refine ⟨f1, f2, ?_⟩
  intro hv
  obtain ⟨x1, x2, x3⟩ := f3 hv
  rw [← z9_ruleOf_pp (tx := tx) (p := p), ← z9_sz_pp g tx tx' s p p', z9_pkL_pp]
  rw [z9_pkL_pp] at x3
  exact ⟨x1, x2, x3⟩
theorem z9_c_takeSpare {c : tC} {b : tG} {g : z9_tA} {F : Nat} {rk od : Nat → Nat} (h : z9_gGood g F rk) (hb : z9_gIs b g) (ho : z9_ordF g rk od (G_order b)) (hW : z9_cW c) (u : tU) (t : tT) :
    ∃ c' u', F_Wt_takeSpareGrammar c u t b = some (c', u', (T_rules t, T_starts t, T_ends t, T_symbols t, 0)) ∧ z9_cW c' ∧ C_textLength c' = -1 ∧ (∀ tx s, s < z9_A_nS g → z9_fin c' g tx s 0 0) ∧ ∀ s q, s < z9_A_nS g → q < 6 → u' (s * 6 + q) = z9_uS g (fun s => z9_VS g (fun _ => 0) s 0 0) s q := by
  have hW0 : z9_cW (C_sums c, C_costs c, C_rules c, C_sizes c, C_lengths c, C_letters c, -1, C_restSums c, C_restCosts c, C_restLengths c) := by
    unfold z9_cW at *; simp only [z9_ct]; exact hW
  obtain ⟨c', e1, e2, e3, e4, e5⟩ := z9_c_fillPart (c := (C_sums c, C_costs c, C_rules c, C_sizes c, C_lengths c, C_letters c, -1, C_restSums c, C_restCosts c, C_restLengths c)) h hb ho hW0 (tx := fun _ => 0) (i := 0) (j := 0) (Nat.le_refl _) (by omega) (fun p hp => by omega) (by
    intro s p q _ h1 h2 h3 h4
    exfalso; apply h4; unfold z9_spt; omega)
  obtain ⟨u', f1, f2⟩ := z9_c_units (c := c') h hb ho (E := fun s => z9_VS g (fun _ => 0) s 0 0) (fun s hs he => z9_VS_nemp h hs he) (fun s hs => (e5 s hs).1) u
  refine ⟨c', u', ?_, e3, ?_, fun tx s hs => z9_fin_pp (e5 s hs), f2⟩
  · unfold F_Wt_takeSpareGrammar F_Tl_clear F_Ch_dropText
    simp only [Option.bind_some]
    rw [show F_Ch_fillPart _ b 0 0 = some c' from e1]
    simp only [Option.bind_some]
    rw [f1]; rfl
  · rw [e2.2]; simp only [z9_ct]
theorem z9_absG_put (b : tG) (f o : Nat → Int32) : z9_absG (z9_G_put_order (z9_G_put_reached b f) o) = z9_absG b := by
  unfold z9_absG; simp only [z9_gpo, z9_gpr]
theorem z9_t_take {d : tD} {n : Nat} {cf : Nat → Nat} (hd : z9_rCF d n cf) (x : tX) (b : tG) {c : tC} (hW : z9_cW c) (u : tU) (t : tT) (mw : tM) (hw : z9_rSF (M_src mw) n cf) :
    (∃ l b' r', 1 ≤ l ∧ l ≤ 302 ∧ F_Wt_load x d c u t b = some (.inr (1, z9_i32 l, (D_characters d, 0), c, u, t, b', r')) ∧ ∀ m, z9_rSF (M_src m) n cf → ∃ m', F_Md_take m (z9_i32 n) = some (1, m') ∧ z9_mFrT m m' ∧ M_value m' = z9_i32 l) ∨
    (∃ b' r', F_Wt_load x d c u t b = some (.inr (2, x, (D_characters d, 0), c, u, t, b', r')) ∧ ∀ m, z9_rSF (M_src m) n cf → ∃ m', F_Md_take m (z9_i32 n) = some (2, m') ∧ z9_mFrT m m') ∨
    (∃ a c' u' r', F_Wt_load x d c u t b = some (.inl (G_ruleCount a, x, (D_characters d, 0), c', u', (T_rules t, T_starts t, T_ends t, T_symbols t, 0), a, r')) ∧ z9_cGr c' a (z9_absG a) ∧ C_textLength c' = -1 ∧ ∀ m, z9_rSF (M_src m) n cf → ∃ m', F_Md_take m (z9_i32 n) = some (0, m') ∧ z9_mFrT m m' ∧ z9_mGr m' (z9_absG a) a u') := by
  obtain ⟨x0, b0, r0, m0, q1, q2, q3, q4⟩ := z9_r_read (b := b) hd hw
 
  have all : ∀ m, z9_rSF (M_src m) n cf → ∃ m', F_Md_readGrammar m (z9_i32 n) = some (x0, m') ∧ z9_mFrR m m' ∧ (x0 = 0 → ∃ nR nS, 0 < nR ∧ z9_RG b0 m' nR nS) := by
    intro m hm
    obtain ⟨x1, b1, r1, m1, p1, p2, p3, p4⟩ := z9_r_read (b := b) hd hm
    rw [q1] at p1
    simp only [Option.some.injEq, Prod.mk.injEq] at p1
    obtain ⟨rfl, rfl, rfl⟩ := p1
    refine ⟨m1, p2, p3, ?_⟩
    intro h0
    rcases p4 with ⟨l, l1, l2, l3⟩ | ⟨_, h⟩
    · rw [h0] at l3
      exfalso
      have : (z9_i32 0 = z9_i32 l) = (0 = l) := z9_i32_inj (by decide) (by omega)
      rw [show (0 : Int32) = z9_i32 0 from rfl, this] at l3; omega
    · exact h
  have hload : F_Wt_load x d c u t b = (if x0 = 0 then (Option.bind (F_Gr_findOrder b0) fun (x11, b12) => if ¬ x11 = 0 then (Option.bind (F_Wt_takeSpareGrammar c u t b12) fun (c16, u17, t18) => some (.inl (G_ruleCount b12, x, (D_characters d, (0 : Int32)), c16, u17, t18, b12, r0))) else some (.inr (2, x, (D_characters d, (0 : Int32)), c, u, t, b12, r0))) else some (.inr (1, x0, (D_characters d, (0 : Int32)), c, u, t, b0, r0))) := by
    unfold F_Wt_load F_Dr_clear
    rw [q1]; rfl
  rcases q4 with ⟨l, l1, l2, l3⟩ | ⟨h0, nR, nS, hn0, hRG⟩
  ·
    left
    have hx0 : ¬ x0 = 0 := by
      rw [l3]
      have : (z9_i32 l = z9_i32 0) = (l = 0) := z9_i32_inj (by omega) (by decide)
      show ¬ z9_i32 l = z9_i32 0
      rw [this]; omega
    refine ⟨l, b0, r0, l1, l2, ?_, ?_⟩
    · rw [hload, if_neg hx0, l3]
    · intro m hm
      obtain ⟨m', y1, y2, _⟩ := all m hm
      refine ⟨M_put_value m' x0, ?_, ?_, ?_⟩
      · unfold F_Md_take
        rw [y1]
        simp only [Option.bind_some]
        have : ¬ x0 ≤ 0 := by
          rw [l3]
          have : (z9_i32 l ≤ z9_i32 0) = (l ≤ 0) := z9_i32_le (by omega) (by decide)
          show ¬ z9_i32 l ≤ z9_i32 0
          rw [this]; omega
        rw [if_neg this]
      · simp only [z9_mFrT_put]; exact z9_mFrR_T y2
      · simp only [z9_mp_value]; exact l3
  · obtain ⟨a1, a2, a3, a4, a5, a6⟩ := z9_RG_absG hRG hn0
    have hclosed := z9_rounds_closed a3
    obtain ⟨m1, o1, o2, o3⟩ := z9_o_all a3 a4 a5
   
    have all2 : ∀ m, z9_rSF (M_src m) n cf → ∃ m', F_Md_readGrammar m (z9_i32 n) = some (0, m') ∧ z9_mFrR m m' ∧ z9_mIs m' (z9_absG b0) ∧ ∀ s, s < nS → G_capitals b0 s = M_names m' s := by
      intro m hm
      obtain ⟨m', y1, y2, y3⟩ := all m hm
      obtain ⟨nR', nS', z1, z2⟩ := y3 h0
      obtain ⟨w1, w2, w3, w4, w5, w6⟩ := z9_RG_absG z2 z1
      have : nS' = nS := by rw [← w2, a2]
      subst this
      rw [h0] at y1
      exact ⟨m', y1, y2, w5, w6⟩
    rcases o3 with ⟨b', e1, e2⟩ | ⟨f, o, e1, e2, e3⟩
    · right; left
      refine ⟨b', r0, ?_, ?_⟩
      · rw [hload, if_pos h0, e1]; rfl
      · intro m hm
        obtain ⟨m', y1, y2, y3, y4⟩ := all2 m hm
        obtain ⟨m2, p1, p2, p3⟩ := z9_o_all a3 a4 y3
        rcases p3 with ⟨b'', k1, k2⟩ | ⟨f, o, k1, k2, k3⟩
        · refine ⟨m2, ?_, z9_mFrT_trans (z9_mFrR_T y2) p2⟩
          unfold F_Md_take
          rw [y1]
          simp only [Option.bind_some]
          rw [if_pos (by decide), k2]; rfl
        · rw [e1] at k1
          simp only [Option.some.injEq, Prod.mk.injEq] at k1
          exact absurd k1.1 (by decide)
    · right; right
      obtain ⟨rk, od, hgood, hord⟩ := z9_ordOK_F a3 hclosed e3
      have hb' : z9_gIs (z9_G_put_order (z9_G_put_reached b0 f) o) (z9_absG b0) := z9_gIs_po (z9_gIs_pr a4)
      have hord' : z9_ordF (z9_absG b0) rk od (G_order (z9_G_put_order (z9_G_put_reached b0 f) o)) := by simp only [z9_gpo]; exact hord
      obtain ⟨c', u', s1, s2, s3, s4, s5⟩ := z9_c_takeSpare hgood hb' hord' hW u t
      refine ⟨z9_G_put_order (z9_G_put_reached b0 f) o, c', u', r0, ?_, ?_, s3, ?_⟩
      · rw [hload, if_pos h0, e1]
        simp only [Option.bind_some]
        rw [if_pos (by decide), s1]; rfl
      · rw [z9_absG_put]
        exact ⟨_, rk, od, hgood, hord', hb', s2, s4⟩
      · intro m hm
        rw [z9_absG_put]
        obtain ⟨m', y1, y2, y3, y4⟩ := all2 m hm
        obtain ⟨m2, p1, p2, p3⟩ := z9_o_all a3 a4 y3
        rcases p3 with ⟨b'', k1, k2⟩ | ⟨f', o', k1, k2, k3⟩
        · rw [e1] at k1
          simp only [Option.some.injEq, Prod.mk.injEq] at k1
          exact absurd k1.1 (by decide)
        · have hm2 := z9_mIs_fr y3 p1
          obtain ⟨m3, v1, v2, v3, v4⟩ := z9_m_fillEmpty hgood hm2 (fun _ => 0)
          have hm3 := z9_mIs_fr hm2 v2
          obtain ⟨m4, w1, w2, w3, w4, w5⟩ := z9_m_units hgood hm3 (E := fun s => z9_VS (z9_absG b0) (fun _ => 0) s 0 0) (fun s hs he => z9_VS_nemp hgood hs he) (fun s hs => (v4 s hs).1)
          refine ⟨m4, ?_, z9_mFrT_trans (z9_mFrT_trans (z9_mFrT_trans (z9_mFrR_T y2) p2) v3) w4, z9_mIs_fr hm3 w2, ?_, ?_, ?_⟩
          · unfold F_Md_take
            rw [y1]
            simp only [Option.bind_some]
            rw [if_pos (by decide), k2]
            simp only [Option.bind_some, if_true]
            rw [v1]
            simp only [Option.bind_some]
            rw [w1]; rfl
          · intro s hs
            simp only [z9_bG, Prod.mk.injEq] at w2 v2 p1
            rw [w2.2.2.2.2.2.2.2, v2.2.2.2.2.2.2.2, p1.2.2.2.2.2.2.2]
            simp only [z9_gpo, z9_gpr]
            rw [a2] at hs
            exact (y4 s hs).symm
          · intro tx s hs
            simp only [z9_bE, Prod.mk.injEq] at w3
            rw [w3.1, w3.2, z9_VS_pp (z9_absG b0) tx (fun _ => 0) s 0 0, z9_vC_pp (z9_absG b0) tx (fun _ => 0) s 0 0]
            exact v4 s hs
          · intro s q hs hq
            have h6 := a3.2.2.1
            rw [w5 s q hs hq, s5 s q hs (by omega)]
