def z9_mCH (m : tM) (g : z9_tA) (tx : Nat → Nat) (V : Nat → Nat → Nat → Int64) (v : Nat → Nat → Nat → Option Nat) (i j : Nat) : Prop := (∀ s p q, s < z9_A_nS g → i ≤ p → p ≤ q → q ≤ j → (if p = q then M_emptySum m s else M_sums m (81 * s + 9 * p + q)) = V s p q ∧ (if p = q then M_emptyCost m s else M_least m (81 * s + 9 * p + q)) = z9_ec (v s p q) ∧ z9_ole z9_cB (v s p q)) ∧ ∀ p, i ≤ p → p < j → M_text m p = z9_i32 (tx p) ∧ tx p ≤ 126
def z9_symOk (g : z9_tA) (s : Nat) : Prop := s < z9_A_nS g ∨ (97 ≤ s ∧ s ≤ 122)
theorem z9_m_sumOf {m : tM} {g : z9_tA} (hg : z9_gOK g) {tx : Nat → Nat} {V : Nat → Nat → Nat → Int64} {v : Nat → Nat → Nat → Option Nat} {i j : Nat} (h : z9_mCH m g tx V v i j) (hj : j ≤ 8) {s p q : Nat} (hs : z9_symOk g s) (h1 : i ≤ p) (h2 : p ≤ q) (h3 : q ≤ j) : F_Md_sumOf m (z9_i32 s) (z9_i32 p) (z9_i32 q) = some (z9_symS tx V s p q) := by
  have g2 := hg.2.2.1
  unfold z9_symOk at hs
  unfold F_Md_sumOf F_Md_cell z9_symS z9_sym
  simp only [z9_m_isLetter (show s < 2147483648 by omega), Option.bind_some, z9_b01_0, z9_i32_inj (show p < 2147483648 by omega) (show q < 2147483648 by omega)]
  by_cases h6 : s < 6
  · have hsn : s < z9_A_nS g := by omega
    obtain ⟨k1, k2, k3⟩ := h.1 s p q hsn h1 h2 h3
    simp only [show ¬ 6 ≤ s by omega, not_false_eq_true, if_true, h6]
    by_cases hpq : p = q
    · rw [if_pos hpq] at k1
      rw [← k1]
      simp only [hpq, not_true, if_false]
      rw [z9_aG_i (by omega) (by decide)]; rfl
    · rw [if_neg hpq] at k1
      rw [← k1]
      simp only [hpq, not_false_eq_true, if_true, show (81 : Int32) = z9_i32 81 from rfl, show (9 : Int32) = z9_i32 9 from rfl, z9_i32_mul, z9_i32_add]
      rw [z9_aG_i (by omega) (by decide)]; rfl
  · simp only [show 6 ≤ s by omega, not_true, if_false, h6, show (1 : Int32) = z9_i32 1 from rfl, z9_i32_add, z9_i32_inj (show q < 2147483648 by omega) (show p + 1 < 2147483648 by omega)]
    by_cases hq : q = p + 1
    · obtain ⟨t1, t2⟩ := h.2 p h1 (by omega)
      simp only [hq, not_true, if_false, true_and]
      rw [z9_aG_i (by omega) (by decide), t1]
      simp only [Option.bind_some, z9_i32_inj (show tx p < 2147483648 by omega) (show s < 2147483648 by omega)]
      by_cases ht : tx p = s
      · simp only [ht, not_true, if_false, if_true]; rfl
      · simp only [ht, not_false_eq_true, if_true, if_false]; rfl
    · simp only [hq, not_false_eq_true, if_true, false_and, if_false]; rfl
theorem z9_m_costOf {m : tM} {g : z9_tA} (hg : z9_gOK g) {tx : Nat → Nat} {V : Nat → Nat → Nat → Int64} {v : Nat → Nat → Nat → Option Nat} {i j : Nat} (h : z9_mCH m g tx V v i j) (hj : j ≤ 8) {s p q : Nat} (hs : z9_symOk g s) (h1 : i ≤ p) (h2 : p ≤ q) (h3 : q ≤ j) : F_Md_costOf m (z9_i32 s) (z9_i32 p) (z9_i32 q) = some (z9_ec (z9_symC tx v s p q)) := by
  have g2 := hg.2.2.1
  unfold z9_symOk at hs
  unfold F_Md_costOf F_Md_cell z9_symC z9_sym
  simp only [z9_m_isLetter (show s < 2147483648 by omega), Option.bind_some, z9_b01_0, z9_i32_inj (show p < 2147483648 by omega) (show q < 2147483648 by omega)]
  by_cases h6 : s < 6
  · have hsn : s < z9_A_nS g := by omega
    obtain ⟨k1, k2, k3⟩ := h.1 s p q hsn h1 h2 h3
    simp only [show ¬ 6 ≤ s by omega, not_false_eq_true, if_true, h6]
    by_cases hpq : p = q
    · rw [if_pos hpq] at k2
      rw [← k2]
      simp only [hpq, not_true, if_false]
      rw [z9_aG_i (by omega) (by decide)]; rfl
    · rw [if_neg hpq] at k2
      rw [← k2]
      simp only [hpq, not_false_eq_true, if_true, show (81 : Int32) = z9_i32 81 from rfl, show (9 : Int32) = z9_i32 9 from rfl, z9_i32_mul, z9_i32_add]
      rw [z9_aG_i (by omega) (by decide)]; rfl
  · simp only [show 6 ≤ s by omega, not_true, if_false, h6, show (1 : Int32) = z9_i32 1 from rfl, z9_i32_add, z9_i32_inj (show q < 2147483648 by omega) (show p + 1 < 2147483648 by omega)]
    by_cases hq : q = p + 1
    · obtain ⟨t1, t2⟩ := h.2 p h1 (by omega)
      simp only [hq, not_true, if_false, true_and]
      rw [z9_aG_i (by omega) (by decide), t1]
      simp only [Option.bind_some, z9_i32_inj (show tx p < 2147483648 by omega) (show s < 2147483648 by omega)]
      by_cases ht : tx p = s
      · simp only [ht, not_true, if_false, if_true]; rfl
      · simp only [ht, not_false_eq_true, if_true, if_false]; rfl
    · simp only [hq, not_false_eq_true, if_true, false_and, if_false]; rfl
theorem z9_mCH_fr {m m' : tM} {g : z9_tA} {tx : Nat → Nat} {V : Nat → Nat → Nat → Int64} {v : Nat → Nat → Nat → Option Nat} {i j : Nat} (h : z9_mCH m g tx V v i j) (e1 : z9_bE m' = z9_bE m) (e2 : z9_bC m' = z9_bC m) (e3 : z9_bX m' = z9_bX m) : z9_mCH m' g tx V v i j := by
  simp only [z9_bE, Prod.mk.injEq] at e1
  simp only [z9_bC, Prod.mk.injEq] at e2
  simp only [z9_bX, Prod.mk.injEq] at e3
  unfold z9_mCH at *
  rw [e1.1, e1.2, e2.1, e2.2, e3.2.2]; exact h
def z9_restOK (g : z9_tA) (tx : Nat → Nat) (v : Nat → Nat → Nat → Option Nat) (r i j : Nat) (f : Nat → Int32) (k : Nat) : Prop := ∀ k' p, k ≤ k' → k' ≤ z9_A_ln g r → i ≤ p → p ≤ j → f (10 * k' + p) = z9_ec (z9_evC tx v (z9_tl g r k' (z9_A_ln g r - k')) p j)
theorem z9_m_bodyCost {m : tM} {g : z9_tA} (hg : z9_gOK g) (hm : z9_mIs m g) {tx : Nat → Nat} {V : Nat → Nat → Nat → Int64} {v : Nat → Nat → Nat → Option Nat} {i j : Nat} (h : z9_mCH m g tx V v i j) (hij : i ≤ j) (hj : j ≤ 8) {r : Nat} (hr : r < z9_A_nR g) :
    ∃ f, F_Md_bodyCost m (z9_i32 r) (z9_i32 i) (z9_i32 j) = some (z9_ec (z9_evC tx v (z9_bl g r) i j), M_put_rest m f) ∧ z9_restOK g tx v r i j f 0 := by
  have hcB : z9_cB = 40000000 := rfl
  have hg' := hg
  obtain ⟨g0, g1, g2, g3⟩ := hg
  obtain ⟨b1, b2, b3, b4⟩ := g3 r hr
  obtain ⟨a1, a2, a3, a4, a5⟩ := hm.2.2 r hr
  have hmf : ∀ f, z9_mIs (M_put_rest m f) g := fun f => z9_mIs_fr hm (by simp only [z9_fG])
  have hCf : ∀ f, z9_mCH (M_put_rest m f) g tx V v i j := fun f => z9_mCH_fr h (by simp only [z9_fE]) (by simp only [z9_fC]) (by simp only [z9_fX])
  have m0 : m = M_put_rest m (M_rest m) := by simp only [M_put_rest]; rfl
  have mpp : ∀ f f', M_put_rest (M_put_rest m f) f' = M_put_rest m f' := by
    intro f f'
    rw [M_put_rest]
    simp only [z9_mp_rest]
    rfl
  have bnd : ∀ k q, k ≤ z9_A_ln g r → i ≤ q → q ≤ j → z9_ole 160000000 (z9_evC tx v (z9_tl g r k (z9_A_ln g r - k)) q j) := by
    intro k q hk h1 h2 x hx
    have key : ∀ (l : List Nat) (p : Nat), (∀ s, s ∈ l → s < z9_A_nS g ∨ 6 ≤ s) → i ≤ p → z9_ole (l.length * z9_cB) (z9_evC tx v l p j) := by
      intro l
      induction l with
      | nil =>
        intro p _ _ x hx
        have hx' : (if p = j then some 0 else none) = some x := hx
        split at hx'
        · simp only [Option.some.injEq] at hx'; omega
        · cases hx'
      | cons s l ih =>
        intro p hs hp x hx
        rw [z9_evC_cons] at hx
        obtain ⟨q, hq, hx⟩ := z9_fmn_mem _ hx
        have := z9_ole_oadd (z9_symC_le (tx := tx) (s := s) (p := p) (q := p + q) (fun h6 => (h.1 s p (p + q) (by have := hs s (List.mem_cons_self); omega) hp (by omega) (by omega)).2.2)) (ih (p + q) (fun s' hs' => hs s' (List.mem_cons_of_mem _ hs')) (by omega)) x hx
        rw [List.length_cons, Nat.add_mul]; omega
    have := key (z9_tl g r k (z9_A_ln g r - k)) q (fun s hs => by
      obtain ⟨mm, _, hmm, rfl⟩ := z9_tl_mem g r _ _ hs
      have := b4 mm (by omega); omega) h1 x hx
    rw [z9_tl_len] at this
    have h4 : (z9_A_ln g r - k) * z9_cB ≤ 4 * z9_cB := Nat.mul_le_mul_right _ (by omega)
    omega
  have init : ∃ f, F_Md_bodyCost_L11 (z9_i32 r) (z9_i32 i) (z9_i32 j) (z9_i32 (z9_A_ln g r)) rn_fu m (z9_i32 i) = some (M_put_rest m f) ∧ ∀ p, i ≤ p → p ≤ j → f (10 * z9_A_ln g r + p) = z9_ec (if p = j then some 0 else none) := by
    refine z9_forU (L := fun n (st : tM) q => F_Md_bodyCost_L11 (z9_i32 r) (z9_i32 i) (z9_i32 j) (z9_i32 (z9_A_ln g r)) n st q) (Q := fun o => ∃ f, o = some (M_put_rest m f) ∧ ∀ p, i ≤ p → p ≤ j → f (10 * z9_A_ln g r + p) = z9_ec (if p = j then some 0 else none)) (P := fun q st => i ≤ q ∧ ∃ f, st = M_put_rest m f ∧ ∀ p, i ≤ p → p < q → f (10 * z9_A_ln g r + p) = z9_ec (if p = j then some 0 else none)) (K := j + 1) i m (by omega) (by omega) ⟨Nat.le_refl _, M_rest m, m0, fun p x1 x2 => by omega⟩ ?_ ?_
    · intro n st hP
      obtain ⟨_, f, rfl, hf⟩ := hP
      refine ⟨f, ?_, fun p x1 x2 => hf p x1 (by omega)⟩
      simp only [F_Md_bodyCost_L11, z9_i32_lt (show j < 2147483648 by omega) (show j + 1 < 2147483648 by omega), show j < j + 1 by omega, if_true]
    · intro n st q hq hP
      obtain ⟨h0, f, rfl, hf⟩ := hP
      left
      refine ⟨M_put_rest m (fun x => if x = 10 * z9_A_ln g r + q then z9_ec (if q = j then some 0 else none) else f x), ?_, by omega, _, rfl, ?_⟩
      · simp only [F_Md_bodyCost_L11, z9_i32_lt (show j < 2147483648 by omega) (show q < 2147483648 by omega), z9_i32_inj (show q < 2147483648 by omega) (show j < 2147483648 by omega), show (10 : Int32) = z9_i32 10 from rfl, z9_i32_mul, z9_i32_add, z9_mp_rest]
        rw [if_neg (by omega)]
        by_cases hqj : q = j
        · simp only [hqj, not_true, if_false, Option.bind_some, if_true, z9_ec]
          rw [z9_aS_i (by omega) (by decide)]
          simp only [Option.bind_some, mpp]; rfl
        · simp only [hqj, not_false_eq_true, if_true, Option.bind_some, if_false, z9_ec]
          rw [z9_aS_i (by omega) (by decide)]
          simp only [Option.bind_some, mpp]
      · intro p x1 x2
        show (if 10 * z9_A_ln g r + p = 10 * z9_A_ln g r + q then _ else _) = _
        by_cases hpq : p = q
        · subst hpq; rw [if_pos rfl]
        · rw [if_neg (by omega)]; exact hf p x1 (by omega)
  obtain ⟨f1, i1, i2⟩ := init
  have base : z9_restOK g tx v r i j f1 (z9_A_ln g r) := by
    intro k' p x1 x2 x3 x4
    have hk : k' = z9_A_ln g r := by omega
    subst hk
    rw [Nat.sub_self]; exact i2 p x3 x4
  have main : ∃ f, F_Md_bodyCost_L53 (z9_i32 r) (z9_i32 i) (z9_i32 j) rn_fu (M_put_rest m f1) (z9_i32 (z9_A_ln g r) - 1) = some (M_put_rest m f) ∧ z9_restOK g tx v r i j f 0 := by
    refine z9_forD (L := fun n (st : tM) q => F_Md_bodyCost_L53 (z9_i32 r) (z9_i32 i) (z9_i32 j) n st q) (Q := fun o => ∃ f, o = some (M_put_rest m f) ∧ z9_restOK g tx v r i j f 0) (P := fun k st => k ≤ z9_A_ln g r ∧ ∃ f, st = M_put_rest m f ∧ z9_restOK g tx v r i j f k) (z9_A_ln g r) (M_put_rest m f1) (by omega) ⟨Nat.le_refl _, f1, rfl, base⟩ ?_ ?_
    · intro n st hP
      obtain ⟨_, f, rfl, hf⟩ := hP
      exact ⟨f, rfl, hf⟩
    · intro n st k hP
      obtain ⟨hk, f, rfl, hf⟩ := hP
      left
      have hbd := b4 k (by omega)
      have hsy : z9_symOk g (z9_A_bd g r k) := hbd
      have row : ∃ f', F_Md_bodyCost_L61 (z9_i32 r) (z9_i32 i) (z9_i32 j) (z9_i32 k) rn_fu (M_put_rest m f) (z9_i32 i) = some (M_put_rest m f') ∧ z9_restOK g tx v r i j f' k := by
        refine z9_forU (L := fun n (st : tM) q => F_Md_bodyCost_L61 (z9_i32 r) (z9_i32 i) (z9_i32 j) (z9_i32 k) n st q) (Q := fun o => ∃ f', o = some (M_put_rest m f') ∧ z9_restOK g tx v r i j f' k) (P := fun p st => i ≤ p ∧ ∃ f', st = M_put_rest m f' ∧ z9_restOK g tx v r i j f' (k + 1) ∧ ∀ p', i ≤ p' → p' < p → f' (10 * k + p') = z9_ec (z9_evC tx v (z9_tl g r k (z9_A_ln g r - k)) p' j)) (K := j + 1) i (M_put_rest m f) (by omega) (by omega) ⟨Nat.le_refl _, f, rfl, hf, fun p' x1 x2 => by omega⟩ ?_ ?_
        · intro n st hP
          obtain ⟨_, f', rfl, q1, q2⟩ := hP
          refine ⟨f', ?_, ?_⟩
          · simp only [F_Md_bodyCost_L61, z9_i32_lt (show j < 2147483648 by omega) (show j + 1 < 2147483648 by omega), show j < j + 1 by omega, if_true]
          · intro k' p x1 x2 x3 x4
            by_cases hkk : k' = k
            · subst hkk; exact q2 p x3 (by omega)
            · exact q1 k' p (by omega) x2 x3 x4
        · intro n st p hp hP
          obtain ⟨h0, f', rfl, q1, q2⟩ := hP
          left
          have hC := hCf f'
          have hM := hmf f'
         
          have cell : F_Md_bodyCost_L74 (M_put_rest m f') (z9_i32 r) (z9_i32 i) (z9_i32 j) (z9_i32 k) (z9_i32 p) rn_fu (-1) (z9_i32 p) = some (z9_ec (z9_evC tx v (z9_tl g r k (z9_A_ln g r - k)) p j)) := by
            rw [z9_tl_cons (show k < z9_A_ln g r by omega), z9_evC_cons]
            refine z9_forU (L := fun n (st : Int32) q => F_Md_bodyCost_L74 (M_put_rest m f') (z9_i32 r) (z9_i32 i) (z9_i32 j) (z9_i32 k) (z9_i32 p) n st q) (Q := fun o => o = some (z9_ec (z9_fmn (z9_ter tx v (z9_A_bd g r k) (z9_tl g r (k + 1) (z9_A_ln g r - (k + 1))) p j) p (j + 1 - p)))) (P := fun q st => p ≤ q ∧ st = z9_ec (z9_fmn (z9_ter tx v (z9_A_bd g r k) (z9_tl g r (k + 1) (z9_A_ln g r - (k + 1))) p j) p (q - p))) (K := j + 1) p (-1) (by omega) (by omega) ⟨Nat.le_refl _, by rw [Nat.sub_self]; rfl⟩ ?_ ?_
            · intro n st hP
              simp only [F_Md_bodyCost_L74, z9_i32_lt (show j < 2147483648 by omega) (show j + 1 < 2147483648 by omega), show j < j + 1 by omega, if_true, hP.2]
            · intro n st q hq hP
              obtain ⟨hpq0, hst⟩ := hP
              left
              have hq1 : q + 1 - p = (q - p) + 1 := by omega
              have hpq : p + (q - p) = q := by omega
              refine ⟨z9_ec (z9_fmn (z9_ter tx v (z9_A_bd g r k) (z9_tl g r (k + 1) (z9_A_ln g r - (k + 1))) p j) p (q + 1 - p)), ?_, by omega, rfl⟩
              simp only [F_Md_bodyCost_L74, z9_i32_lt (show j < 2147483648 by omega) (show q < 2147483648 by omega), show (4 : Int32) = z9_i32 4 from rfl, show (10 : Int32) = z9_i32 10 from rfl, z9_i32_mul, z9_i32_add]
              rw [if_neg (by omega), z9_aG_i (by omega) (by decide), (hM.2.2 r hr).2.2.1 k (by omega)]
              simp only [Option.bind_some]
              rw [z9_m_costOf hg' hC hj hsy (by omega) hpq0 (by omega), z9_aG_i (by omega) (by decide)]
              simp only [Option.bind_some, z9_mp_rest]
              have er : f' (10 * k + 10 + q) = z9_ec (z9_evC tx v (z9_tl g r (k + 1) (z9_A_ln g r - (k + 1))) q j) := by
                have := q1 (k + 1) q (Nat.le_refl _) (by omega) (by omega) (by omega)
                rw [show 10 * (k + 1) + q = 10 * k + 10 + q by omega] at this; exact this
              rw [er]
              have hb1 : z9_ole z9_cB (z9_symC tx v (z9_A_bd g r k) p q) := z9_symC_le (fun h6 => (h.1 _ p q (by omega) (by omega) hpq0 (by omega)).2.2)
              have hb2 := bnd (k + 1) q (by omega) (by omega) (by omega)
              have hfe : z9_fmn (z9_ter tx v (z9_A_bd g r k) (z9_tl g r (k + 1) (z9_A_ln g r - (k + 1))) p j) p (q + 1 - p) = z9_omin (z9_fmn (z9_ter tx v (z9_A_bd g r k) (z9_tl g r (k + 1) (z9_A_ln g r - (k + 1))) p j) p (q - p)) (z9_oadd (z9_symC tx v (z9_A_bd g r k) p q) (z9_evC tx v (z9_tl g r (k + 1) (z9_A_ln g r - (k + 1))) q j)) := by
                rw [hq1]; show z9_omin _ (z9_ter tx v _ _ p j (p + (q - p))) = _; rw [hpq]; rfl
              rw [hfe, hst]
              have hb3 : z9_ole 200000000 (z9_fmn (z9_ter tx v (z9_A_bd g r k) (z9_tl g r (k + 1) (z9_A_ln g r - (k + 1))) p j) p (q - p)) := by
                intro y hy
                obtain ⟨q', hq', hx⟩ := z9_fmn_mem _ hy
                have := z9_ole_oadd (z9_symC_le (tx := tx) (s := z9_A_bd g r k) (p := p) (q := p + q') (fun h6 => (h.1 _ p (p + q') (by omega) (by omega) (by omega) (by omega)).2.2)) (bnd (k + 1) (p + q') (by omega) (by omega) (by omega)) y hx
                omega
              simp only [z9_ec_lt0 hb1 (show z9_cB < 2147483648 by omega)]
              generalize hA : z9_symC tx v (z9_A_bd g r k) p q = sa at *
              generalize hB : z9_evC tx v (z9_tl g r (k + 1) (z9_A_ln g r - (k + 1))) q j = sb at *
              generalize hC' : z9_fmn (z9_ter tx v (z9_A_bd g r k) (z9_tl g r (k + 1) (z9_A_ln g r - (k + 1))) p j) p (q - p) = z9_sc at *
              cases sa with
              | none => simp only [if_true, Option.bind_some, z9_none_oadd, z9_omin_none']
              | some u =>
                have hu := hb1 u rfl
                cases sb with
                | none =>
                  rw [if_neg (by simp), if_pos (by decide)]
                  simp only [Option.bind_some, z9_oadd_none, z9_omin_none']
                | some w =>
                  have hw := hb2 w rfl
                  rw [if_neg (by simp), if_neg (by simp only [z9_ec]; rw [z9_i32_n0 (by omega)]; exact id)]
                  cases z9_sc with
                  | none =>
                    rw [if_pos (by decide)]
                    simp only [Option.bind_some, z9_ec_add, z9_oadd, z9_omin_none]
                  | some y =>
                    have hy := hb3 y rfl
                    rw [if_neg (by simp only [z9_ec]; rw [z9_i32_n0 (by omega)]; exact id), z9_ec_add]
                    by_cases hlt : u + w < y
                    · rw [if_neg (by rw [z9_ec_le (by omega) (by omega)]; omega)]
                      simp only [Option.bind_some, z9_oadd, z9_omin, z9_olt, hlt, decide_true, if_true]
                    · rw [if_pos (by rw [z9_ec_le (by omega) (by omega)]; omega)]
                      simp only [Option.bind_some, z9_oadd, z9_omin, z9_olt, hlt, decide_false, Bool.false_eq_true, if_false]
          refine ⟨M_put_rest m (fun x => if x = 10 * k + p then z9_ec (z9_evC tx v (z9_tl g r k (z9_A_ln g r - k)) p j) else f' x), ?_, by omega, _, rfl, ?_, ?_⟩
          · simp only [F_Md_bodyCost_L61, z9_i32_lt (show j < 2147483648 by omega) (show p < 2147483648 by omega), show (10 : Int32) = z9_i32 10 from rfl, z9_i32_mul, z9_i32_add]
            rw [if_neg (by omega), cell]
            simp only [Option.bind_some]
            rw [z9_aS_i (by omega) (by decide)]
            simp only [Option.bind_some, mpp, z9_mp_rest]
          · intro k' p' x1 x2 x3 x4
            show (if 10 * k' + p' = 10 * k + p then _ else _) = _
            rw [if_neg (by omega)]; exact q1 k' p' x1 x2 x3 x4
          · intro p' x1 x2
            show (if 10 * k + p' = 10 * k + p then _ else _) = _
            by_cases hpp : p' = p
            · subst hpp; rw [if_pos rfl]
            · rw [if_neg (by omega)]; exact q2 p' x1 (by omega)
      obtain ⟨f', r1, r2⟩ := row
      refine ⟨M_put_rest m f', ?_, by omega, f', rfl, r2⟩
      simp only [F_Md_bodyCost_L53, z9_i32_n0 (show k < 2147483648 by omega), if_false]
      rw [r1]; rfl
  obtain ⟨f, m1, m2⟩ := main
  refine ⟨f, ?_, m2⟩
  unfold F_Md_bodyCost
  rw [z9_aG_i (by omega) (by decide), a2]
  simp only [Option.bind_some]
  rw [i1]
  simp only [Option.bind_some]
  rw [m1]
  simp only [Option.bind_some, z9_mp_rest]
  rw [z9_aG_i (by omega) (by decide)]
  have := m2 0 i (Nat.le_refl _) (Nat.zero_le _) (Nat.le_refl _) hij
  rw [Nat.mul_zero, Nat.zero_add] at this
  simp only [Option.bind_some, this]
  rfl
abbrev z9_fS (f : Nat → Int64) (p n : Nat) : Int64 := z9_fol (fun a b => a + b) 0 f p n
theorem z9_fS_succ (f : Nat → Int64) (p n : Nat) : z9_fS f p (n + 1) = z9_fS f p n + f (p + n) := rfl
theorem z9_fS_congr {f f' : Nat → Int64} {p n : Nat} (h : ∀ q, p ≤ q → q < p + n → f q = f' q) : z9_fS f p n = z9_fS f' p n := z9_fol_congr h
theorem z9_fS_add (f f' : Nat → Int64) (p : Nat) : ∀ n, z9_fS (fun q => f q + f' q) p n = z9_fS f p n + z9_fS f' p n := by
  intro n
  induction n with
  | zero => exact (Int64.add_zero _).symm
  | succ n ih =>
    rw [z9_fS_succ, z9_fS_succ, z9_fS_succ, ih]
    grind
theorem z9_fS_mul (f : Nat → Int64) (c : Int64) (p : Nat) : ∀ n, z9_fS (fun q => f q * c) p n = z9_fS f p n * c := by
  intro n
  induction n with
  | zero => exact Int64.zero_mul.symm
  | succ n ih => rw [z9_fS_succ, z9_fS_succ, ih, Int64.add_mul]
theorem z9_fS_tri (x e : Nat → Int64) (a : Nat → Nat → Int64) (i : Nat) : ∀ n, z9_fS (fun p => x p * z9_fS (fun q => a p q * e q) p (i + n - p)) i n = z9_fS (fun q => z9_fS (fun p => x p * a p q) i (q + 1 - i) * e q) i n := by
  intro n
  induction n with
  | zero => rfl
  | succ n ih =>
    rw [z9_fS_succ, z9_fS_succ]
    have h1 : z9_fS (fun p => x p * z9_fS (fun q => a p q * e q) p (i + (n + 1) - p)) i n = z9_fS (fun p => x p * z9_fS (fun q => a p q * e q) p (i + n - p) + (x p * a p (i + n)) * e (i + n)) i n := by
      refine z9_fS_congr (fun p h1 h2 => ?_)
      rw [show i + (n + 1) - p = (i + n - p) + 1 by omega, z9_fS_succ, show p + (i + n - p) = i + n by omega, Int64.mul_add, Int64.mul_assoc]
    rw [h1, z9_fS_add, ih, z9_fS_mul]
    have h2 : z9_fS (fun q => a (i + n) q * e q) (i + n) (i + (n + 1) - (i + n)) = a (i + n) (i + n) * e (i + n) := by
      rw [show i + (n + 1) - (i + n) = 0 + 1 by omega, z9_fS_succ]
      show 0 + _ = _
      rw [Int64.zero_add, Nat.add_zero]
    rw [h2, show i + n + 1 - i = n + 1 by omega, z9_fS_succ, Int64.add_mul]
    grind
def z9_lef (tx : Nat → Nat) (V : Nat → Nat → Nat → Int64) (g : z9_tA) (r i : Nat) : Nat → Nat → Int64
  | 0, q => if q = i then 1 else 0
  | k + 1, q => z9_fS (fun p => z9_lef tx V g r i k p * z9_symS tx V (z9_A_bd g r k) p q) i (q + 1 - i)
theorem z9_lef_ev (tx : Nat → Nat) (V : Nat → Nat → Nat → Int64) (g : z9_tA) (r : Nat) {i j : Nat} (hij : i ≤ j) : z9_lef tx V g r i (z9_A_ln g r) j = z9_evS tx V (z9_bl g r) i j := by
  have key : ∀ k, k ≤ z9_A_ln g r → z9_fS (fun p => z9_lef tx V g r i k p * z9_evS tx V (z9_tl g r k (z9_A_ln g r - k)) p j) i (j + 1 - i) = z9_evS tx V (z9_bl g r) i j := by
    intro k
    induction k with
    | zero =>
      intro _
      have : ∀ n, 1 ≤ n → z9_fS (fun p => z9_lef tx V g r i 0 p * z9_evS tx V (z9_tl g r 0 (z9_A_ln g r - 0)) p j) i n = z9_evS tx V (z9_bl g r) i j := by
        intro n
        induction n with
        | zero => intro h; omega
        | succ n ih =>
          intro _
          rw [z9_fS_succ]
          show _ + (if i + n = i then 1 else 0) * _ = _
          by_cases hn : n = 0
          · subst hn
            simp only [Nat.add_zero, if_true]
            show 0 + 1 * z9_evS tx V (z9_bl g r) i j = _
            rw [Int64.one_mul, Int64.zero_add]
          · rw [ih (by omega), if_neg (by omega), Int64.zero_mul, Int64.add_zero]
      exact this _ (by omega)
    | succ k ih =>
      intro hk
      rw [← ih (by omega)]
      have e := z9_fS_tri (z9_lef tx V g r i k) (fun q => z9_evS tx V (z9_tl g r (k + 1) (z9_A_ln g r - (k + 1))) q j) (fun p q => z9_symS tx V (z9_A_bd g r k) p q) i (j + 1 - i)
      rw [show i + (j + 1 - i) = j + 1 by omega] at e
      have e1 : z9_fS (fun p => z9_lef tx V g r i k p * z9_evS tx V (z9_tl g r k (z9_A_ln g r - k)) p j) i (j + 1 - i) = z9_fS (fun p => z9_lef tx V g r i k p * z9_fS (fun q => z9_symS tx V (z9_A_bd g r k) p q * z9_evS tx V (z9_tl g r (k + 1) (z9_A_ln g r - (k + 1))) q j) p (j + 1 - p)) i (j + 1 - i) := by
        refine z9_fS_congr (fun p _ _ => ?_)
        rw [z9_tl_cons (show k < z9_A_ln g r by omega), z9_evS_cons]
      rw [e1, e]
      rfl
  have := key (z9_A_ln g r) (Nat.le_refl _)
  rw [← this, Nat.sub_self, show j + 1 - i = (j - i) + 1 by omega, z9_fS_succ, show i + (j - i) = j by omega]
  have hz : z9_fS (fun p => z9_lef tx V g r i (z9_A_ln g r) p * z9_evS tx V (z9_tl g r (z9_A_ln g r) 0) p j) i (j - i) = 0 := by
    refine z9_fol_zero _ (fun q hq => ?_)
    show _ * (if i + q = j then (1 : Int64) else 0) = 0
    rw [if_neg (by omega), Int64.mul_zero]
  rw [hz]
  show _ = 0 + _ * (if j = j then (1 : Int64) else 0)
  rw [if_pos rfl, Int64.mul_one, Int64.zero_add]
def z9_M_put_up (m : tM) (f f' : Nat → Int64) : tM := M_put_upToNext (M_put_upTo m f) f'
theorem z9_mpu (m : tM) (f f' : Nat → Int64) : (∀ h, M_put_upTo (z9_M_put_up m f f') h = z9_M_put_up m h f') ∧ (∀ h, M_put_upToNext (z9_M_put_up m f f') h = z9_M_put_up m f h) ∧ M_upTo (z9_M_put_up m f f') = f ∧ M_upToNext (z9_M_put_up m f f') = f' ∧ z9_bG (z9_M_put_up m f f') = z9_bG m ∧ z9_bE (z9_M_put_up m f f') = z9_bE m ∧ z9_bU (z9_M_put_up m f f') = z9_bU m ∧ z9_bX (z9_M_put_up m f f') = z9_bX m ∧ z9_bC (z9_M_put_up m f f') = z9_bC m ∧ z9_bK (z9_M_put_up m f f') = z9_bK m ∧ z9_bD (z9_M_put_up m f f') = z9_bD m ∧ z9_bN (z9_M_put_up m f f') = z9_bN m ∧ z9_bW (z9_M_put_up m f f') = z9_bW m ∧ M_src (z9_M_put_up m f f') = M_src m ∧ M_code (z9_M_put_up m f f') = M_code m := by
  refine ⟨?_, ?_, ?_⟩
  · intro h
    simp only [z9_M_put_up, M_code, M_draft, M_size, M_src, M_kept, M_keptSize, M_loaded, M_wrongLine, M_rules, M_heads, M_lengths, M_bodies, M_weights, M_costs, M_symbols, M_names, M_hasText, M_letters, M_text, M_emptySum, M_emptyCost, M_sums, M_least, M_units, M_upTo, M_upToNext, M_rest, M_nodes, M_nodeRule, M_nodeFrom, M_nodeTo, M_waits, M_at, M_end, M_value, M_put_code, M_put_draft, M_put_size, M_put_src, M_put_kept, M_put_keptSize, M_put_loaded, M_put_wrongLine, M_put_rules, M_put_heads, M_put_lengths, M_put_bodies, M_put_weights, M_put_costs, M_put_symbols, M_put_names, M_put_hasText, M_put_letters, M_put_text, M_put_emptySum, M_put_emptyCost, M_put_sums, M_put_least, M_put_units, M_put_upTo, M_put_upToNext, M_put_rest, M_put_nodes, M_put_nodeRule, M_put_nodeFrom, M_put_nodeTo, M_put_waits, M_put_at, M_put_end, M_put_value]
  · intro h
    simp only [z9_M_put_up, M_code, M_draft, M_size, M_src, M_kept, M_keptSize, M_loaded, M_wrongLine, M_rules, M_heads, M_lengths, M_bodies, M_weights, M_costs, M_symbols, M_names, M_hasText, M_letters, M_text, M_emptySum, M_emptyCost, M_sums, M_least, M_units, M_upTo, M_upToNext, M_rest, M_nodes, M_nodeRule, M_nodeFrom, M_nodeTo, M_waits, M_at, M_end, M_value, M_put_code, M_put_draft, M_put_size, M_put_src, M_put_kept, M_put_keptSize, M_put_loaded, M_put_wrongLine, M_put_rules, M_put_heads, M_put_lengths, M_put_bodies, M_put_weights, M_put_costs, M_put_symbols, M_put_names, M_put_hasText, M_put_letters, M_put_text, M_put_emptySum, M_put_emptyCost, M_put_sums, M_put_least, M_put_units, M_put_upTo, M_put_upToNext, M_put_rest, M_put_nodes, M_put_nodeRule, M_put_nodeFrom, M_put_nodeTo, M_put_waits, M_put_at, M_put_end, M_put_value]
  · simp only [z9_M_put_up, z9_mp_upTo, z9_mp_upToNext, z9_fG, z9_fE, z9_fU, z9_fX, z9_fC, z9_fK, z9_fD, z9_fN, z9_fW, and_self]
theorem z9_m_bodySum {m : tM} {g : z9_tA} (hg : z9_gOK g) (hm : z9_mIs m g) {tx : Nat → Nat} {V : Nat → Nat → Nat → Int64} {v : Nat → Nat → Nat → Option Nat} {i j : Nat} (h : z9_mCH m g tx V v i j) (hij : i ≤ j) (hj : j ≤ 8) {r : Nat} (hr : r < z9_A_nR g) :
    ∃ f f', F_Md_bodySum m (z9_i32 r) (z9_i32 i) (z9_i32 j) = some (z9_evS tx V (z9_bl g r) i j, z9_M_put_up m f f') := by
  have hg' := hg
  obtain ⟨g0, g1, g2, g3⟩ := hg
  obtain ⟨b1, b2, b3, b4⟩ := g3 r hr
  obtain ⟨a1, a2, a3, a4, a5⟩ := hm.2.2 r hr
  have hmf : ∀ f f', z9_mIs (z9_M_put_up m f f') g := fun f f' => z9_mIs_fr hm (by simp only [z9_mpu])
  have hCf : ∀ f f', z9_mCH (z9_M_put_up m f f') g tx V v i j := fun f f' => z9_mCH_fr h (by simp only [z9_mpu]) (by simp only [z9_mpu]) (by simp only [z9_mpu])
  have m0 : m = z9_M_put_up m (M_upTo m) (M_upToNext m) := by unfold z9_M_put_up; rw [M_put_upToNext]; simp only [z9_mp_upTo]; rfl
  have init : ∃ f, F_Md_bodySum_L3 (z9_i32 r) (z9_i32 i) (z9_i32 j) rn_fu m (z9_i32 i) = some (z9_M_put_up m f (M_upToNext m)) ∧ ∀ q, i ≤ q → q ≤ j → f q = z9_lef tx V g r i 0 q := by
    refine z9_forU (L := fun n (st : tM) q => F_Md_bodySum_L3 (z9_i32 r) (z9_i32 i) (z9_i32 j) n st q) (Q := fun o => ∃ f, o = some (z9_M_put_up m f (M_upToNext m)) ∧ ∀ q, i ≤ q → q ≤ j → f q = z9_lef tx V g r i 0 q) (P := fun q st => i ≤ q ∧ ∃ f, st = z9_M_put_up m f (M_upToNext m) ∧ ∀ q', i ≤ q' → q' < q → f q' = z9_lef tx V g r i 0 q') (K := j + 1) i m (by omega) (by omega) ⟨Nat.le_refl _, M_upTo m, m0, fun p x1 x2 => by omega⟩ ?_ ?_
    · intro n st hP
      obtain ⟨_, f, rfl, hf⟩ := hP
      refine ⟨f, ?_, fun p x1 x2 => hf p x1 (by omega)⟩
      simp only [F_Md_bodySum_L3, z9_i32_lt (show j < 2147483648 by omega) (show j + 1 < 2147483648 by omega), show j < j + 1 by omega, if_true]
    · intro n st q hq hP
      obtain ⟨h0, f, rfl, hf⟩ := hP
      left
      refine ⟨z9_M_put_up m (fun x => if x = q then z9_lef tx V g r i 0 q else f x) (M_upToNext m), ?_, by omega, _, rfl, ?_⟩
      · simp only [F_Md_bodySum_L3, z9_i32_lt (show j < 2147483648 by omega) (show q < 2147483648 by omega), z9_i32_inj (show q < 2147483648 by omega) (show i < 2147483648 by omega), z9_mpu]
        rw [if_neg (by omega)]
        by_cases hqi : q = i
        · simp only [hqi, not_true, if_false, Option.bind_some, z9_lef, if_true]
          rw [z9_aS_i (by omega) (by decide)]
          simp only [Option.bind_some, z9_mpu]
        · simp only [hqi, not_false_eq_true, if_true, Option.bind_some, z9_lef, if_false]
          rw [z9_aS_i (by omega) (by decide)]
          simp only [Option.bind_some, z9_mpu]
      · intro p x1 x2
        show (if p = q then _ else _) = _
        by_cases hpq : p = q
        · subst hpq; rw [if_pos rfl]
        · rw [if_neg hpq]; exact hf p x1 (by omega)
  obtain ⟨f0, i1, i2⟩ := init
  have main : ∃ f f', F_Md_bodySum_L36 (z9_i32 r) (z9_i32 i) (z9_i32 j) rn_fu (z9_M_put_up m f0 (M_upToNext m)) 0 = some (z9_M_put_up m f f') ∧ ∀ q, i ≤ q → q ≤ j → f q = z9_lef tx V g r i (z9_A_ln g r) q := by
    refine z9_forU (L := fun n (st : tM) k => F_Md_bodySum_L36 (z9_i32 r) (z9_i32 i) (z9_i32 j) n st k) (Q := fun o => ∃ f f', o = some (z9_M_put_up m f f') ∧ ∀ q, i ≤ q → q ≤ j → f q = z9_lef tx V g r i (z9_A_ln g r) q) (P := fun k st => ∃ f f', st = z9_M_put_up m f f' ∧ ∀ q, i ≤ q → q ≤ j → f q = z9_lef tx V g r i k q) (K := z9_A_ln g r) 0 (z9_M_put_up m f0 (M_upToNext m)) (by omega) (by omega) ⟨f0, _, rfl, i2⟩ ?_ ?_
    · intro n st hP
      obtain ⟨f, f', rfl, hf⟩ := hP
      refine ⟨f, f', ?_, hf⟩
      simp only [F_Md_bodySum_L36]
      rw [z9_aG_i (by omega) (by decide), ((hmf f f').2.2 r hr).2.1]
      simp only [Option.bind_some, Int32.le_refl, if_true]
    · intro n st k hk hP
      obtain ⟨f, f', rfl, hf⟩ := hP
      left
      have hsy : z9_symOk g (z9_A_bd g r k) := b4 k hk
      have s1 : ∃ f'', F_Md_bodySum_L50 (z9_i32 r) (z9_i32 i) (z9_i32 j) (z9_i32 k) rn_fu (z9_M_put_up m f f') (z9_i32 i) = some (z9_M_put_up m f f'') ∧ ∀ q, i ≤ q → q ≤ j → f'' q = z9_lef tx V g r i (k + 1) q := by
        refine z9_forU (L := fun n (st : tM) q => F_Md_bodySum_L50 (z9_i32 r) (z9_i32 i) (z9_i32 j) (z9_i32 k) n st q) (Q := fun o => ∃ f'', o = some (z9_M_put_up m f f'') ∧ ∀ q, i ≤ q → q ≤ j → f'' q = z9_lef tx V g r i (k + 1) q) (P := fun q st => i ≤ q ∧ ∃ f'', st = z9_M_put_up m f f'' ∧ ∀ q', i ≤ q' → q' < q → f'' q' = z9_lef tx V g r i (k + 1) q') (K := j + 1) i (z9_M_put_up m f f') (by omega) (by omega) ⟨Nat.le_refl _, f', rfl, fun p x1 x2 => by omega⟩ ?_ ?_
        · intro n st hP
          obtain ⟨_, f'', rfl, hf2⟩ := hP
          refine ⟨f'', ?_, fun p x1 x2 => hf2 p x1 (by omega)⟩
          simp only [F_Md_bodySum_L50, z9_i32_lt (show j < 2147483648 by omega) (show j + 1 < 2147483648 by omega), show j < j + 1 by omega, if_true]
        · intro n st q hq hP
          obtain ⟨h0, f'', rfl, hf2⟩ := hP
          left
          have s2 : ∃ f3, F_Md_bodySum_L67 (z9_i32 r) (z9_i32 i) (z9_i32 j) (z9_i32 k) (z9_i32 q) rn_fu (z9_M_put_up m f (fun x => if x = q then 0 else f'' x)) (z9_i32 i) = some (z9_M_put_up m f f3) ∧ f3 q = z9_lef tx V g r i (k + 1) q ∧ ∀ q', q' ≠ q → f3 q' = f'' q' := by
            refine z9_forU (L := fun n (st : tM) p => F_Md_bodySum_L67 (z9_i32 r) (z9_i32 i) (z9_i32 j) (z9_i32 k) (z9_i32 q) n st p) (Q := fun o => ∃ f3, o = some (z9_M_put_up m f f3) ∧ f3 q = z9_lef tx V g r i (k + 1) q ∧ ∀ q', q' ≠ q → f3 q' = f'' q') (P := fun p st => i ≤ p ∧ ∃ f3, st = z9_M_put_up m f f3 ∧ f3 q = z9_fS (fun p => z9_lef tx V g r i k p * z9_symS tx V (z9_A_bd g r k) p q) i (p - i) ∧ ∀ q', q' ≠ q → f3 q' = f'' q') (K := q + 1) i (z9_M_put_up m f (fun x => if x = q then 0 else f'' x)) (by omega) (by omega) ⟨Nat.le_refl _, _, rfl, ?_, ?_⟩ ?_ ?_
            · simp only [if_true]; rw [Nat.sub_self]; rfl
            · intro q' hq'; simp only [hq', if_false]
            · intro n st hP
              obtain ⟨_, f3, rfl, e1, e2⟩ := hP
              refine ⟨f3, ?_, e1, e2⟩
              simp only [F_Md_bodySum_L67, z9_i32_lt (show q < 2147483648 by omega) (show q + 1 < 2147483648 by omega), show q < q + 1 by omega, if_true]
            · intro n st p hp hP
              obtain ⟨hip, f3, rfl, e1, e2⟩ := hP
              left
              refine ⟨z9_M_put_up m f (fun x => if x = q then f3 q + z9_lef tx V g r i k p * z9_symS tx V (z9_A_bd g r k) p q else f3 x), ?_, by omega, _, rfl, ?_, ?_⟩
              · simp only [F_Md_bodySum_L67, z9_i32_lt (show q < 2147483648 by omega) (show p < 2147483648 by omega), z9_mpu, show (4 : Int32) = z9_i32 4 from rfl, z9_i32_mul, z9_i32_add]
                rw [if_neg (by omega), z9_aG_i (by omega) (by decide), z9_aG_i (by omega) (by decide), z9_aG_i (by omega) (by decide), ((hmf f f3).2.2 r hr).2.2.1 k hk]
                simp only [Option.bind_some]
                rw [z9_m_sumOf hg' (hCf f f3) hj hsy hip (by omega) (by omega)]
                simp only [Option.bind_some]
                rw [z9_aS_i (by omega) (by decide), hf p hip (by omega)]
                simp only [Option.bind_some, z9_mpu]
              · simp only [if_true]
                rw [show p + 1 - i = (p - i) + 1 by omega, z9_fS_succ, e1, show i + (p - i) = p by omega]
              · intro q' hq'
                simp only [hq', if_false]; exact e2 q' hq'
          obtain ⟨f3, x1, x2, x3⟩ := s2
          refine ⟨z9_M_put_up m f f3, ?_, by omega, f3, rfl, ?_⟩
          · simp only [F_Md_bodySum_L50, z9_i32_lt (show j < 2147483648 by omega) (show q < 2147483648 by omega), z9_mpu]
            rw [if_neg (by omega), z9_aS_i (by omega) (by decide)]
            simp only [Option.bind_some, z9_mpu]
            rw [x1]; rfl
          · intro q' y1 y2
            by_cases hqq : q' = q
            · subst hqq; exact x2
            · rw [x3 q' hqq]; exact hf2 q' y1 (by omega)
      obtain ⟨f2, x1, x2⟩ := s1
      have s3 : ∃ f4, F_Md_bodySum_L131 (z9_i32 r) (z9_i32 i) (z9_i32 j) (z9_i32 k) rn_fu (z9_M_put_up m f f2) (z9_i32 i) = some (z9_M_put_up m f4 f2) ∧ ∀ q, i ≤ q → q ≤ j → f4 q = f2 q := by
        refine z9_forU (L := fun n (st : tM) q => F_Md_bodySum_L131 (z9_i32 r) (z9_i32 i) (z9_i32 j) (z9_i32 k) n st q) (Q := fun o => ∃ f4, o = some (z9_M_put_up m f4 f2) ∧ ∀ q, i ≤ q → q ≤ j → f4 q = f2 q) (P := fun q st => i ≤ q ∧ ∃ f4, st = z9_M_put_up m f4 f2 ∧ ∀ q', i ≤ q' → q' < q → f4 q' = f2 q') (K := j + 1) i (z9_M_put_up m f f2) (by omega) (by omega) ⟨Nat.le_refl _, f, rfl, fun p y1 y2 => by omega⟩ ?_ ?_
        · intro n st hP
          obtain ⟨_, f4, rfl, hf4⟩ := hP
          refine ⟨f4, ?_, fun p y1 y2 => hf4 p y1 (by omega)⟩
          simp only [F_Md_bodySum_L131, z9_i32_lt (show j < 2147483648 by omega) (show j + 1 < 2147483648 by omega), show j < j + 1 by omega, if_true]
        · intro n st q hq hP
          obtain ⟨h0, f4, rfl, hf4⟩ := hP
          left
          refine ⟨z9_M_put_up m (fun x => if x = q then f2 q else f4 x) f2, ?_, by omega, _, rfl, ?_⟩
          · simp only [F_Md_bodySum_L131, z9_i32_lt (show j < 2147483648 by omega) (show q < 2147483648 by omega), z9_mpu]
            rw [if_neg (by omega), z9_aG_i (by omega) (by decide)]
            simp only [Option.bind_some]
            rw [z9_aS_i (by omega) (by decide)]
            simp only [Option.bind_some, z9_mpu]
          · intro q' y1 y2
            show (if q' = q then _ else _) = _
            by_cases hqq : q' = q
            · rw [if_pos hqq, hqq]
            · rw [if_neg hqq]; exact hf4 q' y1 (by omega)
      obtain ⟨f4, x3, x4⟩ := s3
      refine ⟨z9_M_put_up m f4 f2, ?_, f4, f2, rfl, fun q y1 y2 => by rw [x4 q y1 y2, x2 q y1 y2]⟩
      simp only [F_Md_bodySum_L36]
      rw [z9_aG_i (by omega) (by decide), ((hmf f f').2.2 r hr).2.1]
      simp only [Option.bind_some, z9_i32_le (show z9_A_ln g r < 2147483648 by omega) (show k < 2147483648 by omega)]
      rw [if_neg (by omega), x1]
      simp only [Option.bind_some]
      rw [x3]; rfl
  obtain ⟨f, f', x1, x2⟩ := main
  refine ⟨f, f', ?_⟩
  unfold F_Md_bodySum
  rw [i1]
  simp only [Option.bind_some]
  rw [x1]
  simp only [Option.bind_some, z9_mpu]
  rw [z9_aG_i (by omega) (by decide), x2 j hij (Nat.le_refl _), z9_lef_ev tx V g r hij]; rfl
def z9_CUR (g : z9_tA) (F : Nat) (rk : Nat → Nat) (tx : Nat → Nat) (i j : Nat) (V : Nat → Nat → Nat → Int64) (v : Nat → Nat → Nat → Option Nat) : Prop := (∀ s p q, s < z9_A_nS g → i ≤ p → p ≤ q → q ≤ j → ¬ (p = i ∧ q = j) → V s p q = z9_VS g tx s p q ∧ v s p q = z9_vC g tx s p q) ∧ (∀ s, s < z9_A_nS g → ¬ z9_emp F s → ∀ p, V s p p = 0 ∧ v s p p = none) ∧ ∀ s x, s < z9_A_nS g → v s i j = some x → x ≤ 99 * z9_rB (j - i) (rk s)
theorem z9_cur_cnd {g : z9_tA} {F : Nat} {rk : Nat → Nat} (h : z9_gGood g F rk) {tx : Nat → Nat} {i j : Nat} (hij : i ≤ j) (h8 : j - i ≤ 8) {V : Nat → Nat → Nat → Int64} {v : Nat → Nat → Nat → Option Nat} (hc : z9_CUR g F rk tx i j V v) {r x : Nat} (hr : r < z9_A_nR g) (hx : z9_cnd g tx v i j r = some x) : x ≤ 99 * z9_rB (j - i) (rk (z9_A_hd g r)) := by
  unfold z9_cnd at hx
  cases he : z9_evC tx v (z9_bl g r) i j with
  | none => rw [he] at hx; cases hx
  | some y =>
    rw [he] at hx
    simp only [z9_oadd, Option.some.injEq] at hx
    have h99 := (h.1.2.2.2 r hr).2.2.1
    have ht := z9_tot_cost (z9_bl g r) i y he
    have := z9_tot_bound h (fun s hs hne p => (hc.2.1 s hs hne p).2) hr hij (W := 99) (f := fun s p q => (z9_symC tx v s p q).getD 0) ?_ ?_ (by rw [he]; simp)
    · rw [ht] at this; omega
    · intro s p q h6
      unfold z9_symC z9_sym
      rw [if_neg (by omega)]; split <;> rfl
    · intro c p q hcn h1 h2 h3 h4 h5
      have h6 := h.1.2.2.1
      show (z9_symC tx v c p q).getD 0 ≤ _
      unfold z9_symC z9_sym
      rw [if_pos (by omega)]
      cases hv : v c p q with
      | none => exact absurd hv h5
      | some z =>
        by_cases hpq : p = i ∧ q = j
        · obtain ⟨rfl, rfl⟩ := hpq
          exact hc.2.2 c z hcn hv
        · rw [(hc.1 c p q hcn h1 h2 h3 hpq).2] at hv
          exact (z9_v_cnd h _).1 c p q z hcn h2 (by omega) (Nat.lt_succ_self _) hv
theorem z9_cur_rC {g : z9_tA} {F : Nat} {rk : Nat → Nat} (h : z9_gGood g F rk) {tx : Nat → Nat} {i j : Nat} (hij : i ≤ j) (h8 : j - i ≤ 8) {V : Nat → Nat → Nat → Int64} {v : Nat → Nat → Nat → Option Nat} (hc : z9_CUR g F rk tx i j V v) {s n x : Nat} (hn : n ≤ z9_A_nR g) (hx : z9_rC g tx v s i j n = some x) : x ≤ 99 * z9_rB (j - i) (rk s) := by
  obtain ⟨r, h1, h2, h3⟩ := z9_rC_mem n hx
  have := z9_cur_cnd h hij h8 hc (by omega) h3
  rw [h2] at this; exact this
theorem z9_rB_cB' {g : z9_tA} {F : Nat} {rk : Nat → Nat} (h : z9_gGood g F rk) {i j s x : Nat} (h8 : j - i ≤ 8) (hs : s < z9_A_nS g) (hx : x ≤ 99 * z9_rB (j - i) (rk s)) : x ≤ z9_cB := by
  have h6 := h.1.2.2.1
  have := h.2.2.1 s hs
  exact Nat.le_trans hx (z9_rB_cB h8 (by omega))
theorem z9_cur_right {g : z9_tA} {F : Nat} {rk : Nat → Nat} (h : z9_gGood g F rk) {tx : Nat → Nat} {i j : Nat} (hij : i ≤ j) (h8 : j - i ≤ 8) {V : Nat → Nat → Nat → Int64} {v : Nat → Nat → Nat → Option Nat} (hc : z9_CUR g F rk tx i j V v) {s : Nat} (hs : s < z9_A_nS g) (hy : ∀ y, y < z9_A_nS g → rk y < rk s → V y i j = z9_VS g tx y i j ∧ v y i j = z9_vC g tx y i j) : z9_rS g tx V s i j (z9_A_nR g) = z9_VS g tx s i j ∧ z9_rC g tx v s i j (z9_A_nR g) = z9_vC g tx s i j := by
  have hld : ∀ r k, r < z9_A_nR g → z9_A_hd g r = s → k < z9_A_ln g r → z9_lead g F r k → z9_A_bd g r k < z9_A_nS g ∧ rk (z9_A_bd g r k) < rk s := by
    intro r k hr hh hk hl
    have := (h.1.2.2.2 r hr).2.2.2 k hk
    have h2 := hl.1
    refine ⟨by omega, ?_⟩
    rw [← hh]; exact h.2.2.2 r k hr hk hl
  constructor
  · rw [z9_VS_fix h hs hij h8]
    refine z9_rul_congr _ (fun r hr hh => ?_)
    refine z9_rule_dep z9_s_zm z9_s_mz rfl h.1 (F := F) hr hij (fun s p q a b c d e => (hc.1 s p q a b c d e).1) (fun s a b p _ _ => ⟨(hc.2.1 s a b p).1, z9_VS_nemp h a b⟩) (fun k hk hl => ?_)
    obtain ⟨a, b⟩ := hld r k hr hh hk hl
    exact (hy _ a b).1
  · rw [z9_vC_fix h hs hij h8]
    refine z9_rul_congr _ (fun r hr hh => ?_)
    refine z9_rule_dep z9_none_oadd z9_oadd_none rfl h.1 (F := F) hr hij (fun s p q a b c d e => (hc.1 s p q a b c d e).2) (fun s a b p _ _ => ⟨(hc.2.1 s a b p).2, z9_vC_nemp h a b⟩) (fun k hk hl => ?_)
    obtain ⟨a, b⟩ := hld r k hr hh hk hl
    exact (hy _ a b).2
theorem z9_cur_nemp {g : z9_tA} {F : Nat} {rk : Nat → Nat} (h : z9_gGood g F rk) {tx : Nat → Nat} {p : Nat} {V : Nat → Nat → Nat → Int64} {v : Nat → Nat → Nat → Option Nat} (hc : z9_CUR g F rk tx p p V v) {s : Nat} (hs : s < z9_A_nS g) (he : ¬ z9_emp F s) : z9_rS g tx V s p p (z9_A_nR g) = 0 ∧ z9_rC g tx v s p p (z9_A_nR g) = none :=
  ⟨z9_rul_zero z9_s_zm z9_s_mz rfl h.1 h.2.1 (fun s hs he => (hc.2.1 s hs he p).1) he _ (Nat.le_refl _), z9_rul_zero z9_none_oadd z9_oadd_none rfl h.1 h.2.1 (fun s hs he => (hc.2.1 s hs he p).2) he _ (Nat.le_refl _)⟩
def z9_mFrP (m m' : tM) : Prop := z9_bG m' = z9_bG m ∧ z9_bE m' = z9_bE m ∧ z9_bU m' = z9_bU m ∧ z9_bX m' = z9_bX m ∧ z9_bK m' = z9_bK m ∧ z9_bD m' = z9_bD m ∧ z9_bN m' = z9_bN m ∧ z9_bW m' = z9_bW m ∧ M_code m' = M_code m
theorem z9_mFrP_rfl (m : tM) : z9_mFrP m m := ⟨rfl, rfl, rfl, rfl, rfl, rfl, rfl, rfl, rfl⟩
theorem z9_mFrP_trans {m m' m'' : tM} (h : z9_mFrP m m') (h' : z9_mFrP m' m'') : z9_mFrP m m'' := by
  obtain ⟨a1, a2, a3, a4, a5, a6, a7, a8, a9⟩ := h
  obtain ⟨b1, b2, b3, b4, b5, b6, b7, b8, b9⟩ := h'
  exact ⟨b1.trans a1, b2.trans a2, b3.trans a3, b4.trans a4, b5.trans a5, b6.trans a6, b7.trans a7, b8.trans a8, b9.trans a9⟩
theorem z9_mFrP_put (m m' : tM) : (∀ v, z9_mFrP m (M_put_sums m' v) = z9_mFrP m m') ∧ (∀ v, z9_mFrP m (M_put_least m' v) = z9_mFrP m m') ∧ (∀ v, z9_mFrP m (M_put_rest m' v) = z9_mFrP m m') ∧ (∀ f f', z9_mFrP m (z9_M_put_up m' f f') = z9_mFrP m m') := by
  simp only [z9_mFrP, z9_fG, z9_fE, z9_fU, z9_fX, z9_fK, z9_fD, z9_fN, z9_fW, z9_mp_sums, z9_mp_least, z9_mp_rest, z9_mpu, implies_true, and_self]
theorem z9_mpu_C (m : tM) : (∀ f f', M_sums (z9_M_put_up m f f') = M_sums m) ∧ (∀ f f', M_least (z9_M_put_up m f f') = M_least m) := by
  simp only [z9_M_put_up, z9_mp_upTo, z9_mp_upToNext, implies_true, and_self]
theorem z9_m_rules {m : tM} {g : z9_tA} {F : Nat} {rk : Nat → Nat} (h : z9_gGood g F rk) (hm : z9_mIs m g) {tx : Nat → Nat} {V : Nat → Nat → Nat → Int64} {v : Nat → Nat → Nat → Option Nat} {i j s : Nat} (hC : z9_mCH m g tx V v i j) (hcur : z9_CUR g F rk tx i j V v) (hij : i ≤ j) (hj : j ≤ 8) (hs : s < z9_A_nS g) (z : Int32) :
    ∃ m', F_Md_fillPart_L71 (z9_i32 i) (z9_i32 j) z (z9_i32 s) rn_fu m 0 (-1) 0 = some (z9_rS g tx V s i j (z9_A_nR g), z9_ec (z9_rC g tx v s i j (z9_A_nR g)), m') ∧ z9_mFrP m m' ∧ z9_bC m' = z9_bC m := by
  have hcB : z9_cB = 40000000 := rfl
  obtain ⟨g0, g1, g2, g3⟩ := h.1
  refine z9_forU (L := fun n (st : tM × Int64 × Int32) r => F_Md_fillPart_L71 (z9_i32 i) (z9_i32 j) z (z9_i32 s) n st.1 st.2.1 st.2.2 r) (Q := fun o => ∃ m', o = some (z9_rS g tx V s i j (z9_A_nR g), z9_ec (z9_rC g tx v s i j (z9_A_nR g)), m') ∧ z9_mFrP m m' ∧ z9_bC m' = z9_bC m) (P := fun r st => st.2.1 = z9_rS g tx V s i j r ∧ st.2.2 = z9_ec (z9_rC g tx v s i j r) ∧ z9_mFrP m st.1 ∧ z9_bC st.1 = z9_bC m) (K := z9_A_nR g) 0 (m, 0, -1) (by omega) (by omega) ⟨rfl, rfl, z9_mFrP_rfl m, rfl⟩ ?_ ?_
  · intro n st hP
    obtain ⟨p1, p2, p3, p4⟩ := hP
    refine ⟨st.1, ?_, p3, p4⟩
    simp only [F_Md_fillPart_L71, (z9_mIs_fr hm p3.1).1, Int32.le_refl, if_true, p1, p2]
  · intro n st r hr hP
    obtain ⟨p1, p2, p3, p4⟩ := hP
    have hm1 := z9_mIs_fr hm p3.1
    have hC1 := z9_mCH_fr hC p3.2.1 p4 p3.2.2.2.1
    left
    obtain ⟨b1, b2, b3, b4⟩ := g3 r hr
    simp only [F_Md_fillPart_L71, hm1.1, z9_i32_le (show z9_A_nR g < 2147483648 by omega) (show r < 2147483648 by omega)]
    rw [if_neg (by omega), z9_aG_i (by omega) (by decide), (hm1.2.2 r hr).1]
    simp only [Option.bind_some, z9_i32_inj (show z9_A_hd g r < 2147483648 by omega) (show s < 2147483648 by omega)]
    by_cases hh : z9_A_hd g r = s
    · obtain ⟨f, f', e1⟩ := z9_m_bodySum h.1 hm1 hC1 hij hj hr
      have hm2 : z9_mIs (z9_M_put_up st.1 f f') g := z9_mIs_fr hm1 (by simp only [z9_mpu])
      have hC2 : z9_mCH (z9_M_put_up st.1 f f') g tx V v i j := z9_mCH_fr hC1 (by simp only [z9_mpu]) (by simp only [z9_mpu]) (by simp only [z9_mpu])
      obtain ⟨fr, e2, _⟩ := z9_m_bodyCost h.1 hm2 hC2 hij hj hr
      simp only [hh, not_true, if_false]
      rw [z9_aG_i (by omega) (by decide), (hm1.2.2 r hr).2.2.2.1]
      simp only [Option.bind_some]
      rw [e1]
      simp only [Option.bind_some]
      rw [e2]
      simp only [Option.bind_some]
      have hcost : M_costs (M_put_rest (z9_M_put_up st.1 f f') fr) r = z9_i32 (z9_A_ct g r) := by
        simp only [z9_mp_rest]; exact (hm2.2.2 r hr).2.2.2.2
      rw [z9_aG_i (by omega) (by decide), hcost]
      have fin' : ∀ y, y = z9_ec (z9_omin (z9_rC g tx v s i j r) (z9_cnd g tx v i j r)) → ∃ st' : tM × Int64 × Int32, ((some (st.2.1 + z9_A_wt g r * z9_evS tx V (z9_bl g r) i j, y, M_put_rest (z9_M_put_up st.1 f f') fr)).bind fun x => F_Md_fillPart_L71 (z9_i32 i) (z9_i32 j) z (z9_i32 s) n x.2.2 x.1 x.2.1 (z9_i32 r + 1)) = F_Md_fillPart_L71 (z9_i32 i) (z9_i32 j) z (z9_i32 s) n st'.1 st'.2.1 st'.2.2 (z9_i32 r + 1) ∧ st'.2.1 = z9_rS g tx V s i j (r + 1) ∧ st'.2.2 = z9_ec (z9_rC g tx v s i j (r + 1)) ∧ z9_mFrP m st'.1 ∧ z9_bC st'.1 = z9_bC m := by
        intro y hy
        refine ⟨(M_put_rest (z9_M_put_up st.1 f f') fr, st.2.1 + z9_A_wt g r * z9_evS tx V (z9_bl g r) i j, y), rfl, ?_, ?_, ?_, ?_⟩
        · rw [z9_rS_succ, if_pos hh, p1]
        · rw [z9_rC_succ, if_pos hh, hy]
        · simp only [z9_mFrP_put]; exact p3
        · simp only [z9_fC, z9_mpu]; exact p4
      have hole : z9_ole z9_cB (z9_rC g tx v s i j r) := fun x hx => z9_rB_cB' h (show j - i ≤ 8 by omega) hs (z9_cur_rC h hij (by omega) hcur (by omega) hx)
      cases hev : z9_evC tx v (z9_bl g r) i j with
      | none =>
        have hcn : z9_cnd g tx v i j r = none := by unfold z9_cnd; rw [hev]; rfl
        rw [if_pos (by decide)]
        simp only [Option.bind_some]
        refine fin' st.2.2 ?_
        rw [hcn, z9_omin_none', p2]
      | some y =>
        have hcn : z9_cnd g tx v i j r = some (z9_A_ct g r + y) := by unfold z9_cnd; rw [hev]; rfl
        have hyb : z9_A_ct g r + y ≤ z9_cB := z9_rB_cB' h (show j - i ≤ 8 by omega) hs (by have := z9_cur_cnd h hij (by omega) hcur hr hcn; rw [hh] at this; exact this)
        rw [if_neg (by simp only [z9_ec]; rw [z9_i32_n0 (by omega)]; exact id)]
        have hsum : z9_ec (some y) + z9_i32 (z9_A_ct g r) = z9_ec (some (z9_A_ct g r + y)) := by
          simp only [z9_ec]; rw [z9_i32_add, Nat.add_comm]
        simp only [Option.bind_some, hsum]
        cases hrc : z9_rC g tx v s i j r with
        | none =>
          rw [hrc] at p2
          rw [if_pos (by rw [p2]; decide)]
          simp only [Option.bind_some]
          exact fin' (z9_ec (some (z9_A_ct g r + y))) (by rw [hrc, hcn, z9_omin_none])
        | some w =>
          have hw := hole w hrc
          rw [hrc] at p2
          rw [if_neg (by rw [p2]; simp only [z9_ec]; rw [z9_i32_n0 (by omega)]; exact id)]
          by_cases hlt : z9_A_ct g r + y < w
          · rw [if_neg (by rw [p2, z9_ec_le (by omega) (by omega)]; omega)]
            simp only [Option.bind_some]
            exact fin' (z9_ec (some (z9_A_ct g r + y))) (by rw [hrc, hcn]; simp [z9_omin, z9_olt, hlt])
          · rw [if_pos (by rw [p2, z9_ec_le (by omega) (by omega)]; omega)]
            simp only [Option.bind_some]
            exact fin' st.2.2 (by rw [hrc, hcn, p2]; simp [z9_omin, z9_olt, hlt])
    · simp only [hh, not_false_eq_true, if_true, Option.bind_some]
      refine ⟨st, rfl, ?_, ?_, p3, p4⟩
      · rw [z9_rS_succ, if_neg hh]; exact p1
      · rw [z9_rC_succ, if_neg hh]; exact p2
def z9_idx (s p q : Nat) : Nat := 81 * s + 9 * p + q
def z9_mOut (m m' : tM) (i j : Nat) : Prop := ∀ s p q, s < 6 → p ≤ 8 → q ≤ 8 → ¬ (p = i ∧ q = j) → M_sums m' (z9_idx s p q) = M_sums m (z9_idx s p q) ∧ M_least m' (z9_idx s p q) = M_least m (z9_idx s p q)
def z9_mfin (m : tM) (g : z9_tA) (tx : Nat → Nat) (s p q : Nat) : Prop := (if p = q then M_emptySum m s else M_sums m (z9_idx s p q)) = z9_VS g tx s p q ∧ (if p = q then M_emptyCost m s else M_least m (z9_idx s p q)) = z9_ec (z9_vC g tx s p q)
theorem z9_m_cell {s p q : Nat} : F_Md_cell (z9_i32 s) (z9_i32 p) (z9_i32 q) = some (z9_i32 (z9_idx s p q)) := by
  unfold F_Md_cell z9_idx
  rw [show (81 : Int32) = z9_i32 81 from rfl, show (9 : Int32) = z9_i32 9 from rfl, z9_i32_mul, z9_i32_mul, z9_i32_add, z9_i32_add]
theorem z9_m_fillPart {m : tM} {g : z9_tA} {F : Nat} {rk : Nat → Nat} (h : z9_gGood g F rk) (hm : z9_mIs m g) {tx : Nat → Nat} {i j : Nat} (hij : i < j) (hj : j ≤ 8) (htx : ∀ p, i ≤ p → p < j → M_text m p = z9_i32 (tx p) ∧ tx p ≤ 126)
    (H1 : ∀ s p q, s < z9_A_nS g → i ≤ p → p ≤ q → q ≤ j → ¬ (p = i ∧ q = j) → z9_mfin m g tx s p q) :
    ∃ m', F_Md_fillPart m (z9_i32 i) (z9_i32 j) = some m' ∧ z9_mFrP m m' ∧ z9_mOut m m' i j ∧ ∀ s, s < z9_A_nS g → z9_mfin m' g tx s i j := by
  have hcB : z9_cB = 40000000 := rfl
  obtain ⟨g0, g1, g2, g3⟩ := h.1
 
  have stOK : ∀ (st : tM) (U : Nat → Int64) (u : Nat → Option Nat), z9_mFrP m st → z9_mOut m st i j → (∀ s, s < z9_A_nS g → M_sums st (z9_idx s i j) = U s ∧ M_least st (z9_idx s i j) = z9_ec (u s) ∧ ∀ x, u s = some x → x ≤ 99 * z9_rB (j - i) (rk s)) → z9_mIs st g ∧ z9_mCH st g tx (fun s p q => if p = i ∧ q = j then U s else z9_VS g tx s p q) (fun s p q => if p = i ∧ q = j then u s else z9_vC g tx s p q) i j ∧ z9_CUR g F rk tx i j (fun s p q => if p = i ∧ q = j then U s else z9_VS g tx s p q) (fun s p q => if p = i ∧ q = j then u s else z9_vC g tx s p q) := by
    intro st U u hf ho hU
    have eE := hf.2.1
    have eX := hf.2.2.2.1
    simp only [z9_bE, Prod.mk.injEq] at eE
    simp only [z9_bX, Prod.mk.injEq] at eX
    refine ⟨z9_mIs_fr hm hf.1, ⟨?_, ?_⟩, ?_, ?_, ?_⟩
    · intro s p q hs x1 x2 x3
      by_cases hpq : p = i ∧ q = j
      · obtain ⟨rfl, rfl⟩ := hpq
        obtain ⟨y1, y2, y3⟩ := hU s hs
        simp only [and_self, if_true]
        rw [if_neg (by omega), if_neg (by omega)]
        exact ⟨y1, y2, fun x hx => z9_rB_cB' h (by omega) hs (y3 x hx)⟩
      · simp only [hpq, if_false]
        obtain ⟨y1, y2⟩ := H1 s p q hs x1 x2 x3 hpq
        obtain ⟨z1, z2⟩ := ho s p q (by omega) (by omega) (by omega) hpq
        unfold z9_idx at z1 z2 y1 y2
        rw [eE.1, eE.2, z1, z2]
        exact ⟨y1, y2, z9_v_le h hs x2 (by omega)⟩
    · intro p x1 x2
      rw [eX.2.2]; exact htx p x1 x2
    · intro s p q _ _ _ _ hpq
      simp only [hpq, if_false, and_self]
    · intro s hs he p
      have : ¬ (p = i ∧ p = j) := by omega
      simp only [this, if_false]
      exact ⟨z9_VS_nemp h hs he, z9_vC_nemp h hs he⟩
    · intro s x hs hx
      simp only [and_self, if_true] at hx
      exact (hU s hs).2.2 x hx
  have init : ∃ m1, F_Md_fillPart_L2 (z9_i32 i) (z9_i32 j) rn_fu m 0 = some m1 ∧ z9_mFrP m m1 ∧ z9_mOut m m1 i j ∧ ∀ s, s < z9_A_nS g → M_sums m1 (z9_idx s i j) = 0 ∧ M_least m1 (z9_idx s i j) = -1 := by
    refine z9_forU (L := fun n (st : tM) k => F_Md_fillPart_L2 (z9_i32 i) (z9_i32 j) n st k) (Q := fun o => ∃ m1, o = some m1 ∧ z9_mFrP m m1 ∧ z9_mOut m m1 i j ∧ ∀ s, s < z9_A_nS g → M_sums m1 (z9_idx s i j) = 0 ∧ M_least m1 (z9_idx s i j) = -1) (P := fun k st => z9_mFrP m st ∧ z9_mOut m st i j ∧ ∀ s, s < k → M_sums st (z9_idx s i j) = 0 ∧ M_least st (z9_idx s i j) = -1) (K := z9_A_nS g) 0 m (by omega) (by omega) ⟨z9_mFrP_rfl m, fun s p q _ _ _ _ => ⟨rfl, rfl⟩, fun s hs => by omega⟩ ?_ ?_
    · intro n st hP
      refine ⟨st, ?_, hP⟩
      simp only [F_Md_fillPart_L2, (z9_mIs_fr hm hP.1.1).2.1, Int32.le_refl, if_true]
    · intro n st k hk hP
      obtain ⟨p1, p2, p3⟩ := hP
      left
      have hlt : z9_idx k i j < 486 := by unfold z9_idx; omega
      refine ⟨M_put_least (M_put_sums st (fun x => if x = z9_idx k i j then 0 else M_sums st x)) (fun x => if x = z9_idx k i j then -1 else M_least st x), ?_, ?_, ?_, ?_⟩
      · simp only [F_Md_fillPart_L2, (z9_mIs_fr hm p1.1).2.1, z9_i32_le (show z9_A_nS g < 2147483648 by omega) (show k < 2147483648 by omega)]
        rw [if_neg (by omega), z9_m_cell]
        simp only [Option.bind_some]
        rw [z9_aS_i hlt (by decide)]
        simp only [Option.bind_some, z9_mp_sums]
        rw [z9_aS_i hlt (by decide)]; rfl
      · simp only [z9_mFrP_put]; exact p1
      · intro s p q hs hp hq hn
        simp only [z9_mp_least, z9_mp_sums]
        have hne : z9_idx s p q ≠ z9_idx k i j := by unfold z9_idx; omega
        rw [if_neg hne, if_neg hne]; exact p2 s p q hs hp hq hn
      · intro s hs
        simp only [z9_mp_least, z9_mp_sums]
        by_cases hsk : s = k
        · subst hsk; simp
        · have hne : z9_idx s i j ≠ z9_idx k i j := by unfold z9_idx; omega
          rw [if_neg hne, if_neg hne]; exact p3 s (by omega)
  obtain ⟨m1, i1, i2, i3, i4⟩ := init
  have main : ∃ m', F_Md_fillPart_L42 (z9_i32 i) (z9_i32 j) rn_fu m1 0 = some m' ∧ z9_mFrP m m' ∧ z9_mOut m m' i j ∧ ∀ s, s < z9_A_nS g → z9_mfin m' g tx s i j := by
    refine z9_forU (L := fun n (st : tM) k => F_Md_fillPart_L42 (z9_i32 i) (z9_i32 j) n st k) (Q := fun o => ∃ m', o = some m' ∧ z9_mFrP m m' ∧ z9_mOut m m' i j ∧ ∀ s, s < z9_A_nS g → z9_mfin m' g tx s i j) (P := fun t st => z9_mFrP m st ∧ z9_mOut m st i j ∧ ∃ (U : Nat → Int64) (u : Nat → Option Nat), (∀ s, s < z9_A_nS g → M_sums st (z9_idx s i j) = U s ∧ M_least st (z9_idx s i j) = z9_ec (u s) ∧ ∀ x, u s = some x → x ≤ 99 * z9_rB (j - i) (rk s)) ∧ ∀ s, s < z9_A_nS g → rk s < t → U s = z9_VS g tx s i j ∧ u s = z9_vC g tx s i j) (K := z9_A_nS g + 1) 0 m1 (by omega) (by omega) ⟨i2, i3, fun _ => 0, fun _ => none, fun s hs => ⟨(i4 s hs).1, (i4 s hs).2, fun x hx => by cases hx⟩, fun s _ hh => by omega⟩ ?_ ?_
    · intro n st hP
      obtain ⟨p1, p2, U, u, p3, p4⟩ := hP
      refine ⟨st, ?_, p1, p2, ?_⟩
      · simp only [F_Md_fillPart_L42, (z9_mIs_fr hm p1.1).2.1, z9_i32_lt (show z9_A_nS g < 2147483648 by omega) (show z9_A_nS g + 1 < 2147483648 by omega), Nat.lt_succ_self, if_true]
      · intro s hs
        have := h.2.2.1 s hs
        obtain ⟨y1, y2⟩ := p4 s hs (by omega)
        obtain ⟨z1, z2, _⟩ := p3 s hs
        unfold z9_mfin
        rw [if_neg (by omega), if_neg (by omega), z1, z2, y1, y2]; exact ⟨rfl, rfl⟩
    · intro n st t ht hP
      obtain ⟨p1, p2, U0, u0, p3, p4⟩ := hP
      left
      have inner : ∃ m', F_Md_fillPart_L53 (z9_i32 i) (z9_i32 j) (z9_i32 t) rn_fu st 0 = some m' ∧ z9_mFrP m m' ∧ z9_mOut m m' i j ∧ ∃ (U : Nat → Int64) (u : Nat → Option Nat), (∀ s, s < z9_A_nS g → M_sums m' (z9_idx s i j) = U s ∧ M_least m' (z9_idx s i j) = z9_ec (u s) ∧ ∀ x, u s = some x → x ≤ 99 * z9_rB (j - i) (rk s)) ∧ ∀ s, s < z9_A_nS g → rk s < t + 1 → U s = z9_VS g tx s i j ∧ u s = z9_vC g tx s i j := by
        refine z9_forU (L := fun n (st : tM) k => F_Md_fillPart_L53 (z9_i32 i) (z9_i32 j) (z9_i32 t) n st k) (Q := fun o => ∃ m', o = some m' ∧ z9_mFrP m m' ∧ z9_mOut m m' i j ∧ ∃ (U : Nat → Int64) (u : Nat → Option Nat), (∀ s, s < z9_A_nS g → M_sums m' (z9_idx s i j) = U s ∧ M_least m' (z9_idx s i j) = z9_ec (u s) ∧ ∀ x, u s = some x → x ≤ 99 * z9_rB (j - i) (rk s)) ∧ ∀ s, s < z9_A_nS g → rk s < t + 1 → U s = z9_VS g tx s i j ∧ u s = z9_vC g tx s i j) (P := fun k st => z9_mFrP m st ∧ z9_mOut m st i j ∧ ∃ (U : Nat → Int64) (u : Nat → Option Nat), (∀ s, s < z9_A_nS g → M_sums st (z9_idx s i j) = U s ∧ M_least st (z9_idx s i j) = z9_ec (u s) ∧ ∀ x, u s = some x → x ≤ 99 * z9_rB (j - i) (rk s)) ∧ (∀ s, s < z9_A_nS g → rk s < t → U s = z9_VS g tx s i j ∧ u s = z9_vC g tx s i j) ∧ ∀ s, s < k → s < z9_A_nS g → rk s < t + 1 → U s = z9_VS g tx s i j ∧ u s = z9_vC g tx s i j) (K := z9_A_nS g) 0 st (by omega) (by omega) ⟨p1, p2, U0, u0, p3, p4, fun s hs => by omega⟩ ?_ ?_
        · intro n st1 hP
          obtain ⟨q1, q2, U, u, q3, q4, q5⟩ := hP
          refine ⟨st1, ?_, q1, q2, U, u, q3, fun s hs hh => q5 s hs hs hh⟩
          simp only [F_Md_fillPart_L53, (z9_mIs_fr hm q1.1).2.1, Int32.le_refl, if_true]
        · intro n st1 k hk hP
          obtain ⟨q1, q2, U, u, q3, q4, q5⟩ := hP
          left
          obtain ⟨o1, o2, o3⟩ := stOK st1 U u q1 q2 q3
          obtain ⟨m2, e1, e2, e3⟩ := z9_m_rules h o1 o2 o3 (by omega) hj hk (z9_i32 t)
          simp only [z9_bC, Prod.mk.injEq] at e3
          have hlt : z9_idx k i j < 486 := by unfold z9_idx; omega
         
          have hbnd : ∀ x, z9_rC g tx (fun s p q => if p = i ∧ q = j then u s else z9_vC g tx s p q) k i j (z9_A_nR g) = some x → x ≤ 99 * z9_rB (j - i) (rk k) := fun x hx => z9_cur_rC h (by omega) (by omega) o3 (Nat.le_refl _) hx
          have hright : rk k < t + 1 → z9_rS g tx (fun s p q => if p = i ∧ q = j then U s else z9_VS g tx s p q) k i j (z9_A_nR g) = z9_VS g tx k i j ∧ z9_rC g tx (fun s p q => if p = i ∧ q = j then u s else z9_vC g tx s p q) k i j (z9_A_nR g) = z9_vC g tx k i j := by
            intro hrk
            refine z9_cur_right h (by omega) (by omega) o3 hk ?_
            intro y hy hyk
            simp only [and_self, if_true]
            exact q4 y hy (by omega)
          generalize z9_rS g tx (fun s p q => if p = i ∧ q = j then U s else z9_VS g tx s p q) k i j (z9_A_nR g) = X at *
          generalize z9_rC g tx (fun s p q => if p = i ∧ q = j then u s else z9_vC g tx s p q) k i j (z9_A_nR g) = Y at *
          refine ⟨M_put_least (M_put_sums m2 (fun x => if x = z9_idx k i j then X else M_sums m2 x)) (fun x => if x = z9_idx k i j then z9_ec Y else M_least m2 x), ?_, ?_, ?_, fun s => if s = k then X else U s, fun s => if s = k then Y else u s, ?_, ?_, ?_⟩
          · simp only [F_Md_fillPart_L53, o1.2.1, z9_i32_le (show z9_A_nS g < 2147483648 by omega) (show k < 2147483648 by omega)]
            rw [if_neg (by omega), show F_Md_fillPart_L71 (z9_i32 i) (z9_i32 j) (z9_i32 t) (z9_i32 k) rn_fu st1 0 (-1) 0 = _ from e1]
            simp only [Option.bind_some, z9_m_cell]
            rw [z9_aS_i hlt (by decide)]
            simp only [Option.bind_some, z9_mp_sums]
            rw [z9_aS_i hlt (by decide)]; rfl
          · simp only [z9_mFrP_put]; exact z9_mFrP_trans q1 e2
          · intro s p q hs hp hq hn
            simp only [z9_mp_least, z9_mp_sums]
            have hne : z9_idx s p q ≠ z9_idx k i j := by unfold z9_idx; omega
            rw [if_neg hne, if_neg hne, e3.1, e3.2]; exact q2 s p q hs hp hq hn
          · intro s hs
            simp only [z9_mp_least, z9_mp_sums]
            by_cases hsk : s = k
            · subst hsk; simp only [if_true]; exact ⟨trivial, trivial, hbnd⟩
            · have hne : z9_idx s i j ≠ z9_idx k i j := by unfold z9_idx; omega
              rw [if_neg hne, if_neg hne, e3.1, e3.2, if_neg hsk, if_neg hsk]; exact q3 s hs
          · intro s hs hrk
            by_cases hsk : s = k
            · subst hsk; simp only [if_true]; exact hright (by omega)
            · simp only [hsk, if_false]; exact q4 s hs hrk
          · intro s hs1 hs hrk
            by_cases hsk : s = k
            · subst hsk; simp only [if_true]; exact hright hrk
            · simp only [hsk, if_false]; exact q5 s (by omega) hs hrk
      obtain ⟨m', x1, x2⟩ := inner
      refine ⟨m', ?_, x2⟩
      simp only [F_Md_fillPart_L42, (z9_mIs_fr hm p1.1).2.1, z9_i32_lt (show z9_A_nS g < 2147483648 by omega) (show t < 2147483648 by omega)]
      rw [if_neg (by omega), x1]; rfl
  obtain ⟨m', x1, x2⟩ := main
  refine ⟨m', ?_, x2⟩
  unfold F_Md_fillPart
  rw [i1]
  simp only [Option.bind_some]
  rw [x1]; rfl
def z9_eS (g : z9_tA) (V : Nat → Int64) (r a : Nat) : Nat → Int64
  | 0 => 1
  | k + 1 => if k = a then z9_eS g V r a k else if z9_A_bd g r k < 6 then z9_eS g V r a k * V (z9_A_bd g r k) else 0
theorem z9_m_emptyBody {m : tM} {g : z9_tA} (hg : z9_gOK g) (hm : z9_mIs m g) {V : Nat → Int64} (he : ∀ s, s < z9_A_nS g → M_emptySum m s = V s) {r a : Nat} {x : Int32} (hx : ∀ k, k < 4 → (z9_i32 k = x) = (k = a)) (hr : r < z9_A_nR g) :
    F_Md_emptyBody m (z9_i32 r) x = some (z9_eS g V r a (z9_A_ln g r)) := by
  obtain ⟨h0, h1, h2, h3⟩ := hg
  obtain ⟨b1, b2, b3, b4⟩ := h3 r hr
  obtain ⟨c1, c2, c3, c4, c5⟩ := hm.2.2 r hr
  have key : F_Md_emptyBody_L5 m (z9_i32 r) x rn_fu 1 (z9_i32 0) = some (z9_eS g V r a (z9_A_ln g r)) := by
    refine z9_forU (L := fun n (c : Int64) k => F_Md_emptyBody_L5 m (z9_i32 r) x n c k) (Q := fun o => o = some (z9_eS g V r a (z9_A_ln g r))) (P := fun k c => c = z9_eS g V r a k) (K := z9_A_ln g r) 0 1 (by omega) (by omega) rfl ?_ ?_
    · intro f c hc
      simp only [F_Md_emptyBody_L5]
      rw [z9_aG_i (by omega) (by decide), c2]
      simp only [Option.bind_some, Int32.le_refl, if_true, hc]
    · intro f c k hk hc
      left
      have hbd := b4 k hk
      refine ⟨z9_eS g V r a (k + 1), ?_, rfl⟩
      simp only [F_Md_emptyBody_L5]
      rw [z9_aG_i (by omega) (by decide), c2]
      simp only [Option.bind_some, z9_i32_le (show z9_A_ln g r < 2147483648 by omega) (show k < 2147483648 by omega)]
      rw [if_neg (by omega), show (4 : Int32) = z9_i32 4 from rfl, z9_i32_mul, z9_i32_add, z9_aG_i (by omega) (by decide), c3 k hk]
      simp only [Option.bind_some, hx k (by omega), z9_m_isLetter (show z9_A_bd g r k < 2147483648 by omega), z9_b01_0, hc, z9_eS]
      by_cases hka : k = a
      · simp only [hka, not_true, if_false, if_true, Option.bind_some]
      · simp only [hka, not_false_eq_true, if_true, if_false]
        by_cases h6 : z9_A_bd g r k < 6
        · simp only [show ¬ 6 ≤ z9_A_bd g r k by omega, not_false_eq_true, if_true, h6]
          rw [z9_aG_i (by omega) (by decide), he _ (by omega)]; rfl
        · simp only [show 6 ≤ z9_A_bd g r k by omega, not_true, if_false, h6, Option.bind_some]
  unfold F_Md_emptyBody
  rw [show F_Md_emptyBody_L5 m (z9_i32 r) x rn_fu 1 0 = _ from key]; rfl
theorem z9_evS_sing (tx : Nat → Nat) (V : Nat → Nat → Nat → Int64) (s : Nat) (l : List Nat) (p : Nat) : z9_evS tx V (s :: l) p p = z9_symS tx V s p p * z9_evS tx V l p p := by
  rw [z9_evS_cons, show p + 1 - p = 0 + 1 by omega]
  show 0 + _ = _
  rw [Int64.zero_add, Nat.add_zero]
theorem z9_evC_sing (tx : Nat → Nat) (v : Nat → Nat → Nat → Option Nat) (s : Nat) (l : List Nat) (p : Nat) : z9_evC tx v (s :: l) p p = z9_oadd (z9_symC tx v s p p) (z9_evC tx v l p p) := by
  rw [z9_evC_cons, show p + 1 - p = 0 + 1 by omega]
  show z9_omin none (z9_ter tx v s l p p (p + 0)) = _
  rw [z9_omin_none, Nat.add_zero]; rfl
theorem z9_eS_ev {g : z9_tA} {tx : Nat → Nat} {V : Nat → Nat → Nat → Int64} {r p : Nat} (h4 : z9_A_ln g r ≤ 4) : z9_eS g (fun s => V s p p) r 9 (z9_A_ln g r) = z9_evS tx V (z9_bl g r) p p := by
  have key : ∀ k, k ≤ z9_A_ln g r → z9_eS g (fun s => V s p p) r 9 k * z9_evS tx V (z9_tl g r k (z9_A_ln g r - k)) p p = z9_evS tx V (z9_bl g r) p p := by
    intro k
    induction k with
    | zero => intro _; show 1 * _ = _; rw [Int64.one_mul]; rfl
    | succ k ih =>
      intro hk
      rw [← ih (by omega), z9_tl_cons (show k < z9_A_ln g r by omega), z9_evS_sing]
      simp only [z9_eS]
      rw [if_neg (by omega)]
      by_cases h6 : z9_A_bd g r k < 6
      · rw [if_pos h6, z9_symS_lt h6, Int64.mul_assoc]
      · rw [if_neg h6]
        have : z9_symS tx V (z9_A_bd g r k) p p = 0 := by unfold z9_symS z9_sym; rw [if_neg h6, if_neg (by omega)]
        rw [this]
        simp only [Int64.zero_mul, Int64.mul_zero]
  have := key (z9_A_ln g r) (Nat.le_refl _)
  rw [← this, Nat.sub_self]
  show _ = _ * (if p = p then (1 : Int64) else 0)
  rw [if_pos rfl, Int64.mul_one]
theorem z9_oadd_assoc (a b c : Option Nat) : z9_oadd (z9_oadd a b) c = z9_oadd a (z9_oadd b c) := by
  cases a <;> cases b <;> cases c <;> simp [z9_oadd, Nat.add_assoc]
theorem z9_eC_ev {g : z9_tA} {tx : Nat → Nat} {v : Nat → Nat → Nat → Option Nat} {r p : Nat} (h4 : z9_A_ln g r ≤ 4) : z9_eC g (fun s => v s p p) r 9 (z9_A_ln g r) = z9_evC tx v (z9_bl g r) p p := by
  have key : ∀ k, k ≤ z9_A_ln g r → z9_oadd (z9_eC g (fun s => v s p p) r 9 k) (z9_evC tx v (z9_tl g r k (z9_A_ln g r - k)) p p) = z9_evC tx v (z9_bl g r) p p := by
    intro k
    induction k with
    | zero => intro _; show z9_oadd (some 0) _ = _; rw [z9_oadd_zero]; rfl
    | succ k ih =>
      intro hk
      rw [← ih (by omega), z9_tl_cons (show k < z9_A_ln g r by omega), z9_evC_sing]
      simp only [z9_eC]
      rw [if_neg (by omega)]
      by_cases h6 : z9_A_bd g r k < 6
      · rw [if_pos h6, z9_symC_lt h6, z9_oadd_assoc]
      · rw [if_neg h6]
        have : z9_symC tx v (z9_A_bd g r k) p p = none := by unfold z9_symC z9_sym; rw [if_neg h6, if_neg (by omega)]
        rw [this, z9_none_oadd, z9_oadd_none, z9_none_oadd]
  have := key (z9_A_ln g r) (Nat.le_refl _)
  rw [← this, Nat.sub_self]
  show _ = z9_oadd _ (if p = p then some 0 else none)
  rw [if_pos rfl]
  cases z9_eC g (fun s => v s p p) r 9 (z9_A_ln g r) <;> simp [z9_oadd]
theorem z9_hx_m1 : ∀ l, l < 4 → (z9_i32 l = -1) = (l = 9) := by intro l hl; rw [z9_i32_m1 (by omega)]; exact (eq_false (by omega)).symm
theorem z9_m_emptyRules {m : tM} {g : z9_tA} {F : Nat} {rk : Nat → Nat} (h : z9_gGood g F rk) (hm : z9_mIs m g) (tx : Nat → Nat) {U : Nat → Int64} {u : Nat → Option Nat} {s : Nat} (hU : ∀ s, s < z9_A_nS g → M_emptySum m s = U s ∧ M_emptyCost m s = z9_ec (u s)) (hu : ∀ s, z9_A_nS g ≤ s → u s = none) (hcur : z9_CUR g F rk tx 0 0 (fun s _ _ => U s) (fun s _ _ => u s)) (hs : s < z9_A_nS g) (z : Int32) :
    F_Md_fillEmpty_L56 m z (z9_i32 s) rn_fu 0 (-1) 0 = some (z9_rS g tx (fun s _ _ => U s) s 0 0 (z9_A_nR g), z9_ec (z9_rC g tx (fun s _ _ => u s) s 0 0 (z9_A_nR g))) := by
  have hcB : z9_cB = 40000000 := rfl
  obtain ⟨g0, g1, g2, g3⟩ := h.1
  have hub : ∀ s, s < 6 → z9_ole z9_cB (u s) := by
    intro s hs x hx
    by_cases hsn : s < z9_A_nS g
    · exact z9_rB_cB' h (i := 0) (j := 0) (by omega) hsn (hcur.2.2 s x hsn hx)
    · rw [hu s (by omega)] at hx; cases hx
  refine z9_forU (L := fun n (st : Int64 × Int32) r => F_Md_fillEmpty_L56 m z (z9_i32 s) n st.1 st.2 r) (Q := fun o => o = some (z9_rS g tx (fun s _ _ => U s) s 0 0 (z9_A_nR g), z9_ec (z9_rC g tx (fun s _ _ => u s) s 0 0 (z9_A_nR g)))) (P := fun r st => st.1 = z9_rS g tx (fun s _ _ => U s) s 0 0 r ∧ st.2 = z9_ec (z9_rC g tx (fun s _ _ => u s) s 0 0 r)) (K := z9_A_nR g) 0 (0, -1) (by omega) (by omega) ⟨rfl, rfl⟩ ?_ ?_
  · intro n st hP
    simp only [F_Md_fillEmpty_L56, hm.1, Int32.le_refl, if_true, hP.1, hP.2]
  · intro n st r hr hP
    obtain ⟨p1, p2⟩ := hP
    left
    obtain ⟨b1, b2, b3, b4⟩ := g3 r hr
    simp only [F_Md_fillEmpty_L56, hm.1, z9_i32_le (show z9_A_nR g < 2147483648 by omega) (show r < 2147483648 by omega)]
    rw [if_neg (by omega), z9_aG_i (by omega) (by decide), (hm.2.2 r hr).1]
    simp only [Option.bind_some, z9_i32_inj (show z9_A_hd g r < 2147483648 by omega) (show s < 2147483648 by omega)]
    by_cases hh : z9_A_hd g r = s
    · simp only [hh, not_true, if_false]
      rw [z9_aG_i (by omega) (by decide), (hm.2.2 r hr).2.2.2.1]
      simp only [Option.bind_some]
      rw [z9_m_emptyBody h.1 hm (fun s hs => (hU s hs).1) z9_hx_m1 hr, z9_m_emptyBodyCost h.1 hm (B := z9_cB) (by omega) hub (fun s hs => (hU s hs).2) z9_hx_m1 hr]
      have es : z9_eS g U r 9 (z9_A_ln g r) = z9_evS tx (fun s _ _ => U s) (z9_bl g r) 0 0 := z9_eS_ev (V := fun s _ _ => U s) (p := 0) b2
      have ec' : z9_eC g u r 9 (z9_A_ln g r) = z9_evC tx (fun s _ _ => u s) (z9_bl g r) 0 0 := z9_eC_ev (v := fun s _ _ => u s) (p := 0) b2
      rw [es, ec', z9_aG_i (by omega) (by decide), (hm.2.2 r hr).2.2.2.2]
      simp only [Option.bind_some]
      have fin' : ∀ y, y = z9_ec (z9_omin (z9_rC g tx (fun s _ _ => u s) s 0 0 r) (z9_cnd g tx (fun s _ _ => u s) 0 0 r)) → ∃ st' : Int64 × Int32, ((some (st.1 + z9_A_wt g r * z9_evS tx (fun s _ _ => U s) (z9_bl g r) 0 0, y)).bind fun x => F_Md_fillEmpty_L56 m z (z9_i32 s) n x.1 x.2 (z9_i32 r + 1)) = F_Md_fillEmpty_L56 m z (z9_i32 s) n st'.1 st'.2 (z9_i32 r + 1) ∧ st'.1 = z9_rS g tx (fun s _ _ => U s) s 0 0 (r + 1) ∧ st'.2 = z9_ec (z9_rC g tx (fun s _ _ => u s) s 0 0 (r + 1)) := by
        intro y hy
        refine ⟨(st.1 + z9_A_wt g r * z9_evS tx (fun s _ _ => U s) (z9_bl g r) 0 0, y), rfl, ?_, ?_⟩
        · rw [z9_rS_succ, if_pos hh, p1]
        · rw [z9_rC_succ, if_pos hh, hy]
      have hole : z9_ole z9_cB (z9_rC g tx (fun s _ _ => u s) s 0 0 r) := fun x hx => z9_rB_cB' h (i := 0) (j := 0) (by omega) hs (z9_cur_rC h (Nat.le_refl _) (by omega) hcur (by omega) hx)
      cases hev : z9_evC tx (fun s _ _ => u s) (z9_bl g r) 0 0 with
      | none =>
        have hcn : z9_cnd g tx (fun s _ _ => u s) 0 0 r = none := by unfold z9_cnd; rw [hev]; rfl
        rw [if_pos (by decide)]
        simp only [Option.bind_some]
        exact fin' st.2 (by rw [hcn, z9_omin_none', p2])
      | some y =>
        have hcn : z9_cnd g tx (fun s _ _ => u s) 0 0 r = some (z9_A_ct g r + y) := by unfold z9_cnd; rw [hev]; rfl
        have hyb : z9_A_ct g r + y ≤ z9_cB := z9_rB_cB' h (i := 0) (j := 0) (by omega) hs (by have := z9_cur_cnd h (Nat.le_refl _) (by omega) hcur hr hcn; rw [hh] at this; exact this)
        rw [if_neg (by simp only [z9_ec]; rw [z9_i32_n0 (by omega)]; exact id)]
        have hsum : z9_ec (some y) + z9_i32 (z9_A_ct g r) = z9_ec (some (z9_A_ct g r + y)) := by
          simp only [z9_ec]; rw [z9_i32_add, Nat.add_comm]
        simp only [hsum]
        cases hrc : z9_rC g tx (fun s _ _ => u s) s 0 0 r with
        | none =>
          rw [hrc] at p2
          rw [if_pos (by rw [p2]; decide)]
          simp only [Option.bind_some]
          exact fin' (z9_ec (some (z9_A_ct g r + y))) (by rw [hrc, hcn, z9_omin_none])
        | some w =>
          have hw := hole w hrc
          rw [hrc] at p2
          rw [if_neg (by rw [p2]; simp only [z9_ec]; rw [z9_i32_n0 (by omega)]; exact id)]
          by_cases hlt : z9_A_ct g r + y < w
          · rw [if_neg (by rw [p2, z9_ec_le (by omega) (by omega)]; omega)]
            simp only [Option.bind_some]
            exact fin' (z9_ec (some (z9_A_ct g r + y))) (by rw [hrc, hcn]; simp [z9_omin, z9_olt, hlt])
          · rw [if_pos (by rw [p2, z9_ec_le (by omega) (by omega)]; omega)]
            simp only [Option.bind_some]
            exact fin' st.2 (by rw [hrc, hcn, p2]; simp [z9_omin, z9_olt, hlt])
    · simp only [hh, not_false_eq_true, if_true, Option.bind_some]
      refine ⟨st, rfl, ?_, ?_⟩
      · rw [z9_rS_succ, if_neg hh]; exact p1
      · rw [z9_rC_succ, if_neg hh]; exact p2
theorem z9_m_fillEmpty {m : tM} {g : z9_tA} {F : Nat} {rk : Nat → Nat} (h : z9_gGood g F rk) (hm : z9_mIs m g) (tx : Nat → Nat) :
    ∃ m', F_Md_fillEmpty m = some m' ∧ z9_bG m' = z9_bG m ∧ z9_mFrT m m' ∧ ∀ s, s < z9_A_nS g → M_emptySum m' s = z9_VS g tx s 0 0 ∧ M_emptyCost m' s = z9_ec (z9_vC g tx s 0 0) := by
  obtain ⟨g0, g1, g2, g3⟩ := h.1
  have init : ∃ m1, F_Md_fillEmpty_L2 rn_fu m 0 = some m1 ∧ z9_bG m1 = z9_bG m ∧ z9_mFrT m m1 ∧ ∀ s, s < 6 → M_emptySum m1 s = 0 ∧ M_emptyCost m1 s = -1 := by
    refine z9_forU (L := fun n (st : tM) k => F_Md_fillEmpty_L2 n st k) (Q := fun o => ∃ m1, o = some m1 ∧ z9_bG m1 = z9_bG m ∧ z9_mFrT m m1 ∧ ∀ s, s < 6 → M_emptySum m1 s = 0 ∧ M_emptyCost m1 s = -1) (P := fun k st => z9_bG st = z9_bG m ∧ z9_mFrT m st ∧ ∀ s, s < k → M_emptySum st s = 0 ∧ M_emptyCost st s = -1) (K := 6) 0 m (by omega) (by omega) ⟨rfl, z9_mFrT_rfl m, fun s hs => by omega⟩ ?_ ?_
    · intro n st hP
      refine ⟨st, ?_, hP⟩
      simp only [F_Md_fillEmpty_L2, show (6 : Int32) ≤ z9_i32 6 from by decide, if_true]
    · intro n st k hk hP
      obtain ⟨p1, p2, p3⟩ := hP
      left
      refine ⟨M_put_emptyCost (M_put_emptySum st (fun x => if x = k then 0 else M_emptySum st x)) (fun x => if x = k then -1 else M_emptyCost st x), ?_, ?_, ?_, ?_⟩
      · simp only [F_Md_fillEmpty_L2, show (6 : Int32) = z9_i32 6 from rfl, z9_i32_le (show 6 < 2147483648 by decide) (show k < 2147483648 by omega)]
        rw [if_neg (by omega), z9_aS_i (by omega) (by decide)]
        simp only [Option.bind_some, z9_mp_emptySum]
        rw [z9_aS_i (by omega) (by decide)]; rfl
      · simp only [z9_fG]; exact p1
      · simp only [z9_mFrT_put]; exact p2
      · intro s hs
        simp only [z9_mp_emptyCost, z9_mp_emptySum]
        by_cases hsk : s = k
        · subst hsk; simp
        · rw [if_neg hsk, if_neg hsk]; exact p3 s (by omega)
  obtain ⟨m1, i1, i2, i3, i4⟩ := init
  have main : ∃ m', F_Md_fillEmpty_L30 rn_fu m1 0 = some m' ∧ z9_bG m' = z9_bG m ∧ z9_mFrT m m' ∧ ∀ s, s < z9_A_nS g → M_emptySum m' s = z9_VS g tx s 0 0 ∧ M_emptyCost m' s = z9_ec (z9_vC g tx s 0 0) := by
    refine z9_forU (L := fun n (st : tM) k => F_Md_fillEmpty_L30 n st k) (Q := fun o => ∃ m', o = some m' ∧ z9_bG m' = z9_bG m ∧ z9_mFrT m m' ∧ ∀ s, s < z9_A_nS g → M_emptySum m' s = z9_VS g tx s 0 0 ∧ M_emptyCost m' s = z9_ec (z9_vC g tx s 0 0)) (P := fun t st => z9_bG st = z9_bG m ∧ z9_mFrT m st ∧ ∃ (U : Nat → Int64) (u : Nat → Option Nat), (∀ s, s < z9_A_nS g → M_emptySum st s = U s ∧ M_emptyCost st s = z9_ec (u s)) ∧ (∀ s, z9_A_nS g ≤ s → u s = none) ∧ z9_CUR g F rk tx 0 0 (fun s _ _ => U s) (fun s _ _ => u s) ∧ ∀ s, s < z9_A_nS g → rk s < t → U s = z9_VS g tx s 0 0 ∧ u s = z9_vC g tx s 0 0) (K := z9_A_nS g + 1) 0 m1 (by omega) (by omega) ⟨i2, i3, fun _ => 0, fun _ => none, fun s hs => ⟨(i4 s (by omega)).1, (i4 s (by omega)).2⟩, fun s _ => rfl, ⟨fun s p q _ a b c d => by omega, fun s _ _ _ => ⟨rfl, rfl⟩, fun s x _ hx => by cases hx⟩, fun s _ hh => by omega⟩ ?_ ?_
    · intro n st hP
      obtain ⟨p1, p2, U, u, p3, p4, p5, p6⟩ := hP
      refine ⟨st, ?_, p1, p2, ?_⟩
      · simp only [F_Md_fillEmpty_L30, (z9_mIs_fr hm p1).2.1, z9_i32_lt (show z9_A_nS g < 2147483648 by omega) (show z9_A_nS g + 1 < 2147483648 by omega), Nat.lt_succ_self, if_true]
      · intro s hs
        have := h.2.2.1 s hs
        obtain ⟨y1, y2⟩ := p6 s hs (by omega)
        obtain ⟨z1, z2⟩ := p3 s hs
        rw [z1, z2, y1, y2]; exact ⟨rfl, rfl⟩
    · intro n st t ht hP
      obtain ⟨p1, p2, U0, u0, p3, p4, p5, p6⟩ := hP
      left
      have inner : ∃ m', F_Md_fillEmpty_L40 (z9_i32 t) rn_fu st 0 = some m' ∧ z9_bG m' = z9_bG m ∧ z9_mFrT m m' ∧ ∃ (U : Nat → Int64) (u : Nat → Option Nat), (∀ s, s < z9_A_nS g → M_emptySum m' s = U s ∧ M_emptyCost m' s = z9_ec (u s)) ∧ (∀ s, z9_A_nS g ≤ s → u s = none) ∧ z9_CUR g F rk tx 0 0 (fun s _ _ => U s) (fun s _ _ => u s) ∧ ∀ s, s < z9_A_nS g → rk s < t + 1 → U s = z9_VS g tx s 0 0 ∧ u s = z9_vC g tx s 0 0 := by
        refine z9_forU (L := fun n (st : tM) k => F_Md_fillEmpty_L40 (z9_i32 t) n st k) (Q := fun o => ∃ m', o = some m' ∧ z9_bG m' = z9_bG m ∧ z9_mFrT m m' ∧ ∃ (U : Nat → Int64) (u : Nat → Option Nat), (∀ s, s < z9_A_nS g → M_emptySum m' s = U s ∧ M_emptyCost m' s = z9_ec (u s)) ∧ (∀ s, z9_A_nS g ≤ s → u s = none) ∧ z9_CUR g F rk tx 0 0 (fun s _ _ => U s) (fun s _ _ => u s) ∧ ∀ s, s < z9_A_nS g → rk s < t + 1 → U s = z9_VS g tx s 0 0 ∧ u s = z9_vC g tx s 0 0) (P := fun k st => z9_bG st = z9_bG m ∧ z9_mFrT m st ∧ ∃ (U : Nat → Int64) (u : Nat → Option Nat), (∀ s, s < z9_A_nS g → M_emptySum st s = U s ∧ M_emptyCost st s = z9_ec (u s)) ∧ (∀ s, z9_A_nS g ≤ s → u s = none) ∧ z9_CUR g F rk tx 0 0 (fun s _ _ => U s) (fun s _ _ => u s) ∧ (∀ s, s < z9_A_nS g → rk s < t → U s = z9_VS g tx s 0 0 ∧ u s = z9_vC g tx s 0 0) ∧ ∀ s, s < k → s < z9_A_nS g → rk s < t + 1 → U s = z9_VS g tx s 0 0 ∧ u s = z9_vC g tx s 0 0) (K := z9_A_nS g) 0 st (by omega) (by omega) ⟨p1, p2, U0, u0, p3, p4, p5, p6, fun s hs => by omega⟩ ?_ ?_
        · intro n st1 hP
          obtain ⟨q1, q2, U, u, q3, q4, q5, q6, q7⟩ := hP
          refine ⟨st1, ?_, q1, q2, U, u, q3, q4, q5, fun s hs hh => q7 s hs hs hh⟩
          simp only [F_Md_fillEmpty_L40, (z9_mIs_fr hm q1).2.1, Int32.le_refl, if_true]
        · intro n st1 k hk hP
          obtain ⟨q1, q2, U, u, q3, q4, q5, q6, q7⟩ := hP
          left
          have o1 := z9_mIs_fr hm q1
          have e1 := z9_m_emptyRules h o1 tx q3 q4 q5 hk (z9_i32 t)
          have hbnd : ∀ x, z9_rC g tx (fun s _ _ => u s) k 0 0 (z9_A_nR g) = some x → x ≤ 99 * z9_rB (0 - 0) (rk k) := fun x hx => z9_cur_rC h (Nat.le_refl _) (by omega) q5 (Nat.le_refl _) hx
          have hright : rk k < t + 1 → z9_rS g tx (fun s _ _ => U s) k 0 0 (z9_A_nR g) = z9_VS g tx k 0 0 ∧ z9_rC g tx (fun s _ _ => u s) k 0 0 (z9_A_nR g) = z9_vC g tx k 0 0 := by
            intro hrk
            exact z9_cur_right h (Nat.le_refl _) (by omega) q5 hk (fun y hy hyk => q6 y hy (by omega))
          have hnem : ¬ z9_emp F k → z9_rS g tx (fun s _ _ => U s) k 0 0 (z9_A_nR g) = 0 ∧ z9_rC g tx (fun s _ _ => u s) k 0 0 (z9_A_nR g) = none := fun he => z9_cur_nemp h q5 hk he
          generalize z9_rS g tx (fun s _ _ => U s) k 0 0 (z9_A_nR g) = X at *
          generalize z9_rC g tx (fun s _ _ => u s) k 0 0 (z9_A_nR g) = Y at *
          refine ⟨M_put_emptyCost (M_put_emptySum st1 (fun x => if x = k then X else M_emptySum st1 x)) (fun x => if x = k then z9_ec Y else M_emptyCost st1 x), ?_, ?_, ?_, fun s => if s = k then X else U s, fun s => if s = k then Y else u s, ?_, ?_, ⟨?_, ?_, ?_⟩, ?_, ?_⟩
          · simp only [F_Md_fillEmpty_L40, o1.2.1, z9_i32_le (show z9_A_nS g < 2147483648 by omega) (show k < 2147483648 by omega)]
            rw [if_neg (by omega), e1]
            simp only [Option.bind_some]
            rw [z9_aS_i (by omega) (by decide)]
            simp only [Option.bind_some, z9_mp_emptySum]
            rw [z9_aS_i (by omega) (by decide)]; rfl
          · simp only [z9_fG]; exact q1
          · simp only [z9_mFrT_put]; exact q2
          · intro s hs
            simp only [z9_mp_emptyCost, z9_mp_emptySum]
            by_cases hsk : s = k
            · subst hsk; simp only [if_true, and_self]
            · simp only [hsk, if_false]; exact q3 s hs
          · intro s hs
            show (if s = k then Y else u s) = none
            rw [if_neg (by omega)]; exact q4 s hs
          · intro s p q _ a b c d; omega
          · intro s hs he p
            by_cases hsk : s = k
            · subst hsk; simp only [if_true]; exact hnem he
            · simp only [hsk, if_false]; exact q5.2.1 s hs he p
          · intro s x hs hx
            by_cases hsk : s = k
            · subst hsk; simp only [if_true] at hx; exact hbnd x hx
            · simp only [hsk, if_false] at hx; exact q5.2.2 s x hs hx
          · intro s hs hrk
            by_cases hsk : s = k
            · subst hsk; simp only [if_true]; exact hright (by omega)
            · simp only [hsk, if_false]; exact q6 s hs hrk
          · intro s hs1 hs hrk
            by_cases hsk : s = k
            · subst hsk; simp only [if_true]; exact hright hrk
            · simp only [hsk, if_false]; exact q7 s (by omega) hs hrk
      obtain ⟨m', x1, x2⟩ := inner
      refine ⟨m', ?_, x2⟩
      simp only [F_Md_fillEmpty_L30, (z9_mIs_fr hm p1).2.1, z9_i32_lt (show z9_A_nS g < 2147483648 by omega) (show t < 2147483648 by omega)]
      rw [if_neg (by omega), x1]; rfl
  obtain ⟨m', x1, x2⟩ := main
  refine ⟨m', ?_, x2⟩
  unfold F_Md_fillEmpty
  rw [i1]
  simp only [Option.bind_some]
  rw [x1]; rfl
