theorem z9_pDR_cf {d : tD} {dr : Nat → Int32} {n : Nat} (h : z9_pDR d dr n) : z9_rCF d n (fun k => (dr k).toNatClampNeg) ∧ z9_rSF dr n (fun k => (dr k).toNatClampNeg) := by
  obtain ⟨h1, h2, h3⟩ := h
  refine ⟨⟨h1, h2, ?_⟩, ?_⟩
  · intro k hk
    obtain ⟨e, c, hc, hd⟩ := h3 k hk
    have : (dr k).toNatClampNeg = c := by rw [hd, z9_i32_nat (by omega)]
    simp only [this]
    exact ⟨by rw [e, hd], by omega⟩
  · intro k hk
    obtain ⟨e, c, hc, hd⟩ := h3 k hk
    have : (dr k).toNatClampNeg = c := by rw [hd, z9_i32_nat (by omega)]
    simp only [this]; exact hd
def z9_isTx (cf : Nat → Nat) (n : Nat) : Prop := n ≤ 8 ∧ ∀ k, k < n → 97 ≤ cf k ∧ cf k ≤ 122
theorem z9_c_isText {d : tD} {n : Nat} {cf : Nat → Nat} (hd : z9_rCF d n cf) : (z9_isTx cf n → F_Dr_isText d = some 1) ∧ (¬ z9_isTx cf n → F_Dr_isText d = some 0) := by
  have hn := hd.1
  have key : n ≤ 8 → ((∀ k, k < n → 97 ≤ cf k ∧ cf k ≤ 122) ∧ F_Dr_isText_L13 d rn_fu 0 = some (.inr ())) ∨ ((¬ ∀ k, k < n → 97 ≤ cf k ∧ cf k ≤ 122) ∧ F_Dr_isText_L13 d rn_fu 0 = some (.inl 0)) := by
    intro h8
    refine z9_forU (L := fun f (_ : Unit) k => F_Dr_isText_L13 d f k) (Q := fun o => ((∀ k, k < n → 97 ≤ cf k ∧ cf k ≤ 122) ∧ o = some (.inr ())) ∨ ((¬ ∀ k, k < n → 97 ≤ cf k ∧ cf k ≤ 122) ∧ o = some (.inl 0))) (P := fun k _ => ∀ l, l < k → 97 ≤ cf l ∧ cf l ≤ 122) (K := n) 0 () (by omega) (by omega) (fun l hl => by omega) ?_ ?_
    · intro f _ hP
      left
      refine ⟨hP, ?_⟩
      simp only [F_Dr_isText_L13, hd.2.1, Int32.le_refl, if_true]
    · intro f _ k hk hP
      have hc := hd.2.2 k hk
      simp only [F_Dr_isText_L13, hd.2.1, z9_i32_le (show n < 2147483648 by omega) (show k < 2147483648 by omega)]
      rw [if_neg (by omega), z9_aG_i (by omega) (by decide), hc.1]
      simp only [Option.bind_some, z9_r_small (show cf k < 2147483648 by omega), z9_b01_0]
      by_cases hs : 97 ≤ cf k ∧ cf k ≤ 122
      · left
        simp only [hs, and_self, not_true, not_false_eq_true, if_true]
        refine ⟨(), trivial, ?_⟩
        intro l hl
        by_cases hlk : l = k
        · subst hlk; exact hs
        · exact hP l (by omega)
      · right; right
        simp only [hs, not_false_eq_true, not_true, if_false]
        exact ⟨fun q => hs (q k hk), trivial⟩
  unfold F_Dr_isText
  simp only [hd.2.1, show (8 : Int32) = z9_i32 8 from rfl, z9_i32_le (show n < 2147483648 by omega) (show 8 < 2147483648 by decide)]
  constructor
  · intro ⟨h8, hall⟩
    rw [if_pos h8]
    rcases key h8 with ⟨_, e⟩ | ⟨hne, _⟩
    · rw [e]; rfl
    · exact absurd hall hne
  · intro hnt
    by_cases h8 : n ≤ 8
    · rw [if_pos h8]
      rcases key h8 with ⟨hall, _⟩ | ⟨_, e⟩
      · exact absurd ⟨h8, hall⟩ hnt
      · rw [e]; rfl
    · rw [if_neg h8]
theorem z9_m_isText {m : tM} {n : Nat} {cf : Nat → Nat} (hn : n ≤ 300) (hm : z9_rSF (M_draft m) n cf) (hc : ∀ k, k < n → cf k ≤ 126) (y : Int32) (hy : (n ≤ 8 ∧ y = 1) ∨ (¬ n ≤ 8 ∧ y = 0)) : (z9_isTx cf n → F_Md_parse_L24 m (z9_i32 n) rn_fu y 0 = some 1) ∧ (¬ z9_isTx cf n → F_Md_parse_L24 m (z9_i32 n) rn_fu y 0 = some 0) := by
  have key : ((z9_isTx cf n) ∧ F_Md_parse_L24 m (z9_i32 n) rn_fu y 0 = some 1) ∨ ((¬ z9_isTx cf n) ∧ F_Md_parse_L24 m (z9_i32 n) rn_fu y 0 = some 0) := by
    refine z9_forU (L := fun f (st : Int32) k => F_Md_parse_L24 m (z9_i32 n) f st k) (Q := fun o => ((z9_isTx cf n) ∧ o = some 1) ∨ ((¬ z9_isTx cf n) ∧ o = some 0)) (P := fun k st => (n ≤ 8 ∧ (∀ l, l < k → 97 ≤ cf l ∧ cf l ≤ 122) ∧ st = 1) ∨ (¬ z9_isTx cf n ∧ st = 0)) (K := n) 0 y (by omega) (by omega) ?_ ?_ ?_
    · rcases hy with ⟨h1, h2⟩ | ⟨h1, h2⟩
      · exact Or.inl ⟨h1, fun l hl => by omega, h2⟩
      · exact Or.inr ⟨fun q => h1 q.1, h2⟩
    · intro f st hP
      simp only [F_Md_parse_L24, Int32.le_refl, if_true]
      rcases hP with ⟨h1, h2, rfl⟩ | ⟨h1, rfl⟩
      · exact Or.inl ⟨⟨h1, h2⟩, rfl⟩
      · exact Or.inr ⟨h1, rfl⟩
    · intro f st k hk hP
      left
      simp only [F_Md_parse_L24, z9_i32_le (show n < 2147483648 by omega) (show k < 2147483648 by omega)]
      rw [if_neg (by omega)]
      rcases hP with ⟨h1, h2, rfl⟩ | ⟨h1, rfl⟩
      · have hck := hc k hk
        rw [if_neg (by decide), z9_aG_i (by omega) (by decide), hm k hk]
        simp only [Option.bind_some, z9_r_smallM (show cf k < 2147483648 by omega), z9_b01_0]
        by_cases hs : 97 ≤ cf k ∧ cf k ≤ 122
        · refine ⟨1, by simp [hs], Or.inl ⟨h1, ?_, rfl⟩⟩
          intro l hl
          by_cases hlk : l = k
          · subst hlk; exact hs
          · exact h2 l (by omega)
        · refine ⟨0, by simp [hs], Or.inr ⟨fun q => hs (q.2 k hk), rfl⟩⟩
      · refine ⟨0, by simp, Or.inr ⟨h1, rfl⟩⟩
  rcases key with ⟨h1, h2⟩ | ⟨h1, h2⟩
  · exact ⟨fun _ => h2, fun q => absurd h1 q⟩
  · exact ⟨fun q => absurd q h1, fun _ => h2⟩
theorem z9_rn_ch_i {c : Nat} (h : c ≤ 126) : rn_ch (z9_i32 c) = z9_i32 c := by
  have : ∀ c : Fin 127, rn_ch (z9_i32 c.1) = z9_i32 c.1 := by decide
  exact this ⟨c, by omega⟩
theorem z9_c_takeText {d : tD} {c : tC} {n : Nat} {cf : Nat → Nat} (hd : z9_rCF d n cf) (h8 : n ≤ 8) : ∃ c', F_Ch_takeText d c = some c' ∧ (∀ x, z9_cEq c c' x) ∧ C_textLength c' = z9_i32 n ∧ ∀ p, p < n → C_letters c' p = z9_i32 (cf p) := by
  have key : ∃ c', F_Ch_takeText_L10 d rn_fu (C_sums c, C_costs c, C_rules c, C_sizes c, C_lengths c, C_letters c, D_length d, C_restSums c, C_restCosts c, C_restLengths c) 0 = some c' ∧ (∀ x, z9_cEq c c' x) ∧ C_textLength c' = z9_i32 n ∧ ∀ p, p < n → C_letters c' p = z9_i32 (cf p) := by
    refine z9_forU (L := fun f (st : tC) k => F_Ch_takeText_L10 d f st k) (Q := fun o => ∃ c', o = some c' ∧ (∀ x, z9_cEq c c' x) ∧ C_textLength c' = z9_i32 n ∧ ∀ p, p < n → C_letters c' p = z9_i32 (cf p)) (P := fun k st => (∀ x, z9_cEq c st x) ∧ C_textLength st = z9_i32 n ∧ ∀ p, p < k → C_letters st p = z9_i32 (cf p)) (K := n) 0 (C_sums c, C_costs c, C_rules c, C_sizes c, C_lengths c, C_letters c, D_length d, C_restSums c, C_restCosts c, C_restLengths c) (by omega) (by omega) ⟨?_, ?_, fun p hp => by omega⟩ ?_ ?_
    · intro x; unfold z9_cEq; simp only [z9_ct, and_self]
    · simp only [z9_ct]; exact hd.2.1
    · intro f st hP
      refine ⟨st, ?_, hP⟩
      simp only [F_Ch_takeText_L10, hP.2.1, Int32.le_refl, if_true]
    · intro f st k hk hP
      obtain ⟨p1, p2, p3⟩ := hP
      left
      have hc := hd.2.2 k hk
      refine ⟨(C_sums st, C_costs st, C_rules st, C_sizes st, C_lengths st, (fun p => if p = k then z9_i32 (cf k) else C_letters st p), C_textLength st, C_restSums st, C_restCosts st, C_restLengths st), ?_, ?_, ?_, ?_⟩
      · simp only [F_Ch_takeText_L10, p2, z9_i32_le (show n < 2147483648 by omega) (show k < 2147483648 by omega)]
        rw [if_neg (by omega), z9_aG_i (by omega) (by decide), hc.1]
        simp only [Option.bind_some, z9_rn_ch_i hc.2]
        rw [z9_aS_i (by omega) (by decide)]; rfl
      · intro x; have := p1 x; unfold z9_cEq at *; simp only [z9_ct]; exact this
      · simp only [z9_ct]; exact p2
      · intro p hp
        simp only [z9_ct]
        by_cases hpk : p = k
        · rw [if_pos hpk, hpk]
        · rw [if_neg hpk]; exact p3 p (by omega)
  obtain ⟨c', k1, k2⟩ := key
  refine ⟨c', ?_, k2⟩
  unfold F_Ch_takeText; rw [k1]; rfl
theorem z9_cW_eq {c c' : tC} (h : ∀ x, z9_cEq c c' x) (hW : z9_cW c) : z9_cW c' := by
  intro s p q hs hp hq
  obtain ⟨e1, e2, _⟩ := h (z9_cel s p q)
  rw [e1, e2]; exact hW s p q hs hp hq
theorem z9_c_fillText {c : tC} {a : tG} {g : z9_tA} {F : Nat} {rk od : Nat → Nat} (h : z9_gGood g F rk) (ha : z9_gIs a g) (ho : z9_ordF g rk od (G_order a)) (hW : z9_cW c) {tx : Nat → Nat} {n : Nat} (hn : n ≤ 8) (hl : ∀ p, p < n → C_letters c p = z9_i32 (tx p) ∧ tx p ≤ 126) (hL : C_textLength c = z9_i32 n) (h0 : ∀ s p, s < z9_A_nS g → z9_fin c g tx s p p) :
    ∃ c', F_Ch_fillText c a = some c' ∧ z9_cTx c c' ∧ z9_cW c' ∧ ∀ s p q, s < z9_A_nS g → p ≤ q → q ≤ n → z9_fin c' g tx s p q := by
  have h6 := h.1.2.2.1
  have main : ∃ c', F_Ch_fillText_L2 a rn_fu c 1 = some c' ∧ z9_cTx c c' ∧ z9_cW c' ∧ ∀ s p q, s < z9_A_nS g → p ≤ q → q ≤ n → z9_fin c' g tx s p q := by
    refine z9_forU (L := fun f (st : tC) k => F_Ch_fillText_L2 a f st k) (Q := fun o => ∃ c', o = some c' ∧ z9_cTx c c' ∧ z9_cW c' ∧ ∀ s p q, s < z9_A_nS g → p ≤ q → q ≤ n → z9_fin c' g tx s p q) (P := fun l st => 1 ≤ l ∧ z9_cTx c st ∧ z9_cW st ∧ ∀ s p q, s < z9_A_nS g → p ≤ q → q ≤ n → q - p < l → z9_fin st g tx s p q) (K := n + 1) 1 c (by omega) (by omega) ⟨by omega, ⟨rfl, rfl⟩, hW, ?_⟩ ?_ ?_
    · intro s p q hs h1 h2 h3
      have : p = q := by omega
      subst this; exact h0 s p hs
    · intro f st hP
      obtain ⟨_, p1, p2, p3⟩ := hP
      refine ⟨st, ?_, p1, p2, fun s p q hs x1 x2 => p3 s p q hs x1 x2 (by omega)⟩
      simp only [F_Ch_fillText_L2, p1.2, hL, z9_i32_lt (show n < 2147483648 by omega) (show n + 1 < 2147483648 by omega), Nat.lt_succ_self, if_true]
    · intro f st l hln hP
      obtain ⟨hl1, p1, p2, p3⟩ := hP
      left
      have inner : ∃ c', F_Ch_fillText_L12 a (z9_i32 l) rn_fu st 0 = some c' ∧ z9_cTx c c' ∧ z9_cW c' ∧ ∀ s p q, s < z9_A_nS g → p ≤ q → q ≤ n → q - p < l + 1 → z9_fin c' g tx s p q := by
        refine z9_forU (L := fun f (st : tC) k => F_Ch_fillText_L12 a (z9_i32 l) f st k) (Q := fun o => ∃ c', o = some c' ∧ z9_cTx c c' ∧ z9_cW c' ∧ ∀ s p q, s < z9_A_nS g → p ≤ q → q ≤ n → q - p < l + 1 → z9_fin c' g tx s p q) (P := fun i st => z9_cTx c st ∧ z9_cW st ∧ ∀ s p q, s < z9_A_nS g → p ≤ q → q ≤ n → (q - p < l ∨ (q - p = l ∧ p < i)) → z9_fin st g tx s p q) (K := n + 1 - l) 0 st (by omega) (by omega) ⟨p1, p2, ?_⟩ ?_ ?_
        · intro s p q hs x1 x2 x3
          rcases x3 with x3 | ⟨_, x3⟩
          · exact p3 s p q hs x1 x2 x3
          · omega
        · intro f st1 hP1
          obtain ⟨q1, q2, q3⟩ := hP1
          refine ⟨st1, ?_, q1, q2, ?_⟩
          · simp only [F_Ch_fillText_L12, q1.2, hL, z9_i32_add, z9_i32_lt (show n < 2147483648 by omega) (show n + 1 - l + l < 2147483648 by omega)]
            rw [if_pos (by omega)]
          · intro s p q hs x1 x2 x3
            refine q3 s p q hs x1 x2 ?_
            by_cases hh : q - p < l
            · exact Or.inl hh
            · exact Or.inr ⟨by omega, by omega⟩
        · intro f st1 i hi hP1
          obtain ⟨q1, q2, q3⟩ := hP1
          left
          obtain ⟨c', e1, e2, e3, e4, e5⟩ := z9_c_fillPart (c := st1) h ha ho q2 (tx := tx) (i := i) (j := i + l) (by omega) (by omega) (fun p hp => by rw [q1.1]; exact hl p (by omega)) (by
            intro s p q hs x1 x2 x3 x4
            refine q3 s p q hs x2 (by omega) (Or.inl ?_)
            unfold z9_spt at x4
            by_cases hpi : p = i
            · omega
            · omega)
          refine ⟨c', ?_, ⟨e2.1.trans q1.1, e2.2.trans q1.2⟩, e3, ?_⟩
          · simp only [F_Ch_fillText_L12, q1.2, hL, z9_i32_add, z9_i32_lt (show n < 2147483648 by omega) (show i + l < 2147483648 by omega)]
            rw [if_neg (by omega), e1]; rfl
          · intro s p q hs x1 x2 x3
            by_cases hsp : z9_spt i (i + l) p q
            · rcases hsp with ⟨y1, y2⟩ | ⟨y1, y2⟩
              · omega
              · subst y1; subst y2; exact e5 s hs
            · refine z9_fin_eq (e4 s p q (by omega) x1 (by omega) hsp) (q3 s p q hs x1 x2 ?_)
              rcases x3 with x3 | ⟨x3, x4⟩
              · exact Or.inl x3
              · refine Or.inr ⟨x3, ?_⟩
                unfold z9_spt at hsp
                omega
      obtain ⟨c', x1, x2, x3, x4⟩ := inner
      refine ⟨c', ?_, by omega, x2, x3, x4⟩
      simp only [F_Ch_fillText_L2, p1.2, hL, z9_i32_lt (show n < 2147483648 by omega) (show l < 2147483648 by omega)]
      rw [if_neg (by omega), x1]; rfl
  obtain ⟨c', x1, x2⟩ := main
  refine ⟨c', ?_, x2⟩
  unfold F_Ch_fillText; rw [x1]; rfl
theorem z9_mfin_out {m m' : tM} {g : z9_tA} {tx : Nat → Nat} {s p q i j : Nat} (hf : z9_mfin m g tx s p q) (he : z9_bE m' = z9_bE m) (ho : z9_mOut m m' i j) (hs : s < 6) (hp : p ≤ 8) (hq : q ≤ 8) (hn : ¬ (p = i ∧ q = j)) : z9_mfin m' g tx s p q := by
  simp only [z9_bE, Prod.mk.injEq] at he
  obtain ⟨o1, o2⟩ := ho s p q hs hp hq hn
  unfold z9_mfin at *
  rw [he.1, he.2, o1, o2]; exact hf
theorem z9_m_fillText {m : tM} {g : z9_tA} {F : Nat} {rk : Nat → Nat} (h : z9_gGood g F rk) (hm : z9_mIs m g) {tx : Nat → Nat} {n : Nat} (hn : n ≤ 8) (htx : ∀ p, p < n → M_text m p = z9_i32 (tx p) ∧ tx p ≤ 126) (h0 : ∀ s p, s < z9_A_nS g → z9_mfin m g tx s p p) :
    ∃ m', F_Md_parse_L132 (z9_i32 n) rn_fu m 1 = some m' ∧ z9_mFrP m m' ∧ ∀ s p q, s < z9_A_nS g → p ≤ q → q ≤ n → z9_mfin m' g tx s p q := by
  have h6 := h.1.2.2.1
  have htx' : ∀ (st : tM), z9_mFrP m st → ∀ p, p < n → M_text st p = z9_i32 (tx p) ∧ tx p ≤ 126 := by
    intro st hst p hp
    have e := hst.2.2.2.1
    simp only [z9_bX, Prod.mk.injEq] at e
    rw [e.2.2]; exact htx p hp
  refine z9_forU (L := fun f (st : tM) k => F_Md_parse_L132 (z9_i32 n) f st k) (Q := fun o => ∃ m', o = some m' ∧ z9_mFrP m m' ∧ ∀ s p q, s < z9_A_nS g → p ≤ q → q ≤ n → z9_mfin m' g tx s p q) (P := fun l st => 1 ≤ l ∧ z9_mFrP m st ∧ ∀ s p q, s < z9_A_nS g → p ≤ q → q ≤ n → q - p < l → z9_mfin st g tx s p q) (K := n + 1) 1 m (by omega) (by omega) ⟨by omega, z9_mFrP_rfl m, ?_⟩ ?_ ?_
  · intro s p q hs h1 h2 h3
    have : p = q := by omega
    subst this; exact h0 s p hs
  · intro f st hP
    obtain ⟨_, p1, p3⟩ := hP
    refine ⟨st, ?_, p1, fun s p q hs x1 x2 => p3 s p q hs x1 x2 (by omega)⟩
    simp only [F_Md_parse_L132, z9_i32_lt (show n < 2147483648 by omega) (show n + 1 < 2147483648 by omega), Nat.lt_succ_self, if_true]
  · intro f st l hln hP
    obtain ⟨hl1, p1, p3⟩ := hP
    left
    have inner : ∃ m', F_Md_parse_L140 (z9_i32 n) (z9_i32 l) rn_fu st 0 = some m' ∧ z9_mFrP m m' ∧ ∀ s p q, s < z9_A_nS g → p ≤ q → q ≤ n → q - p < l + 1 → z9_mfin m' g tx s p q := by
      refine z9_forU (L := fun f (st : tM) k => F_Md_parse_L140 (z9_i32 n) (z9_i32 l) f st k) (Q := fun o => ∃ m', o = some m' ∧ z9_mFrP m m' ∧ ∀ s p q, s < z9_A_nS g → p ≤ q → q ≤ n → q - p < l + 1 → z9_mfin m' g tx s p q) (P := fun i st => z9_mFrP m st ∧ ∀ s p q, s < z9_A_nS g → p ≤ q → q ≤ n → (q - p < l ∨ (q - p = l ∧ p < i)) → z9_mfin st g tx s p q) (K := n + 1 - l) 0 st (by omega) (by omega) ⟨p1, ?_⟩ ?_ ?_
      · intro s p q hs x1 x2 x3
        rcases x3 with x3 | ⟨_, x3⟩
        · exact p3 s p q hs x1 x2 x3
        · omega
      · intro f st1 hP1
        obtain ⟨q1, q3⟩ := hP1
        refine ⟨st1, ?_, q1, ?_⟩
        · simp only [F_Md_parse_L140, z9_i32_add, z9_i32_lt (show n < 2147483648 by omega) (show n + 1 - l + l < 2147483648 by omega)]
          rw [if_pos (by omega)]
        · intro s p q hs x1 x2 x3
          refine q3 s p q hs x1 x2 ?_
          by_cases hh : q - p < l
          · exact Or.inl hh
          · exact Or.inr ⟨by omega, by omega⟩
      · intro f st1 i hi hP1
        obtain ⟨q1, q3⟩ := hP1
        left
        obtain ⟨m', e1, e2, e4, e5⟩ := z9_m_fillPart (m := st1) h (z9_mIs_fr hm q1.1) (tx := tx) (i := i) (j := i + l) (by omega) (by omega) (fun p _ hp => htx' st1 q1 p (by omega)) (by
          intro s p q hs x1 x2 x3 x4
          refine q3 s p q hs x2 (by omega) (Or.inl ?_)
          by_cases hpi : p = i
          · omega
          · omega)
        refine ⟨m', ?_, z9_mFrP_trans q1 e2, ?_⟩
        · simp only [F_Md_parse_L140, z9_i32_add, z9_i32_lt (show n < 2147483648 by omega) (show i + l < 2147483648 by omega)]
          rw [if_neg (by omega), e1]; rfl
        · intro s p q hs x1 x2 x3
          by_cases hsp : p = i ∧ q = i + l
          · obtain ⟨rfl, rfl⟩ := hsp; exact e5 s hs
          · refine z9_mfin_out (q3 s p q hs x1 x2 ?_) e2.2.1 e4 (by omega) (by omega) (by omega) hsp
            rcases x3 with x3 | ⟨x3, x4⟩
            · exact Or.inl x3
            · exact Or.inr ⟨x3, by omega⟩
    obtain ⟨m', x1, x2, x4⟩ := inner
    refine ⟨m', ?_, by omega, x2, x4⟩
    simp only [F_Md_parse_L132, z9_i32_lt (show n < 2147483648 by omega) (show l < 2147483648 by omega)]
    rw [if_neg (by omega), x1]; rfl
def z9_plc (g : z9_tA) (tx : Nat → Nat) (t : tT) : List (Nat × Nat × Nat) → Nat → Prop
  | [], _ => True
  | x :: Q, pos => (pos < 100 → T_symbols t pos = z9_i32 x.1 ∧ T_starts t pos = z9_i32 x.2.1 ∧ T_ends t pos = z9_i32 x.2.2) ∧ z9_plc g tx t Q (pos + z9_sz g tx x.1 x.2.1 x.2.2)
def z9_tsz (g : z9_tA) (tx : Nat → Nat) : List (Nat × Nat × Nat) → Nat
  | [] => 0
  | x :: Q => z9_sz g tx x.1 x.2.1 x.2.2 + z9_tsz g tx Q
theorem z9_tsz_app (g : z9_tA) (tx : Nat → Nat) : ∀ Q Q', z9_tsz g tx (Q ++ Q') = z9_tsz g tx Q + z9_tsz g tx Q' := by
  intro Q
  induction Q with
  | nil => intro Q'; simp [z9_tsz]
  | cons x Q ih => intro Q'; simp only [List.cons_append, z9_tsz, ih]; omega
theorem z9_tsz_len (g : z9_tA) (tx : Nat → Nat) : ∀ Q, (Q.flatMap (fun c => z9_nd g tx c.1 c.2.1 c.2.2)).length = z9_tsz g tx Q := by
  intro Q
  induction Q with
  | nil => rfl
  | cons x Q ih => rw [List.flatMap_cons, List.length_append, ih]; rfl
theorem z9_plc_app {g : z9_tA} {tx : Nat → Nat} {t : tT} : ∀ Q Q' pos, z9_plc g tx t Q pos → z9_plc g tx t Q' (pos + z9_tsz g tx Q) → z9_plc g tx t (Q ++ Q') pos := by
  intro Q
  induction Q with
  | nil => intro Q' pos _ h; simpa [z9_tsz] using h
  | cons x Q ih =>
    intro Q' pos h h'
    simp only [List.cons_append, z9_plc] at *
    refine ⟨h.1, ih Q' _ h.2 ?_⟩
    simp only [z9_tsz] at h'
    rw [Nat.add_assoc]; exact h'
theorem z9_plc_eq {g : z9_tA} {tx : Nat → Nat} {t t' : tT} : ∀ Q pos, (∀ x, x ∈ Q → 1 ≤ z9_sz g tx x.1 x.2.1 x.2.2) → (∀ y, pos ≤ y → y < pos + z9_tsz g tx Q → T_symbols t' y = T_symbols t y ∧ T_starts t' y = T_starts t y ∧ T_ends t' y = T_ends t y) → z9_plc g tx t Q pos → z9_plc g tx t' Q pos := by
  intro Q
  induction Q with
  | nil => intro pos _ _ _; trivial
  | cons x Q ih =>
    intro pos h1 he h
    simp only [z9_plc] at *
    have hx := h1 x (List.mem_cons_self)
    refine ⟨?_, ih _ (fun y hy => h1 y (List.mem_cons_of_mem _ hy)) (fun y a b => he y (by omega) (by simp only [z9_tsz]; omega)) h.2⟩
    intro hp
    obtain ⟨e1, e2, e3⟩ := he pos (Nat.le_refl _) (by simp only [z9_tsz]; omega)
    rw [e1, e2, e3]; exact h.1 hp
def z9_nOK (g : z9_tA) (tx : Nat → Nat) (n : Nat) (x : Nat × Nat × Nat) : Prop := x.1 < z9_A_nS g ∧ x.2.1 ≤ x.2.2 ∧ x.2.2 ≤ n ∧ z9_vC g tx x.1 x.2.1 x.2.2 ≠ none
theorem z9_nOK_sz {g : z9_tA} {F : Nat} {rk : Nat → Nat} (h : z9_gGood g F rk) {tx : Nat → Nat} {n : Nat} (hn : n ≤ 8) {x : Nat × Nat × Nat} (hx : z9_nOK g tx n x) : 1 ≤ z9_sz g tx x.1 x.2.1 x.2.2 := by
  obtain ⟨h1, h2, h3, h4⟩ := hx
  rw [z9_sz_fix h h1 h2 (by omega) h4]; omega
theorem z9_kids_ok {g : z9_tA} {F : Nat} {rk : Nat → Nat} (h : z9_gGood g F rk) {tx : Nat → Nat} {n : Nat} (hn : n ≤ 8) {x : Nat × Nat × Nat} (hx : z9_nOK g tx n x) : ∀ y, y ∈ z9_kids g tx x.1 x.2.1 x.2.2 → z9_nOK g tx n y ∧ 7 * (y.2.2 - y.2.1) + rk y.1 < 7 * (x.2.2 - x.2.1) + rk x.1 := by
  intro y hy
  obtain ⟨h1, h2, h3, h4⟩ := hx
  obtain ⟨a, b, c, d, e, f⟩ := z9_kids_low h h1 h2 (by omega) h4 (c := y.1) (p := y.2.1) (q := y.2.2) hy
  exact ⟨⟨a, c, by omega, e⟩, f⟩
theorem z9_kids_tsz {g : z9_tA} {F : Nat} {rk : Nat → Nat} (h : z9_gGood g F rk) {tx : Nat → Nat} {n : Nat} (hn : n ≤ 8) {x : Nat × Nat × Nat} (hx : z9_nOK g tx n x) : z9_sz g tx x.1 x.2.1 x.2.2 = 1 + z9_tsz g tx (z9_kids g tx x.1 x.2.1 x.2.2) := by
  obtain ⟨h1, h2, h3, h4⟩ := hx
  unfold z9_sz
  rw [z9_nd_fix h h1 h2 (by omega) h4, List.length_cons, z9_tsz_len]; omega
theorem z9_pk_nib {P l a R : Nat} (hP : P < 16 ^ l) (ha : a < 16) : (P + 16 ^ l * (a + 16 * R)) / 16 ^ l % 16 = a := by
  have hpos : 0 < 16 ^ l := Nat.pow_pos (by decide)
  rw [Nat.add_mul_div_left _ _ hpos, Nat.div_eq_of_lt hP]
  omega
theorem z9_c_expand {c : tC} {a : tG} {g : z9_tA} {F : Nat} {rk : Nat → Nat} (h : z9_gGood g F rk) (ha : z9_gIs a g) {tx : Nat → Nat} {n : Nat} (hn : n ≤ 8) (hf : ∀ s p q, s < z9_A_nS g → p ≤ q → q ≤ n → z9_fin c g tx s p q) {t : tT} {k : Nat} (hk : k < 100) {x : Nat × Nat × Nat} (hx : z9_nOK g tx n x) (hs : T_symbols t k = z9_i32 x.1 ∧ T_starts t k = z9_i32 x.2.1 ∧ T_ends t k = z9_i32 x.2.2) :
    ∃ t', F_Tl_expand c t a (z9_i32 k) = some t' ∧ T_nodeCount t' = T_nodeCount t ∧ T_rules t' k = z9_i32 (z9_ruleOf g tx x.1 x.2.1 x.2.2) ∧ (∀ y, y ≠ k → T_rules t' y = T_rules t y) ∧ z9_plc g tx t' (z9_kids g tx x.1 x.2.1 x.2.2) (k + 1) ∧ ∀ y, (y ≤ k ∨ k + z9_sz g tx x.1 x.2.1 x.2.2 ≤ y) → T_symbols t' y = T_symbols t y ∧ T_starts t' y = T_starts t y ∧ T_ends t' y = T_ends t y := by
  have h6 := h.1.2.2.1
  have hx' := hx
  have htz := z9_kids_tsz h hn hx
  have hszx : z9_sz g tx x.1 x.2.1 x.2.2 ≤ 368640 := z9_sz_max h hx.1 hx.2.1 (by have := hx.2.2.1; omega) hx.2.2.2
  obtain ⟨x1, x2, x3, x4⟩ := hx
  obtain ⟨r1, r2, r3, r4, r5⟩ := z9_ruleOf_spec h x1 x2 (show x.2.2 - x.2.1 ≤ 8 by omega) x4
  obtain ⟨f1, f2, f3⟩ := hf x.1 x.2.1 x.2.2 x1 x2 x3
  obtain ⟨f4, f5, f6⟩ := f3 x4
  obtain ⟨g0, g1, g2, g3⟩ := h.1
  obtain ⟨b1, b2, b3, b4⟩ := g3 _ r1
  obtain ⟨d1, d2, d3, d4, d5⟩ := ha.2.2 _ r1
  have hcl := z9_cel_lt (show x.1 < 6 by omega) x2 (show x.2.2 ≤ 8 by omega)
  generalize hr : z9_ruleOf g tx x.1 x.2.1 x.2.2 = r at *
  have hkd : z9_kids g tx x.1 x.2.1 x.2.2 = z9_chl tx (z9_vC g tx) (z9_bl g r) x.2.1 x.2.2 := by unfold z9_kids; rw [hr]
  have loop : ∃ t', F_Tl_expand_L56 c a (z9_i32 (z9_cel x.1 x.2.1 x.2.2)) (z9_i32 r) rn_fu ((fun j => if j = k then z9_i32 r else T_rules t j), T_starts t, T_ends t, T_symbols t, T_nodeCount t) (z9_i32 (k + 1)) (z9_i32 x.2.1) 0 = some t' ∧ T_nodeCount t' = T_nodeCount t ∧ T_rules t' = (fun j => if j = k then z9_i32 r else T_rules t j) ∧ z9_plc g tx t' (z9_kids g tx x.1 x.2.1 x.2.2) (k + 1) ∧ ∀ y, (y ≤ k ∨ k + z9_sz g tx x.1 x.2.1 x.2.2 ≤ y) → T_symbols t' y = T_symbols t y ∧ T_starts t' y = T_starts t y ∧ T_ends t' y = T_ends t y := by
    refine z9_forU (L := fun m (st : tT × Int32 × Int32) l => F_Tl_expand_L56 c a (z9_i32 (z9_cel x.1 x.2.1 x.2.2)) (z9_i32 r) m st.1 st.2.1 st.2.2 l) (Q := fun o => ∃ t', o = some t' ∧ T_nodeCount t' = T_nodeCount t ∧ T_rules t' = (fun j => if j = k then z9_i32 r else T_rules t j) ∧ z9_plc g tx t' (z9_kids g tx x.1 x.2.1 x.2.2) (k + 1) ∧ ∀ y, (y ≤ k ∨ k + z9_sz g tx x.1 x.2.1 x.2.2 ≤ y) → T_symbols t' y = T_symbols t y ∧ T_starts t' y = T_starts t y ∧ T_ends t' y = T_ends t y)
      (P := fun l st => ∃ p P Q1, st.2.1 = z9_i32 (k + 1 + z9_tsz g tx Q1) ∧ st.2.2 = z9_i32 p ∧ x.2.1 ≤ p ∧ p ≤ x.2.2 ∧ z9_evC tx (z9_vC g tx) (z9_tl g r l (z9_A_ln g r - l)) p x.2.2 ≠ none ∧ z9_kids g tx x.1 x.2.1 x.2.2 = Q1 ++ z9_chl tx (z9_vC g tx) (z9_tl g r l (z9_A_ln g r - l)) p x.2.2 ∧ P < 16 ^ l ∧ z9_pkL (z9_wk tx (z9_vC g tx) (z9_bl g r) x.2.1 x.2.2) = P + 16 ^ l * z9_pkL (z9_wk tx (z9_vC g tx) (z9_tl g r l (z9_A_ln g r - l)) p x.2.2) ∧ T_nodeCount st.1 = T_nodeCount t ∧ T_rules st.1 = (fun j => if j = k then z9_i32 r else T_rules t j) ∧ z9_plc g tx st.1 Q1 (k + 1) ∧ ∀ y, (y ≤ k ∨ k + z9_sz g tx x.1 x.2.1 x.2.2 ≤ y) → T_symbols st.1 y = T_symbols t y ∧ T_starts st.1 y = T_starts t y ∧ T_ends st.1 y = T_ends t y)
      (K := z9_A_ln g r) 0 (((fun j => if j = k then z9_i32 r else T_rules t j), T_starts t, T_ends t, T_symbols t, T_nodeCount t), z9_i32 (k + 1), z9_i32 x.2.1) (by omega) (by omega) ⟨x.2.1, 0, [], rfl, rfl, Nat.le_refl _, x2, r4, by rw [hkd]; rfl, by decide, by show _ = 0 + 16 ^ 0 * z9_pkL (z9_wk tx (z9_vC g tx) (z9_bl g r) x.2.1 x.2.2); omega, by simp only [z9_tt], by simp only [z9_tt], trivial, fun y _ => by simp only [z9_tt, and_self]⟩ ?_ ?_
    · intro m st hP
      obtain ⟨p, P, Q1, p1, p2, p3, p4, p5, p6, p7, p8, p9, p10, p11, p12⟩ := hP
      refine ⟨st.1, ?_, p9, p10, ?_, p12⟩
      · simp only [F_Tl_expand_L56]
        rw [z9_aG_i (by omega) (by decide), d2]
        simp only [Option.bind_some, Int32.le_refl, if_true]
      · rw [p6, Nat.sub_self]
        show z9_plc g tx st.1 (Q1 ++ []) (k + 1)
        rw [List.append_nil]; exact p11
    · intro m st l hl hP
      obtain ⟨p, P, Q1, p1, p2, p3, p4, p5, p6, p7, p8, p9, p10, p11, p12⟩ := hP
      left
      have hbd := b4 l hl
      have hcons := z9_tl_cons (g := g) (r := r) hl
      rw [hcons] at p5 p6 p8
      obtain ⟨s1, s2, s3, _, _⟩ := z9_stp_spec p5
      generalize hst : z9_stp tx (z9_vC g tx) (z9_A_bd g r l) (z9_tl g r (l + 1) (z9_A_ln g r - (l + 1))) p x.2.2 = w at *
      have hwk : z9_wk tx (z9_vC g tx) (z9_A_bd g r l :: z9_tl g r (l + 1) (z9_A_ln g r - (l + 1))) p x.2.2 = (z9_A_bd g r l, p, p + w) :: z9_wk tx (z9_vC g tx) (z9_tl g r (l + 1) (z9_A_ln g r - (l + 1))) (p + w) x.2.2 := by simp only [z9_wk, hst]
      have hchl : z9_chl tx (z9_vC g tx) (z9_A_bd g r l :: z9_tl g r (l + 1) (z9_A_ln g r - (l + 1))) p x.2.2 = (if z9_A_bd g r l < 6 then [(z9_A_bd g r l, p, p + w)] else []) ++ z9_chl tx (z9_vC g tx) (z9_tl g r (l + 1) (z9_A_ln g r - (l + 1))) (p + w) x.2.2 := by simp only [z9_chl, hst]
      rw [hwk] at p8
      rw [hchl] at p6
      have hpk : z9_pkL ((z9_A_bd g r l, p, p + w) :: z9_wk tx (z9_vC g tx) (z9_tl g r (l + 1) (z9_A_ln g r - (l + 1))) (p + w) x.2.2) = w + 16 * z9_pkL (z9_wk tx (z9_vC g tx) (z9_tl g r (l + 1) (z9_A_ln g r - (l + 1))) (p + w) x.2.2) := by
        show (p + w - p) + 16 * _ = _
        rw [show p + w - p = w by omega]
      rw [hpk] at p8
      have hlen : F_Ch_lengthOf c (z9_i32 (z9_cel x.1 x.2.1 x.2.2)) (z9_i32 l) = some (z9_i32 w) := by
        unfold F_Ch_lengthOf
        have hlt : z9_pkL (z9_wk tx (z9_vC g tx) (z9_bl g r) x.2.1 x.2.2) < 2147483648 := by
          have key : ∀ (L : List (Nat × Nat × Nat)), (∀ y, y ∈ L → y.2.2 - y.2.1 < 16) → z9_pkL L < 16 ^ L.length := by
            intro L
            induction L with
            | nil => intro _; decide
            | cons y L ih =>
              intro hy
              have h1 := ih (fun z hz => hy z (List.mem_cons_of_mem _ hz))
              have h2 := hy y (List.mem_cons_self)
              simp only [z9_pkL, List.length_cons, Nat.pow_succ]; omega
          have wl : ∀ (L : List Nat) (p j : Nat), (z9_wk tx (z9_vC g tx) L p j).length = L.length := by
            intro L
            induction L with
            | nil => intro p j; rfl
            | cons s L ih => intro p j; simp only [z9_wk, List.length_cons, ih]
          have wb : ∀ (L : List Nat) (p : Nat), p ≤ x.2.2 → z9_evC tx (z9_vC g tx) L p x.2.2 ≠ none → ∀ y, y ∈ z9_wk tx (z9_vC g tx) L p x.2.2 → y.2.2 - y.2.1 < 16 := by
            intro L
            induction L with
            | nil => intro p _ _ y hy; cases hy
            | cons s L ih =>
              intro p hp he y hy
              obtain ⟨t1, _, t3, _, _⟩ := z9_stp_spec he
              simp only [z9_wk] at hy
              rcases List.mem_cons.mp hy with hy | hy
              · rw [hy]; show p + _ - p < 16; omega
              · exact ih _ t1 t3 y hy
          have h1 := key _ (wb (z9_bl g r) x.2.1 x2 r4)
          rw [wl, z9_bl_len] at h1
          have h2 : 16 ^ z9_A_ln g r ≤ 16 ^ 4 := Nat.pow_le_pow_right (by decide) b2
          omega
        rw [z9_aG_i hcl (by decide), f6]
        simp only [Option.bind_some]
        rw [z9_i32_shr (show l < 4 by omega) hlt, p8, z9_pk_nib p7 (by omega)]
      have hp8 : z9_pkL (z9_wk tx (z9_vC g tx) (z9_bl g r) x.2.1 x.2.2) = (P + w * 16 ^ l) + 16 ^ (l + 1) * z9_pkL (z9_wk tx (z9_vC g tx) (z9_tl g r (l + 1) (z9_A_ln g r - (l + 1))) (p + w) x.2.2) := by
        rw [p8, Nat.pow_succ, Nat.mul_add, Nat.mul_comm w, ← Nat.mul_assoc]; omega
      have hp7 : P + w * 16 ^ l < 16 ^ (l + 1) := by
        rw [Nat.pow_succ]
        have : w * 16 ^ l ≤ 15 * 16 ^ l := Nat.mul_le_mul_right _ (by omega)
        omega
      simp only [F_Tl_expand_L56]
      rw [z9_aG_i (by omega) (by decide), d2]
      simp only [Option.bind_some, z9_i32_le (show z9_A_ln g r < 2147483648 by omega) (show l < 2147483648 by omega)]
      rw [if_neg (by omega), z9_c_symbol h.1 ha r1 hl]
      simp only [Option.bind_some]
      rw [hlen]
      simp only [Option.bind_some, z9_c_isNonterminal (show z9_A_bd g r l < 2147483648 by omega), z9_b01_0, p1, p2, z9_i32_add]
      by_cases hb6 : z9_A_bd g r l < 6
      · rw [if_pos hb6] at p6
        simp only [hb6, not_true, if_false]
        have hy : z9_nOK g tx n (z9_A_bd g r l, p, p + w) := (z9_kids_ok h hn hx' (z9_A_bd g r l, p, p + w) (by rw [p6]; simp)).1
        have hszy : 1 ≤ z9_sz g tx (z9_A_bd g r l) p (p + w) := z9_nOK_sz h hn hy
        have htq : z9_tsz g tx Q1 + z9_sz g tx (z9_A_bd g r l) p (p + w) + z9_tsz g tx (z9_chl tx (z9_vC g tx) (z9_tl g r (l + 1) (z9_A_ln g r - (l + 1))) (p + w) x.2.2) = z9_tsz g tx (z9_kids g tx x.1 x.2.1 x.2.2) := by
          rw [p6, z9_tsz_app, z9_tsz_app]; simp only [z9_tsz]; omega
        have hq1 : ∀ y, y ∈ Q1 → 1 ≤ z9_sz g tx y.1 y.2.1 y.2.2 := fun y hy' => z9_nOK_sz h hn (z9_kids_ok h hn hx' y (by rw [p6]; exact List.mem_append_left _ hy')).1
        obtain ⟨y1, y2, y3, y4⟩ := hy
        have hfy := (hf _ _ _ y1 y2 y3).2.2 y4
        have hcy := z9_cel_lt hb6 (show p ≤ p + w by omega) (show p + w ≤ 8 by omega)
        have hsz : C_sizes c (z9_cel (z9_A_bd g r l) p (p + w)) = z9_i32 (z9_sz g tx (z9_A_bd g r l) p (p + w)) := hfy.2.1
       
        have keep : ∃ t2, (if (100 : Int32) ≤ z9_i32 (k + 1 + z9_tsz g tx Q1) then some st.1 else Option.bind (F_Tl_keepPlace st.1 (z9_i32 (k + 1 + z9_tsz g tx Q1)) (z9_i32 (z9_A_bd g r l)) (z9_i32 p) (z9_i32 (p + w))) fun t26 => some t26) = some t2 ∧ T_nodeCount t2 = T_nodeCount st.1 ∧ T_rules t2 = T_rules st.1 ∧ (k + 1 + z9_tsz g tx Q1 < 100 → T_symbols t2 (k + 1 + z9_tsz g tx Q1) = z9_i32 (z9_A_bd g r l) ∧ T_starts t2 (k + 1 + z9_tsz g tx Q1) = z9_i32 p ∧ T_ends t2 (k + 1 + z9_tsz g tx Q1) = z9_i32 (p + w)) ∧ ∀ y, y ≠ k + 1 + z9_tsz g tx Q1 → T_symbols t2 y = T_symbols st.1 y ∧ T_starts t2 y = T_starts st.1 y ∧ T_ends t2 y = T_ends st.1 y := by
          simp only [show (100 : Int32) = z9_i32 100 from rfl, z9_i32_le (show 100 < 2147483648 by decide) (show k + 1 + z9_tsz g tx Q1 < 2147483648 by omega)]
          by_cases h100 : 100 ≤ k + 1 + z9_tsz g tx Q1
          · rw [if_pos h100]
            exact ⟨st.1, rfl, rfl, rfl, fun q => by omega, fun y _ => ⟨rfl, rfl, rfl⟩⟩
          · rw [if_neg h100]
            unfold F_Tl_keepPlace
            rw [z9_aS_i (by omega) (by decide), z9_aS_i (by omega) (by decide), z9_aS_i (by omega) (by decide)]
            simp only [Option.bind_some]
            refine ⟨_, rfl, ?_, ?_, ?_, ?_⟩
            · simp only [z9_tt]
            · simp only [z9_tt]
            · intro _; simp only [z9_tt, if_true, and_self]
            · intro y hy; simp only [z9_tt]; rw [if_neg hy, if_neg hy, if_neg hy]; exact ⟨rfl, rfl, rfl⟩
        obtain ⟨t2, k1, k2, k3, k4, k5⟩ := keep
        rw [k1]
        simp only [Option.bind_some]
        rw [z9_c_cell (by omega) (by omega) (by omega)]
        simp only [Option.bind_some]
        rw [z9_aG_i hcy (by decide), hsz]
        simp only [Option.bind_some, z9_i32_add]
        refine ⟨(t2, z9_i32 (k + 1 + z9_tsz g tx Q1 + z9_sz g tx (z9_A_bd g r l) p (p + w)), z9_i32 (p + w)), rfl, p + w, P + w * 16 ^ l, Q1 ++ [(z9_A_bd g r l, p, p + w)], ?_, rfl, by omega, s1, s3, ?_, hp7, hp8, k2.trans p9, k3.trans p10, ?_, ?_⟩
        · rw [z9_tsz_app]; simp only [z9_tsz, Nat.add_zero, Nat.add_assoc]
        · rw [p6, List.append_assoc]
        · refine z9_plc_app _ _ _ (z9_plc_eq _ _ hq1 (fun y a1 a2 => k5 y (by omega)) p11) ?_
          exact ⟨k4, trivial⟩
        · intro y hy
          obtain ⟨e1, e2, e3⟩ := k5 y (by omega)
          rw [e1, e2, e3]; exact p12 y hy
      · rw [if_neg hb6] at p6
        simp only [hb6, not_false_eq_true, if_true, Option.bind_some]
        exact ⟨(st.1, z9_i32 (k + 1 + z9_tsz g tx Q1), z9_i32 (p + w)), rfl, p + w, P + w * 16 ^ l, Q1, rfl, rfl, by omega, s1, s3, p6, hp7, hp8, p9, p10, p11, p12⟩
  obtain ⟨t', l1, l2, l3, l4, l5⟩ := loop
  refine ⟨t', ?_, l2, ?_, ?_, l4, l5⟩
  · unfold F_Tl_expand
    rw [z9_aG_i hk (by decide), z9_aG_i hk (by decide), z9_aG_i hk (by decide), hs.1, hs.2.1, hs.2.2]
    simp only [Option.bind_some]
    rw [z9_c_cell (by omega) (by omega) (by omega)]
    simp only [Option.bind_some]
    rw [z9_aG_i hcl (by decide), f4]
    simp only [Option.bind_some]
    rw [z9_aS_i hk (by decide)]
    simp only [Option.bind_some]
    rw [show z9_i32 k + 1 = z9_i32 (k + 1) from z9_i32_add k 1, l1]; rfl
  · rw [l3]; simp
  · intro y hy; rw [l3]; simp [hy]
theorem z9_c_list {c : tC} {a : tG} {g : z9_tA} {F : Nat} {rk : Nat → Nat} (h : z9_gGood g F rk) (ha : z9_gIs a g) {tx : Nat → Nat} {n : Nat} (hn : n ≤ 8) (hf : ∀ s p q, s < z9_A_nS g → p ≤ q → q ≤ n → z9_fin c g tx s p q) (t : tT) {s i j : Nat} (hx : z9_nOK g tx n (s, i, j)) :
    ∃ t', F_Tl_list c t a (z9_i32 s) (z9_i32 i) (z9_i32 j) = some t' ∧ T_nodeCount t' = z9_i32 (z9_sz g tx s i j) ∧ ∀ k, k < 100 → k < z9_sz g tx s i j → T_rules t' k = z9_i32 ((z9_nd g tx s i j).getD k (0, 0, 0)).1 ∧ T_starts t' k = z9_i32 ((z9_nd g tx s i j).getD k (0, 0, 0)).2.1 ∧ T_ends t' k = z9_i32 ((z9_nd g tx s i j).getD k (0, 0, 0)).2.2 := by
  have h6 := h.1.2.2.1
  have hx' := hx
  obtain ⟨x1, x2, x3, x4⟩ := hx
  simp only at x1 x2 x3 x4
  have hmax : z9_sz g tx s i j ≤ 368640 := z9_sz_max h x1 x2 (by omega) x4
  obtain ⟨f1, f2, f3⟩ := hf s i j x1 x2 x3
  obtain ⟨f4, f5, f6⟩ := f3 x4
  have hcl := z9_cel_lt (show s < 6 by omega) x2 (show j ≤ 8 by omega)
  generalize hN : (if 100 < z9_sz g tx s i j then 100 else z9_sz g tx s i j) = N
  have hN1 : N ≤ 100 := by rw [← hN]; split <;> omega
  have hN2 : N ≤ z9_sz g tx s i j := by rw [← hN]; split <;> omega
  have loop : ∀ t0 : tT, z9_plc g tx t0 [(s, i, j)] 0 → ∃ t', F_Tl_list_L36 c a (z9_i32 N) rn_fu t0 0 = some t' ∧ T_nodeCount t' = T_nodeCount t0 ∧ ∀ k, k < N → T_rules t' k = z9_i32 ((z9_nd g tx s i j).getD k (0, 0, 0)).1 ∧ T_starts t' k = z9_i32 ((z9_nd g tx s i j).getD k (0, 0, 0)).2.1 ∧ T_ends t' k = z9_i32 ((z9_nd g tx s i j).getD k (0, 0, 0)).2.2 := by
    intro t0 hp0
    refine z9_forU (L := fun m (st : tT) k => F_Tl_list_L36 c a (z9_i32 N) m st k) (Q := fun o => ∃ t', o = some t' ∧ T_nodeCount t' = T_nodeCount t0 ∧ ∀ k, k < N → T_rules t' k = z9_i32 ((z9_nd g tx s i j).getD k (0, 0, 0)).1 ∧ T_starts t' k = z9_i32 ((z9_nd g tx s i j).getD k (0, 0, 0)).2.1 ∧ T_ends t' k = z9_i32 ((z9_nd g tx s i j).getD k (0, 0, 0)).2.2)
      (P := fun k st => T_nodeCount st = T_nodeCount t0 ∧ ∃ done Q, z9_nd g tx s i j = done ++ Q.flatMap (fun c => z9_nd g tx c.1 c.2.1 c.2.2) ∧ done.length = k ∧ (∀ x, x ∈ Q → z9_nOK g tx n x) ∧ z9_plc g tx st Q k ∧ ∀ k', k' < k → T_rules st k' = z9_i32 ((z9_nd g tx s i j).getD k' (0, 0, 0)).1 ∧ T_starts st k' = z9_i32 ((z9_nd g tx s i j).getD k' (0, 0, 0)).2.1 ∧ T_ends st k' = z9_i32 ((z9_nd g tx s i j).getD k' (0, 0, 0)).2.2) (K := N) 0 t0 (by omega) (by omega) ⟨rfl, [], [(s, i, j)], by simp, rfl, by intro x hx; simp only [List.mem_singleton] at hx; rw [hx]; exact hx', hp0, fun k' hk' => by omega⟩ ?_ ?_
    · intro m st hP
      obtain ⟨p0, done, Q, p1, p2, p3, p4, p5⟩ := hP
      refine ⟨st, ?_, p0, p5⟩
      simp only [F_Tl_list_L36, Int32.le_refl, if_true]
    · intro m st k hk hP
      obtain ⟨p0, done, Q, p1, p2, p3, p4, p5⟩ := hP
      left
      cases Q with
      | nil =>
        exfalso
        have : z9_sz g tx s i j = done.length := by unfold z9_sz; rw [p1]; simp
        omega
      | cons x Q =>
        have hx := p3 x (List.mem_cons_self)
        have hxs := p4.1 (by omega)
        obtain ⟨t', e1, e2, e3, e4, e5, e6⟩ := z9_c_expand h ha hn hf (t := st) (k := k) (by omega) hx hxs
        have hszx := z9_kids_tsz h hn hx
        have hndx : z9_nd g tx x.1 x.2.1 x.2.2 = (z9_ruleOf g tx x.1 x.2.1 x.2.2, x.2.1, x.2.2) :: (z9_kids g tx x.1 x.2.1 x.2.2).flatMap (fun c => z9_nd g tx c.1 c.2.1 c.2.2) := z9_nd_fix h hx.1 hx.2.1 (by have := hx.2.2.1; omega) hx.2.2.2
        have hget : (z9_nd g tx s i j).getD k (0, 0, 0) = (z9_ruleOf g tx x.1 x.2.1 x.2.2, x.2.1, x.2.2) := by
          rw [p1, List.flatMap_cons, hndx, List.getD_eq_getElem?_getD, List.getElem?_append_right (by omega), p2]
          simp
        refine ⟨t', ?_, e2.trans p0, done ++ [(z9_ruleOf g tx x.1 x.2.1 x.2.2, x.2.1, x.2.2)], z9_kids g tx x.1 x.2.1 x.2.2 ++ Q, ?_, ?_, ?_, ?_, ?_⟩
        · simp only [F_Tl_list_L36, z9_i32_le (show N < 2147483648 by omega) (show k < 2147483648 by omega)]
          rw [if_neg (by omega), e1]; rfl
        · rw [p1, List.flatMap_cons, hndx, List.flatMap_append]; simp
        · simp [p2]
        · intro y hy
          rcases List.mem_append.mp hy with hy | hy
          · exact (z9_kids_ok h hn hx y hy).1
          · exact p3 y (List.mem_cons_of_mem _ hy)
        · refine z9_plc_app _ _ _ e5 ?_
          rw [show k + 1 + z9_tsz g tx (z9_kids g tx x.1 x.2.1 x.2.2) = k + z9_sz g tx x.1 x.2.1 x.2.2 by omega]
          refine z9_plc_eq _ _ (fun y hy => z9_nOK_sz h hn (p3 y (List.mem_cons_of_mem _ hy))) (fun y a1 a2 => e6 y (Or.inr a1)) p4.2
        · intro k' hk'
          by_cases hkk : k' = k
          · subst hkk
            rw [hget]
            obtain ⟨z1, z2, z3⟩ := e6 k' (Or.inl (Nat.le_refl _))
            rw [e3, z2, z3]
            exact ⟨rfl, hxs.2.1, hxs.2.2⟩
          · obtain ⟨z1, z2, z3⟩ := e6 k' (Or.inl (by omega))
            rw [e4 k' hkk, z2, z3]
            exact p5 k' (by omega)
  unfold F_Tl_list F_Tl_keepPlace F_Tl_shownCount
  rw [z9_c_cell (by omega) (by omega) (by omega)]
  simp only [Option.bind_some]
  rw [z9_aG_i hcl (by decide), f5]
  simp only [Option.bind_some, z9_tt, show (0 : Int32) = z9_i32 0 from rfl]
  rw [z9_aS_i (by omega) (by decide), z9_aS_i (by omega) (by decide), z9_aS_i (by omega) (by decide)]
  simp only [Option.bind_some, z9_tt]
  have hshow : (if (100 : Int32) < z9_i32 (z9_sz g tx s i j) then (100 : Int32) else z9_i32 (z9_sz g tx s i j)) = z9_i32 N := by
    rw [← hN]
    have : ((100 : Int32) < z9_i32 (z9_sz g tx s i j)) = (100 < z9_sz g tx s i j) := z9_i32_lt (by decide) (by omega)
    simp only [this]
    by_cases hh : 100 < z9_sz g tx s i j
    · rw [if_pos hh, if_pos hh]; rfl
    · rw [if_neg hh, if_neg hh]
  rw [hshow]
  obtain ⟨t', e1, e2, e3⟩ := loop (T_rules t, (fun j => if j = 0 then z9_i32 i else T_starts t j), (fun j' => if j' = 0 then z9_i32 j else T_ends t j'), (fun j => if j = 0 then z9_i32 s else T_symbols t j), z9_i32 (z9_sz g tx s i j)) (by
    refine ⟨fun _ => ?_, trivial⟩
    simp only [z9_tt, if_true, and_self])
  rw [show F_Tl_list_L36 c a (z9_i32 N) rn_fu _ (z9_i32 0) = _ from e1]
  refine ⟨t', rfl, by rw [e2]; simp only [z9_tt], ?_⟩
  intro k h1 h2
  exact e3 k (by rw [← hN]; split <;> omega)
theorem z9_mpw (m : tM) (f f' : Nat → Int32) : M_put_waits (M_put_waits m f) f' = M_put_waits m f' ∧ M_put_rest (M_put_rest m f) f' = M_put_rest m f' := by
  constructor <;> simp only [M_code, M_draft, M_size, M_src, M_kept, M_keptSize, M_loaded, M_wrongLine, M_rules, M_heads, M_lengths, M_bodies, M_weights, M_costs, M_symbols, M_names, M_hasText, M_letters, M_text, M_emptySum, M_emptyCost, M_sums, M_least, M_units, M_upTo, M_upToNext, M_rest, M_nodes, M_nodeRule, M_nodeFrom, M_nodeTo, M_waits, M_at, M_end, M_value, M_put_code, M_put_draft, M_put_size, M_put_src, M_put_kept, M_put_keptSize, M_put_loaded, M_put_wrongLine, M_put_rules, M_put_heads, M_put_lengths, M_put_bodies, M_put_weights, M_put_costs, M_put_symbols, M_put_names, M_put_hasText, M_put_letters, M_put_text, M_put_emptySum, M_put_emptyCost, M_put_sums, M_put_least, M_put_units, M_put_upTo, M_put_upToNext, M_put_rest, M_put_nodes, M_put_nodeRule, M_put_nodeFrom, M_put_nodeTo, M_put_waits, M_put_at, M_put_end, M_put_value]
def z9_mAll (m : tM) (g : z9_tA) (tx : Nat → Nat) (n : Nat) : Prop := (∀ s p q, s < z9_A_nS g → p ≤ q → q ≤ n → z9_mfin m g tx s p q) ∧ ∀ p, p < n → M_text m p = z9_i32 (tx p) ∧ tx p ≤ 126
theorem z9_mAll_CH {m : tM} {g : z9_tA} {F : Nat} {rk : Nat → Nat} (h : z9_gGood g F rk) {tx : Nat → Nat} {n : Nat} (hn : n ≤ 8) (hm : z9_mAll m g tx n) {i j : Nat} (hj : j ≤ n) : z9_mCH m g tx (z9_VS g tx) (z9_vC g tx) i j := by
  refine ⟨?_, fun p _ hp => hm.2 p (by omega)⟩
  intro s p q hs h1 h2 h3
  obtain ⟨e1, e2⟩ := hm.1 s p q hs h2 (by omega)
  unfold z9_idx at e1 e2
  exact ⟨e1, e2, z9_v_le h hs h2 (by omega)⟩
def z9_mFrU (m m' : tM) : Prop := z9_bG m' = z9_bG m ∧ z9_bE m' = z9_bE m ∧ z9_bU m' = z9_bU m ∧ z9_bX m' = z9_bX m ∧ z9_bC m' = z9_bC m ∧ z9_bK m' = z9_bK m ∧ z9_bD m' = z9_bD m ∧ z9_bW m' = z9_bW m ∧ M_code m' = M_code m
theorem z9_mFrU_rfl (m : tM) : z9_mFrU m m := ⟨rfl, rfl, rfl, rfl, rfl, rfl, rfl, rfl, rfl⟩
theorem z9_mFrU_trans {m m' m'' : tM} (h : z9_mFrU m m') (h' : z9_mFrU m' m'') : z9_mFrU m m'' := by
  obtain ⟨a1, a2, a3, a4, a5, a6, a7, a8, a9⟩ := h
  obtain ⟨b1, b2, b3, b4, b5, b6, b7, b8, b9⟩ := h'
  exact ⟨b1.trans a1, b2.trans a2, b3.trans a3, b4.trans a4, b5.trans a5, b6.trans a6, b7.trans a7, b8.trans a8, b9.trans a9⟩
theorem z9_mFrU_put (m m' : tM) : (∀ v, z9_mFrU m (M_put_rest m' v) = z9_mFrU m m') ∧ (∀ v, z9_mFrU m (M_put_waits m' v) = z9_mFrU m m') ∧ (∀ v, z9_mFrU m (M_put_nodes m' v) = z9_mFrU m m') ∧ (∀ v, z9_mFrU m (M_put_nodeRule m' v) = z9_mFrU m m') ∧ (∀ v, z9_mFrU m (M_put_nodeFrom m' v) = z9_mFrU m m') ∧ (∀ v, z9_mFrU m (M_put_nodeTo m' v) = z9_mFrU m m') := by
  simp only [z9_mFrU, z9_fG, z9_fE, z9_fU, z9_fX, z9_fC, z9_fK, z9_fD, z9_fW, z9_mp_rest, z9_mp_waits, z9_mp_nodes, z9_mp_nodeRule, z9_mp_nodeFrom, z9_mp_nodeTo, implies_true, and_self]
theorem z9_mAll_fr {m m' : tM} {g : z9_tA} {tx : Nat → Nat} {n : Nat} (h : z9_mAll m g tx n) (hf : z9_mFrU m m') : z9_mAll m' g tx n := by
  have e1 := hf.2.1
  have e2 := hf.2.2.2.2.1
  have e3 := hf.2.2.2.1
  simp only [z9_bE, Prod.mk.injEq] at e1
  simp only [z9_bC, Prod.mk.injEq] at e2
  simp only [z9_bX, Prod.mk.injEq] at e3
  unfold z9_mAll z9_mfin at *
  rw [e1.1, e1.2, e2.1, e2.2, e3.2.2]; exact h
theorem z9_m_ruleFor {m : tM} {g : z9_tA} {F : Nat} {rk : Nat → Nat} (h : z9_gGood g F rk) (hm : z9_mIs m g) {tx : Nat → Nat} {n : Nat} (hn : n ≤ 8) (hA : z9_mAll m g tx n) {x : Nat × Nat × Nat} (hx : z9_nOK g tx n x) :
    ∃ f, F_Md_ruleFor m (z9_i32 x.1) (z9_i32 x.2.1) (z9_i32 x.2.2) = some (z9_i32 (z9_ruleOf g tx x.1 x.2.1 x.2.2), M_put_rest m f) ∧ z9_restOK g tx (z9_vC g tx) (z9_ruleOf g tx x.1 x.2.1 x.2.2) x.2.1 x.2.2 f 0 := by
  have hcB : z9_cB = 40000000 := rfl
  obtain ⟨x1, x2, x3, x4⟩ := hx
  have h6 := h.1.2.2.1
  obtain ⟨r1, r2, r3, r4, r5⟩ := z9_ruleOf_spec h x1 x2 (show x.2.2 - x.2.1 ≤ 8 by omega) x4
  obtain ⟨g0, g1, g2, g3⟩ := h.1
  have m0 : m = M_put_rest m (M_rest m) := by simp only [M_put_rest]; rfl
  have hmf : ∀ f, z9_mIs (M_put_rest m f) g := fun f => z9_mIs_fr hm (by simp only [z9_fG])
  have hAf : ∀ f, z9_mAll (M_put_rest m f) g tx n := fun f => z9_mAll_fr hA (by simp only [z9_mFrU_put]; exact z9_mFrU_rfl m)
 
  have key : ∀ d q fu f, q + d = z9_ruleOf g tx x.1 x.2.1 x.2.2 → d + 2 ≤ fu → ∃ f', F_Md_ruleFor_L6 (z9_i32 x.1) (z9_i32 x.2.1) (z9_i32 x.2.2) fu (M_put_rest m f) (z9_i32 q) 0 = some (z9_i32 (z9_ruleOf g tx x.1 x.2.1 x.2.2), M_put_rest m f') ∧ z9_restOK g tx (z9_vC g tx) (z9_ruleOf g tx x.1 x.2.1 x.2.2) x.2.1 x.2.2 f' 0 := by
    intro d
    induction d with
    | zero =>
      intro q fu f hq hfu
      have hq' : q = z9_ruleOf g tx x.1 x.2.1 x.2.2 := by omega
      obtain ⟨fu, rfl⟩ : ∃ k, fu = k + 2 := ⟨fu - 2, by omega⟩
      obtain ⟨f', e1, e2⟩ := z9_m_bodyCost h.1 (hmf f) (z9_mAll_CH h hn (hAf f) x3) x2 (by omega) (show q < z9_A_nR g by omega)
      refine ⟨f', ?_, by rw [← hq']; exact e2⟩
      obtain ⟨b1, b2, b3, b4⟩ := g3 q (by omega)
      rw [show fu + 2 = (fu + 1) + 1 from rfl]
      simp only [F_Md_ruleFor_L6, not_true, if_false]
      rw [z9_aG_i (show q < 12 by omega) (by decide), ((hmf f).2.2 q (by omega)).1]
      simp only [Option.bind_some, z9_i32_inj (show z9_A_hd g q < 2147483648 by omega) (show x.1 < 2147483648 by omega)]
      rw [hq'] at e1 ⊢
      simp only [r2, not_true, if_false]
      rw [e1]
      simp only [Option.bind_some]
      cases hev : z9_evC tx (z9_vC g tx) (z9_bl g (z9_ruleOf g tx x.1 x.2.1 x.2.2)) x.2.1 x.2.2 with
      | none => exact absurd hev r4
      | some y =>
        have hcn : z9_cnd g tx (z9_vC g tx) x.2.1 x.2.2 (z9_ruleOf g tx x.1 x.2.1 x.2.2) = some (z9_A_ct g (z9_ruleOf g tx x.1 x.2.1 x.2.2) + y) := by unfold z9_cnd; rw [hev]; rfl
        have hyb := z9_cnd_le h r1 x2 (show x.2.2 - x.2.1 ≤ 8 by omega) _ hcn
        have hy0 : ¬ z9_ec (some y) < 0 := by simp only [z9_ec]; rw [z9_i32_n0 (by omega)]; exact id
        rw [if_neg hy0, z9_mpw m f f' |>.2, z9_aG_i (show z9_ruleOf g tx x.1 x.2.1 x.2.2 < 12 by omega) (by decide), ((hmf f').2.2 _ r1).2.2.2.2]
        simp only [Option.bind_some]
        rw [z9_m_costOf h.1 (z9_mAll_CH h hn (hAf f') x3 (i := x.2.1)) (by omega) (Or.inl x1) (Nat.le_refl _) x2 (Nat.le_refl _)]
        simp only [Option.bind_some]
        have hv : z9_symC tx (z9_vC g tx) x.1 x.2.1 x.2.2 = some (z9_A_ct g (z9_ruleOf g tx x.1 x.2.1 x.2.2) + y) := by
          rw [z9_symC_lt (by omega), ← r3, hcn]
        have hs : z9_ec (some y) + z9_i32 (z9_A_ct g (z9_ruleOf g tx x.1 x.2.1 x.2.2)) = z9_ec (some (z9_A_ct g (z9_ruleOf g tx x.1 x.2.1 x.2.2) + y)) := by
          simp only [z9_ec]; rw [z9_i32_add, Nat.add_comm]
        rw [hv, hs]
        simp only [not_true, if_false, Option.bind_some, show ¬ (1 : Int32) = 0 by decide, not_false_eq_true, if_true]
    | succ d ih =>
      intro q fu f hq hfu
      obtain ⟨fu, rfl⟩ : ∃ k, fu = k + 1 := ⟨fu - 1, by omega⟩
      obtain ⟨b1, b2, b3, b4⟩ := g3 q (by omega)
      simp only [F_Md_ruleFor_L6, not_true, if_false]
      rw [z9_aG_i (by omega) (by decide), ((hmf f).2.2 q (by omega)).1]
      simp only [Option.bind_some, z9_i32_inj (show z9_A_hd g q < 2147483648 by omega) (show x.1 < 2147483648 by omega)]
      by_cases hh : z9_A_hd g q = x.1
      · obtain ⟨f', e1, e2⟩ := z9_m_bodyCost h.1 (hmf f) (z9_mAll_CH h hn (hAf f) x3) x2 (by omega) (show q < z9_A_nR g by omega)
        simp only [hh, not_true, if_false]
        rw [e1]
        simp only [Option.bind_some]
        rw [z9_mpw m f f' |>.2]
        have hnot := r5 q (by omega) hh
        cases hev : z9_evC tx (z9_vC g tx) (z9_bl g q) x.2.1 x.2.2 with
        | none =>
          rw [if_pos (by decide)]
          simp only [Option.bind_some, if_true]
          rw [show z9_i32 q + 1 = z9_i32 (q + 1) from z9_i32_add q 1]
          exact ih (q + 1) fu f' (by omega) (by omega)
        | some y =>
          have hcn : z9_cnd g tx (z9_vC g tx) x.2.1 x.2.2 q = some (z9_A_ct g q + y) := by unfold z9_cnd; rw [hev]; rfl
          have hyb := z9_cnd_le h (show q < z9_A_nR g by omega) x2 (show x.2.2 - x.2.1 ≤ 8 by omega) _ hcn
          have hy0 : ¬ z9_ec (some y) < 0 := by simp only [z9_ec]; rw [z9_i32_n0 (by omega)]; exact id
          rw [if_neg hy0, z9_aG_i (by omega) (by decide), ((hmf f').2.2 q (by omega)).2.2.2.2]
          simp only [Option.bind_some]
          rw [z9_m_costOf h.1 (z9_mAll_CH h hn (hAf f') x3 (i := x.2.1)) (by omega) (Or.inl x1) (Nat.le_refl _) x2 (Nat.le_refl _)]
          simp only [Option.bind_some]
          rw [z9_symC_lt (show x.1 < 6 by omega)]
          have hs : z9_ec (some y) + z9_i32 (z9_A_ct g q) = z9_ec (some (z9_A_ct g q + y)) := by
            simp only [z9_ec]; rw [z9_i32_add, Nat.add_comm]
          rw [hs]
          have hne : ¬ z9_ec (some (z9_A_ct g q + y)) = z9_ec (z9_vC g tx x.1 x.2.1 x.2.2) := by
            intro e
            apply hnot
            rw [hcn]
            cases hv : z9_vC g tx x.1 x.2.1 x.2.2 with
            | none => exact absurd hv x4
            | some w =>
              have hw := z9_v_le h x1 x2 (show x.2.2 - x.2.1 ≤ 8 by omega) w hv
              rw [hv] at e
              simp only [z9_ec, z9_i32_inj (show z9_A_ct g q + y < 2147483648 by omega) (show w < 2147483648 by omega)] at e
              rw [e]
          simp only [hne, not_false_eq_true, if_true, Option.bind_some]
          rw [show z9_i32 q + 1 = z9_i32 (q + 1) from z9_i32_add q 1]
          exact ih (q + 1) fu f' (by omega) (by omega)
      · simp only [hh, not_false_eq_true, if_true, Option.bind_some, show ((-1 : Int32) < 0) = True from eq_true (by decide)]
        rw [show z9_i32 q + 1 = z9_i32 (q + 1) from z9_i32_add q 1]
        exact ih (q + 1) fu f (by omega) (by omega)
  obtain ⟨f', e1, e2⟩ := key (z9_ruleOf g tx x.1 x.2.1 x.2.2) 0 rn_fu (M_rest m) (by omega) (show z9_ruleOf g tx x.1 x.2.1 x.2.2 + 2 ≤ 1000000 by omega)
  refine ⟨f', ?_, e2⟩
  unfold F_Md_ruleFor
  rw [← m0] at e1
  rw [show F_Md_ruleFor_L6 (z9_i32 x.1) (z9_i32 x.2.1) (z9_i32 x.2.2) rn_fu m 0 0 = _ from e1]; rfl
def z9_stk (w : Nat → Int32) : List (Nat × Nat × Nat) → Prop
  | [] => True
  | x :: Q => w (3 * Q.length) = z9_i32 x.1 ∧ w (3 * Q.length + 1) = z9_i32 x.2.1 ∧ w (3 * Q.length + 2) = z9_i32 x.2.2 ∧ z9_stk w Q
theorem z9_stk_eq {w w' : Nat → Int32} : ∀ Q, (∀ y, y < 3 * Q.length → w' y = w y) → z9_stk w Q → z9_stk w' Q := by
  intro Q
  induction Q with
  | nil => intro _ _; trivial
  | cons x Q ih =>
    intro he h
    simp only [z9_stk, List.length_cons] at *
    rw [he _ (by omega), he _ (by omega), he _ (by omega)]
    exact ⟨h.1, h.2.1, h.2.2.1, ih (fun y hy => he y (by omega)) h.2.2.2⟩
def z9_rowAt (w : Nat → Int32) (b : Nat) : List (Nat × Nat × Nat) → Prop
  | [] => True
  | x :: Q => w (3 * b) = z9_i32 x.1 ∧ w (3 * b + 1) = z9_i32 x.2.1 ∧ w (3 * b + 2) = z9_i32 x.2.2 ∧ z9_rowAt w (b + 1) Q
theorem z9_rowAt_eq {w w' : Nat → Int32} : ∀ Q b, (∀ y, 3 * b ≤ y → y < 3 * (b + Q.length) → w' y = w y) → z9_rowAt w b Q → z9_rowAt w' b Q := by
  intro Q
  induction Q with
  | nil => intro b _ _; trivial
  | cons x Q ih =>
    intro b he h
    simp only [z9_rowAt, List.length_cons] at *
    rw [he _ (by omega) (by omega), he _ (by omega) (by omega), he _ (by omega) (by omega)]
    exact ⟨h.1, h.2.1, h.2.2.1, ih (b + 1) (fun y h1 h2 => he y (by omega) (by omega)) h.2.2.2⟩
theorem z9_rowAt_app {w : Nat → Int32} : ∀ Q Q' b, z9_rowAt w b Q → z9_rowAt w (b + Q.length) Q' → z9_rowAt w b (Q ++ Q') := by
  intro Q
  induction Q with
  | nil => intro Q' b _ h; simpa using h
  | cons x Q ih =>
    intro Q' b h h'
    simp only [List.cons_append, z9_rowAt, List.length_cons] at *
    refine ⟨h.1, h.2.1, h.2.2.1, ih Q' (b + 1) h.2.2.2 ?_⟩
    rw [show b + 1 + Q.length = b + (Q.length + 1) by omega]; exact h'
theorem z9_rowAt_get {w : Nat → Int32} : ∀ Q b k, k < Q.length → z9_rowAt w b Q → w (3 * (b + k)) = z9_i32 (Q.getD k (0, 0, 0)).1 ∧ w (3 * (b + k) + 1) = z9_i32 (Q.getD k (0, 0, 0)).2.1 ∧ w (3 * (b + k) + 2) = z9_i32 (Q.getD k (0, 0, 0)).2.2 := by
  intro Q
  induction Q with
  | nil => intro b k hk; simp at hk
  | cons x Q ih =>
    intro b k hk h
    cases k with
    | zero => simp only [Nat.add_zero, List.getD_cons_zero]; exact ⟨h.1, h.2.1, h.2.2.1⟩
    | succ k =>
      have := ih (b + 1) k (by simpa using hk) h.2.2.2
      rw [show b + (k + 1) = b + 1 + k by omega, List.getD_cons_succ]; exact this
theorem z9_stk_rev {w w' : Nat → Int32} : ∀ (R Q : List (Nat × Nat × Nat)), (∀ k, k < R.length → w' (3 * (Q.length + (R.length - 1 - k))) = z9_i32 (R.getD k (0, 0, 0)).1 ∧ w' (3 * (Q.length + (R.length - 1 - k)) + 1) = z9_i32 (R.getD k (0, 0, 0)).2.1 ∧ w' (3 * (Q.length + (R.length - 1 - k)) + 2) = z9_i32 (R.getD k (0, 0, 0)).2.2) → z9_stk w' Q → z9_stk w' (R ++ Q) := by
  intro R
  induction R with
  | nil => intro Q _ h; simpa using h
  | cons x R ih =>
    intro Q h hQ
    simp only [List.cons_append, z9_stk]
    have h0 := h 0 (by simp)
    simp only [List.length_cons, List.getD_cons_zero] at h0
    have e : (R ++ Q).length = Q.length + (R.length + 1 - 1 - 0) := by simp; omega
    rw [e]
    refine ⟨h0.1, h0.2.1, h0.2.2, ih Q ?_ hQ⟩
    intro k hk
    have := h (k + 1) (by simp; omega)
    simp only [List.length_cons, List.getD_cons_succ] at this
    rw [show R.length + 1 - 1 - (k + 1) = R.length - 1 - k by omega] at this
    exact this
theorem z9_m_defer {m : tM} {w : Nat → Int32} {k : Nat} (hk : k < 500) (a b c : Int32) : F_Md_defer (M_put_waits m w) (z9_i32 k) a b c = some (z9_i32 (k + 1), M_put_waits m (fun y => if y = 3 * k + 2 then c else if y = 3 * k + 1 then b else if y = 3 * k then a else w y)) := by
  unfold F_Md_defer
  simp only [show (3 : Int32) = z9_i32 3 from rfl, show (1 : Int32) = z9_i32 1 from rfl, show (2 : Int32) = z9_i32 2 from rfl, z9_i32_mul, z9_i32_add, z9_mp_waits, z9_mpw]
  rw [z9_aS_i (by omega) (by decide)]
  simp only [Option.bind_some, z9_mp_waits, z9_mpw]
  rw [z9_aS_i (by omega) (by decide)]
  simp only [Option.bind_some, z9_mp_waits, z9_mpw]
  rw [z9_aS_i (by omega) (by decide)]
  simp only [Option.bind_some, z9_mpw]
theorem z9_m_place {m : tM} {g : z9_tA} {F : Nat} {rk : Nat → Nat} (h : z9_gGood g F rk) {tx : Nat → Nat} {n : Nat} (hn : n ≤ 8) (hA : z9_mAll m g tx n) {r i j k p : Nat} (hr : r < z9_A_nR g) (hj : j ≤ n) (hk : k < z9_A_ln g r) (hip : i ≤ p) (hpj : p ≤ j) (hrest : z9_restOK g tx (z9_vC g tx) r i j (M_rest m) 0) (hne : z9_evC tx (z9_vC g tx) (z9_tl g r k (z9_A_ln g r - k)) p j ≠ none) (z1 z2 z3 : Int32) :
    F_Md_unroll_L165 m z1 z2 z3 (z9_i32 p) (z9_i32 k) (z9_i32 (z9_A_bd g r k)) rn_fu (z9_i32 p) = some (z9_i32 (p + z9_stp tx (z9_vC g tx) (z9_A_bd g r k) (z9_tl g r (k + 1) (z9_A_ln g r - (k + 1))) p j)) := by
  have hcB : z9_cB = 40000000 := rfl
  have h6 := h.1.2.2.1
  obtain ⟨b1, b2, b3, b4⟩ := h.1.2.2.2 r hr
  have hbd := b4 k hk
  have hsy : z9_symOk g (z9_A_bd g r k) := hbd
  have hcons := z9_tl_cons (g := g) (r := r) hk
  have hR0 := hrest k p (Nat.zero_le _) (by omega) hip hpj
  rw [hcons] at hne hR0
  obtain ⟨s1, s2, s3, s4, s5⟩ := z9_stp_spec hne
  have hC := z9_mAll_CH h hn hA hj (i := i)
  have hvle : ∀ s p' q, s < 6 → s ∈ z9_tl g r k (z9_A_ln g r - k) → p' ≤ q → q ≤ j → z9_ole z9_cB (z9_vC g tx s p' q) := by
    intro s p' q hs hm h1 h2
    obtain ⟨mm, _, hmm, rfl⟩ := z9_tl_mem g r _ _ hm
    have := b4 mm (by omega)
    exact z9_v_le h (by omega) h1 (by omega)
  have bnd : ∀ q, p ≤ q → q ≤ j → z9_ole 160000000 (z9_evC tx (z9_vC g tx) (z9_tl g r (k + 1) (z9_A_ln g r - (k + 1))) q j) := by
    intro q h1 h2 x hx
    have key : ∀ (l : List Nat) (p' : Nat), (∀ s, s ∈ l → s ∈ z9_tl g r k (z9_A_ln g r - k)) → z9_ole (l.length * z9_cB) (z9_evC tx (z9_vC g tx) l p' j) := by
      intro l
      induction l with
      | nil =>
        intro p' _ x hx
        have hx' : (if p' = j then some 0 else none) = some x := hx
        split at hx'
        · simp only [Option.some.injEq] at hx'; omega
        · cases hx'
      | cons s l ih =>
        intro p' hs x hx
        rw [z9_evC_cons] at hx
        obtain ⟨q', hq', hx⟩ := z9_fmn_mem _ hx
        have := z9_ole_oadd (z9_symC_le (tx := tx) (s := s) (p := p') (q := p' + q') (fun h6' => hvle s p' (p' + q') h6' (hs s (List.mem_cons_self)) (by omega) (by omega))) (ih (p' + q') (fun s' hs' => hs s' (List.mem_cons_of_mem _ hs'))) x hx
        rw [List.length_cons, Nat.add_mul]; omega
    have := key (z9_tl g r (k + 1) (z9_A_ln g r - (k + 1))) q (fun s hs => by rw [hcons]; exact List.mem_cons_of_mem _ hs) x hx
    rw [z9_tl_len] at this
    have h4 : (z9_A_ln g r - (k + 1)) * z9_cB ≤ 4 * z9_cB := Nat.mul_le_mul_right _ (by omega)
    omega
  have key : ∀ d q fu, p ≤ q → q + d = p + z9_stp tx (z9_vC g tx) (z9_A_bd g r k) (z9_tl g r (k + 1) (z9_A_ln g r - (k + 1))) p j → d < fu → F_Md_unroll_L165 m z1 z2 z3 (z9_i32 p) (z9_i32 k) (z9_i32 (z9_A_bd g r k)) fu (z9_i32 q) = some (z9_i32 (p + z9_stp tx (z9_vC g tx) (z9_A_bd g r k) (z9_tl g r (k + 1) (z9_A_ln g r - (k + 1))) p j)) := by
    intro d
    induction d with
    | zero =>
      intro q fu hpq hq hfu
      obtain ⟨fu, rfl⟩ : ∃ k, fu = k + 1 := ⟨fu - 1, by omega⟩
      have hq' : q = p + z9_stp tx (z9_vC g tx) (z9_A_bd g r k) (z9_tl g r (k + 1) (z9_A_ln g r - (k + 1))) p j := by omega
      rw [← hq'] at s1 s2 s3 s4 ⊢
      simp only [F_Md_unroll_L165, show (10 : Int32) = z9_i32 10 from rfl, z9_i32_mul, z9_i32_add]
      rw [z9_m_costOf h.1 hC (by omega) hsy hip hpq s1]
      have hR1 := hrest (k + 1) q (Nat.zero_le _) (by omega) (by omega) s1
      rw [show 10 * (k + 1) + q = 10 * k + 10 + q by omega] at hR1
      cases hu : z9_symC tx (z9_vC g tx) (z9_A_bd g r k) p q with
      | none => exact absurd hu s2
      | some u =>
        cases hw : z9_evC tx (z9_vC g tx) (z9_tl g r (k + 1) (z9_A_ln g r - (k + 1))) q j with
        | none => exact absurd hw s3
        | some w =>
          have hub : u ≤ z9_cB := z9_symC_le (fun h6' => hvle _ p q h6' (by rw [hcons]; exact List.mem_cons_self) hpq s1) u hu
          have hwb := bnd q hpq s1 w hw
          simp only [Option.bind_some]
          rw [if_neg (by simp only [z9_ec]; rw [z9_i32_n0 (by omega)]; exact id), z9_aG_i (by omega) (by decide), z9_aG_i (by omega) (by decide), hR1, hR0, hw, ← s4, hu, hw]
          simp only [Option.bind_some]
          rw [if_neg (by simp only [z9_ec]; rw [z9_i32_n0 (by omega)]; exact id)]
          simp only [z9_oadd, z9_ec_add, if_true]
    | succ d ih =>
      intro q fu hpq hq hfu
      obtain ⟨fu, rfl⟩ : ∃ k, fu = k + 1 := ⟨fu - 1, by omega⟩
      have hqj : q ≤ j := by omega
      have hno := s5 (q - p) (by omega)
      rw [show p + (q - p) = q by omega] at hno
      have next : F_Md_unroll_L165 m z1 z2 z3 (z9_i32 p) (z9_i32 k) (z9_i32 (z9_A_bd g r k)) fu (z9_i32 q + 1) = some (z9_i32 (p + z9_stp tx (z9_vC g tx) (z9_A_bd g r k) (z9_tl g r (k + 1) (z9_A_ln g r - (k + 1))) p j)) := by
        rw [show z9_i32 q + 1 = z9_i32 (q + 1) from z9_i32_add q 1]
        exact ih (q + 1) fu (by omega) (by omega) (by omega)
      simp only [F_Md_unroll_L165, show (10 : Int32) = z9_i32 10 from rfl, z9_i32_mul, z9_i32_add]
      rw [z9_m_costOf h.1 hC (by omega) hsy hip hpq hqj]
      have hR1 := hrest (k + 1) q (Nat.zero_le _) (by omega) (by omega) hqj
      rw [show 10 * (k + 1) + q = 10 * k + 10 + q by omega] at hR1
      simp only [Option.bind_some]
      cases hu : z9_symC tx (z9_vC g tx) (z9_A_bd g r k) p q with
      | none => rw [if_pos (by decide)]; exact next
      | some u =>
        have hub : u ≤ z9_cB := z9_symC_le (fun h6' => hvle _ p q h6' (by rw [hcons]; exact List.mem_cons_self) hpq hqj) u hu
        rw [if_neg (by simp only [z9_ec]; rw [z9_i32_n0 (by omega)]; exact id), z9_aG_i (by omega) (by decide), z9_aG_i (by omega) (by decide), hR1, hR0]
        simp only [Option.bind_some]
        cases hw : z9_evC tx (z9_vC g tx) (z9_tl g r (k + 1) (z9_A_ln g r - (k + 1))) q j with
        | none => rw [if_pos (by decide)]; exact next
        | some w =>
          have hwb := bnd q hpq hqj w hw
          rw [if_neg (by simp only [z9_ec]; rw [z9_i32_n0 (by omega)]; exact id)]
          have hter : z9_ter tx (z9_vC g tx) (z9_A_bd g r k) (z9_tl g r (k + 1) (z9_A_ln g r - (k + 1))) p j q = some (u + w) := by unfold z9_ter; rw [hu, hw]; rfl
          rw [hter] at hno
          have hne' : ¬ z9_ec (some u) + z9_ec (some w) = z9_ec (z9_evC tx (z9_vC g tx) (z9_A_bd g r k :: z9_tl g r (k + 1) (z9_A_ln g r - (k + 1))) p j) := by
            intro e
            apply hno
            cases hv : z9_evC tx (z9_vC g tx) (z9_A_bd g r k :: z9_tl g r (k + 1) (z9_A_ln g r - (k + 1))) p j with
            | none => exact absurd hv hne
            | some y =>
              rw [hv] at e s4
              have hy : y ≤ 200000000 := by
                cases hA' : z9_symC tx (z9_vC g tx) (z9_A_bd g r k) p (p + z9_stp tx (z9_vC g tx) (z9_A_bd g r k) (z9_tl g r (k + 1) (z9_A_ln g r - (k + 1))) p j) with
                | none => exact absurd hA' s2
                | some ua =>
                  cases hB' : z9_evC tx (z9_vC g tx) (z9_tl g r (k + 1) (z9_A_ln g r - (k + 1))) (p + z9_stp tx (z9_vC g tx) (z9_A_bd g r k) (z9_tl g r (k + 1) (z9_A_ln g r - (k + 1))) p j) j with
                  | none => exact absurd hB' s3
                  | some ub =>
                    rw [hA', hB'] at s4
                    simp only [z9_oadd, Option.some.injEq] at s4
                    have h1 : ua ≤ z9_cB := z9_symC_le (fun h6' => hvle _ p _ h6' (by rw [hcons]; exact List.mem_cons_self) (by omega) s1) ua hA'
                    have h2 := bnd _ (by omega) s1 ub hB'
                    omega
              rw [z9_ec_add] at e
              simp only [z9_ec, z9_i32_inj (show u + w < 2147483648 by omega) (show y < 2147483648 by omega)] at e
              rw [e]
          rw [if_neg hne']; exact next
  exact key _ p rn_fu (Nat.le_refl _) rfl (show z9_stp tx (z9_vC g tx) (z9_A_bd g r k) (z9_tl g r (k + 1) (z9_A_ln g r - (k + 1))) p j < 1000000 by omega)
theorem z9_m_push {m : tM} {g : z9_tA} {F : Nat} {rk : Nat → Nat} (h : z9_gGood g F rk) {tx : Nat → Nat} {n : Nat} (hn : n ≤ 8) {r i j B : Nat} (hr : r < z9_A_nR g) (hij : i ≤ j) (hj : j ≤ n) (hB : B + 4 ≤ 500) (w0 : Nat → Int32)
    (hm : z9_mIs m g) (hA : z9_mAll m g tx n) (hrest : z9_restOK g tx (z9_vC g tx) r i j (M_rest m) 0) (hne : z9_evC tx (z9_vC g tx) (z9_bl g r) i j ≠ none) (hlow : ∀ y, y ∈ z9_chl tx (z9_vC g tx) (z9_bl g r) i j → y.1 < z9_A_nS g) :
    ∃ w, F_Md_unroll_L135 (z9_i32 r) (z9_i32 B) rn_fu (M_put_waits m w0) (z9_i32 B) (z9_i32 i) 0 = some (z9_i32 (B + (z9_chl tx (z9_vC g tx) (z9_bl g r) i j).length), M_put_waits m w) ∧ z9_rowAt w B (z9_chl tx (z9_vC g tx) (z9_bl g r) i j) ∧ (∀ y, y < 3 * B → w y = w0 y) ∧ (z9_chl tx (z9_vC g tx) (z9_bl g r) i j).length ≤ 4 := by
  have h6 := h.1.2.2.1
  have h12 := h.1.2.1
  obtain ⟨b1, b2, b3, b4⟩ := h.1.2.2.2 r hr
  have hmw : ∀ w, z9_mIs (M_put_waits m w) g := fun w => z9_mIs_fr hm (by simp only [z9_fG])
  have hAw : ∀ w, z9_mAll (M_put_waits m w) g tx n := fun w => z9_mAll_fr hA (by simp only [z9_mFrU_put]; exact z9_mFrU_rfl m)
  have clen : ∀ (L : List Nat) (p : Nat), (z9_chl tx (z9_vC g tx) L p j).length ≤ L.length := by
    intro L
    induction L with
    | nil => intro p; exact Nat.le_refl _
    | cons s L ih =>
      intro p
      have := ih (p + z9_stp tx (z9_vC g tx) s L p j)
      simp only [z9_chl, List.length_append, List.length_cons]
      split <;> simp <;> omega
  have hlen : (z9_chl tx (z9_vC g tx) (z9_bl g r) i j).length ≤ 4 := by
    have := clen (z9_bl g r) i
    rw [z9_bl_len] at this; omega
  have main : ∃ w, F_Md_unroll_L135 (z9_i32 r) (z9_i32 B) rn_fu (M_put_waits m w0) (z9_i32 B) (z9_i32 i) 0 = some (z9_i32 (B + (z9_chl tx (z9_vC g tx) (z9_bl g r) i j).length), M_put_waits m w) ∧ z9_rowAt w B (z9_chl tx (z9_vC g tx) (z9_bl g r) i j) ∧ (∀ y, y < 3 * B → w y = w0 y) := by
    refine z9_forU (L := fun f (st : tM × Int32 × Int32) k => F_Md_unroll_L135 (z9_i32 r) (z9_i32 B) f st.1 st.2.1 st.2.2 k) (Q := fun o => ∃ w, o = some (z9_i32 (B + (z9_chl tx (z9_vC g tx) (z9_bl g r) i j).length), M_put_waits m w) ∧ z9_rowAt w B (z9_chl tx (z9_vC g tx) (z9_bl g r) i j) ∧ (∀ y, y < 3 * B → w y = w0 y)) (P := fun k st => ∃ w p Q1, st = (M_put_waits m w, z9_i32 (B + Q1.length), z9_i32 p) ∧ i ≤ p ∧ p ≤ j ∧ z9_evC tx (z9_vC g tx) (z9_tl g r k (z9_A_ln g r - k)) p j ≠ none ∧ z9_chl tx (z9_vC g tx) (z9_bl g r) i j = Q1 ++ z9_chl tx (z9_vC g tx) (z9_tl g r k (z9_A_ln g r - k)) p j ∧ z9_rowAt w B Q1 ∧ ∀ y, y < 3 * B → w y = w0 y) (K := z9_A_ln g r) 0 (M_put_waits m w0, z9_i32 B, z9_i32 i) (by omega) (by omega) ⟨w0, i, [], rfl, Nat.le_refl _, hij, hne, rfl, trivial, fun y _ => rfl⟩ ?_ ?_
    · intro f st hP
      obtain ⟨w, p, Q1, rfl, p1, p2, p3, p4, p5, p6⟩ := hP
      rw [Nat.sub_self] at p4
      have p4' : z9_chl tx (z9_vC g tx) (z9_bl g r) i j = Q1 := by rw [p4]; exact List.append_nil Q1
      refine ⟨w, ?_, by rw [p4']; exact p5, p6⟩
      simp only [F_Md_unroll_L135]
      rw [z9_aG_i (by omega) (by decide), ((hmw w).2.2 r hr).2.1]
      simp only [Option.bind_some, Int32.le_refl, if_true, p4']
    · intro f st k hk hP
      obtain ⟨w, p, Q1, rfl, p1, p2, p3, p4, p5, p6⟩ := hP
      left
      have hbd := b4 k hk
      have hrw : z9_restOK g tx (z9_vC g tx) r i j (M_rest (M_put_waits m w)) 0 := by simp only [z9_mp_waits]; exact hrest
      have hpl := z9_m_place h hn (hAw w) hr hj hk p1 p2 hrw p3 (z9_i32 (B + Q1.length)) (z9_i32 r) (z9_i32 B)
      have hcons := z9_tl_cons (g := g) (r := r) hk
      rw [hcons] at p3 p4
      obtain ⟨s1, s2, s3, _, _⟩ := z9_stp_spec p3
      generalize hst : z9_stp tx (z9_vC g tx) (z9_A_bd g r k) (z9_tl g r (k + 1) (z9_A_ln g r - (k + 1))) p j = t at *
      have hchl : z9_chl tx (z9_vC g tx) (z9_A_bd g r k :: z9_tl g r (k + 1) (z9_A_ln g r - (k + 1))) p j = (if z9_A_bd g r k < 6 then [(z9_A_bd g r k, p, p + t)] else []) ++ z9_chl tx (z9_vC g tx) (z9_tl g r (k + 1) (z9_A_ln g r - (k + 1))) (p + t) j := by simp only [z9_chl, hst]
      rw [hchl] at p4
      simp only [F_Md_unroll_L135]
      rw [z9_aG_i (by omega) (by decide), ((hmw w).2.2 r hr).2.1]
      simp only [Option.bind_some, z9_i32_le (show z9_A_ln g r < 2147483648 by omega) (show k < 2147483648 by omega), show (4 : Int32) = z9_i32 4 from rfl, z9_i32_mul, z9_i32_add]
      rw [if_neg (by omega), z9_aG_i (by omega) (by decide), ((hmw w).2.2 r hr).2.2.1 k hk]
      simp only [Option.bind_some]
      rw [hpl]
      simp only [Option.bind_some, z9_m_isLetter (show z9_A_bd g r k < 2147483648 by omega), z9_b01_0]
      by_cases hb6 : z9_A_bd g r k < 6
      · rw [if_pos hb6] at p4
        have hQ : Q1.length < 4 := by
          have := congrArg List.length p4
          simp only [List.length_append, List.length_cons, List.length_nil] at this; omega
        simp only [show ¬ 6 ≤ z9_A_bd g r k by omega, not_false_eq_true, if_true]
        rw [z9_m_defer (by omega)]
        simp only [Option.bind_some]
        refine ⟨(M_put_waits m (fun y => if y = 3 * (B + Q1.length) + 2 then z9_i32 (p + t) else if y = 3 * (B + Q1.length) + 1 then z9_i32 p else if y = 3 * (B + Q1.length) then z9_i32 (z9_A_bd g r k) else w y), z9_i32 (B + Q1.length + 1), z9_i32 (p + t)), rfl, (fun y => if y = 3 * (B + Q1.length) + 2 then z9_i32 (p + t) else if y = 3 * (B + Q1.length) + 1 then z9_i32 p else if y = 3 * (B + Q1.length) then z9_i32 (z9_A_bd g r k) else w y), p + t, Q1 ++ [(z9_A_bd g r k, p, p + t)], by rw [List.length_append]; rfl, by omega, s1, s3, ?_, ?_, ?_⟩
        · rw [p4, List.append_assoc]
        · refine z9_rowAt_app _ _ _ (z9_rowAt_eq _ _ (fun y h1 h2 => ?_) p5) ?_
          · show (if y = 3 * (B + Q1.length) + 2 then _ else if y = 3 * (B + Q1.length) + 1 then _ else if y = 3 * (B + Q1.length) then _ else w y) = w y
            rw [if_neg (by omega), if_neg (by omega), if_neg (by omega)]
          · refine ⟨?_, ?_, ?_, trivial⟩
            · show (if 3 * (B + Q1.length) = 3 * (B + Q1.length) + 2 then _ else if 3 * (B + Q1.length) = 3 * (B + Q1.length) + 1 then _ else if 3 * (B + Q1.length) = 3 * (B + Q1.length) then _ else _) = _
              rw [if_neg (by omega), if_neg (by omega), if_pos rfl]
            · show (if 3 * (B + Q1.length) + 1 = 3 * (B + Q1.length) + 2 then _ else if 3 * (B + Q1.length) + 1 = 3 * (B + Q1.length) + 1 then _ else _) = _
              rw [if_neg (by omega), if_pos rfl]
            · show (if 3 * (B + Q1.length) + 2 = 3 * (B + Q1.length) + 2 then _ else _) = _
              rw [if_pos rfl]
        · intro y hy
          show (if y = 3 * (B + Q1.length) + 2 then _ else if y = 3 * (B + Q1.length) + 1 then _ else if y = 3 * (B + Q1.length) then _ else w y) = _
          rw [if_neg (by omega), if_neg (by omega), if_neg (by omega)]; exact p6 y hy
      · rw [if_neg hb6] at p4
        simp only [show 6 ≤ z9_A_bd g r k by omega, not_true, if_false, Option.bind_some]
        exact ⟨(M_put_waits m w, z9_i32 (B + Q1.length), z9_i32 (p + t)), rfl, w, p + t, Q1, rfl, by omega, s1, s3, p4, p5, p6⟩
  obtain ⟨w, x1, x2, x3⟩ := main
  exact ⟨w, x1, x2, x3, hlen⟩
def z9_swp (w : Nat → Int32) (a b : Nat) (n : Nat) (y : Nat) : Int32 := if 3 * a ≤ y ∧ y < 3 * a + n then w (3 * b + (y - 3 * a)) else if 3 * b ≤ y ∧ y < 3 * b + n then w (3 * a + (y - 3 * b)) else w y
theorem z9_m_swap {m : tM} {w : Nat → Int32} {a b : Nat} (hab : a < b) (hb : b < 500) (z1 z2 : Int32) : F_Md_turnOver_L25 z1 z2 (z9_i32 a) (z9_i32 b) rn_fu (M_put_waits m w) 0 = some (M_put_waits m (z9_swp w a b 3)) := by
  refine z9_forU (L := fun f (st : tM) k => F_Md_turnOver_L25 z1 z2 (z9_i32 a) (z9_i32 b) f st k) (Q := fun o => o = some (M_put_waits m (z9_swp w a b 3))) (P := fun k st => st = M_put_waits m (z9_swp w a b k)) (K := 3) 0 (M_put_waits m w) (by omega) (by omega) ?_ ?_ ?_
  · congr 1
    funext y; unfold z9_swp; rw [if_neg (by omega), if_neg (by omega)]
  · intro f st hP
    simp only [F_Md_turnOver_L25, show (3 : Int32) ≤ z9_i32 3 from by decide, if_true, hP]
  · intro f st k hk hP
    left
    refine ⟨_, ?_, rfl⟩
    rw [hP]
    simp only [F_Md_turnOver_L25, show (3 : Int32) = z9_i32 3 from rfl, z9_i32_le (show 3 < 2147483648 by decide) (show k < 2147483648 by omega), z9_i32_mul, z9_i32_add, z9_mp_waits]
    rw [if_neg (by omega), z9_aG_i (by omega) (by decide), z9_aG_i (by omega) (by decide)]
    simp only [Option.bind_some]
    rw [z9_aS_i (by omega) (by decide)]
    simp only [Option.bind_some, z9_mp_waits, z9_mpw]
    rw [z9_aS_i (by omega) (by decide)]
    simp only [Option.bind_some, z9_mpw]
    congr 2
    funext y
    unfold z9_swp
    by_cases h1 : y = 3 * b + k
    · rw [if_pos h1, if_neg (by omega), if_neg (by omega), if_neg (by omega), if_pos (by omega)]
      congr 1; omega
    · rw [if_neg h1]
      by_cases h2 : y = 3 * a + k
      · rw [if_pos h2, if_neg (by omega), if_neg (by omega), if_pos (by omega)]
        congr 1; omega
      · rw [if_neg h2]
        by_cases h3 : 3 * a ≤ y ∧ y < 3 * a + k
        · rw [if_pos h3, if_pos (by omega)]
        · rw [if_neg h3]
          by_cases h4 : 3 * b ≤ y ∧ y < 3 * b + k
          · rw [if_pos h4, if_neg (by omega), if_pos (by omega)]
          · rw [if_neg h4, if_neg (by omega), if_neg (by omega)]
theorem z9_m_turn {m : tM} {w : Nat → Int32} {B L : Nat} (hL : L ≤ 4) (hB : B + 4 ≤ 500) :
    ∃ w', F_Md_turnOver (M_put_waits m w) (z9_i32 B) (z9_i32 (B + L)) = some (M_put_waits m w') ∧ (∀ y, y < 3 * B → w' y = w y) ∧ ∀ k e, k < L → e < 3 → w' (3 * (B + (L - 1 - k)) + e) = w (3 * (B + k) + e) := by
  have bexp : ∀ t, t < L → (z9_i32 (B + L) - 1) - (z9_i32 (B + t) - z9_i32 B) = z9_i32 (B + (L - 1 - t)) := by
    intro t ht
    rw [show (1 : Int32) = z9_i32 1 from rfl, z9_i32_sub (show 1 ≤ B + L by omega), z9_i32_sub (show B ≤ B + t by omega), z9_i32_sub (by omega)]
    congr 1; omega
  have main : ∃ w', F_Md_turnOver_L2 (z9_i32 B) (z9_i32 (B + L)) rn_fu (M_put_waits m w) (z9_i32 B) = some (M_put_waits m w') ∧ (∀ y, y < 3 * B → w' y = w y) ∧ ∀ k e, k < L → e < 3 → w' (3 * (B + (L - 1 - k)) + e) = w (3 * (B + k) + e) := by
    refine z9_forU (L := fun f (st : tM) k => F_Md_turnOver_L2 (z9_i32 B) (z9_i32 (B + L)) f st k) (Q := fun o => ∃ w', o = some (M_put_waits m w') ∧ (∀ y, y < 3 * B → w' y = w y) ∧ ∀ k e, k < L → e < 3 → w' (3 * (B + (L - 1 - k)) + e) = w (3 * (B + k) + e)) (P := fun q st => B ≤ q ∧ ∃ w', st = M_put_waits m w' ∧ (∀ y, y < 3 * B → w' y = w y) ∧ ∀ k e, k < L → e < 3 → w' (3 * (B + k) + e) = if k < q - B ∨ L - 1 - k < q - B then w (3 * (B + (L - 1 - k)) + e) else w (3 * (B + k) + e)) (K := B + L / 2) B (M_put_waits m w) (by omega) (by omega) ⟨Nat.le_refl _, w, rfl, fun y _ => rfl, fun k e hk _ => by rw [if_neg (by omega)]⟩ ?_ ?_
    · intro f st hP
      obtain ⟨_, w', rfl, p1, p2⟩ := hP
      refine ⟨w', ?_, p1, ?_⟩
      · simp only [F_Md_turnOver_L2]
        by_cases hL0 : L = 0
        · subst hL0
          have : (z9_i32 (B + 0) - 1) - (z9_i32 (B + 0 / 2) - z9_i32 B) ≤ z9_i32 (B + 0 / 2) := by
            simp only [Nat.add_zero, Nat.zero_div]
            rw [z9_i32_sub (Nat.le_refl B), Nat.sub_self]
            by_cases hB0 : B = 0
            · subst hB0; decide
            · rw [show (1 : Int32) = z9_i32 1 from rfl, z9_i32_sub (by omega), z9_i32_sub (by omega), z9_i32_le (by omega) (by omega)]; omega
          rw [if_pos this]
        · rw [if_pos (by rw [bexp (L / 2) (by omega), z9_i32_le (by omega) (by omega)]; omega)]
      · intro k e hk he
        rw [p2 (L - 1 - k) e (by omega) he]
        by_cases hc : L - 1 - k < B + L / 2 - B ∨ L - 1 - (L - 1 - k) < B + L / 2 - B
        · rw [if_pos hc, show L - 1 - (L - 1 - k) = k by omega]
        · rw [if_neg hc, show L - 1 - k = k by omega]
    · intro f st q hq hP
      obtain ⟨hBq, w', rfl, p1, p2⟩ := hP
      left
      obtain ⟨t, rfl⟩ : ∃ t, q = B + t := ⟨q - B, by omega⟩
      have hb := bexp t (by omega)
      refine ⟨M_put_waits m (z9_swp w' (B + t) (B + (L - 1 - t)) 3), ?_, by omega, _, rfl, ?_, ?_⟩
      · simp only [F_Md_turnOver_L2, hb]
        rw [if_neg (by rw [z9_i32_le (by omega) (by omega)]; omega), z9_m_swap (by omega) (by omega)]; rfl
      · intro y hy
        unfold z9_swp
        rw [if_neg (by omega), if_neg (by omega)]; exact p1 y hy
      · intro k e hk he
        unfold z9_swp
        rw [show B + t - B = t by omega] at p2
        rw [show B + t + 1 - B = t + 1 by omega]
        by_cases h1 : k = t
        · subst h1
          rw [if_pos (by omega), show 3 * (B + (L - 1 - k)) + (3 * (B + k) + e - 3 * (B + k)) = 3 * (B + (L - 1 - k)) + e by omega, p2 (L - 1 - k) e (by omega) he, if_neg (by omega), if_pos (by omega)]
        · by_cases h2 : k = L - 1 - t
          · rw [if_neg (by omega), if_pos (by omega), show 3 * (B + t) + (3 * (B + k) + e - 3 * (B + (L - 1 - t))) = 3 * (B + t) + e by omega, p2 t e (by omega) he, if_neg (by omega), if_pos (by omega), show L - 1 - k = t by omega]
          · rw [if_neg (by omega), if_neg (by omega), p2 k e hk he]
            by_cases hc : k < t ∨ L - 1 - k < t
            · rw [if_pos hc, if_pos (by omega)]
            · rw [if_neg hc, if_neg (by omega)]
  obtain ⟨w', x1, x2, x3⟩ := main
  refine ⟨w', ?_, x2, x3⟩
  unfold F_Md_turnOver; rw [x1]; rfl
def z9_muN (rk : Nat → Nat) (x : Nat × Nat × Nat) : Nat := 7 * (x.2.2 - x.2.1) + rk x.1
def z9_dep (rk : Nat → Nat) (M0 : Nat) : List (Nat × Nat × Nat) → Prop
  | [] => True
  | x :: Q => Q.length ≤ 3 * (M0 - z9_muN rk x) ∧ z9_muN rk x ≤ M0 ∧ z9_dep rk M0 Q
theorem z9_dep_app {rk : Nat → Nat} {M0 mx : Nat} {Q : List (Nat × Nat × Nat)} (hmx : mx ≤ M0) (hQ : Q.length ≤ 3 * (M0 - mx)) (hd : z9_dep rk M0 Q) : ∀ K : List (Nat × Nat × Nat), K.length ≤ 4 → (∀ y, y ∈ K → z9_muN rk y < mx) → z9_dep rk M0 (K ++ Q) := by
  intro K
  induction K with
  | nil => intro _ _; simpa using hd
  | cons y K ih =>
    intro hl hm
    simp only [List.cons_append, z9_dep]
    have hy := hm y (List.mem_cons_self)
    simp only [List.length_cons] at hl
    refine ⟨?_, by omega, ih (by omega) (fun z hz => hm z (List.mem_cons_of_mem _ hz))⟩
    rw [List.length_append]; omega
theorem z9_mw_eta (m : tM) : M_put_waits m (M_waits m) = m := by
  simp only [M_code, M_draft, M_size, M_src, M_kept, M_keptSize, M_loaded, M_wrongLine, M_rules, M_heads, M_lengths, M_bodies, M_weights, M_costs, M_symbols, M_names, M_hasText, M_letters, M_text, M_emptySum, M_emptyCost, M_sums, M_least, M_units, M_upTo, M_upToNext, M_rest, M_nodes, M_nodeRule, M_nodeFrom, M_nodeTo, M_waits, M_at, M_end, M_value, M_put_code, M_put_draft, M_put_size, M_put_src, M_put_kept, M_put_keptSize, M_put_loaded, M_put_wrongLine, M_put_rules, M_put_heads, M_put_lengths, M_put_bodies, M_put_weights, M_put_costs, M_put_symbols, M_put_names, M_put_hasText, M_put_letters, M_put_text, M_put_emptySum, M_put_emptyCost, M_put_sums, M_put_least, M_put_units, M_put_upTo, M_put_upToNext, M_put_rest, M_put_nodes, M_put_nodeRule, M_put_nodeFrom, M_put_nodeTo, M_put_waits, M_put_at, M_put_end, M_put_value]
def z9_nodOK (m : tM) (L : List (Nat × Nat × Nat)) (n : Nat) : Prop := M_nodes m = z9_i32 n ∧ ∀ k, k < 100 → k < n → M_nodeRule m k = z9_i32 (L.getD k (0, 0, 0)).1 ∧ M_nodeFrom m k = z9_i32 (L.getD k (0, 0, 0)).2.1 ∧ M_nodeTo m k = z9_i32 (L.getD k (0, 0, 0)).2.2
theorem z9_m_unrollL {m : tM} {g : z9_tA} {F : Nat} {rk : Nat → Nat} (h : z9_gGood g F rk) (hm : z9_mIs m g) {tx : Nat → Nat} {n : Nat} (hn : n ≤ 8) (hA : z9_mAll m g tx n) {s i j M0 : Nat} (hM0 : M0 ≤ 61) (hmax : z9_sz g tx s i j ≤ 368640) :
    ∀ (N : Nat) (Q : List (Nat × Nat × Nat)) (fu : Nat) (st : tM) (done : List (Nat × Nat × Nat)), z9_tsz g tx Q = N → N < fu → z9_mFrU m st → z9_stk (M_waits st) Q → (∀ x, x ∈ Q → z9_nOK g tx n x) → z9_dep rk M0 Q → z9_nd g tx s i j = done ++ Q.flatMap (fun c => z9_nd g tx c.1 c.2.1 c.2.2) → z9_nodOK st (z9_nd g tx s i j) done.length →
    ∃ m', F_Md_unroll_L15 fu st (z9_i32 Q.length) = some m' ∧ z9_mFrU m m' ∧ z9_nodOK m' (z9_nd g tx s i j) (z9_sz g tx s i j) := by
  have h6 := h.1.2.2.1
  have h12 := h.1.2.1
  intro N
  induction N with
  | zero =>
    intro Q fu st done hN hfu hf hs hok hd hnd hno
    obtain ⟨fu, rfl⟩ : ∃ k, fu = k + 1 := ⟨fu - 1, by omega⟩
    cases Q with
    | nil =>
      refine ⟨st, ?_, hf, ?_⟩
      · simp only [F_Md_unroll_L15, List.length_nil, show (z9_i32 0 ≤ 0) = True from eq_true (by decide), if_true]
      · have : z9_sz g tx s i j = done.length := by unfold z9_sz; rw [hnd]; simp
        rw [this]; exact hno
    | cons x Q =>
      have := z9_nOK_sz h hn (hok x (List.mem_cons_self))
      simp only [z9_tsz] at hN; omega
  | succ N ih =>
    intro Q fu st done hN hfu hf hs hok hd hnd hno
    obtain ⟨fu, rfl⟩ : ∃ k, fu = k + 1 := ⟨fu - 1, by omega⟩
    cases Q with
    | nil => simp only [z9_tsz] at hN; omega
    | cons x Q =>
      have hx := hok x (List.mem_cons_self)
      obtain ⟨hs1, hs2, hs3, hs4⟩ := hs
      obtain ⟨hd1, hd2, hd3⟩ := hd
      have hQ : Q.length ≤ 183 := by omega
      have hms := z9_mIs_fr hm hf.1
      have hAs := z9_mAll_fr hA hf
      obtain ⟨f, r1, r2⟩ := z9_m_ruleFor h hms hn hAs hx
      have hx' := hx
      obtain ⟨x1, x2, x3, x4⟩ := hx
      obtain ⟨q1, q2, q3, q4, q5⟩ := z9_ruleOf_spec h x1 x2 (show x.2.2 - x.2.1 ≤ 8 by omega) x4
      have hndx : z9_nd g tx x.1 x.2.1 x.2.2 = (z9_ruleOf g tx x.1 x.2.1 x.2.2, x.2.1, x.2.2) :: (z9_kids g tx x.1 x.2.1 x.2.2).flatMap (fun c => z9_nd g tx c.1 c.2.1 c.2.2) := z9_nd_fix h x1 x2 (by omega) x4
      have hdl : done.length < z9_sz g tx s i j := by
        unfold z9_sz; rw [hnd, List.length_append, List.flatMap_cons, hndx]; simp
      have hget : (z9_nd g tx s i j).getD done.length (0, 0, 0) = (z9_ruleOf g tx x.1 x.2.1 x.2.2, x.2.1, x.2.2) := by
        rw [hnd, List.flatMap_cons, hndx, List.getD_eq_getElem?_getD, List.getElem?_append_right (Nat.le_refl _)]
        simp
     
      have note : ∃ st2, (if (100 : Int32) ≤ M_nodes (M_put_rest st f) then some (M_put_rest st f) else Option.bind (aS (M_nodeRule (M_put_rest st f)) 100 (M_nodes (M_put_rest st f)) (z9_i32 (z9_ruleOf g tx x.1 x.2.1 x.2.2))) fun f20 => Option.bind (aS (M_nodeFrom (M_put_nodeRule (M_put_rest st f) f20)) 100 (M_nodes (M_put_nodeRule (M_put_rest st f) f20)) (z9_i32 x.2.1)) fun f23 => Option.bind (aS (M_nodeTo (M_put_nodeFrom (M_put_nodeRule (M_put_rest st f) f20) f23)) 100 (M_nodes (M_put_nodeFrom (M_put_nodeRule (M_put_rest st f) f20) f23)) (z9_i32 x.2.2)) fun f26 => some (M_put_nodeTo (M_put_nodeFrom (M_put_nodeRule (M_put_rest st f) f20) f23) f26)) = some st2 ∧ z9_mFrU m (M_put_nodes st2 (M_nodes st2 + 1)) ∧ z9_nodOK (M_put_nodes st2 (M_nodes st2 + 1)) (z9_nd g tx s i j) (done.length + 1) ∧ M_waits (M_put_nodes st2 (M_nodes st2 + 1)) = M_waits st ∧ M_rest (M_put_nodes st2 (M_nodes st2 + 1)) = f := by
        simp only [z9_mp_rest, z9_mp_nodeRule, z9_mp_nodeFrom, hno.1, show (100 : Int32) = z9_i32 100 from rfl, z9_i32_le (show 100 < 2147483648 by decide) (show done.length < 2147483648 by omega)]
        by_cases h100 : 100 ≤ done.length
        · rw [if_pos h100]
          refine ⟨M_put_rest st f, rfl, ?_, ⟨?_, ?_⟩, ?_, ?_⟩
          · simp only [z9_mFrU_put]; exact hf
          · simp only [z9_mp_nodes, z9_mp_rest, hno.1]; exact z9_i32_add _ 1
          · intro k hk1 hk2
            simp only [z9_mp_nodes, z9_mp_rest]; exact hno.2 k hk1 (by omega)
          · simp only [z9_mp_nodes, z9_mp_rest]
          · simp only [z9_mp_nodes, z9_mp_rest]
        · rw [if_neg h100, z9_aS_i (by omega) (by decide)]
          simp only [Option.bind_some]
          rw [z9_aS_i (by omega) (by decide)]
          simp only [Option.bind_some]
          rw [z9_aS_i (by omega) (by decide)]
          simp only [Option.bind_some]
          refine ⟨_, rfl, ?_, ⟨?_, ?_⟩, ?_, ?_⟩
          · simp only [z9_mFrU_put]; exact hf
          · simp only [z9_mp_nodes, z9_mp_nodeTo, z9_mp_nodeFrom, z9_mp_nodeRule, z9_mp_rest, hno.1]; exact z9_i32_add _ 1
          · intro k hk1 hk2
            simp only [z9_mp_nodes, z9_mp_nodeTo, z9_mp_nodeFrom, z9_mp_nodeRule, z9_mp_rest]
            by_cases hkd : k = done.length
            · rw [hkd, hget]; simp only [if_true, and_self]
            · simp only [hkd, if_false]; exact hno.2 k hk1 (by omega)
          · simp only [z9_mp_nodes, z9_mp_nodeTo, z9_mp_nodeFrom, z9_mp_nodeRule, z9_mp_rest]
          · simp only [z9_mp_nodes, z9_mp_nodeTo, z9_mp_nodeFrom, z9_mp_nodeRule, z9_mp_rest]
      obtain ⟨st2, n1, n2, n3, n4, n5⟩ := note
      generalize hst3 : M_put_nodes st2 (M_nodes st2 + 1) = st3 at *
      obtain ⟨w, p1, p2, p3, p4⟩ := z9_m_push (m := st3) h hn q1 x2 x3 (show Q.length + 4 ≤ 500 by omega) (M_waits st3) (z9_mIs_fr hm n2.1) (z9_mAll_fr hA n2) (by rw [n5]; exact r2) q4 (fun y hy => (z9_kids_ok h hn hx' y hy).1.1)
      rw [z9_mw_eta] at p1
      have hkd : z9_chl tx (z9_vC g tx) (z9_bl g (z9_ruleOf g tx x.1 x.2.1 x.2.2)) x.2.1 x.2.2 = z9_kids g tx x.1 x.2.1 x.2.2 := rfl
      rw [hkd] at p1 p2 p4
      obtain ⟨w', t1, t2, t3⟩ := z9_m_turn (m := st3) (w := w) p4 (show Q.length + 4 ≤ 500 by omega)
      have hstk : z9_stk w' (z9_kids g tx x.1 x.2.1 x.2.2 ++ Q) := by
        refine z9_stk_rev (w := w) _ _ ?_ (z9_stk_eq Q (fun y hy => ?_) hs4)
        · intro k hk
          obtain ⟨a1, a2, a3⟩ := z9_rowAt_get _ _ k hk p2
          have b0 := t3 k 0 hk (by omega)
          have b1 := t3 k 1 hk (by omega)
          have b2 := t3 k 2 hk (by omega)
          rw [Nat.add_zero, Nat.add_zero] at b0
          rw [b0, b1, b2]
          exact ⟨a1, a2, a3⟩
        · rw [t2 y hy, p3 y hy, n4]
      obtain ⟨m', z1, z2, z3⟩ := ih (z9_kids g tx x.1 x.2.1 x.2.2 ++ Q) fu (M_put_waits st3 w') (done ++ [(z9_ruleOf g tx x.1 x.2.1 x.2.2, x.2.1, x.2.2)]) (by
          have e1 := z9_kids_tsz h hn hx'
          simp only [z9_tsz] at hN
          rw [z9_tsz_app]; omega) (by omega) (by simp only [z9_mFrU_put]; exact n2) (by simp only [z9_mp_waits]; exact hstk) (by
          intro y hy
          rcases List.mem_append.mp hy with hy | hy
          · exact (z9_kids_ok h hn hx' y hy).1
          · exact hok y (List.mem_cons_of_mem _ hy)) (z9_dep_app hd2 hd1 hd3 _ p4 (fun y hy => (z9_kids_ok h hn hx' y hy).2)) (by
          rw [hnd, List.flatMap_cons, hndx, List.flatMap_append]; simp) (by
          rw [List.length_append]
          simp only [List.length_cons, List.length_nil]
          unfold z9_nodOK at n3 ⊢
          simp only [z9_mp_waits]; exact n3)
      refine ⟨m', ?_, z2, z3⟩
      have hQl : (x :: Q).length = Q.length + 1 := rfl
      simp only [F_Md_unroll_L15, hQl, show (3 : Int32) = z9_i32 3 from rfl, show (1 : Int32) = z9_i32 1 from rfl, show (2 : Int32) = z9_i32 2 from rfl]
      have hpop : z9_i32 (Q.length + 1) + (-1) = z9_i32 Q.length := by rw [z9_i32_neg1 (by omega)]; rfl
      have hnz : ¬ z9_i32 (Q.length + 1) ≤ 0 := by
        have : (z9_i32 (Q.length + 1) ≤ z9_i32 0) = (Q.length + 1 ≤ 0) := z9_i32_le (by omega) (by decide)
        show ¬ z9_i32 (Q.length + 1) ≤ z9_i32 0
        rw [this]; omega
      rw [if_neg hnz]
      have hone : (-z9_i32 1 : Int32) = -1 := rfl
      simp only [hone, hpop, z9_i32_mul, z9_i32_add]
      rw [z9_aG_i (by omega) (by decide), z9_aG_i (by omega) (by decide), z9_aG_i (by omega) (by decide), hs1, hs2, hs3]
      simp only [Option.bind_some]
      rw [r1]
      simp only [Option.bind_some]
      have n1' := n1
      rw [n1']
      simp only [Option.bind_some]
      rw [show M_put_nodes st2 (M_nodes st2 + z9_i32 1) = st3 from hst3, show F_Md_unroll_L135 (z9_i32 (z9_ruleOf g tx x.1 x.2.1 x.2.2)) (z9_i32 Q.length) rn_fu st3 (z9_i32 Q.length) (z9_i32 x.2.1) 0 = _ from p1]
      simp only [Option.bind_some]
      rw [t1]
      simp only [Option.bind_some]
      rw [List.length_append, Nat.add_comm] at z1
      exact z1
theorem z9_m_unroll {m : tM} {g : z9_tA} {F : Nat} {rk : Nat → Nat} (h : z9_gGood g F rk) (hm : z9_mIs m g) {tx : Nat → Nat} {n : Nat} (hn : n ≤ 8) (hA : z9_mAll m g tx n) {s i j : Nat} (hx : z9_nOK g tx n (s, i, j)) :
    ∃ m', F_Md_unroll m (z9_i32 s) (z9_i32 i) (z9_i32 j) = some m' ∧ z9_mFrU m m' ∧ z9_nodOK m' (z9_nd g tx s i j) (z9_sz g tx s i j) := by
  have h6 := h.1.2.2.1
  have hx' := hx
  obtain ⟨x1, x2, x3, x4⟩ := hx
  simp only at x1 x2 x3 x4
  have hrk := h.2.2.1 s x1
  have hmax : z9_sz g tx s i j ≤ 368640 := z9_sz_max h x1 x2 (by omega) x4
  unfold F_Md_unroll
  have e : F_Md_defer m 0 (z9_i32 s) (z9_i32 i) (z9_i32 j) = some (z9_i32 1, M_put_waits m (fun y => if y = 2 then z9_i32 j else if y = 1 then z9_i32 i else if y = 0 then z9_i32 s else M_waits m y)) := by
    have := z9_m_defer (m := m) (w := M_waits m) (k := 0) (by omega) (z9_i32 s) (z9_i32 i) (z9_i32 j)
    rw [z9_mw_eta] at this
    exact this
  rw [e]
  simp only [Option.bind_some]
  obtain ⟨m', z1, z2, z3⟩ := z9_m_unrollL h hm hn hA (s := s) (i := i) (j := j) (M0 := 7 * (j - i) + rk s) (by omega) hmax (z9_tsz g tx [(s, i, j)]) [(s, i, j)] rn_fu (M_put_nodes (M_put_waits m (fun y => if y = 2 then z9_i32 j else if y = 1 then z9_i32 i else if y = 0 then z9_i32 s else M_waits m y)) 0) [] rfl (by
      show z9_sz g tx s i j + 0 < 1000000
      omega) (by simp only [z9_mFrU_put]; exact z9_mFrU_rfl m) (by simp only [z9_mp_nodes, z9_mp_waits, z9_stk]; exact ⟨rfl, rfl, rfl, trivial⟩) (by
      intro x hx; simp only [List.mem_singleton] at hx; rw [hx]; exact hx') ⟨Nat.zero_le _, Nat.le_refl _, trivial⟩ (by simp) ⟨by simp only [z9_mp_nodes]; rfl, fun k _ hk => by simp at hk⟩
  rw [show F_Md_unroll_L15 rn_fu (M_put_nodes (M_put_waits m (fun y => if y = 2 then z9_i32 j else if y = 1 then z9_i32 i else if y = 0 then z9_i32 s else M_waits m y)) 0) (z9_i32 1) = _ from z1]
  exact ⟨m', rfl, z2, z3⟩
