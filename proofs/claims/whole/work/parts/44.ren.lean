/-! A world under other numbers, cells dropped: new number j is the old number is[j]. -/
def rn_okc (n : Nat) : rn_C → Bool
  | .inr (.inr (.inl (_, l))) => l.all fun x => match x with
    | none => true
    | some j => decide (j < n)
  | _ => true
theorem rn_mc_ok {is ad ad' : List Nat} {b a : Nat} {tys : List (ClassId × FieldType)} {ws : va_W} (hg : ∀ (j i a : Nat), is[j]? = some i → ad[i]? = some a → ad'[j]? = some a) {c : rn_C} (hc : rn_okc is.length c = true) (h : rn_c ad b tys ws a (rn_mc is c)) : rn_c ad' b tys ws a c := by
  rcases c with ⟨ty, n, f⟩ | ⟨n, f⟩ | ⟨ty, l⟩ | ⟨ci, fs⟩ | u
  · exact h
  · exact h
  · obtain ⟨k, t0, cA, g, h1, h2, h3, h4⟩ := h
    refine ⟨k, t0, cA, g, by simpa using h1, h2, h3, ?_⟩
    intro j x hx
    have hj := h4 j _ (by rw [List.getElem?_map, hx]; rfl)
    cases x with
    | none => exact hj
    | some i =>
      have hi : i < is.length := by
        have := List.all_eq_true.mp hc (some i) (List.mem_of_getElem? hx)
        simpa using this
      obtain ⟨a1, e1, e2⟩ := hj
      have e3 : is[i]? = some (is.getD i 0) := by
        rw [List.getD_eq_getElem?_getD, List.getElem?_eq_getElem hi]; rfl
      exact ⟨a1, hg i _ a1 e3 e1, e2⟩
  · obtain ⟨k, us, h1, h2⟩ := h
    exact ⟨k, us, h1, rn_mvs_ok hg h2⟩
  · exact h
theorem rn_ren {Z : rn_Z} {M : rn_M} {pc : Nat} {ls ls' : List (Option Value)} {st st' : List Value} {w w' : List rn_C} {ca sa : Nat} {K : rn_K} (is : List Nat)
    (hK : ∀ below args s mc ms A a b, K below args s mc ms A a = K below args s mc ms A b)
    (hlen : is.length = w'.length) (hb : (is.all fun i => decide (i < w.length)) = true) (hnd : is.Nodup)
    (hw : ∀ (j : Nat) (c : rn_C), w'[j]? = some c → ∃ i : Nat, is[j]? = some i ∧ w[i]? = some (rn_mc is c)) (hok : (w'.all (rn_okc is.length)) = true)
    (hls : ls = ls'.map (Option.map (rn_mv is))) (hst : st = st'.map (rn_mv is))
    (k : Rn Z M pc ls' st' w' ca sa K) : Rn Z M pc ls st w ca sa K := by
  intro p e s m args below meth c H locs cells slots mc ms A ad0 ad ws tys la sta hC hW hL hS hp h1 h2
  obtain ⟨⟨hl, hinj, hcell⟩, hP, hKn, hD, hSs⟩ := hW
  have hg : ∀ (j i a : Nat), is[j]? = some i → ad[i]? = some a → (is.map fun i => ad.getD i 0)[j]? = some a := by
    intro j i a hj ha
    rw [List.getElem?_map, hj]
    simp [List.getD_eq_getElem?_getD, ha]
  have hback : ∀ (j a : Nat), (is.map fun i => ad.getD i 0)[j]? = some a → ∃ i, is[j]? = some i ∧ ad[i]? = some a := by
    intro j a hj
    rw [List.getElem?_map] at hj
    cases e0 : is[j]? with
    | none => rw [e0] at hj; cases hj
    | some i =>
      rw [e0] at hj
      have hi : i < w.length := by
        have := List.all_eq_true.mp hb i (List.mem_of_getElem? e0)
        simpa using this
      have hi2 : i < ad.length := by omega
      refine ⟨i, rfl, ?_⟩
      have : ad.getD i 0 = a := by simpa using hj
      rw [← this, List.getD_eq_getElem?_getD, List.getElem?_eq_getElem hi2]; rfl
  rw [hK below args s mc ms A ad0 (is.map fun i => ad.getD i 0)]
  refine k.go (ad := is.map fun i => ad.getD i 0) hC ⟨⟨by simpa using hlen, ?_, ?_⟩, hP, hKn, hD, hSs⟩ ⟨hL.1, hL.2.1, ?_⟩ ?_ ⟨[], by simp⟩ h1 h2
  · intro i j a hi hj
    obtain ⟨i1, e1, e2⟩ := hback i a hi
    obtain ⟨j1, e3, e4⟩ := hback j a hj
    have := hinj i1 j1 a e2 e4
    subst this
    obtain ⟨l1, g1⟩ := List.getElem?_eq_some_iff.mp e1
    exact (List.getElem?_inj l1 hnd).mp (e1.trans e3.symm)
  · intro j c hj
    obtain ⟨i, e1, e2⟩ := hw j c hj
    obtain ⟨a, e3, e4⟩ := hcell i _ e2
    exact ⟨a, hg j i a e1 e3, rn_mc_ok hg (List.all_eq_true.mp hok c (List.mem_of_getElem? hj)) e4⟩
  · intro i v hv
    obtain ⟨u, e1, e2⟩ := hL.2.2 i (rn_mv is v) (by rw [hls, List.getElem?_map, hv]; rfl)
    exact ⟨u, rn_mv_ok hg e1, e2⟩
  · exact rn_mvs_ok hg (hst ▸ hS)
