/-! The core, fourth part: new T[n][k]. (The library's multianewarray2F lies in JvmDerived/Shelf42.) -/
theorem rn_rng {α : Type} {f : Nat → α} {M i : Nat} {x : α} (h : ((List.range M).map f)[i]? = some x) : i < M ∧ f i = x := by
  rw [List.getElem?_map] at h
  by_cases hi : i < M
  · rw [List.getElem?_range hi] at h
    exact ⟨hi, Option.some.inj h⟩
  · rw [List.getElem?_eq_none (by rw [List.length_range]; omega)] at h
    cases h
theorem rn_rng' {α : Type} {f : Nat → α} {M i : Nat} (h : i < M) : ((List.range M).map f)[i]? = some (f i) := by
  rw [List.getElem?_map, List.getElem?_range h]; rfl
theorem rn_at2 {α : Type} {l l2 : List α} {i : Nat} {x : α} (h : (l ++ l2)[i]? = some x) : (i < l.length ∧ l[i]? = some x) ∨ (l.length ≤ i ∧ l2[i - l.length]? = some x) := by
  by_cases hl : i < l.length
  · rw [List.getElem?_append_left hl] at h
    exact Or.inl ⟨hl, h⟩
  · rw [List.getElem?_append_right (by omega)] at h
    exact Or.inr ⟨by omega, h⟩
theorem rn_to2 {α : Type} {l l2 : List α} {i : Nat} {x : α} (h : l2[i]? = some x) : (l ++ l2)[l.length + i]? = some x := by
  rw [List.getElem?_append_right (by omega), Nat.add_sub_cancel_left]; exact h
theorem rn_w_app {ad as : List Nat} {b : Nat} {tys t2 : List (ClassId × FieldType)} {w cs : List rn_C} {ws w2 : va_W} (h : rn_w ad b tys w ws) (hl : as.length = cs.length) (hfr : ∀ (i j a : Nat), ad[i]? = some a → as[j]? = some a → False) (hnd : ∀ (i j a : Nat), as[i]? = some a → as[j]? = some a → i = j)
    (hc : ∀ (i : Nat) (c : rn_C), cs[i]? = some c → ∃ a, as[i]? = some a ∧ rn_c (ad ++ as) b (tys ++ t2) (ws ++ w2) a c) : rn_w (ad ++ as) b (tys ++ t2) (w ++ cs) (ws ++ w2) := by
  refine ⟨by rw [List.length_append, List.length_append, h.1, hl], fun i j a hi hj => ?_, fun i c hi => ?_⟩
  · rcases rn_at2 hi with ⟨g1, g2⟩ | ⟨g1, g2⟩ <;> rcases rn_at2 hj with ⟨g3, g4⟩ | ⟨g3, g4⟩
    · exact h.2.1 i j a g2 g4
    · exact (hfr _ _ _ g2 g4).elim
    · exact (hfr _ _ _ g4 g2).elim
    · have := hnd _ _ _ g2 g4
      omega
  · rcases rn_at2 hi with ⟨g1, g2⟩ | ⟨g1, g2⟩
    · obtain ⟨a, g3, g4⟩ := h.2.2 i c g2
      exact ⟨a, rn_gl g3, rn_c_grow g4⟩
    · obtain ⟨a, g3, g4⟩ := hc _ c g2
      refine ⟨a, ?_, g4⟩
      have e1 : i = ad.length + (i - w.length) := by rw [h.1]; omega
      rw [e1]
      exact rn_to2 g3
theorem rn_outer (c : ClassId) (N h0 : Nat) : ∀ i : Nat, Jvm.Free.Multi.outerC c N h0 i = arrV c N (fun j => va_rf (if j < i then some (h0 + 1 + j) else none))
  | 0 => by
    show ({ cls := c, slots := Array.replicate N .null, vm := .none } : Cell) = _
    rw [arrV_new]
    refine congrArg (arrV c N) (funext fun j => ?_)
    simp [va_rf]
  | i + 1 => by
    show (Jvm.Free.Multi.outerC c N h0 i).setSlot i (.ref (h0 + 1 + i)) = _
    rw [rn_outer c N h0 i, arrV_store]
    refine congrArg (arrV c N) (funext fun j => ?_)
    by_cases e : j = i
    · subst e
      simp [updV, va_rf]
    · by_cases h : j < i
      · simp [updV, e, h, Nat.lt_succ_of_lt h]
      · simp [updV, e, h, show ¬ j < i + 1 by omega]
section
variable {Z : rn_Z} {M : rn_M} {pc : Nat} {ls : List (Option Value)} {st : List Value} {w w2 : List rn_C} {ca sa : Nat} {K : rn_K}
theorem rn_mna {ty : FieldType} {idx N K9 : Nat} {n k : Int32} {z : vp_A} {rc : rn_C} (hz : ∀ c : ClassId, Jvm.Free.Multi.innerC c K9 (defaultValue ty) = vp_cell c z) (hrc : ∀ (ad : List Nat) (b : Nat) (tys : List (ClassId × FieldType)) (ws : va_W) (a k t0 : Nat) (cA : ClassId), ws[k]? = some (a, .inl (cA, z)) → tys[t0]? = some (cA, ty) → rn_c ad b tys ws a rc)
    (hdf : fits ty (defaultValue ty) = true) (hdd : (defaultValue ty).isDefault = true) (hra : ∀ (U : State) (c : ClassId), U.vm.findClass (FieldType.array ty).toString = some c → va_RA U c ty) (hri : ∀ (U : State) (c : ClassId), (∀ (M : Nat) (dv : Value), U.isArrayOf (Jvm.Free.Multi.innerC c M dv) ty) → ArrOfT U c ty)
    (hcl : Cond.classLink M.1.cls idx ("[" ++ (FieldType.array ty).toString) ∈ rn_tb) (hov : Cond.arrayOver (.array ty) ∈ rn_tb) (har : Cond.arrayClass ty ∈ rn_tb) (hd : decode M.2.1 pc = .ok (.multianewarray idx 2, 4)) (hn : ¬ n < 0) (hk : ¬ k < 0) (hN : n.toNatClampNeg = N) (hK : k.toNatClampNeg = K9) (hb1 : N * 4 ≤ 536870912) (hb2 : K9 * componentBytes ty ≤ 536870912) (hb3 : K9 ≤ 536870912)
    (hw2 : w ++ (List.range (N + 1)).map (fun i => if i = 0 then rn_q (.array ty) ((List.range N).map (fun j => some (w.length + 1 + j))) else rc) = w2) (kk : Rn Z M (pc + 4) ls (.ref w.length :: st) w2 ca sa K) : Rn Z M pc ls (.int k :: .int n :: st) w (ca + (1 + N)) (sa + (N + N * K9)) K := by
  intro p e s m args below meth c H locs cells slots mc ms A ad0 ad ws tys la sta hC hW hL hS hp h1 h2
  obtain ⟨_, _, rfl, rfl, _, us, rfl, rfl, hS⟩ := hS
  subst hN; subst hK; subst hw2
  intro T hT X
  obtain ⟨vm₁, cA, comp, -, fA, fC, hO, hI, X', step⟩ := X.multianewarray2F hC.1 hC.2.2.2.1 (hC.2.2.2.2.1 _ hcl) (hC.2.2.2.2.1 _ hov) (hC.2.2.2.2.1 _ har) (g := F0 m pc la (.int k :: .int n :: us)) rfl (by rw [hC.2.1]; exact hd) rfl hn hk hb1 hb2 hb3 hdf hdd (show cells + (1 + n.toNatClampNeg) ≤ mc by omega) (show slots + (n.toNatClampNeg + n.toNatClampNeg * k.toNatClampNeg) ≤ ms by omega)
  generalize hF : Jvm.Free.Multi.fill (T.setVm vm₁) cA comp n.toNatClampNeg k.toNatClampNeg (defaultValue ty) n.toNatClampNeg = F at X' step
  generalize hNe : n.toNatClampNeg = N at *
  generalize hKe : k.toNatClampNeg = K9 at *
  have hTh : (T.setVm vm₁).heap = H := hT
  obtain ⟨f1, f2, -, -⟩ := Jvm.Free.Multi.fill_facts (T.setVm vm₁) cA comp N K9 (defaultValue ty) N
  rw [hF, hTh] at f1 f2
  rw [rn_outer] at f2
  have hold : ∀ x : Nat, x < H.size → F.heap[x]? = H[x]? := fun x hx => by
    have := Jvm.Free.Multi.fill_old (T.setVm vm₁) cA comp N K9 (defaultValue ty) (a := x) (by rw [hTh]; exact hx) N
    rw [hF, hTh] at this
    exact this
  have hrow : ∀ j : Nat, j < N → F.heap[H.size + 1 + j]? = some (vp_cell comp z) := fun j hj => by
    have := Jvm.Free.Multi.fill_inner (T.setVm vm₁) cA comp N K9 (defaultValue ty) N j hj
    rw [hF, hTh, hz] at this
    exact this
  obtain ⟨hw, hP, hKK, hD, hSS⟩ := hW
  generalize hw3 : (List.range (N + 1)).map (fun i => (H.size + i, if i = 0 then (.inl (cA, N, .inr (.inr (.inr (.inr (fun j => if j < N then some (H.size + 1 + j) else none))))) : va_E) else .inl (comp, z))) = w3
  have hw3a : ∀ (i : Nat) (x : Nat × va_E), w3[i]? = some x → i < N + 1 ∧ x = (H.size + i, if i = 0 then (.inl (cA, N, .inr (.inr (.inr (.inr (fun j => if j < N then some (H.size + 1 + j) else none))))) : va_E) else .inl (comp, z)) := fun i x hx => by
    rw [← hw3] at hx
    obtain ⟨q1, q2⟩ := rn_rng hx
    exact ⟨q1, q2.symm⟩
  have hbl : Z.2.2.1 < H.size := Nat.lt_of_lt_of_le hC.2.2.2.2.2.2.2.2.2.2.1 hSS.1
  have hlt : ∀ (i a : Nat), ad[i]? = some a → a < H.size := fun i a hi => by
    rcases rn_addr hw hi with h | ⟨k0, x, hk0⟩
    · rw [h]; exact hbl
    · exact (hP k0 _ hk0).lt
  have hP2 : va_P Z.2.1 rn_cl (ws ++ w3) F.heap := (hP.kept (fun k0 x hx => hold x.1 ((hP k0 x hx).lt))).app (fun k0 x hx => by
    obtain ⟨q1, rfl⟩ := hw3a k0 x hx
    by_cases h0 : k0 = 0
    · subst h0
      exact f2
    · obtain ⟨j, rfl⟩ := Nat.exists_eq_succ_of_ne_zero h0
      have hr := hrow j (by omega)
      rw [show H.size + 1 + j = H.size + (j + 1) by omega] at hr
      show va_at _ _ (H.size + (j + 1), if j + 1 = 0 then _ else _) _
      rw [if_neg (by omega)]
      exact hr)
  have hD2 : va_D A (ws ++ w3) := by
    refine ⟨fun i j x y hi hj hxy => ?_, fun k0 x hx => ?_⟩
    · rcases rn_at2 hi with ⟨g1, g2⟩ | ⟨g1, g2⟩ <;> rcases rn_at2 hj with ⟨g3, g4⟩ | ⟨g3, g4⟩
      · exact hD.1 i j x y g2 g4 hxy
      · obtain ⟨q1, rfl⟩ := hw3a _ _ g4
        have := (hP i x g2).lt
        simp only at hxy
        omega
      · obtain ⟨q1, rfl⟩ := hw3a _ _ g2
        have := (hP j y g4).lt
        simp only at hxy
        omega
      · obtain ⟨q1, rfl⟩ := hw3a _ _ g2
        obtain ⟨q2, rfl⟩ := hw3a _ _ g4
        simp only at hxy
        omega
    · rcases rn_at2 hx with ⟨g1, g2⟩ | ⟨g1, g2⟩
      · exact hD.2 k0 x g2
      · obtain ⟨q1, rfl⟩ := hw3a _ _ g2
        exact hC.2.2.2.2.2.2.2.2.1 _ (Nat.le_trans hSS.1 (Nat.le_add_right _ _))
  have hK2 : va_K Z.2.1 rn_cl (tys ++ [(cA, .array ty), (comp, ty)]) s := hKK.app ⟨hKK.1, fun k0 q hk0 => by
    match k0, hk0 with
    | 0, hk0 =>
      cases hk0
      refine ⟨fun n2 z2 => ?_, fA⟩
      obtain ⟨k9, h9⟩ := (hO n2 0 0).1
      exact ⟨fun _ h => (by cases h), h9⟩
    | 1, hk0 =>
      cases hk0
      exact ⟨hri s comp (fun M dv => (hI M dv).1), hra s comp fC⟩
    | k0 + 2, hk0 => simp at hk0⟩
  have hS2 : va_S A s.heap F.heap locs := ⟨by rw [f1]; exact Nat.le_trans hSS.1 (by omega), fun q g1 g2 => by
    rw [hold q (Nat.lt_of_lt_of_le g1 hSS.1)]
    exact hSS.2.1 q g1 g2, hSS.2.2⟩
  have hlen : ad.length = w.length := hw.1
  have hw9 : rn_w (ad ++ (List.range (N + 1)).map (fun i => H.size + i)) Z.2.2.1 (tys ++ [(cA, .array ty), (comp, ty)]) (w ++ (List.range (N + 1)).map (fun i => if i = 0 then rn_q (.array ty) ((List.range N).map (fun j => some (w.length + 1 + j))) else rc)) (ws ++ w3) := by
    refine rn_w_app hw (by simp) (fun i j a hi hj => ?_) (fun i j a hi hj => ?_) (fun i c0 hi => ?_)
    · have := hlt i a hi
      obtain ⟨-, q⟩ := rn_rng hj
      omega
    · obtain ⟨-, q1⟩ := rn_rng hi
      obtain ⟨-, q2⟩ := rn_rng hj
      omega
    · obtain ⟨q1, rfl⟩ := rn_rng hi
      refine ⟨H.size + i, rn_rng' q1, ?_⟩
      have hent : (ws ++ w3)[ws.length + i]? = some (H.size + i, if i = 0 then (.inl (cA, N, .inr (.inr (.inr (.inr (fun j => if j < N then some (H.size + 1 + j) else none))))) : va_E) else .inl (comp, z)) := by
        refine rn_to2 ?_
        rw [← hw3]
        exact rn_rng' q1
      by_cases h0 : i = 0
      · subst h0
        rw [if_pos rfl] at hent ⊢
        refine ⟨ws.length + 0, tys.length, cA, (fun j => if j < N then some (H.size + 1 + j) else none), ?_, ?_, rfl, fun j x hj => ?_⟩
        · rw [hent]
          simp
        · rw [List.getElem?_append_right (Nat.le_refl _), Nat.sub_self]; rfl
        · obtain ⟨r1, rfl⟩ := rn_rng hj
          refine ⟨H.size + (1 + j), ?_, ?_⟩
          · rw [← hlen, Nat.add_assoc]
            exact rn_to2 (rn_rng' (f := fun i => H.size + i) (by omega))
          · show (if j < N then some (H.size + 1 + j) else none) = _
            rw [if_pos r1, Nat.add_assoc]
      · rw [if_neg h0] at hent ⊢
        exact hrc _ _ _ _ _ _ (tys.length + 1) comp hent (by rw [List.getElem?_append_right (by omega)]; simp)
  obtain ⟨l0, hl0⟩ := hp
  obtain ⟨t2, a1, b1⟩ := kk.go (p := p) (e := e) (below := below) (cells := cells + 1 + N) (slots := slots + N + N * K9) (mc := mc) (ms := ms) (ad0 := ad0) (sta := .ref H.size :: us) hC ⟨hw9, hP2, hK2, hD2, hS2⟩ (rn_L_grow hL) ⟨_, _, rfl, ⟨H.size, by rw [← hlen]; exact rn_to2 (i := 0) (rn_rng' (f := fun i => H.size + i) (by omega)), rfl⟩, rn_vs_grow hS⟩ ⟨l0 ++ _, by rw [hl0, List.append_assoc]⟩ (by omega) (by omega) F rfl X'
  refine ⟨t2, step t2 ?_, b1⟩
  rw [hT]
  exact a1
theorem rn_mna_long {idx N k9 : Nat} {n k : Int32} (hcl : Cond.classLink M.1.cls idx "[[J" ∈ rn_tb ∧ Cond.arrayOver (.array .long) ∈ rn_tb ∧ Cond.arrayClass .long ∈ rn_tb) (hd : decode M.2.1 pc = .ok (.multianewarray idx 2, 4)) (hn : ¬ n < 0) (hk : ¬ k < 0) (hN : n.toNatClampNeg = N) (hK : k.toNatClampNeg = k9) (hb1 : N * 4 ≤ 536870912) (hb2 : k9 * 8 ≤ 536870912)
    (hw2 : w ++ (List.range (N + 1)).map (fun i => if i = 0 then rn_q (.array .long) ((List.range N).map (fun j => some (w.length + 1 + j))) else rn_l k9 (fun _ => 0)) = w2) (kk : Rn Z M (pc + 4) ls (.ref w.length :: st) w2 ca sa K) : Rn Z M pc ls (.int k :: .int n :: st) w (ca + (1 + N)) (sa + (N + N * k9)) K :=
  rn_mna (ty := .long) (rc := rn_l k9 (fun _ => 0)) (z := (k9, .inr (.inl (fun _ => 0)))) (fun c => by unfold Jvm.Free.Multi.innerC; rw [arrV_new]; rfl) (fun _ _ _ _ _ k t0 cA h1 h2 => ⟨k, t0, cA, h1, h2⟩) rfl rfl (fun _ _ h => h) (fun U c h N z => by
    obtain ⟨-, h9⟩ := h N .null
    exact ⟨fun _ h => (by cases h), h9⟩) hcl.1 hcl.2.1 hcl.2.2 hd hn hk hN hK hb1 hb2 (by omega) hw2 kk
theorem rn_mna_int {idx N k9 : Nat} {n k : Int32} (hcl : Cond.classLink M.1.cls idx "[[I" ∈ rn_tb ∧ Cond.arrayOver (.array .int) ∈ rn_tb ∧ Cond.arrayClass .int ∈ rn_tb) (hd : decode M.2.1 pc = .ok (.multianewarray idx 2, 4)) (hn : ¬ n < 0) (hk : ¬ k < 0) (hN : n.toNatClampNeg = N) (hK : k.toNatClampNeg = k9) (hb1 : N * 4 ≤ 536870912) (hb2 : k9 * 4 ≤ 536870912)
    (hw2 : w ++ (List.range (N + 1)).map (fun i => if i = 0 then rn_q (.array .int) ((List.range N).map (fun j => some (w.length + 1 + j))) else rn_i .int k9 (fun _ => 0)) = w2) (kk : Rn Z M (pc + 4) ls (.ref w.length :: st) w2 ca sa K) : Rn Z M pc ls (.int k :: .int n :: st) w (ca + (1 + N)) (sa + (N + N * k9)) K :=
  rn_mna (ty := .int) (rc := rn_i .int k9 (fun _ => 0)) (z := (k9, .inl (fun _ => 0))) (fun c => by unfold Jvm.Free.Multi.innerC; rw [arrV_new]; rfl) (fun _ _ _ _ _ k t0 cA h1 h2 => ⟨k, t0, cA, h1, h2⟩) rfl rfl (fun _ _ h => h) (fun U c h N z => by
    obtain ⟨-, h9⟩ := h N .null
    exact ⟨fun _ h => (by cases h), h9⟩) hcl.1 hcl.2.1 hcl.2.2 hd hn hk hN hK hb1 hb2 (by omega) hw2 kk
end
