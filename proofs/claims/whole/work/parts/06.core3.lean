/-! The core, third part: calls, and a world under other numbers. -/
theorem rn_pay {args : Array Value} {s : State} (hts : ∀ w ∈ rn_tb, w.before args s = true) : ∀ w ∈ rn_tb, ∀ (a' : Array Value) (U : State), s.WarmedH U.vm → w.before a' U = true := fun w hw a' U hW => rn_warm (List.mem_filter.mp hw).2 (hts w hw) hW
theorem rn_blind {Z : rn_Z} {ws : va_W} {tys : List (ClassId × FieldType)} {ava : List Value} {sz : Nat} : FrameBlind (rn_P Z ws tys ava sz) := fun a U g mk q => by
  obtain ⟨q0, q1, qP, qK, qD, qX, qb, qn, qT⟩ := q
  exact ⟨q0, q1, qP, va_K.moved (u := U) (U := U.calling g mk a) (Vm.Alike.refl U.vm) qK, qD, va_X.moved (u := U) (U := U.calling g mk a) (Vm.Alike.refl U.vm) qX, qb, qn, qT.same (s := U) (U := U.calling g mk a) rfl⟩
def rn_Fit (M N : rn_M) : Prop := N.2.2.2.2.1 + 1 ≤ M.2.2.2.2.1 ∧ 8 + (N.2.2.1 + 11) + N.2.2.2.2.2 ≤ M.2.2.2.2.2
def rn_Inv (N : rn_M) (n : Nat) : Prop := Cond.code N.1 N.2.1 N.2.2.1 N.2.2.2.1 ∈ rn_tb ∧ Cond.initialized N.1.cls ∈ rn_tb ∧ (N.1.cls ≠ "java/lang/invoke/MethodHandle" ∧ N.1.cls ≠ "java/lang/invoke/VarHandle") ∧ (parseMethodDescriptor N.1.desc).map (fun d => d.parameters.length) = some n
def rn_IV (own : String) (idx : Nat) (N : rn_M) (n ci : Nat) : Prop := rn_Inv N n ∧ (Cond.methodLink own idx N.1 ∈ rn_tb ∨ ∃ host, Cond.methodLinkNest own idx N.1 host ∈ rn_tb) ∧ Cond.instanceMethod N.1 ∈ rn_tb ∧ Cond.selects N.1.cls N.1 N.1 ∈ rn_tb ∧ ∃ q : vw_C, rn_cl[ci]? = some q ∧ q.1 = N.1.cls
def rn_IS (own : String) (idx : Nat) (N : rn_M) (n : Nat) : Prop := rn_Inv N n ∧ (Cond.methodLink own idx N.1 ∈ rn_tb ∨ ∃ host, Cond.methodLinkNest own idx N.1 host ∈ rn_tb) ∧ Cond.static N.1 ∈ rn_tb
def rn_II (own : String) (idx : Nat) (N : rn_M) (n : Nat) : Prop := rn_Inv N n ∧ (Cond.methodLink own idx N.1 ∈ rn_tb ∨ ∃ host, Cond.methodLinkNest own idx N.1 host ∈ rn_tb) ∧ Cond.instanceMethod N.1 ∈ rn_tb ∧ N.1.name = "<init>"
section
variable {Z : rn_Z} {M N : rn_M} {pc : Nat} {ls : List (Option Value)} {st st0 : List Value} {w w1 : List rn_C} {ca sa ca' sa' : Nat} {K : rn_K} {r : Option Value}
theorem rn_callB {R : Room} {s : State} {args : Array Value} {own : String} {idx n : Nat} (hts : ∀ w ∈ rn_tb, w.before args s = true) (hI : rn_Inv N n) (hl : Cond.methodLink own idx N.1 ∈ rn_tb) (hf : N.2.2.2.2.1 + 1 ≤ R.frames ∧ 8 + (N.2.2.1 + 11) + N.2.2.2.2.2 ≤ R.locals) : CallB R s args own idx N.1 N.2.1 N.2.2.1 N.2.2.2.1 (rn_ws N) (rn_R N ca' sa') ca' sa' n := by
  refine ⟨rfl, rfl, hf.1, hf.2, fun w hw => ?_, List.mem_cons_self, hts _ hI.1, hts _ hI.2.1, hI.2.2.1, fun sig h => ?_, hts _ hl⟩
  · rcases List.mem_cons.mp hw with h | h
    · subst h
      exact rn_pay hts _ hI.1
    · exact rn_pay hts _ h
  · have h2 := hI.2.2.2
    rw [h] at h2
    exact (Option.some.inj h2).symm
theorem rn_callN {R : Room} {s : State} {args : Array Value} {own host : String} {idx n : Nat} (hts : ∀ w ∈ rn_tb, w.before args s = true) (hI : rn_Inv N n) (hl : Cond.methodLinkNest own idx N.1 host ∈ rn_tb) (hf : N.2.2.2.2.1 + 1 ≤ R.frames ∧ 8 + (N.2.2.1 + 11) + N.2.2.2.2.2 ≤ R.locals) : va_CN R s args own idx N.1 host N.2.1 N.2.2.1 N.2.2.2.1 (rn_ws N) (rn_R N ca' sa') ca' sa' n := by
  refine ⟨⟨rfl, rfl, hf.1, hf.2, fun w hw => ?_, List.mem_cons_self⟩, hts _ hI.1, hts _ hI.2.1, hI.2.2.1, fun sig h => ?_, hts _ hl⟩
  · rcases List.mem_cons.mp hw with h | h
    · subst h
      exact rn_pay hts _ hI.1
    · exact rn_pay hts _ h
  · have h2 := hI.2.2.2
    rw [h] at h2
    exact (Option.some.inj h2).symm
theorem rn_pre {p : Program} {s : State} {m : MethodId} {args : Array Value} {meth : Method} {c : Code} {H : Heap} {locs : List Loc} {A : Nat → Prop} {ad : List Nat} {ws : va_W} {tys : List (ClassId × FieldType)} {ava : List Value} (hC : rn_X Z M p s m args meth c A) (hW : rn_Wd Z A s H locs ad tys w ws) : ∀ U : State, U.heap = H → s.WarmedH U.vm → rn_P Z ws tys ava H.size ava.toArray U := by
  intro U hU hw
  have hX := va_X.kept hC.2.2.2.2.2.2.2.2.2.1 (hW.2.2.2.2.2.1 _ hC.2.2.2.2.2.2.2.2.2.2.1 hC.2.2.2.2.2.2.2.2.2.2.2.1)
  refine ⟨rfl, by rw [hU], by rw [hU]; exact hW.2.1, va_K.moved hw.alike hW.2.2.1, hW.2.2.2.1.weaken (fun _ _ _ _ => trivial), by rw [hU]; exact va_X.moved hw.alike hX, Nat.lt_of_lt_of_le hC.2.2.2.2.2.2.2.2.2.2.1 hW.2.2.2.2.1, fun k e hk => ?_, ?_⟩
  · exact hC.2.2.2.2.2.2.2.2.2.2.2.1 (hW.2.2.2.1.2 k _ hk)
  · rw [hU]
    refine rn_Th.warm hw ((hC.2.2.2.2.2.2.2.2.2.2.2.2.1.kept hW.2.2.2.2.2.1).narrow (fun q hq => ?_))
    rcases hq with ⟨k0, e0, hk0⟩ | hq
    · exact hW.2.2.2.1.2 k0 _ hk0
    · exact hC.2.2.2.2.2.2.2.2.1 q (Nat.le_trans hW.2.2.2.2.1 hq)
/-- behind a call -/
theorem rn_goon {p : Program} {e : Env} {s : State} {m : MethodId} {args : Array Value} {below : List Frame} {meth : Method} {c : Code} {H : Heap} {locs : List Loc} {cells slots mc ms : Nat} {A : Nat → Prop} {ad0 ad : List Nat} {ws : va_W} {tys : List (ClassId × FieldType)} {la : Array Slot} {rest sta : List Value} {aa : Array Value}
    (hC : rn_X Z M p s m args meth c A) (hW : rn_Wd Z A s H locs ad tys w ws) (hL : rn_L ad la M.2.2.1 ls) (hS : rn_vs ad st rest) (hp : ∃ l, ad = ad0 ++ l) (h1 : cells + (ca + ca') ≤ mc) (h2 : slots + (sa + sa') ≤ ms)
    (hr : va_Run p Z.1 e (rn_R M mc ms) s m args below meth c H locs cells slots ca' sa' (F0 m pc la sta) rest (rn_Q Z (va_A ws H.size) ad r w1 aa) (va_A ws H.size))
    (k : Rn Z M (pc + 3) ls (r.toList ++ st) w1 ca sa K) : W p Z.1 e (rn_R M mc ms) s m args below meth c H locs cells slots (K below args s mc ms A ad0) (F0 m pc la sta) := by
  have hAA : ∀ q, va_A ws H.size q → A q := by
    intro q hq
    rcases hq with ⟨k0, e0, hk0⟩ | hq
    · exact hW.2.2.2.1.2 k0 _ hk0
    · exact hC.2.2.2.2.2.2.2.2.1 q (Nat.le_trans hW.2.2.2.2.1 hq)
  intro T hT X
  obtain ⟨v, st₀, t, T', L, h0, X', hLb, e1, e2, hq, stp⟩ := hr T hT X
  obtain ⟨⟨ad', ws', tys', v', ⟨l', hl'⟩, ho, hv, hw1, hP1, hK1, hD1⟩, hz, hkp⟩ := hq
  cases ho
  rw [h0] at hz hkp
  subst hl'
  obtain ⟨l0, hl0⟩ := hp
  have hal : t.vm.Alike s.vm := by rw [← e2]; exact X'.warmed.alike.symm
  have hP2 : va_P Z.2.1 rn_cl ws' T'.heap := by rw [e1]; exact hP1
  have hS2 : va_S A s.heap T'.heap (locs ++ L) := by
    refine ⟨by rw [e1]; exact Nat.le_trans hW.2.2.2.2.1 hz, fun q g1 g2 => ?_, fun q hq => ?_⟩
    · rw [e1, hkp q (Nat.lt_of_lt_of_le g1 hW.2.2.2.2.1) (fun z => g2 (hAA q z))]
      exact hW.2.2.2.2.2.1 q g1 g2
    · rcases List.mem_append.mp hq with h | h
      · exact hW.2.2.2.2.2.2 q h
      · exact hAA _ (hLb q h)
  have hst : rn_vs (ad ++ l') (r.toList ++ st) (v.toList ++ rest) := by
    cases r with
    | none =>
      have hv : v = none := hv
      subst hv
      exact rn_vs_grow hS
    | some x =>
      obtain ⟨u, rfl, hu⟩ := hv
      exact ⟨u, rest, rfl, hu, rn_vs_grow hS⟩
  have hWd2 : rn_Wd Z A s T'.heap (locs ++ L) (ad ++ l') tys' w1 ws' := ⟨hw1, hP2, va_K.moved hal hK1, hD1.weaken (fun _ _ _ q => hAA _ q), hS2⟩
  obtain ⟨t2, a1, b1⟩ := k.go (p := p) (e := e) (below := below) (cells := cells + ca') (slots := slots + sa') (mc := mc) (ms := ms) (ad0 := ad0) hC hWd2 (rn_L_grow hL) hst ⟨l0 ++ l', by rw [hl0, List.append_assoc]⟩ (by omega) (by omega) T' rfl X'
  exact ⟨t2, stp t2 a1, b1⟩
theorem rn_invV {idx n ci ob : Nat} {av : List Value} {fs : List Value} (hc : Call Z N (.ref ob :: av) w ca' sa' r w1) (hI : rn_IV M.1.cls idx N n ci) (hf : rn_Fit M N) (hd : decode M.2.1 pc = .ok (.invokevirtual idx, 3)) (ho : w[ob]? = some (rn_o ci fs)) (hn : av.length = n) (hst : av.reverse ++ .ref ob :: st = st0) (hrm : (st.map fun v => v.category).sum ≤ 8) (k : Rn Z M (pc + 3) ls (r.toList ++ st) w1 ca sa K) : Rn Z M pc ls st0 w (ca + ca') (sa + sa') K := by
  intro p e s m args below meth c H locs cells slots mc ms A ad0 ad ws tys la sta hC hW hL hS hp h1 h2
  subst hst
  obtain ⟨u1, u2, rfl, g1, u, rest, rfl, ⟨a, ha, rfl⟩, g2⟩ := rn_vs_app hS
  have hav : rn_vs ad av u1.reverse := by have := rn_vs_rev g1; rwa [List.reverse_reverse] at this
  have hlen : u1.reverse.length = n := by rw [rn_vs_len hav]; exact hn
  obtain ⟨a', ha', k0, us, h0, hus⟩ := hW.1.2.2 _ _ ho
  cases ha.symm.trans ha'
  obtain ⟨hI0, hl, hi, hse, q, hq, hqc⟩ := hI
  have hM := hc ad ws tys (.ref a :: u1.reverse) H.size ⟨_, _, rfl, ⟨a, ha, rfl⟩, hav⟩ hW.1
  have hrc : ∃ cell : Cell, H[a]? = some cell ∧ cell.vm.isStatics = false ∧ s.vm.findClass N.1.cls = some cell.cls := by rw [← hqc]; exact va_recv hW.2.2.1 hW.2.1 hq h0
  have hcat : 2 * (F0 m pc la (u1 ++ .ref a :: rest)).monitorRoom + (rest.map fun v => v.category).sum ≤ 8 := lv_room (by rw [rn_vs_cats g2]; exact hrm)
  rcases hl with hl | ⟨host, hl⟩
  · exact rn_goon hC hW hL g2 hp h1 h2 (va_runV (b := a) (As := u1.reverse) (rest := rest) ⟨hC.1, hC.2.1, hC.2.2.1, hC.2.2.2.1, hC.2.2.2.2.1⟩ hM ⟨rn_callB hC.2.2.2.2.1 hI0 hl hf, hC.2.2.2.2.1 _ hi, hC.2.2.2.2.1 _ hse⟩ ⟨rn_blind, hrc, rn_pre hC hW⟩ rfl hlen hL.1 (by rw [List.reverse_reverse]) hcat hd ⟨(show cells + ca' ≤ mc by omega), (show slots + sa' ≤ ms by omega)⟩) k
  · exact rn_goon hC hW hL g2 hp h1 h2 (va_runVN (b := a) (As := u1.reverse) (rest := rest) ⟨hC.1, hC.2.1, hC.2.2.1, hC.2.2.2.1, hC.2.2.2.2.1⟩ hM ⟨rn_callN hC.2.2.2.2.1 hI0 hl hf, hC.2.2.2.2.1 _ hi, hC.2.2.2.2.1 _ hse⟩ ⟨rn_blind, hrc, rn_pre hC hW⟩ rfl hlen hL.1 (by rw [List.reverse_reverse]) hcat hd ⟨(show cells + ca' ≤ mc by omega), (show slots + sa' ≤ ms by omega)⟩) k
theorem rn_invS {idx n : Nat} {av : List Value} (hc : Call Z N av w ca' sa' r w1) (hI : rn_IS M.1.cls idx N n) (hf : rn_Fit M N) (hd : decode M.2.1 pc = .ok (.invokestatic idx, 3)) (hn : av.length = n) (hst : av.reverse ++ st = st0) (hrm : (st.map fun v => v.category).sum ≤ 8) (k : Rn Z M (pc + 3) ls (r.toList ++ st) w1 ca sa K) : Rn Z M pc ls st0 w (ca + ca') (sa + sa') K := by
  intro p e s m args below meth c H locs cells slots mc ms A ad0 ad ws tys la sta hC hW hL hS hp h1 h2
  subst hst
  obtain ⟨u1, rest, rfl, g1, g2⟩ := rn_vs_app hS
  have hav : rn_vs ad av u1.reverse := by have := rn_vs_rev g1; rwa [List.reverse_reverse] at this
  have hlen : u1.reverse.length = n := by rw [rn_vs_len hav]; exact hn
  obtain ⟨hI0, hl, hi⟩ := hI
  have hM := hc ad ws tys u1.reverse H.size hav hW.1
  have hcat : 2 * (F0 m pc la (u1 ++ rest)).monitorRoom + (rest.map fun v => v.category).sum ≤ 8 := lv_room (by rw [rn_vs_cats g2]; exact hrm)
  rcases hl with hl | ⟨host, hl⟩
  · exact rn_goon hC hW hL g2 hp h1 h2 (va_runS (As := u1.reverse) (rest := rest) ⟨hC.1, hC.2.1, hC.2.2.1, hC.2.2.2.1, hC.2.2.2.2.1⟩ hM ⟨rn_callB hC.2.2.2.2.1 hI0 hl hf, hC.2.2.2.2.1 _ hi⟩ ⟨rn_blind, rn_pre hC hW⟩ rfl hlen hL.1 (by rw [List.reverse_reverse]) hcat hd ⟨(show cells + ca' ≤ mc by omega), (show slots + sa' ≤ ms by omega)⟩) k
  · exact rn_goon hC hW hL g2 hp h1 h2 (va_runSN (As := u1.reverse) (rest := rest) ⟨hC.1, hC.2.1, hC.2.2.1, hC.2.2.2.1, hC.2.2.2.2.1⟩ hM ⟨rn_callN hC.2.2.2.2.1 hI0 hl hf, hC.2.2.2.2.1 _ hi, trivial⟩ ⟨rn_blind, rn_pre hC hW⟩ rfl hlen hL.1 (by rw [List.reverse_reverse]) hcat hd ⟨(show cells + ca' ≤ mc by omega), (show slots + sa' ≤ ms by omega)⟩) k
theorem rn_invI {idx n ob : Nat} {av : List Value} (hc : Call Z N (.ref ob :: av) w ca' sa' none w1) (hI : rn_II M.1.cls idx N n) (hnr : N.2.2.2.1 = none) (hf : rn_Fit M N) (hd : decode M.2.1 pc = .ok (.invokespecial idx, 3)) (hn : av.length = n) (hst : av.reverse ++ .ref ob :: st = st0) (hrm : (st.map fun v => v.category).sum ≤ 8) (k : Rn Z M (pc + 3) ls st w1 ca sa K) : Rn Z M pc ls st0 w (ca + ca') (sa + sa') K := by
  intro p e s m args below meth c H locs cells slots mc ms A ad0 ad ws tys la sta hC hW hL hS hp h1 h2
  subst hst
  obtain ⟨u1, u2, rfl, g1, u, rest, rfl, ⟨a, ha, rfl⟩, g2⟩ := rn_vs_app hS
  have hav : rn_vs ad av u1.reverse := by have := rn_vs_rev g1; rwa [List.reverse_reverse] at this
  have hlen : u1.reverse.length = n := by rw [rn_vs_len hav]; exact hn
  obtain ⟨hI0, hl, hi, hnm⟩ := hI
  have hM := hc ad ws tys (.ref a :: u1.reverse) H.size ⟨_, _, rfl, ⟨a, ha, rfl⟩, hav⟩ hW.1
  have hcat : 2 * (F0 m pc la (u1 ++ .ref a :: rest)).monitorRoom + (rest.map fun v => v.category).sum ≤ 8 := lv_room (by rw [rn_vs_cats g2]; exact hrm)
  rcases hl with hl | ⟨host, hl⟩
  · have hB := rn_callB (R := rn_R M mc ms) (ca' := ca') (sa' := sa') hC.2.2.2.2.1 hI0 hl hf
    rw [hnr] at hB
    exact rn_goon (r := none) hC hW hL g2 hp h1 h2 (va_runI (b := a) (As := u1.reverse) (rest := rest) ⟨hC.1, hC.2.1, hC.2.2.1, hC.2.2.2.1, hC.2.2.2.2.1⟩ hM ⟨hB, hnm, hC.2.2.2.2.1 _ hi⟩ ⟨rn_blind, rn_pre hC hW⟩ rfl hlen hL.1 (by rw [List.reverse_reverse]) hcat hd ⟨(show cells + ca' ≤ mc by omega), (show slots + sa' ≤ ms by omega)⟩) k
  · have hB := rn_callN (R := rn_R M mc ms) (ca' := ca') (sa' := sa') hC.2.2.2.2.1 hI0 hl hf
    rw [hnr] at hB
    exact rn_goon (r := none) hC hW hL g2 hp h1 h2 (va_runIN (b := a) (As := u1.reverse) (rest := rest) ⟨hC.1, hC.2.1, hC.2.2.1, hC.2.2.2.1, hC.2.2.2.2.1⟩ hM ⟨hB, hnm, hC.2.2.2.2.1 _ hi⟩ ⟨rn_blind, rn_pre hC hW⟩ rfl hlen hL.1 (by rw [List.reverse_reverse]) hcat hd ⟨(show cells + ca' ≤ mc by omega), (show slots + sa' ≤ ms by omega)⟩) k
theorem rn_mmin {idx : Nat} {x y : Int32} (hl : Cond.methodLink M.1.cls idx Lib.Math.min.name ∈ rn_tb) (hs : Cond.static Lib.Math.min.name ∈ rn_tb) (hi : Cond.initialized "java/lang/Math" ∈ rn_tb) (hc : Cond.code Lib.Math.min.name Lib.Math.min.code 2 (some .int) ∈ rn_tb) (hd : decode M.2.1 pc = .ok (.invokestatic idx, 3)) (hf : 1 ≤ M.2.2.2.2.1) (hr : (st.map fun v => v.category).sum + 13 ≤ M.2.2.2.2.2) (k : Rn Z M (pc + 3) ls (.int (if y < x then y else x) :: st) w ca sa K) : Rn Z M pc ls (.int y :: .int x :: st) w ca sa K := by
  intro p e s m args below meth c H locs cells slots mc ms A ad0 ad ws tys la sta hC hW hL hS hp h1 h2
  obtain ⟨_, _, rfl, rfl, _, us, rfl, rfl, hS⟩ := hS
  have hcat := rn_vs_cats hS
  exact va_mmin hC.1 hC.2.1 (hC.2.2.1.trans hL.1.symm) hC.2.2.2.1 (hC.2.2.2.2.1 _ hl) (hC.2.2.2.2.1 _ hs) (hC.2.2.2.2.1 _ hi) (hC.2.2.2.2.1 _ hc) hf (show (us.map fun v => v.category).sum + 13 ≤ M.2.2.2.2.2 by rw [hcat]; exact hr) (show cells ≤ mc by omega) (show slots ≤ ms by omega) hd (k.go hC hW hL ⟨_, _, rfl, rfl, hS⟩ hp h1 h2)
theorem rn_invV0 {idx n ci ob : Nat} {av : List Value} {fs : List Value} (hc : Call Z N (.ref ob :: av) w 0 0 r w1) (hI : rn_IV M.1.cls idx N n ci) (hf : rn_Fit M N) (hd : decode M.2.1 pc = .ok (.invokevirtual idx, 3)) (ho : w[ob]? = some (rn_o ci fs)) (hn : av.length = n) (hst : av.reverse ++ .ref ob :: st = st0) (hrm : (st.map fun v => v.category).sum ≤ 8) (k : Rn Z M (pc + 3) ls (r.toList ++ st) w1 ca sa K) : Rn Z M pc ls st0 w ca sa K := rn_invV hc hI hf hd ho hn hst hrm k
theorem rn_invS0 {idx n : Nat} {av : List Value} (hc : Call Z N av w 0 0 r w1) (hI : rn_IS M.1.cls idx N n) (hf : rn_Fit M N) (hd : decode M.2.1 pc = .ok (.invokestatic idx, 3)) (hn : av.length = n) (hst : av.reverse ++ st = st0) (hrm : (st.map fun v => v.category).sum ≤ 8) (k : Rn Z M (pc + 3) ls (r.toList ++ st) w1 ca sa K) : Rn Z M pc ls st0 w ca sa K := rn_invS hc hI hf hd hn hst hrm k
end
/-! a world under other numbers: new number j is the old number is[j] -/
def rn_mv (is : List Nat) : Value → Value
  | .ref j => match is[j]? with
    | some i => .ref i
    | none => .float 0
  | v => v
def rn_mr (is : List Nat) : Option Nat → Option (Option Nat)
  | none => some none
  | some j => match is[j]? with
    | some i => some (some i)
    | none => none
def rn_mc (is : List Nat) : rn_C → rn_C
  | .inr (.inr (.inr (.inl (ci, fs)))) => rn_o ci (fs.map (rn_mv is))
  | .inr (.inr (.inl (ty, l))) => rn_q ty (l.map fun x => match x with
    | none => none
    | some j => some (is.getD j 0))
  | c => c
theorem rn_mv_ok {is ad ad' : List Nat} (hg : ∀ (j i a : Nat), is[j]? = some i → ad[i]? = some a → ad'[j]? = some a) {v u : Value} (h : rn_v ad (rn_mv is v) u) : rn_v ad' v u := by
  cases v with
  | ref j =>
    cases hj : is[j]? with
    | none =>
      have e : rn_mv is (.ref j) = .float 0 := by simp [rn_mv, hj]
      rw [e] at h
      exact h.elim
    | some i =>
      have e : rn_mv is (.ref j) = .ref i := by simp [rn_mv, hj]
      rw [e] at h
      obtain ⟨a, h1, h2⟩ := h
      exact ⟨a, hg j i a hj h1, h2⟩
  | _ => exact h
theorem rn_mvs_ok {is ad ad' : List Nat} (hg : ∀ (j i a : Nat), is[j]? = some i → ad[i]? = some a → ad'[j]? = some a) : ∀ {vs us : List Value}, rn_vs ad (vs.map (rn_mv is)) us → rn_vs ad' vs us
  | [], _, h => h
  | _ :: _, _, ⟨u, us', h1, h2, h3⟩ => ⟨u, us', h1, rn_mv_ok hg h2, rn_mvs_ok hg h3⟩

