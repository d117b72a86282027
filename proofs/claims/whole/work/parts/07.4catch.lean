/-! The core, seventh part: a throw that the caller catches; methods with a table of handlers. (The library's thenCaughtThrough lies in JvmDerived/Shelf42.) -/
def rn_wsW (M : rn_M) (hh : List (Nat × Nat × Nat × Nat)) : List Cond := .codeWith M.1 M.2.1 M.2.2.1 M.2.2.2.1 hh :: rn_tb
/-- the contract of a method with handlers -/
def CallH (Z : rn_Z) (M : rn_M) (hh : List (Nat × Nat × Nat × Nat)) (av : List Value) (w : List rn_C) (ca sa : Nat) (r : Option Value) (w1 : List rn_C) : Prop :=
  ∀ (ad : List Nat) (ws : va_W) (tys : List (ClassId × FieldType)) (ava : List Value) (sz : Nat), rn_vs ad av ava → rn_w ad Z.2.2.1 tys w ws →
    Met Z.1 M.1 (rn_wsW M hh) (rn_R M ca sa) (rn_P Z ws tys ava sz) (rn_Q Z (va_A ws sz) ad r w1) ca sa (va_A ws sz)
section
variable {Z : rn_Z} {M N : rn_M} {pc : Nat} {ls : List (Option Value)} {st st0 : List Value} {w w1 : List rn_C} {ca sa ca' sa' : Nat} {K : rn_K} {E : String} {r : Option Value} {hh : List (Nat × Nat × Nat × Nat)}
theorem rn_callH {av : List Value} (hp : plainName M.1.cls = true) (n : Nat) (hn : (rn_ent av).length ≤ M.2.2.1) (k : Rn Z M 0 (rn_ent av ++ List.replicate n none) [] w ca sa (rn_Ret Z r w1)) : CallH Z M hh av w ca sa r w1 := by
  intro ad ws tys ava sz hav hw
  refine va_MetW (cc := M.2.1) (maxL := M.2.2.1) (ret := M.2.2.2.1) (hh := hh) hp rfl ?_
  intro p e s m args below meth c s₁ B hml hv
  obtain ⟨rfl, hsz, hP, hK, hD0, hX, hb, hbn, hTh⟩ := hv
  subst hsz
  have hts := atoms_spec (ws := rn_wsW M hh) B.pre
  rw [lg_entry_eq]
  refine k.go ⟨B.exec, B.bytes, hml, findClass_of_methodNamed B.named, fun w h => hts w (List.mem_cons_of_mem _ h), B.notSynchronized, B.returns, (name_of_methodNamed B.named B.method).1, fun q h => Or.inr h, hX, hb, ?_, hTh, B.named⟩ ⟨hw, hP, hK, hD0.self, va_S.rf⟩ (rn_ent_L hav hn) rfl ⟨[], by simp⟩ (by omega) (by omega)
  intro q
  rcases q with ⟨k1, e1, h1⟩ | h1
  · exact hbn k1 e1 h1
  · omega
theorem rn_invSH {idx n : Nat} {av : List Value} (hc : CallH Z N hh av w ca' sa' r w1) (hcw : Cond.codeWith N.1 N.2.1 N.2.2.1 N.2.2.2.1 hh ∈ rn_tb) (hini : Cond.initialized N.1.cls ∈ rn_tb) (hy : N.1.cls ≠ "java/lang/invoke/MethodHandle" ∧ N.1.cls ≠ "java/lang/invoke/VarHandle") (hpd : (parseMethodDescriptor N.1.desc).map (fun d => d.parameters.length) = some n) (hlk : Cond.methodLink M.1.cls idx N.1 ∈ rn_tb) (hsta : Cond.static N.1 ∈ rn_tb) (hf : rn_Fit M N) (hd : decode M.2.1 pc = .ok (.invokestatic idx, 3)) (hn : av.length = n) (hst : av.reverse ++ st = st0) (hrm : (st.map fun v => v.category).sum ≤ 8) (k : Rn Z M (pc + 3) ls (r.toList ++ st) w1 ca sa K) : Rn Z M pc ls st0 w (ca + ca') (sa + sa') K := by
  intro p e s m args below meth c H locs cells slots mc ms A ad0 ad ws tys la sta hC hW hL hS hp h1 h2
  subst hst
  obtain ⟨u1, rest, rfl, g1, g2⟩ := rn_vs_app hS
  have hav : rn_vs ad av u1.reverse := by have := rn_vs_rev g1; rwa [List.reverse_reverse] at this
  have hlen : u1.reverse.length = n := by rw [rn_vs_len hav]; exact hn
  have hM := hc ad ws tys u1.reverse H.size hav hW.1
  have hcat : 2 * (F0 m pc la (u1 ++ rest)).monitorRoom + (rest.map fun v => v.category).sum ≤ 8 := lv_room (by rw [rn_vs_cats g2]; exact hrm)
  have hts := hC.2.2.2.2.1
  have hws : ∀ w ∈ rn_wsW N hh, ∀ (a' : Array Value) (U : State), s.WarmedH U.vm → w.before a' U = true := fun w hw => by
    rcases List.mem_cons.mp hw with h | h
    · subst h
      exact rn_pay hts _ hcw
    · exact rn_pay hts _ h
  have hKb : Back Z.1 (rn_R M mc ms) p e below s args N.1 3 8 (PreOf (rn_R M mc ms) ca' sa' (rn_P Z ws tys u1.reverse H.size)) (PostOf (rn_Q Z (va_A ws H.size) ad r w1) ca' sa' (va_A ws H.size)) :=
    va_backW (hh := hh) (bytes := N.2.1) (maxL := N.2.2.1) (ret := N.2.2.2.1) hM rn_blind rfl rfl hf.1 hf.2 hws List.mem_cons_self (fun a' U hw => rn_pay hts _ hini a' U hw)
  refine rn_goon hC hW hL g2 hp h1 h2 ?_ k (aa := u1.reverse.toArray)
  intro T hT X
  obtain ⟨mk, methM, cM, hnamed, hmethM, -, -, -, -, -, -, hsigM⟩ := Cond.codeWith_spec (hts _ hcw)
  have hstatic : methM.isStatic = true := Cond.static_spec hnamed hmethM (hts _ hsta)
  obtain ⟨kP, hkP, -⟩ := className_of_methodNamed hnamed
  have hinitP : kP.init = .initialized := Cond.initialized_spec (findClass_of_methodNamed hnamed) hkP (hts _ hini)
  have hpl : u1.reverse.length = methM.sig.parameters.length := by
    rw [hsigM] at hpd
    rw [hlen]
    exact (Option.some.inj hpd).symm
  obtain ⟨vm₁, X₁, hstep₁⟩ := X.invokestatic hC.1 hC.2.2.2.1 (hts _ hlk) hnamed hmethM hstatic hkP hinitP hy (g := F0 m pc la (u1 ++ rest)) rfl (argsL := u1.reverse) (rest := rest) hpl (by show _ = _; rw [List.reverse_reverse]) (by rw [hC.2.1]; exact hd)
  obtain ⟨v, ⟨B, l2, c2, s2⟩, X', ⟨g', mk', t, L, e1, e2, hq, q1, hLb, q2, q3⟩, hsteps⟩ := hKb m meth c ⟨T.setVm vm₁, locs, cells, slots⟩ (F0 m pc la rest) (.invokestatic idx) mk u1.reverse.toArray X₁ rfl (hL.1.trans hC.2.2.1.symm) (by rw [hC.2.1]; exact hd) hcat (X₁.named hnamed) ⟨(show cells + ca' ≤ mc by omega), (show slots + sa' ≤ ms by omega), rn_pre hC hW (T.setVm vm₁) hT X₁.warmed⟩
  dsimp only [Pt.U, Pt.locs, Pt.cells, Pt.slots] at X' e1 e2 q1 q2 q3 hsteps
  subst q1; subst q2; subst q3
  exact ⟨v, (T.setVm vm₁).calling g' mk' u1.reverse.toArray, t, B, L, hT, X', hLb, e1, e2, hq, fun target h => hstep₁ _ fun acts => by rw [doInvoke_state]; exact hsteps.trans h⟩
theorem rn_invVC {idx n ci ob : Nat} {av : List Value} {fs : List Value} {hpre hsuf : List (Nat × Nat × Nat × Nat)} {tp : Nat × Nat × Nat × Nat} {nm : String} (hc : CallT Z N (.ref ob :: av) w ca' sa' E w1) (hI : rn_IV M.1.cls idx N n ci) (hpl : Cond.methodLink M.1.cls idx N.1 ∈ rn_tb) (hf : rn_Fit M N) (hd : decode M.2.1 pc = .ok (.invokevirtual idx, 3)) (ho : w[ob]? = some (rn_o ci fs)) (hn : av.length = n) (hst : av.reverse ++ .ref ob :: st = st0) (hrm : (st.map fun v => v.category).sum ≤ 8)
    (hcw : Cond.codeWith M.1 M.2.1 M.2.2.1 M.2.2.2.1 hh ∈ rn_tb) (hsp : hh = hpre ++ tp :: hsuf) (hpass : ∀ y ∈ hpre, y.2.2.2 ≠ 0 ∧ ∃ nm, Cond.classLink M.1.cls y.2.2.2 nm ∈ rn_tb ∧ (E, nm) ∈ rn_ncs) (hcov : tp.1 ≤ pc ∧ pc < tp.2.1) (h0 : tp.2.2.2 ≠ 0) (hlk : Cond.classLink M.1.cls tp.2.2.2 nm ∈ rn_tb) (hcs : Cond.castable E nm ∈ rn_tb)
    (k : Rn Z M tp.2.2.1 ls [.retAddr 0] w1 ca sa K) : Rn Z M pc ls st0 w (ca + ca') (sa + sa') K := by
  intro p e s m args below meth c H locs cells slots mc ms A ad0 ad ws tys la sta hC hW hL hS hp h1 h2
  intro T hT X
  obtain ⟨q, rest, L, B, ad1, ws1, tys1, ce, hr, X', ⟨l1, hl1⟩, hW1, hce, hcv, hcl, hst1⟩ := rn_thrV hc hI hpl hf hd ho hn hst hrm hC hW hL hS (by omega) (by omega) hT X
  have hts := hC.2.2.2.2.1
  obtain ⟨m9, meth9, c9, hn9, hm9, hc9, -, -, htab, -, -, -⟩ := Cond.codeWith_spec (hts _ hcw)
  cases hC.2.2.2.2.2.2.2.2.2.2.2.2.2.symm.trans hn9
  cases X.method.symm.trans hm9
  cases X.code.symm.trans hc9
  rw [hsp] at htab
  obtain ⟨pre, rst, hl, hpm, hrm2⟩ := List.map_eq_append_iff.mp htab
  obtain ⟨x, suf, rfl, hx, -⟩ := List.map_eq_cons_iff.mp hrm2
  have hplat : e.platform.magicAccessors = ({} : Platform).magicAccessors := by rw [X.admits.platform]
  obtain ⟨c3, c4, hc3, hc4, hasg⟩ := Cond.castable_spec (hts _ hcs)
  cases Option.some.inj (hc3.symm.trans hcl)
  obtain ⟨c5, hc5, hcl5⟩ := Cond.classLink_spec hC.2.2.2.1 (hts _ hlk) e.platform hplat
  cases Option.some.inj (hc4.symm.trans hc5)
  subst hx
  obtain ⟨vm', X2, st2⟩ := X'.thenCaughtThrough q (g := F0 m pc la rest) rfl hst1 hce (by rw [hcv]; rfl) (by obtain ⟨k9, h9, -⟩ := Vm.findClass_spec hcl; exact ⟨k9, h9⟩) pre x suf hl
    (fun y hy => by
      obtain ⟨g1, nm2, g2, g3⟩ := hpass (y.startPc, y.endPc, y.handlerPc, y.catchType) (by rw [← hpm]; exact List.mem_map_of_mem hy)
      obtain ⟨c6, hc6, hcl6⟩ := Cond.classLink_spec hC.2.2.2.1 (hts _ g2) e.platform hplat
      obtain ⟨a8, b8, f1, f2, f3⟩ := hC.2.2.2.2.2.2.2.2.2.2.2.2.1.2.2 _ g3
      cases Option.some.inj (f1.symm.trans hcl)
      cases Option.some.inj (f2.symm.trans hc6)
      exact Or.inr ⟨g1, _, hcl6, f3⟩) (by simp only [covers, Bool.and_eq_true, decide_eq_true_eq]; exact hcov) (Or.inr ⟨h0, c4, hcl5, hasg⟩)
  obtain ⟨l0, hl0⟩ := hp
  subst hl1
  obtain ⟨t2, a1, b1⟩ := k.go (p := p) (e := e) (below := below) (cells := cells + ca') (slots := slots + sa') (mc := mc) (ms := ms) (ad0 := ad0) (sta := [.ref q]) hC hW1 (rn_L_grow hL) ⟨_, _, rfl, ⟨q, rfl⟩, rfl⟩ ⟨l0 ++ l1, by rw [hl0, List.append_assoc]⟩ (by omega) (by omega) (B.setVm vm') rfl X2
  exact ⟨t2, st2.trans a1, b1⟩
end
