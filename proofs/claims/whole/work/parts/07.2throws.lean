/-! The core, fifth part: what leaves a method by a throw. -/
/-- it threw an object of the class E, and the world is w -/
def rn_TT (Z : rn_Z) (A : Nat → Prop) (ad0 : List Nat) (E : String) (w : List rn_C) (mc ms : Nat) (st : State) (q : Addr) (t : State) : Prop :=
  (∃ (ad : List Nat) (ws : va_W) (tys : List (ClassId × FieldType)), (∃ l, ad = ad0 ++ l) ∧ rn_w ad Z.2.2.1 tys w ws ∧ va_P Z.2.1 rn_cl ws t.heap ∧ va_K Z.2.1 rn_cl tys t ∧ va_D A ws) ∧ va_F A st t ∧
  (∃ ce : Cell, t.heap[q]? = some ce ∧ ce.vm = .none ∧ st.vm.findClass E = some ce.cls) ∧ st.WarmedH t.vm ∧ ∃ L : List Loc, st.sameButNew ({ t with vm := st.vm } : State) L mc ms ∧ ∀ z ∈ L, A z.base
def rn_Thr (Z : rn_Z) (E : String) (w : List rn_C) : rn_K := fun below _ s mc ms A ad0 t => ∃ q, t.status = .running ∧ Ended t below (.threw q) ∧ rn_TT Z A ad0 E w mc ms s q t
def CallT (Z : rn_Z) (M : rn_M) (av : List Value) (w : List rn_C) (ca sa : Nat) (E : String) (w1 : List rn_C) : Prop :=
  ∀ (ad : List Nat) (ws : va_W) (tys : List (ClassId × FieldType)) (ava : List Value) (sz : Nat), rn_vs ad av ava → rn_w ad Z.2.2.1 tys w ws →
    MetFree Z.1 M.1 (headSpec (rn_ws M) (rn_R M ca sa)) (rn_P Z ws tys ava sz) (fun _ _ _ _ _ => True) (fun _ st o t => ∃ q, o = .threw q ∧ rn_TT Z (va_A ws sz) ad E w1 ca sa st q t)
theorem rn_noEx {p : Program} {l : Launch} {e : Env} {R : Room} {s : State} {m : MethodId} {args : Array Value} {below : List Frame} {meth : Method} {c : Code} {T : State} {locs : List Loc} {cells slots : Nat} {M : rn_M} (X : Stand p l e R s m args below meth c T locs cells slots) (hn : s.methodNamed? M.1 = some m) (h : (Cond.code M.1 M.2.1 M.2.2.1 M.2.2.2.1).before args s = true) (pc : Nat) : ∀ x ∈ c.exceptionTable.toList, covers x pc = false := by
  obtain ⟨meth2, c2, h1, h2, -, -, -, -, h3, -⟩ := Cond.code_spec hn h
  cases X.method.symm.trans h1
  cases X.code.symm.trans h2
  intro x hx
  have h4 : c.exceptionTable = #[] := by simpa using h3
  rw [h4] at hx
  simp at hx
theorem rn_same_F {s U : State} {locs : List Loc} {k n : Nat} (h : s.sameButNew ({ U with vm := s.vm } : State) locs k n) : s.heap.size ≤ U.heap.size ∧ ∀ q : Nat, q < s.heap.size → (∀ z ∈ locs, z.base ≠ q) → U.heap[q]? = s.heap[q]? := by
  obtain ⟨-, h2, -, -, -, h6⟩ := h
  refine ⟨h2, fun q hq hz => ?_⟩
  obtain ⟨c9, e1, e2, e3, e4⟩ := h6 q _ (Array.getElem?_eq_getElem hq)
  have hs : c9.slots = (s.heap[q]).slots := Array.ext_getElem? fun i => e4 i fun hm => hz _ hm rfl
  have h9 : c9 = s.heap[q] := by
    rw [hs] at e2
    exact e2
  have e5 : U.heap[q]? = some c9 := e1
  rw [e5, h9, Array.getElem?_eq_getElem hq]
section
variable {Z : rn_Z} {M N : rn_M} {pc : Nat} {ls : List (Option Value)} {st st0 : List Value} {w w1 : List rn_C} {ca sa ca' sa' : Nat} {K : rn_K} {E : String}
theorem rn_callT {av : List Value} (hp : plainName M.1.cls = true) (n : Nat) (hn : (rn_ent av).length ≤ M.2.2.1) (k : Rn Z M 0 (rn_ent av ++ List.replicate n none) [] w ca sa (rn_Thr Z E w1)) : CallT Z M av w ca sa E w1 := by
  intro ad ws tys ava sz hav hw
  refine MetFree.of_bodyS (code := M.2.1) (maxLocals := M.2.2.1) (ret := M.2.2.2.1) hp ?_ ?_
  · intro args s m h hnm
    obtain ⟨meth, c, h1, h2, h3, h4, h5, h6, -, -⟩ := Cond.code_spec hnm (atoms_spec (ws := rn_ws M) h _ List.mem_cons_self)
    exact ⟨meth, c, h1, h2, h3, h4, h5, h6⟩
  · intro p e s m args below meth c s₁ B hml hv _
    have hh0 : s₁.heap = s.heap := by rw [B.state]; rfl
    obtain ⟨rfl, hsz, hP, hK, hD0, hX, hb, hbn, hTh⟩ := hv
    subst hsz
    have hts := atoms_spec (ws := rn_ws M) B.pre
    have hbA : ¬ va_A ws s.heap.size Z.2.2.1 := by
      intro q
      rcases q with ⟨k1, e1, h1⟩ | h1
      · exact hbn k1 e1 h1
      · omega
    have hW := k.go (p := p) (e := e) (below := below) (cells := 0) (slots := 0) (mc := ca) (ms := sa) (A := va_A ws s.heap.size) (ad0 := ad) (sta := []) ⟨B.exec, B.bytes, hml, findClass_of_methodNamed B.named, fun w h => hts w (List.mem_cons_of_mem _ h), B.notSynchronized, B.returns, (name_of_methodNamed B.named B.method).1, fun q h => Or.inr h, hX, hb, hbA, hTh, B.named⟩ ⟨hw, hP, hK, hD0.self, va_S.rf⟩ (rn_ent_L hav hn) rfl ⟨[], by simp⟩ (by omega) (by omega)
    obtain ⟨t, a1, q, b1, b2, b3⟩ := hW s₁ hh0 (Stand.of_body B)
    rw [← lg_entry_eq] at a1
    exact ⟨t, .threw q, a1, b1, b2, q, rfl, b3⟩
/-- what a throw finds when it comes back to the caller: the caller's frame g, the object over it -/
theorem rn_backT {p : Program} {l : Launch} {e : Env} {R : Room} {s : State} {m : MethodId} {args : Array Value} {below : List Frame} {meth : Method} {c : Code} {U : State} {locs : List Loc} {cells slots : Nat} {y : MethodName} {ws : List Cond} {rm : Room} {Pc : Array Value → State → Prop} {mc ms : Nat} {free : Addr → Prop} {QT : State → Addr → State → Prop} {bytes : ByteArray} {maxL : Nat} {ret : Option FieldType}
    (hM : MetFree l y (headSpec ws rm) Pc (fun _ _ _ _ _ => True) (fun _ st o t => ∃ q, o = .threw q ∧ QT st q t)) (hQ : ∀ st q t, QT st q t → st.WarmedH t.vm ∧ ∃ L : List Loc, st.sameButNew ({ t with vm := st.vm } : State) L mc ms ∧ ∀ z ∈ L, free z.base)
    (hrc : rm.cells = mc) (hrs : rm.slots = ms) (hframes : rm.frames + 1 ≤ R.frames) (hlocals : 8 + (maxL + 11) + rm.locals ≤ R.locals) (hws : ∀ w ∈ ws, ∀ (a' : Array Value) (U : State), s.WarmedH U.vm → w.before a' U = true) (hcode : Cond.code y bytes maxL ret ∈ ws) (hinit : ∀ (a' : Array Value) (U : State), s.WarmedH U.vm → (Cond.initialized y.cls).before a' U = true)
    (X : Stand p l e R s m args below meth c U locs cells slots) {g : JFrame} (hg : g.method = m) (hsize : g.locals.size = c.maxLocals) {ig : Instr} {len : Nat} (hdg : decode c.code g.pc = .ok (ig, len)) (hW : 2 * g.monitorRoom + (g.stack.map fun v => v.category).sum ≤ 8) {mk : MethodId} (hn : U.methodNamed? y = some mk) {a : Array Value} (hcl : cells + mc ≤ R.cells) (hsl : slots + ms ≤ R.slots) (hPc : Pc a (U.calling g mk a)) :
    ∃ (q : Addr) (t : State) (L : List Loc) (B : State), Stand p l e R s m args below meth c B (locs ++ L) (cells + mc) (slots + ms) ∧ B.heap = t.heap ∧ B.vm = t.vm ∧ QT (U.calling g mk a) q t ∧ (∀ z ∈ L, free z.base) ∧ Steps p.tables e below (doInvoke e (U.setTop g) [] mk a).1 ((B.setTop g).pushFrame (.throwing q)) := by
  have h1 : (headSpec ws rm).pre.before a U = true := atoms_intro fun w hw => hws w hw _ _ X.warmed
  have h2 : (Cond.code y bytes maxL ret).before a U = true := hws _ hcode _ _ X.warmed
  have h3 : (Cond.initialized y.cls).before a U = true := hinit _ _ X.warmed
  obtain ⟨methY, cY, hmY, hcY, -, hlY, -, -, -, -⟩ := Cond.code_spec hn h2
  obtain ⟨kY, hkY, -⟩ := className_of_methodNamed hn
  have hinitY : kY.init = .initialized := Cond.initialized_spec (findClass_of_methodNamed hn) hkY h3
  have h : At U g.method c below := by rw [hg]; exact X.here
  have hl9 : 8 + (maxL + 11) + (headSpec ws rm).room.locals ≤ R.locals := hlocals
  have happ : (headSpec ws rm).appliesLoose y e.platform (U.calling g mk a) = true :=
    Spec.appliesLoose_calling (g := g) h hdg hn hkY hinitY
      (X.room_calling (g := g) (R' := (headSpec ws rm).room) hsize hmY hcY hframes (by rw [hlY]; omega) (show cells + rm.cells ≤ R.cells by rw [hrc]; exact hcl) (show slots + rm.slots ≤ R.slots by rw [hrs]; exact hsl)) h1
  obtain ⟨mid, hmid⟩ := h.above
  have hfr : (U.setTop g).frames = (.java g :: mid) ++ below := by rw [State.frames_setTop' g h.top, hmid]; rfl
  obtain ⟨o, s₂, hsteps, -, hend, hq⟩ := Steps.callFree hM p X.admits X.cas X.clock (acts := []) hfr happ hPc trivial
  obtain ⟨q, rfl, hqt⟩ := hq
  have hqt' : QT (U.calling g mk a) q s₂ := hqt
  obtain ⟨hW₂, L, hsm, hL⟩ := hQ _ _ _ hqt'
  rw [State.frames_setTop' g h.top] at hend
  obtain ⟨g₀, hg0⟩ := Option.isSome_iff_exists.mp h.top
  obtain ⟨r, hr⟩ := State.topJava?_eq_some.mp hg0
  have hr' : (({ U with heap := s₂.heap, slotsUsed := s₂.slotsUsed } : State).setVm s₂.vm).frames = .java g₀ :: r := hr
  obtain ⟨e2, q2, q3, q4, q5, q6⟩ := id hsm
  have e3 : s₂ = ({ (U.calling g mk a).setFrames s₂.frames with heap := s₂.heap, slotsUsed := s₂.slotsUsed } : State).setVm s₂.vm := by
    have : s₂ = ({ s₂ with vm := (U.calling g mk a).vm } : State).setVm s₂.vm := rfl
    rw [e2] at this
    exact this
  have hf₂ : s₂.frames = .throwing q :: .java g :: U.frames.tail := hend
  have hW' : U.WarmedH s₂.vm := hW₂
  have hs₂ : s₂ = ((({ U with heap := s₂.heap, slotsUsed := s₂.slotsUsed } : State).setVm s₂.vm).setTop g).pushFrame (.throwing q) := by
    refine e3.trans ?_
    rw [hf₂, State.calling_eq h.top, State.setFrames_setFrames, State.pushFrame, State.frames_setTop _ hr', State.setTop_of_frames _ hr', State.setFrames_setFrames, hr]
    rfl
  have hsame : U.sameButNew ({ U with heap := s₂.heap, slotsUsed := s₂.slotsUsed } : State) L mc ms := by
    refine ⟨?_, q2, q3, q4, q5, q6⟩
    obtain ⟨t, ht, -⟩ := State.frames_cons hr
    show ({ U with heap := s₂.heap, slotsUsed := s₂.slotsUsed } : State) = { U.setFrames U.frames with heap := s₂.heap, slotsUsed := s₂.slotsUsed }
    rw [State.setFrames_self ht]
  subst hg
  refine ⟨q, s₂, L, (({ U with heap := s₂.heap, slotsUsed := s₂.slotsUsed } : State).setVm s₂.vm), ⟨X.admits, X.cas, X.clock, X.frames, X.room, X.hears, X.method, X.code, (X.here.setHeapUsed s₂.heap s₂.slotsUsed).setVm hW'.alike, X.tail, State.WarmedH.trans X.warmed hW', X.limits, X.bytes, X.same.trans (hsame.setVm s.vm)⟩, rfl, rfl, hqt', hL, ?_⟩
  rw [← hs₂]
  exact hsteps
/-- a virtual call that throws: the caller's frame, its arguments off, and the object over it -/
theorem rn_thrV {idx n ci ob : Nat} {av : List Value} {fs : List Value} (hc : CallT Z N (.ref ob :: av) w ca' sa' E w1) (hI : rn_IV M.1.cls idx N n ci) (hpl : Cond.methodLink M.1.cls idx N.1 ∈ rn_tb) (hf : rn_Fit M N) (hd : decode M.2.1 pc = .ok (.invokevirtual idx, 3)) (ho : w[ob]? = some (rn_o ci fs)) (hn : av.length = n) (hst : av.reverse ++ .ref ob :: st = st0) (hrm : (st.map fun v => v.category).sum ≤ 8)
    {p : Program} {e : Env} {s : State} {m : MethodId} {args : Array Value} {below : List Frame} {meth : Method} {c : Code} {H : Heap} {locs : List Loc} {cells slots mc ms : Nat} {A : Nat → Prop} {ad : List Nat} {ws : va_W} {tys : List (ClassId × FieldType)} {la : Array Slot} {sta : List Value} {T : State}
    (hC : rn_X Z M p s m args meth c A) (hW : rn_Wd Z A s H locs ad tys w ws) (hL : rn_L ad la M.2.2.1 ls) (hS : rn_vs ad st0 sta) (h1 : cells + ca' ≤ mc) (h2 : slots + sa' ≤ ms) (hT : T.heap = H) (X : Stand p Z.1 e (rn_R M mc ms) s m args below meth c T locs cells slots) :
    ∃ (q : Addr) (rest : List Value) (L : List Loc) (B : State) (ad1 : List Nat) (ws1 : va_W) (tys1 : List (ClassId × FieldType)) (ce : Cell), rn_vs ad st rest ∧ Stand p Z.1 e (rn_R M mc ms) s m args below meth c B (locs ++ L) (cells + ca') (slots + sa') ∧ (∃ l, ad1 = ad ++ l) ∧ rn_Wd Z A s B.heap (locs ++ L) ad1 tys1 w1 ws1 ∧ B.heap[q]? = some ce ∧ ce.vm = .none ∧ s.vm.findClass E = some ce.cls ∧
      Steps p.tables e below (T.setTop (F0 m pc la sta)) ((B.setTop (F0 m pc la rest)).pushFrame (.throwing q)) := by
  subst hst
  obtain ⟨u1, u2, rfl, g1, u, rest, rfl, ⟨a, ha, rfl⟩, g2⟩ := rn_vs_app hS
  have hav : rn_vs ad av u1.reverse := by have := rn_vs_rev g1; rwa [List.reverse_reverse] at this
  have hlen : u1.reverse.length = n := by rw [rn_vs_len hav]; exact hn
  obtain ⟨a', ha', k0, us, h0, hus⟩ := hW.1.2.2 _ _ ho
  cases ha.symm.trans ha'
  obtain ⟨hI0, -, hi, hse, qc, hqc, hqn⟩ := hI
  have hM := hc ad ws tys (.ref a :: u1.reverse) H.size ⟨_, _, rfl, ⟨a, ha, rfl⟩, hav⟩ hW.1
  obtain ⟨cellB, hcB, hoB, hclB⟩ : ∃ cell : Cell, H[a]? = some cell ∧ cell.vm.isStatics = false ∧ s.vm.findClass N.1.cls = some cell.cls := by rw [← hqn]; exact va_recv hW.2.2.1 hW.2.1 hqc h0
  have hcat : 2 * (F0 m pc la rest).monitorRoom + (rest.map fun v => v.category).sum ≤ 8 := lv_room (by rw [rn_vs_cats g2]; exact hrm)
  have hts := hC.2.2.2.2.1
  have hB := rn_callB (R := rn_R M mc ms) (ca' := ca') (sa' := sa') hts hI0 hpl hf
  obtain ⟨hrc, hrs, hfr, hlo, hws, hcw, hcode, hini, hy, hle, hlk⟩ := hB
  obtain ⟨mk, methM, hnamed, hmethM, hstM, habM⟩ := Cond.instanceMethod_spec (hts _ hi)
  obtain ⟨methM', cM, hmethM', -, -, -, -, -, -, hsigM⟩ := Cond.code_spec hnamed hcode
  cases hmethM.symm.trans hmethM'
  obtain ⟨c2, r2, m2, q1, q2, q3, q4, kP, hkP, hkPi⟩ := Cond.selects_spec (hts _ hse)
  cases hclB.symm.trans q1
  cases (State.methodFound?_of_named hnamed hy).symm.trans q2
  cases hnamed.symm.trans q3
  have hselP : selectMethod e.platform s.vm cellB.cls mk = .method mk := by rw [Launch.admits_selectMethod X.admits]; exact q4
  obtain ⟨vm₁, X₁, hstep₁⟩ := X.invokevirtual hC.1 hC.2.2.2.1 hlk hnamed hmethM hstM hkP hkPi hy (a := a) (cell := cellB) (by rw [hT]; exact hcB)
    (fun z h => by rw [h] at hoB; cases hoB) hselP hmethM habM hkP hkPi (g := F0 m pc la (u1 ++ .ref a :: rest)) rfl (argsL := u1.reverse) (rest := rest) (hlen.trans (hle _ hsigM)) (by show _ = _; rw [List.reverse_reverse]) (by rw [hC.2.1]; exact hd)
  obtain ⟨q, t, L, B, X', e1, e2, hq, hLb, hsteps⟩ := rn_backT (QT := fun st q t => rn_TT Z (va_A ws H.size) ad E w1 ca' sa' st q t) (mc := ca') (ms := sa') (free := va_A ws H.size) (bytes := N.2.1) (maxL := N.2.2.1) (ret := N.2.2.2.1) hM (fun st q t h => ⟨h.2.2.2.1, h.2.2.2.2⟩) rfl rfl hfr hlo hws hcw (fun a' U hw => rn_pay hts _ hI0.2.1 a' U hw) X₁ (g := F0 m pc la rest) rfl (hL.1.trans hC.2.2.1.symm) (by rw [hC.2.1]; exact hd) hcat (X₁.named hnamed) (show cells + ca' ≤ mc from h1) (show slots + sa' ≤ ms from h2) (rn_blind _ _ _ _ (rn_pre hC hW (T.setVm vm₁) hT X₁.warmed))
  obtain ⟨⟨ad1, ws1, tys1, hpre1, hw1, hP1, hK1, hD1⟩, ⟨hz, hkp⟩, ⟨ce, hce, hcv, hcl⟩, hWm, -⟩ := hq
  have hsz : ((T.setVm vm₁).calling (F0 m pc la rest) mk (Value.ref a :: u1.reverse).toArray).heap = H := hT
  rw [hsz] at hz hkp
  have hAA : ∀ q, va_A ws H.size q → A q := by
    intro q hq
    rcases hq with ⟨k0, e0, hk0⟩ | hq
    · exact hW.2.2.2.1.2 k0 _ hk0
    · exact hC.2.2.2.2.2.2.2.2.1 q (Nat.le_trans hW.2.2.2.2.1 hq)
  have hal : t.vm.Alike s.vm := by rw [← e2]; exact X'.warmed.alike.symm
  have hclE : s.vm.findClass E = some ce.cls := by
    have h5 : (T.setVm vm₁).vm.findClass E = some ce.cls := hcl
    rw [X₁.warmed.alike.findClass] at h5
    exact h5
  refine ⟨q, rest, L, B, ad1, ws1, tys1, ce, g2, X', hpre1, ⟨hw1, by rw [e1]; exact hP1, va_K.moved hal hK1, hD1.weaken (fun _ _ _ q => hAA _ q), ⟨by rw [e1]; exact Nat.le_trans hW.2.2.2.2.1 hz, fun q g3 g4 => ?_, fun q hq => ?_⟩⟩, by rw [e1]; exact hce, hcv, hclE, hstep₁ _ fun acts => by rw [doInvoke_state]; exact hsteps⟩
  · rw [e1, hkp q (Nat.lt_of_lt_of_le g3 hW.2.2.2.2.1) (fun z => g4 (hAA q z))]
    exact hW.2.2.2.2.2.1 q g3 g4
  · rcases List.mem_append.mp hq with h | h
    · exact hW.2.2.2.2.2.2 q h
    · exact hAA _ (hLb q h)
/-- .. and nobody catches it here -/
theorem rn_invVT {idx n ci ob : Nat} {av : List Value} {fs : List Value} (hc : CallT Z N (.ref ob :: av) w ca' sa' E w1) (hI : rn_IV M.1.cls idx N n ci) (hpl : Cond.methodLink M.1.cls idx N.1 ∈ rn_tb) (hf : rn_Fit M N) (hd : decode M.2.1 pc = .ok (.invokevirtual idx, 3)) (ho : w[ob]? = some (rn_o ci fs)) (hn : av.length = n) (hst : av.reverse ++ .ref ob :: st = st0) (hrm : (st.map fun v => v.category).sum ≤ 8) (hcd : Cond.code M.1 M.2.1 M.2.2.1 M.2.2.2.1 ∈ rn_tb) (hca : ca' ≤ ca) (hsa : sa' ≤ sa) : Rn Z M pc ls st0 w ca sa (rn_Thr Z E w1) := by
  intro p e s m args below meth c H locs cells slots mc ms A ad0 ad ws tys la sta hC hW hL hS hp h1 h2
  intro T hT X
  obtain ⟨q, rest, L, B, ad1, ws1, tys1, ce, hr, X', ⟨l1, hl1⟩, hW1, hce, hcv, hcl, hst1⟩ := rn_thrV hc hI hpl hf hd ho hn hst hrm hC hW hL hS (by omega) (by omega) hT X
  obtain ⟨st1, hrun, hend, hWm, hsm⟩ := X'.leaveThrown q (g := F0 m pc la rest) rfl rfl rfl (rn_noEx X' hC.2.2.2.2.2.2.2.2.2.2.2.2.2 (hC.2.2.2.2.1 _ hcd) pc) hC.2.2.2.2.2.1
  obtain ⟨l0, hl0⟩ := hp
  refine ⟨_, hst1.trans st1, q, hrun, hend, ⟨ad1, ws1, tys1, ⟨l0 ++ l1, by rw [hl1, hl0, List.append_assoc]⟩, hW1.1, hW1.2.1, va_K.moved hWm.alike hW1.2.2.1, hW1.2.2.2.1⟩, ⟨hW1.2.2.2.2.1, hW1.2.2.2.2.2.1⟩, ⟨ce, hce, hcv, hcl⟩, hWm, locs ++ L, hsm.mono (by omega) (by omega), hW1.2.2.2.2.2.2⟩
end
