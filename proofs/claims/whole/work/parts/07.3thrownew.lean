/-! The core, sixth part: throw new E("..") where nobody catches it; launches without stack traces. -/
def rn_zU : Cond := .isRef (.static "java/lang/Throwable" "UNASSIGNED_STACK" "[Ljava/lang/StackTraceElement;")
def rn_zN : Cond := .isRef (.static "java/lang/Throwable" "SUPPRESSED_SENTINEL" "Ljava/util/List;")
def rn_yU : Cond := .laysStatic "java/lang/Throwable" "UNASSIGNED_STACK" "[Ljava/lang/StackTraceElement;"
def rn_yN : Cond := .laysStatic "java/lang/Throwable" "SUPPRESSED_SENTINEL" "Ljava/util/List;"
/-- the words of a throw: four speak of the heap, the others are among the tables' -/
def rn_own (own : String) (ic : Nat) (cls : String) (names : List String) : Bool := (Jvm.Bundle.ownAtoms own ic cls names).all fun w => decide (w = rn_zU) || (decide (w = rn_zN) || (decide (w = rn_yU) || (decide (w = rn_yN) || decide (w ∈ rn_tb))))
theorem rn_isRef {C n d : String} {A : Nat → Prop} {s : State} {args : Array Value} (h : va_Zq C n d A s s.heap) : (Cond.isRef (.static C n d)).before args s = true := by
  have key : ∀ v : Value, va_Z C n d v A s s.heap → v.isRef = true → (Cond.isRef (.static C n d)).before args s = true := by
    intro v h hv
    obtain ⟨cf, kf, fi, f, a, cell, h1, h2, h3, h4, h5, h6, h7, -⟩ := h
    have he : (Term.static C n d).eval args s none [] s = some v := by
      simp [Term.eval, State.fieldNamed?, h1, h2, h4, h5, h6, h7]
    simp only [Cond.before, Cond.holds, Cond.value, he]
    cases v <;> simp_all [Value.isRef]
  rcases h with h | ⟨t, h⟩
  · exact key _ h rfl
  · exact key _ h rfl
theorem rn_laysW {C n d : String} {A : Nat → Prop} {s : State} {args : Array Value} (h : rn_Ls C n d A s s.heap) : (Cond.laysStatic C n d).before args s = true := by
  obtain ⟨c, k, i, f, a, cell, h1, h2, h3, h4, h5, h6, h7, h8, h9, -⟩ := h
  show (Cond.laysStatic C n d).holds args s none s [] = true
  exact Cond.laysStatic_of h1 h2 h3 h4 h5 h6 h7 h8 h9
/-- the frame as if the method had been called in the heap of now -/
theorem rn_rebase {p : Program} {l : Launch} {e : Env} {R : Room} {s : State} {m : MethodId} {args : Array Value} {below : List Frame} {meth : Method} {c : Code} {T : State} {locs : List Loc} {cells slots : Nat} (X : Stand p l e R s m args below meth c T locs cells slots) {R' : Room} (hf : R'.frames ≤ R.frames) (hl : R'.locals ≤ R.locals) (hc : cells + R'.cells ≤ R.cells) (hs : slots + R'.slots ≤ R.slots) :
    Stand p l e R' ((T.setVm s.vm).setFrames (.invoking m args :: below)) m args below meth c T [] 0 0 := by
  have htop : (T.setVm s.vm).topJava?.isSome := X.here.top
  have hF : ((T.setVm s.vm).setFrames (.invoking m args :: below)).frames = .invoking m args :: below := State.frames_setFrames _ (State.cur_lt_of_top htop)
  obtain ⟨g₀, hg0⟩ := Option.isSome_iff_exists.mp htop
  obtain ⟨r, hr⟩ := State.topJava?_eq_some.mp hg0
  have hl9 : e.platform.stackLimits (T.setVm s.vm).me = e.platform.stackLimits s.me := X.limits
  have hb9 : (T.setVm s.vm).me.stackBytes = s.me.stackBytes := X.bytes
  refine ⟨X.admits, X.cas, X.clock, hF, ?_, X.hears, X.method, X.code, X.here, X.tail, X.warmed, ?_, ?_, ?_⟩
  · have h := X.room
    have hU : ((T.setVm s.vm).setFrames (.invoking m args :: below)).localsInUse = s.localsInUse := by
      rw [State.localsInUse_invoking hF (meth := meth) (c := c) X.method X.code, State.localsInUse_invoking X.frames X.method X.code]
    simp only [State.hasRoom, Bool.and_eq_true, decide_eq_true_eq] at h ⊢
    obtain ⟨⟨⟨⟨h1, h2, h3, h4, h5, h6⟩, h7⟩, h8⟩, h9⟩ := h
    rw [X.frames, List.length_cons] at h2 h3
    have q1 := X.heapSize
    have q2 := X.used
    simp only [hF, hU, List.length_cons, State.stackLimits_setFrames, State.stackBytes_setFrames, hl9, hb9]
    refine ⟨⟨⟨⟨by omega, by omega, by omega, by omega, by omega, h6⟩, ?_⟩, ?_⟩, X.book⟩
    · show T.heap.size + R'.cells ≤ e.platform.maxCells
      omega
    · show T.slotsUsed + R'.slots ≤ e.platform.maxSlots
      omega
  · rw [State.stackLimits_setFrames]; rfl
  · rw [State.stackBytes_setFrames]; rfl
  · refine ⟨?_, Nat.le_refl _, Nat.le_refl _, ?_, ?_, fun a c9 h9 => ⟨c9, h9, rfl, rfl, fun _ _ => rfl⟩⟩
    · obtain ⟨t, ht, -⟩ := State.frames_cons hr
      show T.setVm s.vm = { ((T.setVm s.vm).setFrames (.invoking m args :: below)).setFrames (T.setVm s.vm).frames with heap := T.heap, slotsUsed := T.slotsUsed }
      rw [State.setFrames_setFrames, State.setFrames_self ht]
      rfl
    · show T.slotsUsed = T.slotsUsed + ((T.heap.toList.drop T.heap.size).map (·.slots.size)).sum
      rw [List.drop_eq_nil_of_le (Nat.le_of_eq Array.length_toList)]
      rfl
    · show ((T.heap.toList.drop T.heap.size).map (·.slots.size)).sum ≤ 0
      rw [List.drop_eq_nil_of_le (Nat.le_of_eq Array.length_toList)]
      exact Nat.le_refl _
section
variable {Z : rn_Z} {M N : rn_M} {pc : Nat} {ls : List (Option Value)} {st st0 : List Value} {w w1 : List rn_C} {ca sa ca' sa' : Nat} {K : rn_K} {E : String}
theorem rn_throw {cls text : String} {names : List String} {ik is ic : Nat} (hl : Z.1.stackTraces = false) (hcls : Jvm.Bundle.fit cls = true) (hnames : ∀ n ∈ names, Jvm.Bundle.fit n = true) (hk : Cond.classLink M.1.cls ik cls ∈ rn_tb) (hini : Cond.initialized cls ∈ rn_tb) (hstr : (M.1.cls, is, text) ∈ rn_strs) (hat : rn_own M.1.cls ic cls names = true)
    (d0 : decode M.2.1 pc = .ok (.new ik, 3)) (d3 : decode M.2.1 (pc + 3) = .ok (.dup, 1)) (d4 : decode M.2.1 (pc + 4) = .ok (.ldc is, 2)) (d6 : decode M.2.1 (pc + 6) = .ok (.invokespecial ic, 3)) (d9 : decode M.2.1 (pc + 9) = .ok (.athrow, 1)) (hcd : Cond.code M.1 M.2.1 M.2.2.1 M.2.2.2.1 ∈ rn_tb) (hfr : names.length + 3 < M.2.2.2.2.1) (hlo : (st.map fun v => v.category).sum + (13 * (names.length + 1) + 43) ≤ M.2.2.2.2.2) : Rn Z M pc ls st w (ca + 1) (sa + 6) (rn_Thr Z cls w) := by
  intro p e s m args below meth c H locs cells slots mc ms A ad0 ad ws tys la sta hC hW hL hS hp h1 h2
  intro T hT X
  have htr : e.platform.stackTraces = false := (show e.platform.stackTraces = Z.1.stackTraces by rw [X.admits.platform]).trans hl
  have hcat := rn_vs_cats hS
  have Y := rn_rebase X (R' := { frames := M.2.2.2.2.1, locals := M.2.2.2.2.2, cells := 1, slots := 6 }) (Nat.le_refl _) (Nat.le_refl _) (show cells + 1 ≤ mc by omega) (show slots + 6 ≤ ms by omega)
  obtain ⟨s', hA⟩ : ∃ z, z = (T.setVm s.vm).setFrames (.invoking m args :: below) := ⟨_, rfl⟩
  rw [← hA] at Y
  have hvm : s'.vm = s.vm := by rw [hA]; rfl
  have hhp : s'.heap = H := by rw [hA]; exact hT
  have hW0 : s.WarmedH s'.vm := by rw [hvm]; exact State.WarmedH.refl s
  have hwd : ∀ w ∈ rn_tb, w.before args s' = true := fun w hw => rn_warm (List.mem_filter.mp hw).2 (hC.2.2.2.2.1 w hw) hW0
  have hTh : rn_Th A s' s'.heap := by rw [hhp]; exact rn_Th.warm hW0 (hC.2.2.2.2.2.2.2.2.2.2.2.2.1.kept hW.2.2.2.2.2.1)
  obtain ⟨hU1, hU2⟩ := hTh.1 ("java/lang/Throwable", "UNASSIGNED_STACK", "[Ljava/lang/StackTraceElement;") (by simp [rn_zs])
  obtain ⟨hN1, hN2⟩ := hTh.1 ("java/lang/Throwable", "SUPPRESSED_SENTINEL", "Ljava/util/List;") (by simp [rn_zs])
  have hown : ∀ w ∈ Jvm.Bundle.ownAtoms M.1.cls ic cls names, w.before args s' = true := fun w hw => by
    have h9 := List.all_eq_true.mp hat w hw
    simp only [Bool.or_eq_true, decide_eq_true_eq] at h9
    rcases h9 with rfl | rfl | rfl | rfl | h9
    · exact rn_isRef hU1
    · exact rn_isRef hN1
    · exact rn_laysW hU2
    · exact rn_laysW hN2
    · exact hwd w h9
  obtain ⟨sx, hsx⟩ := hTh.2.1 _ hstr
  have hown' : s'.vm.findClass M.1.cls = some m.cls := by rw [hvm]; exact hC.2.2.2.1
  have hins : (Cond.instantiable cls 6).before args s' = true := hown _ (by simp [Jvm.Bundle.ownAtoms])
  obtain ⟨vm₁, cX, kX, hfX, hkX, -, -, X₁, st1⟩ := Y.newCold hC.1 (own := M.1.cls) (C := cls) (index := ik) (n := 6) hown' (hwd _ hk) hins (hwd _ hini) (g := F0 m pc la sta) rfl (by rw [hC.2.1]; exact d0) (Nat.le_refl _) (Nat.le_refl _)
  generalize hT1 : (T.setVm vm₁).pushCell { cls := cX, slots := kX.instanceTypes.map defaultValue, vm := .none } = T1 at X₁ st1
  have hc1 : (Value.ref T.heap.size).category = 1 := rfl
  have hcellA : T1.heap[T.heap.size]? = some (freshCell cX kX) := by rw [← hT1]; exact State.heap_pushCell_size _ _
  have d3' : decode c.code (pc + 3) = .ok (.dup, 1) := by rw [hC.2.1]; exact d3
  have d4' : decode c.code (pc + 4) = .ok (.ldc is, 2) := by rw [hC.2.1]; exact d4
  have hno := rn_noEx X hC.2.2.2.2.2.2.2.2.2.2.2.2.2 (hC.2.2.2.2.1 _ hcd) (pc + 9)
  obtain ⟨U, hsteps, hrun, hend, hWU, hsame, ce, hce, hO⟩ := X₁.ctorThrowS hC.1 htr (own := M.1.cls) (cls := cls) (names := names) (ic := ic) hown' hcls hnames hown (fun x hx => nomatch hx) hfX hkX hcellA (by rw [hhp, hT]; exact Nat.le_refl _) (msg := .ref sx) rfl
    (g := { method := m, pc := pc + 6, locals := la, stack := .ref sx :: .ref T.heap.size :: .ref T.heap.size :: sta, locked := none }) rfl (hL.1.trans hC.2.2.1.symm) rfl rfl (rest := sta) rfl
    (by rw [hC.2.1]; exact d6) (by rw [hC.2.1]; exact d9) hno hfr (by simp only [List.map_cons, List.sum_cons, hc1]; show 2 * 0 + (1 + _) + _ ≤ M.2.2.2.2.2; rw [hcat]; omega) hC.2.2.2.2.2.1
  obtain ⟨f1, f2⟩ := rn_same_F hsame
  rw [hhp] at f1 f2
  have f3 : ∀ q : Nat, q < H.size → U.heap[q]? = H[q]? := fun q hq => f2 q hq (fun z hz => nomatch hz)
  have hWs : s.WarmedH U.vm := State.WarmedH.trans hW0 hWU
  have hcl : s.vm.findClass cls = some ce.cls := by
    have h9 := hO.cls
    rw [hvm] at h9
    exact h9
  have hall : s.sameButNew ({ U with vm := s.vm } : State) locs mc ms := by
    subst hA
    obtain ⟨e1, e2⟩ := hsame
    rw [State.setFrames_setFrames] at e1
    have h2 : (T.setVm s.vm).sameButNew ({ U with vm := s.vm } : State) [] (0 + 1) (0 + 6) := ⟨e1, e2⟩
    have h3 := X.same.trans h2
    rw [List.append_nil] at h3
    exact h3.mono (by omega) (by omega)
  obtain ⟨hw, hP, hK, hD, hSS⟩ := hW
  refine ⟨U, ?_, T.heap.size, hrun, hend, ⟨ad, ws, tys, hp, hw, hP.kept (fun k q hq => f3 q.1 ((hP k q hq).lt)), va_K.moved hWs.alike hK, hD⟩, ⟨Nat.le_trans hSS.1 f1, fun q g1 g2 => by rw [f3 q (Nat.lt_of_lt_of_le g1 hSS.1)]; exact hSS.2.1 q g1 g2⟩, ⟨ce, hce, hO.vm, hcl⟩, hWs, locs, hall, hSS.2.2⟩
  refine st1 _ ?_
  show Steps p.tables e below (T1.setTop { method := m, pc := pc + 3, locals := la, stack := .ref T.heap.size :: sta, locked := none }) _
  jvm_step X₁.here [X₁.here.top, hC.1, d3', Value.category]
  exact X₁.ldcString hC.1 (own := M.1.cls) (text := text) (index := is) (a := sx) hown' hsx.1 hsx.2
    (g := { method := m, pc := pc + 4, locals := la, stack := .ref T.heap.size :: .ref T.heap.size :: sta, locked := none }) rfl d4' _ hsteps
end
