set_option maxHeartbeats 4000000 in
set_option maxRecDepth 100000 in
theorem lw_tb_sub : ∀ w ∈ rn_tb, w ∈ lw_tbl := fun w hw => (List.mem_filter.mp hw).1
set_option maxHeartbeats 4000000 in
set_option maxRecDepth 100000 in
theorem lw_known {s : State} {args : Array Value} (hts : ∀ w ∈ rn_tb, w.before args s = true) : ∃ D : va_G, va_K D rn_cl [] s := by
  obtain ⟨c0, i0, h0⟩ := u_known (n := 7) hts cl_Wt.2.1 (hts _ ((rn_in 18 rfl rfl)))
  obtain ⟨c1, i1, h1⟩ := u_known (n := 2) hts cl_Dr.2.1 (hts _ ((rn_in 26 rfl rfl)))
  obtain ⟨c2, i2, h2⟩ := u_known (n := 10) hts cl_Ch.2.1 (hts _ ((rn_in 43 rfl rfl)))
  obtain ⟨c3, i3, h3⟩ := u_known (n := 1) hts cl_Ut.2.1 (hts _ ((rn_in 91 rfl rfl)))
  obtain ⟨c4, i4, h4⟩ := u_known (n := 5) hts cl_Tl.2.1 (hts _ ((rn_in 101 rfl rfl)))
  obtain ⟨c5, i5, h5⟩ := u_known (n := 10) hts cl_Gr.2.1 (hts _ ((rn_in 127 rfl rfl)))
  obtain ⟨c6, i6, h6⟩ := u_known (n := 4) hts cl_Rd.2.1 (hts _ ((rn_in 254 rfl rfl)))
  obtain ⟨c7, i7, h7⟩ := u_known (n := 35) hts cl_Md.2.1 (hts _ ((rn_in 671 rfl rfl)))
  refine ⟨(fun c => [c0, c1, c2, c3, c4, c5, c6, c7].getD c 0, fun c => [i0, i1, i2, i3, i4, i5, i6, i7].getD c (fun _ => 0)), ?_, fun k q hq => by simp at hq⟩
  intro c q hq
  match c, hq with
  | 0, hq => cases hq; exact h0
  | 1, hq => cases hq; exact h1
  | 2, hq => cases hq; exact h2
  | 3, hq => cases hq; exact h3
  | 4, hq => cases hq; exact h4
  | 5, hq => cases hq; exact h5
  | 6, hq => cases hq; exact h6
  | 7, hq => cases hq; exact h7
  | _ + 8, hq => simp at hq
set_option maxHeartbeats 4000000 in
set_option maxRecDepth 100000 in
theorem lw_throws {s : State} {b : Nat} {A : Nat → Prop} (hts : ∀ w ∈ lw_tbl, w.before #[Value.ref b] s = true) (hg : (Jvm.Cond.and given_1 narrow_1).before #[Value.ref b] s = true) (hA : ∀ a : Nat, a < s.heap.size → ¬ A a) {cW : ClassId} (hW : s.vm.findClass "WeightedTrees" = some cW) : rn_Th A s s.heap := by
  have hf := flat_of_before _ hg
  refine ⟨?_, ?_, ?_⟩
  · intro z hz
    have h1 : (Cond.laysStatic z.1 z.2.1 z.2.2).before #[Value.ref b] s = true := hts _ ((by decide +kernel : ∀ z ∈ rn_zs, Cond.laysStatic z.1 z.2.1 z.2.2 ∈ lw_tbl) z hz)
    have h2 : (Cond.initialized z.1).before #[Value.ref b] s = true := hts _ ((by decide +kernel : ∀ z ∈ rn_zs, Cond.initialized z.1 ∈ lw_tbl) z hz)
    have h3 : (Cond.isRef (.static z.1 z.2.1 z.2.2)).before #[Value.ref b] s = true := hf _ ((by decide +kernel : ∀ z ∈ rn_zs, Cond.isRef (.static z.1 z.2.1 z.2.2) ∈ flatC (Jvm.Cond.and given_1 narrow_1)) z hz)
    refine ⟨va_Zqof h1 h2 h3 hA, ?_⟩
    obtain ⟨c, k, i, f, a, cell, hc, hi, hst, ha, hcell, hs, hcls, hlt, hty⟩ := Cond.laysStatic_spec h1
    exact ⟨c, k, i, f, a, cell, hc, hi, hst, ha, hcell, hs, hcls, hlt, hty, hA a (Array.getElem?_eq_some_iff.mp hcell).1⟩
  · intro z hz
    have h1 : (Cond.stringRef z.1 z.2.1 z.2.2).before #[Value.ref b] s = true := hts _ ((by decide +kernel : ∀ z ∈ rn_strs, Cond.stringRef z.1 z.2.1 z.2.2 ∈ lw_tbl) z hz)
    have h0 : z.1 = "WeightedTrees" := (by decide +kernel : ∀ z ∈ rn_strs, z.1 = "WeightedTrees") z hz
    obtain ⟨k, cf, i, a, _, _, _, _, _, hev⟩ := Cond.stringRef_spec (by rw [h0]; exact hW) h1
    exact ⟨a, vk_R.of h1 hev⟩
  · intro z hz
    exact va_Nc.of (hf _ ((by decide +kernel : ∀ z ∈ rn_ncs, Cond.not (.castable z.1 z.2) ∈ flatC (Jvm.Cond.and given_1 narrow_1)) z hz))
set_option maxHeartbeats 4000000 in
set_option maxRecDepth 100000 in
theorem whole_start {p : Program} {e : Env} {s : State} {m : MethodId} {below : List Frame} {meth : Method} {c : Code} (l : Launch) (hl : l.stackTraces = false) {b L : Nat} {xs : Nat → Int32} (hL : L ≤ 2048) (C0 : lw_At p s m meth c b L xs) : W p l e room_1 s m #[Value.ref b] below meth c s.heap [] 0 0 (lw_Z below #[Value.ref b] s) (entryFrame m ([Value.ref b] : List Value).toArray 8) := by
  obtain ⟨x1, x2, x3, x4, x5, x6, x7, x8, x9, x10, x11, x12⟩ := C0
  have hts : ∀ w ∈ rn_tb, w.before #[Value.ref b] s = true := fun w hw => x6 w (lw_tb_sub w hw)
  obtain ⟨D, hD⟩ := lw_known hts
  have hcW : s.vm.findClass "WeightedTrees" = some (D.1 0) := (hD.1 0 _ rfl).2.1
  have hA : ∀ a : Nat, a < s.heap.size → ¬ (fun q : Nat => s.heap.size ≤ q) a := fun a ha h => by
    have h : s.heap.size ≤ a := h
    omega
  have hTh := lw_throws (A := fun q : Nat => s.heap.size ≤ q) x6 x10 hA hcW
  have k := lw_start (Z := (l, D, b, L, xs)) (lw_loop (bb := b) hl hL 513 0 0 lw_d0 lw_c0 lw_u0 lw_t0 lw_g0 lw_g0 lw_m0 lw_o0 lw_inv0 (by omega) (show L < 0 + 4 * 513 + 4 by omega))
  rw [lg_entry_eq]
  have k2 := k.go (p := p) (e := e) (s := s) (m := m) (args := #[Value.ref b]) (below := below) (meth := meth) (c := c) (H := s.heap) (locs := []) (cells := 0) (slots := 0) (mc := 601024) (ms := 7293034) (A := fun q : Nat => s.heap.size ≤ q) (ad0 := [b]) (ad := [b]) (ws := []) (tys := [])
    ⟨x1, x2, x4, x5, hts, x9, x3, x11, fun q h => h, x7, x8, hA b x8, hTh, x12⟩
    ⟨⟨rfl, (fun i j a hi hj => by
      have h1 := (List.getElem?_eq_some_iff.mp hi).1
      have h2 := (List.getElem?_eq_some_iff.mp hj).1
      simp at h1 h2
      omega), (fun i c0 hi => by
      have h1 := (List.getElem?_eq_some_iff.mp hi).1
      simp at h1
      subst h1
      cases hi
      exact ⟨b, rfl, rfl⟩)⟩, (fun k q hq => by simp at hq), hD, ⟨(fun i j p q hi => by simp at hi), (fun k q hq => by simp at hq)⟩, va_S.rf⟩
    (rn_ent_L (av := [.ref 0]) (ava := [.ref b]) (k := 7) ⟨_, _, rfl, ⟨b, rfl, rfl⟩, rfl⟩ (by decide)) rfl ⟨[], rfl⟩ (by decide) (by decide)
  intro T hT X
  obtain ⟨t, a1, a2⟩ := k2 T hT X
  exact ⟨t, a1, a2 ⟨rfl, rfl, rfl, fun q h => h⟩⟩
set_option maxHeartbeats 4000000 in
theorem lw_walk (l : Launch) (hl : l.stackTraces = false) (b : Addr) (xs : List Int32) : MetFree l x (headSpec (Jvm.Cond.code x code maxLocals ret :: tables_1) room_1) (lw_P b xs) (fun _ _ _ _ _ => True) lw_Q := by
  refine MetFree.of_bodyS (code := code) (maxLocals := maxLocals) (ret := ret) (by decide) ?_ ?_
  · intro args s m h hn
    obtain ⟨meth, c, h1, h2, h3, h4, h5, h6, -, -⟩ := Cond.code_spec hn (atoms_spec (ws := Jvm.Cond.code x code maxLocals ret :: tables_1) h _ List.mem_cons_self)
    exact ⟨meth, c, h1, h2, h3, h4, h5, h6⟩
  · intro p e s m args below meth c s₁ B hml0 hP _
    obtain ⟨rfl, hx, hbd, hgv⟩ := hP
    obtain ⟨scr, harrAt, hlist, hof, hsmall⟩ := hx
    obtain ⟨hcb, hkn, -, -⟩ := State.arrayAt?_spec harrAt
    have hown : s.vm.findClass R_law = some m.cls := findClass_of_methodNamed B.named
    have hts0 : ∀ c ∈ (Jvm.Cond.code x code maxLocals ret :: tables_1), c.before #[Value.ref b] s = true := atoms_spec (ws := Jvm.Cond.code x code maxLocals ret :: tables_1) B.pre
    have hts : ∀ w ∈ lw_tbl, w.before #[Value.ref b] s = true := k2_hts_sels lw_privs (fun w hw => hts0 w (List.mem_cons_of_mem _ hw)) lw_privs_ok
    have hml : c.maxLocals = 8 := B.maxLocals_eq (hts0 _ List.mem_cons_self)
    have X₀ : Stand p l e room_1 s m #[Value.ref b] below meth c s₁ [] 0 0 := Stand.of_body B
    have hh0 : s₁.heap = s.heap := by rw [B.state]; rfl
    have hsz : scr.slots.size = xs.length := by rw [← Array.length_toList, hlist, List.length_map]
    have hval : ∀ j : Nat, j < xs.length → scr.slots[j]? = some (.int (xs.getD j 0)) := fun j hj => by
      rw [← Array.getElem?_toList, hlist]
      simp [hj]
    have hbl : b < s.heap.size := (Array.getElem?_eq_some_iff.mp hcb).1
    have hX : va_X b xs.length (fun j => xs.getD j 0) s s.heap := ⟨scr, hcb, hof, hkn, hsz, hval⟩
    have K : W p l e room_1 s m #[Value.ref b] below meth c s₁.heap [] 0 0 (lw_Z below #[Value.ref b] s) (entryFrame m ([Value.ref b] : List Value).toArray 8) := by
      rw [hh0]
      exact whole_start l hl hbd ⟨B.exec, B.bytes, B.returns, hml, hown, hts, hX, hbl, B.notSynchronized, hgv, (name_of_methodNamed B.named B.method).1, B.named⟩
    obtain ⟨t, a1, o, b1, b2, b3⟩ := K s₁ rfl X₀
    exact ⟨t, o, a1, b1, b2, b3⟩
theorem lw_pre_spec {args : Array Value} {s : State} (h : (Jvm.Cond.and given_1 narrow_1).before args s = true) (hr : rest_1_c.before args s = true) : ∃ (b : Addr) (xs : List Int32), lw_P b xs args s := by
  have hs := flat_of_before _ h
  have hq := flat_of_before _ hr
  have hc : (Cond.count 1).before args s = true := hs _ (by decide +kernel)
  have harr : (Cond.arrayOf (.arg 0) .int).before args s = true := hs _ (by decide +kernel)
  have hle : (Cond.le (.length (.arg 0)) (.int 2048)).before args s = true := hs _ (by decide +kernel)
  have hlen : (Cond.isInt (.length (.arg 0))).before args s = true := hq _ (by decide +kernel)
  have hall : (Cond.all (.arg 0) (.isInt (.elem (.arg 0) (.index 0)))).before args s = true := hq _ (by decide +kernel)
  obtain ⟨b, xs, hb, hx⟩ := State.ints_of_pre rfl harr hlen hall
  have hsm : xs.length < 2 ^ 31 := hx.choose_spec.2.2.2
  have hev : (Term.length (.arg 0)).eval args s none [] s = some (.int xs.length.toInt32) := hx.length_eval hb
  have hv := Cond.le_ints hev (show (Term.int 2048).eval args s none [] s = some (.int 2048) from rfl)
  have hd : xs.length.toInt32 ≤ 2048 := by
    simpa [Cond.before, Cond.holds, hv] using hle
  have hN : xs.length ≤ 2048 := (Int32.ofNat_le_ofNat hsm (by decide)).mp (show Int32.ofNat xs.length ≤ Int32.ofNat 2048 from hd)
  exact ⟨b, xs, Cond.one_arg hc (show args[0]? = some (.ref b) from hb), hx, hN, h⟩
theorem lw_comes (l : Launch) (hl : l.stackTraces = false) : Comes l x (Jvm.Cond.code x code maxLocals ret :: tables_1) room_1 (fun tb e args s => Calls_1 tb e args s ∧ rest_1 tb e args s ∧ Pre_1 tb e args s)
    (fun _ _ args s o t => lw_Q args s o t) := by
  intro p e ha hc hk s m args below hf hfit hheap happ hpre
  obtain ⟨b, xs, hP⟩ := lw_pre_spec hpre.2.2 hpre.2.1
  obtain ⟨k, o, h1, h2, h3, hQ⟩ := lw_walk l hl b xs p e ha hc hk s m args below hf ((Spec.applies_iff_loose hf).mp happ).1 hP trivial
  exact ⟨k, o, h1, h2, h3, hQ⟩
theorem lw_frame {s t : State} {o : Outcome} {args : Array Value} (h : Framed s o t [] 601024 7293034) :
    Framed s o t (fieldLocs frame_1_writes args s ++ arrayLocs frame_1_arrays args s ++ staticLocs frame_1_statics s) 601024 7293034 := h
theorem lw_limb (L : Cond) (hL : ∀ (args : Array Value) (s t : State), L.after args s (.returned (some (.int 1))) t = true) :
    ArmFor flags0 classFile x code maxLocals ret World_1 tables_1 room_1 Calls_1 rest_1 Pre_1
      (fun tb e a s o t => postC L tb e a s o t ∧ Framed s o t (fieldLocs frame_1_writes a s ++ arrayLocs frame_1_arrays a s ++ staticLocs frame_1_statics s) 601024 7293034) := by
  intro l hfl _ _ p e ha hc hk s m args below hf hfit hheap happ hpre
  obtain ⟨k, o, h1, h2, h3, rfl, hF⟩ := lw_comes l (by unfold Launch.stackTraces; rw [hfl]; decide +kernel) p e ha hc hk s m args below hf hfit hheap happ hpre
  exact ⟨k, _, h1, h2, h3, hL args s _, lw_frame hF⟩
theorem i_vc : Claimed_1_1 ∧ Claimed_1_2 := ⟨lw_limb limb_1_1 (fun args s t => by simp [limb_1_1, Cond.after, Cond.holds, Cond.value]), lw_limb limb_1_2 (fun args s t => Cond.after_iff.mpr (by
  first | (rw [show limb_1_2 = Cond.eq .result (.int 1) from rfl, Cond.eq_ints (x := 1) (y := 1) rfl rfl]; simp; done) | (simp [limb_1_2, Cond.value, Term.eval]; done)))⟩
