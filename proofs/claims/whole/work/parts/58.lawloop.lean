def R_law : String := "WeightedTreesLaw"
def lw_P (b : Addr) (xs : List Int32) (args : Array Value) (s : State) : Prop := args = #[.ref b] ∧ s.IntsAt b xs ∧ xs.length ≤ 2048 ∧ (Jvm.Cond.and given_1 narrow_1).before args s = true
def lw_Q (_ : Array Value) (s : State) (o : Outcome) (t : State) : Prop := o = .returned (some (.int 1)) ∧ Framed s o t [] 601024 7293034
def lw_Z (below : List Frame) (a : Array Value) (s : State) : State → Prop := fun t => ∃ o, t.status = .running ∧ Ended t below o ∧ lw_Q a s o t
set_option maxHeartbeats 4000000 in
theorem lw_ret {p : Program} {l : Launch} {e : Env} {s : State} {m : MethodId} {below : List Frame} {meth : Method} {c : Code} {b : Nat} (hx : p.tables.exec = Jvm.exec) (hb : c.code = code) (hr : meth.sig.returnType = ret) (hlocks : meth.locks = false) {pc : Nat} {H : Heap} {ls : Array Slot} (hdg : decode code pc = .ok (.ireturn, 1)) : W p l e room_1 s m #[Value.ref b] below meth c H [] 601024 7293034 (lw_Z below #[Value.ref b] s) (F0 m pc ls [.int 1]) := by
  intro T hT X
  obtain ⟨fs, hret, hrun, hended, hW, hframe⟩ := X.leave (v := some (.int 1)) (hlocks := hlocks) (fun h => by rw [hr] at h; cases h)
  have hmeth' : T.vm.method? m = some meth := X.method'
  refine ⟨T.setFrames fs, ?_, .returned (some (.int 1)), hrun, hended, rfl, ⟨_, rfl⟩, hW, hframe⟩
  jvm_step X.here [X.here.top, hx, hb, hdg, hmeth', hr, ret, narrow_b1]
  (try refine ⟨rfl, ?_⟩); (try refine ⟨rfl, ?_⟩)
  first | (intro acts; rw [hret _ acts rfl rfl rfl]) | rw [hret _ _ rfl rfl rfl]
  exact Steps.refl _
def lw_At (p : Program) (s : State) (m : MethodId) (meth : Method) (c : Code) (b L : Nat) (xs : Nat → Int32) : Prop :=
  p.tables.exec = Jvm.exec ∧ c.code = code ∧ meth.sig.returnType = ret ∧ c.maxLocals = 8 ∧ s.vm.findClass R_law = some m.cls ∧ (∀ w ∈ lw_tbl, w.before #[Value.ref b] s = true) ∧ va_X b L xs s s.heap ∧ b < s.heap.size ∧ meth.locks = false ∧ (Jvm.Cond.and given_1 narrow_1).before #[Value.ref b] s = true ∧ meth.name = "law" ∧ s.methodNamed? x = some m
set_option maxHeartbeats 4000000 in
set_option maxRecDepth 100000 in
theorem nw_Lw_8 : rn_Nw "WeightedTreesLaw" 8 0 7 [.null, .null, .null, .null, .null, .null, .int 0] := ⟨_, _, _, cl_Wt, (rn_in 17 rfl rfl), (rn_in 18 rfl rfl), (rn_in 1 rfl rfl), by decide +kernel, fun _ => ⟨_, _, rfl, rfl, ⟨_, _, rfl, rfl, ⟨_, _, rfl, rfl, ⟨_, _, rfl, rfl, ⟨_, _, rfl, rfl, ⟨_, _, rfl, rfl, ⟨_, _, rfl, rfl, rfl⟩⟩⟩⟩⟩⟩⟩⟩
set_option maxHeartbeats 4000000 in
set_option maxRecDepth 100000 in
theorem nw_Lw_54 : rn_Nw "WeightedTreesLaw" 54 7 35 [.int 0, .null, .int 0, .null, .null, .int 0, .int 0, .int 0, .int 0, .null, .null, .null, .null, .null, .int 0, .null, .int 0, .int 0, .null, .null, .null, .null, .null, .null, .null, .null, .null, .int 0, .null, .null, .null, .null, .int 0, .int 0, .int 0] := ⟨_, _, _, cl_Md, (rn_in 670 rfl rfl), (rn_in 671 rfl rfl), (rn_in 7 rfl rfl), by decide +kernel, fun _ => ⟨_, _, rfl, rfl, ⟨_, _, rfl, rfl, ⟨_, _, rfl, rfl, ⟨_, _, rfl, rfl, ⟨_, _, rfl, rfl, ⟨_, _, rfl, rfl, ⟨_, _, rfl, rfl, ⟨_, _, rfl, rfl, ⟨_, _, rfl, rfl, ⟨_, _, rfl, rfl, ⟨_, _, rfl, rfl, ⟨_, _, rfl, rfl, ⟨_, _, rfl, rfl, ⟨_, _, rfl, rfl, ⟨_, _, rfl, rfl, ⟨_, _, rfl, rfl, ⟨_, _, rfl, rfl, ⟨_, _, rfl, rfl, ⟨_, _, rfl, rfl, ⟨_, _, rfl, rfl, ⟨_, _, rfl, rfl, ⟨_, _, rfl, rfl, ⟨_, _, rfl, rfl, ⟨_, _, rfl, rfl, ⟨_, _, rfl, rfl, ⟨_, _, rfl, rfl, ⟨_, _, rfl, rfl, ⟨_, _, rfl, rfl, ⟨_, _, rfl, rfl, ⟨_, _, rfl, rfl, ⟨_, _, rfl, rfl, ⟨_, _, rfl, rfl, ⟨_, _, rfl, rfl, ⟨_, _, rfl, rfl, ⟨_, _, rfl, rfl, rfl⟩⟩⟩⟩⟩⟩⟩⟩⟩⟩⟩⟩⟩⟩⟩⟩⟩⟩⟩⟩⟩⟩⟩⟩⟩⟩⟩⟩⟩⟩⟩⟩⟩⟩⟩⟩
set_option maxHeartbeats 4000000 in
set_option maxRecDepth 100000 in
theorem ii_Lw_53 : rn_II "WeightedTreesLaw" 53 M_Wt_init 0 := ⟨⟨(rn_in 21 rfl rfl), (rn_in 1 rfl rfl), by decide, by decide +kernel⟩, (Or.inl (rn_in 19 rfl rfl)), (rn_in 20 rfl rfl), rfl⟩
set_option maxHeartbeats 4000000 in
set_option maxRecDepth 100000 in
theorem ii_Lw_56 : rn_II "WeightedTreesLaw" 56 M_Md_init 0 := ⟨⟨(rn_in 674 rfl rfl), (rn_in 7 rfl rfl), by decide, by decide +kernel⟩, (Or.inl (rn_in 672 rfl rfl)), (rn_in 673 rfl rfl), rfl⟩
def lw_f0 : Nat → Int32 := fun _ => 0
def lw_l0 : Nat → Int64 := fun _ => 0
def lw_d0 : tD := (fun _ => 0, 0)
def lw_c0 : tC := (fun _ => 0, fun _ => 0, fun _ => 0, fun _ => 0, fun _ => 0, fun _ => 0, -1, fun _ _ => 0, fun _ _ => 0, fun _ _ => 0)
def lw_u0 : tU := fun _ => 0
def lw_t0 : tT := (fun _ => 0, fun _ => 0, fun _ => 0, fun _ => 0, 0)
def lw_g0 : tG := (fun _ => 0, fun _ => 0, fun _ => 0, fun _ => 0, fun _ => 0, fun _ => 0, fun _ => 0, 0, 0, fun _ => 0)
def lw_m0 : tM := (0, fun _ => 0, 0, fun _ => 0, fun _ => 0, 0, 0, 0, 0, fun _ => 0, fun _ => 0, fun _ => 0, fun _ => 0, fun _ => 0, 0, fun _ => 0, 0, 0, fun _ => 0, fun _ => 0, fun _ => 0, fun _ => 0, fun _ => 0, fun _ => 0, fun _ => 0, fun _ => 0, fun _ => 0, 0, fun _ => 0, fun _ => 0, fun _ => 0, fun _ => 0, 0, 0, 0)
def lw_o0 : tO := fun _ => 0
theorem lw_inv0 : z9_INV (0 : Int32) lw_d0 lw_c0 lw_u0 lw_t0 lw_g0 lw_m0 := by
  refine ⟨⟨0, ⟨by omega, rfl, fun k hk => by omega⟩, rfl⟩, rfl, ⟨0, by omega, rfl, rfl, fun k _ hk => by omega⟩, ?_, Or.inl ⟨rfl, rfl, rfl, rfl, 0, by omega, rfl⟩⟩
  intro s p q _ _ _
  exact ⟨some 0, rfl, (fun x hx => by cases hx; exact Nat.zero_le _), fun h => by cases h⟩
set_option maxHeartbeats 4000000 in
set_option maxRecDepth 100000 in
theorem lw_start {Z : rn_Z} {K : rn_K} {ca sa : Nat} (k : Rn Z M_Lw_law 23 [some (.ref 0), some (.ref 1), some (.ref 53), some (.ref 76), some (.int (0)), none, none, none] [] (emb 35 44 0 lw_d0 lw_c0 lw_u0 lw_t0 lw_g0 lw_g0 lw_m0 lw_o0 []) ca sa K) : Rn Z M_Lw_law 0 [some (.ref 0), none, none, none, none, none, none, none] [] [rn_s] (ca + 1 + 22 + 1 + 51 + 1) (sa + 1 + 3900 + 35 + 3100 + 7) K := by
  refine rn_new (ca := ca + 1 + 22 + 1 + 51) (sa := sa + 1 + 3900 + 35 + 3100) (N := 7) (w2 := wd_75) nw_Lw_8 (by exact dc_Lw_law 0 rfl) rfl ?_
  show Rn _ _ 3 [some (.ref 0), none, none, none, none, none, none, none] [.ref 1] wd_75 _ _ _
  refine rn_dup (by exact dc_Lw_law 1 rfl) rfl ?_
  refine rn_invI (ca := ca + 1 + 22 + 1) (sa := sa + 1 + 3900 + 35) (ca' := 51) (sa' := 3100) (by exact i_Wt_init_6) ii_Lw_53 rfl (by exact ⟨Nat.le_of_ble_eq_true rfl, Nat.le_of_ble_eq_true rfl⟩) (by exact dc_Lw_law 2 rfl) rfl rfl (by exact Nat.le_of_ble_eq_true rfl) ?_
  refine rn_astore_n (ls' := [some (.ref 0), some (.ref 1), none, none, none, none, none, none]) (by exact dc_Lw_law 3 rfl) (by decide) (by exact rfl) ?_
  refine rn_new (ca := ca + 1 + 22) (sa := sa + 1 + 3900) (N := 35) (w2 := wd_120) nw_Lw_54 (by exact dc_Lw_law 4 rfl) rfl ?_
  show Rn _ _ 11 [some (.ref 0), some (.ref 1), none, none, none, none, none, none] [.ref 53] wd_120 _ _ _
  refine rn_dup (by exact dc_Lw_law 5 rfl) rfl ?_
  refine rn_invI (ca := ca + 1) (sa := sa + 1) (ca' := 22) (sa' := 3900) (by exact i_Md_init_7) ii_Lw_56 rfl (by exact ⟨Nat.le_of_ble_eq_true rfl, Nat.le_of_ble_eq_true rfl⟩) (by exact dc_Lw_law 6 rfl) rfl rfl (by exact Nat.le_of_ble_eq_true rfl) ?_
  refine rn_astore_n (ls' := [some (.ref 0), some (.ref 1), some (.ref 53), none, none, none, none, none]) (by exact dc_Lw_law 7 rfl) (by decide) (by exact rfl) ?_
  refine rn_iconst (v := (1 : Int32)) (by exact dc_Lw_law 8 rfl) (by decide) ?_
  refine rn_newL (ca := ca) (sa := sa) (N := 1) (w2 := emb 35 44 0 lw_d0 lw_c0 lw_u0 lw_t0 lw_g0 lw_g0 lw_m0 lw_o0 []) ac_long (by exact dc_Lw_law 9 rfl) (by decide) (by decide) (by decide) rfl ?_
  show Rn _ _ 19 [some (.ref 0), some (.ref 1), some (.ref 53), none, none, none, none, none] [.ref 76] _ _ _ _
  refine rn_astore_n (ls' := [some (.ref 0), some (.ref 1), some (.ref 53), some (.ref 76), none, none, none, none]) (by exact dc_Lw_law 10 rfl) (by decide) (by exact rfl) ?_
  refine rn_iconst (v := (0 : Int32)) (by exact dc_Lw_law 11 rfl) (by decide) ?_
  refine rn_istore (ls' := [some (.ref 0), some (.ref 1), some (.ref 53), some (.ref 76), some (.int (0)), none, none, none]) (by exact dc_Lw_law 12 rfl) (by decide) (by exact rfl) ?_
  exact k
def lw_K (b : Nat) : rn_K := fun below args s mc ms A _ t => (args = #[Value.ref b] ∧ mc = 601024 ∧ ms = 7293034 ∧ ∀ q : Nat, A q → s.heap.size ≤ q) → lw_Z below #[Value.ref b] s t
theorem lw_KK (b : Nat) : ∀ below args s mc ms A a1 a2, lw_K b below args s mc ms A a1 = lw_K b below args s mc ms A a2 := fun _ _ _ _ _ _ _ _ => rfl
set_option maxHeartbeats 4000000 in
set_option maxRecDepth 100000 in
theorem lw_end {Z : rn_Z} {ls : List (Option Value)} {w : List rn_C} {ca sa b : Nat} : Rn Z M_Lw_law 868 ls [.int 1] w ca sa (lw_K b) := by
  intro p e s m args below meth c H locs cells slots mc ms A ad0 ad ws tys la sta hC hW hL hS hp h1 h2
  by_cases hc : args = #[Value.ref b] ∧ mc = 601024 ∧ ms = 7293034 ∧ ∀ q : Nat, A q → s.heap.size ≤ q
  · obtain ⟨rfl, rfl, rfl, hA⟩ := hc
    obtain ⟨u, us, e1, e2, e3⟩ := hS
    have e2 : u = .int 1 := e2
    have e3 : us = [] := e3
    subst e1 e2 e3
    obtain ⟨x1, x2, x3, x4, x5, x6, x7, x8, x9⟩ := hC
    have k0 : W p Z.1 e room_1 s m #[Value.ref b] below meth c H locs cells slots (lw_Z below #[Value.ref b] s) (F0 m 868 la [.int 1]) := by
      refine va_forget (fun q hq => hA _ (hW.2.2.2.2.2.2 q hq)) ?_
      refine W.widen (k := 601024) (n := 7293034) (by omega) (by omega) ?_
      exact lw_ret x1 x2 x7 x6 (by exact dc_Lw_law 517 rfl)
    intro T hT X
    obtain ⟨t, a1, a2⟩ := k0 T hT X
    exact ⟨t, a1, fun _ => a2⟩
  · intro T hT X
    exact ⟨_, Steps.refl _, fun h => absurd h hc⟩
theorem lw_and15 (x : Int32) : ∃ k, k < 16 ∧ x &&& 15 = z9_i32 k := by
  refine ⟨x.toBitVec.toNat % 16, Nat.mod_lt _ (by decide), ?_⟩
  apply Int32.toBitVec_inj.mp
  apply BitVec.eq_of_toNat_eq
  rw [Int32.toBitVec_and, BitVec.toNat_and]
  show x.toBitVec.toNat &&& 15 = (BitVec.ofNat 32 (x.toBitVec.toNat % 16)).toNat
  rw [BitVec.toNat_ofNat, show (15 : Nat) = 2 ^ 4 - 1 from rfl, Nat.and_two_pow_sub_one_eq_mod]
  have : x.toBitVec.toNat % 16 < 16 := Nat.mod_lt _ (by decide)
  rw [show (2 : Nat) ^ 4 = 16 from rfl]
  omega
theorem lw_cmp {L I : Nat} (hL : L ≤ 2048) (hI : I ≤ 4096) : ((Int32.ofNat L - 4 : Int32) < z9_i32 I) ↔ L < I + 4 := by
  have e : ∀ L : Nat, L ≤ 2048 → (Int32.ofNat L - 4 : Int32).toInt = (L : Int) - 4 := by
    intro L hL
    rw [Int32.toInt_sub, Int32.toInt_ofNat_of_lt (by omega), show (4 : Int32).toInt = 4 from by decide]
    exact Int.bmod_eq_of_le (by omega) (by omega)
  rw [Int32.lt_iff_toInt_lt, e L hL, z9_i32_toInt (by omega)]
  omega
set_option maxHeartbeats 4000000 in
set_option maxRecDepth 100000 in
theorem lw_exit {Z : rn_Z} {w : List rn_C} {ca sa b I : Nat} (hs : w[0]? = some rn_s) (hL : Z.2.2.2.1 ≤ 2048) (hI : I ≤ 4096) (h : Z.2.2.2.1 < I + 4) : Rn Z M_Lw_law 23 [some (.ref 0), some (.ref 1), some (.ref 53), some (.ref 76), some (.int (z9_i32 I)), none, none, none] [] w ca sa (lw_K b) := by
  refine rn_iload (by exact dc_Lw_law 13 rfl) (by exact rfl) ?_
  refine rn_aload_n (by exact dc_Lw_law 14 rfl) (by exact rfl) ?_
  refine rn_slen (by exact dc_Lw_law 15 rfl) hs ?_
  refine rn_iconst (v := (4 : Int32)) (by exact dc_Lw_law 16 rfl) (by decide) ?_
  refine rn_isub (by exact dc_Lw_law 17 rfl) ?_
  refine rn_icmp_gt_t 867 (by exact dc_Lw_law 18 rfl) (by exact rfl) ((lw_cmp hL hI).mpr h) ?_
  refine rn_iconst (v := (1 : Int32)) (by exact dc_Lw_law 516 rfl) (by decide) ?_
  exact lw_end
set_option maxHeartbeats 4000000 in
set_option maxRecDepth 100000 in
theorem lw_loop {Z : rn_Z} {bb : Nat} (hZ : Z.1.stackTraces = false) (hL : Z.2.2.2.1 ≤ 2048) : ∀ (n I : Nat) (x : tX) (d : tD) (c : tC) (u : tU) (t : tT) (a b : tG) (m : tM) (o : tO), z9_INV x d c u t a m → I ≤ 4092 → Z.2.2.2.1 < I + 4 * n + 4 → Rn Z M_Lw_law 23 [some (.ref 0), some (.ref 1), some (.ref 53), some (.ref 76), some (.int (z9_i32 I)), none, none, none] [] (emb 35 44 x d c u t a b m o []) (2 * n) (10 * n) (lw_K bb) := by
  intro n
  induction n with
  | zero => intro I x d c u t a b m o hV hI h; exact lw_exit rfl hL (by omega) (by omega)
  | succ n ih =>
    intro I x d c u t a b m o hV hI h
    by_cases hx : Z.2.2.2.1 < I + 4
    · exact lw_exit rfl hL (by omega) hx
    have hI4 : I + 4 ≤ Z.2.2.2.1 := by omega
    have next : ∀ (x : tX) (d : tD) (c : tC) (u : tU) (t : tT) (a b : tG) (m : tM) (o : tO), z9_INV x d c u t a m → Rn Z M_Lw_law 861 [some (.ref 0), some (.ref 1), some (.ref 53), some (.ref 76), some (.int (z9_i32 I)), none, none, none] [] (emb 35 44 x d c u t a b m o []) (2 * n) (10 * n) (lw_K bb) := by
      intro x d c u t a b m o hV
      refine rn_iinc (ls' := [some (.ref 0), some (.ref 1), some (.ref 53), some (.ref 76), some (.int (z9_i32 (I + 4))), none, none, none]) (by exact dc_Lw_law 514 rfl) (by decide) (by exact rfl) (by exact (rn_inc_4 _).trans (z9_i32_add I 4)) (by exact rfl) ?_
      refine rn_goto 23 (by exact dc_Lw_law 515 rfl) (by exact rfl) ?_
      exact ih (I + 4) x d c u t a b m o hV (by omega) (by omega)
    refine rn_iload (by exact dc_Lw_law 13 rfl) (by exact rfl) ?_
    refine rn_aload_n (by exact dc_Lw_law 14 rfl) (by exact rfl) ?_
    refine rn_slen (by exact dc_Lw_law 15 rfl) rfl ?_
    refine rn_iconst (v := (4 : Int32)) (by exact dc_Lw_law 16 rfl) (by decide) ?_
    refine rn_isub (by exact dc_Lw_law 17 rfl) ?_
    refine rn_icmp_gt_f 867 (by exact dc_Lw_law 18 rfl) (by exact rfl) (fun q => hx ((lw_cmp hL (by omega)).mp q)) ?_
    refine rn_aload_n (by exact dc_Lw_law 19 rfl) (by exact rfl) ?_
    refine rn_iload (by exact dc_Lw_law 20 rfl) (by exact rfl) ?_
    refine rn_sload (by exact dc_Lw_law 21 rfl) rfl (z9_aG_i (by omega) (by omega)) ?_
    refine rn_bipush (v := (15 : Int32)) (by exact dc_Lw_law 22 rfl) (by decide) ?_
    refine rn_iand (by exact dc_Lw_law 23 rfl) ?_
    obtain ⟨k, hk, e⟩ := lw_and15 (Z.2.2.2.2 I)
    rw [e]
    have hkk : k = 0 ∨ k = 1 ∨ k = 2 ∨ k = 3 ∨ k = 4 ∨ k = 5 ∨ k = 6 ∨ k = 7 ∨ k = 8 ∨ k = 9 ∨ k = 10 ∨ k = 11 ∨ k = 12 ∨ k = 13 ∨ k = 14 ∨ k = 15 := by omega
    clear e hk
    rcases hkk with rfl | rfl | rfl | rfl | rfl | rfl | rfl | rfl | rfl | rfl | rfl | rfl | rfl | rfl | rfl | rfl
    ·
      obtain ⟨d', m', hF, hI'⟩ := z9_l_put (xs := Z.2.2.2.2) (L := Z.2.2.2.1) (I := I) hV hL hI4
      refine rn_tabIn (off := 69) 108 (by exact dc_Lw_law 24 rfl) (by decide) (by decide) (by exact rfl) (by exact rfl) ?_
      refine rn_room (ca' := 2 * n) (sa' := 10 * n) (by omega) (by omega) ?_
      refine p_Lw_law_put hZ (lw_KK _) hF ?_
      exact next x d' c u t a b m' o hI'
    ·
      obtain ⟨d', m', hF, hI'⟩ := z9_l_scrap (xs := Z.2.2.2.2) (L := Z.2.2.2.1) (I := I) hV
      refine rn_tabIn (off := 138) 177 (by exact dc_Lw_law 24 rfl) (by decide) (by decide) (by exact rfl) (by exact rfl) ?_
      refine rn_room (ca' := 2 * n) (sa' := 10 * n) (by omega) (by omega) ?_
      refine p_Lw_law_scrap hZ (lw_KK _) hF ?_
      exact next x d' c u t a b m' o hI'
    ·
      obtain ⟨x', d', c', u', t', a', b', m', o', hF, hI'⟩ := z9_l_load (xs := Z.2.2.2.2) (L := Z.2.2.2.1) (I := I) (o := o) (b := b) hV
      refine rn_tabIn (off := 149) 188 (by exact dc_Lw_law 24 rfl) (by decide) (by decide) (by exact rfl) (by exact rfl) ?_
      refine rn_room (ca' := 2 * n + 2) (sa' := 10 * n + 10) (by omega) (by omega) ?_
      refine p_Lw_law_load hZ (lw_KK _) hF ?_
      exact next x' d' c' u' t' a' b' m' o' hI'
    ·
      obtain ⟨m', hF, hI'⟩ := z9_l_wrong (xs := Z.2.2.2.2) (L := Z.2.2.2.1) (I := I) hV
      refine rn_tabIn (off := 193) 232 (by exact dc_Lw_law 24 rfl) (by decide) (by decide) (by exact rfl) (by exact rfl) ?_
      refine rn_room (ca' := 2 * n) (sa' := 10 * n) (by omega) (by omega) ?_
      refine p_Lw_law_wrong hZ (lw_KK _) hF ?_
      exact next x d c u t a b m' o hI'
    ·
      obtain ⟨d', c', t', m', o', hF, hI'⟩ := z9_l_parse (xs := Z.2.2.2.2) (L := Z.2.2.2.1) (I := I) (o := o) hV
      refine rn_tabIn (off := 206) 245 (by exact dc_Lw_law 24 rfl) (by decide) (by decide) (by exact rfl) (by exact rfl) ?_
      refine rn_room (ca' := 2 * n + 1) (sa' := 10 * n + 6) (by omega) (by omega) ?_
      refine p_Lw_law_parse hZ (lw_KK _) hF ?_
      exact next x d' c' u t' a b m' o' hI'
    ·
      obtain ⟨m', hF, hI'⟩ := z9_l_count (xs := Z.2.2.2.2) (L := Z.2.2.2.1) (I := I) hV hL hI4
      refine rn_tabIn (off := 257) 296 (by exact dc_Lw_law 24 rfl) (by decide) (by decide) (by exact rfl) (by exact rfl) ?_
      refine rn_room (ca' := 2 * n) (sa' := 10 * n) (by omega) (by omega) ?_
      refine p_Lw_law_count hZ (lw_KK _) hF ?_
      exact next x d c u t a b m' o hI'
    ·
      obtain ⟨m', o', hF, hI'⟩ := z9_l_name (xs := Z.2.2.2.2) (L := Z.2.2.2.1) (I := I) (o := o) hV hL hI4
      refine rn_tabIn (off := 282) 321 (by exact dc_Lw_law 24 rfl) (by decide) (by decide) (by exact rfl) (by exact rfl) ?_
      refine rn_room (ca' := 2 * n + 1) (sa' := 10 * n + 6) (by omega) (by omega) ?_
      refine p_Lw_law_name hZ (lw_KK _) hF ?_
      exact next x d c u t a b m' o' hI'
    ·
      obtain ⟨m', o', hF, hI'⟩ := z9_l_weight (xs := Z.2.2.2.2) (L := Z.2.2.2.1) (I := I) (o := o) hV hL hI4
      refine rn_tabIn (off := 338) 377 (by exact dc_Lw_law 24 rfl) (by decide) (by decide) (by exact rfl) (by exact rfl) ?_
      refine rn_room (ca' := 2 * n + 1) (sa' := 10 * n + 6) (by omega) (by omega) ?_
      refine p_Lw_law_weight hZ (lw_KK _) hF ?_
      exact next x d c u t a b m' o' hI'
    ·
      obtain ⟨m', o', hF, hI'⟩ := z9_l_empty (xs := Z.2.2.2.2) (L := Z.2.2.2.1) (I := I) (o := o) hV hL hI4
      refine rn_tabIn (off := 393) 432 (by exact dc_Lw_law 24 rfl) (by decide) (by decide) (by exact rfl) (by exact rfl) ?_
      refine rn_room (ca' := 2 * n + 1) (sa' := 10 * n + 6) (by omega) (by omega) ?_
      refine p_Lw_law_empty hZ (lw_KK _) hF ?_
      exact next x d c u t a b m' o' hI'
    ·
      obtain ⟨m', o', hF, hI'⟩ := z9_l_unit (xs := Z.2.2.2.2) (L := Z.2.2.2.1) (I := I) (o := o) hV hL hI4
      refine rn_tabIn (off := 448) 487 (by exact dc_Lw_law 24 rfl) (by decide) (by decide) (by exact rfl) (by exact rfl) ?_
      refine rn_room (ca' := 2 * n + 1) (sa' := 10 * n + 6) (by omega) (by omega) ?_
      refine p_Lw_law_unit hZ (lw_KK _) hF ?_
      exact next x d c u t a b m' o' hI'
    ·
      obtain ⟨m', o', hF, hI'⟩ := z9_l_inside (xs := Z.2.2.2.2) (L := Z.2.2.2.1) (I := I) (o := o) hV hL hI4
      refine rn_tabIn (off := 515) 554 (by exact dc_Lw_law 24 rfl) (by decide) (by decide) (by exact rfl) (by exact rfl) ?_
      refine rn_room (ca' := 2 * n + 1) (sa' := 10 * n + 6) (by omega) (by omega) ?_
      refine p_Lw_law_inside hZ (lw_KK _) hF ?_
      exact next x d c u t a b m' o' hI'
    ·
      obtain ⟨m', o', hF, hI'⟩ := z9_l_cheapest (xs := Z.2.2.2.2) (L := Z.2.2.2.1) (I := I) (o := o) hV hL hI4
      refine rn_tabIn (off := 594) 633 (by exact dc_Lw_law 24 rfl) (by decide) (by decide) (by exact rfl) (by exact rfl) ?_
      refine rn_room (ca' := 2 * n + 1) (sa' := 10 * n + 6) (by omega) (by omega) ?_
      refine p_Lw_law_cheapest hZ (lw_KK _) hF ?_
      exact next x d c u t a b m' o' hI'
    ·
      obtain ⟨t', m', o', hF, hI'⟩ := z9_l_build (xs := Z.2.2.2.2) (L := Z.2.2.2.1) (I := I) (o := o) hV hL hI4
      refine rn_tabIn (off := 674) 713 (by exact dc_Lw_law 24 rfl) (by decide) (by decide) (by exact rfl) (by exact rfl) ?_
      refine rn_room (ca' := 2 * n + 1) (sa' := 10 * n + 6) (by omega) (by omega) ?_
      refine p_Lw_law_build hZ (lw_KK _) hF ?_
      exact next x d c u t' a b m' o' hI'
    ·
      obtain ⟨m', o', hF, hI'⟩ := z9_l_node (xs := Z.2.2.2.2) (L := Z.2.2.2.1) (I := I) (o := o) hV hL hI4
      refine rn_tabIn (off := 754) 793 (by exact dc_Lw_law 24 rfl) (by decide) (by decide) (by exact rfl) (by exact rfl) ?_
      refine rn_room (ca' := 2 * n + 1) (sa' := 10 * n + 6) (by omega) (by omega) ?_
      refine p_Lw_law_node hZ (lw_KK _) hF ?_
      exact next x d c u t a b m' o' hI'
    · refine rn_tabOut 861 (by exact dc_Lw_law 24 rfl) (by decide) (by exact rfl) ?_
      exact rn_room (ca' := 2 * n) (sa' := 10 * n) (by omega) (by omega) (next x d c u t a b m o hV)
    · refine rn_tabOut 861 (by exact dc_Lw_law 24 rfl) (by decide) (by exact rfl) ?_
      exact rn_room (ca' := 2 * n) (sa' := 10 * n) (by omega) (by omega) (next x d c u t a b m o hV)
