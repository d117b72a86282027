/-! The core, second part: fields, arrays, new cells, calls, ends. -/
def aG {α : Type} (f : Nat → α) (n : Nat) (i : Int32) : Option α := if i < 0 ∨ n ≤ i.toNatClampNeg then none else some (f i.toNatClampNeg)
def aS {α : Type} (f : Nat → α) (n : Nat) (i : Int32) (v : α) : Option (Nat → α) := if i < 0 ∨ n ≤ i.toNatClampNeg then none else some (fun j => if j = i.toNatClampNeg then v else f j)
/-- a place of an array of arrays -/
def aI (n : Nat) (i : Int32) : Option Nat := if i < 0 ∨ n ≤ i.toNatClampNeg then none else some i.toNatClampNeg
theorem aG_some {α : Type} {f : Nat → α} {n : Nat} {i : Int32} {x : α} (h : aG f n i = some x) : vp_in i n ∧ f i.toNatClampNeg = x := by
  unfold aG at h
  split at h
  next => cases h
  next hn => exact ⟨hn, Option.some.inj h⟩
theorem aS_some {α : Type} {f f1 : Nat → α} {n : Nat} {i : Int32} {v : α} (h : aS f n i v = some f1) : vp_in i n ∧ (fun j => if j = i.toNatClampNeg then v else f j) = f1 := by
  unfold aS at h
  split at h
  next => cases h
  next hn => exact ⟨hn, Option.some.inj h⟩
theorem aI_some {n : Nat} {i : Int32} {x : Nat} (h : aI n i = some x) : vp_in i n ∧ i.toNatClampNeg = x ∧ x < n := by
  unfold aI at h
  split at h
  next => cases h
  next hn => exact ⟨hn, Option.some.inj h, by rw [← Option.some.inj h]; exact Nat.not_le.mp fun q => hn (Or.inr q)⟩
/-- the least 16 bits, as a char array keeps them -/
def rn_ch (x : Int32) : Int32 := x.toUInt32.toUInt16.toUInt32.toInt32
def rn_fit : FieldType → Value → Bool
  | .int, .int _ => true
  | .long, .long _ => true
  | .boolean, .int x => (x == 0) || (x == 1)
  | .object _, .ref _ => true
  | .array _, .ref _ => true
  | _, _ => false
theorem rn_fit_ok {ad : List Nat} {ty : FieldType} {v u : Value} (h : rn_fit ty v = true) (hv : rn_v ad v u) : narrow ty u = u ∧ fits ty u = true := by
  cases v with
  | int x =>
    have hv : u = _ := hv
    subst hv
    cases ty <;> first | (simp [rn_fit] at h; done) | exact ⟨rfl, rfl⟩ | skip
    have h : ((x == 0) || (x == 1)) = true := h
    have h2 : x = 0 ∨ x = 1 := by simpa using h
    rcases h2 with rfl | rfl <;> exact ⟨rfl, rfl⟩
  | long x =>
    have hv : u = _ := hv
    subst hv
    cases ty <;> first | (simp [rn_fit] at h; done) | exact ⟨rfl, rfl⟩
  | ref i =>
    obtain ⟨a, -, rfl⟩ := hv
    cases ty <;> first | (simp [rn_fit] at h; done) | exact ⟨rfl, rfl⟩
  | null => cases ty <;> simp [rn_fit] at h
  | retAddr i => cases ty <;> simp [rn_fit] at h
  | _ => exact hv.elim
def rn_Cl (ci : Nat) (C : String) (T : u_T) (N : Nat) (ty : Nat → FieldType) : Prop := rn_cl[ci]? = some (C, T, N) ∧ (∀ x ∈ u_ws C T N, x ∈ rn_tb) ∧ (∀ k, k < N → parseFieldDescriptor (T k).2.2.1 = some (ty k)) ∧ ∀ a, a < N → ∀ b, b < N → a ≠ b → (T a).2.1 ≠ (T b).2.1
def rn_Lk (own : String) (idx : Nat) (f : String × String × String × Bool) : Prop := Cond.fieldLink own idx f.1 f.2.1 f.2.2.1 ∈ rn_tb ∨ ∃ host, Cond.fieldLinkNest own idx f.1 f.2.1 f.2.2.1 host ∈ rn_tb
def rn_Fd (own : String) (idx ci k : Nat) (fin : Bool) (ty0 : FieldType) : Prop := ∃ (C : String) (T : u_T) (N : Nat) (ty : Nat → FieldType), rn_Cl ci C T N ty ∧ k < N ∧ rn_Lk own idx (T k) ∧ (T k).2.2.2 = fin ∧ ty k = ty0
def rn_Ff (own : String) (idx ci k : Nat) (ty0 : FieldType) : Prop := ∃ (C : String) (T : u_T) (N : Nat) (ty : Nat → FieldType), rn_Cl ci C T N ty ∧ k < N ∧ Cond.fieldLink own idx (T k).1 (T k).2.1 (T k).2.2.1 ∈ rn_tb ∧ (T k).2.2.2 = true ∧ ty k = ty0 ∧ (T k).1 = own
section
variable {Z : rn_Z} {M : rn_M} {pc : Nat} {ls : List (Option Value)} {st : List Value} {w w2 : List rn_C} {ca sa : Nat} {K : rn_K}
theorem rn_getf {idx ci k o : Nat} {fin : Bool} {ty0 : FieldType} {fs : List Value} {v : Value} (hf : rn_Fd M.1.cls idx ci k fin ty0) (hd : decode M.2.1 pc = .ok (.getfield idx, 3)) (ho : w[o]? = some (rn_o ci fs)) (hv : fs[k]? = some v) (kk : Rn Z M (pc + 3) ls (v :: st) w ca sa K) : Rn Z M pc ls (.ref o :: st) w ca sa K := by
  intro p e s m args below meth c H locs cells slots mc ms A ad0 ad ws tys la sta hC hW hL hS hp h1 h2
  obtain ⟨C, T, N, ty, ⟨c1, c2, c3, c4⟩, hk, hlk, -⟩ := hf
  obtain ⟨_, _, rfl, ⟨a, ha, rfl⟩, hS⟩ := hS
  obtain ⟨a', ha', k0, us, h0, hus⟩ := hW.1.2.2 _ _ ho
  cases ha.symm.trans ha'
  obtain ⟨u, hu, hvu⟩ := rn_vs_at hus hv
  have hin : ∀ x ∈ u_ws C T N, x ∈ rn_tb := c2
  rcases hlk with hlk | ⟨host, hlk⟩
  · exact va_get hC.1 hC.2.1 hC.2.2.2.2.1 hin hC.2.2.2.1 hW.2.2.1 hW.2.1 k0 h0 c1 k hk (hC.2.2.2.2.1 _ hlk) (fun _ q => q) hu hd (kk.go hC hW hL ⟨_, _, rfl, hvu, hS⟩ hp h1 h2)
  · exact va_getN hC.1 hC.2.1 hC.2.2.2.2.1 hin hC.2.2.2.1 hW.2.2.1 hW.2.1 k0 h0 c1 k hk (hC.2.2.2.2.1 _ hlk) (fun _ q => q) hu hd (kk.go hC hW hL ⟨_, _, rfl, hvu, hS⟩ hp h1 h2)
theorem rn_putf {idx ci k o : Nat} {ty0 : FieldType} {fs : List Value} {v : Value} (hf : rn_Fd M.1.cls idx ci k false ty0) (hd : decode M.2.1 pc = .ok (.putfield idx, 3)) (ho : w[o]? = some (rn_o ci fs)) (hfit : rn_fit ty0 v = true) (hkl : k < fs.length) (hw2 : w.set o (rn_o ci (fs.set k v)) = w2) (kk : Rn Z M (pc + 3) ls st w2 ca sa K) : Rn Z M pc ls (v :: .ref o :: st) w ca sa K := by
  intro p e s m args below meth c H locs cells slots mc ms A ad0 ad ws tys la sta hC hW hL hS hp h1 h2
  obtain ⟨C, T, N, ty, ⟨c1, c2, c3, c4⟩, hk, hlk, hfin, hty⟩ := hf
  obtain ⟨u, _, rfl, hvu, _, _, rfl, ⟨a, ha, rfl⟩, hS⟩ := hS
  obtain ⟨a', ha', k0, us, h0, hus⟩ := hW.1.2.2 _ _ ho
  cases ha.symm.trans ha'
  subst hw2
  obtain ⟨f1, f2⟩ := rn_fit_ok hfit hvu
  have hlen : k < us.length := by rw [rn_vs_len hus]; exact hkl
  have hpd : parseFieldDescriptor (T k).2.2.1 = some ty0 := by rw [c3 k hk, hty]
  have fin9 : ∀ (H1 : Heap) (locs1 : List Loc), va_P Z.2.1 rn_cl (ws.set k0 (a, .inr (ci, us.set k u))) H1 → va_D A (ws.set k0 (a, .inr (ci, us.set k u))) → va_S A s.heap H1 locs1 → W p Z.1 e (rn_R M mc ms) s m args below meth c H1 locs1 cells slots (K below args s mc ms A ad0) (F0 m (pc + 3) la _) :=
    fun H1 locs1 q1 q2 q3 => kk.go hC ⟨rn_w_set hW.1 ha h0 ⟨k0, us.set k u, List.getElem?_set_self (List.getElem?_eq_some_iff.mp h0).1, rn_vs_set hus hvu⟩, q1, hW.2.2.1, q2, q3⟩ hL hS hp h1 h2
  rcases hlk with hlk | ⟨host, hlk⟩
  · exact va_put hC.1 hC.2.1 hC.2.2.2.2.1 c2 ty c3 c4 hC.2.2.2.1 hW.2.2.1 hW.2.1 hW.2.2.2.1 hW.2.2.2.2 k0 h0 c1 k hk (hC.2.2.2.2.1 _ hlk) (fun _ q => q) hfin hpd f1 f2 hlen hd fin9
  · exact va_putN hC.1 hC.2.1 hC.2.2.2.2.1 c2 ty c3 c4 hC.2.2.2.1 hW.2.2.1 hW.2.1 hW.2.2.2.1 hW.2.2.2.2 k0 h0 c1 k hk (hC.2.2.2.2.1 _ hlk) (fun _ q => q) hfin hpd f1 f2 hlen hd fin9
/-- a final field, in a constructor -/
theorem rn_putF {idx ci k o : Nat} {ty0 : FieldType} {fs : List Value} {v : Value} (hf : rn_Ff M.1.cls idx ci k ty0) (hin2 : M.1.name = "<init>") (hd : decode M.2.1 pc = .ok (.putfield idx, 3)) (ho : w[o]? = some (rn_o ci fs)) (hfit : rn_fit ty0 v = true) (hkl : k < fs.length) (hw2 : w.set o (rn_o ci (fs.set k v)) = w2) (kk : Rn Z M (pc + 3) ls st w2 ca sa K) : Rn Z M pc ls (v :: .ref o :: st) w ca sa K := by
  intro p e s m args below meth c H locs cells slots mc ms A ad0 ad ws tys la sta hC hW hL hS hp h1 h2
  obtain ⟨C, T, N, ty, ⟨c1, c2, c3, c4⟩, hk, hlk, hfin, hty, hdc⟩ := hf
  obtain ⟨u, _, rfl, hvu, _, _, rfl, ⟨a, ha, rfl⟩, hS⟩ := hS
  obtain ⟨a', ha', k0, us, h0, hus⟩ := hW.1.2.2 _ _ ho
  cases ha.symm.trans ha'
  subst hw2
  obtain ⟨f1, f2⟩ := rn_fit_ok hfit hvu
  have hlen : k < us.length := by rw [rn_vs_len hus]; exact hkl
  have hpd : parseFieldDescriptor (T k).2.2.1 = some ty0 := by rw [c3 k hk, hty]
  exact va_putF hC.1 hC.2.1 hC.2.2.2.2.1 c2 ty c3 c4 hC.2.2.2.1 hW.2.2.1 hW.2.1 hW.2.2.2.1 hW.2.2.2.2 k0 h0 c1 k hk (hC.2.2.2.2.1 _ hlk) (fun _ q => q) hfin (hC.2.2.2.2.2.2.2.1.trans hin2) hdc hpd f1 f2 hlen hd
    (fun H1 locs1 q1 q2 q3 => kk.go hC ⟨rn_w_set hW.1 ha h0 ⟨k0, us.set k u, List.getElem?_set_self (List.getElem?_eq_some_iff.mp h0).1, rn_vs_set hus hvu⟩, q1, hW.2.2.1, q2, q3⟩ hL hS hp h1 h2)
theorem rn_iaload {o n : Nat} {f : Nat → Int32} {i : Int32} {x : Int32} (hd : decode M.2.1 pc = .ok (.iaload, 1)) (ho : w[o]? = some (rn_i .int n f)) (h : aG f n i = some x) (kk : Rn Z M (pc + 1) ls (.int x :: st) w ca sa K) : Rn Z M pc ls (.int i :: .ref o :: st) w ca sa K := by
  intro p e s m args below meth c H locs cells slots mc ms A ad0 ad ws tys la sta hC hW hL hS hp h1 h2
  obtain ⟨_, _, rfl, rfl, _, _, rfl, ⟨a, ha, rfl⟩, hS⟩ := hS
  obtain ⟨a', ha', k0, t0, cA, h0, ht⟩ := hW.1.2.2 _ _ ho
  cases ha.symm.trans ha'
  obtain ⟨hin, rfl⟩ := aG_some h
  exact va_iald hC.1 hC.2.1 hW.2.2.1 hW.2.1 k0 t0 h0 ht hin hd (kk.go hC hW hL ⟨_, _, rfl, rfl, hS⟩ hp h1 h2)
theorem rn_caload {o n : Nat} {f : Nat → Int32} {i : Int32} {x : Int32} (hd : decode M.2.1 pc = .ok (.caload, 1)) (ho : w[o]? = some (rn_i .char n f)) (h : aG f n i = some x) (kk : Rn Z M (pc + 1) ls (.int x :: st) w ca sa K) : Rn Z M pc ls (.int i :: .ref o :: st) w ca sa K := by
  intro p e s m args below meth c H locs cells slots mc ms A ad0 ad ws tys la sta hC hW hL hS hp h1 h2
  obtain ⟨_, _, rfl, rfl, _, _, rfl, ⟨a, ha, rfl⟩, hS⟩ := hS
  obtain ⟨a', ha', k0, t0, cA, h0, ht⟩ := hW.1.2.2 _ _ ho
  cases ha.symm.trans ha'
  obtain ⟨hin, rfl⟩ := aG_some h
  exact va_cald hC.1 hC.2.1 hW.2.2.1 hW.2.1 k0 t0 h0 ht hin hd (kk.go hC hW hL ⟨_, _, rfl, rfl, hS⟩ hp h1 h2)
theorem rn_laload {o n : Nat} {f : Nat → Int64} {i : Int32} {x : Int64} (hd : decode M.2.1 pc = .ok (.laload, 1)) (ho : w[o]? = some (rn_l n f)) (h : aG f n i = some x) (kk : Rn Z M (pc + 1) ls (.long x :: st) w ca sa K) : Rn Z M pc ls (.int i :: .ref o :: st) w ca sa K := by
  intro p e s m args below meth c H locs cells slots mc ms A ad0 ad ws tys la sta hC hW hL hS hp h1 h2
  obtain ⟨_, _, rfl, rfl, _, _, rfl, ⟨a, ha, rfl⟩, hS⟩ := hS
  obtain ⟨a', ha', k0, t0, cA, h0, ht⟩ := hW.1.2.2 _ _ ho
  cases ha.symm.trans ha'
  obtain ⟨hin, rfl⟩ := aG_some h
  exact va_lald hC.1 hC.2.1 hW.2.2.1 hW.2.1 k0 t0 h0 ht hin hd (kk.go hC hW hL ⟨_, _, rfl, rfl, hS⟩ hp h1 h2)
theorem rn_aaload {o y : Nat} {ty : FieldType} {l : List (Option Nat)} {i : Int32} (hd : decode M.2.1 pc = .ok (.aaload, 1)) (ho : w[o]? = some (rn_q ty l)) (hin : vp_in i l.length) (hy : l[i.toNatClampNeg]? = some (some y)) (kk : Rn Z M (pc + 1) ls (.ref y :: st) w ca sa K) : Rn Z M pc ls (.int i :: .ref o :: st) w ca sa K := by
  intro p e s m args below meth c H locs cells slots mc ms A ad0 ad ws tys la sta hC hW hL hS hp h1 h2
  obtain ⟨_, _, rfl, rfl, _, _, rfl, ⟨a, ha, rfl⟩, hS⟩ := hS
  obtain ⟨a', ha', k0, t0, cA, g, h0, ht, hrf, hg⟩ := hW.1.2.2 _ _ ho
  cases ha.symm.trans ha'
  obtain ⟨a2, ha2, hg2⟩ := hg _ _ hy
  have hlt : i.toNatClampNeg < l.length := Nat.not_le.mp fun q => hin (Or.inr q)
  exact W.aald (v := .ref a2) (ty := ty) hC.1 hC.2.1 (hW.2.1 k0 _ h0) ((hW.2.2.1.2 t0 _ ht).1 l.length (fun j => va_rf (g j))) hrf (fun q => by cases q) (by show ¬ (i < 0 ∨ (arrV _ _ _).slots.size ≤ _); rw [arrV_size]; exact hin) (by show (arrV _ _ _).slots[_]? = _; rw [arrV_read _ _ hlt, hg2]; rfl) rfl rfl hd (kk.go hC hW hL ⟨_, _, rfl, ⟨a2, ha2, rfl⟩, hS⟩ hp h1 h2)
theorem rn_sload {o : Nat} {i x : Int32} (hd : decode M.2.1 pc = .ok (.iaload, 1)) (ho : w[o]? = some rn_s) (h : aG Z.2.2.2.2 Z.2.2.2.1 i = some x) (kk : Rn Z M (pc + 1) ls (.int x :: st) w ca sa K) : Rn Z M pc ls (.int i :: .ref o :: st) w ca sa K := by
  intro p e s m args below meth c H locs cells slots mc ms A ad0 ad ws tys la sta hC hW hL hS hp h1 h2
  obtain ⟨_, _, rfl, rfl, _, _, rfl, ⟨a, ha, rfl⟩, hS⟩ := hS
  obtain ⟨a', ha', hb⟩ := hW.1.2.2 _ _ ho
  have hb : a' = _ := hb
  cases ha.symm.trans ha'
  subst hb
  obtain ⟨hin, rfl⟩ := aG_some h
  exact va_sld hC.1 hC.2.1 hC.2.2.2.2.2.2.2.2.2.1 hC.2.2.2.2.2.2.2.2.2.2.1 hC.2.2.2.2.2.2.2.2.2.2.2.1 hW.2.2.2.2 hin hd (kk.go hC hW hL ⟨_, _, rfl, rfl, hS⟩ hp h1 h2)
theorem rn_slen {o : Nat} (hd : decode M.2.1 pc = .ok (.arraylength, 1)) (ho : w[o]? = some rn_s) (kk : Rn Z M (pc + 1) ls (.int (Int32.ofNat Z.2.2.2.1) :: st) w ca sa K) : Rn Z M pc ls (.ref o :: st) w ca sa K := by
  intro p e s m args below meth c H locs cells slots mc ms A ad0 ad ws tys la sta hC hW hL hS hp h1 h2
  obtain ⟨_, _, rfl, ⟨a, ha, rfl⟩, hS⟩ := hS
  obtain ⟨a', ha', hb⟩ := hW.1.2.2 _ _ ho
  have hb : a' = _ := hb
  cases ha.symm.trans ha'
  subst hb
  exact va_slen hC.1 hC.2.1 hC.2.2.2.2.2.2.2.2.2.1 hC.2.2.2.2.2.2.2.2.2.2.1 hC.2.2.2.2.2.2.2.2.2.2.2.1 hW.2.2.2.2 hd (kk.go hC hW hL ⟨_, _, rfl, rfl, hS⟩ hp h1 h2)
theorem rn_iastore {o n : Nat} {f f1 : Nat → Int32} {i : Int32} {x : Int32} (hd : decode M.2.1 pc = .ok (.iastore, 1)) (ho : w[o]? = some (rn_i .int n f)) (h : aS f n i (x) = some f1) (hw2 : w.set o (rn_i .int n f1) = w2) (kk : Rn Z M (pc + 1) ls st w2 ca sa K) : Rn Z M pc ls (.int x :: .int i :: .ref o :: st) w ca sa K := by
  intro p e s m args below meth c H locs cells slots mc ms A ad0 ad ws tys la sta hC hW hL hS hp h1 h2
  obtain ⟨_, _, rfl, rfl, _, _, rfl, rfl, _, _, rfl, ⟨a, ha, rfl⟩, hS⟩ := hS
  obtain ⟨a', ha', k0, t0, cA, h0, ht⟩ := hW.1.2.2 _ _ ho
  cases ha.symm.trans ha'
  subst hw2
  obtain ⟨hin, hf1⟩ := aS_some h
  refine va_iast hC.1 hC.2.1 hW.2.2.1 hW.2.1 hW.2.2.2.1 hW.2.2.2.2 k0 t0 h0 ht hin hd (fun H1 locs1 q1 q2 q3 => ?_)
  subst hf1
  exact kk.go hC ⟨rn_w_set hW.1 ha h0 ⟨k0, t0, cA, List.getElem?_set_self (List.getElem?_eq_some_iff.mp h0).1, ht⟩, q1, hW.2.2.1, q2, q3⟩ hL hS hp h1 h2
theorem rn_castore {o n : Nat} {f f1 : Nat → Int32} {i : Int32} {x : Int32} (hd : decode M.2.1 pc = .ok (.castore, 1)) (ho : w[o]? = some (rn_i .char n f)) (h : aS f n i (rn_ch x) = some f1) (hw2 : w.set o (rn_i .char n f1) = w2) (kk : Rn Z M (pc + 1) ls st w2 ca sa K) : Rn Z M pc ls (.int x :: .int i :: .ref o :: st) w ca sa K := by
  intro p e s m args below meth c H locs cells slots mc ms A ad0 ad ws tys la sta hC hW hL hS hp h1 h2
  obtain ⟨_, _, rfl, rfl, _, _, rfl, rfl, _, _, rfl, ⟨a, ha, rfl⟩, hS⟩ := hS
  obtain ⟨a', ha', k0, t0, cA, h0, ht⟩ := hW.1.2.2 _ _ ho
  cases ha.symm.trans ha'
  subst hw2
  obtain ⟨hin, hf1⟩ := aS_some h
  refine va_cast hC.1 hC.2.1 hW.2.2.1 hW.2.1 hW.2.2.2.1 hW.2.2.2.2 k0 t0 h0 ht hin hd (fun H1 locs1 q1 q2 q3 => ?_)
  subst hf1
  exact kk.go hC ⟨rn_w_set hW.1 ha h0 ⟨k0, t0, cA, List.getElem?_set_self (List.getElem?_eq_some_iff.mp h0).1, ht⟩, q1, hW.2.2.1, q2, q3⟩ hL hS hp h1 h2
theorem rn_lastore {o n : Nat} {f f1 : Nat → Int64} {i : Int32} {x : Int64} (hd : decode M.2.1 pc = .ok (.lastore, 1)) (ho : w[o]? = some (rn_l n f)) (h : aS f n i (x) = some f1) (hw2 : w.set o (rn_l n f1) = w2) (kk : Rn Z M (pc + 1) ls st w2 ca sa K) : Rn Z M pc ls (.long x :: .int i :: .ref o :: st) w ca sa K := by
  intro p e s m args below meth c H locs cells slots mc ms A ad0 ad ws tys la sta hC hW hL hS hp h1 h2
  obtain ⟨_, _, rfl, rfl, _, _, rfl, rfl, _, _, rfl, ⟨a, ha, rfl⟩, hS⟩ := hS
  obtain ⟨a', ha', k0, t0, cA, h0, ht⟩ := hW.1.2.2 _ _ ho
  cases ha.symm.trans ha'
  subst hw2
  obtain ⟨hin, hf1⟩ := aS_some h
  refine va_last hC.1 hC.2.1 hW.2.2.1 hW.2.1 hW.2.2.2.1 hW.2.2.2.2 k0 t0 h0 ht hin hd (fun H1 locs1 q1 q2 q3 => ?_)
  subst hf1
  exact kk.go hC ⟨rn_w_set hW.1 ha h0 ⟨k0, t0, cA, List.getElem?_set_self (List.getElem?_eq_some_iff.mp h0).1, ht⟩, q1, hW.2.2.1, q2, q3⟩ hL hS hp h1 h2
theorem rn_last {α : Type} {l : List α} {x : α} : (l ++ [x])[l.length]? = some x := by
  rw [List.getElem?_append_right (Nat.le_refl _), Nat.sub_self]; rfl
theorem rn_addr {ad : List Nat} {b j a : Nat} {tys : List (ClassId × FieldType)} {ws : va_W} (hw : rn_w ad b tys w ws) (hj : ad[j]? = some a) : a = b ∨ ∃ (k : Nat) (x : va_E), ws[k]? = some (a, x) := by
  have hl : j < w.length := by rw [← hw.1]; exact (List.getElem?_eq_some_iff.mp hj).1
  obtain ⟨a', h1, h2⟩ := hw.2.2 j _ (List.getElem?_eq_getElem hl)
  cases hj.symm.trans h1
  revert h2
  generalize w[j] = cell
  intro h2
  match cell, h2 with
  | .inl (ty, n, f), ⟨k, t0, cA, g1, _⟩ => exact Or.inr ⟨k, _, g1⟩
  | .inr (.inl (n, f)), ⟨k, t0, cA, g1, _⟩ => exact Or.inr ⟨k, _, g1⟩
  | .inr (.inr (.inl (ty, l))), ⟨k, t0, cA, g, g1, _⟩ => exact Or.inr ⟨k, _, g1⟩
  | .inr (.inr (.inr (.inl (ci, fs)))), ⟨k, us, g1, _⟩ => exact Or.inr ⟨k, _, g1⟩
  | .inr (.inr (.inr (.inr _))), h => exact Or.inl h
/-- a new cell's address is none of the old ones -/
theorem rn_fresh {ad : List Nat} {b q : Nat} {tys : List (ClassId × FieldType)} {ws : va_W} {A : Nat → Prop} {e : va_E} (hw : rn_w ad b tys w ws) (hD : va_D A (ws ++ [(q, e)])) (hb : ¬ A b) : ∀ (j a : Nat), ad[j]? = some a → a ≠ q := by
  intro j a hj hqa
  subst hqa
  have hA : A a := hD.2 ws.length (a, e) rn_last
  rcases rn_addr hw hj with h | ⟨k, x, hk⟩
  · exact hb (h ▸ hA)
  · have h3 := hD.1 k ws.length (a, x) (a, e) (rn_gl hk) rn_last rfl
    have h4 := (List.getElem?_eq_some_iff.mp hk).1
    omega
def rn_Nw (own : String) (idx ci N : Nat) (fs : List Value) : Prop := ∃ (C : String) (T : u_T) (ty : Nat → FieldType), rn_Cl ci C T N ty ∧ Cond.classLink own idx C ∈ rn_tb ∧ Cond.instantiable C N ∈ rn_tb ∧ Cond.initialized C ∈ rn_tb ∧ (∀ j, j < N → defaultValue (ty j) = vp_V fs j) ∧ ∀ ad, rn_vs ad fs fs
theorem rn_new {idx ci N : Nat} {fs : List Value} (hf : rn_Nw M.1.cls idx ci N fs) (hd : decode M.2.1 pc = .ok (.new idx, 3)) (hw2 : w ++ [rn_o ci fs] = w2) (kk : Rn Z M (pc + 3) ls (.ref w.length :: st) w2 ca sa K) : Rn Z M pc ls st w (ca + 1) (sa + N) K := by
  intro p e s m args below meth c H locs cells slots mc ms A ad0 ad ws tys la sta hC hW hL hS hp h1 h2
  obtain ⟨C, T, ty, ⟨c1, c2, c3, c4⟩, w1, w2', w3, hdef, hfs⟩ := hf
  subst hw2
  refine va_new hC.1 hC.2.1 hC.2.2.2.2.1 c2 ty c3 hC.2.2.2.1 (hC.2.2.2.2.1 _ w1) (hC.2.2.2.2.1 _ w2') (hC.2.2.2.2.1 _ w3) hW.2.2.1 hW.2.1 hW.2.2.2.1 hW.2.2.2.2 hC.2.2.2.2.2.2.2.2.1 c1 hdef (show cells + 1 ≤ mc by omega) (show slots + N ≤ ms by omega) hd (fun q H1 q1 q2 q3 => ?_)
  have hq := rn_fresh hW.1 q2 hC.2.2.2.2.2.2.2.2.2.2.2.1
  have hlen : ad.length = w.length := hW.1.1
  have hpush := rn_w_push (t2 := []) (c1 := rn_o ci fs) (e1 := .inr (ci, fs)) hW.1 hq ⟨ws.length, fs, rn_last, hfs _⟩
  rw [List.append_nil] at hpush
  obtain ⟨l0, hl0⟩ := hp
  exact kk.go hC ⟨hpush, q1, hW.2.2.1, q2, q3⟩ (rn_L_grow hL) ⟨_, _, rfl, ⟨q, by rw [← hlen]; exact rn_last, rfl⟩, rn_vs_grow hS⟩ ⟨l0 ++ [q], by rw [hl0, List.append_assoc]⟩ (by omega) (by omega)
theorem rn_newI {n : Int32} {N : Nat} (hw : Cond.arrayClass .int ∈ rn_tb) (hd : decode M.2.1 pc = .ok (.newarray .int, 2)) (hn : ¬ n < 0) (hN : n.toNatClampNeg = N) (hb : N * componentBytes .int ≤ 536870912) (hw2 : w ++ [rn_i .int N (fun _ => 0)] = w2) (kk : Rn Z M (pc + 2) ls (.ref w.length :: st) w2 ca sa K) : Rn Z M pc ls (.int n :: st) w (ca + 1) (sa + N) K := by
  intro p e s m args below meth c H locs cells slots mc ms A ad0 ad ws tys la sta hC hW hL hS hp h1 h2
  obtain ⟨_, _, rfl, rfl, hS⟩ := hS
  subst hw2
  refine va_newa (a0 := (N, .inl (fun _ => 0))) hC.1 hC.2.1 (atype := .int) (hC.2.2.2.2.1 _ hw) rfl hW.2.2.1 hW.2.1 hW.2.2.2.1 hW.2.2.2.2 hC.2.2.2.2.2.2.2.2.1 (fun cA => rfl) hn hN hb (show cells + 1 ≤ mc by omega) (show slots + N ≤ ms by omega) hd (fun q cA H1 q0 q1 q2 q3 => ?_)
  have hq := rn_fresh hW.1 q2 hC.2.2.2.2.2.2.2.2.2.2.2.1
  have hlen : ad.length = w.length := hW.1.1
  have hpush := rn_w_push (t2 := [(cA, .int)]) (c1 := rn_i .int N (fun _ => 0)) (e1 := .inl (cA, (N, .inl (fun _ => 0)))) hW.1 hq ⟨ws.length, tys.length, cA, rn_last, rn_last⟩
  obtain ⟨l0, hl0⟩ := hp
  exact kk.go hC ⟨hpush, q1, q0, q2, q3⟩ (rn_L_grow hL) ⟨_, _, rfl, ⟨q, by rw [← hlen]; exact rn_last, rfl⟩, rn_vs_grow hS⟩ ⟨l0 ++ [q], by rw [hl0, List.append_assoc]⟩ (by omega) (by omega)
theorem rn_newC {n : Int32} {N : Nat} (hw : Cond.arrayClass .char ∈ rn_tb) (hd : decode M.2.1 pc = .ok (.newarray .char, 2)) (hn : ¬ n < 0) (hN : n.toNatClampNeg = N) (hb : N * componentBytes .char ≤ 536870912) (hw2 : w ++ [rn_i .char N (fun _ => 0)] = w2) (kk : Rn Z M (pc + 2) ls (.ref w.length :: st) w2 ca sa K) : Rn Z M pc ls (.int n :: st) w (ca + 1) (sa + N) K := by
  intro p e s m args below meth c H locs cells slots mc ms A ad0 ad ws tys la sta hC hW hL hS hp h1 h2
  obtain ⟨_, _, rfl, rfl, hS⟩ := hS
  subst hw2
  refine va_newa (a0 := (N, .inl (fun _ => 0))) hC.1 hC.2.1 (atype := .char) (hC.2.2.2.2.1 _ hw) rfl hW.2.2.1 hW.2.1 hW.2.2.2.1 hW.2.2.2.2 hC.2.2.2.2.2.2.2.2.1 (fun cA => rfl) hn hN hb (show cells + 1 ≤ mc by omega) (show slots + N ≤ ms by omega) hd (fun q cA H1 q0 q1 q2 q3 => ?_)
  have hq := rn_fresh hW.1 q2 hC.2.2.2.2.2.2.2.2.2.2.2.1
  have hlen : ad.length = w.length := hW.1.1
  have hpush := rn_w_push (t2 := [(cA, .char)]) (c1 := rn_i .char N (fun _ => 0)) (e1 := .inl (cA, (N, .inl (fun _ => 0)))) hW.1 hq ⟨ws.length, tys.length, cA, rn_last, rn_last⟩
  obtain ⟨l0, hl0⟩ := hp
  exact kk.go hC ⟨hpush, q1, q0, q2, q3⟩ (rn_L_grow hL) ⟨_, _, rfl, ⟨q, by rw [← hlen]; exact rn_last, rfl⟩, rn_vs_grow hS⟩ ⟨l0 ++ [q], by rw [hl0, List.append_assoc]⟩ (by omega) (by omega)
theorem rn_newL {n : Int32} {N : Nat} (hw : Cond.arrayClass .long ∈ rn_tb) (hd : decode M.2.1 pc = .ok (.newarray .long, 2)) (hn : ¬ n < 0) (hN : n.toNatClampNeg = N) (hb : N * componentBytes .long ≤ 536870912) (hw2 : w ++ [rn_l N (fun _ => 0)] = w2) (kk : Rn Z M (pc + 2) ls (.ref w.length :: st) w2 ca sa K) : Rn Z M pc ls (.int n :: st) w (ca + 1) (sa + N) K := by
  intro p e s m args below meth c H locs cells slots mc ms A ad0 ad ws tys la sta hC hW hL hS hp h1 h2
  obtain ⟨_, _, rfl, rfl, hS⟩ := hS
  subst hw2
  refine va_newa (a0 := (N, .inr (.inl (fun _ => 0)))) hC.1 hC.2.1 (atype := .long) (hC.2.2.2.2.1 _ hw) rfl hW.2.2.1 hW.2.1 hW.2.2.2.1 hW.2.2.2.2 hC.2.2.2.2.2.2.2.2.1 (fun cA => rfl) hn hN hb (show cells + 1 ≤ mc by omega) (show slots + N ≤ ms by omega) hd (fun q cA H1 q0 q1 q2 q3 => ?_)
  have hq := rn_fresh hW.1 q2 hC.2.2.2.2.2.2.2.2.2.2.2.1
  have hlen : ad.length = w.length := hW.1.1
  have hpush := rn_w_push (t2 := [(cA, .long)]) (c1 := rn_l N (fun _ => 0)) (e1 := .inl (cA, (N, .inr (.inl (fun _ => 0))))) hW.1 hq ⟨ws.length, tys.length, cA, rn_last, rn_last⟩
  obtain ⟨l0, hl0⟩ := hp
  exact kk.go hC ⟨hpush, q1, q0, q2, q3⟩ (rn_L_grow hL) ⟨_, _, rfl, ⟨q, by rw [← hlen]; exact rn_last, rfl⟩, rn_vs_grow hS⟩ ⟨l0 ++ [q], by rw [hl0, List.append_assoc]⟩ (by omega) (by omega)
/-- Object.<init> -/
theorem rn_objInit {idx : Nat} {v : Nat} (hl : Cond.methodLink M.1.cls idx Lib.objectInit ∈ rn_tb) (hi : Cond.instanceMethod Lib.objectInit ∈ rn_tb) (hc : Cond.code Lib.objectInit ⟨#[0xb1]⟩ 1 none ∈ rn_tb) (hd : decode M.2.1 pc = .ok (.invokespecial idx, 3)) (hf : 1 ≤ M.2.2.2.2.1) (hr : (st.map fun v => v.category).sum + 12 ≤ M.2.2.2.2.2) (kk : Rn Z M (pc + 3) ls st w ca sa K) : Rn Z M pc ls (.ref v :: st) w ca sa K := by
  intro p e s m args below meth c H locs cells slots mc ms A ad0 ad ws tys la sta hC hW hL hS hp h1 h2
  obtain ⟨_, us, rfl, ⟨a, ha, rfl⟩, hS⟩ := hS
  have hcat := rn_vs_cats hS
  exact W.objInit hC.1 hC.2.1 hC.2.2.2.1 (hC.2.2.2.2.1 _ hl) (hC.2.2.2.2.1 _ hi) (hC.2.2.2.2.1 _ hc) rfl (hL.1.trans hC.2.2.1.symm) rfl hd hf (show 2 * 0 + (us.map fun v => v.category).sum + 12 ≤ M.2.2.2.2.2 by rw [hcat]; omega) (kk.go hC hW hL hS hp h1 h2)
/-! ends -/
theorem rn_end {p : Program} {s t : State} {H : Heap} {locs : List Loc} {args : Array Value} {m : MethodId} {meth : Method} {c : Code} {A : Nat → Prop} {ad0 ad : List Nat} {ws : va_W} {tys : List (ClassId × FieldType)} {r v : Option Value} {a : Array Value} (hW : rn_Wd Z A s H locs ad tys w ws) (hp : ∃ l, ad = ad0 ++ l) (hr : rn_oo ad r v) (ht : t.heap = H) (hw : s.WarmedH t.vm) : rn_Q Z A ad0 r w a s (.returned v) t :=
  ⟨⟨ad, ws, tys, v, hp, rfl, hr, hW.1, by rw [ht]; exact hW.2.1, va_K.moved hw.alike hW.2.2.1, hW.2.2.2.1⟩, hW.2.2.2.2.F ht⟩
theorem rn_ireturn {x : Int32} (hd : decode M.2.1 pc = .ok (.ireturn, 1)) (hr : M.2.2.2.1 = some .int) : Rn Z M pc ls [.int x] w ca sa (rn_Ret Z (some (.int x)) w) := by
  intro p e s m args below meth c H locs cells slots mc ms A ad0 ad ws tys la sta hC hW hL hS hp h1 h2
  obtain ⟨_, _, rfl, rfl, hS⟩ := hS
  have hS : _ = _ := hS
  subst hS
  refine W.widen (k := mc) (n := ms) (by omega) (by omega) ?_
  exact W.iret (v := x) hC.1 hC.2.1 (hC.2.2.2.2.2.2.1.trans hr) (fun t ht hw => rn_end (r := some (.int x)) (p := p) (m := m) (meth := meth) (c := c) (args := args) hW hp ⟨_, rfl, rfl⟩ ht hw) hW.2.2.2.2.2.2 hd hC.2.2.2.2.2.1
theorem rn_zreturn {x : Int32} (hd : decode M.2.1 pc = .ok (.ireturn, 1)) (hr : M.2.2.2.1 = some .boolean) (hx : x = 0 ∨ x = 1) : Rn Z M pc ls [.int x] w ca sa (rn_Ret Z (some (.int x)) w) := by
  intro p e s m args below meth c H locs cells slots mc ms A ad0 ad ws tys la sta hC hW hL hS hp h1 h2
  obtain ⟨_, _, rfl, rfl, hS⟩ := hS
  have hS : _ = _ := hS
  subst hS
  refine W.widen (k := mc) (n := ms) (by omega) (by omega) ?_
  exact W.zret (v := x) (ty := .boolean) hC.1 hC.2.1 (hC.2.2.2.2.2.2.1.trans hr) (by rcases hx with rfl | rfl <;> rfl) (fun t ht hw => rn_end (r := some (.int x)) (p := p) (m := m) (meth := meth) (c := c) (args := args) hW hp ⟨_, rfl, rfl⟩ ht hw) hW.2.2.2.2.2.2 hd hC.2.2.2.2.2.1
theorem rn_lreturn {x : Int64} (hd : decode M.2.1 pc = .ok (.lreturn, 1)) (hr : M.2.2.2.1 = some .long) : Rn Z M pc ls [.long x] w ca sa (rn_Ret Z (some (.long x)) w) := by
  intro p e s m args below meth c H locs cells slots mc ms A ad0 ad ws tys la sta hC hW hL hS hp h1 h2
  obtain ⟨_, _, rfl, rfl, hS⟩ := hS
  have hS : _ = _ := hS
  subst hS
  refine W.widen (k := mc) (n := ms) (by omega) (by omega) ?_
  exact W.lret (v := x) hC.1 hC.2.1 (hC.2.2.2.2.2.2.1.trans hr) (fun t ht hw => rn_end (r := some (.long x)) (p := p) (m := m) (meth := meth) (c := c) (args := args) hW hp ⟨_, rfl, rfl⟩ ht hw) hW.2.2.2.2.2.2 hd hC.2.2.2.2.2.1
theorem rn_return (hd : decode M.2.1 pc = .ok (.return_, 1)) (hr : M.2.2.2.1 = none) : Rn Z M pc ls [] w ca sa (rn_Ret Z none w) := by
  intro p e s m args below meth c H locs cells slots mc ms A ad0 ad ws tys la sta hC hW hL hS hp h1 h2
  have hS : _ = _ := hS
  subst hS
  refine W.widen (k := mc) (n := ms) (by omega) (by omega) ?_
  exact W.vret hC.1 hC.2.1 (hC.2.2.2.2.2.2.1.trans hr) (fun t ht hw => rn_end (r := none) (p := p) (m := m) (meth := meth) (c := c) (args := args) hW hp (show rn_oo ad none none from rfl) ht hw) hW.2.2.2.2.2.2 hd hC.2.2.2.2.2.1
end
