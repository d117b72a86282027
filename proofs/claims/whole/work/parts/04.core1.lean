/-! The core: worlds of mine (cells by number), the judgement Rn ('from here the machine comes to K'), a rule an instruction, a call by its contract. -/
abbrev rn_C : Type := (FieldType × Nat × (Nat → Int32)) ⊕ (Nat × (Nat → Int64)) ⊕ (FieldType × List (Option Nat)) ⊕ (Nat × List Value) ⊕ Unit
/-- ints (or chars), longs, references, an object, the script -/
abbrev rn_i (ty : FieldType) (n : Nat) (f : Nat → Int32) : rn_C := .inl (ty, n, f)
abbrev rn_l (n : Nat) (f : Nat → Int64) : rn_C := .inr (.inl (n, f))
abbrev rn_q (ty : FieldType) (l : List (Option Nat)) : rn_C := .inr (.inr (.inl (ty, l)))
abbrev rn_o (ci : Nat) (fs : List Value) : rn_C := .inr (.inr (.inr (.inl (ci, fs))))
abbrev rn_s : rn_C := .inr (.inr (.inr (.inr ())))
/-- a value of mine (a reference is the number of a cell; retAddr stands for some reference, nobody asks which) and the machine's -/
def rn_v (ad : List Nat) : Value → Value → Prop
  | .int x, u => u = .int x
  | .long x, u => u = .long x
  | .null, u => u = .null
  | .ref i, u => ∃ a, ad[i]? = some a ∧ u = .ref a
  | .retAddr _, u => ∃ a : Nat, u = .ref a
  | _, _ => False
def rn_vs (ad : List Nat) : List Value → List Value → Prop
  | [], us => us = []
  | v :: vs, us => ∃ u us', us = u :: us' ∧ rn_v ad v u ∧ rn_vs ad vs us'
def rn_r (ad : List Nat) : Option Nat → Option Nat → Prop
  | none, y => y = none
  | some i, y => ∃ a, ad[i]? = some a ∧ y = some a
def rn_c (ad : List Nat) (b : Nat) (tys : List (ClassId × FieldType)) (ws : va_W) (a : Nat) : rn_C → Prop
  | .inl (ty, n, f) => ∃ (k t0 : Nat) (cA : ClassId), ws[k]? = some (a, .inl (cA, n, .inl f)) ∧ tys[t0]? = some (cA, ty)
  | .inr (.inl (n, f)) => ∃ (k t0 : Nat) (cA : ClassId), ws[k]? = some (a, .inl (cA, n, .inr (.inl f))) ∧ tys[t0]? = some (cA, .long)
  | .inr (.inr (.inl (ty, l))) => ∃ (k t0 : Nat) (cA : ClassId) (g : Nat → Option Nat), ws[k]? = some (a, .inl (cA, l.length, .inr (.inr (.inr (.inr g))))) ∧ tys[t0]? = some (cA, ty) ∧ ty.isReference = true ∧ ∀ (j : Nat) (x : Option Nat), l[j]? = some x → rn_r ad x (g j)
  | .inr (.inr (.inr (.inl (ci, fs)))) => ∃ (k : Nat) (us : List Value), ws[k]? = some (a, .inr (ci, us)) ∧ rn_vs ad fs us
  | .inr (.inr (.inr (.inr _))) => a = b
def rn_w (ad : List Nat) (b : Nat) (tys : List (ClassId × FieldType)) (w : List rn_C) (ws : va_W) : Prop := ad.length = w.length ∧ (∀ (i j a : Nat), ad[i]? = some a → ad[j]? = some a → i = j) ∧ ∀ (i : Nat) (c : rn_C), w[i]? = some c → ∃ a, ad[i]? = some a ∧ rn_c ad b tys ws a c
theorem rn_gl {α : Type} {l m : List α} {i : Nat} {x : α} (h : l[i]? = some x) : (l ++ m)[i]? = some x := by
  rw [List.getElem?_append_left (List.getElem?_eq_some_iff.mp h).1]; exact h
theorem rn_v_grow {ad l : List Nat} {v u : Value} (h : rn_v ad v u) : rn_v (ad ++ l) v u := by
  cases v <;> first | exact h | (obtain ⟨a, h1, h2⟩ := h; exact ⟨a, rn_gl h1, h2⟩)
theorem rn_vs_grow {ad l : List Nat} : ∀ {vs us : List Value}, rn_vs ad vs us → rn_vs (ad ++ l) vs us
  | [], _, h => h
  | _ :: _, _, ⟨u, us', h1, h2, h3⟩ => ⟨u, us', h1, rn_v_grow h2, rn_vs_grow h3⟩
theorem rn_r_grow {ad l : List Nat} {x y : Option Nat} (h : rn_r ad x y) : rn_r (ad ++ l) x y := by
  cases x with
  | none => exact h
  | some i => obtain ⟨a, h1, h2⟩ := h; exact ⟨a, rn_gl h1, h2⟩
theorem rn_vs_app {ad : List Nat} : ∀ {xs ys us : List Value}, rn_vs ad (xs ++ ys) us → ∃ u1 u2, us = u1 ++ u2 ∧ rn_vs ad xs u1 ∧ rn_vs ad ys u2
  | [], _, us, h => ⟨[], us, rfl, rfl, h⟩
  | _ :: _, _, _, ⟨u, _, h1, h2, h3⟩ => by
    obtain ⟨u1, u2, e, g1, g2⟩ := rn_vs_app h3
    exact ⟨u :: u1, u2, by rw [h1, e]; rfl, ⟨u, u1, rfl, h2, g1⟩, g2⟩
theorem rn_vs_cat {ad : List Nat} : ∀ {xs ys u1 u2 : List Value}, rn_vs ad xs u1 → rn_vs ad ys u2 → rn_vs ad (xs ++ ys) (u1 ++ u2)
  | [], _, _, _, h, g => by
    have h : _ = _ := h
    subst h
    exact g
  | _ :: _, _, _, _, ⟨u, us', h1, h2, h3⟩, g => by
    subst h1
    exact ⟨u, us' ++ _, rfl, h2, rn_vs_cat h3 g⟩
theorem rn_vs_rev {ad : List Nat} : ∀ {xs us : List Value}, rn_vs ad xs us → rn_vs ad xs.reverse us.reverse
  | [], _, h => by
    have h : _ = _ := h
    subst h
    rfl
  | x :: xs, _, ⟨u, us', h1, h2, h3⟩ => by
    subst h1
    rw [List.reverse_cons, List.reverse_cons]
    exact rn_vs_cat (rn_vs_rev h3) ⟨u, [], rfl, h2, rfl⟩
theorem rn_vs_len {ad : List Nat} : ∀ {xs us : List Value}, rn_vs ad xs us → us.length = xs.length
  | [], _, h => by
    have h : _ = _ := h
    subst h
    rfl
  | x :: xs, _, ⟨u, us', h1, h2, h3⟩ => by
    subst h1
    rw [List.length_cons, List.length_cons, rn_vs_len h3]
theorem rn_v_cat {ad : List Nat} {v u : Value} (h : rn_v ad v u) : u.category = v.category := by
  cases v with
  | int x => have h : u = _ := h; subst h; rfl
  | long x => have h : u = _ := h; subst h; rfl
  | null => have h : u = _ := h; subst h; rfl
  | ref i => obtain ⟨a, -, rfl⟩ := h; rfl
  | retAddr i => obtain ⟨a, rfl⟩ := h; rfl
  | _ => exact h.elim
theorem rn_vs_cats {ad : List Nat} : ∀ {xs us : List Value}, rn_vs ad xs us → (us.map fun v => v.category).sum = (xs.map fun v => v.category).sum
  | [], _, h => by
    have h : _ = _ := h
    subst h
    rfl
  | x :: xs, _, ⟨u, us', h1, h2, h3⟩ => by
    subst h1
    rw [List.map_cons, List.map_cons, List.sum_cons, List.sum_cons, rn_v_cat h2, rn_vs_cats h3]
theorem rn_vs_at {ad : List Nat} : ∀ {xs us : List Value} {k : Nat} {v : Value}, rn_vs ad xs us → xs[k]? = some v → ∃ u, us[k]? = some u ∧ rn_v ad v u
  | [], _, k, v, h, hk => by simp at hk
  | x :: xs, _, 0, v, ⟨u, us', h1, h2, h3⟩, hk => by
    subst h1
    rw [List.getElem?_cons_zero] at hk
    cases hk
    exact ⟨u, by rw [List.getElem?_cons_zero], h2⟩
  | x :: xs, _, k + 1, v, ⟨u, us', h1, h2, h3⟩, hk => by
    subst h1
    rw [List.getElem?_cons_succ] at hk
    obtain ⟨y, g1, g2⟩ := rn_vs_at h3 hk
    exact ⟨y, by rw [List.getElem?_cons_succ]; exact g1, g2⟩
theorem rn_vs_set {ad : List Nat} : ∀ {xs us : List Value} {k : Nat} {v u : Value}, rn_vs ad xs us → rn_v ad v u → rn_vs ad (xs.set k v) (us.set k u)
  | [], _, k, v, u, h, hk => by
    have h : _ = _ := h
    subst h
    rfl
  | x :: xs, _, 0, v, u, ⟨u0, us', h1, h2, h3⟩, hk => by
    subst h1
    exact ⟨u, us', rfl, hk, h3⟩
  | x :: xs, _, k + 1, v, u, ⟨u0, us', h1, h2, h3⟩, hk => by
    subst h1
    exact ⟨u0, us'.set k u, rfl, h2, rn_vs_set h3 hk⟩
theorem rn_c_set {ad : List Nat} {b : Nat} {tys : List (ClassId × FieldType)} {ws : va_W} {a a0 k0 : Nat} {c : rn_C} {e0 e1 : va_E} (h : rn_c ad b tys ws a c) (h0 : ws[k0]? = some (a0, e0)) (hne : a ≠ a0) : rn_c ad b tys (ws.set k0 (a0, e1)) a c := by
  have key : ∀ (k : Nat) (e : va_E), ws[k]? = some (a, e) → (ws.set k0 (a0, e1))[k]? = some (a, e) := by
    intro k e hk
    have hne2 : k0 ≠ k := by
      intro q
      subst q
      rw [h0] at hk
      cases hk
      exact hne rfl
    rw [List.getElem?_set_ne hne2]
    exact hk
  match c, h with
  | .inl (ty, n, f), ⟨k, t0, cA, h1, h2⟩ => exact ⟨k, t0, cA, key _ _ h1, h2⟩
  | .inr (.inl (n, f)), ⟨k, t0, cA, h1, h2⟩ => exact ⟨k, t0, cA, key _ _ h1, h2⟩
  | .inr (.inr (.inl (ty, l))), ⟨k, t0, cA, g, h1, h2⟩ => exact ⟨k, t0, cA, g, key _ _ h1, h2⟩
  | .inr (.inr (.inr (.inl (ci, fs)))), ⟨k, us, h1, h2⟩ => exact ⟨k, us, key _ _ h1, h2⟩
  | .inr (.inr (.inr (.inr _))), h => exact h
theorem rn_w_set {ad : List Nat} {b : Nat} {tys : List (ClassId × FieldType)} {w : List rn_C} {ws : va_W} {i a0 k0 : Nat} {c1 : rn_C} {e0 e1 : va_E} (h : rn_w ad b tys w ws) (ha : ad[i]? = some a0) (h0 : ws[k0]? = some (a0, e0)) (hc : rn_c ad b tys (ws.set k0 (a0, e1)) a0 c1) : rn_w ad b tys (w.set i c1) (ws.set k0 (a0, e1)) := by
  refine ⟨by rw [List.length_set]; exact h.1, h.2.1, fun j c hj => ?_⟩
  by_cases hji : i = j
  · subst hji
    have hl : i < w.length := by rw [← h.1]; exact (List.getElem?_eq_some_iff.mp ha).1
    rw [List.getElem?_set_self hl] at hj
    cases hj
    exact ⟨a0, ha, hc⟩
  · rw [List.getElem?_set_ne hji] at hj
    obtain ⟨a, g1, g2⟩ := h.2.2 j c hj
    exact ⟨a, g1, rn_c_set g2 h0 (fun q => hji (h.2.1 i j a0 ha (by rw [← q]; exact g1)))⟩
theorem rn_c_grow {ad l : List Nat} {b : Nat} {tys t2 : List (ClassId × FieldType)} {ws w2 : va_W} {a : Nat} {c : rn_C} (h : rn_c ad b tys ws a c) : rn_c (ad ++ l) b (tys ++ t2) (ws ++ w2) a c := by
  match c, h with
  | .inl (ty, n, f), ⟨k, t0, cA, h1, h2⟩ => exact ⟨k, t0, cA, rn_gl h1, rn_gl h2⟩
  | .inr (.inl (n, f)), ⟨k, t0, cA, h1, h2⟩ => exact ⟨k, t0, cA, rn_gl h1, rn_gl h2⟩
  | .inr (.inr (.inl (ty, l))), ⟨k, t0, cA, g, h1, h2, h3, h4⟩ => exact ⟨k, t0, cA, g, rn_gl h1, rn_gl h2, h3, fun j x hj => rn_r_grow (h4 j x hj)⟩
  | .inr (.inr (.inr (.inl (ci, fs)))), ⟨k, us, h1, h2⟩ => exact ⟨k, us, rn_gl h1, rn_vs_grow h2⟩
  | .inr (.inr (.inr (.inr _))), h => exact h
theorem rn_w_push {ad : List Nat} {b q : Nat} {tys t2 : List (ClassId × FieldType)} {w : List rn_C} {ws : va_W} {c1 : rn_C} {e1 : va_E} (h : rn_w ad b tys w ws) (hq : ∀ (j a : Nat), ad[j]? = some a → a ≠ q) (hc : rn_c (ad ++ [q]) b (tys ++ t2) (ws ++ [(q, e1)]) q c1) : rn_w (ad ++ [q]) b (tys ++ t2) (w ++ [c1]) (ws ++ [(q, e1)]) := by
  have key : ∀ (i a : Nat), (ad ++ [q])[i]? = some a → (i < ad.length ∧ ad[i]? = some a) ∨ (i = ad.length ∧ a = q) := by
    intro i a hi
    by_cases hl : i < ad.length
    · rw [List.getElem?_append_left hl] at hi
      exact Or.inl ⟨hl, hi⟩
    · rw [List.getElem?_append_right (by omega)] at hi
      have hz : i - ad.length < 1 := (List.getElem?_eq_some_iff.mp hi).1
      have e0 : i - ad.length = 0 := by omega
      rw [e0] at hi
      cases hi
      exact Or.inr ⟨by omega, rfl⟩
  refine ⟨by rw [List.length_append, List.length_append, h.1]; rfl, fun i j a hi hj => ?_, fun i c hi => ?_⟩
  · rcases key i a hi with ⟨h1, g1⟩ | ⟨h1, g1⟩ <;> rcases key j a hj with ⟨h2, g2⟩ | ⟨h2, g2⟩
    · exact h.2.1 i j a g1 g2
    · exact absurd g2 (hq i a g1)
    · exact absurd g1 (hq j a g2)
    · rw [h1, h2]
  · by_cases hl : i < w.length
    · rw [List.getElem?_append_left hl] at hi
      obtain ⟨a, g1, g2⟩ := h.2.2 i c hi
      exact ⟨a, rn_gl g1, rn_c_grow g2⟩
    · rw [List.getElem?_append_right (by omega)] at hi
      have hz : i - w.length < 1 := (List.getElem?_eq_some_iff.mp hi).1
      have e0 : i - w.length = 0 := by omega
      rw [e0] at hi
      cases hi
      have e1 : i = ad.length := by rw [h.1]; omega
      exact ⟨q, by rw [e1, List.getElem?_append_right (Nat.le_refl _), Nat.sub_self]; rfl, hc⟩
/-! what a throw needs of the heap: two statics of Throwable, and the texts -/
def rn_Ls (C n d : String) (A : Nat → Prop) (U : State) (H : Heap) : Prop := ∃ (c : ClassId) (k : Class) (i : Nat) (f : Field) (a : Nat) (cell : Cell), U.vm.findClass C = some c ∧ U.fieldFound? C n d = some (c, k, i, f) ∧ f.isStatic = true ∧ k.statics = some a ∧ H[a]? = some cell ∧ cell.vm.isStatics = true ∧ cell.cls = c ∧ f.slot < cell.slots.size ∧ k.staticTypes[f.slot]? = some f.type ∧ ¬ A a
def rn_Th (A : Nat → Prop) (U : State) (H : Heap) : Prop := (∀ z ∈ rn_zs, va_Zq z.1 z.2.1 z.2.2 A U H ∧ rn_Ls z.1 z.2.1 z.2.2 A U H) ∧ (∀ z ∈ rn_strs, ∃ a, vk_R z.1 z.2.1 z.2.2 a U) ∧ ∀ z ∈ rn_ncs, va_Nc z.1 z.2 U
theorem rn_Th.alike {A : Nat → Prop} {s U : State} {H : Heap} (hvm : s.vm.Alike U.vm) {z : String × String × String} (h : va_Zq z.1 z.2.1 z.2.2 A s H ∧ rn_Ls z.1 z.2.1 z.2.2 A s H) : va_Zq z.1 z.2.1 z.2.2 A U H ∧ rn_Ls z.1 z.2.1 z.2.2 A U H := by
  obtain ⟨h0, c, k, i, f, a, cell, h1, h2, h3, h4, h5, h6, h7, h8, h9, h10⟩ := h
  obtain ⟨k', hi', he⟩ := State.fieldFound?_setVm hvm h2
  exact ⟨va_Zq.moved hvm h0, c, k', i, f, a, cell, by rw [hvm.findClass]; exact h1, hi', h3, by rw [he]; exact h4, h5, h6, h7, h8, by rw [he]; exact h9, h10⟩
theorem rn_Th.warm {A : Nat → Prop} {s U : State} {H : Heap} (hW : s.WarmedH U.vm) (h : rn_Th A s H) : rn_Th A U H := ⟨fun z hz => rn_Th.alike hW.alike (h.1 z hz), fun z hz => by
  obtain ⟨a, ha⟩ := h.2.1 z hz
  exact ⟨a, vk_R.warm hW ha⟩, fun z hz => va_Nc.moved hW.alike (h.2.2 z hz)⟩
theorem rn_Th.same {A : Nat → Prop} {s U : State} {H : Heap} (hv : U.vm = s.vm) (h : rn_Th A s H) : rn_Th A U H := ⟨fun z hz => rn_Th.alike (by rw [hv]; exact Vm.Alike.refl s.vm) (h.1 z hz), fun z hz => by
  obtain ⟨a, ha⟩ := h.2.1 z hz
  exact ⟨a, vk_R.same hv ha⟩, fun z hz => va_Nc.moved (by rw [hv]; exact Vm.Alike.refl s.vm) (h.2.2 z hz)⟩
theorem rn_Th.kept {A : Nat → Prop} {U : State} {H H1 : Heap} (h : rn_Th A U H) (hq : ∀ a : Nat, a < H.size → ¬ A a → H1[a]? = H[a]?) : rn_Th A U H1 := ⟨fun z hz => by
  obtain ⟨h0, c, k, i, f, a, cell, h1, h2, h3, h4, h5, h6, h7, h8, h9, h10⟩ := h.1 z hz
  exact ⟨va_Zq.kept h0 hq, c, k, i, f, a, cell, h1, h2, h3, h4, by rw [hq a (Array.getElem?_eq_some_iff.mp h5).1 h10]; exact h5, h6, h7, h8, h9, h10⟩, h.2⟩
theorem rn_Th.narrow {A B : Nat → Prop} {U : State} {H : Heap} (h : rn_Th A U H) (hAB : ∀ q, B q → A q) : rn_Th B U H := ⟨fun z hz => by
  obtain ⟨h0, c, k, i, f, a, cell, h1, h2, h3, h4, h5, h6, h7, h8, h9, h10⟩ := h.1 z hz
  exact ⟨va_Zq.narrow h0 hAB, c, k, i, f, a, cell, h1, h2, h3, h4, h5, h6, h7, h8, h9, fun z => h10 (hAB _ z)⟩, h.2⟩
/-- the launch, the classes' numbers, the script (its address, length, values) -/
abbrev rn_Z : Type := Launch × va_G × Nat × Nat × (Nat → Int32)
/-- a method: name, code, locals, return type; how many frames and words it may nest -/
abbrev rn_M : Type := MethodName × ByteArray × Nat × Option FieldType × Nat × Nat
def rn_ws (M : rn_M) : List Cond := .code M.1 M.2.1 M.2.2.1 M.2.2.2.1 :: rn_tb
def rn_R (M : rn_M) (mc ms : Nat) : Room := { frames := M.2.2.2.2.1, cells := mc, slots := ms, locals := M.2.2.2.2.2 }
def rn_X (Z : rn_Z) (M : rn_M) (p : Program) (s : State) (m : MethodId) (args : Array Value) (meth : Method) (c : Code) (A : Nat → Prop) : Prop :=
  p.tables.exec = Jvm.exec ∧ c.code = M.2.1 ∧ c.maxLocals = M.2.2.1 ∧ s.vm.findClass M.1.cls = some m.cls ∧ (∀ w ∈ rn_tb, w.before args s = true) ∧ meth.locks = false ∧ meth.sig.returnType = M.2.2.2.1 ∧ meth.name = M.1.name ∧ (∀ q : Nat, s.heap.size ≤ q → A q) ∧ va_X Z.2.2.1 Z.2.2.2.1 Z.2.2.2.2 s s.heap ∧ Z.2.2.1 < s.heap.size ∧ ¬ A Z.2.2.1 ∧ rn_Th A s s.heap ∧ s.methodNamed? M.1 = some m
def rn_Wd (Z : rn_Z) (A : Nat → Prop) (s : State) (H : Heap) (locs : List Loc) (ad : List Nat) (tys : List (ClassId × FieldType)) (w : List rn_C) (ws : va_W) : Prop :=
  rn_w ad Z.2.2.1 tys w ws ∧ va_P Z.2.1 rn_cl ws H ∧ va_K Z.2.1 rn_cl tys s ∧ va_D A ws ∧ va_S A s.heap H locs
def rn_L (ad : List Nat) (la : Array Slot) (n : Nat) (ls : List (Option Value)) : Prop := la.size = n ∧ lv_wf la ∧ ∀ (i : Nat) (v : Value), ls[i]? = some (some v) → ∃ u, rn_v ad v u ∧ la[i]? = some (.val u)
abbrev rn_K : Type := List Frame → Array Value → State → Nat → Nat → (Nat → Prop) → List Nat → State → Prop
def Rn (Z : rn_Z) (M : rn_M) (pc : Nat) (ls : List (Option Value)) (st : List Value) (w : List rn_C) (ca sa : Nat) (K : rn_K) : Prop :=
  ∀ (p : Program) (e : Env) (s : State) (m : MethodId) (args : Array Value) (below : List Frame) (meth : Method) (c : Code) (H : Heap) (locs : List Loc) (cells slots mc ms : Nat) (A : Nat → Prop) (ad0 ad : List Nat) (ws : va_W) (tys : List (ClassId × FieldType)) (la : Array Slot) (sta : List Value),
    rn_X Z M p s m args meth c A → rn_Wd Z A s H locs ad tys w ws → rn_L ad la M.2.2.1 ls → rn_vs ad st sta → (∃ l, ad = ad0 ++ l) → cells + ca ≤ mc → slots + sa ≤ ms →
    W p Z.1 e (rn_R M mc ms) s m args below meth c H locs cells slots (K below args s mc ms A ad0) (F0 m pc la sta)
theorem Rn.go {Z : rn_Z} {M : rn_M} {pc : Nat} {ls : List (Option Value)} {st : List Value} {w : List rn_C} {ca sa : Nat} {K : rn_K} (k : Rn Z M pc ls st w ca sa K) {p : Program} {e : Env} {s : State} {m : MethodId} {args : Array Value} {below : List Frame} {meth : Method} {c : Code} {H : Heap} {locs : List Loc} {cells slots mc ms : Nat} {A : Nat → Prop} {ad0 ad : List Nat} {ws : va_W} {tys : List (ClassId × FieldType)} {la : Array Slot} {sta : List Value}
    (hC : rn_X Z M p s m args meth c A) (hW : rn_Wd Z A s H locs ad tys w ws) (hL : rn_L ad la M.2.2.1 ls) (hS : rn_vs ad st sta) (hp : ∃ l, ad = ad0 ++ l) (h1 : cells + ca ≤ mc) (h2 : slots + sa ≤ ms) :
    W p Z.1 e (rn_R M mc ms) s m args below meth c H locs cells slots (K below args s mc ms A ad0) (F0 m pc la sta) := k _ _ _ _ _ _ _ _ _ _ _ _ _ _ _ _ _ _ _ _ _ hC hW hL hS hp h1 h2
def rn_oo (ad : List Nat) : Option Value → Option Value → Prop
  | none, v => v = none
  | some x, v => ∃ u, v = some u ∧ rn_v ad x u
/-- a method's end: it returned r, and the world is w -/
def rn_Q (Z : rn_Z) (A : Nat → Prop) (ad0 : List Nat) (r : Option Value) (w : List rn_C) : Array Value → State → Outcome → State → Prop := fun _ st o t =>
  (∃ (ad : List Nat) (ws : va_W) (tys : List (ClassId × FieldType)) (v : Option Value), (∃ l, ad = ad0 ++ l) ∧ o = .returned v ∧ rn_oo ad r v ∧ rn_w ad Z.2.2.1 tys w ws ∧ va_P Z.2.1 rn_cl ws t.heap ∧ va_K Z.2.1 rn_cl tys t ∧ va_D A ws) ∧ va_F A st t
def rn_Ret (Z : rn_Z) (r : Option Value) (w : List rn_C) : rn_K := fun below args s mc ms A ad0 => MQ below (rn_Q Z A ad0 r w) args s mc ms A
def rn_P (Z : rn_Z) (ws : va_W) (tys : List (ClassId × FieldType)) (av : List Value) (sz : Nat) : Array Value → State → Prop := va_Pc av (fun U => U.heap.size = sz ∧ va_P Z.2.1 rn_cl ws U.heap ∧ va_K Z.2.1 rn_cl tys U ∧ va_D (fun _ => True) ws ∧ va_X Z.2.2.1 Z.2.2.2.1 Z.2.2.2.2 U U.heap ∧ Z.2.2.1 < sz ∧ (∀ (k : Nat) (e : va_E), ws[k]? ≠ some (Z.2.2.1, e)) ∧ rn_Th (va_A ws sz) U U.heap)
/-- a method's contract: from the world w, with the arguments av, it returns r, and the world is w1; ca cells of sa slots may be made -/
def Call (Z : rn_Z) (M : rn_M) (av : List Value) (w : List rn_C) (ca sa : Nat) (r : Option Value) (w1 : List rn_C) : Prop :=
  ∀ (ad : List Nat) (ws : va_W) (tys : List (ClassId × FieldType)) (ava : List Value) (sz : Nat), rn_vs ad av ava → rn_w ad Z.2.2.1 tys w ws →
    Met Z.1 M.1 (rn_ws M) (rn_R M ca sa) (rn_P Z ws tys ava sz) (rn_Q Z (va_A ws sz) ad r w1) ca sa (va_A ws sz)
def rn_ent : List Value → List (Option Value)
  | [] => []
  | v :: vs => if v.category = 2 then some v :: none :: rn_ent vs else some v :: rn_ent vs
theorem rn_ent_len {ad : List Nat} : ∀ {av ava : List Value}, rn_vs ad av ava → (lg_sl ava).length = (rn_ent av).length
  | [], _, h => by
    have h : _ = _ := h
    subst h
    rfl
  | v :: vs, _, ⟨u, us, h1, h2, h3⟩ => by
    subst h1
    have hi := rn_ent_len h3
    have hc := rn_v_cat h2
    by_cases h : v.category = 2
    · have e1 : lg_sl (u :: us) = [.val u, .second] ++ lg_sl us := by simp [lg_sl, hc, h]
      have e2 : rn_ent (v :: vs) = some v :: none :: rn_ent vs := by simp [rn_ent, h]
      rw [e1, e2]
      simp [hi]
    · have e1 : lg_sl (u :: us) = [.val u] ++ lg_sl us := by simp [lg_sl, hc, h]
      have e2 : rn_ent (v :: vs) = some v :: rn_ent vs := by simp [rn_ent, h]
      rw [e1, e2]
      simp [hi]
theorem rn_ent_at {ad : List Nat} : ∀ {av ava : List Value} (n i : Nat) {v : Value}, rn_vs ad av ava → (rn_ent av)[i]? = some (some v) → ∃ u, rn_v ad v u ∧ (n + i, u) ∈ lv_args n ava
  | [], _, n, i, v, h, hi => by simp [rn_ent] at hi
  | x :: xs, _, n, i, v, ⟨u, us, h1, h2, h3⟩, hi => by
    subst h1
    have hc := rn_v_cat h2
    by_cases h : x.category = 2
    · have e2 : rn_ent (x :: xs) = some x :: none :: rn_ent xs := by simp [rn_ent, h]
      rw [e2] at hi
      have e1 : lv_args n (u :: us) = (n, u) :: lv_args (n + 2) us := by simp [lv_args, hc, h]
      rw [e1]
      match i, hi with
      | 0, hi =>
        rw [List.getElem?_cons_zero] at hi
        cases hi
        exact ⟨u, h2, List.mem_cons_self⟩
      | 1, hi => simp at hi
      | j + 2, hi =>
        rw [List.getElem?_cons_succ, List.getElem?_cons_succ] at hi
        obtain ⟨y, g1, g2⟩ := rn_ent_at (n + 2) j h3 hi
        refine ⟨y, g1, List.mem_cons_of_mem _ ?_⟩
        rw [show n + (j + 2) = n + 2 + j by omega]
        exact g2
    · have e2 : rn_ent (x :: xs) = some x :: rn_ent xs := by simp [rn_ent, h]
      rw [e2] at hi
      have e1 : lv_args n (u :: us) = (n, u) :: lv_args (n + 1) us := by simp [lv_args, hc, h]
      rw [e1]
      match i, hi with
      | 0, hi =>
        rw [List.getElem?_cons_zero] at hi
        cases hi
        exact ⟨u, h2, List.mem_cons_self⟩
      | j + 1, hi =>
        rw [List.getElem?_cons_succ] at hi
        obtain ⟨y, g1, g2⟩ := rn_ent_at (n + 1) j h3 hi
        refine ⟨y, g1, List.mem_cons_of_mem _ ?_⟩
        rw [show n + (j + 1) = n + 1 + j by omega]
        exact g2
theorem rn_ent_L {ad : List Nat} {av ava : List Value} {n k : Nat} (h : rn_vs ad av ava) (hn : (rn_ent av).length ≤ n) : rn_L ad ((lg_sl ava ++ List.replicate (n - (lg_sl ava).length) Slot.unset).toArray) n (rn_ent av ++ List.replicate k none) := by
  obtain ⟨h1, h2, h3⟩ := lv_entry ava (n := n) (by rw [rn_ent_len h]; exact hn)
  refine ⟨h1, h2, fun i v hi => ?_⟩
  by_cases hl : i < (rn_ent av).length
  · rw [List.getElem?_append_left hl] at hi
    obtain ⟨u, g1, g2⟩ := rn_ent_at 0 i h hi
    rw [Nat.zero_add] at g2
    exact ⟨u, g1, h3 _ g2⟩
  · rw [List.getElem?_append_right (by omega)] at hi
    have := List.eq_of_mem_replicate (List.mem_of_getElem? hi)
    cases this
theorem rn_L_grow {ad l : List Nat} {la : Array Slot} {n : Nat} {ls : List (Option Value)} (h : rn_L ad la n ls) : rn_L (ad ++ l) la n ls := ⟨h.1, h.2.1, fun i v hi => by
  obtain ⟨u, g1, g2⟩ := h.2.2 i v hi
  exact ⟨u, rn_v_grow g1, g2⟩⟩
/-- fewer locals are known -/
def rn_le : List (Option Value) → List (Option Value) → Prop
  | [], _ => True
  | none :: xs, ys => rn_le xs ys.tail
  | some v :: xs, ys => ys.head? = some (some v) ∧ rn_le xs ys.tail
theorem rn_le_at : ∀ {xs ys : List (Option Value)} {i : Nat} {v : Value}, rn_le xs ys → xs[i]? = some (some v) → ys[i]? = some (some v)
  | [], _, i, v, _, h => by simp at h
  | none :: xs, ys, 0, v, _, h => by simp at h
  | none :: xs, ys, i + 1, v, hl, h => by
    rw [List.getElem?_cons_succ] at h
    have := rn_le_at (xs := xs) (ys := ys.tail) hl h
    cases ys with
    | nil => simp at this
    | cons y ys => rw [List.getElem?_cons_succ]; exact this
  | some x :: xs, ys, 0, v, hl, h => by
    rw [List.getElem?_cons_zero] at h
    cases h
    have := hl.1
    cases ys with
    | nil => simp at this
    | cons y ys => rw [List.head?_cons] at this; rw [List.getElem?_cons_zero]; exact this
  | some x :: xs, ys, i + 1, v, hl, h => by
    rw [List.getElem?_cons_succ] at h
    have := rn_le_at (xs := xs) (ys := ys.tail) hl.2 h
    cases ys with
    | nil => simp at this
    | cons y ys => rw [List.getElem?_cons_succ]; exact this
theorem rn_le_0 {ys : List (Option Value)} : rn_le [] ys := trivial
theorem rn_le_s {v : Value} {xs ys : List (Option Value)} (h : rn_le xs ys) : rn_le (some v :: xs) (some v :: ys) := ⟨rfl, h⟩
theorem rn_le_x {y : Option Value} {xs ys : List (Option Value)} (h : rn_le xs ys) : rn_le (none :: xs) (y :: ys) := h
theorem rn_bind {α β : Type} {o : Option α} {k : α → Option β} {y : β} (h : Option.bind o k = some y) : ∃ x, o = some x ∧ k x = some y := by
  cases o with
  | none => cases h
  | some x => exact ⟨x, rfl, h⟩
theorem rn_ifp {α : Type} {c : Prop} [Decidable c] {a b r : α} (hc : c) (h : (if c then a else b) = r) : a = r := by rwa [if_pos hc] at h
theorem rn_ifn {α : Type} {c : Prop} [Decidable c] {a b r : α} (hc : ¬ c) (h : (if c then a else b) = r) : b = r := by rwa [if_neg hc] at h
theorem rn_inc_1 (x : Int32) : x + Int32.ofInt 1 = x + 1 := congrArg (fun z => x + z) (by decide)
theorem rn_inc_4 (x : Int32) : x + Int32.ofInt 4 = x + 4 := congrArg (fun z => x + z) (by decide)
theorem rn_inc_m1 (x : Int32) : x + Int32.ofInt (-1) = x + (-1) := congrArg (fun z => x + z) (by decide)
def rn_bl (x : Int32) : Option Int32 := if x = 0 then some x else if x = 1 then some x else none
theorem rn_bl_some {x y : Int32} (h : rn_bl x = some y) : y = x ∧ (x = 0 ∨ x = 1) := by
  unfold rn_bl at h
  split at h
  next h0 => exact ⟨(Option.some.inj h).symm, Or.inl h0⟩
  next =>
    split at h
    next h1 => exact ⟨(Option.some.inj h).symm, Or.inr h1⟩
    next => cases h
abbrev rn_fu : Nat := 1000000
def up2 {α : Type} (f : Nat → Nat → α) (j : Nat) (g : Nat → α) : Nat → Nat → α := fun k => if k = j then g else f k
/-! storing a local -/
def rn_two : Option Value → Bool
  | some (.long _) => true
  | some (.double _) => true
  | _ => false
theorem rn_two_of {v : Value} (h : v.category = 2) : rn_two (some v) = true := by
  cases v <;> first | rfl | (simp [Value.category] at h)
def rn_s1 : List (Option Value) → Nat → Value → List (Option Value)
  | [], _, _ => []
  | _ :: t, 0, v => some v :: t
  | a :: t, i + 1, v => (bif (i == 0) && rn_two a then none else a) :: rn_s1 t i v
theorem rn_s1_at : ∀ {ls : List (Option Value)} {i j : Nat} {v x : Value}, (rn_s1 ls i v)[j]? = some (some x) → (j = i ∧ x = v) ∨ (j ≠ i ∧ ls[j]? = some (some x) ∧ ¬ (j + 1 = i ∧ x.category = 2))
  | [], i, j, v, x, h => by simp [rn_s1] at h
  | a :: t, 0, j, v, x, h => by
    rw [rn_s1] at h
    cases j with
    | zero =>
      rw [List.getElem?_cons_zero] at h
      cases h
      exact Or.inl ⟨rfl, rfl⟩
    | succ j =>
      rw [List.getElem?_cons_succ] at h
      exact Or.inr ⟨by omega, by rw [List.getElem?_cons_succ]; exact h, by omega⟩
  | a :: t, i + 1, j, v, x, h => by
    rw [rn_s1] at h
    cases j with
    | zero =>
      rw [List.getElem?_cons_zero] at h
      cases hb : ((i == 0) && rn_two a) with
      | true => rw [hb] at h; cases h
      | false =>
        rw [hb] at h
        have h : some a = some (some x) := h
        have ha : a = some x := Option.some.inj h
        refine Or.inr ⟨by omega, by rw [List.getElem?_cons_zero]; exact h, fun q => ?_⟩
        rw [ha, rn_two_of q.2] at hb
        have e0 : i = 0 := by omega
        rw [e0] at hb
        cases hb
    | succ j =>
      rw [List.getElem?_cons_succ] at h
      rcases rn_s1_at h with ⟨h1, h2⟩ | ⟨h1, h2, h3⟩
      · exact Or.inl ⟨by omega, h2⟩
      · exact Or.inr ⟨by omega, by rw [List.getElem?_cons_succ]; exact h2, fun q => h3 ⟨by omega, q.2⟩⟩
def rn_s2 (ls : List (Option Value)) (i : Nat) (v : Value) : List (Option Value) := (rn_s1 ls i v).set (i + 1) none
theorem rn_s2_at {ls : List (Option Value)} {i j : Nat} {v x : Value} (h : (rn_s2 ls i v)[j]? = some (some x)) : (j = i ∧ x = v) ∨ (j ≠ i ∧ j ≠ i + 1 ∧ ls[j]? = some (some x) ∧ ¬ (j + 1 = i ∧ x.category = 2)) := by
  unfold rn_s2 at h
  by_cases hj : i + 1 = j
  · subst hj
    rw [List.getElem?_set] at h
    simp at h
  · rw [List.getElem?_set_ne hj] at h
    rcases rn_s1_at h with h1 | ⟨h1, h2, h3⟩
    · exact Or.inl h1
    · exact Or.inr ⟨h1, fun q => hj q.symm, h2, h3⟩
def rn_av (la : Array Slot) (n : Nat) : List (Nat × Value) := (List.range n).filterMap fun (j : Nat) => match la[j]? with
  | some (Slot.val u) => some (j, u)
  | _ => none
theorem rn_av_in {la : Array Slot} {n j : Nat} {u : Value} (hn : la.size = n) (h : la[j]? = some (.val u)) : (j, u) ∈ rn_av la n := by
  have hj : j < n := by rw [← hn]; exact (Array.getElem?_eq_some_iff.mp h).1
  exact List.mem_filterMap.mpr ⟨j, List.mem_range.mpr hj, by rw [h]⟩
theorem rn_av_has {la : Array Slot} {n : Nat} (hn : la.size = n) (hw : lv_wf la) : lv_has la n (rn_av la n) := by
  refine ⟨hn, hw, fun q hq => ?_⟩
  obtain ⟨j, -, hj⟩ := List.mem_filterMap.mp hq
  cases hl : la[j]? with
  | none => rw [hl] at hj; cases hj
  | some x =>
    rw [hl] at hj
    cases x with
    | val u => cases hj; exact hl
    | _ => cases hj
theorem rn_L1 {ad : List Nat} {la la' : Array Slot} {n i : Nat} {ls : List (Option Value)} {v u : Value} (h : rn_L ad la n ls) (hv : rn_v ad v u) (h' : lv_has la' n ((i, u) :: (rn_av la n).filter (fun q => !(q.1 == i) && !(q.1 + 1 == i && q.2.category == 2)))) : rn_L ad la' n (rn_s1 ls i v) := by
  refine ⟨h'.1, h'.2.1, fun j x hj => ?_⟩
  rcases rn_s1_at hj with ⟨h1, h2⟩ | ⟨h1, h2, h3⟩
  · subst h1; subst h2
    exact ⟨u, hv, h'.2.2 _ List.mem_cons_self⟩
  · obtain ⟨y, g1, g2⟩ := h.2.2 j x h2
    refine ⟨y, g1, h'.2.2 (j, y) (List.mem_cons_of_mem _ (List.mem_filter.mpr ⟨rn_av_in h.1 g2, ?_⟩))⟩
    have hc := rn_v_cat g1
    by_cases h4 : j + 1 = i
    · have h5 : ¬ x.category = 2 := fun q => h3 ⟨h4, q⟩
      simp [h1, hc, h5]
    · simp [h1, h4]
theorem rn_L2 {ad : List Nat} {la la' : Array Slot} {n i : Nat} {ls : List (Option Value)} {v u : Value} (h : rn_L ad la n ls) (hv : rn_v ad v u) (h' : lv_has la' n ((i, u) :: (rn_av la n).filter (fun q => !(q.1 == i) && (!(q.1 == i + 1) && !(q.1 + 1 == i && q.2.category == 2))))) : rn_L ad la' n (rn_s2 ls i v) := by
  refine ⟨h'.1, h'.2.1, fun j x hj => ?_⟩
  rcases rn_s2_at hj with ⟨h1, h2⟩ | ⟨h1, h1', h2, h3⟩
  · subst h1; subst h2
    exact ⟨u, hv, h'.2.2 _ List.mem_cons_self⟩
  · obtain ⟨y, g1, g2⟩ := h.2.2 j x h2
    refine ⟨y, g1, h'.2.2 (j, y) (List.mem_cons_of_mem _ (List.mem_filter.mpr ⟨rn_av_in h.1 g2, ?_⟩))⟩
    have hc := rn_v_cat g1
    by_cases h4 : j + 1 = i
    · have h5 : ¬ x.category = 2 := fun q => h3 ⟨h4, q⟩
      simp [h1, h1', hc, h5]
    · simp [h1, h1', h4]
section
variable {Z : rn_Z} {M : rn_M} {pc : Nat} {ls : List (Option Value)} {st : List Value} {w : List rn_C} {ca sa : Nat} {K : rn_K}
/-- the start -/
theorem rn_call {av : List Value} {r : Option Value} {w1 : List rn_C} (hp : plainName M.1.cls = true) (n : Nat) (hn : (rn_ent av).length ≤ M.2.2.1) (k : Rn Z M 0 (rn_ent av ++ List.replicate n none) [] w ca sa (rn_Ret Z r w1)) : Call Z M av w ca sa r w1 := by
  intro ad ws tys ava sz hav hw
  refine Met.ofW (cc := M.2.1) (maxL := M.2.2.1) (ret := M.2.2.2.1) hp rfl ?_
  intro p e s m args below meth c s₁ B hml hv
  obtain ⟨rfl, hsz, hP, hK, hD0, hX, hb, hbn, hTh⟩ := hv
  subst hsz
  have hts := atoms_spec (ws := rn_ws M) B.pre
  rw [lg_entry_eq]
  refine k.go ⟨B.exec, B.bytes, hml, findClass_of_methodNamed B.named, fun w h => hts w (List.mem_cons_of_mem _ h), B.notSynchronized, B.returns, (name_of_methodNamed B.named B.method).1, fun q h => Or.inr h, hX, hb, ?_, hTh, B.named⟩ ⟨hw, hP, hK, hD0.self, va_S.rf⟩ (rn_ent_L hav hn) rfl ⟨[], by simp⟩ (by omega) (by omega)
  intro q
  rcases q with ⟨k1, e1, h1⟩ | h1
  · exact hbn k1 e1 h1
  · omega
theorem rn_weak (ls' : List (Option Value)) (h : rn_le ls' ls) (k : Rn Z M pc ls' st w ca sa K) : Rn Z M pc ls st w ca sa K := by
  intro p e s m args below meth c H locs cells slots mc ms A ad0 ad ws tys la sta hC hW hL hS hp h1 h2
  exact k.go hC hW ⟨hL.1, hL.2.1, fun i v hi => hL.2.2 i v (rn_le_at h hi)⟩ hS hp h1 h2
theorem rn_room {ca' sa' : Nat} (h1 : ca' ≤ ca) (h2 : sa' ≤ sa) (k : Rn Z M pc ls st w ca' sa' K) : Rn Z M pc ls st w ca sa K := by
  intro p e s m args below meth c H locs cells slots mc ms A ad0 ad ws tys la sta hC hW hL hS hp g1 g2
  exact k.go hC hW hL hS hp (by omega) (by omega)
theorem rn_iconst {n : Int} {v : Int32} (hd : decode M.2.1 pc = .ok (.iconst n, 1)) (hv : Int32.ofInt n = v) (k : Rn Z M (pc + 1) ls (.int v :: st) w ca sa K) : Rn Z M pc ls st w ca sa K := by
  intro p e s m args below meth c H locs cells slots mc ms A ad0 ad ws tys la sta hC hW hL hS hp h1 h2
  exact lv_iconst hC.1 hC.2.1 hd hv (k.go hC hW hL ⟨_, _, rfl, rfl, hS⟩ hp h1 h2)
theorem rn_bipush {n : Int} {v : Int32} (hd : decode M.2.1 pc = .ok (.bipush n, 2)) (hv : (Int8.ofInt n).toInt32 = v) (k : Rn Z M (pc + 2) ls (.int v :: st) w ca sa K) : Rn Z M pc ls st w ca sa K := by
  intro p e s m args below meth c H locs cells slots mc ms A ad0 ad ws tys la sta hC hW hL hS hp h1 h2
  exact lv_bipush hC.1 hC.2.1 hd hv (k.go hC hW hL ⟨_, _, rfl, rfl, hS⟩ hp h1 h2)
theorem rn_sipush {n : Int} {v : Int32} (hd : decode M.2.1 pc = .ok (.sipush n, 3)) (hv : (Int16.ofInt n).toInt32 = v) (k : Rn Z M (pc + 3) ls (.int v :: st) w ca sa K) : Rn Z M pc ls st w ca sa K := by
  intro p e s m args below meth c H locs cells slots mc ms A ad0 ad ws tys la sta hC hW hL hS hp h1 h2
  exact lv_sipush hC.1 hC.2.1 hd hv (k.go hC hW hL ⟨_, _, rfl, rfl, hS⟩ hp h1 h2)
theorem rn_lconst {n : Fin 2} {v : Int64} (hd : decode M.2.1 pc = .ok (.lconst n, 1)) (hv : Int64.ofNat (n : Nat) = v) (k : Rn Z M (pc + 1) ls (.long v :: st) w ca sa K) : Rn Z M pc ls st w ca sa K := by
  intro p e s m args below meth c H locs cells slots mc ms A ad0 ad ws tys la sta hC hW hL hS hp h1 h2
  exact lv_lconst hC.1 hC.2.1 hd hv (k.go hC hW hL ⟨_, _, rfl, rfl, hS⟩ hp h1 h2)
theorem rn_ldc2 {idx : Nat} {v : Int64} (hd : decode M.2.1 pc = .ok (.ldc2_w idx, 3)) (hv : Cond.constantLong M.1.cls idx v ∈ rn_tb) (k : Rn Z M (pc + 3) ls (.long v :: st) w ca sa K) : Rn Z M pc ls st w ca sa K := by
  intro p e s m args below meth c H locs cells slots mc ms A ad0 ad ws tys la sta hC hW hL hS hp h1 h2
  exact lv_ldc2 hC.1 hC.2.1 hC.2.2.2.1 (hC.2.2.2.2.1 _ hv) hd (k.go hC hW hL ⟨_, _, rfl, rfl, hS⟩ hp h1 h2)
theorem rn_ldcw {idx : Nat} {v : Int32} (hd : decode M.2.1 pc = .ok (.ldc_w idx, 3)) (hv : Cond.constant M.1.cls idx v ∈ rn_tb) (k : Rn Z M (pc + 3) ls (.int v :: st) w ca sa K) : Rn Z M pc ls st w ca sa K := by
  intro p e s m args below meth c H locs cells slots mc ms A ad0 ad ws tys la sta hC hW hL hS hp h1 h2
  exact lv_ldcw hC.1 hC.2.1 hC.2.2.2.1 (hC.2.2.2.2.1 _ hv) hd (k.go hC hW hL ⟨_, _, rfl, rfl, hS⟩ hp h1 h2)
theorem rn_iload {i : Nat} {x : Int32} (hd : decode M.2.1 pc = .ok (.iload i, 2)) (hl : ls[i]? = some (some (.int x))) (k : Rn Z M (pc + 2) ls (.int x :: st) w ca sa K) : Rn Z M pc ls st w ca sa K := by
  intro p e s m args below meth c H locs cells slots mc ms A ad0 ad ws tys la sta hC hW hL hS hp h1 h2
  obtain ⟨u, rfl, hu⟩ := hL.2.2 _ _ hl
  exact lv_iload hC.1 hC.2.1 hd hu (k.go hC hW hL ⟨_, _, rfl, rfl, hS⟩ hp h1 h2)
theorem rn_iload_n {i : Fin 4} {x : Int32} (hd : decode M.2.1 pc = .ok (.iload_n i, 1)) (hl : ls[(i : Nat)]? = some (some (.int x))) (k : Rn Z M (pc + 1) ls (.int x :: st) w ca sa K) : Rn Z M pc ls st w ca sa K := by
  intro p e s m args below meth c H locs cells slots mc ms A ad0 ad ws tys la sta hC hW hL hS hp h1 h2
  obtain ⟨u, rfl, hu⟩ := hL.2.2 _ _ hl
  exact lv_iload_n hC.1 hC.2.1 hd rfl hu (k.go hC hW hL ⟨_, _, rfl, rfl, hS⟩ hp h1 h2)
theorem rn_lload {i : Nat} {x : Int64} (hd : decode M.2.1 pc = .ok (.lload i, 2)) (hl : ls[i]? = some (some (.long x))) (k : Rn Z M (pc + 2) ls (.long x :: st) w ca sa K) : Rn Z M pc ls st w ca sa K := by
  intro p e s m args below meth c H locs cells slots mc ms A ad0 ad ws tys la sta hC hW hL hS hp h1 h2
  obtain ⟨u, rfl, hu⟩ := hL.2.2 _ _ hl
  exact lv_lload hC.1 hC.2.1 hd hu (k.go hC hW hL ⟨_, _, rfl, rfl, hS⟩ hp h1 h2)
theorem rn_lload_n {i : Fin 4} {x : Int64} (hd : decode M.2.1 pc = .ok (.lload_n i, 1)) (hl : ls[(i : Nat)]? = some (some (.long x))) (k : Rn Z M (pc + 1) ls (.long x :: st) w ca sa K) : Rn Z M pc ls st w ca sa K := by
  intro p e s m args below meth c H locs cells slots mc ms A ad0 ad ws tys la sta hC hW hL hS hp h1 h2
  obtain ⟨u, rfl, hu⟩ := hL.2.2 _ _ hl
  exact lv_lload_n hC.1 hC.2.1 hd rfl hu (k.go hC hW hL ⟨_, _, rfl, rfl, hS⟩ hp h1 h2)
theorem rn_aload {i : Nat} {x : Nat} (hd : decode M.2.1 pc = .ok (.aload i, 2)) (hl : ls[i]? = some (some (.ref x))) (k : Rn Z M (pc + 2) ls (.ref x :: st) w ca sa K) : Rn Z M pc ls st w ca sa K := by
  intro p e s m args below meth c H locs cells slots mc ms A ad0 ad ws tys la sta hC hW hL hS hp h1 h2
  obtain ⟨u, ⟨a, ha, rfl⟩, hu⟩ := hL.2.2 _ _ hl
  exact lv_aload hC.1 hC.2.1 hd hu (k.go hC hW hL ⟨_, _, rfl, ⟨a, ha, rfl⟩, hS⟩ hp h1 h2)
theorem rn_aload_n {i : Fin 4} {x : Nat} (hd : decode M.2.1 pc = .ok (.aload_n i, 1)) (hl : ls[(i : Nat)]? = some (some (.ref x))) (k : Rn Z M (pc + 1) ls (.ref x :: st) w ca sa K) : Rn Z M pc ls st w ca sa K := by
  intro p e s m args below meth c H locs cells slots mc ms A ad0 ad ws tys la sta hC hW hL hS hp h1 h2
  obtain ⟨u, ⟨a, ha, rfl⟩, hu⟩ := hL.2.2 _ _ hl
  exact lv_aload_n hC.1 hC.2.1 hd rfl hu (k.go hC hW hL ⟨_, _, rfl, ⟨a, ha, rfl⟩, hS⟩ hp h1 h2)
theorem rn_astoreX {i : Nat} {j : Nat} {ls' : List (Option Value)} (hd : decode M.2.1 pc = .ok (.astore i, 2)) (hi : i < M.2.2.1) (hl : rn_s1 ls i (.retAddr j) = ls') (k : Rn Z M (pc + 2) ls' st w ca sa K) : Rn Z M pc ls (.retAddr j :: st) w ca sa K := by
  intro p e s m args below meth c H locs cells slots mc ms A ad0 ad ws tys la sta hC hW hL hS hp h1 h2
  obtain ⟨_, _, rfl, ⟨a, rfl⟩, hS⟩ := hS
  subst hl
  exact lv_astore hC.1 hC.2.1 hd (rn_av_has hL.1 hL.2.1) hi rfl (fun la1 h3 => k.go hC hW (rn_L1 hL ⟨a, rfl⟩ h3) hS hp h1 h2)
theorem rn_astoreX_n {i : Fin 4} {j : Nat} {ls' : List (Option Value)} (hd : decode M.2.1 pc = .ok (.astore_n i, 1)) (hi : (i : Nat) < M.2.2.1) (hl : rn_s1 ls (i : Nat) (.retAddr j) = ls') (k : Rn Z M (pc + 1) ls' st w ca sa K) : Rn Z M pc ls (.retAddr j :: st) w ca sa K := by
  intro p e s m args below meth c H locs cells slots mc ms A ad0 ad ws tys la sta hC hW hL hS hp h1 h2
  obtain ⟨_, _, rfl, ⟨a, rfl⟩, hS⟩ := hS
  subst hl
  exact lv_astore_n hC.1 hC.2.1 hd rfl (rn_av_has hL.1 hL.2.1) hi rfl (fun la1 h3 => k.go hC hW (rn_L1 hL ⟨a, rfl⟩ h3) hS hp h1 h2)
theorem rn_istore {i : Nat} {x : Int32} {ls' : List (Option Value)} (hd : decode M.2.1 pc = .ok (.istore i, 2)) (hi : i < M.2.2.1) (hl : rn_s1 ls i (.int x) = ls') (k : Rn Z M (pc + 2) ls' st w ca sa K) : Rn Z M pc ls (.int x :: st) w ca sa K := by
  intro p e s m args below meth c H locs cells slots mc ms A ad0 ad ws tys la sta hC hW hL hS hp h1 h2
  obtain ⟨_, _, rfl, rfl, hS⟩ := hS
  subst hl
  exact lv_istore hC.1 hC.2.1 hd (rn_av_has hL.1 hL.2.1) hi rfl (fun la1 h3 => k.go hC hW (rn_L1 hL rfl h3) hS hp h1 h2)
theorem rn_lstore {i : Nat} {x : Int64} {ls' : List (Option Value)} (hd : decode M.2.1 pc = .ok (.lstore i, 2)) (hi : i + 1 < M.2.2.1) (hl : rn_s2 ls i (.long x) = ls') (k : Rn Z M (pc + 2) ls' st w ca sa K) : Rn Z M pc ls (.long x :: st) w ca sa K := by
  intro p e s m args below meth c H locs cells slots mc ms A ad0 ad ws tys la sta hC hW hL hS hp h1 h2
  obtain ⟨_, _, rfl, rfl, hS⟩ := hS
  subst hl
  exact lv_lstore hC.1 hC.2.1 hd (rn_av_has hL.1 hL.2.1) hi rfl (fun la1 h3 => k.go hC hW (rn_L2 hL rfl h3) hS hp h1 h2)
theorem rn_astore {i : Nat} {x : Nat} {ls' : List (Option Value)} (hd : decode M.2.1 pc = .ok (.astore i, 2)) (hi : i < M.2.2.1) (hl : rn_s1 ls i (.ref x) = ls') (k : Rn Z M (pc + 2) ls' st w ca sa K) : Rn Z M pc ls (.ref x :: st) w ca sa K := by
  intro p e s m args below meth c H locs cells slots mc ms A ad0 ad ws tys la sta hC hW hL hS hp h1 h2
  obtain ⟨_, _, rfl, ⟨a, ha, rfl⟩, hS⟩ := hS
  subst hl
  exact lv_astore hC.1 hC.2.1 hd (rn_av_has hL.1 hL.2.1) hi rfl (fun la1 h3 => k.go hC hW (rn_L1 hL ⟨a, ha, rfl⟩ h3) hS hp h1 h2)
theorem rn_istore_n {i : Fin 4} {x : Int32} {ls' : List (Option Value)} (hd : decode M.2.1 pc = .ok (.istore_n i, 1)) (hi : (i : Nat) < M.2.2.1) (hl : rn_s1 ls (i : Nat) (.int x) = ls') (k : Rn Z M (pc + 1) ls' st w ca sa K) : Rn Z M pc ls (.int x :: st) w ca sa K := by
  intro p e s m args below meth c H locs cells slots mc ms A ad0 ad ws tys la sta hC hW hL hS hp h1 h2
  obtain ⟨_, _, rfl, rfl, hS⟩ := hS
  subst hl
  exact lv_istore_n hC.1 hC.2.1 hd rfl (rn_av_has hL.1 hL.2.1) hi rfl (fun la1 h3 => k.go hC hW (rn_L1 hL rfl h3) hS hp h1 h2)
theorem rn_lstore_n {i : Fin 4} {x : Int64} {ls' : List (Option Value)} (hd : decode M.2.1 pc = .ok (.lstore_n i, 1)) (hi : (i : Nat) + 1 < M.2.2.1) (hl : rn_s2 ls (i : Nat) (.long x) = ls') (k : Rn Z M (pc + 1) ls' st w ca sa K) : Rn Z M pc ls (.long x :: st) w ca sa K := by
  intro p e s m args below meth c H locs cells slots mc ms A ad0 ad ws tys la sta hC hW hL hS hp h1 h2
  obtain ⟨_, _, rfl, rfl, hS⟩ := hS
  subst hl
  exact lv_lstore_n hC.1 hC.2.1 hd rfl (rn_av_has hL.1 hL.2.1) hi rfl (fun la1 h3 => k.go hC hW (rn_L2 hL rfl h3) hS hp h1 h2)
theorem rn_astore_n {i : Fin 4} {x : Nat} {ls' : List (Option Value)} (hd : decode M.2.1 pc = .ok (.astore_n i, 1)) (hi : (i : Nat) < M.2.2.1) (hl : rn_s1 ls (i : Nat) (.ref x) = ls') (k : Rn Z M (pc + 1) ls' st w ca sa K) : Rn Z M pc ls (.ref x :: st) w ca sa K := by
  intro p e s m args below meth c H locs cells slots mc ms A ad0 ad ws tys la sta hC hW hL hS hp h1 h2
  obtain ⟨_, _, rfl, ⟨a, ha, rfl⟩, hS⟩ := hS
  subst hl
  exact lv_astore_n hC.1 hC.2.1 hd rfl (rn_av_has hL.1 hL.2.1) hi rfl (fun la1 h3 => k.go hC hW (rn_L1 hL ⟨a, ha, rfl⟩ h3) hS hp h1 h2)
theorem rn_iinc {i : Nat} {n : Int} {x v : Int32} {ls' : List (Option Value)} (hd : decode M.2.1 pc = .ok (.iinc i n, 3)) (hi : i < M.2.2.1) (hx : ls[i]? = some (some (.int x))) (hv : x + Int32.ofInt n = v) (hl : rn_s1 ls i (.int v) = ls') (k : Rn Z M (pc + 3) ls' st w ca sa K) : Rn Z M pc ls st w ca sa K := by
  intro p e s m args below meth c H locs cells slots mc ms A ad0 ad ws tys la sta hC hW hL hS hp h1 h2
  obtain ⟨u, rfl, hu⟩ := hL.2.2 _ _ hx
  subst hl
  obtain ⟨k0, hk0⟩ := List.getElem?_of_mem (rn_av_in hL.1 hu)
  exact lv_iinc hC.1 hC.2.1 hd (rn_av_has hL.1 hL.2.1) hk0 hv hi rfl (fun la1 h3 => k.go hC hW (rn_L1 hL rfl h3) hS hp h1 h2)
theorem rn_iadd {x : Int32} {y : Int32} (hd : decode M.2.1 pc = .ok (.iadd, 1)) (k : Rn Z M (pc + 1) ls (.int (x + y) :: st) w ca sa K) : Rn Z M pc ls (.int y :: .int x :: st) w ca sa K := by
  intro p e s m args below meth c H locs cells slots mc ms A ad0 ad ws tys la sta hC hW hL hS hp h1 h2
  obtain ⟨_, _, rfl, rfl, _, _, rfl, rfl, hS⟩ := hS
  exact lv_iadd hC.1 hC.2.1 hd (k.go hC hW hL ⟨_, _, rfl, rfl, hS⟩ hp h1 h2)
theorem rn_isub {x : Int32} {y : Int32} (hd : decode M.2.1 pc = .ok (.isub, 1)) (k : Rn Z M (pc + 1) ls (.int (x - y) :: st) w ca sa K) : Rn Z M pc ls (.int y :: .int x :: st) w ca sa K := by
  intro p e s m args below meth c H locs cells slots mc ms A ad0 ad ws tys la sta hC hW hL hS hp h1 h2
  obtain ⟨_, _, rfl, rfl, _, _, rfl, rfl, hS⟩ := hS
  exact lv_isub hC.1 hC.2.1 hd (k.go hC hW hL ⟨_, _, rfl, rfl, hS⟩ hp h1 h2)
theorem rn_imul {x : Int32} {y : Int32} (hd : decode M.2.1 pc = .ok (.imul, 1)) (k : Rn Z M (pc + 1) ls (.int (x * y) :: st) w ca sa K) : Rn Z M pc ls (.int y :: .int x :: st) w ca sa K := by
  intro p e s m args below meth c H locs cells slots mc ms A ad0 ad ws tys la sta hC hW hL hS hp h1 h2
  obtain ⟨_, _, rfl, rfl, _, _, rfl, rfl, hS⟩ := hS
  exact lv_imul hC.1 hC.2.1 hd (k.go hC hW hL ⟨_, _, rfl, rfl, hS⟩ hp h1 h2)
theorem rn_iand {x : Int32} {y : Int32} (hd : decode M.2.1 pc = .ok (.iand, 1)) (k : Rn Z M (pc + 1) ls (.int (x &&& y) :: st) w ca sa K) : Rn Z M pc ls (.int y :: .int x :: st) w ca sa K := by
  intro p e s m args below meth c H locs cells slots mc ms A ad0 ad ws tys la sta hC hW hL hS hp h1 h2
  obtain ⟨_, _, rfl, rfl, _, _, rfl, rfl, hS⟩ := hS
  exact lv_iand hC.1 hC.2.1 hd (k.go hC hW hL ⟨_, _, rfl, rfl, hS⟩ hp h1 h2)
theorem rn_ior {x : Int32} {y : Int32} (hd : decode M.2.1 pc = .ok (.ior, 1)) (k : Rn Z M (pc + 1) ls (.int (x ||| y) :: st) w ca sa K) : Rn Z M pc ls (.int y :: .int x :: st) w ca sa K := by
  intro p e s m args below meth c H locs cells slots mc ms A ad0 ad ws tys la sta hC hW hL hS hp h1 h2
  obtain ⟨_, _, rfl, rfl, _, _, rfl, rfl, hS⟩ := hS
  exact lv_ior hC.1 hC.2.1 hd (k.go hC hW hL ⟨_, _, rfl, rfl, hS⟩ hp h1 h2)
theorem rn_ishl {x : Int32} {y : Int32} (hd : decode M.2.1 pc = .ok (.ishl, 1)) (k : Rn Z M (pc + 1) ls (.int (x <<< (y &&& 31)) :: st) w ca sa K) : Rn Z M pc ls (.int y :: .int x :: st) w ca sa K := by
  intro p e s m args below meth c H locs cells slots mc ms A ad0 ad ws tys la sta hC hW hL hS hp h1 h2
  obtain ⟨_, _, rfl, rfl, _, _, rfl, rfl, hS⟩ := hS
  exact lv_ishl hC.1 hC.2.1 hd (k.go hC hW hL ⟨_, _, rfl, rfl, hS⟩ hp h1 h2)
theorem rn_ishr {x : Int32} {y : Int32} (hd : decode M.2.1 pc = .ok (.ishr, 1)) (k : Rn Z M (pc + 1) ls (.int (x >>> (y &&& 31)) :: st) w ca sa K) : Rn Z M pc ls (.int y :: .int x :: st) w ca sa K := by
  intro p e s m args below meth c H locs cells slots mc ms A ad0 ad ws tys la sta hC hW hL hS hp h1 h2
  obtain ⟨_, _, rfl, rfl, _, _, rfl, rfl, hS⟩ := hS
  exact lv_ishr hC.1 hC.2.1 hd (k.go hC hW hL ⟨_, _, rfl, rfl, hS⟩ hp h1 h2)
theorem rn_irem {x : Int32} {y : Int32} (hd : decode M.2.1 pc = .ok (.irem, 1)) (hne : ¬ y = 0) (k : Rn Z M (pc + 1) ls (.int (x - x / y * y) :: st) w ca sa K) : Rn Z M pc ls (.int y :: .int x :: st) w ca sa K := by
  intro p e s m args below meth c H locs cells slots mc ms A ad0 ad ws tys la sta hC hW hL hS hp h1 h2
  obtain ⟨_, _, rfl, rfl, _, _, rfl, rfl, hS⟩ := hS
  exact lv_irem hC.1 hC.2.1 hd hne (k.go hC hW hL ⟨_, _, rfl, rfl, hS⟩ hp h1 h2)
theorem rn_ladd {x : Int64} {y : Int64} (hd : decode M.2.1 pc = .ok (.ladd, 1)) (k : Rn Z M (pc + 1) ls (.long (x + y) :: st) w ca sa K) : Rn Z M pc ls (.long y :: .long x :: st) w ca sa K := by
  intro p e s m args below meth c H locs cells slots mc ms A ad0 ad ws tys la sta hC hW hL hS hp h1 h2
  obtain ⟨_, _, rfl, rfl, _, _, rfl, rfl, hS⟩ := hS
  exact lv_ladd hC.1 hC.2.1 hd (k.go hC hW hL ⟨_, _, rfl, rfl, hS⟩ hp h1 h2)
theorem rn_lsub {x : Int64} {y : Int64} (hd : decode M.2.1 pc = .ok (.lsub, 1)) (k : Rn Z M (pc + 1) ls (.long (x - y) :: st) w ca sa K) : Rn Z M pc ls (.long y :: .long x :: st) w ca sa K := by
  intro p e s m args below meth c H locs cells slots mc ms A ad0 ad ws tys la sta hC hW hL hS hp h1 h2
  obtain ⟨_, _, rfl, rfl, _, _, rfl, rfl, hS⟩ := hS
  exact lv_lsub hC.1 hC.2.1 hd (k.go hC hW hL ⟨_, _, rfl, rfl, hS⟩ hp h1 h2)
theorem rn_lmul {x : Int64} {y : Int64} (hd : decode M.2.1 pc = .ok (.lmul, 1)) (k : Rn Z M (pc + 1) ls (.long (x * y) :: st) w ca sa K) : Rn Z M pc ls (.long y :: .long x :: st) w ca sa K := by
  intro p e s m args below meth c H locs cells slots mc ms A ad0 ad ws tys la sta hC hW hL hS hp h1 h2
  obtain ⟨_, _, rfl, rfl, _, _, rfl, rfl, hS⟩ := hS
  exact lv_lmul hC.1 hC.2.1 hd (k.go hC hW hL ⟨_, _, rfl, rfl, hS⟩ hp h1 h2)
theorem rn_land {x : Int64} {y : Int64} (hd : decode M.2.1 pc = .ok (.land, 1)) (k : Rn Z M (pc + 1) ls (.long (x &&& y) :: st) w ca sa K) : Rn Z M pc ls (.long y :: .long x :: st) w ca sa K := by
  intro p e s m args below meth c H locs cells slots mc ms A ad0 ad ws tys la sta hC hW hL hS hp h1 h2
  obtain ⟨_, _, rfl, rfl, _, _, rfl, rfl, hS⟩ := hS
  exact lv_land hC.1 hC.2.1 hd (k.go hC hW hL ⟨_, _, rfl, rfl, hS⟩ hp h1 h2)
theorem rn_lor {x : Int64} {y : Int64} (hd : decode M.2.1 pc = .ok (.lor, 1)) (k : Rn Z M (pc + 1) ls (.long (x ||| y) :: st) w ca sa K) : Rn Z M pc ls (.long y :: .long x :: st) w ca sa K := by
  intro p e s m args below meth c H locs cells slots mc ms A ad0 ad ws tys la sta hC hW hL hS hp h1 h2
  obtain ⟨_, _, rfl, rfl, _, _, rfl, rfl, hS⟩ := hS
  exact lv_lor hC.1 hC.2.1 hd (k.go hC hW hL ⟨_, _, rfl, rfl, hS⟩ hp h1 h2)
theorem rn_iushr {x : Int32} {y : Int32} (hd : decode M.2.1 pc = .ok (.iushr, 1)) (k : Rn Z M (pc + 1) ls (.int ((x.toUInt32 >>> (y.toUInt32 &&& Int32.toUInt32 31)).toInt32) :: st) w ca sa K) : Rn Z M pc ls (.int y :: .int x :: st) w ca sa K := by
  intro p e s m args below meth c H locs cells slots mc ms A ad0 ad ws tys la sta hC hW hL hS hp h1 h2
  obtain ⟨_, _, rfl, rfl, _, _, rfl, rfl, hS⟩ := hS
  exact lv_iushr hC.1 hC.2.1 hd rfl (k.go hC hW hL ⟨_, _, rfl, rfl, hS⟩ hp h1 h2)
theorem rn_lushr {x : Int64} {y : Int32} (hd : decode M.2.1 pc = .ok (.lushr, 1)) (k : Rn Z M (pc + 1) ls (.long ((x.toUInt64 >>> (y.toInt64.toUInt64 &&& Int64.toUInt64 63)).toInt64) :: st) w ca sa K) : Rn Z M pc ls (.int y :: .long x :: st) w ca sa K := by
  intro p e s m args below meth c H locs cells slots mc ms A ad0 ad ws tys la sta hC hW hL hS hp h1 h2
  obtain ⟨_, _, rfl, rfl, _, _, rfl, rfl, hS⟩ := hS
  exact lv_lushr hC.1 hC.2.1 hd rfl (k.go hC hW hL ⟨_, _, rfl, rfl, hS⟩ hp h1 h2)
theorem rn_lshl {x : Int64} {y : Int32} (hd : decode M.2.1 pc = .ok (.lshl, 1)) (k : Rn Z M (pc + 1) ls (.long (x <<< (y.toInt64 &&& 63)) :: st) w ca sa K) : Rn Z M pc ls (.int y :: .long x :: st) w ca sa K := by
  intro p e s m args below meth c H locs cells slots mc ms A ad0 ad ws tys la sta hC hW hL hS hp h1 h2
  obtain ⟨_, _, rfl, rfl, _, _, rfl, rfl, hS⟩ := hS
  exact lv_lshl hC.1 hC.2.1 hd rfl (k.go hC hW hL ⟨_, _, rfl, rfl, hS⟩ hp h1 h2)
theorem rn_lshr {x : Int64} {y : Int32} (hd : decode M.2.1 pc = .ok (.lshr, 1)) (k : Rn Z M (pc + 1) ls (.long (x >>> (y.toInt64 &&& 63)) :: st) w ca sa K) : Rn Z M pc ls (.int y :: .long x :: st) w ca sa K := by
  intro p e s m args below meth c H locs cells slots mc ms A ad0 ad ws tys la sta hC hW hL hS hp h1 h2
  obtain ⟨_, _, rfl, rfl, _, _, rfl, rfl, hS⟩ := hS
  exact lv_lshr hC.1 hC.2.1 hd rfl (k.go hC hW hL ⟨_, _, rfl, rfl, hS⟩ hp h1 h2)
theorem rn_lcmp {x y : Int64} (hd : decode M.2.1 pc = .ok (.lcmp, 1)) (k : Rn Z M (pc + 1) ls (.int (lg_cmp x y) :: st) w ca sa K) : Rn Z M pc ls (.long y :: .long x :: st) w ca sa K := by
  intro p e s m args below meth c H locs cells slots mc ms A ad0 ad ws tys la sta hC hW hL hS hp h1 h2
  obtain ⟨_, _, rfl, rfl, _, _, rfl, rfl, hS⟩ := hS
  exact W.lcmp hC.1 hC.2.1 hd (k.go hC hW hL ⟨_, _, rfl, rfl, hS⟩ hp h1 h2)
theorem rn_i2l {x : Int32} (hd : decode M.2.1 pc = .ok (.i2l, 1)) (k : Rn Z M (pc + 1) ls (.long (x.toInt64) :: st) w ca sa K) : Rn Z M pc ls (.int x :: st) w ca sa K := by
  intro p e s m args below meth c H locs cells slots mc ms A ad0 ad ws tys la sta hC hW hL hS hp h1 h2
  obtain ⟨_, _, rfl, rfl, hS⟩ := hS
  exact lv_i2l hC.1 hC.2.1 hd rfl (k.go hC hW hL ⟨_, _, rfl, rfl, hS⟩ hp h1 h2)
theorem rn_l2i {x : Int64} (hd : decode M.2.1 pc = .ok (.l2i, 1)) (k : Rn Z M (pc + 1) ls (.int (x.toInt32) :: st) w ca sa K) : Rn Z M pc ls (.long x :: st) w ca sa K := by
  intro p e s m args below meth c H locs cells slots mc ms A ad0 ad ws tys la sta hC hW hL hS hp h1 h2
  obtain ⟨_, _, rfl, rfl, hS⟩ := hS
  exact lv_l2i hC.1 hC.2.1 hd rfl (k.go hC hW hL ⟨_, _, rfl, rfl, hS⟩ hp h1 h2)
theorem rn_i2c {x : Int32} (hd : decode M.2.1 pc = .ok (.i2c, 1)) (k : Rn Z M (pc + 1) ls (.int ((x.toUInt32 % 65536).toInt32) :: st) w ca sa K) : Rn Z M pc ls (.int x :: st) w ca sa K := by
  intro p e s m args below meth c H locs cells slots mc ms A ad0 ad ws tys la sta hC hW hL hS hp h1 h2
  obtain ⟨_, _, rfl, rfl, hS⟩ := hS
  exact lv_i2c hC.1 hC.2.1 hd rfl (k.go hC hW hL ⟨_, _, rfl, rfl, hS⟩ hp h1 h2)
theorem rn_dup {v : Value} (hd : decode M.2.1 pc = .ok (.dup, 1)) (hv : v.category = 1) (k : Rn Z M (pc + 1) ls (v :: v :: st) w ca sa K) : Rn Z M pc ls (v :: st) w ca sa K := by
  intro p e s m args below meth c H locs cells slots mc ms A ad0 ad ws tys la sta hC hW hL hS hp h1 h2
  obtain ⟨u, us, rfl, hu, hS⟩ := hS
  exact lv_dup hC.1 hC.2.1 hd (by rw [rn_v_cat hu]; exact hv) (k.go hC hW hL ⟨_, _, rfl, hu, _, _, rfl, hu, hS⟩ hp h1 h2)
theorem rn_pop {v : Value} (hd : decode M.2.1 pc = .ok (.pop, 1)) (hv : v.category = 1) (k : Rn Z M (pc + 1) ls st w ca sa K) : Rn Z M pc ls (v :: st) w ca sa K := by
  intro p e s m args below meth c H locs cells slots mc ms A ad0 ad ws tys la sta hC hW hL hS hp h1 h2
  obtain ⟨u, us, rfl, hu, hS⟩ := hS
  exact lv_pop hC.1 hC.2.1 hd (by rw [rn_v_cat hu]; exact hv) (k.go hC hW hL hS hp h1 h2)
theorem rn_dup2 {v v2 : Value} (hd : decode M.2.1 pc = .ok (.dup2, 1)) (hv : v.category = 1) (hv2 : v2.category = 1) (k : Rn Z M (pc + 1) ls (v :: v2 :: v :: v2 :: st) w ca sa K) : Rn Z M pc ls (v :: v2 :: st) w ca sa K := by
  intro p e s m args below meth c H locs cells slots mc ms A ad0 ad ws tys la sta hC hW hL hS hp h1 h2
  obtain ⟨u, us, rfl, hu, u2, us2, rfl, hu2, hS⟩ := hS
  exact lv_dup2_11 hC.1 hC.2.1 hd (by rw [rn_v_cat hu]; exact hv) (by rw [rn_v_cat hu2]; exact hv2) (k.go hC hW hL ⟨_, _, rfl, hu, _, _, rfl, hu2, _, _, rfl, hu, _, _, rfl, hu2, hS⟩ hp h1 h2)
theorem rn_dup_x1 {v v2 : Value} (hd : decode M.2.1 pc = .ok (.dup_x1, 1)) (hv : v.category = 1) (hv2 : v2.category = 1) (k : Rn Z M (pc + 1) ls (v :: v2 :: v :: st) w ca sa K) : Rn Z M pc ls (v :: v2 :: st) w ca sa K := by
  intro p e s m args below meth c H locs cells slots mc ms A ad0 ad ws tys la sta hC hW hL hS hp h1 h2
  obtain ⟨u, us, rfl, hu, u2, us2, rfl, hu2, hS⟩ := hS
  exact lv_dup_x1 hC.1 hC.2.1 hd (by rw [rn_v_cat hu]; exact hv) (by rw [rn_v_cat hu2]; exact hv2) (k.go hC hW hL ⟨_, _, rfl, hu, _, _, rfl, hu2, _, _, rfl, hu, hS⟩ hp h1 h2)
theorem rn_if_eq_t {x : Int32} {off : Int} (tgt : Nat) (hd : decode M.2.1 pc = .ok (.ifCond .eq off, 3)) (ht : (pc : Int) + off = (tgt : Int)) (h : x = 0) (k : Rn Z M tgt ls st w ca sa K) : Rn Z M pc ls (.int x :: st) w ca sa K := by
  intro p e s m args below meth c H locs cells slots mc ms A ad0 ad ws tys la sta hC hW hL hS hp h1 h2
  obtain ⟨_, _, rfl, rfl, hS⟩ := hS
  exact lv_if_eq hC.1 hC.2.1 hd ht (fun _ => k.go hC hW hL hS hp h1 h2) (fun n => absurd h n)
theorem rn_if_eq_f {x : Int32} {off : Int} (tgt : Nat) (hd : decode M.2.1 pc = .ok (.ifCond .eq off, 3)) (ht : (pc : Int) + off = (tgt : Int)) (h : ¬ x = 0) (k : Rn Z M (pc + 3) ls st w ca sa K) : Rn Z M pc ls (.int x :: st) w ca sa K := by
  intro p e s m args below meth c H locs cells slots mc ms A ad0 ad ws tys la sta hC hW hL hS hp h1 h2
  obtain ⟨_, _, rfl, rfl, hS⟩ := hS
  exact lv_if_eq hC.1 hC.2.1 hd ht (fun n => absurd n h) (fun _ => k.go hC hW hL hS hp h1 h2)
theorem rn_icmp_eq_t {x y : Int32} {off : Int} (tgt : Nat) (hd : decode M.2.1 pc = .ok (.if_icmp .eq off, 3)) (ht : (pc : Int) + off = (tgt : Int)) (h : x = y) (k : Rn Z M tgt ls st w ca sa K) : Rn Z M pc ls (.int y :: .int x :: st) w ca sa K := by
  intro p e s m args below meth c H locs cells slots mc ms A ad0 ad ws tys la sta hC hW hL hS hp h1 h2
  obtain ⟨_, _, rfl, rfl, _, _, rfl, rfl, hS⟩ := hS
  exact lv_icmp_eq hC.1 hC.2.1 hd ht (fun _ => k.go hC hW hL hS hp h1 h2) (fun n => absurd h n)
theorem rn_icmp_eq_f {x y : Int32} {off : Int} (tgt : Nat) (hd : decode M.2.1 pc = .ok (.if_icmp .eq off, 3)) (ht : (pc : Int) + off = (tgt : Int)) (h : ¬ x = y) (k : Rn Z M (pc + 3) ls st w ca sa K) : Rn Z M pc ls (.int y :: .int x :: st) w ca sa K := by
  intro p e s m args below meth c H locs cells slots mc ms A ad0 ad ws tys la sta hC hW hL hS hp h1 h2
  obtain ⟨_, _, rfl, rfl, _, _, rfl, rfl, hS⟩ := hS
  exact lv_icmp_eq hC.1 hC.2.1 hd ht (fun n => absurd n h) (fun _ => k.go hC hW hL hS hp h1 h2)
theorem rn_if_ne_t {x : Int32} {off : Int} (tgt : Nat) (hd : decode M.2.1 pc = .ok (.ifCond .ne off, 3)) (ht : (pc : Int) + off = (tgt : Int)) (h : ¬ x = 0) (k : Rn Z M tgt ls st w ca sa K) : Rn Z M pc ls (.int x :: st) w ca sa K := by
  intro p e s m args below meth c H locs cells slots mc ms A ad0 ad ws tys la sta hC hW hL hS hp h1 h2
  obtain ⟨_, _, rfl, rfl, hS⟩ := hS
  exact lv_if_ne hC.1 hC.2.1 hd ht (fun _ => k.go hC hW hL hS hp h1 h2) (fun n => absurd n h)
theorem rn_if_ne_f {x : Int32} {off : Int} (tgt : Nat) (hd : decode M.2.1 pc = .ok (.ifCond .ne off, 3)) (ht : (pc : Int) + off = (tgt : Int)) (h : x = 0) (k : Rn Z M (pc + 3) ls st w ca sa K) : Rn Z M pc ls (.int x :: st) w ca sa K := by
  intro p e s m args below meth c H locs cells slots mc ms A ad0 ad ws tys la sta hC hW hL hS hp h1 h2
  obtain ⟨_, _, rfl, rfl, hS⟩ := hS
  exact lv_if_ne hC.1 hC.2.1 hd ht (fun n => absurd h n) (fun _ => k.go hC hW hL hS hp h1 h2)
theorem rn_icmp_ne_t {x y : Int32} {off : Int} (tgt : Nat) (hd : decode M.2.1 pc = .ok (.if_icmp .ne off, 3)) (ht : (pc : Int) + off = (tgt : Int)) (h : ¬ x = y) (k : Rn Z M tgt ls st w ca sa K) : Rn Z M pc ls (.int y :: .int x :: st) w ca sa K := by
  intro p e s m args below meth c H locs cells slots mc ms A ad0 ad ws tys la sta hC hW hL hS hp h1 h2
  obtain ⟨_, _, rfl, rfl, _, _, rfl, rfl, hS⟩ := hS
  exact lv_icmp_ne hC.1 hC.2.1 hd ht (fun _ => k.go hC hW hL hS hp h1 h2) (fun n => absurd n h)
theorem rn_icmp_ne_f {x y : Int32} {off : Int} (tgt : Nat) (hd : decode M.2.1 pc = .ok (.if_icmp .ne off, 3)) (ht : (pc : Int) + off = (tgt : Int)) (h : x = y) (k : Rn Z M (pc + 3) ls st w ca sa K) : Rn Z M pc ls (.int y :: .int x :: st) w ca sa K := by
  intro p e s m args below meth c H locs cells slots mc ms A ad0 ad ws tys la sta hC hW hL hS hp h1 h2
  obtain ⟨_, _, rfl, rfl, _, _, rfl, rfl, hS⟩ := hS
  exact lv_icmp_ne hC.1 hC.2.1 hd ht (fun n => absurd h n) (fun _ => k.go hC hW hL hS hp h1 h2)
theorem rn_if_lt_t {x : Int32} {off : Int} (tgt : Nat) (hd : decode M.2.1 pc = .ok (.ifCond .lt off, 3)) (ht : (pc : Int) + off = (tgt : Int)) (h : x < 0) (k : Rn Z M tgt ls st w ca sa K) : Rn Z M pc ls (.int x :: st) w ca sa K := by
  intro p e s m args below meth c H locs cells slots mc ms A ad0 ad ws tys la sta hC hW hL hS hp h1 h2
  obtain ⟨_, _, rfl, rfl, hS⟩ := hS
  exact lv_if_lt hC.1 hC.2.1 hd ht (fun _ => k.go hC hW hL hS hp h1 h2) (fun n => absurd h n)
theorem rn_if_lt_f {x : Int32} {off : Int} (tgt : Nat) (hd : decode M.2.1 pc = .ok (.ifCond .lt off, 3)) (ht : (pc : Int) + off = (tgt : Int)) (h : ¬ x < 0) (k : Rn Z M (pc + 3) ls st w ca sa K) : Rn Z M pc ls (.int x :: st) w ca sa K := by
  intro p e s m args below meth c H locs cells slots mc ms A ad0 ad ws tys la sta hC hW hL hS hp h1 h2
  obtain ⟨_, _, rfl, rfl, hS⟩ := hS
  exact lv_if_lt hC.1 hC.2.1 hd ht (fun n => absurd n h) (fun _ => k.go hC hW hL hS hp h1 h2)
theorem rn_icmp_lt_t {x y : Int32} {off : Int} (tgt : Nat) (hd : decode M.2.1 pc = .ok (.if_icmp .lt off, 3)) (ht : (pc : Int) + off = (tgt : Int)) (h : x < y) (k : Rn Z M tgt ls st w ca sa K) : Rn Z M pc ls (.int y :: .int x :: st) w ca sa K := by
  intro p e s m args below meth c H locs cells slots mc ms A ad0 ad ws tys la sta hC hW hL hS hp h1 h2
  obtain ⟨_, _, rfl, rfl, _, _, rfl, rfl, hS⟩ := hS
  exact lv_icmp_lt hC.1 hC.2.1 hd ht (fun _ => k.go hC hW hL hS hp h1 h2) (fun n => absurd h n)
theorem rn_icmp_lt_f {x y : Int32} {off : Int} (tgt : Nat) (hd : decode M.2.1 pc = .ok (.if_icmp .lt off, 3)) (ht : (pc : Int) + off = (tgt : Int)) (h : ¬ x < y) (k : Rn Z M (pc + 3) ls st w ca sa K) : Rn Z M pc ls (.int y :: .int x :: st) w ca sa K := by
  intro p e s m args below meth c H locs cells slots mc ms A ad0 ad ws tys la sta hC hW hL hS hp h1 h2
  obtain ⟨_, _, rfl, rfl, _, _, rfl, rfl, hS⟩ := hS
  exact lv_icmp_lt hC.1 hC.2.1 hd ht (fun n => absurd n h) (fun _ => k.go hC hW hL hS hp h1 h2)
theorem rn_if_ge_t {x : Int32} {off : Int} (tgt : Nat) (hd : decode M.2.1 pc = .ok (.ifCond .ge off, 3)) (ht : (pc : Int) + off = (tgt : Int)) (h : 0 ≤ x) (k : Rn Z M tgt ls st w ca sa K) : Rn Z M pc ls (.int x :: st) w ca sa K := by
  intro p e s m args below meth c H locs cells slots mc ms A ad0 ad ws tys la sta hC hW hL hS hp h1 h2
  obtain ⟨_, _, rfl, rfl, hS⟩ := hS
  exact lv_if_ge hC.1 hC.2.1 hd ht (fun _ => k.go hC hW hL hS hp h1 h2) (fun n => absurd h n)
theorem rn_if_ge_f {x : Int32} {off : Int} (tgt : Nat) (hd : decode M.2.1 pc = .ok (.ifCond .ge off, 3)) (ht : (pc : Int) + off = (tgt : Int)) (h : ¬ 0 ≤ x) (k : Rn Z M (pc + 3) ls st w ca sa K) : Rn Z M pc ls (.int x :: st) w ca sa K := by
  intro p e s m args below meth c H locs cells slots mc ms A ad0 ad ws tys la sta hC hW hL hS hp h1 h2
  obtain ⟨_, _, rfl, rfl, hS⟩ := hS
  exact lv_if_ge hC.1 hC.2.1 hd ht (fun n => absurd n h) (fun _ => k.go hC hW hL hS hp h1 h2)
theorem rn_icmp_ge_t {x y : Int32} {off : Int} (tgt : Nat) (hd : decode M.2.1 pc = .ok (.if_icmp .ge off, 3)) (ht : (pc : Int) + off = (tgt : Int)) (h : y ≤ x) (k : Rn Z M tgt ls st w ca sa K) : Rn Z M pc ls (.int y :: .int x :: st) w ca sa K := by
  intro p e s m args below meth c H locs cells slots mc ms A ad0 ad ws tys la sta hC hW hL hS hp h1 h2
  obtain ⟨_, _, rfl, rfl, _, _, rfl, rfl, hS⟩ := hS
  exact lv_icmp_ge hC.1 hC.2.1 hd ht (fun _ => k.go hC hW hL hS hp h1 h2) (fun n => absurd h n)
theorem rn_icmp_ge_f {x y : Int32} {off : Int} (tgt : Nat) (hd : decode M.2.1 pc = .ok (.if_icmp .ge off, 3)) (ht : (pc : Int) + off = (tgt : Int)) (h : ¬ y ≤ x) (k : Rn Z M (pc + 3) ls st w ca sa K) : Rn Z M pc ls (.int y :: .int x :: st) w ca sa K := by
  intro p e s m args below meth c H locs cells slots mc ms A ad0 ad ws tys la sta hC hW hL hS hp h1 h2
  obtain ⟨_, _, rfl, rfl, _, _, rfl, rfl, hS⟩ := hS
  exact lv_icmp_ge hC.1 hC.2.1 hd ht (fun n => absurd n h) (fun _ => k.go hC hW hL hS hp h1 h2)
theorem rn_if_gt_t {x : Int32} {off : Int} (tgt : Nat) (hd : decode M.2.1 pc = .ok (.ifCond .gt off, 3)) (ht : (pc : Int) + off = (tgt : Int)) (h : 0 < x) (k : Rn Z M tgt ls st w ca sa K) : Rn Z M pc ls (.int x :: st) w ca sa K := by
  intro p e s m args below meth c H locs cells slots mc ms A ad0 ad ws tys la sta hC hW hL hS hp h1 h2
  obtain ⟨_, _, rfl, rfl, hS⟩ := hS
  exact lv_if_gt hC.1 hC.2.1 hd ht (fun _ => k.go hC hW hL hS hp h1 h2) (fun n => absurd h n)
theorem rn_if_gt_f {x : Int32} {off : Int} (tgt : Nat) (hd : decode M.2.1 pc = .ok (.ifCond .gt off, 3)) (ht : (pc : Int) + off = (tgt : Int)) (h : ¬ 0 < x) (k : Rn Z M (pc + 3) ls st w ca sa K) : Rn Z M pc ls (.int x :: st) w ca sa K := by
  intro p e s m args below meth c H locs cells slots mc ms A ad0 ad ws tys la sta hC hW hL hS hp h1 h2
  obtain ⟨_, _, rfl, rfl, hS⟩ := hS
  exact lv_if_gt hC.1 hC.2.1 hd ht (fun n => absurd n h) (fun _ => k.go hC hW hL hS hp h1 h2)
theorem rn_icmp_gt_t {x y : Int32} {off : Int} (tgt : Nat) (hd : decode M.2.1 pc = .ok (.if_icmp .gt off, 3)) (ht : (pc : Int) + off = (tgt : Int)) (h : y < x) (k : Rn Z M tgt ls st w ca sa K) : Rn Z M pc ls (.int y :: .int x :: st) w ca sa K := by
  intro p e s m args below meth c H locs cells slots mc ms A ad0 ad ws tys la sta hC hW hL hS hp h1 h2
  obtain ⟨_, _, rfl, rfl, _, _, rfl, rfl, hS⟩ := hS
  exact lv_icmp_gt hC.1 hC.2.1 hd ht (fun _ => k.go hC hW hL hS hp h1 h2) (fun n => absurd h n)
theorem rn_icmp_gt_f {x y : Int32} {off : Int} (tgt : Nat) (hd : decode M.2.1 pc = .ok (.if_icmp .gt off, 3)) (ht : (pc : Int) + off = (tgt : Int)) (h : ¬ y < x) (k : Rn Z M (pc + 3) ls st w ca sa K) : Rn Z M pc ls (.int y :: .int x :: st) w ca sa K := by
  intro p e s m args below meth c H locs cells slots mc ms A ad0 ad ws tys la sta hC hW hL hS hp h1 h2
  obtain ⟨_, _, rfl, rfl, _, _, rfl, rfl, hS⟩ := hS
  exact lv_icmp_gt hC.1 hC.2.1 hd ht (fun n => absurd n h) (fun _ => k.go hC hW hL hS hp h1 h2)
theorem rn_if_le_t {x : Int32} {off : Int} (tgt : Nat) (hd : decode M.2.1 pc = .ok (.ifCond .le off, 3)) (ht : (pc : Int) + off = (tgt : Int)) (h : x ≤ 0) (k : Rn Z M tgt ls st w ca sa K) : Rn Z M pc ls (.int x :: st) w ca sa K := by
  intro p e s m args below meth c H locs cells slots mc ms A ad0 ad ws tys la sta hC hW hL hS hp h1 h2
  obtain ⟨_, _, rfl, rfl, hS⟩ := hS
  exact lv_if_le hC.1 hC.2.1 hd ht (fun _ => k.go hC hW hL hS hp h1 h2) (fun n => absurd h n)
theorem rn_if_le_f {x : Int32} {off : Int} (tgt : Nat) (hd : decode M.2.1 pc = .ok (.ifCond .le off, 3)) (ht : (pc : Int) + off = (tgt : Int)) (h : ¬ x ≤ 0) (k : Rn Z M (pc + 3) ls st w ca sa K) : Rn Z M pc ls (.int x :: st) w ca sa K := by
  intro p e s m args below meth c H locs cells slots mc ms A ad0 ad ws tys la sta hC hW hL hS hp h1 h2
  obtain ⟨_, _, rfl, rfl, hS⟩ := hS
  exact lv_if_le hC.1 hC.2.1 hd ht (fun n => absurd n h) (fun _ => k.go hC hW hL hS hp h1 h2)
theorem rn_icmp_le_t {x y : Int32} {off : Int} (tgt : Nat) (hd : decode M.2.1 pc = .ok (.if_icmp .le off, 3)) (ht : (pc : Int) + off = (tgt : Int)) (h : x ≤ y) (k : Rn Z M tgt ls st w ca sa K) : Rn Z M pc ls (.int y :: .int x :: st) w ca sa K := by
  intro p e s m args below meth c H locs cells slots mc ms A ad0 ad ws tys la sta hC hW hL hS hp h1 h2
  obtain ⟨_, _, rfl, rfl, _, _, rfl, rfl, hS⟩ := hS
  exact lv_icmp_le hC.1 hC.2.1 hd ht (fun _ => k.go hC hW hL hS hp h1 h2) (fun n => absurd h n)
theorem rn_icmp_le_f {x y : Int32} {off : Int} (tgt : Nat) (hd : decode M.2.1 pc = .ok (.if_icmp .le off, 3)) (ht : (pc : Int) + off = (tgt : Int)) (h : ¬ x ≤ y) (k : Rn Z M (pc + 3) ls st w ca sa K) : Rn Z M pc ls (.int y :: .int x :: st) w ca sa K := by
  intro p e s m args below meth c H locs cells slots mc ms A ad0 ad ws tys la sta hC hW hL hS hp h1 h2
  obtain ⟨_, _, rfl, rfl, _, _, rfl, rfl, hS⟩ := hS
  exact lv_icmp_le hC.1 hC.2.1 hd ht (fun n => absurd n h) (fun _ => k.go hC hW hL hS hp h1 h2)
theorem rn_goto {off : Int} (tgt : Nat) (hd : decode M.2.1 pc = .ok (.goto off, 3)) (ht : (pc : Int) + off = (tgt : Int)) (k : Rn Z M tgt ls st w ca sa K) : Rn Z M pc ls st w ca sa K := by
  intro p e s m args below meth c H locs cells slots mc ms A ad0 ad ws tys la sta hC hW hL hS hp h1 h2
  exact lv_goto hC.1 hC.2.1 hd ht (k.go hC hW hL hS hp h1 h2)
theorem rn_tabIn {dflt lo hi off : Int} {offs : Array Int} {len : Nat} {x : Int32} (tgt : Nat) (hd : decode M.2.1 pc = .ok (.tableswitch dflt lo hi offs, len)) (g1 : ¬ x.toInt < lo) (g2 : ¬ hi < x.toInt) (ho : offs[(x.toInt - lo).toNat]? = some off) (ht : (pc : Int) + off = (tgt : Int)) (k : Rn Z M tgt ls st w ca sa K) : Rn Z M pc ls (.int x :: st) w ca sa K := by
  intro p e s m args below meth c H locs cells slots mc ms A ad0 ad ws tys la sta hC hW hL hS hp h1 h2
  obtain ⟨_, _, rfl, rfl, hS⟩ := hS
  exact lv_tableIn hC.1 hC.2.1 hd g1 g2 ho ht (k.go hC hW hL hS hp h1 h2)
theorem rn_tabOut {dflt lo hi : Int} {offs : Array Int} {len : Nat} {x : Int32} (tgt : Nat) (hd : decode M.2.1 pc = .ok (.tableswitch dflt lo hi offs, len)) (g : x.toInt < lo ∨ hi < x.toInt) (ht : (pc : Int) + dflt = (tgt : Int)) (k : Rn Z M tgt ls st w ca sa K) : Rn Z M pc ls (.int x :: st) w ca sa K := by
  intro p e s m args below meth c H locs cells slots mc ms A ad0 ad ws tys la sta hC hW hL hS hp h1 h2
  obtain ⟨_, _, rfl, rfl, hS⟩ := hS
  exact lv_tableOut hC.1 hC.2.1 hd g ht (k.go hC hW hL hS hp h1 h2)
end
