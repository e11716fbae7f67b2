/-! THE KINDS: what an abstract object of each kind is: an object (class in vwCl, its places: 0 int, 1 long, 2 reference) or an array (type, length) -/
def hp_kl : List ((Nat × List Nat) ⊕ (Nat × Nat)) := [
  .inl (3, [2, 2, 2, 2, 2, 2, 0, 0, 0, 0, 0]),
  .inr (3, 6),
  .inr (1, 24),
  .inr (0, 24),
  .inr (4, 12),
  .inr (5, 40),
  .inl (0, [2, 2, 2, 2, 2, 0]),
  .inr (0, 24),
  .inr (1, 24),
  .inr (1, 24),
  .inr (2, 24),
  .inl (2, [0, 2, 2, 2, 0, 0, 0, 0, 0, 0, 1]),
  .inr (0, 8),
  .inr (0, 4),
  .inr (1, 8),
  .inl (1, [2, 2, 2, 2, 0]),
  .inr (2, 24),
  .inr (1, 24),
  .inr (2, 24),
  .inr (1, 24),
  .inl (4, [0, 0, 2, 0, 2, 2, 2, 2, 2, 0, 0, 2, 2, 2, 2, 0, 2, 2, 2, 2, 2, 2, 2, 2, 2, 2, 2, 2, 0, 0]),
  .inr (1, 144),
  .inr (2, 40),
  .inr (2, 960),
  .inr (2, 960),
  .inr (1, 960),
  .inr (1, 960),
  .inr (0, 24),
  .inr (1, 24),
  .inr (1, 24),
  .inr (2, 24),
  .inr (0, 12),
  .inr (0, 96),
  .inr (0, 12),
  .inr (0, 48),
  .inr (0, 12),
  .inr (2, 12),
  .inr (0, 12),
  .inr (0, 12),
  .inr (1, 96),
  .inr (1, 12),
  .inr (2, 12),
  .inr (2, 12)]
def hp_kd (n : Nat) : (Nat × List Nat) ⊕ (Nat × Nat) := hp_kl.getD n (.inr (0, 0))
def hp_atl : List FieldType := [.int, .long, .boolean, .array .long, .object "VersionJoins$Step", .object "VersionJoins$Session"]
def hp_aty (a : Nat) : FieldType := hp_atl.getD a .int
def hp_na : Nat := 6
/-- where the references of an object that is whole point to: the kind; the number is the owner's -/
def hp_xl : List (List (Option Nat)) := [
  [some 1, some 2, some 3, some 4, some 5, some 6, none, none, none, none, none],
  [],
  [],
  [],
  [],
  [],
  [some 7, some 8, some 9, some 10, none, none],
  [],
  [],
  [],
  [],
  [none, some 12, some 13, some 14, none, none, none, none, none, none, none],
  [],
  [],
  [],
  [some 16, some 17, some 18, some 19, none],
  [],
  [],
  [],
  [],
  [none, none, some 21, none, some 22, some 23, some 24, some 25, some 26, none, none, some 27, some 28, some 29, some 30, none, some 31, some 32, some 33, some 34, some 35, some 36, some 37, some 38, some 39, some 40, some 41, some 42, none, none],
  [],
  [],
  [],
  [],
  [],
  [],
  [],
  [],
  [],
  [],
  [],
  [],
  [],
  [],
  [],
  [],
  [],
  [],
  [],
  [],
  [],
  []]
def hp_ex (t : Nat × Nat) (k : Nat) : Option (Nat × Nat) := if t.1 = 1 then (if k < 6 then some (2, k) else none) else ((hp_xl.getD t.1 []).getD k none).map (fun q => (q, t.2))
/-- what the tables say beside the words that last -/
def hp_AO (U : State) : Prop := va_AO "VersionJoins$Step" U ∧ va_AO "VersionJoins$Session" U ∧ (Cond.arrayOver (.array .long)).before #[] U = true ∧ va_Nw (.methodLinkNest "VersionJoins" 36 yX0_init "VersionJoins") U ∧ va_Nw (.methodLinkNest "VersionJoins" 93 yX1_init "VersionJoins") U
theorem hp_AOA_spec {A : Array Value} {s : State} (h : (Cond.arrayOver (.array .long)).before A s = true) : ∃ comp c k, s.vm.findClass (FieldType.array .long).toString = some comp ∧ (s.vm.classes.findIdx? fun (z : Class) => match z.kind with | .array component _ => component == comp | _ => false) = some c ∧ s.vm.classes[c]? = some k ∧ k.kind = .array comp (.array .long) ∧ s.vm.findClass ("[" ++ (FieldType.array .long).toString) = some c := by
  simp only [Cond.before, Cond.holds, Cond.value, beq_iff_eq] at h
  cases hc : s.vm.findClass (FieldType.array .long).toString with
  | none => simp [hc] at h
  | some comp =>
    simp only [hc, Option.bind_some, Option.bind_eq_some_iff, Option.map_eq_some_iff] at h
    obtain ⟨c, hi, k, hk, hb⟩ := h
    obtain ⟨hlt, hp, -⟩ := Array.findIdx?_eq_some_iff_getElem.mp hi
    have hkk : s.vm.classes[c] = k := (Array.getElem?_eq_some_iff.mp hk).2
    rw [hkk] at hp
    cases hkind : k.kind with
    | array component ty =>
      rw [hkind] at hb hp
      simp at hb hp
      exact ⟨comp, c, k, rfl, hi, hk, by rw [hkind, hp, hb.1], hb.2⟩
    | _ => rw [hkind] at hb; simp at hb
def hp_AOA (U : State) : Prop := (Cond.arrayOver (.array .long)).before #[] U = true
theorem hp_AOA_moved {u U : State} (hvm : u.vm.Alike U.vm) (h : hp_AOA u) : hp_AOA U := by
  obtain ⟨comp, c, k, h1, h2, h3, h4, h5⟩ := hp_AOA_spec h
  obtain ⟨k', hk', he⟩ := hvm.2.2 _ _ h3
  have hi : (U.vm.classes.findIdx? fun (z : Class) => match z.kind with | .array component _ => component == comp | _ => false) = some c := by
    have e1 := va_idx_bare U.vm comp
    have e2 := va_idx_bare u.vm comp
    have hb : U.vm.bare = u.vm.bare := by first | exact hvm.bare_eq | exact hvm.bare_eq.symm
    rw [hb] at e1
    exact (e1.symm.trans e2).trans h2
  have hkind : k'.kind = .array comp (.array .long) := by rw [he]; exact h4
  have f1 : U.vm.findClass (FieldType.array .long).toString = some comp := by rw [hvm.findClass]; exact h1
  have f2 : U.vm.findClass ("[" ++ (FieldType.array .long).toString) = some c := by rw [hvm.findClass]; exact h5
  unfold hp_AOA Cond.before Cond.holds
  simp only [Cond.value]
  rw [f1, Option.bind_some]
  refine (congrArg (fun o : Option Nat => (o.bind (fun c => (U.vm.classes[c]?).map fun (k : Class) => match k.kind with | .array _ ty => decide (ty = FieldType.array .long) && decide (U.vm.findClass ("[" ++ (FieldType.array .long).toString) = some c) | _ => false) == some true)) hi).trans ?_
  simp [hk', hkind, f2]
theorem hp_AO_same {u U : State} (h : u.vm = U.vm) (hA : hp_AO u) : hp_AO U := by
  have hv : u.vm.Alike U.vm := by rw [h]; exact Vm.Alike.refl U.vm
  exact ⟨va_AO.moved hv hA.1, va_AO.moved hv hA.2.1, hp_AOA_moved hv hA.2.2.1, va_Nw.same rfl h hA.2.2.2.1, va_Nw.same rfl h hA.2.2.2.2⟩
theorem hp_AO_warm {u U : State} (hW : u.WarmedH U.vm) (hA : hp_AO u) : hp_AO U :=
  ⟨va_AO.moved hW.alike hA.1, va_AO.moved hW.alike hA.2.1, hp_AOA_moved hW.alike hA.2.2.1, va_Nw.warmM hW hA.2.2.2.1, va_Nw.warmM hW hA.2.2.2.2⟩
