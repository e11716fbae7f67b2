/-! the law's start: the tables' numbers; nothing is there yet -/
theorem hp_arrP {s : State} {A : Array Value} {ty : FieldType} (h : (Cond.arrayClass ty).before A s = true) (hnr : ∀ cA : ClassId, s.vm.findClass ("[" ++ ty.toString) = some cA → va_RA s cA ty) : ∃ cA : ClassId, ArrOfT s cA ty ∧ va_RA s cA ty := by
  obtain ⟨cA, kA, comp, h1, h2, h3⟩ := Cond.arrayClass_spec h
  exact ⟨cA, fun n z => ⟨fun k h => (by cases h), kA, h2, comp, h3⟩, hnr cA h1⟩
theorem hp_arrO {s : State} {C : String} (h : va_AO C s) : ∃ cA : ClassId, ArrOfT s cA (.object C) ∧ va_RA s cA (.object C) := by
  obtain ⟨comp, cA, k, h1, h2, h3, h4, h5⟩ := Cond.arrayOver_spec h
  exact ⟨cA, fun n z => ⟨fun k h => (by cases h), k, h3, comp, h4⟩, k, comp, h3, h4, h1, h5⟩
theorem hp_arrA {s : State} (h : hp_AOA s) : ∃ cA : ClassId, ArrOfT s cA (.array .long) ∧ va_RA s cA (.array .long) := by
  obtain ⟨comp, cA, k, h1, h2, h3, h4, h5⟩ := hp_AOA_spec h
  exact ⟨cA, fun n z => ⟨fun k h => (by cases h), k, h3, comp, h4⟩, h5⟩
theorem hp_H0 {D : va_G} {cA : Nat → ClassId} {ad : hp_T → Nat} {H : Heap} : hp_H D cA H.size ad hp_x0 H :=
  ⟨Nat.le_refl _, fun _ h => absurd h (by simp [hp_x0]), fun _ _ h => absurd h (by simp [hp_x0]), fun _ _ _ h => absurd h (by simp [hp_x0])⟩
set_option maxRecDepth 100000 in
set_option maxHeartbeats 4000000 in
theorem whole_start_open {p : Program} {e : Env} {s : State} {m : MethodId} {below : List Frame} {meth : Method} {c : Code} (l : Launch) {b L : Nat} {xs : Nat → Int32} (hL : L ≤ 2560) (C0 : lw_At p s m meth c b L xs) (hk : k_law L xs) : W p l e room_1 s m #[Value.ref b] below meth c s.heap [] 0 0 (lw_Z below #[Value.ref b] s) (entryFrame m ([Value.ref b] : List Value).toArray 4) := by
  obtain ⟨hx, hb, hr, hml, hown, hts, hX, hbl, hlocks, hgv⟩ := id C0
  have hw : ∀ w ∈ hp_ws, w.before #[Value.ref b] s = true := fun w h => hts w (hp_ws_tbl w h)
  have hAO : hp_AO s := ⟨va_AO.of (hts (.arrayOver (.object "VersionJoins$Step")) (by decide +kernel)), va_AO.of (hts (.arrayOver (.object "VersionJoins$Session")) (by decide +kernel)), (show (Cond.arrayOver (.array .long)).before #[] s = true from hts (.arrayOver (.array .long)) (by decide +kernel)), va_Nw.of rfl (hts (.methodLinkNest "VersionJoins" 36 yX0_init "VersionJoins") (by decide +kernel)), va_Nw.of rfl (hts (.methodLinkNest "VersionJoins" 93 yX1_init "VersionJoins") (by decide +kernel))⟩
  obtain ⟨c0, i0, k0⟩ := u_known (C := "VersionJoins$Conflicts") (T := TX0) (N := 6) (n := 6) hw hiX0 (hts (.instantiable "VersionJoins$Conflicts" 6) (by decide +kernel))
  obtain ⟨c1, i1, k1⟩ := u_known (C := "VersionJoins$Session") (T := TX1) (N := 5) (n := 5) hw hiX1 (hts (.instantiable "VersionJoins$Session" 5) (by decide +kernel))
  obtain ⟨c2, i2, k2⟩ := u_known (C := "VersionJoins$Step") (T := TX2) (N := 11) (n := 11) hw hiX2 (hts (.instantiable "VersionJoins$Step" 11) (by decide +kernel))
  obtain ⟨c3, i3, k3⟩ := u_known (C := "VersionJoins") (T := TX3) (N := 11) (n := 11) hw hiX3 (hts (.instantiable "VersionJoins" 11) (by decide +kernel))
  obtain ⟨c4, i4, k4⟩ := u_known (C := "VersionJoinsModel") (T := TX4) (N := 30) (n := 30) hw hiX4 (hts (.instantiable "VersionJoinsModel" 30) (by decide +kernel))
  obtain ⟨D, hD⟩ : ∃ D : va_G, ∀ (k : Nat) (q : vw_C), vwCl[k]? = some q → u_Kn s q.1 q.2.1 q.2.2 (D.1 k) (D.2 k) := by
    refine ⟨(fun k => match k with | 0 => c0 | 1 => c1 | 2 => c2 | 3 => c3 | _ => c4, fun k => match k with | 0 => i0 | 1 => i1 | 2 => i2 | 3 => i3 | _ => i4), ?_⟩
    intro k q hq
    match k, hq with
    | 0, hq => cases hq; exact k0
    | 1, hq => cases hq; exact k1
    | 2, hq => cases hq; exact k2
    | 3, hq => cases hq; exact k3
    | 4, hq => cases hq; exact k4
    | k + 5, hq => simp [vwCl] at hq
  obtain ⟨aI', hI1, hI2⟩ := hp_arrP (ty := .int) (hts (.arrayClass .int) (by decide +kernel)) (fun _ h => h)
  obtain ⟨aJ', hJ1, hJ2⟩ := hp_arrP (ty := .long) (hts (.arrayClass .long) (by decide +kernel)) (fun _ h => h)
  obtain ⟨aZ', hZ1, hZ2⟩ := hp_arrP (ty := .boolean) (hts (.arrayClass .boolean) (by decide +kernel)) (fun _ h => h)
  obtain ⟨aG, hG1, hG2⟩ := hp_arrA hAO.2.2.1
  obtain ⟨aS, hS1, hS2⟩ := hp_arrO hAO.1
  obtain ⟨aE, hE1, hE2⟩ := hp_arrO hAO.2.1
  obtain ⟨cA, hcA⟩ : ∃ cA : Nat → ClassId, ∀ a, a < 6 → ArrOfT s (cA a) (hp_aty a) ∧ va_RA s (cA a) (hp_aty a) := by
    refine ⟨fun k => match k with | 0 => aI' | 1 => aJ' | 2 => aZ' | 3 => aG | 4 => aS | _ => aE, ?_⟩
    intro a ha
    match a, ha with
    | 0, _ => exact ⟨hI1, hI2⟩
    | 1, _ => exact ⟨hJ1, hJ2⟩
    | 2, _ => exact ⟨hZ1, hZ2⟩
    | 3, _ => exact ⟨hG1, hG2⟩
    | 4, _ => exact ⟨hS1, hS2⟩
    | 5, _ => exact ⟨hE1, hE2⟩
    | a + 6, h => exact absurd h (by omega)
  have hK : hp_K D cA s := by
    refine ⟨⟨hD, fun k q hq => ?_⟩, hAO⟩
    have hlt : k < 6 := by
      have := (List.getElem?_eq_some_iff.mp hq).1
      simpa [hp_tys, hp_na] using this
    rw [hp_tys_at (a := k) hlt] at hq
    cases hq
    exact hcA k hlt
  have E : hp_E p s m #[Value.ref b] meth c code 4 "VersionJoinsLaw" hp_ws D cA s.heap.size := ⟨⟨hx, hb, hml, hown, hw⟩, hK, hlocks, Nat.le_refl _⟩
  have hl := lv_entry ([.ref b]) (n := 4) (Nat.le_of_ble_eq_true rfl)
  rw [lg_entry_eq]
  generalize (lg_sl ([.ref b]) ++ List.replicate (4 - (lg_sl ([.ref b])).length) Slot.unset).toArray = ls at hl ⊢
  exact w_law (l := l) (e := e) (below := below) (ad0 := fun _ => 0) (x0 := hp_x0) E hr rfl hX hbl hL hk (fun _ => 0) s.heap [] ls hp_H0 (fun t h => absurd h (by simp [hp_x0])) (fun q hq => by
    rcases List.mem_singleton.mp hq with rfl
    trivial) trivial va_S.rf hl
