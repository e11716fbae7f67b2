/-! new long[6][24]: the outer array (1, 0) and its rows (2, 0) .. (2, 5) -/
def hp_nwG (x : hp_S) : hp_S := (fun t => if t = (1, 0) ∨ (t.1 = 2 ∧ t.2 < 6) then true else x.1 t, fun t k => if t = (1, 0) ∨ (t.1 = 2 ∧ t.2 < 6) then 0 else x.2.1 t k, fun t k => if t = (1, 0) ∨ (t.1 = 2 ∧ t.2 < 6) then 0 else x.2.2.1 t k, fun t k => if t = (1, 0) then (if k < 6 then some (2, k) else none) else if t.1 = 2 ∧ t.2 < 6 then none else x.2.2.2 t k)
def hp_adG (ad : hp_T → Nat) (q : Nat) : hp_T → Nat := fun t => if t = (1, 0) then q else if t.1 = 2 ∧ t.2 < 6 then q + 1 + t.2 else ad t
theorem hp_outer (c : ClassId) (N h0 : Nat) : ∀ i : Nat, Jvm.Free.Multi.outerC c N h0 i = arrV c N (fun j => va_rf (if j < i then some (h0 + 1 + j) else none))
  | 0 => by
    show ({ cls := c, slots := Array.replicate N .null, vm := .none } : Cell) = _
    rw [arrV_new]
    refine congrArg (arrV c N) (funext fun j => ?_)
    simp [va_rf]
  | i + 1 => by
    show (Jvm.Free.Multi.outerC c N h0 i).setSlot i (.ref (h0 + 1 + i)) = _
    rw [hp_outer c N h0 i, arrV_store]
    refine congrArg (arrV c N) (funext fun j => ?_)
    by_cases e : j = i
    · subst e
      simp [updV, va_rf]
    · by_cases h : j < i
      · simp [updV, e, h, Nat.lt_succ_of_lt h]
      · simp [updV, e, h, show ¬ j < i + 1 by omega]
theorem hp_H.mkG {D : va_G} {cA : Nat → ClassId} {B0 : Nat} {ad : hp_T → Nat} {x : hp_S} {H H1 : Heap} (h : hp_H D cA B0 ad x H) (h1 : x.1 (1, 0) = false) (h2 : ∀ i, i < 6 → x.1 (2, i) = false) (e0 : H1[H.size]? = some (arrV (cA 3) 6 (fun j => va_rf (if j < 6 then some (H.size + 1 + j) else none)))) (e1 : ∀ i, i < 6 → H1[H.size + 1 + i]? = some (arrV (cA 1) 24 (fun _ => .long 0))) (hz : H1.size = H.size + 7) (oq : ∀ q : Nat, q < H.size → H1[q]? = H[q]?) : hp_H D cA B0 (hp_adG ad H.size) (hp_nwG x) H1 := by
  have hlt : ∀ t', x.1 t' = true → ad t' < H.size := fun t' h' => (h.2.1 t' h').2.lt
  have hn1 : ∀ t', x.1 t' = true → t' ≠ (1, 0) := fun t' h' e => by rw [e, h1] at h'; cases h'
  have hn2 : ∀ t', x.1 t' = true → ¬ (t'.1 = 2 ∧ t'.2 < 6) := fun t' h' e => by
    obtain ⟨a, b⟩ := t'
    obtain ⟨ea, eb⟩ := e
    simp only at ea eb
    subst ea
    rw [h2 b eb] at h'
    cases h'
  have hcase : ∀ t', (hp_nwG x).1 t' = true → t' = (1, 0) ∨ (t'.1 = 2 ∧ t'.2 < 6) ∨ x.1 t' = true := fun t' h' => by
    simp only [hp_nwG] at h'
    split at h'
    · rename_i q
      rcases q with q | q
      · exact Or.inl q
      · exact Or.inr (Or.inl q)
    · exact Or.inr (Or.inr h')
  have hadOld : ∀ t', x.1 t' = true → hp_adG ad H.size t' = ad t' := fun t' h' => by simp only [hp_adG, if_neg (hn1 t' h'), if_neg (hn2 t' h')]
  have hadRow : ∀ t', (t'.1 = 2 ∧ t'.2 < 6) → hp_adG ad H.size t' = H.size + 1 + t'.2 := fun t' h' => by
    have : t' ≠ (1, 0) := fun e => by rw [e] at h'; exact absurd h'.1 (by decide)
    simp only [hp_adG, if_neg this, if_pos h']
  have hadO : hp_adG ad H.size (1, 0) = H.size := by simp [hp_adG]
  refine ⟨by rw [hz]; have := h.1; omega, fun t' h' => ?_, fun t1 t2 g1 g2 e => ?_, fun t1 k t2 g1 g2 => ?_⟩
  · rcases hcase t' h' with q | q | q
    · subst q
      rw [hadO]
      refine ⟨h.1, ?_⟩
      rw [hp_cell_a (a := 3) (n := 6) rfl]
      show H1[H.size]? = some (arrV (cA 3) 6 (fun j => va_rf (((hp_nwG x).2.2.2 (1, 0) j).map (hp_adG ad H.size))))
      rw [e0]
      refine congrArg some (congrArg (arrV (cA 3) 6) (funext fun j => ?_))
      by_cases hj : j < 6
      · simp [hp_nwG, hj, hp_adG]
      · simp [hp_nwG, hj]
    · rw [hadRow t' q]
      refine ⟨by have := h.1; omega, ?_⟩
      obtain ⟨a, b⟩ := t'
      obtain ⟨ea, eb⟩ := q
      simp only at ea eb
      subst ea
      rw [hp_cell_a (a := 1) (n := 24) rfl]
      show H1[H.size + 1 + b]? = some (arrV (cA 1) 24 (fun j => .long ((hp_nwG x).2.2.1 (2, b) j)))
      rw [e1 b eb]
      refine congrArg some (congrArg (arrV (cA 1) 24) (funext fun j => ?_))
      simp [hp_nwG, eb]
    · rw [hadOld t' q]
      refine ⟨(h.2.1 t' q).1, ?_⟩
      have en : ¬ (t' = (1, 0) ∨ (t'.1 = 2 ∧ t'.2 < 6)) := fun z => z.elim (hn1 t' q) (hn2 t' q)
      rw [show hp_cell cA (hp_adG ad H.size) (hp_nwG x) t' = hp_cell cA ad x t' from hp_cell_congr (by funext k; simp only [hp_nwG, if_neg en]) (by funext k; simp only [hp_nwG, if_neg en]) (fun k => by
        have e3 : (hp_nwG x).2.2.2 t' k = x.2.2.2 t' k := by simp only [hp_nwG, if_neg (hn1 t' q), if_neg (hn2 t' q)]
        rw [e3]
        cases hq : x.2.2.2 t' k with
        | none => rfl
        | some t2 => simp only [Option.map_some, hadOld t2 (h.2.2.2 t' k t2 q hq)])]
      exact (h.2.1 t' q).2.kept (oq _ (hlt t' q))
  · have key : ∀ t', (hp_nwG x).1 t' = true → (t' = (1, 0) ∧ hp_adG ad H.size t' = H.size) ∨ ((t'.1 = 2 ∧ t'.2 < 6) ∧ hp_adG ad H.size t' = H.size + 1 + t'.2) ∨ (x.1 t' = true ∧ hp_adG ad H.size t' = ad t' ∧ ad t' < H.size) := fun t' h' => by
      rcases hcase t' h' with q | q | q
      · exact Or.inl ⟨q, by rw [q]; exact hadO⟩
      · exact Or.inr (Or.inl ⟨q, hadRow t' q⟩)
      · exact Or.inr (Or.inr ⟨q, hadOld t' q, hlt t' q⟩)
    rcases key t1 g1 with ⟨q1, r1⟩ | ⟨q1, r1⟩ | ⟨q1, r1, s1⟩ <;> rcases key t2 g2 with ⟨q2, r2⟩ | ⟨q2, r2⟩ | ⟨q2, r2, s2⟩ <;> rw [r1, r2] at e
    · rw [q1, q2]
    · omega
    · omega
    · omega
    · obtain ⟨a1, b1⟩ := t1
      obtain ⟨a2, b2⟩ := t2
      simp only at q1 q2 e
      rw [q1.1, q2.1, show b1 = b2 by omega]
    · omega
    · omega
    · omega
    · exact h.2.2.1 t1 t2 q1 q2 e
  · have hlive : ∀ t', t' = (1, 0) ∨ (t'.1 = 2 ∧ t'.2 < 6) ∨ x.1 t' = true → (hp_nwG x).1 t' = true := fun t' q => by
      simp only [hp_nwG]
      split
      · rfl
      · rename_i hne
        rcases q with q | q | q
        · exact absurd (Or.inl q) hne
        · exact absurd (Or.inr q) hne
        · exact q
    simp only [hp_nwG] at g2
    split at g2
    · split at g2
      · cases g2
        exact hlive _ (Or.inr (Or.inl ⟨rfl, by assumption⟩))
      · cases g2
    · split at g2
      · cases g2
      · rename_i n1 n2
        rcases hcase t1 g1 with q | q | q
        · exact absurd q n1
        · exact absurd q n2
        · exact hlive _ (Or.inr (Or.inr (h.2.2.2 t1 k t2 q g2)))
section HVG
variable {p : Program} {l : Launch} {e : Env} {R : Room} {s : State} {m : MethodId} {args : Array Value} {below : List Frame} {meth : Method} {c : Code} {Q : (hp_T → Nat) → State → Prop} {D : va_G} {cA : Nat → ClassId} {B0 nL cells slots : Nat} {ad0 : hp_T → Nat} {x0 x : hp_S} {lv : List (Nat × hp_A)}
variable {cc : ByteArray} {own : String} {Ts : List Cond} {pc : Nat} {rest : List hp_A}
theorem hv_mna (E : hp_E p s m args meth c cc nL own Ts D cA B0) {index : Nat} (hdg : decode cc pc = .ok (.multianewarray index 2, 4)) (hcl : Cond.classLink own index "[[J" ∈ Ts) (harr : Cond.arrayClass .long ∈ Ts) (h1 : x.1 (1, 0) = false) (h2 : ∀ i, i < 6 → x.1 (2, i) = false) (hcells : cells + 7 ≤ R.cells) (hslots : slots + 150 ≤ R.slots)
    (kk : hp_V p l e R s m args below meth c Q D cA B0 nL ad0 x0 (cells + 7) (slots + 150) (hp_nwG x) (pc + 4) lv (aR (1, 0) :: rest)) : hp_V p l e R s m args below meth c Q D cA B0 nL ad0 x0 cells slots x pc lv (aI (nI 24) :: aI (nI 6) :: rest) := by
  intro ad H locs ls hG hx0 hl0 hst hS hl
  obtain ⟨hx, hb, hml, hown, hts⟩ := E.1
  intro T hT X
  have n6 : (nI 6).toNatClampNeg = 6 := by decide
  have n24 : (nI 24).toNatClampNeg = 24 := by decide
  obtain ⟨vm₁, cO, comp, -, fA, fC, -, -, X', step⟩ := X.multianewarray2F hx hown (hts _ hcl) E.2.1.2.2.2.1 (hts _ harr) (g := F0 m pc ls (.int (nI 24) :: .int (nI 6) :: rest.map (hp_c ad))) rfl (by rw [hb]; exact hdg) rfl (by decide) (by decide) (by rw [n6]; decide) (by rw [n24]; decide) (by rw [n24]; decide) rfl rfl (by rw [n6]; omega) (by rw [n6, n24]; omega)
  have hO : cO = cA 3 := by
    have h9 := (E.2.1.1.2 3 _ (hp_tys_at (cA := cA) (a := 3) (by decide))).2
    exact Option.some.inj (fA.symm.trans h9)
  have hC : comp = cA 1 := by
    have h9 := (E.2.1.1.2 1 _ (hp_tys_at (cA := cA) (a := 1) (by decide))).2
    exact Option.some.inj (fC.symm.trans h9)
  subst hO
  subst hC
  rw [n6, n24] at X' step
  generalize hF : Jvm.Free.Multi.fill (T.setVm vm₁) (cA 3) (cA 1) 6 24 (defaultValue .long) 6 = F at X' step
  have hTh : (T.setVm vm₁).heap = H := hT
  obtain ⟨f1, f2, -, -⟩ := Jvm.Free.Multi.fill_facts (T.setVm vm₁) (cA 3) (cA 1) 6 24 (defaultValue .long) 6
  rw [hF, hTh] at f1 f2
  have hold : ∀ y : Nat, y < H.size → F.heap[y]? = H[y]? := fun y hy => by
    have := Jvm.Free.Multi.fill_old (T.setVm vm₁) (cA 3) (cA 1) 6 24 (defaultValue .long) (a := y) (by rw [hTh]; exact hy) 6
    rw [hF, hTh] at this
    exact this
  have hrow : ∀ j : Nat, j < 6 → F.heap[H.size + 1 + j]? = some (arrV (cA 1) 24 (fun _ => .long 0)) := fun j hj => by
    have := Jvm.Free.Multi.fill_inner (T.setVm vm₁) (cA 3) (cA 1) 6 24 (defaultValue .long) 6 j hj
    rw [hF, hTh] at this
    rw [this]
    exact congrArg some (arrV_new (cA 1) 24 (.long 0))
  rw [hp_outer] at f2
  have hmono : ∀ t', x.1 t' = true → (hp_nwG x).1 t' = true := fun t' h => by
    simp only [hp_nwG]
    split
    · rfl
    · exact h
  have hsame : ∀ t', x.1 t' = true → hp_adG ad H.size t' = ad t' := fun t' h => by
    have e1 : t' ≠ (1, 0) := fun e => by rw [e, h1] at h; cases h
    have e2 : ¬ (t'.1 = 2 ∧ t'.2 < 6) := fun e => by
      obtain ⟨a, b⟩ := t'
      obtain ⟨ea, eb⟩ := e
      simp only at ea eb
      subst ea
      rw [h2 b eb] at h
      cases h
    simp only [hp_adG, if_neg e1, if_neg e2]
  have hst2 : hp_oks x.1 rest := hst.2.2
  have w := kk (hp_adG ad H.size) F.heap locs ls (hG.mkG h1 h2 f2 hrow (by rw [f1]) hold) (fun t' h => ⟨hmono t' (hx0 t' h).1, (hsame t' (hx0 t' h).1).trans (hx0 t' h).2⟩) (fun q hq => hp_ok_mono hmono (hl0 q hq)) ⟨by simp [hp_ok, hp_nwG], hp_oks_mono hmono hst2⟩
    ⟨by rw [f1]; have := hS.1; omega, fun y g1 g2 => (hold y (Nat.lt_of_lt_of_le g1 hS.1)).trans (hS.2.1 y g1 g2), hS.2.2⟩ (by rw [hp_cl_same hsame hl0]; exact hl)
  rw [List.map_cons, hp_cs_same hsame hst2] at w
  have e2 : hp_c (hp_adG ad H.size) (aR (1, 0)) = .ref H.size := by simp [hp_c, hp_adG, va_rf]
  rw [e2] at w
  obtain ⟨t9, a1, b1⟩ := w F rfl X'
  refine ⟨t9, step t9 ?_, b1⟩
  have e9 : T.heap.size = H.size := by rw [hT]
  rw [e9]
  exact a1
end HVG
