/-! THE COMMON STATE s : sg of class and reference: numbers s.1 and longs s.2, by field, object, place.
numbers: 0 counts (things, branches, steps, sessions, conflicts); 1 a step's kind, uses, makes, ran, uses then, makes then; 2 what it uses; 3 what it makes; 4 open; 5 touched; 6 wrote; 7 the conflicts' things; 8 settled; 9 the conflicts' session.
longs: 0 values by branch; 1 the values that a step used then; 2 what it made; 3 bases; 4 written; 5 the conflicts' own; 6 the others. -/
abbrev sg : Type := (Nat → Nat → Nat → Nat) × (Nat → Nat → Nat → Int64)
def sN (s : sg) (f i k v : Nat) : sg := (fun f' i' k' => if f' = f ∧ i' = i ∧ k' = k then v else s.1 f' i' k', s.2)
def sL (s : sg) (f i k : Nat) (v : Int64) : sg := (s.1, fun f' i' k' => if f' = f ∧ i' = i ∧ k' = k then v else s.2 f' i' k')
theorem sN_N (s : sg) (f i k v f' i' k' : Nat) : (sN s f i k v).1 f' i' k' = if f' = f ∧ i' = i ∧ k' = k then v else s.1 f' i' k' := rfl
theorem sN_L (s : sg) (f i k v : Nat) : (sN s f i k v).2 = s.2 := rfl
theorem sL_N (s : sg) (f i k : Nat) (v : Int64) : (sL s f i k v).1 = s.1 := rfl
theorem sL_L (s : sg) (f i k : Nat) (v : Int64) (f' i' k' : Nat) : (sL s f i k v).2 f' i' k' = if f' = f ∧ i' = i ∧ k' = k then v else s.2 f' i' k' := rfl
/-- which keys there are -/
def okN (f i k : Nat) : Prop := (f = 0 ∧ i < 5 ∧ k = 0) ∨ (f = 1 ∧ k < 6) ∨ (f = 2 ∧ k < 8) ∨ (f = 3 ∧ k < 4) ∨ (f = 4 ∧ k = 0) ∨ (f = 5 ∧ k < 24) ∨ (f = 6 ∧ k < 24) ∨ (f = 7 ∧ k = 0) ∨ (f = 8 ∧ k = 0)
def okL (f i k : Nat) : Prop := (f = 0 ∧ k < 24) ∨ (f = 1 ∧ k < 8) ∨ (f = 2 ∧ k = 0) ∨ (f = 3 ∧ k < 24) ∨ (f = 4 ∧ k < 24) ∨ (f = 5 ∧ k = 0) ∨ (f = 6 ∧ k = 0)
/-- where they lie in the class's objects: tag and place -/
def tXN (f i k : Nat) : hp_T × Nat := match f with
  | 0 => (if i = 4 then ((6, 0), 5) else ((0, 0), 6 + i))
  | 1 => ((11, i), if k = 0 then 0 else if k < 3 then k + 3 else k + 4)
  | 2 => ((12, i), k)
  | 3 => ((13, i), k)
  | 4 => ((15, i), 4)
  | 5 => ((16, i), k)
  | 6 => ((18, i), k)
  | 7 => ((7, 0), i)
  | _ => ((10, 0), i)
def tXL (f i k : Nat) : hp_T × Nat := match f with
  | 0 => ((2, i), k)
  | 1 => ((14, i), k)
  | 2 => ((11, i), 10)
  | 3 => ((17, i), k)
  | 4 => ((19, i), k)
  | 5 => ((8, 0), i)
  | _ => ((9, 0), i)
/-- the class's own numbers: 0 makers, 1 above, 2 changes -/
def tXC (f i : Nat) : hp_T × Nat := match f with
  | 0 => ((3, 0), i)
  | 1 => ((11, i), 6)
  | _ => ((0, 0), 10)
/-- and in the reference's -/
def tMN (f i k : Nat) : hp_T × Nat := match f with
  | 0 => ((20, 0), if i = 0 then 0 else if i = 1 then 1 else if i = 2 then 15 else if i = 3 then 3 else 9)
  | 1 => ((if k = 0 then 31 else if k = 1 then 33 else if k = 2 then 35 else k + 33, 0), i)
  | 2 => ((32, 0), 8 * i + k)
  | 3 => ((34, 0), 4 * i + k)
  | 4 => ((22, 0), i)
  | 5 => ((23, 0), 24 * i + k)
  | 6 => ((24, 0), 24 * i + k)
  | 7 => ((27, 0), i)
  | _ => ((30, 0), i)
def tML (f i k : Nat) : hp_T × Nat := match f with
  | 0 => ((21, 0), 24 * i + k)
  | 1 => ((39, 0), 8 * i + k)
  | 2 => ((40, 0), i)
  | 3 => ((25, 0), 24 * i + k)
  | 4 => ((26, 0), 24 * i + k)
  | 5 => ((28, 0), i)
  | _ => ((29, 0), i)
/-- the reference's own: 0 the conflicts' session, 1 marked, 2 done, 3 changed, 4 ran -/
def tMC (f i : Nat) : hp_T × Nat := match f with
  | 0 => ((20, 0), 10)
  | 1 => ((41, 0), i)
  | 2 => ((42, 0), i)
  | 3 => ((20, 0), 28)
  | _ => ((20, 0), 29)
def okC (f i : Nat) : Prop := f = 0 ∨ f = 1 ∨ (f = 2 ∧ i = 0)
def okD (f i : Nat) : Prop := (f = 0 ∧ i = 0) ∨ f = 1 ∨ f = 2 ∨ (f = 3 ∧ i = 0) ∨ (f = 4 ∧ i = 0)
def RX (x : hp_S) (s : sg) (C : Nat → Nat → Int32) : Prop := (∀ f i k, okN f i k → x.2.1 (tXN f i k).1 (tXN f i k).2 = nI (s.1 f i k)) ∧ (∀ f i k, okL f i k → x.2.2.1 (tXL f i k).1 (tXL f i k).2 = s.2 f i k) ∧ ∀ f i, okC f i → x.2.1 (tXC f i).1 (tXC f i).2 = C f i
def RM (x : hp_S) (s : sg) (C : Nat → Nat → Int32) : Prop := (∀ f i k, okN f i k → x.2.1 (tMN f i k).1 (tMN f i k).2 = nI (s.1 f i k)) ∧ (∀ f i k, okL f i k → x.2.2.1 (tML f i k).1 (tML f i k).2 = s.2 f i k) ∧ ∀ f i, okD f i → x.2.1 (tMC f i).1 (tMC f i).2 = C f i
def cU (C : Nat → Nat → Int32) (f i : Nat) (v : Int32) : Nat → Nat → Int32 := fun f' i' => if f' = f ∧ i' = i then v else C f' i'
theorem tXN_inj {f i k f' i' k' : Nat} (h : okN f i k) (h' : okN f' i' k') (e : tXN f i k = tXN f' i' k') : f = f' ∧ i = i' ∧ k = k' := by
  rcases h with ⟨rfl, h1, h2⟩ | ⟨rfl, h1⟩ | ⟨rfl, h1⟩ | ⟨rfl, h1⟩ | ⟨rfl, h1⟩ | ⟨rfl, h1⟩ | ⟨rfl, h1⟩ | ⟨rfl, h1⟩ | ⟨rfl, h1⟩ <;> rcases h' with ⟨rfl, g1, g2⟩ | ⟨rfl, g1⟩ | ⟨rfl, g1⟩ | ⟨rfl, g1⟩ | ⟨rfl, g1⟩ | ⟨rfl, g1⟩ | ⟨rfl, g1⟩ | ⟨rfl, g1⟩ | ⟨rfl, g1⟩ <;> simp only [tXN, Prod.mk.injEq] at e <;> (try split at e) <;> (try split at e) <;> (try split at e) <;> (try split at e) <;> simp at e <;> omega
theorem tXL_inj {f i k f' i' k' : Nat} (h : okL f i k) (h' : okL f' i' k') (e : tXL f i k = tXL f' i' k') : f = f' ∧ i = i' ∧ k = k' := by
  rcases h with ⟨rfl, h1⟩ | ⟨rfl, h1⟩ | ⟨rfl, h1⟩ | ⟨rfl, h1⟩ | ⟨rfl, h1⟩ | ⟨rfl, h1⟩ | ⟨rfl, h1⟩ <;> rcases h' with ⟨rfl, g1⟩ | ⟨rfl, g1⟩ | ⟨rfl, g1⟩ | ⟨rfl, g1⟩ | ⟨rfl, g1⟩ | ⟨rfl, g1⟩ | ⟨rfl, g1⟩ <;> simp [tXL] at e <;> omega
theorem tML_inj {f i k f' i' k' : Nat} (h : okL f i k) (h' : okL f' i' k') (e : tML f i k = tML f' i' k') : f = f' ∧ i = i' ∧ k = k' := by
  rcases h with ⟨rfl, h1⟩ | ⟨rfl, h1⟩ | ⟨rfl, h1⟩ | ⟨rfl, h1⟩ | ⟨rfl, h1⟩ | ⟨rfl, h1⟩ | ⟨rfl, h1⟩ <;> rcases h' with ⟨rfl, g1⟩ | ⟨rfl, g1⟩ | ⟨rfl, g1⟩ | ⟨rfl, g1⟩ | ⟨rfl, g1⟩ | ⟨rfl, g1⟩ | ⟨rfl, g1⟩ <;> simp [tML] at e <;> omega
theorem tMN_inj {f i k f' i' k' : Nat} (h : okN f i k) (h' : okN f' i' k') (e : tMN f i k = tMN f' i' k') : f = f' ∧ i = i' ∧ k = k' := by
  rcases h with ⟨rfl, h1, h2⟩ | ⟨rfl, h1⟩ | ⟨rfl, h1⟩ | ⟨rfl, h1⟩ | ⟨rfl, h1⟩ | ⟨rfl, h1⟩ | ⟨rfl, h1⟩ | ⟨rfl, h1⟩ | ⟨rfl, h1⟩ <;> rcases h' with ⟨rfl, g1, g2⟩ | ⟨rfl, g1⟩ | ⟨rfl, g1⟩ | ⟨rfl, g1⟩ | ⟨rfl, g1⟩ | ⟨rfl, g1⟩ | ⟨rfl, g1⟩ | ⟨rfl, g1⟩ | ⟨rfl, g1⟩ <;> simp only [tMN, Prod.mk.injEq, true_and, and_true] at e <;> (repeat' split at e) <;> omega
theorem tXNC {f i k f' i' : Nat} (h : okN f i k) (h' : okC f' i') : tXN f i k ≠ tXC f' i' := by
  intro e
  rcases h with ⟨rfl, h1, h2⟩ | ⟨rfl, h1⟩ | ⟨rfl, h1⟩ | ⟨rfl, h1⟩ | ⟨rfl, h1⟩ | ⟨rfl, h1⟩ | ⟨rfl, h1⟩ | ⟨rfl, h1⟩ | ⟨rfl, h1⟩ <;> rcases h' with rfl | rfl | ⟨rfl, rfl⟩ <;> simp only [tXN, tXC, Prod.mk.injEq] at e <;> (repeat' split at e) <;> simp at e <;> omega
theorem tXC_inj {f i f' i' : Nat} (h : okC f i) (h' : okC f' i') (e : tXC f i = tXC f' i') : f = f' ∧ i = i' := by
  rcases h with rfl | rfl | ⟨rfl, rfl⟩ <;> rcases h' with rfl | rfl | ⟨rfl, rfl⟩ <;> simp [tXC] at e <;> omega
theorem tMNC {f i k f' i' : Nat} (h : okN f i k) (h' : okD f' i') : tMN f i k ≠ tMC f' i' := by
  intro e
  rcases h with ⟨rfl, h1, h2⟩ | ⟨rfl, h1⟩ | ⟨rfl, h1⟩ | ⟨rfl, h1⟩ | ⟨rfl, h1⟩ | ⟨rfl, h1⟩ | ⟨rfl, h1⟩ | ⟨rfl, h1⟩ | ⟨rfl, h1⟩ <;> rcases h' with ⟨rfl, rfl⟩ | rfl | rfl | ⟨rfl, rfl⟩ | ⟨rfl, rfl⟩ <;> simp only [tMN, tMC, Prod.mk.injEq] at e <;> (repeat' split at e) <;> omega
theorem tMC_inj {f i f' i' : Nat} (h : okD f i) (h' : okD f' i') (e : tMC f i = tMC f' i') : f = f' ∧ i = i' := by
  rcases h with ⟨rfl, rfl⟩ | rfl | rfl | ⟨rfl, rfl⟩ | ⟨rfl, rfl⟩ <;> rcases h' with ⟨rfl, rfl⟩ | rfl | rfl | ⟨rfl, rfl⟩ | ⟨rfl, rfl⟩ <;> simp [tMC] at e <;> omega
theorem tXN_lt {f i k : Nat} (h : okN f i k) : (tXN f i k).1.1 < 20 := by
  rcases h with ⟨rfl, h1, h2⟩ | ⟨rfl, h1⟩ | ⟨rfl, h1⟩ | ⟨rfl, h1⟩ | ⟨rfl, h1⟩ | ⟨rfl, h1⟩ | ⟨rfl, h1⟩ | ⟨rfl, h1⟩ | ⟨rfl, h1⟩ <;> simp only [tXN] <;> (try split) <;> simp
theorem tXL_lt {f i k : Nat} (h : okL f i k) : (tXL f i k).1.1 < 20 := by
  rcases h with ⟨rfl, h1⟩ | ⟨rfl, h1⟩ | ⟨rfl, h1⟩ | ⟨rfl, h1⟩ | ⟨rfl, h1⟩ | ⟨rfl, h1⟩ | ⟨rfl, h1⟩ <;> simp [tXL]
theorem tXC_lt {f i : Nat} (h : okC f i) : (tXC f i).1.1 < 20 := by
  rcases h with rfl | rfl | ⟨rfl, rfl⟩ <;> simp [tXC]
theorem tMN_ge {f i k : Nat} (h : okN f i k) : 20 ≤ (tMN f i k).1.1 := by
  rcases h with ⟨rfl, h1, h2⟩ | ⟨rfl, h1⟩ | ⟨rfl, h1⟩ | ⟨rfl, h1⟩ | ⟨rfl, h1⟩ | ⟨rfl, h1⟩ | ⟨rfl, h1⟩ | ⟨rfl, h1⟩ | ⟨rfl, h1⟩ <;> simp only [tMN] <;> (repeat' split) <;> omega
theorem tML_ge {f i k : Nat} (h : okL f i k) : 20 ≤ (tML f i k).1.1 := by
  rcases h with ⟨rfl, h1⟩ | ⟨rfl, h1⟩ | ⟨rfl, h1⟩ | ⟨rfl, h1⟩ | ⟨rfl, h1⟩ | ⟨rfl, h1⟩ | ⟨rfl, h1⟩ <;> simp [tML]
theorem tMC_ge {f i : Nat} (h : okD f i) : 20 ≤ (tMC f i).1.1 := by
  rcases h with ⟨rfl, rfl⟩ | rfl | rfl | ⟨rfl, rfl⟩ | ⟨rfl, rfl⟩ <;> simp [tMC]
/-! a register is written: the common state follows -/
theorem hp_uI_at (x : hp_S) (t : hp_T) (p : Nat) (v : Int32) (t' : hp_T) (p' : Nat) : (hp_uI x t p v).2.1 t' p' = if t' = t ∧ p' = p then v else x.2.1 t' p' := rfl
theorem hp_uL_at (x : hp_S) (t : hp_T) (p : Nat) (v : Int64) (t' : hp_T) (p' : Nat) : (hp_uL x t p v).2.2.1 t' p' = if t' = t ∧ p' = p then v else x.2.2.1 t' p' := rfl
theorem RX.uN {x : hp_S} {s : sg} {C : Nat → Nat → Int32} (h : RX x s C) {t : hp_T} {p : Nat} {w : Int32} (f i k v : Nat) (hk : okN f i k) (ht : tXN f i k = (t, p)) (hw : w = nI v) : RX (hp_uI x t p w) (sN s f i k v) C := by
  refine ⟨fun f' i' k' hk' => ?_, h.2.1, fun f' i' hk' => ?_⟩
  · rw [hp_uI_at, sN_N]
    by_cases e : f' = f ∧ i' = i ∧ k' = k
    · rw [if_pos e, e.1, e.2.1, e.2.2, ht, if_pos ⟨rfl, rfl⟩, hw]
    · rw [if_neg e, if_neg (fun q => e (tXN_inj hk' hk (by rw [ht]; exact Prod.ext q.1 q.2))), h.1 f' i' k' hk']
  · rw [hp_uI_at, if_neg (fun q => tXNC hk hk' (by rw [ht]; exact (Prod.ext q.1 q.2).symm)), h.2.2 f' i' hk']
theorem RX.uL {x : hp_S} {s : sg} {C : Nat → Nat → Int32} (h : RX x s C) {t : hp_T} {p : Nat} {v : Int64} (f i k : Nat) (hk : okL f i k) (ht : tXL f i k = (t, p)) : RX (hp_uL x t p v) (sL s f i k v) C := by
  refine ⟨h.1, fun f' i' k' hk' => ?_, h.2.2⟩
  rw [hp_uL_at, sL_L]
  by_cases e : f' = f ∧ i' = i ∧ k' = k
  · rw [if_pos e, e.1, e.2.1, e.2.2, ht, if_pos ⟨rfl, rfl⟩]
  · rw [if_neg e, if_neg (fun q => e (tXL_inj hk' hk (by rw [ht]; exact Prod.ext q.1 q.2))), h.2.1 f' i' k' hk']
theorem RX.uC {x : hp_S} {s : sg} {C : Nat → Nat → Int32} (h : RX x s C) {t : hp_T} {p : Nat} {w : Int32} (f i : Nat) (hk : okC f i) (ht : tXC f i = (t, p)) : RX (hp_uI x t p w) s (cU C f i w) := by
  refine ⟨fun f' i' k' hk' => ?_, h.2.1, fun f' i' hk' => ?_⟩
  · rw [hp_uI_at, if_neg (fun q => tXNC hk' hk (by rw [ht]; exact Prod.ext q.1 q.2)), h.1 f' i' k' hk']
  · rw [hp_uI_at]
    unfold cU
    by_cases e : f' = f ∧ i' = i
    · rw [if_pos e, e.1, e.2, ht, if_pos ⟨rfl, rfl⟩]
    · rw [if_neg e, if_neg (fun q => e (tXC_inj hk' hk (by rw [ht]; exact Prod.ext q.1 q.2))), h.2.2 f' i' hk']
theorem RM.uN {x : hp_S} {s : sg} {C : Nat → Nat → Int32} (h : RM x s C) {t : hp_T} {p : Nat} {w : Int32} (f i k v : Nat) (hk : okN f i k) (ht : tMN f i k = (t, p)) (hw : w = nI v) : RM (hp_uI x t p w) (sN s f i k v) C := by
  refine ⟨fun f' i' k' hk' => ?_, h.2.1, fun f' i' hk' => ?_⟩
  · rw [hp_uI_at, sN_N]
    by_cases e : f' = f ∧ i' = i ∧ k' = k
    · rw [if_pos e, e.1, e.2.1, e.2.2, ht, if_pos ⟨rfl, rfl⟩, hw]
    · rw [if_neg e, if_neg (fun q => e (tMN_inj hk' hk (by rw [ht]; exact Prod.ext q.1 q.2))), h.1 f' i' k' hk']
  · rw [hp_uI_at, if_neg (fun q => tMNC hk hk' (by rw [ht]; exact (Prod.ext q.1 q.2).symm)), h.2.2 f' i' hk']
theorem RM.uL {x : hp_S} {s : sg} {C : Nat → Nat → Int32} (h : RM x s C) {t : hp_T} {p : Nat} {v : Int64} (f i k : Nat) (hk : okL f i k) (ht : tML f i k = (t, p)) : RM (hp_uL x t p v) (sL s f i k v) C := by
  refine ⟨h.1, fun f' i' k' hk' => ?_, h.2.2⟩
  rw [hp_uL_at, sL_L]
  by_cases e : f' = f ∧ i' = i ∧ k' = k
  · rw [if_pos e, e.1, e.2.1, e.2.2, ht, if_pos ⟨rfl, rfl⟩]
  · rw [if_neg e, if_neg (fun q => e (tML_inj hk' hk (by rw [ht]; exact Prod.ext q.1 q.2))), h.2.1 f' i' k' hk']
theorem RM.uC {x : hp_S} {s : sg} {C : Nat → Nat → Int32} (h : RM x s C) {t : hp_T} {p : Nat} {w : Int32} (f i : Nat) (hk : okD f i) (ht : tMC f i = (t, p)) : RM (hp_uI x t p w) s (cU C f i w) := by
  refine ⟨fun f' i' k' hk' => ?_, h.2.1, fun f' i' hk' => ?_⟩
  · rw [hp_uI_at, if_neg (fun q => tMNC hk' hk (by rw [ht]; exact Prod.ext q.1 q.2)), h.1 f' i' k' hk']
  · rw [hp_uI_at]
    unfold cU
    by_cases e : f' = f ∧ i' = i
    · rw [if_pos e, e.1, e.2, ht, if_pos ⟨rfl, rfl⟩]
    · rw [if_neg e, if_neg (fun q => e (tMC_inj hk' hk (by rw [ht]; exact Prod.ext q.1 q.2))), h.2.2 f' i' hk']
/-! the other side's registers aren't touched -/
def FX (x y : hp_S) : Prop := ∀ t : hp_T, 20 ≤ t.1 → y.2.1 t = x.2.1 t ∧ y.2.2.1 t = x.2.2.1 t
def FM (x y : hp_S) : Prop := ∀ t : hp_T, t.1 < 20 → y.2.1 t = x.2.1 t ∧ y.2.2.1 t = x.2.2.1 t
theorem RM.kept {x y : hp_S} {s : sg} {C : Nat → Nat → Int32} (h : RM x s C) (hf : FX x y) : RM y s C :=
  ⟨fun f i k hk => by rw [(hf _ (tMN_ge hk)).1]; exact h.1 f i k hk, fun f i k hk => by rw [(hf _ (tML_ge hk)).2]; exact h.2.1 f i k hk, fun f i hk => by rw [(hf _ (tMC_ge hk)).1]; exact h.2.2 f i hk⟩
theorem RX.kept {x y : hp_S} {s : sg} {C : Nat → Nat → Int32} (h : RX x s C) (hf : FM x y) : RX y s C :=
  ⟨fun f i k hk => by rw [(hf _ (tXN_lt hk)).1]; exact h.1 f i k hk, fun f i k hk => by rw [(hf _ (tXL_lt hk)).2]; exact h.2.1 f i k hk, fun f i hk => by rw [(hf _ (tXC_lt hk)).1]; exact h.2.2 f i hk⟩
theorem FX.rf (x : hp_S) : FX x x := fun _ _ => ⟨rfl, rfl⟩
theorem FM.rf (x : hp_S) : FM x x := fun _ _ => ⟨rfl, rfl⟩
theorem FX.tr {x y z : hp_S} (h1 : FX x y) (h2 : FX y z) : FX x z := fun t ht => ⟨(h2 t ht).1.trans (h1 t ht).1, (h2 t ht).2.trans (h1 t ht).2⟩
theorem FM.tr {x y z : hp_S} (h1 : FM x y) (h2 : FM y z) : FM x z := fun t ht => ⟨(h2 t ht).1.trans (h1 t ht).1, (h2 t ht).2.trans (h1 t ht).2⟩
theorem FX.uI {x y : hp_S} (h : FX x y) {t : hp_T} {p : Nat} {v : Int32} (ht : t.1 < 20) : FX x (hp_uI y t p v) := fun t' ht' => by
  refine ⟨?_, (h t' ht').2⟩
  rw [← (h t' ht').1]
  funext k
  rw [hp_uI_at, if_neg (fun q => by rw [q.1] at ht'; omega)]
theorem FX.uL {x y : hp_S} (h : FX x y) {t : hp_T} {p : Nat} {v : Int64} (ht : t.1 < 20) : FX x (hp_uL y t p v) := fun t' ht' => by
  refine ⟨(h t' ht').1, ?_⟩
  rw [← (h t' ht').2]
  funext k
  rw [hp_uL_at, if_neg (fun q => by rw [q.1] at ht'; omega)]
theorem FM.uI {x y : hp_S} (h : FM x y) {t : hp_T} {p : Nat} {v : Int32} (ht : 20 ≤ t.1) : FM x (hp_uI y t p v) := fun t' ht' => by
  refine ⟨?_, (h t' ht').2⟩
  rw [← (h t' ht').1]
  funext k
  rw [hp_uI_at, if_neg (fun q => by rw [q.1] at ht'; omega)]
theorem FM.uL {x y : hp_S} (h : FM x y) {t : hp_T} {p : Nat} {v : Int64} (ht : 20 ≤ t.1) : FM x (hp_uL y t p v) := fun t' ht' => by
  refine ⟨(h t' ht').1, ?_⟩
  rw [← (h t' ht').2]
  funext k
  rw [hp_uL_at, if_neg (fun q => by rw [q.1] at ht'; omega)]
