/-! PURE ROWS: what is above a step (the class's bits); uses, makes, stale, from -/
def wa (C : Nat → Nat → Int32) (l : Nat) : Int32 := C 1 l ||| ((nI 1) <<< ((nI l) &&& 31))
theorem bt_wa {C : Nat → Nat → Int32} {l u : Nat} (hl : l < 12) (hu : u < 12) : bt (wa C l) u ↔ bt (C 1 l) u ∨ l = u := by
  unfold wa
  rw [bt_or]
  have := bt_one l hl u hu
  unfold bt at *
  rw [this]
noncomputable def cP (C : Nat → Nat → Int32) (i : Nat) (more : Int32) (j : Nat) : Nat → Nat → Int32 := fun f st => @ite _ (f = 1 ∧ st < j ∧ (i = st ∨ bt (C 1 st) i)) (Classical.propDecidable _) (C 1 st ||| more) (C f st)
theorem cP_0 {C : Nat → Nat → Int32} {i : Nat} {more : Int32} : cP C i more 0 = C := by
  funext f st
  unfold cP
  rw [if_neg (fun q => absurd q.2.1 (by omega))]
theorem cP_o {C : Nat → Nat → Int32} {i j : Nat} {more : Int32} {f st : Nat} (h : f ≠ 1) : cP C i more j f st = C f st := by
  unfold cP
  rw [if_neg (fun q => h q.1)]
theorem cP_ge {C : Nat → Nat → Int32} {i j : Nat} {more : Int32} {f st : Nat} (h : j ≤ st) : cP C i more j f st = C f st := by
  unfold cP
  rw [if_neg (fun q => absurd q.2.1 (by omega))]
def AB (E : Nat → Nat → Prop) (C : Nat → Nat → Int32) : Prop := ∀ i o, i < 12 → o < 12 → (bt (C 1 i) o ↔ tc E o i)
theorem AB.put {E : Nat → Nat → Prop} {C : Nat → Nat → Int32} (h : AB E C) {n m i : Nat} (hn : n ≤ 12) (hm : m < n) (hi : i < n) (hE : ∀ a b, tc E a b → b < n) : AB (fun u v => E u v ∨ (u = m ∧ v = i)) (cP C i (wa C m) n) := by
  intro st o hst ho
  rw [tc_add]
  have c1 : (i = st ∨ bt (C 1 st) i) ↔ tcr E i st := by
    unfold tcr
    rw [h st i hst (by omega)]
  have c2 : (bt (wa C m) o) ↔ tcr E o m := by
    rw [bt_wa (by omega) ho, h m o (by omega) ho]
    unfold tcr
    constructor
    · rintro (q | q)
      · exact Or.inr q
      · exact Or.inl q.symm
    · rintro (q | q)
      · exact Or.inr q.symm
      · exact Or.inl q
  by_cases hs : st < n
  · by_cases q : i = st ∨ bt (C 1 st) i
    · have e : cP C i (wa C m) n 1 st = C 1 st ||| wa C m := by
        unfold cP
        rw [if_pos ⟨rfl, hs, q⟩]
      rw [e, bt_or, h st o hst ho, c2]
      constructor
      · rintro (z | z)
        · exact Or.inl z
        · exact Or.inr ⟨z, c1.mp q⟩
      · rintro (z | z)
        · exact Or.inl z
        · exact Or.inr z.1
    · have e : cP C i (wa C m) n 1 st = C 1 st := by
        unfold cP
        rw [if_neg (fun z => q z.2.2)]
      rw [e, h st o hst ho]
      exact ⟨Or.inl, fun z => z.elim id (fun z => absurd (c1.mpr z.2) q)⟩
  · rw [cP_ge (by omega), h st o hst ho]
    refine ⟨Or.inl, fun z => z.elim id (fun z => ?_)⟩
    rcases z.2 with rfl | q
    · omega
    · exact absurd (hE _ _ q) hs
section EDGE
variable {x : hp_S} {s : sg} {C : Nat → Nat → Int32}
theorem p_X3_isSame {P : Int32 → hp_S → Prop} {u l : Nat} (hr : RX x s C) (hx : SX x s) (w : wf s) (hu : u < 12) (hl : l < nS s) (h : ∀ r, fl r (u = l ∨ bt (C 1 l) u) → P r x) : k_X3_isSameOrAbove P (nI u) (nI l) x := by
  have hS := w.S
  unfold k_X3_isSameOrAbove k_X2_withAbove
  rw [cl l (by omega), hr.abv l]
  have e : bt (wa C l) u ↔ (u = l ∨ bt (C 1 l) u) := by
    rw [bt_wa (by omega) hu]
    exact ⟨fun z => z.elim Or.inr (fun z => Or.inl z.symm), fun z => z.elim (fun z => Or.inr z.symm) Or.inl⟩
  refine ⟨vp_in_nI (by omega) (by decide), hx.1 l hl, fun c => h _ (fl0 (fun q => e.mpr q c)), fun c => h _ (fl1 (e.mp c))⟩
theorem p_X3_putAbove {P : hp_S → Prop} {m i : Nat} (hr : RX x s C) (hx : SX x s) (w : wf s) (hm : m < nS s) (hi : i < nS s) (h : ∀ x', RX x' s (cP C i (wa C m) (nS s)) → GX x x' → P x') : k_X3_putAbove P (nI m) (nI i) x := by
  have hS := w.S
  unfold k_X3_putAbove k_X2_withAbove
  rw [cl m (by omega), hr.abv m]
  refine ⟨vp_in_nI (by omega) (by decide), hx.1 m hm, ?_⟩
  refine upE (n := nS s) (k_X3_putAbove_14 P (nI m) (nI i) (wa C m)) (fun j y => RX y s (cP C i (wa C m) j) ∧ GX x y) x ⟨by rw [cP_0]; exact hr, GX.rf x⟩ ?_ ?_
  · rintro y ⟨hy, hg⟩ q
    unfold k_X3_putAbove_14
    rw [hy.nS]
    exact ⟨fun _ => h y hy hg, fun c => absurd (nI_le (Nat.le_refl _) (by omega)) c⟩
  · rintro st y q hst ⟨hy, hg⟩ ih
    have hx' : SX y s := hx.kept hg rfl rfl
    unfold k_X3_putAbove_14
    rw [hy.nS, nI_add st 1]
    refine ⟨fun c => absurd c (nI_ge hst (by omega)), fun _ => ?_⟩
    refine p_X3_isSame hy hx' w (by omega) hst (fun r hfl => (hfl.congr (Q' := i = st ∨ bt (C 1 st) i) (by rw [cP_ge (Nat.le_refl _)])).bb (fun z => ih y ⟨?_, hg⟩) (fun z => ⟨vp_in_nI (by omega) (by decide), ?_⟩))
    · have e : cP C i (wa C m) (st + 1) = cP C i (wa C m) st := by
        funext f st'
        unfold cP
        by_cases e : st' = st
        · subst e
          rw [if_neg (fun k => z k.2.2), if_neg (fun k => z k.2.2)]
        · by_cases k : f = 1 ∧ st' < st ∧ (i = st' ∨ bt (C 1 st') i)
          · rw [if_pos k, if_pos ⟨k.1, by omega, k.2.2⟩]
          · rw [if_neg k, if_neg (fun k2 => k ⟨k2.1, by omega, k2.2.2⟩)]
      rw [e]
      exact hy
    · rw [cl st (by omega), hy.abv st, cP_ge (Nat.le_refl _)]
      refine ⟨hx'.1 st hst, ih _ ⟨?_, hg.uI (by decide : 11 < 20)⟩⟩
      have hh := hy.uC 1 st (Or.inr (Or.inl rfl)) rfl (t := (11, st)) (p := 6) (w := C 1 st ||| wa C m)
      have e : cU (cP C i (wa C m) st) 1 st (C 1 st ||| wa C m) = cP C i (wa C m) (st + 1) := by
        funext f st'
        rw [cU_at]
        by_cases e : f = 1 ∧ st' = st
        · obtain ⟨rfl, rfl⟩ := e
          rw [if_pos ⟨rfl, rfl⟩]
          unfold cP
          rw [if_pos ⟨rfl, by omega, z⟩]
        · rw [if_neg e]
          unfold cP
          by_cases e2 : f = 1 ∧ st' < st ∧ (i = st' ∨ bt (C 1 st') i)
          · rw [if_pos e2, if_pos ⟨e2.1, by omega, e2.2.2⟩]
          · rw [if_neg e2, if_neg]
            rintro ⟨k1, k2, k3⟩
            by_cases e3 : st' = st
            · exact e ⟨k1, e3⟩
            · exact e2 ⟨k1, by omega, k3⟩
      rw [e] at hh
      exact hh
end EDGE
/-! uses -/
def sUse (s : sg) (i t : Nat) : sg := sN (sN s 2 i (uc s i) t) 1 i 1 (uc s i + 1)
theorem sUse_MD {s : sg} {i t o t' : Nat} : MD (sUse s i t) o t' ↔ MD s o t' := by
  have h1 : mc (sUse s i t) o = mc s o := by
    show (sUse s i t).1 1 o 2 = s.1 1 o 2
    unfold sUse
    rw [sN_N, if_neg (by simp), sN_N, if_neg (by simp)]
  have h2 : ∀ k, md (sUse s i t) o k = md s o k := fun k => by
    show (sUse s i t).1 3 o k = s.1 3 o k
    unfold sUse
    rw [sN_N, if_neg (by simp), sN_N, if_neg (by simp)]
  unfold MD
  rw [h1]
  exact ⟨fun ⟨k, a, b⟩ => ⟨k, a, by rw [← h2]; exact b⟩, fun ⟨k, a, b⟩ => ⟨k, a, by rw [h2]; exact b⟩⟩
theorem sUse_US {s : sg} {i t o t' : Nat} : US (sUse s i t) o t' ↔ US s o t' ∨ (o = i ∧ t' = t) := by
  by_cases e : o = i
  · subst e
    have h1 : uc (sUse s o t) o = uc s o + 1 := by
      show (sUse s o t).1 1 o 1 = _
      unfold sUse
      rw [sN_N, if_pos ⟨rfl, rfl, rfl⟩]
    have h2 : ∀ k, us (sUse s o t) o k = if k = uc s o then t else us s o k := fun k => by
      show (sUse s o t).1 2 o k = _
      unfold sUse
      rw [sN_N, if_neg (by simp), sN_N]
      by_cases e : k = uc s o
      · rw [if_pos e, if_pos ⟨rfl, rfl, e⟩]
      · rw [if_neg e, if_neg (fun q => e q.2.2)]
    unfold US
    rw [h1]
    constructor
    · rintro ⟨k, a, b⟩
      rw [h2] at b
      split at b
      · exact Or.inr ⟨rfl, b.symm⟩
      · exact Or.inl ⟨k, by omega, b⟩
    · rintro (⟨k, a, b⟩ | ⟨_, rfl⟩)
      · exact ⟨k, by omega, by rw [h2, if_neg (by omega)]; exact b⟩
      · exact ⟨uc s o, by omega, by rw [h2, if_pos rfl]⟩
  · have h1 : uc (sUse s i t) o = uc s o := by
      show (sUse s i t).1 1 o 1 = s.1 1 o 1
      unfold sUse
      rw [sN_N, if_neg (fun q => e q.2.1), sN_N, if_neg (by simp)]
    have h2 : ∀ k, us (sUse s i t) o k = us s o k := fun k => by
      show (sUse s i t).1 2 o k = s.1 2 o k
      unfold sUse
      rw [sN_N, if_neg (by simp), sN_N, if_neg (fun q => e q.2.1)]
    unfold US
    rw [h1]
    exact ⟨fun ⟨k, a, b⟩ => Or.inl ⟨k, a, by rw [← h2]; exact b⟩, fun q => q.elim (fun ⟨k, a, b⟩ => ⟨k, a, by rw [h2]; exact b⟩) (fun q => absurd q.1 e)⟩
theorem sUse_ed {s : sg} {i t a b : Nat} : ed (sUse s i t) a b ↔ ed s a b ∨ (MD s a t ∧ b = i) := by
  unfold ed
  constructor
  · rintro ⟨t', h1, h2⟩
    rw [sUse_MD] at h1
    rcases sUse_US.mp h2 with h2 | ⟨rfl, rfl⟩
    · exact Or.inl ⟨t', h1, h2⟩
    · exact Or.inr ⟨h1, rfl⟩
  · rintro (⟨t', h1, h2⟩ | ⟨h1, rfl⟩)
    · exact ⟨t', sUse_MD.mpr h1, sUse_US.mpr (Or.inl h2)⟩
    · exact ⟨t, sUse_MD.mpr h1, sUse_US.mpr (Or.inr ⟨rfl, rfl⟩)⟩
def sMake (s : sg) (i t : Nat) : sg := sN (sN s 3 i (mc s i) t) 1 i 2 (mc s i + 1)
theorem sMake_US {s : sg} {i t o t' : Nat} : US (sMake s i t) o t' ↔ US s o t' := by
  have h1 : uc (sMake s i t) o = uc s o := by
    show (sMake s i t).1 1 o 1 = s.1 1 o 1
    unfold sMake
    rw [sN_N, if_neg (by simp), sN_N, if_neg (by simp)]
  have h2 : ∀ k, us (sMake s i t) o k = us s o k := fun k => by
    show (sMake s i t).1 2 o k = s.1 2 o k
    unfold sMake
    rw [sN_N, if_neg (by simp), sN_N, if_neg (by simp)]
  unfold US
  rw [h1]
  exact ⟨fun ⟨k, a, b⟩ => ⟨k, a, by rw [← h2]; exact b⟩, fun ⟨k, a, b⟩ => ⟨k, a, by rw [h2]; exact b⟩⟩
theorem sMake_MD {s : sg} {i t o t' : Nat} : MD (sMake s i t) o t' ↔ MD s o t' ∨ (o = i ∧ t' = t) := by
  by_cases e : o = i
  · subst e
    have h1 : mc (sMake s o t) o = mc s o + 1 := by
      show (sMake s o t).1 1 o 2 = _
      unfold sMake
      rw [sN_N, if_pos ⟨rfl, rfl, rfl⟩]
    have h2 : ∀ k, md (sMake s o t) o k = if k = mc s o then t else md s o k := fun k => by
      show (sMake s o t).1 3 o k = _
      unfold sMake
      rw [sN_N, if_neg (by simp), sN_N]
      by_cases e : k = mc s o
      · rw [if_pos e, if_pos ⟨rfl, rfl, e⟩]
      · rw [if_neg e, if_neg (fun q => e q.2.2)]
    unfold MD
    rw [h1]
    constructor
    · rintro ⟨k, a, b⟩
      rw [h2] at b
      split at b
      · exact Or.inr ⟨rfl, b.symm⟩
      · exact Or.inl ⟨k, by omega, b⟩
    · rintro (⟨k, a, b⟩ | ⟨_, rfl⟩)
      · exact ⟨k, by omega, by rw [h2, if_neg (by omega)]; exact b⟩
      · exact ⟨mc s o, by omega, by rw [h2, if_pos rfl]⟩
  · have h1 : mc (sMake s i t) o = mc s o := by
      show (sMake s i t).1 1 o 2 = s.1 1 o 2
      unfold sMake
      rw [sN_N, if_neg (fun q => e q.2.1), sN_N, if_neg (by simp)]
    have h2 : ∀ k, md (sMake s i t) o k = md s o k := fun k => by
      show (sMake s i t).1 3 o k = s.1 3 o k
      unfold sMake
      rw [sN_N, if_neg (by simp), sN_N, if_neg (fun q => e q.2.1)]
    unfold MD
    rw [h1]
    exact ⟨fun ⟨k, a, b⟩ => Or.inl ⟨k, a, by rw [← h2]; exact b⟩, fun q => q.elim (fun ⟨k, a, b⟩ => ⟨k, a, by rw [h2]; exact b⟩) (fun q => absurd q.1 e)⟩
theorem sMake_ed {s : sg} {i t a b : Nat} : ed (sMake s i t) a b ↔ ed s a b ∨ (a = i ∧ US s b t) := by
  unfold ed
  constructor
  · rintro ⟨t', h1, h2⟩
    rw [sMake_US] at h2
    rcases sMake_MD.mp h1 with h1 | ⟨rfl, rfl⟩
    · exact Or.inl ⟨t', h1, h2⟩
    · exact Or.inr ⟨rfl, h2⟩
  · rintro (⟨t', h1, h2⟩ | ⟨rfl, h1⟩)
    · exact ⟨t', sMake_MD.mpr (Or.inl h1), sMake_US.mpr h2⟩
    · exact ⟨t, sMake_MD.mpr (Or.inr ⟨rfl, rfl⟩), sMake_US.mpr h1⟩
def okU (s : sg) (i t : Nat) : Prop := ¬ US s i t ∧ uc s i < 8 ∧ ∀ m, MD s m t → ¬ tcr (ed s) i m
def okM (s : sg) (i t : Nat) : Prop := (∀ o, ¬ MD s o t) ∧ mc s i < 4 ∧ ∀ u, US s u t → ¬ tcr (ed s) u i
section EDGE
variable {x : hp_S} {s : sg} {C : Nat → Nat → Int32}
theorem p_X2_addUsed {P : hp_S → Prop} {i t : Nat} (hr : RX x s C) (h8 : uc s i < 8) (h : ∀ x', RX x' (sUse s i t) C → GX x x' → P x') : k_X2_addUsed P i (nI t) x := by
  unfold k_X2_addUsed
  rw [hr.uc i, cl (uc s i) (by omega)]
  have e1 : (hp_uI x (12, i) (uc s i) (nI t)).2.1 (11, i) 4 = nI (uc s i) := by rw [hp_uI_at, if_neg (by simp)]; exact hr.uc i
  rw [e1, nI_add (uc s i) 1]
  refine ⟨vp_in_nI h8 (by decide), h _ ?_ (((GX.rf x).uI (by decide : 12 < 20)).uI (by decide : 11 < 20))⟩
  exact (hr.uN 2 i (uc s i) t (Or.inr (Or.inr (Or.inl ⟨rfl, h8⟩))) rfl rfl).uN 1 i 1 (uc s i + 1) (Or.inr (Or.inl ⟨rfl, by decide⟩)) rfl rfl
theorem p_X2_addMade {P : hp_S → Prop} {i t : Nat} (hr : RX x s C) (h8 : mc s i < 4) (h : ∀ x', RX x' (sMake s i t) C → GX x x' → P x') : k_X2_addMade P i (nI t) x := by
  unfold k_X2_addMade
  rw [hr.mc i, cl (mc s i) (by omega)]
  have e1 : (hp_uI x (13, i) (mc s i) (nI t)).2.1 (11, i) 5 = nI (mc s i) := by rw [hp_uI_at, if_neg (by simp)]; exact hr.mc i
  rw [e1, nI_add (mc s i) 1]
  refine ⟨vp_in_nI h8 (by decide), h _ ?_ (((GX.rf x).uI (by decide : 13 < 20)).uI (by decide : 11 < 20))⟩
  exact (hr.uN 3 i (mc s i) t (Or.inr (Or.inr (Or.inr (Or.inl ⟨rfl, h8⟩)))) rfl rfl).uN 1 i 2 (mc s i + 1) (Or.inr (Or.inl ⟨rfl, by decide⟩)) rfl rfl
theorem sUse_nS {s : sg} {i t : Nat} : nS (sUse s i t) = nS s := by
  show (sUse s i t).1 0 2 0 = _
  unfold sUse
  rw [sN_N, if_neg (by simp), sN_N, if_neg (by simp)]
theorem sUse_nT {s : sg} {i t : Nat} : nT (sUse s i t) = nT s := by
  show (sUse s i t).1 0 0 0 = _
  unfold sUse
  rw [sN_N, if_neg (by simp), sN_N, if_neg (by simp)]
theorem sMake_nS {s : sg} {i t : Nat} : nS (sMake s i t) = nS s := by
  show (sMake s i t).1 0 2 0 = _
  unfold sMake
  rw [sN_N, if_neg (by simp), sN_N, if_neg (by simp)]
theorem sMake_nT {s : sg} {i t : Nat} : nT (sMake s i t) = nT s := by
  show (sMake s i t).1 0 0 0 = _
  unfold sMake
  rw [sN_N, if_neg (by simp), sN_N, if_neg (by simp)]
theorem neg1 {n : Nat} (h : n < 2 ^ 31) : nI n ≠ -1 := fun e => by
  have h1 := nI_pos' h
  rw [e] at h1
  exact absurd h1 (by decide)
theorem p_X3_uses {P : Int32 → hp_S → Prop} {a1 a2 : Int32} (hr : RX x s C) (hx : SX x s) (w : wf s) (g : gr s C) (h0 : (∀ i t, i < nS s → t < nT s → a1 = nI i → a2 = nI t → ¬ okU s i t) → P (nI 0) x) (h1 : ∀ i t, i < nS s → t < nT s → a1 = nI i → a2 = nI t → okU s i t → ∀ x' C', RX x' (sUse s i t) C' → gr (sUse s i t) C' → GX x x' → P (nI 1) x') : k_X3_uses P a1 a2 x := by
  have hS := w.S
  have hT := w.T
  refine p_X3_isStep hr hS (fun i hi e => b1 ?_) (fun h => b0 (h0 (fun i t hi _ e => absurd e (h i hi))))
  refine p_X3_isThing hr hT (fun t ht e2 => b1' ?_) (fun h => b0' (h0 (fun i t _ ht _ e2 => absurd e2 (h t ht))))
  subst e; subst e2
  have no : ¬ okU s i t → P (nI 0) x := fun q => h0 (fun i' t' hi' ht' e1 e2 => by
    rw [← nI_inj (by omega) (by omega) e1, ← nI_inj (by omega) (by omega) e2]
    exact q)
  have h8 := w.uc i
  refine ⟨vp_in_nI (by omega) (by decide), ?_⟩
  rw [cl i (by omega), cl t (by omega)]
  refine ⟨hx.1 i hi, p_X2_isUsing hr w (by omega) (fun r hfl => hfl.bb' (fun q => ?_) (fun q => no (fun z => z.1 q)))⟩
  rw [hr.uc i, hr.mk t]
  refine ⟨fun c => ⟨vp_in_nI (by omega) (by decide), ?_⟩, fun c => no (fun z => c (nI_lt z.2.1 (by decide)))⟩
  have hlt : uc s i < 8 := (nI_ltI (by omega) (by decide)).mp c
  rcases g.mkr t ht with ⟨em, hm⟩ | ⟨m, hm, hmd, em⟩
  · refine ⟨fun _ => p_X2_addUsed hr hlt (fun x' hr' hg => h1 i t hi ht rfl rfl ⟨q, hlt, fun m z => absurd z (hm m)⟩ x' C hr' ?_ hg), fun c => absurd em c⟩
    have hed : ∀ a b, ed (sUse s i t) a b ↔ ed s a b := fun a b => by
      rw [sUse_ed]
      exact ⟨fun z => z.elim id (fun z => absurd z.1 (hm a)), Or.inl⟩
    refine ⟨fun o o' t' k1 k2 => g.um o o' t' (sUse_MD.mp k1) (sUse_MD.mp k2), fun i' z => g.ac i' ((tc_congr hed).mp z), fun t' ht' => ?_, fun i' o hi' ho => by rw [g.ab i' o hi' ho]; exact (tc_congr hed).symm, fun i' hi' => g.zc i' (by rw [sUse_nS] at hi'; exact hi')⟩
    rw [sUse_nT] at ht'
    rw [sUse_nS]
    rcases g.mkr t' ht' with ⟨k1, k2⟩ | ⟨o, k1, k2, k3⟩
    · exact Or.inl ⟨k1, fun o z => k2 o (sUse_MD.mp z)⟩
    · exact Or.inr ⟨o, k1, sUse_MD.mpr k2, k3⟩
  · rw [em]
    refine ⟨fun z => absurd z (neg1 (by omega)), fun _ => ?_⟩
    have eab : (i = m ∨ bt (C 1 m) i) ↔ tcr (ed s) i m := by
      unfold tcr
      rw [g.ab m i (by omega) (by omega)]
    refine p_X3_isSame hr hx w (by omega) hm (fun r hfl => (hfl.congr eab).bb (fun q2 => ?_) (fun q2 => no (fun z => z.2.2 m hmd q2)))
    have hok : okU s i t := ⟨q, hlt, fun m' z => by rw [← g.um m m' t hmd z]; exact q2⟩
    refine p_X3_putAbove hr hx w hm hi (fun x1 hr1 hg1 => p_X2_addUsed hr1 hlt (fun x' hr' hg => h1 i t hi ht rfl rfl hok x' _ hr' ?_ (hg1.tr hg)))
    have hed : ∀ a b, ed (sUse s i t) a b ↔ (fun u v => ed s u v ∨ (u = m ∧ v = i)) a b := fun a b => by
      rw [sUse_ed]
      constructor
      · rintro (z | ⟨z1, z2⟩)
        · exact Or.inl z
        · exact Or.inr ⟨g.um a m t z1 hmd, z2⟩
      · rintro (z | ⟨rfl, rfl⟩)
        · exact Or.inl z
        · exact Or.inr ⟨hmd, rfl⟩
    refine ⟨fun o o' t' k1 k2 => g.um o o' t' (sUse_MD.mp k1) (sUse_MD.mp k2), fun i' z => ?_, fun t' ht' => ?_, fun i' o hi' ho => ?_, fun i' hi' => ?_⟩
    · rcases tc_add.mp ((tc_congr hed).mp z) with z | ⟨z1, z2⟩
      · exact g.ac i' z
      · exact q2 (z2.trans z1)
    · rw [sUse_nT] at ht'
      rw [sUse_nS, cP_o (by decide)]
      rcases g.mkr t' ht' with ⟨k1, k2⟩ | ⟨o, k1, k2, k3⟩
      · exact Or.inl ⟨k1, fun o z => k2 o (sUse_MD.mp z)⟩
      · exact Or.inr ⟨o, k1, sUse_MD.mpr k2, k3⟩
    · have k := AB.put (E := ed s) (C := C) (fun a b c d => g.ab a b c d) hS hm hi (fun a b z => (w.tcS z).2) i' o hi' ho
      rw [k]
      exact (tc_congr hed).symm
    · rw [sUse_nS] at hi'
      rw [cP_ge hi']
      exact g.zc i' hi'
theorem p_X4_uses {P : Int32 → hp_S → Prop} {a1 a2 : Int32} {D : Nat → Nat → Int32} (hr : RM x s D) (w : wf s) (g : gr s C) (h0 : (∀ i t, i < nS s → t < nT s → a1 = nI i → a2 = nI t → ¬ okU s i t) → ∀ x' D', RM x' s D' → KD D D' → GM x x' → P (nI 0) x') (h1 : ∀ i t, i < nS s → t < nT s → a1 = nI i → a2 = nI t → okU s i t → ∀ x' D', RM x' (sUse s i t) D' → KD D D' → GM x x' → P (nI 1) x') : k_X4_uses P a1 a2 x := by
  have hS := w.S
  have hT := w.T
  refine p_X4_isStep hr hS (fun i hi e => b1 ?_) (fun h => b0 (h0 (fun i t hi _ e => absurd e (h i hi)) x D hr (KD.rf D) (GM.rf x)))
  refine p_X4_isThing hr hT (fun t ht e2 => b1 ?_) (fun h => b0 (h0 (fun i t _ ht _ e2 => absurd e2 (h t ht)) x D hr (KD.rf D) (GM.rf x)))
  subst e; subst e2
  have no : ¬ okU s i t → ∀ x' D', RM x' s D' → KD D D' → GM x x' → P (nI 0) x' := fun q => h0 (fun i' t' hi' ht' e1 e2 => by
    rw [← nI_inj (by omega) (by omega) e1, ← nI_inj (by omega) (by omega) e2]
    exact q)
  have h8 := w.uc i
  have hiv : vp_in (nI i) 12 := vp_in_nI (by omega) (by decide)
  rw [cl i (by omega)]
  refine p_X4_doesUse hr w (by omega) (by omega) (fun r hfl => hfl.bb' (fun q => ⟨hiv, ?_⟩) (fun q => no (fun z => z.1 q) x D hr (KD.rf D) (GM.rf x)))
  rw [hr.uc i, nI_eq (by omega) (by decide)]
  refine ⟨fun c => ?_, fun c => no (fun z => by have := z.2.1; omega) x D hr (KD.rf D) (GM.rf x)⟩
  have hlt : uc s i < 8 := by omega
  refine p_X4_unmark hr (fun x1 D1 hr1 hk1 hg1 hz => ⟨hiv, ?_⟩)
  refine p_X4_markBehind (hr1.uC 1 i (Or.inr (Or.inl rfl)) rfl) w g.ac (M := fun c => c = i) (fl_u (M := fun _ => False) (fun c hc => by rw [hz c hc]; exact fl0 id) (fl1 rfl) (fun c hc => ⟨fun q => hc q, fun q => q.elim⟩)) (fun c hc => by rw [hc]; exact hi) (fun x2 D2 hr2 hk2 hg2 hf => ?_)
  have hk := (hk1.u i (nI 1)).tr hk2
  have hg := (hg1.uI (by decide : 20 ≤ 41)).tr hg2
  have yes : okU s i t → ∀ n : Int32, n = x2.2.1 (33, 0) i → (vp_in (nI i) 12 ∧ (vp_in (((nI 8) * nI i) + n) 96 ∧ (vp_in (nI i) 12 ∧ (vp_in (nI i) 12 ∧ (P (nI 1) (hp_uI (hp_uI x2 (32, 0) ((((nI 8) * nI i) + n).toNatClampNeg) (nI t)) (33, 0) i (((hp_uI x2 (32, 0) ((((nI 8) * nI i) + n).toNatClampNeg) (nI t)).2.1 (33, 0) i) + (nI 1)))))))) := by
    intro hok n hn
    rw [hr2.uc i] at hn
    subst hn
    rw [pk_mul 8 i, nI_add (8 * i) (uc s i), cl (8 * i + uc s i) (by omega)]
    have e1 : (hp_uI x2 (32, 0) (8 * i + uc s i) (nI t)).2.1 (33, 0) i = nI (uc s i) := by rw [hp_uI_at, if_neg (by simp)]; exact hr2.uc i
    rw [e1, nI_add (uc s i) 1]
    refine ⟨hiv, vp_in_nI (by omega) (by decide), hiv, hiv, h1 i t hi ht rfl rfl hok _ D2 ?_ hk ((hg.uI (by decide : 20 ≤ 32)).uI (by decide : 20 ≤ 33))⟩
    exact (hr2.uN 2 i (uc s i) t (Or.inr (Or.inr (Or.inl ⟨rfl, hlt⟩))) rfl rfl).uN 1 i 1 (uc s i + 1) (Or.inr (Or.inl ⟨rfl, by decide⟩)) rfl rfl
  refine p_X4_maker hr2 w (by omega) (fun m hm hmd => ⟨fun c => absurd c (nI_pos (by omega)), fun _ => ⟨vp_in_nI (by omega) (by decide), ?_⟩⟩) (fun hm => ⟨fun _ => yes ⟨q, hlt, fun m z => absurd z (hm m)⟩ _ rfl, fun c => absurd (by decide) c⟩)
  rw [cl m (by omega), hr2.mar m]
  refine (hf m (by omega)).bb (fun z => yes ⟨q, hlt, fun m' z' => ?_⟩ _ rfl) (fun z => no (fun z' => ?_) x2 D2 hr2 hk hg)
  · rw [← g.um m m' t hmd z']
    exact fun z2 => z ⟨i, rfl, z2⟩
  · obtain ⟨a, rfl, z2⟩ := z
    exact z'.2.2 m hmd z2
end EDGE
