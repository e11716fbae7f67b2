/-! PURE ROWS: makes, stale, from -/
section EDGE
variable {x : hp_S} {s : sg} {C : Nat → Nat → Int32}
theorem p_X3_hasUser {P : Int32 → hp_S → Prop} {t i : Nat} (hr : RX x s C) (hx : SX x s) (w : wf s) (g : gr s C) (hi : i < nS s) (ht : t < 2 ^ 31) (h : ∀ r, fl r (∃ u, US s u t ∧ tcr (ed s) u i) → P r x) : k_X3_hasUserAtOrAbove P (nI t) (nI i) x := by
  have hS := w.S
  refine upE (n := nS s) (k_X3_hasUserAtOrAbove_2 P (nI t) (nI i)) (fun m y => y = x ∧ ∀ u, u < m → ¬ (US s u t ∧ tcr (ed s) u i)) x ⟨rfl, fun u hu => absurd hu (by omega)⟩ ?_ ?_
  · rintro y ⟨rfl, hb⟩ m
    unfold k_X3_hasUserAtOrAbove_2
    rw [hr.nS]
    exact ⟨fun _ => h _ (fl0 (fun ⟨u, z⟩ => hb u (w.usS z.1).1 z)), fun c => absurd (nI_le (Nat.le_refl _) (by omega)) c⟩
  · rintro u y m hu ⟨rfl, hb⟩ ih
    unfold k_X3_hasUserAtOrAbove_2
    rw [hr.nS, cl u (by omega), nI_add u 1]
    have nxt : ¬ (US s u t ∧ tcr (ed s) u i) → k_X3_hasUserAtOrAbove_2 P (nI t) (nI i) m y (nI (u + 1)) := fun q => ih y ⟨rfl, fun u' hu' => by
      by_cases e : u' = u
      · rw [e]
        exact q
      · exact hb u' (by omega)⟩
    refine ⟨fun c => absurd c (nI_ge hu (by omega)), fun _ => ⟨vp_in_nI (by omega) (by decide), hx.1 u hu, ?_⟩⟩
    refine p_X2_isUsing hr w ht (fun r hfl => hfl.bb (fun q => nxt (fun z => q z.1)) (fun q => ?_))
    have eab : (u = i ∨ bt (C 1 i) u) ↔ tcr (ed s) u i := by
      unfold tcr
      rw [g.ab i u (by omega) (by omega)]
    exact p_X3_isSame hr hx w (by omega) hi (fun r hfl2 => (hfl2.congr eab).bb (fun q2 => nxt (fun z => q2 z.2)) (fun q2 => h _ (fl1 ⟨u, q, q2⟩)))
theorem p_X3_makes {P : Int32 → hp_S → Prop} {a1 a2 : Int32} (hr : RX x s C) (hx : SX x s) (w : wf s) (g : gr s C) (h0 : (∀ i t, i < nS s → t < nT s → a1 = nI i → a2 = nI t → ¬ okM s i t) → P (nI 0) x) (h1 : ∀ i t, i < nS s → t < nT s → a1 = nI i → a2 = nI t → okM s i t → ∀ x' C', RX x' (sMake s i t) C' → gr (sMake s i t) C' → GX x x' → P (nI 1) x') : k_X3_makes P a1 a2 x := by
  have hS := w.S
  have hT := w.T
  refine p_X3_isStep hr hS (fun i hi e => b1 ?_) (fun h => b0 (h0 (fun i t hi _ e => absurd e (h i hi))))
  refine p_X3_isThing hr hT (fun t ht e2 => b1' ?_) (fun h => b0' (h0 (fun i t _ ht _ e2 => absurd e2 (h t ht))))
  subst e; subst e2
  have no : ¬ okM s i t → P (nI 0) x := fun q => h0 (fun i' t' hi' ht' e1 e2 => by
    rw [← nI_inj (by omega) (by omega) e1, ← nI_inj (by omega) (by omega) e2]
    exact q)
  have h8 := w.mc i
  refine ⟨vp_in_nI (by omega) (by decide), ?_⟩
  rw [cl i (by omega), cl t (by omega)]
  refine ⟨hx.1 i hi, vp_in_nI (by omega) (by decide), ?_⟩
  rw [hr.mk t, hr.mc i]
  rcases g.mkr t ht with ⟨em, hm⟩ | ⟨m, hm, hmd, em⟩
  · refine ⟨fun c => absurd em c, fun _ => ⟨fun c => no (fun z => nI_ge z.2.1 (by decide) c), fun c => ?_⟩⟩
    have hlt : mc s i < 4 := by
      rcases Nat.lt_or_ge (mc s i) 4 with q | q
      · exact q
      · exact absurd (nI_le q (by omega)) c
    refine p_X3_hasUser hr hx w g hi (by omega) (fun r hfl => hfl.bb (fun q => ?_) (fun ⟨u, q1, q2⟩ => no (fun z => z.2.2 u q1 q2)))
    have hok : okM s i t := ⟨hm, hlt, fun u q1 q2 => q ⟨u, q1, q2⟩⟩
    refine upE (n := nS s) (k_X3_makes_57 P (nI i) (nI t) i) (fun j y => ∃ C', RX y s C' ∧ GX x y ∧ AB (fun a b => ed s a b ∨ (a = i ∧ b < j ∧ US s b t)) C' ∧ (∀ f k, f ≠ 1 → C' f k = C f k) ∧ (∀ k, nS s ≤ k → C' 1 k = 0) ∧ (∀ k, ¬ tc (fun a b => ed s a b ∨ (a = i ∧ b < j ∧ US s b t)) k k) ∧ ∀ u, US s u t → ¬ tcr (fun a b => ed s a b ∨ (a = i ∧ b < j ∧ US s b t)) u i) x ?_ ?_ ?_
    · have e0 : ∀ a b, ed s a b ↔ (ed s a b ∨ (a = i ∧ b < 0 ∧ US s b t)) := fun a b => ⟨Or.inl, fun z => z.elim id (fun z => absurd z.2.1 (by omega))⟩
      refine ⟨C, hr, GX.rf x, fun k o hk ho => ?_, fun _ _ _ => rfl, g.zc, fun k z => g.ac k ((tc_congr e0).mpr z), fun u hu z => hok.2.2 u hu ((tcr_congr e0).mpr z)⟩
      rw [g.ab k o hk ho]
      exact tc_congr e0
    · rintro y ⟨C', hy, hg, hab, hco, hcz, hac, _⟩ m
      unfold k_X3_makes_57
      rw [hy.nS]
      refine ⟨fun _ => ?_, fun c => absurd (nI_le (Nat.le_refl _) (by omega)) c⟩
      refine p_X2_addMade hy hlt (fun x1 hr1 hg1 => ⟨vp_in_nI (by omega) (by decide), ?_⟩)
      rw [cl t (by omega)]
      have hed : ∀ a b, ed (sMake s i t) a b ↔ (ed s a b ∨ (a = i ∧ b < nS s ∧ US s b t)) := fun a b => by
        rw [sMake_ed]
        constructor
        · rintro (z | ⟨z1, z2⟩)
          · exact Or.inl z
          · exact Or.inr ⟨z1, (w.usS z2).1, z2⟩
        · rintro (z | ⟨z1, _, z2⟩)
          · exact Or.inl z
          · exact Or.inr ⟨z1, z2⟩
      refine h1 i t hi ht rfl rfl hok _ _ (hr1.uC 0 t (Or.inl rfl) rfl) ⟨fun o o' t' k1 k2 => ?_, fun k z => hac k ((tc_congr hed).mp z), fun t' ht' => ?_, fun k o hk ho => ?_, fun k hk => ?_⟩ ((hg.tr hg1).uI (by decide : 3 < 20))
      · rcases sMake_MD.mp k1 with q1 | ⟨q1, q1'⟩
        · rcases sMake_MD.mp k2 with q2 | ⟨q2, q2'⟩
          · exact g.um o o' t' q1 q2
          · rw [q2'] at q1
            exact absurd q1 (hm o)
        · rcases sMake_MD.mp k2 with q2 | ⟨q2, q2'⟩
          · rw [q1'] at q2
            exact absurd q2 (hm o')
          · rw [q1, q2]
      · rw [sMake_nT] at ht'
        rw [sMake_nS, cU_at]
        by_cases e : t' = t
        · subst e
          rw [if_pos ⟨rfl, rfl⟩]
          exact Or.inr ⟨i, hi, sMake_MD.mpr (Or.inr ⟨rfl, rfl⟩), rfl⟩
        · rw [if_neg (fun z => e z.2), hco 0 t' (by decide)]
          rcases g.mkr t' ht' with ⟨k1, k2⟩ | ⟨o, k1, k2, k3⟩
          · exact Or.inl ⟨k1, fun o z => (sMake_MD.mp z).elim (k2 o) (fun z => e z.2)⟩
          · exact Or.inr ⟨o, k1, sMake_MD.mpr (Or.inl k2), k3⟩
      · rw [cU_at, if_neg (by simp), hab k o hk ho]
        exact (tc_congr hed).symm
      · rw [sMake_nS] at hk
        rw [cU_at, if_neg (by simp)]
        exact hcz k hk
    · rintro u y m hu ⟨C', hy, hg, hab, hco, hcz, hac, hus⟩ ih
      have hx' : SX y s := hx.kept hg rfl rfl
      unfold k_X3_makes_57
      rw [hy.nS, cl u (by omega), nI_add u 1]
      refine ⟨fun c => absurd c (nI_ge hu (by omega)), fun _ => ⟨vp_in_nI (by omega) (by decide), hx'.1 u hu, ?_⟩⟩
      refine p_X2_isUsing hy w (by omega) (fun r hfl => hfl.bb (fun q => ih y ?_) (fun q => p_X3_putAbove hy hx' w hi hu (fun x1 hr1 hg1 => ih x1 ?_)))
      · have e0 : ∀ a b, (ed s a b ∨ (a = i ∧ b < u ∧ US s b t)) ↔ (ed s a b ∨ (a = i ∧ b < u + 1 ∧ US s b t)) := fun a b => by
          constructor
          · rintro (z | ⟨z1, z2, z3⟩)
            · exact Or.inl z
            · exact Or.inr ⟨z1, by omega, z3⟩
          · rintro (z | ⟨z1, z2, z3⟩)
            · exact Or.inl z
            · by_cases e : b = u
              · subst e
                exact absurd z3 q
              · exact Or.inr ⟨z1, by omega, z3⟩
        refine ⟨C', hy, hg, fun k o hk ho => ?_, hco, hcz, fun k z => hac k ((tc_congr e0).mpr z), fun u' hu' z => hus u' hu' ((tcr_congr e0).mpr z)⟩
        rw [hab k o hk ho]
        exact tc_congr e0
      · have e0 : ∀ a b, ((fun a b => ed s a b ∨ (a = i ∧ b < u ∧ US s b t)) a b ∨ (a = i ∧ b = u)) ↔ (ed s a b ∨ (a = i ∧ b < u + 1 ∧ US s b t)) := fun a b => by
          constructor
          · rintro ((z | ⟨z1, z2, z3⟩) | ⟨rfl, rfl⟩)
            · exact Or.inl z
            · exact Or.inr ⟨z1, by omega, z3⟩
            · exact Or.inr ⟨rfl, by omega, q⟩
          · rintro (z | ⟨z1, z2, z3⟩)
            · exact Or.inl (Or.inl z)
            · by_cases e : b = u
              · exact Or.inr ⟨z1, e⟩
              · exact Or.inl (Or.inr ⟨z1, by omega, z3⟩)
        have hE : ∀ a b, tc (fun a b => ed s a b ∨ (a = i ∧ b < u ∧ US s b t)) a b → b < nS s := fun a b z => by
          obtain ⟨c, _, z | ⟨_, z, _⟩⟩ := z.last
          · exact (w.edS z).2
          · omega
        have hput := hab.put hS hi hu hE
        refine ⟨_, hr1, hg.tr hg1, fun k o hk ho => ?_, fun f k hf => ?_, fun k hk => ?_, fun k z => ?_, fun u' hu' z => ?_⟩
        · rw [hput k o hk ho]
          exact tc_congr e0
        · rw [cP_o hf]
          exact hco f k hf
        · rw [cP_ge hk]
          exact hcz k hk
        · rcases tc_add.mp ((tc_congr e0).mpr z) with z | ⟨z1, z2⟩
          · exact hac k z
          · exact hus u q (z2.trans z1)
        · rcases tcr_add.mp ((tcr_congr e0).mpr z) with z | ⟨z1, _⟩
          · exact hus u' hu' z
          · exact hus u' hu' z1
  · rw [em]
    exact ⟨fun _ => no (fun z => z.1 m hmd), fun z => absurd z (neg1 (by omega))⟩
theorem p_X4_makes {P : Int32 → hp_S → Prop} {a1 a2 : Int32} {D : Nat → Nat → Int32} (hr : RM x s D) (w : wf s) (g : gr s C) (h0 : (∀ i t, i < nS s → t < nT s → a1 = nI i → a2 = nI t → ¬ okM s i t) → ∀ x' D', RM x' s D' → KD D D' → GM x x' → P (nI 0) x') (h1 : ∀ i t, i < nS s → t < nT s → a1 = nI i → a2 = nI t → okM s i t → ∀ x' D', RM x' (sMake s i t) D' → KD D D' → GM x x' → P (nI 1) x') : k_X4_makes P a1 a2 x := by
  have hS := w.S
  have hT := w.T
  refine p_X4_isStep hr hS (fun i hi e => b1 ?_) (fun h => b0 (h0 (fun i t hi _ e => absurd e (h i hi)) x D hr (KD.rf D) (GM.rf x)))
  refine p_X4_isThing hr hT (fun t ht e2 => b1 ?_) (fun h => b0 (h0 (fun i t _ ht _ e2 => absurd e2 (h t ht)) x D hr (KD.rf D) (GM.rf x)))
  subst e; subst e2
  have no : ¬ okM s i t → ∀ x' D', RM x' s D' → KD D D' → GM x x' → P (nI 0) x' := fun q => h0 (fun i' t' hi' ht' e1 e2 => by
    rw [← nI_inj (by omega) (by omega) e1, ← nI_inj (by omega) (by omega) e2]
    exact q)
  have h8 := w.mc i
  have hiv : vp_in (nI i) 12 := vp_in_nI (by omega) (by decide)
  rw [cl i (by omega)]
  refine p_X4_maker hr w (by omega) (fun m hm hmd => ⟨fun _ => no (fun z => z.1 m hmd) x D hr (KD.rf D) (GM.rf x), fun c => absurd (nI_pos' (by omega)) c⟩) (fun hm => ⟨fun c => absurd c (by decide), fun _ => ⟨hiv, ?_⟩⟩)
  rw [hr.mc i, nI_eq (by omega) (by decide)]
  refine ⟨fun c => ?_, fun c => no (fun z => by have := z.2.1; omega) x D hr (KD.rf D) (GM.rf x)⟩
  have hlt : mc s i < 4 := by omega
  refine p_X4_unmark hr (fun x1 D1 hr1 hk1 hg1 hz => ?_)
  refine upE (n := nS s) (k_X4_makes_42 P (nI i) (nI t)) (fun j y => ∃ D', RM y s D' ∧ KD D D' ∧ GM x y ∧ ∀ b, b < 12 → fl (D' 1 b) (b < j ∧ US s b t)) x1 ⟨D1, hr1, hk1, hg1, fun b hb => by rw [hz b hb]; exact fl0 (fun z => absurd z.1 (by omega))⟩ ?_ ?_
  · rintro y ⟨D', hy, hk, hg, hf⟩ m
    unfold k_X4_makes_42
    rw [hy.nS, cl i (by omega)]
    refine ⟨fun _ => ?_, fun c => absurd (nI_le (Nat.le_refl _) (by omega)) c⟩
    refine p_X4_markBehind hy w g.ac hf (fun b z => z.1) (fun x2 D2 hr2 hk2 hg2 hf2 => ⟨hiv, ?_⟩)
    rw [hr2.mar i]
    refine (hf2 i (by omega)).bb (fun z => ?_) (fun ⟨a, z1, z2⟩ => no (fun z => z.2.2 a z1.2 z2) x2 D2 hr2 (hk.tr hk2) (hg.tr hg2))
    rw [hr2.mc i, pk_mul 4 i, nI_add (4 * i) (mc s i), cl (4 * i + mc s i) (by omega)]
    have e1 : (hp_uI x2 (34, 0) (4 * i + mc s i) (nI t)).2.1 (35, 0) i = nI (mc s i) := by rw [hp_uI_at, if_neg (by simp)]; exact hr2.mc i
    rw [e1, nI_add (mc s i) 1]
    refine ⟨hiv, vp_in_nI (by omega) (by decide), hiv, hiv, h1 i t hi ht rfl rfl ⟨hm, hlt, fun u z1 z2 => z ⟨u, ⟨(w.usS z1).1, z1⟩, z2⟩⟩ _ D2 ?_ (hk.tr hk2) (((hg.tr hg2).uI (by decide : 20 ≤ 34)).uI (by decide : 20 ≤ 35))⟩
    exact (hr2.uN 3 i (mc s i) t (Or.inr (Or.inr (Or.inr (Or.inl ⟨rfl, hlt⟩)))) rfl rfl).uN 1 i 2 (mc s i + 1) (Or.inr (Or.inl ⟨rfl, by decide⟩)) rfl rfl
  · rintro u y m hu ⟨D', hy, hk, hg, hf⟩ ih
    unfold k_X4_makes_42
    rw [hy.nS, cl u (by omega), nI_add u 1]
    refine ⟨fun c => absurd c (nI_ge hu (by omega)), fun _ => ?_⟩
    refine p_X4_doesUse hy w (by omega) (by omega) (fun r hfl => ⟨vp_in_nI (by omega) (by decide), ?_⟩)
    rw [hfl.vn]
    refine ih _ ⟨_, hy.uC 1 u (Or.inr (Or.inl rfl)) rfl, hk.u u r, hg.uI (by decide : 20 ≤ 41), fl_u hf (hfl.congr ⟨fun z => ⟨by omega, z⟩, fun z => z.2⟩) (fun c hc => ?_)⟩
    exact ⟨fun z => ⟨by omega, z.2⟩, fun z => ⟨by omega, z.2⟩⟩
/-! stale, in the class -/
theorem p_X3_isStale {P : Int32 → hp_S → Prop} {i : Nat} (hr : RX x s C) (hx : SX x s) (w : wf s) (g : gr s C) (hi : i < nS s) (h : ∀ r, fl r (STALE s i) → P r x) : k_X3_isStale P (nI i) x := by
  have hS := w.S
  unfold k_X3_isStale k_X2_withAbove
  rw [cl i (by omega), hr.abv i]
  refine ⟨vp_in_nI (by omega) (by decide), hx.1 i hi, ?_⟩
  have eab : ∀ o, o < nS s → (bt (wa C i) o ↔ tcr (ed s) o i) := fun o ho => by
    rw [bt_wa (by omega) (by omega), g.ab i o (by omega) (by omega)]
    unfold tcr
    exact ⟨fun z => z.elim Or.inr (fun z => Or.inl z.symm), fun z => z.elim (fun z => Or.inr z.symm) Or.inl⟩
  refine upE (n := nS s) (k_X3_isStale_13 P (nI i) (wa C i)) (fun m y => y = x ∧ ∀ o, o < m → ¬ (OFF s o ∧ tcr (ed s) o i)) x ⟨rfl, fun o ho => absurd ho (by omega)⟩ ?_ ?_
  · rintro y ⟨rfl, hb⟩ m
    unfold k_X3_isStale_13
    rw [hr.nS]
    exact ⟨fun _ => h _ (fl0 (fun ⟨o, z1, z2⟩ => hb o z1.1 ⟨z1.2, z2⟩)), fun c => absurd (nI_le (Nat.le_refl _) (by omega)) c⟩
  · rintro o y m ho ⟨rfl, hb⟩ ih
    unfold k_X3_isStale_13
    rw [hr.nS, cl o (by omega), nI_add o 1]
    have nxt : ¬ (OFF s o ∧ tcr (ed s) o i) → k_X3_isStale_13 P (nI i) (wa C i) m y (nI (o + 1)) := fun q => ih y ⟨rfl, fun o' ho' => by
      by_cases e : o' = o
      · rw [e]
        exact q
      · exact hb o' (by omega)⟩
    refine ⟨fun c => absurd c (nI_ge ho (by omega)), fun _ => ⟨fun c => nxt (fun z => (eab o ho).mpr z.2 c), fun c => ⟨vp_in_nI (by omega) (by decide), hx.1 o ho, ?_⟩⟩⟩
    exact p_X2_isOutdated hr w (fun r hfl => hfl.bb (fun q => nxt (fun z => q z.1)) (fun q => h _ (fl1 ⟨o, ⟨ho, q⟩, (eab o ho).mp c⟩)))
theorem p_X3_stale {P : Int32 → hp_S → Prop} {a : Int32} (hr : RX x s C) (hx : SX x s) (w : wf s) (g : gr s C) (h : ∀ r, fl r (∃ i, i < nS s ∧ a = nI i ∧ STALE s i) → P r x) : k_X3_stale P a x := by
  have hS := w.S
  refine p_X3_isStep hr hS (fun i hi e => b1 ?_) (fun q => b0 (h _ (fl0 (fun ⟨i, hi, e, _⟩ => q i hi e))))
  subst e
  refine p_X3_isStale hr hx w g hi (fun r hfl => hfl.bb (fun q => h _ (fl0 ?_)) (fun q => h _ (fl1 ⟨i, hi, rfl, q⟩)))
  rintro ⟨i', hi', e, z⟩
  rw [← nI_inj (by omega) (by omega) e] at z
  exact q z
theorem p_X4_staleA {P : Int32 → hp_S → Prop} {a : Int32} {D : Nat → Nat → Int32} (hr : RM x s D) (w : wf s) (ha : ∀ i, ¬ tc (ed s) i i) (h : ∀ x' D' r, RM x' s D' → KD D D' → GM x x' → fl r (∃ i, i < nS s ∧ a = nI i ∧ STALE s i) → P r x') : k_X4_stale P a x := by
  have hS := w.S
  by_cases q : ∃ i, i < nS s ∧ a = nI i
  · obtain ⟨i, hi, rfl⟩ := q
    refine p_X4_stale hr w ha hi (fun x' D' r k1 k2 k3 k4 => h x' D' r k1 k2 k3 (k4.congr ⟨fun z => ⟨i, hi, rfl, z⟩, ?_⟩))
    rintro ⟨i', hi', e, z⟩
    rw [← nI_inj (by omega) (by omega) e] at z
    exact z
  · exact p_X4_isStep hr hS (fun i hi e => absurd ⟨i, hi, e⟩ q) (fun _ => b0' (h x D _ hr (KD.rf D) (GM.rf x) (fl0 (fun ⟨i, hi, e, _⟩ => q ⟨i, hi, e⟩))))
/-! from -/
def FR (s : sg) (t : Nat) (a : Int32) (m k : Nat) : Prop := MD s m t ∧ MT s m t ∧ s.2 0 0 t = s.2 2 m 0 ∧ k < s.1 1 m 4 ∧ a = nI k
theorem p_X3_from {P : Int32 → hp_S → Prop} {a1 a2 : Int32} (hr : RX x s C) (hx : SX x s) (w : wf s) (g : gr s C) (h0 : (∀ t m k, t < nT s → a1 = nI t → ¬ FR s t a2 m k) → P (-1) x) (h1 : ∀ t m k, t < nT s → a1 = nI t → FR s t a2 m k → P (nI (us s m k)) x) : k_X3_from P a1 a2 x := by
  have hS := w.S
  have hT := w.T
  refine p_X3_isThing hr hT (fun t ht e => b1 ⟨by rw [e]; exact vp_in_nI (by omega) (by decide), ?_⟩) (fun h => b0 (h0 (fun t _ _ ht e => absurd e (h t ht))))
  subst e
  have no : (∀ m k, ¬ FR s t a2 m k) → P (-1) x := fun q => h0 (fun t' m k ht' e => by
    rw [← nI_inj (by omega) (by omega) e]
    exact q m k)
  have hti : vp_in (nI t) 24 := vp_in_nI (by omega) (by decide)
  rw [cl t (by omega), hr.mk t]
  rcases g.mkr t ht with ⟨em, hm⟩ | ⟨m, hm, hmd, em⟩
  · exact ⟨fun c => absurd em c, fun _ => no (fun m k z => hm m z.1)⟩
  · rw [em, cl m (by omega)]
    refine ⟨fun _ => ⟨hti, vp_in_nI (by omega) (by decide), hx.1 m hm, ?_⟩, fun z => absurd z (neg1 (by omega))⟩
    have hu : ∀ m' k, FR s t a2 m' k → m' = m := fun m' k z => g.um m' m t z.1 hmd
    refine p_X2_hasMade hr w (by omega) (fun r hfl => hfl.bb (fun q => no (fun m' k z => q (by rw [← hu m' k z]; exact z.2.1))) (fun q => ⟨hti, ?_⟩))
    rw [hr.val 0 t (by omega), hr.res m, hr.ut m]
    have hut := w.ut m
    refine (bl _ _ (fun e => ?_) (fun e => no (fun m' k z => e (by rw [← hu m' k z]; exact z.2.2.1)))).symm
    have key := rc (a := a2) (r := nI (s.1 1 m 4)) (A := P (-1) x) (B := ∃ k, k < s.1 1 m 4 ∧ a2 = nI k) rfl (by omega) (fun z => no (fun m' k z2 => z k (by rw [← hu m' k z2]; exact z2.2.2.2.1) z2.2.2.2.2)) (fun k hk e => ⟨k, hk, e⟩)
    refine ⟨key.1, fun c => ⟨fun c2 => ?_, fun c2 => (key.2 c).1 (Int32.not_lt.mp c2)⟩⟩
    obtain ⟨k, hk, e2⟩ := (key.2 c).2 (Int32.not_le.mpr c2)
    subst e2
    rw [cl k (by omega), hr.us m k (by omega)]
    exact ⟨vp_in_nI (by omega) (by decide), h1 t m k ht rfl ⟨hmd, q, e, hk, rfl⟩⟩
theorem p_X4_from {P : Int32 → hp_S → Prop} {a1 a2 : Int32} {D : Nat → Nat → Int32} (hr : RM x s D) (w : wf s) (g : gr s C) (h0 : (∀ t m k, t < nT s → a1 = nI t → ¬ FR s t a2 m k) → P (-1) x) (h1 : ∀ t m k, t < nT s → a1 = nI t → FR s t a2 m k → P (nI (us s m k)) x) : k_X4_from P a1 a2 x := by
  have hS := w.S
  have hT := w.T
  refine p_X4_isThing hr hT (fun t ht e => b1 ?_) (fun h => b0 ⟨fun _ => h0 (fun t _ _ ht e => absurd e (h t ht)), fun c => absurd (by decide) c⟩)
  subst e
  have no : (∀ m k, ¬ FR s t a2 m k) → P (-1) x := fun q => h0 (fun t' m k ht' e => by
    rw [← nI_inj (by omega) (by omega) e]
    exact q m k)
  rw [cl t (by omega)]
  refine p_X4_maker hr w (by omega) (fun m hm hmd => ⟨fun c => absurd c (nI_pos (by omega)), fun _ => ?_⟩) (fun hm => ⟨fun _ => no (fun m k z => hm m z.1), fun c => absurd (by decide) c⟩)
  have hmv : vp_in (nI m) 12 := vp_in_nI (by omega) (by decide)
  have hrn := w.rn m
  have hut := w.ut m
  have hmt := w.mt m
  have hmtc := w.mtc m
  have hu : ∀ m' k, FR s t a2 m' k → m' = m := fun m' k z => g.um m' m t z.1 hmd
  rw [cl m (by omega)]
  refine ⟨hmv, bz (hr.ran m) (by omega) (fun e => no (fun m' k z => ?_)) (fun e => ?_)⟩
  · have e1 := hu m' k z
    subst e1
    obtain ⟨k', hk', _⟩ := z.2.1
    have := w.rz m' e
    omega
  · rw [hr.ut m]
    have key := rc (a := a2) (r := nI (s.1 1 m 4)) (A := P (-1) x) (B := ∃ k, k < s.1 1 m 4 ∧ a2 = nI k) rfl (by omega) (fun z => no (fun m' k z2 => z k (by rw [← hu m' k z2]; exact z2.2.2.2.1) z2.2.2.2.2)) (fun k hk e => ⟨k, hk, e⟩)
    refine ⟨key.1, fun c => ⟨hmv, (key.2 c).1, fun c2 => ⟨vp_in_nI (by omega) (by decide), hmv, ?_⟩⟩⟩
    obtain ⟨k, hk, e2⟩ := (key.2 c).2 c2
    subst e2
    rw [hr.val0 t (by omega), hr.res m]
    refine bl _ _ (fun e3 => ?_) (fun e3 => no (fun m' k z => e3 (by rw [← hu m' k z]; exact z.2.2.1)))
    refine upE (n := s.1 1 m 5) (fun q (z : hp_S × Int32) l => k_X4_from_69 P (nI t) (nI k) (nI m) q z.1 z.2 l) (fun j z => z.1 = x ∧ fl z.2 (∃ k', k' < j ∧ md s m k' = t)) (x, nI 0) ⟨rfl, fl0 (fun ⟨k, hk, _⟩ => absurd hk (by omega))⟩ ?_ ?_
    · rintro ⟨y, l⟩ ⟨e, hf⟩ q
      dsimp only at e hf ⊢
      subst e
      unfold k_X4_from_69
      rw [cl m (by omega), hr.mt m, pk_mul 8 m, nI_add (8 * m) k, cl (8 * m + k) (by omega), hr.us m k (by omega)]
      refine ⟨hmv, fun _ => hf.bb (fun z => no (fun m' k' z2 => z (by rw [← hu m' k' z2]; exact z2.2.1))) (fun z => ⟨vp_in_nI (by omega) (by decide), h1 t m k ht rfl ⟨hmd, z, e3, hk, rfl⟩⟩), fun c => absurd (nI_le (Nat.le_refl _) (by omega)) c⟩
    · rintro j ⟨y, l⟩ q hj ⟨e, hf⟩ ih
      dsimp only at e hf ⊢
      subst e
      have hmdj := w.md m j (by omega)
      unfold k_X4_from_69
      rw [cl m (by omega), hr.mt m, pk_mul 4 m, nI_add (4 * m) j, cl (4 * m + j) (by omega), hr.md m j (by omega), nI_add j 1]
      refine ⟨hmv, fun c => absurd c (nI_ge hj (by omega)), fun _ => hf.bb' (fun q => ⟨vp_in_nI (by omega) (by decide), fun e => ih (y, nI 0) ⟨rfl, fl0 ?_⟩, fun e => ih (y, nI 1) ⟨rfl, fl1 (ex_step.mpr (Or.inr (nI_inj (by omega) (by omega) e)))⟩⟩) (fun q => ih (y, nI 1) ⟨rfl, fl1 (ex_step.mpr (Or.inl q))⟩)⟩
      rw [ex_step]
      rintro (z | z)
      · exact q z
      · exact e (by rw [z])
end EDGE
