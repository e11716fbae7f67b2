/-! EVERY CALL: class and reference answer the same, and the invariant stays -/
section CALLS
variable {x : hp_S}
theorem o_thing {v : Int64} {P : Int32 → hp_S → Prop} (hI : Inv x) (h : ∀ r x1, (∀ Q : Int32 → hp_S → Prop, (∀ x2, Inv x2 → Q r x2) → k_X4_thing Q v x1) → P r x1) : k_X3_thing P v x := by
  obtain ⟨s, C, D, w, g, hr, hm, hy, ho⟩ := id hI
  refine p_X3_thing hr w.T (fun e => h _ x (fun Q hQ => p_X4_thing hm w.T (fun _ => hQ x hI) (fun c => by omega))) (fun c x1 hr1 hg1 => h _ x1 (fun Q hQ => p_X4_thing (hm.kept hg1.2.2) w.T (fun e => by omega) (fun _ x2 hm2 hg2 => hQ x2 ?_)))
  have n1 : ∀ i, i ≠ 0 → (sThing s v).1 0 i 0 = s.1 0 i 0 := fun i q => by rw [sThing_N, if_neg (fun z => q z.2.1)]
  exact inv_mk hy ho hg1 hg2 (wf_thing w c) (gr_thing w g) hr1 hm2 rfl (n1 2 (by omega)) (n1 3 (by omega)) (n1 4 (by omega))
theorem o_step {a : Int32} {P : Int32 → hp_S → Prop} (hI : Inv x) (h : ∀ r x1, (∀ Q : Int32 → hp_S → Prop, (∀ x2, Inv x2 → Q r x2) → k_X4_step Q a x1) → P r x1) : k_X3_step P a x := by
  obtain ⟨s, C, D, w, g, hr, hm, hy, ho⟩ := id hI
  refine p_X3_step hr hy w.zs w.S g.zc (fun e => h _ x (fun Q hQ => p_X4_step hm w.S (fun _ => hQ x hI) (fun kd hk e2 => absurd e2 (e kd hk)) (fun kd hk e2 => absurd e2 (e kd hk)))) (fun kd hk ea e => h _ x (fun Q hQ => p_X4_step hm w.S (fun z => absurd ea (z kd hk)) (fun _ _ _ _ => hQ x hI) (fun _ _ _ c => by omega))) (fun kd hk ea c x1 hr1 hy1 hf1 how => h _ x1 (fun Q hQ => p_X4_step (hm.kept hf1) w.S (fun z => absurd ea (z kd hk)) (fun _ _ _ e => by omega) (fun kd' hk' ea' _ x2 hm2 hg2 => hQ x2 ?_)))
  have e : kd = kd' := nI_inj (by omega) (by omega) (ea.symm.trans ea')
  subst e
  refine ⟨sStep s kd, C, D, wf_step w c hk, gr_step g, hr1.kept hg2.2.2, hm2, hy1.keptM hg2, fun hc => ?_⟩
  have eC : nC (sStep s kd) = nC s := by show (sStep s kd).1 0 4 0 = _; rw [sStep_N, if_neg (by omega), if_neg (by omega)]
  have eZ : nZ (sStep s kd) = nZ s := by show (sStep s kd).1 0 3 0 = _; rw [sStep_N, if_neg (by omega), if_neg (by omega)]
  obtain ⟨j, h1, h2, h3⟩ := ho (by omega)
  exact ⟨j, by omega, by rw [hg2.2.1, how]; exact h2, h3⟩
theorem o_session {P : Int32 → hp_S → Prop} (hI : Inv x) (h : ∀ r x1, (∀ Q : Int32 → hp_S → Prop, (∀ x2, Inv x2 → Q r x2) → k_X4_session Q x1) → P r x1) : k_X3_session P x := by
  obtain ⟨s, C, D, w, g, hr, hm, hy, ho⟩ := id hI
  refine p_X3_session hr hy w.zs w.Z (fun e => h _ x (fun Q hQ => p_X4_session hm w.Z (fun _ => hQ x hI) (fun c => by omega))) (fun c x1 hr1 hy1 hf1 how => h _ x1 (fun Q hQ => p_X4_session (hm.kept hf1) w.Z (fun e => by omega) (fun _ x2 hm2 hg2 => hQ x2 ?_)))
  refine ⟨sSession s, C, D, wf_session w c, gr_session g, hr1.kept hg2.2.2, hm2, hy1.keptM hg2, fun hc => ?_⟩
  have eC : nC (sSession s) = nC s := by show (sSession s).1 0 4 0 = _; unfold sSession; rw [sN_N, if_neg (by omega), sN_N, if_neg (by omega)]
  have eZ : nZ (sSession s) = nZ s + 1 := by show (sSession s).1 0 3 0 = _; unfold sSession; rw [sN_N, if_pos ⟨rfl, rfl, rfl⟩]
  obtain ⟨j, h1, h2, h3⟩ := ho (by omega)
  exact ⟨j, by omega, by rw [hg2.2.1, how]; exact h2, h3⟩
theorem o_uses {a1 a2 : Int32} {P : Int32 → hp_S → Prop} (hI : Inv x) (h : ∀ r x1, (∀ Q : Int32 → hp_S → Prop, (∀ x2, Inv x2 → Q r x2) → k_X4_uses Q a1 a2 x1) → P r x1) : k_X3_uses P a1 a2 x := by
  obtain ⟨s, C, D, w, g, hr, hm, hy, ho⟩ := id hI
  have hS := w.S
  have hT := w.T
  refine p_X3_uses hr hy.1 w g (fun e => h _ x (fun Q hQ => p_X4_uses hm w g (fun _ x2 D2 hm2 hk2 hg2 => hQ x2 ?_) (fun i t hi ht e1 e2 hok => absurd hok (e i t hi ht e1 e2)))) (fun i t hi ht e1 e2 hok x1 C1 hr1 g1 hg1 => h _ x1 (fun Q hQ => p_X4_uses (hm.kept hg1.2.2) w g (fun z => absurd hok (z i t hi ht e1 e2)) (fun i' t' hi' ht' e1' e2' _ x2 D2 hm2 hk2 hg2 => hQ x2 ?_)))
  · exact inv_mk hy ho (GX.rf x) hg2 w g hr hm2 (hk2 0 0 (by decide)) rfl rfl rfl
  · have ei : i = i' := nI_inj (by omega) (by omega) (e1.symm.trans e1')
    have et : t = t' := nI_inj (by omega) (by omega) (e2.symm.trans e2')
    subst ei; subst et
    have n1 : ∀ k, (sUse s i t).1 0 k 0 = s.1 0 k 0 := fun k => by rw [sUse_N, if_neg (by omega), if_neg (by omega)]
    exact inv_mk hy ho hg1 hg2 (wf_use w hi ht hok.2.1) g1 hr1 hm2 (hk2 0 0 (by decide)) (n1 2) (n1 3) (n1 4)
theorem o_makes {a1 a2 : Int32} {P : Int32 → hp_S → Prop} (hI : Inv x) (h : ∀ r x1, (∀ Q : Int32 → hp_S → Prop, (∀ x2, Inv x2 → Q r x2) → k_X4_makes Q a1 a2 x1) → P r x1) : k_X3_makes P a1 a2 x := by
  obtain ⟨s, C, D, w, g, hr, hm, hy, ho⟩ := id hI
  have hS := w.S
  have hT := w.T
  refine p_X3_makes hr hy.1 w g (fun e => h _ x (fun Q hQ => p_X4_makes hm w g (fun _ x2 D2 hm2 hk2 hg2 => hQ x2 ?_) (fun i t hi ht e1 e2 hok => absurd hok (e i t hi ht e1 e2)))) (fun i t hi ht e1 e2 hok x1 C1 hr1 g1 hg1 => h _ x1 (fun Q hQ => p_X4_makes (hm.kept hg1.2.2) w g (fun z => absurd hok (z i t hi ht e1 e2)) (fun i' t' hi' ht' e1' e2' _ x2 D2 hm2 hk2 hg2 => hQ x2 ?_)))
  · exact inv_mk hy ho (GX.rf x) hg2 w g hr hm2 (hk2 0 0 (by decide)) rfl rfl rfl
  · have ei : i = i' := nI_inj (by omega) (by omega) (e1.symm.trans e1')
    have et : t = t' := nI_inj (by omega) (by omega) (e2.symm.trans e2')
    subst ei; subst et
    have n1 : ∀ k, (sMake s i t).1 0 k 0 = s.1 0 k 0 := fun k => by rw [sMake_N, if_neg (by omega), if_neg (by omega)]
    exact inv_mk hy ho hg1 hg2 (wf_make w hi ht hok.2.1) g1 hr1 hm2 (hk2 0 0 (by decide)) (n1 2) (n1 3) (n1 4)
theorem o_read {a1 a2 : Int32} {P : Int64 → hp_S → Prop} (hI : Inv x) (h : ∀ r x1, (∀ Q : Int64 → hp_S → Prop, (∀ x2, Inv x2 → Q r x2) → k_X4_read Q a1 a2 x1) → P r x1) : k_X3_read P a1 a2 x := by
  obtain ⟨s, C, D, w, g, hr, hm, hy, ho⟩ := id hI
  have hZ := w.Z
  have hT := w.T
  refine p_X3_read hr hy.1 w.T w.Z w.op w.to w.wr (fun j t hj ht e1 e2 eo x1 hr1 hg1 => h _ x1 (fun Q hQ => p_X4_read (hm.kept hg1.2.2) w.T w.Z w.op w.to w.wr (fun j' t' hj' ht' e1' e2' _ x2 hm2 hg2 => ?_) (fun z => absurd eo (z j t hj ht e1 e2)))) (fun z => h _ x (fun Q hQ => p_X4_read hm w.T w.Z w.op w.to w.wr (fun j t hj ht e1 e2 eo => absurd eo (z j t hj ht e1 e2)) (fun _ => hQ x hI)))
  have ej : j = j' := nI_inj (by omega) (by omega) (e1.symm.trans e1')
  have et : t = t' := nI_inj (by omega) (by omega) (e2.symm.trans e2')
  subst ej; subst et
  exact hQ x2 (inv_mk hy ho hg1 hg2 (wf_touch w hj) (gr_own g (fun f i k q => sTouch_o (by omega)) (fun _ _ _ => rfl)) hr1 hm2 rfl (sTouch_o (by omega)) (sTouch_o (by omega)) (sTouch_o (by omega)))
theorem o_write {a1 a2 : Int32} {v : Int64} {P : Int32 → hp_S → Prop} (hI : Inv x) (h : ∀ r x1, (∀ Q : Int32 → hp_S → Prop, (∀ x2, Inv x2 → Q r x2) → k_X4_write Q a1 a2 v x1) → P r x1) : k_X3_write P a1 a2 v x := by
  obtain ⟨s, C, D, w, g, hr, hm, hy, ho⟩ := id hI
  have hZ := w.Z
  have hT := w.T
  refine p_X3_write hr hy.1 w.T w.Z w.op w.to (fun j t hj ht e1 e2 eo x1 hr1 hg1 => h _ x1 (fun Q hQ => p_X4_write (hm.kept hg1.2.2) w.T w.Z w.op w.to (fun j' t' hj' ht' e1' e2' _ x2 hm2 hg2 => ?_) (fun z => absurd eo (z j t hj ht e1 e2)))) (fun z => h _ x (fun Q hQ => p_X4_write hm w.T w.Z w.op w.to (fun j t hj ht e1 e2 eo => absurd eo (z j t hj ht e1 e2)) (fun _ => hQ x hI)))
  have ej : j = j' := nI_inj (by omega) (by omega) (e1.symm.trans e1')
  have et : t = t' := nI_inj (by omega) (by omega) (e2.symm.trans e2')
  subst ej; subst et
  have n1 : ∀ f i k, f < 4 → (sWrite (sTouch s j t (s.2 0 0 t)) j t v).1 f i k = s.1 f i k := fun f i k q => by rw [sWrite_nZ f i k (by omega), sTouch_o (by omega)]
  have w1 : wf (sTouch s j t (s.2 0 0 t)) := wf_touch w hj
  have eT : nT (sTouch s j t (s.2 0 0 t)) = nT s := sTouch_o (by omega)
  have eZ : nZ (sTouch s j t (s.2 0 0 t)) = nZ s := sTouch_o (by omega)
  exact hQ x2 (inv_mk hy ho hg1 hg2 (wf_write w1 (by omega) (by omega)) (gr_own g n1 (fun _ _ _ => rfl)) hr1 hm2 rfl (n1 0 2 0 (by omega)) (n1 0 3 0 (by omega)) (n1 0 4 0 (by omega)))
theorem o_join {a1 a2 : Int32} {P : Int32 → hp_S → Prop} (hI : Inv x) (h : ∀ r x1, (∀ Q : Int32 → hp_S → Prop, (∀ x2, Inv x2 → Q r x2) → k_X4_join Q a1 a2 x1) → P r x1) : k_X3_join P a1 a2 x := by
  obtain ⟨s, C, D, w, g, hr, hm, hy, ho⟩ := id hI
  have hZ := w.Z
  have hT := w.T
  have uj : ∀ j j', j < nZ s → j' < nZ s → a1 = nI j → a1 = nI j' → j = j' := fun j j' h1 h2 e1 e2 => nI_inj (by omega) (by omega) (e1.symm.trans e2)
  refine p_X3_join hr hy.1 w.T w.Z w.op w.to w.wr w.wt ?_ ?_ ?_ ?_
  · intro z
    exact h _ x (fun Q hQ => p_X4_join hm w.T w.Z w.op w.to w.wr (fun _ => hQ x hI) (fun j hj e eo => absurd eo (z j hj e)) (fun j hj e eo => absurd eo (z j hj e)) (fun j hj e eo => absurd eo (z j hj e)))
  · intro j hj e eo hc x1 hr1 hf1 ha1 how hrf
    refine h _ x1 (fun Q hQ => p_X4_join (hm.kept hf1) w.T w.Z w.op w.to w.wr (fun z => absurd eo (z j hj e)) (fun j' hj' e' _ _ x2 hm2 hg2 => ?_) (fun j' hj' e' _ hc' => ?_) (fun j' hj' e' _ hc' => ?_))
    · have ej := uj j j' hj hj' e e'
      subst ej
      have n1 : ∀ f i k, f < 4 → ¬ (f = 0 ∧ i = 4) → (sN (sColl s j (nT s)) 0 4 0 (cnt (CF s j) (nT s))).1 f i k = s.1 f i k := fun f i k q q2 => by rw [sN_N, if_neg (fun z => q2 ⟨z.1, z.2.1⟩), sColl_N (by omega) (by omega)]
      have eS : nS (sN (sColl s j (nT s)) 0 4 0 (cnt (CF s j) (nT s))) = nS s := n1 0 2 0 (by omega) (by omega)
      have eZ : nZ (sN (sColl s j (nT s)) 0 4 0 (cnt (CF s j) (nT s))) = nZ s := n1 0 3 0 (by omega) (by omega)
      have hy1 : YX x1 (sN (sColl s j (nT s)) 0 4 0 (cnt (CF s j) (nT s))) := by
        refine ⟨⟨fun k hk => ?_, fun k hk => ?_⟩, fun t k t2 he hl => ?_, fun k hk => ?_, fun k hk => ?_⟩
        · rw [hrf (4, 0) k (Or.inl (by simp))]
          exact hy.1.1 k (by omega)
        · rw [hrf (5, 0) k (Or.inl (by simp))]
          exact hy.1.2 k (by omega)
        · rw [ha1] at hl
          by_cases q : t = (6, 0) ∧ k = 4
          · obtain ⟨rfl, rfl⟩ := q
            exact absurd he (by simp [hp_ex, hp_xl])
          · rw [hrf t k (by
              by_cases q1 : t = (6, 0)
              · exact Or.inr (fun q2 => q ⟨q1, q2⟩)
              · exact Or.inl q1)]
            exact hy.2.1 t k t2 he hl
        · rw [ha1]
          exact hy.2.2.1 k (by omega)
        · rw [ha1]
          exact hy.2.2.2 k (by omega)
      refine hQ x2 ⟨_, C, cU D 0 0 (nI j), wf_coll w, gr_same g (n1 0 0 0 (by omega) (by omega)) eS (fun i k => n1 1 i k (by omega) (by omega)) (fun i k => n1 2 i k (by omega) (by omega)) (fun i k => n1 3 i k (by omega) (by omega)) (fun _ _ _ => rfl), hr1.kept hg2.2.2, hm2, hy1.keptM hg2, fun _ => ⟨j, by omega, by rw [hg2.2.1]; exact how, by rw [cU_at, if_pos ⟨rfl, rfl⟩]⟩⟩
    · have ej := uj j j' hj hj' e e'
      subst ej
      omega
    · have ej := uj j j' hj hj' e e'
      subst ej
      omega
  · intro j hj e eo hc hb
    refine h _ x (fun Q hQ => p_X4_join hm w.T w.Z w.op w.to w.wr (fun z => absurd eo (z j hj e)) (fun j' hj' e' _ hc' => ?_) (fun j' hj' e' _ hc' hb' => hQ x hI) (fun j' hj' e' _ hc' hb' => ?_))
    · have ej := uj j j' hj hj' e e'
      subst ej
      omega
    · have ej := uj j j' hj hj' e e'
      subst ej
      rcases hb with hb | ⟨t, ht, hb⟩
      · exact absurd hb'.1 hb
      · exact absurd hb (hb'.2 t ht)
  · intro j hj e eo hc hb x1 c hr1 hg1
    refine h _ x1 (fun Q hQ => p_X4_join (hm.kept hg1.2.2) w.T w.Z w.op w.to w.wr (fun z => absurd eo (z j hj e)) (fun j' hj' e' _ hc' => ?_) (fun j' hj' e' _ hc' hb' => ?_) (fun j' hj' e' _ hc' hb' x2 hm2 hg2 => ?_))
    · have ej := uj j j' hj hj' e e'
      subst ej
      omega
    · have ej := uj j j' hj hj' e e'
      subst ej
      rcases hb' with hb' | ⟨t, ht, hb'⟩
      · exact absurd hb.1 hb'
      · exact absurd hb' (hb.2 t ht)
    · have ej := uj j j' hj hj' e e'
      subst ej
      have n1 : ∀ f i k, f < 4 → (sClose s j).1 f i k = s.1 f i k := fun f i k q => by
        unfold sClose
        rw [sN_N, if_neg (by omega)]
        rfl
      exact hQ x2 (inv_mk hy ho hg1 hg2 (wf_close w hj) (gr_own g n1 (fun f i hf => by rw [cU_at, if_neg (fun z => hf z.1)])) hr1 hm2 rfl (n1 0 2 0 (by omega)) (n1 0 3 0 (by omega)) (n1 0 4 0 (by omega)))
theorem o_conflict {a1 a2 : Int32} {P : Int64 → hp_S → Prop} (hI : Inv x) (h : ∀ r x1, (∀ Q : Int64 → hp_S → Prop, (∀ x2, Inv x2 → Q r x2) → k_X4_conflict Q a1 a2 x1) → P r x1) : k_X3_conflict P a1 a2 x := by
  obtain ⟨s, C, D, w, g, hr, hm, hy, ho⟩ := id hI
  have hC := w.C
  refine p_X3_conflict hr w.C (fun k hk e => h _ x (fun Q hQ => p_X4_conflict hm w.C (fun k' hk' e' => ?_) (fun z => absurd e (z k hk)))) (fun z => h _ x (fun Q hQ => p_X4_conflict hm w.C (fun k hk e => absurd e (z k hk)) (fun _ => hQ x hI)))
  have ek : k = k' := nI_inj (by omega) (by omega) (e.symm.trans e')
  subst ek
  exact hQ x hI
theorem o_settle {a1 a2 : Int32} {P : Int32 → hp_S → Prop} (hI : Inv x) (h : ∀ r x1, (∀ Q : Int32 → hp_S → Prop, (∀ x2, Inv x2 → Q r x2) → k_X4_settle Q a1 a2 x1) → P r x1) : k_X3_settle P a1 a2 x := by
  obtain ⟨s, C, D, w, g, hr, hm, hy, ho⟩ := id hI
  have hC := w.C
  have hZ := w.Z
  obtain ⟨j, hj⟩ : ∃ j, 0 < nC s → j < nZ s ∧ x.2.2.2 (6, 0) 4 = some (15, j) ∧ D 0 0 = nI j := by
    by_cases q : 0 < nC s
    · obtain ⟨j, hh⟩ := ho q
      exact ⟨j, fun _ => hh⟩
    · exact ⟨0, fun z => absurd z q⟩
  refine p_X3_settle hr w.C w.T w.ct w.cs w.op (j := j) (fun z => (hj z).2.1) (fun z => h _ x (fun Q hQ => p_X4_settle hm w.C w.T w.ct w.cs w.op w.wr (j := j) (fun q => ⟨(hj q).2.2, by have := (hj q).1; omega⟩) (fun _ => hQ x hI) (fun k b hk hb e1 e2 eo es => absurd es (z k b hk hb e1 e2 eo)))) (fun k b hk hb e1 e2 eo es x1 hr1 hg1 => h _ x1 (fun Q hQ => p_X4_settle (hm.kept hg1.2.2) w.C w.T w.ct w.cs w.op w.wr (j := j) (fun q => ⟨(hj q).2.2, by have := (hj q).1; omega⟩) (fun z => absurd es (z k b hk hb e1 e2 eo)) (fun k' b' hk' hb' e1' e2' _ _ x2 hm2 hg2 => ?_)))
  have ek : k = k' := nI_inj (by omega) (by omega) (e1.symm.trans e1')
  have eb : b = b' := nI_inj (by omega) (by omega) (e2.symm.trans e2')
  subst ek; subst eb
  exact hQ x2 (inv_mk hy ho hg1 hg2 (wf_settle w (hj (by omega)).1) (gr_own g (fun f i m q => sSettle_N (by omega) (by omega)) (fun _ _ _ => rfl)) hr1 hm2 rfl (sSettle_N (by omega) (by omega)) (sSettle_N (by omega) (by omega)) (sSettle_N (by omega) (by omega)))
theorem fl_uq {r r' : Int32} {Q : Prop} (h : fl r Q) (h' : fl r' Q) : r = r' := by
  rcases h with ⟨rfl, q⟩ | ⟨rfl, q⟩ <;> rcases h' with ⟨rfl, q'⟩ | ⟨rfl, q'⟩
  · rfl
  · exact absurd q q'
  · exact absurd q' q
  · rfl
theorem o_stale {a : Int32} {P : Int32 → hp_S → Prop} (hI : Inv x) (h : ∀ r x1, (∀ Q : Int32 → hp_S → Prop, (∀ x2, Inv x2 → Q r x2) → k_X4_stale Q a x1) → P r x1) : k_X3_stale P a x := by
  obtain ⟨s, C, D, w, g, hr, hm, hy, ho⟩ := id hI
  refine p_X3_stale hr hy.1 w g (fun r hf => h r x (fun Q hQ => p_X4_staleA hm w g.ac (fun x2 D2 r2 hm2 hk2 hg2 hf2 => ?_)))
  rw [← fl_uq hf hf2]
  exact hQ x2 (inv_mk hy ho (GX.rf x) hg2 w g hr hm2 (hk2 0 0 (by decide)) rfl rfl rfl)
theorem o_branch {P : Int32 → hp_S → Prop} (hI : Inv x) (h : ∀ r x1, (∀ Q : Int32 → hp_S → Prop, (∀ x2, Inv x2 → Q r x2) → k_X4_branch Q x1) → P r x1) : k_X3_branch P x := by
  obtain ⟨s, C, D, w, g, hr, hm, hy, ho⟩ := id hI
  refine p_X3_branch hr w.B (fun e => h _ x (fun Q hQ => p_X4_branch hm w.T w.B1 w.B w.zv (fun _ => hQ x hI) (fun c => by omega))) (fun c x1 hr1 hg1 => h _ x1 (fun Q hQ => p_X4_branch (hm.kept hg1.2.2) w.T w.B1 w.B w.zv (fun e => by omega) (fun _ x2 hm2 hg2 => hQ x2 ?_)))
  have n1 : ∀ f i k, ¬ (f = 0 ∧ i = 1) → (sBranch s).1 f i k = s.1 f i k := fun f i k q => by
    unfold sBranch
    rw [sN_N, if_neg (fun z => q ⟨z.1, z.2.1⟩)]
    rfl
  exact inv_mk hy ho hg1 hg2 (wf_branch w c) (gr_same g (n1 0 0 0 (by omega)) (n1 0 2 0 (by omega)) (fun i k => n1 1 i k (by omega)) (fun i k => n1 2 i k (by omega)) (fun i k => n1 3 i k (by omega)) (fun _ _ _ => rfl)) hr1 hm2 rfl (n1 0 2 0 (by omega)) (n1 0 3 0 (by omega)) (n1 0 4 0 (by omega))
theorem o_from {a1 a2 : Int32} {P : Int32 → hp_S → Prop} (hI : Inv x) (h : ∀ r x1, (∀ Q : Int32 → hp_S → Prop, (∀ x2, Inv x2 → Q r x2) → k_X4_from Q a1 a2 x1) → P r x1) : k_X3_from P a1 a2 x := by
  obtain ⟨s, C, D, w, g, hr, hm, hy, ho⟩ := id hI
  have hT := w.T
  refine p_X3_from hr hy.1 w g (fun z => h _ x (fun Q hQ => p_X4_from hm w g (fun _ => hQ x hI) (fun t m k ht e hf => absurd hf (z t m k ht e)))) (fun t m k ht e hf => h _ x (fun Q hQ => p_X4_from hm w g (fun z => absurd hf (z t m k ht e)) (fun t' m' k' ht' e' hf' => ?_)))
  have et : t = t' := nI_inj (by omega) (by omega) (e.symm.trans e')
  subst et
  have em : m = m' := g.um m m' t hf.1 hf'.1
  subst em
  have hut := w.ut m
  have h1 := hf.2.2.2.1
  have h2 := hf'.2.2.2.1
  have ek : k = k' := nI_inj (by omega) (by omega) (hf.2.2.2.2.symm.trans hf'.2.2.2.2)
  subst ek
  exact hQ x hI
theorem o_run {a : Int32} {P : Int32 → hp_S → Prop} (hI : Inv x) (h : ∀ r x1, (∀ Q : Int32 → hp_S → Prop, (∀ x2, Inv x2 → Q r x2) → k_X4_run Q a x1) → P r x1) : k_X3_run P a x := by
  obtain ⟨s, C, D, w, g, hr, hm, hy, ho⟩ := id hI
  have hS := w.S
  refine p_X3_run hr hy.1 w g (fun z => h _ x (fun Q hQ => p_X4_run hm w g (fun _ => hQ x hI) (fun i hi e => absurd e (z i hi)))) (fun i hi e r x1 C1 w1 hr1 g1 hg1 hD hf => h r x1 (fun Q hQ => p_X4_run (hm.kept hg1.2.2) w g (fun z => absurd e (z i hi)) (fun i' hi' e' r2 x2 D2 hm2 e0 hg2 hf2 => ?_)))
  have ei : i = i' := nI_inj (by omega) (by omega) (e.symm.trans e')
  subst ei
  rw [← fl_uq hf hf2]
  exact hQ x2 (inv_mk hy ho hg1 hg2 w1 g1 hr1 hm2 e0 hD.xnS (hD.n 0 3 0 (by omega)) (hD.n 0 4 0 (by omega)))
theorem o_value {a1 a2 : Int32} {P : Int64 → hp_S → Prop} (hI : Inv x) (h : ∀ r x1, (∀ Q : Int64 → hp_S → Prop, (∀ x2, Inv x2 → Q r x2) → k_X4_value Q a1 a2 x1) → P r x1) : k_X3_value P a1 a2 x := by
  obtain ⟨s, C, D, w, g, hr, hm, hy, ho⟩ := id hI
  have hB := w.B
  have hT := w.T
  refine p_X3_value hr w.T w.B (fun b t hb ht e1 e2 => h _ x (fun Q hQ => p_X4_value hm w.T w.B (fun b' t' hb' ht' e1' e2' => ?_) (fun z => z.elim (fun z => absurd e1 (z b hb)) (fun z => absurd e2 (z t ht))))) (fun z => h _ x (fun Q hQ => p_X4_value hm w.T w.B (fun b t hb ht e1 e2 => z.elim (fun z => absurd e1 (z b hb)) (fun z => absurd e2 (z t ht))) (fun _ => hQ x hI)))
  have eb : b = b' := nI_inj (by omega) (by omega) (e1.symm.trans e1')
  have et : t = t' := nI_inj (by omega) (by omega) (e2.symm.trans e2')
  subst eb; subst et
  exact hQ x hI
theorem o_play {v : Int64} {a : Int32} {P : Int32 → hp_S → Prop} (hI : Inv x) (h : ∀ r x1, (∀ Q : Int32 → hp_S → Prop, (∀ x2, Inv x2 → Q r x2) → k_X4_play Q v a x1) → P r x1) : k_X3_play P v a x := by
  obtain ⟨s, C, D, w, g, hr, hm, hy, ho⟩ := id hI
  refine p_X3_play hr hy.1 w g (fun z => h _ x (fun Q hQ => p_X4_play hm w g (fun _ x2 D2 hm2 e0 hg2 => hQ x2 (inv_mk hy ho (GX.rf x) hg2 w g hr hm2 e0 rfl rfl rfl)) (fun n hn e c => z.elim (fun z => absurd e (z n hn)) (fun z => absurd z c)))) (fun n hn e c x1 C1 w1 hr1 g1 eS eZ eC hg1 => h _ x1 (fun Q hQ => p_X4_play (hm.kept hg1.2.2) w g (fun z => z.elim (fun z => absurd e (z n hn)) (fun z => absurd z c)) (fun n' hn' e' _ x2 D2 hm2 e0 hg2 => ?_)))
  have en : n = n' := nI_inj (by omega) (by omega) (e.symm.trans e')
  subst en
  exact hQ x2 (inv_mk hy ho hg1 hg2 w1 g1 hr1 hm2 e0 eS eZ eC)
end CALLS
