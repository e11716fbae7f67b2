/-! PURE ROWS: a run, in the reference -/
section GO
variable {x : hp_S} {s : sg} {D : Nat → Nat → Int32}
theorem p_X4_isNext {P : Int32 → hp_S → Prop} {b : Nat} {Dn : Nat → Prop} (hr : RM x s D) (w : wf s) (hb : b < nS s) (hf : ∀ c, c < 12 → fl (D 2 c) (Dn c)) (h : ∀ r, fl r (¬ Dn b ∧ ∀ o, ed s o b → Dn o) → P r x) : k_X4_isNext P (nI b) x := by
  have hS := w.S
  have hv : vp_in (nI b) 12 := vp_in_nI (by omega) (by decide)
  have main : ∀ l, fl l (¬ Dn b) → ∃ q, k_X4_isNext_17 P (nI b) q x l (nI 0) := by
    intro l hl
    refine upE (n := nS s) (fun q (z : hp_S × Int32) l => k_X4_isNext_17 P (nI b) q z.1 z.2 l) (fun m z => z.1 = x ∧ fl z.2 (¬ Dn b ∧ ∀ o, o < m → ed s o b → Dn o)) (x, l) ⟨rfl, hl.congr ⟨fun z => ⟨z, fun o ho => absurd ho (by omega)⟩, fun z => z.1⟩⟩ ?_ ?_
    · rintro ⟨y, l⟩ ⟨e, hfl⟩ m
      dsimp only at e hfl ⊢
      subst e
      unfold k_X4_isNext_17
      rw [hr.nS]
      exact ⟨fun _ => ⟨hfl.nar, h _ (hfl.congr ⟨fun z => ⟨z.1, fun o ho => z.2 o (w.edS ho).1 ho⟩, fun z => ⟨z.1, fun o _ ho => z.2 o ho⟩⟩)⟩, fun c => absurd (nI_le (Nat.le_refl _) (by omega)) c⟩
    · rintro o ⟨y, l⟩ m ho ⟨e, hfl⟩ ih
      dsimp only at e hfl ⊢
      subst e
      unfold k_X4_isNext_17
      rw [hr.nS, cl o (by omega), hr.don o, nI_add o 1]
      have st : ∀ Q : Prop, (¬ Dn b ∧ ∀ o', o' < o → ed s o' b → Dn o') → ((ed s o b → Dn o) ↔ Q) → ((¬ Dn b ∧ ∀ o', o' < o + 1 → ed s o' b → Dn o') ↔ Q) := by
        intro Q z hQ
        constructor
        · intro z2
          exact hQ.mp (z2.2 o (by omega))
        · intro z2
          refine ⟨z.1, fun o' ho' he => ?_⟩
          by_cases e : o' = o
          · subst e
            exact hQ.mpr z2 he
          · exact z.2 o' (by omega) he
      refine ⟨fun c => absurd c (nI_ge ho (by omega)), fun _ => hfl.bb (fun q => ih (y, nI 0) ⟨rfl, fl0 (fun z => q ⟨z.1, fun o' ho' => z.2 o' (by omega)⟩)⟩) (fun q => ⟨vp_in_nI (by omega) (by decide), (hf o (by omega)).bb' (fun q2 => ?_) (fun q2 => ih (y, nI 1) ⟨rfl, fl1 ((st True q ⟨fun _ => trivial, fun _ _ => q2⟩).mpr trivial)⟩)⟩)⟩
      refine p_X4_isBehind hr w (by omega) (by omega) (fun r hfl2 => hfl2.bb' (fun q3 => ih (y, nI 1) ⟨rfl, fl1 ((st True q ⟨fun _ => trivial, fun _ z => absurd z q3⟩).mpr trivial)⟩) (fun q3 => ih (y, nI 0) ⟨rfl, fl0 (fun z => q2 (z.2 o (by omega) q3))⟩))
  unfold k_X4_isNext
  rw [cl b (by omega), hr.don b]
  exact ⟨hv, (hf b (by omega)).bb' (fun q => main _ (fl1 q)) (fun q => main _ (fl0 (fun z => z q)))⟩
theorem cU2_fl {D' : Nat → Nat → Int32} {M M' : Nat → Prop} {b : Nat} {v : Int32} (h : ∀ c, c < 12 → fl (D' 2 c) (M c)) (hv : fl v (M' b)) (ho : ∀ c, c ≠ b → (M' c ↔ M c)) : ∀ c, c < 12 → fl (cU D' 2 b v 2 c) (M' c) := by
  intro c hc
  rw [cU_at]
  by_cases e : c = b
  · subst e
    rw [if_pos ⟨rfl, rfl⟩]
    exact hv
  · rw [if_neg (fun q => e q.2)]
    exact (h c hc).congr (ho c e).symm
/-- between two turns of the run of step i, from s0 -/
def GOV (s0 : sg) (D : Nat → Nat → Int32) (x : hp_S) (i : Nat) (Dn : Nat → Prop) (y : hp_S) : Prop := ∃ s D', Done s0 (fun b => Dn b ∧ tcr (ed s0) b i) s ∧ wf s ∧ RM y s D' ∧ (∀ c, c < 12 → fl (D' 2 c) (Dn c)) ∧ D' 0 0 = D 0 0 ∧ D' 3 0 = D 3 0 + nI (chg s0 s) ∧ fl (D' 4 0) (Dn i ∧ GIV s0 s i) ∧ GM x y
set_option maxHeartbeats 1000000 in
theorem p_X4_turn {s0 : sg} {i r : Nat} (w0 : wf s0) (um : ∀ o o' t, MD s0 o t → MD s0 o' t → o = o') (ac : ∀ i, ¬ tc (ed s0) i i) (hi : i < nS s0) {P : hp_S → Prop} {K : hp_S → Int32 → Prop} {y : hp_S} {Dn : Nat → Prop} (hV : GOV s0 D x i Dn y) (hcl : ∀ a b, ed s0 a b → Dn b → Dn a) (hr : ∀ b, b < nS s0 → rk (ed s0) b < r → Dn b)
    (hK : ∀ y' Dn', GOV s0 D x i Dn' y' → (∀ a b, ed s0 a b → Dn' b → Dn' a) → (∀ b, b < nS s0 → rk (ed s0) b < r + 1 → Dn' b) → K y' (nI (nS s0))) : ∃ q, k_X4_go_37 P (nI i) K q y (nI 0) := by
  have hS := w0.S
  refine upE (n := nS s0) (k_X4_go_37 P (nI i) K) (fun l y => ∃ Dn, GOV s0 D x i Dn y ∧ (∀ a b, ed s0 a b → Dn b → Dn a) ∧ (∀ b, b < nS s0 → rk (ed s0) b < r → Dn b) ∧ ∀ b, b < l → rk (ed s0) b < r + 1 → Dn b) y ⟨Dn, hV, hcl, hr, fun b hb => absurd hb (by omega)⟩ ?_ ?_
  · rintro y ⟨Dn, hV, hcl, hr, hl⟩ m
    have hn : y.2.1 (20, 0) 15 = nI (nS s0) := by
      obtain ⟨s, D', hD, _, hm, _⟩ := hV
      rw [hm.nS, hD.xnS]
    unfold k_X4_go_37
    rw [hn]
    exact ⟨fun _ => hK y Dn hV hcl hl, fun c => absurd (nI_le (Nat.le_refl _) (by omega)) c⟩
  · rintro b y m hb ⟨Dn, hV, hcl, hr, hl⟩ ih
    obtain ⟨s, D', hD, w, hm, hf, hd0, hd3, hd4, hg⟩ := hV
    have hbS : b < nS s := by rw [hD.xnS]; exact hb
    have hiS : i < nS s := by rw [hD.xnS]; exact hi
    have hacs : ∀ i, ¬ tc (ed s) i i := fun i z => ac i ((tcS hD).mp z)
    have hbv : vp_in (nI b) 12 := vp_in_nI (by omega) (by decide)
    unfold k_X4_go_37
    rw [hm.nS, hD.xnS, cl b (by omega), nI_add b 1]
    refine ⟨fun c => absurd c (nI_ge hb (by omega)), fun _ => ?_⟩
    refine p_X4_isNext hm w hbS hf (fun r0 hfl => hfl.bb (fun q => ?_) (fun q => ?_))
    · refine ih y ⟨Dn, ⟨s, D', hD, w, hm, hf, hd0, hd3, hd4, hg⟩, hcl, hr, fun b' hb' hrk => ?_⟩
      by_cases e : b' = b
      · subst e
        refine Classical.byContradiction (fun z => q ⟨z, fun o ho => ?_⟩)
        have ho' := (hD.xed o b').mp ho
        have := rk_lt ac (by have := (w0.edS ho').1; omega) (tc.one ho')
        exact hr o (w0.edS ho').1 (by omega)
      · exact hl b' (by omega) hrk
    · obtain ⟨qn, qa⟩ := q
      have qa0 : ∀ o, ed s0 o b → Dn o := fun o ho => qa o ((hD.xed o b).mpr ho)
      have hcl' : ∀ a c, ed s0 a c → (Dn c ∨ c = b) → (Dn a ∨ a = b) := fun a c he z => Or.inl (z.elim (hcl a c he) (fun z => qa0 a (by rw [← z]; exact he)))
      have hr' : ∀ c, c < nS s0 → rk (ed s0) c < r → (Dn c ∨ c = b) := fun c h1 h2 => Or.inl (hr c h1 h2)
      have hl' : ∀ c, c < b + 1 → rk (ed s0) c < r + 1 → (Dn c ∨ c = b) := fun c h1 h2 => by
        by_cases e : c = b
        · exact Or.inr e
        · exact Or.inl (hl c (by omega) h2)
      have hanc : ∀ a, tc (ed s0) a b → Dn a := by
        have : ∀ a c, tc (ed s0) a c → Dn c → Dn a := fun a c hac => by
          induction hac using tc.ind with
          | one he => exact hcl _ _ he
          | more _ he ih => exact fun z => ih (hcl _ _ he z)
        intro a ha
        obtain ⟨o, h1, h2⟩ := ha.last
        rcases h1 with rfl | h1
        · exact qa0 _ h2
        · exact this a o h1 (qa0 o h2)
      refine p_X4_isBefore hm w hacs hbS hiS (fun x1 D1 r1 hm1 hk1 hg1 hf1 => (hf1.congr (tcrS hD)).bb (fun q1 => ⟨hbv, ih _ ⟨fun c => Dn c ∨ c = b, ?_, hcl', hr', hl'⟩⟩) (fun q1 => ?_))
      · have hbi : i ≠ b := fun e => q1 (Or.inl e.symm)
        refine ⟨s, _, hD.congr (fun c => ?_), w, hm1.uC 2 b (Or.inr (Or.inr (Or.inl rfl))) rfl, cU2_fl (fun c hc => by rw [hk1 2 c (by decide)]; exact hf c hc) (fl1 (Or.inr rfl)) (fun c hc => ⟨fun z => z.elim id (fun z => absurd z hc), Or.inl⟩), ?_, ?_, ?_, (hg.tr hg1).uI (by decide : 20 ≤ 42)⟩
        · constructor
          · rintro ⟨z1, z2⟩
            exact ⟨Or.inl z1, z2⟩
          · rintro ⟨z1 | rfl, z2⟩
            · exact ⟨z1, z2⟩
            · exact absurd z2 q1
        · rw [cU_at, if_neg (by omega), hk1 0 0 (by decide)]
          exact hd0
        · rw [cU_at, if_neg (by omega), hk1 3 0 (by decide)]
          exact hd3
        · rw [cU_at, if_neg (by omega), hk1 4 0 (by decide)]
          exact hd4.congr ⟨fun z => ⟨Or.inl z.1, z.2⟩, fun z => ⟨z.1.elim id (fun e => absurd e hbi), z.2⟩⟩
      · refine p_X4_stale hm1 w hacs hbS (fun x2 D2 r2 hm2 hk2 hg2 hf2 => ?_)
        have hk := hk1.tr hk2
        have hnb : ¬ (Dn b ∧ tcr (ed s0) b i) := fun z => qn z.1
        have hst : STALE s b ↔ OFF s b := hD.stale hbS (fun a ha => ⟨hanc a ha, Or.inr (ha.cat q1)⟩)
        have hse : ∀ c, ((Dn c ∧ tcr (ed s0) c i) ∨ c = b) ↔ ((Dn c ∨ c = b) ∧ tcr (ed s0) c i) := fun c => by
          constructor
          · rintro (⟨z1, z2⟩ | rfl)
            · exact ⟨Or.inl z1, z2⟩
            · exact ⟨Or.inr rfl, q1⟩
          · rintro ⟨z1 | z1, z2⟩
            · exact Or.inl ⟨z1, z2⟩
            · exact Or.inr z1
        have hcl0 : ∀ a c, ed s0 a c → (Dn c ∧ tcr (ed s0) c i) → (Dn a ∧ tcr (ed s0) a i) := fun a c he z => ⟨hcl a c he z.1, Or.inr ((tc.one he).cat z.2)⟩
        refine (hf2.congr hst).bb (fun q2 => ⟨hbv, ih _ ⟨fun c => Dn c ∨ c = b, ?_, hcl', hr', hl'⟩⟩) (fun q2 => ?_)
        · have hD2 := (hD.wide um (A := fun c => c = b) (fun c hc => by rw [hc]; exact q2)).congr hse
          refine ⟨s, _, hD2, w, hm2.uC 2 b (Or.inr (Or.inr (Or.inl rfl))) rfl, cU2_fl (fun c hc => by rw [hk 2 c (by decide)]; exact hf c hc) (fl1 (Or.inr rfl)) (fun c hc => ⟨fun z => z.elim id (fun z => absurd z hc), Or.inl⟩), ?_, ?_, ?_, ((hg.tr hg1).tr hg2).uI (by decide : 20 ≤ 42)⟩
          · rw [cU_at, if_neg (by omega), hk 0 0 (by decide)]
            exact hd0
          · rw [cU_at, if_neg (by omega), hk 3 0 (by decide)]
            exact hd3
          · rw [cU_at, if_neg (by omega), hk 4 0 (by decide)]
            refine hd4.congr ⟨fun z => ⟨Or.inl z.1, z.2⟩, fun z => ⟨z.1.elim id (fun e => ?_), z.2⟩⟩
            have z2 := z.2
            rw [e] at z2
            exact absurd ((hD.offGiv um hnb).mpr z2) q2
        · obtain ⟨k1, k2, k3⟩ := hD.give um ac hcl0 hnb q2
          refine p_X4_give hm2 w (by omega) (fun x3 hm3 hg3 => ?_)
          have hchg := hD.xchg um hnb
          have e28 : x2.2.1 (20, 0) 28 = D 3 0 + nI (chg s0 s) := by rw [hm2.chd, hk 3 0 (by decide), hd3]
          rw [e28, Int32.add_assoc, nI_add, ← hchg]
          have e29 : (hp_uI x3 (20, 0) 28 (D 3 0 + nI (chg s0 (sGive s b)))).2.1 (20, 0) 29 = D' 4 0 := by
            rw [hp_uI_at, if_neg (by simp), hm3.rn, hk 4 0 (by decide)]
          rw [e29]
          have hmA := hm3.uC 3 0 (Or.inr (Or.inr (Or.inr (Or.inl ⟨rfl, rfl⟩)))) rfl (t := (20, 0)) (p := 28) (w := D 3 0 + nI (chg s0 (sGive s b)))
          have fin : ∀ v : Int32, fl v ((Dn i ∨ i = b) ∧ GIV s0 (sGive s b) i) → k_X4_go_37 P (nI i) K m (hp_uI (hp_uI (hp_uI x3 (20, 0) 28 (D 3 0 + nI (chg s0 (sGive s b)))) (20, 0) 29 v) (42, 0) b (nI 1)) (nI (b + 1)) := by
            intro v hv
            refine ih _ ⟨fun c => Dn c ∨ c = b, ⟨sGive s b, _, k1.congr hse, wf_give w hbS, (hmA.uC 4 0 (Or.inr (Or.inr (Or.inr (Or.inr ⟨rfl, rfl⟩)))) rfl).uC 2 b (Or.inr (Or.inr (Or.inl rfl))) rfl, cU2_fl (M := Dn) (fun c hc => ?_) (fl1 (Or.inr rfl)) (fun c hc => ⟨fun z => z.elim id (fun z => absurd z hc), Or.inl⟩), ?_, ?_, ?_, ((((hg.tr hg1).tr hg2).tr hg3).uI (by decide : 20 ≤ 20)).uI (by decide : 20 ≤ 20) |>.uI (by decide : 20 ≤ 42)⟩, hcl', hr', hl'⟩
            · rw [cU_at, if_neg (by omega), cU_at, if_neg (by omega), hk 2 c (by decide)]
              exact hf c hc
            · rw [cU_at, if_neg (by omega), cU_at, if_neg (by omega), cU_at, if_neg (by omega), hk 0 0 (by decide)]
              exact hd0
            · rw [cU_at, if_neg (by omega), cU_at, if_neg (by omega), cU_at, if_pos ⟨rfl, rfl⟩]
            · rw [cU_at, if_neg (by omega), cU_at, if_pos ⟨rfl, rfl⟩]
              exact hv
          refine hd4.bb' (fun q3 => ⟨fun c => ⟨hbv, fin _ (fl0 ?_)⟩, fun c => ⟨hbv, fin _ (fl1 ?_)⟩⟩) (fun q3 => ⟨hbv, fin _ (fl1 ⟨Or.inl q3.1, (k3 i ⟨q3.1, .rf⟩).mpr q3.2⟩)⟩)
          · rintro ⟨z1 | z1, z2⟩
            · exact q3 ⟨z1, (k3 i ⟨z1, .rf⟩).mp z2⟩
            · exact c (by rw [z1])
          · have e : b = i := nI_inj (by omega) (by omega) c
            rw [← e]
            exact ⟨Or.inr rfl, k2⟩
theorem p_X4_go {C : Nat → Nat → Int32} {P : hp_S → Prop} {i : Nat} (hr : RM x s D) (w : wf s) (g : gr s C) (hi : i < nS s) (h : ∀ x' D', wf (sRun s i) → Done s (fun b => tcr (ed s) b i) (sRun s i) → RM x' (sRun s i) D' → D' 0 0 = D 0 0 → D' 3 0 = D 3 0 + nI (chg s (sRun s i)) → fl (D' 4 0) (GIV s (sRun s i) i) → GM x x' → P x') : k_X4_go P (nI i) x := by
  have hS := w.S
  have hiv : vp_in (nI i) 12 := vp_in_nI (by omega) (by decide)
  refine upE (n := 12) (k_X4_go_7 P (nI i)) (fun m y => ∃ D', RM y s D' ∧ D' 0 0 = D 0 0 ∧ D' 3 0 = D 3 0 ∧ D' 4 0 = nI 0 ∧ GM x y ∧ ∀ b, b < m → D' 2 b = nI 0) _ ⟨_, hr.uC 4 0 (Or.inr (Or.inr (Or.inr (Or.inr ⟨rfl, rfl⟩)))) rfl, by rw [cU_at, if_neg (by omega)], by rw [cU_at, if_neg (by omega)], by rw [cU_at, if_pos ⟨rfl, rfl⟩], (GM.rf x).uI (by decide : 20 ≤ 20), fun b hb => absurd hb (by omega)⟩ ?_ ?_
  · rintro y ⟨D', hy, e0, e3, e4, hg, hz⟩ m
    unfold k_X4_go_7
    refine ⟨fun _ => ⟨13, ?_⟩, fun c => absurd (nI_le (Nat.le_refl _) (by decide)) c⟩
    have passes : ∀ d r y l2 (Dn : Nat → Prop), d + r = 12 → GOV s D x i Dn y → (∀ a b, ed s a b → Dn b → Dn a) → (∀ b, b < nS s → rk (ed s) b < r → Dn b) → k_X4_go_26 P (nI i) (fun x_26 l2_26 => P x_26) (d + 1) y l2 := by
      intro d
      induction d with
      | zero =>
        intro r y l2 Dn hd hV hcl hrk
        have hdi : Dn i := hrk i hi (by have := rk_max g.ac (by omega : i < 12); omega)
        obtain ⟨s', D', hD, w', hm, hf, hd0, hd3, hd4, hg⟩ := hV
        have hDd : Done s (fun b => tcr (ed s) b i) s' := hD.congr (fun b => ⟨fun z => z.2, fun z => ⟨by
          rcases z with rfl | z
          · exact hdi
          · have : ∀ a c, tc (ed s) a c → Dn c → Dn a := fun a c hac => by
              induction hac using tc.ind with
              | one he => exact hcl _ _ he
              | more _ he ih => exact fun z => ih (hcl _ _ he z)
            exact this b i z hdi, z⟩⟩)
        have e := sRun_eq w g.ac hDd
        subst e
        unfold k_X4_go_26
        rw [cl i (by omega), hm.don i]
        exact ⟨hiv, (hf i (by omega)).bb' (fun z => absurd hdi z) (fun _ => h y D' w' hDd hm hd0 hd3 (hd4.congr ⟨fun z => z.2, fun z => ⟨hdi, z⟩⟩) hg)⟩
      | succ d ihd =>
        intro r y l2 Dn hd hV hcl hrk
        obtain ⟨s', D', hD, w', hm, hf, hd0, hd3, hd4, hg⟩ := id hV
        unfold k_X4_go_26
        rw [cl i (by omega), hm.don i]
        refine ⟨hiv, (hf i (by omega)).bb' (fun z => ?_) (fun hdi => ?_)⟩
        · exact p_X4_turn w g.um g.ac hi hV hcl hrk (fun y' Dn' hV' hcl' hrk' => ihd (r + 1) y' _ Dn' (by omega) hV' hcl' hrk')
        · have hDd : Done s (fun b => tcr (ed s) b i) s' := hD.congr (fun b => ⟨fun z => z.2, fun z => ⟨by
            rcases z with rfl | z
            · exact hdi
            · have : ∀ a c, tc (ed s) a c → Dn c → Dn a := fun a c hac => by
                induction hac using tc.ind with
                | one he => exact hcl _ _ he
                | more _ he ih => exact fun z => ih (hcl _ _ he z)
              exact this b i z hdi, z⟩⟩)
          have e := sRun_eq w g.ac hDd
          subst e
          exact h y D' w' hDd hm hd0 hd3 (hd4.congr ⟨fun z => z.2, fun z => ⟨hdi, z⟩⟩) hg
    refine passes 12 0 y _ (fun _ => False) rfl ⟨s, D', Done.start.congr (fun b => ⟨False.elim, fun z => z.1⟩), w, hy, fun c hc => by rw [hz c hc]; exact fl0 id, e0, by rw [e3, chg_self, nI_0, Int32.add_zero], by rw [e4]; exact fl0 (fun z => z.1), hg⟩ (fun _ _ _ z => z) (fun b _ z => absurd z (by omega))
  · rintro k y m hk ⟨D', hy, e0, e3, e4, hg, hz⟩ ih
    unfold k_X4_go_7
    rw [cl k (by omega), nI_add k 1]
    refine ⟨fun c => absurd c (nI_ge hk (by decide)), fun _ => ⟨vp_in_nI hk (by decide), ih _ ⟨_, hy.uC 2 k (Or.inr (Or.inr (Or.inl rfl))) rfl, by rw [cU_at, if_neg (by omega)]; exact e0, by rw [cU_at, if_neg (by omega)]; exact e3, by rw [cU_at, if_neg (by omega)]; exact e4, hg.uI (by decide : 20 ≤ 42), fun b hb => ?_⟩⟩⟩
    rw [cU_at]
    split
    · rfl
    · exact hz b (by omega)
end GO
