/-! PURE ROWS: a run, in the class -/
theorem tcS {s0 s : sg} {B : Nat → Prop} (h : Done s0 B s) {a b : Nat} : tc (ed s) a b ↔ tc (ed s0) a b := tc_congr h.xed
theorem tcrS {s0 s : sg} {B : Nat → Prop} (h : Done s0 B s) {a b : Nat} : tcr (ed s) a b ↔ tcr (ed s0) a b := tcr_congr h.xed
/-- when all above are done -/
theorem Done.stale {s0 s : sg} {B : Nat → Prop} (h : Done s0 B s) {i : Nat} (hi : i < nS s) (hB : ∀ a, tc (ed s0) a i → B a) : STALE s i ↔ OFF s i := by
  constructor
  · rintro ⟨a, ⟨_, h1⟩, h2⟩
    rcases (tcrS h).mp h2 with rfl | h2
    · exact h1
    · exact absurd h1 (h.notOff (hB a h2))
  · intro q
    exact ⟨i, ⟨hi, q⟩, .rf⟩
section REFRESH
variable {s0 : sg} {c0 : Int32}
set_option maxHeartbeats 1000000 in
theorem p_X3_refresh (w0 : wf s0) (um : ∀ o o' t, MD s0 o t → MD s0 o' t → o = o') (ac : ∀ i, ¬ tc (ed s0) i i) : ∀ (n : Nat) (i d : Nat) (s : sg) (B : Nat → Prop) (x : hp_S) (C : Nat → Nat → Int32) (P : Int32 → hp_S → Prop), i < nS s0 → rk (ed s0) i < n → d + rk (ed s0) i ≤ 11 → Done s0 B s → (∀ a b, ed s0 a b → B b → B a) → wf s → RX x s C → SX x s → gr s C → C 2 0 = c0 + nI (chg s0 s) → (∀ r x' s' C', Done s0 (fun b => B b ∨ tcr (ed s0) b i) s' → wf s' → RX x' s' C' → gr s' C' → GX x x' → C' 2 0 = c0 + nI (chg s0 s') → (¬ B i → fl r (GIV s0 s' i)) → P r x') → k_X3_refresh n P (nI i) (nI d) x
  | 0, i, d, s, B, x, C, P, hi, hn, _, _, _, _, _, _, _, _, _ => absurd hn (by omega)
  | n + 1, i, d, s, B, x, C, P, hi, hn, hd, hD, hcl, w, hr, hx, g, hc, h => by
    have hS := w0.S
    have hiS : i < nS s := by rw [hD.xnS]; exact hi
    unfold k_X3_refresh
    refine ⟨fun c => absurd c (nI_ge (by omega) (by omega)), fun _ => ?_⟩
    refine p_X3_isStale hr hx w g hiS (fun r hfl => hfl.bb' (fun q => ?_) (fun q => ?_))
    · -- nothing to do
      have hA : ∀ b, tcr (ed s0) b i → ¬ OFF s b := fun b hb z => q ⟨b, ⟨by
        rcases hb with rfl | hb
        · exact hiS
        · rw [hD.xnS]
          exact (w0.tcS hb).1, z⟩, (tcrS hD).mpr hb⟩
      refine h _ x s C (hD.wide um hA) w hr g (GX.rf x) hc (fun hB => fl0 (fun z => hA i .rf ((hD.offGiv um hB).mpr z)))
    · have hiB : ¬ B i := by
        intro hB
        obtain ⟨a, ⟨_, h1⟩, h2⟩ := q
        have h2' := (tcrS hD).mp h2
        have : ∀ a b, tc (ed s0) a b → B b → B a := fun a b hab => by
          induction hab using tc.ind with
          | one he => exact hcl _ _ he
          | more _ he ih => exact fun z => ih (hcl _ _ he z)
        rcases h2' with rfl | h2'
        · exact hD.notOff hB h1
        · exact hD.notOff (this a i h2' hB) h1
      refine ⟨vp_in_nI (by omega) (by decide), ?_⟩
      rw [cl i (by omega)]
      refine ⟨hx.1 i hiS, ?_⟩
      have h8 := w0.uc i
      have hT := w0.T
      refine upE (n := uc s0 i) (k_X3_refresh_26 (k_X3_refresh n) P (nI i) (nI d) i) (fun k y => ∃ s' C', Done s0 (fun b => B b ∨ ∃ k', k' < k ∧ ∃ o, MD s0 o (us s0 i k') ∧ tcr (ed s0) b o) s' ∧ wf s' ∧ RX y s' C' ∧ gr s' C' ∧ GX x y ∧ C' 2 0 = c0 + nI (chg s0 s')) x ⟨s, C, hD.congr (fun b => ⟨Or.inl, fun z => z.elim id (fun ⟨k', z, _⟩ => absurd z (by omega))⟩), w, hr, g, GX.rf x, hc⟩ ?_ ?_
      · rintro y ⟨s', C', hD', w', hr', g', hg', hc'⟩ m
        have hx' : SX y s' := hx.kept hg' (by rw [hD'.xnS, hD.xnS]) ((hD'.n 0 3 0 (by omega)).trans (hD.n 0 3 0 (by omega)).symm)
        have hiS' : i < nS s' := by rw [hD'.xnS]; exact hi
        -- the set is all above i
        have hset : ∀ b, (∃ k', k' < uc s0 i ∧ ∃ o, MD s0 o (us s0 i k') ∧ tcr (ed s0) b o) ↔ tc (ed s0) b i := by
          intro b
          constructor
          · rintro ⟨k', hk', o, ho, hb⟩
            exact hb.cat (.one ⟨_, ho, k', hk', rfl⟩)
          · intro hb
            obtain ⟨o, hbo, t, ho, k', hk', rfl⟩ := hb.last
            exact ⟨k', hk', o, ho, hbo⟩
        have hD2 : Done s0 (fun b => B b ∨ tc (ed s0) b i) s' := hD'.congr (fun b => by rw [hset b])
        have hiB2 : ¬ (B i ∨ tc (ed s0) i i) := fun z => z.elim hiB (ac i)
        have hcl2 : ∀ a b, ed s0 a b → (B b ∨ tc (ed s0) b i) → (B a ∨ tc (ed s0) a i) := fun a b he z => z.elim (fun z => Or.inl (hcl a b he z)) (fun z => Or.inr ((tc.one he).trans z))
        have hst : STALE s' i ↔ OFF s' i := hD2.stale hiS' (fun a ha => Or.inr ha)
        have hse : ∀ b, ((B b ∨ tc (ed s0) b i) ∨ b = i) ↔ (B b ∨ tcr (ed s0) b i) := fun b => by
          unfold tcr
          constructor
          · rintro ((z | z) | z)
            · exact Or.inl z
            · exact Or.inr (Or.inr z)
            · exact Or.inr (Or.inl z)
          · rintro (z | z | z)
            · exact Or.inl (Or.inl z)
            · exact Or.inr z
            · exact Or.inl (Or.inr z)
        have euc : y.2.1 (11, i) 4 = nI (uc s0 i) := by rw [hr'.uc i, hD'.xuc]
        unfold k_X3_refresh_26
        rw [euc]
        refine ⟨fun _ => ?_, fun c => absurd (nI_le (Nat.le_refl _) (by omega)) c⟩
        refine p_X3_isStale hr' hx' w' g' hiS' (fun r hfl => (hfl.congr hst).bb' (fun q2 => ?_) (fun q2 => ?_))
        · have hDw := (hD2.wide um (A := fun b => b = i) (fun b hb => by rw [hb]; exact q2)).congr hse
          exact h _ y s' C' hDw w' hr' g' hg' hc' (fun _ => fl0 (fun z => q2 ((hD2.offGiv um hiB2).mpr z)))
        · obtain ⟨k1, k2, _⟩ := hD2.give um ac hcl2 hiB2 q2
          refine p_X2_work hr' w' (fun x2 hr2 hg2 => ?_)
          have e5 : mc (sRan (sInp s' i (uc s' i)) i (WV s' i)) i = mc s' i := by
            show (sRan (sInp s' i (uc s' i)) i (WV s' i)).1 1 i 2 = _
            unfold sRan
            rw [sL_N, sN_N, if_neg (by omega), sN_N, if_neg (by omega), sN_N, if_neg (by omega)]
            rfl
          have e6 : ∀ k, md (sRan (sInp s' i (uc s' i)) i (WV s' i)) i k = md s' i k := fun k => by
            show (sRan (sInp s' i (uc s' i)) i (WV s' i)).1 3 i k = _
            unfold sRan
            rw [sL_N, sN_N, if_neg (by omega), sN_N, if_neg (by omega), sN_N, if_neg (by omega)]
            rfl
          refine p_X3_outs (v := WV s' i) hr2 (by rw [e5]; exact w'.mc i) (fun k hk => by rw [e5] at hk; rw [e6]; have := w'.md i k hk; have := w'.T; omega) (by rw [sRan_L, if_pos ⟨rfl, rfl, rfl⟩]) (fun x3 C3 hr3 hco hcc hg3 => ?_)
          rw [e5, sGive_alt] at hr3
          have en : nOut (sRan (sInp s' i (uc s' i)) i (WV s' i)) i (WV s' i) (mc s' i) = nOut s' i (WV s' i) (mc s' i) := by
            refine cnt_congr (fun t _ => ?_)
            have ev : (sRan (sInp s' i (uc s' i)) i (WV s' i)).2 0 0 t = s'.2 0 0 t := by
              rw [sRan_L, if_neg (by omega), sInp_L (by decide)]
            rw [ev]
            exact ⟨fun ⟨⟨m, z1, z2⟩, z3⟩ => ⟨⟨m, z1, (e6 m).symm.trans z2⟩, z3⟩, fun ⟨⟨m, z1, z2⟩, z3⟩ => ⟨⟨m, z1, (e6 m).trans z2⟩, z3⟩⟩
          rw [e5, en, hc', Int32.add_assoc, nI_add, ← hD2.xchg um hiB2] at hcc
          exact h _ x3 (sGive s' i) C3 (k1.congr hse) (wf_give w' hiS') hr3 (g'.give hco) ((hg'.tr hg2).tr hg3) hcc (fun _ => fl1 k2)
      · rintro k y m hk ⟨s', C', hD', w', hr', g', hg', hc'⟩ ih
        have hx' : SX y s' := hx.kept hg' (by rw [hD'.xnS, hD.xnS]) ((hD'.n 0 3 0 (by omega)).trans (hD.n 0 3 0 (by omega)).symm)
        have hu := w0.us i k hk
        have euc : y.2.1 (11, i) 4 = nI (uc s0 i) := by rw [hr'.uc i, hD'.xuc]
        have eus : y.2.1 (12, i) k = nI (us s0 i k) := by rw [hr'.us i k (by omega), hD'.xus]
        unfold k_X3_refresh_26
        rw [euc, cl k (by omega), eus, cl (us s0 i k) (by omega), hr'.mk (us s0 i k), nI_add k 1]
        refine ⟨fun c => absurd c (nI_ge hk (by omega)), fun _ => ⟨vp_in_nI (by omega) (by decide), vp_in_nI (by omega) (by decide), ?_⟩⟩
        rcases g'.mkr (us s0 i k) (by rw [hD'.xnT]; exact hu) with ⟨em, hm⟩ | ⟨o, ho, hmd, em⟩
        · refine ⟨fun _ => ih y ⟨s', C', hD'.congr (fun b => ?_), w', hr', g', hg', hc'⟩, fun c => absurd em c⟩
          constructor
          · rintro (z | ⟨k', z1, z2⟩)
            · exact Or.inl z
            · exact Or.inr ⟨k', by omega, z2⟩
          · rintro (z | ⟨k', z1, o, z2, z3⟩)
            · exact Or.inl z
            · by_cases e : k' = k
              · subst e
                exact absurd ((hD'.xMD o _).mpr z2) (hm o)
              · exact Or.inr ⟨k', by omega, o, z2, z3⟩
        · rw [em]
          refine ⟨fun z => absurd z (neg1 (by have := w'.S; omega)), fun _ => ?_⟩
          have hmd0 := (hD'.xMD o _).mp hmd
          have hed : ed s0 o i := ⟨_, hmd0, k, hk, rfl⟩
          have hoS := (w0.edS hed).1
          have hrk := rk_lt ac (by omega) (tc.one hed)
          rw [nI_add d 1]
          refine p_X3_refresh w0 um ac n o (d + 1) s' _ y C' _ hoS (by omega) (by omega) hD' ?_ w' hr' hx' g' hc' (fun r x2 s2 C2 hD2 w2 hr2 g2 hg2 hc2 _ => ih x2 ⟨s2, C2, hD2.congr (fun b => ?_), w2, hr2, g2, hg'.tr hg2, hc2⟩)
          · rintro a b he (z | ⟨k', z1, o', z2, z3⟩)
            · exact Or.inl (hcl a b he z)
            · exact Or.inr ⟨k', z1, o', z2, Or.inr ((tc.one he).cat z3)⟩
          · constructor
            · rintro ((z | ⟨k', z1, z2⟩) | z)
              · exact Or.inl z
              · exact Or.inr ⟨k', by omega, z2⟩
              · exact Or.inr ⟨k, by omega, o, hmd0, z⟩
            · rintro (z | ⟨k', z1, o', z2, z3⟩)
              · exact Or.inl (Or.inl z)
              · by_cases e : k' = k
                · subst e
                  rw [um o' o _ z2 hmd0] at z3
                  exact Or.inr z3
                · exact Or.inl (Or.inr ⟨k', by omega, o', z2, z3⟩)
end REFRESH
/-- a run of the class, from the top -/
theorem p_X3_runs {x : hp_S} {s : sg} {C : Nat → Nat → Int32} {P : Int32 → hp_S → Prop} {i : Nat} (hr : RX x s C) (hx : SX x s) (w : wf s) (g : gr s C) (hi : i < nS s) (h : ∀ r x' C', wf (sRun s i) → RX x' (sRun s i) C' → gr (sRun s i) C' → GX x x' → Done s (fun b => tcr (ed s) b i) (sRun s i) → C' 2 0 = C 2 0 + nI (chg s (sRun s i)) → fl r (GIV s (sRun s i) i) → P r x') : k_X3_refresh 13 P (nI i) (nI 0) x := by
  have hS := w.S
  have hrk := rk_max g.ac (by omega : i < 12)
  refine p_X3_refresh (s0 := s) (c0 := C 2 0) w g.um g.ac 13 i 0 s (fun _ => False) x C P hi (by omega) (by omega) Done.start (fun _ _ _ z => z) w hr hx g (by rw [chg_self, nI_0, Int32.add_zero]) (fun r x' s' C' hD w' hr' g' hg hc hf => ?_)
  have hD' : Done s (fun b => tcr (ed s) b i) s' := hD.congr (fun b => ⟨fun z => z.elim False.elim id, Or.inr⟩)
  have e := sRun_eq w g.ac hD'
  subst e
  exact h r x' C' w' hr' g' hg hD' hc (hf id)
