/-! PURE ROWS: marks of the reference; who is stale -/
def KD (D D' : Nat → Nat → Int32) : Prop := ∀ f i, f ≠ 1 → D' f i = D f i
theorem KD.rf (D : Nat → Nat → Int32) : KD D D := fun _ _ _ => rfl
theorem KD.tr {D D' D'' : Nat → Nat → Int32} (h : KD D D') (h' : KD D' D'') : KD D D'' := fun f i hf => (h' f i hf).trans (h f i hf)
theorem KD.u {D D' : Nat → Nat → Int32} (h : KD D D') (b : Nat) (v : Int32) : KD D (cU D' 1 b v) := fun f i hf => by
  unfold cU
  rw [if_neg (fun q => hf q.1)]
  exact h f i hf
theorem cU_at (D : Nat → Nat → Int32) (f b f' b' : Nat) (v : Int32) : cU D f b v f' b' = if f' = f ∧ b' = b then v else D f' b' := rfl
def STALE (s : sg) (i : Nat) : Prop := ∃ a, (a < nS s ∧ OFF s a) ∧ tcr (ed s) a i
section MARK
variable {x : hp_S} {s : sg} {D : Nat → Nat → Int32}
theorem p_X4_unmark {P : hp_S → Prop} (hr : RM x s D) (h : ∀ x' D', RM x' s D' → KD D D' → GM x x' → (∀ b, b < 12 → D' 1 b = nI 0) → P x') : k_X4_unmark P x := by
  refine upE (n := 12) (k_X4_unmark_2 P) (fun m y => ∃ D', RM y s D' ∧ KD D D' ∧ GM x y ∧ ∀ b, b < m → D' 1 b = nI 0) x ⟨D, hr, KD.rf D, GM.rf x, fun b hb => absurd hb (by omega)⟩ ?_ ?_
  · rintro y ⟨D', hy, hk, hg, hb⟩ m
    unfold k_X4_unmark_2
    exact ⟨fun _ => h y D' hy hk hg hb, fun c => absurd (nI_le (Nat.le_refl _) (by decide)) c⟩
  · rintro k y m hk ⟨D', hy, hkd, hg, hb⟩ ih
    unfold k_X4_unmark_2
    rw [cl k (by omega), nI_add k 1]
    refine ⟨fun c => absurd c (nI_ge hk (by decide)), fun _ => ⟨vp_in_nI hk (by decide), ih _ ⟨_, hy.uC 1 k (Or.inr (Or.inl rfl)) rfl, hkd.u k _, hg.uI (by decide : 20 ≤ 41), fun b hb' => ?_⟩⟩⟩
    rw [cU_at]
    split
    · rfl
    · exact hb b (by omega)
theorem fl_u {D' : Nat → Nat → Int32} {M M' : Nat → Prop} {b : Nat} {v : Int32} (h : ∀ c, c < 12 → fl (D' 1 c) (M c)) (hv : fl v (M' b)) (ho : ∀ c, c ≠ b → (M' c ↔ M c)) : ∀ c, c < 12 → fl (cU D' 1 b v 1 c) (M' c) := by
  intro c hc
  rw [cU_at]
  by_cases e : c = b
  · subst e
    rw [if_pos ⟨rfl, rfl⟩]
    exact hv
  · rw [if_neg (fun q => e q.2)]
    exact (h c hc).congr (ho c e).symm
set_option maxHeartbeats 1000000 in
theorem p_X4_markBehind {P : hp_S → Prop} (hr : RM x s D) (w : wf s) (ha : ∀ i, ¬ tc (ed s) i i) {M : Nat → Prop} (hM : ∀ b, b < 12 → fl (D 1 b) (M b)) (hMS : ∀ b, M b → b < nS s) (h : ∀ x' D', RM x' s D' → KD D D' → GM x x' → (∀ b, b < 12 → fl (D' 1 b) (∃ a, M a ∧ tcr (ed s) a b)) → P x') : k_X4_markBehind P x := by
  have hS := w.S
  obtain ⟨R, hR⟩ : ∃ R : Nat → Prop, R = fun b => ∃ a, M a ∧ tcr (ed s) a b := ⟨_, rfl⟩
  have hRS : ∀ b, R b → b < nS s := by
    intro b hb
    rw [hR] at hb
    obtain ⟨a, h1, h2⟩ := hb
    rcases h2 with rfl | h2
    · exact hMS a h1
    · exact (w.tcS h2).2
  have hMR : ∀ b, M b → R b := fun b hb => by
    rw [hR]
    exact ⟨b, hb, .rf⟩
  have hRe : ∀ o b, R o → ed s o b → R b := fun o b ho he => by
    rw [hR] at ho ⊢
    obtain ⟨a, h1, h2⟩ := ho
    exact ⟨a, h1, h2.edge he⟩
  have hRl : ∀ b, R b → M b ∨ ∃ o, R o ∧ ed s o b := fun b hb => by
    rw [hR] at hb
    obtain ⟨a, h1, h2⟩ := hb
    rcases h2 with rfl | h2
    · exact Or.inl h1
    · obtain ⟨o, h3, h4⟩ := h2.last
      refine Or.inr ⟨o, ?_, h4⟩
      rw [hR]
      exact ⟨a, h1, h3⟩
  obtain ⟨V, hV⟩ : ∃ V : Nat → hp_S → (Nat → Prop) → Prop, V = fun j y M' => ∃ D', RM y s D' ∧ KD D D' ∧ GM x y ∧ (∀ b, b < 12 → fl (D' 1 b) (M' b)) ∧ (∀ b, M b → M' b) ∧ (∀ b, M' b → R b) ∧ (∀ b, R b → rk (ed s) b < j → M' b) := ⟨_, rfl⟩
  refine upE (n := 12) (k_X4_markBehind_2 P) (fun j y => ∃ M', V j y M') x ⟨M, ?_⟩ ?_ ?_
  · rw [hV]
    exact ⟨D, hr, KD.rf D, GM.rf x, hM, fun _ q => q, hMR, fun b _ q => absurd q (by omega)⟩
  · rintro y ⟨M', hv⟩ m
    rw [hV] at hv
    obtain ⟨D', hy, hk, hg, hf, _, h2, h3⟩ := hv
    unfold k_X4_markBehind_2
    refine ⟨fun _ => h y D' hy hk hg (fun b hb => (hf b hb).congr ?_), fun c => absurd (nI_le (Nat.le_refl _) (by decide)) c⟩
    have e : (∃ a, M a ∧ tcr (ed s) a b) ↔ R b := by rw [hR]
    rw [e]
    exact ⟨h2 b, fun q => h3 b q (rk_max ha hb)⟩
  · rintro j y m hj ⟨M', hv⟩ ih
    unfold k_X4_markBehind_2
    refine ⟨fun c => absurd c (nI_ge hj (by decide)), fun _ => ?_⟩
    rw [nI_add j 1]
    refine upE (n := nS s) (k_X4_markBehind_10 P (nI j) _) (fun l y => ∃ M', V j y M' ∧ ∀ b, b < l → R b → rk (ed s) b < j + 1 → M' b) y ⟨M', hv, fun b hb => absurd hb (by omega)⟩ ?_ ?_
    · rintro y ⟨M', hv, hl⟩ m'
      have hv' := hv
      rw [hV] at hv
      obtain ⟨D', hy, hk, hg, hf, h1, h2, h3⟩ := hv
      unfold k_X4_markBehind_10
      rw [hy.nS]
      refine ⟨fun _ => ih y ⟨M', ?_⟩, fun c => absurd (nI_le (Nat.le_refl _) (by omega)) c⟩
      rw [hV]
      exact ⟨D', hy, hk, hg, hf, h1, h2, fun b hb hrk => hl b (hRS b hb) hb hrk⟩
    · rintro l y m' hl ⟨M', hv, hlo⟩ ih2
      have hn : y.2.1 (20, 0) 15 = nI (nS s) := by
        rw [hV] at hv
        obtain ⟨D', hy, _⟩ := hv
        exact hy.nS
      unfold k_X4_markBehind_10
      rw [hn]
      refine ⟨fun c => absurd c (nI_ge hl (by omega)), fun _ => ?_⟩
      rw [nI_add l 1]
      refine upE (n := nS s) (k_X4_markBehind_20 P (nI j) (nI l) _) (fun o y => ∃ M', V j y M' ∧ (∀ b, b < l → R b → rk (ed s) b < j + 1 → M' b) ∧ ∀ o', o' < o → ed s o' l → R o' → rk (ed s) o' < j → M' l) y ⟨M', hv, hlo, fun o ho => absurd ho (by omega)⟩ ?_ ?_
      · rintro y ⟨M', hv, hlo, hin⟩ m''
        have hv' := hv
        rw [hV] at hv
        obtain ⟨D', hy, hk, hg, hf, h1, h2, h3⟩ := hv
        unfold k_X4_markBehind_20
        rw [hy.nS]
        refine ⟨fun _ => ih2 y ⟨M', hv', fun b hb hRb hrk => ?_⟩, fun c => absurd (nI_le (Nat.le_refl _) (by omega)) c⟩
        by_cases e : b = l
        · subst e
          rcases hRl b hRb with q | ⟨o, q1, q2⟩
          · exact h1 b q
          · have ho := (w.edS q2).1
            have := rk_lt ha (by omega) (tc.one q2)
            exact hin o ho q2 q1 (by omega)
        · exact hlo b (by omega) hRb hrk
      · rintro o y m'' ho ⟨M', hv, hlo, hin⟩ ih3
        rw [hV] at hv
        obtain ⟨D', hy, hk, hg, hf, h1, h2, h3⟩ := hv
        have il : vp_in (nI l) 12 := vp_in_nI (by omega) (by decide)
        have io : vp_in (nI o) 12 := vp_in_nI (by omega) (by decide)
        have fl' := hf l (by omega)
        have fo' := hf o (by omega)
        unfold k_X4_markBehind_20
        rw [hy.nS, cl l (by omega), cl o (by omega), hy.mar l, hy.mar o, nI_add o 1]
        have wr : ∀ (v : Int32) (M2 : Nat → Prop), fl v (M2 l) → (∀ c, c ≠ l → (M2 c ↔ M' c)) → (M' l → M2 l) → (M2 l → R l) → ∃ M'', V j (hp_uI y (41, 0) l v) M'' ∧ M'' = M2 := by
          intro v M2 q1 q2 q3 q4
          refine ⟨M2, ?_, rfl⟩
          rw [hV]
          refine ⟨_, hy.uC 1 l (Or.inr (Or.inl rfl)) rfl, hk.u l v, hg.uI (by decide : 20 ≤ 41), fl_u hf q1 q2, fun b hb => ?_, fun b hb => ?_, fun b hb hrk => ?_⟩
          · by_cases e : b = l
            · subst e
              exact q3 (h1 b hb)
            · exact (q2 b e).mpr (h1 b hb)
          · by_cases e : b = l
            · subst e
              exact q4 hb
            · exact h2 b ((q2 b e).mp hb)
          · by_cases e : b = l
            · subst e
              exact q3 (h3 b hb hrk)
            · exact (q2 b e).mpr (h3 b hb hrk)
        have hin' : (M' l ∨ ¬ (ed s o l ∧ M' o)) → ∀ o', o' < o + 1 → ed s o' l → R o' → rk (ed s) o' < j → M' l := by
          intro q o' ho' he hRo hrk
          by_cases e : o' = o
          · subst e
            rcases q with q | q
            · exact q
            · exact absurd ⟨he, h3 o' hRo hrk⟩ q
          · exact hin o' (by omega) he hRo hrk
        refine ⟨fun c => absurd c (nI_ge ho (by omega)), fun _ => ⟨il, fl'.bb' (fun q => ⟨io, fo'.bb (fun q2 => ⟨il, ih3 _ ?_⟩) (fun q2 => ?_)⟩) (fun q => ⟨il, ih3 _ ?_⟩)⟩⟩
        · obtain ⟨M'', hv2, e2⟩ := wr (nI 0) M' (fl0 q) (fun _ _ => Iff.rfl) id (h2 l)
          subst e2
          exact ⟨M'', hv2, hlo, hin' (Or.inr (fun z => q2 z.2))⟩
        · refine p_X4_isBehind hy w (by omega) (by omega) (fun r hfl => hfl.bb (fun q3 => ⟨il, ih3 _ ?_⟩) (fun q3 => ⟨il, ih3 _ ?_⟩))
          · obtain ⟨M'', hv2, e2⟩ := wr (nI 0) M' (fl0 q) (fun _ _ => Iff.rfl) id (h2 l)
            subst e2
            exact ⟨M'', hv2, hlo, hin' (Or.inr (fun z => q3 z.1))⟩
          · obtain ⟨M'', hv2, e2⟩ := wr (nI 1) (fun c => M' c ∨ c = l) (fl1 (Or.inr rfl)) (fun c hc => ⟨fun z => z.elim id (fun z => absurd z hc), Or.inl⟩) Or.inl (fun _ => hRe o l (h2 o q2) q3)
            refine ⟨M'', hv2, ?_, ?_⟩
            · rw [e2]
              exact fun b hb hRb hrk => Or.inl (hlo b hb hRb hrk)
            · rw [e2]
              exact fun _ _ _ _ _ => Or.inr rfl
        · obtain ⟨M'', hv2, e2⟩ := wr (nI 1) M' (fl1 q) (fun _ _ => Iff.rfl) id (h2 l)
          subst e2
          exact ⟨M'', hv2, hlo, hin' (Or.inl q)⟩
theorem p_X4_isBefore {P : Int32 → hp_S → Prop} {b i : Nat} (hr : RM x s D) (w : wf s) (ha : ∀ i, ¬ tc (ed s) i i) (hb : b < nS s) (hi : i < nS s) (h : ∀ x' D' r, RM x' s D' → KD D D' → GM x x' → fl r (tcr (ed s) b i) → P r x') : k_X4_isBefore P (nI b) (nI i) x := by
  have hS := w.S
  refine p_X4_unmark hr (fun x1 D1 hr1 hk1 hg1 hz => ⟨vp_in_nI (by omega) (by decide), ?_⟩)
  rw [cl b (by omega), cl i (by omega)]
  refine p_X4_markBehind (hr1.uC 1 b (Or.inr (Or.inl rfl)) rfl) w ha (M := fun c => c = b) (fl_u (M := fun _ => False) (fun c hc => by rw [hz c hc]; exact fl0 id) (fl1 rfl) (fun c hc => ⟨fun q => hc q, fun q => q.elim⟩)) (fun c hc => by rw [hc]; exact hb) (fun x2 D2 hr2 hk2 hg2 hf => ⟨vp_in_nI (by omega) (by decide), ?_⟩)
  rw [hr2.mar i]
  have hfi := (hf i (by omega)).congr (Q' := tcr (ed s) b i) ⟨fun ⟨a, e, q⟩ => by rw [e] at q; exact q, fun q => ⟨b, rfl, q⟩⟩
  exact ⟨hfi.nar, h x2 D2 _ hr2 ((hk1.u b _).tr hk2) ((hg1.uI (by decide : 20 ≤ 41)).tr hg2) hfi⟩
theorem p_X4_stale {P : Int32 → hp_S → Prop} {i : Nat} (hr : RM x s D) (w : wf s) (ha : ∀ i, ¬ tc (ed s) i i) (hi : i < nS s) (h : ∀ x' D' r, RM x' s D' → KD D D' → GM x x' → fl r (STALE s i) → P r x') : k_X4_stale P (nI i) x := by
  have hS := w.S
  refine p_X4_isStep hr hS (fun j hj e => b1' ?_) (fun q => absurd rfl (q i hi))
  refine upE (n := 12) (k_X4_stale_12 P (nI i)) (fun m y => ∃ D', RM y s D' ∧ KD D D' ∧ GM x y ∧ ∀ b, b < m → fl (D' 1 b) (b < nS s ∧ OFF s b)) x ⟨D, hr, KD.rf D, GM.rf x, fun b hb => absurd hb (by omega)⟩ ?_ ?_
  · rintro y ⟨D', hy, hk, hg, hb⟩ m
    unfold k_X4_stale_12
    refine ⟨fun _ => ?_, fun c => absurd (nI_le (Nat.le_refl _) (by decide)) c⟩
    rw [cl i (by omega)]
    refine p_X4_markBehind hy w ha hb (fun b q => q.1) (fun x2 D2 hr2 hk2 hg2 hf => ⟨vp_in_nI (by omega) (by decide), ?_⟩)
    rw [hr2.mar i]
    exact ⟨(hf i (by omega)).nar, h x2 D2 _ hr2 (hk.tr hk2) (hg.tr hg2) (hf i (by omega))⟩
  · rintro k y m hk ⟨D', hy, hkd, hg, hb⟩ ih
    have ik : vp_in (nI k) 12 := vp_in_nI hk (by decide)
    unfold k_X4_stale_12
    rw [cl k (by omega), nI_add k 1, hy.nS]
    have nxt : ∀ v : Int32, fl v (k < nS s ∧ OFF s k) → k_X4_stale_12 P (nI i) m (hp_uI y (41, 0) k v) (nI (k + 1)) := fun v hv => ih _ ⟨_, hy.uC 1 k (Or.inr (Or.inl rfl)) rfl, hkd.u k _, hg.uI (by decide : 20 ≤ 41), fun b hb' => by
      rw [cU_at]
      by_cases e : b = k
      · subst e
        rw [if_pos ⟨rfl, rfl⟩]
        exact hv
      · rw [if_neg (fun q => e q.2)]
        exact hb b (by omega)⟩
    refine ⟨fun c => absurd c (nI_ge hk (by decide)), fun _ => ⟨fun c => ⟨ik, nxt _ (fl0 (fun q => nI_ge q.1 (by omega) c))⟩, fun c => ?_⟩⟩
    have hks : k < nS s := by
      rcases Nat.lt_or_ge k (nS s) with q | q
      · exact q
      · exact absurd (nI_le q (by omega)) c
    exact p_X4_isOff hy w (by omega) (fun r hfl => hfl.bb (fun q => ⟨ik, nxt _ (fl0 (fun z => q z.2))⟩) (fun q => ⟨ik, nxt _ (fl1 ⟨hks, q⟩)⟩))
end MARK
