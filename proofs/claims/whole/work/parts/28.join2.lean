/-! PURE ROWS: join, its end -/
/-- what a session wrote is given, for things below m -/
def sGW (s : sg) (j m : Nat) : sg := (s.1, fun f i k => if f = 0 ∧ i = 0 ∧ k < m ∧ s.1 6 j k ≠ 0 then s.2 4 j k else s.2 f i k)
def sClose (s : sg) (j : Nat) : sg := sN (sGW s j (nT s)) 4 j 0 0
theorem sGW_0 (s : sg) (j : Nat) : sGW s j 0 = s := by
  refine Prod.ext rfl ?_
  funext f i k
  simp [sGW]
theorem sGW_val {s : sg} {j m t : Nat} (h : m ≤ t) : (sGW s j m).2 0 0 t = s.2 0 0 t := by
  simp only [sGW]
  rw [if_neg (by omega)]
theorem sGW_L {s : sg} {j m f i k : Nat} (h : f ≠ 0) : (sGW s j m).2 f i k = s.2 f i k := by
  simp only [sGW]
  rw [if_neg (fun q => h q.1)]
theorem sGW_step0 {s : sg} {j m : Nat} (h : s.1 6 j m = 0) : sGW s j (m + 1) = sGW s j m := by
  refine Prod.ext rfl ?_
  funext f i k
  simp only [sGW]
  by_cases q : f = 0 ∧ i = 0 ∧ k < m ∧ s.1 6 j k ≠ 0
  · rw [if_pos q, if_pos ⟨q.1, q.2.1, by omega, q.2.2.2⟩]
  · rw [if_neg q, if_neg]
    rintro ⟨h1, h2, h3, h4⟩
    by_cases e : k = m
    · subst e
      exact h4 h
    · exact q ⟨h1, h2, by omega, h4⟩
theorem sGW_step1 {s : sg} {j m : Nat} (h : s.1 6 j m ≠ 0) : sL (sGW s j m) 0 0 m (s.2 4 j m) = sGW s j (m + 1) := by
  refine Prod.ext rfl ?_
  funext f i k
  rw [sL_L]
  simp only [sGW]
  by_cases q : f = 0 ∧ i = 0 ∧ k = m
  · obtain ⟨rfl, rfl, rfl⟩ := q
    rw [if_pos ⟨rfl, rfl, rfl⟩, if_pos ⟨rfl, rfl, by omega, h⟩]
  · rw [if_neg q]
    by_cases q2 : f = 0 ∧ i = 0 ∧ k < m ∧ s.1 6 j k ≠ 0
    · rw [if_pos q2, if_pos ⟨q2.1, q2.2.1, by omega, q2.2.2.2⟩]
    · rw [if_neg q2, if_neg]
      rintro ⟨h1, h2, h3, h4⟩
      by_cases e : k = m
      · exact q ⟨h1, h2, e⟩
      · exact q2 ⟨h1, h2, by omega, h4⟩
section JOIN
variable {x : hp_S} {s : sg} {C : Nat → Nat → Int32}
theorem p_X1_within {P : Int32 → hp_S → Prop} {j : Nat} (hr : RX x s C) (hw : ∀ j t, s.1 6 j t ≤ 1) (h1 : (∀ t, t < 24 → ¬ BD s j t) → P (nI 1) x) (h0 : ∀ t, t < 24 → BD s j t → P (nI 0) x) : k_X1_isWithinBounds P j x := by
  refine upE (n := 24) (k_X1_isWithinBounds_2 P j) (fun m y => y = x ∧ ∀ t, t < m → ¬ BD s j t) x ⟨rfl, fun t ht => absurd ht (by omega)⟩ ?_ ?_
  · rintro y ⟨rfl, hb⟩ m
    unfold k_X1_isWithinBounds_2
    exact ⟨fun _ => h1 hb, fun c => absurd (nI_le (Nat.le_refl _) (by decide)) c⟩
  · rintro t y m ht ⟨rfl, hb⟩ ih
    have hi : vp_in (nI t) 24 := vp_in_nI ht (by decide)
    have hwt := hw j t
    unfold k_X1_isWithinBounds_2
    rw [cl _ (by omega), hr.wri j t ht, nI_add]
    have nxt : ¬ BD s j t → k_X1_isWithinBounds_2 P j m y (nI (t + 1)) := fun q => ih y ⟨rfl, fun t' ht' => by
      by_cases e : t' = t
      · rw [e]
        exact q
      · exact hb t' (by omega)⟩
    refine ⟨fun c => absurd c (nI_ge ht (by decide)), fun _ => ⟨hi, bz (hr.wro j t ht) (by omega) (fun e => nxt (fun q => q.1 e)) (fun e => ⟨hi, fun c => h0 t ht ⟨e, Or.inl c⟩, fun c => ⟨hi, fun c2 => nxt ?_, fun c2 => h0 t ht ⟨e, Or.inr c2⟩⟩⟩)⟩⟩
    rintro ⟨_, q | q⟩
    · exact c q
    · exact q c2
/-- one value is given -/
theorem p_X3_give {P : hp_S → Prop} {t : Nat} {v : Int64} (hr : RX x s C) (ht : t < 24) (h0 : s.2 0 0 t = v → P x) (h1 : s.2 0 0 t ≠ v → ∀ x', RX x' (sL s 0 0 t v) (cU C 2 0 (C 2 0 + nI 1)) → GX x x' → P x') : k_X3_give P (nI t) v x := by
  unfold k_X3_give
  have hi : vp_in (nI t) 24 := vp_in_nI ht (by decide)
  rw [cl _ (by omega), hr.val 0 t ht]
  refine ⟨hi, bl _ _ h0 (fun e => ⟨hi, ?_⟩)⟩
  have e1 : (hp_uL x (2, 0) t v).2.1 (0, 0) 10 = C 2 0 := hr.chg
  rw [e1]
  refine h1 e _ ?_ (((GX.rf x).uL (by decide : 2 < 20)).uI (by decide : 0 < 20))
  exact (hr.uL 0 0 t (Or.inl ⟨rfl, ht⟩) rfl).uC 2 0 (Or.inr (Or.inr ⟨rfl, rfl⟩)) rfl
theorem p_X3_giveWritten {P : hp_S → Prop} {j : Nat} (hr : RX x s C) (hT : nT s ≤ 24) (hw : ∀ j t, s.1 6 j t ≤ 1) (h : ∀ x' c, RX x' (sGW s j (nT s)) (cU C 2 0 c) → GX x x' → P x') : k_X3_giveWritten P j x := by
  refine upE (n := nT s) (k_X3_giveWritten_2 P j) (fun m y => (∃ c, RX y (sGW s j m) (cU C 2 0 c)) ∧ GX x y) x ⟨⟨C 2 0, by rw [sGW_0, cU_self rfl]; exact hr⟩, GX.rf x⟩ ?_ ?_
  · rintro y ⟨⟨c, hy⟩, hg⟩ m
    have hn : y.2.1 (0, 0) 6 = nI (nT s) := hy.nT
    unfold k_X3_giveWritten_2
    rw [hn]
    exact ⟨fun _ => h _ c hy hg, fun c => absurd (nI_le (Nat.le_refl _) (by omega)) c⟩
  · rintro t y m ht ⟨⟨c, hy⟩, hg⟩ ih
    have hn : y.2.1 (0, 0) 6 = nI (nT s) := hy.nT
    have hi : vp_in (nI t) 24 := vp_in_nI (by omega) (by decide)
    have hwt := hw j t
    have hwr : y.2.1 (18, j) t = nI (s.1 6 j t) := hy.wro j t (by omega)
    have hwv : y.2.2.1 (19, j) t = s.2 4 j t := by rw [hy.wri j t (by omega), sGW_L (by decide)]
    unfold k_X3_giveWritten_2
    rw [hn, cl t (by omega), hwv, nI_add]
    refine ⟨fun c => absurd c (nI_ge ht (by omega)), fun _ => ⟨hi, bz hwr (by omega) (fun e => ih y ⟨⟨c, ?_⟩, hg⟩) (fun e => ⟨hi, ?_⟩)⟩⟩
    · rw [sGW_step0 e]
      exact hy
    · refine p_X3_give hy (by omega) (fun q => ih y ⟨⟨c, ?_⟩, hg⟩) (fun q x' hr' hg' => ih x' ⟨⟨cU C 2 0 c 2 0 + nI 1, ?_⟩, hg.tr hg'⟩)
      · rw [← sGW_step1 e, sL_self q]
        exact hy
      · rw [← sGW_step1 e]
        have e3 : cU (cU C 2 0 c) 2 0 (cU C 2 0 c 2 0 + nI 1) = cU C 2 0 (cU C 2 0 c 2 0 + nI 1) := by
          funext f i
          simp only [cU]
          split <;> rfl
        rw [e3] at hr'
        exact hr'
theorem p_X3_join {P : Int32 → hp_S → Prop} {a1 a2 : Int32} (hr : RX x s C) (hx : SX x s) (hT : nT s ≤ 24) (hZ : nZ s ≤ 40) (ho : ∀ j, s.1 4 j 0 ≤ 1) (ht5 : ∀ j t, s.1 5 j t ≤ 1) (hw : ∀ j t, s.1 6 j t ≤ 1) (hwt : ∀ j t, s.1 6 j t ≠ 0 → t < nT s)
    (h2 : (∀ j, j < nZ s → a1 = nI j → s.1 4 j 0 ≠ 1) → P (-2) x)
    (hc : ∀ j, j < nZ s → a1 = nI j → s.1 4 j 0 = 1 → 0 < cnt (CF s j) (nT s) → ∀ x', RX x' (sN (sColl s j (nT s)) 0 4 0 (cnt (CF s j) (nT s))) C → FX x x' → x'.1 = x.1 → x'.2.2.2 (6, 0) 4 = some (15, j) → (∀ t k, t ≠ (6, 0) ∨ k ≠ 4 → x'.2.2.2 t k = x.2.2.2 t k) → P (nI (cnt (CF s j) (nT s))) x')
    (hb : ∀ j, j < nZ s → a1 = nI j → s.1 4 j 0 = 1 → cnt (CF s j) (nT s) = 0 → (a2 ≠ 0 ∨ ∃ t, t < nT s ∧ BD s j t) → P (-1) x)
    (h0 : ∀ j, j < nZ s → a1 = nI j → s.1 4 j 0 = 1 → cnt (CF s j) (nT s) = 0 → (a2 = 0 ∧ ∀ t, t < nT s → ¬ BD s j t) → ∀ x' c, RX x' (sClose s j) (cU C 2 0 c) → GX x x' → P (nI 0) x') : k_X3_join P a1 a2 x := by
  refine p_X3_isOpen hr hx hZ ho (fun j hj e eo => b1' ?_) (fun h => b0' (h2 h))
  subst e
  refine ⟨vp_in_nI (by omega) (by decide), ?_⟩
  rw [cl j (by omega)]
  refine ⟨hx.2 j hj, ?_⟩
  have hcm := cnt_max (CF s j) (nT s)
  refine p_X3_collect hr hT ht5 hw (fun c0 => ⟨fun _ => ⟨fun ca => hb j hj rfl eo c0 (Or.inl ca), fun ca => ?_⟩, fun c => absurd (by rw [nI_0]; exact Int32.le_refl 0) c⟩) (fun c0 x' k1 k2 k3 k4 k5 => ⟨fun c => ?_, fun _ => hc j hj rfl eo c0 x' k1 k2 k3 k4 k5⟩)
  · refine p_X1_within hr hw (fun q => b1' ?_) (fun t ht q => b0' (hb j hj rfl eo c0 (Or.inr ⟨t, hwt j t q.1, q⟩)))
    refine p_X3_giveWritten hr hT hw (fun x' c hr' hg => ?_)
    refine h0 j hj rfl eo c0 ⟨ca, fun t ht => q t (by omega)⟩ _ c ?_ (hg.uI (by decide : 15 < 20))
    exact hr'.uN 4 j 0 0 (Or.inr (Or.inr (Or.inr (Or.inr (Or.inl ⟨rfl, rfl⟩))))) rfl rfl
  · rw [nI_le0 (by omega)] at c
    omega
theorem p_X4_join {P : Int32 → hp_S → Prop} {a1 a2 : Int32} (hr : RM x s C) (hT : nT s ≤ 24) (hZ : nZ s ≤ 40) (ho : ∀ j, s.1 4 j 0 ≤ 1) (ht5 : ∀ j t, s.1 5 j t ≤ 1) (hw : ∀ j t, s.1 6 j t ≤ 1)
    (h2 : (∀ j, j < nZ s → a1 = nI j → s.1 4 j 0 ≠ 1) → P (-2) x)
    (hc : ∀ j, j < nZ s → a1 = nI j → s.1 4 j 0 = 1 → 0 < cnt (CF s j) (nT s) → ∀ x', RM x' (sN (sColl s j (nT s)) 0 4 0 (cnt (CF s j) (nT s))) (cU C 0 0 (nI j)) → GM x x' → P (nI (cnt (CF s j) (nT s))) x')
    (hb : ∀ j, j < nZ s → a1 = nI j → s.1 4 j 0 = 1 → cnt (CF s j) (nT s) = 0 → (a2 ≠ 0 ∨ ∃ t, t < nT s ∧ BD s j t) → P (-1) x)
    (h0 : ∀ j, j < nZ s → a1 = nI j → s.1 4 j 0 = 1 → cnt (CF s j) (nT s) = 0 → (a2 = 0 ∧ ∀ t, t < nT s → ¬ BD s j t) → ∀ x', RM x' (sClose s j) C → GM x x' → P (nI 0) x') : k_X4_join P a1 a2 x := by
  refine rc hr.nZ (by omega) (fun h => h2 (fun j hj e => absurd e (h j hj))) (fun j hj e => ?_)
  subst e
  have hoj := ho j
  have hi1 : vp_in (nI j) 40 := vp_in_nI (by omega) (by decide)
  refine ⟨hi1, ?_⟩
  rw [cl j (by omega)]
  refine bz' (hr.opn j) (by omega) (fun e => h2 (fun j' hj' e' => ?_)) (fun e => ?_)
  · rw [← nI_inj (by omega) (by omega) e', e]
    decide
  have eo : s.1 4 j 0 = 1 := by omega
  refine upE (n := nT s) (fun q (z : hp_S × Int32 × Int32) l5 => k_X4_join_32 P (nI j) a2 q z.1 z.2.1 z.2.2 l5) (fun t z => z.1 = x ∧ z.2.1 = nI (cnt (CF s j) t) ∧ (z.2.2 = 0 ↔ (a2 = 0 ∧ ∀ t', t' < t → ¬ BD s j t'))) (x, nI 0, a2) ⟨rfl, rfl, ⟨fun q => ⟨q, fun t ht => absurd ht (by omega)⟩, fun q => q.1⟩⟩ ?_ ?_
  · rintro ⟨y, l3, l4⟩ ⟨e1, e2, e3⟩ m
    dsimp only at e1 e2 e3 ⊢
    subst e1
    subst e2
    have hcm := cnt_max (CF s j) (nT s)
    unfold k_X4_join_32
    rw [hr.nT, nI_le0 (by omega)]
    refine ⟨fun _ => ⟨fun c => ⟨fun c2 => ?_, fun c2 => hb j hj rfl eo c ?_⟩, fun c => p_X4_keep hr (by omega) hT ht5 hw (fun x' hr' hg => hc j hj rfl eo (by omega) x' hr' hg)⟩, fun c => absurd (nI_le (Nat.le_refl _) (by omega)) c⟩
    · have hok := e3.mp c2
      refine upE (n := nT s) (k_X4_join_145 P (nI j) a2 (nI (cnt (CF s j) (nT s))) l4 _) (fun t z => RM z (sGW s j t) C ∧ GM y z) y ⟨by rw [sGW_0]; exact hr, GM.rf y⟩ ?_ ?_
      · rintro z ⟨hz, hg⟩ m'
        have hn : z.2.1 (20, 0) 0 = nI (nT s) := hz.nT
        unfold k_X4_join_145
        rw [hn]
        refine ⟨fun _ => ⟨hi1, ?_⟩, fun c => absurd (nI_le (Nat.le_refl _) (by omega)) c⟩
        rw [cl j (by omega)]
        exact h0 j hj rfl eo c hok _ (hz.uN 4 j 0 0 (Or.inr (Or.inr (Or.inr (Or.inr (Or.inl ⟨rfl, rfl⟩))))) rfl rfl) (hg.uI (by decide : 20 ≤ 22))
      · rintro t z m' ht ⟨hz, hg⟩ ih
        have hn : z.2.1 (20, 0) 0 = nI (nT s) := hz.nT
        have hwr : z.2.1 (24, 0) (24 * j + t) = nI (s.1 6 j t) := hz.wro j t (by omega)
        have hwv : z.2.2.1 (26, 0) (24 * j + t) = s.2 4 j t := by rw [hz.wri j t (by omega), sGW_L (by decide)]
        have hv : z.2.2.1 (21, 0) t = s.2 0 0 t := by rw [hz.val0 t (by omega), sGW_val (Nat.le_refl _)]
        have hwt := hw j t
        have hi : vp_in (nI (24 * j + t)) 960 := vp_in_nI (by omega) (by decide)
        have hi2 : vp_in (nI t) 144 := vp_in_nI (by omega) (by decide)
        unfold k_X4_join_145
        rw [hn, pk_mul 24 j, nI_add (24 * j) t, cl (24 * j + t) (by omega), cl t (by omega), hwv, hv, nI_add t 1]
        refine ⟨fun c => absurd c (nI_ge ht (by omega)), fun _ => ⟨hi, bz hwr (by omega) (fun e => ⟨hi2, hi2, ih _ ⟨?_, hg.uL (by decide : 20 ≤ 21)⟩⟩) (fun e => ⟨hi, hi2, ih _ ⟨?_, hg.uL (by decide : 20 ≤ 21)⟩⟩)⟩⟩
        · have h := hz.uL 0 0 t (Or.inl ⟨rfl, by omega⟩) (by simp [tML]) (v := s.2 0 0 t) (t := (21, 0)) (p := t)
          rw [sL_self (sGW_val (Nat.le_refl _))] at h
          rw [sGW_step0 e]
          exact h
        · have h := hz.uL 0 0 t (Or.inl ⟨rfl, by omega⟩) (by simp [tML]) (v := s.2 4 j t) (t := (21, 0)) (p := t)
          rw [sGW_step1 e] at h
          exact h
    · by_cases q : a2 = 0
      · refine Or.inr (Classical.byContradiction (fun hne => c2 (e3.mpr ⟨q, fun t ht hbd => hne ⟨t, ht, hbd⟩⟩)))
      · exact Or.inl q
  · rintro t ⟨y, l3, l4⟩ m ht ⟨e1, e2, e3⟩ ih
    dsimp only at e1 e2 e3 ⊢
    subst e1
    subst e2
    have hwt := hw j t
    have hi : vp_in (nI (24 * j + t)) 960 := vp_in_nI (by omega) (by decide)
    unfold k_X4_join_32
    rw [hr.nT, pk_mul 24 j, nI_add (24 * j) t, cl (24 * j + t) (by omega), nI_add t 1, nI_add _ 1]
    have bad : BD s j t → (nI 1 = 0 ↔ (a2 = 0 ∧ ∀ t', t' < t + 1 → ¬ BD s j t')) := fun q => ⟨fun z => absurd z (by decide), fun z => absurd q (z.2 t (by omega))⟩
    have bad' : ¬ l4 = 0 → (nI 1 = 0 ↔ (a2 = 0 ∧ ∀ t', t' < t + 1 → ¬ BD s j t')) := fun q => ⟨fun z => absurd z (by decide), fun z => absurd (e3.mpr ⟨z.1, fun t' ht' => z.2 t' (by omega)⟩) q⟩
    have good : l4 = 0 → ¬ BD s j t → (nI 0 = 0 ↔ (a2 = 0 ∧ ∀ t', t' < t + 1 → ¬ BD s j t')) := fun q1 q2 => ⟨fun _ => ⟨(e3.mp q1).1, fun t' ht' => by
      by_cases e : t' = t
      · rw [e]
        exact q2
      · exact (e3.mp q1).2 t' (by omega)⟩, fun _ => nI_0⟩
    have main : ∀ n' : Int32, n' = nI (cnt (CF s j) (t + 1)) → ((¬ l4 = 0 → (k_X4_join_32 P (nI j) a2 m y n' (nI 1) (nI (t + 1)))) ∧ (l4 = 0 → (vp_in (nI (24 * j + t)) 960 ∧ (((y.2.1 (24, 0) (24 * j + t)) = 0 → (k_X4_join_32 P (nI j) a2 m y n' (nI 0) (nI (t + 1)))) ∧ (¬ (y.2.1 (24, 0) (24 * j + t)) = 0 → (vp_in (nI (24 * j + t)) 960 ∧ ((0 < (lg_cmp (y.2.2.1 (26, 0) (24 * j + t)) 1000000000000) → (k_X4_join_32 P (nI j) a2 m y n' (nI 1) (nI (t + 1)))) ∧ (¬ 0 < (lg_cmp (y.2.2.1 (26, 0) (24 * j + t)) 1000000000000) → (vp_in (nI (24 * j + t)) 960 ∧ ((0 ≤ (lg_cmp (y.2.2.1 (26, 0) (24 * j + t)) (-1000000000000)) → (k_X4_join_32 P (nI j) a2 m y n' (nI 0) (nI (t + 1)))) ∧ (¬ 0 ≤ (lg_cmp (y.2.2.1 (26, 0) (24 * j + t)) (-1000000000000)) → (k_X4_join_32 P (nI j) a2 m y n' (nI 1) (nI (t + 1)))))))))))))) := by
      intro n' hn'
      rw [hr.wri j t (by omega)]
      refine ⟨fun c => ih (y, n', nI 1) ⟨rfl, hn', bad' c⟩, fun c => ⟨hi, bz (hr.wro j t (by omega)) (by omega) (fun e => ih (y, n', nI 0) ⟨rfl, hn', good c (fun q => q.1 e)⟩) (fun e => ⟨hi, fun c2 => ih (y, n', nI 1) ⟨rfl, hn', bad ⟨e, Or.inl c2⟩⟩, fun c2 => ⟨hi, fun c3 => ih (y, n', nI 0) ⟨rfl, hn', good c ?_⟩, fun c3 => ih (y, n', nI 1) ⟨rfl, hn', bad ⟨e, Or.inr c3⟩⟩⟩⟩)⟩⟩
      rintro ⟨_, q | q⟩
      · exact c2 q
      · exact q c3
    refine ⟨fun c => absurd c (nI_ge ht (by omega)), fun _ => ?_⟩
    refine p_X4_isConflict hr (by omega) (by omega) (ht5 j t) (hw j t) (fun q => b1 ?_) (fun q => b0 ?_)
    · have e1 : cnt (CF s j) (t + 1) = cnt (CF s j) t + 1 := by
        conv => lhs; unfold cnt
        rw [if_pos q]
      exact main _ (by rw [e1])
    · have e1 : cnt (CF s j) (t + 1) = cnt (CF s j) t := by
        conv => lhs; unfold cnt
        rw [if_neg q, Nat.add_zero]
      exact main _ (by rw [e1])
end JOIN
