/-! PURE ROWS: join -/
def CF (s : sg) (j t : Nat) : Prop := s.1 5 j t ≠ 0 ∧ s.2 3 j t ≠ s.2 0 0 t ∧ ¬ (s.1 6 j t ≠ 0 ∧ s.2 4 j t = s.2 0 0 t)
def OB (v : Int64) : Prop := 0 < lg_cmp v 1000000000000 ∨ ¬ 0 ≤ lg_cmp v (-1000000000000)
def BD (s : sg) (j t : Nat) : Prop := s.1 6 j t ≠ 0 ∧ OB (s.2 4 j t)
def sPut (s : sg) (k t : Nat) (v w : Int64) : sg := sN (sL (sL (sN s 7 k 0 t) 5 k 0 v) 6 k 0 w) 8 k 0 0
noncomputable def sColl (s : sg) (j : Nat) : Nat → sg
  | 0 => s
  | t + 1 => @ite _ (CF s j t) (Classical.propDecidable _) (sPut (sColl s j t) (cnt (CF s j) t) t (sView s j t) (s.2 0 0 t)) (sColl s j t)
theorem sPut_N {s : sg} {k t f i m : Nat} {v w : Int64} (h7 : f ≠ 7) (h8 : f ≠ 8) : (sPut s k t v w).1 f i m = s.1 f i m := by
  unfold sPut
  rw [sN_N, if_neg (fun q => h8 q.1), sL_N, sL_N, sN_N, if_neg (fun q => h7 q.1)]
theorem sPut_L {s : sg} {k t f i m : Nat} {v w : Int64} (h7 : f ≠ 5) (h8 : f ≠ 6) : (sPut s k t v w).2 f i m = s.2 f i m := by
  unfold sPut
  rw [sN_L, sL_L, if_neg (fun q => h8 q.1), sL_L, if_neg (fun q => h7 q.1), sN_L]
theorem sColl_N {s : sg} {j f i m : Nat} (h7 : f ≠ 7) (h8 : f ≠ 8) : ∀ t, (sColl s j t).1 f i m = s.1 f i m
  | 0 => rfl
  | t + 1 => by
    unfold sColl
    split
    · rw [sPut_N h7 h8, sColl_N h7 h8 t]
    · exact sColl_N h7 h8 t
theorem sColl_L {s : sg} {j f i m : Nat} (h7 : f ≠ 5) (h8 : f ≠ 6) : ∀ t, (sColl s j t).2 f i m = s.2 f i m
  | 0 => rfl
  | t + 1 => by
    unfold sColl
    split
    · rw [sPut_L h7 h8, sColl_L h7 h8 t]
    · exact sColl_L h7 h8 t
theorem CF_N {s : sg} {j t f i k v : Nat} (h5 : f ≠ 5) (h6 : f ≠ 6) : CF (sN s f i k v) j t ↔ CF s j t := by
  unfold CF
  rw [sN_N, if_neg (fun q => h5 q.1.symm), sN_N, if_neg (fun q => h6 q.1.symm), sN_L]
theorem sView_N {s : sg} {j t f i k v : Nat} (h6 : f ≠ 6) : sView (sN s f i k v) j t = sView s j t := by
  have e : (sN s f i k v).1 6 j t = s.1 6 j t := by rw [sN_N, if_neg (fun q => h6 q.1.symm)]
  unfold sView
  rw [e, sN_L]
theorem CF_coll {s : sg} {j t m : Nat} : CF (sColl s j m) j t ↔ CF s j t := by
  unfold CF
  rw [sColl_N (by decide) (by decide), sColl_N (by decide) (by decide), sColl_L (by decide) (by decide), sColl_L (by decide) (by decide), sColl_L (by decide) (by decide)]
theorem sView_coll {s : sg} {j t m : Nat} : sView (sColl s j m) j t = sView s j t := by
  unfold sView
  rw [sColl_N (by decide) (by decide), sColl_L (by decide) (by decide), sColl_L (by decide) (by decide)]
theorem sColl_none {s : sg} {j : Nat} : ∀ t, cnt (CF s j) t = 0 → sColl s j t = s
  | 0, _ => rfl
  | t + 1, h => by
    unfold cnt at h
    unfold sColl
    split
    · rename_i e
      rw [if_pos e] at h
      omega
    · exact sColl_none t (by omega)
theorem cnt_nil : ∀ {p : Nat → Prop} {n : Nat}, cnt p n = 0 → ∀ x, x < n → ¬ p x
  | p, n + 1, h, x, hx, hp => by
    unfold cnt at h
    by_cases e : x = n
    · subst e
      rw [if_pos hp] at h
      omega
    · exact cnt_nil (n := n) (by omega) x (by omega) hp
theorem nI_le0 {n : Nat} (h : n < 2 ^ 31) : nI n ≤ 0 ↔ n = 0 := by
  rw [← nI_0, nI_leI h (by decide)]
  omega
section JOIN
variable {x : hp_S} {s : sg} {C : Nat → Nat → Int32}
theorem p_X1_isConflict {P : Int32 → hp_S → Prop} {j t : Nat} (hr : RX x s C) (ht : t < 24) (hb5 : s.1 5 j t ≤ 1) (hb6 : s.1 6 j t ≤ 1) (h1 : CF s j t → P (nI 1) x) (h0 : ¬ CF s j t → P (nI 0) x) : k_X1_isConflict P j (nI t) (s.2 0 0 t) x := by
  unfold k_X1_isConflict
  have hi : vp_in (nI t) 24 := vp_in_nI ht (by decide)
  rw [cl _ (by omega), hr.bas j t ht, hr.wri j t ht]
  refine ⟨hi, bz (hr.tou j t ht) (by omega) (fun e => h0 (fun q => q.1 e)) (fun e => ⟨hi, bl _ _ (fun e2 => h0 (fun q => q.2.1 e2)) (fun e2 => ⟨hi, ?_⟩)⟩)⟩
  exact bz (hr.wro j t ht) (by omega) (fun e3 => h1 ⟨e, e2, fun q => q.1 e3⟩) (fun e3 => ⟨hi, bl _ _ (fun e4 => h0 (fun q => q.2.2 ⟨e3, e4⟩)) (fun e4 => h1 ⟨e, e2, fun q => e4 q.2⟩)⟩)
theorem RM.val0 (hr : RM x s C) (t : Nat) (ht : t < 24) : x.2.2.1 (21, 0) t = s.2 0 0 t := by
  have h := hr.val 0 t ht
  rw [Nat.mul_zero, Nat.zero_add] at h
  exact h
theorem p_X4_isConflict {P : Int32 → hp_S → Prop} {j t : Nat} (hr : RM x s C) (hj : j < 40) (ht : t < 24) (hb5 : s.1 5 j t ≤ 1) (hb6 : s.1 6 j t ≤ 1) (h1 : CF s j t → P (nI 1) x) (h0 : ¬ CF s j t → P (nI 0) x) : k_X4_isConflict P (nI j) (nI t) x := by
  unfold k_X4_isConflict
  rw [pk_mul 24 j, nI_add (24 * j) t]
  have hi : vp_in (nI (24 * j + t)) 960 := vp_in_nI (by omega) (by decide)
  have hi2 : vp_in (nI t) 144 := vp_in_nI (by omega) (by decide)
  rw [cl (24 * j + t) (by omega), cl t (by omega), hr.bas j t ht, hr.wri j t ht, hr.val0 t ht]
  refine ⟨hi, bz (hr.tou j t ht) (by omega) (fun e => h0 (fun q => q.1 e)) (fun e => ⟨hi2, hi, bl _ _ (fun e2 => h0 (fun q => q.2.1 e2.symm)) (fun e2 => ⟨hi, ?_⟩)⟩)⟩
  exact bz (hr.wro j t ht) (by omega) (fun e3 => h1 ⟨e, fun q => e2 q.symm, fun q => q.1 e3⟩) (fun e3 => ⟨hi2, hi, bl _ _ (fun e4 => h0 (fun q => q.2.2 ⟨e3, e4.symm⟩)) (fun e4 => h1 ⟨e, fun q => e2 q.symm, fun q => e4 q.2.symm⟩)⟩)
theorem p_X0_put {P : hp_S → Prop} {k t : Nat} {v w : Int64} (hr : RX x s C) (hk : k < 24) (h : ∀ x', RX x' (sPut s k t v w) C → GX x x' → P x') : k_X0_put P (nI k) (nI t) v w x := by
  unfold k_X0_put
  have hi : vp_in (nI k) 24 := vp_in_nI hk (by decide)
  rw [cl _ (by omega)]
  refine ⟨hi, hi, hi, hi, h _ ?_ (((((GX.rf x).uI (by decide : 7 < 20)).uL (by decide : 8 < 20)).uL (by decide : 9 < 20)).uI (by decide : 10 < 20))⟩
  exact (((hr.uN 7 k 0 t (Or.inr (Or.inr (Or.inr (Or.inr (Or.inr (Or.inr (Or.inr (Or.inl ⟨rfl, rfl⟩)))))))) rfl rfl).uL 5 k 0 (Or.inr (Or.inr (Or.inr (Or.inr (Or.inr (Or.inl ⟨rfl, rfl⟩)))))) rfl).uL 6 k 0 (Or.inr (Or.inr (Or.inr (Or.inr (Or.inr (Or.inr ⟨rfl, rfl⟩)))))) rfl).uN 8 k 0 0 (Or.inr (Or.inr (Or.inr (Or.inr (Or.inr (Or.inr (Or.inr (Or.inr ⟨rfl, rfl⟩)))))))) rfl rfl
theorem p_X3_collect {P : Int32 → hp_S → Prop} {j : Nat} (hr : RX x s C) (hT : nT s ≤ 24) (ht5 : ∀ j t, s.1 5 j t ≤ 1) (hw : ∀ j t, s.1 6 j t ≤ 1) (h0 : cnt (CF s j) (nT s) = 0 → P (nI 0) x) (h1 : 0 < cnt (CF s j) (nT s) → ∀ x', RX x' (sN (sColl s j (nT s)) 0 4 0 (cnt (CF s j) (nT s))) C → FX x x' → x'.1 = x.1 → x'.2.2.2 (6, 0) 4 = some (15, j) → (∀ t k, t ≠ (6, 0) ∨ k ≠ 4 → x'.2.2.2 t k = x.2.2.2 t k) → P (nI (cnt (CF s j) (nT s))) x') : k_X3_collectConflicts P j x := by
  refine upE (n := nT s) (fun q (z : hp_S × Int32) l3 => k_X3_collectConflicts_4 P j q z.1 z.2 l3) (fun t z => RX z.1 (sColl s j t) C ∧ GX x z.1 ∧ z.2 = nI (cnt (CF s j) t) ∧ (cnt (CF s j) t = 0 → z.1 = x)) (x, nI 0) ⟨hr, GX.rf x, rfl, fun _ => rfl⟩ ?_ ?_
  · rintro ⟨y, l2⟩ ⟨hy, hg, e, hx0⟩ m
    dsimp only at hy hg e hx0 ⊢
    subst e
    have hc := cnt_max (CF s j) (nT s)
    have hn : y.2.1 (0, 0) 6 = nI (nT s) := by rw [hy.nT]; exact congrArg nI (sColl_N (by decide) (by decide) _)
    unfold k_X3_collectConflicts_4
    rw [hn]
    refine ⟨fun _ => ?_, fun c => absurd (nI_le (Nat.le_refl _) (by omega)) c⟩
    rw [nI_le0 (by omega)]
    refine ⟨fun c => ?_, fun c => ?_⟩
    · have := hx0 c
      rw [c, this]
      exact h0 c
    · refine h1 (by omega) _ ((RX.uR hy).uN 0 4 0 _ (Or.inl ⟨rfl, by decide, rfl⟩) rfl rfl) ((FX.uR hg.2.2).uI (by decide : 6 < 20)) hg.1 ?_ ?_
      · simp [hp_uI, hp_uR]
      · intro t k hne
        have : y.2.2.2 t k = x.2.2.2 t k := by rw [hg.2.1]
        simp only [hp_uI, hp_uR]
        rw [if_neg (by rintro ⟨rfl, rfl⟩; rcases hne with h | h <;> exact h rfl)]
        exact this
  · rintro t ⟨y, l2⟩ m ht ⟨hy, hg, e, hx0⟩ ih
    dsimp only at hy hg e hx0 ⊢
    subst e
    have hc := cnt_max (CF s j) t
    have hn : y.2.1 (0, 0) 6 = nI (nT s) := by rw [hy.nT]; exact congrArg nI (sColl_N (by decide) (by decide) _)
    have hv : y.2.2.1 (2, 0) t = (sColl s j t).2 0 0 t := hy.val 0 t (by omega)
    unfold k_X3_collectConflicts_4
    rw [hn, cl t (by omega), hv]
    refine ⟨fun c => absurd c (nI_ge ht (by omega)), fun _ => ⟨vp_in_nI (by omega) (by decide), ?_⟩⟩
    refine p_X1_isConflict hy (by omega) (by rw [sColl_N (by decide) (by decide)]; exact ht5 j t) (by rw [sColl_N (by decide) (by decide)]; exact hw j t) (fun q => b1 ?_) (fun q => b0 ?_)
    · have q' := CF_coll.mp q
      refine p_X1_view hy (by omega) (by rw [sColl_N (by decide) (by decide)]; exact hw j t) ⟨vp_in_nI (by omega) (by decide), ?_⟩
      rw [hv]
      refine p_X0_put hy (by omega) (fun x' hr' hg' => ?_)
      rw [nI_add _ 1, nI_add t 1]
      have e1 : cnt (CF s j) (t + 1) = cnt (CF s j) t + 1 := by
        conv => lhs; unfold cnt
        rw [if_pos q']
      refine ih (x', nI (cnt (CF s j) t + 1)) ⟨?_, hg.tr hg', by rw [e1], fun z => by omega⟩
      unfold sColl
      rw [if_pos q']
      rw [sView_coll, sColl_L (by decide) (by decide)] at hr'
      exact hr'
    · have q' : ¬ CF s j t := fun z => q (CF_coll.mpr z)
      rw [nI_add t 1]
      have e1 : cnt (CF s j) (t + 1) = cnt (CF s j) t := by
        conv => lhs; unfold cnt
        rw [if_neg q', Nat.add_zero]
      refine ih (y, nI (cnt (CF s j) t)) ⟨?_, hg, by rw [e1], fun z => hx0 (by omega)⟩
      unfold sColl
      rw [if_neg q']
      exact hy
/-- the reference keeps them -/
theorem p_X4_keep {P : hp_S → Prop} {j : Nat} (hr : RM x s C) (hj : j < 40) (hT : nT s ≤ 24) (ht5 : ∀ j t, s.1 5 j t ≤ 1) (hw : ∀ j t, s.1 6 j t ≤ 1) (h : ∀ x', RM x' (sN (sColl s j (nT s)) 0 4 0 (cnt (CF s j) (nT s))) (cU C 0 0 (nI j)) → GM x x' → P x') : k_X4_keepConflicts P (nI j) x := by
  refine upE (n := nT s) (k_X4_keepConflicts_12 P (nI j)) (fun t y => RM y (sN (sColl s j t) 0 4 0 (cnt (CF s j) t)) (cU C 0 0 (nI j)) ∧ GM x y) _ ⟨?_, ((GM.rf x).uI (by decide : 20 ≤ 20)).uI (by decide : 20 ≤ 20)⟩ ?_ ?_
  · exact (hr.uN 0 4 0 0 (Or.inl ⟨rfl, by decide, rfl⟩) rfl rfl).uC 0 0 (Or.inl ⟨rfl, rfl⟩) rfl
  · rintro y ⟨hy, hg⟩ m
    have hn : y.2.1 (20, 0) 0 = nI (nT s) := by rw [hy.nT]; exact congrArg nI (by show (sN _ 0 4 0 _).1 0 0 0 = _; rw [sN_N, if_neg (by decide)]; exact sColl_N (by decide) (by decide) _)
    unfold k_X4_keepConflicts_12
    rw [hn]
    exact ⟨fun _ => h _ hy hg, fun c => absurd (nI_le (Nat.le_refl _) (by omega)) c⟩
  · rintro t y m ht ⟨hy, hg⟩ ih
    have hc := cnt_max (CF s j) t
    have hn : y.2.1 (20, 0) 0 = nI (nT s) := by rw [hy.nT]; exact congrArg nI (by show (sN _ 0 4 0 _).1 0 0 0 = _; rw [sN_N, if_neg (by decide)]; exact sColl_N (by decide) (by decide) _)
    have hcn : y.2.1 (20, 0) 9 = nI (cnt (CF s j) t) := by rw [hy.nC]; exact congrArg nI (by show (sN _ 0 4 0 _).1 0 4 0 = _; rw [sN_N, if_pos (by decide)])
    have hcf : CF (sN (sColl s j t) 0 4 0 (cnt (CF s j) t)) j t ↔ CF s j t := (CF_N (by decide) (by decide)).trans CF_coll
    have hb5 : (sN (sColl s j t) 0 4 0 (cnt (CF s j) t)).1 5 j t ≤ 1 := by rw [sN_N, if_neg (by simp), sColl_N (by decide) (by decide)]; exact ht5 j t
    have hb6 : (sN (sColl s j t) 0 4 0 (cnt (CF s j) t)).1 6 j t ≤ 1 := by rw [sN_N, if_neg (by simp), sColl_N (by decide) (by decide)]; exact hw j t
    unfold k_X4_keepConflicts_12
    rw [hn]
    refine ⟨fun c => absurd c (nI_ge ht (by omega)), fun _ => ?_⟩
    rw [nI_add t 1]
    refine p_X4_isConflict hy hj (by omega) hb5 hb6 (fun q => b1 ?_) (fun q => b0 ?_)
    · have q' := hcf.mp q
      have hik : vp_in (nI (cnt (CF s j) t)) 24 := vp_in_nI (by omega) (by decide)
      rw [hcn, cl (cnt (CF s j) t) (by omega)]
      have hc1 : ∀ v, (hp_uI y (27, 0) (cnt (CF s j) t) v).2.1 (20, 0) 9 = nI (cnt (CF s j) t) := fun v => by
        rw [hp_uI_at, if_neg (by simp)]
        exact hcn
      have hy1 := hy.uN 7 (cnt (CF s j) t) 0 t (Or.inr (Or.inr (Or.inr (Or.inr (Or.inr (Or.inr (Or.inr (Or.inl ⟨rfl, rfl⟩)))))))) rfl rfl (t := (27, 0)) (p := cnt (CF s j) t) (w := nI t)
      refine ⟨hik, ?_⟩
      rw [pk_mul 24 j, nI_add (24 * j) t]
      refine p_X4_own hy1 hj (by omega) (by rw [sN_N, if_neg (by simp)]; exact hb6) ?_
      rw [hc1, cl (cnt (CF s j) t) (by omega), cl t (by omega)]
      have ev : sView (sN (sN (sColl s j t) 0 4 0 (cnt (CF s j) t)) 7 (cnt (CF s j) t) 0 t) j t = sView s j t := by
        rw [sView_N (by decide), sView_N (by decide), sView_coll]
      rw [ev]
      have hc2 : ∀ v : Int64, (hp_uL (hp_uI y (27, 0) (cnt (CF s j) t) (nI t)) (28, 0) (cnt (CF s j) t) v).2.1 (20, 0) 9 = nI (cnt (CF s j) t) := fun v => hc1 (nI t)
      have hc3 : ∀ v w : Int64, (hp_uL (hp_uL (hp_uI y (27, 0) (cnt (CF s j) t) (nI t)) (28, 0) (cnt (CF s j) t) v) (29, 0) (cnt (CF s j) t) w).2.1 (20, 0) 9 = nI (cnt (CF s j) t) := fun v w => hc1 (nI t)
      have hv2 : (hp_uL (hp_uI y (27, 0) (cnt (CF s j) t) (nI t)) (28, 0) (cnt (CF s j) t) (sView s j t)).2.2.1 (21, 0) t = s.2 0 0 t := by
        rw [hp_uL_at, if_neg (by simp)]
        show y.2.2.1 (21, 0) t = _
        rw [hy.val0 t (by omega), sN_L, sColl_L (by decide) (by decide)]
      rw [hc2, cl (cnt (CF s j) t) (by omega), hv2, hc3, cl (cnt (CF s j) t) (by omega)]
      have hc4 : (hp_uI (hp_uL (hp_uL (hp_uI y (27, 0) (cnt (CF s j) t) (nI t)) (28, 0) (cnt (CF s j) t) (sView s j t)) (29, 0) (cnt (CF s j) t) (s.2 0 0 t)) (30, 0) (cnt (CF s j) t) (nI 0)).2.1 (20, 0) 9 = nI (cnt (CF s j) t) := by
        rw [hp_uI_at, if_neg (by simp)]
        exact hc3 _ _
      rw [hc4, nI_add (cnt (CF s j) t) 1]
      refine ⟨hik, vp_in_nI (by omega) (by decide), hik, hik, ih _ ⟨?_, (((((hg.uI (by decide : 20 ≤ 27)).uL (by decide : 20 ≤ 28)).uL (by decide : 20 ≤ 29)).uI (by decide : 20 ≤ 30)).uI (by decide : 20 ≤ 20))⟩⟩
      have hf := (((hy1.uL 5 (cnt (CF s j) t) 0 (Or.inr (Or.inr (Or.inr (Or.inr (Or.inr (Or.inl ⟨rfl, rfl⟩)))))) rfl (v := sView s j t) (t := (28, 0)) (p := cnt (CF s j) t)).uL 6 (cnt (CF s j) t) 0 (Or.inr (Or.inr (Or.inr (Or.inr (Or.inr (Or.inr ⟨rfl, rfl⟩)))))) rfl (v := s.2 0 0 t) (t := (29, 0)) (p := cnt (CF s j) t)).uN 8 (cnt (CF s j) t) 0 0 (Or.inr (Or.inr (Or.inr (Or.inr (Or.inr (Or.inr (Or.inr (Or.inr ⟨rfl, rfl⟩)))))))) rfl rfl (t := (30, 0)) (p := cnt (CF s j) t) (w := nI 0)).uN 0 4 0 (cnt (CF s j) t + 1) (Or.inl ⟨rfl, by decide, rfl⟩) rfl rfl (t := (20, 0)) (p := 9) (w := nI (cnt (CF s j) t + 1))
      have e1 : cnt (CF s j) (t + 1) = cnt (CF s j) t + 1 := by
        conv => lhs; unfold cnt
        rw [if_pos q']
      have e2 : sN (sColl s j (t + 1)) 0 4 0 (cnt (CF s j) (t + 1)) = sN (sN (sL (sL (sN (sN (sColl s j t) 0 4 0 (cnt (CF s j) t)) 7 (cnt (CF s j) t) 0 t) 5 (cnt (CF s j) t) 0 (sView s j t)) 6 (cnt (CF s j) t) 0 (s.2 0 0 t)) 8 (cnt (CF s j) t) 0 0) 0 4 0 (cnt (CF s j) t + 1) := by
        rw [e1]
        conv => lhs; unfold sColl
        rw [if_pos q']
        unfold sPut
        refine Prod.ext ?_ rfl
        funext f i k
        simp only [sN_N, sL_N]
        split
        · rfl
        · rfl
      rw [e2]
      exact hf
    · have q' : ¬ CF s j t := fun z => q (hcf.mpr z)
      refine ih y ⟨?_, hg⟩
      have e1 : cnt (CF s j) (t + 1) = cnt (CF s j) t := by
        conv => lhs; unfold cnt
        rw [if_neg q', Nat.add_zero]
      have e2 : sColl s j (t + 1) = sColl s j t := by
        conv => lhs; unfold sColl
        rw [if_neg q']
      rw [e1, e2]
      exact hy
end JOIN
