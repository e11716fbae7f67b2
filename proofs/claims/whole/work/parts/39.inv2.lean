/-! THE INVARIANT: sessions, conflicts, branches -/
theorem wf_session {s : sg} (w : wf s) (h : nZ s < 40) : wf (sSession s) := by
  have n0 : ∀ f i k, (sSession s).1 f i k = if f = 0 ∧ i = 3 ∧ k = 0 then nZ s + 1 else if f = 4 ∧ i = nZ s ∧ k = 0 then 1 else s.1 f i k := fun f i k => by unfold sSession; rw [sN_N, sN_N]
  have n1 : ∀ f i k, ¬ (f = 0 ∧ i = 3) → f ≠ 4 → (sSession s).1 f i k = s.1 f i k := fun f i k q1 q2 => by rw [n0, if_neg (fun z => q1 ⟨z.1, z.2.1⟩), if_neg (fun z => q2 z.1)]
  have eT : nT (sSession s) = nT s := n1 0 0 0 (by omega) (by omega)
  have eB : nB (sSession s) = nB s := n1 0 1 0 (by omega) (by omega)
  have eZ : nZ (sSession s) = nZ s + 1 := by show (sSession s).1 0 3 0 = _; rw [n0, if_pos ⟨rfl, rfl, rfl⟩]
  have eC : nC (sSession s) = nC s := n1 0 4 0 (by omega) (by omega)
  refine wf_same w (by omega) (by rw [eT]; exact w.T) (by rw [eB]; exact w.B1) (by rw [eB]; exact w.B) (n1 0 2 0 (by omega) (by omega)) (by omega) (by rw [eC]; exact w.C) (fun i k => n1 1 i k (by omega) (by omega)) (fun i k => n1 2 i k (by omega) (by omega)) (fun i k => n1 3 i k (by omega) (by omega)) (fun j => ?_) (fun j t => by rw [n1 5 j t (by omega) (by omega)]; exact w.to j t) (fun j t => by rw [n1 6 j t (by omega) (by omega)]; exact w.wr j t) (fun j t q => by rw [n1 6 j t (by omega) (by omega)] at q; rw [eT]; exact w.wt j t q) (fun k q => by rw [eC] at q; rw [n1 7 k 0 (by omega) (by omega), eT]; exact w.ct k q) (fun k => by rw [n1 8 k 0 (by omega) (by omega)]; exact w.cs k) (fun j q => ?_) (fun i k => rfl) (fun i => rfl) (fun b t q => w.zv b t (by rw [eT] at q; exact q))
  · rw [n0, if_neg (by omega)]
    split
    · exact Nat.le_refl _
    · exact w.op j
  · rw [eZ] at q
    obtain ⟨z1, z2⟩ := w.zs.2 j (by omega)
    rw [n0 4 j 0, if_neg (by omega), if_neg (by omega)]
    refine ⟨z1, fun t => ?_⟩
    rw [n1 5 j t (by omega) (by omega), n1 6 j t (by omega) (by omega)]
    exact z2 t
theorem gr_session {s : sg} {C : Nat → Nat → Int32} (g : gr s C) : gr (sSession s) C := by
  have n0 : ∀ f i k, (sSession s).1 f i k = if f = 0 ∧ i = 3 ∧ k = 0 then nZ s + 1 else if f = 4 ∧ i = nZ s ∧ k = 0 then 1 else s.1 f i k := fun f i k => by unfold sSession; rw [sN_N, sN_N]
  have n1 : ∀ f i k, ¬ (f = 0 ∧ i = 3) → f ≠ 4 → (sSession s).1 f i k = s.1 f i k := fun f i k q1 q2 => by rw [n0, if_neg (fun z => q1 ⟨z.1, z.2.1⟩), if_neg (fun z => q2 z.1)]
  exact gr_same g (n1 0 0 0 (by omega) (by omega)) (n1 0 2 0 (by omega) (by omega)) (fun i k => n1 1 i k (by omega) (by omega)) (fun i k => n1 2 i k (by omega) (by omega)) (fun i k => n1 3 i k (by omega) (by omega)) (fun _ _ _ => rfl)
/-- a session's own registers change, nothing else -/
theorem wf_own {s s' : sg} {j : Nat} (w : wf s) (hj : j < nZ s) (e0 : ∀ f i k, f ≠ 4 → f ≠ 5 → f ≠ 6 → f ≠ 8 → s'.1 f i k = s.1 f i k) (ej : ∀ f i k, f ≠ 8 → i ≠ j → s'.1 f i k = s.1 f i k) (h4 : s'.1 4 j 0 ≤ 1) (h5 : ∀ t, s'.1 5 j t ≤ 1) (h6 : ∀ t, s'.1 6 j t ≤ 1) (h6t : ∀ t, s'.1 6 j t ≠ 0 → t < nT s) (h8 : ∀ k, s'.1 8 k 0 ≤ 1) (l0 : ∀ f i k, f = 1 ∨ f = 2 → s'.2 f i k = s.2 f i k) (lj : ∀ f i k, f = 3 ∨ f = 4 → i ≠ j → s'.2 f i k = s.2 f i k) (hv : ∀ b t, nT s ≤ t → s'.2 0 b t = 0) : wf s' := by
  have eT : nT s' = nT s := e0 0 0 0 (by omega) (by omega) (by omega) (by omega)
  have eB : nB s' = nB s := e0 0 1 0 (by omega) (by omega) (by omega) (by omega)
  have eZ : nZ s' = nZ s := e0 0 3 0 (by omega) (by omega) (by omega) (by omega)
  have eC : nC s' = nC s := e0 0 4 0 (by omega) (by omega) (by omega) (by omega)
  have hc : ∀ i, i = j ∨ i ≠ j := fun i => by omega
  refine wf_same w (by omega) (by rw [eT]; exact w.T) (by rw [eB]; exact w.B1) (by rw [eB]; exact w.B) (e0 0 2 0 (by omega) (by omega) (by omega) (by omega)) (by rw [eZ]; exact w.Z) (by rw [eC]; exact w.C) (fun i k => e0 1 i k (by omega) (by omega) (by omega) (by omega)) (fun i k => e0 2 i k (by omega) (by omega) (by omega) (by omega)) (fun i k => e0 3 i k (by omega) (by omega) (by omega) (by omega)) (fun i => ?_) (fun i t => ?_) (fun i t => ?_) (fun i t q => ?_) (fun k q => by rw [eC] at q; rw [e0 7 k 0 (by omega) (by omega) (by omega) (by omega), eT]; exact w.ct k q) h8 (fun i q => ?_) (fun i k => l0 1 i k (by omega)) (fun i => l0 2 i 0 (by omega)) (fun b t q => hv b t (by rw [eT] at q; exact q))
  · rcases hc i with rfl | e
    · exact h4
    · rw [ej 4 i 0 (by omega) e]
      exact w.op i
  · rcases hc i with rfl | e
    · exact h5 t
    · rw [ej 5 i t (by omega) e]
      exact w.to i t
  · rcases hc i with rfl | e
    · exact h6 t
    · rw [ej 6 i t (by omega) e]
      exact w.wr i t
  · rw [eT]
    rcases hc i with rfl | e
    · exact h6t t q
    · rw [ej 6 i t (by omega) e] at q
      exact w.wt i t q
  · rw [eZ] at q
    have e : i ≠ j := by omega
    obtain ⟨z1, z2⟩ := w.zs.2 i q
    rw [ej 4 i 0 (by omega) e]
    refine ⟨z1, fun t => ?_⟩
    rw [ej 5 i t (by omega) e, ej 6 i t (by omega) e, lj 3 i t (by omega) e, lj 4 i t (by omega) e]
    exact z2 t
theorem gr_own {s s' : sg} {C : Nat → Nat → Int32} (g : gr s C) (e0 : ∀ f i k, f < 4 → s'.1 f i k = s.1 f i k) {C' : Nat → Nat → Int32} (c : ∀ f i, f ≠ 2 → C' f i = C f i) : gr s' C' := gr_same g (e0 0 0 0 (by omega)) (e0 0 2 0 (by omega)) (fun i k => e0 1 i k (by omega)) (fun i k => e0 2 i k (by omega)) (fun i k => e0 3 i k (by omega)) c
theorem sTouch_o {s : sg} {j t f i k : Nat} {v : Int64} (h : ¬ (f = 5 ∧ i = j)) : (sTouch s j t v).1 f i k = s.1 f i k := by
  unfold sTouch
  split
  · rw [sL_N, sN_N, if_neg (fun z => h ⟨z.1, z.2.1⟩)]
  · rfl
theorem sTouch_l {s : sg} {j t f i k : Nat} {v : Int64} (h : ¬ (f = 3 ∧ i = j)) : (sTouch s j t v).2 f i k = s.2 f i k := by
  unfold sTouch
  split
  · rw [sL_L, if_neg (fun z => h ⟨z.1, z.2.1⟩), sN_L]
  · rfl
theorem sTouch_5 {s : sg} {j t : Nat} {v : Int64} (w : wf s) (t' : Nat) : (sTouch s j t v).1 5 j t' ≤ 1 := by
  unfold sTouch
  split
  · rw [sL_N, sN_N]
    split
    · exact Nat.le_refl _
    · exact w.to j t'
  · exact w.to j t'
theorem wf_touch {s : sg} {j t : Nat} {v : Int64} (w : wf s) (hj : j < nZ s) : wf (sTouch s j t v) :=
  wf_own w hj (fun f i k _ h5 _ _ => sTouch_o (fun z => h5 z.1)) (fun f i k _ hi => sTouch_o (fun z => hi z.2)) (by rw [sTouch_o (by omega)]; exact w.op j) (fun t' => sTouch_5 w t') (fun t' => by rw [sTouch_o (by omega)]; exact w.wr j t') (fun t' q => by rw [sTouch_o (by omega)] at q; exact w.wt j t' q) (fun k => by rw [sTouch_o (by omega)]; exact w.cs k) (fun f i k h => sTouch_l (by omega)) (fun f i k _ hi => sTouch_l (fun z => hi z.2)) (fun b t' q => by rw [sTouch_l (by omega)]; exact w.zv b t' q)
theorem wf_write {s : sg} {j t : Nat} {v : Int64} (w : wf s) (hj : j < nZ s) (ht : t < nT s) : wf (sWrite s j t v) := by
  have n : ∀ f i k, (sWrite s j t v).1 f i k = if f = 6 ∧ i = j ∧ k = t then 1 else s.1 f i k := fun f i k => by unfold sWrite; rw [sL_N, sN_N]
  have l : ∀ f i k, (sWrite s j t v).2 f i k = if f = 4 ∧ i = j ∧ k = t then v else s.2 f i k := fun f i k => by unfold sWrite; rw [sL_L, sN_L]
  refine wf_own w hj (fun f i k _ _ h6 _ => by rw [n, if_neg (fun z => h6 z.1)]) (fun f i k _ hi => by rw [n, if_neg (fun z => hi z.2.1)]) (by rw [n, if_neg (by omega)]; exact w.op j) (fun t' => by rw [n, if_neg (by omega)]; exact w.to j t') (fun t' => ?_) (fun t' q => ?_) (fun k => by rw [n, if_neg (by omega)]; exact w.cs k) (fun f i k h => by rw [l, if_neg (by omega)]) (fun f i k _ hi => by rw [l, if_neg (fun z => hi z.2.1)]) (fun b t' q => by rw [l, if_neg (by omega)]; exact w.zv b t' q)
  · rw [n]
    split
    · exact Nat.le_refl _
    · exact w.wr j t'
  · rw [n] at q
    split at q
    · rename_i e
      rw [e.2.2]
      exact ht
    · exact w.wt j t' q
theorem sWrite_nZ {s : sg} {j t : Nat} {v : Int64} : ∀ f i k, f ≠ 6 → (sWrite s j t v).1 f i k = s.1 f i k := fun f i k h => by unfold sWrite; rw [sL_N, sN_N, if_neg (fun z => h z.1)]
theorem sSettle_N {s : sg} {k j : Nat} {d : Bool} {f i m : Nat} (h6 : f ≠ 6) (h8 : f ≠ 8) : (sSettle s k j d).1 f i m = s.1 f i m := by
  unfold sSettle
  cases d
  · show (sL (sN s 8 k 0 1) 3 j (s.1 7 k 0) (s.2 6 k 0)).1 f i m = _
    rw [sL_N, sN_N, if_neg (fun z => h8 z.1)]
  · show (sN (sL (sN s 8 k 0 1) 3 j (s.1 7 k 0) (s.2 6 k 0)) 6 j (s.1 7 k 0) 0).1 f i m = _
    rw [sN_N, if_neg (fun z => h6 z.1), sL_N, sN_N, if_neg (fun z => h8 z.1)]
theorem sSettle_6 {s : sg} {k j : Nat} {d : Bool} {i m : Nat} : (sSettle s k j d).1 6 i m = s.1 6 i m ∨ (i = j ∧ (sSettle s k j d).1 6 i m = 0) := by
  unfold sSettle
  cases d
  · left
    show (sL (sN s 8 k 0 1) 3 j (s.1 7 k 0) (s.2 6 k 0)).1 6 i m = _
    rw [sL_N, sN_N, if_neg (by omega)]
  · show (sN (sL (sN s 8 k 0 1) 3 j (s.1 7 k 0) (s.2 6 k 0)) 6 j (s.1 7 k 0) 0).1 6 i m = _ ∨ (i = j ∧ (sN (sL (sN s 8 k 0 1) 3 j (s.1 7 k 0) (s.2 6 k 0)) 6 j (s.1 7 k 0) 0).1 6 i m = 0)
    rw [sN_N]
    by_cases e : 6 = 6 ∧ i = j ∧ m = s.1 7 k 0
    · rw [if_pos e]
      exact Or.inr ⟨e.2.1, rfl⟩
    · rw [if_neg e, sL_N, sN_N, if_neg (by omega)]
      exact Or.inl rfl
theorem sSettle_8 {s : sg} {k j : Nat} {d : Bool} (w : wf s) (m : Nat) : (sSettle s k j d).1 8 m 0 ≤ 1 := by
  unfold sSettle
  cases d
  · show (sL (sN s 8 k 0 1) 3 j (s.1 7 k 0) (s.2 6 k 0)).1 8 m 0 ≤ 1
    rw [sL_N, sN_N]
    split
    · exact Nat.le_refl _
    · exact w.cs m
  · show (sN (sL (sN s 8 k 0 1) 3 j (s.1 7 k 0) (s.2 6 k 0)) 6 j (s.1 7 k 0) 0).1 8 m 0 ≤ 1
    rw [sN_N, if_neg (by omega), sL_N, sN_N]
    split
    · exact Nat.le_refl _
    · exact w.cs m
theorem sSettle_L {s : sg} {k j : Nat} {d : Bool} {f i m : Nat} (h : ¬ (f = 3 ∧ i = j)) : (sSettle s k j d).2 f i m = s.2 f i m := by
  unfold sSettle
  cases d
  · show (sL (sN s 8 k 0 1) 3 j (s.1 7 k 0) (s.2 6 k 0)).2 f i m = _
    rw [sL_L, if_neg (fun z => h ⟨z.1, z.2.1⟩), sN_L]
  · show (sN (sL (sN s 8 k 0 1) 3 j (s.1 7 k 0) (s.2 6 k 0)) 6 j (s.1 7 k 0) 0).2 f i m = _
    rw [sN_L, sL_L, if_neg (fun z => h ⟨z.1, z.2.1⟩), sN_L]
theorem wf_settle {s : sg} {k j : Nat} {d : Bool} (w : wf s) (hj : j < nZ s) : wf (sSettle s k j d) := by
  refine wf_own w hj (fun f i m _ _ h6 h8 => sSettle_N h6 h8) (fun f i m h8 hi => ?_) (by rw [sSettle_N (by omega) (by omega)]; exact w.op j) (fun t => by rw [sSettle_N (by omega) (by omega)]; exact w.to j t) (fun t => ?_) (fun t q => ?_) (sSettle_8 w) (fun f i m h => sSettle_L (by omega)) (fun f i m _ hi => sSettle_L (fun z => hi z.2)) (fun b t q => by rw [sSettle_L (by omega)]; exact w.zv b t q)
  · by_cases h6 : f = 6
    · subst h6
      rcases sSettle_6 (s := s) (k := k) (j := j) (d := d) (i := i) (m := m) with e | e
      · exact e
      · exact absurd e.1 hi
    · exact sSettle_N h6 h8
  · rcases sSettle_6 (s := s) (k := k) (j := j) (d := d) (i := j) (m := t) with e | e
    · rw [e]
      exact w.wr j t
    · omega
  · rcases sSettle_6 (s := s) (k := k) (j := j) (d := d) (i := j) (m := t) with e | e
    · rw [e] at q
      exact w.wt j t q
    · exact absurd e.2 q
theorem wf_close {s : sg} {j : Nat} (w : wf s) (hj : j < nZ s) : wf (sClose s j) := by
  have n : ∀ f i k, (sClose s j).1 f i k = if f = 4 ∧ i = j ∧ k = 0 then 0 else s.1 f i k := fun f i k => by unfold sClose; rw [sN_N]; rfl
  have l : ∀ f i k, (sClose s j).2 f i k = (sGW s j (nT s)).2 f i k := fun f i k => by unfold sClose; rw [sN_L]
  refine wf_own w hj (fun f i k h4 _ _ _ => by rw [n, if_neg (fun z => h4 z.1)]) (fun f i k _ hi => by rw [n, if_neg (fun z => hi z.2.1)]) (by rw [n]; split; omega; exact w.op j) (fun t' => by rw [n, if_neg (by omega)]; exact w.to j t') (fun t' => by rw [n, if_neg (by omega)]; exact w.wr j t') (fun t' q => by rw [n, if_neg (by omega)] at q; exact w.wt j t' q) (fun k => by rw [n, if_neg (by omega)]; exact w.cs k) (fun f i k h => by rw [l, sGW_L (by omega)]) (fun f i k h _ => by rw [l, sGW_L (by omega)]) (fun b t' q => ?_)
  rw [l]
  unfold sGW
  show (if 0 = 0 ∧ b = 0 ∧ t' < nT s ∧ s.1 6 j t' ≠ 0 then s.2 4 j t' else s.2 0 b t') = 0
  rw [if_neg (by omega)]
  exact w.zv b t' q
theorem sColl_8 {s : sg} {j : Nat} (w : wf s) : ∀ t k, (sColl s j t).1 8 k 0 ≤ 1
  | 0, k => w.cs k
  | t + 1, k => by
    unfold sColl
    split
    · unfold sPut
      rw [sN_N]
      split
      · omega
      · rw [sL_N, sL_N, sN_N, if_neg (by omega)]
        exact sColl_8 w t k
    · exact sColl_8 w t k
theorem sColl_7 {s : sg} {j : Nat} : ∀ t k, k < cnt (CF s j) t → (sColl s j t).1 7 k 0 < t
  | 0, k, h => absurd h (by unfold cnt; omega)
  | t + 1, k, h => by
    unfold cnt at h
    unfold sColl
    by_cases q : CF s j t
    · rw [if_pos q] at h ⊢
      unfold sPut
      rw [sN_N, if_neg (by omega), sL_N, sL_N, sN_N]
      by_cases e : k = cnt (CF s j) t
      · rw [if_pos ⟨rfl, e, rfl⟩]
        omega
      · rw [if_neg (fun z => e z.2.1)]
        have := sColl_7 (s := s) (j := j) t k (by omega)
        omega
    · rw [if_neg q] at h ⊢
      have := sColl_7 (s := s) (j := j) t k (by omega)
      omega
theorem wf_coll {s : sg} {j : Nat} (w : wf s) : wf (sN (sColl s j (nT s)) 0 4 0 (cnt (CF s j) (nT s))) := by
  have hT := w.T
  have hcm := cnt_max (CF s j) (nT s)
  have n : ∀ f i k, f ≠ 7 → f ≠ 8 → ¬ (f = 0 ∧ i = 4 ∧ k = 0) → (sN (sColl s j (nT s)) 0 4 0 (cnt (CF s j) (nT s))).1 f i k = s.1 f i k := fun f i k h7 h8 h => by rw [sN_N, if_neg h, sColl_N h7 h8]
  have l : ∀ f i k, f ≠ 5 → f ≠ 6 → (sN (sColl s j (nT s)) 0 4 0 (cnt (CF s j) (nT s))).2 f i k = s.2 f i k := fun f i k h7 h8 => by rw [sN_L, sColl_L h7 h8]
  generalize hs : sN (sColl s j (nT s)) 0 4 0 (cnt (CF s j) (nT s)) = s'
  rw [hs] at n l
  have eT : nT s' = nT s := n 0 0 0 (by omega) (by omega) (by omega)
  have eB : nB s' = nB s := n 0 1 0 (by omega) (by omega) (by omega)
  have eZ : nZ s' = nZ s := n 0 3 0 (by omega) (by omega) (by omega)
  have eC : nC s' = cnt (CF s j) (nT s) := by
    rw [← hs]
    show (sN (sColl s j (nT s)) 0 4 0 (cnt (CF s j) (nT s))).1 0 4 0 = _
    rw [sN_N, if_pos ⟨rfl, rfl, rfl⟩]
  refine wf_same w (by omega) (by omega) (by rw [eB]; exact w.B1) (by rw [eB]; exact w.B) (n 0 2 0 (by omega) (by omega) (by omega)) (by rw [eZ]; exact w.Z) (by omega) (fun i k => n 1 i k (by omega) (by omega) (by omega)) (fun i k => n 2 i k (by omega) (by omega) (by omega)) (fun i k => n 3 i k (by omega) (by omega) (by omega)) (fun i => by rw [n 4 i 0 (by omega) (by omega) (by omega)]; exact w.op i) (fun i t => by rw [n 5 i t (by omega) (by omega) (by omega)]; exact w.to i t) (fun i t => by rw [n 6 i t (by omega) (by omega) (by omega)]; exact w.wr i t) (fun i t q => by rw [n 6 i t (by omega) (by omega) (by omega)] at q; rw [eT]; exact w.wt i t q) (fun k q => ?_) (fun k => ?_) (fun i q => ?_) (fun i k => l 1 i k (by omega) (by omega)) (fun i => l 2 i 0 (by omega) (by omega)) (fun b t q => by rw [l 0 b t (by omega) (by omega)]; exact w.zv b t (by rw [eT] at q; exact q))
  · rw [eC] at q
    rw [eT, ← hs, sN_N, if_neg (by omega)]
    exact sColl_7 _ _ q
  · rw [← hs, sN_N, if_neg (by omega)]
    exact sColl_8 w _ k
  · rw [eZ] at q
    obtain ⟨z1, z2⟩ := w.zs.2 i q
    rw [n 4 i 0 (by omega) (by omega) (by omega)]
    refine ⟨z1, fun t => ?_⟩
    rw [n 5 i t (by omega) (by omega) (by omega), n 6 i t (by omega) (by omega) (by omega), l 3 i t (by omega) (by omega), l 4 i t (by omega) (by omega)]
    exact z2 t
theorem wf_branch {s : sg} (w : wf s) (h : nB s < 6) : wf (sBranch s) := by
  have n : ∀ f i k, (sBranch s).1 f i k = if f = 0 ∧ i = 1 ∧ k = 0 then nB s + 1 else s.1 f i k := fun f i k => by unfold sBranch; rw [sN_N]; rfl
  have n1 : ∀ f i k, ¬ (f = 0 ∧ i = 1) → (sBranch s).1 f i k = s.1 f i k := fun f i k q => by rw [n, if_neg (fun z => q ⟨z.1, z.2.1⟩)]
  have l : ∀ f i k, (sBranch s).2 f i k = if f = 0 ∧ i = nB s ∧ k < 24 then s.2 0 0 k else s.2 f i k := fun f i k => by unfold sBranch; rw [sN_L]; rfl
  have l1 : ∀ f i k, f ≠ 0 → (sBranch s).2 f i k = s.2 f i k := fun f i k q => by rw [l, if_neg (fun z => q z.1)]
  have eT : nT (sBranch s) = nT s := n1 0 0 0 (by omega)
  have eB : nB (sBranch s) = nB s + 1 := by show (sBranch s).1 0 1 0 = _; rw [n, if_pos ⟨rfl, rfl, rfl⟩]
  have eZ : nZ (sBranch s) = nZ s := n1 0 3 0 (by omega)
  have eC : nC (sBranch s) = nC s := n1 0 4 0 (by omega)
  refine wf_same w (by omega) (by rw [eT]; exact w.T) (by omega) (by omega) (n1 0 2 0 (by omega)) (by rw [eZ]; exact w.Z) (by rw [eC]; exact w.C) (fun i k => n1 1 i k (by omega)) (fun i k => n1 2 i k (by omega)) (fun i k => n1 3 i k (by omega)) (fun j => by rw [n1 4 j 0 (by omega)]; exact w.op j) (fun j t => by rw [n1 5 j t (by omega)]; exact w.to j t) (fun j t => by rw [n1 6 j t (by omega)]; exact w.wr j t) (fun j t q => by rw [n1 6 j t (by omega)] at q; rw [eT]; exact w.wt j t q) (fun k q => by rw [eC] at q; rw [n1 7 k 0 (by omega), eT]; exact w.ct k q) (fun k => by rw [n1 8 k 0 (by omega)]; exact w.cs k) (fun j q => ?_) (fun i k => l1 1 i k (by omega)) (fun i => l1 2 i 0 (by omega)) (fun b t q => ?_)
  · rw [eZ] at q
    obtain ⟨z1, z2⟩ := w.zs.2 j q
    rw [n1 4 j 0 (by omega)]
    refine ⟨z1, fun t => ?_⟩
    rw [n1 5 j t (by omega), n1 6 j t (by omega), l1 3 j t (by omega), l1 4 j t (by omega)]
    exact z2 t
  · rw [eT] at q
    rw [l]
    split
    · exact w.zv 0 t q
    · exact w.zv b t q
/-! the invariant itself -/
def OW (x : hp_S) (s : sg) (D : Nat → Nat → Int32) : Prop := 0 < nC s → ∃ j, j < nZ s ∧ x.2.2.2 (6, 0) 4 = some (15, j) ∧ D 0 0 = nI j
def Inv (x : hp_S) : Prop := ∃ s C D, wf s ∧ gr s C ∧ RX x s C ∧ RM x s D ∧ YX x s ∧ OW x s D
theorem YX.keptM {x y : hp_S} {s : sg} (h : YX x s) (hg : GM x y) : YX y s := ⟨⟨fun j hj => by rw [hg.2.1]; exact h.1.1 j hj, fun j hj => by rw [hg.2.1]; exact h.1.2 j hj⟩, fun a b c he hl => by rw [hg.1] at hl; rw [hg.2.1]; exact h.2.1 a b c he hl, fun j hj => by rw [hg.1]; exact h.2.2.1 j hj, fun j hj => by rw [hg.1]; exact h.2.2.2 j hj⟩
theorem inv_mk {x x1 x2 : hp_S} {s s' : sg} {C' D D' : Nat → Nat → Int32} (hy : YX x s) (ho : OW x s D) (hg1 : GX x x1) (hg2 : GM x1 x2) (w' : wf s') (g' : gr s' C') (hr1 : RX x1 s' C') (hm2 : RM x2 s' D') (e0 : D' 0 0 = D 0 0) (eS : nS s' = nS s) (eZ : nZ s' = nZ s) (eC : nC s' = nC s) : Inv x2 := by
  refine ⟨s', C', D', w', g', hr1.kept hg2.2.2, hm2, (hy.kept hg1 eS eZ).keptM hg2, fun hc => ?_⟩
  rw [eC] at hc
  obtain ⟨j, h1, h2, h3⟩ := ho hc
  exact ⟨j, by omega, by rw [hg2.2.1, hg1.2.1]; exact h2, by rw [e0]; exact h3⟩
