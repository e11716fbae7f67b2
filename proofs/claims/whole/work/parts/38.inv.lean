/-! THE INVARIANT, kept by every call -/
theorem wf_same {s s' : sg} (w : wf s) (hT1 : nT s ≤ nT s') (hT : nT s' ≤ 24) (hB1 : 1 ≤ nB s') (hB : nB s' ≤ 6) (eS : nS s' = nS s) (hZ : nZ s' ≤ 40) (hC : nC s' ≤ 24)
    (e1 : ∀ i k, s'.1 1 i k = s.1 1 i k) (e2 : ∀ i k, s'.1 2 i k = s.1 2 i k) (e3 : ∀ i k, s'.1 3 i k = s.1 3 i k)
    (hop : ∀ j, s'.1 4 j 0 ≤ 1) (hto : ∀ j t, s'.1 5 j t ≤ 1) (hwr : ∀ j t, s'.1 6 j t ≤ 1) (hwt : ∀ j t, s'.1 6 j t ≠ 0 → t < nT s') (hct : ∀ k, k < nC s' → s'.1 7 k 0 < nT s') (hcs : ∀ k, s'.1 8 k 0 ≤ 1)
    (hz : ∀ j, nZ s' ≤ j → s'.1 4 j 0 = 0 ∧ ∀ t, s'.1 5 j t = 0 ∧ s'.1 6 j t = 0 ∧ s'.2 3 j t = 0 ∧ s'.2 4 j t = 0)
    (l1 : ∀ i k, s'.2 1 i k = s.2 1 i k) (l2 : ∀ i, s'.2 2 i 0 = s.2 2 i 0) (hv : ∀ b t, nT s' ≤ t → s'.2 0 b t = 0) : wf s' := by
  refine ⟨hT, hB1, hB, by rw [eS]; exact w.S, hZ, hC, fun i => by rw [e1]; exact w.kd i, fun i => by have := w.uc i; have e : s'.1 1 i 1 = s.1 1 i 1 := e1 i 1; show s'.1 1 i 1 ≤ 8; rw [e]; exact this, fun i => by have := w.mc i; have e : s'.1 1 i 2 = s.1 1 i 2 := e1 i 2; show s'.1 1 i 2 ≤ 4; rw [e]; exact this, fun i => by rw [e1]; exact w.rn i, fun i => by rw [e1]; exact w.ut i, fun i => by rw [e1]; exact w.mt i, fun i => by rw [e1, e1]; exact w.utc i, fun i => by rw [e1, e1]; exact w.mtc i, fun i => by rw [e1, e1]; exact w.rz i, fun i k h => ?_, fun i k h => ?_, hop, hto, hwr, hwt, hct, hcs, ⟨fun i hi => ?_, hz⟩, hv⟩
  · rw [e1] at h
    have := w.us i k h
    show s'.1 2 i k < nT s'
    rw [e2]
    exact Nat.lt_of_lt_of_le this hT1
  · rw [e1] at h
    have := w.md i k h
    show s'.1 3 i k < nT s'
    rw [e3]
    exact Nat.lt_of_lt_of_le this hT1
  · rw [eS] at hi
    obtain ⟨z1, z2⟩ := w.zs.1 i hi
    refine ⟨fun k => ?_, by rw [l2]; exact z2⟩
    rw [e1, e2, e3, l1]
    exact z1 k
theorem MD_eq {s s' : sg} (e1 : ∀ i, s'.1 1 i 2 = s.1 1 i 2) (e3 : ∀ i k, s'.1 3 i k = s.1 3 i k) (o t : Nat) : MD s' o t ↔ MD s o t := by
  have h1 : mc s' o = mc s o := e1 o
  have h2 : ∀ k, md s' o k = md s o k := fun k => e3 o k
  unfold MD
  rw [h1]
  exact ⟨fun ⟨k, a, b⟩ => ⟨k, a, by rw [← h2]; exact b⟩, fun ⟨k, a, b⟩ => ⟨k, a, by rw [h2]; exact b⟩⟩
theorem US_eq {s s' : sg} (e1 : ∀ i, s'.1 1 i 1 = s.1 1 i 1) (e3 : ∀ i k, s'.1 2 i k = s.1 2 i k) (o t : Nat) : US s' o t ↔ US s o t := by
  have h1 : uc s' o = uc s o := e1 o
  have h2 : ∀ k, us s' o k = us s o k := fun k => e3 o k
  unfold US
  rw [h1]
  exact ⟨fun ⟨k, a, b⟩ => ⟨k, a, by rw [← h2]; exact b⟩, fun ⟨k, a, b⟩ => ⟨k, a, by rw [h2]; exact b⟩⟩
theorem gr_same {s s' : sg} {C C' : Nat → Nat → Int32} (g : gr s C) (eT : nT s' = nT s) (eS : nS s' = nS s) (e1 : ∀ i k, s'.1 1 i k = s.1 1 i k) (e2 : ∀ i k, s'.1 2 i k = s.1 2 i k) (e3 : ∀ i k, s'.1 3 i k = s.1 3 i k) (c : ∀ f i, f ≠ 2 → C' f i = C f i) : gr s' C' := g.same (MD_eq (fun i => e1 i 2) e3) (US_eq (fun i => e1 i 1) e2) eT eS c
/-! the calls, one by one: what is common after each keeps the invariants -/
theorem sVals_at (s : sg) (v : Int64) : ∀ m f i k, (sVals s v m).2 f i k = if f = 0 ∧ i < m ∧ k = nT s then v else s.2 f i k
  | 0, f, i, k => by
    rw [if_neg (by omega)]
    rfl
  | m + 1, f, i, k => by
    unfold sVals
    rw [sL_L, sVals_at s v m]
    by_cases h : f = 0 ∧ i = m ∧ k = nT s
    · rw [if_pos h, if_pos ⟨h.1, by omega, h.2.2⟩]
    · rw [if_neg h]
      by_cases h2 : f = 0 ∧ i < m ∧ k = nT s
      · rw [if_pos h2, if_pos ⟨h2.1, by omega, h2.2.2⟩]
      · rw [if_neg h2, if_neg]
        rintro ⟨h3, h4, h5⟩
        by_cases e : i = m
        · exact h ⟨h3, e, h5⟩
        · exact h2 ⟨h3, by omega, h5⟩
theorem sThing_N {s : sg} {v : Int64} {f i k : Nat} : (sThing s v).1 f i k = if f = 0 ∧ i = 0 ∧ k = 0 then nT s + 1 else s.1 f i k := by
  unfold sThing
  rw [sN_N, sVals_N]
theorem sThing_L {s : sg} {v : Int64} {f i k : Nat} : (sThing s v).2 f i k = if f = 0 ∧ i < 6 ∧ k = nT s then v else s.2 f i k := by
  unfold sThing
  rw [sN_L, sVals_at]
theorem wf_thing {s : sg} {v : Int64} (w : wf s) (h : nT s < 24) : wf (sThing s v) := by
  have eT : nT (sThing s v) = nT s + 1 := by show (sThing s v).1 0 0 0 = _; rw [sThing_N, if_pos ⟨rfl, rfl, rfl⟩]
  have n1 : ∀ f i k, ¬ (f = 0 ∧ i = 0) → (sThing s v).1 f i k = s.1 f i k := fun f i k q => by rw [sThing_N, if_neg (fun z => q ⟨z.1, z.2.1⟩)]
  have l1 : ∀ f i k, f ≠ 0 → (sThing s v).2 f i k = s.2 f i k := fun f i k q => by rw [sThing_L, if_neg (fun z => q z.1)]
  have eB : nB (sThing s v) = nB s := n1 0 1 0 (by omega)
  have eZ : nZ (sThing s v) = nZ s := n1 0 3 0 (by omega)
  have eC : nC (sThing s v) = nC s := n1 0 4 0 (by omega)
  refine wf_same w (by omega) (by omega) (by rw [eB]; exact w.B1) (by rw [eB]; exact w.B) (n1 0 2 0 (by omega)) (by rw [eZ]; exact w.Z) (by rw [eC]; exact w.C) (fun i k => n1 1 i k (by omega)) (fun i k => n1 2 i k (by omega)) (fun i k => n1 3 i k (by omega)) (fun j => by rw [n1 4 j 0 (by omega)]; exact w.op j) (fun j t => by rw [n1 5 j t (by omega)]; exact w.to j t) (fun j t => by rw [n1 6 j t (by omega)]; exact w.wr j t) (fun j t q => ?_) (fun k q => ?_) (fun k => by rw [n1 8 k 0 (by omega)]; exact w.cs k) (fun j q => ?_) (fun i k => l1 1 i k (by omega)) (fun i => l1 2 i 0 (by omega)) (fun b t q => ?_)
  · rw [n1 6 j t (by omega)] at q
    have := w.wt j t q
    omega
  · rw [eC] at q
    rw [n1 7 k 0 (by omega)]
    have := w.ct k q
    omega
  · rw [eZ] at q
    obtain ⟨z1, z2⟩ := w.zs.2 j q
    rw [n1 4 j 0 (by omega)]
    refine ⟨z1, fun t => ?_⟩
    rw [n1 5 j t (by omega), n1 6 j t (by omega), l1 3 j t (by omega), l1 4 j t (by omega)]
    exact z2 t
  · rw [sThing_L, if_neg (by omega)]
    exact w.zv b t (by omega)
theorem gr_thing {s : sg} {v : Int64} {C : Nat → Nat → Int32} (w : wf s) (g : gr s C) : gr (sThing s v) (cU C 0 (nT s) (-1)) := by
  have n1 : ∀ f i k, ¬ (f = 0 ∧ i = 0) → (sThing s v).1 f i k = s.1 f i k := fun f i k q => by rw [sThing_N, if_neg (fun z => q ⟨z.1, z.2.1⟩)]
  have eT : nT (sThing s v) = nT s + 1 := by show (sThing s v).1 0 0 0 = _; rw [sThing_N, if_pos ⟨rfl, rfl, rfl⟩]
  have eS : nS (sThing s v) = nS s := n1 0 2 0 (by omega)
  have hM := MD_eq (s := s) (s' := sThing s v) (fun i => n1 1 i 2 (by omega)) (fun i k => n1 3 i k (by omega))
  have hU := US_eq (s := s) (s' := sThing s v) (fun i => n1 1 i 1 (by omega)) (fun i k => n1 2 i k (by omega))
  have hed : ∀ a b, ed (sThing s v) a b ↔ ed s a b := fun a b => by
    unfold ed
    exact ⟨fun ⟨t, z1, z2⟩ => ⟨t, (hM a t).mp z1, (hU b t).mp z2⟩, fun ⟨t, z1, z2⟩ => ⟨t, (hM a t).mpr z1, (hU b t).mpr z2⟩⟩
  refine ⟨fun o o' t h1 h2 => g.um o o' t ((hM o t).mp h1) ((hM o' t).mp h2), fun i z => g.ac i ((tc_congr hed).mp z), fun t ht => ?_, fun i o hi ho => ?_, fun i hi => ?_⟩
  · rw [eT] at ht
    rw [eS, cU_at]
    by_cases e : t = nT s
    · rw [if_pos ⟨rfl, e⟩]
      refine Or.inl ⟨rfl, fun o z => ?_⟩
      have := (w.mdS ((hM o t).mp z)).2
      omega
    · rw [if_neg (fun z => e z.2)]
      rcases g.mkr t (by omega) with ⟨k1, k2⟩ | ⟨o, k1, k2, k3⟩
      · exact Or.inl ⟨k1, fun o z => k2 o ((hM o t).mp z)⟩
      · exact Or.inr ⟨o, k1, (hM o t).mpr k2, k3⟩
  · rw [cU_at, if_neg (by omega), g.ab i o hi ho]
    exact (tc_congr hed).symm
  · rw [cU_at, if_neg (by omega)]
    exact g.zc i (by rw [eS] at hi; exact hi)
theorem sStep_N {s : sg} {kd f i k : Nat} : (sStep s kd).1 f i k = if f = 0 ∧ i = 2 ∧ k = 0 then nS s + 1 else if f = 1 ∧ i = nS s ∧ k = 0 then kd else s.1 f i k := by
  unfold sStep
  rw [sN_N, sN_N]
theorem wf_step {s : sg} {kd : Nat} (w : wf s) (h : nS s < 12) (hk : kd < 4) : wf (sStep s kd) := by
  have eS : nS (sStep s kd) = nS s + 1 := by show (sStep s kd).1 0 2 0 = _; rw [sStep_N, if_pos ⟨rfl, rfl, rfl⟩]
  have n1 : ∀ f i k, ¬ (f = 0 ∧ i = 2) → ¬ (f = 1 ∧ k = 0) → (sStep s kd).1 f i k = s.1 f i k := fun f i k q1 q2 => by rw [sStep_N, if_neg (fun z => q1 ⟨z.1, z.2.1⟩), if_neg (fun z => q2 ⟨z.1, z.2.2⟩)]
  have eT : nT (sStep s kd) = nT s := n1 0 0 0 (by omega) (by omega)
  have eB : nB (sStep s kd) = nB s := n1 0 1 0 (by omega) (by omega)
  have eZ : nZ (sStep s kd) = nZ s := n1 0 3 0 (by omega) (by omega)
  have eC : nC (sStep s kd) = nC s := n1 0 4 0 (by omega) (by omega)
  have eu : ∀ i, (sStep s kd).1 1 i 1 = s.1 1 i 1 := fun i => n1 1 i 1 (by omega) (by omega)
  have em : ∀ i, (sStep s kd).1 1 i 2 = s.1 1 i 2 := fun i => n1 1 i 2 (by omega) (by omega)
  refine ⟨by rw [eT]; exact w.T, by rw [eB]; exact w.B1, by rw [eB]; exact w.B, by omega, by rw [eZ]; exact w.Z, by rw [eC]; exact w.C, fun i => ?_, fun i => by show (sStep s kd).1 1 i 1 ≤ 8; rw [eu]; exact w.uc i, fun i => by show (sStep s kd).1 1 i 2 ≤ 4; rw [em]; exact w.mc i, fun i => by rw [n1 1 i 3 (by omega) (by omega)]; exact w.rn i, fun i => by rw [n1 1 i 4 (by omega) (by omega)]; exact w.ut i, fun i => by rw [n1 1 i 5 (by omega) (by omega)]; exact w.mt i, fun i => by rw [n1 1 i 4 (by omega) (by omega), eu]; exact w.utc i, fun i => by rw [n1 1 i 5 (by omega) (by omega), em]; exact w.mtc i, fun i => by rw [n1 1 i 3 (by omega) (by omega), n1 1 i 5 (by omega) (by omega)]; exact w.rz i, fun i k q => ?_, fun i k q => ?_, fun j => by rw [n1 4 j 0 (by omega) (by omega)]; exact w.op j, fun j t => by rw [n1 5 j t (by omega) (by omega)]; exact w.to j t, fun j t => by rw [n1 6 j t (by omega) (by omega)]; exact w.wr j t, fun j t q => by rw [n1 6 j t (by omega) (by omega)] at q; rw [eT]; exact w.wt j t q, fun k q => by rw [eC] at q; rw [n1 7 k 0 (by omega) (by omega), eT]; exact w.ct k q, fun k => by rw [n1 8 k 0 (by omega) (by omega)]; exact w.cs k, ⟨fun i q => ?_, fun j q => ?_⟩, fun b t q => w.zv b t (by rw [eT] at q; exact q)⟩
  · rw [sStep_N, if_neg (by omega)]
    by_cases e : i = nS s
    · rw [if_pos ⟨rfl, e, rfl⟩]
      exact hk
    · rw [if_neg (fun z => e z.2.1)]
      exact w.kd i
  · rw [eu] at q
    show (sStep s kd).1 2 i k < _
    rw [n1 2 i k (by omega) (by omega), eT]
    exact w.us i k q
  · rw [em] at q
    show (sStep s kd).1 3 i k < _
    rw [n1 3 i k (by omega) (by omega), eT]
    exact w.md i k q
  · rw [eS] at q
    obtain ⟨z1, z2⟩ := w.zs.1 i (by omega)
    refine ⟨fun k => ⟨?_, ?_, ?_, (z1 k).2.2.2⟩, z2⟩
    · rw [sStep_N, if_neg (by omega), if_neg (by omega)]
      exact (z1 k).1
    · rw [n1 2 i k (by omega) (by omega)]
      exact (z1 k).2.1
    · rw [n1 3 i k (by omega) (by omega)]
      exact (z1 k).2.2.1
  · rw [eZ] at q
    obtain ⟨z1, z2⟩ := w.zs.2 j q
    rw [n1 4 j 0 (by omega) (by omega)]
    refine ⟨z1, fun t => ?_⟩
    rw [n1 5 j t (by omega) (by omega), n1 6 j t (by omega) (by omega)]
    exact z2 t
theorem gr_step {s : sg} {kd : Nat} {C : Nat → Nat → Int32} (g : gr s C) : gr (sStep s kd) C := by
  have n1 : ∀ f i k, ¬ (f = 0 ∧ i = 2) → ¬ (f = 1 ∧ k = 0) → (sStep s kd).1 f i k = s.1 f i k := fun f i k q1 q2 => by rw [sStep_N, if_neg (fun z => q1 ⟨z.1, z.2.1⟩), if_neg (fun z => q2 ⟨z.1, z.2.2⟩)]
  have eS : nS (sStep s kd) = nS s + 1 := by show (sStep s kd).1 0 2 0 = _; rw [sStep_N, if_pos ⟨rfl, rfl, rfl⟩]
  have eT : nT (sStep s kd) = nT s := n1 0 0 0 (by omega) (by omega)
  have hM := MD_eq (s := s) (s' := sStep s kd) (fun i => n1 1 i 2 (by omega) (by omega)) (fun i k => n1 3 i k (by omega) (by omega))
  have hU := US_eq (s := s) (s' := sStep s kd) (fun i => n1 1 i 1 (by omega) (by omega)) (fun i k => n1 2 i k (by omega) (by omega))
  have hed : ∀ a b, ed (sStep s kd) a b ↔ ed s a b := fun a b => by
    unfold ed
    exact ⟨fun ⟨t, z1, z2⟩ => ⟨t, (hM a t).mp z1, (hU b t).mp z2⟩, fun ⟨t, z1, z2⟩ => ⟨t, (hM a t).mpr z1, (hU b t).mpr z2⟩⟩
  refine ⟨fun o o' t h1 h2 => g.um o o' t ((hM o t).mp h1) ((hM o' t).mp h2), fun i z => g.ac i ((tc_congr hed).mp z), fun t ht => ?_, fun i o hi ho => ?_, fun i hi => ?_⟩
  · rw [eT] at ht
    rw [eS]
    rcases g.mkr t ht with ⟨k1, k2⟩ | ⟨o, k1, k2, k3⟩
    · exact Or.inl ⟨k1, fun o z => k2 o ((hM o t).mp z)⟩
    · exact Or.inr ⟨o, by omega, (hM o t).mpr k2, k3⟩
  · rw [g.ab i o hi ho]
    exact (tc_congr hed).symm
  · exact g.zc i (by omega)
theorem sUse_N {s : sg} {j t f i k : Nat} : (sUse s j t).1 f i k = if f = 1 ∧ i = j ∧ k = 1 then uc s j + 1 else if f = 2 ∧ i = j ∧ k = uc s j then t else s.1 f i k := by
  unfold sUse
  rw [sN_N, sN_N]
theorem wf_use {s : sg} {j t : Nat} (w : wf s) (hj : j < nS s) (ht : t < nT s) (h8 : uc s j < 8) : wf (sUse s j t) := by
  have n0 : ∀ f i k, f ≠ 1 → f ≠ 2 → (sUse s j t).1 f i k = s.1 f i k := fun f i k q1 q2 => by rw [sUse_N, if_neg (fun z => q1 z.1), if_neg (fun z => q2 z.1)]
  have n1 : ∀ i k, k ≠ 1 → (sUse s j t).1 1 i k = s.1 1 i k := fun i k q => by rw [sUse_N, if_neg (fun z => q z.2.2), if_neg (by omega)]
  have nu : ∀ i, i ≠ j → (sUse s j t).1 1 i 1 = s.1 1 i 1 := fun i q => by rw [sUse_N, if_neg (fun z => q z.2.1), if_neg (by omega)]
  have nj : (sUse s j t).1 1 j 1 = s.1 1 j 1 + 1 := by rw [sUse_N, if_pos ⟨rfl, rfl, rfl⟩]
  have h8' : s.1 1 j 1 < 8 := h8
  have eT : nT (sUse s j t) = nT s := n0 0 0 0 (by omega) (by omega)
  have eB : nB (sUse s j t) = nB s := n0 0 1 0 (by omega) (by omega)
  have eS : nS (sUse s j t) = nS s := n0 0 2 0 (by omega) (by omega)
  have eZ : nZ (sUse s j t) = nZ s := n0 0 3 0 (by omega) (by omega)
  have eC : nC (sUse s j t) = nC s := n0 0 4 0 (by omega) (by omega)
  refine ⟨by rw [eT]; exact w.T, by rw [eB]; exact w.B1, by rw [eB]; exact w.B, by rw [eS]; exact w.S, by rw [eZ]; exact w.Z, by rw [eC]; exact w.C, fun i => by rw [n1 i 0 (by omega)]; exact w.kd i, fun i => ?_, fun i => by show (sUse s j t).1 1 i 2 ≤ 4; rw [n1 i 2 (by omega)]; exact w.mc i, fun i => by rw [n1 i 3 (by omega)]; exact w.rn i, fun i => by rw [n1 i 4 (by omega)]; exact w.ut i, fun i => by rw [n1 i 5 (by omega)]; exact w.mt i, fun i => ?_, fun i => by rw [n1 i 5 (by omega), n1 i 2 (by omega)]; exact w.mtc i, fun i => by rw [n1 i 3 (by omega), n1 i 5 (by omega)]; exact w.rz i, fun i k q => ?_, fun i k q => ?_, fun i => by rw [n0 4 i 0 (by omega) (by omega)]; exact w.op i, fun i t' => by rw [n0 5 i t' (by omega) (by omega)]; exact w.to i t', fun i t' => by rw [n0 6 i t' (by omega) (by omega)]; exact w.wr i t', fun i t' q => by rw [n0 6 i t' (by omega) (by omega)] at q; rw [eT]; exact w.wt i t' q, fun k q => by rw [eC] at q; rw [n0 7 k 0 (by omega) (by omega), eT]; exact w.ct k q, fun k => by rw [n0 8 k 0 (by omega) (by omega)]; exact w.cs k, ⟨fun i q => ?_, fun i q => ?_⟩, fun b t' q => w.zv b t' (by rw [eT] at q; exact q)⟩
  · show (sUse s j t).1 1 i 1 ≤ 8
    by_cases e : i = j
    · subst e
      omega
    · rw [nu i e]
      exact w.uc i
  · rw [n1 i 4 (by omega)]
    have := w.utc i
    by_cases e : i = j
    · subst e
      omega
    · rw [nu i e]
      exact this
  · show (sUse s j t).1 2 i k < _
    rw [sUse_N, if_neg (by omega), eT]
    by_cases e : i = j
    · subst e
      rw [nj] at q
      by_cases e2 : k = uc s i
      · rw [if_pos ⟨rfl, rfl, e2⟩]
        exact ht
      · rw [if_neg (fun z => e2 z.2.2)]
        have e3 : uc s i = s.1 1 i 1 := rfl
        exact w.us i k (by omega)
    · rw [if_neg (fun z => e z.2.1)]
      rw [nu i e] at q
      exact w.us i k q
  · show (sUse s j t).1 3 i k < _
    rw [n1 i 2 (by omega)] at q
    rw [n0 3 i k (by omega) (by omega), eT]
    exact w.md i k q
  · rw [eS] at q
    have hne : i ≠ j := by omega
    obtain ⟨z1, z2⟩ := w.zs.1 i q
    refine ⟨fun k => ⟨?_, ?_, ?_, (z1 k).2.2.2⟩, z2⟩
    · rw [sUse_N, if_neg (fun z => hne z.2.1), if_neg (by omega)]
      exact (z1 k).1
    · rw [sUse_N, if_neg (by omega), if_neg (fun z => hne z.2.1)]
      exact (z1 k).2.1
    · rw [n0 3 i k (by omega) (by omega)]
      exact (z1 k).2.2.1
  · rw [eZ] at q
    obtain ⟨z1, z2⟩ := w.zs.2 i q
    rw [n0 4 i 0 (by omega) (by omega)]
    refine ⟨z1, fun t' => ?_⟩
    rw [n0 5 i t' (by omega) (by omega), n0 6 i t' (by omega) (by omega)]
    exact z2 t'
theorem sMake_N {s : sg} {j t f i k : Nat} : (sMake s j t).1 f i k = if f = 1 ∧ i = j ∧ k = 2 then mc s j + 1 else if f = 3 ∧ i = j ∧ k = mc s j then t else s.1 f i k := by
  unfold sMake
  rw [sN_N, sN_N]
theorem wf_make {s : sg} {j t : Nat} (w : wf s) (hj : j < nS s) (ht : t < nT s) (h8 : mc s j < 4) : wf (sMake s j t) := by
  have n0 : ∀ f i k, f ≠ 1 → f ≠ 3 → (sMake s j t).1 f i k = s.1 f i k := fun f i k q1 q2 => by rw [sMake_N, if_neg (fun z => q1 z.1), if_neg (fun z => q2 z.1)]
  have n1 : ∀ i k, k ≠ 2 → (sMake s j t).1 1 i k = s.1 1 i k := fun i k q => by rw [sMake_N, if_neg (fun z => q z.2.2), if_neg (by omega)]
  have nu : ∀ i, i ≠ j → (sMake s j t).1 1 i 2 = s.1 1 i 2 := fun i q => by rw [sMake_N, if_neg (fun z => q z.2.1), if_neg (by omega)]
  have nj : (sMake s j t).1 1 j 2 = s.1 1 j 2 + 1 := by rw [sMake_N, if_pos ⟨rfl, rfl, rfl⟩]
  have h8' : s.1 1 j 2 < 4 := h8
  have eT : nT (sMake s j t) = nT s := n0 0 0 0 (by omega) (by omega)
  have eB : nB (sMake s j t) = nB s := n0 0 1 0 (by omega) (by omega)
  have eS : nS (sMake s j t) = nS s := n0 0 2 0 (by omega) (by omega)
  have eZ : nZ (sMake s j t) = nZ s := n0 0 3 0 (by omega) (by omega)
  have eC : nC (sMake s j t) = nC s := n0 0 4 0 (by omega) (by omega)
  refine ⟨by rw [eT]; exact w.T, by rw [eB]; exact w.B1, by rw [eB]; exact w.B, by rw [eS]; exact w.S, by rw [eZ]; exact w.Z, by rw [eC]; exact w.C, fun i => by rw [n1 i 0 (by omega)]; exact w.kd i, fun i => by show (sMake s j t).1 1 i 1 ≤ 8; rw [n1 i 1 (by omega)]; exact w.uc i, fun i => ?_, fun i => by rw [n1 i 3 (by omega)]; exact w.rn i, fun i => by rw [n1 i 4 (by omega)]; exact w.ut i, fun i => by rw [n1 i 5 (by omega)]; exact w.mt i, fun i => by rw [n1 i 4 (by omega), n1 i 1 (by omega)]; exact w.utc i, fun i => ?_, fun i => by rw [n1 i 3 (by omega), n1 i 5 (by omega)]; exact w.rz i, fun i k q => ?_, fun i k q => ?_, fun i => by rw [n0 4 i 0 (by omega) (by omega)]; exact w.op i, fun i t' => by rw [n0 5 i t' (by omega) (by omega)]; exact w.to i t', fun i t' => by rw [n0 6 i t' (by omega) (by omega)]; exact w.wr i t', fun i t' q => by rw [n0 6 i t' (by omega) (by omega)] at q; rw [eT]; exact w.wt i t' q, fun k q => by rw [eC] at q; rw [n0 7 k 0 (by omega) (by omega), eT]; exact w.ct k q, fun k => by rw [n0 8 k 0 (by omega) (by omega)]; exact w.cs k, ⟨fun i q => ?_, fun i q => ?_⟩, fun b t' q => w.zv b t' (by rw [eT] at q; exact q)⟩
  · show (sMake s j t).1 1 i 2 ≤ 4
    by_cases e : i = j
    · subst e
      omega
    · rw [nu i e]
      exact w.mc i
  · rw [n1 i 5 (by omega)]
    have := w.mtc i
    by_cases e : i = j
    · subst e
      omega
    · rw [nu i e]
      exact this
  · show (sMake s j t).1 2 i k < _
    rw [n1 i 1 (by omega)] at q
    rw [n0 2 i k (by omega) (by omega), eT]
    exact w.us i k q
  · show (sMake s j t).1 3 i k < _
    rw [sMake_N, if_neg (by omega), eT]
    by_cases e : i = j
    · subst e
      rw [nj] at q
      by_cases e2 : k = mc s i
      · rw [if_pos ⟨rfl, rfl, e2⟩]
        exact ht
      · rw [if_neg (fun z => e2 z.2.2)]
        have e3 : mc s i = s.1 1 i 2 := rfl
        exact w.md i k (by omega)
    · rw [if_neg (fun z => e z.2.1)]
      rw [nu i e] at q
      exact w.md i k q
  · rw [eS] at q
    have hne : i ≠ j := by omega
    obtain ⟨z1, z2⟩ := w.zs.1 i q
    refine ⟨fun k => ⟨?_, ?_, ?_, (z1 k).2.2.2⟩, z2⟩
    · rw [sMake_N, if_neg (fun z => hne z.2.1), if_neg (by omega)]
      exact (z1 k).1
    · rw [n0 2 i k (by omega) (by omega)]
      exact (z1 k).2.1
    · rw [sMake_N, if_neg (by omega), if_neg (fun z => hne z.2.1)]
      exact (z1 k).2.2.1
  · rw [eZ] at q
    obtain ⟨z1, z2⟩ := w.zs.2 i q
    rw [n0 4 i 0 (by omega) (by omega)]
    refine ⟨z1, fun t' => ?_⟩
    rw [n0 5 i t' (by omega) (by omega), n0 6 i t' (by omega) (by omega)]
    exact z2 t'
