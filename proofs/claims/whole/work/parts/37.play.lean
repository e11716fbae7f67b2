/-! PURE ROWS: run, play -/
theorem lu33 (v : Int64) : ∃ m, m < 2 ^ 31 ∧ hx_lushr v (nI 33) = Int64.ofNat m := by
  refine ⟨(v.toUInt64 >>> 33).toNat, ?_, ?_⟩
  · rw [UInt64.toNat_shiftRight]
    have := v.toUInt64.toNat_lt
    rw [Nat.shiftRight_eq_div_pow]
    show v.toUInt64.toNat / 2 ^ (33 % 64) < 2 ^ 31
    rw [Nat.div_lt_iff_lt_mul (by decide)]
    exact this
  · have e : (nI 33).toInt64.toUInt64 &&& Int64.toUInt64 63 = 33 := by decide
    unfold hx_lushr
    rw [e]
    have h : UInt64.ofNat (v.toUInt64 >>> 33).toNat = v.toUInt64 >>> 33 := UInt64.ofNat_toNat
    exact (congrArg UInt64.toInt64 h).symm
theorem n64 : ∀ n, n ≤ 24 → (nI n).toInt64 = Int64.ofNat n := by decide
theorem n64z : ∀ n, n ≤ 24 → n ≠ 0 → ¬ (nI n).toInt64 = 0 := by decide
theorem ixx (v : Int64) (n : Nat) (h0 : n ≠ 0) (hn : n ≤ 24) : ∃ t, t < n ∧ ((hx_lushr v (nI 33)) - (hx_lushr v (nI 33)) / ((nI n).toInt64) * ((nI n).toInt64)).toInt32 = nI t := by
  obtain ⟨m, hm, e⟩ := lu33 v
  refine ⟨m - m / n * n, ?_, ?_⟩
  · have h1 := Nat.div_add_mod m n
    have h2 := Nat.mod_lt m (Nat.pos_of_ne_zero h0)
    rw [Nat.mul_comm] at h1
    omega
  · rw [e, n64 n hn]
    have hd : Int64.ofNat m / Int64.ofNat n = Int64.ofNat (m / n) := by
      have h1 := Int64.ofInt_tdiv (a := (m : Int)) (b := (n : Int)) (by have : Int64.minValue.toInt ≤ 0 := by decide
                                                                        omega) (by have : Int64.maxValue.toInt = 9223372036854775807 := by decide
                                                                                   omega) (by have : Int64.minValue.toInt ≤ 0 := by decide
                                                                                              omega) (by have : Int64.maxValue.toInt = 9223372036854775807 := by decide
                                                                                                         omega)
      have h2 : ∀ k : Nat, Int64.ofInt (k : Int) = Int64.ofNat k := fun k => rfl
      rw [← Int.ofNat_tdiv, h2, h2, h2] at h1
      exact h1.symm
    rw [hd, ← Int64.ofNat_mul, ← Int64.ofNat_sub _ _ (Nat.div_mul_le_self m n), Int64.toInt32_ofNat']
    rfl
/-- the thing of a turn, its value -/
def ix (v : Int64) (n : Nat) : Int32 := ((hx_lushr v (nI 33)) - (hx_lushr v (nI 33)) / ((nI n).toInt64) * ((nI n).toInt64)).toInt32
def tv (v : Int64) : Int64 := (hx_lushr v (nI 20)) &&& 255
def nx (v : Int64) : Int64 := (v * 6364136223846793005) + 1442695040888963407
noncomputable def sRuns (s : sg) : Nat → sg
  | 0 => s
  | j + 1 => sRun (sRuns s j) j
noncomputable def nRuns (s : sg) : Nat → Nat
  | 0 => 0
  | j + 1 => nRuns s j + chg (sRuns s j) (sRuns s (j + 1))
noncomputable def sTurn (s : sg) (v : Int64) : sg := if 0 ≤ lg_cmp v 0 then sL s 0 0 (ix v (nT s)).toNatClampNeg (tv v) else sRuns (sL s 0 0 (ix v (nT s)).toNatClampNeg (tv v)) (nS s)
noncomputable def nTurn (s : sg) (v : Int64) : Nat := (if s.2 0 0 (ix v (nT s)).toNatClampNeg = tv v then 0 else 1) + (if 0 ≤ lg_cmp v 0 then 0 else nRuns (sL s 0 0 (ix v (nT s)).toNatClampNeg (tv v)) (nS s))
def vS (v : Int64) : Nat → Int64
  | 0 => v
  | k + 1 => nx (vS v k)
noncomputable def sPl (s : sg) (v : Int64) : Nat → sg
  | 0 => s
  | k + 1 => sTurn (sPl s v k) (vS v (k + 1))
noncomputable def nPl (s : sg) (v : Int64) : Nat → Nat
  | 0 => 0
  | k + 1 => nPl s v k + nTurn (sPl s v k) (vS v (k + 1))
theorem wf_val {s : sg} {t : Nat} {v : Int64} (w : wf s) (ht : t < nT s) : wf (sL s 0 0 t v) := by
  have c : ∀ f i k, f ≠ 0 → (sL s 0 0 t v).2 f i k = s.2 f i k := fun f i k hf => by rw [sL_L, if_neg (fun z => hf z.1)]
  refine ⟨w.T, w.B1, w.B, w.S, w.Z, w.C, w.kd, w.uc, w.mc, w.rn, w.ut, w.mt, w.utc, w.mtc, w.rz, w.us, w.md, w.op, w.to, w.wr, w.wt, w.ct, w.cs, ⟨fun j hj => ?_, fun j hj => ?_⟩, fun b t' ht' => ?_⟩
  · obtain ⟨z1, z2⟩ := w.zs.1 j hj
    refine ⟨fun k => ⟨(z1 k).1, (z1 k).2.1, (z1 k).2.2.1, ?_⟩, ?_⟩
    · rw [c 1 j k (by decide)]
      exact (z1 k).2.2.2
    · rw [c 2 j 0 (by decide)]
      exact z2
  · obtain ⟨z1, z2⟩ := w.zs.2 j hj
    refine ⟨z1, fun k => ⟨(z2 k).1, (z2 k).2.1, ?_, ?_⟩⟩
    · rw [c 3 j k (by decide)]
      exact (z2 k).2.2.1
    · rw [c 4 j k (by decide)]
      exact (z2 k).2.2.2
  · have ht2 : nT s ≤ t' := ht'
    rw [sL_L, if_neg (by omega)]
    exact w.zv b t' ht2
theorem gr_val {s : sg} {t : Nat} {v : Int64} {C C' : Nat → Nat → Int32} (g : gr s C) (c : ∀ f i, f ≠ 2 → C' f i = C f i) : gr (sL s 0 0 t v) C' := g.same (fun _ _ => Iff.rfl) (fun _ _ => Iff.rfl) rfl rfl c
section PLAY
variable {x : hp_S} {s : sg} {C : Nat → Nat → Int32}
theorem p_X3_run {P : Int32 → hp_S → Prop} {a : Int32} (hr : RX x s C) (hx : SX x s) (w : wf s) (g : gr s C) (h0 : (∀ i, i < nS s → a ≠ nI i) → P (nI 0) x) (h1 : ∀ i, i < nS s → a = nI i → ∀ r x' C', wf (sRun s i) → RX x' (sRun s i) C' → gr (sRun s i) C' → GX x x' → Done s (fun b => tcr (ed s) b i) (sRun s i) → fl r (GIV s (sRun s i) i) → P r x') : k_X3_run P a x := by
  have hS := w.S
  refine p_X3_isStep hr hS (fun i hi e => b1 ?_) (fun h => b0 (h0 h))
  subst e
  refine p_X3_runs hr hx w g hi (fun r x' C' k1 k2 k3 k4 k5 _ k6 => k6.bb (fun q => h1 i hi rfl _ x' C' k1 k2 k3 k4 k5 (fl0 q)) (fun q => h1 i hi rfl _ x' C' k1 k2 k3 k4 k5 (fl1 q)))
theorem p_X4_run {P : Int32 → hp_S → Prop} {a : Int32} {D : Nat → Nat → Int32} (hr : RM x s D) (w : wf s) (g : gr s C) (h0 : (∀ i, i < nS s → a ≠ nI i) → P (nI 0) x) (h1 : ∀ i, i < nS s → a = nI i → ∀ r x' D', RM x' (sRun s i) D' → D' 0 0 = D 0 0 → GM x x' → fl r (GIV s (sRun s i) i) → P r x') : k_X4_run P a x := by
  have hS := w.S
  refine p_X4_isStep hr hS (fun i hi e => b1' ?_) (fun h => b0' (h0 h))
  subst e
  refine p_X4_go hr w g hi (fun x' D' _ _ k1 k2 k3 k4 k5 => ?_)
  rw [k1.rn]
  exact ⟨k4.nar, h1 i hi rfl _ x' D' k1 k2 k5 k4⟩
theorem p_X3_refreshAll {P : hp_S → Prop} (hr : RX x s C) (hx : SX x s) (w : wf s) (g : gr s C) (h : ∀ x' C', wf (sRuns s (nS s)) → RX x' (sRuns s (nS s)) C' → gr (sRuns s (nS s)) C' → GX x x' → nS (sRuns s (nS s)) = nS s → nZ (sRuns s (nS s)) = nZ s → nT (sRuns s (nS s)) = nT s → nC (sRuns s (nS s)) = nC s → C' 2 0 = C 2 0 + nI (nRuns s (nS s)) → P x') : k_X3_refreshAll P x := by
  have hS := w.S
  refine upE (n := nS s) (k_X3_refreshAll_2 P) (fun j y => ∃ C', wf (sRuns s j) ∧ RX y (sRuns s j) C' ∧ gr (sRuns s j) C' ∧ GX x y ∧ nS (sRuns s j) = nS s ∧ nZ (sRuns s j) = nZ s ∧ nT (sRuns s j) = nT s ∧ nC (sRuns s j) = nC s ∧ C' 2 0 = C 2 0 + nI (nRuns s j)) x ⟨C, w, hr, g, GX.rf x, rfl, rfl, rfl, rfl, by show _ = _ + nI 0; rw [nI_0, Int32.add_zero]⟩ ?_ ?_
  · rintro y ⟨C', k1, k2, k3, k4, k5, k6, k7, kC, k8⟩ m
    unfold k_X3_refreshAll_2
    rw [k2.nS, k5]
    exact ⟨fun _ => h y C' k1 k2 k3 k4 k5 k6 k7 kC k8, fun c => absurd (nI_le (Nat.le_refl _) (by omega)) c⟩
  · rintro j y m hj ⟨C', k1, k2, k3, k4, k5, k6, k7, kC, k8⟩ ih
    unfold k_X3_refreshAll_2
    rw [k2.nS, k5, nI_add j 1]
    refine ⟨fun c => absurd c (nI_ge hj (by omega)), fun _ => ?_⟩
    refine p_X3_runs k2 (hx.kept k4 k5 k6) k1 k3 (by omega) (fun r x' C2 j1 j2 j3 j4 j5 j6 _ => ih x' ⟨C2, j1, j2, j3, k4.tr j4, ?_, ?_, ?_, ?_, ?_⟩)
    · show nS (sRun (sRuns s j) j) = _
      rw [j5.xnS, k5]
    · exact ((j5.n 0 3 0 (by omega)).trans k6)
    · show nT (sRun (sRuns s j) j) = _
      rw [j5.xnT, k7]
    · exact ((j5.n 0 4 0 (by omega)).trans kC)
    · rw [j6, k8, Int32.add_assoc, nI_add]
      rfl
/-- a value is given in a turn -/
theorem p_X3_play {P : Int32 → hp_S → Prop} {v : Int64} {a : Int32} (hr : RX x s C) (hx : SX x s) (w : wf s) (g : gr s C) (h0 : ((∀ n, n < 51 → a ≠ nI n) ∨ nT s = 0) → P (nI 0) x) (h1 : ∀ n, n < 51 → a = nI n → nT s ≠ 0 → ∀ x' C', wf (sPl s v n) → RX x' (sPl s v n) C' → gr (sPl s v n) C' → nS (sPl s v n) = nS s → nZ (sPl s v n) = nZ s → nC (sPl s v n) = nC s → GX x x' → P (nI (nPl s v n)) x') : k_X3_play P v a x := by
  have hS := w.S
  have hT := w.T
  refine rl' (by decide) (fun q => h0 (Or.inl q)) (fun n hn ea => ?_)
  subst ea
  rw [hr.nT, nI_z (by omega), hr.chg]
  refine ⟨fun c => ?_, fun c => h0 (Or.inr c)⟩
  refine upE (n := n) (fun q (z : hp_S × Int64) l => k_X3_play_31 P v (nI n) (C 2 0) q z.1 z.2 l) (fun k z => z.2 = vS v k ∧ ∃ C', wf (sPl s v k) ∧ RX z.1 (sPl s v k) C' ∧ gr (sPl s v k) C' ∧ nS (sPl s v k) = nS s ∧ nZ (sPl s v k) = nZ s ∧ nT (sPl s v k) = nT s ∧ nC (sPl s v k) = nC s ∧ GX x z.1 ∧ C' 2 0 = C 2 0 + nI (nPl s v k)) (x, v) ⟨rfl, C, w, hr, g, rfl, rfl, rfl, rfl, GX.rf x, by show _ = _ + nI 0; rw [nI_0, Int32.add_zero]⟩ ?_ ?_
  · rintro ⟨y, l⟩ ⟨e, C', k1, k2, k3, k4, k5, k6, kC, k7, k8⟩ m
    dsimp only at e k2 k7 ⊢
    unfold k_X3_play_31
    refine ⟨fun _ => ?_, fun c => absurd (nI_le (Nat.le_refl _) (by omega)) c⟩
    have e1 : y.2.1 (0, 0) 10 - C 2 0 = nI (nPl s v n) := by
      rw [k2.chg, k8, Int32.add_comm, Int32.add_sub_cancel]
    rw [e1]
    exact h1 n hn rfl c y C' k1 k2 k3 k4 k5 kC k7
  · rintro k ⟨y, l⟩ m hk ⟨e, C', k1, k2, k3, k4, k5, k6, kC, k7, k8⟩ ih
    dsimp only at e k2 k7 ⊢
    subst e
    obtain ⟨s', hs'⟩ : ∃ s', s' = sPl s v k := ⟨_, rfl⟩
    rw [← hs'] at k1 k2 k3 k4 k5 k6 kC
    obtain ⟨t, ht, et⟩ := ixx (nx (vS v k)) (nT s) c hT
    have et' : ix (nx (vS v k)) (nT s') = nI t := by
      rw [k6]
      exact et
    unfold k_X3_play_31
    rw [k2.nT, k6, nI_add k 1]
    refine ⟨fun c2 => absurd c2 (nI_ge hk (by omega)), fun _ => ⟨n64z _ hT c, ?_⟩⟩
    have main : ∀ y1 C1 s1, s1 = sL s' 0 0 t (tv (nx (vS v k))) → RX y1 s1 C1 → gr s1 C1 → GX x y1 → C1 2 0 = C 2 0 + nI (nPl s v k + (if s'.2 0 0 t = tv (nx (vS v k)) then 0 else 1)) → ((0 ≤ (lg_cmp (nx (vS v k)) 0) → (k_X3_play_31 P v (nI n) (C 2 0) m y1 (nx (vS v k)) (nI (k + 1)))) ∧ (¬ 0 ≤ (lg_cmp (nx (vS v k)) 0) → (k_X3_refreshAll (fun x82 => k_X3_play_31 P v (nI n) (C 2 0) m x82 (nx (vS v k)) (nI (k + 1))) y1))) := by
      intro y1 C1 s1 hs1 hr1 hg1 hgx hc1
      have w1 : wf s1 := by
        rw [hs1]
        exact wf_val k1 (by omega)
      have f1 : nS s1 = nS s := by rw [hs1]; exact k4
      have f2 : nZ s1 = nZ s := by rw [hs1]; exact k5
      have f3 : nT s1 = nT s := by rw [hs1]; exact k6
      have f4 : nC s1 = nC s := by rw [hs1]; exact kC
      have es : ∀ s2, s2 = (if 0 ≤ lg_cmp (nx (vS v k)) 0 then s1 else sRuns s1 (nS s')) → sPl s v (k + 1) = s2 := by
        intro s2 h2
        show sTurn (sPl s v k) (nx (vS v k)) = s2
        rw [← hs']
        unfold sTurn
        rw [et', cl t (by omega), ← hs1, h2]
      have en : ∀ n2, n2 = (if 0 ≤ lg_cmp (nx (vS v k)) 0 then 0 else nRuns s1 (nS s')) → nPl s v (k + 1) = nPl s v k + (if s'.2 0 0 t = tv (nx (vS v k)) then 0 else 1) + n2 := by
        intro n2 h2
        show nPl s v k + nTurn (sPl s v k) (nx (vS v k)) = _
        rw [← hs']
        unfold nTurn
        rw [et', cl t (by omega), ← hs1, h2, Nat.add_assoc]
      refine ⟨fun q => ih (y1, nx (vS v k)) ⟨rfl, C1, ?_⟩, fun q => ?_⟩
      · have e1 := es s1 (by rw [if_pos q])
        have e2 := en 0 (by rw [if_pos q])
        rw [e1, e2]
        exact ⟨w1, hr1, hg1, f1, f2, f3, f4, hgx, hc1⟩
      · refine p_X3_refreshAll hr1 (hx.kept hgx f1 f2) w1 hg1 (fun x2 C2 j1 j2 j3 j4 j5 j6 j7 jC j8 => ih (x2, nx (vS v k)) ⟨rfl, C2, ?_⟩)
        have e1 := es (sRuns s1 (nS s1)) (by rw [if_neg q, f1, k4])
        have e2 := en (nRuns s1 (nS s1)) (by rw [if_neg q, f1, k4])
        rw [e1, e2]
        refine ⟨j1, j2, j3, by rw [j5, f1], by rw [j6, f2], by rw [j7, f3], by rw [jC, f4], hgx.tr j4, ?_⟩
        rw [j8, hc1, Int32.add_assoc, nI_add]
    have ev : ((hx_lushr ((vS v k * 6364136223846793005) + 1442695040888963407) (nI 20)) &&& 255) = tv (nx (vS v k)) := rfl
    have en : (vS v k * 6364136223846793005) + 1442695040888963407 = nx (vS v k) := rfl
    rw [ev, en, et]
    refine p_X3_give k2 (by omega) (fun q => main y C' s' ?_ k2 k3 k7 ?_) (fun q x' hr' hg' => main x' _ _ rfl hr' (gr_val k3 (fun f i hf => ?_)) (k7.tr hg') ?_)
    · rw [sL_self q]
    · rw [if_pos q, k8]
      rfl
    · rw [cU_at, if_neg (fun z => hf z.1)]
    · rw [cU_at, if_pos ⟨rfl, rfl⟩, if_neg q, k8, Int32.add_assoc, nI_add]
theorem p_X4_play {P : Int32 → hp_S → Prop} {v : Int64} {a : Int32} {D : Nat → Nat → Int32} (hr : RM x s D) (w : wf s) (g : gr s C) (h0 : ((∀ n, n < 51 → a ≠ nI n) ∨ nT s = 0) → ∀ x' D', RM x' s D' → D' 0 0 = D 0 0 → GM x x' → P (nI 0) x') (h1 : ∀ n, n < 51 → a = nI n → nT s ≠ 0 → ∀ x' D', RM x' (sPl s v n) D' → D' 0 0 = D 0 0 → GM x x' → P (nI (nPl s v n)) x') : k_X4_play P v a x := by
  have hS := w.S
  have hT := w.T
  have hr0 := hr.uC 3 0 (Or.inr (Or.inr (Or.inr (Or.inl ⟨rfl, rfl⟩)))) rfl (t := (20, 0)) (p := 28) (w := nI 0)
  have stop : ((∀ n, n < 51 → a ≠ nI n) ∨ nT s = 0) → ∃ q, k_X4_play_35 P v a (nI 0) q (hp_uI x (20, 0) 28 (nI 0)) v (nI 0) := fun q => ⟨1, by
    unfold k_X4_play_35
    rw [hr0.chd, cU_at, if_pos ⟨rfl, rfl⟩]
    exact ⟨fun _ => h0 q _ _ hr0 (by rw [cU_at, if_neg (by omega)]) ((GM.rf x).uI (by decide : 20 ≤ 20)), fun c => absurd (nI_le (Nat.le_refl _) (by omega)) c⟩⟩
  refine rl' (by decide) (fun q => stop (Or.inl q)) (fun n hn ea => ?_)
  rw [hr.nT, nI_z (by omega)]
  refine ⟨fun c => ?_, fun c => stop (Or.inr c)⟩
  subst ea
  refine upE (n := n) (fun q (z : hp_S × Int64) l => k_X4_play_35 P v (nI n) (nI n) q z.1 z.2 l) (fun k z => z.2 = vS v k ∧ ∃ D', wf (sPl s v k) ∧ RM z.1 (sPl s v k) D' ∧ gr (sPl s v k) C ∧ nS (sPl s v k) = nS s ∧ nT (sPl s v k) = nT s ∧ GM x z.1 ∧ D' 0 0 = D 0 0 ∧ D' 3 0 = nI (nPl s v k)) (_, v) ⟨rfl, _, w, hr0, g, rfl, rfl, (GM.rf x).uI (by decide : 20 ≤ 20), by rw [cU_at, if_neg (by omega)], by rw [cU_at, if_pos ⟨rfl, rfl⟩]; rfl⟩ ?_ ?_
  · rintro ⟨y, l⟩ ⟨e, D', k1, k2, k3, k4, k6, k7, k8, k9⟩ m
    dsimp only at e k2 k7 ⊢
    unfold k_X4_play_35
    rw [k2.chd, k9]
    exact ⟨fun _ => h1 n hn rfl c y D' k2 k8 k7, fun c => absurd (nI_le (Nat.le_refl _) (by omega)) c⟩
  · rintro k ⟨y, l⟩ m hk ⟨e, D', k1, k2, k3, k4, k6, k7, k8, k9⟩ ih
    dsimp only at e k2 k7 ⊢
    subst e
    obtain ⟨s', hs'⟩ : ∃ s', s' = sPl s v k := ⟨_, rfl⟩
    rw [← hs'] at k1 k2 k3 k4 k6
    obtain ⟨t, ht, et⟩ := ixx (nx (vS v k)) (nT s) c hT
    have et' : ix (nx (vS v k)) (nT s') = nI t := by
      rw [k6]
      exact et
    have en : (vS v k * 6364136223846793005) + 1442695040888963407 = nx (vS v k) := rfl
    have ev : ((hx_lushr (nx (vS v k)) (nI 20)) &&& 255) = tv (nx (vS v k)) := rfl
    unfold k_X4_play_35
    rw [k2.nT, k6, nI_add k 1, en, ev, et, cl t (by omega), k2.val0 t (by omega), k2.chd, k9, nI_add (nPl s v k) 1]
    have iv : vp_in (nI t) 144 := vp_in_nI (by omega) (by decide)
    refine ⟨fun c2 => absurd c2 (nI_ge hk (by omega)), fun _ => ⟨n64z _ hT c, iv, ?_⟩⟩
    have main : ∀ d, d = (if s'.2 0 0 t = tv (nx (vS v k)) then 0 else 1) → ∃ q, k_X4_play_121 P v (nI n) (nI n) (nx (vS v k)) (nI k) (nI t) (tv (nx (vS v k))) (fun x_121 l11_121 => k_X4_play_35 P v (nI n) (nI n) m x_121 (nx (vS v k)) (nI (k + 1))) q (hp_uL (hp_uI y (20, 0) 28 (nI (nPl s v k + d))) (21, 0) t (tv (nx (vS v k)))) (nI 0) := by
      intro d hd
      obtain ⟨s1, hs1⟩ : ∃ s1, s1 = sL s' 0 0 t (tv (nx (vS v k))) := ⟨_, rfl⟩
      have w1 : wf s1 := by
        rw [hs1]
        exact wf_val k1 (by omega)
      have g1 : gr s1 C := by
        rw [hs1]
        exact gr_val k3 (fun _ _ _ => rfl)
      have f1 : nS s1 = nS s := by rw [hs1]; exact k4
      have f3 : nT s1 = nT s := by rw [hs1]; exact k6
      have hm1 : RM (hp_uL (hp_uI y (20, 0) 28 (nI (nPl s v k + d))) (21, 0) t (tv (nx (vS v k)))) s1 (cU D' 3 0 (nI (nPl s v k + d))) := by
        rw [hs1]
        exact (k2.uC 3 0 (Or.inr (Or.inr (Or.inr (Or.inl ⟨rfl, rfl⟩)))) rfl).uL 0 0 t (Or.inl ⟨rfl, by omega⟩) (by simp [tML])
      have hgy : GM x (hp_uL (hp_uI y (20, 0) 28 (nI (nPl s v k + d))) (21, 0) t (tv (nx (vS v k)))) := (k7.uI (by decide : 20 ≤ 20)).uL (by decide : 20 ≤ 21)
      generalize hp_uL (hp_uI y (20, 0) 28 (nI (nPl s v k + d))) (21, 0) t (tv (nx (vS v k))) = y1 at hm1 hgy
      have es : ∀ s2, s2 = (if 0 ≤ lg_cmp (nx (vS v k)) 0 then s1 else sRuns s1 (nS s')) → sPl s v (k + 1) = s2 := by
        intro s2 h2
        show sTurn (sPl s v k) (nx (vS v k)) = s2
        rw [← hs']
        unfold sTurn
        rw [et', cl t (by omega), ← hs1, h2]
      have en : ∀ n2, n2 = (if 0 ≤ lg_cmp (nx (vS v k)) 0 then 0 else nRuns s1 (nS s')) → nPl s v (k + 1) = nPl s v k + d + n2 := by
        intro n2 h2
        show nPl s v k + nTurn (sPl s v k) (nx (vS v k)) = _
        rw [← hs']
        unfold nTurn
        rw [et', cl t (by omega), ← hs1, h2, hd, Nat.add_assoc]
      refine upE (n := nS s) (k_X4_play_121 P v (nI n) (nI n) (nx (vS v k)) (nI k) (nI t) (tv (nx (vS v k))) _) (fun j z => (0 ≤ lg_cmp (nx (vS v k)) 0 → j = 0) ∧ ∃ D2, wf (sRuns s1 j) ∧ RM z (sRuns s1 j) D2 ∧ gr (sRuns s1 j) C ∧ nS (sRuns s1 j) = nS s ∧ nT (sRuns s1 j) = nT s ∧ GM x z ∧ D2 0 0 = D 0 0 ∧ D2 3 0 = nI (nPl s v k + d + nRuns s1 j)) y1 ⟨fun _ => rfl, _, w1, hm1, g1, f1, f3, hgy, by rw [cU_at, if_neg (by omega)]; exact k8, by rw [cU_at, if_pos ⟨rfl, rfl⟩]; rfl⟩ ?_ ?_
      · rintro z ⟨q, D2, j1, j2, j3, j4, j5, j6, j7, j8⟩ m'
        unfold k_X4_play_121
        rw [j2.nS, j4]
        refine ⟨fun _ => ih (z, nx (vS v k)) ⟨rfl, D2, ?_⟩, fun c => absurd (nI_le (Nat.le_refl _) (by omega)) c⟩
        by_cases q2 : 0 ≤ lg_cmp (nx (vS v k)) 0
        · have e0 := q q2
          rw [e0] at j1 j2 j3 j8
          have e1 := es s1 (by rw [if_pos q2])
          have e2 := en 0 (by rw [if_pos q2])
          rw [e1, e2]
          exact ⟨j1, j2, j3, f1, f3, j6, j7, j8⟩
        · have e1 := es (sRuns s1 (nS s)) (by rw [if_neg q2, k4])
          have e2 := en (nRuns s1 (nS s)) (by rw [if_neg q2, k4])
          rw [e1, e2]
          exact ⟨j1, j2, j3, j4, j5, j6, j7, j8⟩
      · rintro j z m' hj ⟨q, D2, j1, j2, j3, j4, j5, j6, j7, j8⟩ ih2
        unfold k_X4_play_121
        rw [j2.nS, j4, nI_add j 1]
        refine ⟨fun c => absurd c (nI_ge hj (by omega)), fun _ => ⟨fun q2 => ih (z, nx (vS v k)) ⟨rfl, D2, ?_⟩, fun q2 => ?_⟩⟩
        · have e0 := q q2
          rw [e0] at j1 j2 j3 j4 j5 j8
          have e1 := es s1 (by rw [if_pos q2])
          have e2 := en 0 (by rw [if_pos q2])
          rw [e1, e2]
          exact ⟨j1, j2, j3, j4, j5, j6, j7, j8⟩
        · refine p_X4_go j2 j1 j3 (by omega) (fun x' D3 i1 i2 i3 i4 i5 _ i6 => ih2 x' ⟨fun z => absurd z q2, D3, i1, i3, j3.same i2.xMD i2.xUS i2.xnT i2.xnS (fun _ _ _ => rfl), i2.xnS.trans j4, i2.xnT.trans j5, j6.tr i6, i4.trans j7, ?_⟩)
          rw [i5, j8, nI_add, Nat.add_assoc]
          rfl
    exact bl _ _ (fun q => ⟨iv, by have := main 0 (by rw [if_pos q]); exact this⟩) (fun q => ⟨iv, by have := main 1 (by rw [if_neg q]); exact this⟩)
end PLAY
