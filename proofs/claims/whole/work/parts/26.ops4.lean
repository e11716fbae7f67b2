/-! PURE ROWS: step, branch, settle -/
/-- an argument against a constant -/
theorem rl {A B : Prop} {a : Int32} {n : Nat} (hn : n + 1 < 2 ^ 31) (hA : (∀ j, j < n + 1 → a ≠ nI j) → A) (hB : ∀ j, j < n + 1 → a = nI j → B) : (a < 0 → A) ∧ (¬ a < 0 → ((a ≤ nI n → B) ∧ (¬ a ≤ nI n → A))) := by
  rcases pk_ix a hn with h | h | ⟨j, hj, rfl⟩
  · refine ⟨fun _ => hA (fun j hj e => ?_), fun h' => absurd h h'⟩
    rw [e] at h
    exact nI_pos (by omega) h
  · have hA' : A := hA (fun j hj e => by
      rw [e] at h
      exact nI_ge hj (by omega) h)
    exact ⟨fun _ => hA', fun _ => ⟨fun h2 => absurd (Int32.le_trans h h2) (nI_ge (by omega) (by omega)), fun _ => hA'⟩⟩
  · refine ⟨fun h => absurd h (nI_pos (by omega)), fun _ => ⟨fun _ => hB j hj rfl, fun h => absurd (nI_le (by omega) (by omega)) h⟩⟩
theorem rl' {A B : Prop} {a : Int32} {n : Nat} (hn : n + 1 < 2 ^ 31) (hA : (∀ j, j < n + 1 → a ≠ nI j) → A) (hB : ∀ j, j < n + 1 → a = nI j → B) : (a < 0 → A) ∧ (¬ a < 0 → ((nI n < a → A) ∧ (¬ nI n < a → B))) := by
  have h := rl hn hA hB
  exact ⟨h.1, fun c => ⟨fun c2 => (h.2 c).2 (Int32.not_le.mpr c2), fun c2 => (h.2 c).1 (Int32.not_lt.mp c2)⟩⟩
def sStep (s : sg) (kd : Nat) : sg := sN (sN s 1 (nS s) 0 kd) 0 2 0 (nS s + 1)
section OPS4
variable {x : hp_S} {s : sg} {C : Nat → Nat → Int32}
theorem RX.uN0 (h : RX x s C) {t : hp_T} {p : Nat} (f i k : Nat) (hk : okN f i k) (ht : tXN f i k = (t, p)) (hz : s.1 f i k = 0) : RX (hp_uI x t p (nI 0)) s C := by
  have := h.uN f i k 0 hk ht rfl (w := nI 0)
  rw [sN_self hz] at this
  exact this
theorem RX.uL0 (h : RX x s C) {t : hp_T} {p : Nat} (f i k : Nat) (hk : okL f i k) (ht : tXL f i k = (t, p)) (hz : s.2 f i k = 0) : RX (hp_uL x t p 0) s C := by
  have := h.uL f i k hk ht (v := 0)
  rw [sL_self hz] at this
  exact this
theorem cU_self {C : Nat → Nat → Int32} {f i : Nat} {v : Int32} (h : C f i = v) : cU C f i v = C := by
  funext f' i'
  unfold cU
  split
  · rename_i e
    rw [e.1, e.2, h]
  · rfl
theorem RX.uC0 (h : RX x s C) {t : hp_T} {p : Nat} (f i : Nat) (hk : okC f i) (ht : tXC f i = (t, p)) (hz : C f i = 0) : RX (hp_uI x t p (nI 0)) s C := by
  have := h.uC f i hk ht (w := nI 0)
  rw [cU_self (by rw [hz, nI_0])] at this
  exact this
set_option maxHeartbeats 1000000 in
theorem p_X3_step {P : Int32 → hp_S → Prop} {a : Int32} (hr : RX x s C) (hy : YX x s) (hz : ZS s) (hS : nS s ≤ 12) (hC : ∀ i, nS s ≤ i → C 1 i = 0) (h0 : (∀ j, j < 4 → a ≠ nI j) → P (-2) x) (h1 : ∀ kd, kd < 4 → a = nI kd → nS s = 12 → P (-1) x) (h2 : ∀ kd, kd < 4 → a = nI kd → nS s < 12 → ∀ x', RX x' (sStep s kd) C → YX x' (sStep s kd) → FX x x' → x'.2.2.2 (6, 0) 4 = x.2.2.2 (6, 0) 4 → P (nI (nS s)) x') : k_X3_step P a x := by
  unfold k_X3_step
  rw [hr.nS]
  refine rl (by decide) h0 (fun kd hkd ea => ⟨fun c => ?_, fun c => h1 kd hkd ea ?_⟩)
  · have hlt : nS s < 12 := (nI_ltI (by omega) (by decide)).mp c
    rw [cl _ (by omega)]
    obtain ⟨n, hn⟩ : ∃ n, nS s = n := ⟨_, rfl⟩
    have hlt' : n < 12 := by omega
    have h2' := h2 kd hkd ea hlt
    rw [hn] at h2' ⊢
    obtain ⟨f11, f12, f13, f14⟩ := hy.2.2.1 n (by omega)
    obtain ⟨z1, z0⟩ := hz.1 n (by omega)
    have zc := hC n (by omega)
    refine ⟨f11, ?_⟩
    unfold k_X2_init
    refine ⟨by simp [hp_nw, f12], by simp [hp_nw, hp_uR, f13], by simp [hp_nw, hp_uR, f14], vp_in_nI hlt' (by decide), ?_⟩
    generalize hX0 : hp_uR (hp_nw (hp_uR (hp_nw (hp_uR (hp_nw (hp_nw x (11, n)) (12, n)) (11, n) 1 (some (12, n))) (13, n)) (11, n) 2 (some (13, n))) (14, n)) (11, n) 3 (some (14, n)) = y0
    have hry0 : RX y0 s C := by
      rw [← hX0]
      refine RX.uR (RX.nw (RX.uR (RX.nw (RX.uR (RX.nw (RX.nw hr ?_ ?_ ?_) ?_ ?_ ?_)) ?_ ?_ ?_)) ?_ ?_ ?_)
      · intro f i k hk e; obtain ⟨rfl, rfl⟩ := kN11 hk e; exact (z1 k).1
      · intro f i k hk e; obtain ⟨rfl, rfl, rfl⟩ := (kL hk e).1 rfl; exact z0
      · intro f i hk e; obtain ⟨rfl, rfl⟩ := (kC hk e).1 rfl; exact zc
      · intro f i k hk e; obtain ⟨rfl, rfl⟩ := kN12 hk e; exact (z1 k).2.1
      · intro f i k hk e; exact absurd rfl ((kL hk e).2.2.2.2.1)
      · intro f i hk e; exact absurd rfl ((kC hk e).2.1)
      · intro f i k hk e; obtain ⟨rfl, rfl⟩ := kN13 hk e; exact (z1 k).2.2.1
      · intro f i k hk e; exact absurd rfl ((kL hk e).2.2.2.2.2.1)
      · intro f i hk e; exact absurd rfl ((kC hk e).2.2.1)
      · intro f i k hk e; exact (kNno hk e (by decide)).elim
      · intro f i k hk e; obtain ⟨rfl, rfl⟩ := (kL hk e).2.1 rfl; exact (z1 k).2.2.2
      · intro f i hk e; exact absurd rfl ((kC hk e).2.2.2.1)
    have hfy0 : FX x y0 := by
      rw [← hX0]
      exact FX.uR (FX.nw (FX.uR (FX.nw (FX.uR (FX.nw (FX.nw (FX.rf x) (by decide : 11 < 20)) (by decide : 12 < 20))) (by decide : 13 < 20))) (by decide : 14 < 20))
    have hsE : hp_shE y0 (11, n) := by
      rw [← hX0]
      have h := shE_uR (k := 3) (v := some (14, n)) (shE_nw (t := (14, n)) (shE_uR (k := 2) (v := some (13, n)) (shE_nw (t := (13, n)) (shE_uR (k := 1) (v := some (12, n)) (shE_nw (t := (12, n)) (shE_of (t0 := (11, n)) hy.2.1) (fun k => by simp [hp_ex, hp_xl]))) (fun k => by simp [hp_ex, hp_xl]))) (fun k => by simp [hp_ex, hp_xl]))
      exact h
    have hsh0 : hp_sh y0 := shE_done hsE (fun k t2 he => by
      rw [← hX0]
      match k, he with
      | 0, he => cases he
      | 1, he => cases he; simp [hp_uR, hp_nw]
      | 2, he => cases he; simp [hp_uR, hp_nw]
      | 3, he => cases he; simp [hp_uR, hp_nw]
      | 4, he => cases he
      | 5, he => cases he
      | 6, he => cases he
      | 7, he => cases he
      | 8, he => cases he
      | 9, he => cases he
      | 10, he => cases he
      | k + 11, he => simp [hp_ex, hp_xl] at he)
    generalize hX : hp_uI (hp_uL (hp_uI (hp_uI (hp_uI (hp_uI (hp_uI (hp_uI y0 (11, n) 4 (nI 0)) (11, n) 5 (nI 0)) (11, n) 6 (nI 0)) (11, n) 7 (nI 0)) (11, n) 8 (nI 0)) (11, n) 9 (nI 0)) (11, n) 10 0) (11, n) 0 a = y
    have hry : RX y (sN s 1 n 0 kd) C := by
      rw [← hX, ea]
      have k1 := hry0.uN0 (t := (11, n)) (p := 4) 1 n 1 (Or.inr (Or.inl ⟨rfl, by decide⟩)) rfl (z1 1).1
      have k2 := k1.uN0 (t := (11, n)) (p := 5) 1 n 2 (Or.inr (Or.inl ⟨rfl, by decide⟩)) rfl (z1 2).1
      have k3 := k2.uC0 (t := (11, n)) (p := 6) 1 n (Or.inr (Or.inl rfl)) rfl zc
      have k4 := k3.uN0 (t := (11, n)) (p := 7) 1 n 3 (Or.inr (Or.inl ⟨rfl, by decide⟩)) rfl (z1 3).1
      have k5 := k4.uN0 (t := (11, n)) (p := 8) 1 n 4 (Or.inr (Or.inl ⟨rfl, by decide⟩)) rfl (z1 4).1
      have k6 := k5.uN0 (t := (11, n)) (p := 9) 1 n 5 (Or.inr (Or.inl ⟨rfl, by decide⟩)) rfl (z1 5).1
      have k7 := k6.uL0 (t := (11, n)) (p := 10) 2 n 0 (Or.inr (Or.inr (Or.inl ⟨rfl, rfl⟩))) rfl z0
      exact k7.uN 1 n 0 kd (Or.inr (Or.inl ⟨rfl, by decide⟩)) rfl rfl
    have hfy : FX x y := by
      rw [← hX]
      exact ((((((((hfy0.uI (by decide : 11 < 20)).uI (by decide : 11 < 20)).uI (by decide : 11 < 20)).uI (by decide : 11 < 20)).uI (by decide : 11 < 20)).uI (by decide : 11 < 20)).uL (by decide : 11 < 20)).uI (by decide : 11 < 20))
    have hy1 : y.1 = y0.1 := by rw [← hX]; rfl
    have hy2 : y.2.2.2 = y0.2.2.2 := by rw [← hX]; rfl
    have hsh : hp_sh y := fun t k t2 he hl => by
      rw [hy1] at hl
      rw [hy2]
      exact hsh0 t k t2 he hl
    have e8 : (hp_uR y (4, 0) n (some (11, n))).2.1 (0, 0) 8 = nI n := by
      show y.2.1 (0, 0) 8 = nI n
      rw [hry.nS]
      exact congrArg nI (by show (sN s 1 n 0 kd).1 0 2 0 = n; rw [sN_N, if_neg (by simp)]; exact hn)
    have hshF : hp_sh (hp_uR y (4, 0) n (some (11, n))) := hp_sh_uR (by simp [hp_ex, hp_xl]) hsh
    rw [e8, nI_add]
    refine ⟨hshF, ?_⟩
    rw [hp_uI_at, if_pos ⟨rfl, rfl⟩, pk_sub (by omega), Nat.add_sub_cancel]
    have hss : sStep s kd = sN (sN s 1 n 0 kd) 0 2 0 (n + 1) := by unfold sStep; rw [hn]
    refine h2' _ ?_ ⟨⟨fun j hj => ?_, fun j hj => ?_⟩, hshF, fun j hj => ?_, fun j hj => ?_⟩ ((FX.uR hfy).uI (by decide : 0 < 20)) ?_
    · rw [hss]
      exact (RX.uR hry).uN 0 2 0 (n + 1) (Or.inl ⟨rfl, by decide, rfl⟩) rfl rfl
    · have hj' : j < n + 1 := by
        rw [hss] at hj
        simpa [nS, sN_N] using hj
      by_cases e : j = n
      · subst e
        simp [hp_uI, hp_uR]
      · have := hy.1.1 j (by omega)
        have h3 : y0.2.2.2 (4, 0) j = some (11, j) := by
          rw [← hX0]
          simp [hp_uR, hp_nw, this]
        rw [← hy2] at h3
        simp [hp_uI, hp_uR, e, h3]
    · have hj' : j < nZ s := by
        rw [hss] at hj
        simpa [nZ, sN_N] using hj
      have := hy.1.2 j hj'
      have h3 : y0.2.2.2 (5, 0) j = some (15, j) := by
        rw [← hX0]
        simp [hp_uR, hp_nw, this]
      rw [← hy2] at h3
      simp [hp_uI, hp_uR, h3]
    · have hj' : n + 1 ≤ j := by
        rw [hss] at hj
        simpa [nS, sN_N] using hj
      obtain ⟨g1, g2, g3, g4⟩ := hy.2.2.1 j (by omega)
      have hne : j ≠ n := by omega
      show y.1 (11, j) = false ∧ y.1 (12, j) = false ∧ y.1 (13, j) = false ∧ y.1 (14, j) = false
      rw [hy1, ← hX0]
      simp [hp_uR, hp_nw, g1, g2, g3, g4, hne]
    · have hj' : nZ s ≤ j := by
        rw [hss] at hj
        simpa [nZ, sN_N] using hj
      obtain ⟨g1, g2, g3, g4, g5⟩ := hy.2.2.2 j hj'
      show y.1 (15, j) = false ∧ y.1 (16, j) = false ∧ y.1 (17, j) = false ∧ y.1 (18, j) = false ∧ y.1 (19, j) = false
      rw [hy1, ← hX0]
      simp [hp_uR, hp_nw, g1, g2, g3, g4, g5]
    · have h3 : y0.2.2.2 (6, 0) 4 = x.2.2.2 (6, 0) 4 := by
        rw [← hX0]
        simp [hp_uR, hp_nw]
      rw [← hy2] at h3
      simp [hp_uI, hp_uR, h3]
  · rcases Nat.lt_or_ge (nS s) 12 with q | q
    · exact absurd (nI_lt q (by decide)) c
    · omega
theorem p_X4_step {P : Int32 → hp_S → Prop} {a : Int32} (hr : RM x s C) (hS : nS s ≤ 12) (h0 : (∀ j, j < 4 → a ≠ nI j) → P (-2) x) (h1 : ∀ kd, kd < 4 → a = nI kd → nS s = 12 → P (-1) x) (h2 : ∀ kd, kd < 4 → a = nI kd → nS s < 12 → ∀ x', RM x' (sStep s kd) C → GM x x' → P (nI (nS s)) x') : k_X4_step P a x := by
  unfold k_X4_step
  rw [hr.nS]
  refine rl (by decide) h0 (fun kd hkd ea => ⟨fun c => ?_, fun c => h1 kd hkd ea ((nI_eq (by omega) (by decide)).mp c)⟩)
  have hlt : nS s < 12 := Nat.lt_of_le_of_ne hS (fun q => c (by rw [q]))
  rw [cl _ (by omega)]
  have e1 : (hp_uI x (31, 0) (nS s) a).2.1 (20, 0) 15 = nI (nS s) := by rw [hp_uI_at, if_neg (by simp)]; exact hr.nS
  rw [e1, nI_add, hp_uI_at, if_pos ⟨rfl, rfl⟩, pk_sub (by omega), Nat.add_sub_cancel]
  refine ⟨vp_in_nI hlt (by decide), h2 kd hkd ea hlt _ ?_ (((GM.rf x).uI (by decide : 20 ≤ 31)).uI (by decide : 20 ≤ 20))⟩
  exact (hr.uN 1 (nS s) 0 kd (Or.inr (Or.inl ⟨rfl, by decide⟩)) rfl ea).uN 0 2 0 (nS s + 1) (Or.inl ⟨rfl, by decide, rfl⟩) rfl rfl
end OPS4
/-- a loop that counts up, with its fuel -/
theorem upF {τ : Type} {n : Nat} (K : Nat → τ → Int32 → Prop) (I : Nat → τ → Prop) (hend : ∀ x, I n x → ∀ m, K (m + 1) x (nI n)) (hstep : ∀ j x m, j < n → I j x → (∀ x', I (j + 1) x' → K m x' (nI (j + 1))) → K (m + 1) x (nI j)) : ∀ j x, j ≤ n → I j x → K (n - j + 1) x (nI j) := by
  intro j x hj
  obtain ⟨d, hd⟩ : ∃ d, d = n - j := ⟨_, rfl⟩
  induction d generalizing j x with
  | zero =>
    intro hI
    have : j = n := by omega
    subst this
    exact hend x hI _
  | succ d ih =>
    intro hI
    have e : n - j + 1 = (n - (j + 1) + 1) + 1 := by omega
    rw [e]
    exact hstep j x _ (by omega) hI (fun x' hI' => ih (j + 1) x' (by omega) (by omega) hI')
theorem upE {τ : Type} {n : Nat} (K : Nat → τ → Int32 → Prop) (I : Nat → τ → Prop) (x : τ) (h0 : I 0 x) (hend : ∀ x, I n x → ∀ m, K (m + 1) x (nI n)) (hstep : ∀ j x m, j < n → I j x → (∀ x', I (j + 1) x' → K m x' (nI (j + 1))) → K (m + 1) x (nI j)) : ∃ q, K q x (nI 0) := ⟨_, upF K I hend hstep 0 x (Nat.zero_le _) h0⟩
/-! branch -/
def sCp (s : sg) (j : Nat) : sg := (s.1, fun f i k => if f = 0 ∧ i = nB s ∧ k < j then s.2 0 0 k else s.2 f i k)
def sBranch (s : sg) : sg := sN (sCp s 24) 0 1 0 (nB s + 1)
section OPS4
variable {x : hp_S} {s : sg} {C : Nat → Nat → Int32}
theorem p_X3_branch {P : Int32 → hp_S → Prop} (hr : RX x s C) (hB : nB s ≤ 6) (h1 : nB s = 6 → P (-1) x) (h2 : nB s < 6 → ∀ x', RX x' (sBranch s) C → GX x x' → P (nI (nB s)) x') : k_X3_branch P x := by
  unfold k_X3_branch
  rw [hr.nB]
  refine ⟨fun c => ?_, fun c => h1 ?_⟩
  · have hlt : nB s < 6 := (nI_ltI (by omega) (by decide)).mp c
    rw [cl _ (by omega)]
    generalize hX : hp_wL x (2, nB s) (va_cpy (x.2.2.1 (2, 0)) (x.2.2.1 (2, nB s)) 0 0 24) = y
    have hy : RX y (sCp s 24) C := by
      rw [← hX]
      refine ⟨fun f i k hk => hr.1 f i k hk, fun f i k hk => ?_, fun f i hk => hr.2.2 f i hk⟩
      simp only [hp_wL, sCp]
      by_cases e : (tXL f i k).1 = (2, nB s)
      · have : f = 0 ∧ i = nB s ∧ k < 24 := by
          rcases hk with ⟨rfl, h1⟩ | ⟨rfl, h1⟩ | ⟨rfl, h1⟩ | ⟨rfl, h1⟩ | ⟨rfl, h1⟩ | ⟨rfl, h1⟩ | ⟨rfl, h1⟩ <;> simp [tXL] at e
          exact ⟨rfl, e, h1⟩
        rw [if_pos e, if_pos this]
        obtain ⟨rfl, rfl, h3⟩ := this
        simp only [tXL, va_cpy]
        rw [if_pos ⟨Nat.zero_le _, by omega⟩, Nat.zero_add, Nat.sub_zero, hr.val 0 k h3]
      · rw [if_neg e, hr.2.1 f i k hk, if_neg]
        rintro ⟨rfl, rfl, _⟩
        exact e rfl
    have e1 : y.2.1 (0, 0) 7 = nI (nB s) := hy.nB
    have hg : GX x y := by
      rw [← hX]
      refine ⟨rfl, rfl, fun t ht => ⟨rfl, ?_⟩⟩
      simp only [hp_wL]
      rw [if_neg (fun q => by rw [q] at ht; simp at ht)]
    rw [e1, nI_add, hp_uI_at, if_pos ⟨rfl, rfl⟩, pk_sub (by omega), Nat.add_sub_cancel]
    exact ⟨vp_in_nI hlt (by decide), h2 hlt _ (hy.uN 0 1 0 (nB s + 1) (Or.inl ⟨rfl, by decide, rfl⟩) rfl rfl) (hg.uI (by decide : 0 < 20))⟩
  · rcases Nat.lt_or_ge (nB s) 6 with q | q
    · exact absurd (nI_lt q (by decide)) c
    · omega
theorem p_X4_branch {P : Int32 → hp_S → Prop} (hr : RM x s C) (hT : nT s ≤ 24) (hB1 : 1 ≤ nB s) (hB : nB s ≤ 6) (hv : ∀ b t, nT s ≤ t → s.2 0 b t = 0) (h1 : nB s = 6 → P (-1) x) (h2 : nB s < 6 → ∀ x', RM x' (sBranch s) C → GM x x' → P (nI (nB s)) x') : k_X4_branch P x := by
  unfold k_X4_branch
  rw [hr.nB]
  refine ⟨fun c => ?_, fun c => h1 ((nI_eq (by omega) (by decide)).mp c)⟩
  have hlt : nB s < 6 := Nat.lt_of_le_of_ne hB (fun q => c (by rw [q]))
  refine upE (n := nT s) (k_X4_branch_13 P) (fun j y => RM y (sCp s j) C ∧ GM x y) x ⟨?_, GM.rf x⟩ ?_ ?_
  · have : sCp s 0 = s := by
      unfold sCp
      refine Prod.ext rfl ?_
      funext f i k
      simp
    rw [this]
    exact hr
  · rintro y ⟨hy, hg⟩ m
    have hn : y.2.1 (20, 0) 0 = nI (nT s) := hy.nT
    have hb : y.2.1 (20, 0) 1 = nI (nB s) := hy.nB
    unfold k_X4_branch_13
    rw [hn, hb]
    refine ⟨fun _ => ?_, fun c => absurd (nI_le (Nat.le_refl _) (by omega)) c⟩
    rw [nI_add, hp_uI_at, if_pos ⟨rfl, rfl⟩, pk_sub (by omega), Nat.add_sub_cancel]
    have e : sCp s (nT s) = sCp s 24 := by
      unfold sCp
      refine Prod.ext rfl ?_
      funext f i k
      dsimp only
      by_cases q : f = 0 ∧ i = nB s ∧ k < 24
      · rw [if_pos q]
        by_cases q2 : k < nT s
        · rw [if_pos ⟨q.1, q.2.1, q2⟩]
        · rw [if_neg (fun z => q2 z.2.2), q.1, hv _ _ (by omega), hv _ _ (by omega)]
      · rw [if_neg q, if_neg (fun z => q ⟨z.1, z.2.1, by omega⟩)]
    rw [e] at hy
    exact h2 hlt _ (hy.uN 0 1 0 (nB s + 1) (Or.inl ⟨rfl, by decide, rfl⟩) rfl rfl) (hg.uI (by decide))
  · rintro j y m hj ⟨hy, hg⟩ ih
    have hn : y.2.1 (20, 0) 0 = nI (nT s) := hy.nT
    have hb : y.2.1 (20, 0) 1 = nI (nB s) := hy.nB
    have hv0 : y.2.2.1 (21, 0) j = s.2 0 0 j := by
      have h := hy.val 0 j (by omega)
      rw [Nat.mul_zero, Nat.zero_add] at h
      rw [h]
      simp only [sCp]
      rw [if_neg (by omega)]
    unfold k_X4_branch_13
    rw [hn, hb, pk_mul 24 (nB s), nI_add (24 * nB s) j]
    refine ⟨fun c => absurd c (nI_ge hj (by omega)), fun _ => ⟨vp_in_nI (by omega) (by decide), vp_in_nI (by omega) (by decide), ?_⟩⟩
    rw [cl (24 * nB s + j) (by omega), cl j (by omega), nI_add j 1, hv0]
    refine ih _ ⟨?_, hg.uL (by decide)⟩
    have h := hy.uL 0 (nB s) j (Or.inl ⟨rfl, by omega⟩) rfl (v := s.2 0 0 j) (t := (21, 0)) (p := 24 * nB s + j)
    have e : sL (sCp s j) 0 (nB s) j (s.2 0 0 j) = sCp s (j + 1) := by
      refine Prod.ext rfl ?_
      funext f i k
      rw [sL_L]
      simp only [sCp]
      by_cases q : f = 0 ∧ i = nB s
      · obtain ⟨rfl, rfl⟩ := q
        by_cases q2 : k = j
        · subst q2
          rw [if_pos ⟨rfl, rfl, rfl⟩, if_pos ⟨rfl, rfl, by omega⟩]
        · rw [if_neg (fun z => q2 z.2.2)]
          by_cases q3 : k < j
          · rw [if_pos ⟨rfl, rfl, q3⟩, if_pos ⟨rfl, rfl, by omega⟩]
          · rw [if_neg (fun z => q3 z.2.2), if_neg (fun z => q3 (by omega))]
      · rw [if_neg (fun z => q ⟨z.1, z.2.1⟩), if_neg (fun z => q ⟨z.1, z.2.1⟩), if_neg (fun z => q ⟨z.1, z.2.1⟩)]
    rw [e] at h
    exact h
/-! settle -/
end OPS4
def sSettle (s : sg) (k j : Nat) (drop : Bool) : sg :=
  let s1 := sL (sN s 8 k 0 1) 3 j (s.1 7 k 0) (s.2 6 k 0)
  if drop then sN s1 6 j (s.1 7 k 0) 0 else s1
section OPS4
variable {x : hp_S} {s : sg} {C : Nat → Nat → Int32}
theorem p_X3_settle {P : Int32 → hp_S → Prop} {a1 a2 : Int32} (hr : RX x s C) (hC : nC s ≤ 24) (hT : nT s ≤ 24) (hct : ∀ k, k < nC s → s.1 7 k 0 < nT s) (hcs : ∀ k, s.1 8 k 0 ≤ 1) (ho : ∀ j, s.1 4 j 0 ≤ 1) {j : Nat} (hj : 0 < nC s → x.2.2.2 (6, 0) 4 = some (15, j))
    (h0 : (∀ k b, k < nC s → b < 2 → a1 = nI k → a2 = nI b → s.1 4 j 0 = 1 → s.1 8 k 0 ≠ 0) → P (nI 0) x) (h1 : ∀ k b, k < nC s → b < 2 → a1 = nI k → a2 = nI b → s.1 4 j 0 = 1 → s.1 8 k 0 = 0 → ∀ x', RX x' (sSettle s k j (b == 1)) C → GX x x' → P (nI 1) x') : k_X3_settle P a1 a2 x := by
  refine p_X0_has hr hC (fun k hk e => b1 ?_) (fun h => b0 (h0 (fun k b hk _ e => absurd e (h k hk))))
  subst e
  refine rl (by decide) (fun h => h0 (fun k b _ hb _ e => absurd e (h b hb))) (fun b hb e => ?_)
  subst e
  have hjj := hj (by omega)
  have hi : vp_in (nI k) 24 := vp_in_nI (by omega) (by decide)
  refine ⟨fun e => (by rw [hjj] at e; cases e), fun j' e => ?_, Or.inr ⟨j, hjj⟩⟩
  rw [hjj] at e
  cases e
  rw [cl _ (by omega)]
  have hoj := ho j
  refine bz (hr.opn j) (by omega) (fun e => h0 (fun _ _ _ _ _ _ e1 => by omega)) (fun e => ⟨hi, ?_⟩)
  have hck := hcs k
  refine bz (hr.cs k) (by omega) (fun e2 => ⟨hi, hi, hi, ?_⟩) (fun e2 => h0 (fun k' b' hk' _ e' _ _ => by rw [← nI_inj (by omega) (by omega) e']; exact e2))
  have et : (hp_uI x (10, 0) k (nI 1)).2.1 (7, 0) k = nI (s.1 7 k 0) := by
    rw [hp_uI_at, if_neg (by simp)]
    exact hr.ct k
  have eh : (hp_uI x (10, 0) k (nI 1)).2.2.1 (9, 0) k = s.2 6 k 0 := hr.ch k
  have htk := hct k hk
  rw [et, eh]
  unfold k_X1_rebase
  rw [cl _ (by omega)]
  refine ⟨vp_in_nI (by omega) (by decide), ?_⟩
  have hs1 : RX (hp_uL (hp_uI x (10, 0) k (nI 1)) (17, j) (s.1 7 k 0) (s.2 6 k 0)) (sL (sN s 8 k 0 1) 3 j (s.1 7 k 0) (s.2 6 k 0)) C := (hr.uN 8 k 0 1 (Or.inr (Or.inr (Or.inr (Or.inr (Or.inr (Or.inr (Or.inr (Or.inr ⟨rfl, rfl⟩)))))))) rfl rfl).uL 3 j (s.1 7 k 0) (Or.inr (Or.inr (Or.inr (Or.inl ⟨rfl, by omega⟩)))) rfl
  have hg1 : GX x (hp_uL (hp_uI x (10, 0) k (nI 1)) (17, j) (s.1 7 k 0) (s.2 6 k 0)) := ((GX.rf x).uI (by decide : 10 < 20)).uL (by decide : 17 < 20)
  have hh := h1 k b hk hb rfl rfl (by omega) e2
  refine ⟨fun c => hh _ ?_ hg1, fun c => ?_⟩
  · have : b ≠ 1 := fun q => c (by rw [q])
    have hb0 : b = 0 := by omega
    subst hb0
    exact hs1
  · have hb1 : b = 1 := nI_inj (by omega) (by omega) c
    subst hb1
    unfold k_X1_dropWritten
    rw [cl _ (by omega)]
    refine ⟨vp_in_nI (by omega) (by decide), hh _ ?_ (hg1.uI (by decide : 18 < 20))⟩
    exact hs1.uN 6 j (s.1 7 k 0) 0 (Or.inr (Or.inr (Or.inr (Or.inr (Or.inr (Or.inr (Or.inl ⟨rfl, by omega⟩))))))) rfl rfl
theorem p_X4_settle {P : Int32 → hp_S → Prop} {a1 a2 : Int32} (hr : RM x s C) (hC : nC s ≤ 24) (hT : nT s ≤ 24) (hct : ∀ k, k < nC s → s.1 7 k 0 < nT s) (hcs : ∀ k, s.1 8 k 0 ≤ 1) (ho : ∀ j, s.1 4 j 0 ≤ 1) (hw : ∀ j t, s.1 6 j t ≤ 1) {j : Nat} (hj : 0 < nC s → C 0 0 = nI j ∧ j < 40)
    (h0 : (∀ k b, k < nC s → b < 2 → a1 = nI k → a2 = nI b → s.1 4 j 0 = 1 → s.1 8 k 0 ≠ 0) → P (nI 0) x) (h1 : ∀ k b, k < nC s → b < 2 → a1 = nI k → a2 = nI b → s.1 4 j 0 = 1 → s.1 8 k 0 = 0 → ∀ x', RM x' (sSettle s k j (b == 1)) C → GM x x' → P (nI 1) x') : k_X4_settle P a1 a2 x := by
  refine rc hr.nC (by omega) (fun h => h0 (fun k b hk _ e => absurd e (h k hk))) (fun k hk e => ?_)
  subst e
  refine rl' (by decide) (fun h => h0 (fun k b _ hb _ e => absurd e (h b hb))) (fun b hb e => ?_)
  subst e
  obtain ⟨hjj, hj40⟩ := hj (by omega)
  have hi : vp_in (nI k) 24 := vp_in_nI (by omega) (by decide)
  have htk := hct k hk
  have eo : x.2.1 (20, 0) 10 = nI j := by rw [hr.own]; exact hjj
  have hi2 : vp_in (nI (24 * j + s.1 7 k 0)) 960 := vp_in_nI (by omega) (by decide)
  rw [eo, cl k (by omega), cl j (by omega), hr.ct k, pk_mul, nI_add, cl (24 * j + s.1 7 k 0) (by omega)]
  have hoj := ho j
  have hck := hcs k
  refine ⟨hi, bz' (hr.cs k) (by omega) (fun e2 => ⟨vp_in_nI hj40 (by decide), ?_⟩) (fun e2 => h0 (fun k' b' hk' _ e' _ _ => by rw [← nI_inj (by omega) (by omega) e']; exact e2))⟩
  refine bz' (hr.opn j) (by omega) (fun e => h0 (fun _ _ _ _ _ _ e1 => by omega)) (fun e => ⟨hi, hi, hi, hi2, hi2, ?_⟩)
  have hs1 : RM (hp_uL (hp_uI x (30, 0) k (nI 1)) (25, 0) (24 * j + s.1 7 k 0) (s.2 6 k 0)) (sL (sN s 8 k 0 1) 3 j (s.1 7 k 0) (s.2 6 k 0)) C := (hr.uN 8 k 0 1 (Or.inr (Or.inr (Or.inr (Or.inr (Or.inr (Or.inr (Or.inr (Or.inr ⟨rfl, rfl⟩)))))))) rfl rfl).uL 3 j (s.1 7 k 0) (Or.inr (Or.inr (Or.inr (Or.inl ⟨rfl, by omega⟩)))) rfl
  have hg1 : GM x (hp_uL (hp_uI x (30, 0) k (nI 1)) (25, 0) (24 * j + s.1 7 k 0) (s.2 6 k 0)) := ((GM.rf x).uI (by decide : 20 ≤ 30)).uL (by decide : 20 ≤ 25)
  have eh : (hp_uI x (30, 0) k (nI 1)).2.2.1 (29, 0) k = s.2 6 k 0 := hr.ch k
  rw [eh]
  have hwj := hw j (s.1 7 k 0)
  have ew := hs1.wro j (s.1 7 k 0) (by omega)
  have ew2 : (sL (sN s 8 k 0 1) 3 j (s.1 7 k 0) (s.2 6 k 0)).1 6 j (s.1 7 k 0) = s.1 6 j (s.1 7 k 0) := by
    rw [sL_N, sN_N, if_neg (by simp)]
  rw [ew2] at ew
  have hh := h1 k b hk hb rfl rfl (by omega) e2
  have key : ∀ v, RM (hp_uI (hp_uL (hp_uI x (30, 0) k (nI 1)) (25, 0) (24 * j + s.1 7 k 0) (s.2 6 k 0)) (24, 0) (24 * j + s.1 7 k 0) (nI v)) (sN (sL (sN s 8 k 0 1) 3 j (s.1 7 k 0) (s.2 6 k 0)) 6 j (s.1 7 k 0) v) C := fun v => hs1.uN 6 j (s.1 7 k 0) v (Or.inr (Or.inr (Or.inr (Or.inr (Or.inr (Or.inr (Or.inl ⟨rfl, by omega⟩))))))) rfl rfl
  have hgk : ∀ v, GM x (hp_uI (hp_uL (hp_uI x (30, 0) k (nI 1)) (25, 0) (24 * j + s.1 7 k 0) (s.2 6 k 0)) (24, 0) (24 * j + s.1 7 k 0) v) := fun v => hg1.uI (by decide : 20 ≤ 24)
  refine bz ew (by omega) (fun e3 => ⟨hi2, hh _ ?_ (hgk _)⟩) (fun e3 => ⟨fun c => ⟨hi2, hh _ ?_ (hgk _)⟩, fun c => ⟨hi2, hh _ ?_ (hgk _)⟩⟩)
  · have q := key 0
    unfold sSettle
    rcases (by omega : b = 0 ∨ b = 1) with rfl | rfl
    · rw [sN_self (by rw [ew2]; exact e3)] at q
      exact q
    · exact q
  · have : b ≠ 0 := fun q => c (by rw [q]; exact nI_0)
    have hb1 : b = 1 := by omega
    subst hb1
    exact key 0
  · have hb0 : b = 0 := by
      rw [← nI_0] at c
      exact nI_inj (by omega) (by omega) c
    subst hb0
    have q := key 1
    rw [sN_self (by rw [ew2]; omega)] at q
    exact q
end OPS4
