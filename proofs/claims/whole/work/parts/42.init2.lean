/-! THE START, the reference -/
def Mst (x : hp_S) (c f : Nat) : Prop :=
  (ZI x (nI 1) (nI 1)) ∧
  (hp_shA x (fun t => t = (20, 0))) ∧
  (∀ t : hp_T, 11 ≤ t.1 → (t.1 < 20 ∨ c < t.1) → x.1 t = false) ∧
  (∀ k t2, k < f → hp_ex (20, 0) k = some t2 → x.2.2.2 (20, 0) k = some t2)
theorem mstq_z {x : hp_S} {c f : Nat} (w : Mst x c f) : ZI x (nI 1) (nI 1) := w.1
theorem mstq_s {x : hp_S} {c f : Nat} (w : Mst x c f) : hp_shA x (fun t => t = (20, 0)) := w.2.1
theorem mstq_a {x : hp_S} {c f : Nat} (w : Mst x c f) : ∀ t : hp_T, 11 ≤ t.1 → (t.1 < 20 ∨ c < t.1) → x.1 t = false := w.2.2.1
theorem mstq_r {x : hp_S} {c f : Nat} (w : Mst x c f) : ∀ k t2, k < f → hp_ex (20, 0) k = some t2 → x.2.2.2 (20, 0) k = some t2 := w.2.2.2
def Mst.z {x : hp_S} {c f : Nat} (w : Mst x c f) := mstq_z w
def Mst.s {x : hp_S} {c f : Nat} (w : Mst x c f) := mstq_s w
def Mst.a {x : hp_S} {c f : Nat} (w : Mst x c f) := mstq_a w
def Mst.r {x : hp_S} {c f : Nat} (w : Mst x c f) := mstq_r w
theorem hp_ex0 {c k : Nat} (h1 : 21 ≤ c) (h2 : c < 43) : hp_ex (c, 0) k = none := by
  have e : ∀ c, c < 43 → 21 ≤ c → hp_xl.getD c [] = [] := by decide
  unfold hp_ex
  rw [if_neg (by show ¬ c = 1; omega)]
  show ((hp_xl.getD c []).getD k none).map _ = none
  rw [e c h2 h1]
  rfl
theorem Mst.step {x : hp_S} {c f : Nat} (m : Mst x c f) (c' f' : Nat) (hc : 20 ≤ c ∧ c < 42) (hc' : c' = c + 1) (hex : hp_ex (20, 0) f' = some (c', 0)) (hno : ∀ k, k < f' → f ≤ k → hp_ex (20, 0) k = none) : Mst (hp_uR (hp_nw x (c', 0)) (20, 0) f' (some (c', 0))) c' (f' + 1) := by
  refine ⟨(m.z.nw (c', 0) (fun q => by simp at q; omega) (fun q => by simp at q; omega)).uR, shA_uR (shA_nw m.s (c', 0) (Or.inr (fun k => hp_ex0 (by omega) (by omega)))) (20, 0) rfl, fun t h1 h2 => ?_, fun k t2 hk he => ?_⟩
  · show (hp_nw x (c', 0)).1 t = false
    simp only [hp_nw]
    rw [if_neg (fun q => by rw [q] at h2; simp at h2; omega)]
    exact m.a t h1 (by omega)
  · show (if ((20, 0) : hp_T) = (20, 0) ∧ k = f' then some (c', 0) else (if ((20, 0) : hp_T) = (c', 0) then none else x.2.2.2 (20, 0) k)) = some t2
    by_cases e : k = f'
    · subst e
      rw [if_pos ⟨rfl, rfl⟩]
      rw [hex] at he
      exact he
    · rw [if_neg (fun q => e q.2), if_neg (by intro q; simp at q; omega)]
      rcases Nat.lt_or_ge k f with q | q
      · exact m.r k t2 q he
      · rw [hno k (by omega) q] at he
        cases he
theorem p_X4_init {P : hp_S → Prop} {x : hp_S} (hz : ZI x (nI 1) 0) (hs : hp_sh x) (ha : ∀ t : hp_T, 11 ≤ t.1 → x.1 t = false) (h : ∀ x, ZI x (nI 1) (nI 1) → hp_sh x → (∀ t : hp_T, 11 ≤ t.1 → t.1 < 20 → x.1 t = false) → P x) : k_X4_init P (hp_nw x (20, 0)) := by
  have m0 : Mst (hp_uI (hp_nw x (20, 0)) (20, 0) 1 (nI 1)) 20 0 := by
    refine ⟨(hz.nw (20, 0) (by simp) (fun _ => rfl)).ub, shA_uI (shA_nw (A := fun t => t = (20, 0)) (fun t k t2 _ he hl => hs t k t2 he hl) (20, 0) (Or.inl rfl)), fun t h1 h2 => ?_, fun k t2 hk => by omega⟩
    show (hp_nw x (20, 0)).1 t = false
    simp only [hp_nw]
    rw [if_neg (fun q => by rw [q] at h2; simp at h2)]
    exact ha t h1
  have m1 := m0.step 21 2 ⟨by decide, by decide⟩ rfl rfl (by decide)
  have m2 := m1.step 22 4 ⟨by decide, by decide⟩ rfl rfl (by decide)
  have m3 := m2.step 23 5 ⟨by decide, by decide⟩ rfl rfl (by decide)
  have m4 := m3.step 24 6 ⟨by decide, by decide⟩ rfl rfl (by decide)
  have m5 := m4.step 25 7 ⟨by decide, by decide⟩ rfl rfl (by decide)
  have m6 := m5.step 26 8 ⟨by decide, by decide⟩ rfl rfl (by decide)
  have m7 := m6.step 27 11 ⟨by decide, by decide⟩ rfl rfl (by decide)
  have m8 := m7.step 28 12 ⟨by decide, by decide⟩ rfl rfl (by decide)
  have m9 := m8.step 29 13 ⟨by decide, by decide⟩ rfl rfl (by decide)
  have m10 := m9.step 30 14 ⟨by decide, by decide⟩ rfl rfl (by decide)
  have m11 := m10.step 31 16 ⟨by decide, by decide⟩ rfl rfl (by decide)
  have m12 := m11.step 32 17 ⟨by decide, by decide⟩ rfl rfl (by decide)
  have m13 := m12.step 33 18 ⟨by decide, by decide⟩ rfl rfl (by decide)
  have m14 := m13.step 34 19 ⟨by decide, by decide⟩ rfl rfl (by decide)
  have m15 := m14.step 35 20 ⟨by decide, by decide⟩ rfl rfl (by decide)
  have m16 := m15.step 36 21 ⟨by decide, by decide⟩ rfl rfl (by decide)
  have m17 := m16.step 37 22 ⟨by decide, by decide⟩ rfl rfl (by decide)
  have m18 := m17.step 38 23 ⟨by decide, by decide⟩ rfl rfl (by decide)
  have m19 := m18.step 39 24 ⟨by decide, by decide⟩ rfl rfl (by decide)
  have m20 := m19.step 40 25 ⟨by decide, by decide⟩ rfl rfl (by decide)
  have m21 := m20.step 41 26 ⟨by decide, by decide⟩ rfl rfl (by decide)
  have m22 := m21.step 42 27 ⟨by decide, by decide⟩ rfl rfl (by decide)
  unfold k_X4_init
  refine ⟨m0.a (21, 0) (by decide : 11 ≤ 21) (Or.inr (by decide : 20 < 21)), m1.a (22, 0) (by decide : 11 ≤ 22) (Or.inr (by decide : 21 < 22)), m2.a (23, 0) (by decide : 11 ≤ 23) (Or.inr (by decide : 22 < 23)), m3.a (24, 0) (by decide : 11 ≤ 24) (Or.inr (by decide : 23 < 24)), m4.a (25, 0) (by decide : 11 ≤ 25) (Or.inr (by decide : 24 < 25)), m5.a (26, 0) (by decide : 11 ≤ 26) (Or.inr (by decide : 25 < 26)), m6.a (27, 0) (by decide : 11 ≤ 27) (Or.inr (by decide : 26 < 27)), m7.a (28, 0) (by decide : 11 ≤ 28) (Or.inr (by decide : 27 < 28)), m8.a (29, 0) (by decide : 11 ≤ 29) (Or.inr (by decide : 28 < 29)), m9.a (30, 0) (by decide : 11 ≤ 30) (Or.inr (by decide : 29 < 30)), m10.a (31, 0) (by decide : 11 ≤ 31) (Or.inr (by decide : 30 < 31)), m11.a (32, 0) (by decide : 11 ≤ 32) (Or.inr (by decide : 31 < 32)), m12.a (33, 0) (by decide : 11 ≤ 33) (Or.inr (by decide : 32 < 33)), m13.a (34, 0) (by decide : 11 ≤ 34) (Or.inr (by decide : 33 < 34)), m14.a (35, 0) (by decide : 11 ≤ 35) (Or.inr (by decide : 34 < 35)), m15.a (36, 0) (by decide : 11 ≤ 36) (Or.inr (by decide : 35 < 36)), m16.a (37, 0) (by decide : 11 ≤ 37) (Or.inr (by decide : 36 < 37)), m17.a (38, 0) (by decide : 11 ≤ 38) (Or.inr (by decide : 37 < 38)), m18.a (39, 0) (by decide : 11 ≤ 39) (Or.inr (by decide : 38 < 39)), m19.a (40, 0) (by decide : 11 ≤ 40) (Or.inr (by decide : 39 < 40)), m20.a (41, 0) (by decide : 11 ≤ 41) (Or.inr (by decide : 40 < 41)), m21.a (42, 0) (by decide : 11 ≤ 42) (Or.inr (by decide : 41 < 42)), h _ m22.z (shA_done m22.s (fun t ht k t2 he => ?_)) (fun t h1 h2 => m22.a t h1 (Or.inl h2))⟩
  rw [ht] at he ⊢
  rcases Nat.lt_or_ge k 28 with q | q
  · exact m22.r k t2 q he
  · match k, q, he with
    | 28, _, he => cases he
    | 29, _, he => cases he
    | k + 30, _, he => simp [hp_ex, hp_xl] at he
def sg0 : sg := (fun f i k => if f = 0 ∧ i = 1 ∧ k = 0 then 1 else 0, fun _ _ _ => 0)
theorem sg0_N {f i k : Nat} (h : ¬ (f = 0 ∧ i = 1)) : sg0.1 f i k = 0 := by
  unfold sg0
  exact if_neg (fun z => h ⟨z.1, z.2.1⟩)
theorem wf0 : wf sg0 := by
  have eT : nT sg0 = 0 := sg0_N (by omega)
  have eB : nB sg0 = 1 := rfl
  have eS : nS sg0 = 0 := sg0_N (by omega)
  have eZ : nZ sg0 = 0 := sg0_N (by omega)
  have eC : nC sg0 = 0 := sg0_N (by omega)
  have n : ∀ f i k, f ≠ 0 → sg0.1 f i k = 0 := fun f i k h => sg0_N (fun z => h z.1)
  refine ⟨by omega, by omega, by omega, by omega, by omega, by omega, fun i => by rw [n 1 i 0 (by omega)]; omega, fun i => by show sg0.1 1 i 1 ≤ 8; rw [n 1 i 1 (by omega)]; omega, fun i => by show sg0.1 1 i 2 ≤ 4; rw [n 1 i 2 (by omega)]; omega, fun i => by rw [n 1 i 3 (by omega)]; omega, fun i => by rw [n 1 i 4 (by omega)]; omega, fun i => by rw [n 1 i 5 (by omega)]; omega, fun i => by rw [n 1 i 4 (by omega)]; omega, fun i => by rw [n 1 i 5 (by omega)]; omega, fun i _ => n 1 i 5 (by omega), fun i k h => by rw [n 1 i 1 (by omega)] at h; omega, fun i k h => by rw [n 1 i 2 (by omega)] at h; omega, fun j => by rw [n 4 j 0 (by omega)]; omega, fun j t => by rw [n 5 j t (by omega)]; omega, fun j t => by rw [n 6 j t (by omega)]; omega, fun j t h => absurd (n 6 j t (by omega)) h, fun k h => by omega, fun k => by rw [n 8 k 0 (by omega)]; omega, ⟨fun i _ => ⟨fun k => ⟨n 1 i k (by omega), n 2 i k (by omega), n 3 i k (by omega), rfl⟩, rfl⟩, fun j _ => ⟨n 4 j 0 (by omega), fun t => ⟨n 5 j t (by omega), n 6 j t (by omega), rfl, rfl⟩⟩⟩, fun _ _ _ => rfl⟩
theorem gr0 : gr sg0 (fun _ _ => 0) := by
  have hM : ∀ o t, ¬ MD sg0 o t := fun o t ⟨k, hk, _⟩ => by
    have e : mc sg0 o = 0 := sg0_N (by omega)
    omega
  have hE : ∀ a b, ¬ tc (ed sg0) a b := fun a b z => by
    obtain ⟨c, ⟨t, h1, _⟩, _⟩ := z.head
    exact hM a t h1
  refine ⟨fun o o' t h => absurd h (hM o t), fun i => hE i i, fun t ht => ?_, fun i o hi ho => ⟨fun z => absurd (bt_zero o ho) z, fun z => absurd z (hE o i)⟩, fun _ _ => rfl⟩
  have e : nT sg0 = 0 := sg0_N (by omega)
  omega
theorem ZI.RX {x : hp_S} {b : Int32} (h : ZI x (nI 1) b) : RX x sg0 (fun _ _ => 0) := by
  refine ⟨fun f i k hk => ?_, fun f i k _ => h.2 _ _, fun f i hk => ?_⟩
  · rw [h.1]
    by_cases e : f = 0 ∧ i = 1
    · obtain ⟨rfl, rfl⟩ := e
      have hk0 : k = 0 := by unfold okN at hk; omega
      subst hk0
      rfl
    · rw [sg0_N e, nI_0, if_neg, if_neg]
      · rintro ⟨q, _⟩
        have := tXN_lt hk
        rw [q] at this
        simp at this
      · rintro ⟨q1, q2⟩
        have h1 : okN 0 1 0 := Or.inl ⟨rfl, by decide, rfl⟩
        have h2 := tXN_inj hk h1 (Prod.ext q1 q2)
        exact e ⟨h2.1, h2.2.1⟩
  · rw [h.1, if_neg, if_neg]
    · rintro ⟨q, _⟩
      have := tXC_lt hk
      rw [q] at this
      simp at this
    · rintro ⟨q1, q2⟩
      have h1 : okN 0 1 0 := Or.inl ⟨rfl, by decide, rfl⟩
      exact tXNC h1 hk (Prod.ext q1.symm q2.symm)
theorem ZI.RM {x : hp_S} {a : Int32} (h : ZI x a (nI 1)) : RM x sg0 (fun _ _ => 0) := by
  refine ⟨fun f i k hk => ?_, fun f i k _ => h.2 _ _, fun f i hk => ?_⟩
  · rw [h.1]
    by_cases e : f = 0 ∧ i = 1
    · obtain ⟨rfl, rfl⟩ := e
      have hk0 : k = 0 := by unfold okN at hk; omega
      subst hk0
      rfl
    · rw [sg0_N e, nI_0, if_neg, if_neg]
      · rintro ⟨q1, q2⟩
        have h1 : okN 0 1 0 := Or.inl ⟨rfl, by decide, rfl⟩
        have h2 := tMN_inj hk h1 (Prod.ext q1 q2)
        exact e ⟨h2.1, h2.2.1⟩
      · rintro ⟨q, _⟩
        have := tMN_ge hk
        rw [q] at this
        simp at this
  · rw [h.1, if_neg, if_neg]
    · rintro ⟨q1, q2⟩
      have h1 : okN 0 1 0 := Or.inl ⟨rfl, by decide, rfl⟩
      exact tMNC h1 hk (Prod.ext q1.symm q2.symm)
    · rintro ⟨q, _⟩
      have := tMC_ge hk
      rw [q] at this
      simp at this
theorem inv0 {x : hp_S} (hz : ZI x (nI 1) (nI 1)) (hs : hp_sh x) (ha : ∀ t : hp_T, 11 ≤ t.1 → t.1 < 20 → x.1 t = false) : Inv x := by
  have eS : nS sg0 = 0 := sg0_N (by omega)
  have eZ : nZ sg0 = 0 := sg0_N (by omega)
  have eC : nC sg0 = 0 := sg0_N (by omega)
  exact ⟨sg0, _, _, wf0, gr0, hz.RX, hz.RM, ⟨⟨fun j hj => by omega, fun j hj => by omega⟩, hs, fun j _ => ⟨ha (11, j) (by decide : 11 ≤ 11) (by decide : 11 < 20), ha (12, j) (by decide : 11 ≤ 12) (by decide : 12 < 20), ha (13, j) (by decide : 11 ≤ 13) (by decide : 13 < 20), ha (14, j) (by decide : 11 ≤ 14) (by decide : 14 < 20)⟩, fun j _ => ⟨ha (15, j) (by decide : 11 ≤ 15) (by decide : 15 < 20), ha (16, j) (by decide : 11 ≤ 16) (by decide : 16 < 20), ha (17, j) (by decide : 11 ≤ 17) (by decide : 17 < 20), ha (18, j) (by decide : 11 ≤ 18) (by decide : 18 < 20), ha (19, j) (by decide : 11 ≤ 19) (by decide : 19 < 20)⟩⟩, fun hc => by omega⟩
