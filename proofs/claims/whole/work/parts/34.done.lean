/-! A RUN'S END: what the steps of an ancestor-closed set have done, from s0 on -/
def GIV (s0 s : sg) (b : Nat) : Prop := s0.1 1 b 3 = 0 ∨ uc s0 b ≠ s0.1 1 b 4 ∨ mc s0 b ≠ s0.1 1 b 5 ∨ (∃ k, k < uc s0 b ∧ s.2 0 0 (us s0 b k) ≠ s0.2 1 b k) ∨ ∃ k, k < mc s0 b ∧ s0.2 0 0 (md s0 b k) ≠ s0.2 2 b 0
def Done (s0 : sg) (B : Nat → Prop) (s : sg) : Prop :=
  (∀ f i k, ¬ (f = 1 ∧ B i ∧ (k = 3 ∨ k = 4 ∨ k = 5)) → s.1 f i k = s0.1 f i k) ∧
  (∀ f i k, ¬ (B i ∧ ((f = 1 ∧ k < uc s0 i) ∨ (f = 2 ∧ k = 0))) → ¬ (f = 0 ∧ i = 0 ∧ ∃ b, B b ∧ MD s0 b k) → s.2 f i k = s0.2 f i k) ∧
  (∀ b, B b → GIV s0 s b → s.1 1 b 3 = 1 ∧ s.1 1 b 4 = uc s0 b ∧ s.1 1 b 5 = mc s0 b ∧ (∀ k, k < uc s0 b → s.2 1 b k = s.2 0 0 (us s0 b k)) ∧ s.2 2 b 0 = Wo (s0.1 1 b 0) (fun k => s.2 0 0 (us s0 b k)) (uc s0 b) ∧ ∀ t, MD s0 b t → s.2 0 0 t = s.2 2 b 0) ∧
  (∀ b, B b → ¬ GIV s0 s b → (∀ k, s.1 1 b k = s0.1 1 b k) ∧ (∀ k, s.2 1 b k = s0.2 1 b k) ∧ s.2 2 b 0 = s0.2 2 b 0 ∧ ∀ t, MD s0 b t → s.2 0 0 t = s0.2 0 0 t)
theorem doneq_n {s0 : sg} {B : Nat → Prop} {s : sg} (w : Done s0 B s) : ∀ f i k, ¬ (f = 1 ∧ B i ∧ (k = 3 ∨ k = 4 ∨ k = 5)) → s.1 f i k = s0.1 f i k := w.1
theorem doneq_l {s0 : sg} {B : Nat → Prop} {s : sg} (w : Done s0 B s) : ∀ f i k, ¬ (B i ∧ ((f = 1 ∧ k < uc s0 i) ∨ (f = 2 ∧ k = 0))) → ¬ (f = 0 ∧ i = 0 ∧ ∃ b, B b ∧ MD s0 b k) → s.2 f i k = s0.2 f i k := w.2.1
theorem doneq_g {s0 : sg} {B : Nat → Prop} {s : sg} (w : Done s0 B s) : ∀ b, B b → GIV s0 s b → s.1 1 b 3 = 1 ∧ s.1 1 b 4 = uc s0 b ∧ s.1 1 b 5 = mc s0 b ∧ (∀ k, k < uc s0 b → s.2 1 b k = s.2 0 0 (us s0 b k)) ∧ s.2 2 b 0 = Wo (s0.1 1 b 0) (fun k => s.2 0 0 (us s0 b k)) (uc s0 b) ∧ ∀ t, MD s0 b t → s.2 0 0 t = s.2 2 b 0 := w.2.2.1
theorem doneq_u {s0 : sg} {B : Nat → Prop} {s : sg} (w : Done s0 B s) : ∀ b, B b → ¬ GIV s0 s b → (∀ k, s.1 1 b k = s0.1 1 b k) ∧ (∀ k, s.2 1 b k = s0.2 1 b k) ∧ s.2 2 b 0 = s0.2 2 b 0 ∧ ∀ t, MD s0 b t → s.2 0 0 t = s0.2 0 0 t := w.2.2.2
def Done.n {s0 : sg} {B : Nat → Prop} {s : sg} (w : Done s0 B s) := doneq_n w
def Done.l {s0 : sg} {B : Nat → Prop} {s : sg} (w : Done s0 B s) := doneq_l w
def Done.g {s0 : sg} {B : Nat → Prop} {s : sg} (w : Done s0 B s) := doneq_g w
def Done.u {s0 : sg} {B : Nat → Prop} {s : sg} (w : Done s0 B s) := doneq_u w
section DONE
variable {s0 s s' : sg} {B : Nat → Prop}
theorem Done.start : Done s0 (fun _ => False) s0 := ⟨fun _ _ _ _ => rfl, fun _ _ _ _ _ => rfl, fun _ h => h.elim, fun _ h => h.elim⟩
theorem Done.congr {B' : Nat → Prop} (h : Done s0 B s) (e : ∀ b, B b ↔ B' b) : Done s0 B' s := by
  have : B = B' := funext (fun b => propext (e b))
  rw [← this]
  exact h
theorem Done.xuc (h : Done s0 B s) (i : Nat) : uc s i = uc s0 i := h.n 1 i 1 (by omega)
theorem Done.xmc (h : Done s0 B s) (i : Nat) : mc s i = mc s0 i := h.n 1 i 2 (by omega)
theorem Done.xkd (h : Done s0 B s) (i : Nat) : s.1 1 i 0 = s0.1 1 i 0 := h.n 1 i 0 (by omega)
theorem Done.xus (h : Done s0 B s) (i k : Nat) : us s i k = us s0 i k := h.n 2 i k (by omega)
theorem Done.xmd (h : Done s0 B s) (i k : Nat) : md s i k = md s0 i k := h.n 3 i k (by omega)
theorem Done.xUS (h : Done s0 B s) (i t : Nat) : US s i t ↔ US s0 i t := by
  unfold US
  rw [h.xuc]
  exact ⟨fun ⟨k, a, b⟩ => ⟨k, a, by rw [← h.xus]; exact b⟩, fun ⟨k, a, b⟩ => ⟨k, a, by rw [h.xus]; exact b⟩⟩
theorem Done.xMD (h : Done s0 B s) (i t : Nat) : MD s i t ↔ MD s0 i t := by
  unfold MD
  rw [h.xmc]
  exact ⟨fun ⟨k, a, b⟩ => ⟨k, a, by rw [← h.xmd]; exact b⟩, fun ⟨k, a, b⟩ => ⟨k, a, by rw [h.xmd]; exact b⟩⟩
theorem Done.xed (h : Done s0 B s) (o i : Nat) : ed s o i ↔ ed s0 o i := by
  unfold ed
  exact ⟨fun ⟨t, a, b⟩ => ⟨t, (h.xMD o t).mp a, (h.xUS i t).mp b⟩, fun ⟨t, a, b⟩ => ⟨t, (h.xMD o t).mpr a, (h.xUS i t).mpr b⟩⟩
theorem Done.xnS (h : Done s0 B s) : nS s = nS s0 := h.n 0 2 0 (by omega)
theorem Done.xnT (h : Done s0 B s) : nT s = nT s0 := h.n 0 0 0 (by omega)
/-- a value that none of the set makes is as it was -/
theorem Done.keep (h : Done s0 B s) {t : Nat} (ht : ¬ ∃ b, B b ∧ MD s0 b t) : s.2 0 0 t = s0.2 0 0 t := h.l 0 0 t (by omega) (fun q => ht q.2.2)
/-- what is done isn't off -/
theorem Done.notOff (h : Done s0 B s) {b : Nat} (hb : B b) : ¬ OFF s b := by
  intro q
  have e1 := h.xuc b
  have e2 := h.xmc b
  unfold OFF at q
  by_cases z : GIV s0 s b
  · obtain ⟨k3, k4, k5, ki, kr, km⟩ := h.g b hb z
    rcases q with q | q | q | ⟨k, hk, q⟩ | ⟨k, hk, q⟩
    · omega
    · exact q (by rw [e1, k4])
    · exact q (by rw [e2, k5])
    · rw [h.xus b k] at q
      exact q (ki k (by omega)).symm
    · rw [h.xmd b k] at q
      exact q (km _ ⟨k, by omega, rfl⟩)
  · obtain ⟨kn, ki, kr, km⟩ := h.u b hb z
    apply z
    unfold GIV
    rcases q with q | q | q | ⟨k, hk, q⟩ | ⟨k, hk, q⟩
    · exact Or.inl (by rw [← kn 3]; exact q)
    · exact Or.inr (Or.inl (by rw [← kn 4, ← e1]; exact q))
    · exact Or.inr (Or.inr (Or.inl (by rw [← kn 5, ← e2]; exact q)))
    · rw [h.xus b k, ki k] at q
      exact Or.inr (Or.inr (Or.inr (Or.inl ⟨k, by omega, q⟩)))
    · rw [h.xmd b k, kr, km _ ⟨k, by omega, rfl⟩] at q
      exact Or.inr (Or.inr (Or.inr (Or.inr ⟨k, by omega, q⟩)))
/-- who isn't in the set, but all above it are: off means that it is to be given -/
theorem Done.offGiv (h : Done s0 B s) (um : ∀ o o' t, MD s0 o t → MD s0 o' t → o = o') {i : Nat} (hi : ¬ B i) : OFF s i ↔ GIV s0 s i := by
  have e1 := h.xuc i
  have e2 := h.xmc i
  have en : ∀ k, s.1 1 i k = s0.1 1 i k := fun k => h.n 1 i k (fun q => hi q.2.1)
  have ei : ∀ k, s.2 1 i k = s0.2 1 i k := fun k => h.l 1 i k (fun q => hi q.1) (by omega)
  have er : s.2 2 i 0 = s0.2 2 i 0 := h.l 2 i 0 (fun q => hi q.1) (by omega)
  have em : ∀ k, k < mc s0 i → s.2 0 0 (md s0 i k) = s0.2 0 0 (md s0 i k) := fun k hk => h.keep (fun ⟨b, hb, hm⟩ => hi (by rw [um i b _ ⟨k, hk, rfl⟩ hm]; exact hb))
  unfold OFF GIV
  rw [en 3, en 4, en 5, e1, e2, er]
  constructor
  · rintro (q | q | q | ⟨k, hk, q⟩ | ⟨k, hk, q⟩)
    · exact Or.inl q
    · exact Or.inr (Or.inl q)
    · exact Or.inr (Or.inr (Or.inl q))
    · rw [h.xus i k, ei k] at q
      exact Or.inr (Or.inr (Or.inr (Or.inl ⟨k, hk, q⟩)))
    · rw [h.xmd i k, em k hk] at q
      exact Or.inr (Or.inr (Or.inr (Or.inr ⟨k, hk, q⟩)))
  · rintro (q | q | q | ⟨k, hk, q⟩ | ⟨k, hk, q⟩)
    · exact Or.inl q
    · exact Or.inr (Or.inl q)
    · exact Or.inr (Or.inr (Or.inl q))
    · refine Or.inr (Or.inr (Or.inr (Or.inl ⟨k, hk, ?_⟩)))
      rw [h.xus i k, ei k]
      exact q
    · refine Or.inr (Or.inr (Or.inr (Or.inr ⟨k, hk, ?_⟩)))
      rw [h.xmd i k, em k hk]
      exact q
/-- more of those that aren't off -/
theorem Done.wide (h : Done s0 B s) (um : ∀ o o' t, MD s0 o t → MD s0 o' t → o = o') {A : Nat → Prop} (hA : ∀ b, A b → ¬ OFF s b) : Done s0 (fun b => B b ∨ A b) s := by
  refine ⟨fun f i k q => h.n f i k (fun z => q ⟨z.1, Or.inl z.2.1, z.2.2⟩), fun f i k q1 q2 => h.l f i k (fun z => q1 ⟨Or.inl z.1, z.2⟩) (fun ⟨z1, z2, b, z3, z4⟩ => q2 ⟨z1, z2, b, Or.inl z3, z4⟩), fun b hb z => ?_, fun b hb z => ?_⟩
  · by_cases q : B b
    · exact h.g b q z
    · exact absurd ((h.offGiv um q).mpr z) (hA b (hb.elim (fun x => absurd x q) id))
  · by_cases q : B b
    · exact h.u b q z
    · refine ⟨fun k => h.n 1 b k (fun x => q x.2.1), fun k => h.l 1 b k (fun x => q x.1) (by omega), h.l 2 b 0 (fun x => q x.1) (by omega), fun t ht => h.keep (fun ⟨o, ho, hm⟩ => q (by rw [um b o t ht hm]; exact ho))⟩
end DONE
/-! what giving a step changes -/
section GIVE
variable {s : sg} {i : Nat}
theorem sGive_No {f i' k : Nat} (h : ¬ (f = 1 ∧ i' = i ∧ (k = 3 ∨ k = 4 ∨ k = 5))) : (sGive s i).1 f i' k = s.1 f i' k := by
  unfold sGive sRan
  rw [sL_N, sN_N, if_neg (by omega), sN_N, if_neg (by omega), sN_N, if_neg (by omega)]
  rfl
theorem sGive_N3 : (sGive s i).1 1 i 3 = 1 := by
  unfold sGive sRan
  rw [sL_N, sN_N, if_neg (by omega), sN_N, if_neg (by omega), sN_N, if_pos (by omega)]
theorem sGive_N4 : (sGive s i).1 1 i 4 = uc s i := by
  unfold sGive sRan
  rw [sL_N, sN_N, if_neg (by omega), sN_N, if_pos (by omega)]
  rfl
theorem sGive_N5 : (sGive s i).1 1 i 5 = mc s i := by
  unfold sGive sRan
  rw [sL_N, sN_N, if_pos (by omega)]
  rfl
theorem sGive_res : (sGive s i).2 2 i 0 = WV s i := by
  unfold sGive
  rw [sRan_L, if_pos ⟨rfl, rfl, rfl⟩]
theorem sGive_Lo {f i' k : Nat} (h1 : ¬ (f = 2 ∧ i' = i ∧ k = 0)) (h2 : ¬ (f = 0 ∧ i' = 0 ∧ MD s i k)) (h3 : ¬ (f = 1 ∧ i' = i ∧ k < uc s i)) : (sGive s i).2 f i' k = s.2 f i' k := by
  unfold sGive
  rw [sRan_L, if_neg h1, sOut_no (s := sInp s i (uc s i)) h2]
  unfold sInp
  exact if_neg h3
theorem sGive_in {t : Nat} (h : MD s i t) : (sGive s i).2 0 0 t = WV s i := by
  unfold sGive
  rw [sRan_L, if_neg (by omega)]
  exact sOut_in (s := sInp s i (uc s i)) ⟨rfl, rfl, h⟩
theorem sGive_no {t : Nat} (h : ¬ MD s i t) : (sGive s i).2 0 0 t = s.2 0 0 t := sGive_Lo (by omega) (fun z => h z.2.2) (by omega)
theorem sGive_inp {k : Nat} (h : k < uc s i) : (sGive s i).2 1 i k = s.2 0 0 (us s i k) := by
  unfold sGive
  rw [sRan_L, if_neg (by omega), sOut_L (by decide)]
  unfold sInp
  exact if_pos ⟨rfl, rfl, h⟩
end GIVE
section DONE
variable {s0 s s' : sg} {B : Nat → Prop} {i : Nat}
/-- one more step is given -/
theorem Done.give (h : Done s0 B s) (um : ∀ o o' t, MD s0 o t → MD s0 o' t → o = o') (ac : ∀ i, ¬ tc (ed s0) i i) (hcl : ∀ a b, ed s0 a b → B b → B a) (hi : ¬ B i) (hoff : OFF s i) : Done s0 (fun b => B b ∨ b = i) (sGive s i) ∧ GIV s0 (sGive s i) i ∧ ∀ b, B b → (GIV s0 (sGive s i) b ↔ GIV s0 s b) := by
  have e1 := h.xuc i
  have e2 := h.xmc i
  -- used values stay
  have hu : ∀ b, B b ∨ b = i → ∀ k, k < uc s0 b → (sGive s i).2 0 0 (us s0 b k) = s.2 0 0 (us s0 b k) := by
    intro b hb k hk
    refine sGive_no (fun q => ?_)
    have hed : ed s0 i b := ⟨_, (h.xMD i _).mp q, k, hk, rfl⟩
    rcases hb with hb | rfl
    · exact hi (hcl i b hed hb)
    · exact ac b (.one hed)
  have hgiv : ∀ b, B b ∨ b = i → (GIV s0 (sGive s i) b ↔ GIV s0 s b) := by
    intro b hb
    unfold GIV
    constructor
    · rintro (q | q | q | ⟨k, hk, q⟩ | q)
      · exact Or.inl q
      · exact Or.inr (Or.inl q)
      · exact Or.inr (Or.inr (Or.inl q))
      · rw [hu b hb k hk] at q
        exact Or.inr (Or.inr (Or.inr (Or.inl ⟨k, hk, q⟩)))
      · exact Or.inr (Or.inr (Or.inr (Or.inr q)))
    · rintro (q | q | q | ⟨k, hk, q⟩ | q)
      · exact Or.inl q
      · exact Or.inr (Or.inl q)
      · exact Or.inr (Or.inr (Or.inl q))
      · rw [← hu b hb k hk] at q
        exact Or.inr (Or.inr (Or.inr (Or.inl ⟨k, hk, q⟩)))
      · exact Or.inr (Or.inr (Or.inr (Or.inr q)))
  have hgi : GIV s0 (sGive s i) i := (hgiv i (Or.inr rfl)).mpr ((h.offGiv um hi).mp hoff)
  have hw : ∀ b, B b ∨ b = i → Wo (s0.1 1 b 0) (fun k => (sGive s i).2 0 0 (us s0 b k)) (uc s0 b) = Wo (s0.1 1 b 0) (fun k => s.2 0 0 (us s0 b k)) (uc s0 b) := fun b hb => Wo_congr _ (fun k hk => hu b hb k hk)
  have hmd : ∀ b, B b → ∀ t, MD s0 b t → (sGive s i).2 0 0 t = s.2 0 0 t := fun b hb t ht => sGive_no (fun q => hi (by rw [← um b i t ht ((h.xMD i t).mp q)]; exact hb))
  refine ⟨⟨fun f j k q => ?_, fun f j k q1 q2 => ?_, fun b hb z => ?_, fun b hb z => ?_⟩, hgi, fun b hb => hgiv b (Or.inl hb)⟩
  · rw [sGive_No (fun z => q ⟨z.1, Or.inr z.2.1, z.2.2⟩)]
    exact h.n f j k (fun z => q ⟨z.1, Or.inl z.2.1, z.2.2⟩)
  · rw [sGive_Lo (fun z => q1 ⟨Or.inr z.2.1, Or.inr ⟨z.1, z.2.2⟩⟩) (fun z => q2 ⟨z.1, z.2.1, i, Or.inr rfl, (h.xMD i k).mp z.2.2⟩) (fun z => q1 ⟨Or.inr z.2.1, Or.inl ⟨z.1, by rw [z.2.1, ← e1]; exact z.2.2⟩⟩)]
    exact h.l f j k (fun z => q1 ⟨Or.inl z.1, z.2⟩) (fun ⟨z1, z2, b, z3, z4⟩ => q2 ⟨z1, z2, b, Or.inl z3, z4⟩)
  · by_cases e : b = i
    · subst e
      refine ⟨sGive_N3, by rw [sGive_N4, e1], by rw [sGive_N5, e2], fun k hk => ?_, ?_, fun t ht => ?_⟩
      · rw [sGive_inp (by omega), hu b hb k hk, h.xus b k]
      · rw [hw b hb, sGive_res]
        unfold WV
        rw [h.xkd b, e1]
        exact Wo_congr _ (fun k hk => by rw [h.xus b k])
      · rw [sGive_res, sGive_in ((h.xMD b t).mpr ht)]
    · have hB : B b := hb.elim id (fun q => absurd q e)
      obtain ⟨k3, k4, k5, ki, kr, km⟩ := h.g b hB ((hgiv b hb).mp z)
      have er : (sGive s i).2 2 b 0 = s.2 2 b 0 := sGive_Lo (fun z => e z.2.1) (by omega) (by omega)
      refine ⟨?_, ?_, ?_, fun k hk => ?_, ?_, fun t ht => ?_⟩
      · rw [sGive_No (fun z => e z.2.1), k3]
      · rw [sGive_No (fun z => e z.2.1), k4]
      · rw [sGive_No (fun z => e z.2.1), k5]
      · rw [hu b hb k hk, sGive_Lo (by omega) (by omega) (fun z => e z.2.1)]
        exact ki k hk
      · rw [hw b hb, er]
        exact kr
      · rw [er, hmd b hB t ht]
        exact km t ht
  · by_cases e : b = i
    · subst e
      exact absurd hgi z
    · have hB : B b := hb.elim id (fun q => absurd q e)
      obtain ⟨kn, ki, kr, km⟩ := h.u b hB (fun q => z ((hgiv b hb).mpr q))
      refine ⟨fun k => ?_, fun k => ?_, ?_, fun t ht => ?_⟩
      · rw [sGive_No (fun z => e z.2.1), kn k]
      · rw [sGive_Lo (by omega) (by omega) (fun z => e z.2.1), ki k]
      · rw [sGive_Lo (fun z => e z.2.1) (by omega) (by omega), kr]
      · rw [hmd b hB t ht, km t ht]
/-- there is one end at most -/
theorem Done.uniq (h : Done s0 B s) (h' : Done s0 B s') (w : wf s0) (ac : ∀ i, ¬ tc (ed s0) i i) (hcl : ∀ a b, ed s0 a b → B b → B a) : s = s' := by
  have hS := w.S
  have key : ∀ n b, rk (ed s0) b < n → B b → (∀ k, k < uc s0 b → s.2 0 0 (us s0 b k) = s'.2 0 0 (us s0 b k)) ∧ (GIV s0 s b ↔ GIV s0 s' b) ∧ s.2 2 b 0 = s'.2 2 b 0 ∧ ∀ t, MD s0 b t → s.2 0 0 t = s'.2 0 0 t := by
    intro n
    induction n with
    | zero => intro b hb; omega
    | succ n ih =>
      intro b hb hB
      have hv : ∀ k, k < uc s0 b → s.2 0 0 (us s0 b k) = s'.2 0 0 (us s0 b k) := by
        intro k hk
        by_cases q : ∃ o, B o ∧ MD s0 o (us s0 b k)
        · obtain ⟨o, ho, hm⟩ := q
          have hed : ed s0 o b := ⟨_, hm, k, hk, rfl⟩
          have := w.edS hed
          have := rk_lt ac (by omega) (tc.one hed)
          exact (ih o (by omega) ho).2.2.2 _ hm
        · rw [h.keep q, h'.keep q]
      have hg : GIV s0 s b ↔ GIV s0 s' b := by
        unfold GIV
        constructor
        · rintro (q | q | q | ⟨k, hk, q⟩ | q)
          · exact Or.inl q
          · exact Or.inr (Or.inl q)
          · exact Or.inr (Or.inr (Or.inl q))
          · rw [hv k hk] at q
            exact Or.inr (Or.inr (Or.inr (Or.inl ⟨k, hk, q⟩)))
          · exact Or.inr (Or.inr (Or.inr (Or.inr q)))
        · rintro (q | q | q | ⟨k, hk, q⟩ | q)
          · exact Or.inl q
          · exact Or.inr (Or.inl q)
          · exact Or.inr (Or.inr (Or.inl q))
          · rw [← hv k hk] at q
            exact Or.inr (Or.inr (Or.inr (Or.inl ⟨k, hk, q⟩)))
          · exact Or.inr (Or.inr (Or.inr (Or.inr q)))
      refine ⟨hv, hg, ?_⟩
      by_cases z : GIV s0 s b
      · obtain ⟨_, _, _, _, kr, km⟩ := h.g b hB z
        obtain ⟨_, _, _, _, kr', km'⟩ := h'.g b hB (hg.mp z)
        have er : s.2 2 b 0 = s'.2 2 b 0 := by
          rw [kr, kr']
          exact Wo_congr _ hv
        exact ⟨er, fun t ht => by rw [km t ht, km' t ht, er]⟩
      · obtain ⟨_, _, kr, km⟩ := h.u b hB z
        obtain ⟨_, _, kr', km'⟩ := h'.u b hB (fun q => z (hg.mpr q))
        exact ⟨by rw [kr, kr'], fun t ht => by rw [km t ht, km' t ht]⟩
  have hval : ∀ t, s.2 0 0 t = s'.2 0 0 t := by
    intro t
    by_cases q : ∃ o, B o ∧ MD s0 o t
    · obtain ⟨o, ho, hm⟩ := q
      exact (key (rk (ed s0) o + 1) o (by omega) ho).2.2.2 t hm
    · rw [h.keep q, h'.keep q]
  refine Prod.ext ?_ ?_
  · funext f i k
    by_cases q : f = 1 ∧ B i ∧ (k = 3 ∨ k = 4 ∨ k = 5)
    · obtain ⟨rfl, hB, hk⟩ := q
      have hg := (key (rk (ed s0) i + 1) i (by omega) hB).2.1
      by_cases z : GIV s0 s i
      · obtain ⟨a3, a4, a5, _⟩ := h.g i hB z
        obtain ⟨b3, b4, b5, _⟩ := h'.g i hB (hg.mp z)
        rcases hk with rfl | rfl | rfl
        · rw [a3, b3]
        · rw [a4, b4]
        · rw [a5, b5]
      · rw [(h.u i hB z).1 k, (h'.u i hB (fun q => z (hg.mpr q))).1 k]
    · rw [h.n f i k q, h'.n f i k q]
  · funext f i k
    by_cases q1 : f = 0 ∧ i = 0
    · obtain ⟨rfl, rfl⟩ := q1
      exact hval k
    · by_cases q : B i ∧ ((f = 1 ∧ k < uc s0 i) ∨ (f = 2 ∧ k = 0))
      · obtain ⟨hB, hk⟩ := q
        obtain ⟨hv, hg, hrr, _⟩ := key (rk (ed s0) i + 1) i (by omega) hB
        rcases hk with ⟨rfl, hk⟩ | ⟨rfl, rfl⟩
        · by_cases z : GIV s0 s i
          · rw [(h.g i hB z).2.2.2.1 k hk, (h'.g i hB (hg.mp z)).2.2.2.1 k hk, hv k hk]
          · rw [(h.u i hB z).2.1 k, (h'.u i hB (fun q => z (hg.mpr q))).2.1 k]
        · exact hrr
      · rw [h.l f i k q (fun z => q1 ⟨z.1, z.2.1⟩), h'.l f i k q (fun z => q1 ⟨z.1, z.2.1⟩)]
end DONE
noncomputable def chg (s0 s : sg) : Nat := cnt (fun t => s0.2 0 0 t ≠ s.2 0 0 t) 24
theorem cnt_disj {p q r : Nat → Prop} : ∀ n, (∀ x, x < n → (r x ↔ p x ∨ q x)) → (∀ x, x < n → ¬ (p x ∧ q x)) → cnt r n = cnt p n + cnt q n
  | 0, _, _ => rfl
  | n + 1, h1, h2 => by
    have ih := cnt_disj n (fun x hx => h1 x (by omega)) (fun x hx => h2 x (by omega))
    unfold cnt
    rw [ih]
    have a1 := h1 n (by omega)
    have a2 := h2 n (by omega)
    by_cases hp : p n
    · rw [if_pos hp, if_neg (fun hq => a2 ⟨hp, hq⟩), if_pos (a1.mpr (Or.inl hp))]
      omega
    · by_cases hq : q n
      · rw [if_neg hp, if_pos hq, if_pos (a1.mpr (Or.inr hq))]
        omega
      · rw [if_neg hp, if_neg hq, if_neg (fun z => (a1.mp z).elim hp hq)]
        omega
theorem chg_self (s : sg) : chg s s = 0 := cnt_zero (fun t _ h => h rfl)
theorem Done.xchg {s0 s : sg} {B : Nat → Prop} {i : Nat} (h : Done s0 B s) (um : ∀ o o' t, MD s0 o t → MD s0 o' t → o = o') (hi : ¬ B i) : chg s0 (sGive s i) = chg s0 s + nOut s i (WV s i) (mc s i) := by
  refine cnt_disj 24 (fun t _ => ?_) (fun t _ ⟨z1, z2⟩ => ?_)
  · by_cases q : MD s i t
    · have e : s.2 0 0 t = s0.2 0 0 t := h.keep (fun ⟨b, hb, hm⟩ => hi (by rw [um i b t ((h.xMD i t).mp q) hm]; exact hb))
      rw [sGive_in q, e]
      exact ⟨fun z => Or.inr ⟨q, z⟩, fun z => z.elim (fun z => absurd rfl z) (fun z => z.2)⟩
    · rw [sGive_no q]
      exact ⟨Or.inl, fun z => z.elim id (fun z => absurd z.1 q)⟩
  · have q : MD s i t := z2.1
    exact z1 (h.keep (fun ⟨b, hb, hm⟩ => hi (by rw [um i b t ((h.xMD i t).mp q) hm]; exact hb))).symm
/-! the invariants stay -/
theorem wf_give {s : sg} {i : Nat} (w : wf s) (hi : i < nS s) : wf (sGive s i) := by
  have c : ∀ f i' k, f ≠ 1 → (sGive s i).1 f i' k = s.1 f i' k := fun f i' k hf => sGive_No (fun z => hf z.1)
  have c1 : ∀ i' k, k < 3 → (sGive s i).1 1 i' k = s.1 1 i' k := fun i' k hk => sGive_No (by omega)
  have eT : nT (sGive s i) = nT s := c 0 0 0 (by decide)
  have eB : nB (sGive s i) = nB s := c 0 1 0 (by decide)
  have eS : nS (sGive s i) = nS s := c 0 2 0 (by decide)
  have eZ : nZ (sGive s i) = nZ s := c 0 3 0 (by decide)
  have eC : nC (sGive s i) = nC s := c 0 4 0 (by decide)
  have euc : ∀ j, uc (sGive s i) j = uc s j := fun j => c1 j 1 (by decide)
  have emc : ∀ j, mc (sGive s i) j = mc s j := fun j => c1 j 2 (by decide)
  refine ⟨by rw [eT]; exact w.T, by rw [eB]; exact w.B1, by rw [eB]; exact w.B, by rw [eS]; exact w.S, by rw [eZ]; exact w.Z, by rw [eC]; exact w.C, fun j => by rw [c1 j 0 (by decide)]; exact w.kd j, fun j => by rw [euc]; exact w.uc j, fun j => by rw [emc]; exact w.mc j, ?_, ?_, ?_, ?_, ?_, ?_, ?_, ?_, fun j => by rw [c 4 j 0 (by decide)]; exact w.op j, fun j t => by rw [c 5 j t (by decide)]; exact w.to j t, fun j t => by rw [c 6 j t (by decide)]; exact w.wr j t, fun j t h => by rw [c 6 j t (by decide)] at h; rw [eT]; exact w.wt j t h, fun k h => by rw [eC] at h; rw [eT, c 7 k 0 (by decide)]; exact w.ct k h, fun k => by rw [c 8 k 0 (by decide)]; exact w.cs k, ?_, ?_⟩
  · intro j
    by_cases e : j = i
    · subst e
      rw [sGive_N3]
      exact Nat.le_refl _
    · rw [sGive_No (fun z => e z.2.1)]
      exact w.rn j
  · intro j
    by_cases e : j = i
    · subst e
      rw [sGive_N4]
      exact w.uc j
    · rw [sGive_No (fun z => e z.2.1)]
      exact w.ut j
  · intro j
    by_cases e : j = i
    · subst e
      rw [sGive_N5]
      exact w.mc j
    · rw [sGive_No (fun z => e z.2.1)]
      exact w.mt j
  · intro j
    rw [c1 j 1 (by decide)]
    by_cases e : j = i
    · subst e
      rw [sGive_N4]
      exact Nat.le_refl _
    · rw [sGive_No (fun z => e z.2.1)]
      exact w.utc j
  · intro j
    rw [c1 j 2 (by decide)]
    by_cases e : j = i
    · subst e
      rw [sGive_N5]
      exact Nat.le_refl _
    · rw [sGive_No (fun z => e z.2.1)]
      exact w.mtc j
  · intro j
    by_cases e : j = i
    · subst e
      rw [sGive_N3]
      intro z
      omega
    · rw [sGive_No (fun z => e z.2.1), sGive_No (fun z => e z.2.1)]
      exact w.rz j
  · intro j k h
    rw [c1 j 1 (by decide)] at h
    have : us (sGive s i) j k = us s j k := c 2 j k (by decide)
    rw [this, eT]
    exact w.us j k h
  · intro j k h
    rw [c1 j 2 (by decide)] at h
    have : md (sGive s i) j k = md s j k := c 3 j k (by decide)
    rw [this, eT]
    exact w.md j k h
  · refine ⟨fun j hj => ?_, fun j hj => ?_⟩
    · rw [eS] at hj
      have hne : j ≠ i := by omega
      obtain ⟨z1, z2⟩ := w.zs.1 j hj
      refine ⟨fun k => ⟨?_, ?_, ?_, ?_⟩, ?_⟩
      · rw [sGive_No (fun z => hne z.2.1)]
        exact (z1 k).1
      · rw [c 2 j k (by decide)]
        exact (z1 k).2.1
      · rw [c 3 j k (by decide)]
        exact (z1 k).2.2.1
      · rw [sGive_Lo (by omega) (by omega) (fun z => hne z.2.1)]
        exact (z1 k).2.2.2
      · rw [sGive_Lo (fun z => hne z.2.1) (by omega) (by omega)]
        exact z2
    · rw [eZ] at hj
      obtain ⟨z1, z2⟩ := w.zs.2 j hj
      refine ⟨by rw [c 4 j 0 (by decide)]; exact z1, fun t => ⟨by rw [c 5 j t (by decide)]; exact (z2 t).1, by rw [c 6 j t (by decide)]; exact (z2 t).2.1, ?_, ?_⟩⟩
      · rw [sGive_Lo (by omega) (by omega) (by omega)]
        exact (z2 t).2.2.1
      · rw [sGive_Lo (by omega) (by omega) (by omega)]
        exact (z2 t).2.2.2
  · intro b t ht
    rw [eT] at ht
    rw [sGive_Lo (by omega) (fun z => absurd (w.mdS z.2.2).2 (by omega)) (by omega)]
    exact w.zv b t ht
theorem gr.same {s s' : sg} {C C' : Nat → Nat → Int32} (g : gr s C) (hM : ∀ o t, MD s' o t ↔ MD s o t) (hU : ∀ o t, US s' o t ↔ US s o t) (eT : nT s' = nT s) (eS : nS s' = nS s) (c : ∀ f i, f ≠ 2 → C' f i = C f i) : gr s' C' := by
  have hed : ∀ a b, ed s' a b ↔ ed s a b := fun a b => by
    unfold ed
    exact ⟨fun ⟨t, z1, z2⟩ => ⟨t, (hM a t).mp z1, (hU b t).mp z2⟩, fun ⟨t, z1, z2⟩ => ⟨t, (hM a t).mpr z1, (hU b t).mpr z2⟩⟩
  refine ⟨fun o o' t h1 h2 => g.um o o' t ((hM o t).mp h1) ((hM o' t).mp h2), fun i z => g.ac i ((tc_congr hed).mp z), fun t ht => ?_, fun i o hi ho => ?_, fun i hi => ?_⟩
  · rw [eT] at ht
    rw [c 0 t (by decide), eS]
    rcases g.mkr t ht with ⟨k1, k2⟩ | ⟨o, k1, k2, k3⟩
    · exact Or.inl ⟨k1, fun o z => k2 o ((hM o t).mp z)⟩
    · exact Or.inr ⟨o, k1, (hM o t).mpr k2, k3⟩
  · rw [c 1 i (by decide), g.ab i o hi ho]
    exact (tc_congr hed).symm
  · rw [c 1 i (by decide)]
    exact g.zc i (by rw [eS] at hi; exact hi)
theorem sGive_MD {s : sg} {i o t : Nat} : MD (sGive s i) o t ↔ MD s o t := by
  have h1 : mc (sGive s i) o = mc s o := sGive_No (by omega)
  have h2 : ∀ k, md (sGive s i) o k = md s o k := fun k => sGive_No (by omega)
  unfold MD
  rw [h1]
  exact ⟨fun ⟨k, a, b⟩ => ⟨k, a, by rw [← h2]; exact b⟩, fun ⟨k, a, b⟩ => ⟨k, a, by rw [h2]; exact b⟩⟩
theorem sGive_US {s : sg} {i o t : Nat} : US (sGive s i) o t ↔ US s o t := by
  have h1 : uc (sGive s i) o = uc s o := sGive_No (by omega)
  have h2 : ∀ k, us (sGive s i) o k = us s o k := fun k => sGive_No (by omega)
  unfold US
  rw [h1]
  exact ⟨fun ⟨k, a, b⟩ => ⟨k, a, by rw [← h2]; exact b⟩, fun ⟨k, a, b⟩ => ⟨k, a, by rw [h2]; exact b⟩⟩
theorem gr.give {s : sg} {i : Nat} {C C' : Nat → Nat → Int32} (g : gr s C) (c : ∀ f i, f ≠ 2 → C' f i = C f i) : gr (sGive s i) C' := g.same (fun _ _ => sGive_MD) (fun _ _ => sGive_US) (sGive_No (by omega)) (sGive_No (by omega)) c
/-- a run of step i, whole -/
noncomputable def sRun (s : sg) (i : Nat) : sg := @Classical.epsilon sg ⟨s⟩ (fun s' => Done s (fun b => tcr (ed s) b i) s')
theorem sRun_eq {s s' : sg} {i : Nat} (w : wf s) (ac : ∀ i, ¬ tc (ed s) i i) (h : Done s (fun b => tcr (ed s) b i) s') : sRun s i = s' := by
  have h2 : Done s (fun b => tcr (ed s) b i) (sRun s i) := @Classical.epsilon_spec sg (fun s' => Done s (fun b => tcr (ed s) b i) s') ⟨s', h⟩
  exact h2.uniq h w ac (fun a b he hb => Or.inr ((tc.one he).cat hb))
