/-! PURE ROWS: what a step uses, makes; whether it is off by itself; where a thing is from -/
def wf (s : sg) : Prop :=
  (nT s ≤ 24) ∧
  (1 ≤ nB s) ∧
  (nB s ≤ 6) ∧
  (nS s ≤ 12) ∧
  (nZ s ≤ 40) ∧
  (nC s ≤ 24) ∧
  (∀ i, s.1 1 i 0 < 4) ∧
  (∀ i, uc s i ≤ 8) ∧
  (∀ i, mc s i ≤ 4) ∧
  (∀ i, s.1 1 i 3 ≤ 1) ∧
  (∀ i, s.1 1 i 4 ≤ 8) ∧
  (∀ i, s.1 1 i 5 ≤ 4) ∧
  (∀ i, s.1 1 i 4 ≤ s.1 1 i 1) ∧
  (∀ i, s.1 1 i 5 ≤ s.1 1 i 2) ∧
  (∀ i, s.1 1 i 3 = 0 → s.1 1 i 5 = 0) ∧
  (∀ i k, k < s.1 1 i 1 → us s i k < nT s) ∧
  (∀ i k, k < s.1 1 i 2 → md s i k < nT s) ∧
  (∀ j, s.1 4 j 0 ≤ 1) ∧
  (∀ j t, s.1 5 j t ≤ 1) ∧
  (∀ j t, s.1 6 j t ≤ 1) ∧
  (∀ j t, s.1 6 j t ≠ 0 → t < nT s) ∧
  (∀ k, k < nC s → s.1 7 k 0 < nT s) ∧
  (∀ k, s.1 8 k 0 ≤ 1) ∧
  (ZS s) ∧
  (∀ b t, nT s ≤ t → s.2 0 b t = 0)
theorem wfq_T {s : sg} (w : wf s) : nT s ≤ 24 := w.1
theorem wfq_B1 {s : sg} (w : wf s) : 1 ≤ nB s := w.2.1
theorem wfq_B {s : sg} (w : wf s) : nB s ≤ 6 := w.2.2.1
theorem wfq_S {s : sg} (w : wf s) : nS s ≤ 12 := w.2.2.2.1
theorem wfq_Z {s : sg} (w : wf s) : nZ s ≤ 40 := w.2.2.2.2.1
theorem wfq_C {s : sg} (w : wf s) : nC s ≤ 24 := w.2.2.2.2.2.1
theorem wfq_kd {s : sg} (w : wf s) : ∀ i, s.1 1 i 0 < 4 := w.2.2.2.2.2.2.1
theorem wfq_uc {s : sg} (w : wf s) : ∀ i, uc s i ≤ 8 := w.2.2.2.2.2.2.2.1
theorem wfq_mc {s : sg} (w : wf s) : ∀ i, mc s i ≤ 4 := w.2.2.2.2.2.2.2.2.1
theorem wfq_rn {s : sg} (w : wf s) : ∀ i, s.1 1 i 3 ≤ 1 := w.2.2.2.2.2.2.2.2.2.1
theorem wfq_ut {s : sg} (w : wf s) : ∀ i, s.1 1 i 4 ≤ 8 := w.2.2.2.2.2.2.2.2.2.2.1
theorem wfq_mt {s : sg} (w : wf s) : ∀ i, s.1 1 i 5 ≤ 4 := w.2.2.2.2.2.2.2.2.2.2.2.1
theorem wfq_utc {s : sg} (w : wf s) : ∀ i, s.1 1 i 4 ≤ s.1 1 i 1 := w.2.2.2.2.2.2.2.2.2.2.2.2.1
theorem wfq_mtc {s : sg} (w : wf s) : ∀ i, s.1 1 i 5 ≤ s.1 1 i 2 := w.2.2.2.2.2.2.2.2.2.2.2.2.2.1
theorem wfq_rz {s : sg} (w : wf s) : ∀ i, s.1 1 i 3 = 0 → s.1 1 i 5 = 0 := w.2.2.2.2.2.2.2.2.2.2.2.2.2.2.1
theorem wfq_us {s : sg} (w : wf s) : ∀ i k, k < s.1 1 i 1 → us s i k < nT s := w.2.2.2.2.2.2.2.2.2.2.2.2.2.2.2.1
theorem wfq_md {s : sg} (w : wf s) : ∀ i k, k < s.1 1 i 2 → md s i k < nT s := w.2.2.2.2.2.2.2.2.2.2.2.2.2.2.2.2.1
theorem wfq_op {s : sg} (w : wf s) : ∀ j, s.1 4 j 0 ≤ 1 := w.2.2.2.2.2.2.2.2.2.2.2.2.2.2.2.2.2.1
theorem wfq_to {s : sg} (w : wf s) : ∀ j t, s.1 5 j t ≤ 1 := w.2.2.2.2.2.2.2.2.2.2.2.2.2.2.2.2.2.2.1
theorem wfq_wr {s : sg} (w : wf s) : ∀ j t, s.1 6 j t ≤ 1 := w.2.2.2.2.2.2.2.2.2.2.2.2.2.2.2.2.2.2.2.1
theorem wfq_wt {s : sg} (w : wf s) : ∀ j t, s.1 6 j t ≠ 0 → t < nT s := w.2.2.2.2.2.2.2.2.2.2.2.2.2.2.2.2.2.2.2.2.1
theorem wfq_ct {s : sg} (w : wf s) : ∀ k, k < nC s → s.1 7 k 0 < nT s := w.2.2.2.2.2.2.2.2.2.2.2.2.2.2.2.2.2.2.2.2.2.1
theorem wfq_cs {s : sg} (w : wf s) : ∀ k, s.1 8 k 0 ≤ 1 := w.2.2.2.2.2.2.2.2.2.2.2.2.2.2.2.2.2.2.2.2.2.2.1
theorem wfq_zs {s : sg} (w : wf s) : ZS s := w.2.2.2.2.2.2.2.2.2.2.2.2.2.2.2.2.2.2.2.2.2.2.2.1
theorem wfq_zv {s : sg} (w : wf s) : ∀ b t, nT s ≤ t → s.2 0 b t = 0 := w.2.2.2.2.2.2.2.2.2.2.2.2.2.2.2.2.2.2.2.2.2.2.2.2
def wf.T {s : sg} (w : wf s) := wfq_T w
def wf.B1 {s : sg} (w : wf s) := wfq_B1 w
def wf.B {s : sg} (w : wf s) := wfq_B w
def wf.S {s : sg} (w : wf s) := wfq_S w
def wf.Z {s : sg} (w : wf s) := wfq_Z w
def wf.C {s : sg} (w : wf s) := wfq_C w
def wf.kd {s : sg} (w : wf s) := wfq_kd w
def wf.uc {s : sg} (w : wf s) := wfq_uc w
def wf.mc {s : sg} (w : wf s) := wfq_mc w
def wf.rn {s : sg} (w : wf s) := wfq_rn w
def wf.ut {s : sg} (w : wf s) := wfq_ut w
def wf.mt {s : sg} (w : wf s) := wfq_mt w
def wf.utc {s : sg} (w : wf s) := wfq_utc w
def wf.mtc {s : sg} (w : wf s) := wfq_mtc w
def wf.rz {s : sg} (w : wf s) := wfq_rz w
def wf.us {s : sg} (w : wf s) := wfq_us w
def wf.md {s : sg} (w : wf s) := wfq_md w
def wf.op {s : sg} (w : wf s) := wfq_op w
def wf.to {s : sg} (w : wf s) := wfq_to w
def wf.wr {s : sg} (w : wf s) := wfq_wr w
def wf.wt {s : sg} (w : wf s) := wfq_wt w
def wf.ct {s : sg} (w : wf s) := wfq_ct w
def wf.cs {s : sg} (w : wf s) := wfq_cs w
def wf.zs {s : sg} (w : wf s) := wfq_zs w
def wf.zv {s : sg} (w : wf s) := wfq_zv w
def US (s : sg) (i t : Nat) : Prop := ∃ k, k < uc s i ∧ us s i k = t
def MD (s : sg) (i t : Nat) : Prop := ∃ k, k < mc s i ∧ md s i k = t
def MT (s : sg) (i t : Nat) : Prop := ∃ k, k < s.1 1 i 5 ∧ md s i k = t
def ed (s : sg) (o i : Nat) : Prop := ∃ t, MD s o t ∧ US s i t
def OFF (s : sg) (i : Nat) : Prop := s.1 1 i 3 = 0 ∨ uc s i ≠ s.1 1 i 4 ∨ mc s i ≠ s.1 1 i 5 ∨ (∃ k, k < uc s i ∧ s.2 0 0 (us s i k) ≠ s.2 1 i k) ∨ ∃ k, k < mc s i ∧ s.2 0 0 (md s i k) ≠ s.2 2 i 0
def gr (s : sg) (C : Nat → Nat → Int32) : Prop :=
  (∀ o o' t, MD s o t → MD s o' t → o = o') ∧
  (∀ i, ¬ tc (ed s) i i) ∧
  (∀ t, t < nT s → (C 0 t = -1 ∧ ∀ o, ¬ MD s o t) ∨ ∃ o, o < nS s ∧ MD s o t ∧ C 0 t = nI o) ∧
  (∀ i o, i < 12 → o < 12 → (bt (C 1 i) o ↔ tc (ed s) o i)) ∧
  (∀ i, nS s ≤ i → C 1 i = 0)
theorem grq_um {s : sg} {C : Nat → Nat → Int32} (w : gr s C) : ∀ o o' t, MD s o t → MD s o' t → o = o' := w.1
theorem grq_ac {s : sg} {C : Nat → Nat → Int32} (w : gr s C) : ∀ i, ¬ tc (ed s) i i := w.2.1
theorem grq_mkr {s : sg} {C : Nat → Nat → Int32} (w : gr s C) : ∀ t, t < nT s → (C 0 t = -1 ∧ ∀ o, ¬ MD s o t) ∨ ∃ o, o < nS s ∧ MD s o t ∧ C 0 t = nI o := w.2.2.1
theorem grq_ab {s : sg} {C : Nat → Nat → Int32} (w : gr s C) : ∀ i o, i < 12 → o < 12 → (bt (C 1 i) o ↔ tc (ed s) o i) := w.2.2.2.1
theorem grq_zc {s : sg} {C : Nat → Nat → Int32} (w : gr s C) : ∀ i, nS s ≤ i → C 1 i = 0 := w.2.2.2.2
def gr.um {s : sg} {C : Nat → Nat → Int32} (w : gr s C) := grq_um w
def gr.ac {s : sg} {C : Nat → Nat → Int32} (w : gr s C) := grq_ac w
def gr.mkr {s : sg} {C : Nat → Nat → Int32} (w : gr s C) := grq_mkr w
def gr.ab {s : sg} {C : Nat → Nat → Int32} (w : gr s C) := grq_ab w
def gr.zc {s : sg} {C : Nat → Nat → Int32} (w : gr s C) := grq_zc w
theorem wf.usS {s : sg} (w : wf s) {i t : Nat} (h : US s i t) : i < nS s ∧ t < nT s := by
  obtain ⟨k, hk, rfl⟩ := h
  refine ⟨?_, w.us i k hk⟩
  rcases Nat.lt_or_ge i (nS s) with q | q
  · exact q
  · have := ((w.zs.1 i q).1 1).1
    have hk' : k < s.1 1 i 1 := hk
    omega
theorem wf.mdS {s : sg} (w : wf s) {i t : Nat} (h : MD s i t) : i < nS s ∧ t < nT s := by
  obtain ⟨k, hk, rfl⟩ := h
  refine ⟨?_, w.md i k hk⟩
  rcases Nat.lt_or_ge i (nS s) with q | q
  · exact q
  · have := ((w.zs.1 i q).1 2).1
    have hk' : k < s.1 1 i 2 := hk
    omega
theorem wf.edS {s : sg} (w : wf s) {o i : Nat} (h : ed s o i) : o < nS s ∧ i < nS s := by
  obtain ⟨t, h1, h2⟩ := h
  exact ⟨(w.mdS h1).1, (w.usS h2).1⟩
theorem wf.tcS {s : sg} (w : wf s) {o i : Nat} (h : tc (ed s) o i) : o < nS s ∧ i < nS s := by
  obtain ⟨b, h1, _⟩ := h.head
  obtain ⟨c, _, h2⟩ := h.last
  exact ⟨(w.edS h1).1, (w.edS h2).2⟩
/-- a flag that tells of Q -/
def fl (r : Int32) (Q : Prop) : Prop := (r = nI 1 ∧ Q) ∨ (r = nI 0 ∧ ¬ Q)
theorem fl.nar {r : Int32} {Q : Prop} (h : fl r Q) : narrow .boolean (.int r) = .int r := by
  rcases h with ⟨rfl, _⟩ | ⟨rfl, _⟩ <;> rfl
theorem fl.vn {r : Int32} {Q : Prop} (h : fl r Q) : vp_nar .boolean r = r := by
  rcases h with ⟨rfl, _⟩ | ⟨rfl, _⟩ <;> rfl
theorem fl.z {r : Int32} {Q : Prop} (h : fl r Q) : r = 0 ↔ ¬ Q := by
  rcases h with ⟨rfl, q⟩ | ⟨rfl, q⟩
  · exact ⟨fun e => absurd e (by decide), fun e => absurd q e⟩
  · exact ⟨fun _ => q, fun _ => nI_0⟩
theorem fl.congr {r : Int32} {Q Q' : Prop} (h : fl r Q) (e : Q ↔ Q') : fl r Q' := by
  rw [← propext e]
  exact h
theorem fl.bb {A B : Prop} {r : Int32} {Q : Prop} (h : fl r Q) (h0 : ¬ Q → A) (h1 : Q → B) : (r = 0 → A) ∧ (¬ r = 0 → B) := ⟨fun e => h0 (h.z.mp e), fun e => h1 (Classical.byContradiction (fun q => e (h.z.mpr q)))⟩
theorem fl.bb' {A B : Prop} {r : Int32} {Q : Prop} (h : fl r Q) (h0 : ¬ Q → A) (h1 : Q → B) : (¬ r = 0 → B) ∧ (r = 0 → A) := (h.bb h0 h1).symm
theorem fl1 {Q : Prop} (h : Q) : fl (nI 1) Q := Or.inl ⟨rfl, h⟩
theorem fl0 {Q : Prop} (h : ¬ Q) : fl (nI 0) Q := Or.inr ⟨rfl, h⟩
theorem fl_of {Q : Prop} {P : Int32 → Prop} (h : ∀ r, fl r Q → P r) : (Q → P (nI 1)) ∧ (¬ Q → P (nI 0)) := ⟨fun q => h _ (fl1 q), fun q => h _ (fl0 q)⟩
section ASK
variable {x : hp_S} {s : sg} {C : Nat → Nat → Int32}
theorem p_X2_isUsing {P : Int32 → hp_S → Prop} {i t : Nat} (hr : RX x s C) (w : wf s) (ht : t < 2 ^ 31) (h : ∀ r, fl r (US s i t) → P r x) : k_X2_isUsing P i (nI t) x := by
  have h8 := w.uc i
  have hT := w.T
  refine upE (n := uc s i) (k_X2_isUsing_2 P i (nI t)) (fun m y => y = x ∧ ∀ k, k < m → us s i k ≠ t) x ⟨rfl, fun k hk => absurd hk (by omega)⟩ ?_ ?_
  · rintro y ⟨rfl, hb⟩ m
    unfold k_X2_isUsing_2
    rw [hr.uc i]
    exact ⟨fun _ => h _ (fl0 (fun ⟨k, hk, e⟩ => hb k hk e)), fun c => absurd (nI_le (Nat.le_refl _) (by omega)) c⟩
  · rintro k y m hk ⟨rfl, hb⟩ ih
    have hu := w.us i k hk
    unfold k_X2_isUsing_2
    rw [hr.uc i, cl k (by omega), hr.us i k (by omega), nI_add k 1]
    refine ⟨fun c => absurd c (nI_ge hk (by omega)), fun _ => ⟨vp_in_nI (by omega) (by decide), fun e => ih y ⟨rfl, fun k' hk' => ?_⟩, fun e => h _ (fl1 ⟨k, hk, nI_inj (by omega) ht e⟩)⟩⟩
    by_cases q : k' = k
    · rw [q]
      exact fun z => e (by rw [z])
    · exact hb k' (by omega)
theorem p_X2_hasMade {P : Int32 → hp_S → Prop} {i t : Nat} (hr : RX x s C) (w : wf s) (ht : t < 2 ^ 31) (h : ∀ r, fl r (MT s i t) → P r x) : k_X2_hasMade P i (nI t) x := by
  have h8 := w.mt i
  have h9 := w.mtc i
  have hT := w.T
  refine upE (n := s.1 1 i 5) (k_X2_hasMade_2 P i (nI t)) (fun m y => y = x ∧ ∀ k, k < m → md s i k ≠ t) x ⟨rfl, fun k hk => absurd hk (by omega)⟩ ?_ ?_
  · rintro y ⟨rfl, hb⟩ m
    unfold k_X2_hasMade_2
    rw [hr.mt i]
    exact ⟨fun _ => h _ (fl0 (fun ⟨k, hk, e⟩ => hb k hk e)), fun c => absurd (nI_le (Nat.le_refl _) (by omega)) c⟩
  · rintro k y m hk ⟨rfl, hb⟩ ih
    have hu := w.md i k (by omega)
    unfold k_X2_hasMade_2
    rw [hr.mt i, cl k (by omega), hr.md i k (by omega), nI_add k 1]
    refine ⟨fun c => absurd c (nI_ge hk (by omega)), fun _ => ⟨vp_in_nI (by omega) (by decide), fun e => ih y ⟨rfl, fun k' hk' => ?_⟩, fun e => h _ (fl1 ⟨k, hk, nI_inj (by omega) ht e⟩)⟩⟩
    by_cases q : k' = k
    · rw [q]
      exact fun z => e (by rw [z])
    · exact hb k' (by omega)
theorem ex_step {p : Nat → Prop} {k : Nat} : (∃ k', k' < k + 1 ∧ p k') ↔ (∃ k', k' < k ∧ p k') ∨ p k := by
  constructor
  · rintro ⟨k', h1, h2⟩
    by_cases e : k' = k
    · subst e
      exact Or.inr h2
    · exact Or.inl ⟨k', by omega, h2⟩
  · rintro (⟨k', h1, h2⟩ | h)
    · exact ⟨k', by omega, h2⟩
    · exact ⟨k, by omega, h⟩
theorem p_X4_doesUse {P : Int32 → hp_S → Prop} {i t : Nat} (hr : RM x s C) (w : wf s) (hi : i < 12) (ht : t < 2 ^ 31) (h : ∀ r, fl r (US s i t) → P r x) : k_X4_doesUse P (nI i) (nI t) x := by
  have h8 := w.uc i
  have hT := w.T
  have hv : vp_in (nI i) 12 := vp_in_nI hi (by decide)
  refine upE (n := uc s i) (fun q (z : hp_S × Int32) l => k_X4_doesUse_5 P (nI i) (nI t) q z.1 z.2 l) (fun m z => z.1 = x ∧ fl z.2 (∃ k, k < m ∧ us s i k = t)) (x, nI 0) ⟨rfl, fl0 (fun ⟨k, hk, _⟩ => absurd hk (by omega))⟩ ?_ ?_
  · rintro ⟨y, l⟩ ⟨e, hf⟩ m
    dsimp only at e hf ⊢
    subst e
    unfold k_X4_doesUse_5
    rw [cl i (by omega), hr.uc i]
    exact ⟨hv, fun _ => ⟨hf.nar, h _ hf⟩, fun c => absurd (nI_le (Nat.le_refl _) (by omega)) c⟩
  · rintro k ⟨y, l⟩ m hk ⟨e, hf⟩ ih
    dsimp only at e hf ⊢
    subst e
    have hu := w.us i k hk
    unfold k_X4_doesUse_5
    rw [cl i (by omega), hr.uc i, pk_mul 8 i, nI_add (8 * i) k, cl (8 * i + k) (by omega), hr.us i k (by omega), nI_add k 1]
    refine ⟨hv, fun c => absurd c (nI_ge hk (by omega)), fun _ => hf.bb' (fun q => ⟨vp_in_nI (by omega) (by decide), fun e => ih (y, nI 0) ⟨rfl, fl0 ?_⟩, fun e => ih (y, nI 1) ⟨rfl, fl1 (ex_step.mpr (Or.inr (nI_inj (by omega) ht e)))⟩⟩) (fun q => ih (y, nI 1) ⟨rfl, fl1 (ex_step.mpr (Or.inl q))⟩)⟩
    rw [ex_step]
    rintro (z | z)
    · exact q z
    · exact e (by rw [z])
theorem p_X4_doesMake {P : Int32 → hp_S → Prop} {i t : Nat} (hr : RM x s C) (w : wf s) (hi : i < 12) (ht : t < 2 ^ 31) (h : ∀ r, fl r (MD s i t) → P r x) : k_X4_doesMake P (nI i) (nI t) x := by
  have h8 := w.mc i
  have hT := w.T
  have hv : vp_in (nI i) 12 := vp_in_nI hi (by decide)
  refine upE (n := mc s i) (fun q (z : hp_S × Int32) l => k_X4_doesMake_5 P (nI i) (nI t) q z.1 z.2 l) (fun m z => z.1 = x ∧ fl z.2 (∃ k, k < m ∧ md s i k = t)) (x, nI 0) ⟨rfl, fl0 (fun ⟨k, hk, _⟩ => absurd hk (by omega))⟩ ?_ ?_
  · rintro ⟨y, l⟩ ⟨e, hf⟩ m
    dsimp only at e hf ⊢
    subst e
    unfold k_X4_doesMake_5
    rw [cl i (by omega), hr.mc i]
    exact ⟨hv, fun _ => ⟨hf.nar, h _ hf⟩, fun c => absurd (nI_le (Nat.le_refl _) (by omega)) c⟩
  · rintro k ⟨y, l⟩ m hk ⟨e, hf⟩ ih
    dsimp only at e hf ⊢
    subst e
    have hu := w.md i k hk
    unfold k_X4_doesMake_5
    rw [cl i (by omega), hr.mc i, pk_mul 4 i, nI_add (4 * i) k, cl (4 * i + k) (by omega), hr.md i k (by omega), nI_add k 1]
    refine ⟨hv, fun c => absurd c (nI_ge hk (by omega)), fun _ => hf.bb' (fun q => ⟨vp_in_nI (by omega) (by decide), fun e => ih (y, nI 0) ⟨rfl, fl0 ?_⟩, fun e => ih (y, nI 1) ⟨rfl, fl1 (ex_step.mpr (Or.inr (nI_inj (by omega) ht e)))⟩⟩) (fun q => ih (y, nI 1) ⟨rfl, fl1 (ex_step.mpr (Or.inl q))⟩)⟩
    rw [ex_step]
    rintro (z | z)
    · exact q z
    · exact e (by rw [z])
theorem p_X4_maker {P : Int32 → hp_S → Prop} {t : Nat} (hr : RM x s C) (w : wf s) (ht : t < 2 ^ 31) (h1 : ∀ o, o < nS s → MD s o t → P (nI o) x) (h0 : (∀ o, ¬ MD s o t) → P (-1) x) : k_X4_maker P (nI t) x := by
  have hS := w.S
  refine upE (n := nS s) (fun q (z : hp_S × Int32) l => k_X4_maker_4 P (nI t) q z.1 z.2 l) (fun m z => z.1 = x ∧ ((∃ o, o < m ∧ MD s o t ∧ z.2 = nI o) ∨ (z.2 = -1 ∧ ∀ o, o < m → ¬ MD s o t))) (x, -1) ⟨rfl, Or.inr ⟨rfl, fun o ho => absurd ho (by omega)⟩⟩ ?_ ?_
  · rintro ⟨y, l⟩ ⟨e, hf⟩ m
    dsimp only at e hf ⊢
    subst e
    unfold k_X4_maker_4
    rw [hr.nS]
    refine ⟨fun _ => ?_, fun c => absurd (nI_le (Nat.le_refl _) (by omega)) c⟩
    rcases hf with ⟨o, ho, hm, rfl⟩ | ⟨rfl, hm⟩
    · exact h1 o ho hm
    · exact h0 (fun o q => hm o (w.mdS q).1 q)
  · rintro k ⟨y, l⟩ m hk ⟨e, hf⟩ ih
    dsimp only at e hf ⊢
    subst e
    unfold k_X4_maker_4
    rw [hr.nS, nI_add k 1]
    refine ⟨fun c => absurd c (nI_ge hk (by omega)), fun _ => ?_⟩
    refine p_X4_doesMake hr w (by omega) ht (fun r hfl => hfl.bb (fun q => ih (y, l) ⟨rfl, ?_⟩) (fun q => ih (y, nI k) ⟨rfl, Or.inl ⟨k, by omega, q, rfl⟩⟩))
    rcases hf with ⟨o, ho, hm, e⟩ | ⟨e, hm⟩
    · exact Or.inl ⟨o, by omega, hm, e⟩
    · refine Or.inr ⟨e, fun o ho => ?_⟩
      by_cases e2 : o = k
      · rw [e2]
        exact q
      · exact hm o (by omega)
theorem p_X4_isBehind {P : Int32 → hp_S → Prop} {i o : Nat} (hr : RM x s C) (w : wf s) (hi : i < 12) (ho : o < 12) (h : ∀ r, fl r (ed s o i) → P r x) : k_X4_isBehind P (nI i) (nI o) x := by
  have h8 := w.mc o
  have hT := w.T
  have hv : vp_in (nI o) 12 := vp_in_nI ho (by decide)
  refine upE (n := mc s o) (fun q (z : hp_S × Int32) l => k_X4_isBehind_5 P (nI i) (nI o) q z.1 z.2 l) (fun m z => z.1 = x ∧ fl z.2 (∃ k, k < m ∧ US s i (md s o k))) (x, nI 0) ⟨rfl, fl0 (fun ⟨k, hk, _⟩ => absurd hk (by omega))⟩ ?_ ?_
  · rintro ⟨y, l⟩ ⟨e, hf⟩ m
    dsimp only at e hf ⊢
    subst e
    unfold k_X4_isBehind_5
    rw [cl o (by omega), hr.mc o]
    refine ⟨hv, fun _ => ⟨hf.nar, h _ (hf.congr ⟨?_, ?_⟩)⟩, fun c => absurd (nI_le (Nat.le_refl _) (by omega)) c⟩
    · rintro ⟨k, hk, hu⟩
      exact ⟨_, ⟨k, hk, rfl⟩, hu⟩
    · rintro ⟨t, ⟨k, hk, rfl⟩, hu⟩
      exact ⟨k, hk, hu⟩
  · rintro k ⟨y, l⟩ m hk ⟨e, hf⟩ ih
    dsimp only at e hf ⊢
    subst e
    have hu := w.md o k hk
    unfold k_X4_isBehind_5
    rw [cl o (by omega), hr.mc o, pk_mul 4 o, nI_add (4 * o) k, cl (4 * o + k) (by omega), hr.md o k (by omega), nI_add k 1]
    refine ⟨hv, fun c => absurd c (nI_ge hk (by omega)), fun _ => hf.bb' (fun q => ⟨vp_in_nI (by omega) (by decide), ?_⟩) (fun q => ih (y, nI 1) ⟨rfl, fl1 (ex_step.mpr (Or.inl q))⟩)⟩
    refine p_X4_doesUse hr w hi (by omega) (fun r hfl => hfl.bb (fun q2 => ih (y, nI 0) ⟨rfl, fl0 ?_⟩) (fun q2 => ih (y, nI 1) ⟨rfl, fl1 (ex_step.mpr (Or.inr q2))⟩))
    rw [ex_step]
    rintro (z | z)
    · exact q z
    · exact q2 z
/-! off by itself -/
theorem p_X2_isOutdated {P : Int32 → hp_S → Prop} {i : Nat} (hr : RX x s C) (w : wf s) (h : ∀ r, fl r (OFF s i) → P r x) : k_X2_isOutdated P i x := by
  have h8 := w.uc i
  have h4 := w.mc i
  have hrn := w.rn i
  have hut := w.ut i
  have hmt := w.mt i
  have hT := w.T
  unfold k_X2_isOutdated
  rw [hr.uc i, hr.mc i, hr.ut i, hr.mt i, nI_eq (by omega) (by omega), nI_eq (by omega) (by omega)]
  refine bz (hr.ran i) (by omega) (fun e => h _ (fl1 (Or.inl e))) (fun e1 => ⟨fun e => h _ (fl1 (Or.inr (Or.inl e))), fun e2 => ⟨fun e3 => ?_, fun e => h _ (fl1 (Or.inr (Or.inr (Or.inl e))))⟩⟩)
  refine upE (n := uc s i) (k_X2_isOutdated_33 P i) (fun m y => y = x ∧ ∀ k, k < m → s.2 0 0 (us s i k) = s.2 1 i k) x ⟨rfl, fun k hk => absurd hk (by omega)⟩ ?_ ?_
  · rintro y ⟨rfl, hb⟩ m
    unfold k_X2_isOutdated_33
    rw [hr.uc i]
    refine ⟨fun _ => ?_, fun c => absurd (nI_le (Nat.le_refl _) (by omega)) c⟩
    refine upE (n := mc s i) (k_X2_isOutdated_69 P i _) (fun m z => z = y ∧ ∀ k, k < m → s.2 0 0 (md s i k) = s.2 2 i 0) y ⟨rfl, fun k hk => absurd hk (by omega)⟩ ?_ ?_
    · rintro z ⟨rfl, hb2⟩ m'
      unfold k_X2_isOutdated_69
      rw [hr.mc i]
      refine ⟨fun _ => h _ (fl0 ?_), fun c => absurd (nI_le (Nat.le_refl _) (by omega)) c⟩
      rintro (q | q | q | ⟨k, hk, q⟩ | ⟨k, hk, q⟩)
      · exact e1 q
      · exact q e2
      · exact q e3
      · exact q (hb k hk)
      · exact q (hb2 k hk)
    · rintro k z m' hk ⟨rfl, hb2⟩ ih
      have hu := w.md i k hk
      unfold k_X2_isOutdated_69
      rw [hr.mc i, cl k (by omega), hr.md i k (by omega), cl (md s i k) (by omega), hr.val 0 _ (by omega), hr.res i, nI_add k 1]
      refine ⟨fun c => absurd c (nI_ge hk (by omega)), fun _ => ⟨vp_in_nI (by omega) (by decide), vp_in_nI (by omega) (by decide), bl _ _ (fun e => ih z ⟨rfl, fun k' hk' => ?_⟩) (fun e => h _ (fl1 (Or.inr (Or.inr (Or.inr (Or.inr ⟨k, hk, e⟩))))))⟩⟩
      by_cases q : k' = k
      · rw [q]
        exact e
      · exact hb2 k' (by omega)
  · rintro k y m hk ⟨rfl, hb⟩ ih
    have hu := w.us i k hk
    unfold k_X2_isOutdated_33
    rw [hr.uc i, cl k (by omega), hr.us i k (by omega), cl (us s i k) (by omega), hr.val 0 _ (by omega), hr.inp i k (by omega), nI_add k 1]
    refine ⟨fun c => absurd c (nI_ge hk (by omega)), fun _ => ⟨vp_in_nI (by omega) (by decide), vp_in_nI (by omega) (by decide), vp_in_nI (by omega) (by decide), bl _ _ (fun e => ih y ⟨rfl, fun k' hk' => ?_⟩) (fun e => h _ (fl1 (Or.inr (Or.inr (Or.inr (Or.inl ⟨k, hk, e⟩))))))⟩⟩
    by_cases q : k' = k
    · rw [q]
      exact e
    · exact hb k' (by omega)
theorem p_X4_isOff {P : Int32 → hp_S → Prop} {i : Nat} (hr : RM x s C) (w : wf s) (hi : i < 12) (h : ∀ r, fl r (OFF s i) → P r x) : k_X4_isOff P (nI i) x := by
  have h8 := w.uc i
  have h4 := w.mc i
  have hrn := w.rn i
  have hut := w.ut i
  have hmt := w.mt i
  have hT := w.T
  have hv : vp_in (nI i) 12 := vp_in_nI hi (by decide)
  have last : ∀ l, fl l (s.1 1 i 3 = 0 ∨ uc s i ≠ s.1 1 i 4 ∨ mc s i ≠ s.1 1 i 5 ∨ ∃ k, k < uc s i ∧ s.2 0 0 (us s i k) ≠ s.2 1 i k) → ∃ q, k_X4_isOff_106 P (nI i) (fun x_106 l2_106 l3_106 => (narrow .boolean (.int l2_106) = .int l2_106) ∧ P l2_106 x_106) q x l (nI 0) := by
    intro l hl
    refine upE (n := mc s i) (fun q (z : hp_S × Int32) l => k_X4_isOff_106 P (nI i) (fun x_106 l2_106 l3_106 => (narrow .boolean (.int l2_106) = .int l2_106) ∧ P l2_106 x_106) q z.1 z.2 l) (fun m z => z.1 = x ∧ fl z.2 ((s.1 1 i 3 = 0 ∨ uc s i ≠ s.1 1 i 4 ∨ mc s i ≠ s.1 1 i 5 ∨ ∃ k, k < uc s i ∧ s.2 0 0 (us s i k) ≠ s.2 1 i k) ∨ ∃ k, k < m ∧ s.2 0 0 (md s i k) ≠ s.2 2 i 0)) (x, l) ⟨rfl, hl.congr ⟨Or.inl, fun q => q.elim id (fun ⟨k, hk, _⟩ => absurd hk (by omega))⟩⟩ ?_ ?_
    · rintro ⟨y, l⟩ ⟨e, hf⟩ m
      dsimp only at e hf ⊢
      subst e
      unfold k_X4_isOff_106
      rw [cl i (by omega), hr.mc i]
      refine ⟨hv, fun _ => ⟨hf.nar, h _ (hf.congr ⟨?_, ?_⟩)⟩, fun c => absurd (nI_le (Nat.le_refl _) (by omega)) c⟩
      · rintro ((q | q | q | q) | q)
        · exact Or.inl q
        · exact Or.inr (Or.inl q)
        · exact Or.inr (Or.inr (Or.inl q))
        · exact Or.inr (Or.inr (Or.inr (Or.inl q)))
        · exact Or.inr (Or.inr (Or.inr (Or.inr q)))
      · rintro (q | q | q | q | q)
        · exact Or.inl (Or.inl q)
        · exact Or.inl (Or.inr (Or.inl q))
        · exact Or.inl (Or.inr (Or.inr (Or.inl q)))
        · exact Or.inl (Or.inr (Or.inr (Or.inr q)))
        · exact Or.inr q
    · rintro k ⟨y, l⟩ m hk ⟨e, hf⟩ ih
      dsimp only at e hf ⊢
      subst e
      have hu := w.md i k hk
      unfold k_X4_isOff_106
      rw [cl i (by omega), hr.mc i, pk_mul 4 i, nI_add (4 * i) k, cl (4 * i + k) (by omega), hr.md i k (by omega), cl (md s i k) (by omega), hr.val0 _ (by omega), hr.res i, nI_add k 1]
      refine ⟨hv, fun c => absurd c (nI_ge hk (by omega)), fun _ => hf.bb' (fun q => ⟨vp_in_nI (by omega) (by decide), vp_in_nI (by omega) (by decide), hv, bl _ _ (fun e => ih (y, nI 0) ⟨rfl, fl0 ?_⟩) (fun e => ih (y, nI 1) ⟨rfl, fl1 (Or.inr (ex_step.mpr (Or.inr e)))⟩)⟩) (fun q => ⟨hf.nar, h _ ?_⟩)⟩
      · rintro (z | z)
        · exact q (Or.inl z)
        · rcases ex_step.mp z with z | z
          · exact q (Or.inr z)
          · exact z e
      · rcases hf with ⟨e1, _⟩ | ⟨_, q2⟩
        · rw [e1]
          refine fl1 ?_
          rcases q with (q | q | q | q) | ⟨k', hk', q⟩
          · exact Or.inl q
          · exact Or.inr (Or.inl q)
          · exact Or.inr (Or.inr (Or.inl q))
          · exact Or.inr (Or.inr (Or.inr (Or.inl q)))
          · exact Or.inr (Or.inr (Or.inr (Or.inr ⟨k', by omega, q⟩)))
        · exact absurd q q2
  have mid : ∀ l, fl l (s.1 1 i 3 = 0 ∨ uc s i ≠ s.1 1 i 4 ∨ mc s i ≠ s.1 1 i 5) → ∃ q, k_X4_isOff_47 P (nI i) q x l (nI 0) := by
    intro l hl
    refine upE (n := uc s i) (fun q (z : hp_S × Int32) l => k_X4_isOff_47 P (nI i) q z.1 z.2 l) (fun m z => z.1 = x ∧ fl z.2 ((s.1 1 i 3 = 0 ∨ uc s i ≠ s.1 1 i 4 ∨ mc s i ≠ s.1 1 i 5) ∨ ∃ k, k < m ∧ s.2 0 0 (us s i k) ≠ s.2 1 i k)) (x, l) ⟨rfl, hl.congr ⟨Or.inl, fun q => q.elim id (fun ⟨k, hk, _⟩ => absurd hk (by omega))⟩⟩ ?_ ?_
    · rintro ⟨y, l⟩ ⟨e, hf⟩ m
      dsimp only at e hf ⊢
      subst e
      unfold k_X4_isOff_47
      rw [cl i (by omega), hr.uc i]
      refine ⟨hv, fun _ => last l (hf.congr ⟨?_, ?_⟩), fun c => absurd (nI_le (Nat.le_refl _) (by omega)) c⟩
      · rintro ((q | q | q) | q)
        · exact Or.inl q
        · exact Or.inr (Or.inl q)
        · exact Or.inr (Or.inr (Or.inl q))
        · exact Or.inr (Or.inr (Or.inr q))
      · rintro (q | q | q | q)
        · exact Or.inl (Or.inl q)
        · exact Or.inl (Or.inr (Or.inl q))
        · exact Or.inl (Or.inr (Or.inr q))
        · exact Or.inr q
    · rintro k ⟨y, l⟩ m hk ⟨e, hf⟩ ih
      dsimp only at e hf ⊢
      subst e
      have hu := w.us i k hk
      unfold k_X4_isOff_47
      rw [cl i (by omega), hr.uc i, pk_mul 8 i, nI_add (8 * i) k, cl (8 * i + k) (by omega), hr.us i k (by omega), cl (us s i k) (by omega), hr.val0 _ (by omega), hr.inp i k (by omega), nI_add k 1]
      refine ⟨hv, fun c => absurd c (nI_ge hk (by omega)), fun _ => hf.bb' (fun q => ⟨vp_in_nI (by omega) (by decide), vp_in_nI (by omega) (by decide), vp_in_nI (by omega) (by decide), bl _ _ (fun e => ih (y, nI 0) ⟨rfl, fl0 ?_⟩) (fun e => ih (y, nI 1) ⟨rfl, fl1 (Or.inr (ex_step.mpr (Or.inr e)))⟩)⟩) (fun q => last l ?_)⟩
      · rintro (z | z)
        · exact q (Or.inl z)
        · rcases ex_step.mp z with z | z
          · exact q (Or.inr z)
          · exact z e
      · rcases hf with ⟨e1, _⟩ | ⟨_, q2⟩
        · rw [e1]
          refine fl1 ?_
          rcases q with (q | q | q) | ⟨k', hk', q⟩
          · exact Or.inl q
          · exact Or.inr (Or.inl q)
          · exact Or.inr (Or.inr (Or.inl q))
          · exact Or.inr (Or.inr (Or.inr ⟨k', by omega, q⟩))
        · exact absurd q q2
  unfold k_X4_isOff
  rw [cl i (by omega), hr.uc i, hr.mc i, hr.ut i, hr.mt i, nI_eq (by omega) (by omega), nI_eq (by omega) (by omega)]
  refine ⟨hv, bz (hr.ran i) (by omega) (fun e => mid _ (fl1 (Or.inl e))) (fun e1 => ⟨hv, hv, fun e => mid _ (fl1 (Or.inr (Or.inl (fun z => e z.symm)))), fun e2 => ⟨hv, hv, fun e3 => mid _ (fl0 ?_), fun e => mid _ (fl1 (Or.inr (Or.inr (fun z => e z.symm))))⟩⟩)⟩
  rintro (q | q | q)
  · exact e1 q
  · exact q e2.symm
  · exact q e3.symm
end ASK
