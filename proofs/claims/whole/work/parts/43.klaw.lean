/-! THE LAW: every script of at most 2560 ints -/
set_option maxHeartbeats 4000000 in
theorem p_law_18 (L : Nat) (hL : L ≤ 2560) (xs : Nat → Int32) : ∀ (n i : Nat) (x : hp_S), 1 ≤ n → L < i + 5 * n → i ≤ 2570 → Inv x → k_law_18 L xs n x (nI i)
  | 0, _, _, h, _, _, _ => absurd h (by omega)
  | n + 1, i, x, _, hn, hi, hI => by
    have e5 : ¬ (nI L - nI 5 < nI i) → i + 5 ≤ L := by
      intro c
      rcases Nat.lt_or_ge L 5 with q | q
      · have h5 : ∀ L, L < 5 → nI L - nI 5 < nI 0 := by decide
        exact absurd (Int32.lt_of_lt_of_le (h5 L q) (nI_le (by omega) (by omega))) c
      · rw [pk_sub q, nI_ltI (by omega) (by omega)] at c
        omega
    unfold k_law_18
    refine ⟨fun _ => trivial, fun c => ?_⟩
    have hlt := e5 c
    have v0 : vp_in (nI i) L := vp_in_nI (by omega) (by omega)
    rw [nI_add i 1, nI_add i 2, nI_add i 3, nI_add i 4, nI_add i 5]
    have v1 : vp_in (nI (i + 1)) L := vp_in_nI (by omega) (by omega)
    have v2 : vp_in (nI (i + 2)) L := vp_in_nI (by omega) (by omega)
    have v3 : vp_in (nI (i + 3)) L := vp_in_nI (by omega) (by omega)
    have v4 : vp_in (nI (i + 4)) L := vp_in_nI (by omega) (by omega)
    have nxt : ∀ x2, Inv x2 → k_law_18 L xs n x2 (nI (i + 5)) := fun x2 h2 => p_law_18 L hL xs n (i + 5) x2 (by omega) (by omega) (by omega) h2
    have nI4 : ∀ (r : Int32) x2, Inv x2 → ((r = r → k_law_18 L xs n x2 (nI (i + 5))) ∧ (¬ r = r → False)) := fun r x2 h2 => ⟨fun _ => nxt x2 h2, fun q => q rfl⟩
    have nL8 : ∀ (r : Int64) x2, Inv x2 → ((lg_cmp r r = 0 → k_law_18 L xs n x2 (nI (i + 5))) ∧ (¬ lg_cmp r r = 0 → False)) := fun r x2 h2 => ⟨fun _ => nxt x2 h2, fun q => q ((lc0 r r).mpr rfl)⟩
    refine ⟨v0, ⟨fun _ => ⟨v1, v2, ?_⟩, fun _ => ⟨v1, ?_⟩, fun _ => ⟨v1, v2, ?_⟩, fun _ => ⟨v1, v2, ?_⟩, fun _ => ?_, fun _ => ⟨v1, v2, ?_⟩, fun _ => ⟨v1, v2, v3, v4, ?_⟩, fun _ => ⟨v1, v2, fun z => ?_, fun z => ?_⟩, fun _ => ⟨v1, v2, ?_⟩, fun _ => ⟨v1, v2, ?_⟩, fun _ => ⟨v1, ?_⟩, fun _ => ?_, fun _ => ⟨v1, v2, ?_⟩, fun _ => ⟨v1, ?_⟩, fun _ => ⟨v1, v2, ?_⟩, fun _ => ⟨v1, v2, v3, ?_⟩⟩, fun _ _ _ _ _ _ _ _ _ _ _ _ _ _ _ _ => nxt x hI⟩
    · exact o_thing hI (fun r x1 hm => ⟨v1, v2, hm _ (nI4 r)⟩)
    · exact o_step hI (fun r x1 hm => ⟨v1, hm _ (nI4 r)⟩)
    · exact o_uses hI (fun r x1 hm => ⟨v1, v2, hm _ (nI4 r)⟩)
    · exact o_makes hI (fun r x1 hm => ⟨v1, v2, hm _ (nI4 r)⟩)
    · exact o_session hI (fun r x1 hm => hm _ (nI4 r))
    · exact o_read hI (fun r x1 hm => ⟨v1, v2, hm _ (nL8 r)⟩)
    · exact o_write hI (fun r x1 hm => ⟨v1, v2, v3, v4, hm _ (nI4 r)⟩)
    · exact o_join hI (fun r x1 hm => ⟨v1, v2, fun _ => hm _ (nI4 r), fun q => absurd z q⟩)
    · exact o_join hI (fun r x1 hm => ⟨v1, v2, fun q => absurd q z, fun _ => hm _ (nI4 r)⟩)
    · exact o_conflict hI (fun r x1 hm => ⟨v1, v2, hm _ (nL8 r)⟩)
    · exact o_settle hI (fun r x1 hm => ⟨v1, v2, hm _ (nI4 r)⟩)
    · exact o_stale hI (fun r x1 hm => ⟨v1, hm _ (nI4 r)⟩)
    · exact o_branch hI (fun r x1 hm => hm _ (nI4 r))
    · exact o_from hI (fun r x1 hm => ⟨v1, v2, hm _ (nI4 r)⟩)
    · exact o_run hI (fun r x1 hm => ⟨v1, hm _ (nI4 r)⟩)
    · exact o_value hI (fun r x1 hm => ⟨v1, v2, hm _ (nL8 r)⟩)
    · exact o_play hI (fun r x1 hm => ⟨v1, v2, v3, hm _ (nI4 r)⟩)
theorem p_law (L : Nat) (hL : L ≤ 2560) (xs : Nat → Int32) : k_law L xs := by
  refine ⟨rfl, p_X3_init (fun x4 hz hs ha => ⟨ha (20, 0) (by decide : 11 ≤ 20), p_X4_init hz hs ha (fun x12 hz2 hs2 ha2 => ⟨hs2, 513, by decide, ?_⟩)⟩)⟩
  exact p_law_18 L hL xs 513 0 x12 (by decide) (by omega) (by decide) (inv0 hz2 hs2 ha2)
/-- from the entry, for every script of at most 2560 ints, the law comes to its end with true -/
theorem whole_start {p : Program} {e : Env} {s : State} {m : MethodId} {below : List Frame} {meth : Method} {c : Code} (l : Launch) {b L : Nat} {xs : Nat → Int32} (hL : L ≤ 2560) (C0 : lw_At p s m meth c b L xs) : W p l e room_1 s m #[Value.ref b] below meth c s.heap [] 0 0 (lw_Z below #[Value.ref b] s) (entryFrame m ([Value.ref b] : List Value).toArray 4) := whole_start_open l hL C0 (p_law L hL xs)
