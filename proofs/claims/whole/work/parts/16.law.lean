def k_law_18 (L : Nat) (xs : Nat → Int32) : Nat → hp_S → Int32 → Prop
  | 0, _, _ => False
  | n + 1, x, l3 => (((nI L) - (nI 5)) < l3 → True) ∧ (¬ ((nI L) - (nI 5)) < l3 → (vp_in l3 L ∧ (((((xs l3.toNatClampNeg) &&& (nI 15)) = nI 0 → (vp_in (l3 + (nI 1)) L ∧ (vp_in (l3 + (nI 2)) L ∧ (k_X3_thing (fun r133 x133 => vp_in (l3 + (nI 1)) L ∧ (vp_in (l3 + (nI 2)) L ∧ (k_X4_thing (fun r157 x157 => (r133 = r157 → (k_law_18 L xs n x157 (l3 + nI 5))) ∧ (¬ r133 = r157 → False)) ((((xs ((l3 + (nI 1)).toNatClampNeg)).toInt64) <<< ((nI 32).toInt64 &&& 63)) ||| (((xs ((l3 + (nI 2)).toNatClampNeg)).toInt64) &&& 4294967295)) x133))) ((((xs ((l3 + (nI 1)).toNatClampNeg)).toInt64) <<< ((nI 32).toInt64 &&& 63)) ||| (((xs ((l3 + (nI 2)).toNatClampNeg)).toInt64) &&& 4294967295)) x)))) ∧ (((xs l3.toNatClampNeg) &&& (nI 15)) = nI 1 → (vp_in (l3 + (nI 1)) L ∧ (k_X3_step (fun r171 x171 => vp_in (l3 + (nI 1)) L ∧ (k_X4_step (fun r180 x180 => (r171 = r180 → (k_law_18 L xs n x180 (l3 + nI 5))) ∧ (¬ r171 = r180 → False)) (xs ((l3 + (nI 1)).toNatClampNeg)) x171)) (xs ((l3 + (nI 1)).toNatClampNeg)) x))) ∧ (((xs l3.toNatClampNeg) &&& (nI 15)) = nI 2 → (vp_in (l3 + (nI 1)) L ∧ (vp_in (l3 + (nI 2)) L ∧ (k_X3_uses (fun r199 x199 => vp_in (l3 + (nI 1)) L ∧ (vp_in (l3 + (nI 2)) L ∧ (k_X4_uses (fun r213 x213 => (r199 = r213 → (k_law_18 L xs n x213 (l3 + nI 5))) ∧ (¬ r199 = r213 → False)) (xs ((l3 + (nI 1)).toNatClampNeg)) (xs ((l3 + (nI 2)).toNatClampNeg)) x199))) (xs ((l3 + (nI 1)).toNatClampNeg)) (xs ((l3 + (nI 2)).toNatClampNeg)) x)))) ∧ (((xs l3.toNatClampNeg) &&& (nI 15)) = nI 3 → (vp_in (l3 + (nI 1)) L ∧ (vp_in (l3 + (nI 2)) L ∧ (k_X3_makes (fun r232 x232 => vp_in (l3 + (nI 1)) L ∧ (vp_in (l3 + (nI 2)) L ∧ (k_X4_makes (fun r246 x246 => (r232 = r246 → (k_law_18 L xs n x246 (l3 + nI 5))) ∧ (¬ r232 = r246 → False)) (xs ((l3 + (nI 1)).toNatClampNeg)) (xs ((l3 + (nI 2)).toNatClampNeg)) x232))) (xs ((l3 + (nI 1)).toNatClampNeg)) (xs ((l3 + (nI 2)).toNatClampNeg)) x)))) ∧ (((xs l3.toNatClampNeg) &&& (nI 15)) = nI 4 → (k_X3_session (fun r255 x255 => k_X4_session (fun r259 x259 => (r255 = r259 → (k_law_18 L xs n x259 (l3 + nI 5))) ∧ (¬ r255 = r259 → False))  x255)  x)) ∧ (((xs l3.toNatClampNeg) &&& (nI 15)) = nI 5 → (vp_in (l3 + (nI 1)) L ∧ (vp_in (l3 + (nI 2)) L ∧ (k_X3_read (fun r278 x278 => vp_in (l3 + (nI 1)) L ∧ (vp_in (l3 + (nI 2)) L ∧ (k_X4_read (fun r292 x292 => ((lg_cmp r278 r292) = 0 → (k_law_18 L xs n x292 (l3 + nI 5))) ∧ (¬ (lg_cmp r278 r292) = 0 → False)) (xs ((l3 + (nI 1)).toNatClampNeg)) (xs ((l3 + (nI 2)).toNatClampNeg)) x278))) (xs ((l3 + (nI 1)).toNatClampNeg)) (xs ((l3 + (nI 2)).toNatClampNeg)) x)))) ∧ (((xs l3.toNatClampNeg) &&& (nI 15)) = nI 6 → (vp_in (l3 + (nI 1)) L ∧ (vp_in (l3 + (nI 2)) L ∧ (vp_in (l3 + (nI 3)) L ∧ (vp_in (l3 + (nI 4)) L ∧ (k_X3_write (fun r332 x332 => vp_in (l3 + (nI 1)) L ∧ (vp_in (l3 + (nI 2)) L ∧ (vp_in (l3 + (nI 3)) L ∧ (vp_in (l3 + (nI 4)) L ∧ (k_X4_write (fun r366 x366 => (r332 = r366 → (k_law_18 L xs n x366 (l3 + nI 5))) ∧ (¬ r332 = r366 → False)) (xs ((l3 + (nI 1)).toNatClampNeg)) (xs ((l3 + (nI 2)).toNatClampNeg)) ((((xs ((l3 + (nI 3)).toNatClampNeg)).toInt64) <<< ((nI 32).toInt64 &&& 63)) ||| (((xs ((l3 + (nI 4)).toNatClampNeg)).toInt64) &&& 4294967295)) x332))))) (xs ((l3 + (nI 1)).toNatClampNeg)) (xs ((l3 + (nI 2)).toNatClampNeg)) ((((xs ((l3 + (nI 3)).toNatClampNeg)).toInt64) <<< ((nI 32).toInt64 &&& 63)) ||| (((xs ((l3 + (nI 4)).toNatClampNeg)).toInt64) &&& 4294967295)) x)))))) ∧ (((xs l3.toNatClampNeg) &&& (nI 15)) = nI 7 → (vp_in (l3 + (nI 1)) L ∧ (vp_in (l3 + (nI 2)) L ∧ (((xs ((l3 + (nI 2)).toNatClampNeg)) = 0 → (k_X3_join (fun r393 x393 => vp_in (l3 + (nI 1)) L ∧ (vp_in (l3 + (nI 2)) L ∧ (((xs ((l3 + (nI 2)).toNatClampNeg)) = 0 → (k_X4_join (fun r415 x415 => (r393 = r415 → (k_law_18 L xs n x415 (l3 + nI 5))) ∧ (¬ r393 = r415 → False)) (xs ((l3 + (nI 1)).toNatClampNeg)) (nI 0) x393)) ∧ (¬ (xs ((l3 + (nI 2)).toNatClampNeg)) = 0 → (k_X4_join (fun r415 x415 => (r393 = r415 → (k_law_18 L xs n x415 (l3 + nI 5))) ∧ (¬ r393 = r415 → False)) (xs ((l3 + (nI 1)).toNatClampNeg)) (nI 1) x393))))) (xs ((l3 + (nI 1)).toNatClampNeg)) (nI 0) x)) ∧ (¬ (xs ((l3 + (nI 2)).toNatClampNeg)) = 0 → (k_X3_join (fun r393 x393 => vp_in (l3 + (nI 1)) L ∧ (vp_in (l3 + (nI 2)) L ∧ (((xs ((l3 + (nI 2)).toNatClampNeg)) = 0 → (k_X4_join (fun r415 x415 => (r393 = r415 → (k_law_18 L xs n x415 (l3 + nI 5))) ∧ (¬ r393 = r415 → False)) (xs ((l3 + (nI 1)).toNatClampNeg)) (nI 0) x393)) ∧ (¬ (xs ((l3 + (nI 2)).toNatClampNeg)) = 0 → (k_X4_join (fun r415 x415 => (r393 = r415 → (k_law_18 L xs n x415 (l3 + nI 5))) ∧ (¬ r393 = r415 → False)) (xs ((l3 + (nI 1)).toNatClampNeg)) (nI 1) x393))))) (xs ((l3 + (nI 1)).toNatClampNeg)) (nI 1) x)))))) ∧ (((xs l3.toNatClampNeg) &&& (nI 15)) = nI 8 → (vp_in (l3 + (nI 1)) L ∧ (vp_in (l3 + (nI 2)) L ∧ (k_X3_conflict (fun r434 x434 => vp_in (l3 + (nI 1)) L ∧ (vp_in (l3 + (nI 2)) L ∧ (k_X4_conflict (fun r448 x448 => ((lg_cmp r434 r448) = 0 → (k_law_18 L xs n x448 (l3 + nI 5))) ∧ (¬ (lg_cmp r434 r448) = 0 → False)) (xs ((l3 + (nI 1)).toNatClampNeg)) (xs ((l3 + (nI 2)).toNatClampNeg)) x434))) (xs ((l3 + (nI 1)).toNatClampNeg)) (xs ((l3 + (nI 2)).toNatClampNeg)) x)))) ∧ (((xs l3.toNatClampNeg) &&& (nI 15)) = nI 9 → (vp_in (l3 + (nI 1)) L ∧ (vp_in (l3 + (nI 2)) L ∧ (k_X3_settle (fun r468 x468 => vp_in (l3 + (nI 1)) L ∧ (vp_in (l3 + (nI 2)) L ∧ (k_X4_settle (fun r482 x482 => (r468 = r482 → (k_law_18 L xs n x482 (l3 + nI 5))) ∧ (¬ r468 = r482 → False)) (xs ((l3 + (nI 1)).toNatClampNeg)) (xs ((l3 + (nI 2)).toNatClampNeg)) x468))) (xs ((l3 + (nI 1)).toNatClampNeg)) (xs ((l3 + (nI 2)).toNatClampNeg)) x)))) ∧ (((xs l3.toNatClampNeg) &&& (nI 15)) = nI 10 → (vp_in (l3 + (nI 1)) L ∧ (k_X3_stale (fun r496 x496 => vp_in (l3 + (nI 1)) L ∧ (k_X4_stale (fun r505 x505 => (r496 = r505 → (k_law_18 L xs n x505 (l3 + nI 5))) ∧ (¬ r496 = r505 → False)) (xs ((l3 + (nI 1)).toNatClampNeg)) x496)) (xs ((l3 + (nI 1)).toNatClampNeg)) x))) ∧ (((xs l3.toNatClampNeg) &&& (nI 15)) = nI 11 → (k_X3_branch (fun r514 x514 => k_X4_branch (fun r518 x518 => (r514 = r518 → (k_law_18 L xs n x518 (l3 + nI 5))) ∧ (¬ r514 = r518 → False))  x514)  x)) ∧ (((xs l3.toNatClampNeg) &&& (nI 15)) = nI 12 → (vp_in (l3 + (nI 1)) L ∧ (vp_in (l3 + (nI 2)) L ∧ (k_X3_from (fun r537 x537 => vp_in (l3 + (nI 1)) L ∧ (vp_in (l3 + (nI 2)) L ∧ (k_X4_from (fun r551 x551 => (r537 = r551 → (k_law_18 L xs n x551 (l3 + nI 5))) ∧ (¬ r537 = r551 → False)) (xs ((l3 + (nI 1)).toNatClampNeg)) (xs ((l3 + (nI 2)).toNatClampNeg)) x537))) (xs ((l3 + (nI 1)).toNatClampNeg)) (xs ((l3 + (nI 2)).toNatClampNeg)) x)))) ∧ (((xs l3.toNatClampNeg) &&& (nI 15)) = nI 13 → (vp_in (l3 + (nI 1)) L ∧ (k_X3_run (fun r565 x565 => vp_in (l3 + (nI 1)) L ∧ (k_X4_run (fun r574 x574 => (r565 = r574 → (k_law_18 L xs n x574 (l3 + nI 5))) ∧ (¬ r565 = r574 → False)) (xs ((l3 + (nI 1)).toNatClampNeg)) x565)) (xs ((l3 + (nI 1)).toNatClampNeg)) x))) ∧ (((xs l3.toNatClampNeg) &&& (nI 15)) = nI 14 → (vp_in (l3 + (nI 1)) L ∧ (vp_in (l3 + (nI 2)) L ∧ (k_X3_value (fun r593 x593 => vp_in (l3 + (nI 1)) L ∧ (vp_in (l3 + (nI 2)) L ∧ (k_X4_value (fun r607 x607 => ((lg_cmp r593 r607) = 0 → (k_law_18 L xs n x607 (l3 + nI 5))) ∧ (¬ (lg_cmp r593 r607) = 0 → False)) (xs ((l3 + (nI 1)).toNatClampNeg)) (xs ((l3 + (nI 2)).toNatClampNeg)) x593))) (xs ((l3 + (nI 1)).toNatClampNeg)) (xs ((l3 + (nI 2)).toNatClampNeg)) x)))) ∧ (((xs l3.toNatClampNeg) &&& (nI 15)) = nI 15 → (vp_in (l3 + (nI 1)) L ∧ (vp_in (l3 + (nI 2)) L ∧ (vp_in (l3 + (nI 3)) L ∧ (k_X3_play (fun r642 x642 => vp_in (l3 + (nI 1)) L ∧ (vp_in (l3 + (nI 2)) L ∧ (vp_in (l3 + (nI 3)) L ∧ (k_X4_play (fun r671 x671 => (r642 = r671 → (k_law_18 L xs n x671 (l3 + nI 5))) ∧ (¬ r642 = r671 → False)) ((((xs ((l3 + (nI 1)).toNatClampNeg)).toInt64) <<< ((nI 32).toInt64 &&& 63)) ||| (((xs ((l3 + (nI 2)).toNatClampNeg)).toInt64) &&& 4294967295)) (xs ((l3 + (nI 3)).toNatClampNeg)) x642)))) ((((xs ((l3 + (nI 1)).toNatClampNeg)).toInt64) <<< ((nI 32).toInt64 &&& 63)) ||| (((xs ((l3 + (nI 2)).toNatClampNeg)).toInt64) &&& 4294967295)) (xs ((l3 + (nI 3)).toNatClampNeg)) x)))))) ∧ (¬ ((xs l3.toNatClampNeg) &&& (nI 15)) = nI 0 → ¬ ((xs l3.toNatClampNeg) &&& (nI 15)) = nI 1 → ¬ ((xs l3.toNatClampNeg) &&& (nI 15)) = nI 2 → ¬ ((xs l3.toNatClampNeg) &&& (nI 15)) = nI 3 → ¬ ((xs l3.toNatClampNeg) &&& (nI 15)) = nI 4 → ¬ ((xs l3.toNatClampNeg) &&& (nI 15)) = nI 5 → ¬ ((xs l3.toNatClampNeg) &&& (nI 15)) = nI 6 → ¬ ((xs l3.toNatClampNeg) &&& (nI 15)) = nI 7 → ¬ ((xs l3.toNatClampNeg) &&& (nI 15)) = nI 8 → ¬ ((xs l3.toNatClampNeg) &&& (nI 15)) = nI 9 → ¬ ((xs l3.toNatClampNeg) &&& (nI 15)) = nI 10 → ¬ ((xs l3.toNatClampNeg) &&& (nI 15)) = nI 11 → ¬ ((xs l3.toNatClampNeg) &&& (nI 15)) = nI 12 → ¬ ((xs l3.toNatClampNeg) &&& (nI 15)) = nI 13 → ¬ ((xs l3.toNatClampNeg) &&& (nI 15)) = nI 14 → ¬ ((xs l3.toNatClampNeg) &&& (nI 15)) = nI 15 → (k_law_18 L xs n x (l3 + nI 5))))))
def k_law (L : Nat) (xs : Nat → Int32) : Prop := hp_x0.1 (0, 0) = false ∧ (k_X3_init (fun x4 => x4.1 (20, 0) = false ∧ (k_X4_init (fun x12 => hp_sh x12 ∧ ∃ q, q ≤ 1000 ∧ k_law_18 L xs q x12 (nI 0))  (hp_nw x4 (20, 0))))  (hp_nw hp_x0 (0, 0)))
set_option maxRecDepth 100000 in
set_option maxHeartbeats 8000000 in
theorem w_law_18 {p : Program} {l : Launch} {e : Env} {s : State} {m : MethodId} {below : List Frame} {meth : Method} {c : Code} {D : va_G} {cA : Nat → ClassId} {B0 : Nat} {ad0 : hp_T → Nat} {x0 : hp_S} {b L : Nat} {xs : Nat → Int32} (E : hp_E p s m #[Value.ref b] meth c code 4 "VersionJoinsLaw" hp_ws D cA B0) (hret : meth.sig.returnType = ret) (hB0 : B0 = s.heap.size) (hX : va_X b L xs s s.heap) (hbl : b < B0) : ∀ (n cells slots : Nat) (x : hp_S) (l3 : Int32), cells + n * 5 ≤ 600000 → slots + n * 101 ≤ 7302250 → hp_sh x → k_law_18 L xs n x l3 → hp_V p l e room_1 s m #[Value.ref b] below meth c (fun _ => lw_Z below #[Value.ref b] s) D cA B0 4 ad0 x0 cells slots x 18 [(0, aQ b), (1, aR (0, 0)), (2, aR (20, 0)), (3, aI l3)] [] := by
  intro n
  induction n with
  | zero => intro cells slots x l3 hcb hsb hs h; exact absurd h id
  | succ n ih =>
    intro cells slots x l3 hcb hsb hs h
    unfold k_law_18 at h
    refine hv_iload_n E dL_law_18 rfl 3 rfl ?_
    refine hv_aload_nQ E dL_law_19 rfl 0 rfl ?_
    refine hv_slen E hX hbl dL_law_20 ?_
    refine hv_iconst (v := nI 5) E dL_law_21 (by decide) ?_
    refine hv_isub (v := (nI L) - (nI 5)) E dL_law_22 rfl ?_
    refine hv_icmp_gt (tgt := 685) E dL_law_23 (by decide) (fun c3 => ?_) (fun c3 => ?_)
    · have h := h.1 c3
      refine hv_iconst (v := nI 1) E dL_law_685 (by decide) ?_
      exact hv_law E hret hB0 dL_law_686 (by omega) (by omega)
    · have h := h.2 c3
      refine hv_aload_nQ E dL_law_26 rfl 0 rfl ?_
      refine hv_iload_n E dL_law_27 rfl 3 rfl ?_
      obtain ⟨h4, h⟩ := h
      refine hv_sld E hX hbl h4 dL_law_28 ?_
      refine hv_bipush (v := nI 15) E dL_law_29 (by decide) ?_
      refine hv_iand (v := (xs l3.toNatClampNeg) &&& (nI 15)) E dL_law_31 rfl ?_
      obtain ⟨hsw, hdf⟩ := h
      by_cases e50 : ((xs l3.toNatClampNeg) &&& (nI 15)) = nI 0
      · have h := hsw.1 e50
        refine hv_tableIn (off := 80) (tgt := 112) E dL_law_32 (by rw [e50]; decide) (by rw [e50]; decide) (by rw [e50]; decide) (by decide) ?_
        refine hv_aload_n E dL_law_112 rfl 1 rfl ?_
        refine hv_aload_nQ E dL_law_113 rfl 0 rfl ?_
        refine hv_iload_n E dL_law_114 rfl 3 rfl ?_
        refine hv_iconst (v := nI 1) E dL_law_115 (by decide) ?_
        refine hv_iadd (v := l3 + (nI 1)) E dL_law_116 rfl ?_
        obtain ⟨h6, h⟩ := h
        refine hv_sld E hX hbl h6 dL_law_117 ?_
        refine hv_i2l (v := (xs ((l3 + (nI 1)).toNatClampNeg)).toInt64) E dL_law_118 rfl ?_
        refine hv_bipush (v := nI 32) E dL_law_119 (by decide) ?_
        refine hv_lshl (v := ((xs ((l3 + (nI 1)).toNatClampNeg)).toInt64) <<< ((nI 32).toInt64 &&& 63)) E dL_law_121 rfl ?_
        refine hv_aload_nQ E dL_law_122 rfl 0 rfl ?_
        refine hv_iload_n E dL_law_123 rfl 3 rfl ?_
        refine hv_iconst (v := nI 2) E dL_law_124 (by decide) ?_
        refine hv_iadd (v := l3 + (nI 2)) E dL_law_125 rfl ?_
        obtain ⟨h7, h⟩ := h
        refine hv_sld E hX hbl h7 dL_law_126 ?_
        refine hv_i2l (v := (xs ((l3 + (nI 2)).toNatClampNeg)).toInt64) E dL_law_127 rfl ?_
        refine hv_ldc2 (v := 4294967295) E wd_660 dL_law_128 ?_
        refine hv_land (v := ((xs ((l3 + (nI 2)).toNatClampNeg)).toInt64) &&& 4294967295) E dL_law_131 rfl ?_
        refine hv_lor (v := (((xs ((l3 + (nI 1)).toNatClampNeg)).toInt64) <<< ((nI 32).toInt64 &&& 63)) ||| (((xs ((l3 + (nI 2)).toNatClampNeg)).toInt64) &&& 4294967295)) E dL_law_132 rfl ?_
        refine hv_VI E [aL ((((xs ((l3 + (nI 1)).toNatClampNeg)).toInt64) <<< ((nI 32).toInt64 &&& 63)) ||| (((xs ((l3 + (nI 2)).toNatClampNeg)).toInt64) &&& 4294967295))] (c_X3_thing l _ ((((xs ((l3 + (nI 1)).toNatClampNeg)).toInt64) <<< ((nI 32).toInt64 &&& 63)) ||| (((xs ((l3 + (nI 2)).toNatClampNeg)).toInt64) &&& 4294967295)) x hs h) (hp_cwV 1 E wd_128 wd_129 wd_130 wd_39 wd_131 rfl rfl (by decide +kernel) ⟨(Nat.le_of_ble_eq_true rfl), (Nat.le_of_ble_eq_true rfl)⟩) rfl rfl rfl rfl (Nat.le_of_ble_eq_true rfl) dL_law_133 ⟨by show _ ≤ 600000; omega, by show _ ≤ 7302250; omega⟩ (fun r133 x133 hs h => ?_)
        refine hv_aload_n E dL_law_136 rfl 2 rfl ?_
        refine hv_aload_nQ E dL_law_137 rfl 0 rfl ?_
        refine hv_iload_n E dL_law_138 rfl 3 rfl ?_
        refine hv_iconst (v := nI 1) E dL_law_139 (by decide) ?_
        refine hv_iadd (v := l3 + (nI 1)) E dL_law_140 rfl ?_
        obtain ⟨h8, h⟩ := h
        refine hv_sld E hX hbl h8 dL_law_141 ?_
        refine hv_i2l (v := (xs ((l3 + (nI 1)).toNatClampNeg)).toInt64) E dL_law_142 rfl ?_
        refine hv_bipush (v := nI 32) E dL_law_143 (by decide) ?_
        refine hv_lshl (v := ((xs ((l3 + (nI 1)).toNatClampNeg)).toInt64) <<< ((nI 32).toInt64 &&& 63)) E dL_law_145 rfl ?_
        refine hv_aload_nQ E dL_law_146 rfl 0 rfl ?_
        refine hv_iload_n E dL_law_147 rfl 3 rfl ?_
        refine hv_iconst (v := nI 2) E dL_law_148 (by decide) ?_
        refine hv_iadd (v := l3 + (nI 2)) E dL_law_149 rfl ?_
        obtain ⟨h9, h⟩ := h
        refine hv_sld E hX hbl h9 dL_law_150 ?_
        refine hv_i2l (v := (xs ((l3 + (nI 2)).toNatClampNeg)).toInt64) E dL_law_151 rfl ?_
        refine hv_ldc2 (v := 4294967295) E wd_660 dL_law_152 ?_
        refine hv_land (v := ((xs ((l3 + (nI 2)).toNatClampNeg)).toInt64) &&& 4294967295) E dL_law_155 rfl ?_
        refine hv_lor (v := (((xs ((l3 + (nI 1)).toNatClampNeg)).toInt64) <<< ((nI 32).toInt64 &&& 63)) ||| (((xs ((l3 + (nI 2)).toNatClampNeg)).toInt64) &&& 4294967295)) E dL_law_156 rfl ?_
        refine hv_VI E [aL ((((xs ((l3 + (nI 1)).toNatClampNeg)).toInt64) <<< ((nI 32).toInt64 &&& 63)) ||| (((xs ((l3 + (nI 2)).toNatClampNeg)).toInt64) &&& 4294967295))] (c_X4_thing l _ ((((xs ((l3 + (nI 1)).toNatClampNeg)).toInt64) <<< ((nI 32).toInt64 &&& 63)) ||| (((xs ((l3 + (nI 2)).toNatClampNeg)).toInt64) &&& 4294967295)) x133 hs h) (hp_cwV 1 E wd_508 wd_509 wd_510 wd_41 wd_511 rfl rfl (by decide +kernel) ⟨(Nat.le_of_ble_eq_true rfl), (Nat.le_of_ble_eq_true rfl)⟩) rfl rfl rfl rfl (Nat.le_of_ble_eq_true rfl) dL_law_157 ⟨by show _ ≤ 600000; omega, by show _ ≤ 7302250; omega⟩ (fun r157 x157 hs h => ?_)
        refine hv_icmp_eq (tgt := 679) E dL_law_160 (by decide) (fun c10 => ?_) (fun c10 => ?_)
        · have h := h.1 c10
          refine hv_iinc (v := l3 + nI 5) (lv' := [(0, aQ b), (1, aR (0, 0)), (2, aR (20, 0))]) E 3 dL_law_679 rfl (hx_i5 _) (by decide) rfl ?_
          refine hv_goto (tgt := 18) E dL_law_682 (by decide) ?_
          refine hv_lv [1, 2, 3, 0] rfl ?_
          exact ih _ _ x157 (l3 + nI 5) (by omega) (by omega) hs h
        · have h := h.2 c10
          refine hv_iconst (v := nI 0) E dL_law_163 (by decide) ?_
          exact absurd h id
      by_cases e51 : ((xs l3.toNatClampNeg) &&& (nI 15)) = nI 1
      · have h := hsw.2.1 e51
        refine hv_tableIn (off := 133) (tgt := 165) E dL_law_32 (by rw [e51]; decide) (by rw [e51]; decide) (by rw [e51]; decide) (by decide) ?_
        refine hv_aload_n E dL_law_165 rfl 1 rfl ?_
        refine hv_aload_nQ E dL_law_166 rfl 0 rfl ?_
        refine hv_iload_n E dL_law_167 rfl 3 rfl ?_
        refine hv_iconst (v := nI 1) E dL_law_168 (by decide) ?_
        refine hv_iadd (v := l3 + (nI 1)) E dL_law_169 rfl ?_
        obtain ⟨h11, h⟩ := h
        refine hv_sld E hX hbl h11 dL_law_170 ?_
        refine hv_VI E [aI (xs ((l3 + (nI 1)).toNatClampNeg))] (c_X3_step l _ (xs ((l3 + (nI 1)).toNatClampNeg)) x hs h) (hp_cwV 1 E wd_132 wd_133 wd_134 wd_39 wd_135 rfl rfl (by decide +kernel) ⟨(Nat.le_of_ble_eq_true rfl), (Nat.le_of_ble_eq_true rfl)⟩) rfl rfl rfl rfl (Nat.le_of_ble_eq_true rfl) dL_law_171 ⟨by show _ ≤ 600000; omega, by show _ ≤ 7302250; omega⟩ (fun r171 x171 hs h => ?_)
        refine hv_aload_n E dL_law_174 rfl 2 rfl ?_
        refine hv_aload_nQ E dL_law_175 rfl 0 rfl ?_
        refine hv_iload_n E dL_law_176 rfl 3 rfl ?_
        refine hv_iconst (v := nI 1) E dL_law_177 (by decide) ?_
        refine hv_iadd (v := l3 + (nI 1)) E dL_law_178 rfl ?_
        obtain ⟨h12, h⟩ := h
        refine hv_sld E hX hbl h12 dL_law_179 ?_
        refine hv_VI E [aI (xs ((l3 + (nI 1)).toNatClampNeg))] (c_X4_step l _ (xs ((l3 + (nI 1)).toNatClampNeg)) x171 hs h) (hp_cwV 1 E wd_512 wd_513 wd_514 wd_41 wd_515 rfl rfl (by decide +kernel) ⟨(Nat.le_of_ble_eq_true rfl), (Nat.le_of_ble_eq_true rfl)⟩) rfl rfl rfl rfl (Nat.le_of_ble_eq_true rfl) dL_law_180 ⟨by show _ ≤ 600000; omega, by show _ ≤ 7302250; omega⟩ (fun r180 x180 hs h => ?_)
        refine hv_icmp_eq (tgt := 679) E dL_law_183 (by decide) (fun c13 => ?_) (fun c13 => ?_)
        · have h := h.1 c13
          refine hv_iinc (v := l3 + nI 5) (lv' := [(0, aQ b), (1, aR (0, 0)), (2, aR (20, 0))]) E 3 dL_law_679 rfl (hx_i5 _) (by decide) rfl ?_
          refine hv_goto (tgt := 18) E dL_law_682 (by decide) ?_
          refine hv_lv [1, 2, 3, 0] rfl ?_
          exact ih _ _ x180 (l3 + nI 5) (by omega) (by omega) hs h
        · have h := h.2 c13
          refine hv_iconst (v := nI 0) E dL_law_186 (by decide) ?_
          exact absurd h id
      by_cases e52 : ((xs l3.toNatClampNeg) &&& (nI 15)) = nI 2
      · have h := hsw.2.2.1 e52
        refine hv_tableIn (off := 156) (tgt := 188) E dL_law_32 (by rw [e52]; decide) (by rw [e52]; decide) (by rw [e52]; decide) (by decide) ?_
        refine hv_aload_n E dL_law_188 rfl 1 rfl ?_
        refine hv_aload_nQ E dL_law_189 rfl 0 rfl ?_
        refine hv_iload_n E dL_law_190 rfl 3 rfl ?_
        refine hv_iconst (v := nI 1) E dL_law_191 (by decide) ?_
        refine hv_iadd (v := l3 + (nI 1)) E dL_law_192 rfl ?_
        obtain ⟨h14, h⟩ := h
        refine hv_sld E hX hbl h14 dL_law_193 ?_
        refine hv_aload_nQ E dL_law_194 rfl 0 rfl ?_
        refine hv_iload_n E dL_law_195 rfl 3 rfl ?_
        refine hv_iconst (v := nI 2) E dL_law_196 (by decide) ?_
        refine hv_iadd (v := l3 + (nI 2)) E dL_law_197 rfl ?_
        obtain ⟨h15, h⟩ := h
        refine hv_sld E hX hbl h15 dL_law_198 ?_
        refine hv_VI E [aI (xs ((l3 + (nI 1)).toNatClampNeg)), aI (xs ((l3 + (nI 2)).toNatClampNeg))] (c_X3_uses l _ (xs ((l3 + (nI 1)).toNatClampNeg)) (xs ((l3 + (nI 2)).toNatClampNeg)) x hs h) (hp_cwV 2 E wd_182 wd_183 wd_184 wd_39 wd_185 rfl rfl (by decide +kernel) ⟨(Nat.le_of_ble_eq_true rfl), (Nat.le_of_ble_eq_true rfl)⟩) rfl rfl rfl rfl (Nat.le_of_ble_eq_true rfl) dL_law_199 ⟨by show _ ≤ 600000; omega, by show _ ≤ 7302250; omega⟩ (fun r199 x199 hs h => ?_)
        refine hv_aload_n E dL_law_202 rfl 2 rfl ?_
        refine hv_aload_nQ E dL_law_203 rfl 0 rfl ?_
        refine hv_iload_n E dL_law_204 rfl 3 rfl ?_
        refine hv_iconst (v := nI 1) E dL_law_205 (by decide) ?_
        refine hv_iadd (v := l3 + (nI 1)) E dL_law_206 rfl ?_
        obtain ⟨h16, h⟩ := h
        refine hv_sld E hX hbl h16 dL_law_207 ?_
        refine hv_aload_nQ E dL_law_208 rfl 0 rfl ?_
        refine hv_iload_n E dL_law_209 rfl 3 rfl ?_
        refine hv_iconst (v := nI 2) E dL_law_210 (by decide) ?_
        refine hv_iadd (v := l3 + (nI 2)) E dL_law_211 rfl ?_
        obtain ⟨h17, h⟩ := h
        refine hv_sld E hX hbl h17 dL_law_212 ?_
        refine hv_VI E [aI (xs ((l3 + (nI 1)).toNatClampNeg)), aI (xs ((l3 + (nI 2)).toNatClampNeg))] (c_X4_uses l _ (xs ((l3 + (nI 1)).toNatClampNeg)) (xs ((l3 + (nI 2)).toNatClampNeg)) x199 hs h) (hp_cwV 2 E wd_516 wd_517 wd_518 wd_41 wd_519 rfl rfl (by decide +kernel) ⟨(Nat.le_of_ble_eq_true rfl), (Nat.le_of_ble_eq_true rfl)⟩) rfl rfl rfl rfl (Nat.le_of_ble_eq_true rfl) dL_law_213 ⟨by show _ ≤ 600000; omega, by show _ ≤ 7302250; omega⟩ (fun r213 x213 hs h => ?_)
        refine hv_icmp_eq (tgt := 679) E dL_law_216 (by decide) (fun c18 => ?_) (fun c18 => ?_)
        · have h := h.1 c18
          refine hv_iinc (v := l3 + nI 5) (lv' := [(0, aQ b), (1, aR (0, 0)), (2, aR (20, 0))]) E 3 dL_law_679 rfl (hx_i5 _) (by decide) rfl ?_
          refine hv_goto (tgt := 18) E dL_law_682 (by decide) ?_
          refine hv_lv [1, 2, 3, 0] rfl ?_
          exact ih _ _ x213 (l3 + nI 5) (by omega) (by omega) hs h
        · have h := h.2 c18
          refine hv_iconst (v := nI 0) E dL_law_219 (by decide) ?_
          exact absurd h id
      by_cases e53 : ((xs l3.toNatClampNeg) &&& (nI 15)) = nI 3
      · have h := hsw.2.2.2.1 e53
        refine hv_tableIn (off := 189) (tgt := 221) E dL_law_32 (by rw [e53]; decide) (by rw [e53]; decide) (by rw [e53]; decide) (by decide) ?_
        refine hv_aload_n E dL_law_221 rfl 1 rfl ?_
        refine hv_aload_nQ E dL_law_222 rfl 0 rfl ?_
        refine hv_iload_n E dL_law_223 rfl 3 rfl ?_
        refine hv_iconst (v := nI 1) E dL_law_224 (by decide) ?_
        refine hv_iadd (v := l3 + (nI 1)) E dL_law_225 rfl ?_
        obtain ⟨h19, h⟩ := h
        refine hv_sld E hX hbl h19 dL_law_226 ?_
        refine hv_aload_nQ E dL_law_227 rfl 0 rfl ?_
        refine hv_iload_n E dL_law_228 rfl 3 rfl ?_
        refine hv_iconst (v := nI 2) E dL_law_229 (by decide) ?_
        refine hv_iadd (v := l3 + (nI 2)) E dL_law_230 rfl ?_
        obtain ⟨h20, h⟩ := h
        refine hv_sld E hX hbl h20 dL_law_231 ?_
        refine hv_VI E [aI (xs ((l3 + (nI 1)).toNatClampNeg)), aI (xs ((l3 + (nI 2)).toNatClampNeg))] (c_X3_makes l _ (xs ((l3 + (nI 1)).toNatClampNeg)) (xs ((l3 + (nI 2)).toNatClampNeg)) x hs h) (hp_cwV 2 E wd_214 wd_215 wd_216 wd_39 wd_217 rfl rfl (by decide +kernel) ⟨(Nat.le_of_ble_eq_true rfl), (Nat.le_of_ble_eq_true rfl)⟩) rfl rfl rfl rfl (Nat.le_of_ble_eq_true rfl) dL_law_232 ⟨by show _ ≤ 600000; omega, by show _ ≤ 7302250; omega⟩ (fun r232 x232 hs h => ?_)
        refine hv_aload_n E dL_law_235 rfl 2 rfl ?_
        refine hv_aload_nQ E dL_law_236 rfl 0 rfl ?_
        refine hv_iload_n E dL_law_237 rfl 3 rfl ?_
        refine hv_iconst (v := nI 1) E dL_law_238 (by decide) ?_
        refine hv_iadd (v := l3 + (nI 1)) E dL_law_239 rfl ?_
        obtain ⟨h21, h⟩ := h
        refine hv_sld E hX hbl h21 dL_law_240 ?_
        refine hv_aload_nQ E dL_law_241 rfl 0 rfl ?_
        refine hv_iload_n E dL_law_242 rfl 3 rfl ?_
        refine hv_iconst (v := nI 2) E dL_law_243 (by decide) ?_
        refine hv_iadd (v := l3 + (nI 2)) E dL_law_244 rfl ?_
        obtain ⟨h22, h⟩ := h
        refine hv_sld E hX hbl h22 dL_law_245 ?_
        refine hv_VI E [aI (xs ((l3 + (nI 1)).toNatClampNeg)), aI (xs ((l3 + (nI 2)).toNatClampNeg))] (c_X4_makes l _ (xs ((l3 + (nI 1)).toNatClampNeg)) (xs ((l3 + (nI 2)).toNatClampNeg)) x232 hs h) (hp_cwV 2 E wd_552 wd_553 wd_554 wd_41 wd_555 rfl rfl (by decide +kernel) ⟨(Nat.le_of_ble_eq_true rfl), (Nat.le_of_ble_eq_true rfl)⟩) rfl rfl rfl rfl (Nat.le_of_ble_eq_true rfl) dL_law_246 ⟨by show _ ≤ 600000; omega, by show _ ≤ 7302250; omega⟩ (fun r246 x246 hs h => ?_)
        refine hv_icmp_eq (tgt := 679) E dL_law_249 (by decide) (fun c23 => ?_) (fun c23 => ?_)
        · have h := h.1 c23
          refine hv_iinc (v := l3 + nI 5) (lv' := [(0, aQ b), (1, aR (0, 0)), (2, aR (20, 0))]) E 3 dL_law_679 rfl (hx_i5 _) (by decide) rfl ?_
          refine hv_goto (tgt := 18) E dL_law_682 (by decide) ?_
          refine hv_lv [1, 2, 3, 0] rfl ?_
          exact ih _ _ x246 (l3 + nI 5) (by omega) (by omega) hs h
        · have h := h.2 c23
          refine hv_iconst (v := nI 0) E dL_law_252 (by decide) ?_
          exact absurd h id
      by_cases e54 : ((xs l3.toNatClampNeg) &&& (nI 15)) = nI 4
      · have h := hsw.2.2.2.2.1 e54
        refine hv_tableIn (off := 222) (tgt := 254) E dL_law_32 (by rw [e54]; decide) (by rw [e54]; decide) (by rw [e54]; decide) (by decide) ?_
        refine hv_aload_n E dL_law_254 rfl 1 rfl ?_
        refine hv_VI E [] (c_X3_session l _  x hs h) (hp_cwV 0 E wd_226 wd_227 wd_228 wd_39 wd_229 rfl rfl (by decide +kernel) ⟨(Nat.le_of_ble_eq_true rfl), (Nat.le_of_ble_eq_true rfl)⟩) rfl rfl rfl rfl (Nat.le_of_ble_eq_true rfl) dL_law_255 ⟨by show _ ≤ 600000; omega, by show _ ≤ 7302250; omega⟩ (fun r255 x255 hs h => ?_)
        refine hv_aload_n E dL_law_258 rfl 2 rfl ?_
        refine hv_VI E [] (c_X4_session l _  x255 hs h) (hp_cwV 0 E wd_556 wd_557 wd_558 wd_41 wd_559 rfl rfl (by decide +kernel) ⟨(Nat.le_of_ble_eq_true rfl), (Nat.le_of_ble_eq_true rfl)⟩) rfl rfl rfl rfl (Nat.le_of_ble_eq_true rfl) dL_law_259 ⟨by show _ ≤ 600000; omega, by show _ ≤ 7302250; omega⟩ (fun r259 x259 hs h => ?_)
        refine hv_icmp_eq (tgt := 679) E dL_law_262 (by decide) (fun c24 => ?_) (fun c24 => ?_)
        · have h := h.1 c24
          refine hv_iinc (v := l3 + nI 5) (lv' := [(0, aQ b), (1, aR (0, 0)), (2, aR (20, 0))]) E 3 dL_law_679 rfl (hx_i5 _) (by decide) rfl ?_
          refine hv_goto (tgt := 18) E dL_law_682 (by decide) ?_
          refine hv_lv [1, 2, 3, 0] rfl ?_
          exact ih _ _ x259 (l3 + nI 5) (by omega) (by omega) hs h
        · have h := h.2 c24
          refine hv_iconst (v := nI 0) E dL_law_265 (by decide) ?_
          exact absurd h id
      by_cases e55 : ((xs l3.toNatClampNeg) &&& (nI 15)) = nI 5
      · have h := hsw.2.2.2.2.2.1 e55
        refine hv_tableIn (off := 235) (tgt := 267) E dL_law_32 (by rw [e55]; decide) (by rw [e55]; decide) (by rw [e55]; decide) (by decide) ?_
        refine hv_aload_n E dL_law_267 rfl 1 rfl ?_
        refine hv_aload_nQ E dL_law_268 rfl 0 rfl ?_
        refine hv_iload_n E dL_law_269 rfl 3 rfl ?_
        refine hv_iconst (v := nI 1) E dL_law_270 (by decide) ?_
        refine hv_iadd (v := l3 + (nI 1)) E dL_law_271 rfl ?_
        obtain ⟨h25, h⟩ := h
        refine hv_sld E hX hbl h25 dL_law_272 ?_
        refine hv_aload_nQ E dL_law_273 rfl 0 rfl ?_
        refine hv_iload_n E dL_law_274 rfl 3 rfl ?_
        refine hv_iconst (v := nI 2) E dL_law_275 (by decide) ?_
        refine hv_iadd (v := l3 + (nI 2)) E dL_law_276 rfl ?_
        obtain ⟨h26, h⟩ := h
        refine hv_sld E hX hbl h26 dL_law_277 ?_
        refine hv_VL E [aI (xs ((l3 + (nI 1)).toNatClampNeg)), aI (xs ((l3 + (nI 2)).toNatClampNeg))] (c_X3_read l _ (xs ((l3 + (nI 1)).toNatClampNeg)) (xs ((l3 + (nI 2)).toNatClampNeg)) x hs h) (hp_cwV 2 E wd_254 wd_255 wd_256 wd_39 wd_257 rfl rfl (by decide +kernel) ⟨(Nat.le_of_ble_eq_true rfl), (Nat.le_of_ble_eq_true rfl)⟩) rfl rfl rfl rfl (Nat.le_of_ble_eq_true rfl) dL_law_278 ⟨by show _ ≤ 600000; omega, by show _ ≤ 7302250; omega⟩ (fun r278 x278 hs h => ?_)
        refine hv_aload_n E dL_law_281 rfl 2 rfl ?_
        refine hv_aload_nQ E dL_law_282 rfl 0 rfl ?_
        refine hv_iload_n E dL_law_283 rfl 3 rfl ?_
        refine hv_iconst (v := nI 1) E dL_law_284 (by decide) ?_
        refine hv_iadd (v := l3 + (nI 1)) E dL_law_285 rfl ?_
        obtain ⟨h27, h⟩ := h
        refine hv_sld E hX hbl h27 dL_law_286 ?_
        refine hv_aload_nQ E dL_law_287 rfl 0 rfl ?_
        refine hv_iload_n E dL_law_288 rfl 3 rfl ?_
        refine hv_iconst (v := nI 2) E dL_law_289 (by decide) ?_
        refine hv_iadd (v := l3 + (nI 2)) E dL_law_290 rfl ?_
        obtain ⟨h28, h⟩ := h
        refine hv_sld E hX hbl h28 dL_law_291 ?_
        refine hv_VL E [aI (xs ((l3 + (nI 1)).toNatClampNeg)), aI (xs ((l3 + (nI 2)).toNatClampNeg))] (c_X4_read l _ (xs ((l3 + (nI 1)).toNatClampNeg)) (xs ((l3 + (nI 2)).toNatClampNeg)) x278 hs h) (hp_cwV 2 E wd_560 wd_561 wd_562 wd_41 wd_563 rfl rfl (by decide +kernel) ⟨(Nat.le_of_ble_eq_true rfl), (Nat.le_of_ble_eq_true rfl)⟩) rfl rfl rfl rfl (Nat.le_of_ble_eq_true rfl) dL_law_292 ⟨by show _ ≤ 600000; omega, by show _ ≤ 7302250; omega⟩ (fun r292 x292 hs h => ?_)
        refine hv_lcmp E dL_law_295 ?_
        refine hv_if_eq (tgt := 679) E dL_law_296 (by decide) (fun c29 => ?_) (fun c29 => ?_)
        · have h := h.1 c29
          refine hv_iinc (v := l3 + nI 5) (lv' := [(0, aQ b), (1, aR (0, 0)), (2, aR (20, 0))]) E 3 dL_law_679 rfl (hx_i5 _) (by decide) rfl ?_
          refine hv_goto (tgt := 18) E dL_law_682 (by decide) ?_
          refine hv_lv [1, 2, 3, 0] rfl ?_
          exact ih _ _ x292 (l3 + nI 5) (by omega) (by omega) hs h
        · have h := h.2 c29
          refine hv_iconst (v := nI 0) E dL_law_299 (by decide) ?_
          exact absurd h id
      by_cases e56 : ((xs l3.toNatClampNeg) &&& (nI 15)) = nI 6
      · have h := hsw.2.2.2.2.2.2.1 e56
        refine hv_tableIn (off := 269) (tgt := 301) E dL_law_32 (by rw [e56]; decide) (by rw [e56]; decide) (by rw [e56]; decide) (by decide) ?_
        refine hv_aload_n E dL_law_301 rfl 1 rfl ?_
        refine hv_aload_nQ E dL_law_302 rfl 0 rfl ?_
        refine hv_iload_n E dL_law_303 rfl 3 rfl ?_
        refine hv_iconst (v := nI 1) E dL_law_304 (by decide) ?_
        refine hv_iadd (v := l3 + (nI 1)) E dL_law_305 rfl ?_
        obtain ⟨h30, h⟩ := h
        refine hv_sld E hX hbl h30 dL_law_306 ?_
        refine hv_aload_nQ E dL_law_307 rfl 0 rfl ?_
        refine hv_iload_n E dL_law_308 rfl 3 rfl ?_
        refine hv_iconst (v := nI 2) E dL_law_309 (by decide) ?_
        refine hv_iadd (v := l3 + (nI 2)) E dL_law_310 rfl ?_
        obtain ⟨h31, h⟩ := h
        refine hv_sld E hX hbl h31 dL_law_311 ?_
        refine hv_aload_nQ E dL_law_312 rfl 0 rfl ?_
        refine hv_iload_n E dL_law_313 rfl 3 rfl ?_
        refine hv_iconst (v := nI 3) E dL_law_314 (by decide) ?_
        refine hv_iadd (v := l3 + (nI 3)) E dL_law_315 rfl ?_
        obtain ⟨h32, h⟩ := h
        refine hv_sld E hX hbl h32 dL_law_316 ?_
        refine hv_i2l (v := (xs ((l3 + (nI 3)).toNatClampNeg)).toInt64) E dL_law_317 rfl ?_
        refine hv_bipush (v := nI 32) E dL_law_318 (by decide) ?_
        refine hv_lshl (v := ((xs ((l3 + (nI 3)).toNatClampNeg)).toInt64) <<< ((nI 32).toInt64 &&& 63)) E dL_law_320 rfl ?_
        refine hv_aload_nQ E dL_law_321 rfl 0 rfl ?_
        refine hv_iload_n E dL_law_322 rfl 3 rfl ?_
        refine hv_iconst (v := nI 4) E dL_law_323 (by decide) ?_
        refine hv_iadd (v := l3 + (nI 4)) E dL_law_324 rfl ?_
        obtain ⟨h33, h⟩ := h
        refine hv_sld E hX hbl h33 dL_law_325 ?_
        refine hv_i2l (v := (xs ((l3 + (nI 4)).toNatClampNeg)).toInt64) E dL_law_326 rfl ?_
        refine hv_ldc2 (v := 4294967295) E wd_660 dL_law_327 ?_
        refine hv_land (v := ((xs ((l3 + (nI 4)).toNatClampNeg)).toInt64) &&& 4294967295) E dL_law_330 rfl ?_
        refine hv_lor (v := (((xs ((l3 + (nI 3)).toNatClampNeg)).toInt64) <<< ((nI 32).toInt64 &&& 63)) ||| (((xs ((l3 + (nI 4)).toNatClampNeg)).toInt64) &&& 4294967295)) E dL_law_331 rfl ?_
        refine hv_VI E [aI (xs ((l3 + (nI 1)).toNatClampNeg)), aI (xs ((l3 + (nI 2)).toNatClampNeg)), aL ((((xs ((l3 + (nI 3)).toNatClampNeg)).toInt64) <<< ((nI 32).toInt64 &&& 63)) ||| (((xs ((l3 + (nI 4)).toNatClampNeg)).toInt64) &&& 4294967295))] (c_X3_write l _ (xs ((l3 + (nI 1)).toNatClampNeg)) (xs ((l3 + (nI 2)).toNatClampNeg)) ((((xs ((l3 + (nI 3)).toNatClampNeg)).toInt64) <<< ((nI 32).toInt64 &&& 63)) ||| (((xs ((l3 + (nI 4)).toNatClampNeg)).toInt64) &&& 4294967295)) x hs h) (hp_cwV 3 E wd_270 wd_271 wd_272 wd_39 wd_273 rfl rfl (by decide +kernel) ⟨(Nat.le_of_ble_eq_true rfl), (Nat.le_of_ble_eq_true rfl)⟩) rfl rfl rfl rfl (Nat.le_of_ble_eq_true rfl) dL_law_332 ⟨by show _ ≤ 600000; omega, by show _ ≤ 7302250; omega⟩ (fun r332 x332 hs h => ?_)
        refine hv_aload_n E dL_law_335 rfl 2 rfl ?_
        refine hv_aload_nQ E dL_law_336 rfl 0 rfl ?_
        refine hv_iload_n E dL_law_337 rfl 3 rfl ?_
        refine hv_iconst (v := nI 1) E dL_law_338 (by decide) ?_
        refine hv_iadd (v := l3 + (nI 1)) E dL_law_339 rfl ?_
        obtain ⟨h34, h⟩ := h
        refine hv_sld E hX hbl h34 dL_law_340 ?_
        refine hv_aload_nQ E dL_law_341 rfl 0 rfl ?_
        refine hv_iload_n E dL_law_342 rfl 3 rfl ?_
        refine hv_iconst (v := nI 2) E dL_law_343 (by decide) ?_
        refine hv_iadd (v := l3 + (nI 2)) E dL_law_344 rfl ?_
        obtain ⟨h35, h⟩ := h
        refine hv_sld E hX hbl h35 dL_law_345 ?_
        refine hv_aload_nQ E dL_law_346 rfl 0 rfl ?_
        refine hv_iload_n E dL_law_347 rfl 3 rfl ?_
        refine hv_iconst (v := nI 3) E dL_law_348 (by decide) ?_
        refine hv_iadd (v := l3 + (nI 3)) E dL_law_349 rfl ?_
        obtain ⟨h36, h⟩ := h
        refine hv_sld E hX hbl h36 dL_law_350 ?_
        refine hv_i2l (v := (xs ((l3 + (nI 3)).toNatClampNeg)).toInt64) E dL_law_351 rfl ?_
        refine hv_bipush (v := nI 32) E dL_law_352 (by decide) ?_
        refine hv_lshl (v := ((xs ((l3 + (nI 3)).toNatClampNeg)).toInt64) <<< ((nI 32).toInt64 &&& 63)) E dL_law_354 rfl ?_
        refine hv_aload_nQ E dL_law_355 rfl 0 rfl ?_
        refine hv_iload_n E dL_law_356 rfl 3 rfl ?_
        refine hv_iconst (v := nI 4) E dL_law_357 (by decide) ?_
        refine hv_iadd (v := l3 + (nI 4)) E dL_law_358 rfl ?_
        obtain ⟨h37, h⟩ := h
        refine hv_sld E hX hbl h37 dL_law_359 ?_
        refine hv_i2l (v := (xs ((l3 + (nI 4)).toNatClampNeg)).toInt64) E dL_law_360 rfl ?_
        refine hv_ldc2 (v := 4294967295) E wd_660 dL_law_361 ?_
        refine hv_land (v := ((xs ((l3 + (nI 4)).toNatClampNeg)).toInt64) &&& 4294967295) E dL_law_364 rfl ?_
        refine hv_lor (v := (((xs ((l3 + (nI 3)).toNatClampNeg)).toInt64) <<< ((nI 32).toInt64 &&& 63)) ||| (((xs ((l3 + (nI 4)).toNatClampNeg)).toInt64) &&& 4294967295)) E dL_law_365 rfl ?_
        refine hv_VI E [aI (xs ((l3 + (nI 1)).toNatClampNeg)), aI (xs ((l3 + (nI 2)).toNatClampNeg)), aL ((((xs ((l3 + (nI 3)).toNatClampNeg)).toInt64) <<< ((nI 32).toInt64 &&& 63)) ||| (((xs ((l3 + (nI 4)).toNatClampNeg)).toInt64) &&& 4294967295))] (c_X4_write l _ (xs ((l3 + (nI 1)).toNatClampNeg)) (xs ((l3 + (nI 2)).toNatClampNeg)) ((((xs ((l3 + (nI 3)).toNatClampNeg)).toInt64) <<< ((nI 32).toInt64 &&& 63)) ||| (((xs ((l3 + (nI 4)).toNatClampNeg)).toInt64) &&& 4294967295)) x332 hs h) (hp_cwV 3 E wd_576 wd_577 wd_578 wd_41 wd_579 rfl rfl (by decide +kernel) ⟨(Nat.le_of_ble_eq_true rfl), (Nat.le_of_ble_eq_true rfl)⟩) rfl rfl rfl rfl (Nat.le_of_ble_eq_true rfl) dL_law_366 ⟨by show _ ≤ 600000; omega, by show _ ≤ 7302250; omega⟩ (fun r366 x366 hs h => ?_)
        refine hv_icmp_eq (tgt := 679) E dL_law_369 (by decide) (fun c38 => ?_) (fun c38 => ?_)
        · have h := h.1 c38
          refine hv_iinc (v := l3 + nI 5) (lv' := [(0, aQ b), (1, aR (0, 0)), (2, aR (20, 0))]) E 3 dL_law_679 rfl (hx_i5 _) (by decide) rfl ?_
          refine hv_goto (tgt := 18) E dL_law_682 (by decide) ?_
          refine hv_lv [1, 2, 3, 0] rfl ?_
          exact ih _ _ x366 (l3 + nI 5) (by omega) (by omega) hs h
        · have h := h.2 c38
          refine hv_iconst (v := nI 0) E dL_law_372 (by decide) ?_
          exact absurd h id
      by_cases e57 : ((xs l3.toNatClampNeg) &&& (nI 15)) = nI 7
      · have h := hsw.2.2.2.2.2.2.2.1 e57
        refine hv_tableIn (off := 342) (tgt := 374) E dL_law_32 (by rw [e57]; decide) (by rw [e57]; decide) (by rw [e57]; decide) (by decide) ?_
        refine hv_aload_n E dL_law_374 rfl 1 rfl ?_
        refine hv_aload_nQ E dL_law_375 rfl 0 rfl ?_
        refine hv_iload_n E dL_law_376 rfl 3 rfl ?_
        refine hv_iconst (v := nI 1) E dL_law_377 (by decide) ?_
        refine hv_iadd (v := l3 + (nI 1)) E dL_law_378 rfl ?_
        obtain ⟨h39, h⟩ := h
        refine hv_sld E hX hbl h39 dL_law_379 ?_
        refine hv_aload_nQ E dL_law_380 rfl 0 rfl ?_
        refine hv_iload_n E dL_law_381 rfl 3 rfl ?_
        refine hv_iconst (v := nI 2) E dL_law_382 (by decide) ?_
        refine hv_iadd (v := l3 + (nI 2)) E dL_law_383 rfl ?_
        obtain ⟨h40, h⟩ := h
        refine hv_sld E hX hbl h40 dL_law_384 ?_
        refine hv_if_eq (tgt := 392) E dL_law_385 (by decide) (fun c41 => ?_) (fun c41 => ?_)
        · have h := h.1 c41
          refine hv_iconst (v := nI 0) E dL_law_392 (by decide) ?_
          refine hv_VI E [aI (xs ((l3 + (nI 1)).toNatClampNeg)), aI (nI 0)] (c_X3_join l _ (xs ((l3 + (nI 1)).toNatClampNeg)) (nI 0) x hs h) (hp_cwV 2 E wd_278 wd_279 wd_280 wd_39 wd_281 rfl rfl (by decide +kernel) ⟨(Nat.le_of_ble_eq_true rfl), (Nat.le_of_ble_eq_true rfl)⟩) rfl rfl rfl rfl (Nat.le_of_ble_eq_true rfl) dL_law_393 ⟨by show _ ≤ 600000; omega, by show _ ≤ 7302250; omega⟩ (fun r393 x393 hs h => ?_)
          refine hv_aload_n E dL_law_396 rfl 2 rfl ?_
          refine hv_aload_nQ E dL_law_397 rfl 0 rfl ?_
          refine hv_iload_n E dL_law_398 rfl 3 rfl ?_
          refine hv_iconst (v := nI 1) E dL_law_399 (by decide) ?_
          refine hv_iadd (v := l3 + (nI 1)) E dL_law_400 rfl ?_
          obtain ⟨h42, h⟩ := h
          refine hv_sld E hX hbl h42 dL_law_401 ?_
          refine hv_aload_nQ E dL_law_402 rfl 0 rfl ?_
          refine hv_iload_n E dL_law_403 rfl 3 rfl ?_
          refine hv_iconst (v := nI 2) E dL_law_404 (by decide) ?_
          refine hv_iadd (v := l3 + (nI 2)) E dL_law_405 rfl ?_
          obtain ⟨h43, h⟩ := h
          refine hv_sld E hX hbl h43 dL_law_406 ?_
          refine hv_if_eq (tgt := 414) E dL_law_407 (by decide) (fun c44 => ?_) (fun c44 => ?_)
          · have h := h.1 c44
            refine hv_iconst (v := nI 0) E dL_law_414 (by decide) ?_
            refine hv_VI E [aI (xs ((l3 + (nI 1)).toNatClampNeg)), aI (nI 0)] (c_X4_join l _ (xs ((l3 + (nI 1)).toNatClampNeg)) (nI 0) x393 hs h) (hp_cwV 2 E wd_580 wd_581 wd_582 wd_41 wd_583 rfl rfl (by decide +kernel) ⟨(Nat.le_of_ble_eq_true rfl), (Nat.le_of_ble_eq_true rfl)⟩) rfl rfl rfl rfl (Nat.le_of_ble_eq_true rfl) dL_law_415 ⟨by show _ ≤ 600000; omega, by show _ ≤ 7302250; omega⟩ (fun r415 x415 hs h => ?_)
            refine hv_icmp_eq (tgt := 679) E dL_law_418 (by decide) (fun c45 => ?_) (fun c45 => ?_)
            · have h := h.1 c45
              refine hv_iinc (v := l3 + nI 5) (lv' := [(0, aQ b), (1, aR (0, 0)), (2, aR (20, 0))]) E 3 dL_law_679 rfl (hx_i5 _) (by decide) rfl ?_
              refine hv_goto (tgt := 18) E dL_law_682 (by decide) ?_
              refine hv_lv [1, 2, 3, 0] rfl ?_
              exact ih _ _ x415 (l3 + nI 5) (by omega) (by omega) hs h
            · have h := h.2 c45
              refine hv_iconst (v := nI 0) E dL_law_421 (by decide) ?_
              exact absurd h id
          · have h := h.2 c44
            refine hv_iconst (v := nI 1) E dL_law_410 (by decide) ?_
            refine hv_goto (tgt := 415) E dL_law_411 (by decide) ?_
            refine hv_VI E [aI (xs ((l3 + (nI 1)).toNatClampNeg)), aI (nI 1)] (c_X4_join l _ (xs ((l3 + (nI 1)).toNatClampNeg)) (nI 1) x393 hs h) (hp_cwV 2 E wd_580 wd_581 wd_582 wd_41 wd_583 rfl rfl (by decide +kernel) ⟨(Nat.le_of_ble_eq_true rfl), (Nat.le_of_ble_eq_true rfl)⟩) rfl rfl rfl rfl (Nat.le_of_ble_eq_true rfl) dL_law_415 ⟨by show _ ≤ 600000; omega, by show _ ≤ 7302250; omega⟩ (fun r415 x415 hs h => ?_)
            refine hv_icmp_eq (tgt := 679) E dL_law_418 (by decide) (fun c46 => ?_) (fun c46 => ?_)
            · have h := h.1 c46
              refine hv_iinc (v := l3 + nI 5) (lv' := [(0, aQ b), (1, aR (0, 0)), (2, aR (20, 0))]) E 3 dL_law_679 rfl (hx_i5 _) (by decide) rfl ?_
              refine hv_goto (tgt := 18) E dL_law_682 (by decide) ?_
              refine hv_lv [1, 2, 3, 0] rfl ?_
              exact ih _ _ x415 (l3 + nI 5) (by omega) (by omega) hs h
            · have h := h.2 c46
              refine hv_iconst (v := nI 0) E dL_law_421 (by decide) ?_
              exact absurd h id
        · have h := h.2 c41
          refine hv_iconst (v := nI 1) E dL_law_388 (by decide) ?_
          refine hv_goto (tgt := 393) E dL_law_389 (by decide) ?_
          refine hv_VI E [aI (xs ((l3 + (nI 1)).toNatClampNeg)), aI (nI 1)] (c_X3_join l _ (xs ((l3 + (nI 1)).toNatClampNeg)) (nI 1) x hs h) (hp_cwV 2 E wd_278 wd_279 wd_280 wd_39 wd_281 rfl rfl (by decide +kernel) ⟨(Nat.le_of_ble_eq_true rfl), (Nat.le_of_ble_eq_true rfl)⟩) rfl rfl rfl rfl (Nat.le_of_ble_eq_true rfl) dL_law_393 ⟨by show _ ≤ 600000; omega, by show _ ≤ 7302250; omega⟩ (fun r393 x393 hs h => ?_)
          refine hv_aload_n E dL_law_396 rfl 2 rfl ?_
          refine hv_aload_nQ E dL_law_397 rfl 0 rfl ?_
          refine hv_iload_n E dL_law_398 rfl 3 rfl ?_
          refine hv_iconst (v := nI 1) E dL_law_399 (by decide) ?_
          refine hv_iadd (v := l3 + (nI 1)) E dL_law_400 rfl ?_
          obtain ⟨h47, h⟩ := h
          refine hv_sld E hX hbl h47 dL_law_401 ?_
          refine hv_aload_nQ E dL_law_402 rfl 0 rfl ?_
          refine hv_iload_n E dL_law_403 rfl 3 rfl ?_
          refine hv_iconst (v := nI 2) E dL_law_404 (by decide) ?_
          refine hv_iadd (v := l3 + (nI 2)) E dL_law_405 rfl ?_
          obtain ⟨h48, h⟩ := h
          refine hv_sld E hX hbl h48 dL_law_406 ?_
          refine hv_if_eq (tgt := 414) E dL_law_407 (by decide) (fun c49 => ?_) (fun c49 => ?_)
          · have h := h.1 c49
            refine hv_iconst (v := nI 0) E dL_law_414 (by decide) ?_
            refine hv_VI E [aI (xs ((l3 + (nI 1)).toNatClampNeg)), aI (nI 0)] (c_X4_join l _ (xs ((l3 + (nI 1)).toNatClampNeg)) (nI 0) x393 hs h) (hp_cwV 2 E wd_580 wd_581 wd_582 wd_41 wd_583 rfl rfl (by decide +kernel) ⟨(Nat.le_of_ble_eq_true rfl), (Nat.le_of_ble_eq_true rfl)⟩) rfl rfl rfl rfl (Nat.le_of_ble_eq_true rfl) dL_law_415 ⟨by show _ ≤ 600000; omega, by show _ ≤ 7302250; omega⟩ (fun r415 x415 hs h => ?_)
            refine hv_icmp_eq (tgt := 679) E dL_law_418 (by decide) (fun c50 => ?_) (fun c50 => ?_)
            · have h := h.1 c50
              refine hv_iinc (v := l3 + nI 5) (lv' := [(0, aQ b), (1, aR (0, 0)), (2, aR (20, 0))]) E 3 dL_law_679 rfl (hx_i5 _) (by decide) rfl ?_
              refine hv_goto (tgt := 18) E dL_law_682 (by decide) ?_
              refine hv_lv [1, 2, 3, 0] rfl ?_
              exact ih _ _ x415 (l3 + nI 5) (by omega) (by omega) hs h
            · have h := h.2 c50
              refine hv_iconst (v := nI 0) E dL_law_421 (by decide) ?_
              exact absurd h id
          · have h := h.2 c49
            refine hv_iconst (v := nI 1) E dL_law_410 (by decide) ?_
            refine hv_goto (tgt := 415) E dL_law_411 (by decide) ?_
            refine hv_VI E [aI (xs ((l3 + (nI 1)).toNatClampNeg)), aI (nI 1)] (c_X4_join l _ (xs ((l3 + (nI 1)).toNatClampNeg)) (nI 1) x393 hs h) (hp_cwV 2 E wd_580 wd_581 wd_582 wd_41 wd_583 rfl rfl (by decide +kernel) ⟨(Nat.le_of_ble_eq_true rfl), (Nat.le_of_ble_eq_true rfl)⟩) rfl rfl rfl rfl (Nat.le_of_ble_eq_true rfl) dL_law_415 ⟨by show _ ≤ 600000; omega, by show _ ≤ 7302250; omega⟩ (fun r415 x415 hs h => ?_)
            refine hv_icmp_eq (tgt := 679) E dL_law_418 (by decide) (fun c51 => ?_) (fun c51 => ?_)
            · have h := h.1 c51
              refine hv_iinc (v := l3 + nI 5) (lv' := [(0, aQ b), (1, aR (0, 0)), (2, aR (20, 0))]) E 3 dL_law_679 rfl (hx_i5 _) (by decide) rfl ?_
              refine hv_goto (tgt := 18) E dL_law_682 (by decide) ?_
              refine hv_lv [1, 2, 3, 0] rfl ?_
              exact ih _ _ x415 (l3 + nI 5) (by omega) (by omega) hs h
            · have h := h.2 c51
              refine hv_iconst (v := nI 0) E dL_law_421 (by decide) ?_
              exact absurd h id
      by_cases e58 : ((xs l3.toNatClampNeg) &&& (nI 15)) = nI 8
      · have h := hsw.2.2.2.2.2.2.2.2.1 e58
        refine hv_tableIn (off := 391) (tgt := 423) E dL_law_32 (by rw [e58]; decide) (by rw [e58]; decide) (by rw [e58]; decide) (by decide) ?_
        refine hv_aload_n E dL_law_423 rfl 1 rfl ?_
        refine hv_aload_nQ E dL_law_424 rfl 0 rfl ?_
        refine hv_iload_n E dL_law_425 rfl 3 rfl ?_
        refine hv_iconst (v := nI 1) E dL_law_426 (by decide) ?_
        refine hv_iadd (v := l3 + (nI 1)) E dL_law_427 rfl ?_
        obtain ⟨h52, h⟩ := h
        refine hv_sld E hX hbl h52 dL_law_428 ?_
        refine hv_aload_nQ E dL_law_429 rfl 0 rfl ?_
        refine hv_iload_n E dL_law_430 rfl 3 rfl ?_
        refine hv_iconst (v := nI 2) E dL_law_431 (by decide) ?_
        refine hv_iadd (v := l3 + (nI 2)) E dL_law_432 rfl ?_
        obtain ⟨h53, h⟩ := h
        refine hv_sld E hX hbl h53 dL_law_433 ?_
        refine hv_VL E [aI (xs ((l3 + (nI 1)).toNatClampNeg)), aI (xs ((l3 + (nI 2)).toNatClampNeg))] (c_X3_conflict l _ (xs ((l3 + (nI 1)).toNatClampNeg)) (xs ((l3 + (nI 2)).toNatClampNeg)) x hs h) (hp_cwV 2 E wd_308 wd_309 wd_310 wd_39 wd_311 rfl rfl (by decide +kernel) ⟨(Nat.le_of_ble_eq_true rfl), (Nat.le_of_ble_eq_true rfl)⟩) rfl rfl rfl rfl (Nat.le_of_ble_eq_true rfl) dL_law_434 ⟨by show _ ≤ 600000; omega, by show _ ≤ 7302250; omega⟩ (fun r434 x434 hs h => ?_)
        refine hv_aload_n E dL_law_437 rfl 2 rfl ?_
        refine hv_aload_nQ E dL_law_438 rfl 0 rfl ?_
        refine hv_iload_n E dL_law_439 rfl 3 rfl ?_
        refine hv_iconst (v := nI 1) E dL_law_440 (by decide) ?_
        refine hv_iadd (v := l3 + (nI 1)) E dL_law_441 rfl ?_
        obtain ⟨h54, h⟩ := h
        refine hv_sld E hX hbl h54 dL_law_442 ?_
        refine hv_aload_nQ E dL_law_443 rfl 0 rfl ?_
        refine hv_iload_n E dL_law_444 rfl 3 rfl ?_
        refine hv_iconst (v := nI 2) E dL_law_445 (by decide) ?_
        refine hv_iadd (v := l3 + (nI 2)) E dL_law_446 rfl ?_
        obtain ⟨h55, h⟩ := h
        refine hv_sld E hX hbl h55 dL_law_447 ?_
        refine hv_VL E [aI (xs ((l3 + (nI 1)).toNatClampNeg)), aI (xs ((l3 + (nI 2)).toNatClampNeg))] (c_X4_conflict l _ (xs ((l3 + (nI 1)).toNatClampNeg)) (xs ((l3 + (nI 2)).toNatClampNeg)) x434 hs h) (hp_cwV 2 E wd_594 wd_595 wd_596 wd_41 wd_597 rfl rfl (by decide +kernel) ⟨(Nat.le_of_ble_eq_true rfl), (Nat.le_of_ble_eq_true rfl)⟩) rfl rfl rfl rfl (Nat.le_of_ble_eq_true rfl) dL_law_448 ⟨by show _ ≤ 600000; omega, by show _ ≤ 7302250; omega⟩ (fun r448 x448 hs h => ?_)
        refine hv_lcmp E dL_law_451 ?_
        refine hv_if_eq (tgt := 679) E dL_law_452 (by decide) (fun c56 => ?_) (fun c56 => ?_)
        · have h := h.1 c56
          refine hv_iinc (v := l3 + nI 5) (lv' := [(0, aQ b), (1, aR (0, 0)), (2, aR (20, 0))]) E 3 dL_law_679 rfl (hx_i5 _) (by decide) rfl ?_
          refine hv_goto (tgt := 18) E dL_law_682 (by decide) ?_
          refine hv_lv [1, 2, 3, 0] rfl ?_
          exact ih _ _ x448 (l3 + nI 5) (by omega) (by omega) hs h
        · have h := h.2 c56
          refine hv_iconst (v := nI 0) E dL_law_455 (by decide) ?_
          exact absurd h id
      by_cases e59 : ((xs l3.toNatClampNeg) &&& (nI 15)) = nI 9
      · have h := hsw.2.2.2.2.2.2.2.2.2.1 e59
        refine hv_tableIn (off := 425) (tgt := 457) E dL_law_32 (by rw [e59]; decide) (by rw [e59]; decide) (by rw [e59]; decide) (by decide) ?_
        refine hv_aload_n E dL_law_457 rfl 1 rfl ?_
        refine hv_aload_nQ E dL_law_458 rfl 0 rfl ?_
        refine hv_iload_n E dL_law_459 rfl 3 rfl ?_
        refine hv_iconst (v := nI 1) E dL_law_460 (by decide) ?_
        refine hv_iadd (v := l3 + (nI 1)) E dL_law_461 rfl ?_
        obtain ⟨h57, h⟩ := h
        refine hv_sld E hX hbl h57 dL_law_462 ?_
        refine hv_aload_nQ E dL_law_463 rfl 0 rfl ?_
        refine hv_iload_n E dL_law_464 rfl 3 rfl ?_
        refine hv_iconst (v := nI 2) E dL_law_465 (by decide) ?_
        refine hv_iadd (v := l3 + (nI 2)) E dL_law_466 rfl ?_
        obtain ⟨h58, h⟩ := h
        refine hv_sld E hX hbl h58 dL_law_467 ?_
        refine hv_VI E [aI (xs ((l3 + (nI 1)).toNatClampNeg)), aI (xs ((l3 + (nI 2)).toNatClampNeg))] (c_X3_settle l _ (xs ((l3 + (nI 1)).toNatClampNeg)) (xs ((l3 + (nI 2)).toNatClampNeg)) x hs h) (hp_cwV 2 E wd_318 wd_319 wd_320 wd_39 wd_321 rfl rfl (by decide +kernel) ⟨(Nat.le_of_ble_eq_true rfl), (Nat.le_of_ble_eq_true rfl)⟩) rfl rfl rfl rfl (Nat.le_of_ble_eq_true rfl) dL_law_468 ⟨by show _ ≤ 600000; omega, by show _ ≤ 7302250; omega⟩ (fun r468 x468 hs h => ?_)
        refine hv_aload_n E dL_law_471 rfl 2 rfl ?_
        refine hv_aload_nQ E dL_law_472 rfl 0 rfl ?_
        refine hv_iload_n E dL_law_473 rfl 3 rfl ?_
        refine hv_iconst (v := nI 1) E dL_law_474 (by decide) ?_
        refine hv_iadd (v := l3 + (nI 1)) E dL_law_475 rfl ?_
        obtain ⟨h59, h⟩ := h
        refine hv_sld E hX hbl h59 dL_law_476 ?_
        refine hv_aload_nQ E dL_law_477 rfl 0 rfl ?_
        refine hv_iload_n E dL_law_478 rfl 3 rfl ?_
        refine hv_iconst (v := nI 2) E dL_law_479 (by decide) ?_
        refine hv_iadd (v := l3 + (nI 2)) E dL_law_480 rfl ?_
        obtain ⟨h60, h⟩ := h
        refine hv_sld E hX hbl h60 dL_law_481 ?_
        refine hv_VI E [aI (xs ((l3 + (nI 1)).toNatClampNeg)), aI (xs ((l3 + (nI 2)).toNatClampNeg))] (c_X4_settle l _ (xs ((l3 + (nI 1)).toNatClampNeg)) (xs ((l3 + (nI 2)).toNatClampNeg)) x468 hs h) (hp_cwV 2 E wd_600 wd_601 wd_602 wd_41 wd_603 rfl rfl (by decide +kernel) ⟨(Nat.le_of_ble_eq_true rfl), (Nat.le_of_ble_eq_true rfl)⟩) rfl rfl rfl rfl (Nat.le_of_ble_eq_true rfl) dL_law_482 ⟨by show _ ≤ 600000; omega, by show _ ≤ 7302250; omega⟩ (fun r482 x482 hs h => ?_)
        refine hv_icmp_eq (tgt := 679) E dL_law_485 (by decide) (fun c61 => ?_) (fun c61 => ?_)
        · have h := h.1 c61
          refine hv_iinc (v := l3 + nI 5) (lv' := [(0, aQ b), (1, aR (0, 0)), (2, aR (20, 0))]) E 3 dL_law_679 rfl (hx_i5 _) (by decide) rfl ?_
          refine hv_goto (tgt := 18) E dL_law_682 (by decide) ?_
          refine hv_lv [1, 2, 3, 0] rfl ?_
          exact ih _ _ x482 (l3 + nI 5) (by omega) (by omega) hs h
        · have h := h.2 c61
          refine hv_iconst (v := nI 0) E dL_law_488 (by decide) ?_
          exact absurd h id
      by_cases e510 : ((xs l3.toNatClampNeg) &&& (nI 15)) = nI 10
      · have h := hsw.2.2.2.2.2.2.2.2.2.2.1 e510
        refine hv_tableIn (off := 458) (tgt := 490) E dL_law_32 (by rw [e510]; decide) (by rw [e510]; decide) (by rw [e510]; decide) (by decide) ?_
        refine hv_aload_n E dL_law_490 rfl 1 rfl ?_
        refine hv_aload_nQ E dL_law_491 rfl 0 rfl ?_
        refine hv_iload_n E dL_law_492 rfl 3 rfl ?_
        refine hv_iconst (v := nI 1) E dL_law_493 (by decide) ?_
        refine hv_iadd (v := l3 + (nI 1)) E dL_law_494 rfl ?_
        obtain ⟨h62, h⟩ := h
        refine hv_sld E hX hbl h62 dL_law_495 ?_
        refine hv_VI E [aI (xs ((l3 + (nI 1)).toNatClampNeg))] (c_X3_stale l _ (xs ((l3 + (nI 1)).toNatClampNeg)) x hs h) (hp_cwV 1 E wd_330 wd_331 wd_332 wd_39 wd_333 rfl rfl (by decide +kernel) ⟨(Nat.le_of_ble_eq_true rfl), (Nat.le_of_ble_eq_true rfl)⟩) rfl rfl rfl rfl (Nat.le_of_ble_eq_true rfl) dL_law_496 ⟨by show _ ≤ 600000; omega, by show _ ≤ 7302250; omega⟩ (fun r496 x496 hs h => ?_)
        refine hv_aload_n E dL_law_499 rfl 2 rfl ?_
        refine hv_aload_nQ E dL_law_500 rfl 0 rfl ?_
        refine hv_iload_n E dL_law_501 rfl 3 rfl ?_
        refine hv_iconst (v := nI 1) E dL_law_502 (by decide) ?_
        refine hv_iadd (v := l3 + (nI 1)) E dL_law_503 rfl ?_
        obtain ⟨h63, h⟩ := h
        refine hv_sld E hX hbl h63 dL_law_504 ?_
        refine hv_VI E [aI (xs ((l3 + (nI 1)).toNatClampNeg))] (c_X4_stale l _ (xs ((l3 + (nI 1)).toNatClampNeg)) x496 hs h) (hp_cwV 1 E wd_604 wd_605 wd_606 wd_41 wd_607 rfl rfl (by decide +kernel) ⟨(Nat.le_of_ble_eq_true rfl), (Nat.le_of_ble_eq_true rfl)⟩) rfl rfl rfl rfl (Nat.le_of_ble_eq_true rfl) dL_law_505 ⟨by show _ ≤ 600000; omega, by show _ ≤ 7302250; omega⟩ (fun r505 x505 hs h => ?_)
        refine hv_icmp_eq (tgt := 679) E dL_law_508 (by decide) (fun c64 => ?_) (fun c64 => ?_)
        · have h := h.1 c64
          refine hv_iinc (v := l3 + nI 5) (lv' := [(0, aQ b), (1, aR (0, 0)), (2, aR (20, 0))]) E 3 dL_law_679 rfl (hx_i5 _) (by decide) rfl ?_
          refine hv_goto (tgt := 18) E dL_law_682 (by decide) ?_
          refine hv_lv [1, 2, 3, 0] rfl ?_
          exact ih _ _ x505 (l3 + nI 5) (by omega) (by omega) hs h
        · have h := h.2 c64
          refine hv_iconst (v := nI 0) E dL_law_511 (by decide) ?_
          exact absurd h id
      by_cases e511 : ((xs l3.toNatClampNeg) &&& (nI 15)) = nI 11
      · have h := hsw.2.2.2.2.2.2.2.2.2.2.2.1 e511
        refine hv_tableIn (off := 481) (tgt := 513) E dL_law_32 (by rw [e511]; decide) (by rw [e511]; decide) (by rw [e511]; decide) (by decide) ?_
        refine hv_aload_n E dL_law_513 rfl 1 rfl ?_
        refine hv_VI E [] (c_X3_branch l _  x hs h) (hp_cwV 0 E wd_342 wd_343 wd_344 wd_39 wd_345 rfl rfl (by decide +kernel) ⟨(Nat.le_of_ble_eq_true rfl), (Nat.le_of_ble_eq_true rfl)⟩) rfl rfl rfl rfl (Nat.le_of_ble_eq_true rfl) dL_law_514 ⟨by show _ ≤ 600000; omega, by show _ ≤ 7302250; omega⟩ (fun r514 x514 hs h => ?_)
        refine hv_aload_n E dL_law_517 rfl 2 rfl ?_
        refine hv_VI E [] (c_X4_branch l _  x514 hs h) (hp_cwV 0 E wd_641 wd_642 wd_643 wd_41 wd_644 rfl rfl (by decide +kernel) ⟨(Nat.le_of_ble_eq_true rfl), (Nat.le_of_ble_eq_true rfl)⟩) rfl rfl rfl rfl (Nat.le_of_ble_eq_true rfl) dL_law_518 ⟨by show _ ≤ 600000; omega, by show _ ≤ 7302250; omega⟩ (fun r518 x518 hs h => ?_)
        refine hv_icmp_eq (tgt := 679) E dL_law_521 (by decide) (fun c65 => ?_) (fun c65 => ?_)
        · have h := h.1 c65
          refine hv_iinc (v := l3 + nI 5) (lv' := [(0, aQ b), (1, aR (0, 0)), (2, aR (20, 0))]) E 3 dL_law_679 rfl (hx_i5 _) (by decide) rfl ?_
          refine hv_goto (tgt := 18) E dL_law_682 (by decide) ?_
          refine hv_lv [1, 2, 3, 0] rfl ?_
          exact ih _ _ x518 (l3 + nI 5) (by omega) (by omega) hs h
        · have h := h.2 c65
          refine hv_iconst (v := nI 0) E dL_law_524 (by decide) ?_
          exact absurd h id
      by_cases e512 : ((xs l3.toNatClampNeg) &&& (nI 15)) = nI 12
      · have h := hsw.2.2.2.2.2.2.2.2.2.2.2.2.1 e512
        refine hv_tableIn (off := 494) (tgt := 526) E dL_law_32 (by rw [e512]; decide) (by rw [e512]; decide) (by rw [e512]; decide) (by decide) ?_
        refine hv_aload_n E dL_law_526 rfl 1 rfl ?_
        refine hv_aload_nQ E dL_law_527 rfl 0 rfl ?_
        refine hv_iload_n E dL_law_528 rfl 3 rfl ?_
        refine hv_iconst (v := nI 1) E dL_law_529 (by decide) ?_
        refine hv_iadd (v := l3 + (nI 1)) E dL_law_530 rfl ?_
        obtain ⟨h66, h⟩ := h
        refine hv_sld E hX hbl h66 dL_law_531 ?_
        refine hv_aload_nQ E dL_law_532 rfl 0 rfl ?_
        refine hv_iload_n E dL_law_533 rfl 3 rfl ?_
        refine hv_iconst (v := nI 2) E dL_law_534 (by decide) ?_
        refine hv_iadd (v := l3 + (nI 2)) E dL_law_535 rfl ?_
        obtain ⟨h67, h⟩ := h
        refine hv_sld E hX hbl h67 dL_law_536 ?_
        refine hv_VI E [aI (xs ((l3 + (nI 1)).toNatClampNeg)), aI (xs ((l3 + (nI 2)).toNatClampNeg))] (c_X3_from l _ (xs ((l3 + (nI 1)).toNatClampNeg)) (xs ((l3 + (nI 2)).toNatClampNeg)) x hs h) (hp_cwV 2 E wd_349 wd_350 wd_351 wd_39 wd_352 rfl rfl (by decide +kernel) ⟨(Nat.le_of_ble_eq_true rfl), (Nat.le_of_ble_eq_true rfl)⟩) rfl rfl rfl rfl (Nat.le_of_ble_eq_true rfl) dL_law_537 ⟨by show _ ≤ 600000; omega, by show _ ≤ 7302250; omega⟩ (fun r537 x537 hs h => ?_)
        refine hv_aload_n E dL_law_540 rfl 2 rfl ?_
        refine hv_aload_nQ E dL_law_541 rfl 0 rfl ?_
        refine hv_iload_n E dL_law_542 rfl 3 rfl ?_
        refine hv_iconst (v := nI 1) E dL_law_543 (by decide) ?_
        refine hv_iadd (v := l3 + (nI 1)) E dL_law_544 rfl ?_
        obtain ⟨h68, h⟩ := h
        refine hv_sld E hX hbl h68 dL_law_545 ?_
        refine hv_aload_nQ E dL_law_546 rfl 0 rfl ?_
        refine hv_iload_n E dL_law_547 rfl 3 rfl ?_
        refine hv_iconst (v := nI 2) E dL_law_548 (by decide) ?_
        refine hv_iadd (v := l3 + (nI 2)) E dL_law_549 rfl ?_
        obtain ⟨h69, h⟩ := h
        refine hv_sld E hX hbl h69 dL_law_550 ?_
        refine hv_VI E [aI (xs ((l3 + (nI 1)).toNatClampNeg)), aI (xs ((l3 + (nI 2)).toNatClampNeg))] (c_X4_from l _ (xs ((l3 + (nI 1)).toNatClampNeg)) (xs ((l3 + (nI 2)).toNatClampNeg)) x537 hs h) (hp_cwV 2 E wd_645 wd_646 wd_647 wd_41 wd_648 rfl rfl (by decide +kernel) ⟨(Nat.le_of_ble_eq_true rfl), (Nat.le_of_ble_eq_true rfl)⟩) rfl rfl rfl rfl (Nat.le_of_ble_eq_true rfl) dL_law_551 ⟨by show _ ≤ 600000; omega, by show _ ≤ 7302250; omega⟩ (fun r551 x551 hs h => ?_)
        refine hv_icmp_eq (tgt := 679) E dL_law_554 (by decide) (fun c70 => ?_) (fun c70 => ?_)
        · have h := h.1 c70
          refine hv_iinc (v := l3 + nI 5) (lv' := [(0, aQ b), (1, aR (0, 0)), (2, aR (20, 0))]) E 3 dL_law_679 rfl (hx_i5 _) (by decide) rfl ?_
          refine hv_goto (tgt := 18) E dL_law_682 (by decide) ?_
          refine hv_lv [1, 2, 3, 0] rfl ?_
          exact ih _ _ x551 (l3 + nI 5) (by omega) (by omega) hs h
        · have h := h.2 c70
          refine hv_iconst (v := nI 0) E dL_law_557 (by decide) ?_
          exact absurd h id
      by_cases e513 : ((xs l3.toNatClampNeg) &&& (nI 15)) = nI 13
      · have h := hsw.2.2.2.2.2.2.2.2.2.2.2.2.2.1 e513
        refine hv_tableIn (off := 527) (tgt := 559) E dL_law_32 (by rw [e513]; decide) (by rw [e513]; decide) (by rw [e513]; decide) (by decide) ?_
        refine hv_aload_n E dL_law_559 rfl 1 rfl ?_
        refine hv_aload_nQ E dL_law_560 rfl 0 rfl ?_
        refine hv_iload_n E dL_law_561 rfl 3 rfl ?_
        refine hv_iconst (v := nI 1) E dL_law_562 (by decide) ?_
        refine hv_iadd (v := l3 + (nI 1)) E dL_law_563 rfl ?_
        obtain ⟨h71, h⟩ := h
        refine hv_sld E hX hbl h71 dL_law_564 ?_
        refine hv_VI E [aI (xs ((l3 + (nI 1)).toNatClampNeg))] (c_X3_run l _ (xs ((l3 + (nI 1)).toNatClampNeg)) x hs h) (hp_cwV 1 E wd_357 wd_358 wd_359 wd_39 wd_360 rfl rfl (by decide +kernel) ⟨(Nat.le_of_ble_eq_true rfl), (Nat.le_of_ble_eq_true rfl)⟩) rfl rfl rfl rfl (Nat.le_of_ble_eq_true rfl) dL_law_565 ⟨by show _ ≤ 600000; omega, by show _ ≤ 7302250; omega⟩ (fun r565 x565 hs h => ?_)
        refine hv_aload_n E dL_law_568 rfl 2 rfl ?_
        refine hv_aload_nQ E dL_law_569 rfl 0 rfl ?_
        refine hv_iload_n E dL_law_570 rfl 3 rfl ?_
        refine hv_iconst (v := nI 1) E dL_law_571 (by decide) ?_
        refine hv_iadd (v := l3 + (nI 1)) E dL_law_572 rfl ?_
        obtain ⟨h72, h⟩ := h
        refine hv_sld E hX hbl h72 dL_law_573 ?_
        refine hv_VI E [aI (xs ((l3 + (nI 1)).toNatClampNeg))] (c_X4_run l _ (xs ((l3 + (nI 1)).toNatClampNeg)) x565 hs h) (hp_cwV 1 E wd_612 wd_613 wd_614 wd_41 wd_615 rfl rfl (by decide +kernel) ⟨(Nat.le_of_ble_eq_true rfl), (Nat.le_of_ble_eq_true rfl)⟩) rfl rfl rfl rfl (Nat.le_of_ble_eq_true rfl) dL_law_574 ⟨by show _ ≤ 600000; omega, by show _ ≤ 7302250; omega⟩ (fun r574 x574 hs h => ?_)
        refine hv_icmp_eq (tgt := 679) E dL_law_577 (by decide) (fun c73 => ?_) (fun c73 => ?_)
        · have h := h.1 c73
          refine hv_iinc (v := l3 + nI 5) (lv' := [(0, aQ b), (1, aR (0, 0)), (2, aR (20, 0))]) E 3 dL_law_679 rfl (hx_i5 _) (by decide) rfl ?_
          refine hv_goto (tgt := 18) E dL_law_682 (by decide) ?_
          refine hv_lv [1, 2, 3, 0] rfl ?_
          exact ih _ _ x574 (l3 + nI 5) (by omega) (by omega) hs h
        · have h := h.2 c73
          refine hv_iconst (v := nI 0) E dL_law_580 (by decide) ?_
          exact absurd h id
      by_cases e514 : ((xs l3.toNatClampNeg) &&& (nI 15)) = nI 14
      · have h := hsw.2.2.2.2.2.2.2.2.2.2.2.2.2.2.1 e514
        refine hv_tableIn (off := 550) (tgt := 582) E dL_law_32 (by rw [e514]; decide) (by rw [e514]; decide) (by rw [e514]; decide) (by decide) ?_
        refine hv_aload_n E dL_law_582 rfl 1 rfl ?_
        refine hv_aload_nQ E dL_law_583 rfl 0 rfl ?_
        refine hv_iload_n E dL_law_584 rfl 3 rfl ?_
        refine hv_iconst (v := nI 1) E dL_law_585 (by decide) ?_
        refine hv_iadd (v := l3 + (nI 1)) E dL_law_586 rfl ?_
        obtain ⟨h74, h⟩ := h
        refine hv_sld E hX hbl h74 dL_law_587 ?_
        refine hv_aload_nQ E dL_law_588 rfl 0 rfl ?_
        refine hv_iload_n E dL_law_589 rfl 3 rfl ?_
        refine hv_iconst (v := nI 2) E dL_law_590 (by decide) ?_
        refine hv_iadd (v := l3 + (nI 2)) E dL_law_591 rfl ?_
        obtain ⟨h75, h⟩ := h
        refine hv_sld E hX hbl h75 dL_law_592 ?_
        refine hv_VL E [aI (xs ((l3 + (nI 1)).toNatClampNeg)), aI (xs ((l3 + (nI 2)).toNatClampNeg))] (c_X3_value l _ (xs ((l3 + (nI 1)).toNatClampNeg)) (xs ((l3 + (nI 2)).toNatClampNeg)) x hs h) (hp_cwV 2 E wd_396 wd_397 wd_398 wd_39 wd_399 rfl rfl (by decide +kernel) ⟨(Nat.le_of_ble_eq_true rfl), (Nat.le_of_ble_eq_true rfl)⟩) rfl rfl rfl rfl (Nat.le_of_ble_eq_true rfl) dL_law_593 ⟨by show _ ≤ 600000; omega, by show _ ≤ 7302250; omega⟩ (fun r593 x593 hs h => ?_)
        refine hv_aload_n E dL_law_596 rfl 2 rfl ?_
        refine hv_aload_nQ E dL_law_597 rfl 0 rfl ?_
        refine hv_iload_n E dL_law_598 rfl 3 rfl ?_
        refine hv_iconst (v := nI 1) E dL_law_599 (by decide) ?_
        refine hv_iadd (v := l3 + (nI 1)) E dL_law_600 rfl ?_
        obtain ⟨h76, h⟩ := h
        refine hv_sld E hX hbl h76 dL_law_601 ?_
        refine hv_aload_nQ E dL_law_602 rfl 0 rfl ?_
        refine hv_iload_n E dL_law_603 rfl 3 rfl ?_
        refine hv_iconst (v := nI 2) E dL_law_604 (by decide) ?_
        refine hv_iadd (v := l3 + (nI 2)) E dL_law_605 rfl ?_
        obtain ⟨h77, h⟩ := h
        refine hv_sld E hX hbl h77 dL_law_606 ?_
        refine hv_VL E [aI (xs ((l3 + (nI 1)).toNatClampNeg)), aI (xs ((l3 + (nI 2)).toNatClampNeg))] (c_X4_value l _ (xs ((l3 + (nI 1)).toNatClampNeg)) (xs ((l3 + (nI 2)).toNatClampNeg)) x593 hs h) (hp_cwV 2 E wd_649 wd_650 wd_651 wd_41 wd_652 rfl rfl (by decide +kernel) ⟨(Nat.le_of_ble_eq_true rfl), (Nat.le_of_ble_eq_true rfl)⟩) rfl rfl rfl rfl (Nat.le_of_ble_eq_true rfl) dL_law_607 ⟨by show _ ≤ 600000; omega, by show _ ≤ 7302250; omega⟩ (fun r607 x607 hs h => ?_)
        refine hv_lcmp E dL_law_610 ?_
        refine hv_if_eq (tgt := 679) E dL_law_611 (by decide) (fun c78 => ?_) (fun c78 => ?_)
        · have h := h.1 c78
          refine hv_iinc (v := l3 + nI 5) (lv' := [(0, aQ b), (1, aR (0, 0)), (2, aR (20, 0))]) E 3 dL_law_679 rfl (hx_i5 _) (by decide) rfl ?_
          refine hv_goto (tgt := 18) E dL_law_682 (by decide) ?_
          refine hv_lv [1, 2, 3, 0] rfl ?_
          exact ih _ _ x607 (l3 + nI 5) (by omega) (by omega) hs h
        · have h := h.2 c78
          refine hv_iconst (v := nI 0) E dL_law_614 (by decide) ?_
          exact absurd h id
      by_cases e515 : ((xs l3.toNatClampNeg) &&& (nI 15)) = nI 15
      · have h := hsw.2.2.2.2.2.2.2.2.2.2.2.2.2.2.2 e515
        refine hv_tableIn (off := 584) (tgt := 616) E dL_law_32 (by rw [e515]; decide) (by rw [e515]; decide) (by rw [e515]; decide) (by decide) ?_
        refine hv_aload_n E dL_law_616 rfl 1 rfl ?_
        refine hv_aload_nQ E dL_law_617 rfl 0 rfl ?_
        refine hv_iload_n E dL_law_618 rfl 3 rfl ?_
        refine hv_iconst (v := nI 1) E dL_law_619 (by decide) ?_
        refine hv_iadd (v := l3 + (nI 1)) E dL_law_620 rfl ?_
        obtain ⟨h79, h⟩ := h
        refine hv_sld E hX hbl h79 dL_law_621 ?_
        refine hv_i2l (v := (xs ((l3 + (nI 1)).toNatClampNeg)).toInt64) E dL_law_622 rfl ?_
        refine hv_bipush (v := nI 32) E dL_law_623 (by decide) ?_
        refine hv_lshl (v := ((xs ((l3 + (nI 1)).toNatClampNeg)).toInt64) <<< ((nI 32).toInt64 &&& 63)) E dL_law_625 rfl ?_
        refine hv_aload_nQ E dL_law_626 rfl 0 rfl ?_
        refine hv_iload_n E dL_law_627 rfl 3 rfl ?_
        refine hv_iconst (v := nI 2) E dL_law_628 (by decide) ?_
        refine hv_iadd (v := l3 + (nI 2)) E dL_law_629 rfl ?_
        obtain ⟨h80, h⟩ := h
        refine hv_sld E hX hbl h80 dL_law_630 ?_
        refine hv_i2l (v := (xs ((l3 + (nI 2)).toNatClampNeg)).toInt64) E dL_law_631 rfl ?_
        refine hv_ldc2 (v := 4294967295) E wd_660 dL_law_632 ?_
        refine hv_land (v := ((xs ((l3 + (nI 2)).toNatClampNeg)).toInt64) &&& 4294967295) E dL_law_635 rfl ?_
        refine hv_lor (v := (((xs ((l3 + (nI 1)).toNatClampNeg)).toInt64) <<< ((nI 32).toInt64 &&& 63)) ||| (((xs ((l3 + (nI 2)).toNatClampNeg)).toInt64) &&& 4294967295)) E dL_law_636 rfl ?_
        refine hv_aload_nQ E dL_law_637 rfl 0 rfl ?_
        refine hv_iload_n E dL_law_638 rfl 3 rfl ?_
        refine hv_iconst (v := nI 3) E dL_law_639 (by decide) ?_
        refine hv_iadd (v := l3 + (nI 3)) E dL_law_640 rfl ?_
        obtain ⟨h81, h⟩ := h
        refine hv_sld E hX hbl h81 dL_law_641 ?_
        refine hv_VI E [aL ((((xs ((l3 + (nI 1)).toNatClampNeg)).toInt64) <<< ((nI 32).toInt64 &&& 63)) ||| (((xs ((l3 + (nI 2)).toNatClampNeg)).toInt64) &&& 4294967295)), aI (xs ((l3 + (nI 3)).toNatClampNeg))] (c_X3_play l _ ((((xs ((l3 + (nI 1)).toNatClampNeg)).toInt64) <<< ((nI 32).toInt64 &&& 63)) ||| (((xs ((l3 + (nI 2)).toNatClampNeg)).toInt64) &&& 4294967295)) (xs ((l3 + (nI 3)).toNatClampNeg)) x hs h) (hp_cwV 2 E wd_400 wd_401 wd_402 wd_39 wd_403 rfl rfl (by decide +kernel) ⟨(Nat.le_of_ble_eq_true rfl), (Nat.le_of_ble_eq_true rfl)⟩) rfl rfl rfl rfl (Nat.le_of_ble_eq_true rfl) dL_law_642 ⟨by show _ ≤ 600000; omega, by show _ ≤ 7302250; omega⟩ (fun r642 x642 hs h => ?_)
        refine hv_aload_n E dL_law_645 rfl 2 rfl ?_
        refine hv_aload_nQ E dL_law_646 rfl 0 rfl ?_
        refine hv_iload_n E dL_law_647 rfl 3 rfl ?_
        refine hv_iconst (v := nI 1) E dL_law_648 (by decide) ?_
        refine hv_iadd (v := l3 + (nI 1)) E dL_law_649 rfl ?_
        obtain ⟨h82, h⟩ := h
        refine hv_sld E hX hbl h82 dL_law_650 ?_
        refine hv_i2l (v := (xs ((l3 + (nI 1)).toNatClampNeg)).toInt64) E dL_law_651 rfl ?_
        refine hv_bipush (v := nI 32) E dL_law_652 (by decide) ?_
        refine hv_lshl (v := ((xs ((l3 + (nI 1)).toNatClampNeg)).toInt64) <<< ((nI 32).toInt64 &&& 63)) E dL_law_654 rfl ?_
        refine hv_aload_nQ E dL_law_655 rfl 0 rfl ?_
        refine hv_iload_n E dL_law_656 rfl 3 rfl ?_
        refine hv_iconst (v := nI 2) E dL_law_657 (by decide) ?_
        refine hv_iadd (v := l3 + (nI 2)) E dL_law_658 rfl ?_
        obtain ⟨h83, h⟩ := h
        refine hv_sld E hX hbl h83 dL_law_659 ?_
        refine hv_i2l (v := (xs ((l3 + (nI 2)).toNatClampNeg)).toInt64) E dL_law_660 rfl ?_
        refine hv_ldc2 (v := 4294967295) E wd_660 dL_law_661 ?_
        refine hv_land (v := ((xs ((l3 + (nI 2)).toNatClampNeg)).toInt64) &&& 4294967295) E dL_law_664 rfl ?_
        refine hv_lor (v := (((xs ((l3 + (nI 1)).toNatClampNeg)).toInt64) <<< ((nI 32).toInt64 &&& 63)) ||| (((xs ((l3 + (nI 2)).toNatClampNeg)).toInt64) &&& 4294967295)) E dL_law_665 rfl ?_
        refine hv_aload_nQ E dL_law_666 rfl 0 rfl ?_
        refine hv_iload_n E dL_law_667 rfl 3 rfl ?_
        refine hv_iconst (v := nI 3) E dL_law_668 (by decide) ?_
        refine hv_iadd (v := l3 + (nI 3)) E dL_law_669 rfl ?_
        obtain ⟨h84, h⟩ := h
        refine hv_sld E hX hbl h84 dL_law_670 ?_
        refine hv_VI E [aL ((((xs ((l3 + (nI 1)).toNatClampNeg)).toInt64) <<< ((nI 32).toInt64 &&& 63)) ||| (((xs ((l3 + (nI 2)).toNatClampNeg)).toInt64) &&& 4294967295)), aI (xs ((l3 + (nI 3)).toNatClampNeg))] (c_X4_play l _ ((((xs ((l3 + (nI 1)).toNatClampNeg)).toInt64) <<< ((nI 32).toInt64 &&& 63)) ||| (((xs ((l3 + (nI 2)).toNatClampNeg)).toInt64) &&& 4294967295)) (xs ((l3 + (nI 3)).toNatClampNeg)) x642 hs h) (hp_cwV 2 E wd_653 wd_654 wd_655 wd_41 wd_656 rfl rfl (by decide +kernel) ⟨(Nat.le_of_ble_eq_true rfl), (Nat.le_of_ble_eq_true rfl)⟩) rfl rfl rfl rfl (Nat.le_of_ble_eq_true rfl) dL_law_671 ⟨by show _ ≤ 600000; omega, by show _ ≤ 7302250; omega⟩ (fun r671 x671 hs h => ?_)
        refine hv_icmp_eq (tgt := 679) E dL_law_674 (by decide) (fun c85 => ?_) (fun c85 => ?_)
        · have h := h.1 c85
          refine hv_iinc (v := l3 + nI 5) (lv' := [(0, aQ b), (1, aR (0, 0)), (2, aR (20, 0))]) E 3 dL_law_679 rfl (hx_i5 _) (by decide) rfl ?_
          refine hv_goto (tgt := 18) E dL_law_682 (by decide) ?_
          refine hv_lv [1, 2, 3, 0] rfl ?_
          exact ih _ _ x671 (l3 + nI 5) (by omega) (by omega) hs h
        · have h := h.2 c85
          refine hv_iconst (v := nI 0) E dL_law_677 (by decide) ?_
          exact absurd h id
      have h := hdf e50 e51 e52 e53 e54 e55 e56 e57 e58 e59 e510 e511 e512 e513 e514 e515
      refine hv_tableOut (tgt := 679) E dL_law_32 (hx_out16 e50 e51 e52 e53 e54 e55 e56 e57 e58 e59 e510 e511 e512 e513 e514 e515) (by decide) ?_
      refine hv_iinc (v := l3 + nI 5) (lv' := [(0, aQ b), (1, aR (0, 0)), (2, aR (20, 0))]) E 3 dL_law_679 rfl (hx_i5 _) (by decide) rfl ?_
      refine hv_goto (tgt := 18) E dL_law_682 (by decide) ?_
      refine hv_lv [1, 2, 3, 0] rfl ?_
      exact ih _ _ x (l3 + nI 5) (by omega) (by omega) hs h
set_option maxRecDepth 100000 in
set_option maxHeartbeats 8000000 in
theorem w_law {p : Program} {l : Launch} {e : Env} {s : State} {m : MethodId} {below : List Frame} {meth : Method} {c : Code} {D : va_G} {cA : Nat → ClassId} {B0 : Nat} {ad0 : hp_T → Nat} {x0 : hp_S} {b L : Nat} {xs : Nat → Int32} (E : hp_E p s m #[Value.ref b] meth c code 4 "VersionJoinsLaw" hp_ws D cA B0) (hret : meth.sig.returnType = ret) (hB0 : B0 = s.heap.size) (hX : va_X b L xs s s.heap) (hbl : b < B0) (hL : L ≤ 2560) (h : k_law L xs) : hp_V p l e room_1 s m #[Value.ref b] below meth c (fun _ => lw_Z below #[Value.ref b] s) D cA B0 4 ad0 x0 0 0 hp_x0 0 [(0, aQ b)] [] := by
  unfold k_law at h
  obtain ⟨h1, h⟩ := h
  refine hv_new E (0, 0) tyX3 okX3 dL_law_0 rfl rfl hiX3 wd_46 wd_47 wd_39 nwX3 h1 (Nat.le_of_ble_eq_true rfl) (Nat.le_of_ble_eq_true rfl) ?_
  refine hv_dup E dL_law_3 rfl ?_
  refine hv_I0 E [] (c_X3_init l _  (hp_nw hp_x0 (0, 0)) h) (hp_cwI 0 E wd_48 wd_49 wd_39 wd_50 rfl rfl rfl (by decide +kernel) ⟨(Nat.le_of_ble_eq_true rfl), (Nat.le_of_ble_eq_true rfl)⟩) rfl rfl (Nat.le_of_ble_eq_true rfl) dL_law_4 ⟨(Nat.le_of_ble_eq_true rfl), (Nat.le_of_ble_eq_true rfl)⟩ (fun x4 h => ?_)
  refine hv_astore_n (lv' := [(0, aQ b)]) E dL_law_7 rfl (by decide) rfl ?_
  obtain ⟨h2, h⟩ := h
  refine hv_new E (20, 0) tyX4 okX4 dL_law_8 rfl rfl hiX4 wd_411 wd_412 wd_41 nwX4 h2 (Nat.le_of_ble_eq_true rfl) (Nat.le_of_ble_eq_true rfl) ?_
  refine hv_dup E dL_law_11 rfl ?_
  refine hv_I0 E [] (c_X4_init l _  (hp_nw x4 (20, 0)) h) (hp_cwI 0 E wd_413 wd_414 wd_41 wd_415 rfl rfl rfl (by decide +kernel) ⟨(Nat.le_of_ble_eq_true rfl), (Nat.le_of_ble_eq_true rfl)⟩) rfl rfl (Nat.le_of_ble_eq_true rfl) dL_law_12 ⟨(Nat.le_of_ble_eq_true rfl), (Nat.le_of_ble_eq_true rfl)⟩ (fun x12 h => ?_)
  refine hv_astore_n (lv' := [(1, aR (0, 0)), (0, aQ b)]) E dL_law_15 rfl (by decide) rfl ?_
  refine hv_iconst (v := nI 0) E dL_law_16 (by decide) ?_
  refine hv_istore_n (lv' := [(2, aR (20, 0)), (1, aR (0, 0)), (0, aQ b)]) E dL_law_17 rfl (by decide) rfl ?_
  obtain ⟨hs, q, hq, h⟩ := h
  refine hv_lv [3, 2, 1, 0] rfl ?_
  exact w_law_18 E hret hB0 hX hbl q _ _ x12 (nI 0) (by omega) (by omega) hs h
