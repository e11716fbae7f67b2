-- VersionJoinsModel.<init>()V
def k_X4_init (P : hp_S → Prop)  (x : hp_S) : Prop := (hp_uI x (20, 0) 1 (nI 1)).1 (21, 0) = false ∧ ((hp_uR (hp_nw (hp_uI x (20, 0) 1 (nI 1)) (21, 0)) (20, 0) 2 (some (21, 0))).1 (22, 0) = false ∧ ((hp_uR (hp_nw (hp_uR (hp_nw (hp_uI x (20, 0) 1 (nI 1)) (21, 0)) (20, 0) 2 (some (21, 0))) (22, 0)) (20, 0) 4 (some (22, 0))).1 (23, 0) = false ∧ ((hp_uR (hp_nw (hp_uR (hp_nw (hp_uR (hp_nw (hp_uI x (20, 0) 1 (nI 1)) (21, 0)) (20, 0) 2 (some (21, 0))) (22, 0)) (20, 0) 4 (some (22, 0))) (23, 0)) (20, 0) 5 (some (23, 0))).1 (24, 0) = false ∧ ((hp_uR (hp_nw (hp_uR (hp_nw (hp_uR (hp_nw (hp_uR (hp_nw (hp_uI x (20, 0) 1 (nI 1)) (21, 0)) (20, 0) 2 (some (21, 0))) (22, 0)) (20, 0) 4 (some (22, 0))) (23, 0)) (20, 0) 5 (some (23, 0))) (24, 0)) (20, 0) 6 (some (24, 0))).1 (25, 0) = false ∧ ((hp_uR (hp_nw (hp_uR (hp_nw (hp_uR (hp_nw (hp_uR (hp_nw (hp_uR (hp_nw (hp_uI x (20, 0) 1 (nI 1)) (21, 0)) (20, 0) 2 (some (21, 0))) (22, 0)) (20, 0) 4 (some (22, 0))) (23, 0)) (20, 0) 5 (some (23, 0))) (24, 0)) (20, 0) 6 (some (24, 0))) (25, 0)) (20, 0) 7 (some (25, 0))).1 (26, 0) = false ∧ ((hp_uR (hp_nw (hp_uR (hp_nw (hp_uR (hp_nw (hp_uR (hp_nw (hp_uR (hp_nw (hp_uR (hp_nw (hp_uI x (20, 0) 1 (nI 1)) (21, 0)) (20, 0) 2 (some (21, 0))) (22, 0)) (20, 0) 4 (some (22, 0))) (23, 0)) (20, 0) 5 (some (23, 0))) (24, 0)) (20, 0) 6 (some (24, 0))) (25, 0)) (20, 0) 7 (some (25, 0))) (26, 0)) (20, 0) 8 (some (26, 0))).1 (27, 0) = false ∧ ((hp_uR (hp_nw (hp_uR (hp_nw (hp_uR (hp_nw (hp_uR (hp_nw (hp_uR (hp_nw (hp_uR (hp_nw (hp_uR (hp_nw (hp_uI x (20, 0) 1 (nI 1)) (21, 0)) (20, 0) 2 (some (21, 0))) (22, 0)) (20, 0) 4 (some (22, 0))) (23, 0)) (20, 0) 5 (some (23, 0))) (24, 0)) (20, 0) 6 (some (24, 0))) (25, 0)) (20, 0) 7 (some (25, 0))) (26, 0)) (20, 0) 8 (some (26, 0))) (27, 0)) (20, 0) 11 (some (27, 0))).1 (28, 0) = false ∧ ((hp_uR (hp_nw (hp_uR (hp_nw (hp_uR (hp_nw (hp_uR (hp_nw (hp_uR (hp_nw (hp_uR (hp_nw (hp_uR (hp_nw (hp_uR (hp_nw (hp_uI x (20, 0) 1 (nI 1)) (21, 0)) (20, 0) 2 (some (21, 0))) (22, 0)) (20, 0) 4 (some (22, 0))) (23, 0)) (20, 0) 5 (some (23, 0))) (24, 0)) (20, 0) 6 (some (24, 0))) (25, 0)) (20, 0) 7 (some (25, 0))) (26, 0)) (20, 0) 8 (some (26, 0))) (27, 0)) (20, 0) 11 (some (27, 0))) (28, 0)) (20, 0) 12 (some (28, 0))).1 (29, 0) = false ∧ ((hp_uR (hp_nw (hp_uR (hp_nw (hp_uR (hp_nw (hp_uR (hp_nw (hp_uR (hp_nw (hp_uR (hp_nw (hp_uR (hp_nw (hp_uR (hp_nw (hp_uR (hp_nw (hp_uI x (20, 0) 1 (nI 1)) (21, 0)) (20, 0) 2 (some (21, 0))) (22, 0)) (20, 0) 4 (some (22, 0))) (23, 0)) (20, 0) 5 (some (23, 0))) (24, 0)) (20, 0) 6 (some (24, 0))) (25, 0)) (20, 0) 7 (some (25, 0))) (26, 0)) (20, 0) 8 (some (26, 0))) (27, 0)) (20, 0) 11 (some (27, 0))) (28, 0)) (20, 0) 12 (some (28, 0))) (29, 0)) (20, 0) 13 (some (29, 0))).1 (30, 0) = false ∧ ((hp_uR (hp_nw (hp_uR (hp_nw (hp_uR (hp_nw (hp_uR (hp_nw (hp_uR (hp_nw (hp_uR (hp_nw (hp_uR (hp_nw (hp_uR (hp_nw (hp_uR (hp_nw (hp_uR (hp_nw (hp_uI x (20, 0) 1 (nI 1)) (21, 0)) (20, 0) 2 (some (21, 0))) (22, 0)) (20, 0) 4 (some (22, 0))) (23, 0)) (20, 0) 5 (some (23, 0))) (24, 0)) (20, 0) 6 (some (24, 0))) (25, 0)) (20, 0) 7 (some (25, 0))) (26, 0)) (20, 0) 8 (some (26, 0))) (27, 0)) (20, 0) 11 (some (27, 0))) (28, 0)) (20, 0) 12 (some (28, 0))) (29, 0)) (20, 0) 13 (some (29, 0))) (30, 0)) (20, 0) 14 (some (30, 0))).1 (31, 0) = false ∧ ((hp_uR (hp_nw (hp_uR (hp_nw (hp_uR (hp_nw (hp_uR (hp_nw (hp_uR (hp_nw (hp_uR (hp_nw (hp_uR (hp_nw (hp_uR (hp_nw (hp_uR (hp_nw (hp_uR (hp_nw (hp_uR (hp_nw (hp_uI x (20, 0) 1 (nI 1)) (21, 0)) (20, 0) 2 (some (21, 0))) (22, 0)) (20, 0) 4 (some (22, 0))) (23, 0)) (20, 0) 5 (some (23, 0))) (24, 0)) (20, 0) 6 (some (24, 0))) (25, 0)) (20, 0) 7 (some (25, 0))) (26, 0)) (20, 0) 8 (some (26, 0))) (27, 0)) (20, 0) 11 (some (27, 0))) (28, 0)) (20, 0) 12 (some (28, 0))) (29, 0)) (20, 0) 13 (some (29, 0))) (30, 0)) (20, 0) 14 (some (30, 0))) (31, 0)) (20, 0) 16 (some (31, 0))).1 (32, 0) = false ∧ ((hp_uR (hp_nw (hp_uR (hp_nw (hp_uR (hp_nw (hp_uR (hp_nw (hp_uR (hp_nw (hp_uR (hp_nw (hp_uR (hp_nw (hp_uR (hp_nw (hp_uR (hp_nw (hp_uR (hp_nw (hp_uR (hp_nw (hp_uR (hp_nw (hp_uI x (20, 0) 1 (nI 1)) (21, 0)) (20, 0) 2 (some (21, 0))) (22, 0)) (20, 0) 4 (some (22, 0))) (23, 0)) (20, 0) 5 (some (23, 0))) (24, 0)) (20, 0) 6 (some (24, 0))) (25, 0)) (20, 0) 7 (some (25, 0))) (26, 0)) (20, 0) 8 (some (26, 0))) (27, 0)) (20, 0) 11 (some (27, 0))) (28, 0)) (20, 0) 12 (some (28, 0))) (29, 0)) (20, 0) 13 (some (29, 0))) (30, 0)) (20, 0) 14 (some (30, 0))) (31, 0)) (20, 0) 16 (some (31, 0))) (32, 0)) (20, 0) 17 (some (32, 0))).1 (33, 0) = false ∧ ((hp_uR (hp_nw (hp_uR (hp_nw (hp_uR (hp_nw (hp_uR (hp_nw (hp_uR (hp_nw (hp_uR (hp_nw (hp_uR (hp_nw (hp_uR (hp_nw (hp_uR (hp_nw (hp_uR (hp_nw (hp_uR (hp_nw (hp_uR (hp_nw (hp_uR (hp_nw (hp_uI x (20, 0) 1 (nI 1)) (21, 0)) (20, 0) 2 (some (21, 0))) (22, 0)) (20, 0) 4 (some (22, 0))) (23, 0)) (20, 0) 5 (some (23, 0))) (24, 0)) (20, 0) 6 (some (24, 0))) (25, 0)) (20, 0) 7 (some (25, 0))) (26, 0)) (20, 0) 8 (some (26, 0))) (27, 0)) (20, 0) 11 (some (27, 0))) (28, 0)) (20, 0) 12 (some (28, 0))) (29, 0)) (20, 0) 13 (some (29, 0))) (30, 0)) (20, 0) 14 (some (30, 0))) (31, 0)) (20, 0) 16 (some (31, 0))) (32, 0)) (20, 0) 17 (some (32, 0))) (33, 0)) (20, 0) 18 (some (33, 0))).1 (34, 0) = false ∧ ((hp_uR (hp_nw (hp_uR (hp_nw (hp_uR (hp_nw (hp_uR (hp_nw (hp_uR (hp_nw (hp_uR (hp_nw (hp_uR (hp_nw (hp_uR (hp_nw (hp_uR (hp_nw (hp_uR (hp_nw (hp_uR (hp_nw (hp_uR (hp_nw (hp_uR (hp_nw (hp_uR (hp_nw (hp_uI x (20, 0) 1 (nI 1)) (21, 0)) (20, 0) 2 (some (21, 0))) (22, 0)) (20, 0) 4 (some (22, 0))) (23, 0)) (20, 0) 5 (some (23, 0))) (24, 0)) (20, 0) 6 (some (24, 0))) (25, 0)) (20, 0) 7 (some (25, 0))) (26, 0)) (20, 0) 8 (some (26, 0))) (27, 0)) (20, 0) 11 (some (27, 0))) (28, 0)) (20, 0) 12 (some (28, 0))) (29, 0)) (20, 0) 13 (some (29, 0))) (30, 0)) (20, 0) 14 (some (30, 0))) (31, 0)) (20, 0) 16 (some (31, 0))) (32, 0)) (20, 0) 17 (some (32, 0))) (33, 0)) (20, 0) 18 (some (33, 0))) (34, 0)) (20, 0) 19 (some (34, 0))).1 (35, 0) = false ∧ ((hp_uR (hp_nw (hp_uR (hp_nw (hp_uR (hp_nw (hp_uR (hp_nw (hp_uR (hp_nw (hp_uR (hp_nw (hp_uR (hp_nw (hp_uR (hp_nw (hp_uR (hp_nw (hp_uR (hp_nw (hp_uR (hp_nw (hp_uR (hp_nw (hp_uR (hp_nw (hp_uR (hp_nw (hp_uR (hp_nw (hp_uI x (20, 0) 1 (nI 1)) (21, 0)) (20, 0) 2 (some (21, 0))) (22, 0)) (20, 0) 4 (some (22, 0))) (23, 0)) (20, 0) 5 (some (23, 0))) (24, 0)) (20, 0) 6 (some (24, 0))) (25, 0)) (20, 0) 7 (some (25, 0))) (26, 0)) (20, 0) 8 (some (26, 0))) (27, 0)) (20, 0) 11 (some (27, 0))) (28, 0)) (20, 0) 12 (some (28, 0))) (29, 0)) (20, 0) 13 (some (29, 0))) (30, 0)) (20, 0) 14 (some (30, 0))) (31, 0)) (20, 0) 16 (some (31, 0))) (32, 0)) (20, 0) 17 (some (32, 0))) (33, 0)) (20, 0) 18 (some (33, 0))) (34, 0)) (20, 0) 19 (some (34, 0))) (35, 0)) (20, 0) 20 (some (35, 0))).1 (36, 0) = false ∧ ((hp_uR (hp_nw (hp_uR (hp_nw (hp_uR (hp_nw (hp_uR (hp_nw (hp_uR (hp_nw (hp_uR (hp_nw (hp_uR (hp_nw (hp_uR (hp_nw (hp_uR (hp_nw (hp_uR (hp_nw (hp_uR (hp_nw (hp_uR (hp_nw (hp_uR (hp_nw (hp_uR (hp_nw (hp_uR (hp_nw (hp_uR (hp_nw (hp_uI x (20, 0) 1 (nI 1)) (21, 0)) (20, 0) 2 (some (21, 0))) (22, 0)) (20, 0) 4 (some (22, 0))) (23, 0)) (20, 0) 5 (some (23, 0))) (24, 0)) (20, 0) 6 (some (24, 0))) (25, 0)) (20, 0) 7 (some (25, 0))) (26, 0)) (20, 0) 8 (some (26, 0))) (27, 0)) (20, 0) 11 (some (27, 0))) (28, 0)) (20, 0) 12 (some (28, 0))) (29, 0)) (20, 0) 13 (some (29, 0))) (30, 0)) (20, 0) 14 (some (30, 0))) (31, 0)) (20, 0) 16 (some (31, 0))) (32, 0)) (20, 0) 17 (some (32, 0))) (33, 0)) (20, 0) 18 (some (33, 0))) (34, 0)) (20, 0) 19 (some (34, 0))) (35, 0)) (20, 0) 20 (some (35, 0))) (36, 0)) (20, 0) 21 (some (36, 0))).1 (37, 0) = false ∧ ((hp_uR (hp_nw (hp_uR (hp_nw (hp_uR (hp_nw (hp_uR (hp_nw (hp_uR (hp_nw (hp_uR (hp_nw (hp_uR (hp_nw (hp_uR (hp_nw (hp_uR (hp_nw (hp_uR (hp_nw (hp_uR (hp_nw (hp_uR (hp_nw (hp_uR (hp_nw (hp_uR (hp_nw (hp_uR (hp_nw (hp_uR (hp_nw (hp_uR (hp_nw (hp_uI x (20, 0) 1 (nI 1)) (21, 0)) (20, 0) 2 (some (21, 0))) (22, 0)) (20, 0) 4 (some (22, 0))) (23, 0)) (20, 0) 5 (some (23, 0))) (24, 0)) (20, 0) 6 (some (24, 0))) (25, 0)) (20, 0) 7 (some (25, 0))) (26, 0)) (20, 0) 8 (some (26, 0))) (27, 0)) (20, 0) 11 (some (27, 0))) (28, 0)) (20, 0) 12 (some (28, 0))) (29, 0)) (20, 0) 13 (some (29, 0))) (30, 0)) (20, 0) 14 (some (30, 0))) (31, 0)) (20, 0) 16 (some (31, 0))) (32, 0)) (20, 0) 17 (some (32, 0))) (33, 0)) (20, 0) 18 (some (33, 0))) (34, 0)) (20, 0) 19 (some (34, 0))) (35, 0)) (20, 0) 20 (some (35, 0))) (36, 0)) (20, 0) 21 (some (36, 0))) (37, 0)) (20, 0) 22 (some (37, 0))).1 (38, 0) = false ∧ ((hp_uR (hp_nw (hp_uR (hp_nw (hp_uR (hp_nw (hp_uR (hp_nw (hp_uR (hp_nw (hp_uR (hp_nw (hp_uR (hp_nw (hp_uR (hp_nw (hp_uR (hp_nw (hp_uR (hp_nw (hp_uR (hp_nw (hp_uR (hp_nw (hp_uR (hp_nw (hp_uR (hp_nw (hp_uR (hp_nw (hp_uR (hp_nw (hp_uR (hp_nw (hp_uR (hp_nw (hp_uI x (20, 0) 1 (nI 1)) (21, 0)) (20, 0) 2 (some (21, 0))) (22, 0)) (20, 0) 4 (some (22, 0))) (23, 0)) (20, 0) 5 (some (23, 0))) (24, 0)) (20, 0) 6 (some (24, 0))) (25, 0)) (20, 0) 7 (some (25, 0))) (26, 0)) (20, 0) 8 (some (26, 0))) (27, 0)) (20, 0) 11 (some (27, 0))) (28, 0)) (20, 0) 12 (some (28, 0))) (29, 0)) (20, 0) 13 (some (29, 0))) (30, 0)) (20, 0) 14 (some (30, 0))) (31, 0)) (20, 0) 16 (some (31, 0))) (32, 0)) (20, 0) 17 (some (32, 0))) (33, 0)) (20, 0) 18 (some (33, 0))) (34, 0)) (20, 0) 19 (some (34, 0))) (35, 0)) (20, 0) 20 (some (35, 0))) (36, 0)) (20, 0) 21 (some (36, 0))) (37, 0)) (20, 0) 22 (some (37, 0))) (38, 0)) (20, 0) 23 (some (38, 0))).1 (39, 0) = false ∧ ((hp_uR (hp_nw (hp_uR (hp_nw (hp_uR (hp_nw (hp_uR (hp_nw (hp_uR (hp_nw (hp_uR (hp_nw (hp_uR (hp_nw (hp_uR (hp_nw (hp_uR (hp_nw (hp_uR (hp_nw (hp_uR (hp_nw (hp_uR (hp_nw (hp_uR (hp_nw (hp_uR (hp_nw (hp_uR (hp_nw (hp_uR (hp_nw (hp_uR (hp_nw (hp_uR (hp_nw (hp_uR (hp_nw (hp_uI x (20, 0) 1 (nI 1)) (21, 0)) (20, 0) 2 (some (21, 0))) (22, 0)) (20, 0) 4 (some (22, 0))) (23, 0)) (20, 0) 5 (some (23, 0))) (24, 0)) (20, 0) 6 (some (24, 0))) (25, 0)) (20, 0) 7 (some (25, 0))) (26, 0)) (20, 0) 8 (some (26, 0))) (27, 0)) (20, 0) 11 (some (27, 0))) (28, 0)) (20, 0) 12 (some (28, 0))) (29, 0)) (20, 0) 13 (some (29, 0))) (30, 0)) (20, 0) 14 (some (30, 0))) (31, 0)) (20, 0) 16 (some (31, 0))) (32, 0)) (20, 0) 17 (some (32, 0))) (33, 0)) (20, 0) 18 (some (33, 0))) (34, 0)) (20, 0) 19 (some (34, 0))) (35, 0)) (20, 0) 20 (some (35, 0))) (36, 0)) (20, 0) 21 (some (36, 0))) (37, 0)) (20, 0) 22 (some (37, 0))) (38, 0)) (20, 0) 23 (some (38, 0))) (39, 0)) (20, 0) 24 (some (39, 0))).1 (40, 0) = false ∧ ((hp_uR (hp_nw (hp_uR (hp_nw (hp_uR (hp_nw (hp_uR (hp_nw (hp_uR (hp_nw (hp_uR (hp_nw (hp_uR (hp_nw (hp_uR (hp_nw (hp_uR (hp_nw (hp_uR (hp_nw (hp_uR (hp_nw (hp_uR (hp_nw (hp_uR (hp_nw (hp_uR (hp_nw (hp_uR (hp_nw (hp_uR (hp_nw (hp_uR (hp_nw (hp_uR (hp_nw (hp_uR (hp_nw (hp_uR (hp_nw (hp_uI x (20, 0) 1 (nI 1)) (21, 0)) (20, 0) 2 (some (21, 0))) (22, 0)) (20, 0) 4 (some (22, 0))) (23, 0)) (20, 0) 5 (some (23, 0))) (24, 0)) (20, 0) 6 (some (24, 0))) (25, 0)) (20, 0) 7 (some (25, 0))) (26, 0)) (20, 0) 8 (some (26, 0))) (27, 0)) (20, 0) 11 (some (27, 0))) (28, 0)) (20, 0) 12 (some (28, 0))) (29, 0)) (20, 0) 13 (some (29, 0))) (30, 0)) (20, 0) 14 (some (30, 0))) (31, 0)) (20, 0) 16 (some (31, 0))) (32, 0)) (20, 0) 17 (some (32, 0))) (33, 0)) (20, 0) 18 (some (33, 0))) (34, 0)) (20, 0) 19 (some (34, 0))) (35, 0)) (20, 0) 20 (some (35, 0))) (36, 0)) (20, 0) 21 (some (36, 0))) (37, 0)) (20, 0) 22 (some (37, 0))) (38, 0)) (20, 0) 23 (some (38, 0))) (39, 0)) (20, 0) 24 (some (39, 0))) (40, 0)) (20, 0) 25 (some (40, 0))).1 (41, 0) = false ∧ ((hp_uR (hp_nw (hp_uR (hp_nw (hp_uR (hp_nw (hp_uR (hp_nw (hp_uR (hp_nw (hp_uR (hp_nw (hp_uR (hp_nw (hp_uR (hp_nw (hp_uR (hp_nw (hp_uR (hp_nw (hp_uR (hp_nw (hp_uR (hp_nw (hp_uR (hp_nw (hp_uR (hp_nw (hp_uR (hp_nw (hp_uR (hp_nw (hp_uR (hp_nw (hp_uR (hp_nw (hp_uR (hp_nw (hp_uR (hp_nw (hp_uR (hp_nw (hp_uI x (20, 0) 1 (nI 1)) (21, 0)) (20, 0) 2 (some (21, 0))) (22, 0)) (20, 0) 4 (some (22, 0))) (23, 0)) (20, 0) 5 (some (23, 0))) (24, 0)) (20, 0) 6 (some (24, 0))) (25, 0)) (20, 0) 7 (some (25, 0))) (26, 0)) (20, 0) 8 (some (26, 0))) (27, 0)) (20, 0) 11 (some (27, 0))) (28, 0)) (20, 0) 12 (some (28, 0))) (29, 0)) (20, 0) 13 (some (29, 0))) (30, 0)) (20, 0) 14 (some (30, 0))) (31, 0)) (20, 0) 16 (some (31, 0))) (32, 0)) (20, 0) 17 (some (32, 0))) (33, 0)) (20, 0) 18 (some (33, 0))) (34, 0)) (20, 0) 19 (some (34, 0))) (35, 0)) (20, 0) 20 (some (35, 0))) (36, 0)) (20, 0) 21 (some (36, 0))) (37, 0)) (20, 0) 22 (some (37, 0))) (38, 0)) (20, 0) 23 (some (38, 0))) (39, 0)) (20, 0) 24 (some (39, 0))) (40, 0)) (20, 0) 25 (some (40, 0))) (41, 0)) (20, 0) 26 (some (41, 0))).1 (42, 0) = false ∧ (P (hp_uR (hp_nw (hp_uR (hp_nw (hp_uR (hp_nw (hp_uR (hp_nw (hp_uR (hp_nw (hp_uR (hp_nw (hp_uR (hp_nw (hp_uR (hp_nw (hp_uR (hp_nw (hp_uR (hp_nw (hp_uR (hp_nw (hp_uR (hp_nw (hp_uR (hp_nw (hp_uR (hp_nw (hp_uR (hp_nw (hp_uR (hp_nw (hp_uR (hp_nw (hp_uR (hp_nw (hp_uR (hp_nw (hp_uR (hp_nw (hp_uR (hp_nw (hp_uR (hp_nw (hp_uI x (20, 0) 1 (nI 1)) (21, 0)) (20, 0) 2 (some (21, 0))) (22, 0)) (20, 0) 4 (some (22, 0))) (23, 0)) (20, 0) 5 (some (23, 0))) (24, 0)) (20, 0) 6 (some (24, 0))) (25, 0)) (20, 0) 7 (some (25, 0))) (26, 0)) (20, 0) 8 (some (26, 0))) (27, 0)) (20, 0) 11 (some (27, 0))) (28, 0)) (20, 0) 12 (some (28, 0))) (29, 0)) (20, 0) 13 (some (29, 0))) (30, 0)) (20, 0) 14 (some (30, 0))) (31, 0)) (20, 0) 16 (some (31, 0))) (32, 0)) (20, 0) 17 (some (32, 0))) (33, 0)) (20, 0) 18 (some (33, 0))) (34, 0)) (20, 0) 19 (some (34, 0))) (35, 0)) (20, 0) 20 (some (35, 0))) (36, 0)) (20, 0) 21 (some (36, 0))) (37, 0)) (20, 0) 22 (some (37, 0))) (38, 0)) (20, 0) 23 (some (38, 0))) (39, 0)) (20, 0) 24 (some (39, 0))) (40, 0)) (20, 0) 25 (some (40, 0))) (41, 0)) (20, 0) 26 (some (41, 0))) (42, 0)) (20, 0) 27 (some (42, 0)))))))))))))))))))))))))
abbrev rm_X4_init : Room := ({ frames := 1, cells := 22, slots := 4468, locals := 20 } : Room)
set_option maxRecDepth 100000 in
set_option maxHeartbeats 4000000 in
theorem c_X4_init (l : Launch) (P : hp_S → Prop)  (x : hp_S) (h : k_X4_init P  x) : hp_C l yX4_init (Cond.code yX4_init cX4_init 1 (Option.none : Option Jvm.ClassFile.FieldType) :: hp_ws) rm_X4_init [aR (20, 0)] x (hp_p0 P) 22 4468 := by
  refine hp_ofV (own := "VersionJoinsModel") (lv := [(0, aR (20, 0))]) (by decide) rfl (Nat.le_of_ble_eq_true rfl) rfl ?_
  intro p e s m args below meth c D cA B0 ad0 E hret hnm
  unfold k_X4_init at h
  refine hv_aload_n E dX4_init_0 rfl 0 rfl ?_
  refine hv_objInit E dX4_init_1 wd_416 wd_52 wd_53 (Nat.le_of_ble_eq_true rfl) (Nat.le_of_ble_eq_true rfl) ?_
  refine hv_aload_n E dX4_init_4 rfl 0 rfl ?_
  refine hv_iconst (v := nI 1) E dX4_init_5 (by decide) ?_
  refine hv_putI (ty := .int) (k := 1) E tyX4 okX4 nmX4 dX4_init_6 rfl rfl hiX4 (by decide) wd_418 rfl rfl (Or.inl rfl) (by decide +kernel) rfl rfl ?_
  refine hv_aload_n E dX4_init_9 rfl 0 rfl ?_
  refine hv_sipush (v := nI 144) E dX4_init_10 (by decide) ?_
  obtain ⟨h1, h⟩ := h
  refine hv_newa (i := nI 144) E (21, 0) dX4_init_13 wd_91 rfl (by decide) rfl ⟨by simp, by simp⟩ (by decide) (by decide) (by decide) h1 (Nat.le_of_ble_eq_true rfl) (Nat.le_of_ble_eq_true rfl) ?_
  refine hv_putR (ty := .array .long) (k := 2) E tyX4 okX4 nmX4 dX4_init_15 rfl rfl hiX4 (by decide) wd_419 rfl rfl (Or.inr ⟨rfl, hnm, rfl⟩) (by decide +kernel) (fun _ => rfl) (fun _ => rfl) ?_
  refine hv_aload_n E dX4_init_18 rfl 0 rfl ?_
  refine hv_bipush (v := nI 40) E dX4_init_19 (by decide) ?_
  obtain ⟨h2, h⟩ := h
  refine hv_newa (i := nI 40) E (22, 0) dX4_init_21 wd_93 rfl (by decide) rfl ⟨by simp, by simp⟩ (by decide) (by decide) (by decide) h2 (Nat.le_of_ble_eq_true rfl) (Nat.le_of_ble_eq_true rfl) ?_
  refine hv_putR (ty := .array .boolean) (k := 4) E tyX4 okX4 nmX4 dX4_init_23 rfl rfl hiX4 (by decide) wd_421 rfl rfl (Or.inr ⟨rfl, hnm, rfl⟩) (by decide +kernel) (fun _ => rfl) (fun _ => rfl) ?_
  refine hv_aload_n E dX4_init_26 rfl 0 rfl ?_
  refine hv_sipush (v := nI 960) E dX4_init_27 (by decide) ?_
  obtain ⟨h3, h⟩ := h
  refine hv_newa (i := nI 960) E (23, 0) dX4_init_30 wd_93 rfl (by decide) rfl ⟨by simp, by simp⟩ (by decide) (by decide) (by decide) h3 (Nat.le_of_ble_eq_true rfl) (Nat.le_of_ble_eq_true rfl) ?_
  refine hv_putR (ty := .array .boolean) (k := 5) E tyX4 okX4 nmX4 dX4_init_32 rfl rfl hiX4 (by decide) wd_422 rfl rfl (Or.inr ⟨rfl, hnm, rfl⟩) (by decide +kernel) (fun _ => rfl) (fun _ => rfl) ?_
  refine hv_aload_n E dX4_init_35 rfl 0 rfl ?_
  refine hv_sipush (v := nI 960) E dX4_init_36 (by decide) ?_
  obtain ⟨h4, h⟩ := h
  refine hv_newa (i := nI 960) E (24, 0) dX4_init_39 wd_93 rfl (by decide) rfl ⟨by simp, by simp⟩ (by decide) (by decide) (by decide) h4 (Nat.le_of_ble_eq_true rfl) (Nat.le_of_ble_eq_true rfl) ?_
  refine hv_putR (ty := .array .boolean) (k := 6) E tyX4 okX4 nmX4 dX4_init_41 rfl rfl hiX4 (by decide) wd_423 rfl rfl (Or.inr ⟨rfl, hnm, rfl⟩) (by decide +kernel) (fun _ => rfl) (fun _ => rfl) ?_
  refine hv_aload_n E dX4_init_44 rfl 0 rfl ?_
  refine hv_sipush (v := nI 960) E dX4_init_45 (by decide) ?_
  obtain ⟨h5, h⟩ := h
  refine hv_newa (i := nI 960) E (25, 0) dX4_init_48 wd_91 rfl (by decide) rfl ⟨by simp, by simp⟩ (by decide) (by decide) (by decide) h5 (Nat.le_of_ble_eq_true rfl) (Nat.le_of_ble_eq_true rfl) ?_
  refine hv_putR (ty := .array .long) (k := 7) E tyX4 okX4 nmX4 dX4_init_50 rfl rfl hiX4 (by decide) wd_424 rfl rfl (Or.inr ⟨rfl, hnm, rfl⟩) (by decide +kernel) (fun _ => rfl) (fun _ => rfl) ?_
  refine hv_aload_n E dX4_init_53 rfl 0 rfl ?_
  refine hv_sipush (v := nI 960) E dX4_init_54 (by decide) ?_
  obtain ⟨h6, h⟩ := h
  refine hv_newa (i := nI 960) E (26, 0) dX4_init_57 wd_91 rfl (by decide) rfl ⟨by simp, by simp⟩ (by decide) (by decide) (by decide) h6 (Nat.le_of_ble_eq_true rfl) (Nat.le_of_ble_eq_true rfl) ?_
  refine hv_putR (ty := .array .long) (k := 8) E tyX4 okX4 nmX4 dX4_init_59 rfl rfl hiX4 (by decide) wd_425 rfl rfl (Or.inr ⟨rfl, hnm, rfl⟩) (by decide +kernel) (fun _ => rfl) (fun _ => rfl) ?_
  refine hv_aload_n E dX4_init_62 rfl 0 rfl ?_
  refine hv_bipush (v := nI 24) E dX4_init_63 (by decide) ?_
  obtain ⟨h7, h⟩ := h
  refine hv_newa (i := nI 24) E (27, 0) dX4_init_65 wd_92 rfl (by decide) rfl ⟨by simp, by simp⟩ (by decide) (by decide) (by decide) h7 (Nat.le_of_ble_eq_true rfl) (Nat.le_of_ble_eq_true rfl) ?_
  refine hv_putR (ty := .array .int) (k := 11) E tyX4 okX4 nmX4 dX4_init_67 rfl rfl hiX4 (by decide) wd_428 rfl rfl (Or.inr ⟨rfl, hnm, rfl⟩) (by decide +kernel) (fun _ => rfl) (fun _ => rfl) ?_
  refine hv_aload_n E dX4_init_70 rfl 0 rfl ?_
  refine hv_bipush (v := nI 24) E dX4_init_71 (by decide) ?_
  obtain ⟨h8, h⟩ := h
  refine hv_newa (i := nI 24) E (28, 0) dX4_init_73 wd_91 rfl (by decide) rfl ⟨by simp, by simp⟩ (by decide) (by decide) (by decide) h8 (Nat.le_of_ble_eq_true rfl) (Nat.le_of_ble_eq_true rfl) ?_
  refine hv_putR (ty := .array .long) (k := 12) E tyX4 okX4 nmX4 dX4_init_75 rfl rfl hiX4 (by decide) wd_429 rfl rfl (Or.inr ⟨rfl, hnm, rfl⟩) (by decide +kernel) (fun _ => rfl) (fun _ => rfl) ?_
  refine hv_aload_n E dX4_init_78 rfl 0 rfl ?_
  refine hv_bipush (v := nI 24) E dX4_init_79 (by decide) ?_
  obtain ⟨h9, h⟩ := h
  refine hv_newa (i := nI 24) E (29, 0) dX4_init_81 wd_91 rfl (by decide) rfl ⟨by simp, by simp⟩ (by decide) (by decide) (by decide) h9 (Nat.le_of_ble_eq_true rfl) (Nat.le_of_ble_eq_true rfl) ?_
  refine hv_putR (ty := .array .long) (k := 13) E tyX4 okX4 nmX4 dX4_init_83 rfl rfl hiX4 (by decide) wd_430 rfl rfl (Or.inr ⟨rfl, hnm, rfl⟩) (by decide +kernel) (fun _ => rfl) (fun _ => rfl) ?_
  refine hv_aload_n E dX4_init_86 rfl 0 rfl ?_
  refine hv_bipush (v := nI 24) E dX4_init_87 (by decide) ?_
  obtain ⟨h10, h⟩ := h
  refine hv_newa (i := nI 24) E (30, 0) dX4_init_89 wd_93 rfl (by decide) rfl ⟨by simp, by simp⟩ (by decide) (by decide) (by decide) h10 (Nat.le_of_ble_eq_true rfl) (Nat.le_of_ble_eq_true rfl) ?_
  refine hv_putR (ty := .array .boolean) (k := 14) E tyX4 okX4 nmX4 dX4_init_91 rfl rfl hiX4 (by decide) wd_431 rfl rfl (Or.inr ⟨rfl, hnm, rfl⟩) (by decide +kernel) (fun _ => rfl) (fun _ => rfl) ?_
  refine hv_aload_n E dX4_init_94 rfl 0 rfl ?_
  refine hv_bipush (v := nI 12) E dX4_init_95 (by decide) ?_
  obtain ⟨h11, h⟩ := h
  refine hv_newa (i := nI 12) E (31, 0) dX4_init_97 wd_92 rfl (by decide) rfl ⟨by simp, by simp⟩ (by decide) (by decide) (by decide) h11 (Nat.le_of_ble_eq_true rfl) (Nat.le_of_ble_eq_true rfl) ?_
  refine hv_putR (ty := .array .int) (k := 16) E tyX4 okX4 nmX4 dX4_init_99 rfl rfl hiX4 (by decide) wd_433 rfl rfl (Or.inr ⟨rfl, hnm, rfl⟩) (by decide +kernel) (fun _ => rfl) (fun _ => rfl) ?_
  refine hv_aload_n E dX4_init_102 rfl 0 rfl ?_
  refine hv_bipush (v := nI 96) E dX4_init_103 (by decide) ?_
  obtain ⟨h12, h⟩ := h
  refine hv_newa (i := nI 96) E (32, 0) dX4_init_105 wd_92 rfl (by decide) rfl ⟨by simp, by simp⟩ (by decide) (by decide) (by decide) h12 (Nat.le_of_ble_eq_true rfl) (Nat.le_of_ble_eq_true rfl) ?_
  refine hv_putR (ty := .array .int) (k := 17) E tyX4 okX4 nmX4 dX4_init_107 rfl rfl hiX4 (by decide) wd_434 rfl rfl (Or.inr ⟨rfl, hnm, rfl⟩) (by decide +kernel) (fun _ => rfl) (fun _ => rfl) ?_
  refine hv_aload_n E dX4_init_110 rfl 0 rfl ?_
  refine hv_bipush (v := nI 12) E dX4_init_111 (by decide) ?_
  obtain ⟨h13, h⟩ := h
  refine hv_newa (i := nI 12) E (33, 0) dX4_init_113 wd_92 rfl (by decide) rfl ⟨by simp, by simp⟩ (by decide) (by decide) (by decide) h13 (Nat.le_of_ble_eq_true rfl) (Nat.le_of_ble_eq_true rfl) ?_
  refine hv_putR (ty := .array .int) (k := 18) E tyX4 okX4 nmX4 dX4_init_115 rfl rfl hiX4 (by decide) wd_435 rfl rfl (Or.inr ⟨rfl, hnm, rfl⟩) (by decide +kernel) (fun _ => rfl) (fun _ => rfl) ?_
  refine hv_aload_n E dX4_init_118 rfl 0 rfl ?_
  refine hv_bipush (v := nI 48) E dX4_init_119 (by decide) ?_
  obtain ⟨h14, h⟩ := h
  refine hv_newa (i := nI 48) E (34, 0) dX4_init_121 wd_92 rfl (by decide) rfl ⟨by simp, by simp⟩ (by decide) (by decide) (by decide) h14 (Nat.le_of_ble_eq_true rfl) (Nat.le_of_ble_eq_true rfl) ?_
  refine hv_putR (ty := .array .int) (k := 19) E tyX4 okX4 nmX4 dX4_init_123 rfl rfl hiX4 (by decide) wd_436 rfl rfl (Or.inr ⟨rfl, hnm, rfl⟩) (by decide +kernel) (fun _ => rfl) (fun _ => rfl) ?_
  refine hv_aload_n E dX4_init_126 rfl 0 rfl ?_
  refine hv_bipush (v := nI 12) E dX4_init_127 (by decide) ?_
  obtain ⟨h15, h⟩ := h
  refine hv_newa (i := nI 12) E (35, 0) dX4_init_129 wd_92 rfl (by decide) rfl ⟨by simp, by simp⟩ (by decide) (by decide) (by decide) h15 (Nat.le_of_ble_eq_true rfl) (Nat.le_of_ble_eq_true rfl) ?_
  refine hv_putR (ty := .array .int) (k := 20) E tyX4 okX4 nmX4 dX4_init_131 rfl rfl hiX4 (by decide) wd_437 rfl rfl (Or.inr ⟨rfl, hnm, rfl⟩) (by decide +kernel) (fun _ => rfl) (fun _ => rfl) ?_
  refine hv_aload_n E dX4_init_134 rfl 0 rfl ?_
  refine hv_bipush (v := nI 12) E dX4_init_135 (by decide) ?_
  obtain ⟨h16, h⟩ := h
  refine hv_newa (i := nI 12) E (36, 0) dX4_init_137 wd_93 rfl (by decide) rfl ⟨by simp, by simp⟩ (by decide) (by decide) (by decide) h16 (Nat.le_of_ble_eq_true rfl) (Nat.le_of_ble_eq_true rfl) ?_
  refine hv_putR (ty := .array .boolean) (k := 21) E tyX4 okX4 nmX4 dX4_init_139 rfl rfl hiX4 (by decide) wd_438 rfl rfl (Or.inr ⟨rfl, hnm, rfl⟩) (by decide +kernel) (fun _ => rfl) (fun _ => rfl) ?_
  refine hv_aload_n E dX4_init_142 rfl 0 rfl ?_
  refine hv_bipush (v := nI 12) E dX4_init_143 (by decide) ?_
  obtain ⟨h17, h⟩ := h
  refine hv_newa (i := nI 12) E (37, 0) dX4_init_145 wd_92 rfl (by decide) rfl ⟨by simp, by simp⟩ (by decide) (by decide) (by decide) h17 (Nat.le_of_ble_eq_true rfl) (Nat.le_of_ble_eq_true rfl) ?_
  refine hv_putR (ty := .array .int) (k := 22) E tyX4 okX4 nmX4 dX4_init_147 rfl rfl hiX4 (by decide) wd_439 rfl rfl (Or.inr ⟨rfl, hnm, rfl⟩) (by decide +kernel) (fun _ => rfl) (fun _ => rfl) ?_
  refine hv_aload_n E dX4_init_150 rfl 0 rfl ?_
  refine hv_bipush (v := nI 12) E dX4_init_151 (by decide) ?_
  obtain ⟨h18, h⟩ := h
  refine hv_newa (i := nI 12) E (38, 0) dX4_init_153 wd_92 rfl (by decide) rfl ⟨by simp, by simp⟩ (by decide) (by decide) (by decide) h18 (Nat.le_of_ble_eq_true rfl) (Nat.le_of_ble_eq_true rfl) ?_
  refine hv_putR (ty := .array .int) (k := 23) E tyX4 okX4 nmX4 dX4_init_155 rfl rfl hiX4 (by decide) wd_440 rfl rfl (Or.inr ⟨rfl, hnm, rfl⟩) (by decide +kernel) (fun _ => rfl) (fun _ => rfl) ?_
  refine hv_aload_n E dX4_init_158 rfl 0 rfl ?_
  refine hv_bipush (v := nI 96) E dX4_init_159 (by decide) ?_
  obtain ⟨h19, h⟩ := h
  refine hv_newa (i := nI 96) E (39, 0) dX4_init_161 wd_91 rfl (by decide) rfl ⟨by simp, by simp⟩ (by decide) (by decide) (by decide) h19 (Nat.le_of_ble_eq_true rfl) (Nat.le_of_ble_eq_true rfl) ?_
  refine hv_putR (ty := .array .long) (k := 24) E tyX4 okX4 nmX4 dX4_init_163 rfl rfl hiX4 (by decide) wd_441 rfl rfl (Or.inr ⟨rfl, hnm, rfl⟩) (by decide +kernel) (fun _ => rfl) (fun _ => rfl) ?_
  refine hv_aload_n E dX4_init_166 rfl 0 rfl ?_
  refine hv_bipush (v := nI 12) E dX4_init_167 (by decide) ?_
  obtain ⟨h20, h⟩ := h
  refine hv_newa (i := nI 12) E (40, 0) dX4_init_169 wd_91 rfl (by decide) rfl ⟨by simp, by simp⟩ (by decide) (by decide) (by decide) h20 (Nat.le_of_ble_eq_true rfl) (Nat.le_of_ble_eq_true rfl) ?_
  refine hv_putR (ty := .array .long) (k := 25) E tyX4 okX4 nmX4 dX4_init_171 rfl rfl hiX4 (by decide) wd_442 rfl rfl (Or.inr ⟨rfl, hnm, rfl⟩) (by decide +kernel) (fun _ => rfl) (fun _ => rfl) ?_
  refine hv_aload_n E dX4_init_174 rfl 0 rfl ?_
  refine hv_bipush (v := nI 12) E dX4_init_175 (by decide) ?_
  obtain ⟨h21, h⟩ := h
  refine hv_newa (i := nI 12) E (41, 0) dX4_init_177 wd_93 rfl (by decide) rfl ⟨by simp, by simp⟩ (by decide) (by decide) (by decide) h21 (Nat.le_of_ble_eq_true rfl) (Nat.le_of_ble_eq_true rfl) ?_
  refine hv_putR (ty := .array .boolean) (k := 26) E tyX4 okX4 nmX4 dX4_init_179 rfl rfl hiX4 (by decide) wd_443 rfl rfl (Or.inr ⟨rfl, hnm, rfl⟩) (by decide +kernel) (fun _ => rfl) (fun _ => rfl) ?_
  refine hv_aload_n E dX4_init_182 rfl 0 rfl ?_
  refine hv_bipush (v := nI 12) E dX4_init_183 (by decide) ?_
  obtain ⟨h22, h⟩ := h
  refine hv_newa (i := nI 12) E (42, 0) dX4_init_185 wd_93 rfl (by decide) rfl ⟨by simp, by simp⟩ (by decide) (by decide) (by decide) h22 (Nat.le_of_ble_eq_true rfl) (Nat.le_of_ble_eq_true rfl) ?_
  refine hv_putR (ty := .array .boolean) (k := 27) E tyX4 okX4 nmX4 dX4_init_187 rfl rfl hiX4 (by decide) wd_444 rfl rfl (Or.inr ⟨rfl, hnm, rfl⟩) (by decide +kernel) (fun _ => rfl) (fun _ => rfl) ?_
  exact hv_vret E hret dX4_init_190 (Nat.le_of_ble_eq_true rfl) (Nat.le_of_ble_eq_true rfl) ⟨rfl, h⟩
-- VersionJoinsModel.isThing(I)Z
def k_X4_isThing (P : Int32 → hp_S → Prop) (a1 : Int32) (x : hp_S) : Prop := (a1 < 0 → (P (nI 0) x)) ∧ (¬ a1 < 0 → (((x.2.1 (20, 0) 0) ≤ a1 → (P (nI 0) x)) ∧ (¬ (x.2.1 (20, 0) 0) ≤ a1 → (P (nI 1) x))))
abbrev rm_X4_isThing : Room := ({ frames := 0, cells := 0, slots := 0, locals := 0 } : Room)
set_option maxRecDepth 100000 in
set_option maxHeartbeats 4000000 in
theorem c_X4_isThing (l : Launch) (P : Int32 → hp_S → Prop) (a1 : Int32) (x : hp_S) (hs : hp_sh x) (h : k_X4_isThing P a1 x) : hp_C l yX4_isThing (Cond.code yX4_isThing cX4_isThing 2 (Option.some Jvm.ClassFile.FieldType.boolean) :: hp_ws) rm_X4_isThing [aR (20, 0), aI a1] x (hp_pI P) 0 0 := by
  refine hp_ofV (own := "VersionJoinsModel") (lv := [(0, aR (20, 0)), (1, aI a1)]) (by decide) rfl (Nat.le_of_ble_eq_true rfl) rfl ?_
  intro p e s m args below meth c D cA B0 ad0 E hret hnm
  unfold k_X4_isThing at h
  refine hv_iload_n E dX4_isThing_0 rfl 1 rfl ?_
  refine hv_if_lt (tgt := 16) E dX4_isThing_1 (by decide) (fun c1 => ?_) (fun c1 => ?_)
  · have h := h.1 c1
    refine hv_iconst (v := nI 0) E dX4_isThing_16 (by decide) ?_
    exact hv_zret E hret dX4_isThing_17 (by decide) (Nat.le_of_ble_eq_true rfl) (Nat.le_of_ble_eq_true rfl) ⟨_, rfl, hs, h⟩
  · have h := h.2 c1
    refine hv_iload_n E dX4_isThing_4 rfl 1 rfl ?_
    refine hv_aload_n E dX4_isThing_5 rfl 0 rfl ?_
    refine hv_getI (k := 0) E dX4_isThing_6 rfl rfl hiX4 (by decide) wd_417 rfl rfl ?_
    refine hv_icmp_ge (tgt := 16) E dX4_isThing_9 (by decide) (fun c2 => ?_) (fun c2 => ?_)
    · have h := h.1 c2
      refine hv_iconst (v := nI 0) E dX4_isThing_16 (by decide) ?_
      exact hv_zret E hret dX4_isThing_17 (by decide) (Nat.le_of_ble_eq_true rfl) (Nat.le_of_ble_eq_true rfl) ⟨_, rfl, hs, h⟩
    · have h := h.2 c2
      refine hv_iconst (v := nI 1) E dX4_isThing_12 (by decide) ?_
      refine hv_goto (tgt := 17) E dX4_isThing_13 (by decide) ?_
      exact hv_zret E hret dX4_isThing_17 (by decide) (Nat.le_of_ble_eq_true rfl) (Nat.le_of_ble_eq_true rfl) ⟨_, rfl, hs, h⟩
-- VersionJoinsModel.isStep(I)Z
def k_X4_isStep (P : Int32 → hp_S → Prop) (a1 : Int32) (x : hp_S) : Prop := (a1 < 0 → (P (nI 0) x)) ∧ (¬ a1 < 0 → (((x.2.1 (20, 0) 15) ≤ a1 → (P (nI 0) x)) ∧ (¬ (x.2.1 (20, 0) 15) ≤ a1 → (P (nI 1) x))))
abbrev rm_X4_isStep : Room := ({ frames := 0, cells := 0, slots := 0, locals := 0 } : Room)
set_option maxRecDepth 100000 in
set_option maxHeartbeats 4000000 in
theorem c_X4_isStep (l : Launch) (P : Int32 → hp_S → Prop) (a1 : Int32) (x : hp_S) (hs : hp_sh x) (h : k_X4_isStep P a1 x) : hp_C l yX4_isStep (Cond.code yX4_isStep cX4_isStep 2 (Option.some Jvm.ClassFile.FieldType.boolean) :: hp_ws) rm_X4_isStep [aR (20, 0), aI a1] x (hp_pI P) 0 0 := by
  refine hp_ofV (own := "VersionJoinsModel") (lv := [(0, aR (20, 0)), (1, aI a1)]) (by decide) rfl (Nat.le_of_ble_eq_true rfl) rfl ?_
  intro p e s m args below meth c D cA B0 ad0 E hret hnm
  unfold k_X4_isStep at h
  refine hv_iload_n E dX4_isStep_0 rfl 1 rfl ?_
  refine hv_if_lt (tgt := 16) E dX4_isStep_1 (by decide) (fun c1 => ?_) (fun c1 => ?_)
  · have h := h.1 c1
    refine hv_iconst (v := nI 0) E dX4_isStep_16 (by decide) ?_
    exact hv_zret E hret dX4_isStep_17 (by decide) (Nat.le_of_ble_eq_true rfl) (Nat.le_of_ble_eq_true rfl) ⟨_, rfl, hs, h⟩
  · have h := h.2 c1
    refine hv_iload_n E dX4_isStep_4 rfl 1 rfl ?_
    refine hv_aload_n E dX4_isStep_5 rfl 0 rfl ?_
    refine hv_getI (k := 15) E dX4_isStep_6 rfl rfl hiX4 (by decide) wd_432 rfl rfl ?_
    refine hv_icmp_ge (tgt := 16) E dX4_isStep_9 (by decide) (fun c2 => ?_) (fun c2 => ?_)
    · have h := h.1 c2
      refine hv_iconst (v := nI 0) E dX4_isStep_16 (by decide) ?_
      exact hv_zret E hret dX4_isStep_17 (by decide) (Nat.le_of_ble_eq_true rfl) (Nat.le_of_ble_eq_true rfl) ⟨_, rfl, hs, h⟩
    · have h := h.2 c2
      refine hv_iconst (v := nI 1) E dX4_isStep_12 (by decide) ?_
      refine hv_goto (tgt := 17) E dX4_isStep_13 (by decide) ?_
      exact hv_zret E hret dX4_isStep_17 (by decide) (Nat.le_of_ble_eq_true rfl) (Nat.le_of_ble_eq_true rfl) ⟨_, rfl, hs, h⟩
-- VersionJoinsModel.thing(J)I
def k_X4_thing_13 (P : Int32 → hp_S → Prop) (a1 : Int64) : Nat → hp_S → Int32 → Prop
  | 0, _, _ => False
  | n + 1, x, l3 => ((nI 6) ≤ l3 → (P (((hp_uI x (20, 0) 0 ((x.2.1 (20, 0) 0) + (nI 1))).2.1 (20, 0) 0) - (nI 1)) (hp_uI x (20, 0) 0 ((x.2.1 (20, 0) 0) + (nI 1))))) ∧ (¬ (nI 6) ≤ l3 → (vp_in (((nI 24) * l3) + (x.2.1 (20, 0) 0)) 144 ∧ (k_X4_thing_13 P a1 n (hp_uL x (21, 0) ((((nI 24) * l3) + (x.2.1 (20, 0) 0)).toNatClampNeg) a1) (l3 + nI 1))))
def k_X4_thing (P : Int32 → hp_S → Prop) (a1 : Int64) (x : hp_S) : Prop := (¬ (x.2.1 (20, 0) 0) = (nI 24) → (∃ q, k_X4_thing_13 P a1 q x (nI 0))) ∧ ((x.2.1 (20, 0) 0) = (nI 24) → (P (-1 : Int32) x))
abbrev rm_X4_thing : Room := ({ frames := 0, cells := 0, slots := 0, locals := 0 } : Room)
set_option maxRecDepth 100000 in
set_option maxHeartbeats 4000000 in
theorem w_X4_thing_13 {p : Program} {l : Launch} {e : Env} {s : State} {m : MethodId} {args : Array Value} {below : List Frame} {meth : Method} {c : Code} {D : va_G} {cA : Nat → ClassId} {B0 : Nat} {ad0 : hp_T → Nat} {x0 : hp_S} (E : hp_E p s m args meth c cX4_thing 4 "VersionJoinsModel" hp_ws D cA B0) (hret : meth.sig.returnType = (Option.some Jvm.ClassFile.FieldType.int)) {P : Int32 → hp_S → Prop} (a1 : Int64) : ∀ (n : Nat) (x : hp_S) (l3 : Int32), hp_sh x → k_X4_thing_13 P a1 n x l3 → hp_V p l e rm_X4_thing s m args below meth c (fun ad0 => MQ below (hp_Q D cA B0 ad0 x0 (hp_pI P)) args s 0 0 (fun q => B0 ≤ q)) D cA B0 4 ad0 x0 0 0 x 13 [(0, aR (20, 0)), (1, aL a1), (3, aI l3)] [] := by
  intro n
  induction n with
  | zero => intro x l3 hs h; exact absurd h id
  | succ n ih =>
    intro x l3 hs h
    unfold k_X4_thing_13 at h
    refine hv_iload_n E dX4_thing_13 rfl 2 rfl ?_
    refine hv_bipush (v := nI 6) E dX4_thing_14 (by decide) ?_
    refine hv_icmp_ge (tgt := 40) E dX4_thing_16 (by decide) (fun c2 => ?_) (fun c2 => ?_)
    · have h := h.1 c2
      refine hv_aload_n E dX4_thing_40 rfl 0 rfl ?_
      refine hv_dup E dX4_thing_41 rfl ?_
      refine hv_getI (k := 0) E dX4_thing_42 rfl rfl hiX4 (by decide) wd_417 rfl rfl ?_
      refine hv_iconst (v := nI 1) E dX4_thing_45 (by decide) ?_
      refine hv_iadd (v := (x.2.1 (20, 0) 0) + (nI 1)) E dX4_thing_46 rfl ?_
      refine hv_putI (ty := .int) (k := 0) E tyX4 okX4 nmX4 dX4_thing_47 rfl rfl hiX4 (by decide) wd_417 rfl rfl (Or.inl rfl) (by decide +kernel) rfl rfl ?_
      refine hv_aload_n E dX4_thing_50 rfl 0 rfl ?_
      refine hv_getI (k := 0) E dX4_thing_51 rfl rfl hiX4 (by decide) wd_417 rfl rfl ?_
      refine hv_iconst (v := nI 1) E dX4_thing_54 (by decide) ?_
      refine hv_isub (v := ((hp_uI x (20, 0) 0 ((x.2.1 (20, 0) 0) + (nI 1))).2.1 (20, 0) 0) - (nI 1)) E dX4_thing_55 rfl ?_
      exact hv_iret E hret dX4_thing_56 (Nat.le_of_ble_eq_true rfl) (Nat.le_of_ble_eq_true rfl) ⟨_, rfl, hs, h⟩
    · have h := h.2 c2
      refine hv_aload_n E dX4_thing_19 rfl 0 rfl ?_
      refine hv_getR (k := 2) (t2 := (21, 0)) E dX4_thing_20 rfl rfl hiX4 (by decide) wd_419 rfl rfl (hs _ _ _ rfl) ?_
      refine hv_bipush (v := nI 24) E dX4_thing_23 (by decide) ?_
      refine hv_iload_n E dX4_thing_25 rfl 2 rfl ?_
      refine hv_imul (v := (nI 24) * l3) E dX4_thing_26 rfl ?_
      refine hv_aload_n E dX4_thing_27 rfl 0 rfl ?_
      refine hv_getI (k := 0) E dX4_thing_28 rfl rfl hiX4 (by decide) wd_417 rfl rfl ?_
      refine hv_iadd (v := ((nI 24) * l3) + (x.2.1 (20, 0) 0)) E dX4_thing_31 rfl ?_
      refine hv_lload_n E dX4_thing_32 rfl 1 rfl ?_
      obtain ⟨h3, h⟩ := h
      refine hv_last E dX4_thing_33 rfl (by decide) rfl h3 ?_
      refine hv_iinc (v := l3 + nI 1) (lv' := [(0, aR (20, 0)), (1, aL a1)]) E 2 dX4_thing_34 rfl (hx_i1 _) (by decide) rfl ?_
      refine hv_goto (tgt := 13) E dX4_thing_37 (by decide) ?_
      refine hv_lv [1, 2, 0] rfl ?_
      exact ih (hp_uL x (21, 0) ((((nI 24) * l3) + (x.2.1 (20, 0) 0)).toNatClampNeg) a1) (l3 + nI 1) hs h
set_option maxRecDepth 100000 in
set_option maxHeartbeats 4000000 in
theorem c_X4_thing (l : Launch) (P : Int32 → hp_S → Prop) (a1 : Int64) (x : hp_S) (hs : hp_sh x) (h : k_X4_thing P a1 x) : hp_C l yX4_thing (Cond.code yX4_thing cX4_thing 4 (Option.some Jvm.ClassFile.FieldType.int) :: hp_ws) rm_X4_thing [aR (20, 0), aL a1] x (hp_pI P) 0 0 := by
  refine hp_ofV (own := "VersionJoinsModel") (lv := [(0, aR (20, 0)), (1, aL a1)]) (by decide) rfl (Nat.le_of_ble_eq_true rfl) rfl ?_
  intro p e s m args below meth c D cA B0 ad0 E hret hnm
  unfold k_X4_thing at h
  refine hv_aload_n E dX4_thing_0 rfl 0 rfl ?_
  refine hv_getI (k := 0) E dX4_thing_1 rfl rfl hiX4 (by decide) wd_417 rfl rfl ?_
  refine hv_bipush (v := nI 24) E dX4_thing_4 (by decide) ?_
  refine hv_icmp_ne (tgt := 11) E dX4_thing_6 (by decide) (fun c1 => ?_) (fun c1 => ?_)
  · have h := h.1 c1
    refine hv_iconst (v := nI 0) E dX4_thing_11 (by decide) ?_
    refine hv_istore_n (lv' := [(0, aR (20, 0)), (1, aL a1)]) E dX4_thing_12 rfl (by decide) rfl ?_
    obtain ⟨n4, h⟩ := h
    refine hv_lv [1, 2, 0] rfl ?_
    exact w_X4_thing_13 E hret a1 n4 x (nI 0) hs h
  · have h := h.2 c1
    refine hv_iconst (v := (-1 : Int32)) E dX4_thing_9 (by decide) ?_
    exact hv_iret E hret dX4_thing_10 (Nat.le_of_ble_eq_true rfl) (Nat.le_of_ble_eq_true rfl) ⟨_, rfl, hs, h⟩
-- VersionJoinsModel.step(I)I
def k_X4_step (P : Int32 → hp_S → Prop) (a1 : Int32) (x : hp_S) : Prop := (a1 < 0 → (P (-2 : Int32) x)) ∧ (¬ a1 < 0 → ((a1 ≤ (nI 3) → ((¬ (x.2.1 (20, 0) 15) = (nI 12) → (vp_in (x.2.1 (20, 0) 15) 12 ∧ (P (((hp_uI (hp_uI x (31, 0) ((x.2.1 (20, 0) 15).toNatClampNeg) a1) (20, 0) 15 (((hp_uI x (31, 0) ((x.2.1 (20, 0) 15).toNatClampNeg) a1).2.1 (20, 0) 15) + (nI 1))).2.1 (20, 0) 15) - (nI 1)) (hp_uI (hp_uI x (31, 0) ((x.2.1 (20, 0) 15).toNatClampNeg) a1) (20, 0) 15 (((hp_uI x (31, 0) ((x.2.1 (20, 0) 15).toNatClampNeg) a1).2.1 (20, 0) 15) + (nI 1)))))) ∧ ((x.2.1 (20, 0) 15) = (nI 12) → (P (-1 : Int32) x)))) ∧ (¬ a1 ≤ (nI 3) → (P (-2 : Int32) x))))
abbrev rm_X4_step : Room := ({ frames := 0, cells := 0, slots := 0, locals := 0 } : Room)
set_option maxRecDepth 100000 in
set_option maxHeartbeats 4000000 in
theorem c_X4_step (l : Launch) (P : Int32 → hp_S → Prop) (a1 : Int32) (x : hp_S) (hs : hp_sh x) (h : k_X4_step P a1 x) : hp_C l yX4_step (Cond.code yX4_step cX4_step 2 (Option.some Jvm.ClassFile.FieldType.int) :: hp_ws) rm_X4_step [aR (20, 0), aI a1] x (hp_pI P) 0 0 := by
  refine hp_ofV (own := "VersionJoinsModel") (lv := [(0, aR (20, 0)), (1, aI a1)]) (by decide) rfl (Nat.le_of_ble_eq_true rfl) rfl ?_
  intro p e s m args below meth c D cA B0 ad0 E hret hnm
  unfold k_X4_step at h
  refine hv_iload_n E dX4_step_0 rfl 1 rfl ?_
  refine hv_if_lt (tgt := 9) E dX4_step_1 (by decide) (fun c1 => ?_) (fun c1 => ?_)
  · have h := h.1 c1
    refine hv_bipush (v := (-2 : Int32)) E dX4_step_9 (by decide) ?_
    exact hv_iret E hret dX4_step_11 (Nat.le_of_ble_eq_true rfl) (Nat.le_of_ble_eq_true rfl) ⟨_, rfl, hs, h⟩
  · have h := h.2 c1
    refine hv_iload_n E dX4_step_4 rfl 1 rfl ?_
    refine hv_iconst (v := nI 3) E dX4_step_5 (by decide) ?_
    refine hv_icmp_le (tgt := 12) E dX4_step_6 (by decide) (fun c2 => ?_) (fun c2 => ?_)
    · have h := h.1 c2
      refine hv_aload_n E dX4_step_12 rfl 0 rfl ?_
      refine hv_getI (k := 15) E dX4_step_13 rfl rfl hiX4 (by decide) wd_432 rfl rfl ?_
      refine hv_bipush (v := nI 12) E dX4_step_16 (by decide) ?_
      refine hv_icmp_ne (tgt := 23) E dX4_step_18 (by decide) (fun c3 => ?_) (fun c3 => ?_)
      · have h := h.1 c3
        refine hv_aload_n E dX4_step_23 rfl 0 rfl ?_
        refine hv_getR (k := 16) (t2 := (31, 0)) E dX4_step_24 rfl rfl hiX4 (by decide) wd_433 rfl rfl (hs _ _ _ rfl) ?_
        refine hv_aload_n E dX4_step_27 rfl 0 rfl ?_
        refine hv_getI (k := 15) E dX4_step_28 rfl rfl hiX4 (by decide) wd_432 rfl rfl ?_
        refine hv_iload_n E dX4_step_31 rfl 1 rfl ?_
        obtain ⟨h4, h⟩ := h
        refine hv_iast E dX4_step_32 rfl (by decide) rfl h4 ?_
        refine hv_aload_n E dX4_step_33 rfl 0 rfl ?_
        refine hv_dup E dX4_step_34 rfl ?_
        refine hv_getI (k := 15) E dX4_step_35 rfl rfl hiX4 (by decide) wd_432 rfl rfl ?_
        refine hv_iconst (v := nI 1) E dX4_step_38 (by decide) ?_
        refine hv_iadd (v := ((hp_uI x (31, 0) ((x.2.1 (20, 0) 15).toNatClampNeg) a1).2.1 (20, 0) 15) + (nI 1)) E dX4_step_39 rfl ?_
        refine hv_putI (ty := .int) (k := 15) E tyX4 okX4 nmX4 dX4_step_40 rfl rfl hiX4 (by decide) wd_432 rfl rfl (Or.inl rfl) (by decide +kernel) rfl rfl ?_
        refine hv_aload_n E dX4_step_43 rfl 0 rfl ?_
        refine hv_getI (k := 15) E dX4_step_44 rfl rfl hiX4 (by decide) wd_432 rfl rfl ?_
        refine hv_iconst (v := nI 1) E dX4_step_47 (by decide) ?_
        refine hv_isub (v := ((hp_uI (hp_uI x (31, 0) ((x.2.1 (20, 0) 15).toNatClampNeg) a1) (20, 0) 15 (((hp_uI x (31, 0) ((x.2.1 (20, 0) 15).toNatClampNeg) a1).2.1 (20, 0) 15) + (nI 1))).2.1 (20, 0) 15) - (nI 1)) E dX4_step_48 rfl ?_
        exact hv_iret E hret dX4_step_49 (Nat.le_of_ble_eq_true rfl) (Nat.le_of_ble_eq_true rfl) ⟨_, rfl, hs, h⟩
      · have h := h.2 c3
        refine hv_iconst (v := (-1 : Int32)) E dX4_step_21 (by decide) ?_
        exact hv_iret E hret dX4_step_22 (Nat.le_of_ble_eq_true rfl) (Nat.le_of_ble_eq_true rfl) ⟨_, rfl, hs, h⟩
    · have h := h.2 c2
      refine hv_bipush (v := (-2 : Int32)) E dX4_step_9 (by decide) ?_
      exact hv_iret E hret dX4_step_11 (Nat.le_of_ble_eq_true rfl) (Nat.le_of_ble_eq_true rfl) ⟨_, rfl, hs, h⟩
-- VersionJoinsModel.doesUse(II)Z
def k_X4_doesUse_5 (P : Int32 → hp_S → Prop) (a1 : Int32) (a2 : Int32) : Nat → hp_S → Int32 → Int32 → Prop
  | 0, _, _, _ => False
  | n + 1, x, l3, l4 => vp_in a1 12 ∧ (((x.2.1 (33, 0) a1.toNatClampNeg) ≤ l4 → ((narrow .boolean (.int l3) = .int l3) ∧ P l3 x)) ∧ (¬ (x.2.1 (33, 0) a1.toNatClampNeg) ≤ l4 → ((¬ l3 = 0 → (k_X4_doesUse_5 P a1 a2 n x (nI 1) (l4 + nI 1))) ∧ (l3 = 0 → (vp_in (((nI 8) * a1) + l4) 96 ∧ ((¬ (x.2.1 (32, 0) (((nI 8) * a1) + l4).toNatClampNeg) = a2 → (k_X4_doesUse_5 P a1 a2 n x (nI 0) (l4 + nI 1))) ∧ ((x.2.1 (32, 0) (((nI 8) * a1) + l4).toNatClampNeg) = a2 → (k_X4_doesUse_5 P a1 a2 n x (nI 1) (l4 + nI 1)))))))))
def k_X4_doesUse (P : Int32 → hp_S → Prop) (a1 : Int32) (a2 : Int32) (x : hp_S) : Prop := ∃ q, k_X4_doesUse_5 P a1 a2 q x (nI 0) (nI 0)
abbrev rm_X4_doesUse : Room := ({ frames := 0, cells := 0, slots := 0, locals := 0 } : Room)
set_option maxRecDepth 100000 in
set_option maxHeartbeats 4000000 in
theorem w_X4_doesUse_5 {p : Program} {l : Launch} {e : Env} {s : State} {m : MethodId} {args : Array Value} {below : List Frame} {meth : Method} {c : Code} {D : va_G} {cA : Nat → ClassId} {B0 : Nat} {ad0 : hp_T → Nat} {x0 : hp_S} (E : hp_E p s m args meth c cX4_doesUse 5 "VersionJoinsModel" hp_ws D cA B0) (hret : meth.sig.returnType = (Option.some Jvm.ClassFile.FieldType.boolean)) {P : Int32 → hp_S → Prop} (a1 : Int32) (a2 : Int32) : ∀ (n : Nat) (x : hp_S) (l3 : Int32) (l4 : Int32), hp_sh x → k_X4_doesUse_5 P a1 a2 n x l3 l4 → hp_V p l e rm_X4_doesUse s m args below meth c (fun ad0 => MQ below (hp_Q D cA B0 ad0 x0 (hp_pI P)) args s 0 0 (fun q => B0 ≤ q)) D cA B0 5 ad0 x0 0 0 x 5 [(0, aR (20, 0)), (1, aI a1), (2, aI a2), (3, aI l3), (4, aI l4)] [] := by
  intro n
  induction n with
  | zero => intro x l3 l4 hs h; exact absurd h id
  | succ n ih =>
    intro x l3 l4 hs h
    unfold k_X4_doesUse_5 at h
    refine hv_iload E dX4_doesUse_5 4 rfl ?_
    refine hv_aload_n E dX4_doesUse_7 rfl 0 rfl ?_
    refine hv_getR (k := 18) (t2 := (33, 0)) E dX4_doesUse_8 rfl rfl hiX4 (by decide) wd_435 rfl rfl (hs _ _ _ rfl) ?_
    refine hv_iload_n E dX4_doesUse_11 rfl 1 rfl ?_
    obtain ⟨h1, h⟩ := h
    refine hv_iald E dX4_doesUse_12 rfl (by decide) rfl h1 ?_
    refine hv_icmp_ge (tgt := 48) E dX4_doesUse_13 (by decide) (fun c2 => ?_) (fun c2 => ?_)
    · have h := h.1 c2
      refine hv_iload_n E dX4_doesUse_48 rfl 3 rfl ?_
      obtain ⟨h3, h⟩ := h
      exact hv_zret E hret dX4_doesUse_49 h3 (Nat.le_of_ble_eq_true rfl) (Nat.le_of_ble_eq_true rfl) ⟨_, rfl, hs, h⟩
    · have h := h.2 c2
      refine hv_iload_n E dX4_doesUse_16 rfl 3 rfl ?_
      refine hv_if_ne (tgt := 36) E dX4_doesUse_17 (by decide) (fun c4 => ?_) (fun c4 => ?_)
      · have h := h.1 c4
        refine hv_iconst (v := nI 1) E dX4_doesUse_36 (by decide) ?_
        refine hv_goto (tgt := 41) E dX4_doesUse_37 (by decide) ?_
        refine hv_istore_n (lv' := [(0, aR (20, 0)), (1, aI a1), (2, aI a2), (4, aI l4)]) E dX4_doesUse_41 rfl (by decide) rfl ?_
        refine hv_iinc (v := l4 + nI 1) (lv' := [(3, aI (nI 1)), (0, aR (20, 0)), (1, aI a1), (2, aI a2)]) E 4 dX4_doesUse_42 rfl (hx_i1 _) (by decide) rfl ?_
        refine hv_goto (tgt := 5) E dX4_doesUse_45 (by decide) ?_
        refine hv_lv [2, 3, 4, 1, 0] rfl ?_
        exact ih x (nI 1) (l4 + nI 1) hs h
      · have h := h.2 c4
        refine hv_aload_n E dX4_doesUse_20 rfl 0 rfl ?_
        refine hv_getR (k := 17) (t2 := (32, 0)) E dX4_doesUse_21 rfl rfl hiX4 (by decide) wd_434 rfl rfl (hs _ _ _ rfl) ?_
        refine hv_bipush (v := nI 8) E dX4_doesUse_24 (by decide) ?_
        refine hv_iload_n E dX4_doesUse_26 rfl 1 rfl ?_
        refine hv_imul (v := (nI 8) * a1) E dX4_doesUse_27 rfl ?_
        refine hv_iload E dX4_doesUse_28 4 rfl ?_
        refine hv_iadd (v := ((nI 8) * a1) + l4) E dX4_doesUse_30 rfl ?_
        obtain ⟨h5, h⟩ := h
        refine hv_iald E dX4_doesUse_31 rfl (by decide) rfl h5 ?_
        refine hv_iload_n E dX4_doesUse_32 rfl 2 rfl ?_
        refine hv_icmp_ne (tgt := 40) E dX4_doesUse_33 (by decide) (fun c6 => ?_) (fun c6 => ?_)
        · have h := h.1 c6
          refine hv_iconst (v := nI 0) E dX4_doesUse_40 (by decide) ?_
          refine hv_istore_n (lv' := [(0, aR (20, 0)), (1, aI a1), (2, aI a2), (4, aI l4)]) E dX4_doesUse_41 rfl (by decide) rfl ?_
          refine hv_iinc (v := l4 + nI 1) (lv' := [(3, aI (nI 0)), (0, aR (20, 0)), (1, aI a1), (2, aI a2)]) E 4 dX4_doesUse_42 rfl (hx_i1 _) (by decide) rfl ?_
          refine hv_goto (tgt := 5) E dX4_doesUse_45 (by decide) ?_
          refine hv_lv [2, 3, 4, 1, 0] rfl ?_
          exact ih x (nI 0) (l4 + nI 1) hs h
        · have h := h.2 c6
          refine hv_iconst (v := nI 1) E dX4_doesUse_36 (by decide) ?_
          refine hv_goto (tgt := 41) E dX4_doesUse_37 (by decide) ?_
          refine hv_istore_n (lv' := [(0, aR (20, 0)), (1, aI a1), (2, aI a2), (4, aI l4)]) E dX4_doesUse_41 rfl (by decide) rfl ?_
          refine hv_iinc (v := l4 + nI 1) (lv' := [(3, aI (nI 1)), (0, aR (20, 0)), (1, aI a1), (2, aI a2)]) E 4 dX4_doesUse_42 rfl (hx_i1 _) (by decide) rfl ?_
          refine hv_goto (tgt := 5) E dX4_doesUse_45 (by decide) ?_
          refine hv_lv [2, 3, 4, 1, 0] rfl ?_
          exact ih x (nI 1) (l4 + nI 1) hs h
set_option maxRecDepth 100000 in
set_option maxHeartbeats 4000000 in
theorem c_X4_doesUse (l : Launch) (P : Int32 → hp_S → Prop) (a1 : Int32) (a2 : Int32) (x : hp_S) (hs : hp_sh x) (h : k_X4_doesUse P a1 a2 x) : hp_C l yX4_doesUse (Cond.code yX4_doesUse cX4_doesUse 5 (Option.some Jvm.ClassFile.FieldType.boolean) :: hp_ws) rm_X4_doesUse [aR (20, 0), aI a1, aI a2] x (hp_pI P) 0 0 := by
  refine hp_ofV (own := "VersionJoinsModel") (lv := [(0, aR (20, 0)), (1, aI a1), (2, aI a2)]) (by decide) rfl (Nat.le_of_ble_eq_true rfl) rfl ?_
  intro p e s m args below meth c D cA B0 ad0 E hret hnm
  unfold k_X4_doesUse at h
  refine hv_iconst (v := nI 0) E dX4_doesUse_0 (by decide) ?_
  refine hv_istore_n (lv' := [(0, aR (20, 0)), (1, aI a1), (2, aI a2)]) E dX4_doesUse_1 rfl (by decide) rfl ?_
  refine hv_iconst (v := nI 0) E dX4_doesUse_2 (by decide) ?_
  refine hv_istore (lv' := [(3, aI (nI 0)), (0, aR (20, 0)), (1, aI a1), (2, aI a2)]) E dX4_doesUse_3 (by decide) rfl ?_
  obtain ⟨n7, h⟩ := h
  refine hv_lv [2, 3, 4, 1, 0] rfl ?_
  exact w_X4_doesUse_5 E hret a1 a2 n7 x (nI 0) (nI 0) hs h
-- VersionJoinsModel.doesMake(II)Z
def k_X4_doesMake_5 (P : Int32 → hp_S → Prop) (a1 : Int32) (a2 : Int32) : Nat → hp_S → Int32 → Int32 → Prop
  | 0, _, _, _ => False
  | n + 1, x, l3, l4 => vp_in a1 12 ∧ (((x.2.1 (35, 0) a1.toNatClampNeg) ≤ l4 → ((narrow .boolean (.int l3) = .int l3) ∧ P l3 x)) ∧ (¬ (x.2.1 (35, 0) a1.toNatClampNeg) ≤ l4 → ((¬ l3 = 0 → (k_X4_doesMake_5 P a1 a2 n x (nI 1) (l4 + nI 1))) ∧ (l3 = 0 → (vp_in (((nI 4) * a1) + l4) 48 ∧ ((¬ (x.2.1 (34, 0) (((nI 4) * a1) + l4).toNatClampNeg) = a2 → (k_X4_doesMake_5 P a1 a2 n x (nI 0) (l4 + nI 1))) ∧ ((x.2.1 (34, 0) (((nI 4) * a1) + l4).toNatClampNeg) = a2 → (k_X4_doesMake_5 P a1 a2 n x (nI 1) (l4 + nI 1)))))))))
def k_X4_doesMake (P : Int32 → hp_S → Prop) (a1 : Int32) (a2 : Int32) (x : hp_S) : Prop := ∃ q, k_X4_doesMake_5 P a1 a2 q x (nI 0) (nI 0)
abbrev rm_X4_doesMake : Room := ({ frames := 0, cells := 0, slots := 0, locals := 0 } : Room)
set_option maxRecDepth 100000 in
set_option maxHeartbeats 4000000 in
theorem w_X4_doesMake_5 {p : Program} {l : Launch} {e : Env} {s : State} {m : MethodId} {args : Array Value} {below : List Frame} {meth : Method} {c : Code} {D : va_G} {cA : Nat → ClassId} {B0 : Nat} {ad0 : hp_T → Nat} {x0 : hp_S} (E : hp_E p s m args meth c cX4_doesMake 5 "VersionJoinsModel" hp_ws D cA B0) (hret : meth.sig.returnType = (Option.some Jvm.ClassFile.FieldType.boolean)) {P : Int32 → hp_S → Prop} (a1 : Int32) (a2 : Int32) : ∀ (n : Nat) (x : hp_S) (l3 : Int32) (l4 : Int32), hp_sh x → k_X4_doesMake_5 P a1 a2 n x l3 l4 → hp_V p l e rm_X4_doesMake s m args below meth c (fun ad0 => MQ below (hp_Q D cA B0 ad0 x0 (hp_pI P)) args s 0 0 (fun q => B0 ≤ q)) D cA B0 5 ad0 x0 0 0 x 5 [(0, aR (20, 0)), (1, aI a1), (2, aI a2), (3, aI l3), (4, aI l4)] [] := by
  intro n
  induction n with
  | zero => intro x l3 l4 hs h; exact absurd h id
  | succ n ih =>
    intro x l3 l4 hs h
    unfold k_X4_doesMake_5 at h
    refine hv_iload E dX4_doesMake_5 4 rfl ?_
    refine hv_aload_n E dX4_doesMake_7 rfl 0 rfl ?_
    refine hv_getR (k := 20) (t2 := (35, 0)) E dX4_doesMake_8 rfl rfl hiX4 (by decide) wd_437 rfl rfl (hs _ _ _ rfl) ?_
    refine hv_iload_n E dX4_doesMake_11 rfl 1 rfl ?_
    obtain ⟨h1, h⟩ := h
    refine hv_iald E dX4_doesMake_12 rfl (by decide) rfl h1 ?_
    refine hv_icmp_ge (tgt := 47) E dX4_doesMake_13 (by decide) (fun c2 => ?_) (fun c2 => ?_)
    · have h := h.1 c2
      refine hv_iload_n E dX4_doesMake_47 rfl 3 rfl ?_
      obtain ⟨h3, h⟩ := h
      exact hv_zret E hret dX4_doesMake_48 h3 (Nat.le_of_ble_eq_true rfl) (Nat.le_of_ble_eq_true rfl) ⟨_, rfl, hs, h⟩
    · have h := h.2 c2
      refine hv_iload_n E dX4_doesMake_16 rfl 3 rfl ?_
      refine hv_if_ne (tgt := 35) E dX4_doesMake_17 (by decide) (fun c4 => ?_) (fun c4 => ?_)
      · have h := h.1 c4
        refine hv_iconst (v := nI 1) E dX4_doesMake_35 (by decide) ?_
        refine hv_goto (tgt := 40) E dX4_doesMake_36 (by decide) ?_
        refine hv_istore_n (lv' := [(0, aR (20, 0)), (1, aI a1), (2, aI a2), (4, aI l4)]) E dX4_doesMake_40 rfl (by decide) rfl ?_
        refine hv_iinc (v := l4 + nI 1) (lv' := [(3, aI (nI 1)), (0, aR (20, 0)), (1, aI a1), (2, aI a2)]) E 4 dX4_doesMake_41 rfl (hx_i1 _) (by decide) rfl ?_
        refine hv_goto (tgt := 5) E dX4_doesMake_44 (by decide) ?_
        refine hv_lv [2, 3, 4, 1, 0] rfl ?_
        exact ih x (nI 1) (l4 + nI 1) hs h
      · have h := h.2 c4
        refine hv_aload_n E dX4_doesMake_20 rfl 0 rfl ?_
        refine hv_getR (k := 19) (t2 := (34, 0)) E dX4_doesMake_21 rfl rfl hiX4 (by decide) wd_436 rfl rfl (hs _ _ _ rfl) ?_
        refine hv_iconst (v := nI 4) E dX4_doesMake_24 (by decide) ?_
        refine hv_iload_n E dX4_doesMake_25 rfl 1 rfl ?_
        refine hv_imul (v := (nI 4) * a1) E dX4_doesMake_26 rfl ?_
        refine hv_iload E dX4_doesMake_27 4 rfl ?_
        refine hv_iadd (v := ((nI 4) * a1) + l4) E dX4_doesMake_29 rfl ?_
        obtain ⟨h5, h⟩ := h
        refine hv_iald E dX4_doesMake_30 rfl (by decide) rfl h5 ?_
        refine hv_iload_n E dX4_doesMake_31 rfl 2 rfl ?_
        refine hv_icmp_ne (tgt := 39) E dX4_doesMake_32 (by decide) (fun c6 => ?_) (fun c6 => ?_)
        · have h := h.1 c6
          refine hv_iconst (v := nI 0) E dX4_doesMake_39 (by decide) ?_
          refine hv_istore_n (lv' := [(0, aR (20, 0)), (1, aI a1), (2, aI a2), (4, aI l4)]) E dX4_doesMake_40 rfl (by decide) rfl ?_
          refine hv_iinc (v := l4 + nI 1) (lv' := [(3, aI (nI 0)), (0, aR (20, 0)), (1, aI a1), (2, aI a2)]) E 4 dX4_doesMake_41 rfl (hx_i1 _) (by decide) rfl ?_
          refine hv_goto (tgt := 5) E dX4_doesMake_44 (by decide) ?_
          refine hv_lv [2, 3, 4, 1, 0] rfl ?_
          exact ih x (nI 0) (l4 + nI 1) hs h
        · have h := h.2 c6
          refine hv_iconst (v := nI 1) E dX4_doesMake_35 (by decide) ?_
          refine hv_goto (tgt := 40) E dX4_doesMake_36 (by decide) ?_
          refine hv_istore_n (lv' := [(0, aR (20, 0)), (1, aI a1), (2, aI a2), (4, aI l4)]) E dX4_doesMake_40 rfl (by decide) rfl ?_
          refine hv_iinc (v := l4 + nI 1) (lv' := [(3, aI (nI 1)), (0, aR (20, 0)), (1, aI a1), (2, aI a2)]) E 4 dX4_doesMake_41 rfl (hx_i1 _) (by decide) rfl ?_
          refine hv_goto (tgt := 5) E dX4_doesMake_44 (by decide) ?_
          refine hv_lv [2, 3, 4, 1, 0] rfl ?_
          exact ih x (nI 1) (l4 + nI 1) hs h
set_option maxRecDepth 100000 in
set_option maxHeartbeats 4000000 in
theorem c_X4_doesMake (l : Launch) (P : Int32 → hp_S → Prop) (a1 : Int32) (a2 : Int32) (x : hp_S) (hs : hp_sh x) (h : k_X4_doesMake P a1 a2 x) : hp_C l yX4_doesMake (Cond.code yX4_doesMake cX4_doesMake 5 (Option.some Jvm.ClassFile.FieldType.boolean) :: hp_ws) rm_X4_doesMake [aR (20, 0), aI a1, aI a2] x (hp_pI P) 0 0 := by
  refine hp_ofV (own := "VersionJoinsModel") (lv := [(0, aR (20, 0)), (1, aI a1), (2, aI a2)]) (by decide) rfl (Nat.le_of_ble_eq_true rfl) rfl ?_
  intro p e s m args below meth c D cA B0 ad0 E hret hnm
  unfold k_X4_doesMake at h
  refine hv_iconst (v := nI 0) E dX4_doesMake_0 (by decide) ?_
  refine hv_istore_n (lv' := [(0, aR (20, 0)), (1, aI a1), (2, aI a2)]) E dX4_doesMake_1 rfl (by decide) rfl ?_
  refine hv_iconst (v := nI 0) E dX4_doesMake_2 (by decide) ?_
  refine hv_istore (lv' := [(3, aI (nI 0)), (0, aR (20, 0)), (1, aI a1), (2, aI a2)]) E dX4_doesMake_3 (by decide) rfl ?_
  obtain ⟨n7, h⟩ := h
  refine hv_lv [2, 3, 4, 1, 0] rfl ?_
  exact w_X4_doesMake_5 E hret a1 a2 n7 x (nI 0) (nI 0) hs h
-- VersionJoinsModel.maker(I)I
def k_X4_maker_4 (P : Int32 → hp_S → Prop) (a1 : Int32) : Nat → hp_S → Int32 → Int32 → Prop
  | 0, _, _, _ => False
  | n + 1, x, l2, l3 => ((x.2.1 (20, 0) 15) ≤ l3 → (P l2 x)) ∧ (¬ (x.2.1 (20, 0) 15) ≤ l3 → (k_X4_doesMake (fun r15 x15 => (r15 = 0 → (k_X4_maker_4 P a1 n x15 l2 (l3 + nI 1))) ∧ (¬ r15 = 0 → (k_X4_maker_4 P a1 n x15 l3 (l3 + nI 1)))) l3 a1 x))
def k_X4_maker (P : Int32 → hp_S → Prop) (a1 : Int32) (x : hp_S) : Prop := ∃ q, k_X4_maker_4 P a1 q x (-1 : Int32) (nI 0)
abbrev rm_X4_maker : Room := ({ frames := 1, cells := 0, slots := 0, locals := 24 } : Room)
set_option maxRecDepth 100000 in
set_option maxHeartbeats 4000000 in
theorem w_X4_maker_4 {p : Program} {l : Launch} {e : Env} {s : State} {m : MethodId} {args : Array Value} {below : List Frame} {meth : Method} {c : Code} {D : va_G} {cA : Nat → ClassId} {B0 : Nat} {ad0 : hp_T → Nat} {x0 : hp_S} (E : hp_E p s m args meth c cX4_maker 4 "VersionJoinsModel" hp_ws D cA B0) (hret : meth.sig.returnType = (Option.some Jvm.ClassFile.FieldType.int)) {P : Int32 → hp_S → Prop} (a1 : Int32) : ∀ (n : Nat) (x : hp_S) (l2 : Int32) (l3 : Int32), hp_sh x → k_X4_maker_4 P a1 n x l2 l3 → hp_V p l e rm_X4_maker s m args below meth c (fun ad0 => MQ below (hp_Q D cA B0 ad0 x0 (hp_pI P)) args s 0 0 (fun q => B0 ≤ q)) D cA B0 4 ad0 x0 0 0 x 4 [(0, aR (20, 0)), (1, aI a1), (2, aI l2), (3, aI l3)] [] := by
  intro n
  induction n with
  | zero => intro x l2 l3 hs h; exact absurd h id
  | succ n ih =>
    intro x l2 l3 hs h
    unfold k_X4_maker_4 at h
    refine hv_iload_n E dX4_maker_4 rfl 3 rfl ?_
    refine hv_aload_n E dX4_maker_5 rfl 0 rfl ?_
    refine hv_getI (k := 15) E dX4_maker_6 rfl rfl hiX4 (by decide) wd_432 rfl rfl ?_
    refine hv_icmp_ge (tgt := 33) E dX4_maker_9 (by decide) (fun c1 => ?_) (fun c1 => ?_)
    · have h := h.1 c1
      refine hv_iload_n E dX4_maker_33 rfl 2 rfl ?_
      exact hv_iret E hret dX4_maker_34 (Nat.le_of_ble_eq_true rfl) (Nat.le_of_ble_eq_true rfl) ⟨_, rfl, hs, h⟩
    · have h := h.2 c1
      refine hv_aload_n E dX4_maker_12 rfl 0 rfl ?_
      refine hv_iload_n E dX4_maker_13 rfl 3 rfl ?_
      refine hv_iload_n E dX4_maker_14 rfl 1 rfl ?_
      refine hv_VI E [aI l3, aI a1] (c_X4_doesMake l _ l3 a1 x hs h) (hp_cwV 2 E wd_548 wd_550 wd_25 wd_41 wd_551 rfl rfl (by decide +kernel) ⟨(Nat.le_of_ble_eq_true rfl), (Nat.le_of_ble_eq_true rfl)⟩) rfl rfl rfl rfl (Nat.le_of_ble_eq_true rfl) dX4_maker_15 ⟨(Nat.le_of_ble_eq_true rfl), (Nat.le_of_ble_eq_true rfl)⟩ (fun r15 x15 hs h => ?_)
      refine hv_if_eq (tgt := 25) E dX4_maker_18 (by decide) (fun c2 => ?_) (fun c2 => ?_)
      · have h := h.1 c2
        refine hv_iload_n E dX4_maker_25 rfl 2 rfl ?_
        refine hv_istore_n (lv' := [(0, aR (20, 0)), (1, aI a1), (3, aI l3)]) E dX4_maker_26 rfl (by decide) rfl ?_
        refine hv_iinc (v := l3 + nI 1) (lv' := [(2, aI l2), (0, aR (20, 0)), (1, aI a1)]) E 3 dX4_maker_27 rfl (hx_i1 _) (by decide) rfl ?_
        refine hv_goto (tgt := 4) E dX4_maker_30 (by decide) ?_
        refine hv_lv [2, 3, 1, 0] rfl ?_
        exact ih x15 l2 (l3 + nI 1) hs h
      · have h := h.2 c2
        refine hv_iload_n E dX4_maker_21 rfl 3 rfl ?_
        refine hv_goto (tgt := 26) E dX4_maker_22 (by decide) ?_
        refine hv_istore_n (lv' := [(0, aR (20, 0)), (1, aI a1), (3, aI l3)]) E dX4_maker_26 rfl (by decide) rfl ?_
        refine hv_iinc (v := l3 + nI 1) (lv' := [(2, aI l3), (0, aR (20, 0)), (1, aI a1)]) E 3 dX4_maker_27 rfl (hx_i1 _) (by decide) rfl ?_
        refine hv_goto (tgt := 4) E dX4_maker_30 (by decide) ?_
        refine hv_lv [2, 3, 1, 0] rfl ?_
        exact ih x15 l3 (l3 + nI 1) hs h
set_option maxRecDepth 100000 in
set_option maxHeartbeats 4000000 in
theorem c_X4_maker (l : Launch) (P : Int32 → hp_S → Prop) (a1 : Int32) (x : hp_S) (hs : hp_sh x) (h : k_X4_maker P a1 x) : hp_C l yX4_maker (Cond.code yX4_maker cX4_maker 4 (Option.some Jvm.ClassFile.FieldType.int) :: hp_ws) rm_X4_maker [aR (20, 0), aI a1] x (hp_pI P) 0 0 := by
  refine hp_ofV (own := "VersionJoinsModel") (lv := [(0, aR (20, 0)), (1, aI a1)]) (by decide) rfl (Nat.le_of_ble_eq_true rfl) rfl ?_
  intro p e s m args below meth c D cA B0 ad0 E hret hnm
  unfold k_X4_maker at h
  refine hv_iconst (v := (-1 : Int32)) E dX4_maker_0 (by decide) ?_
  refine hv_istore_n (lv' := [(0, aR (20, 0)), (1, aI a1)]) E dX4_maker_1 rfl (by decide) rfl ?_
  refine hv_iconst (v := nI 0) E dX4_maker_2 (by decide) ?_
  refine hv_istore_n (lv' := [(2, aI (-1 : Int32)), (0, aR (20, 0)), (1, aI a1)]) E dX4_maker_3 rfl (by decide) rfl ?_
  obtain ⟨n3, h⟩ := h
  refine hv_lv [2, 3, 1, 0] rfl ?_
  exact w_X4_maker_4 E hret a1 n3 x (-1 : Int32) (nI 0) hs h
-- VersionJoinsModel.isBehind(II)Z
def k_X4_isBehind_5 (P : Int32 → hp_S → Prop) (a1 : Int32) (a2 : Int32) : Nat → hp_S → Int32 → Int32 → Prop
  | 0, _, _, _ => False
  | n + 1, x, l3, l4 => vp_in a2 12 ∧ (((x.2.1 (35, 0) a2.toNatClampNeg) ≤ l4 → ((narrow .boolean (.int l3) = .int l3) ∧ P l3 x)) ∧ (¬ (x.2.1 (35, 0) a2.toNatClampNeg) ≤ l4 → ((¬ l3 = 0 → (k_X4_isBehind_5 P a1 a2 n x (nI 1) (l4 + nI 1))) ∧ (l3 = 0 → (vp_in (((nI 4) * a2) + l4) 48 ∧ (k_X4_doesUse (fun r33 x33 => (r33 = 0 → (k_X4_isBehind_5 P a1 a2 n x33 (nI 0) (l4 + nI 1))) ∧ (¬ r33 = 0 → (k_X4_isBehind_5 P a1 a2 n x33 (nI 1) (l4 + nI 1)))) a1 (x.2.1 (34, 0) (((nI 4) * a2) + l4).toNatClampNeg) x))))))
def k_X4_isBehind (P : Int32 → hp_S → Prop) (a1 : Int32) (a2 : Int32) (x : hp_S) : Prop := ∃ q, k_X4_isBehind_5 P a1 a2 q x (nI 0) (nI 0)
abbrev rm_X4_isBehind : Room := ({ frames := 1, cells := 0, slots := 0, locals := 24 } : Room)
set_option maxRecDepth 100000 in
set_option maxHeartbeats 4000000 in
theorem w_X4_isBehind_5 {p : Program} {l : Launch} {e : Env} {s : State} {m : MethodId} {args : Array Value} {below : List Frame} {meth : Method} {c : Code} {D : va_G} {cA : Nat → ClassId} {B0 : Nat} {ad0 : hp_T → Nat} {x0 : hp_S} (E : hp_E p s m args meth c cX4_isBehind 5 "VersionJoinsModel" hp_ws D cA B0) (hret : meth.sig.returnType = (Option.some Jvm.ClassFile.FieldType.boolean)) {P : Int32 → hp_S → Prop} (a1 : Int32) (a2 : Int32) : ∀ (n : Nat) (x : hp_S) (l3 : Int32) (l4 : Int32), hp_sh x → k_X4_isBehind_5 P a1 a2 n x l3 l4 → hp_V p l e rm_X4_isBehind s m args below meth c (fun ad0 => MQ below (hp_Q D cA B0 ad0 x0 (hp_pI P)) args s 0 0 (fun q => B0 ≤ q)) D cA B0 5 ad0 x0 0 0 x 5 [(0, aR (20, 0)), (1, aI a1), (2, aI a2), (3, aI l3), (4, aI l4)] [] := by
  intro n
  induction n with
  | zero => intro x l3 l4 hs h; exact absurd h id
  | succ n ih =>
    intro x l3 l4 hs h
    unfold k_X4_isBehind_5 at h
    refine hv_iload E dX4_isBehind_5 4 rfl ?_
    refine hv_aload_n E dX4_isBehind_7 rfl 0 rfl ?_
    refine hv_getR (k := 20) (t2 := (35, 0)) E dX4_isBehind_8 rfl rfl hiX4 (by decide) wd_437 rfl rfl (hs _ _ _ rfl) ?_
    refine hv_iload_n E dX4_isBehind_11 rfl 2 rfl ?_
    obtain ⟨h1, h⟩ := h
    refine hv_iald E dX4_isBehind_12 rfl (by decide) rfl h1 ?_
    refine hv_icmp_ge (tgt := 51) E dX4_isBehind_13 (by decide) (fun c2 => ?_) (fun c2 => ?_)
    · have h := h.1 c2
      refine hv_iload_n E dX4_isBehind_51 rfl 3 rfl ?_
      obtain ⟨h3, h⟩ := h
      exact hv_zret E hret dX4_isBehind_52 h3 (Nat.le_of_ble_eq_true rfl) (Nat.le_of_ble_eq_true rfl) ⟨_, rfl, hs, h⟩
    · have h := h.2 c2
      refine hv_iload_n E dX4_isBehind_16 rfl 3 rfl ?_
      refine hv_if_ne (tgt := 39) E dX4_isBehind_17 (by decide) (fun c4 => ?_) (fun c4 => ?_)
      · have h := h.1 c4
        refine hv_iconst (v := nI 1) E dX4_isBehind_39 (by decide) ?_
        refine hv_goto (tgt := 44) E dX4_isBehind_40 (by decide) ?_
        refine hv_istore_n (lv' := [(0, aR (20, 0)), (1, aI a1), (2, aI a2), (4, aI l4)]) E dX4_isBehind_44 rfl (by decide) rfl ?_
        refine hv_iinc (v := l4 + nI 1) (lv' := [(3, aI (nI 1)), (0, aR (20, 0)), (1, aI a1), (2, aI a2)]) E 4 dX4_isBehind_45 rfl (hx_i1 _) (by decide) rfl ?_
        refine hv_goto (tgt := 5) E dX4_isBehind_48 (by decide) ?_
        refine hv_lv [2, 3, 4, 1, 0] rfl ?_
        exact ih x (nI 1) (l4 + nI 1) hs h
      · have h := h.2 c4
        refine hv_aload_n E dX4_isBehind_20 rfl 0 rfl ?_
        refine hv_iload_n E dX4_isBehind_21 rfl 1 rfl ?_
        refine hv_aload_n E dX4_isBehind_22 rfl 0 rfl ?_
        refine hv_getR (k := 19) (t2 := (34, 0)) E dX4_isBehind_23 rfl rfl hiX4 (by decide) wd_436 rfl rfl (hs _ _ _ rfl) ?_
        refine hv_iconst (v := nI 4) E dX4_isBehind_26 (by decide) ?_
        refine hv_iload_n E dX4_isBehind_27 rfl 2 rfl ?_
        refine hv_imul (v := (nI 4) * a2) E dX4_isBehind_28 rfl ?_
        refine hv_iload E dX4_isBehind_29 4 rfl ?_
        refine hv_iadd (v := ((nI 4) * a2) + l4) E dX4_isBehind_31 rfl ?_
        obtain ⟨h5, h⟩ := h
        refine hv_iald E dX4_isBehind_32 rfl (by decide) rfl h5 ?_
        refine hv_VI E [aI a1, aI (x.2.1 (34, 0) (((nI 4) * a2) + l4).toNatClampNeg)] (c_X4_doesUse l _ a1 (x.2.1 (34, 0) (((nI 4) * a2) + l4).toNatClampNeg) x hs h) (hp_cwV 2 E wd_528 wd_530 wd_20 wd_41 wd_531 rfl rfl (by decide +kernel) ⟨(Nat.le_of_ble_eq_true rfl), (Nat.le_of_ble_eq_true rfl)⟩) rfl rfl rfl rfl (Nat.le_of_ble_eq_true rfl) dX4_isBehind_33 ⟨(Nat.le_of_ble_eq_true rfl), (Nat.le_of_ble_eq_true rfl)⟩ (fun r33 x33 hs h => ?_)
        refine hv_if_eq (tgt := 43) E dX4_isBehind_36 (by decide) (fun c6 => ?_) (fun c6 => ?_)
        · have h := h.1 c6
          refine hv_iconst (v := nI 0) E dX4_isBehind_43 (by decide) ?_
          refine hv_istore_n (lv' := [(0, aR (20, 0)), (1, aI a1), (2, aI a2), (4, aI l4)]) E dX4_isBehind_44 rfl (by decide) rfl ?_
          refine hv_iinc (v := l4 + nI 1) (lv' := [(3, aI (nI 0)), (0, aR (20, 0)), (1, aI a1), (2, aI a2)]) E 4 dX4_isBehind_45 rfl (hx_i1 _) (by decide) rfl ?_
          refine hv_goto (tgt := 5) E dX4_isBehind_48 (by decide) ?_
          refine hv_lv [2, 3, 4, 1, 0] rfl ?_
          exact ih x33 (nI 0) (l4 + nI 1) hs h
        · have h := h.2 c6
          refine hv_iconst (v := nI 1) E dX4_isBehind_39 (by decide) ?_
          refine hv_goto (tgt := 44) E dX4_isBehind_40 (by decide) ?_
          refine hv_istore_n (lv' := [(0, aR (20, 0)), (1, aI a1), (2, aI a2), (4, aI l4)]) E dX4_isBehind_44 rfl (by decide) rfl ?_
          refine hv_iinc (v := l4 + nI 1) (lv' := [(3, aI (nI 1)), (0, aR (20, 0)), (1, aI a1), (2, aI a2)]) E 4 dX4_isBehind_45 rfl (hx_i1 _) (by decide) rfl ?_
          refine hv_goto (tgt := 5) E dX4_isBehind_48 (by decide) ?_
          refine hv_lv [2, 3, 4, 1, 0] rfl ?_
          exact ih x33 (nI 1) (l4 + nI 1) hs h
set_option maxRecDepth 100000 in
set_option maxHeartbeats 4000000 in
theorem c_X4_isBehind (l : Launch) (P : Int32 → hp_S → Prop) (a1 : Int32) (a2 : Int32) (x : hp_S) (hs : hp_sh x) (h : k_X4_isBehind P a1 a2 x) : hp_C l yX4_isBehind (Cond.code yX4_isBehind cX4_isBehind 5 (Option.some Jvm.ClassFile.FieldType.boolean) :: hp_ws) rm_X4_isBehind [aR (20, 0), aI a1, aI a2] x (hp_pI P) 0 0 := by
  refine hp_ofV (own := "VersionJoinsModel") (lv := [(0, aR (20, 0)), (1, aI a1), (2, aI a2)]) (by decide) rfl (Nat.le_of_ble_eq_true rfl) rfl ?_
  intro p e s m args below meth c D cA B0 ad0 E hret hnm
  unfold k_X4_isBehind at h
  refine hv_iconst (v := nI 0) E dX4_isBehind_0 (by decide) ?_
  refine hv_istore_n (lv' := [(0, aR (20, 0)), (1, aI a1), (2, aI a2)]) E dX4_isBehind_1 rfl (by decide) rfl ?_
  refine hv_iconst (v := nI 0) E dX4_isBehind_2 (by decide) ?_
  refine hv_istore (lv' := [(3, aI (nI 0)), (0, aR (20, 0)), (1, aI a1), (2, aI a2)]) E dX4_isBehind_3 (by decide) rfl ?_
  obtain ⟨n7, h⟩ := h
  refine hv_lv [2, 3, 4, 1, 0] rfl ?_
  exact w_X4_isBehind_5 E hret a1 a2 n7 x (nI 0) (nI 0) hs h
-- VersionJoinsModel.markBehind()V
def k_X4_markBehind_20 (P : hp_S → Prop) (f1 : Int32) (f2 : Int32) (K : hp_S → Int32 → Prop) : Nat → hp_S → Int32 → Prop
  | 0, _, _ => False
  | n + 1, x, l3 => ((x.2.1 (20, 0) 15) ≤ l3 → (K x l3)) ∧ (¬ (x.2.1 (20, 0) 15) ≤ l3 → (vp_in f2 12 ∧ ((¬ (x.2.1 (41, 0) f2.toNatClampNeg) = 0 → (vp_in f2 12 ∧ (k_X4_markBehind_20 P f1 f2 K n (hp_uI x (41, 0) f2.toNatClampNeg (nI 1)) (l3 + nI 1)))) ∧ ((x.2.1 (41, 0) f2.toNatClampNeg) = 0 → (vp_in l3 12 ∧ (((x.2.1 (41, 0) l3.toNatClampNeg) = 0 → (vp_in f2 12 ∧ (k_X4_markBehind_20 P f1 f2 K n (hp_uI x (41, 0) f2.toNatClampNeg (nI 0)) (l3 + nI 1)))) ∧ (¬ (x.2.1 (41, 0) l3.toNatClampNeg) = 0 → (k_X4_isBehind (fun r54 x54 => (r54 = 0 → (vp_in f2 12 ∧ (k_X4_markBehind_20 P f1 f2 K n (hp_uI x54 (41, 0) f2.toNatClampNeg (nI 0)) (l3 + nI 1)))) ∧ (¬ r54 = 0 → (vp_in f2 12 ∧ (k_X4_markBehind_20 P f1 f2 K n (hp_uI x54 (41, 0) f2.toNatClampNeg (nI 1)) (l3 + nI 1))))) f2 l3 x))))))))
def k_X4_markBehind_10 (P : hp_S → Prop) (f1 : Int32) (K : hp_S → Int32 → Prop) : Nat → hp_S → Int32 → Prop
  | 0, _, _ => False
  | n + 1, x, l2 => ((x.2.1 (20, 0) 15) ≤ l2 → (K x l2)) ∧ (¬ (x.2.1 (20, 0) 15) ≤ l2 → (∃ q, k_X4_markBehind_20 P f1 l2 (fun x_20 l3_20 => k_X4_markBehind_10 P f1 K n x_20 (l2 + nI 1)) q x (nI 0)))
def k_X4_markBehind_2 (P : hp_S → Prop) : Nat → hp_S → Int32 → Prop
  | 0, _, _ => False
  | n + 1, x, l1 => ((nI 12) ≤ l1 → (P x)) ∧ (¬ (nI 12) ≤ l1 → (∃ q, k_X4_markBehind_10 P l1 (fun x_10 l2_10 => k_X4_markBehind_2 P n x_10 (l1 + nI 1)) q x (nI 0)))
def k_X4_markBehind (P : hp_S → Prop)  (x : hp_S) : Prop := ∃ q, k_X4_markBehind_2 P  q x (nI 0)
abbrev rm_X4_markBehind : Room := ({ frames := 2, cells := 0, slots := 0, locals := 48 } : Room)
set_option maxRecDepth 100000 in
set_option maxHeartbeats 4000000 in
theorem w_X4_markBehind_20 {p : Program} {l : Launch} {e : Env} {s : State} {m : MethodId} {args : Array Value} {below : List Frame} {meth : Method} {c : Code} {D : va_G} {cA : Nat → ClassId} {B0 : Nat} {ad0 : hp_T → Nat} {x0 : hp_S} (E : hp_E p s m args meth c cX4_markBehind 4 "VersionJoinsModel" hp_ws D cA B0) (hret : meth.sig.returnType = (Option.none : Option Jvm.ClassFile.FieldType)) {P : hp_S → Prop} (f1 : Int32) (f2 : Int32) {K : hp_S → Int32 → Prop} (hK : ∀ (x : hp_S) (l3 : Int32), hp_sh x → K x l3 → hp_V p l e rm_X4_markBehind s m args below meth c (fun ad0 => MQ below (hp_Q D cA B0 ad0 x0 (hp_pV P)) args s 0 0 (fun q => B0 ≤ q)) D cA B0 4 ad0 x0 0 0 x 72 [(0, aR (20, 0)), (1, aI f1), (2, aI f2), (3, aI l3)] []) : ∀ (n : Nat) (x : hp_S) (l3 : Int32), hp_sh x → k_X4_markBehind_20 P f1 f2 K n x l3 → hp_V p l e rm_X4_markBehind s m args below meth c (fun ad0 => MQ below (hp_Q D cA B0 ad0 x0 (hp_pV P)) args s 0 0 (fun q => B0 ≤ q)) D cA B0 4 ad0 x0 0 0 x 20 [(0, aR (20, 0)), (1, aI f1), (2, aI f2), (3, aI l3)] [] := by
  intro n
  induction n with
  | zero => intro x l3 hs h; exact absurd h id
  | succ n ih =>
    intro x l3 hs h
    unfold k_X4_markBehind_20 at h
    refine hv_iload_n E dX4_markBehind_20 rfl 3 rfl ?_
    refine hv_aload_n E dX4_markBehind_21 rfl 0 rfl ?_
    refine hv_getI (k := 15) E dX4_markBehind_22 rfl rfl hiX4 (by decide) wd_432 rfl rfl ?_
    refine hv_icmp_ge (tgt := 72) E dX4_markBehind_25 (by decide) (fun c3 => ?_) (fun c3 => ?_)
    · have h := h.1 c3
      refine hv_lv [0, 1, 2, 3] rfl ?_
      exact hK x l3 hs h
    · have h := h.2 c3
      refine hv_aload_n E dX4_markBehind_28 rfl 0 rfl ?_
      refine hv_getR (k := 26) (t2 := (41, 0)) E dX4_markBehind_29 rfl rfl hiX4 (by decide) wd_443 rfl rfl (hs _ _ _ rfl) ?_
      refine hv_iload_n E dX4_markBehind_32 rfl 2 rfl ?_
      refine hv_aload_n E dX4_markBehind_33 rfl 0 rfl ?_
      refine hv_getR (k := 26) (t2 := (41, 0)) E dX4_markBehind_34 rfl rfl hiX4 (by decide) wd_443 rfl rfl (hs _ _ _ rfl) ?_
      refine hv_iload_n E dX4_markBehind_37 rfl 2 rfl ?_
      obtain ⟨h4, h⟩ := h
      refine hv_zald E dX4_markBehind_38 rfl (by decide) rfl h4 ?_
      refine hv_if_ne (tgt := 60) E dX4_markBehind_39 (by decide) (fun c5 => ?_) (fun c5 => ?_)
      · have h := h.1 c5
        refine hv_iconst (v := nI 1) E dX4_markBehind_60 (by decide) ?_
        refine hv_goto (tgt := 65) E dX4_markBehind_61 (by decide) ?_
        obtain ⟨h6, h⟩ := h
        refine hv_zast (w := nI 1) E dX4_markBehind_65 rfl (by decide) rfl h6 (by decide) ?_
        refine hv_iinc (v := l3 + nI 1) (lv' := [(0, aR (20, 0)), (1, aI f1), (2, aI f2)]) E 3 dX4_markBehind_66 rfl (hx_i1 _) (by decide) rfl ?_
        refine hv_goto (tgt := 20) E dX4_markBehind_69 (by decide) ?_
        refine hv_lv [1, 2, 3, 0] rfl ?_
        exact ih (hp_uI x (41, 0) f2.toNatClampNeg (nI 1)) (l3 + nI 1) hs h
      · have h := h.2 c5
        refine hv_aload_n E dX4_markBehind_42 rfl 0 rfl ?_
        refine hv_getR (k := 26) (t2 := (41, 0)) E dX4_markBehind_43 rfl rfl hiX4 (by decide) wd_443 rfl rfl (hs _ _ _ rfl) ?_
        refine hv_iload_n E dX4_markBehind_46 rfl 3 rfl ?_
        obtain ⟨h7, h⟩ := h
        refine hv_zald E dX4_markBehind_47 rfl (by decide) rfl h7 ?_
        refine hv_if_eq (tgt := 64) E dX4_markBehind_48 (by decide) (fun c8 => ?_) (fun c8 => ?_)
        · have h := h.1 c8
          refine hv_iconst (v := nI 0) E dX4_markBehind_64 (by decide) ?_
          obtain ⟨h9, h⟩ := h
          refine hv_zast (w := nI 0) E dX4_markBehind_65 rfl (by decide) rfl h9 (by decide) ?_
          refine hv_iinc (v := l3 + nI 1) (lv' := [(0, aR (20, 0)), (1, aI f1), (2, aI f2)]) E 3 dX4_markBehind_66 rfl (hx_i1 _) (by decide) rfl ?_
          refine hv_goto (tgt := 20) E dX4_markBehind_69 (by decide) ?_
          refine hv_lv [1, 2, 3, 0] rfl ?_
          exact ih (hp_uI x (41, 0) f2.toNatClampNeg (nI 0)) (l3 + nI 1) hs h
        · have h := h.2 c8
          refine hv_aload_n E dX4_markBehind_51 rfl 0 rfl ?_
          refine hv_iload_n E dX4_markBehind_52 rfl 2 rfl ?_
          refine hv_iload_n E dX4_markBehind_53 rfl 3 rfl ?_
          refine hv_VI E [aI f2, aI l3] (c_X4_isBehind l _ f2 l3 x hs h) (hp_cwV 2 E wd_540 wd_542 wd_23 wd_41 wd_543 rfl rfl (by decide +kernel) ⟨(Nat.le_of_ble_eq_true rfl), (Nat.le_of_ble_eq_true rfl)⟩) rfl rfl rfl rfl (Nat.le_of_ble_eq_true rfl) dX4_markBehind_54 ⟨(Nat.le_of_ble_eq_true rfl), (Nat.le_of_ble_eq_true rfl)⟩ (fun r54 x54 hs h => ?_)
          refine hv_if_eq (tgt := 64) E dX4_markBehind_57 (by decide) (fun c10 => ?_) (fun c10 => ?_)
          · have h := h.1 c10
            refine hv_iconst (v := nI 0) E dX4_markBehind_64 (by decide) ?_
            obtain ⟨h11, h⟩ := h
            refine hv_zast (w := nI 0) E dX4_markBehind_65 rfl (by decide) rfl h11 (by decide) ?_
            refine hv_iinc (v := l3 + nI 1) (lv' := [(0, aR (20, 0)), (1, aI f1), (2, aI f2)]) E 3 dX4_markBehind_66 rfl (hx_i1 _) (by decide) rfl ?_
            refine hv_goto (tgt := 20) E dX4_markBehind_69 (by decide) ?_
            refine hv_lv [1, 2, 3, 0] rfl ?_
            exact ih (hp_uI x54 (41, 0) f2.toNatClampNeg (nI 0)) (l3 + nI 1) hs h
          · have h := h.2 c10
            refine hv_iconst (v := nI 1) E dX4_markBehind_60 (by decide) ?_
            refine hv_goto (tgt := 65) E dX4_markBehind_61 (by decide) ?_
            obtain ⟨h12, h⟩ := h
            refine hv_zast (w := nI 1) E dX4_markBehind_65 rfl (by decide) rfl h12 (by decide) ?_
            refine hv_iinc (v := l3 + nI 1) (lv' := [(0, aR (20, 0)), (1, aI f1), (2, aI f2)]) E 3 dX4_markBehind_66 rfl (hx_i1 _) (by decide) rfl ?_
            refine hv_goto (tgt := 20) E dX4_markBehind_69 (by decide) ?_
            refine hv_lv [1, 2, 3, 0] rfl ?_
            exact ih (hp_uI x54 (41, 0) f2.toNatClampNeg (nI 1)) (l3 + nI 1) hs h
set_option maxRecDepth 100000 in
set_option maxHeartbeats 4000000 in
theorem w_X4_markBehind_10 {p : Program} {l : Launch} {e : Env} {s : State} {m : MethodId} {args : Array Value} {below : List Frame} {meth : Method} {c : Code} {D : va_G} {cA : Nat → ClassId} {B0 : Nat} {ad0 : hp_T → Nat} {x0 : hp_S} (E : hp_E p s m args meth c cX4_markBehind 4 "VersionJoinsModel" hp_ws D cA B0) (hret : meth.sig.returnType = (Option.none : Option Jvm.ClassFile.FieldType)) {P : hp_S → Prop} (f1 : Int32) {K : hp_S → Int32 → Prop} (hK : ∀ (x : hp_S) (l2 : Int32), hp_sh x → K x l2 → hp_V p l e rm_X4_markBehind s m args below meth c (fun ad0 => MQ below (hp_Q D cA B0 ad0 x0 (hp_pV P)) args s 0 0 (fun q => B0 ≤ q)) D cA B0 4 ad0 x0 0 0 x 78 [(0, aR (20, 0)), (1, aI f1), (2, aI l2)] []) : ∀ (n : Nat) (x : hp_S) (l2 : Int32), hp_sh x → k_X4_markBehind_10 P f1 K n x l2 → hp_V p l e rm_X4_markBehind s m args below meth c (fun ad0 => MQ below (hp_Q D cA B0 ad0 x0 (hp_pV P)) args s 0 0 (fun q => B0 ≤ q)) D cA B0 4 ad0 x0 0 0 x 10 [(0, aR (20, 0)), (1, aI f1), (2, aI l2)] [] := by
  intro n
  induction n with
  | zero => intro x l2 hs h; exact absurd h id
  | succ n ih =>
    intro x l2 hs h
    unfold k_X4_markBehind_10 at h
    refine hv_iload_n E dX4_markBehind_10 rfl 2 rfl ?_
    refine hv_aload_n E dX4_markBehind_11 rfl 0 rfl ?_
    refine hv_getI (k := 15) E dX4_markBehind_12 rfl rfl hiX4 (by decide) wd_432 rfl rfl ?_
    refine hv_icmp_ge (tgt := 78) E dX4_markBehind_15 (by decide) (fun c2 => ?_) (fun c2 => ?_)
    · have h := h.1 c2
      refine hv_lv [0, 1, 2] rfl ?_
      exact hK x l2 hs h
    · have h := h.2 c2
      refine hv_iconst (v := nI 0) E dX4_markBehind_18 (by decide) ?_
      refine hv_istore_n (lv' := [(0, aR (20, 0)), (1, aI f1), (2, aI l2)]) E dX4_markBehind_19 rfl (by decide) rfl ?_
      obtain ⟨n13, h⟩ := h
      refine hv_lv [1, 2, 3, 0] rfl ?_
      refine w_X4_markBehind_20 E hret f1 l2 (K := _) (fun x_20 l3_20 hs h => ?_) n13 x (nI 0) hs h
      refine hv_iinc (v := l2 + nI 1) (lv' := [(0, aR (20, 0)), (1, aI f1), (3, aI l3_20)]) E 2 dX4_markBehind_72 rfl (hx_i1 _) (by decide) rfl ?_
      refine hv_goto (tgt := 10) E dX4_markBehind_75 (by decide) ?_
      refine hv_lv [1, 2, 0] rfl ?_
      exact ih x_20 (l2 + nI 1) hs h
set_option maxRecDepth 100000 in
set_option maxHeartbeats 4000000 in
theorem w_X4_markBehind_2 {p : Program} {l : Launch} {e : Env} {s : State} {m : MethodId} {args : Array Value} {below : List Frame} {meth : Method} {c : Code} {D : va_G} {cA : Nat → ClassId} {B0 : Nat} {ad0 : hp_T → Nat} {x0 : hp_S} (E : hp_E p s m args meth c cX4_markBehind 4 "VersionJoinsModel" hp_ws D cA B0) (hret : meth.sig.returnType = (Option.none : Option Jvm.ClassFile.FieldType)) {P : hp_S → Prop} : ∀ (n : Nat) (x : hp_S) (l1 : Int32), hp_sh x → k_X4_markBehind_2 P n x l1 → hp_V p l e rm_X4_markBehind s m args below meth c (fun ad0 => MQ below (hp_Q D cA B0 ad0 x0 (hp_pV P)) args s 0 0 (fun q => B0 ≤ q)) D cA B0 4 ad0 x0 0 0 x 2 [(0, aR (20, 0)), (1, aI l1)] [] := by
  intro n
  induction n with
  | zero => intro x l1 hs h; exact absurd h id
  | succ n ih =>
    intro x l1 hs h
    unfold k_X4_markBehind_2 at h
    refine hv_iload_n E dX4_markBehind_2 rfl 1 rfl ?_
    refine hv_bipush (v := nI 12) E dX4_markBehind_3 (by decide) ?_
    refine hv_icmp_ge (tgt := 84) E dX4_markBehind_5 (by decide) (fun c1 => ?_) (fun c1 => ?_)
    · have h := h.1 c1
      exact hv_vret E hret dX4_markBehind_84 (Nat.le_of_ble_eq_true rfl) (Nat.le_of_ble_eq_true rfl) ⟨rfl, hs, h⟩
    · have h := h.2 c1
      refine hv_iconst (v := nI 0) E dX4_markBehind_8 (by decide) ?_
      refine hv_istore_n (lv' := [(0, aR (20, 0)), (1, aI l1)]) E dX4_markBehind_9 rfl (by decide) rfl ?_
      obtain ⟨n14, h⟩ := h
      refine hv_lv [1, 2, 0] rfl ?_
      refine w_X4_markBehind_10 E hret l1 (K := _) (fun x_10 l2_10 hs h => ?_) n14 x (nI 0) hs h
      refine hv_iinc (v := l1 + nI 1) (lv' := [(0, aR (20, 0)), (2, aI l2_10)]) E 1 dX4_markBehind_78 rfl (hx_i1 _) (by decide) rfl ?_
      refine hv_goto (tgt := 2) E dX4_markBehind_81 (by decide) ?_
      refine hv_lv [1, 0] rfl ?_
      exact ih x_10 (l1 + nI 1) hs h
set_option maxRecDepth 100000 in
set_option maxHeartbeats 4000000 in
theorem c_X4_markBehind (l : Launch) (P : hp_S → Prop)  (x : hp_S) (hs : hp_sh x) (h : k_X4_markBehind P  x) : hp_C l yX4_markBehind (Cond.code yX4_markBehind cX4_markBehind 4 (Option.none : Option Jvm.ClassFile.FieldType) :: hp_ws) rm_X4_markBehind [aR (20, 0)] x (hp_pV P) 0 0 := by
  refine hp_ofV (own := "VersionJoinsModel") (lv := [(0, aR (20, 0))]) (by decide) rfl (Nat.le_of_ble_eq_true rfl) rfl ?_
  intro p e s m args below meth c D cA B0 ad0 E hret hnm
  unfold k_X4_markBehind at h
  refine hv_iconst (v := nI 0) E dX4_markBehind_0 (by decide) ?_
  refine hv_istore_n (lv' := [(0, aR (20, 0))]) E dX4_markBehind_1 rfl (by decide) rfl ?_
  obtain ⟨n15, h⟩ := h
  refine hv_lv [1, 0] rfl ?_
  exact w_X4_markBehind_2 E hret  n15 x (nI 0) hs h
-- VersionJoinsModel.unmark()V
def k_X4_unmark_2 (P : hp_S → Prop) : Nat → hp_S → Int32 → Prop
  | 0, _, _ => False
  | n + 1, x, l1 => ((nI 12) ≤ l1 → (P x)) ∧ (¬ (nI 12) ≤ l1 → (vp_in l1 12 ∧ (k_X4_unmark_2 P n (hp_uI x (41, 0) l1.toNatClampNeg (nI 0)) (l1 + nI 1))))
def k_X4_unmark (P : hp_S → Prop)  (x : hp_S) : Prop := ∃ q, k_X4_unmark_2 P  q x (nI 0)
abbrev rm_X4_unmark : Room := ({ frames := 0, cells := 0, slots := 0, locals := 0 } : Room)
set_option maxRecDepth 100000 in
set_option maxHeartbeats 4000000 in
theorem w_X4_unmark_2 {p : Program} {l : Launch} {e : Env} {s : State} {m : MethodId} {args : Array Value} {below : List Frame} {meth : Method} {c : Code} {D : va_G} {cA : Nat → ClassId} {B0 : Nat} {ad0 : hp_T → Nat} {x0 : hp_S} (E : hp_E p s m args meth c cX4_unmark 2 "VersionJoinsModel" hp_ws D cA B0) (hret : meth.sig.returnType = (Option.none : Option Jvm.ClassFile.FieldType)) {P : hp_S → Prop} : ∀ (n : Nat) (x : hp_S) (l1 : Int32), hp_sh x → k_X4_unmark_2 P n x l1 → hp_V p l e rm_X4_unmark s m args below meth c (fun ad0 => MQ below (hp_Q D cA B0 ad0 x0 (hp_pV P)) args s 0 0 (fun q => B0 ≤ q)) D cA B0 2 ad0 x0 0 0 x 2 [(0, aR (20, 0)), (1, aI l1)] [] := by
  intro n
  induction n with
  | zero => intro x l1 hs h; exact absurd h id
  | succ n ih =>
    intro x l1 hs h
    unfold k_X4_unmark_2 at h
    refine hv_iload_n E dX4_unmark_2 rfl 1 rfl ?_
    refine hv_bipush (v := nI 12) E dX4_unmark_3 (by decide) ?_
    refine hv_icmp_ge (tgt := 21) E dX4_unmark_5 (by decide) (fun c1 => ?_) (fun c1 => ?_)
    · have h := h.1 c1
      exact hv_vret E hret dX4_unmark_21 (Nat.le_of_ble_eq_true rfl) (Nat.le_of_ble_eq_true rfl) ⟨rfl, hs, h⟩
    · have h := h.2 c1
      refine hv_aload_n E dX4_unmark_8 rfl 0 rfl ?_
      refine hv_getR (k := 26) (t2 := (41, 0)) E dX4_unmark_9 rfl rfl hiX4 (by decide) wd_443 rfl rfl (hs _ _ _ rfl) ?_
      refine hv_iload_n E dX4_unmark_12 rfl 1 rfl ?_
      refine hv_iconst (v := nI 0) E dX4_unmark_13 (by decide) ?_
      obtain ⟨h2, h⟩ := h
      refine hv_zast (w := nI 0) E dX4_unmark_14 rfl (by decide) rfl h2 (by decide) ?_
      refine hv_iinc (v := l1 + nI 1) (lv' := [(0, aR (20, 0))]) E 1 dX4_unmark_15 rfl (hx_i1 _) (by decide) rfl ?_
      refine hv_goto (tgt := 2) E dX4_unmark_18 (by decide) ?_
      refine hv_lv [1, 0] rfl ?_
      exact ih (hp_uI x (41, 0) l1.toNatClampNeg (nI 0)) (l1 + nI 1) hs h
set_option maxRecDepth 100000 in
set_option maxHeartbeats 4000000 in
theorem c_X4_unmark (l : Launch) (P : hp_S → Prop)  (x : hp_S) (hs : hp_sh x) (h : k_X4_unmark P  x) : hp_C l yX4_unmark (Cond.code yX4_unmark cX4_unmark 2 (Option.none : Option Jvm.ClassFile.FieldType) :: hp_ws) rm_X4_unmark [aR (20, 0)] x (hp_pV P) 0 0 := by
  refine hp_ofV (own := "VersionJoinsModel") (lv := [(0, aR (20, 0))]) (by decide) rfl (Nat.le_of_ble_eq_true rfl) rfl ?_
  intro p e s m args below meth c D cA B0 ad0 E hret hnm
  unfold k_X4_unmark at h
  refine hv_iconst (v := nI 0) E dX4_unmark_0 (by decide) ?_
  refine hv_istore_n (lv' := [(0, aR (20, 0))]) E dX4_unmark_1 rfl (by decide) rfl ?_
  obtain ⟨n3, h⟩ := h
  refine hv_lv [1, 0] rfl ?_
  exact w_X4_unmark_2 E hret  n3 x (nI 0) hs h
-- VersionJoinsModel.uses(II)Z
def k_X4_uses (P : Int32 → hp_S → Prop) (a1 : Int32) (a2 : Int32) (x : hp_S) : Prop := k_X4_isStep (fun r2 x2 => (r2 = 0 → (P (nI 0) x2)) ∧ (¬ r2 = 0 → (k_X4_isThing (fun r10 x10 => (r10 = 0 → (P (nI 0) x10)) ∧ (¬ r10 = 0 → (k_X4_doesUse (fun r19 x19 => (¬ r19 = 0 → (P (nI 0) x19)) ∧ (r19 = 0 → (vp_in a1 12 ∧ ((¬ (x19.2.1 (33, 0) a1.toNatClampNeg) = (nI 8) → (k_X4_unmark (fun x39 => vp_in a1 12 ∧ (k_X4_markBehind (fun x50 => k_X4_maker (fun r55 x55 => (r55 < 0 → (vp_in a1 12 ∧ (vp_in (((nI 8) * a1) + (x55.2.1 (33, 0) a1.toNatClampNeg)) 96 ∧ (vp_in a1 12 ∧ (vp_in a1 12 ∧ (P (nI 1) (hp_uI (hp_uI x55 (32, 0) ((((nI 8) * a1) + (x55.2.1 (33, 0) a1.toNatClampNeg)).toNatClampNeg) a2) (33, 0) a1.toNatClampNeg (((hp_uI x55 (32, 0) ((((nI 8) * a1) + (x55.2.1 (33, 0) a1.toNatClampNeg)).toNatClampNeg) a2).2.1 (33, 0) a1.toNatClampNeg) + (nI 1))))))))) ∧ (¬ r55 < 0 → (vp_in r55 12 ∧ (((x55.2.1 (41, 0) r55.toNatClampNeg) = 0 → (vp_in a1 12 ∧ (vp_in (((nI 8) * a1) + (x55.2.1 (33, 0) a1.toNatClampNeg)) 96 ∧ (vp_in a1 12 ∧ (vp_in a1 12 ∧ (P (nI 1) (hp_uI (hp_uI x55 (32, 0) ((((nI 8) * a1) + (x55.2.1 (33, 0) a1.toNatClampNeg)).toNatClampNeg) a2) (33, 0) a1.toNatClampNeg (((hp_uI x55 (32, 0) ((((nI 8) * a1) + (x55.2.1 (33, 0) a1.toNatClampNeg)).toNatClampNeg) a2).2.1 (33, 0) a1.toNatClampNeg) + (nI 1))))))))) ∧ (¬ (x55.2.1 (41, 0) r55.toNatClampNeg) = 0 → (P (nI 0) x55)))))) a2 x50)  (hp_uI x39 (41, 0) a1.toNatClampNeg (nI 1))))  x19)) ∧ ((x19.2.1 (33, 0) a1.toNatClampNeg) = (nI 8) → (P (nI 0) x19)))))) a1 a2 x10))) a2 x2))) a1 x
abbrev rm_X4_uses : Room := ({ frames := 3, cells := 0, slots := 0, locals := 71 } : Room)
set_option maxRecDepth 100000 in
set_option maxHeartbeats 4000000 in
theorem c_X4_uses (l : Launch) (P : Int32 → hp_S → Prop) (a1 : Int32) (a2 : Int32) (x : hp_S) (hs : hp_sh x) (h : k_X4_uses P a1 a2 x) : hp_C l yX4_uses (Cond.code yX4_uses cX4_uses 4 (Option.some Jvm.ClassFile.FieldType.boolean) :: hp_ws) rm_X4_uses [aR (20, 0), aI a1, aI a2] x (hp_pI P) 0 0 := by
  refine hp_ofV (own := "VersionJoinsModel") (lv := [(0, aR (20, 0)), (1, aI a1), (2, aI a2)]) (by decide) rfl (Nat.le_of_ble_eq_true rfl) rfl ?_
  intro p e s m args below meth c D cA B0 ad0 E hret hnm
  unfold k_X4_uses at h
  refine hv_aload_n E dX4_uses_0 rfl 0 rfl ?_
  refine hv_iload_n E dX4_uses_1 rfl 1 rfl ?_
  refine hv_VI E [aI a1] (c_X4_isStep l _ a1 x hs h) (hp_cwV 1 E wd_520 wd_522 wd_18 wd_41 wd_523 rfl rfl (by decide +kernel) ⟨(Nat.le_of_ble_eq_true rfl), (Nat.le_of_ble_eq_true rfl)⟩) rfl rfl rfl rfl (Nat.le_of_ble_eq_true rfl) dX4_uses_2 ⟨(Nat.le_of_ble_eq_true rfl), (Nat.le_of_ble_eq_true rfl)⟩ (fun r2 x2 hs h => ?_)
  refine hv_if_eq (tgt := 36) E dX4_uses_5 (by decide) (fun c1 => ?_) (fun c1 => ?_)
  · have h := h.1 c1
    refine hv_iconst (v := nI 0) E dX4_uses_36 (by decide) ?_
    exact hv_zret E hret dX4_uses_37 (by decide) (Nat.le_of_ble_eq_true rfl) (Nat.le_of_ble_eq_true rfl) ⟨_, rfl, hs, h⟩
  · have h := h.2 c1
    refine hv_aload_n E dX4_uses_8 rfl 0 rfl ?_
    refine hv_iload_n E dX4_uses_9 rfl 2 rfl ?_
    refine hv_VI E [aI a2] (c_X4_isThing l _ a2 x2 hs h) (hp_cwV 1 E wd_524 wd_526 wd_19 wd_41 wd_527 rfl rfl (by decide +kernel) ⟨(Nat.le_of_ble_eq_true rfl), (Nat.le_of_ble_eq_true rfl)⟩) rfl rfl rfl rfl (Nat.le_of_ble_eq_true rfl) dX4_uses_10 ⟨(Nat.le_of_ble_eq_true rfl), (Nat.le_of_ble_eq_true rfl)⟩ (fun r10 x10 hs h => ?_)
    refine hv_if_eq (tgt := 36) E dX4_uses_13 (by decide) (fun c2 => ?_) (fun c2 => ?_)
    · have h := h.1 c2
      refine hv_iconst (v := nI 0) E dX4_uses_36 (by decide) ?_
      exact hv_zret E hret dX4_uses_37 (by decide) (Nat.le_of_ble_eq_true rfl) (Nat.le_of_ble_eq_true rfl) ⟨_, rfl, hs, h⟩
    · have h := h.2 c2
      refine hv_aload_n E dX4_uses_16 rfl 0 rfl ?_
      refine hv_iload_n E dX4_uses_17 rfl 1 rfl ?_
      refine hv_iload_n E dX4_uses_18 rfl 2 rfl ?_
      refine hv_VI E [aI a1, aI a2] (c_X4_doesUse l _ a1 a2 x10 hs h) (hp_cwV 2 E wd_528 wd_530 wd_20 wd_41 wd_531 rfl rfl (by decide +kernel) ⟨(Nat.le_of_ble_eq_true rfl), (Nat.le_of_ble_eq_true rfl)⟩) rfl rfl rfl rfl (Nat.le_of_ble_eq_true rfl) dX4_uses_19 ⟨(Nat.le_of_ble_eq_true rfl), (Nat.le_of_ble_eq_true rfl)⟩ (fun r19 x19 hs h => ?_)
      refine hv_if_ne (tgt := 36) E dX4_uses_22 (by decide) (fun c3 => ?_) (fun c3 => ?_)
      · have h := h.1 c3
        refine hv_iconst (v := nI 0) E dX4_uses_36 (by decide) ?_
        exact hv_zret E hret dX4_uses_37 (by decide) (Nat.le_of_ble_eq_true rfl) (Nat.le_of_ble_eq_true rfl) ⟨_, rfl, hs, h⟩
      · have h := h.2 c3
        refine hv_aload_n E dX4_uses_25 rfl 0 rfl ?_
        refine hv_getR (k := 18) (t2 := (33, 0)) E dX4_uses_26 rfl rfl hiX4 (by decide) wd_435 rfl rfl (hs _ _ _ rfl) ?_
        refine hv_iload_n E dX4_uses_29 rfl 1 rfl ?_
        obtain ⟨h4, h⟩ := h
        refine hv_iald E dX4_uses_30 rfl (by decide) rfl h4 ?_
        refine hv_bipush (v := nI 8) E dX4_uses_31 (by decide) ?_
        refine hv_icmp_ne (tgt := 38) E dX4_uses_33 (by decide) (fun c5 => ?_) (fun c5 => ?_)
        · have h := h.1 c5
          refine hv_aload_n E dX4_uses_38 rfl 0 rfl ?_
          refine hv_VV E [] (c_X4_unmark l _  x19 hs h) (hp_cwV 0 E wd_532 wd_534 wd_21 wd_41 wd_535 rfl rfl (by decide +kernel) ⟨(Nat.le_of_ble_eq_true rfl), (Nat.le_of_ble_eq_true rfl)⟩) rfl rfl rfl rfl (Nat.le_of_ble_eq_true rfl) dX4_uses_39 ⟨(Nat.le_of_ble_eq_true rfl), (Nat.le_of_ble_eq_true rfl)⟩ (fun x39 hs h => ?_)
          refine hv_aload_n E dX4_uses_42 rfl 0 rfl ?_
          refine hv_getR (k := 26) (t2 := (41, 0)) E dX4_uses_43 rfl rfl hiX4 (by decide) wd_443 rfl rfl (hs _ _ _ rfl) ?_
          refine hv_iload_n E dX4_uses_46 rfl 1 rfl ?_
          refine hv_iconst (v := nI 1) E dX4_uses_47 (by decide) ?_
          obtain ⟨h6, h⟩ := h
          refine hv_zast (w := nI 1) E dX4_uses_48 rfl (by decide) rfl h6 (by decide) ?_
          refine hv_aload_n E dX4_uses_49 rfl 0 rfl ?_
          refine hv_VV E [] (c_X4_markBehind l _  (hp_uI x39 (41, 0) a1.toNatClampNeg (nI 1)) hs h) (hp_cwV 0 E wd_536 wd_538 wd_22 wd_41 wd_539 rfl rfl (by decide +kernel) ⟨(Nat.le_of_ble_eq_true rfl), (Nat.le_of_ble_eq_true rfl)⟩) rfl rfl rfl rfl (Nat.le_of_ble_eq_true rfl) dX4_uses_50 ⟨(Nat.le_of_ble_eq_true rfl), (Nat.le_of_ble_eq_true rfl)⟩ (fun x50 hs h => ?_)
          refine hv_aload_n E dX4_uses_53 rfl 0 rfl ?_
          refine hv_iload_n E dX4_uses_54 rfl 2 rfl ?_
          refine hv_VI E [aI a2] (c_X4_maker l _ a2 x50 hs h) (hp_cwV 1 E wd_544 wd_546 wd_24 wd_41 wd_547 rfl rfl (by decide +kernel) ⟨(Nat.le_of_ble_eq_true rfl), (Nat.le_of_ble_eq_true rfl)⟩) rfl rfl rfl rfl (Nat.le_of_ble_eq_true rfl) dX4_uses_55 ⟨(Nat.le_of_ble_eq_true rfl), (Nat.le_of_ble_eq_true rfl)⟩ (fun r55 x55 hs h => ?_)
          refine hv_istore_n (lv' := [(0, aR (20, 0)), (1, aI a1), (2, aI a2)]) E dX4_uses_58 rfl (by decide) rfl ?_
          refine hv_iload_n E dX4_uses_59 rfl 0 rfl ?_
          refine hv_if_lt (tgt := 74) E dX4_uses_60 (by decide) (fun c7 => ?_) (fun c7 => ?_)
          · have h := h.1 c7
            refine hv_aload_n E dX4_uses_74 rfl 1 rfl ?_
            refine hv_getR (k := 17) (t2 := (32, 0)) E dX4_uses_75 rfl rfl hiX4 (by decide) wd_434 rfl rfl (hs _ _ _ rfl) ?_
            refine hv_bipush (v := nI 8) E dX4_uses_78 (by decide) ?_
            refine hv_iload_n E dX4_uses_80 rfl 2 rfl ?_
            refine hv_imul (v := (nI 8) * a1) E dX4_uses_81 rfl ?_
            refine hv_aload_n E dX4_uses_82 rfl 1 rfl ?_
            refine hv_getR (k := 18) (t2 := (33, 0)) E dX4_uses_83 rfl rfl hiX4 (by decide) wd_435 rfl rfl (hs _ _ _ rfl) ?_
            refine hv_iload_n E dX4_uses_86 rfl 2 rfl ?_
            obtain ⟨h8, h⟩ := h
            refine hv_iald E dX4_uses_87 rfl (by decide) rfl h8 ?_
            refine hv_iadd (v := ((nI 8) * a1) + (x55.2.1 (33, 0) a1.toNatClampNeg)) E dX4_uses_88 rfl ?_
            refine hv_iload_n E dX4_uses_89 rfl 3 rfl ?_
            obtain ⟨h9, h⟩ := h
            refine hv_iast E dX4_uses_90 rfl (by decide) rfl h9 ?_
            refine hv_aload_n E dX4_uses_91 rfl 1 rfl ?_
            refine hv_getR (k := 18) (t2 := (33, 0)) E dX4_uses_92 rfl rfl hiX4 (by decide) wd_435 rfl rfl (hs _ _ _ rfl) ?_
            refine hv_iload_n E dX4_uses_95 rfl 2 rfl ?_
            refine hv_dup2 E dX4_uses_96 rfl rfl ?_
            obtain ⟨h10, h⟩ := h
            refine hv_iald E dX4_uses_97 rfl (by decide) rfl h10 ?_
            refine hv_iconst (v := nI 1) E dX4_uses_98 (by decide) ?_
            refine hv_iadd (v := ((hp_uI x55 (32, 0) ((((nI 8) * a1) + (x55.2.1 (33, 0) a1.toNatClampNeg)).toNatClampNeg) a2).2.1 (33, 0) a1.toNatClampNeg) + (nI 1)) E dX4_uses_99 rfl ?_
            obtain ⟨h11, h⟩ := h
            refine hv_iast E dX4_uses_100 rfl (by decide) rfl h11 ?_
            refine hv_iconst (v := nI 1) E dX4_uses_101 (by decide) ?_
            exact hv_zret E hret dX4_uses_102 (by decide) (Nat.le_of_ble_eq_true rfl) (Nat.le_of_ble_eq_true rfl) ⟨_, rfl, hs, h⟩
          · have h := h.2 c7
            refine hv_aload_n E dX4_uses_63 rfl 1 rfl ?_
            refine hv_getR (k := 26) (t2 := (41, 0)) E dX4_uses_64 rfl rfl hiX4 (by decide) wd_443 rfl rfl (hs _ _ _ rfl) ?_
            refine hv_iload_n E dX4_uses_67 rfl 0 rfl ?_
            obtain ⟨h12, h⟩ := h
            refine hv_zald E dX4_uses_68 rfl (by decide) rfl h12 ?_
            refine hv_if_eq (tgt := 74) E dX4_uses_69 (by decide) (fun c13 => ?_) (fun c13 => ?_)
            · have h := h.1 c13
              refine hv_aload_n E dX4_uses_74 rfl 1 rfl ?_
              refine hv_getR (k := 17) (t2 := (32, 0)) E dX4_uses_75 rfl rfl hiX4 (by decide) wd_434 rfl rfl (hs _ _ _ rfl) ?_
              refine hv_bipush (v := nI 8) E dX4_uses_78 (by decide) ?_
              refine hv_iload_n E dX4_uses_80 rfl 2 rfl ?_
              refine hv_imul (v := (nI 8) * a1) E dX4_uses_81 rfl ?_
              refine hv_aload_n E dX4_uses_82 rfl 1 rfl ?_
              refine hv_getR (k := 18) (t2 := (33, 0)) E dX4_uses_83 rfl rfl hiX4 (by decide) wd_435 rfl rfl (hs _ _ _ rfl) ?_
              refine hv_iload_n E dX4_uses_86 rfl 2 rfl ?_
              obtain ⟨h14, h⟩ := h
              refine hv_iald E dX4_uses_87 rfl (by decide) rfl h14 ?_
              refine hv_iadd (v := ((nI 8) * a1) + (x55.2.1 (33, 0) a1.toNatClampNeg)) E dX4_uses_88 rfl ?_
              refine hv_iload_n E dX4_uses_89 rfl 3 rfl ?_
              obtain ⟨h15, h⟩ := h
              refine hv_iast E dX4_uses_90 rfl (by decide) rfl h15 ?_
              refine hv_aload_n E dX4_uses_91 rfl 1 rfl ?_
              refine hv_getR (k := 18) (t2 := (33, 0)) E dX4_uses_92 rfl rfl hiX4 (by decide) wd_435 rfl rfl (hs _ _ _ rfl) ?_
              refine hv_iload_n E dX4_uses_95 rfl 2 rfl ?_
              refine hv_dup2 E dX4_uses_96 rfl rfl ?_
              obtain ⟨h16, h⟩ := h
              refine hv_iald E dX4_uses_97 rfl (by decide) rfl h16 ?_
              refine hv_iconst (v := nI 1) E dX4_uses_98 (by decide) ?_
              refine hv_iadd (v := ((hp_uI x55 (32, 0) ((((nI 8) * a1) + (x55.2.1 (33, 0) a1.toNatClampNeg)).toNatClampNeg) a2).2.1 (33, 0) a1.toNatClampNeg) + (nI 1)) E dX4_uses_99 rfl ?_
              obtain ⟨h17, h⟩ := h
              refine hv_iast E dX4_uses_100 rfl (by decide) rfl h17 ?_
              refine hv_iconst (v := nI 1) E dX4_uses_101 (by decide) ?_
              exact hv_zret E hret dX4_uses_102 (by decide) (Nat.le_of_ble_eq_true rfl) (Nat.le_of_ble_eq_true rfl) ⟨_, rfl, hs, h⟩
            · have h := h.2 c13
              refine hv_iconst (v := nI 0) E dX4_uses_72 (by decide) ?_
              exact hv_zret E hret dX4_uses_73 (by decide) (Nat.le_of_ble_eq_true rfl) (Nat.le_of_ble_eq_true rfl) ⟨_, rfl, hs, h⟩
        · have h := h.2 c5
          refine hv_iconst (v := nI 0) E dX4_uses_36 (by decide) ?_
          exact hv_zret E hret dX4_uses_37 (by decide) (Nat.le_of_ble_eq_true rfl) (Nat.le_of_ble_eq_true rfl) ⟨_, rfl, hs, h⟩
-- VersionJoinsModel.makes(II)Z
def k_X4_makes_42 (P : Int32 → hp_S → Prop) (a1 : Int32) (a2 : Int32) : Nat → hp_S → Int32 → Prop
  | 0, _, _ => False
  | n + 1, x, l3 => ((x.2.1 (20, 0) 15) ≤ l3 → (k_X4_markBehind (fun x69 => vp_in a1 12 ∧ (((x69.2.1 (41, 0) a1.toNatClampNeg) = 0 → (vp_in a1 12 ∧ (vp_in (((nI 4) * a1) + (x69.2.1 (35, 0) a1.toNatClampNeg)) 48 ∧ (vp_in a1 12 ∧ (vp_in a1 12 ∧ (P (nI 1) (hp_uI (hp_uI x69 (34, 0) ((((nI 4) * a1) + (x69.2.1 (35, 0) a1.toNatClampNeg)).toNatClampNeg) a2) (35, 0) a1.toNatClampNeg (((hp_uI x69 (34, 0) ((((nI 4) * a1) + (x69.2.1 (35, 0) a1.toNatClampNeg)).toNatClampNeg) a2).2.1 (35, 0) a1.toNatClampNeg) + (nI 1))))))))) ∧ (¬ (x69.2.1 (41, 0) a1.toNatClampNeg) = 0 → (P (nI 0) x69))))  x)) ∧ (¬ (x.2.1 (20, 0) 15) ≤ l3 → (k_X4_doesUse (fun r58 x58 => vp_in l3 12 ∧ (k_X4_makes_42 P a1 a2 n (hp_uI x58 (41, 0) l3.toNatClampNeg (vp_nar .boolean r58)) (l3 + nI 1))) l3 a2 x))
def k_X4_makes (P : Int32 → hp_S → Prop) (a1 : Int32) (a2 : Int32) (x : hp_S) : Prop := k_X4_isStep (fun r2 x2 => (r2 = 0 → (P (nI 0) x2)) ∧ (¬ r2 = 0 → (k_X4_isThing (fun r10 x10 => (r10 = 0 → (P (nI 0) x10)) ∧ (¬ r10 = 0 → (k_X4_maker (fun r18 x18 => (0 ≤ r18 → (P (nI 0) x18)) ∧ (¬ 0 ≤ r18 → (vp_in a1 12 ∧ ((¬ (x18.2.1 (35, 0) a1.toNatClampNeg) = (nI 4) → (k_X4_unmark (fun x37 => ∃ q, k_X4_makes_42 P a1 a2 q x37 (nI 0))  x18)) ∧ ((x18.2.1 (35, 0) a1.toNatClampNeg) = (nI 4) → (P (nI 0) x18)))))) a2 x10))) a2 x2))) a1 x
abbrev rm_X4_makes : Room := ({ frames := 3, cells := 0, slots := 0, locals := 71 } : Room)
set_option maxRecDepth 100000 in
set_option maxHeartbeats 4000000 in
theorem w_X4_makes_42 {p : Program} {l : Launch} {e : Env} {s : State} {m : MethodId} {args : Array Value} {below : List Frame} {meth : Method} {c : Code} {D : va_G} {cA : Nat → ClassId} {B0 : Nat} {ad0 : hp_T → Nat} {x0 : hp_S} (E : hp_E p s m args meth c cX4_makes 4 "VersionJoinsModel" hp_ws D cA B0) (hret : meth.sig.returnType = (Option.some Jvm.ClassFile.FieldType.boolean)) {P : Int32 → hp_S → Prop} (a1 : Int32) (a2 : Int32) : ∀ (n : Nat) (x : hp_S) (l3 : Int32), hp_sh x → k_X4_makes_42 P a1 a2 n x l3 → hp_V p l e rm_X4_makes s m args below meth c (fun ad0 => MQ below (hp_Q D cA B0 ad0 x0 (hp_pI P)) args s 0 0 (fun q => B0 ≤ q)) D cA B0 4 ad0 x0 0 0 x 42 [(0, aR (20, 0)), (1, aI a1), (2, aI a2), (3, aI l3)] [] := by
  intro n
  induction n with
  | zero => intro x l3 hs h; exact absurd h id
  | succ n ih =>
    intro x l3 hs h
    unfold k_X4_makes_42 at h
    refine hv_iload_n E dX4_makes_42 rfl 3 rfl ?_
    refine hv_aload_n E dX4_makes_43 rfl 0 rfl ?_
    refine hv_getI (k := 15) E dX4_makes_44 rfl rfl hiX4 (by decide) wd_432 rfl rfl ?_
    refine hv_icmp_ge (tgt := 68) E dX4_makes_47 (by decide) (fun c6 => ?_) (fun c6 => ?_)
    · have h := h.1 c6
      refine hv_aload_n E dX4_makes_68 rfl 0 rfl ?_
      refine hv_VV E [] (c_X4_markBehind l _  x hs h) (hp_cwV 0 E wd_536 wd_538 wd_22 wd_41 wd_539 rfl rfl (by decide +kernel) ⟨(Nat.le_of_ble_eq_true rfl), (Nat.le_of_ble_eq_true rfl)⟩) rfl rfl rfl rfl (Nat.le_of_ble_eq_true rfl) dX4_makes_69 ⟨(Nat.le_of_ble_eq_true rfl), (Nat.le_of_ble_eq_true rfl)⟩ (fun x69 hs h => ?_)
      refine hv_aload_n E dX4_makes_72 rfl 0 rfl ?_
      refine hv_getR (k := 26) (t2 := (41, 0)) E dX4_makes_73 rfl rfl hiX4 (by decide) wd_443 rfl rfl (hs _ _ _ rfl) ?_
      refine hv_iload_n E dX4_makes_76 rfl 1 rfl ?_
      obtain ⟨h7, h⟩ := h
      refine hv_zald E dX4_makes_77 rfl (by decide) rfl h7 ?_
      refine hv_if_eq (tgt := 83) E dX4_makes_78 (by decide) (fun c8 => ?_) (fun c8 => ?_)
      · have h := h.1 c8
        refine hv_aload_n E dX4_makes_83 rfl 0 rfl ?_
        refine hv_getR (k := 19) (t2 := (34, 0)) E dX4_makes_84 rfl rfl hiX4 (by decide) wd_436 rfl rfl (hs _ _ _ rfl) ?_
        refine hv_iconst (v := nI 4) E dX4_makes_87 (by decide) ?_
        refine hv_iload_n E dX4_makes_88 rfl 1 rfl ?_
        refine hv_imul (v := (nI 4) * a1) E dX4_makes_89 rfl ?_
        refine hv_aload_n E dX4_makes_90 rfl 0 rfl ?_
        refine hv_getR (k := 20) (t2 := (35, 0)) E dX4_makes_91 rfl rfl hiX4 (by decide) wd_437 rfl rfl (hs _ _ _ rfl) ?_
        refine hv_iload_n E dX4_makes_94 rfl 1 rfl ?_
        obtain ⟨h9, h⟩ := h
        refine hv_iald E dX4_makes_95 rfl (by decide) rfl h9 ?_
        refine hv_iadd (v := ((nI 4) * a1) + (x69.2.1 (35, 0) a1.toNatClampNeg)) E dX4_makes_96 rfl ?_
        refine hv_iload_n E dX4_makes_97 rfl 2 rfl ?_
        obtain ⟨h10, h⟩ := h
        refine hv_iast E dX4_makes_98 rfl (by decide) rfl h10 ?_
        refine hv_aload_n E dX4_makes_99 rfl 0 rfl ?_
        refine hv_getR (k := 20) (t2 := (35, 0)) E dX4_makes_100 rfl rfl hiX4 (by decide) wd_437 rfl rfl (hs _ _ _ rfl) ?_
        refine hv_iload_n E dX4_makes_103 rfl 1 rfl ?_
        refine hv_dup2 E dX4_makes_104 rfl rfl ?_
        obtain ⟨h11, h⟩ := h
        refine hv_iald E dX4_makes_105 rfl (by decide) rfl h11 ?_
        refine hv_iconst (v := nI 1) E dX4_makes_106 (by decide) ?_
        refine hv_iadd (v := ((hp_uI x69 (34, 0) ((((nI 4) * a1) + (x69.2.1 (35, 0) a1.toNatClampNeg)).toNatClampNeg) a2).2.1 (35, 0) a1.toNatClampNeg) + (nI 1)) E dX4_makes_107 rfl ?_
        obtain ⟨h12, h⟩ := h
        refine hv_iast E dX4_makes_108 rfl (by decide) rfl h12 ?_
        refine hv_iconst (v := nI 1) E dX4_makes_109 (by decide) ?_
        exact hv_zret E hret dX4_makes_110 (by decide) (Nat.le_of_ble_eq_true rfl) (Nat.le_of_ble_eq_true rfl) ⟨_, rfl, hs, h⟩
      · have h := h.2 c8
        refine hv_iconst (v := nI 0) E dX4_makes_81 (by decide) ?_
        exact hv_zret E hret dX4_makes_82 (by decide) (Nat.le_of_ble_eq_true rfl) (Nat.le_of_ble_eq_true rfl) ⟨_, rfl, hs, h⟩
    · have h := h.2 c6
      refine hv_aload_n E dX4_makes_50 rfl 0 rfl ?_
      refine hv_getR (k := 26) (t2 := (41, 0)) E dX4_makes_51 rfl rfl hiX4 (by decide) wd_443 rfl rfl (hs _ _ _ rfl) ?_
      refine hv_iload_n E dX4_makes_54 rfl 3 rfl ?_
      refine hv_aload_n E dX4_makes_55 rfl 0 rfl ?_
      refine hv_iload_n E dX4_makes_56 rfl 3 rfl ?_
      refine hv_iload_n E dX4_makes_57 rfl 2 rfl ?_
      refine hv_VI E [aI l3, aI a2] (c_X4_doesUse l _ l3 a2 x hs h) (hp_cwV 2 E wd_528 wd_530 wd_20 wd_41 wd_531 rfl rfl (by decide +kernel) ⟨(Nat.le_of_ble_eq_true rfl), (Nat.le_of_ble_eq_true rfl)⟩) rfl rfl rfl rfl (Nat.le_of_ble_eq_true rfl) dX4_makes_58 ⟨(Nat.le_of_ble_eq_true rfl), (Nat.le_of_ble_eq_true rfl)⟩ (fun r58 x58 hs h => ?_)
      obtain ⟨h13, h⟩ := h
      refine hv_zast (w := vp_nar .boolean r58) E dX4_makes_61 rfl (by decide) rfl h13 rfl ?_
      refine hv_iinc (v := l3 + nI 1) (lv' := [(0, aR (20, 0)), (1, aI a1), (2, aI a2)]) E 3 dX4_makes_62 rfl (hx_i1 _) (by decide) rfl ?_
      refine hv_goto (tgt := 42) E dX4_makes_65 (by decide) ?_
      refine hv_lv [1, 2, 3, 0] rfl ?_
      exact ih (hp_uI x58 (41, 0) l3.toNatClampNeg (vp_nar .boolean r58)) (l3 + nI 1) hs h
set_option maxRecDepth 100000 in
set_option maxHeartbeats 4000000 in
theorem c_X4_makes (l : Launch) (P : Int32 → hp_S → Prop) (a1 : Int32) (a2 : Int32) (x : hp_S) (hs : hp_sh x) (h : k_X4_makes P a1 a2 x) : hp_C l yX4_makes (Cond.code yX4_makes cX4_makes 4 (Option.some Jvm.ClassFile.FieldType.boolean) :: hp_ws) rm_X4_makes [aR (20, 0), aI a1, aI a2] x (hp_pI P) 0 0 := by
  refine hp_ofV (own := "VersionJoinsModel") (lv := [(0, aR (20, 0)), (1, aI a1), (2, aI a2)]) (by decide) rfl (Nat.le_of_ble_eq_true rfl) rfl ?_
  intro p e s m args below meth c D cA B0 ad0 E hret hnm
  unfold k_X4_makes at h
  refine hv_aload_n E dX4_makes_0 rfl 0 rfl ?_
  refine hv_iload_n E dX4_makes_1 rfl 1 rfl ?_
  refine hv_VI E [aI a1] (c_X4_isStep l _ a1 x hs h) (hp_cwV 1 E wd_520 wd_522 wd_18 wd_41 wd_523 rfl rfl (by decide +kernel) ⟨(Nat.le_of_ble_eq_true rfl), (Nat.le_of_ble_eq_true rfl)⟩) rfl rfl rfl rfl (Nat.le_of_ble_eq_true rfl) dX4_makes_2 ⟨(Nat.le_of_ble_eq_true rfl), (Nat.le_of_ble_eq_true rfl)⟩ (fun r2 x2 hs h => ?_)
  refine hv_if_eq (tgt := 34) E dX4_makes_5 (by decide) (fun c1 => ?_) (fun c1 => ?_)
  · have h := h.1 c1
    refine hv_iconst (v := nI 0) E dX4_makes_34 (by decide) ?_
    exact hv_zret E hret dX4_makes_35 (by decide) (Nat.le_of_ble_eq_true rfl) (Nat.le_of_ble_eq_true rfl) ⟨_, rfl, hs, h⟩
  · have h := h.2 c1
    refine hv_aload_n E dX4_makes_8 rfl 0 rfl ?_
    refine hv_iload_n E dX4_makes_9 rfl 2 rfl ?_
    refine hv_VI E [aI a2] (c_X4_isThing l _ a2 x2 hs h) (hp_cwV 1 E wd_524 wd_526 wd_19 wd_41 wd_527 rfl rfl (by decide +kernel) ⟨(Nat.le_of_ble_eq_true rfl), (Nat.le_of_ble_eq_true rfl)⟩) rfl rfl rfl rfl (Nat.le_of_ble_eq_true rfl) dX4_makes_10 ⟨(Nat.le_of_ble_eq_true rfl), (Nat.le_of_ble_eq_true rfl)⟩ (fun r10 x10 hs h => ?_)
    refine hv_if_eq (tgt := 34) E dX4_makes_13 (by decide) (fun c2 => ?_) (fun c2 => ?_)
    · have h := h.1 c2
      refine hv_iconst (v := nI 0) E dX4_makes_34 (by decide) ?_
      exact hv_zret E hret dX4_makes_35 (by decide) (Nat.le_of_ble_eq_true rfl) (Nat.le_of_ble_eq_true rfl) ⟨_, rfl, hs, h⟩
    · have h := h.2 c2
      refine hv_aload_n E dX4_makes_16 rfl 0 rfl ?_
      refine hv_iload_n E dX4_makes_17 rfl 2 rfl ?_
      refine hv_VI E [aI a2] (c_X4_maker l _ a2 x10 hs h) (hp_cwV 1 E wd_544 wd_546 wd_24 wd_41 wd_547 rfl rfl (by decide +kernel) ⟨(Nat.le_of_ble_eq_true rfl), (Nat.le_of_ble_eq_true rfl)⟩) rfl rfl rfl rfl (Nat.le_of_ble_eq_true rfl) dX4_makes_18 ⟨(Nat.le_of_ble_eq_true rfl), (Nat.le_of_ble_eq_true rfl)⟩ (fun r18 x18 hs h => ?_)
      refine hv_if_ge (tgt := 34) E dX4_makes_21 (by decide) (fun c3 => ?_) (fun c3 => ?_)
      · have h := h.1 c3
        refine hv_iconst (v := nI 0) E dX4_makes_34 (by decide) ?_
        exact hv_zret E hret dX4_makes_35 (by decide) (Nat.le_of_ble_eq_true rfl) (Nat.le_of_ble_eq_true rfl) ⟨_, rfl, hs, h⟩
      · have h := h.2 c3
        refine hv_aload_n E dX4_makes_24 rfl 0 rfl ?_
        refine hv_getR (k := 20) (t2 := (35, 0)) E dX4_makes_25 rfl rfl hiX4 (by decide) wd_437 rfl rfl (hs _ _ _ rfl) ?_
        refine hv_iload_n E dX4_makes_28 rfl 1 rfl ?_
        obtain ⟨h4, h⟩ := h
        refine hv_iald E dX4_makes_29 rfl (by decide) rfl h4 ?_
        refine hv_iconst (v := nI 4) E dX4_makes_30 (by decide) ?_
        refine hv_icmp_ne (tgt := 36) E dX4_makes_31 (by decide) (fun c5 => ?_) (fun c5 => ?_)
        · have h := h.1 c5
          refine hv_aload_n E dX4_makes_36 rfl 0 rfl ?_
          refine hv_VV E [] (c_X4_unmark l _  x18 hs h) (hp_cwV 0 E wd_532 wd_534 wd_21 wd_41 wd_535 rfl rfl (by decide +kernel) ⟨(Nat.le_of_ble_eq_true rfl), (Nat.le_of_ble_eq_true rfl)⟩) rfl rfl rfl rfl (Nat.le_of_ble_eq_true rfl) dX4_makes_37 ⟨(Nat.le_of_ble_eq_true rfl), (Nat.le_of_ble_eq_true rfl)⟩ (fun x37 hs h => ?_)
          refine hv_iconst (v := nI 0) E dX4_makes_40 (by decide) ?_
          refine hv_istore_n (lv' := [(0, aR (20, 0)), (1, aI a1), (2, aI a2)]) E dX4_makes_41 rfl (by decide) rfl ?_
          obtain ⟨n14, h⟩ := h
          refine hv_lv [1, 2, 3, 0] rfl ?_
          exact w_X4_makes_42 E hret a1 a2 n14 x37 (nI 0) hs h
        · have h := h.2 c5
          refine hv_iconst (v := nI 0) E dX4_makes_34 (by decide) ?_
          exact hv_zret E hret dX4_makes_35 (by decide) (Nat.le_of_ble_eq_true rfl) (Nat.le_of_ble_eq_true rfl) ⟨_, rfl, hs, h⟩
-- VersionJoinsModel.session()I
def k_X4_session (P : Int32 → hp_S → Prop)  (x : hp_S) : Prop := (¬ (x.2.1 (20, 0) 3) = (nI 40) → (vp_in (x.2.1 (20, 0) 3) 40 ∧ (P (((hp_uI (hp_uI x (22, 0) ((x.2.1 (20, 0) 3).toNatClampNeg) (nI 1)) (20, 0) 3 (((hp_uI x (22, 0) ((x.2.1 (20, 0) 3).toNatClampNeg) (nI 1)).2.1 (20, 0) 3) + (nI 1))).2.1 (20, 0) 3) - (nI 1)) (hp_uI (hp_uI x (22, 0) ((x.2.1 (20, 0) 3).toNatClampNeg) (nI 1)) (20, 0) 3 (((hp_uI x (22, 0) ((x.2.1 (20, 0) 3).toNatClampNeg) (nI 1)).2.1 (20, 0) 3) + (nI 1)))))) ∧ ((x.2.1 (20, 0) 3) = (nI 40) → (P (-1 : Int32) x))
abbrev rm_X4_session : Room := ({ frames := 0, cells := 0, slots := 0, locals := 0 } : Room)
set_option maxRecDepth 100000 in
set_option maxHeartbeats 4000000 in
theorem c_X4_session (l : Launch) (P : Int32 → hp_S → Prop)  (x : hp_S) (hs : hp_sh x) (h : k_X4_session P  x) : hp_C l yX4_session (Cond.code yX4_session cX4_session 1 (Option.some Jvm.ClassFile.FieldType.int) :: hp_ws) rm_X4_session [aR (20, 0)] x (hp_pI P) 0 0 := by
  refine hp_ofV (own := "VersionJoinsModel") (lv := [(0, aR (20, 0))]) (by decide) rfl (Nat.le_of_ble_eq_true rfl) rfl ?_
  intro p e s m args below meth c D cA B0 ad0 E hret hnm
  unfold k_X4_session at h
  refine hv_aload_n E dX4_session_0 rfl 0 rfl ?_
  refine hv_getI (k := 3) E dX4_session_1 rfl rfl hiX4 (by decide) wd_420 rfl rfl ?_
  refine hv_bipush (v := nI 40) E dX4_session_4 (by decide) ?_
  refine hv_icmp_ne (tgt := 11) E dX4_session_6 (by decide) (fun c1 => ?_) (fun c1 => ?_)
  · have h := h.1 c1
    refine hv_aload_n E dX4_session_11 rfl 0 rfl ?_
    refine hv_getR (k := 4) (t2 := (22, 0)) E dX4_session_12 rfl rfl hiX4 (by decide) wd_421 rfl rfl (hs _ _ _ rfl) ?_
    refine hv_aload_n E dX4_session_15 rfl 0 rfl ?_
    refine hv_getI (k := 3) E dX4_session_16 rfl rfl hiX4 (by decide) wd_420 rfl rfl ?_
    refine hv_iconst (v := nI 1) E dX4_session_19 (by decide) ?_
    obtain ⟨h2, h⟩ := h
    refine hv_zast (w := nI 1) E dX4_session_20 rfl (by decide) rfl h2 (by decide) ?_
    refine hv_aload_n E dX4_session_21 rfl 0 rfl ?_
    refine hv_dup E dX4_session_22 rfl ?_
    refine hv_getI (k := 3) E dX4_session_23 rfl rfl hiX4 (by decide) wd_420 rfl rfl ?_
    refine hv_iconst (v := nI 1) E dX4_session_26 (by decide) ?_
    refine hv_iadd (v := ((hp_uI x (22, 0) ((x.2.1 (20, 0) 3).toNatClampNeg) (nI 1)).2.1 (20, 0) 3) + (nI 1)) E dX4_session_27 rfl ?_
    refine hv_putI (ty := .int) (k := 3) E tyX4 okX4 nmX4 dX4_session_28 rfl rfl hiX4 (by decide) wd_420 rfl rfl (Or.inl rfl) (by decide +kernel) rfl rfl ?_
    refine hv_aload_n E dX4_session_31 rfl 0 rfl ?_
    refine hv_getI (k := 3) E dX4_session_32 rfl rfl hiX4 (by decide) wd_420 rfl rfl ?_
    refine hv_iconst (v := nI 1) E dX4_session_35 (by decide) ?_
    refine hv_isub (v := ((hp_uI (hp_uI x (22, 0) ((x.2.1 (20, 0) 3).toNatClampNeg) (nI 1)) (20, 0) 3 (((hp_uI x (22, 0) ((x.2.1 (20, 0) 3).toNatClampNeg) (nI 1)).2.1 (20, 0) 3) + (nI 1))).2.1 (20, 0) 3) - (nI 1)) E dX4_session_36 rfl ?_
    exact hv_iret E hret dX4_session_37 (Nat.le_of_ble_eq_true rfl) (Nat.le_of_ble_eq_true rfl) ⟨_, rfl, hs, h⟩
  · have h := h.2 c1
    refine hv_iconst (v := (-1 : Int32)) E dX4_session_9 (by decide) ?_
    exact hv_iret E hret dX4_session_10 (Nat.le_of_ble_eq_true rfl) (Nat.le_of_ble_eq_true rfl) ⟨_, rfl, hs, h⟩
-- VersionJoinsModel.goes(II)Z
def k_X4_goes (P : Int32 → hp_S → Prop) (a1 : Int32) (a2 : Int32) (x : hp_S) : Prop := (a1 < 0 → (P (nI 0) x)) ∧ (¬ a1 < 0 → (((x.2.1 (20, 0) 3) ≤ a1 → (P (nI 0) x)) ∧ (¬ (x.2.1 (20, 0) 3) ≤ a1 → (vp_in a1 40 ∧ (((x.2.1 (22, 0) a1.toNatClampNeg) = 0 → (P (nI 0) x)) ∧ (¬ (x.2.1 (22, 0) a1.toNatClampNeg) = 0 → (k_X4_isThing (fun r23 x23 => (r23 = 0 → (P (nI 0) x23)) ∧ (¬ r23 = 0 → (P (nI 1) x23))) a2 x)))))))
abbrev rm_X4_goes : Room := ({ frames := 1, cells := 0, slots := 0, locals := 21 } : Room)
set_option maxRecDepth 100000 in
set_option maxHeartbeats 4000000 in
theorem c_X4_goes (l : Launch) (P : Int32 → hp_S → Prop) (a1 : Int32) (a2 : Int32) (x : hp_S) (hs : hp_sh x) (h : k_X4_goes P a1 a2 x) : hp_C l yX4_goes (Cond.code yX4_goes cX4_goes 3 (Option.some Jvm.ClassFile.FieldType.boolean) :: hp_ws) rm_X4_goes [aR (20, 0), aI a1, aI a2] x (hp_pI P) 0 0 := by
  refine hp_ofV (own := "VersionJoinsModel") (lv := [(0, aR (20, 0)), (1, aI a1), (2, aI a2)]) (by decide) rfl (Nat.le_of_ble_eq_true rfl) rfl ?_
  intro p e s m args below meth c D cA B0 ad0 E hret hnm
  unfold k_X4_goes at h
  refine hv_iload_n E dX4_goes_0 rfl 1 rfl ?_
  refine hv_if_lt (tgt := 33) E dX4_goes_1 (by decide) (fun c1 => ?_) (fun c1 => ?_)
  · have h := h.1 c1
    refine hv_iconst (v := nI 0) E dX4_goes_33 (by decide) ?_
    exact hv_zret E hret dX4_goes_34 (by decide) (Nat.le_of_ble_eq_true rfl) (Nat.le_of_ble_eq_true rfl) ⟨_, rfl, hs, h⟩
  · have h := h.2 c1
    refine hv_iload_n E dX4_goes_4 rfl 1 rfl ?_
    refine hv_aload_n E dX4_goes_5 rfl 0 rfl ?_
    refine hv_getI (k := 3) E dX4_goes_6 rfl rfl hiX4 (by decide) wd_420 rfl rfl ?_
    refine hv_icmp_ge (tgt := 33) E dX4_goes_9 (by decide) (fun c2 => ?_) (fun c2 => ?_)
    · have h := h.1 c2
      refine hv_iconst (v := nI 0) E dX4_goes_33 (by decide) ?_
      exact hv_zret E hret dX4_goes_34 (by decide) (Nat.le_of_ble_eq_true rfl) (Nat.le_of_ble_eq_true rfl) ⟨_, rfl, hs, h⟩
    · have h := h.2 c2
      refine hv_aload_n E dX4_goes_12 rfl 0 rfl ?_
      refine hv_getR (k := 4) (t2 := (22, 0)) E dX4_goes_13 rfl rfl hiX4 (by decide) wd_421 rfl rfl (hs _ _ _ rfl) ?_
      refine hv_iload_n E dX4_goes_16 rfl 1 rfl ?_
      obtain ⟨h3, h⟩ := h
      refine hv_zald E dX4_goes_17 rfl (by decide) rfl h3 ?_
      refine hv_if_eq (tgt := 33) E dX4_goes_18 (by decide) (fun c4 => ?_) (fun c4 => ?_)
      · have h := h.1 c4
        refine hv_iconst (v := nI 0) E dX4_goes_33 (by decide) ?_
        exact hv_zret E hret dX4_goes_34 (by decide) (Nat.le_of_ble_eq_true rfl) (Nat.le_of_ble_eq_true rfl) ⟨_, rfl, hs, h⟩
      · have h := h.2 c4
        refine hv_aload_n E dX4_goes_21 rfl 0 rfl ?_
        refine hv_iload_n E dX4_goes_22 rfl 2 rfl ?_
        refine hv_VI E [aI a2] (c_X4_isThing l _ a2 x hs h) (hp_cwV 1 E wd_524 wd_526 wd_19 wd_41 wd_527 rfl rfl (by decide +kernel) ⟨(Nat.le_of_ble_eq_true rfl), (Nat.le_of_ble_eq_true rfl)⟩) rfl rfl rfl rfl (Nat.le_of_ble_eq_true rfl) dX4_goes_23 ⟨(Nat.le_of_ble_eq_true rfl), (Nat.le_of_ble_eq_true rfl)⟩ (fun r23 x23 hs h => ?_)
        refine hv_if_eq (tgt := 33) E dX4_goes_26 (by decide) (fun c5 => ?_) (fun c5 => ?_)
        · have h := h.1 c5
          refine hv_iconst (v := nI 0) E dX4_goes_33 (by decide) ?_
          exact hv_zret E hret dX4_goes_34 (by decide) (Nat.le_of_ble_eq_true rfl) (Nat.le_of_ble_eq_true rfl) ⟨_, rfl, hs, h⟩
        · have h := h.2 c5
          refine hv_iconst (v := nI 1) E dX4_goes_29 (by decide) ?_
          refine hv_goto (tgt := 34) E dX4_goes_30 (by decide) ?_
          exact hv_zret E hret dX4_goes_34 (by decide) (Nat.le_of_ble_eq_true rfl) (Nat.le_of_ble_eq_true rfl) ⟨_, rfl, hs, h⟩
-- VersionJoinsModel.touch(II)V
def k_X4_touch (P : hp_S → Prop) (a1 : Int32) (a2 : Int32) (x : hp_S) : Prop := vp_in a1 960 ∧ (((x.2.1 (23, 0) a1.toNatClampNeg) = 0 → (vp_in a2 144 ∧ (vp_in a1 960 ∧ (vp_in a1 960 ∧ (P (hp_uI (hp_uL x (25, 0) a1.toNatClampNeg (x.2.2.1 (21, 0) a2.toNatClampNeg)) (23, 0) a1.toNatClampNeg (nI 1))))))) ∧ (¬ (x.2.1 (23, 0) a1.toNatClampNeg) = 0 → (vp_in a1 960 ∧ (vp_in a1 960 ∧ (vp_in a1 960 ∧ (P (hp_uI (hp_uL x (25, 0) a1.toNatClampNeg (x.2.2.1 (25, 0) a1.toNatClampNeg)) (23, 0) a1.toNatClampNeg (nI 1))))))))
abbrev rm_X4_touch : Room := ({ frames := 0, cells := 0, slots := 0, locals := 0 } : Room)
set_option maxRecDepth 100000 in
set_option maxHeartbeats 4000000 in
theorem c_X4_touch (l : Launch) (P : hp_S → Prop) (a1 : Int32) (a2 : Int32) (x : hp_S) (hs : hp_sh x) (h : k_X4_touch P a1 a2 x) : hp_C l yX4_touch (Cond.code yX4_touch cX4_touch 3 (Option.none : Option Jvm.ClassFile.FieldType) :: hp_ws) rm_X4_touch [aR (20, 0), aI a1, aI a2] x (hp_pV P) 0 0 := by
  refine hp_ofV (own := "VersionJoinsModel") (lv := [(0, aR (20, 0)), (1, aI a1), (2, aI a2)]) (by decide) rfl (Nat.le_of_ble_eq_true rfl) rfl ?_
  intro p e s m args below meth c D cA B0 ad0 E hret hnm
  unfold k_X4_touch at h
  refine hv_aload_n E dX4_touch_0 rfl 0 rfl ?_
  refine hv_getR (k := 7) (t2 := (25, 0)) E dX4_touch_1 rfl rfl hiX4 (by decide) wd_424 rfl rfl (hs _ _ _ rfl) ?_
  refine hv_iload_n E dX4_touch_4 rfl 1 rfl ?_
  refine hv_aload_n E dX4_touch_5 rfl 0 rfl ?_
  refine hv_getR (k := 5) (t2 := (23, 0)) E dX4_touch_6 rfl rfl hiX4 (by decide) wd_422 rfl rfl (hs _ _ _ rfl) ?_
  refine hv_iload_n E dX4_touch_9 rfl 1 rfl ?_
  obtain ⟨h1, h⟩ := h
  refine hv_zald E dX4_touch_10 rfl (by decide) rfl h1 ?_
  refine hv_if_eq (tgt := 23) E dX4_touch_11 (by decide) (fun c2 => ?_) (fun c2 => ?_)
  · have h := h.1 c2
    refine hv_aload_n E dX4_touch_23 rfl 0 rfl ?_
    refine hv_getR (k := 2) (t2 := (21, 0)) E dX4_touch_24 rfl rfl hiX4 (by decide) wd_419 rfl rfl (hs _ _ _ rfl) ?_
    refine hv_iload_n E dX4_touch_27 rfl 2 rfl ?_
    obtain ⟨h3, h⟩ := h
    refine hv_lald E dX4_touch_28 rfl (by decide) rfl h3 ?_
    obtain ⟨h4, h⟩ := h
    refine hv_last E dX4_touch_29 rfl (by decide) rfl h4 ?_
    refine hv_aload_n E dX4_touch_30 rfl 0 rfl ?_
    refine hv_getR (k := 5) (t2 := (23, 0)) E dX4_touch_31 rfl rfl hiX4 (by decide) wd_422 rfl rfl (hs _ _ _ rfl) ?_
    refine hv_iload_n E dX4_touch_34 rfl 1 rfl ?_
    refine hv_iconst (v := nI 1) E dX4_touch_35 (by decide) ?_
    obtain ⟨h5, h⟩ := h
    refine hv_zast (w := nI 1) E dX4_touch_36 rfl (by decide) rfl h5 (by decide) ?_
    exact hv_vret E hret dX4_touch_37 (Nat.le_of_ble_eq_true rfl) (Nat.le_of_ble_eq_true rfl) ⟨rfl, hs, h⟩
  · have h := h.2 c2
    refine hv_aload_n E dX4_touch_14 rfl 0 rfl ?_
    refine hv_getR (k := 7) (t2 := (25, 0)) E dX4_touch_15 rfl rfl hiX4 (by decide) wd_424 rfl rfl (hs _ _ _ rfl) ?_
    refine hv_iload_n E dX4_touch_18 rfl 1 rfl ?_
    obtain ⟨h6, h⟩ := h
    refine hv_lald E dX4_touch_19 rfl (by decide) rfl h6 ?_
    refine hv_goto (tgt := 29) E dX4_touch_20 (by decide) ?_
    obtain ⟨h7, h⟩ := h
    refine hv_last E dX4_touch_29 rfl (by decide) rfl h7 ?_
    refine hv_aload_n E dX4_touch_30 rfl 0 rfl ?_
    refine hv_getR (k := 5) (t2 := (23, 0)) E dX4_touch_31 rfl rfl hiX4 (by decide) wd_422 rfl rfl (hs _ _ _ rfl) ?_
    refine hv_iload_n E dX4_touch_34 rfl 1 rfl ?_
    refine hv_iconst (v := nI 1) E dX4_touch_35 (by decide) ?_
    obtain ⟨h8, h⟩ := h
    refine hv_zast (w := nI 1) E dX4_touch_36 rfl (by decide) rfl h8 (by decide) ?_
    exact hv_vret E hret dX4_touch_37 (Nat.le_of_ble_eq_true rfl) (Nat.le_of_ble_eq_true rfl) ⟨rfl, hs, h⟩
-- VersionJoinsModel.own(I)J
def k_X4_own (P : Int64 → hp_S → Prop) (a1 : Int32) (x : hp_S) : Prop := vp_in a1 960 ∧ (((x.2.1 (24, 0) a1.toNatClampNeg) = 0 → (vp_in a1 960 ∧ (P (x.2.2.1 (25, 0) a1.toNatClampNeg) x))) ∧ (¬ (x.2.1 (24, 0) a1.toNatClampNeg) = 0 → (vp_in a1 960 ∧ (P (x.2.2.1 (26, 0) a1.toNatClampNeg) x))))
abbrev rm_X4_own : Room := ({ frames := 0, cells := 0, slots := 0, locals := 0 } : Room)
set_option maxRecDepth 100000 in
set_option maxHeartbeats 4000000 in
theorem c_X4_own (l : Launch) (P : Int64 → hp_S → Prop) (a1 : Int32) (x : hp_S) (hs : hp_sh x) (h : k_X4_own P a1 x) : hp_C l yX4_own (Cond.code yX4_own cX4_own 2 (Option.some Jvm.ClassFile.FieldType.long) :: hp_ws) rm_X4_own [aR (20, 0), aI a1] x (hp_pL P) 0 0 := by
  refine hp_ofV (own := "VersionJoinsModel") (lv := [(0, aR (20, 0)), (1, aI a1)]) (by decide) rfl (Nat.le_of_ble_eq_true rfl) rfl ?_
  intro p e s m args below meth c D cA B0 ad0 E hret hnm
  unfold k_X4_own at h
  refine hv_aload_n E dX4_own_0 rfl 0 rfl ?_
  refine hv_getR (k := 6) (t2 := (24, 0)) E dX4_own_1 rfl rfl hiX4 (by decide) wd_423 rfl rfl (hs _ _ _ rfl) ?_
  refine hv_iload_n E dX4_own_4 rfl 1 rfl ?_
  obtain ⟨h1, h⟩ := h
  refine hv_zald E dX4_own_5 rfl (by decide) rfl h1 ?_
  refine hv_if_eq (tgt := 18) E dX4_own_6 (by decide) (fun c2 => ?_) (fun c2 => ?_)
  · have h := h.1 c2
    refine hv_aload_n E dX4_own_18 rfl 0 rfl ?_
    refine hv_getR (k := 7) (t2 := (25, 0)) E dX4_own_19 rfl rfl hiX4 (by decide) wd_424 rfl rfl (hs _ _ _ rfl) ?_
    refine hv_iload_n E dX4_own_22 rfl 1 rfl ?_
    obtain ⟨h3, h⟩ := h
    refine hv_lald E dX4_own_23 rfl (by decide) rfl h3 ?_
    exact hv_lret E hret dX4_own_24 (Nat.le_of_ble_eq_true rfl) (Nat.le_of_ble_eq_true rfl) ⟨_, rfl, hs, h⟩
  · have h := h.2 c2
    refine hv_aload_n E dX4_own_9 rfl 0 rfl ?_
    refine hv_getR (k := 8) (t2 := (26, 0)) E dX4_own_10 rfl rfl hiX4 (by decide) wd_425 rfl rfl (hs _ _ _ rfl) ?_
    refine hv_iload_n E dX4_own_13 rfl 1 rfl ?_
    obtain ⟨h4, h⟩ := h
    refine hv_lald E dX4_own_14 rfl (by decide) rfl h4 ?_
    refine hv_goto (tgt := 24) E dX4_own_15 (by decide) ?_
    exact hv_lret E hret dX4_own_24 (Nat.le_of_ble_eq_true rfl) (Nat.le_of_ble_eq_true rfl) ⟨_, rfl, hs, h⟩
-- VersionJoinsModel.read(II)J
def k_X4_read (P : Int64 → hp_S → Prop) (a1 : Int32) (a2 : Int32) (x : hp_S) : Prop := k_X4_goes (fun r3 x3 => (¬ r3 = 0 → (k_X4_touch (fun x21 => k_X4_own (fun r26 x26 => P r26 x26) (((nI 24) * a1) + a2) x21) (((nI 24) * a1) + a2) a2 x3)) ∧ (r3 = 0 → (P 0 x3))) a1 a2 x
abbrev rm_X4_read : Room := ({ frames := 2, cells := 0, slots := 0, locals := 43 } : Room)
set_option maxRecDepth 100000 in
set_option maxHeartbeats 4000000 in
theorem c_X4_read (l : Launch) (P : Int64 → hp_S → Prop) (a1 : Int32) (a2 : Int32) (x : hp_S) (hs : hp_sh x) (h : k_X4_read P a1 a2 x) : hp_C l yX4_read (Cond.code yX4_read cX4_read 4 (Option.some Jvm.ClassFile.FieldType.long) :: hp_ws) rm_X4_read [aR (20, 0), aI a1, aI a2] x (hp_pL P) 0 0 := by
  refine hp_ofV (own := "VersionJoinsModel") (lv := [(0, aR (20, 0)), (1, aI a1), (2, aI a2)]) (by decide) rfl (Nat.le_of_ble_eq_true rfl) rfl ?_
  intro p e s m args below meth c D cA B0 ad0 E hret hnm
  unfold k_X4_read at h
  refine hv_aload_n E dX4_read_0 rfl 0 rfl ?_
  refine hv_iload_n E dX4_read_1 rfl 1 rfl ?_
  refine hv_iload_n E dX4_read_2 rfl 2 rfl ?_
  refine hv_VI E [aI a1, aI a2] (c_X4_goes l _ a1 a2 x hs h) (hp_cwV 2 E wd_564 wd_566 wd_26 wd_41 wd_567 rfl rfl (by decide +kernel) ⟨(Nat.le_of_ble_eq_true rfl), (Nat.le_of_ble_eq_true rfl)⟩) rfl rfl rfl rfl (Nat.le_of_ble_eq_true rfl) dX4_read_3 ⟨(Nat.le_of_ble_eq_true rfl), (Nat.le_of_ble_eq_true rfl)⟩ (fun r3 x3 hs h => ?_)
  refine hv_if_ne (tgt := 11) E dX4_read_6 (by decide) (fun c1 => ?_) (fun c1 => ?_)
  · have h := h.1 c1
    refine hv_bipush (v := nI 24) E dX4_read_11 (by decide) ?_
    refine hv_iload_n E dX4_read_13 rfl 1 rfl ?_
    refine hv_imul (v := (nI 24) * a1) E dX4_read_14 rfl ?_
    refine hv_iload_n E dX4_read_15 rfl 2 rfl ?_
    refine hv_iadd (v := ((nI 24) * a1) + a2) E dX4_read_16 rfl ?_
    refine hv_istore_n (lv' := [(0, aR (20, 0)), (1, aI a1), (2, aI a2)]) E dX4_read_17 rfl (by decide) rfl ?_
    refine hv_aload_n E dX4_read_18 rfl 1 rfl ?_
    refine hv_iload_n E dX4_read_19 rfl 0 rfl ?_
    refine hv_iload_n E dX4_read_20 rfl 3 rfl ?_
    refine hv_VV E [aI (((nI 24) * a1) + a2), aI a2] (c_X4_touch l _ (((nI 24) * a1) + a2) a2 x3 hs h) (hp_cwV 2 E wd_568 wd_570 wd_27 wd_41 wd_571 rfl rfl (by decide +kernel) ⟨(Nat.le_of_ble_eq_true rfl), (Nat.le_of_ble_eq_true rfl)⟩) rfl rfl rfl rfl (Nat.le_of_ble_eq_true rfl) dX4_read_21 ⟨(Nat.le_of_ble_eq_true rfl), (Nat.le_of_ble_eq_true rfl)⟩ (fun x21 hs h => ?_)
    refine hv_aload_n E dX4_read_24 rfl 1 rfl ?_
    refine hv_iload_n E dX4_read_25 rfl 0 rfl ?_
    refine hv_VL E [aI (((nI 24) * a1) + a2)] (c_X4_own l _ (((nI 24) * a1) + a2) x21 hs h) (hp_cwV 1 E wd_572 wd_574 wd_28 wd_41 wd_575 rfl rfl (by decide +kernel) ⟨(Nat.le_of_ble_eq_true rfl), (Nat.le_of_ble_eq_true rfl)⟩) rfl rfl rfl rfl (Nat.le_of_ble_eq_true rfl) dX4_read_26 ⟨(Nat.le_of_ble_eq_true rfl), (Nat.le_of_ble_eq_true rfl)⟩ (fun r26 x26 hs h => ?_)
    exact hv_lret E hret dX4_read_29 (Nat.le_of_ble_eq_true rfl) (Nat.le_of_ble_eq_true rfl) ⟨_, rfl, hs, h⟩
  · have h := h.2 c1
    refine hv_lconst (v := 0) E dX4_read_9 (by decide) ?_
    exact hv_lret E hret dX4_read_10 (Nat.le_of_ble_eq_true rfl) (Nat.le_of_ble_eq_true rfl) ⟨_, rfl, hs, h⟩
-- VersionJoinsModel.write(IIJ)Z
def k_X4_write (P : Int32 → hp_S → Prop) (a1 : Int32) (a2 : Int32) (a3 : Int64) (x : hp_S) : Prop := k_X4_goes (fun r3 x3 => (¬ r3 = 0 → (k_X4_touch (fun x23 => vp_in (((nI 24) * a1) + a2) 960 ∧ (vp_in (((nI 24) * a1) + a2) 960 ∧ (P (nI 1) (hp_uL (hp_uI x23 (24, 0) ((((nI 24) * a1) + a2).toNatClampNeg) (nI 1)) (26, 0) ((((nI 24) * a1) + a2).toNatClampNeg) a3)))) (((nI 24) * a1) + a2) a2 x3)) ∧ (r3 = 0 → (P (nI 0) x3))) a1 a2 x
abbrev rm_X4_write : Room := ({ frames := 2, cells := 0, slots := 0, locals := 43 } : Room)
set_option maxRecDepth 100000 in
set_option maxHeartbeats 4000000 in
theorem c_X4_write (l : Launch) (P : Int32 → hp_S → Prop) (a1 : Int32) (a2 : Int32) (a3 : Int64) (x : hp_S) (hs : hp_sh x) (h : k_X4_write P a1 a2 a3 x) : hp_C l yX4_write (Cond.code yX4_write cX4_write 6 (Option.some Jvm.ClassFile.FieldType.boolean) :: hp_ws) rm_X4_write [aR (20, 0), aI a1, aI a2, aL a3] x (hp_pI P) 0 0 := by
  refine hp_ofV (own := "VersionJoinsModel") (lv := [(0, aR (20, 0)), (1, aI a1), (2, aI a2), (3, aL a3)]) (by decide) rfl (Nat.le_of_ble_eq_true rfl) rfl ?_
  intro p e s m args below meth c D cA B0 ad0 E hret hnm
  unfold k_X4_write at h
  refine hv_aload_n E dX4_write_0 rfl 0 rfl ?_
  refine hv_iload_n E dX4_write_1 rfl 1 rfl ?_
  refine hv_iload_n E dX4_write_2 rfl 2 rfl ?_
  refine hv_VI E [aI a1, aI a2] (c_X4_goes l _ a1 a2 x hs h) (hp_cwV 2 E wd_564 wd_566 wd_26 wd_41 wd_567 rfl rfl (by decide +kernel) ⟨(Nat.le_of_ble_eq_true rfl), (Nat.le_of_ble_eq_true rfl)⟩) rfl rfl rfl rfl (Nat.le_of_ble_eq_true rfl) dX4_write_3 ⟨(Nat.le_of_ble_eq_true rfl), (Nat.le_of_ble_eq_true rfl)⟩ (fun r3 x3 hs h => ?_)
  refine hv_if_ne (tgt := 11) E dX4_write_6 (by decide) (fun c1 => ?_) (fun c1 => ?_)
  · have h := h.1 c1
    refine hv_bipush (v := nI 24) E dX4_write_11 (by decide) ?_
    refine hv_iload_n E dX4_write_13 rfl 1 rfl ?_
    refine hv_imul (v := (nI 24) * a1) E dX4_write_14 rfl ?_
    refine hv_iload_n E dX4_write_15 rfl 2 rfl ?_
    refine hv_iadd (v := ((nI 24) * a1) + a2) E dX4_write_16 rfl ?_
    refine hv_istore (lv' := [(0, aR (20, 0)), (1, aI a1), (2, aI a2), (3, aL a3)]) E dX4_write_17 (by decide) rfl ?_
    refine hv_aload_n E dX4_write_19 rfl 1 rfl ?_
    refine hv_iload E dX4_write_20 0 rfl ?_
    refine hv_iload_n E dX4_write_22 rfl 3 rfl ?_
    refine hv_VV E [aI (((nI 24) * a1) + a2), aI a2] (c_X4_touch l _ (((nI 24) * a1) + a2) a2 x3 hs h) (hp_cwV 2 E wd_568 wd_570 wd_27 wd_41 wd_571 rfl rfl (by decide +kernel) ⟨(Nat.le_of_ble_eq_true rfl), (Nat.le_of_ble_eq_true rfl)⟩) rfl rfl rfl rfl (Nat.le_of_ble_eq_true rfl) dX4_write_23 ⟨(Nat.le_of_ble_eq_true rfl), (Nat.le_of_ble_eq_true rfl)⟩ (fun x23 hs h => ?_)
    refine hv_aload_n E dX4_write_26 rfl 1 rfl ?_
    refine hv_getR (k := 6) (t2 := (24, 0)) E dX4_write_27 rfl rfl hiX4 (by decide) wd_423 rfl rfl (hs _ _ _ rfl) ?_
    refine hv_iload E dX4_write_30 0 rfl ?_
    refine hv_iconst (v := nI 1) E dX4_write_32 (by decide) ?_
    obtain ⟨h2, h⟩ := h
    refine hv_zast (w := nI 1) E dX4_write_33 rfl (by decide) rfl h2 (by decide) ?_
    refine hv_aload_n E dX4_write_34 rfl 1 rfl ?_
    refine hv_getR (k := 8) (t2 := (26, 0)) E dX4_write_35 rfl rfl hiX4 (by decide) wd_425 rfl rfl (hs _ _ _ rfl) ?_
    refine hv_iload E dX4_write_38 0 rfl ?_
    refine hv_lload_n E dX4_write_40 rfl 4 rfl ?_
    obtain ⟨h3, h⟩ := h
    refine hv_last E dX4_write_41 rfl (by decide) rfl h3 ?_
    refine hv_iconst (v := nI 1) E dX4_write_42 (by decide) ?_
    exact hv_zret E hret dX4_write_43 (by decide) (Nat.le_of_ble_eq_true rfl) (Nat.le_of_ble_eq_true rfl) ⟨_, rfl, hs, h⟩
  · have h := h.2 c1
    refine hv_iconst (v := nI 0) E dX4_write_9 (by decide) ?_
    exact hv_zret E hret dX4_write_10 (by decide) (Nat.le_of_ble_eq_true rfl) (Nat.le_of_ble_eq_true rfl) ⟨_, rfl, hs, h⟩
-- VersionJoinsModel.isConflict(II)Z
def k_X4_isConflict (P : Int32 → hp_S → Prop) (a1 : Int32) (a2 : Int32) (x : hp_S) : Prop := vp_in (((nI 24) * a1) + a2) 960 ∧ (((x.2.1 (23, 0) (((nI 24) * a1) + a2).toNatClampNeg) = 0 → (P (nI 0) x)) ∧ (¬ (x.2.1 (23, 0) (((nI 24) * a1) + a2).toNatClampNeg) = 0 → (vp_in a2 144 ∧ (vp_in (((nI 24) * a1) + a2) 960 ∧ (((lg_cmp (x.2.2.1 (21, 0) a2.toNatClampNeg) (x.2.2.1 (25, 0) (((nI 24) * a1) + a2).toNatClampNeg)) = 0 → (P (nI 0) x)) ∧ (¬ (lg_cmp (x.2.2.1 (21, 0) a2.toNatClampNeg) (x.2.2.1 (25, 0) (((nI 24) * a1) + a2).toNatClampNeg)) = 0 → (vp_in (((nI 24) * a1) + a2) 960 ∧ (((x.2.1 (24, 0) (((nI 24) * a1) + a2).toNatClampNeg) = 0 → (P (nI 1) x)) ∧ (¬ (x.2.1 (24, 0) (((nI 24) * a1) + a2).toNatClampNeg) = 0 → (vp_in a2 144 ∧ (vp_in (((nI 24) * a1) + a2) 960 ∧ (((lg_cmp (x.2.2.1 (21, 0) a2.toNatClampNeg) (x.2.2.1 (26, 0) (((nI 24) * a1) + a2).toNatClampNeg)) = 0 → (P (nI 0) x)) ∧ (¬ (lg_cmp (x.2.2.1 (21, 0) a2.toNatClampNeg) (x.2.2.1 (26, 0) (((nI 24) * a1) + a2).toNatClampNeg)) = 0 → (P (nI 1) x))))))))))))))
abbrev rm_X4_isConflict : Room := ({ frames := 0, cells := 0, slots := 0, locals := 0 } : Room)
set_option maxRecDepth 100000 in
set_option maxHeartbeats 4000000 in
theorem c_X4_isConflict (l : Launch) (P : Int32 → hp_S → Prop) (a1 : Int32) (a2 : Int32) (x : hp_S) (hs : hp_sh x) (h : k_X4_isConflict P a1 a2 x) : hp_C l yX4_isConflict (Cond.code yX4_isConflict cX4_isConflict 4 (Option.some Jvm.ClassFile.FieldType.boolean) :: hp_ws) rm_X4_isConflict [aR (20, 0), aI a1, aI a2] x (hp_pI P) 0 0 := by
  refine hp_ofV (own := "VersionJoinsModel") (lv := [(0, aR (20, 0)), (1, aI a1), (2, aI a2)]) (by decide) rfl (Nat.le_of_ble_eq_true rfl) rfl ?_
  intro p e s m args below meth c D cA B0 ad0 E hret hnm
  unfold k_X4_isConflict at h
  refine hv_bipush (v := nI 24) E dX4_isConflict_0 (by decide) ?_
  refine hv_iload_n E dX4_isConflict_2 rfl 1 rfl ?_
  refine hv_imul (v := (nI 24) * a1) E dX4_isConflict_3 rfl ?_
  refine hv_iload_n E dX4_isConflict_4 rfl 2 rfl ?_
  refine hv_iadd (v := ((nI 24) * a1) + a2) E dX4_isConflict_5 rfl ?_
  refine hv_istore_n (lv' := [(0, aR (20, 0)), (1, aI a1), (2, aI a2)]) E dX4_isConflict_6 rfl (by decide) rfl ?_
  refine hv_aload_n E dX4_isConflict_7 rfl 1 rfl ?_
  refine hv_getR (k := 5) (t2 := (23, 0)) E dX4_isConflict_8 rfl rfl hiX4 (by decide) wd_422 rfl rfl (hs _ _ _ rfl) ?_
  refine hv_iload_n E dX4_isConflict_11 rfl 0 rfl ?_
  obtain ⟨h1, h⟩ := h
  refine hv_zald E dX4_isConflict_12 rfl (by decide) rfl h1 ?_
  refine hv_if_eq (tgt := 61) E dX4_isConflict_13 (by decide) (fun c2 => ?_) (fun c2 => ?_)
  · have h := h.1 c2
    refine hv_iconst (v := nI 0) E dX4_isConflict_61 (by decide) ?_
    exact hv_zret E hret dX4_isConflict_62 (by decide) (Nat.le_of_ble_eq_true rfl) (Nat.le_of_ble_eq_true rfl) ⟨_, rfl, hs, h⟩
  · have h := h.2 c2
    refine hv_aload_n E dX4_isConflict_16 rfl 1 rfl ?_
    refine hv_getR (k := 2) (t2 := (21, 0)) E dX4_isConflict_17 rfl rfl hiX4 (by decide) wd_419 rfl rfl (hs _ _ _ rfl) ?_
    refine hv_iload_n E dX4_isConflict_20 rfl 3 rfl ?_
    obtain ⟨h3, h⟩ := h
    refine hv_lald E dX4_isConflict_21 rfl (by decide) rfl h3 ?_
    refine hv_aload_n E dX4_isConflict_22 rfl 1 rfl ?_
    refine hv_getR (k := 7) (t2 := (25, 0)) E dX4_isConflict_23 rfl rfl hiX4 (by decide) wd_424 rfl rfl (hs _ _ _ rfl) ?_
    refine hv_iload_n E dX4_isConflict_26 rfl 0 rfl ?_
    obtain ⟨h4, h⟩ := h
    refine hv_lald E dX4_isConflict_27 rfl (by decide) rfl h4 ?_
    refine hv_lcmp E dX4_isConflict_28 ?_
    refine hv_if_eq (tgt := 61) E dX4_isConflict_29 (by decide) (fun c5 => ?_) (fun c5 => ?_)
    · have h := h.1 c5
      refine hv_iconst (v := nI 0) E dX4_isConflict_61 (by decide) ?_
      exact hv_zret E hret dX4_isConflict_62 (by decide) (Nat.le_of_ble_eq_true rfl) (Nat.le_of_ble_eq_true rfl) ⟨_, rfl, hs, h⟩
    · have h := h.2 c5
      refine hv_aload_n E dX4_isConflict_32 rfl 1 rfl ?_
      refine hv_getR (k := 6) (t2 := (24, 0)) E dX4_isConflict_33 rfl rfl hiX4 (by decide) wd_423 rfl rfl (hs _ _ _ rfl) ?_
      refine hv_iload_n E dX4_isConflict_36 rfl 0 rfl ?_
      obtain ⟨h6, h⟩ := h
      refine hv_zald E dX4_isConflict_37 rfl (by decide) rfl h6 ?_
      refine hv_if_eq (tgt := 57) E dX4_isConflict_38 (by decide) (fun c7 => ?_) (fun c7 => ?_)
      · have h := h.1 c7
        refine hv_iconst (v := nI 1) E dX4_isConflict_57 (by decide) ?_
        refine hv_goto (tgt := 62) E dX4_isConflict_58 (by decide) ?_
        exact hv_zret E hret dX4_isConflict_62 (by decide) (Nat.le_of_ble_eq_true rfl) (Nat.le_of_ble_eq_true rfl) ⟨_, rfl, hs, h⟩
      · have h := h.2 c7
        refine hv_aload_n E dX4_isConflict_41 rfl 1 rfl ?_
        refine hv_getR (k := 2) (t2 := (21, 0)) E dX4_isConflict_42 rfl rfl hiX4 (by decide) wd_419 rfl rfl (hs _ _ _ rfl) ?_
        refine hv_iload_n E dX4_isConflict_45 rfl 3 rfl ?_
        obtain ⟨h8, h⟩ := h
        refine hv_lald E dX4_isConflict_46 rfl (by decide) rfl h8 ?_
        refine hv_aload_n E dX4_isConflict_47 rfl 1 rfl ?_
        refine hv_getR (k := 8) (t2 := (26, 0)) E dX4_isConflict_48 rfl rfl hiX4 (by decide) wd_425 rfl rfl (hs _ _ _ rfl) ?_
        refine hv_iload_n E dX4_isConflict_51 rfl 0 rfl ?_
        obtain ⟨h9, h⟩ := h
        refine hv_lald E dX4_isConflict_52 rfl (by decide) rfl h9 ?_
        refine hv_lcmp E dX4_isConflict_53 ?_
        refine hv_if_eq (tgt := 61) E dX4_isConflict_54 (by decide) (fun c10 => ?_) (fun c10 => ?_)
        · have h := h.1 c10
          refine hv_iconst (v := nI 0) E dX4_isConflict_61 (by decide) ?_
          exact hv_zret E hret dX4_isConflict_62 (by decide) (Nat.le_of_ble_eq_true rfl) (Nat.le_of_ble_eq_true rfl) ⟨_, rfl, hs, h⟩
        · have h := h.2 c10
          refine hv_iconst (v := nI 1) E dX4_isConflict_57 (by decide) ?_
          refine hv_goto (tgt := 62) E dX4_isConflict_58 (by decide) ?_
          exact hv_zret E hret dX4_isConflict_62 (by decide) (Nat.le_of_ble_eq_true rfl) (Nat.le_of_ble_eq_true rfl) ⟨_, rfl, hs, h⟩
-- VersionJoinsModel.keepConflicts(I)V
def k_X4_keepConflicts_12 (P : hp_S → Prop) (a1 : Int32) : Nat → hp_S → Int32 → Prop
  | 0, _, _ => False
  | n + 1, x, l2 => ((x.2.1 (20, 0) 0) ≤ l2 → (P x)) ∧ (¬ (x.2.1 (20, 0) 0) ≤ l2 → (k_X4_isConflict (fun r23 x23 => (r23 = 0 → (k_X4_keepConflicts_12 P a1 n x23 (l2 + nI 1))) ∧ (¬ r23 = 0 → (vp_in (x23.2.1 (20, 0) 9) 24 ∧ (k_X4_own (fun r54 x54 => vp_in ((hp_uI x23 (27, 0) ((x23.2.1 (20, 0) 9).toNatClampNeg) l2).2.1 (20, 0) 9) 24 ∧ (vp_in l2 144 ∧ (vp_in ((hp_uL x54 (28, 0) (((hp_uI x23 (27, 0) ((x23.2.1 (20, 0) 9).toNatClampNeg) l2).2.1 (20, 0) 9).toNatClampNeg) r54).2.1 (20, 0) 9) 24 ∧ (vp_in ((hp_uL (hp_uL x54 (28, 0) (((hp_uI x23 (27, 0) ((x23.2.1 (20, 0) 9).toNatClampNeg) l2).2.1 (20, 0) 9).toNatClampNeg) r54) (29, 0) (((hp_uL x54 (28, 0) (((hp_uI x23 (27, 0) ((x23.2.1 (20, 0) 9).toNatClampNeg) l2).2.1 (20, 0) 9).toNatClampNeg) r54).2.1 (20, 0) 9).toNatClampNeg) ((hp_uL x54 (28, 0) (((hp_uI x23 (27, 0) ((x23.2.1 (20, 0) 9).toNatClampNeg) l2).2.1 (20, 0) 9).toNatClampNeg) r54).2.2.1 (21, 0) l2.toNatClampNeg)).2.1 (20, 0) 9) 24 ∧ (k_X4_keepConflicts_12 P a1 n (hp_uI (hp_uI (hp_uL (hp_uL x54 (28, 0) (((hp_uI x23 (27, 0) ((x23.2.1 (20, 0) 9).toNatClampNeg) l2).2.1 (20, 0) 9).toNatClampNeg) r54) (29, 0) (((hp_uL x54 (28, 0) (((hp_uI x23 (27, 0) ((x23.2.1 (20, 0) 9).toNatClampNeg) l2).2.1 (20, 0) 9).toNatClampNeg) r54).2.1 (20, 0) 9).toNatClampNeg) ((hp_uL x54 (28, 0) (((hp_uI x23 (27, 0) ((x23.2.1 (20, 0) 9).toNatClampNeg) l2).2.1 (20, 0) 9).toNatClampNeg) r54).2.2.1 (21, 0) l2.toNatClampNeg)) (30, 0) (((hp_uL (hp_uL x54 (28, 0) (((hp_uI x23 (27, 0) ((x23.2.1 (20, 0) 9).toNatClampNeg) l2).2.1 (20, 0) 9).toNatClampNeg) r54) (29, 0) (((hp_uL x54 (28, 0) (((hp_uI x23 (27, 0) ((x23.2.1 (20, 0) 9).toNatClampNeg) l2).2.1 (20, 0) 9).toNatClampNeg) r54).2.1 (20, 0) 9).toNatClampNeg) ((hp_uL x54 (28, 0) (((hp_uI x23 (27, 0) ((x23.2.1 (20, 0) 9).toNatClampNeg) l2).2.1 (20, 0) 9).toNatClampNeg) r54).2.2.1 (21, 0) l2.toNatClampNeg)).2.1 (20, 0) 9).toNatClampNeg) (nI 0)) (20, 0) 9 (((hp_uI (hp_uL (hp_uL x54 (28, 0) (((hp_uI x23 (27, 0) ((x23.2.1 (20, 0) 9).toNatClampNeg) l2).2.1 (20, 0) 9).toNatClampNeg) r54) (29, 0) (((hp_uL x54 (28, 0) (((hp_uI x23 (27, 0) ((x23.2.1 (20, 0) 9).toNatClampNeg) l2).2.1 (20, 0) 9).toNatClampNeg) r54).2.1 (20, 0) 9).toNatClampNeg) ((hp_uL x54 (28, 0) (((hp_uI x23 (27, 0) ((x23.2.1 (20, 0) 9).toNatClampNeg) l2).2.1 (20, 0) 9).toNatClampNeg) r54).2.2.1 (21, 0) l2.toNatClampNeg)) (30, 0) (((hp_uL (hp_uL x54 (28, 0) (((hp_uI x23 (27, 0) ((x23.2.1 (20, 0) 9).toNatClampNeg) l2).2.1 (20, 0) 9).toNatClampNeg) r54) (29, 0) (((hp_uL x54 (28, 0) (((hp_uI x23 (27, 0) ((x23.2.1 (20, 0) 9).toNatClampNeg) l2).2.1 (20, 0) 9).toNatClampNeg) r54).2.1 (20, 0) 9).toNatClampNeg) ((hp_uL x54 (28, 0) (((hp_uI x23 (27, 0) ((x23.2.1 (20, 0) 9).toNatClampNeg) l2).2.1 (20, 0) 9).toNatClampNeg) r54).2.2.1 (21, 0) l2.toNatClampNeg)).2.1 (20, 0) 9).toNatClampNeg) (nI 0)).2.1 (20, 0) 9) + (nI 1))) (l2 + nI 1)))))) (((nI 24) * a1) + l2) (hp_uI x23 (27, 0) ((x23.2.1 (20, 0) 9).toNatClampNeg) l2))))) a1 l2 x))
def k_X4_keepConflicts (P : hp_S → Prop) (a1 : Int32) (x : hp_S) : Prop := ∃ q, k_X4_keepConflicts_12 P a1 q (hp_uI (hp_uI x (20, 0) 9 (nI 0)) (20, 0) 10 a1) (nI 0)
abbrev rm_X4_keepConflicts : Room := ({ frames := 1, cells := 0, slots := 0, locals := 23 } : Room)
set_option maxRecDepth 100000 in
set_option maxHeartbeats 4000000 in
theorem w_X4_keepConflicts_12 {p : Program} {l : Launch} {e : Env} {s : State} {m : MethodId} {args : Array Value} {below : List Frame} {meth : Method} {c : Code} {D : va_G} {cA : Nat → ClassId} {B0 : Nat} {ad0 : hp_T → Nat} {x0 : hp_S} (E : hp_E p s m args meth c cX4_keepConflicts 3 "VersionJoinsModel" hp_ws D cA B0) (hret : meth.sig.returnType = (Option.none : Option Jvm.ClassFile.FieldType)) {P : hp_S → Prop} (a1 : Int32) : ∀ (n : Nat) (x : hp_S) (l2 : Int32), hp_sh x → k_X4_keepConflicts_12 P a1 n x l2 → hp_V p l e rm_X4_keepConflicts s m args below meth c (fun ad0 => MQ below (hp_Q D cA B0 ad0 x0 (hp_pV P)) args s 0 0 (fun q => B0 ≤ q)) D cA B0 3 ad0 x0 0 0 x 12 [(0, aR (20, 0)), (1, aI a1), (2, aI l2)] [] := by
  intro n
  induction n with
  | zero => intro x l2 hs h; exact absurd h id
  | succ n ih =>
    intro x l2 hs h
    unfold k_X4_keepConflicts_12 at h
    refine hv_iload_n E dX4_keepConflicts_12 rfl 2 rfl ?_
    refine hv_aload_n E dX4_keepConflicts_13 rfl 0 rfl ?_
    refine hv_getI (k := 0) E dX4_keepConflicts_14 rfl rfl hiX4 (by decide) wd_417 rfl rfl ?_
    refine hv_icmp_ge (tgt := 99) E dX4_keepConflicts_17 (by decide) (fun c1 => ?_) (fun c1 => ?_)
    · have h := h.1 c1
      exact hv_vret E hret dX4_keepConflicts_99 (Nat.le_of_ble_eq_true rfl) (Nat.le_of_ble_eq_true rfl) ⟨rfl, hs, h⟩
    · have h := h.2 c1
      refine hv_aload_n E dX4_keepConflicts_20 rfl 0 rfl ?_
      refine hv_iload_n E dX4_keepConflicts_21 rfl 1 rfl ?_
      refine hv_iload_n E dX4_keepConflicts_22 rfl 2 rfl ?_
      refine hv_VI E [aI a1, aI l2] (c_X4_isConflict l _ a1 l2 x hs h) (hp_cwV 2 E wd_584 wd_586 wd_29 wd_41 wd_587 rfl rfl (by decide +kernel) ⟨(Nat.le_of_ble_eq_true rfl), (Nat.le_of_ble_eq_true rfl)⟩) rfl rfl rfl rfl (Nat.le_of_ble_eq_true rfl) dX4_keepConflicts_23 ⟨(Nat.le_of_ble_eq_true rfl), (Nat.le_of_ble_eq_true rfl)⟩ (fun r23 x23 hs h => ?_)
      refine hv_if_eq (tgt := 93) E dX4_keepConflicts_26 (by decide) (fun c2 => ?_) (fun c2 => ?_)
      · have h := h.1 c2
        refine hv_iinc (v := l2 + nI 1) (lv' := [(0, aR (20, 0)), (1, aI a1)]) E 2 dX4_keepConflicts_93 rfl (hx_i1 _) (by decide) rfl ?_
        refine hv_goto (tgt := 12) E dX4_keepConflicts_96 (by decide) ?_
        refine hv_lv [1, 2, 0] rfl ?_
        exact ih x23 (l2 + nI 1) hs h
      · have h := h.2 c2
        refine hv_aload_n E dX4_keepConflicts_29 rfl 0 rfl ?_
        refine hv_getR (k := 11) (t2 := (27, 0)) E dX4_keepConflicts_30 rfl rfl hiX4 (by decide) wd_428 rfl rfl (hs _ _ _ rfl) ?_
        refine hv_aload_n E dX4_keepConflicts_33 rfl 0 rfl ?_
        refine hv_getI (k := 9) E dX4_keepConflicts_34 rfl rfl hiX4 (by decide) wd_426 rfl rfl ?_
        refine hv_iload_n E dX4_keepConflicts_37 rfl 2 rfl ?_
        obtain ⟨h3, h⟩ := h
        refine hv_iast E dX4_keepConflicts_38 rfl (by decide) rfl h3 ?_
        refine hv_aload_n E dX4_keepConflicts_39 rfl 0 rfl ?_
        refine hv_getR (k := 12) (t2 := (28, 0)) E dX4_keepConflicts_40 rfl rfl hiX4 (by decide) wd_429 rfl rfl (hs _ _ _ rfl) ?_
        refine hv_aload_n E dX4_keepConflicts_43 rfl 0 rfl ?_
        refine hv_getI (k := 9) E dX4_keepConflicts_44 rfl rfl hiX4 (by decide) wd_426 rfl rfl ?_
        refine hv_aload_n E dX4_keepConflicts_47 rfl 0 rfl ?_
        refine hv_bipush (v := nI 24) E dX4_keepConflicts_48 (by decide) ?_
        refine hv_iload_n E dX4_keepConflicts_50 rfl 1 rfl ?_
        refine hv_imul (v := (nI 24) * a1) E dX4_keepConflicts_51 rfl ?_
        refine hv_iload_n E dX4_keepConflicts_52 rfl 2 rfl ?_
        refine hv_iadd (v := ((nI 24) * a1) + l2) E dX4_keepConflicts_53 rfl ?_
        refine hv_VL E [aI (((nI 24) * a1) + l2)] (c_X4_own l _ (((nI 24) * a1) + l2) (hp_uI x23 (27, 0) ((x23.2.1 (20, 0) 9).toNatClampNeg) l2) hs h) (hp_cwV 1 E wd_572 wd_574 wd_28 wd_41 wd_575 rfl rfl (by decide +kernel) ⟨(Nat.le_of_ble_eq_true rfl), (Nat.le_of_ble_eq_true rfl)⟩) rfl rfl rfl rfl (Nat.le_of_ble_eq_true rfl) dX4_keepConflicts_54 ⟨(Nat.le_of_ble_eq_true rfl), (Nat.le_of_ble_eq_true rfl)⟩ (fun r54 x54 hs h => ?_)
        obtain ⟨h4, h⟩ := h
        refine hv_last E dX4_keepConflicts_57 rfl (by decide) rfl h4 ?_
        refine hv_aload_n E dX4_keepConflicts_58 rfl 0 rfl ?_
        refine hv_getR (k := 13) (t2 := (29, 0)) E dX4_keepConflicts_59 rfl rfl hiX4 (by decide) wd_430 rfl rfl (hs _ _ _ rfl) ?_
        refine hv_aload_n E dX4_keepConflicts_62 rfl 0 rfl ?_
        refine hv_getI (k := 9) E dX4_keepConflicts_63 rfl rfl hiX4 (by decide) wd_426 rfl rfl ?_
        refine hv_aload_n E dX4_keepConflicts_66 rfl 0 rfl ?_
        refine hv_getR (k := 2) (t2 := (21, 0)) E dX4_keepConflicts_67 rfl rfl hiX4 (by decide) wd_419 rfl rfl (hs _ _ _ rfl) ?_
        refine hv_iload_n E dX4_keepConflicts_70 rfl 2 rfl ?_
        obtain ⟨h5, h⟩ := h
        refine hv_lald E dX4_keepConflicts_71 rfl (by decide) rfl h5 ?_
        obtain ⟨h6, h⟩ := h
        refine hv_last E dX4_keepConflicts_72 rfl (by decide) rfl h6 ?_
        refine hv_aload_n E dX4_keepConflicts_73 rfl 0 rfl ?_
        refine hv_getR (k := 14) (t2 := (30, 0)) E dX4_keepConflicts_74 rfl rfl hiX4 (by decide) wd_431 rfl rfl (hs _ _ _ rfl) ?_
        refine hv_aload_n E dX4_keepConflicts_77 rfl 0 rfl ?_
        refine hv_getI (k := 9) E dX4_keepConflicts_78 rfl rfl hiX4 (by decide) wd_426 rfl rfl ?_
        refine hv_iconst (v := nI 0) E dX4_keepConflicts_81 (by decide) ?_
        obtain ⟨h7, h⟩ := h
        refine hv_zast (w := nI 0) E dX4_keepConflicts_82 rfl (by decide) rfl h7 (by decide) ?_
        refine hv_aload_n E dX4_keepConflicts_83 rfl 0 rfl ?_
        refine hv_dup E dX4_keepConflicts_84 rfl ?_
        refine hv_getI (k := 9) E dX4_keepConflicts_85 rfl rfl hiX4 (by decide) wd_426 rfl rfl ?_
        refine hv_iconst (v := nI 1) E dX4_keepConflicts_88 (by decide) ?_
        refine hv_iadd (v := ((hp_uI (hp_uL (hp_uL x54 (28, 0) (((hp_uI x23 (27, 0) ((x23.2.1 (20, 0) 9).toNatClampNeg) l2).2.1 (20, 0) 9).toNatClampNeg) r54) (29, 0) (((hp_uL x54 (28, 0) (((hp_uI x23 (27, 0) ((x23.2.1 (20, 0) 9).toNatClampNeg) l2).2.1 (20, 0) 9).toNatClampNeg) r54).2.1 (20, 0) 9).toNatClampNeg) ((hp_uL x54 (28, 0) (((hp_uI x23 (27, 0) ((x23.2.1 (20, 0) 9).toNatClampNeg) l2).2.1 (20, 0) 9).toNatClampNeg) r54).2.2.1 (21, 0) l2.toNatClampNeg)) (30, 0) (((hp_uL (hp_uL x54 (28, 0) (((hp_uI x23 (27, 0) ((x23.2.1 (20, 0) 9).toNatClampNeg) l2).2.1 (20, 0) 9).toNatClampNeg) r54) (29, 0) (((hp_uL x54 (28, 0) (((hp_uI x23 (27, 0) ((x23.2.1 (20, 0) 9).toNatClampNeg) l2).2.1 (20, 0) 9).toNatClampNeg) r54).2.1 (20, 0) 9).toNatClampNeg) ((hp_uL x54 (28, 0) (((hp_uI x23 (27, 0) ((x23.2.1 (20, 0) 9).toNatClampNeg) l2).2.1 (20, 0) 9).toNatClampNeg) r54).2.2.1 (21, 0) l2.toNatClampNeg)).2.1 (20, 0) 9).toNatClampNeg) (nI 0)).2.1 (20, 0) 9) + (nI 1)) E dX4_keepConflicts_89 rfl ?_
        refine hv_putI (ty := .int) (k := 9) E tyX4 okX4 nmX4 dX4_keepConflicts_90 rfl rfl hiX4 (by decide) wd_426 rfl rfl (Or.inl rfl) (by decide +kernel) rfl rfl ?_
        refine hv_iinc (v := l2 + nI 1) (lv' := [(0, aR (20, 0)), (1, aI a1)]) E 2 dX4_keepConflicts_93 rfl (hx_i1 _) (by decide) rfl ?_
        refine hv_goto (tgt := 12) E dX4_keepConflicts_96 (by decide) ?_
        refine hv_lv [1, 2, 0] rfl ?_
        exact ih (hp_uI (hp_uI (hp_uL (hp_uL x54 (28, 0) (((hp_uI x23 (27, 0) ((x23.2.1 (20, 0) 9).toNatClampNeg) l2).2.1 (20, 0) 9).toNatClampNeg) r54) (29, 0) (((hp_uL x54 (28, 0) (((hp_uI x23 (27, 0) ((x23.2.1 (20, 0) 9).toNatClampNeg) l2).2.1 (20, 0) 9).toNatClampNeg) r54).2.1 (20, 0) 9).toNatClampNeg) ((hp_uL x54 (28, 0) (((hp_uI x23 (27, 0) ((x23.2.1 (20, 0) 9).toNatClampNeg) l2).2.1 (20, 0) 9).toNatClampNeg) r54).2.2.1 (21, 0) l2.toNatClampNeg)) (30, 0) (((hp_uL (hp_uL x54 (28, 0) (((hp_uI x23 (27, 0) ((x23.2.1 (20, 0) 9).toNatClampNeg) l2).2.1 (20, 0) 9).toNatClampNeg) r54) (29, 0) (((hp_uL x54 (28, 0) (((hp_uI x23 (27, 0) ((x23.2.1 (20, 0) 9).toNatClampNeg) l2).2.1 (20, 0) 9).toNatClampNeg) r54).2.1 (20, 0) 9).toNatClampNeg) ((hp_uL x54 (28, 0) (((hp_uI x23 (27, 0) ((x23.2.1 (20, 0) 9).toNatClampNeg) l2).2.1 (20, 0) 9).toNatClampNeg) r54).2.2.1 (21, 0) l2.toNatClampNeg)).2.1 (20, 0) 9).toNatClampNeg) (nI 0)) (20, 0) 9 (((hp_uI (hp_uL (hp_uL x54 (28, 0) (((hp_uI x23 (27, 0) ((x23.2.1 (20, 0) 9).toNatClampNeg) l2).2.1 (20, 0) 9).toNatClampNeg) r54) (29, 0) (((hp_uL x54 (28, 0) (((hp_uI x23 (27, 0) ((x23.2.1 (20, 0) 9).toNatClampNeg) l2).2.1 (20, 0) 9).toNatClampNeg) r54).2.1 (20, 0) 9).toNatClampNeg) ((hp_uL x54 (28, 0) (((hp_uI x23 (27, 0) ((x23.2.1 (20, 0) 9).toNatClampNeg) l2).2.1 (20, 0) 9).toNatClampNeg) r54).2.2.1 (21, 0) l2.toNatClampNeg)) (30, 0) (((hp_uL (hp_uL x54 (28, 0) (((hp_uI x23 (27, 0) ((x23.2.1 (20, 0) 9).toNatClampNeg) l2).2.1 (20, 0) 9).toNatClampNeg) r54) (29, 0) (((hp_uL x54 (28, 0) (((hp_uI x23 (27, 0) ((x23.2.1 (20, 0) 9).toNatClampNeg) l2).2.1 (20, 0) 9).toNatClampNeg) r54).2.1 (20, 0) 9).toNatClampNeg) ((hp_uL x54 (28, 0) (((hp_uI x23 (27, 0) ((x23.2.1 (20, 0) 9).toNatClampNeg) l2).2.1 (20, 0) 9).toNatClampNeg) r54).2.2.1 (21, 0) l2.toNatClampNeg)).2.1 (20, 0) 9).toNatClampNeg) (nI 0)).2.1 (20, 0) 9) + (nI 1))) (l2 + nI 1) hs h
set_option maxRecDepth 100000 in
set_option maxHeartbeats 4000000 in
theorem c_X4_keepConflicts (l : Launch) (P : hp_S → Prop) (a1 : Int32) (x : hp_S) (hs : hp_sh x) (h : k_X4_keepConflicts P a1 x) : hp_C l yX4_keepConflicts (Cond.code yX4_keepConflicts cX4_keepConflicts 3 (Option.none : Option Jvm.ClassFile.FieldType) :: hp_ws) rm_X4_keepConflicts [aR (20, 0), aI a1] x (hp_pV P) 0 0 := by
  refine hp_ofV (own := "VersionJoinsModel") (lv := [(0, aR (20, 0)), (1, aI a1)]) (by decide) rfl (Nat.le_of_ble_eq_true rfl) rfl ?_
  intro p e s m args below meth c D cA B0 ad0 E hret hnm
  unfold k_X4_keepConflicts at h
  refine hv_aload_n E dX4_keepConflicts_0 rfl 0 rfl ?_
  refine hv_iconst (v := nI 0) E dX4_keepConflicts_1 (by decide) ?_
  refine hv_putI (ty := .int) (k := 9) E tyX4 okX4 nmX4 dX4_keepConflicts_2 rfl rfl hiX4 (by decide) wd_426 rfl rfl (Or.inl rfl) (by decide +kernel) rfl rfl ?_
  refine hv_aload_n E dX4_keepConflicts_5 rfl 0 rfl ?_
  refine hv_iload_n E dX4_keepConflicts_6 rfl 1 rfl ?_
  refine hv_putI (ty := .int) (k := 10) E tyX4 okX4 nmX4 dX4_keepConflicts_7 rfl rfl hiX4 (by decide) wd_427 rfl rfl (Or.inl rfl) (by decide +kernel) rfl rfl ?_
  refine hv_iconst (v := nI 0) E dX4_keepConflicts_10 (by decide) ?_
  refine hv_istore_n (lv' := [(0, aR (20, 0)), (1, aI a1)]) E dX4_keepConflicts_11 rfl (by decide) rfl ?_
  obtain ⟨n8, h⟩ := h
  refine hv_lv [1, 2, 0] rfl ?_
  exact w_X4_keepConflicts_12 E hret a1 n8 (hp_uI (hp_uI x (20, 0) 9 (nI 0)) (20, 0) 10 a1) (nI 0) hs h
-- VersionJoinsModel.join(IZ)I
def k_X4_join_145 (P : Int32 → hp_S → Prop) (a1 : Int32) (a2 : Int32) (f3 : Int32) (f4 : Int32) (K : hp_S → Int32 → Prop) : Nat → hp_S → Int32 → Prop
  | 0, _, _ => False
  | n + 1, x, l5 => ((x.2.1 (20, 0) 0) ≤ l5 → (K x l5)) ∧ (¬ (x.2.1 (20, 0) 0) ≤ l5 → (vp_in (((nI 24) * a1) + l5) 960 ∧ (((x.2.1 (24, 0) (((nI 24) * a1) + l5).toNatClampNeg) = 0 → (vp_in l5 144 ∧ (vp_in l5 144 ∧ (k_X4_join_145 P a1 a2 f3 f4 K n (hp_uL x (21, 0) l5.toNatClampNeg (x.2.2.1 (21, 0) l5.toNatClampNeg)) (l5 + nI 1))))) ∧ (¬ (x.2.1 (24, 0) (((nI 24) * a1) + l5).toNatClampNeg) = 0 → (vp_in (((nI 24) * a1) + l5) 960 ∧ (vp_in l5 144 ∧ (k_X4_join_145 P a1 a2 f3 f4 K n (hp_uL x (21, 0) l5.toNatClampNeg (x.2.2.1 (26, 0) (((nI 24) * a1) + l5).toNatClampNeg)) (l5 + nI 1))))))))
def k_X4_join_32 (P : Int32 → hp_S → Prop) (a1 : Int32) (a2 : Int32) : Nat → hp_S → Int32 → Int32 → Int32 → Prop
  | 0, _, _, _, _ => False
  | n + 1, x, l3, l4, l5 => ((x.2.1 (20, 0) 0) ≤ l5 → ((l3 ≤ 0 → ((l4 = 0 → (∃ q, k_X4_join_145 P a1 a2 l3 l4 (fun x_145 l5_145 => vp_in a1 40 ∧ (P (nI 0) (hp_uI x_145 (22, 0) a1.toNatClampNeg (nI 0)))) q x (nI 0))) ∧ (¬ l4 = 0 → (P (-1 : Int32) x)))) ∧ (¬ l3 ≤ 0 → (k_X4_keepConflicts (fun x130 => P l3 x130) a1 x)))) ∧ (¬ (x.2.1 (20, 0) 0) ≤ l5 → (k_X4_isConflict (fun r54 x54 => (r54 = 0 → ((¬ l4 = 0 → (k_X4_join_32 P a1 a2 n x54 l3 (nI 1) (l5 + nI 1))) ∧ (l4 = 0 → (vp_in (((nI 24) * a1) + l5) 960 ∧ (((x54.2.1 (24, 0) (((nI 24) * a1) + l5).toNatClampNeg) = 0 → (k_X4_join_32 P a1 a2 n x54 l3 (nI 0) (l5 + nI 1))) ∧ (¬ (x54.2.1 (24, 0) (((nI 24) * a1) + l5).toNatClampNeg) = 0 → (vp_in (((nI 24) * a1) + l5) 960 ∧ ((0 < (lg_cmp (x54.2.2.1 (26, 0) (((nI 24) * a1) + l5).toNatClampNeg) 1000000000000) → (k_X4_join_32 P a1 a2 n x54 l3 (nI 1) (l5 + nI 1))) ∧ (¬ 0 < (lg_cmp (x54.2.2.1 (26, 0) (((nI 24) * a1) + l5).toNatClampNeg) 1000000000000) → (vp_in (((nI 24) * a1) + l5) 960 ∧ ((0 ≤ (lg_cmp (x54.2.2.1 (26, 0) (((nI 24) * a1) + l5).toNatClampNeg) (-1000000000000)) → (k_X4_join_32 P a1 a2 n x54 l3 (nI 0) (l5 + nI 1))) ∧ (¬ 0 ≤ (lg_cmp (x54.2.2.1 (26, 0) (((nI 24) * a1) + l5).toNatClampNeg) (-1000000000000)) → (k_X4_join_32 P a1 a2 n x54 l3 (nI 1) (l5 + nI 1)))))))))))))) ∧ (¬ r54 = 0 → ((¬ l4 = 0 → (k_X4_join_32 P a1 a2 n x54 (l3 + (nI 1)) (nI 1) (l5 + nI 1))) ∧ (l4 = 0 → (vp_in (((nI 24) * a1) + l5) 960 ∧ (((x54.2.1 (24, 0) (((nI 24) * a1) + l5).toNatClampNeg) = 0 → (k_X4_join_32 P a1 a2 n x54 (l3 + (nI 1)) (nI 0) (l5 + nI 1))) ∧ (¬ (x54.2.1 (24, 0) (((nI 24) * a1) + l5).toNatClampNeg) = 0 → (vp_in (((nI 24) * a1) + l5) 960 ∧ ((0 < (lg_cmp (x54.2.2.1 (26, 0) (((nI 24) * a1) + l5).toNatClampNeg) 1000000000000) → (k_X4_join_32 P a1 a2 n x54 (l3 + (nI 1)) (nI 1) (l5 + nI 1))) ∧ (¬ 0 < (lg_cmp (x54.2.2.1 (26, 0) (((nI 24) * a1) + l5).toNatClampNeg) 1000000000000) → (vp_in (((nI 24) * a1) + l5) 960 ∧ ((0 ≤ (lg_cmp (x54.2.2.1 (26, 0) (((nI 24) * a1) + l5).toNatClampNeg) (-1000000000000)) → (k_X4_join_32 P a1 a2 n x54 (l3 + (nI 1)) (nI 0) (l5 + nI 1))) ∧ (¬ 0 ≤ (lg_cmp (x54.2.2.1 (26, 0) (((nI 24) * a1) + l5).toNatClampNeg) (-1000000000000)) → (k_X4_join_32 P a1 a2 n x54 (l3 + (nI 1)) (nI 1) (l5 + nI 1))))))))))))))) a1 l5 x))
def k_X4_join (P : Int32 → hp_S → Prop) (a1 : Int32) (a2 : Int32) (x : hp_S) : Prop := (a1 < 0 → (P (-2 : Int32) x)) ∧ (¬ a1 < 0 → (((x.2.1 (20, 0) 3) ≤ a1 → (P (-2 : Int32) x)) ∧ (¬ (x.2.1 (20, 0) 3) ≤ a1 → (vp_in a1 40 ∧ ((¬ (x.2.1 (22, 0) a1.toNatClampNeg) = 0 → (∃ q, k_X4_join_32 P a1 a2 q x (nI 0) a2 (nI 0))) ∧ ((x.2.1 (22, 0) a1.toNatClampNeg) = 0 → (P (-2 : Int32) x)))))))
abbrev rm_X4_join : Room := ({ frames := 2, cells := 0, slots := 0, locals := 45 } : Room)
set_option maxRecDepth 100000 in
set_option maxHeartbeats 4000000 in
theorem w_X4_join_145 {p : Program} {l : Launch} {e : Env} {s : State} {m : MethodId} {args : Array Value} {below : List Frame} {meth : Method} {c : Code} {D : va_G} {cA : Nat → ClassId} {B0 : Nat} {ad0 : hp_T → Nat} {x0 : hp_S} (E : hp_E p s m args meth c cX4_join 7 "VersionJoinsModel" hp_ws D cA B0) (hret : meth.sig.returnType = (Option.some Jvm.ClassFile.FieldType.int)) {P : Int32 → hp_S → Prop} (a1 : Int32) (a2 : Int32) (f3 : Int32) (f4 : Int32) {K : hp_S → Int32 → Prop} (hK : ∀ (x : hp_S) (l5 : Int32), hp_sh x → K x l5 → hp_V p l e rm_X4_join s m args below meth c (fun ad0 => MQ below (hp_Q D cA B0 ad0 x0 (hp_pI P)) args s 0 0 (fun q => B0 ≤ q)) D cA B0 7 ad0 x0 0 0 x 203 [(0, aR (20, 0)), (1, aI a1), (2, aI a2), (3, aI f3), (4, aI f4), (5, aI l5)] []) : ∀ (n : Nat) (x : hp_S) (l5 : Int32), hp_sh x → k_X4_join_145 P a1 a2 f3 f4 K n x l5 → hp_V p l e rm_X4_join s m args below meth c (fun ad0 => MQ below (hp_Q D cA B0 ad0 x0 (hp_pI P)) args s 0 0 (fun q => B0 ≤ q)) D cA B0 7 ad0 x0 0 0 x 145 [(0, aR (20, 0)), (1, aI a1), (2, aI a2), (3, aI f3), (4, aI f4), (5, aI l5)] [] := by
  intro n
  induction n with
  | zero => intro x l5 hs h; exact absurd h id
  | succ n ih =>
    intro x l5 hs h
    unfold k_X4_join_145 at h
    refine hv_iload E dX4_join_145 5 rfl ?_
    refine hv_aload_n E dX4_join_147 rfl 0 rfl ?_
    refine hv_getI (k := 0) E dX4_join_148 rfl rfl hiX4 (by decide) wd_417 rfl rfl ?_
    refine hv_icmp_ge (tgt := 203) E dX4_join_151 (by decide) (fun c8 => ?_) (fun c8 => ?_)
    · have h := h.1 c8
      refine hv_lv [0, 1, 2, 3, 4, 5] rfl ?_
      exact hK x l5 hs h
    · have h := h.2 c8
      refine hv_bipush (v := nI 24) E dX4_join_154 (by decide) ?_
      refine hv_iload_n E dX4_join_156 rfl 1 rfl ?_
      refine hv_imul (v := (nI 24) * a1) E dX4_join_157 rfl ?_
      refine hv_iload E dX4_join_158 5 rfl ?_
      refine hv_iadd (v := ((nI 24) * a1) + l5) E dX4_join_160 rfl ?_
      refine hv_istore (lv' := [(0, aR (20, 0)), (1, aI a1), (2, aI a2), (3, aI f3), (4, aI f4), (5, aI l5)]) E dX4_join_161 (by decide) rfl ?_
      refine hv_aload_n E dX4_join_163 rfl 1 rfl ?_
      refine hv_getR (k := 2) (t2 := (21, 0)) E dX4_join_164 rfl rfl hiX4 (by decide) wd_419 rfl rfl (hs _ _ _ rfl) ?_
      refine hv_iload E dX4_join_167 6 rfl ?_
      refine hv_aload_n E dX4_join_169 rfl 1 rfl ?_
      refine hv_getR (k := 6) (t2 := (24, 0)) E dX4_join_170 rfl rfl hiX4 (by decide) wd_423 rfl rfl (hs _ _ _ rfl) ?_
      refine hv_iload E dX4_join_173 0 rfl ?_
      obtain ⟨h9, h⟩ := h
      refine hv_zald E dX4_join_175 rfl (by decide) rfl h9 ?_
      refine hv_if_eq (tgt := 189) E dX4_join_176 (by decide) (fun c10 => ?_) (fun c10 => ?_)
      · have h := h.1 c10
        refine hv_aload_n E dX4_join_189 rfl 1 rfl ?_
        refine hv_getR (k := 2) (t2 := (21, 0)) E dX4_join_190 rfl rfl hiX4 (by decide) wd_419 rfl rfl (hs _ _ _ rfl) ?_
        refine hv_iload E dX4_join_193 6 rfl ?_
        obtain ⟨h11, h⟩ := h
        refine hv_lald E dX4_join_195 rfl (by decide) rfl h11 ?_
        obtain ⟨h12, h⟩ := h
        refine hv_last E dX4_join_196 rfl (by decide) rfl h12 ?_
        refine hv_iinc (v := l5 + nI 1) (lv' := [(6, aI (((nI 24) * a1) + l5)), (0, aR (20, 0)), (1, aI a1), (2, aI a2), (3, aI f3), (4, aI f4)]) E 6 dX4_join_197 rfl (hx_i1 _) (by decide) rfl ?_
        refine hv_goto (tgt := 145) E dX4_join_200 (by decide) ?_
        refine hv_lv [2, 3, 4, 5, 6, 0] rfl ?_
        exact ih (hp_uL x (21, 0) l5.toNatClampNeg (x.2.2.1 (21, 0) l5.toNatClampNeg)) (l5 + nI 1) hs h
      · have h := h.2 c10
        refine hv_aload_n E dX4_join_179 rfl 1 rfl ?_
        refine hv_getR (k := 8) (t2 := (26, 0)) E dX4_join_180 rfl rfl hiX4 (by decide) wd_425 rfl rfl (hs _ _ _ rfl) ?_
        refine hv_iload E dX4_join_183 0 rfl ?_
        obtain ⟨h13, h⟩ := h
        refine hv_lald E dX4_join_185 rfl (by decide) rfl h13 ?_
        refine hv_goto (tgt := 196) E dX4_join_186 (by decide) ?_
        obtain ⟨h14, h⟩ := h
        refine hv_last E dX4_join_196 rfl (by decide) rfl h14 ?_
        refine hv_iinc (v := l5 + nI 1) (lv' := [(6, aI (((nI 24) * a1) + l5)), (0, aR (20, 0)), (1, aI a1), (2, aI a2), (3, aI f3), (4, aI f4)]) E 6 dX4_join_197 rfl (hx_i1 _) (by decide) rfl ?_
        refine hv_goto (tgt := 145) E dX4_join_200 (by decide) ?_
        refine hv_lv [2, 3, 4, 5, 6, 0] rfl ?_
        exact ih (hp_uL x (21, 0) l5.toNatClampNeg (x.2.2.1 (26, 0) (((nI 24) * a1) + l5).toNatClampNeg)) (l5 + nI 1) hs h
set_option maxRecDepth 100000 in
set_option maxHeartbeats 4000000 in
theorem w_X4_join_32 {p : Program} {l : Launch} {e : Env} {s : State} {m : MethodId} {args : Array Value} {below : List Frame} {meth : Method} {c : Code} {D : va_G} {cA : Nat → ClassId} {B0 : Nat} {ad0 : hp_T → Nat} {x0 : hp_S} (E : hp_E p s m args meth c cX4_join 7 "VersionJoinsModel" hp_ws D cA B0) (hret : meth.sig.returnType = (Option.some Jvm.ClassFile.FieldType.int)) {P : Int32 → hp_S → Prop} (a1 : Int32) (a2 : Int32) : ∀ (n : Nat) (x : hp_S) (l3 : Int32) (l4 : Int32) (l5 : Int32), hp_sh x → k_X4_join_32 P a1 a2 n x l3 l4 l5 → hp_V p l e rm_X4_join s m args below meth c (fun ad0 => MQ below (hp_Q D cA B0 ad0 x0 (hp_pI P)) args s 0 0 (fun q => B0 ≤ q)) D cA B0 7 ad0 x0 0 0 x 32 [(0, aR (20, 0)), (1, aI a1), (2, aI a2), (3, aI l3), (4, aI l4), (5, aI l5)] [] := by
  intro n
  induction n with
  | zero => intro x l3 l4 l5 hs h; exact absurd h id
  | succ n ih =>
    intro x l3 l4 l5 hs h
    unfold k_X4_join_32 at h
    refine hv_iload E dX4_join_32 5 rfl ?_
    refine hv_aload_n E dX4_join_34 rfl 0 rfl ?_
    refine hv_getI (k := 0) E dX4_join_35 rfl rfl hiX4 (by decide) wd_417 rfl rfl ?_
    refine hv_icmp_ge (tgt := 124) E dX4_join_38 (by decide) (fun c5 => ?_) (fun c5 => ?_)
    · have h := h.1 c5
      refine hv_iload_n E dX4_join_124 rfl 3 rfl ?_
      refine hv_if_le (tgt := 135) E dX4_join_125 (by decide) (fun c6 => ?_) (fun c6 => ?_)
      · have h := h.1 c6
        refine hv_iload E dX4_join_135 4 rfl ?_
        refine hv_if_eq (tgt := 142) E dX4_join_137 (by decide) (fun c7 => ?_) (fun c7 => ?_)
        · have h := h.1 c7
          refine hv_iconst (v := nI 0) E dX4_join_142 (by decide) ?_
          refine hv_istore (lv' := [(0, aR (20, 0)), (1, aI a1), (2, aI a2), (3, aI l3), (4, aI l4)]) E dX4_join_143 (by decide) rfl ?_
          obtain ⟨n15, h⟩ := h
          refine hv_lv [1, 2, 3, 4, 5, 0] rfl ?_
          refine w_X4_join_145 E hret a1 a2 l3 l4 (K := _) (fun x_145 l5_145 hs h => ?_) n15 x (nI 0) hs h
          refine hv_aload_n E dX4_join_203 rfl 0 rfl ?_
          refine hv_getR (k := 4) (t2 := (22, 0)) E dX4_join_204 rfl rfl hiX4 (by decide) wd_421 rfl rfl (hs _ _ _ rfl) ?_
          refine hv_iload_n E dX4_join_207 rfl 1 rfl ?_
          refine hv_iconst (v := nI 0) E dX4_join_208 (by decide) ?_
          obtain ⟨h16, h⟩ := h
          refine hv_zast (w := nI 0) E dX4_join_209 rfl (by decide) rfl h16 (by decide) ?_
          refine hv_iconst (v := nI 0) E dX4_join_210 (by decide) ?_
          exact hv_iret E hret dX4_join_211 (Nat.le_of_ble_eq_true rfl) (Nat.le_of_ble_eq_true rfl) ⟨_, rfl, hs, h⟩
        · have h := h.2 c7
          refine hv_iconst (v := (-1 : Int32)) E dX4_join_140 (by decide) ?_
          exact hv_iret E hret dX4_join_141 (Nat.le_of_ble_eq_true rfl) (Nat.le_of_ble_eq_true rfl) ⟨_, rfl, hs, h⟩
      · have h := h.2 c6
        refine hv_aload_n E dX4_join_128 rfl 0 rfl ?_
        refine hv_iload_n E dX4_join_129 rfl 1 rfl ?_
        refine hv_VV E [aI a1] (c_X4_keepConflicts l _ a1 x hs h) (hp_cwV 1 E wd_590 wd_592 wd_30 wd_41 wd_593 rfl rfl (by decide +kernel) ⟨(Nat.le_of_ble_eq_true rfl), (Nat.le_of_ble_eq_true rfl)⟩) rfl rfl rfl rfl (Nat.le_of_ble_eq_true rfl) dX4_join_130 ⟨(Nat.le_of_ble_eq_true rfl), (Nat.le_of_ble_eq_true rfl)⟩ (fun x130 hs h => ?_)
        refine hv_iload_n E dX4_join_133 rfl 3 rfl ?_
        exact hv_iret E hret dX4_join_134 (Nat.le_of_ble_eq_true rfl) (Nat.le_of_ble_eq_true rfl) ⟨_, rfl, hs, h⟩
    · have h := h.2 c5
      refine hv_bipush (v := nI 24) E dX4_join_41 (by decide) ?_
      refine hv_iload_n E dX4_join_43 rfl 1 rfl ?_
      refine hv_imul (v := (nI 24) * a1) E dX4_join_44 rfl ?_
      refine hv_iload E dX4_join_45 5 rfl ?_
      refine hv_iadd (v := ((nI 24) * a1) + l5) E dX4_join_47 rfl ?_
      refine hv_istore (lv' := [(0, aR (20, 0)), (1, aI a1), (2, aI a2), (3, aI l3), (4, aI l4), (5, aI l5)]) E dX4_join_48 (by decide) rfl ?_
      refine hv_aload_n E dX4_join_50 rfl 1 rfl ?_
      refine hv_iload_n E dX4_join_51 rfl 2 rfl ?_
      refine hv_iload E dX4_join_52 6 rfl ?_
      refine hv_VI E [aI a1, aI l5] (c_X4_isConflict l _ a1 l5 x hs h) (hp_cwV 2 E wd_584 wd_586 wd_29 wd_41 wd_587 rfl rfl (by decide +kernel) ⟨(Nat.le_of_ble_eq_true rfl), (Nat.le_of_ble_eq_true rfl)⟩) rfl rfl rfl rfl (Nat.le_of_ble_eq_true rfl) dX4_join_54 ⟨(Nat.le_of_ble_eq_true rfl), (Nat.le_of_ble_eq_true rfl)⟩ (fun r54 x54 hs h => ?_)
      refine hv_if_eq (tgt := 66) E dX4_join_57 (by decide) (fun c17 => ?_) (fun c17 => ?_)
      · have h := h.1 c17
        refine hv_iload_n E dX4_join_66 rfl 4 rfl ?_
        refine hv_istore_n (lv' := [(6, aI (((nI 24) * a1) + l5)), (0, aR (20, 0)), (1, aI a1), (2, aI a2), (4, aI l4), (5, aI l5)]) E dX4_join_67 rfl (by decide) rfl ?_
        refine hv_iload E dX4_join_68 5 rfl ?_
        refine hv_if_ne (tgt := 111) E dX4_join_70 (by decide) (fun c18 => ?_) (fun c18 => ?_)
        · have h := h.1 c18
          refine hv_iconst (v := nI 1) E dX4_join_111 (by decide) ?_
          refine hv_goto (tgt := 116) E dX4_join_112 (by decide) ?_
          refine hv_istore (lv' := [(3, aI l3), (6, aI (((nI 24) * a1) + l5)), (0, aR (20, 0)), (1, aI a1), (2, aI a2), (5, aI l5)]) E dX4_join_116 (by decide) rfl ?_
          refine hv_iinc (v := l5 + nI 1) (lv' := [(4, aI (nI 1)), (3, aI l3), (6, aI (((nI 24) * a1) + l5)), (0, aR (20, 0)), (1, aI a1), (2, aI a2)]) E 6 dX4_join_118 rfl (hx_i1 _) (by decide) rfl ?_
          refine hv_goto (tgt := 32) E dX4_join_121 (by decide) ?_
          refine hv_lv [4, 5, 6, 2, 1, 0] rfl ?_
          exact ih x54 l3 (nI 1) (l5 + nI 1) hs h
        · have h := h.2 c18
          refine hv_aload_n E dX4_join_73 rfl 2 rfl ?_
          refine hv_getR (k := 6) (t2 := (24, 0)) E dX4_join_74 rfl rfl hiX4 (by decide) wd_423 rfl rfl (hs _ _ _ rfl) ?_
          refine hv_iload E dX4_join_77 1 rfl ?_
          obtain ⟨h19, h⟩ := h
          refine hv_zald E dX4_join_79 rfl (by decide) rfl h19 ?_
          refine hv_if_eq (tgt := 115) E dX4_join_80 (by decide) (fun c20 => ?_) (fun c20 => ?_)
          · have h := h.1 c20
            refine hv_iconst (v := nI 0) E dX4_join_115 (by decide) ?_
            refine hv_istore (lv' := [(3, aI l3), (6, aI (((nI 24) * a1) + l5)), (0, aR (20, 0)), (1, aI a1), (2, aI a2), (5, aI l5)]) E dX4_join_116 (by decide) rfl ?_
            refine hv_iinc (v := l5 + nI 1) (lv' := [(4, aI (nI 0)), (3, aI l3), (6, aI (((nI 24) * a1) + l5)), (0, aR (20, 0)), (1, aI a1), (2, aI a2)]) E 6 dX4_join_118 rfl (hx_i1 _) (by decide) rfl ?_
            refine hv_goto (tgt := 32) E dX4_join_121 (by decide) ?_
            refine hv_lv [4, 5, 6, 2, 1, 0] rfl ?_
            exact ih x54 l3 (nI 0) (l5 + nI 1) hs h
          · have h := h.2 c20
            refine hv_aload_n E dX4_join_83 rfl 2 rfl ?_
            refine hv_getR (k := 8) (t2 := (26, 0)) E dX4_join_84 rfl rfl hiX4 (by decide) wd_425 rfl rfl (hs _ _ _ rfl) ?_
            refine hv_iload E dX4_join_87 1 rfl ?_
            obtain ⟨h21, h⟩ := h
            refine hv_lald E dX4_join_89 rfl (by decide) rfl h21 ?_
            refine hv_ldc2 (v := 1000000000000) E wd_588 dX4_join_90 ?_
            refine hv_lcmp E dX4_join_93 ?_
            refine hv_if_gt (tgt := 111) E dX4_join_94 (by decide) (fun c22 => ?_) (fun c22 => ?_)
            · have h := h.1 c22
              refine hv_iconst (v := nI 1) E dX4_join_111 (by decide) ?_
              refine hv_goto (tgt := 116) E dX4_join_112 (by decide) ?_
              refine hv_istore (lv' := [(3, aI l3), (6, aI (((nI 24) * a1) + l5)), (0, aR (20, 0)), (1, aI a1), (2, aI a2), (5, aI l5)]) E dX4_join_116 (by decide) rfl ?_
              refine hv_iinc (v := l5 + nI 1) (lv' := [(4, aI (nI 1)), (3, aI l3), (6, aI (((nI 24) * a1) + l5)), (0, aR (20, 0)), (1, aI a1), (2, aI a2)]) E 6 dX4_join_118 rfl (hx_i1 _) (by decide) rfl ?_
              refine hv_goto (tgt := 32) E dX4_join_121 (by decide) ?_
              refine hv_lv [4, 5, 6, 2, 1, 0] rfl ?_
              exact ih x54 l3 (nI 1) (l5 + nI 1) hs h
            · have h := h.2 c22
              refine hv_aload_n E dX4_join_97 rfl 2 rfl ?_
              refine hv_getR (k := 8) (t2 := (26, 0)) E dX4_join_98 rfl rfl hiX4 (by decide) wd_425 rfl rfl (hs _ _ _ rfl) ?_
              refine hv_iload E dX4_join_101 1 rfl ?_
              obtain ⟨h23, h⟩ := h
              refine hv_lald E dX4_join_103 rfl (by decide) rfl h23 ?_
              refine hv_ldc2 (v := (-1000000000000)) E wd_589 dX4_join_104 ?_
              refine hv_lcmp E dX4_join_107 ?_
              refine hv_if_ge (tgt := 115) E dX4_join_108 (by decide) (fun c24 => ?_) (fun c24 => ?_)
              · have h := h.1 c24
                refine hv_iconst (v := nI 0) E dX4_join_115 (by decide) ?_
                refine hv_istore (lv' := [(3, aI l3), (6, aI (((nI 24) * a1) + l5)), (0, aR (20, 0)), (1, aI a1), (2, aI a2), (5, aI l5)]) E dX4_join_116 (by decide) rfl ?_
                refine hv_iinc (v := l5 + nI 1) (lv' := [(4, aI (nI 0)), (3, aI l3), (6, aI (((nI 24) * a1) + l5)), (0, aR (20, 0)), (1, aI a1), (2, aI a2)]) E 6 dX4_join_118 rfl (hx_i1 _) (by decide) rfl ?_
                refine hv_goto (tgt := 32) E dX4_join_121 (by decide) ?_
                refine hv_lv [4, 5, 6, 2, 1, 0] rfl ?_
                exact ih x54 l3 (nI 0) (l5 + nI 1) hs h
              · have h := h.2 c24
                refine hv_iconst (v := nI 1) E dX4_join_111 (by decide) ?_
                refine hv_goto (tgt := 116) E dX4_join_112 (by decide) ?_
                refine hv_istore (lv' := [(3, aI l3), (6, aI (((nI 24) * a1) + l5)), (0, aR (20, 0)), (1, aI a1), (2, aI a2), (5, aI l5)]) E dX4_join_116 (by decide) rfl ?_
                refine hv_iinc (v := l5 + nI 1) (lv' := [(4, aI (nI 1)), (3, aI l3), (6, aI (((nI 24) * a1) + l5)), (0, aR (20, 0)), (1, aI a1), (2, aI a2)]) E 6 dX4_join_118 rfl (hx_i1 _) (by decide) rfl ?_
                refine hv_goto (tgt := 32) E dX4_join_121 (by decide) ?_
                refine hv_lv [4, 5, 6, 2, 1, 0] rfl ?_
                exact ih x54 l3 (nI 1) (l5 + nI 1) hs h
      · have h := h.2 c17
        refine hv_iload_n E dX4_join_60 rfl 4 rfl ?_
        refine hv_iconst (v := nI 1) E dX4_join_61 (by decide) ?_
        refine hv_iadd (v := l3 + (nI 1)) E dX4_join_62 rfl ?_
        refine hv_goto (tgt := 67) E dX4_join_63 (by decide) ?_
        refine hv_istore_n (lv' := [(6, aI (((nI 24) * a1) + l5)), (0, aR (20, 0)), (1, aI a1), (2, aI a2), (4, aI l4), (5, aI l5)]) E dX4_join_67 rfl (by decide) rfl ?_
        refine hv_iload E dX4_join_68 5 rfl ?_
        refine hv_if_ne (tgt := 111) E dX4_join_70 (by decide) (fun c25 => ?_) (fun c25 => ?_)
        · have h := h.1 c25
          refine hv_iconst (v := nI 1) E dX4_join_111 (by decide) ?_
          refine hv_goto (tgt := 116) E dX4_join_112 (by decide) ?_
          refine hv_istore (lv' := [(3, aI (l3 + (nI 1))), (6, aI (((nI 24) * a1) + l5)), (0, aR (20, 0)), (1, aI a1), (2, aI a2), (5, aI l5)]) E dX4_join_116 (by decide) rfl ?_
          refine hv_iinc (v := l5 + nI 1) (lv' := [(4, aI (nI 1)), (3, aI (l3 + (nI 1))), (6, aI (((nI 24) * a1) + l5)), (0, aR (20, 0)), (1, aI a1), (2, aI a2)]) E 6 dX4_join_118 rfl (hx_i1 _) (by decide) rfl ?_
          refine hv_goto (tgt := 32) E dX4_join_121 (by decide) ?_
          refine hv_lv [4, 5, 6, 2, 1, 0] rfl ?_
          exact ih x54 (l3 + (nI 1)) (nI 1) (l5 + nI 1) hs h
        · have h := h.2 c25
          refine hv_aload_n E dX4_join_73 rfl 2 rfl ?_
          refine hv_getR (k := 6) (t2 := (24, 0)) E dX4_join_74 rfl rfl hiX4 (by decide) wd_423 rfl rfl (hs _ _ _ rfl) ?_
          refine hv_iload E dX4_join_77 1 rfl ?_
          obtain ⟨h26, h⟩ := h
          refine hv_zald E dX4_join_79 rfl (by decide) rfl h26 ?_
          refine hv_if_eq (tgt := 115) E dX4_join_80 (by decide) (fun c27 => ?_) (fun c27 => ?_)
          · have h := h.1 c27
            refine hv_iconst (v := nI 0) E dX4_join_115 (by decide) ?_
            refine hv_istore (lv' := [(3, aI (l3 + (nI 1))), (6, aI (((nI 24) * a1) + l5)), (0, aR (20, 0)), (1, aI a1), (2, aI a2), (5, aI l5)]) E dX4_join_116 (by decide) rfl ?_
            refine hv_iinc (v := l5 + nI 1) (lv' := [(4, aI (nI 0)), (3, aI (l3 + (nI 1))), (6, aI (((nI 24) * a1) + l5)), (0, aR (20, 0)), (1, aI a1), (2, aI a2)]) E 6 dX4_join_118 rfl (hx_i1 _) (by decide) rfl ?_
            refine hv_goto (tgt := 32) E dX4_join_121 (by decide) ?_
            refine hv_lv [4, 5, 6, 2, 1, 0] rfl ?_
            exact ih x54 (l3 + (nI 1)) (nI 0) (l5 + nI 1) hs h
          · have h := h.2 c27
            refine hv_aload_n E dX4_join_83 rfl 2 rfl ?_
            refine hv_getR (k := 8) (t2 := (26, 0)) E dX4_join_84 rfl rfl hiX4 (by decide) wd_425 rfl rfl (hs _ _ _ rfl) ?_
            refine hv_iload E dX4_join_87 1 rfl ?_
            obtain ⟨h28, h⟩ := h
            refine hv_lald E dX4_join_89 rfl (by decide) rfl h28 ?_
            refine hv_ldc2 (v := 1000000000000) E wd_588 dX4_join_90 ?_
            refine hv_lcmp E dX4_join_93 ?_
            refine hv_if_gt (tgt := 111) E dX4_join_94 (by decide) (fun c29 => ?_) (fun c29 => ?_)
            · have h := h.1 c29
              refine hv_iconst (v := nI 1) E dX4_join_111 (by decide) ?_
              refine hv_goto (tgt := 116) E dX4_join_112 (by decide) ?_
              refine hv_istore (lv' := [(3, aI (l3 + (nI 1))), (6, aI (((nI 24) * a1) + l5)), (0, aR (20, 0)), (1, aI a1), (2, aI a2), (5, aI l5)]) E dX4_join_116 (by decide) rfl ?_
              refine hv_iinc (v := l5 + nI 1) (lv' := [(4, aI (nI 1)), (3, aI (l3 + (nI 1))), (6, aI (((nI 24) * a1) + l5)), (0, aR (20, 0)), (1, aI a1), (2, aI a2)]) E 6 dX4_join_118 rfl (hx_i1 _) (by decide) rfl ?_
              refine hv_goto (tgt := 32) E dX4_join_121 (by decide) ?_
              refine hv_lv [4, 5, 6, 2, 1, 0] rfl ?_
              exact ih x54 (l3 + (nI 1)) (nI 1) (l5 + nI 1) hs h
            · have h := h.2 c29
              refine hv_aload_n E dX4_join_97 rfl 2 rfl ?_
              refine hv_getR (k := 8) (t2 := (26, 0)) E dX4_join_98 rfl rfl hiX4 (by decide) wd_425 rfl rfl (hs _ _ _ rfl) ?_
              refine hv_iload E dX4_join_101 1 rfl ?_
              obtain ⟨h30, h⟩ := h
              refine hv_lald E dX4_join_103 rfl (by decide) rfl h30 ?_
              refine hv_ldc2 (v := (-1000000000000)) E wd_589 dX4_join_104 ?_
              refine hv_lcmp E dX4_join_107 ?_
              refine hv_if_ge (tgt := 115) E dX4_join_108 (by decide) (fun c31 => ?_) (fun c31 => ?_)
              · have h := h.1 c31
                refine hv_iconst (v := nI 0) E dX4_join_115 (by decide) ?_
                refine hv_istore (lv' := [(3, aI (l3 + (nI 1))), (6, aI (((nI 24) * a1) + l5)), (0, aR (20, 0)), (1, aI a1), (2, aI a2), (5, aI l5)]) E dX4_join_116 (by decide) rfl ?_
                refine hv_iinc (v := l5 + nI 1) (lv' := [(4, aI (nI 0)), (3, aI (l3 + (nI 1))), (6, aI (((nI 24) * a1) + l5)), (0, aR (20, 0)), (1, aI a1), (2, aI a2)]) E 6 dX4_join_118 rfl (hx_i1 _) (by decide) rfl ?_
                refine hv_goto (tgt := 32) E dX4_join_121 (by decide) ?_
                refine hv_lv [4, 5, 6, 2, 1, 0] rfl ?_
                exact ih x54 (l3 + (nI 1)) (nI 0) (l5 + nI 1) hs h
              · have h := h.2 c31
                refine hv_iconst (v := nI 1) E dX4_join_111 (by decide) ?_
                refine hv_goto (tgt := 116) E dX4_join_112 (by decide) ?_
                refine hv_istore (lv' := [(3, aI (l3 + (nI 1))), (6, aI (((nI 24) * a1) + l5)), (0, aR (20, 0)), (1, aI a1), (2, aI a2), (5, aI l5)]) E dX4_join_116 (by decide) rfl ?_
                refine hv_iinc (v := l5 + nI 1) (lv' := [(4, aI (nI 1)), (3, aI (l3 + (nI 1))), (6, aI (((nI 24) * a1) + l5)), (0, aR (20, 0)), (1, aI a1), (2, aI a2)]) E 6 dX4_join_118 rfl (hx_i1 _) (by decide) rfl ?_
                refine hv_goto (tgt := 32) E dX4_join_121 (by decide) ?_
                refine hv_lv [4, 5, 6, 2, 1, 0] rfl ?_
                exact ih x54 (l3 + (nI 1)) (nI 1) (l5 + nI 1) hs h
set_option maxRecDepth 100000 in
set_option maxHeartbeats 4000000 in
theorem c_X4_join (l : Launch) (P : Int32 → hp_S → Prop) (a1 : Int32) (a2 : Int32) (x : hp_S) (hs : hp_sh x) (h : k_X4_join P a1 a2 x) : hp_C l yX4_join (Cond.code yX4_join cX4_join 7 (Option.some Jvm.ClassFile.FieldType.int) :: hp_ws) rm_X4_join [aR (20, 0), aI a1, aI a2] x (hp_pI P) 0 0 := by
  refine hp_ofV (own := "VersionJoinsModel") (lv := [(0, aR (20, 0)), (1, aI a1), (2, aI a2)]) (by decide) rfl (Nat.le_of_ble_eq_true rfl) rfl ?_
  intro p e s m args below meth c D cA B0 ad0 E hret hnm
  unfold k_X4_join at h
  refine hv_iload_n E dX4_join_0 rfl 1 rfl ?_
  refine hv_if_lt (tgt := 21) E dX4_join_1 (by decide) (fun c1 => ?_) (fun c1 => ?_)
  · have h := h.1 c1
    refine hv_bipush (v := (-2 : Int32)) E dX4_join_21 (by decide) ?_
    exact hv_iret E hret dX4_join_23 (Nat.le_of_ble_eq_true rfl) (Nat.le_of_ble_eq_true rfl) ⟨_, rfl, hs, h⟩
  · have h := h.2 c1
    refine hv_iload_n E dX4_join_4 rfl 1 rfl ?_
    refine hv_aload_n E dX4_join_5 rfl 0 rfl ?_
    refine hv_getI (k := 3) E dX4_join_6 rfl rfl hiX4 (by decide) wd_420 rfl rfl ?_
    refine hv_icmp_ge (tgt := 21) E dX4_join_9 (by decide) (fun c2 => ?_) (fun c2 => ?_)
    · have h := h.1 c2
      refine hv_bipush (v := (-2 : Int32)) E dX4_join_21 (by decide) ?_
      exact hv_iret E hret dX4_join_23 (Nat.le_of_ble_eq_true rfl) (Nat.le_of_ble_eq_true rfl) ⟨_, rfl, hs, h⟩
    · have h := h.2 c2
      refine hv_aload_n E dX4_join_12 rfl 0 rfl ?_
      refine hv_getR (k := 4) (t2 := (22, 0)) E dX4_join_13 rfl rfl hiX4 (by decide) wd_421 rfl rfl (hs _ _ _ rfl) ?_
      refine hv_iload_n E dX4_join_16 rfl 1 rfl ?_
      obtain ⟨h3, h⟩ := h
      refine hv_zald E dX4_join_17 rfl (by decide) rfl h3 ?_
      refine hv_if_ne (tgt := 24) E dX4_join_18 (by decide) (fun c4 => ?_) (fun c4 => ?_)
      · have h := h.1 c4
        refine hv_iconst (v := nI 0) E dX4_join_24 (by decide) ?_
        refine hv_istore_n (lv' := [(0, aR (20, 0)), (1, aI a1), (2, aI a2)]) E dX4_join_25 rfl (by decide) rfl ?_
        refine hv_iload_n E dX4_join_26 rfl 3 rfl ?_
        refine hv_istore (lv' := [(3, aI (nI 0)), (0, aR (20, 0)), (1, aI a1), (2, aI a2)]) E dX4_join_27 (by decide) rfl ?_
        refine hv_iconst (v := nI 0) E dX4_join_29 (by decide) ?_
        refine hv_istore (lv' := [(4, aI a2), (3, aI (nI 0)), (0, aR (20, 0)), (1, aI a1), (2, aI a2)]) E dX4_join_30 (by decide) rfl ?_
        obtain ⟨n32, h⟩ := h
        refine hv_lv [3, 4, 5, 2, 1, 0] rfl ?_
        exact w_X4_join_32 E hret a1 a2 n32 x (nI 0) a2 (nI 0) hs h
      · have h := h.2 c4
        refine hv_bipush (v := (-2 : Int32)) E dX4_join_21 (by decide) ?_
        exact hv_iret E hret dX4_join_23 (Nat.le_of_ble_eq_true rfl) (Nat.le_of_ble_eq_true rfl) ⟨_, rfl, hs, h⟩
-- VersionJoinsModel.conflict(II)J
def k_X4_conflict (P : Int64 → hp_S → Prop) (a1 : Int32) (a2 : Int32) (x : hp_S) : Prop := (a1 < 0 → (P (-1) x)) ∧ (¬ a1 < 0 → ((a1 < (x.2.1 (20, 0) 9) → ((¬ a2 = 0 → ((¬ a2 = (nI 1) → ((¬ a2 = (nI 2) → (P (-2) x)) ∧ (a2 = (nI 2) → (vp_in a1 24 ∧ (P (x.2.2.1 (29, 0) a1.toNatClampNeg) x))))) ∧ (a2 = (nI 1) → (vp_in a1 24 ∧ (P (x.2.2.1 (28, 0) a1.toNatClampNeg) x))))) ∧ (a2 = 0 → (vp_in a1 24 ∧ (P ((x.2.1 (27, 0) a1.toNatClampNeg).toInt64) x))))) ∧ (¬ a1 < (x.2.1 (20, 0) 9) → (P (-1) x))))
abbrev rm_X4_conflict : Room := ({ frames := 0, cells := 0, slots := 0, locals := 0 } : Room)
set_option maxRecDepth 100000 in
set_option maxHeartbeats 4000000 in
theorem c_X4_conflict (l : Launch) (P : Int64 → hp_S → Prop) (a1 : Int32) (a2 : Int32) (x : hp_S) (hs : hp_sh x) (h : k_X4_conflict P a1 a2 x) : hp_C l yX4_conflict (Cond.code yX4_conflict cX4_conflict 3 (Option.some Jvm.ClassFile.FieldType.long) :: hp_ws) rm_X4_conflict [aR (20, 0), aI a1, aI a2] x (hp_pL P) 0 0 := by
  refine hp_ofV (own := "VersionJoinsModel") (lv := [(0, aR (20, 0)), (1, aI a1), (2, aI a2)]) (by decide) rfl (Nat.le_of_ble_eq_true rfl) rfl ?_
  intro p e s m args below meth c D cA B0 ad0 E hret hnm
  unfold k_X4_conflict at h
  refine hv_iload_n E dX4_conflict_0 rfl 1 rfl ?_
  refine hv_if_lt (tgt := 12) E dX4_conflict_1 (by decide) (fun c1 => ?_) (fun c1 => ?_)
  · have h := h.1 c1
    refine hv_ldc2 (v := (-1)) E wd_598 dX4_conflict_12 ?_
    exact hv_lret E hret dX4_conflict_15 (Nat.le_of_ble_eq_true rfl) (Nat.le_of_ble_eq_true rfl) ⟨_, rfl, hs, h⟩
  · have h := h.2 c1
    refine hv_iload_n E dX4_conflict_4 rfl 1 rfl ?_
    refine hv_aload_n E dX4_conflict_5 rfl 0 rfl ?_
    refine hv_getI (k := 9) E dX4_conflict_6 rfl rfl hiX4 (by decide) wd_426 rfl rfl ?_
    refine hv_icmp_lt (tgt := 16) E dX4_conflict_9 (by decide) (fun c2 => ?_) (fun c2 => ?_)
    · have h := h.1 c2
      refine hv_iload_n E dX4_conflict_16 rfl 2 rfl ?_
      refine hv_if_ne (tgt := 30) E dX4_conflict_17 (by decide) (fun c3 => ?_) (fun c3 => ?_)
      · have h := h.1 c3
        refine hv_iload_n E dX4_conflict_30 rfl 2 rfl ?_
        refine hv_iconst (v := nI 1) E dX4_conflict_31 (by decide) ?_
        refine hv_icmp_ne (tgt := 44) E dX4_conflict_32 (by decide) (fun c4 => ?_) (fun c4 => ?_)
        · have h := h.1 c4
          refine hv_iload_n E dX4_conflict_44 rfl 2 rfl ?_
          refine hv_iconst (v := nI 2) E dX4_conflict_45 (by decide) ?_
          refine hv_icmp_ne (tgt := 58) E dX4_conflict_46 (by decide) (fun c5 => ?_) (fun c5 => ?_)
          · have h := h.1 c5
            refine hv_ldc2 (v := (-2)) E wd_599 dX4_conflict_58 ?_
            exact hv_lret E hret dX4_conflict_61 (Nat.le_of_ble_eq_true rfl) (Nat.le_of_ble_eq_true rfl) ⟨_, rfl, hs, h⟩
          · have h := h.2 c5
            refine hv_aload_n E dX4_conflict_49 rfl 0 rfl ?_
            refine hv_getR (k := 13) (t2 := (29, 0)) E dX4_conflict_50 rfl rfl hiX4 (by decide) wd_430 rfl rfl (hs _ _ _ rfl) ?_
            refine hv_iload_n E dX4_conflict_53 rfl 1 rfl ?_
            obtain ⟨h6, h⟩ := h
            refine hv_lald E dX4_conflict_54 rfl (by decide) rfl h6 ?_
            refine hv_goto (tgt := 61) E dX4_conflict_55 (by decide) ?_
            exact hv_lret E hret dX4_conflict_61 (Nat.le_of_ble_eq_true rfl) (Nat.le_of_ble_eq_true rfl) ⟨_, rfl, hs, h⟩
        · have h := h.2 c4
          refine hv_aload_n E dX4_conflict_35 rfl 0 rfl ?_
          refine hv_getR (k := 12) (t2 := (28, 0)) E dX4_conflict_36 rfl rfl hiX4 (by decide) wd_429 rfl rfl (hs _ _ _ rfl) ?_
          refine hv_iload_n E dX4_conflict_39 rfl 1 rfl ?_
          obtain ⟨h7, h⟩ := h
          refine hv_lald E dX4_conflict_40 rfl (by decide) rfl h7 ?_
          refine hv_goto (tgt := 61) E dX4_conflict_41 (by decide) ?_
          exact hv_lret E hret dX4_conflict_61 (Nat.le_of_ble_eq_true rfl) (Nat.le_of_ble_eq_true rfl) ⟨_, rfl, hs, h⟩
      · have h := h.2 c3
        refine hv_aload_n E dX4_conflict_20 rfl 0 rfl ?_
        refine hv_getR (k := 11) (t2 := (27, 0)) E dX4_conflict_21 rfl rfl hiX4 (by decide) wd_428 rfl rfl (hs _ _ _ rfl) ?_
        refine hv_iload_n E dX4_conflict_24 rfl 1 rfl ?_
        obtain ⟨h8, h⟩ := h
        refine hv_iald E dX4_conflict_25 rfl (by decide) rfl h8 ?_
        refine hv_i2l (v := (x.2.1 (27, 0) a1.toNatClampNeg).toInt64) E dX4_conflict_26 rfl ?_
        refine hv_goto (tgt := 61) E dX4_conflict_27 (by decide) ?_
        exact hv_lret E hret dX4_conflict_61 (Nat.le_of_ble_eq_true rfl) (Nat.le_of_ble_eq_true rfl) ⟨_, rfl, hs, h⟩
    · have h := h.2 c2
      refine hv_ldc2 (v := (-1)) E wd_598 dX4_conflict_12 ?_
      exact hv_lret E hret dX4_conflict_15 (Nat.le_of_ble_eq_true rfl) (Nat.le_of_ble_eq_true rfl) ⟨_, rfl, hs, h⟩
-- VersionJoinsModel.settle(II)Z
def k_X4_settle (P : Int32 → hp_S → Prop) (a1 : Int32) (a2 : Int32) (x : hp_S) : Prop := (a1 < 0 → (P (nI 0) x)) ∧ (¬ a1 < 0 → (((x.2.1 (20, 0) 9) ≤ a1 → (P (nI 0) x)) ∧ (¬ (x.2.1 (20, 0) 9) ≤ a1 → ((a2 < 0 → (P (nI 0) x)) ∧ (¬ a2 < 0 → (((nI 1) < a2 → (P (nI 0) x)) ∧ (¬ (nI 1) < a2 → (vp_in a1 24 ∧ ((¬ (x.2.1 (30, 0) a1.toNatClampNeg) = 0 → (P (nI 0) x)) ∧ ((x.2.1 (30, 0) a1.toNatClampNeg) = 0 → (vp_in (x.2.1 (20, 0) 10) 40 ∧ ((¬ (x.2.1 (22, 0) (x.2.1 (20, 0) 10).toNatClampNeg) = 0 → (vp_in a1 24 ∧ (vp_in a1 24 ∧ (vp_in a1 24 ∧ (vp_in (((nI 24) * (x.2.1 (20, 0) 10)) + (x.2.1 (27, 0) a1.toNatClampNeg)) 960 ∧ (vp_in (((nI 24) * (x.2.1 (20, 0) 10)) + (x.2.1 (27, 0) a1.toNatClampNeg)) 960 ∧ ((((hp_uL (hp_uI x (30, 0) a1.toNatClampNeg (nI 1)) (25, 0) ((((nI 24) * (x.2.1 (20, 0) 10)) + (x.2.1 (27, 0) a1.toNatClampNeg)).toNatClampNeg) ((hp_uI x (30, 0) a1.toNatClampNeg (nI 1)).2.2.1 (29, 0) a1.toNatClampNeg)).2.1 (24, 0) (((nI 24) * (x.2.1 (20, 0) 10)) + (x.2.1 (27, 0) a1.toNatClampNeg)).toNatClampNeg) = 0 → (vp_in (((nI 24) * (x.2.1 (20, 0) 10)) + (x.2.1 (27, 0) a1.toNatClampNeg)) 960 ∧ (P (nI 1) (hp_uI (hp_uL (hp_uI x (30, 0) a1.toNatClampNeg (nI 1)) (25, 0) ((((nI 24) * (x.2.1 (20, 0) 10)) + (x.2.1 (27, 0) a1.toNatClampNeg)).toNatClampNeg) ((hp_uI x (30, 0) a1.toNatClampNeg (nI 1)).2.2.1 (29, 0) a1.toNatClampNeg)) (24, 0) ((((nI 24) * (x.2.1 (20, 0) 10)) + (x.2.1 (27, 0) a1.toNatClampNeg)).toNatClampNeg) (nI 0))))) ∧ (¬ ((hp_uL (hp_uI x (30, 0) a1.toNatClampNeg (nI 1)) (25, 0) ((((nI 24) * (x.2.1 (20, 0) 10)) + (x.2.1 (27, 0) a1.toNatClampNeg)).toNatClampNeg) ((hp_uI x (30, 0) a1.toNatClampNeg (nI 1)).2.2.1 (29, 0) a1.toNatClampNeg)).2.1 (24, 0) (((nI 24) * (x.2.1 (20, 0) 10)) + (x.2.1 (27, 0) a1.toNatClampNeg)).toNatClampNeg) = 0 → ((¬ a2 = 0 → (vp_in (((nI 24) * (x.2.1 (20, 0) 10)) + (x.2.1 (27, 0) a1.toNatClampNeg)) 960 ∧ (P (nI 1) (hp_uI (hp_uL (hp_uI x (30, 0) a1.toNatClampNeg (nI 1)) (25, 0) ((((nI 24) * (x.2.1 (20, 0) 10)) + (x.2.1 (27, 0) a1.toNatClampNeg)).toNatClampNeg) ((hp_uI x (30, 0) a1.toNatClampNeg (nI 1)).2.2.1 (29, 0) a1.toNatClampNeg)) (24, 0) ((((nI 24) * (x.2.1 (20, 0) 10)) + (x.2.1 (27, 0) a1.toNatClampNeg)).toNatClampNeg) (nI 0))))) ∧ (a2 = 0 → (vp_in (((nI 24) * (x.2.1 (20, 0) 10)) + (x.2.1 (27, 0) a1.toNatClampNeg)) 960 ∧ (P (nI 1) (hp_uI (hp_uL (hp_uI x (30, 0) a1.toNatClampNeg (nI 1)) (25, 0) ((((nI 24) * (x.2.1 (20, 0) 10)) + (x.2.1 (27, 0) a1.toNatClampNeg)).toNatClampNeg) ((hp_uI x (30, 0) a1.toNatClampNeg (nI 1)).2.2.1 (29, 0) a1.toNatClampNeg)) (24, 0) ((((nI 24) * (x.2.1 (20, 0) 10)) + (x.2.1 (27, 0) a1.toNatClampNeg)).toNatClampNeg) (nI 1)))))))))))))) ∧ ((x.2.1 (22, 0) (x.2.1 (20, 0) 10).toNatClampNeg) = 0 → (P (nI 0) x))))))))))))))
abbrev rm_X4_settle : Room := ({ frames := 0, cells := 0, slots := 0, locals := 0 } : Room)
set_option maxRecDepth 100000 in
set_option maxHeartbeats 4000000 in
theorem c_X4_settle (l : Launch) (P : Int32 → hp_S → Prop) (a1 : Int32) (a2 : Int32) (x : hp_S) (hs : hp_sh x) (h : k_X4_settle P a1 a2 x) : hp_C l yX4_settle (Cond.code yX4_settle cX4_settle 4 (Option.some Jvm.ClassFile.FieldType.boolean) :: hp_ws) rm_X4_settle [aR (20, 0), aI a1, aI a2] x (hp_pI P) 0 0 := by
  refine hp_ofV (own := "VersionJoinsModel") (lv := [(0, aR (20, 0)), (1, aI a1), (2, aI a2)]) (by decide) rfl (Nat.le_of_ble_eq_true rfl) rfl ?_
  intro p e s m args below meth c D cA B0 ad0 E hret hnm
  unfold k_X4_settle at h
  refine hv_iload_n E dX4_settle_0 rfl 1 rfl ?_
  refine hv_if_lt (tgt := 42) E dX4_settle_1 (by decide) (fun c1 => ?_) (fun c1 => ?_)
  · have h := h.1 c1
    refine hv_iconst (v := nI 0) E dX4_settle_42 (by decide) ?_
    exact hv_zret E hret dX4_settle_43 (by decide) (Nat.le_of_ble_eq_true rfl) (Nat.le_of_ble_eq_true rfl) ⟨_, rfl, hs, h⟩
  · have h := h.2 c1
    refine hv_iload_n E dX4_settle_4 rfl 1 rfl ?_
    refine hv_aload_n E dX4_settle_5 rfl 0 rfl ?_
    refine hv_getI (k := 9) E dX4_settle_6 rfl rfl hiX4 (by decide) wd_426 rfl rfl ?_
    refine hv_icmp_ge (tgt := 42) E dX4_settle_9 (by decide) (fun c2 => ?_) (fun c2 => ?_)
    · have h := h.1 c2
      refine hv_iconst (v := nI 0) E dX4_settle_42 (by decide) ?_
      exact hv_zret E hret dX4_settle_43 (by decide) (Nat.le_of_ble_eq_true rfl) (Nat.le_of_ble_eq_true rfl) ⟨_, rfl, hs, h⟩
    · have h := h.2 c2
      refine hv_iload_n E dX4_settle_12 rfl 2 rfl ?_
      refine hv_if_lt (tgt := 42) E dX4_settle_13 (by decide) (fun c3 => ?_) (fun c3 => ?_)
      · have h := h.1 c3
        refine hv_iconst (v := nI 0) E dX4_settle_42 (by decide) ?_
        exact hv_zret E hret dX4_settle_43 (by decide) (Nat.le_of_ble_eq_true rfl) (Nat.le_of_ble_eq_true rfl) ⟨_, rfl, hs, h⟩
      · have h := h.2 c3
        refine hv_iload_n E dX4_settle_16 rfl 2 rfl ?_
        refine hv_iconst (v := nI 1) E dX4_settle_17 (by decide) ?_
        refine hv_icmp_gt (tgt := 42) E dX4_settle_18 (by decide) (fun c4 => ?_) (fun c4 => ?_)
        · have h := h.1 c4
          refine hv_iconst (v := nI 0) E dX4_settle_42 (by decide) ?_
          exact hv_zret E hret dX4_settle_43 (by decide) (Nat.le_of_ble_eq_true rfl) (Nat.le_of_ble_eq_true rfl) ⟨_, rfl, hs, h⟩
        · have h := h.2 c4
          refine hv_aload_n E dX4_settle_21 rfl 0 rfl ?_
          refine hv_getR (k := 14) (t2 := (30, 0)) E dX4_settle_22 rfl rfl hiX4 (by decide) wd_431 rfl rfl (hs _ _ _ rfl) ?_
          refine hv_iload_n E dX4_settle_25 rfl 1 rfl ?_
          obtain ⟨h5, h⟩ := h
          refine hv_zald E dX4_settle_26 rfl (by decide) rfl h5 ?_
          refine hv_if_ne (tgt := 42) E dX4_settle_27 (by decide) (fun c6 => ?_) (fun c6 => ?_)
          · have h := h.1 c6
            refine hv_iconst (v := nI 0) E dX4_settle_42 (by decide) ?_
            exact hv_zret E hret dX4_settle_43 (by decide) (Nat.le_of_ble_eq_true rfl) (Nat.le_of_ble_eq_true rfl) ⟨_, rfl, hs, h⟩
          · have h := h.2 c6
            refine hv_aload_n E dX4_settle_30 rfl 0 rfl ?_
            refine hv_getR (k := 4) (t2 := (22, 0)) E dX4_settle_31 rfl rfl hiX4 (by decide) wd_421 rfl rfl (hs _ _ _ rfl) ?_
            refine hv_aload_n E dX4_settle_34 rfl 0 rfl ?_
            refine hv_getI (k := 10) E dX4_settle_35 rfl rfl hiX4 (by decide) wd_427 rfl rfl ?_
            obtain ⟨h7, h⟩ := h
            refine hv_zald E dX4_settle_38 rfl (by decide) rfl h7 ?_
            refine hv_if_ne (tgt := 44) E dX4_settle_39 (by decide) (fun c8 => ?_) (fun c8 => ?_)
            · have h := h.1 c8
              refine hv_bipush (v := nI 24) E dX4_settle_44 (by decide) ?_
              refine hv_aload_n E dX4_settle_46 rfl 0 rfl ?_
              refine hv_getI (k := 10) E dX4_settle_47 rfl rfl hiX4 (by decide) wd_427 rfl rfl ?_
              refine hv_imul (v := (nI 24) * (x.2.1 (20, 0) 10)) E dX4_settle_50 rfl ?_
              refine hv_aload_n E dX4_settle_51 rfl 0 rfl ?_
              refine hv_getR (k := 11) (t2 := (27, 0)) E dX4_settle_52 rfl rfl hiX4 (by decide) wd_428 rfl rfl (hs _ _ _ rfl) ?_
              refine hv_iload_n E dX4_settle_55 rfl 1 rfl ?_
              obtain ⟨h9, h⟩ := h
              refine hv_iald E dX4_settle_56 rfl (by decide) rfl h9 ?_
              refine hv_iadd (v := ((nI 24) * (x.2.1 (20, 0) 10)) + (x.2.1 (27, 0) a1.toNatClampNeg)) E dX4_settle_57 rfl ?_
              refine hv_istore_n (lv' := [(0, aR (20, 0)), (1, aI a1), (2, aI a2)]) E dX4_settle_58 rfl (by decide) rfl ?_
              refine hv_aload_n E dX4_settle_59 rfl 1 rfl ?_
              refine hv_getR (k := 14) (t2 := (30, 0)) E dX4_settle_60 rfl rfl hiX4 (by decide) wd_431 rfl rfl (hs _ _ _ rfl) ?_
              refine hv_iload_n E dX4_settle_63 rfl 2 rfl ?_
              refine hv_iconst (v := nI 1) E dX4_settle_64 (by decide) ?_
              obtain ⟨h10, h⟩ := h
              refine hv_zast (w := nI 1) E dX4_settle_65 rfl (by decide) rfl h10 (by decide) ?_
              refine hv_aload_n E dX4_settle_66 rfl 1 rfl ?_
              refine hv_getR (k := 7) (t2 := (25, 0)) E dX4_settle_67 rfl rfl hiX4 (by decide) wd_424 rfl rfl (hs _ _ _ rfl) ?_
              refine hv_iload_n E dX4_settle_70 rfl 0 rfl ?_
              refine hv_aload_n E dX4_settle_71 rfl 1 rfl ?_
              refine hv_getR (k := 13) (t2 := (29, 0)) E dX4_settle_72 rfl rfl hiX4 (by decide) wd_430 rfl rfl (hs _ _ _ rfl) ?_
              refine hv_iload_n E dX4_settle_75 rfl 2 rfl ?_
              obtain ⟨h11, h⟩ := h
              refine hv_lald E dX4_settle_76 rfl (by decide) rfl h11 ?_
              obtain ⟨h12, h⟩ := h
              refine hv_last E dX4_settle_77 rfl (by decide) rfl h12 ?_
              refine hv_aload_n E dX4_settle_78 rfl 1 rfl ?_
              refine hv_getR (k := 6) (t2 := (24, 0)) E dX4_settle_79 rfl rfl hiX4 (by decide) wd_423 rfl rfl (hs _ _ _ rfl) ?_
              refine hv_iload_n E dX4_settle_82 rfl 0 rfl ?_
              refine hv_aload_n E dX4_settle_83 rfl 1 rfl ?_
              refine hv_getR (k := 6) (t2 := (24, 0)) E dX4_settle_84 rfl rfl hiX4 (by decide) wd_423 rfl rfl (hs _ _ _ rfl) ?_
              refine hv_iload_n E dX4_settle_87 rfl 0 rfl ?_
              obtain ⟨h13, h⟩ := h
              refine hv_zald E dX4_settle_88 rfl (by decide) rfl h13 ?_
              refine hv_if_eq (tgt := 100) E dX4_settle_89 (by decide) (fun c14 => ?_) (fun c14 => ?_)
              · have h := h.1 c14
                refine hv_iconst (v := nI 0) E dX4_settle_100 (by decide) ?_
                obtain ⟨h15, h⟩ := h
                refine hv_zast (w := nI 0) E dX4_settle_101 rfl (by decide) rfl h15 (by decide) ?_
                refine hv_iconst (v := nI 1) E dX4_settle_102 (by decide) ?_
                exact hv_zret E hret dX4_settle_103 (by decide) (Nat.le_of_ble_eq_true rfl) (Nat.le_of_ble_eq_true rfl) ⟨_, rfl, hs, h⟩
              · have h := h.2 c14
                refine hv_iload_n E dX4_settle_92 rfl 3 rfl ?_
                refine hv_if_ne (tgt := 100) E dX4_settle_93 (by decide) (fun c16 => ?_) (fun c16 => ?_)
                · have h := h.1 c16
                  refine hv_iconst (v := nI 0) E dX4_settle_100 (by decide) ?_
                  obtain ⟨h17, h⟩ := h
                  refine hv_zast (w := nI 0) E dX4_settle_101 rfl (by decide) rfl h17 (by decide) ?_
                  refine hv_iconst (v := nI 1) E dX4_settle_102 (by decide) ?_
                  exact hv_zret E hret dX4_settle_103 (by decide) (Nat.le_of_ble_eq_true rfl) (Nat.le_of_ble_eq_true rfl) ⟨_, rfl, hs, h⟩
                · have h := h.2 c16
                  refine hv_iconst (v := nI 1) E dX4_settle_96 (by decide) ?_
                  refine hv_goto (tgt := 101) E dX4_settle_97 (by decide) ?_
                  obtain ⟨h18, h⟩ := h
                  refine hv_zast (w := nI 1) E dX4_settle_101 rfl (by decide) rfl h18 (by decide) ?_
                  refine hv_iconst (v := nI 1) E dX4_settle_102 (by decide) ?_
                  exact hv_zret E hret dX4_settle_103 (by decide) (Nat.le_of_ble_eq_true rfl) (Nat.le_of_ble_eq_true rfl) ⟨_, rfl, hs, h⟩
            · have h := h.2 c8
              refine hv_iconst (v := nI 0) E dX4_settle_42 (by decide) ?_
              exact hv_zret E hret dX4_settle_43 (by decide) (Nat.le_of_ble_eq_true rfl) (Nat.le_of_ble_eq_true rfl) ⟨_, rfl, hs, h⟩
-- VersionJoinsModel.isOff(I)Z
def k_X4_isOff_106 (P : Int32 → hp_S → Prop) (a1 : Int32) (K : hp_S → Int32 → Int32 → Prop) : Nat → hp_S → Int32 → Int32 → Prop
  | 0, _, _, _ => False
  | n + 1, x, l2, l3 => vp_in a1 12 ∧ (((x.2.1 (35, 0) a1.toNatClampNeg) ≤ l3 → (K x l2 l3)) ∧ (¬ (x.2.1 (35, 0) a1.toNatClampNeg) ≤ l3 → ((¬ l2 = 0 → (K x l2 l3)) ∧ (l2 = 0 → (vp_in (((nI 4) * a1) + l3) 48 ∧ (vp_in (x.2.1 (34, 0) (((nI 4) * a1) + l3).toNatClampNeg) 144 ∧ (vp_in a1 12 ∧ (((lg_cmp (x.2.2.1 (21, 0) (x.2.1 (34, 0) (((nI 4) * a1) + l3).toNatClampNeg).toNatClampNeg) (x.2.2.1 (40, 0) a1.toNatClampNeg)) = 0 → (k_X4_isOff_106 P a1 K n x (nI 0) (l3 + nI 1))) ∧ (¬ (lg_cmp (x.2.2.1 (21, 0) (x.2.1 (34, 0) (((nI 4) * a1) + l3).toNatClampNeg).toNatClampNeg) (x.2.2.1 (40, 0) a1.toNatClampNeg)) = 0 → (k_X4_isOff_106 P a1 K n x (nI 1) (l3 + nI 1)))))))))))
def k_X4_isOff_47 (P : Int32 → hp_S → Prop) (a1 : Int32) : Nat → hp_S → Int32 → Int32 → Prop
  | 0, _, _, _ => False
  | n + 1, x, l2, l3 => vp_in a1 12 ∧ (((x.2.1 (33, 0) a1.toNatClampNeg) ≤ l3 → (∃ q, k_X4_isOff_106 P a1 (fun x_106 l2_106 l3_106 => (narrow .boolean (.int l2_106) = .int l2_106) ∧ P l2_106 x_106) q x l2 (nI 0))) ∧ (¬ (x.2.1 (33, 0) a1.toNatClampNeg) ≤ l3 → ((¬ l2 = 0 → (∃ q, k_X4_isOff_106 P a1 (fun x_106 l2_106 l3_106 => (narrow .boolean (.int l2_106) = .int l2_106) ∧ P l2_106 x_106) q x l2 (nI 0))) ∧ (l2 = 0 → (vp_in (((nI 8) * a1) + l3) 96 ∧ (vp_in (x.2.1 (32, 0) (((nI 8) * a1) + l3).toNatClampNeg) 144 ∧ (vp_in (((nI 8) * a1) + l3) 96 ∧ (((lg_cmp (x.2.2.1 (21, 0) (x.2.1 (32, 0) (((nI 8) * a1) + l3).toNatClampNeg).toNatClampNeg) (x.2.2.1 (39, 0) (((nI 8) * a1) + l3).toNatClampNeg)) = 0 → (k_X4_isOff_47 P a1 n x (nI 0) (l3 + nI 1))) ∧ (¬ (lg_cmp (x.2.2.1 (21, 0) (x.2.1 (32, 0) (((nI 8) * a1) + l3).toNatClampNeg).toNatClampNeg) (x.2.2.1 (39, 0) (((nI 8) * a1) + l3).toNatClampNeg)) = 0 → (k_X4_isOff_47 P a1 n x (nI 1) (l3 + nI 1)))))))))))
def k_X4_isOff (P : Int32 → hp_S → Prop) (a1 : Int32) (x : hp_S) : Prop := vp_in a1 12 ∧ (((x.2.1 (36, 0) a1.toNatClampNeg) = 0 → (∃ q, k_X4_isOff_47 P a1 q x (nI 1) (nI 0))) ∧ (¬ (x.2.1 (36, 0) a1.toNatClampNeg) = 0 → (vp_in a1 12 ∧ (vp_in a1 12 ∧ ((¬ (x.2.1 (37, 0) a1.toNatClampNeg) = (x.2.1 (33, 0) a1.toNatClampNeg) → (∃ q, k_X4_isOff_47 P a1 q x (nI 1) (nI 0))) ∧ ((x.2.1 (37, 0) a1.toNatClampNeg) = (x.2.1 (33, 0) a1.toNatClampNeg) → (vp_in a1 12 ∧ (vp_in a1 12 ∧ (((x.2.1 (38, 0) a1.toNatClampNeg) = (x.2.1 (35, 0) a1.toNatClampNeg) → (∃ q, k_X4_isOff_47 P a1 q x (nI 0) (nI 0))) ∧ (¬ (x.2.1 (38, 0) a1.toNatClampNeg) = (x.2.1 (35, 0) a1.toNatClampNeg) → (∃ q, k_X4_isOff_47 P a1 q x (nI 1) (nI 0))))))))))))
abbrev rm_X4_isOff : Room := ({ frames := 0, cells := 0, slots := 0, locals := 0 } : Room)
set_option maxRecDepth 100000 in
set_option maxHeartbeats 4000000 in
theorem w_X4_isOff_106 {p : Program} {l : Launch} {e : Env} {s : State} {m : MethodId} {args : Array Value} {below : List Frame} {meth : Method} {c : Code} {D : va_G} {cA : Nat → ClassId} {B0 : Nat} {ad0 : hp_T → Nat} {x0 : hp_S} (E : hp_E p s m args meth c cX4_isOff 4 "VersionJoinsModel" hp_ws D cA B0) (hret : meth.sig.returnType = (Option.some Jvm.ClassFile.FieldType.boolean)) {P : Int32 → hp_S → Prop} (a1 : Int32) {K : hp_S → Int32 → Int32 → Prop} (hK : ∀ (x : hp_S) (l2 : Int32) (l3 : Int32), hp_sh x → K x l2 l3 → hp_V p l e rm_X4_isOff s m args below meth c (fun ad0 => MQ below (hp_Q D cA B0 ad0 x0 (hp_pI P)) args s 0 0 (fun q => B0 ≤ q)) D cA B0 4 ad0 x0 0 0 x 157 [(0, aR (20, 0)), (1, aI a1), (2, aI l2), (3, aI l3)] []) : ∀ (n : Nat) (x : hp_S) (l2 : Int32) (l3 : Int32), hp_sh x → k_X4_isOff_106 P a1 K n x l2 l3 → hp_V p l e rm_X4_isOff s m args below meth c (fun ad0 => MQ below (hp_Q D cA B0 ad0 x0 (hp_pI P)) args s 0 0 (fun q => B0 ≤ q)) D cA B0 4 ad0 x0 0 0 x 106 [(0, aR (20, 0)), (1, aI a1), (2, aI l2), (3, aI l3)] [] := by
  intro n
  induction n with
  | zero => intro x l2 l3 hs h; exact absurd h id
  | succ n ih =>
    intro x l2 l3 hs h
    unfold k_X4_isOff_106 at h
    refine hv_iload_n E dX4_isOff_106 rfl 3 rfl ?_
    refine hv_aload_n E dX4_isOff_107 rfl 0 rfl ?_
    refine hv_getR (k := 20) (t2 := (35, 0)) E dX4_isOff_108 rfl rfl hiX4 (by decide) wd_437 rfl rfl (hs _ _ _ rfl) ?_
    refine hv_iload_n E dX4_isOff_111 rfl 1 rfl ?_
    obtain ⟨h5, h⟩ := h
    refine hv_iald E dX4_isOff_112 rfl (by decide) rfl h5 ?_
    refine hv_icmp_ge (tgt := 157) E dX4_isOff_113 (by decide) (fun c6 => ?_) (fun c6 => ?_)
    · have h := h.1 c6
      refine hv_lv [0, 1, 2, 3] rfl ?_
      exact hK x l2 l3 hs h
    · have h := h.2 c6
      refine hv_iload_n E dX4_isOff_116 rfl 2 rfl ?_
      refine hv_if_ne (tgt := 157) E dX4_isOff_117 (by decide) (fun c7 => ?_) (fun c7 => ?_)
      · have h := h.1 c7
        refine hv_lv [0, 1, 2, 3] rfl ?_
        exact hK x l2 l3 hs h
      · have h := h.2 c7
        refine hv_aload_n E dX4_isOff_120 rfl 0 rfl ?_
        refine hv_getR (k := 2) (t2 := (21, 0)) E dX4_isOff_121 rfl rfl hiX4 (by decide) wd_419 rfl rfl (hs _ _ _ rfl) ?_
        refine hv_aload_n E dX4_isOff_124 rfl 0 rfl ?_
        refine hv_getR (k := 19) (t2 := (34, 0)) E dX4_isOff_125 rfl rfl hiX4 (by decide) wd_436 rfl rfl (hs _ _ _ rfl) ?_
        refine hv_iconst (v := nI 4) E dX4_isOff_128 (by decide) ?_
        refine hv_iload_n E dX4_isOff_129 rfl 1 rfl ?_
        refine hv_imul (v := (nI 4) * a1) E dX4_isOff_130 rfl ?_
        refine hv_iload_n E dX4_isOff_131 rfl 3 rfl ?_
        refine hv_iadd (v := ((nI 4) * a1) + l3) E dX4_isOff_132 rfl ?_
        obtain ⟨h8, h⟩ := h
        refine hv_iald E dX4_isOff_133 rfl (by decide) rfl h8 ?_
        obtain ⟨h9, h⟩ := h
        refine hv_lald E dX4_isOff_134 rfl (by decide) rfl h9 ?_
        refine hv_aload_n E dX4_isOff_135 rfl 0 rfl ?_
        refine hv_getR (k := 25) (t2 := (40, 0)) E dX4_isOff_136 rfl rfl hiX4 (by decide) wd_442 rfl rfl (hs _ _ _ rfl) ?_
        refine hv_iload_n E dX4_isOff_139 rfl 1 rfl ?_
        obtain ⟨h10, h⟩ := h
        refine hv_lald E dX4_isOff_140 rfl (by decide) rfl h10 ?_
        refine hv_lcmp E dX4_isOff_141 ?_
        refine hv_if_eq (tgt := 149) E dX4_isOff_142 (by decide) (fun c11 => ?_) (fun c11 => ?_)
        · have h := h.1 c11
          refine hv_iconst (v := nI 0) E dX4_isOff_149 (by decide) ?_
          refine hv_istore_n (lv' := [(0, aR (20, 0)), (1, aI a1), (3, aI l3)]) E dX4_isOff_150 rfl (by decide) rfl ?_
          refine hv_iinc (v := l3 + nI 1) (lv' := [(2, aI (nI 0)), (0, aR (20, 0)), (1, aI a1)]) E 3 dX4_isOff_151 rfl (hx_i1 _) (by decide) rfl ?_
          refine hv_goto (tgt := 106) E dX4_isOff_154 (by decide) ?_
          refine hv_lv [2, 3, 1, 0] rfl ?_
          exact ih x (nI 0) (l3 + nI 1) hs h
        · have h := h.2 c11
          refine hv_iconst (v := nI 1) E dX4_isOff_145 (by decide) ?_
          refine hv_goto (tgt := 150) E dX4_isOff_146 (by decide) ?_
          refine hv_istore_n (lv' := [(0, aR (20, 0)), (1, aI a1), (3, aI l3)]) E dX4_isOff_150 rfl (by decide) rfl ?_
          refine hv_iinc (v := l3 + nI 1) (lv' := [(2, aI (nI 1)), (0, aR (20, 0)), (1, aI a1)]) E 3 dX4_isOff_151 rfl (hx_i1 _) (by decide) rfl ?_
          refine hv_goto (tgt := 106) E dX4_isOff_154 (by decide) ?_
          refine hv_lv [2, 3, 1, 0] rfl ?_
          exact ih x (nI 1) (l3 + nI 1) hs h
set_option maxRecDepth 100000 in
set_option maxHeartbeats 4000000 in
theorem w_X4_isOff_47 {p : Program} {l : Launch} {e : Env} {s : State} {m : MethodId} {args : Array Value} {below : List Frame} {meth : Method} {c : Code} {D : va_G} {cA : Nat → ClassId} {B0 : Nat} {ad0 : hp_T → Nat} {x0 : hp_S} (E : hp_E p s m args meth c cX4_isOff 4 "VersionJoinsModel" hp_ws D cA B0) (hret : meth.sig.returnType = (Option.some Jvm.ClassFile.FieldType.boolean)) {P : Int32 → hp_S → Prop} (a1 : Int32) : ∀ (n : Nat) (x : hp_S) (l2 : Int32) (l3 : Int32), hp_sh x → k_X4_isOff_47 P a1 n x l2 l3 → hp_V p l e rm_X4_isOff s m args below meth c (fun ad0 => MQ below (hp_Q D cA B0 ad0 x0 (hp_pI P)) args s 0 0 (fun q => B0 ≤ q)) D cA B0 4 ad0 x0 0 0 x 47 [(0, aR (20, 0)), (1, aI a1), (2, aI l2), (3, aI l3)] [] := by
  intro n
  induction n with
  | zero => intro x l2 l3 hs h; exact absurd h id
  | succ n ih =>
    intro x l2 l3 hs h
    unfold k_X4_isOff_47 at h
    refine hv_iload_n E dX4_isOff_47 rfl 3 rfl ?_
    refine hv_aload_n E dX4_isOff_48 rfl 0 rfl ?_
    refine hv_getR (k := 18) (t2 := (33, 0)) E dX4_isOff_49 rfl rfl hiX4 (by decide) wd_435 rfl rfl (hs _ _ _ rfl) ?_
    refine hv_iload_n E dX4_isOff_52 rfl 1 rfl ?_
    obtain ⟨h3, h⟩ := h
    refine hv_iald E dX4_isOff_53 rfl (by decide) rfl h3 ?_
    refine hv_icmp_ge (tgt := 104) E dX4_isOff_54 (by decide) (fun c4 => ?_) (fun c4 => ?_)
    · have h := h.1 c4
      refine hv_iconst (v := nI 0) E dX4_isOff_104 (by decide) ?_
      refine hv_istore_n (lv' := [(0, aR (20, 0)), (1, aI a1), (2, aI l2)]) E dX4_isOff_105 rfl (by decide) rfl ?_
      obtain ⟨n12, h⟩ := h
      refine hv_lv [1, 2, 3, 0] rfl ?_
      refine w_X4_isOff_106 E hret a1 (K := _) (fun x_106 l2_106 l3_106 hs h => ?_) n12 x l2 (nI 0) hs h
      refine hv_iload_n E dX4_isOff_157 rfl 2 rfl ?_
      obtain ⟨h13, h⟩ := h
      exact hv_zret E hret dX4_isOff_158 h13 (Nat.le_of_ble_eq_true rfl) (Nat.le_of_ble_eq_true rfl) ⟨_, rfl, hs, h⟩
    · have h := h.2 c4
      refine hv_iload_n E dX4_isOff_57 rfl 2 rfl ?_
      refine hv_if_ne (tgt := 104) E dX4_isOff_58 (by decide) (fun c14 => ?_) (fun c14 => ?_)
      · have h := h.1 c14
        refine hv_iconst (v := nI 0) E dX4_isOff_104 (by decide) ?_
        refine hv_istore_n (lv' := [(0, aR (20, 0)), (1, aI a1), (2, aI l2)]) E dX4_isOff_105 rfl (by decide) rfl ?_
        obtain ⟨n15, h⟩ := h
        refine hv_lv [1, 2, 3, 0] rfl ?_
        refine w_X4_isOff_106 E hret a1 (K := _) (fun x_106 l2_106 l3_106 hs h => ?_) n15 x l2 (nI 0) hs h
        refine hv_iload_n E dX4_isOff_157 rfl 2 rfl ?_
        obtain ⟨h16, h⟩ := h
        exact hv_zret E hret dX4_isOff_158 h16 (Nat.le_of_ble_eq_true rfl) (Nat.le_of_ble_eq_true rfl) ⟨_, rfl, hs, h⟩
      · have h := h.2 c14
        refine hv_aload_n E dX4_isOff_61 rfl 0 rfl ?_
        refine hv_getR (k := 2) (t2 := (21, 0)) E dX4_isOff_62 rfl rfl hiX4 (by decide) wd_419 rfl rfl (hs _ _ _ rfl) ?_
        refine hv_aload_n E dX4_isOff_65 rfl 0 rfl ?_
        refine hv_getR (k := 17) (t2 := (32, 0)) E dX4_isOff_66 rfl rfl hiX4 (by decide) wd_434 rfl rfl (hs _ _ _ rfl) ?_
        refine hv_bipush (v := nI 8) E dX4_isOff_69 (by decide) ?_
        refine hv_iload_n E dX4_isOff_71 rfl 1 rfl ?_
        refine hv_imul (v := (nI 8) * a1) E dX4_isOff_72 rfl ?_
        refine hv_iload_n E dX4_isOff_73 rfl 3 rfl ?_
        refine hv_iadd (v := ((nI 8) * a1) + l3) E dX4_isOff_74 rfl ?_
        obtain ⟨h17, h⟩ := h
        refine hv_iald E dX4_isOff_75 rfl (by decide) rfl h17 ?_
        obtain ⟨h18, h⟩ := h
        refine hv_lald E dX4_isOff_76 rfl (by decide) rfl h18 ?_
        refine hv_aload_n E dX4_isOff_77 rfl 0 rfl ?_
        refine hv_getR (k := 24) (t2 := (39, 0)) E dX4_isOff_78 rfl rfl hiX4 (by decide) wd_441 rfl rfl (hs _ _ _ rfl) ?_
        refine hv_bipush (v := nI 8) E dX4_isOff_81 (by decide) ?_
        refine hv_iload_n E dX4_isOff_83 rfl 1 rfl ?_
        refine hv_imul (v := (nI 8) * a1) E dX4_isOff_84 rfl ?_
        refine hv_iload_n E dX4_isOff_85 rfl 3 rfl ?_
        refine hv_iadd (v := ((nI 8) * a1) + l3) E dX4_isOff_86 rfl ?_
        obtain ⟨h19, h⟩ := h
        refine hv_lald E dX4_isOff_87 rfl (by decide) rfl h19 ?_
        refine hv_lcmp E dX4_isOff_88 ?_
        refine hv_if_eq (tgt := 96) E dX4_isOff_89 (by decide) (fun c20 => ?_) (fun c20 => ?_)
        · have h := h.1 c20
          refine hv_iconst (v := nI 0) E dX4_isOff_96 (by decide) ?_
          refine hv_istore_n (lv' := [(0, aR (20, 0)), (1, aI a1), (3, aI l3)]) E dX4_isOff_97 rfl (by decide) rfl ?_
          refine hv_iinc (v := l3 + nI 1) (lv' := [(2, aI (nI 0)), (0, aR (20, 0)), (1, aI a1)]) E 3 dX4_isOff_98 rfl (hx_i1 _) (by decide) rfl ?_
          refine hv_goto (tgt := 47) E dX4_isOff_101 (by decide) ?_
          refine hv_lv [2, 3, 1, 0] rfl ?_
          exact ih x (nI 0) (l3 + nI 1) hs h
        · have h := h.2 c20
          refine hv_iconst (v := nI 1) E dX4_isOff_92 (by decide) ?_
          refine hv_goto (tgt := 97) E dX4_isOff_93 (by decide) ?_
          refine hv_istore_n (lv' := [(0, aR (20, 0)), (1, aI a1), (3, aI l3)]) E dX4_isOff_97 rfl (by decide) rfl ?_
          refine hv_iinc (v := l3 + nI 1) (lv' := [(2, aI (nI 1)), (0, aR (20, 0)), (1, aI a1)]) E 3 dX4_isOff_98 rfl (hx_i1 _) (by decide) rfl ?_
          refine hv_goto (tgt := 47) E dX4_isOff_101 (by decide) ?_
          refine hv_lv [2, 3, 1, 0] rfl ?_
          exact ih x (nI 1) (l3 + nI 1) hs h
set_option maxRecDepth 100000 in
set_option maxHeartbeats 4000000 in
theorem c_X4_isOff (l : Launch) (P : Int32 → hp_S → Prop) (a1 : Int32) (x : hp_S) (hs : hp_sh x) (h : k_X4_isOff P a1 x) : hp_C l yX4_isOff (Cond.code yX4_isOff cX4_isOff 4 (Option.some Jvm.ClassFile.FieldType.boolean) :: hp_ws) rm_X4_isOff [aR (20, 0), aI a1] x (hp_pI P) 0 0 := by
  refine hp_ofV (own := "VersionJoinsModel") (lv := [(0, aR (20, 0)), (1, aI a1)]) (by decide) rfl (Nat.le_of_ble_eq_true rfl) rfl ?_
  intro p e s m args below meth c D cA B0 ad0 E hret hnm
  unfold k_X4_isOff at h
  refine hv_aload_n E dX4_isOff_0 rfl 0 rfl ?_
  refine hv_getR (k := 21) (t2 := (36, 0)) E dX4_isOff_1 rfl rfl hiX4 (by decide) wd_438 rfl rfl (hs _ _ _ rfl) ?_
  refine hv_iload_n E dX4_isOff_4 rfl 1 rfl ?_
  obtain ⟨h1, h⟩ := h
  refine hv_zald E dX4_isOff_5 rfl (by decide) rfl h1 ?_
  refine hv_if_eq (tgt := 39) E dX4_isOff_6 (by decide) (fun c2 => ?_) (fun c2 => ?_)
  · have h := h.1 c2
    refine hv_iconst (v := nI 1) E dX4_isOff_39 (by decide) ?_
    refine hv_goto (tgt := 44) E dX4_isOff_40 (by decide) ?_
    refine hv_istore_n (lv' := [(0, aR (20, 0)), (1, aI a1)]) E dX4_isOff_44 rfl (by decide) rfl ?_
    refine hv_iconst (v := nI 0) E dX4_isOff_45 (by decide) ?_
    refine hv_istore_n (lv' := [(2, aI (nI 1)), (0, aR (20, 0)), (1, aI a1)]) E dX4_isOff_46 rfl (by decide) rfl ?_
    obtain ⟨n21, h⟩ := h
    refine hv_lv [2, 3, 1, 0] rfl ?_
    exact w_X4_isOff_47 E hret a1 n21 x (nI 1) (nI 0) hs h
  · have h := h.2 c2
    refine hv_aload_n E dX4_isOff_9 rfl 0 rfl ?_
    refine hv_getR (k := 22) (t2 := (37, 0)) E dX4_isOff_10 rfl rfl hiX4 (by decide) wd_439 rfl rfl (hs _ _ _ rfl) ?_
    refine hv_iload_n E dX4_isOff_13 rfl 1 rfl ?_
    obtain ⟨h22, h⟩ := h
    refine hv_iald E dX4_isOff_14 rfl (by decide) rfl h22 ?_
    refine hv_aload_n E dX4_isOff_15 rfl 0 rfl ?_
    refine hv_getR (k := 18) (t2 := (33, 0)) E dX4_isOff_16 rfl rfl hiX4 (by decide) wd_435 rfl rfl (hs _ _ _ rfl) ?_
    refine hv_iload_n E dX4_isOff_19 rfl 1 rfl ?_
    obtain ⟨h23, h⟩ := h
    refine hv_iald E dX4_isOff_20 rfl (by decide) rfl h23 ?_
    refine hv_icmp_ne (tgt := 39) E dX4_isOff_21 (by decide) (fun c24 => ?_) (fun c24 => ?_)
    · have h := h.1 c24
      refine hv_iconst (v := nI 1) E dX4_isOff_39 (by decide) ?_
      refine hv_goto (tgt := 44) E dX4_isOff_40 (by decide) ?_
      refine hv_istore_n (lv' := [(0, aR (20, 0)), (1, aI a1)]) E dX4_isOff_44 rfl (by decide) rfl ?_
      refine hv_iconst (v := nI 0) E dX4_isOff_45 (by decide) ?_
      refine hv_istore_n (lv' := [(2, aI (nI 1)), (0, aR (20, 0)), (1, aI a1)]) E dX4_isOff_46 rfl (by decide) rfl ?_
      obtain ⟨n25, h⟩ := h
      refine hv_lv [2, 3, 1, 0] rfl ?_
      exact w_X4_isOff_47 E hret a1 n25 x (nI 1) (nI 0) hs h
    · have h := h.2 c24
      refine hv_aload_n E dX4_isOff_24 rfl 0 rfl ?_
      refine hv_getR (k := 23) (t2 := (38, 0)) E dX4_isOff_25 rfl rfl hiX4 (by decide) wd_440 rfl rfl (hs _ _ _ rfl) ?_
      refine hv_iload_n E dX4_isOff_28 rfl 1 rfl ?_
      obtain ⟨h26, h⟩ := h
      refine hv_iald E dX4_isOff_29 rfl (by decide) rfl h26 ?_
      refine hv_aload_n E dX4_isOff_30 rfl 0 rfl ?_
      refine hv_getR (k := 20) (t2 := (35, 0)) E dX4_isOff_31 rfl rfl hiX4 (by decide) wd_437 rfl rfl (hs _ _ _ rfl) ?_
      refine hv_iload_n E dX4_isOff_34 rfl 1 rfl ?_
      obtain ⟨h27, h⟩ := h
      refine hv_iald E dX4_isOff_35 rfl (by decide) rfl h27 ?_
      refine hv_icmp_eq (tgt := 43) E dX4_isOff_36 (by decide) (fun c28 => ?_) (fun c28 => ?_)
      · have h := h.1 c28
        refine hv_iconst (v := nI 0) E dX4_isOff_43 (by decide) ?_
        refine hv_istore_n (lv' := [(0, aR (20, 0)), (1, aI a1)]) E dX4_isOff_44 rfl (by decide) rfl ?_
        refine hv_iconst (v := nI 0) E dX4_isOff_45 (by decide) ?_
        refine hv_istore_n (lv' := [(2, aI (nI 0)), (0, aR (20, 0)), (1, aI a1)]) E dX4_isOff_46 rfl (by decide) rfl ?_
        obtain ⟨n29, h⟩ := h
        refine hv_lv [2, 3, 1, 0] rfl ?_
        exact w_X4_isOff_47 E hret a1 n29 x (nI 0) (nI 0) hs h
      · have h := h.2 c28
        refine hv_iconst (v := nI 1) E dX4_isOff_39 (by decide) ?_
        refine hv_goto (tgt := 44) E dX4_isOff_40 (by decide) ?_
        refine hv_istore_n (lv' := [(0, aR (20, 0)), (1, aI a1)]) E dX4_isOff_44 rfl (by decide) rfl ?_
        refine hv_iconst (v := nI 0) E dX4_isOff_45 (by decide) ?_
        refine hv_istore_n (lv' := [(2, aI (nI 1)), (0, aR (20, 0)), (1, aI a1)]) E dX4_isOff_46 rfl (by decide) rfl ?_
        obtain ⟨n30, h⟩ := h
        refine hv_lv [2, 3, 1, 0] rfl ?_
        exact w_X4_isOff_47 E hret a1 n30 x (nI 1) (nI 0) hs h
-- VersionJoinsModel.stale(I)Z
def k_X4_stale_12 (P : Int32 → hp_S → Prop) (a1 : Int32) : Nat → hp_S → Int32 → Prop
  | 0, _, _ => False
  | n + 1, x, l2 => ((nI 12) ≤ l2 → (k_X4_markBehind (fun x52 => vp_in a1 12 ∧ ((narrow .boolean (.int (x52.2.1 (41, 0) a1.toNatClampNeg)) = .int (x52.2.1 (41, 0) a1.toNatClampNeg)) ∧ P (x52.2.1 (41, 0) a1.toNatClampNeg) x52))  x)) ∧ (¬ (nI 12) ≤ l2 → (((x.2.1 (20, 0) 15) ≤ l2 → (vp_in l2 12 ∧ (k_X4_stale_12 P a1 n (hp_uI x (41, 0) l2.toNatClampNeg (nI 0)) (l2 + nI 1)))) ∧ (¬ (x.2.1 (20, 0) 15) ≤ l2 → (k_X4_isOff (fun r33 x33 => (r33 = 0 → (vp_in l2 12 ∧ (k_X4_stale_12 P a1 n (hp_uI x33 (41, 0) l2.toNatClampNeg (nI 0)) (l2 + nI 1)))) ∧ (¬ r33 = 0 → (vp_in l2 12 ∧ (k_X4_stale_12 P a1 n (hp_uI x33 (41, 0) l2.toNatClampNeg (nI 1)) (l2 + nI 1))))) l2 x))))
def k_X4_stale (P : Int32 → hp_S → Prop) (a1 : Int32) (x : hp_S) : Prop := k_X4_isStep (fun r2 x2 => (¬ r2 = 0 → (∃ q, k_X4_stale_12 P a1 q x2 (nI 0))) ∧ (r2 = 0 → (P (nI 0) x2))) a1 x
abbrev rm_X4_stale : Room := ({ frames := 3, cells := 0, slots := 0, locals := 71 } : Room)
set_option maxRecDepth 100000 in
set_option maxHeartbeats 4000000 in
theorem w_X4_stale_12 {p : Program} {l : Launch} {e : Env} {s : State} {m : MethodId} {args : Array Value} {below : List Frame} {meth : Method} {c : Code} {D : va_G} {cA : Nat → ClassId} {B0 : Nat} {ad0 : hp_T → Nat} {x0 : hp_S} (E : hp_E p s m args meth c cX4_stale 3 "VersionJoinsModel" hp_ws D cA B0) (hret : meth.sig.returnType = (Option.some Jvm.ClassFile.FieldType.boolean)) {P : Int32 → hp_S → Prop} (a1 : Int32) : ∀ (n : Nat) (x : hp_S) (l2 : Int32), hp_sh x → k_X4_stale_12 P a1 n x l2 → hp_V p l e rm_X4_stale s m args below meth c (fun ad0 => MQ below (hp_Q D cA B0 ad0 x0 (hp_pI P)) args s 0 0 (fun q => B0 ≤ q)) D cA B0 3 ad0 x0 0 0 x 12 [(0, aR (20, 0)), (1, aI a1), (2, aI l2)] [] := by
  intro n
  induction n with
  | zero => intro x l2 hs h; exact absurd h id
  | succ n ih =>
    intro x l2 hs h
    unfold k_X4_stale_12 at h
    refine hv_iload_n E dX4_stale_12 rfl 2 rfl ?_
    refine hv_bipush (v := nI 12) E dX4_stale_13 (by decide) ?_
    refine hv_icmp_ge (tgt := 51) E dX4_stale_15 (by decide) (fun c2 => ?_) (fun c2 => ?_)
    · have h := h.1 c2
      refine hv_aload_n E dX4_stale_51 rfl 0 rfl ?_
      refine hv_VV E [] (c_X4_markBehind l _  x hs h) (hp_cwV 0 E wd_536 wd_538 wd_22 wd_41 wd_539 rfl rfl (by decide +kernel) ⟨(Nat.le_of_ble_eq_true rfl), (Nat.le_of_ble_eq_true rfl)⟩) rfl rfl rfl rfl (Nat.le_of_ble_eq_true rfl) dX4_stale_52 ⟨(Nat.le_of_ble_eq_true rfl), (Nat.le_of_ble_eq_true rfl)⟩ (fun x52 hs h => ?_)
      refine hv_aload_n E dX4_stale_55 rfl 0 rfl ?_
      refine hv_getR (k := 26) (t2 := (41, 0)) E dX4_stale_56 rfl rfl hiX4 (by decide) wd_443 rfl rfl (hs _ _ _ rfl) ?_
      refine hv_iload_n E dX4_stale_59 rfl 1 rfl ?_
      obtain ⟨h3, h⟩ := h
      refine hv_zald E dX4_stale_60 rfl (by decide) rfl h3 ?_
      obtain ⟨h4, h⟩ := h
      exact hv_zret E hret dX4_stale_61 h4 (Nat.le_of_ble_eq_true rfl) (Nat.le_of_ble_eq_true rfl) ⟨_, rfl, hs, h⟩
    · have h := h.2 c2
      refine hv_aload_n E dX4_stale_18 rfl 0 rfl ?_
      refine hv_getR (k := 26) (t2 := (41, 0)) E dX4_stale_19 rfl rfl hiX4 (by decide) wd_443 rfl rfl (hs _ _ _ rfl) ?_
      refine hv_iload_n E dX4_stale_22 rfl 2 rfl ?_
      refine hv_iload_n E dX4_stale_23 rfl 2 rfl ?_
      refine hv_aload_n E dX4_stale_24 rfl 0 rfl ?_
      refine hv_getI (k := 15) E dX4_stale_25 rfl rfl hiX4 (by decide) wd_432 rfl rfl ?_
      refine hv_icmp_ge (tgt := 43) E dX4_stale_28 (by decide) (fun c5 => ?_) (fun c5 => ?_)
      · have h := h.1 c5
        refine hv_iconst (v := nI 0) E dX4_stale_43 (by decide) ?_
        obtain ⟨h6, h⟩ := h
        refine hv_zast (w := nI 0) E dX4_stale_44 rfl (by decide) rfl h6 (by decide) ?_
        refine hv_iinc (v := l2 + nI 1) (lv' := [(0, aR (20, 0)), (1, aI a1)]) E 2 dX4_stale_45 rfl (hx_i1 _) (by decide) rfl ?_
        refine hv_goto (tgt := 12) E dX4_stale_48 (by decide) ?_
        refine hv_lv [1, 2, 0] rfl ?_
        exact ih (hp_uI x (41, 0) l2.toNatClampNeg (nI 0)) (l2 + nI 1) hs h
      · have h := h.2 c5
        refine hv_aload_n E dX4_stale_31 rfl 0 rfl ?_
        refine hv_iload_n E dX4_stale_32 rfl 2 rfl ?_
        refine hv_VI E [aI l2] (c_X4_isOff l _ l2 x hs h) (hp_cwV 1 E wd_608 wd_610 wd_31 wd_41 wd_611 rfl rfl (by decide +kernel) ⟨(Nat.le_of_ble_eq_true rfl), (Nat.le_of_ble_eq_true rfl)⟩) rfl rfl rfl rfl (Nat.le_of_ble_eq_true rfl) dX4_stale_33 ⟨(Nat.le_of_ble_eq_true rfl), (Nat.le_of_ble_eq_true rfl)⟩ (fun r33 x33 hs h => ?_)
        refine hv_if_eq (tgt := 43) E dX4_stale_36 (by decide) (fun c7 => ?_) (fun c7 => ?_)
        · have h := h.1 c7
          refine hv_iconst (v := nI 0) E dX4_stale_43 (by decide) ?_
          obtain ⟨h8, h⟩ := h
          refine hv_zast (w := nI 0) E dX4_stale_44 rfl (by decide) rfl h8 (by decide) ?_
          refine hv_iinc (v := l2 + nI 1) (lv' := [(0, aR (20, 0)), (1, aI a1)]) E 2 dX4_stale_45 rfl (hx_i1 _) (by decide) rfl ?_
          refine hv_goto (tgt := 12) E dX4_stale_48 (by decide) ?_
          refine hv_lv [1, 2, 0] rfl ?_
          exact ih (hp_uI x33 (41, 0) l2.toNatClampNeg (nI 0)) (l2 + nI 1) hs h
        · have h := h.2 c7
          refine hv_iconst (v := nI 1) E dX4_stale_39 (by decide) ?_
          refine hv_goto (tgt := 44) E dX4_stale_40 (by decide) ?_
          obtain ⟨h9, h⟩ := h
          refine hv_zast (w := nI 1) E dX4_stale_44 rfl (by decide) rfl h9 (by decide) ?_
          refine hv_iinc (v := l2 + nI 1) (lv' := [(0, aR (20, 0)), (1, aI a1)]) E 2 dX4_stale_45 rfl (hx_i1 _) (by decide) rfl ?_
          refine hv_goto (tgt := 12) E dX4_stale_48 (by decide) ?_
          refine hv_lv [1, 2, 0] rfl ?_
          exact ih (hp_uI x33 (41, 0) l2.toNatClampNeg (nI 1)) (l2 + nI 1) hs h
set_option maxRecDepth 100000 in
set_option maxHeartbeats 4000000 in
theorem c_X4_stale (l : Launch) (P : Int32 → hp_S → Prop) (a1 : Int32) (x : hp_S) (hs : hp_sh x) (h : k_X4_stale P a1 x) : hp_C l yX4_stale (Cond.code yX4_stale cX4_stale 3 (Option.some Jvm.ClassFile.FieldType.boolean) :: hp_ws) rm_X4_stale [aR (20, 0), aI a1] x (hp_pI P) 0 0 := by
  refine hp_ofV (own := "VersionJoinsModel") (lv := [(0, aR (20, 0)), (1, aI a1)]) (by decide) rfl (Nat.le_of_ble_eq_true rfl) rfl ?_
  intro p e s m args below meth c D cA B0 ad0 E hret hnm
  unfold k_X4_stale at h
  refine hv_aload_n E dX4_stale_0 rfl 0 rfl ?_
  refine hv_iload_n E dX4_stale_1 rfl 1 rfl ?_
  refine hv_VI E [aI a1] (c_X4_isStep l _ a1 x hs h) (hp_cwV 1 E wd_520 wd_522 wd_18 wd_41 wd_523 rfl rfl (by decide +kernel) ⟨(Nat.le_of_ble_eq_true rfl), (Nat.le_of_ble_eq_true rfl)⟩) rfl rfl rfl rfl (Nat.le_of_ble_eq_true rfl) dX4_stale_2 ⟨(Nat.le_of_ble_eq_true rfl), (Nat.le_of_ble_eq_true rfl)⟩ (fun r2 x2 hs h => ?_)
  refine hv_if_ne (tgt := 10) E dX4_stale_5 (by decide) (fun c1 => ?_) (fun c1 => ?_)
  · have h := h.1 c1
    refine hv_iconst (v := nI 0) E dX4_stale_10 (by decide) ?_
    refine hv_istore_n (lv' := [(0, aR (20, 0)), (1, aI a1)]) E dX4_stale_11 rfl (by decide) rfl ?_
    obtain ⟨n10, h⟩ := h
    refine hv_lv [1, 2, 0] rfl ?_
    exact w_X4_stale_12 E hret a1 n10 x2 (nI 0) hs h
  · have h := h.2 c1
    refine hv_iconst (v := nI 0) E dX4_stale_8 (by decide) ?_
    exact hv_zret E hret dX4_stale_9 (by decide) (Nat.le_of_ble_eq_true rfl) (Nat.le_of_ble_eq_true rfl) ⟨_, rfl, hs, h⟩
-- VersionJoinsModel.isEarlier(II)Z
def k_X4_isEarlier_5 (P : Int32 → hp_S → Prop) (a1 : Int32) (a2 : Int32) : Nat → hp_S → Int32 → Int32 → Prop
  | 0, _, _, _ => False
  | n + 1, x, l3, l4 => (a2 ≤ l4 → ((narrow .boolean (.int l3) = .int l3) ∧ P l3 x)) ∧ (¬ a2 ≤ l4 → ((¬ l3 = 0 → (k_X4_isEarlier_5 P a1 a2 n x (nI 1) (l4 + nI 1))) ∧ (l3 = 0 → (vp_in (((nI 8) * a1) + l4) 96 ∧ (vp_in (x.2.1 (32, 0) (((nI 8) * a1) + l4).toNatClampNeg) 144 ∧ (vp_in (((nI 8) * a1) + a2) 96 ∧ (vp_in (x.2.1 (32, 0) (((nI 8) * a1) + a2).toNatClampNeg) 144 ∧ ((¬ (lg_cmp (x.2.2.1 (21, 0) (x.2.1 (32, 0) (((nI 8) * a1) + l4).toNatClampNeg).toNatClampNeg) (x.2.2.1 (21, 0) (x.2.1 (32, 0) (((nI 8) * a1) + a2).toNatClampNeg).toNatClampNeg)) = 0 → (k_X4_isEarlier_5 P a1 a2 n x (nI 0) (l4 + nI 1))) ∧ ((lg_cmp (x.2.2.1 (21, 0) (x.2.1 (32, 0) (((nI 8) * a1) + l4).toNatClampNeg).toNatClampNeg) (x.2.2.1 (21, 0) (x.2.1 (32, 0) (((nI 8) * a1) + a2).toNatClampNeg).toNatClampNeg)) = 0 → (k_X4_isEarlier_5 P a1 a2 n x (nI 1) (l4 + nI 1)))))))))))
def k_X4_isEarlier (P : Int32 → hp_S → Prop) (a1 : Int32) (a2 : Int32) (x : hp_S) : Prop := ∃ q, k_X4_isEarlier_5 P a1 a2 q x (nI 0) (nI 0)
abbrev rm_X4_isEarlier : Room := ({ frames := 0, cells := 0, slots := 0, locals := 0 } : Room)
set_option maxRecDepth 100000 in
set_option maxHeartbeats 4000000 in
theorem w_X4_isEarlier_5 {p : Program} {l : Launch} {e : Env} {s : State} {m : MethodId} {args : Array Value} {below : List Frame} {meth : Method} {c : Code} {D : va_G} {cA : Nat → ClassId} {B0 : Nat} {ad0 : hp_T → Nat} {x0 : hp_S} (E : hp_E p s m args meth c cX4_isEarlier 5 "VersionJoinsModel" hp_ws D cA B0) (hret : meth.sig.returnType = (Option.some Jvm.ClassFile.FieldType.boolean)) {P : Int32 → hp_S → Prop} (a1 : Int32) (a2 : Int32) : ∀ (n : Nat) (x : hp_S) (l3 : Int32) (l4 : Int32), hp_sh x → k_X4_isEarlier_5 P a1 a2 n x l3 l4 → hp_V p l e rm_X4_isEarlier s m args below meth c (fun ad0 => MQ below (hp_Q D cA B0 ad0 x0 (hp_pI P)) args s 0 0 (fun q => B0 ≤ q)) D cA B0 5 ad0 x0 0 0 x 5 [(0, aR (20, 0)), (1, aI a1), (2, aI a2), (3, aI l3), (4, aI l4)] [] := by
  intro n
  induction n with
  | zero => intro x l3 l4 hs h; exact absurd h id
  | succ n ih =>
    intro x l3 l4 hs h
    unfold k_X4_isEarlier_5 at h
    refine hv_iload E dX4_isEarlier_5 4 rfl ?_
    refine hv_iload_n E dX4_isEarlier_7 rfl 2 rfl ?_
    refine hv_icmp_ge (tgt := 64) E dX4_isEarlier_8 (by decide) (fun c1 => ?_) (fun c1 => ?_)
    · have h := h.1 c1
      refine hv_iload_n E dX4_isEarlier_64 rfl 3 rfl ?_
      obtain ⟨h2, h⟩ := h
      exact hv_zret E hret dX4_isEarlier_65 h2 (Nat.le_of_ble_eq_true rfl) (Nat.le_of_ble_eq_true rfl) ⟨_, rfl, hs, h⟩
    · have h := h.2 c1
      refine hv_iload_n E dX4_isEarlier_11 rfl 3 rfl ?_
      refine hv_if_ne (tgt := 52) E dX4_isEarlier_12 (by decide) (fun c3 => ?_) (fun c3 => ?_)
      · have h := h.1 c3
        refine hv_iconst (v := nI 1) E dX4_isEarlier_52 (by decide) ?_
        refine hv_goto (tgt := 57) E dX4_isEarlier_53 (by decide) ?_
        refine hv_istore_n (lv' := [(0, aR (20, 0)), (1, aI a1), (2, aI a2), (4, aI l4)]) E dX4_isEarlier_57 rfl (by decide) rfl ?_
        refine hv_iinc (v := l4 + nI 1) (lv' := [(3, aI (nI 1)), (0, aR (20, 0)), (1, aI a1), (2, aI a2)]) E 4 dX4_isEarlier_58 rfl (hx_i1 _) (by decide) rfl ?_
        refine hv_goto (tgt := 5) E dX4_isEarlier_61 (by decide) ?_
        refine hv_lv [2, 3, 4, 1, 0] rfl ?_
        exact ih x (nI 1) (l4 + nI 1) hs h
      · have h := h.2 c3
        refine hv_aload_n E dX4_isEarlier_15 rfl 0 rfl ?_
        refine hv_getR (k := 2) (t2 := (21, 0)) E dX4_isEarlier_16 rfl rfl hiX4 (by decide) wd_419 rfl rfl (hs _ _ _ rfl) ?_
        refine hv_aload_n E dX4_isEarlier_19 rfl 0 rfl ?_
        refine hv_getR (k := 17) (t2 := (32, 0)) E dX4_isEarlier_20 rfl rfl hiX4 (by decide) wd_434 rfl rfl (hs _ _ _ rfl) ?_
        refine hv_bipush (v := nI 8) E dX4_isEarlier_23 (by decide) ?_
        refine hv_iload_n E dX4_isEarlier_25 rfl 1 rfl ?_
        refine hv_imul (v := (nI 8) * a1) E dX4_isEarlier_26 rfl ?_
        refine hv_iload E dX4_isEarlier_27 4 rfl ?_
        refine hv_iadd (v := ((nI 8) * a1) + l4) E dX4_isEarlier_29 rfl ?_
        obtain ⟨h4, h⟩ := h
        refine hv_iald E dX4_isEarlier_30 rfl (by decide) rfl h4 ?_
        obtain ⟨h5, h⟩ := h
        refine hv_lald E dX4_isEarlier_31 rfl (by decide) rfl h5 ?_
        refine hv_aload_n E dX4_isEarlier_32 rfl 0 rfl ?_
        refine hv_getR (k := 2) (t2 := (21, 0)) E dX4_isEarlier_33 rfl rfl hiX4 (by decide) wd_419 rfl rfl (hs _ _ _ rfl) ?_
        refine hv_aload_n E dX4_isEarlier_36 rfl 0 rfl ?_
        refine hv_getR (k := 17) (t2 := (32, 0)) E dX4_isEarlier_37 rfl rfl hiX4 (by decide) wd_434 rfl rfl (hs _ _ _ rfl) ?_
        refine hv_bipush (v := nI 8) E dX4_isEarlier_40 (by decide) ?_
        refine hv_iload_n E dX4_isEarlier_42 rfl 1 rfl ?_
        refine hv_imul (v := (nI 8) * a1) E dX4_isEarlier_43 rfl ?_
        refine hv_iload_n E dX4_isEarlier_44 rfl 2 rfl ?_
        refine hv_iadd (v := ((nI 8) * a1) + a2) E dX4_isEarlier_45 rfl ?_
        obtain ⟨h6, h⟩ := h
        refine hv_iald E dX4_isEarlier_46 rfl (by decide) rfl h6 ?_
        obtain ⟨h7, h⟩ := h
        refine hv_lald E dX4_isEarlier_47 rfl (by decide) rfl h7 ?_
        refine hv_lcmp E dX4_isEarlier_48 ?_
        refine hv_if_ne (tgt := 56) E dX4_isEarlier_49 (by decide) (fun c8 => ?_) (fun c8 => ?_)
        · have h := h.1 c8
          refine hv_iconst (v := nI 0) E dX4_isEarlier_56 (by decide) ?_
          refine hv_istore_n (lv' := [(0, aR (20, 0)), (1, aI a1), (2, aI a2), (4, aI l4)]) E dX4_isEarlier_57 rfl (by decide) rfl ?_
          refine hv_iinc (v := l4 + nI 1) (lv' := [(3, aI (nI 0)), (0, aR (20, 0)), (1, aI a1), (2, aI a2)]) E 4 dX4_isEarlier_58 rfl (hx_i1 _) (by decide) rfl ?_
          refine hv_goto (tgt := 5) E dX4_isEarlier_61 (by decide) ?_
          refine hv_lv [2, 3, 4, 1, 0] rfl ?_
          exact ih x (nI 0) (l4 + nI 1) hs h
        · have h := h.2 c8
          refine hv_iconst (v := nI 1) E dX4_isEarlier_52 (by decide) ?_
          refine hv_goto (tgt := 57) E dX4_isEarlier_53 (by decide) ?_
          refine hv_istore_n (lv' := [(0, aR (20, 0)), (1, aI a1), (2, aI a2), (4, aI l4)]) E dX4_isEarlier_57 rfl (by decide) rfl ?_
          refine hv_iinc (v := l4 + nI 1) (lv' := [(3, aI (nI 1)), (0, aR (20, 0)), (1, aI a1), (2, aI a2)]) E 4 dX4_isEarlier_58 rfl (hx_i1 _) (by decide) rfl ?_
          refine hv_goto (tgt := 5) E dX4_isEarlier_61 (by decide) ?_
          refine hv_lv [2, 3, 4, 1, 0] rfl ?_
          exact ih x (nI 1) (l4 + nI 1) hs h
set_option maxRecDepth 100000 in
set_option maxHeartbeats 4000000 in
theorem c_X4_isEarlier (l : Launch) (P : Int32 → hp_S → Prop) (a1 : Int32) (a2 : Int32) (x : hp_S) (hs : hp_sh x) (h : k_X4_isEarlier P a1 a2 x) : hp_C l yX4_isEarlier (Cond.code yX4_isEarlier cX4_isEarlier 5 (Option.some Jvm.ClassFile.FieldType.boolean) :: hp_ws) rm_X4_isEarlier [aR (20, 0), aI a1, aI a2] x (hp_pI P) 0 0 := by
  refine hp_ofV (own := "VersionJoinsModel") (lv := [(0, aR (20, 0)), (1, aI a1), (2, aI a2)]) (by decide) rfl (Nat.le_of_ble_eq_true rfl) rfl ?_
  intro p e s m args below meth c D cA B0 ad0 E hret hnm
  unfold k_X4_isEarlier at h
  refine hv_iconst (v := nI 0) E dX4_isEarlier_0 (by decide) ?_
  refine hv_istore_n (lv' := [(0, aR (20, 0)), (1, aI a1), (2, aI a2)]) E dX4_isEarlier_1 rfl (by decide) rfl ?_
  refine hv_iconst (v := nI 0) E dX4_isEarlier_2 (by decide) ?_
  refine hv_istore (lv' := [(3, aI (nI 0)), (0, aR (20, 0)), (1, aI a1), (2, aI a2)]) E dX4_isEarlier_3 (by decide) rfl ?_
  obtain ⟨n9, h⟩ := h
  refine hv_lv [2, 3, 4, 1, 0] rfl ?_
  exact w_X4_isEarlier_5 E hret a1 a2 n9 x (nI 0) (nI 0) hs h
-- VersionJoinsModel.worth(I)J
def k_X4_worth_5 (P : Int64 → hp_S → Prop) (a1 : Int32) : Nat → hp_S → Int64 → Int32 → Prop
  | 0, _, _, _ => False
  | n + 1, x, l2, l4 => vp_in a1 12 ∧ (((x.2.1 (33, 0) a1.toNatClampNeg) ≤ l4 → (P l2 x)) ∧ (¬ (x.2.1 (33, 0) a1.toNatClampNeg) ≤ l4 → (vp_in (((nI 8) * a1) + l4) 96 ∧ (vp_in (x.2.1 (32, 0) (((nI 8) * a1) + l4).toNatClampNeg) 144 ∧ (vp_in a1 12 ∧ ((((x.2.1 (31, 0) a1.toNatClampNeg) = nI 0 → (k_X4_worth_5 P a1 n x (l2 + (x.2.2.1 (21, 0) (x.2.1 (32, 0) (((nI 8) * a1) + l4).toNatClampNeg).toNatClampNeg)) (l4 + nI 1))) ∧ ((x.2.1 (31, 0) a1.toNatClampNeg) = nI 1 → ((l4 = 0 → (k_X4_worth_5 P a1 n x (x.2.2.1 (21, 0) (x.2.1 (32, 0) (((nI 8) * a1) + l4).toNatClampNeg).toNatClampNeg) (l4 + nI 1))) ∧ (¬ l4 = 0 → (((lg_cmp (x.2.2.1 (21, 0) (x.2.1 (32, 0) (((nI 8) * a1) + l4).toNatClampNeg).toNatClampNeg) l2) ≤ 0 → (k_X4_worth_5 P a1 n x l2 (l4 + nI 1))) ∧ (¬ (lg_cmp (x.2.2.1 (21, 0) (x.2.1 (32, 0) (((nI 8) * a1) + l4).toNatClampNeg).toNatClampNeg) l2) ≤ 0 → (k_X4_worth_5 P a1 n x (x.2.2.1 (21, 0) (x.2.1 (32, 0) (((nI 8) * a1) + l4).toNatClampNeg).toNatClampNeg) (l4 + nI 1))))))) ∧ ((x.2.1 (31, 0) a1.toNatClampNeg) = nI 2 → (k_X4_worth_5 P a1 n x (l2 ^^^ (x.2.2.1 (21, 0) (x.2.1 (32, 0) (((nI 8) * a1) + l4).toNatClampNeg).toNatClampNeg)) (l4 + nI 1)))) ∧ (¬ (x.2.1 (31, 0) a1.toNatClampNeg) = nI 0 → ¬ (x.2.1 (31, 0) a1.toNatClampNeg) = nI 1 → ¬ (x.2.1 (31, 0) a1.toNatClampNeg) = nI 2 → (k_X4_isEarlier (fun r110 x110 => (r110 = 0 → (k_X4_worth_5 P a1 n x110 (l2 + 1) (l4 + nI 1))) ∧ (¬ r110 = 0 → (k_X4_worth_5 P a1 n x110 l2 (l4 + nI 1)))) a1 l4 x))))))))
def k_X4_worth (P : Int64 → hp_S → Prop) (a1 : Int32) (x : hp_S) : Prop := ∃ q, k_X4_worth_5 P a1 q x 0 (nI 0)
abbrev rm_X4_worth : Room := ({ frames := 1, cells := 0, slots := 0, locals := 24 } : Room)
set_option maxRecDepth 100000 in
set_option maxHeartbeats 4000000 in
theorem w_X4_worth_5 {p : Program} {l : Launch} {e : Env} {s : State} {m : MethodId} {args : Array Value} {below : List Frame} {meth : Method} {c : Code} {D : va_G} {cA : Nat → ClassId} {B0 : Nat} {ad0 : hp_T → Nat} {x0 : hp_S} (E : hp_E p s m args meth c cX4_worth 7 "VersionJoinsModel" hp_ws D cA B0) (hret : meth.sig.returnType = (Option.some Jvm.ClassFile.FieldType.long)) {P : Int64 → hp_S → Prop} (a1 : Int32) : ∀ (n : Nat) (x : hp_S) (l2 : Int64) (l4 : Int32), hp_sh x → k_X4_worth_5 P a1 n x l2 l4 → hp_V p l e rm_X4_worth s m args below meth c (fun ad0 => MQ below (hp_Q D cA B0 ad0 x0 (hp_pL P)) args s 0 0 (fun q => B0 ≤ q)) D cA B0 7 ad0 x0 0 0 x 5 [(0, aR (20, 0)), (1, aI a1), (2, aL l2), (4, aI l4)] [] := by
  intro n
  induction n with
  | zero => intro x l2 l4 hs h; exact absurd h id
  | succ n ih =>
    intro x l2 l4 hs h
    unfold k_X4_worth_5 at h
    refine hv_iload E dX4_worth_5 3 rfl ?_
    refine hv_aload_n E dX4_worth_7 rfl 0 rfl ?_
    refine hv_getR (k := 18) (t2 := (33, 0)) E dX4_worth_8 rfl rfl hiX4 (by decide) wd_435 rfl rfl (hs _ _ _ rfl) ?_
    refine hv_iload_n E dX4_worth_11 rfl 1 rfl ?_
    obtain ⟨h1, h⟩ := h
    refine hv_iald E dX4_worth_12 rfl (by decide) rfl h1 ?_
    refine hv_icmp_ge (tgt := 130) E dX4_worth_13 (by decide) (fun c2 => ?_) (fun c2 => ?_)
    · have h := h.1 c2
      refine hv_lload_n E dX4_worth_130 rfl 2 rfl ?_
      exact hv_lret E hret dX4_worth_131 (Nat.le_of_ble_eq_true rfl) (Nat.le_of_ble_eq_true rfl) ⟨_, rfl, hs, h⟩
    · have h := h.2 c2
      refine hv_aload_n E dX4_worth_16 rfl 0 rfl ?_
      refine hv_getR (k := 2) (t2 := (21, 0)) E dX4_worth_17 rfl rfl hiX4 (by decide) wd_419 rfl rfl (hs _ _ _ rfl) ?_
      refine hv_aload_n E dX4_worth_20 rfl 0 rfl ?_
      refine hv_getR (k := 17) (t2 := (32, 0)) E dX4_worth_21 rfl rfl hiX4 (by decide) wd_434 rfl rfl (hs _ _ _ rfl) ?_
      refine hv_bipush (v := nI 8) E dX4_worth_24 (by decide) ?_
      refine hv_iload_n E dX4_worth_26 rfl 1 rfl ?_
      refine hv_imul (v := (nI 8) * a1) E dX4_worth_27 rfl ?_
      refine hv_iload E dX4_worth_28 3 rfl ?_
      refine hv_iadd (v := ((nI 8) * a1) + l4) E dX4_worth_30 rfl ?_
      obtain ⟨h3, h⟩ := h
      refine hv_iald E dX4_worth_31 rfl (by decide) rfl h3 ?_
      obtain ⟨h4, h⟩ := h
      refine hv_lald E dX4_worth_32 rfl (by decide) rfl h4 ?_
      refine hv_lstore (lv' := [(0, aR (20, 0)), (1, aI a1), (2, aL l2), (4, aI l4)]) E dX4_worth_33 (by decide) rfl ?_
      refine hv_aload_n E dX4_worth_35 rfl 1 rfl ?_
      refine hv_getR (k := 16) (t2 := (31, 0)) E dX4_worth_36 rfl rfl hiX4 (by decide) wd_433 rfl rfl (hs _ _ _ rfl) ?_
      refine hv_iload_n E dX4_worth_39 rfl 2 rfl ?_
      obtain ⟨h5, h⟩ := h
      refine hv_iald E dX4_worth_40 rfl (by decide) rfl h5 ?_
      obtain ⟨hsw, hdf⟩ := h
      by_cases e60 : (x.2.1 (31, 0) a1.toNatClampNeg) = nI 0
      · have h := hsw.1 e60
        refine hv_tableIn (off := 27) (tgt := 68) E dX4_worth_41 (by rw [e60]; decide) (by rw [e60]; decide) (by rw [e60]; decide) (by decide) ?_
        refine hv_lload_n E dX4_worth_68 rfl 3 rfl ?_
        refine hv_lload E dX4_worth_69 0 rfl ?_
        refine hv_ladd (v := l2 + (x.2.2.1 (21, 0) (x.2.1 (32, 0) (((nI 8) * a1) + l4).toNatClampNeg).toNatClampNeg)) E dX4_worth_71 rfl ?_
        refine hv_lstore_n (lv' := [(5, aL (x.2.2.1 (21, 0) (x.2.1 (32, 0) (((nI 8) * a1) + l4).toNatClampNeg).toNatClampNeg)), (0, aR (20, 0)), (1, aI a1), (4, aI l4)]) E dX4_worth_72 rfl (by decide) rfl ?_
        refine hv_goto (tgt := 124) E dX4_worth_73 (by decide) ?_
        refine hv_iinc (v := l4 + nI 1) (lv' := [(2, aL (l2 + (x.2.2.1 (21, 0) (x.2.1 (32, 0) (((nI 8) * a1) + l4).toNatClampNeg).toNatClampNeg))), (5, aL (x.2.2.1 (21, 0) (x.2.1 (32, 0) (((nI 8) * a1) + l4).toNatClampNeg).toNatClampNeg)), (0, aR (20, 0)), (1, aI a1)]) E 4 dX4_worth_124 rfl (hx_i1 _) (by decide) rfl ?_
        refine hv_goto (tgt := 5) E dX4_worth_127 (by decide) ?_
        refine hv_lv [3, 4, 1, 0] rfl ?_
        exact ih x (l2 + (x.2.2.1 (21, 0) (x.2.1 (32, 0) (((nI 8) * a1) + l4).toNatClampNeg).toNatClampNeg)) (l4 + nI 1) hs h
      by_cases e61 : (x.2.1 (31, 0) a1.toNatClampNeg) = nI 1
      · have h := hsw.2.1 e61
        refine hv_tableIn (off := 35) (tgt := 76) E dX4_worth_41 (by rw [e61]; decide) (by rw [e61]; decide) (by rw [e61]; decide) (by decide) ?_
        refine hv_iload E dX4_worth_76 4 rfl ?_
        refine hv_if_eq (tgt := 88) E dX4_worth_78 (by decide) (fun c7 => ?_) (fun c7 => ?_)
        · have h := h.1 c7
          refine hv_lload E dX4_worth_88 0 rfl ?_
          refine hv_goto (tgt := 94) E dX4_worth_90 (by decide) ?_
          refine hv_lstore_n (lv' := [(5, aL (x.2.2.1 (21, 0) (x.2.1 (32, 0) (((nI 8) * a1) + l4).toNatClampNeg).toNatClampNeg)), (0, aR (20, 0)), (1, aI a1), (4, aI l4)]) E dX4_worth_94 rfl (by decide) rfl ?_
          refine hv_goto (tgt := 124) E dX4_worth_95 (by decide) ?_
          refine hv_iinc (v := l4 + nI 1) (lv' := [(2, aL (x.2.2.1 (21, 0) (x.2.1 (32, 0) (((nI 8) * a1) + l4).toNatClampNeg).toNatClampNeg)), (5, aL (x.2.2.1 (21, 0) (x.2.1 (32, 0) (((nI 8) * a1) + l4).toNatClampNeg).toNatClampNeg)), (0, aR (20, 0)), (1, aI a1)]) E 4 dX4_worth_124 rfl (hx_i1 _) (by decide) rfl ?_
          refine hv_goto (tgt := 5) E dX4_worth_127 (by decide) ?_
          refine hv_lv [3, 4, 1, 0] rfl ?_
          exact ih x (x.2.2.1 (21, 0) (x.2.1 (32, 0) (((nI 8) * a1) + l4).toNatClampNeg).toNatClampNeg) (l4 + nI 1) hs h
        · have h := h.2 c7
          refine hv_lload E dX4_worth_81 0 rfl ?_
          refine hv_lload_n E dX4_worth_83 rfl 3 rfl ?_
          refine hv_lcmp E dX4_worth_84 ?_
          refine hv_if_le (tgt := 93) E dX4_worth_85 (by decide) (fun c8 => ?_) (fun c8 => ?_)
          · have h := h.1 c8
            refine hv_lload_n E dX4_worth_93 rfl 3 rfl ?_
            refine hv_lstore_n (lv' := [(5, aL (x.2.2.1 (21, 0) (x.2.1 (32, 0) (((nI 8) * a1) + l4).toNatClampNeg).toNatClampNeg)), (0, aR (20, 0)), (1, aI a1), (4, aI l4)]) E dX4_worth_94 rfl (by decide) rfl ?_
            refine hv_goto (tgt := 124) E dX4_worth_95 (by decide) ?_
            refine hv_iinc (v := l4 + nI 1) (lv' := [(2, aL l2), (5, aL (x.2.2.1 (21, 0) (x.2.1 (32, 0) (((nI 8) * a1) + l4).toNatClampNeg).toNatClampNeg)), (0, aR (20, 0)), (1, aI a1)]) E 4 dX4_worth_124 rfl (hx_i1 _) (by decide) rfl ?_
            refine hv_goto (tgt := 5) E dX4_worth_127 (by decide) ?_
            refine hv_lv [3, 4, 1, 0] rfl ?_
            exact ih x l2 (l4 + nI 1) hs h
          · have h := h.2 c8
            refine hv_lload E dX4_worth_88 0 rfl ?_
            refine hv_goto (tgt := 94) E dX4_worth_90 (by decide) ?_
            refine hv_lstore_n (lv' := [(5, aL (x.2.2.1 (21, 0) (x.2.1 (32, 0) (((nI 8) * a1) + l4).toNatClampNeg).toNatClampNeg)), (0, aR (20, 0)), (1, aI a1), (4, aI l4)]) E dX4_worth_94 rfl (by decide) rfl ?_
            refine hv_goto (tgt := 124) E dX4_worth_95 (by decide) ?_
            refine hv_iinc (v := l4 + nI 1) (lv' := [(2, aL (x.2.2.1 (21, 0) (x.2.1 (32, 0) (((nI 8) * a1) + l4).toNatClampNeg).toNatClampNeg)), (5, aL (x.2.2.1 (21, 0) (x.2.1 (32, 0) (((nI 8) * a1) + l4).toNatClampNeg).toNatClampNeg)), (0, aR (20, 0)), (1, aI a1)]) E 4 dX4_worth_124 rfl (hx_i1 _) (by decide) rfl ?_
            refine hv_goto (tgt := 5) E dX4_worth_127 (by decide) ?_
            refine hv_lv [3, 4, 1, 0] rfl ?_
            exact ih x (x.2.2.1 (21, 0) (x.2.1 (32, 0) (((nI 8) * a1) + l4).toNatClampNeg).toNatClampNeg) (l4 + nI 1) hs h
      by_cases e62 : (x.2.1 (31, 0) a1.toNatClampNeg) = nI 2
      · have h := hsw.2.2 e62
        refine hv_tableIn (off := 57) (tgt := 98) E dX4_worth_41 (by rw [e62]; decide) (by rw [e62]; decide) (by rw [e62]; decide) (by decide) ?_
        refine hv_lload_n E dX4_worth_98 rfl 3 rfl ?_
        refine hv_lload E dX4_worth_99 0 rfl ?_
        refine hv_lxor (v := l2 ^^^ (x.2.2.1 (21, 0) (x.2.1 (32, 0) (((nI 8) * a1) + l4).toNatClampNeg).toNatClampNeg)) E dX4_worth_101 rfl ?_
        refine hv_lstore_n (lv' := [(5, aL (x.2.2.1 (21, 0) (x.2.1 (32, 0) (((nI 8) * a1) + l4).toNatClampNeg).toNatClampNeg)), (0, aR (20, 0)), (1, aI a1), (4, aI l4)]) E dX4_worth_102 rfl (by decide) rfl ?_
        refine hv_goto (tgt := 124) E dX4_worth_103 (by decide) ?_
        refine hv_iinc (v := l4 + nI 1) (lv' := [(2, aL (l2 ^^^ (x.2.2.1 (21, 0) (x.2.1 (32, 0) (((nI 8) * a1) + l4).toNatClampNeg).toNatClampNeg))), (5, aL (x.2.2.1 (21, 0) (x.2.1 (32, 0) (((nI 8) * a1) + l4).toNatClampNeg).toNatClampNeg)), (0, aR (20, 0)), (1, aI a1)]) E 4 dX4_worth_124 rfl (hx_i1 _) (by decide) rfl ?_
        refine hv_goto (tgt := 5) E dX4_worth_127 (by decide) ?_
        refine hv_lv [3, 4, 1, 0] rfl ?_
        exact ih x (l2 ^^^ (x.2.2.1 (21, 0) (x.2.1 (32, 0) (((nI 8) * a1) + l4).toNatClampNeg).toNatClampNeg)) (l4 + nI 1) hs h
      have h := hdf e60 e61 e62
      refine hv_tableOut (tgt := 106) E dX4_worth_41 (hx_out3 e60 e61 e62) (by decide) ?_
      refine hv_aload_n E dX4_worth_106 rfl 1 rfl ?_
      refine hv_iload_n E dX4_worth_107 rfl 2 rfl ?_
      refine hv_iload E dX4_worth_108 4 rfl ?_
      refine hv_VI E [aI a1, aI l4] (c_X4_isEarlier l _ a1 l4 x hs h) (hp_cwV 2 E wd_637 wd_639 wd_37 wd_41 wd_640 rfl rfl (by decide +kernel) ⟨(Nat.le_of_ble_eq_true rfl), (Nat.le_of_ble_eq_true rfl)⟩) rfl rfl rfl rfl (Nat.le_of_ble_eq_true rfl) dX4_worth_110 ⟨(Nat.le_of_ble_eq_true rfl), (Nat.le_of_ble_eq_true rfl)⟩ (fun r110 x110 hs h => ?_)
      refine hv_if_eq (tgt := 120) E dX4_worth_113 (by decide) (fun c9 => ?_) (fun c9 => ?_)
      · have h := h.1 c9
        refine hv_lload_n E dX4_worth_120 rfl 3 rfl ?_
        refine hv_lconst (v := 1) E dX4_worth_121 (by decide) ?_
        refine hv_ladd (v := l2 + 1) E dX4_worth_122 rfl ?_
        refine hv_lstore_n (lv' := [(5, aL (x.2.2.1 (21, 0) (x.2.1 (32, 0) (((nI 8) * a1) + l4).toNatClampNeg).toNatClampNeg)), (0, aR (20, 0)), (1, aI a1), (4, aI l4)]) E dX4_worth_123 rfl (by decide) rfl ?_
        refine hv_iinc (v := l4 + nI 1) (lv' := [(2, aL (l2 + 1)), (5, aL (x.2.2.1 (21, 0) (x.2.1 (32, 0) (((nI 8) * a1) + l4).toNatClampNeg).toNatClampNeg)), (0, aR (20, 0)), (1, aI a1)]) E 4 dX4_worth_124 rfl (hx_i1 _) (by decide) rfl ?_
        refine hv_goto (tgt := 5) E dX4_worth_127 (by decide) ?_
        refine hv_lv [3, 4, 1, 0] rfl ?_
        exact ih x110 (l2 + 1) (l4 + nI 1) hs h
      · have h := h.2 c9
        refine hv_lload_n E dX4_worth_116 rfl 3 rfl ?_
        refine hv_goto (tgt := 123) E dX4_worth_117 (by decide) ?_
        refine hv_lstore_n (lv' := [(5, aL (x.2.2.1 (21, 0) (x.2.1 (32, 0) (((nI 8) * a1) + l4).toNatClampNeg).toNatClampNeg)), (0, aR (20, 0)), (1, aI a1), (4, aI l4)]) E dX4_worth_123 rfl (by decide) rfl ?_
        refine hv_iinc (v := l4 + nI 1) (lv' := [(2, aL l2), (5, aL (x.2.2.1 (21, 0) (x.2.1 (32, 0) (((nI 8) * a1) + l4).toNatClampNeg).toNatClampNeg)), (0, aR (20, 0)), (1, aI a1)]) E 4 dX4_worth_124 rfl (hx_i1 _) (by decide) rfl ?_
        refine hv_goto (tgt := 5) E dX4_worth_127 (by decide) ?_
        refine hv_lv [3, 4, 1, 0] rfl ?_
        exact ih x110 l2 (l4 + nI 1) hs h
set_option maxRecDepth 100000 in
set_option maxHeartbeats 4000000 in
theorem c_X4_worth (l : Launch) (P : Int64 → hp_S → Prop) (a1 : Int32) (x : hp_S) (hs : hp_sh x) (h : k_X4_worth P a1 x) : hp_C l yX4_worth (Cond.code yX4_worth cX4_worth 7 (Option.some Jvm.ClassFile.FieldType.long) :: hp_ws) rm_X4_worth [aR (20, 0), aI a1] x (hp_pL P) 0 0 := by
  refine hp_ofV (own := "VersionJoinsModel") (lv := [(0, aR (20, 0)), (1, aI a1)]) (by decide) rfl (Nat.le_of_ble_eq_true rfl) rfl ?_
  intro p e s m args below meth c D cA B0 ad0 E hret hnm
  unfold k_X4_worth at h
  refine hv_lconst (v := 0) E dX4_worth_0 (by decide) ?_
  refine hv_lstore_n (lv' := [(0, aR (20, 0)), (1, aI a1)]) E dX4_worth_1 rfl (by decide) rfl ?_
  refine hv_iconst (v := nI 0) E dX4_worth_2 (by decide) ?_
  refine hv_istore (lv' := [(2, aL 0), (0, aR (20, 0)), (1, aI a1)]) E dX4_worth_3 (by decide) rfl ?_
  obtain ⟨n10, h⟩ := h
  refine hv_lv [2, 3, 1, 0] rfl ?_
  exact w_X4_worth_5 E hret a1 n10 x 0 (nI 0) hs h
-- VersionJoinsModel.give(I)I
def k_X4_give_61 (P : Int32 → hp_S → Prop) (a1 : Int32) (f2 : Int64) (K : hp_S → Int32 → Int32 → Prop) : Nat → hp_S → Int32 → Int32 → Prop
  | 0, _, _, _ => False
  | n + 1, x, l4, l5 => vp_in a1 12 ∧ (((x.2.1 (35, 0) a1.toNatClampNeg) ≤ l5 → (K x l4 l5)) ∧ (¬ (x.2.1 (35, 0) a1.toNatClampNeg) ≤ l5 → (vp_in (((nI 4) * a1) + l5) 48 ∧ (vp_in (x.2.1 (34, 0) (((nI 4) * a1) + l5).toNatClampNeg) 144 ∧ (((lg_cmp (x.2.2.1 (21, 0) (x.2.1 (34, 0) (((nI 4) * a1) + l5).toNatClampNeg).toNatClampNeg) f2) = 0 → (vp_in (x.2.1 (34, 0) (((nI 4) * a1) + l5).toNatClampNeg) 144 ∧ (k_X4_give_61 P a1 f2 K n (hp_uL x (21, 0) ((x.2.1 (34, 0) (((nI 4) * a1) + l5).toNatClampNeg).toNatClampNeg) f2) l4 (l5 + nI 1)))) ∧ (¬ (lg_cmp (x.2.2.1 (21, 0) (x.2.1 (34, 0) (((nI 4) * a1) + l5).toNatClampNeg).toNatClampNeg) f2) = 0 → (vp_in (x.2.1 (34, 0) (((nI 4) * a1) + l5).toNatClampNeg) 144 ∧ (k_X4_give_61 P a1 f2 K n (hp_uL x (21, 0) ((x.2.1 (34, 0) (((nI 4) * a1) + l5).toNatClampNeg).toNatClampNeg) f2) (l4 + (nI 1)) (l5 + nI 1)))))))))
def k_X4_give_12 (P : Int32 → hp_S → Prop) (a1 : Int32) (f2 : Int64) (f4 : Int32) : Nat → hp_S → Int32 → Prop
  | 0, _, _ => False
  | n + 1, x, l5 => vp_in a1 12 ∧ (((x.2.1 (33, 0) a1.toNatClampNeg) ≤ l5 → (∃ q, k_X4_give_61 P a1 f2 (fun x_61 l4_61 l5_61 => vp_in a1 12 ∧ (vp_in a1 12 ∧ (vp_in a1 12 ∧ (vp_in a1 12 ∧ (vp_in a1 12 ∧ (vp_in a1 12 ∧ (P l4_61 (hp_uL (hp_uI (hp_uI (hp_uI x_61 (36, 0) a1.toNatClampNeg (nI 1)) (37, 0) a1.toNatClampNeg ((hp_uI x_61 (36, 0) a1.toNatClampNeg (nI 1)).2.1 (33, 0) a1.toNatClampNeg)) (38, 0) a1.toNatClampNeg ((hp_uI (hp_uI x_61 (36, 0) a1.toNatClampNeg (nI 1)) (37, 0) a1.toNatClampNeg ((hp_uI x_61 (36, 0) a1.toNatClampNeg (nI 1)).2.1 (33, 0) a1.toNatClampNeg)).2.1 (35, 0) a1.toNatClampNeg)) (40, 0) a1.toNatClampNeg f2)))))))) q x f4 (nI 0))) ∧ (¬ (x.2.1 (33, 0) a1.toNatClampNeg) ≤ l5 → (vp_in (((nI 8) * a1) + l5) 96 ∧ (vp_in (x.2.1 (32, 0) (((nI 8) * a1) + l5).toNatClampNeg) 144 ∧ (vp_in (((nI 8) * a1) + l5) 96 ∧ (k_X4_give_12 P a1 f2 f4 n (hp_uL x (39, 0) ((((nI 8) * a1) + l5).toNatClampNeg) (x.2.2.1 (21, 0) (x.2.1 (32, 0) (((nI 8) * a1) + l5).toNatClampNeg).toNatClampNeg)) (l5 + nI 1)))))))
def k_X4_give (P : Int32 → hp_S → Prop) (a1 : Int32) (x : hp_S) : Prop := k_X4_worth (fun r2 x2 => ∃ q, k_X4_give_12 P a1 r2 (nI 0) q x2 (nI 0)) a1 x
abbrev rm_X4_give : Room := ({ frames := 2, cells := 0, slots := 0, locals := 50 } : Room)
set_option maxRecDepth 100000 in
set_option maxHeartbeats 4000000 in
theorem w_X4_give_61 {p : Program} {l : Launch} {e : Env} {s : State} {m : MethodId} {args : Array Value} {below : List Frame} {meth : Method} {c : Code} {D : va_G} {cA : Nat → ClassId} {B0 : Nat} {ad0 : hp_T → Nat} {x0 : hp_S} (E : hp_E p s m args meth c cX4_give 7 "VersionJoinsModel" hp_ws D cA B0) (hret : meth.sig.returnType = (Option.some Jvm.ClassFile.FieldType.int)) {P : Int32 → hp_S → Prop} (a1 : Int32) (f2 : Int64) {K : hp_S → Int32 → Int32 → Prop} (hK : ∀ (x : hp_S) (l4 : Int32) (l5 : Int32), hp_sh x → K x l4 l5 → hp_V p l e rm_X4_give s m args below meth c (fun ad0 => MQ below (hp_Q D cA B0 ad0 x0 (hp_pI P)) args s 0 0 (fun q => B0 ≤ q)) D cA B0 7 ad0 x0 0 0 x 122 [(0, aR (20, 0)), (1, aI a1), (2, aL f2), (4, aI l4), (5, aI l5)] []) : ∀ (n : Nat) (x : hp_S) (l4 : Int32) (l5 : Int32), hp_sh x → k_X4_give_61 P a1 f2 K n x l4 l5 → hp_V p l e rm_X4_give s m args below meth c (fun ad0 => MQ below (hp_Q D cA B0 ad0 x0 (hp_pI P)) args s 0 0 (fun q => B0 ≤ q)) D cA B0 7 ad0 x0 0 0 x 61 [(0, aR (20, 0)), (1, aI a1), (2, aL f2), (4, aI l4), (5, aI l5)] [] := by
  intro n
  induction n with
  | zero => intro x l4 l5 hs h; exact absurd h id
  | succ n ih =>
    intro x l4 l5 hs h
    unfold k_X4_give_61 at h
    refine hv_iload E dX4_give_61 4 rfl ?_
    refine hv_aload_n E dX4_give_63 rfl 0 rfl ?_
    refine hv_getR (k := 20) (t2 := (35, 0)) E dX4_give_64 rfl rfl hiX4 (by decide) wd_437 rfl rfl (hs _ _ _ rfl) ?_
    refine hv_iload_n E dX4_give_67 rfl 1 rfl ?_
    obtain ⟨h3, h⟩ := h
    refine hv_iald E dX4_give_68 rfl (by decide) rfl h3 ?_
    refine hv_icmp_ge (tgt := 122) E dX4_give_69 (by decide) (fun c4 => ?_) (fun c4 => ?_)
    · have h := h.1 c4
      refine hv_lv [0, 1, 2, 3, 4] rfl ?_
      exact hK x l4 l5 hs h
    · have h := h.2 c4
      refine hv_aload_n E dX4_give_72 rfl 0 rfl ?_
      refine hv_getR (k := 19) (t2 := (34, 0)) E dX4_give_73 rfl rfl hiX4 (by decide) wd_436 rfl rfl (hs _ _ _ rfl) ?_
      refine hv_iconst (v := nI 4) E dX4_give_76 (by decide) ?_
      refine hv_iload_n E dX4_give_77 rfl 1 rfl ?_
      refine hv_imul (v := (nI 4) * a1) E dX4_give_78 rfl ?_
      refine hv_iload E dX4_give_79 4 rfl ?_
      refine hv_iadd (v := ((nI 4) * a1) + l5) E dX4_give_81 rfl ?_
      obtain ⟨h5, h⟩ := h
      refine hv_iald E dX4_give_82 rfl (by decide) rfl h5 ?_
      refine hv_istore (lv' := [(0, aR (20, 0)), (1, aI a1), (2, aL f2), (4, aI l4), (5, aI l5)]) E dX4_give_83 (by decide) rfl ?_
      refine hv_aload_n E dX4_give_85 rfl 1 rfl ?_
      refine hv_getR (k := 2) (t2 := (21, 0)) E dX4_give_86 rfl rfl hiX4 (by decide) wd_419 rfl rfl (hs _ _ _ rfl) ?_
      refine hv_iload E dX4_give_89 0 rfl ?_
      obtain ⟨h6, h⟩ := h
      refine hv_lald E dX4_give_91 rfl (by decide) rfl h6 ?_
      refine hv_lload_n E dX4_give_92 rfl 3 rfl ?_
      refine hv_lcmp E dX4_give_93 ?_
      refine hv_if_eq (tgt := 104) E dX4_give_94 (by decide) (fun c7 => ?_) (fun c7 => ?_)
      · have h := h.1 c7
        refine hv_iload E dX4_give_104 4 rfl ?_
        refine hv_istore (lv' := [(6, aI (x.2.1 (34, 0) (((nI 4) * a1) + l5).toNatClampNeg)), (0, aR (20, 0)), (1, aI a1), (2, aL f2), (5, aI l5)]) E dX4_give_106 (by decide) rfl ?_
        refine hv_aload_n E dX4_give_108 rfl 2 rfl ?_
        refine hv_getR (k := 2) (t2 := (21, 0)) E dX4_give_109 rfl rfl hiX4 (by decide) wd_419 rfl rfl (hs _ _ _ rfl) ?_
        refine hv_iload E dX4_give_112 1 rfl ?_
        refine hv_lload_n E dX4_give_114 rfl 4 rfl ?_
        obtain ⟨h8, h⟩ := h
        refine hv_last E dX4_give_115 rfl (by decide) rfl h8 ?_
        refine hv_iinc (v := l5 + nI 1) (lv' := [(4, aI l4), (6, aI (x.2.1 (34, 0) (((nI 4) * a1) + l5).toNatClampNeg)), (0, aR (20, 0)), (1, aI a1), (2, aL f2)]) E 5 dX4_give_116 rfl (hx_i1 _) (by decide) rfl ?_
        refine hv_goto (tgt := 61) E dX4_give_119 (by decide) ?_
        refine hv_lv [3, 4, 5, 1, 0] rfl ?_
        exact ih (hp_uL x (21, 0) ((x.2.1 (34, 0) (((nI 4) * a1) + l5).toNatClampNeg).toNatClampNeg) f2) l4 (l5 + nI 1) hs h
      · have h := h.2 c7
        refine hv_iload E dX4_give_97 4 rfl ?_
        refine hv_iconst (v := nI 1) E dX4_give_99 (by decide) ?_
        refine hv_iadd (v := l4 + (nI 1)) E dX4_give_100 rfl ?_
        refine hv_goto (tgt := 106) E dX4_give_101 (by decide) ?_
        refine hv_istore (lv' := [(6, aI (x.2.1 (34, 0) (((nI 4) * a1) + l5).toNatClampNeg)), (0, aR (20, 0)), (1, aI a1), (2, aL f2), (5, aI l5)]) E dX4_give_106 (by decide) rfl ?_
        refine hv_aload_n E dX4_give_108 rfl 2 rfl ?_
        refine hv_getR (k := 2) (t2 := (21, 0)) E dX4_give_109 rfl rfl hiX4 (by decide) wd_419 rfl rfl (hs _ _ _ rfl) ?_
        refine hv_iload E dX4_give_112 1 rfl ?_
        refine hv_lload_n E dX4_give_114 rfl 4 rfl ?_
        obtain ⟨h9, h⟩ := h
        refine hv_last E dX4_give_115 rfl (by decide) rfl h9 ?_
        refine hv_iinc (v := l5 + nI 1) (lv' := [(4, aI (l4 + (nI 1))), (6, aI (x.2.1 (34, 0) (((nI 4) * a1) + l5).toNatClampNeg)), (0, aR (20, 0)), (1, aI a1), (2, aL f2)]) E 5 dX4_give_116 rfl (hx_i1 _) (by decide) rfl ?_
        refine hv_goto (tgt := 61) E dX4_give_119 (by decide) ?_
        refine hv_lv [3, 4, 5, 1, 0] rfl ?_
        exact ih (hp_uL x (21, 0) ((x.2.1 (34, 0) (((nI 4) * a1) + l5).toNatClampNeg).toNatClampNeg) f2) (l4 + (nI 1)) (l5 + nI 1) hs h
set_option maxRecDepth 100000 in
set_option maxHeartbeats 4000000 in
theorem w_X4_give_12 {p : Program} {l : Launch} {e : Env} {s : State} {m : MethodId} {args : Array Value} {below : List Frame} {meth : Method} {c : Code} {D : va_G} {cA : Nat → ClassId} {B0 : Nat} {ad0 : hp_T → Nat} {x0 : hp_S} (E : hp_E p s m args meth c cX4_give 7 "VersionJoinsModel" hp_ws D cA B0) (hret : meth.sig.returnType = (Option.some Jvm.ClassFile.FieldType.int)) {P : Int32 → hp_S → Prop} (a1 : Int32) (f2 : Int64) (f4 : Int32) : ∀ (n : Nat) (x : hp_S) (l5 : Int32), hp_sh x → k_X4_give_12 P a1 f2 f4 n x l5 → hp_V p l e rm_X4_give s m args below meth c (fun ad0 => MQ below (hp_Q D cA B0 ad0 x0 (hp_pI P)) args s 0 0 (fun q => B0 ≤ q)) D cA B0 7 ad0 x0 0 0 x 12 [(0, aR (20, 0)), (1, aI a1), (2, aL f2), (4, aI f4), (5, aI l5)] [] := by
  intro n
  induction n with
  | zero => intro x l5 hs h; exact absurd h id
  | succ n ih =>
    intro x l5 hs h
    unfold k_X4_give_12 at h
    refine hv_iload E dX4_give_12 4 rfl ?_
    refine hv_aload_n E dX4_give_14 rfl 0 rfl ?_
    refine hv_getR (k := 18) (t2 := (33, 0)) E dX4_give_15 rfl rfl hiX4 (by decide) wd_435 rfl rfl (hs _ _ _ rfl) ?_
    refine hv_iload_n E dX4_give_18 rfl 1 rfl ?_
    obtain ⟨h1, h⟩ := h
    refine hv_iald E dX4_give_19 rfl (by decide) rfl h1 ?_
    refine hv_icmp_ge (tgt := 58) E dX4_give_20 (by decide) (fun c2 => ?_) (fun c2 => ?_)
    · have h := h.1 c2
      refine hv_iconst (v := nI 0) E dX4_give_58 (by decide) ?_
      refine hv_istore (lv' := [(0, aR (20, 0)), (1, aI a1), (2, aL f2), (4, aI f4)]) E dX4_give_59 (by decide) rfl ?_
      obtain ⟨n10, h⟩ := h
      refine hv_lv [1, 2, 3, 4, 0] rfl ?_
      refine w_X4_give_61 E hret a1 f2 (K := _) (fun x_61 l4_61 l5_61 hs h => ?_) n10 x f4 (nI 0) hs h
      refine hv_aload_n E dX4_give_122 rfl 0 rfl ?_
      refine hv_getR (k := 21) (t2 := (36, 0)) E dX4_give_123 rfl rfl hiX4 (by decide) wd_438 rfl rfl (hs _ _ _ rfl) ?_
      refine hv_iload_n E dX4_give_126 rfl 1 rfl ?_
      refine hv_iconst (v := nI 1) E dX4_give_127 (by decide) ?_
      obtain ⟨h11, h⟩ := h
      refine hv_zast (w := nI 1) E dX4_give_128 rfl (by decide) rfl h11 (by decide) ?_
      refine hv_aload_n E dX4_give_129 rfl 0 rfl ?_
      refine hv_getR (k := 22) (t2 := (37, 0)) E dX4_give_130 rfl rfl hiX4 (by decide) wd_439 rfl rfl (hs _ _ _ rfl) ?_
      refine hv_iload_n E dX4_give_133 rfl 1 rfl ?_
      refine hv_aload_n E dX4_give_134 rfl 0 rfl ?_
      refine hv_getR (k := 18) (t2 := (33, 0)) E dX4_give_135 rfl rfl hiX4 (by decide) wd_435 rfl rfl (hs _ _ _ rfl) ?_
      refine hv_iload_n E dX4_give_138 rfl 1 rfl ?_
      obtain ⟨h12, h⟩ := h
      refine hv_iald E dX4_give_139 rfl (by decide) rfl h12 ?_
      obtain ⟨h13, h⟩ := h
      refine hv_iast E dX4_give_140 rfl (by decide) rfl h13 ?_
      refine hv_aload_n E dX4_give_141 rfl 0 rfl ?_
      refine hv_getR (k := 23) (t2 := (38, 0)) E dX4_give_142 rfl rfl hiX4 (by decide) wd_440 rfl rfl (hs _ _ _ rfl) ?_
      refine hv_iload_n E dX4_give_145 rfl 1 rfl ?_
      refine hv_aload_n E dX4_give_146 rfl 0 rfl ?_
      refine hv_getR (k := 20) (t2 := (35, 0)) E dX4_give_147 rfl rfl hiX4 (by decide) wd_437 rfl rfl (hs _ _ _ rfl) ?_
      refine hv_iload_n E dX4_give_150 rfl 1 rfl ?_
      obtain ⟨h14, h⟩ := h
      refine hv_iald E dX4_give_151 rfl (by decide) rfl h14 ?_
      obtain ⟨h15, h⟩ := h
      refine hv_iast E dX4_give_152 rfl (by decide) rfl h15 ?_
      refine hv_aload_n E dX4_give_153 rfl 0 rfl ?_
      refine hv_getR (k := 25) (t2 := (40, 0)) E dX4_give_154 rfl rfl hiX4 (by decide) wd_442 rfl rfl (hs _ _ _ rfl) ?_
      refine hv_iload_n E dX4_give_157 rfl 1 rfl ?_
      refine hv_lload_n E dX4_give_158 rfl 2 rfl ?_
      obtain ⟨h16, h⟩ := h
      refine hv_last E dX4_give_159 rfl (by decide) rfl h16 ?_
      refine hv_iload E dX4_give_160 3 rfl ?_
      exact hv_iret E hret dX4_give_162 (Nat.le_of_ble_eq_true rfl) (Nat.le_of_ble_eq_true rfl) ⟨_, rfl, hs, h⟩
    · have h := h.2 c2
      refine hv_aload_n E dX4_give_23 rfl 0 rfl ?_
      refine hv_getR (k := 24) (t2 := (39, 0)) E dX4_give_24 rfl rfl hiX4 (by decide) wd_441 rfl rfl (hs _ _ _ rfl) ?_
      refine hv_bipush (v := nI 8) E dX4_give_27 (by decide) ?_
      refine hv_iload_n E dX4_give_29 rfl 1 rfl ?_
      refine hv_imul (v := (nI 8) * a1) E dX4_give_30 rfl ?_
      refine hv_iload E dX4_give_31 4 rfl ?_
      refine hv_iadd (v := ((nI 8) * a1) + l5) E dX4_give_33 rfl ?_
      refine hv_aload_n E dX4_give_34 rfl 0 rfl ?_
      refine hv_getR (k := 2) (t2 := (21, 0)) E dX4_give_35 rfl rfl hiX4 (by decide) wd_419 rfl rfl (hs _ _ _ rfl) ?_
      refine hv_aload_n E dX4_give_38 rfl 0 rfl ?_
      refine hv_getR (k := 17) (t2 := (32, 0)) E dX4_give_39 rfl rfl hiX4 (by decide) wd_434 rfl rfl (hs _ _ _ rfl) ?_
      refine hv_bipush (v := nI 8) E dX4_give_42 (by decide) ?_
      refine hv_iload_n E dX4_give_44 rfl 1 rfl ?_
      refine hv_imul (v := (nI 8) * a1) E dX4_give_45 rfl ?_
      refine hv_iload E dX4_give_46 4 rfl ?_
      refine hv_iadd (v := ((nI 8) * a1) + l5) E dX4_give_48 rfl ?_
      obtain ⟨h17, h⟩ := h
      refine hv_iald E dX4_give_49 rfl (by decide) rfl h17 ?_
      obtain ⟨h18, h⟩ := h
      refine hv_lald E dX4_give_50 rfl (by decide) rfl h18 ?_
      obtain ⟨h19, h⟩ := h
      refine hv_last E dX4_give_51 rfl (by decide) rfl h19 ?_
      refine hv_iinc (v := l5 + nI 1) (lv' := [(0, aR (20, 0)), (1, aI a1), (2, aL f2), (4, aI f4)]) E 4 dX4_give_52 rfl (hx_i1 _) (by decide) rfl ?_
      refine hv_goto (tgt := 12) E dX4_give_55 (by decide) ?_
      refine hv_lv [1, 2, 3, 4, 0] rfl ?_
      exact ih (hp_uL x (39, 0) ((((nI 8) * a1) + l5).toNatClampNeg) (x.2.2.1 (21, 0) (x.2.1 (32, 0) (((nI 8) * a1) + l5).toNatClampNeg).toNatClampNeg)) (l5 + nI 1) hs h
set_option maxRecDepth 100000 in
set_option maxHeartbeats 4000000 in
theorem c_X4_give (l : Launch) (P : Int32 → hp_S → Prop) (a1 : Int32) (x : hp_S) (hs : hp_sh x) (h : k_X4_give P a1 x) : hp_C l yX4_give (Cond.code yX4_give cX4_give 7 (Option.some Jvm.ClassFile.FieldType.int) :: hp_ws) rm_X4_give [aR (20, 0), aI a1] x (hp_pI P) 0 0 := by
  refine hp_ofV (own := "VersionJoinsModel") (lv := [(0, aR (20, 0)), (1, aI a1)]) (by decide) rfl (Nat.le_of_ble_eq_true rfl) rfl ?_
  intro p e s m args below meth c D cA B0 ad0 E hret hnm
  unfold k_X4_give at h
  refine hv_aload_n E dX4_give_0 rfl 0 rfl ?_
  refine hv_iload_n E dX4_give_1 rfl 1 rfl ?_
  refine hv_VL E [aI a1] (c_X4_worth l _ a1 x hs h) (hp_cwV 1 E wd_633 wd_635 wd_36 wd_41 wd_636 rfl rfl (by decide +kernel) ⟨(Nat.le_of_ble_eq_true rfl), (Nat.le_of_ble_eq_true rfl)⟩) rfl rfl rfl rfl (Nat.le_of_ble_eq_true rfl) dX4_give_2 ⟨(Nat.le_of_ble_eq_true rfl), (Nat.le_of_ble_eq_true rfl)⟩ (fun r2 x2 hs h => ?_)
  refine hv_lstore_n (lv' := [(0, aR (20, 0)), (1, aI a1)]) E dX4_give_5 rfl (by decide) rfl ?_
  refine hv_iconst (v := nI 0) E dX4_give_6 (by decide) ?_
  refine hv_istore (lv' := [(2, aL r2), (0, aR (20, 0)), (1, aI a1)]) E dX4_give_7 (by decide) rfl ?_
  refine hv_iconst (v := nI 0) E dX4_give_9 (by decide) ?_
  refine hv_istore (lv' := [(4, aI (nI 0)), (2, aL r2), (0, aR (20, 0)), (1, aI a1)]) E dX4_give_10 (by decide) rfl ?_
  obtain ⟨n20, h⟩ := h
  refine hv_lv [3, 4, 2, 1, 0] rfl ?_
  exact w_X4_give_12 E hret a1 r2 (nI 0) n20 x2 (nI 0) hs h
-- VersionJoinsModel.isNext(I)Z
def k_X4_isNext_17 (P : Int32 → hp_S → Prop) (a1 : Int32) : Nat → hp_S → Int32 → Int32 → Prop
  | 0, _, _, _ => False
  | n + 1, x, l2, l3 => ((x.2.1 (20, 0) 15) ≤ l3 → ((narrow .boolean (.int l2) = .int l2) ∧ P l2 x)) ∧ (¬ (x.2.1 (20, 0) 15) ≤ l3 → ((l2 = 0 → (k_X4_isNext_17 P a1 n x (nI 0) (l3 + nI 1))) ∧ (¬ l2 = 0 → (vp_in l3 12 ∧ ((¬ (x.2.1 (42, 0) l3.toNatClampNeg) = 0 → (k_X4_isNext_17 P a1 n x (nI 1) (l3 + nI 1))) ∧ ((x.2.1 (42, 0) l3.toNatClampNeg) = 0 → (k_X4_isBehind (fun r41 x41 => (¬ r41 = 0 → (k_X4_isNext_17 P a1 n x41 (nI 0) (l3 + nI 1))) ∧ (r41 = 0 → (k_X4_isNext_17 P a1 n x41 (nI 1) (l3 + nI 1)))) a1 l3 x)))))))
def k_X4_isNext (P : Int32 → hp_S → Prop) (a1 : Int32) (x : hp_S) : Prop := vp_in a1 12 ∧ ((¬ (x.2.1 (42, 0) a1.toNatClampNeg) = 0 → (∃ q, k_X4_isNext_17 P a1 q x (nI 0) (nI 0))) ∧ ((x.2.1 (42, 0) a1.toNatClampNeg) = 0 → (∃ q, k_X4_isNext_17 P a1 q x (nI 1) (nI 0))))
abbrev rm_X4_isNext : Room := ({ frames := 2, cells := 0, slots := 0, locals := 48 } : Room)
set_option maxRecDepth 100000 in
set_option maxHeartbeats 4000000 in
theorem w_X4_isNext_17 {p : Program} {l : Launch} {e : Env} {s : State} {m : MethodId} {args : Array Value} {below : List Frame} {meth : Method} {c : Code} {D : va_G} {cA : Nat → ClassId} {B0 : Nat} {ad0 : hp_T → Nat} {x0 : hp_S} (E : hp_E p s m args meth c cX4_isNext 4 "VersionJoinsModel" hp_ws D cA B0) (hret : meth.sig.returnType = (Option.some Jvm.ClassFile.FieldType.boolean)) {P : Int32 → hp_S → Prop} (a1 : Int32) : ∀ (n : Nat) (x : hp_S) (l2 : Int32) (l3 : Int32), hp_sh x → k_X4_isNext_17 P a1 n x l2 l3 → hp_V p l e rm_X4_isNext s m args below meth c (fun ad0 => MQ below (hp_Q D cA B0 ad0 x0 (hp_pI P)) args s 0 0 (fun q => B0 ≤ q)) D cA B0 4 ad0 x0 0 0 x 17 [(0, aR (20, 0)), (1, aI a1), (2, aI l2), (3, aI l3)] [] := by
  intro n
  induction n with
  | zero => intro x l2 l3 hs h; exact absurd h id
  | succ n ih =>
    intro x l2 l3 hs h
    unfold k_X4_isNext_17 at h
    refine hv_iload_n E dX4_isNext_17 rfl 3 rfl ?_
    refine hv_aload_n E dX4_isNext_18 rfl 0 rfl ?_
    refine hv_getI (k := 15) E dX4_isNext_19 rfl rfl hiX4 (by decide) wd_432 rfl rfl ?_
    refine hv_icmp_ge (tgt := 59) E dX4_isNext_22 (by decide) (fun c3 => ?_) (fun c3 => ?_)
    · have h := h.1 c3
      refine hv_iload_n E dX4_isNext_59 rfl 2 rfl ?_
      obtain ⟨h4, h⟩ := h
      exact hv_zret E hret dX4_isNext_60 h4 (Nat.le_of_ble_eq_true rfl) (Nat.le_of_ble_eq_true rfl) ⟨_, rfl, hs, h⟩
    · have h := h.2 c3
      refine hv_iload_n E dX4_isNext_25 rfl 2 rfl ?_
      refine hv_if_eq (tgt := 51) E dX4_isNext_26 (by decide) (fun c5 => ?_) (fun c5 => ?_)
      · have h := h.1 c5
        refine hv_iconst (v := nI 0) E dX4_isNext_51 (by decide) ?_
        refine hv_istore_n (lv' := [(0, aR (20, 0)), (1, aI a1), (3, aI l3)]) E dX4_isNext_52 rfl (by decide) rfl ?_
        refine hv_iinc (v := l3 + nI 1) (lv' := [(2, aI (nI 0)), (0, aR (20, 0)), (1, aI a1)]) E 3 dX4_isNext_53 rfl (hx_i1 _) (by decide) rfl ?_
        refine hv_goto (tgt := 17) E dX4_isNext_56 (by decide) ?_
        refine hv_lv [2, 3, 1, 0] rfl ?_
        exact ih x (nI 0) (l3 + nI 1) hs h
      · have h := h.2 c5
        refine hv_aload_n E dX4_isNext_29 rfl 0 rfl ?_
        refine hv_getR (k := 27) (t2 := (42, 0)) E dX4_isNext_30 rfl rfl hiX4 (by decide) wd_444 rfl rfl (hs _ _ _ rfl) ?_
        refine hv_iload_n E dX4_isNext_33 rfl 3 rfl ?_
        obtain ⟨h6, h⟩ := h
        refine hv_zald E dX4_isNext_34 rfl (by decide) rfl h6 ?_
        refine hv_if_ne (tgt := 47) E dX4_isNext_35 (by decide) (fun c7 => ?_) (fun c7 => ?_)
        · have h := h.1 c7
          refine hv_iconst (v := nI 1) E dX4_isNext_47 (by decide) ?_
          refine hv_goto (tgt := 52) E dX4_isNext_48 (by decide) ?_
          refine hv_istore_n (lv' := [(0, aR (20, 0)), (1, aI a1), (3, aI l3)]) E dX4_isNext_52 rfl (by decide) rfl ?_
          refine hv_iinc (v := l3 + nI 1) (lv' := [(2, aI (nI 1)), (0, aR (20, 0)), (1, aI a1)]) E 3 dX4_isNext_53 rfl (hx_i1 _) (by decide) rfl ?_
          refine hv_goto (tgt := 17) E dX4_isNext_56 (by decide) ?_
          refine hv_lv [2, 3, 1, 0] rfl ?_
          exact ih x (nI 1) (l3 + nI 1) hs h
        · have h := h.2 c7
          refine hv_aload_n E dX4_isNext_38 rfl 0 rfl ?_
          refine hv_iload_n E dX4_isNext_39 rfl 1 rfl ?_
          refine hv_iload_n E dX4_isNext_40 rfl 3 rfl ?_
          refine hv_VI E [aI a1, aI l3] (c_X4_isBehind l _ a1 l3 x hs h) (hp_cwV 2 E wd_540 wd_542 wd_23 wd_41 wd_543 rfl rfl (by decide +kernel) ⟨(Nat.le_of_ble_eq_true rfl), (Nat.le_of_ble_eq_true rfl)⟩) rfl rfl rfl rfl (Nat.le_of_ble_eq_true rfl) dX4_isNext_41 ⟨(Nat.le_of_ble_eq_true rfl), (Nat.le_of_ble_eq_true rfl)⟩ (fun r41 x41 hs h => ?_)
          refine hv_if_ne (tgt := 51) E dX4_isNext_44 (by decide) (fun c8 => ?_) (fun c8 => ?_)
          · have h := h.1 c8
            refine hv_iconst (v := nI 0) E dX4_isNext_51 (by decide) ?_
            refine hv_istore_n (lv' := [(0, aR (20, 0)), (1, aI a1), (3, aI l3)]) E dX4_isNext_52 rfl (by decide) rfl ?_
            refine hv_iinc (v := l3 + nI 1) (lv' := [(2, aI (nI 0)), (0, aR (20, 0)), (1, aI a1)]) E 3 dX4_isNext_53 rfl (hx_i1 _) (by decide) rfl ?_
            refine hv_goto (tgt := 17) E dX4_isNext_56 (by decide) ?_
            refine hv_lv [2, 3, 1, 0] rfl ?_
            exact ih x41 (nI 0) (l3 + nI 1) hs h
          · have h := h.2 c8
            refine hv_iconst (v := nI 1) E dX4_isNext_47 (by decide) ?_
            refine hv_goto (tgt := 52) E dX4_isNext_48 (by decide) ?_
            refine hv_istore_n (lv' := [(0, aR (20, 0)), (1, aI a1), (3, aI l3)]) E dX4_isNext_52 rfl (by decide) rfl ?_
            refine hv_iinc (v := l3 + nI 1) (lv' := [(2, aI (nI 1)), (0, aR (20, 0)), (1, aI a1)]) E 3 dX4_isNext_53 rfl (hx_i1 _) (by decide) rfl ?_
            refine hv_goto (tgt := 17) E dX4_isNext_56 (by decide) ?_
            refine hv_lv [2, 3, 1, 0] rfl ?_
            exact ih x41 (nI 1) (l3 + nI 1) hs h
set_option maxRecDepth 100000 in
set_option maxHeartbeats 4000000 in
theorem c_X4_isNext (l : Launch) (P : Int32 → hp_S → Prop) (a1 : Int32) (x : hp_S) (hs : hp_sh x) (h : k_X4_isNext P a1 x) : hp_C l yX4_isNext (Cond.code yX4_isNext cX4_isNext 4 (Option.some Jvm.ClassFile.FieldType.boolean) :: hp_ws) rm_X4_isNext [aR (20, 0), aI a1] x (hp_pI P) 0 0 := by
  refine hp_ofV (own := "VersionJoinsModel") (lv := [(0, aR (20, 0)), (1, aI a1)]) (by decide) rfl (Nat.le_of_ble_eq_true rfl) rfl ?_
  intro p e s m args below meth c D cA B0 ad0 E hret hnm
  unfold k_X4_isNext at h
  refine hv_aload_n E dX4_isNext_0 rfl 0 rfl ?_
  refine hv_getR (k := 27) (t2 := (42, 0)) E dX4_isNext_1 rfl rfl hiX4 (by decide) wd_444 rfl rfl (hs _ _ _ rfl) ?_
  refine hv_iload_n E dX4_isNext_4 rfl 1 rfl ?_
  obtain ⟨h1, h⟩ := h
  refine hv_zald E dX4_isNext_5 rfl (by decide) rfl h1 ?_
  refine hv_if_ne (tgt := 13) E dX4_isNext_6 (by decide) (fun c2 => ?_) (fun c2 => ?_)
  · have h := h.1 c2
    refine hv_iconst (v := nI 0) E dX4_isNext_13 (by decide) ?_
    refine hv_istore_n (lv' := [(0, aR (20, 0)), (1, aI a1)]) E dX4_isNext_14 rfl (by decide) rfl ?_
    refine hv_iconst (v := nI 0) E dX4_isNext_15 (by decide) ?_
    refine hv_istore_n (lv' := [(2, aI (nI 0)), (0, aR (20, 0)), (1, aI a1)]) E dX4_isNext_16 rfl (by decide) rfl ?_
    obtain ⟨n9, h⟩ := h
    refine hv_lv [2, 3, 1, 0] rfl ?_
    exact w_X4_isNext_17 E hret a1 n9 x (nI 0) (nI 0) hs h
  · have h := h.2 c2
    refine hv_iconst (v := nI 1) E dX4_isNext_9 (by decide) ?_
    refine hv_goto (tgt := 14) E dX4_isNext_10 (by decide) ?_
    refine hv_istore_n (lv' := [(0, aR (20, 0)), (1, aI a1)]) E dX4_isNext_14 rfl (by decide) rfl ?_
    refine hv_iconst (v := nI 0) E dX4_isNext_15 (by decide) ?_
    refine hv_istore_n (lv' := [(2, aI (nI 1)), (0, aR (20, 0)), (1, aI a1)]) E dX4_isNext_16 rfl (by decide) rfl ?_
    obtain ⟨n10, h⟩ := h
    refine hv_lv [2, 3, 1, 0] rfl ?_
    exact w_X4_isNext_17 E hret a1 n10 x (nI 1) (nI 0) hs h
-- VersionJoinsModel.isBefore(II)Z
def k_X4_isBefore (P : Int32 → hp_S → Prop) (a1 : Int32) (a2 : Int32) (x : hp_S) : Prop := k_X4_unmark (fun x1 => vp_in a1 12 ∧ (k_X4_markBehind (fun x12 => vp_in a2 12 ∧ ((narrow .boolean (.int (x12.2.1 (41, 0) a2.toNatClampNeg)) = .int (x12.2.1 (41, 0) a2.toNatClampNeg)) ∧ P (x12.2.1 (41, 0) a2.toNatClampNeg) x12))  (hp_uI x1 (41, 0) a1.toNatClampNeg (nI 1))))  x
abbrev rm_X4_isBefore : Room := ({ frames := 3, cells := 0, slots := 0, locals := 71 } : Room)
set_option maxRecDepth 100000 in
set_option maxHeartbeats 4000000 in
theorem c_X4_isBefore (l : Launch) (P : Int32 → hp_S → Prop) (a1 : Int32) (a2 : Int32) (x : hp_S) (hs : hp_sh x) (h : k_X4_isBefore P a1 a2 x) : hp_C l yX4_isBefore (Cond.code yX4_isBefore cX4_isBefore 3 (Option.some Jvm.ClassFile.FieldType.boolean) :: hp_ws) rm_X4_isBefore [aR (20, 0), aI a1, aI a2] x (hp_pI P) 0 0 := by
  refine hp_ofV (own := "VersionJoinsModel") (lv := [(0, aR (20, 0)), (1, aI a1), (2, aI a2)]) (by decide) rfl (Nat.le_of_ble_eq_true rfl) rfl ?_
  intro p e s m args below meth c D cA B0 ad0 E hret hnm
  unfold k_X4_isBefore at h
  refine hv_aload_n E dX4_isBefore_0 rfl 0 rfl ?_
  refine hv_VV E [] (c_X4_unmark l _  x hs h) (hp_cwV 0 E wd_532 wd_534 wd_21 wd_41 wd_535 rfl rfl (by decide +kernel) ⟨(Nat.le_of_ble_eq_true rfl), (Nat.le_of_ble_eq_true rfl)⟩) rfl rfl rfl rfl (Nat.le_of_ble_eq_true rfl) dX4_isBefore_1 ⟨(Nat.le_of_ble_eq_true rfl), (Nat.le_of_ble_eq_true rfl)⟩ (fun x1 hs h => ?_)
  refine hv_aload_n E dX4_isBefore_4 rfl 0 rfl ?_
  refine hv_getR (k := 26) (t2 := (41, 0)) E dX4_isBefore_5 rfl rfl hiX4 (by decide) wd_443 rfl rfl (hs _ _ _ rfl) ?_
  refine hv_iload_n E dX4_isBefore_8 rfl 1 rfl ?_
  refine hv_iconst (v := nI 1) E dX4_isBefore_9 (by decide) ?_
  obtain ⟨h1, h⟩ := h
  refine hv_zast (w := nI 1) E dX4_isBefore_10 rfl (by decide) rfl h1 (by decide) ?_
  refine hv_aload_n E dX4_isBefore_11 rfl 0 rfl ?_
  refine hv_VV E [] (c_X4_markBehind l _  (hp_uI x1 (41, 0) a1.toNatClampNeg (nI 1)) hs h) (hp_cwV 0 E wd_536 wd_538 wd_22 wd_41 wd_539 rfl rfl (by decide +kernel) ⟨(Nat.le_of_ble_eq_true rfl), (Nat.le_of_ble_eq_true rfl)⟩) rfl rfl rfl rfl (Nat.le_of_ble_eq_true rfl) dX4_isBefore_12 ⟨(Nat.le_of_ble_eq_true rfl), (Nat.le_of_ble_eq_true rfl)⟩ (fun x12 hs h => ?_)
  refine hv_aload_n E dX4_isBefore_15 rfl 0 rfl ?_
  refine hv_getR (k := 26) (t2 := (41, 0)) E dX4_isBefore_16 rfl rfl hiX4 (by decide) wd_443 rfl rfl (hs _ _ _ rfl) ?_
  refine hv_iload_n E dX4_isBefore_19 rfl 2 rfl ?_
  obtain ⟨h2, h⟩ := h
  refine hv_zald E dX4_isBefore_20 rfl (by decide) rfl h2 ?_
  obtain ⟨h3, h⟩ := h
  exact hv_zret E hret dX4_isBefore_21 h3 (Nat.le_of_ble_eq_true rfl) (Nat.le_of_ble_eq_true rfl) ⟨_, rfl, hs, h⟩
-- VersionJoinsModel.go(I)V
def k_X4_go_37 (P : hp_S → Prop) (a1 : Int32) (K : hp_S → Int32 → Prop) : Nat → hp_S → Int32 → Prop
  | 0, _, _ => False
  | n + 1, x, l2 => ((x.2.1 (20, 0) 15) ≤ l2 → (K x l2)) ∧ (¬ (x.2.1 (20, 0) 15) ≤ l2 → (k_X4_isNext (fun r47 x47 => (r47 = 0 → (k_X4_go_37 P a1 K n x47 (l2 + nI 1))) ∧ (¬ r47 = 0 → (k_X4_isBefore (fun r56 x56 => (r56 = 0 → (vp_in l2 12 ∧ (k_X4_go_37 P a1 K n (hp_uI x56 (42, 0) l2.toNatClampNeg (nI 1)) (l2 + nI 1)))) ∧ (¬ r56 = 0 → (k_X4_stale (fun r64 x64 => (r64 = 0 → (vp_in l2 12 ∧ (k_X4_go_37 P a1 K n (hp_uI x64 (42, 0) l2.toNatClampNeg (nI 1)) (l2 + nI 1)))) ∧ (¬ r64 = 0 → (k_X4_give (fun r77 x77 => (¬ ((hp_uI x77 (20, 0) 28 ((x64.2.1 (20, 0) 28) + r77)).2.1 (20, 0) 29) = 0 → (vp_in l2 12 ∧ (k_X4_go_37 P a1 K n (hp_uI (hp_uI (hp_uI x77 (20, 0) 28 ((x64.2.1 (20, 0) 28) + r77)) (20, 0) 29 (nI 1)) (42, 0) l2.toNatClampNeg (nI 1)) (l2 + nI 1)))) ∧ (((hp_uI x77 (20, 0) 28 ((x64.2.1 (20, 0) 28) + r77)).2.1 (20, 0) 29) = 0 → ((¬ l2 = a1 → (vp_in l2 12 ∧ (k_X4_go_37 P a1 K n (hp_uI (hp_uI (hp_uI x77 (20, 0) 28 ((x64.2.1 (20, 0) 28) + r77)) (20, 0) 29 (nI 0)) (42, 0) l2.toNatClampNeg (nI 1)) (l2 + nI 1)))) ∧ (l2 = a1 → (vp_in l2 12 ∧ (k_X4_go_37 P a1 K n (hp_uI (hp_uI (hp_uI x77 (20, 0) 28 ((x64.2.1 (20, 0) 28) + r77)) (20, 0) 29 (nI 1)) (42, 0) l2.toNatClampNeg (nI 1)) (l2 + nI 1))))))) l2 x64))) l2 x56))) l2 a1 x47))) l2 x))
def k_X4_go_26 (P : hp_S → Prop) (a1 : Int32) (K : hp_S → Int32 → Prop) : Nat → hp_S → Int32 → Prop
  | 0, _, _ => False
  | n + 1, x, l2 => vp_in a1 12 ∧ ((¬ (x.2.1 (42, 0) a1.toNatClampNeg) = 0 → (K x l2)) ∧ ((x.2.1 (42, 0) a1.toNatClampNeg) = 0 → (∃ q, k_X4_go_37 P a1 (fun x_37 l2_37 => k_X4_go_26 P a1 K n x_37 l2_37) q x (nI 0))))
def k_X4_go_7 (P : hp_S → Prop) (a1 : Int32) : Nat → hp_S → Int32 → Prop
  | 0, _, _ => False
  | n + 1, x, l2 => ((nI 12) ≤ l2 → (∃ q, k_X4_go_26 P a1 (fun x_26 l2_26 => P x_26) q x l2)) ∧ (¬ (nI 12) ≤ l2 → (vp_in l2 12 ∧ (k_X4_go_7 P a1 n (hp_uI x (42, 0) l2.toNatClampNeg (nI 0)) (l2 + nI 1))))
def k_X4_go (P : hp_S → Prop) (a1 : Int32) (x : hp_S) : Prop := ∃ q, k_X4_go_7 P a1 q (hp_uI x (20, 0) 29 (nI 0)) (nI 0)
abbrev rm_X4_go : Room := ({ frames := 4, cells := 0, slots := 0, locals := 93 } : Room)
set_option maxRecDepth 100000 in
set_option maxHeartbeats 4000000 in
theorem w_X4_go_37 {p : Program} {l : Launch} {e : Env} {s : State} {m : MethodId} {args : Array Value} {below : List Frame} {meth : Method} {c : Code} {D : va_G} {cA : Nat → ClassId} {B0 : Nat} {ad0 : hp_T → Nat} {x0 : hp_S} (E : hp_E p s m args meth c cX4_go 3 "VersionJoinsModel" hp_ws D cA B0) (hret : meth.sig.returnType = (Option.none : Option Jvm.ClassFile.FieldType)) {P : hp_S → Prop} (a1 : Int32) {K : hp_S → Int32 → Prop} (hK : ∀ (x : hp_S) (l2 : Int32), hp_sh x → K x l2 → hp_V p l e rm_X4_go s m args below meth c (fun ad0 => MQ below (hp_Q D cA B0 ad0 x0 (hp_pV P)) args s 0 0 (fun q => B0 ≤ q)) D cA B0 3 ad0 x0 0 0 x 118 [(0, aR (20, 0)), (1, aI a1), (2, aI l2)] []) : ∀ (n : Nat) (x : hp_S) (l2 : Int32), hp_sh x → k_X4_go_37 P a1 K n x l2 → hp_V p l e rm_X4_go s m args below meth c (fun ad0 => MQ below (hp_Q D cA B0 ad0 x0 (hp_pV P)) args s 0 0 (fun q => B0 ≤ q)) D cA B0 3 ad0 x0 0 0 x 37 [(0, aR (20, 0)), (1, aI a1), (2, aI l2)] [] := by
  intro n
  induction n with
  | zero => intro x l2 hs h; exact absurd h id
  | succ n ih =>
    intro x l2 hs h
    unfold k_X4_go_37 at h
    refine hv_iload_n E dX4_go_37 rfl 2 rfl ?_
    refine hv_aload_n E dX4_go_38 rfl 0 rfl ?_
    refine hv_getI (k := 15) E dX4_go_39 rfl rfl hiX4 (by decide) wd_432 rfl rfl ?_
    refine hv_icmp_ge (tgt := 118) E dX4_go_42 (by decide) (fun c4 => ?_) (fun c4 => ?_)
    · have h := h.1 c4
      refine hv_lv [0, 1, 2] rfl ?_
      exact hK x l2 hs h
    · have h := h.2 c4
      refine hv_aload_n E dX4_go_45 rfl 0 rfl ?_
      refine hv_iload_n E dX4_go_46 rfl 2 rfl ?_
      refine hv_VI E [aI l2] (c_X4_isNext l _ l2 x hs h) (hp_cwV 1 E wd_620 wd_622 wd_33 wd_41 wd_623 rfl rfl (by decide +kernel) ⟨(Nat.le_of_ble_eq_true rfl), (Nat.le_of_ble_eq_true rfl)⟩) rfl rfl rfl rfl (Nat.le_of_ble_eq_true rfl) dX4_go_47 ⟨(Nat.le_of_ble_eq_true rfl), (Nat.le_of_ble_eq_true rfl)⟩ (fun r47 x47 hs h => ?_)
      refine hv_if_eq (tgt := 112) E dX4_go_50 (by decide) (fun c5 => ?_) (fun c5 => ?_)
      · have h := h.1 c5
        refine hv_iinc (v := l2 + nI 1) (lv' := [(0, aR (20, 0)), (1, aI a1)]) E 2 dX4_go_112 rfl (hx_i1 _) (by decide) rfl ?_
        refine hv_goto (tgt := 37) E dX4_go_115 (by decide) ?_
        refine hv_lv [1, 2, 0] rfl ?_
        exact ih x47 (l2 + nI 1) hs h
      · have h := h.2 c5
        refine hv_aload_n E dX4_go_53 rfl 0 rfl ?_
        refine hv_iload_n E dX4_go_54 rfl 2 rfl ?_
        refine hv_iload_n E dX4_go_55 rfl 1 rfl ?_
        refine hv_VI E [aI l2, aI a1] (c_X4_isBefore l _ l2 a1 x47 hs h) (hp_cwV 2 E wd_624 wd_626 wd_34 wd_41 wd_627 rfl rfl (by decide +kernel) ⟨(Nat.le_of_ble_eq_true rfl), (Nat.le_of_ble_eq_true rfl)⟩) rfl rfl rfl rfl (Nat.le_of_ble_eq_true rfl) dX4_go_56 ⟨(Nat.le_of_ble_eq_true rfl), (Nat.le_of_ble_eq_true rfl)⟩ (fun r56 x56 hs h => ?_)
        refine hv_if_eq (tgt := 105) E dX4_go_59 (by decide) (fun c6 => ?_) (fun c6 => ?_)
        · have h := h.1 c6
          refine hv_aload_n E dX4_go_105 rfl 0 rfl ?_
          refine hv_getR (k := 27) (t2 := (42, 0)) E dX4_go_106 rfl rfl hiX4 (by decide) wd_444 rfl rfl (hs _ _ _ rfl) ?_
          refine hv_iload_n E dX4_go_109 rfl 2 rfl ?_
          refine hv_iconst (v := nI 1) E dX4_go_110 (by decide) ?_
          obtain ⟨h7, h⟩ := h
          refine hv_zast (w := nI 1) E dX4_go_111 rfl (by decide) rfl h7 (by decide) ?_
          refine hv_iinc (v := l2 + nI 1) (lv' := [(0, aR (20, 0)), (1, aI a1)]) E 2 dX4_go_112 rfl (hx_i1 _) (by decide) rfl ?_
          refine hv_goto (tgt := 37) E dX4_go_115 (by decide) ?_
          refine hv_lv [1, 2, 0] rfl ?_
          exact ih (hp_uI x56 (42, 0) l2.toNatClampNeg (nI 1)) (l2 + nI 1) hs h
        · have h := h.2 c6
          refine hv_aload_n E dX4_go_62 rfl 0 rfl ?_
          refine hv_iload_n E dX4_go_63 rfl 2 rfl ?_
          refine hv_VI E [aI l2] (c_X4_stale l _ l2 x56 hs h) (hp_cwV 1 E wd_628 wd_605 wd_606 wd_41 wd_607 rfl rfl (by decide +kernel) ⟨(Nat.le_of_ble_eq_true rfl), (Nat.le_of_ble_eq_true rfl)⟩) rfl rfl rfl rfl (Nat.le_of_ble_eq_true rfl) dX4_go_64 ⟨(Nat.le_of_ble_eq_true rfl), (Nat.le_of_ble_eq_true rfl)⟩ (fun r64 x64 hs h => ?_)
          refine hv_if_eq (tgt := 105) E dX4_go_67 (by decide) (fun c8 => ?_) (fun c8 => ?_)
          · have h := h.1 c8
            refine hv_aload_n E dX4_go_105 rfl 0 rfl ?_
            refine hv_getR (k := 27) (t2 := (42, 0)) E dX4_go_106 rfl rfl hiX4 (by decide) wd_444 rfl rfl (hs _ _ _ rfl) ?_
            refine hv_iload_n E dX4_go_109 rfl 2 rfl ?_
            refine hv_iconst (v := nI 1) E dX4_go_110 (by decide) ?_
            obtain ⟨h9, h⟩ := h
            refine hv_zast (w := nI 1) E dX4_go_111 rfl (by decide) rfl h9 (by decide) ?_
            refine hv_iinc (v := l2 + nI 1) (lv' := [(0, aR (20, 0)), (1, aI a1)]) E 2 dX4_go_112 rfl (hx_i1 _) (by decide) rfl ?_
            refine hv_goto (tgt := 37) E dX4_go_115 (by decide) ?_
            refine hv_lv [1, 2, 0] rfl ?_
            exact ih (hp_uI x64 (42, 0) l2.toNatClampNeg (nI 1)) (l2 + nI 1) hs h
          · have h := h.2 c8
            refine hv_aload_n E dX4_go_70 rfl 0 rfl ?_
            refine hv_dup E dX4_go_71 rfl ?_
            refine hv_getI (k := 28) E dX4_go_72 rfl rfl hiX4 (by decide) wd_445 rfl rfl ?_
            refine hv_aload_n E dX4_go_75 rfl 0 rfl ?_
            refine hv_iload_n E dX4_go_76 rfl 2 rfl ?_
            refine hv_VI E [aI l2] (c_X4_give l _ l2 x64 hs h) (hp_cwV 1 E wd_629 wd_631 wd_35 wd_41 wd_632 rfl rfl (by decide +kernel) ⟨(Nat.le_of_ble_eq_true rfl), (Nat.le_of_ble_eq_true rfl)⟩) rfl rfl rfl rfl (Nat.le_of_ble_eq_true rfl) dX4_go_77 ⟨(Nat.le_of_ble_eq_true rfl), (Nat.le_of_ble_eq_true rfl)⟩ (fun r77 x77 hs h => ?_)
            refine hv_iadd (v := (x64.2.1 (20, 0) 28) + r77) E dX4_go_80 rfl ?_
            refine hv_putI (ty := .int) (k := 28) E tyX4 okX4 nmX4 dX4_go_81 rfl rfl hiX4 (by decide) wd_445 rfl rfl (Or.inl rfl) (by decide +kernel) rfl rfl ?_
            refine hv_aload_n E dX4_go_84 rfl 0 rfl ?_
            refine hv_aload_n E dX4_go_85 rfl 0 rfl ?_
            refine hv_getI (k := 29) E dX4_go_86 rfl rfl hiX4 (by decide) wd_446 rfl rfl ?_
            refine hv_if_ne (tgt := 97) E dX4_go_89 (by decide) (fun c10 => ?_) (fun c10 => ?_)
            · have h := h.1 c10
              refine hv_iconst (v := nI 1) E dX4_go_97 (by decide) ?_
              refine hv_goto (tgt := 102) E dX4_go_98 (by decide) ?_
              refine hv_putI (ty := .boolean) (k := 29) E tyX4 okX4 nmX4 dX4_go_102 rfl rfl hiX4 (by decide) wd_446 rfl rfl (Or.inl rfl) (by decide +kernel) (by decide) rfl ?_
              refine hv_aload_n E dX4_go_105 rfl 0 rfl ?_
              refine hv_getR (k := 27) (t2 := (42, 0)) E dX4_go_106 rfl rfl hiX4 (by decide) wd_444 rfl rfl (hs _ _ _ rfl) ?_
              refine hv_iload_n E dX4_go_109 rfl 2 rfl ?_
              refine hv_iconst (v := nI 1) E dX4_go_110 (by decide) ?_
              obtain ⟨h11, h⟩ := h
              refine hv_zast (w := nI 1) E dX4_go_111 rfl (by decide) rfl h11 (by decide) ?_
              refine hv_iinc (v := l2 + nI 1) (lv' := [(0, aR (20, 0)), (1, aI a1)]) E 2 dX4_go_112 rfl (hx_i1 _) (by decide) rfl ?_
              refine hv_goto (tgt := 37) E dX4_go_115 (by decide) ?_
              refine hv_lv [1, 2, 0] rfl ?_
              exact ih (hp_uI (hp_uI (hp_uI x77 (20, 0) 28 ((x64.2.1 (20, 0) 28) + r77)) (20, 0) 29 (nI 1)) (42, 0) l2.toNatClampNeg (nI 1)) (l2 + nI 1) hs h
            · have h := h.2 c10
              refine hv_iload_n E dX4_go_92 rfl 2 rfl ?_
              refine hv_iload_n E dX4_go_93 rfl 1 rfl ?_
              refine hv_icmp_ne (tgt := 101) E dX4_go_94 (by decide) (fun c12 => ?_) (fun c12 => ?_)
              · have h := h.1 c12
                refine hv_iconst (v := nI 0) E dX4_go_101 (by decide) ?_
                refine hv_putI (ty := .boolean) (k := 29) E tyX4 okX4 nmX4 dX4_go_102 rfl rfl hiX4 (by decide) wd_446 rfl rfl (Or.inl rfl) (by decide +kernel) (by decide) rfl ?_
                refine hv_aload_n E dX4_go_105 rfl 0 rfl ?_
                refine hv_getR (k := 27) (t2 := (42, 0)) E dX4_go_106 rfl rfl hiX4 (by decide) wd_444 rfl rfl (hs _ _ _ rfl) ?_
                refine hv_iload_n E dX4_go_109 rfl 2 rfl ?_
                refine hv_iconst (v := nI 1) E dX4_go_110 (by decide) ?_
                obtain ⟨h13, h⟩ := h
                refine hv_zast (w := nI 1) E dX4_go_111 rfl (by decide) rfl h13 (by decide) ?_
                refine hv_iinc (v := l2 + nI 1) (lv' := [(0, aR (20, 0)), (1, aI a1)]) E 2 dX4_go_112 rfl (hx_i1 _) (by decide) rfl ?_
                refine hv_goto (tgt := 37) E dX4_go_115 (by decide) ?_
                refine hv_lv [1, 2, 0] rfl ?_
                exact ih (hp_uI (hp_uI (hp_uI x77 (20, 0) 28 ((x64.2.1 (20, 0) 28) + r77)) (20, 0) 29 (nI 0)) (42, 0) l2.toNatClampNeg (nI 1)) (l2 + nI 1) hs h
              · have h := h.2 c12
                refine hv_iconst (v := nI 1) E dX4_go_97 (by decide) ?_
                refine hv_goto (tgt := 102) E dX4_go_98 (by decide) ?_
                refine hv_putI (ty := .boolean) (k := 29) E tyX4 okX4 nmX4 dX4_go_102 rfl rfl hiX4 (by decide) wd_446 rfl rfl (Or.inl rfl) (by decide +kernel) (by decide) rfl ?_
                refine hv_aload_n E dX4_go_105 rfl 0 rfl ?_
                refine hv_getR (k := 27) (t2 := (42, 0)) E dX4_go_106 rfl rfl hiX4 (by decide) wd_444 rfl rfl (hs _ _ _ rfl) ?_
                refine hv_iload_n E dX4_go_109 rfl 2 rfl ?_
                refine hv_iconst (v := nI 1) E dX4_go_110 (by decide) ?_
                obtain ⟨h14, h⟩ := h
                refine hv_zast (w := nI 1) E dX4_go_111 rfl (by decide) rfl h14 (by decide) ?_
                refine hv_iinc (v := l2 + nI 1) (lv' := [(0, aR (20, 0)), (1, aI a1)]) E 2 dX4_go_112 rfl (hx_i1 _) (by decide) rfl ?_
                refine hv_goto (tgt := 37) E dX4_go_115 (by decide) ?_
                refine hv_lv [1, 2, 0] rfl ?_
                exact ih (hp_uI (hp_uI (hp_uI x77 (20, 0) 28 ((x64.2.1 (20, 0) 28) + r77)) (20, 0) 29 (nI 1)) (42, 0) l2.toNatClampNeg (nI 1)) (l2 + nI 1) hs h
set_option maxRecDepth 100000 in
set_option maxHeartbeats 4000000 in
theorem w_X4_go_26 {p : Program} {l : Launch} {e : Env} {s : State} {m : MethodId} {args : Array Value} {below : List Frame} {meth : Method} {c : Code} {D : va_G} {cA : Nat → ClassId} {B0 : Nat} {ad0 : hp_T → Nat} {x0 : hp_S} (E : hp_E p s m args meth c cX4_go 3 "VersionJoinsModel" hp_ws D cA B0) (hret : meth.sig.returnType = (Option.none : Option Jvm.ClassFile.FieldType)) {P : hp_S → Prop} (a1 : Int32) {K : hp_S → Int32 → Prop} (hK : ∀ (x : hp_S) (l2 : Int32), hp_sh x → K x l2 → hp_V p l e rm_X4_go s m args below meth c (fun ad0 => MQ below (hp_Q D cA B0 ad0 x0 (hp_pV P)) args s 0 0 (fun q => B0 ≤ q)) D cA B0 3 ad0 x0 0 0 x 121 [(0, aR (20, 0)), (1, aI a1), (2, aI l2)] []) : ∀ (n : Nat) (x : hp_S) (l2 : Int32), hp_sh x → k_X4_go_26 P a1 K n x l2 → hp_V p l e rm_X4_go s m args below meth c (fun ad0 => MQ below (hp_Q D cA B0 ad0 x0 (hp_pV P)) args s 0 0 (fun q => B0 ≤ q)) D cA B0 3 ad0 x0 0 0 x 26 [(0, aR (20, 0)), (1, aI a1), (2, aI l2)] [] := by
  intro n
  induction n with
  | zero => intro x l2 hs h; exact absurd h id
  | succ n ih =>
    intro x l2 hs h
    unfold k_X4_go_26 at h
    refine hv_aload_n E dX4_go_26 rfl 0 rfl ?_
    refine hv_getR (k := 27) (t2 := (42, 0)) E dX4_go_27 rfl rfl hiX4 (by decide) wd_444 rfl rfl (hs _ _ _ rfl) ?_
    refine hv_iload_n E dX4_go_30 rfl 1 rfl ?_
    obtain ⟨h2, h⟩ := h
    refine hv_zald E dX4_go_31 rfl (by decide) rfl h2 ?_
    refine hv_if_ne (tgt := 121) E dX4_go_32 (by decide) (fun c3 => ?_) (fun c3 => ?_)
    · have h := h.1 c3
      refine hv_lv [0, 1, 2] rfl ?_
      exact hK x l2 hs h
    · have h := h.2 c3
      refine hv_iconst (v := nI 0) E dX4_go_35 (by decide) ?_
      refine hv_istore_n (lv' := [(0, aR (20, 0)), (1, aI a1)]) E dX4_go_36 rfl (by decide) rfl ?_
      obtain ⟨n15, h⟩ := h
      refine hv_lv [1, 2, 0] rfl ?_
      refine w_X4_go_37 E hret a1 (K := _) (fun x_37 l2_37 hs h => ?_) n15 x (nI 0) hs h
      refine hv_goto (tgt := 26) E dX4_go_118 (by decide) ?_
      refine hv_lv [0, 1, 2] rfl ?_
      exact ih x_37 l2_37 hs h
set_option maxRecDepth 100000 in
set_option maxHeartbeats 4000000 in
theorem w_X4_go_7 {p : Program} {l : Launch} {e : Env} {s : State} {m : MethodId} {args : Array Value} {below : List Frame} {meth : Method} {c : Code} {D : va_G} {cA : Nat → ClassId} {B0 : Nat} {ad0 : hp_T → Nat} {x0 : hp_S} (E : hp_E p s m args meth c cX4_go 3 "VersionJoinsModel" hp_ws D cA B0) (hret : meth.sig.returnType = (Option.none : Option Jvm.ClassFile.FieldType)) {P : hp_S → Prop} (a1 : Int32) : ∀ (n : Nat) (x : hp_S) (l2 : Int32), hp_sh x → k_X4_go_7 P a1 n x l2 → hp_V p l e rm_X4_go s m args below meth c (fun ad0 => MQ below (hp_Q D cA B0 ad0 x0 (hp_pV P)) args s 0 0 (fun q => B0 ≤ q)) D cA B0 3 ad0 x0 0 0 x 7 [(0, aR (20, 0)), (1, aI a1), (2, aI l2)] [] := by
  intro n
  induction n with
  | zero => intro x l2 hs h; exact absurd h id
  | succ n ih =>
    intro x l2 hs h
    unfold k_X4_go_7 at h
    refine hv_iload_n E dX4_go_7 rfl 2 rfl ?_
    refine hv_bipush (v := nI 12) E dX4_go_8 (by decide) ?_
    refine hv_icmp_ge (tgt := 26) E dX4_go_10 (by decide) (fun c1 => ?_) (fun c1 => ?_)
    · have h := h.1 c1
      obtain ⟨n16, h⟩ := h
      refine hv_lv [0, 1, 2] rfl ?_
      refine w_X4_go_26 E hret a1 (K := _) (fun x_26 l2_26 hs h => ?_) n16 x l2 hs h
      exact hv_vret E hret dX4_go_121 (Nat.le_of_ble_eq_true rfl) (Nat.le_of_ble_eq_true rfl) ⟨rfl, hs, h⟩
    · have h := h.2 c1
      refine hv_aload_n E dX4_go_13 rfl 0 rfl ?_
      refine hv_getR (k := 27) (t2 := (42, 0)) E dX4_go_14 rfl rfl hiX4 (by decide) wd_444 rfl rfl (hs _ _ _ rfl) ?_
      refine hv_iload_n E dX4_go_17 rfl 2 rfl ?_
      refine hv_iconst (v := nI 0) E dX4_go_18 (by decide) ?_
      obtain ⟨h17, h⟩ := h
      refine hv_zast (w := nI 0) E dX4_go_19 rfl (by decide) rfl h17 (by decide) ?_
      refine hv_iinc (v := l2 + nI 1) (lv' := [(0, aR (20, 0)), (1, aI a1)]) E 2 dX4_go_20 rfl (hx_i1 _) (by decide) rfl ?_
      refine hv_goto (tgt := 7) E dX4_go_23 (by decide) ?_
      refine hv_lv [1, 2, 0] rfl ?_
      exact ih (hp_uI x (42, 0) l2.toNatClampNeg (nI 0)) (l2 + nI 1) hs h
set_option maxRecDepth 100000 in
set_option maxHeartbeats 4000000 in
theorem c_X4_go (l : Launch) (P : hp_S → Prop) (a1 : Int32) (x : hp_S) (hs : hp_sh x) (h : k_X4_go P a1 x) : hp_C l yX4_go (Cond.code yX4_go cX4_go 3 (Option.none : Option Jvm.ClassFile.FieldType) :: hp_ws) rm_X4_go [aR (20, 0), aI a1] x (hp_pV P) 0 0 := by
  refine hp_ofV (own := "VersionJoinsModel") (lv := [(0, aR (20, 0)), (1, aI a1)]) (by decide) rfl (Nat.le_of_ble_eq_true rfl) rfl ?_
  intro p e s m args below meth c D cA B0 ad0 E hret hnm
  unfold k_X4_go at h
  refine hv_aload_n E dX4_go_0 rfl 0 rfl ?_
  refine hv_iconst (v := nI 0) E dX4_go_1 (by decide) ?_
  refine hv_putI (ty := .boolean) (k := 29) E tyX4 okX4 nmX4 dX4_go_2 rfl rfl hiX4 (by decide) wd_446 rfl rfl (Or.inl rfl) (by decide +kernel) (by decide) rfl ?_
  refine hv_iconst (v := nI 0) E dX4_go_5 (by decide) ?_
  refine hv_istore_n (lv' := [(0, aR (20, 0)), (1, aI a1)]) E dX4_go_6 rfl (by decide) rfl ?_
  obtain ⟨n18, h⟩ := h
  refine hv_lv [1, 2, 0] rfl ?_
  exact w_X4_go_7 E hret a1 n18 (hp_uI x (20, 0) 29 (nI 0)) (nI 0) hs h
-- VersionJoinsModel.run(I)Z
def k_X4_run (P : Int32 → hp_S → Prop) (a1 : Int32) (x : hp_S) : Prop := k_X4_isStep (fun r2 x2 => (¬ r2 = 0 → (k_X4_go (fun x12 => (narrow .boolean (.int (x12.2.1 (20, 0) 29)) = .int (x12.2.1 (20, 0) 29)) ∧ P (x12.2.1 (20, 0) 29) x12) a1 x2)) ∧ (r2 = 0 → (P (nI 0) x2))) a1 x
abbrev rm_X4_run : Room := ({ frames := 5, cells := 0, slots := 0, locals := 115 } : Room)
set_option maxRecDepth 100000 in
set_option maxHeartbeats 4000000 in
theorem c_X4_run (l : Launch) (P : Int32 → hp_S → Prop) (a1 : Int32) (x : hp_S) (hs : hp_sh x) (h : k_X4_run P a1 x) : hp_C l yX4_run (Cond.code yX4_run cX4_run 2 (Option.some Jvm.ClassFile.FieldType.boolean) :: hp_ws) rm_X4_run [aR (20, 0), aI a1] x (hp_pI P) 0 0 := by
  refine hp_ofV (own := "VersionJoinsModel") (lv := [(0, aR (20, 0)), (1, aI a1)]) (by decide) rfl (Nat.le_of_ble_eq_true rfl) rfl ?_
  intro p e s m args below meth c D cA B0 ad0 E hret hnm
  unfold k_X4_run at h
  refine hv_aload_n E dX4_run_0 rfl 0 rfl ?_
  refine hv_iload_n E dX4_run_1 rfl 1 rfl ?_
  refine hv_VI E [aI a1] (c_X4_isStep l _ a1 x hs h) (hp_cwV 1 E wd_520 wd_522 wd_18 wd_41 wd_523 rfl rfl (by decide +kernel) ⟨(Nat.le_of_ble_eq_true rfl), (Nat.le_of_ble_eq_true rfl)⟩) rfl rfl rfl rfl (Nat.le_of_ble_eq_true rfl) dX4_run_2 ⟨(Nat.le_of_ble_eq_true rfl), (Nat.le_of_ble_eq_true rfl)⟩ (fun r2 x2 hs h => ?_)
  refine hv_if_ne (tgt := 10) E dX4_run_5 (by decide) (fun c1 => ?_) (fun c1 => ?_)
  · have h := h.1 c1
    refine hv_aload_n E dX4_run_10 rfl 0 rfl ?_
    refine hv_iload_n E dX4_run_11 rfl 1 rfl ?_
    refine hv_VV E [aI a1] (c_X4_go l _ a1 x2 hs h) (hp_cwV 1 E wd_616 wd_618 wd_32 wd_41 wd_619 rfl rfl (by decide +kernel) ⟨(Nat.le_of_ble_eq_true rfl), (Nat.le_of_ble_eq_true rfl)⟩) rfl rfl rfl rfl (Nat.le_of_ble_eq_true rfl) dX4_run_12 ⟨(Nat.le_of_ble_eq_true rfl), (Nat.le_of_ble_eq_true rfl)⟩ (fun x12 hs h => ?_)
    refine hv_aload_n E dX4_run_15 rfl 0 rfl ?_
    refine hv_getI (k := 29) E dX4_run_16 rfl rfl hiX4 (by decide) wd_446 rfl rfl ?_
    obtain ⟨h2, h⟩ := h
    exact hv_zret E hret dX4_run_19 h2 (Nat.le_of_ble_eq_true rfl) (Nat.le_of_ble_eq_true rfl) ⟨_, rfl, hs, h⟩
  · have h := h.2 c1
    refine hv_iconst (v := nI 0) E dX4_run_8 (by decide) ?_
    exact hv_zret E hret dX4_run_9 (by decide) (Nat.le_of_ble_eq_true rfl) (Nat.le_of_ble_eq_true rfl) ⟨_, rfl, hs, h⟩
-- VersionJoinsModel.branch()I
def k_X4_branch_13 (P : Int32 → hp_S → Prop) : Nat → hp_S → Int32 → Prop
  | 0, _, _ => False
  | n + 1, x, l1 => ((x.2.1 (20, 0) 0) ≤ l1 → (P (((hp_uI x (20, 0) 1 ((x.2.1 (20, 0) 1) + (nI 1))).2.1 (20, 0) 1) - (nI 1)) (hp_uI x (20, 0) 1 ((x.2.1 (20, 0) 1) + (nI 1))))) ∧ (¬ (x.2.1 (20, 0) 0) ≤ l1 → (vp_in l1 144 ∧ (vp_in (((nI 24) * (x.2.1 (20, 0) 1)) + l1) 144 ∧ (k_X4_branch_13 P n (hp_uL x (21, 0) ((((nI 24) * (x.2.1 (20, 0) 1)) + l1).toNatClampNeg) (x.2.2.1 (21, 0) l1.toNatClampNeg)) (l1 + nI 1)))))
def k_X4_branch (P : Int32 → hp_S → Prop)  (x : hp_S) : Prop := (¬ (x.2.1 (20, 0) 1) = (nI 6) → (∃ q, k_X4_branch_13 P  q x (nI 0))) ∧ ((x.2.1 (20, 0) 1) = (nI 6) → (P (-1 : Int32) x))
abbrev rm_X4_branch : Room := ({ frames := 0, cells := 0, slots := 0, locals := 0 } : Room)
set_option maxRecDepth 100000 in
set_option maxHeartbeats 4000000 in
theorem w_X4_branch_13 {p : Program} {l : Launch} {e : Env} {s : State} {m : MethodId} {args : Array Value} {below : List Frame} {meth : Method} {c : Code} {D : va_G} {cA : Nat → ClassId} {B0 : Nat} {ad0 : hp_T → Nat} {x0 : hp_S} (E : hp_E p s m args meth c cX4_branch 2 "VersionJoinsModel" hp_ws D cA B0) (hret : meth.sig.returnType = (Option.some Jvm.ClassFile.FieldType.int)) {P : Int32 → hp_S → Prop} : ∀ (n : Nat) (x : hp_S) (l1 : Int32), hp_sh x → k_X4_branch_13 P n x l1 → hp_V p l e rm_X4_branch s m args below meth c (fun ad0 => MQ below (hp_Q D cA B0 ad0 x0 (hp_pI P)) args s 0 0 (fun q => B0 ≤ q)) D cA B0 2 ad0 x0 0 0 x 13 [(0, aR (20, 0)), (1, aI l1)] [] := by
  intro n
  induction n with
  | zero => intro x l1 hs h; exact absurd h id
  | succ n ih =>
    intro x l1 hs h
    unfold k_X4_branch_13 at h
    refine hv_iload_n E dX4_branch_13 rfl 1 rfl ?_
    refine hv_aload_n E dX4_branch_14 rfl 0 rfl ?_
    refine hv_getI (k := 0) E dX4_branch_15 rfl rfl hiX4 (by decide) wd_417 rfl rfl ?_
    refine hv_icmp_ge (tgt := 47) E dX4_branch_18 (by decide) (fun c2 => ?_) (fun c2 => ?_)
    · have h := h.1 c2
      refine hv_aload_n E dX4_branch_47 rfl 0 rfl ?_
      refine hv_dup E dX4_branch_48 rfl ?_
      refine hv_getI (k := 1) E dX4_branch_49 rfl rfl hiX4 (by decide) wd_418 rfl rfl ?_
      refine hv_iconst (v := nI 1) E dX4_branch_52 (by decide) ?_
      refine hv_iadd (v := (x.2.1 (20, 0) 1) + (nI 1)) E dX4_branch_53 rfl ?_
      refine hv_putI (ty := .int) (k := 1) E tyX4 okX4 nmX4 dX4_branch_54 rfl rfl hiX4 (by decide) wd_418 rfl rfl (Or.inl rfl) (by decide +kernel) rfl rfl ?_
      refine hv_aload_n E dX4_branch_57 rfl 0 rfl ?_
      refine hv_getI (k := 1) E dX4_branch_58 rfl rfl hiX4 (by decide) wd_418 rfl rfl ?_
      refine hv_iconst (v := nI 1) E dX4_branch_61 (by decide) ?_
      refine hv_isub (v := ((hp_uI x (20, 0) 1 ((x.2.1 (20, 0) 1) + (nI 1))).2.1 (20, 0) 1) - (nI 1)) E dX4_branch_62 rfl ?_
      exact hv_iret E hret dX4_branch_63 (Nat.le_of_ble_eq_true rfl) (Nat.le_of_ble_eq_true rfl) ⟨_, rfl, hs, h⟩
    · have h := h.2 c2
      refine hv_aload_n E dX4_branch_21 rfl 0 rfl ?_
      refine hv_getR (k := 2) (t2 := (21, 0)) E dX4_branch_22 rfl rfl hiX4 (by decide) wd_419 rfl rfl (hs _ _ _ rfl) ?_
      refine hv_bipush (v := nI 24) E dX4_branch_25 (by decide) ?_
      refine hv_aload_n E dX4_branch_27 rfl 0 rfl ?_
      refine hv_getI (k := 1) E dX4_branch_28 rfl rfl hiX4 (by decide) wd_418 rfl rfl ?_
      refine hv_imul (v := (nI 24) * (x.2.1 (20, 0) 1)) E dX4_branch_31 rfl ?_
      refine hv_iload_n E dX4_branch_32 rfl 1 rfl ?_
      refine hv_iadd (v := ((nI 24) * (x.2.1 (20, 0) 1)) + l1) E dX4_branch_33 rfl ?_
      refine hv_aload_n E dX4_branch_34 rfl 0 rfl ?_
      refine hv_getR (k := 2) (t2 := (21, 0)) E dX4_branch_35 rfl rfl hiX4 (by decide) wd_419 rfl rfl (hs _ _ _ rfl) ?_
      refine hv_iload_n E dX4_branch_38 rfl 1 rfl ?_
      obtain ⟨h3, h⟩ := h
      refine hv_lald E dX4_branch_39 rfl (by decide) rfl h3 ?_
      obtain ⟨h4, h⟩ := h
      refine hv_last E dX4_branch_40 rfl (by decide) rfl h4 ?_
      refine hv_iinc (v := l1 + nI 1) (lv' := [(0, aR (20, 0))]) E 1 dX4_branch_41 rfl (hx_i1 _) (by decide) rfl ?_
      refine hv_goto (tgt := 13) E dX4_branch_44 (by decide) ?_
      refine hv_lv [1, 0] rfl ?_
      exact ih (hp_uL x (21, 0) ((((nI 24) * (x.2.1 (20, 0) 1)) + l1).toNatClampNeg) (x.2.2.1 (21, 0) l1.toNatClampNeg)) (l1 + nI 1) hs h
set_option maxRecDepth 100000 in
set_option maxHeartbeats 4000000 in
theorem c_X4_branch (l : Launch) (P : Int32 → hp_S → Prop)  (x : hp_S) (hs : hp_sh x) (h : k_X4_branch P  x) : hp_C l yX4_branch (Cond.code yX4_branch cX4_branch 2 (Option.some Jvm.ClassFile.FieldType.int) :: hp_ws) rm_X4_branch [aR (20, 0)] x (hp_pI P) 0 0 := by
  refine hp_ofV (own := "VersionJoinsModel") (lv := [(0, aR (20, 0))]) (by decide) rfl (Nat.le_of_ble_eq_true rfl) rfl ?_
  intro p e s m args below meth c D cA B0 ad0 E hret hnm
  unfold k_X4_branch at h
  refine hv_aload_n E dX4_branch_0 rfl 0 rfl ?_
  refine hv_getI (k := 1) E dX4_branch_1 rfl rfl hiX4 (by decide) wd_418 rfl rfl ?_
  refine hv_bipush (v := nI 6) E dX4_branch_4 (by decide) ?_
  refine hv_icmp_ne (tgt := 11) E dX4_branch_6 (by decide) (fun c1 => ?_) (fun c1 => ?_)
  · have h := h.1 c1
    refine hv_iconst (v := nI 0) E dX4_branch_11 (by decide) ?_
    refine hv_istore_n (lv' := [(0, aR (20, 0))]) E dX4_branch_12 rfl (by decide) rfl ?_
    obtain ⟨n5, h⟩ := h
    refine hv_lv [1, 0] rfl ?_
    exact w_X4_branch_13 E hret  n5 x (nI 0) hs h
  · have h := h.2 c1
    refine hv_iconst (v := (-1 : Int32)) E dX4_branch_9 (by decide) ?_
    exact hv_iret E hret dX4_branch_10 (Nat.le_of_ble_eq_true rfl) (Nat.le_of_ble_eq_true rfl) ⟨_, rfl, hs, h⟩
-- VersionJoinsModel.from(II)I
def k_X4_from_69 (P : Int32 → hp_S → Prop) (a1 : Int32) (a2 : Int32) (f3 : Int32) : Nat → hp_S → Int32 → Int32 → Prop
  | 0, _, _, _ => False
  | n + 1, x, l4, l5 => vp_in f3 12 ∧ (((x.2.1 (38, 0) f3.toNatClampNeg) ≤ l5 → ((l4 = 0 → (P (-1 : Int32) x)) ∧ (¬ l4 = 0 → (vp_in (((nI 8) * f3) + a2) 96 ∧ (P (x.2.1 (32, 0) (((nI 8) * f3) + a2).toNatClampNeg) x))))) ∧ (¬ (x.2.1 (38, 0) f3.toNatClampNeg) ≤ l5 → ((¬ l4 = 0 → (k_X4_from_69 P a1 a2 f3 n x (nI 1) (l5 + nI 1))) ∧ (l4 = 0 → (vp_in (((nI 4) * f3) + l5) 48 ∧ ((¬ (x.2.1 (34, 0) (((nI 4) * f3) + l5).toNatClampNeg) = a1 → (k_X4_from_69 P a1 a2 f3 n x (nI 0) (l5 + nI 1))) ∧ ((x.2.1 (34, 0) (((nI 4) * f3) + l5).toNatClampNeg) = a1 → (k_X4_from_69 P a1 a2 f3 n x (nI 1) (l5 + nI 1)))))))))
def k_X4_from (P : Int32 → hp_S → Prop) (a1 : Int32) (a2 : Int32) (x : hp_S) : Prop := k_X4_isThing (fun r2 x2 => (r2 = 0 → (((-1 : Int32) < 0 → (P (-1 : Int32) x2)) ∧ (¬ (-1 : Int32) < 0 → (vp_in (-1 : Int32) 12 ∧ (((x2.2.1 (36, 0) (-1 : Int32).toNatClampNeg) = 0 → (P (-1 : Int32) x2)) ∧ (¬ (x2.2.1 (36, 0) (-1 : Int32).toNatClampNeg) = 0 → ((a2 < 0 → (P (-1 : Int32) x2)) ∧ (¬ a2 < 0 → (vp_in (-1 : Int32) 12 ∧ (((x2.2.1 (37, 0) (-1 : Int32).toNatClampNeg) ≤ a2 → (P (-1 : Int32) x2)) ∧ (¬ (x2.2.1 (37, 0) (-1 : Int32).toNatClampNeg) ≤ a2 → (vp_in a1 144 ∧ (vp_in (-1 : Int32) 12 ∧ (((lg_cmp (x2.2.2.1 (21, 0) a1.toNatClampNeg) (x2.2.2.1 (40, 0) (-1 : Int32).toNatClampNeg)) = 0 → (∃ q, k_X4_from_69 P a1 a2 (-1 : Int32) q x2 (nI 0) (nI 0))) ∧ (¬ (lg_cmp (x2.2.2.1 (21, 0) a1.toNatClampNeg) (x2.2.2.1 (40, 0) (-1 : Int32).toNatClampNeg)) = 0 → (P (-1 : Int32) x2)))))))))))))))) ∧ (¬ r2 = 0 → (k_X4_maker (fun r10 x10 => (r10 < 0 → (P (-1 : Int32) x10)) ∧ (¬ r10 < 0 → (vp_in r10 12 ∧ (((x10.2.1 (36, 0) r10.toNatClampNeg) = 0 → (P (-1 : Int32) x10)) ∧ (¬ (x10.2.1 (36, 0) r10.toNatClampNeg) = 0 → ((a2 < 0 → (P (-1 : Int32) x10)) ∧ (¬ a2 < 0 → (vp_in r10 12 ∧ (((x10.2.1 (37, 0) r10.toNatClampNeg) ≤ a2 → (P (-1 : Int32) x10)) ∧ (¬ (x10.2.1 (37, 0) r10.toNatClampNeg) ≤ a2 → (vp_in a1 144 ∧ (vp_in r10 12 ∧ (((lg_cmp (x10.2.2.1 (21, 0) a1.toNatClampNeg) (x10.2.2.1 (40, 0) r10.toNatClampNeg)) = 0 → (∃ q, k_X4_from_69 P a1 a2 r10 q x10 (nI 0) (nI 0))) ∧ (¬ (lg_cmp (x10.2.2.1 (21, 0) a1.toNatClampNeg) (x10.2.2.1 (40, 0) r10.toNatClampNeg)) = 0 → (P (-1 : Int32) x10))))))))))))))) a1 x2))) a1 x
abbrev rm_X4_from : Room := ({ frames := 2, cells := 0, slots := 0, locals := 47 } : Room)
set_option maxRecDepth 100000 in
set_option maxHeartbeats 4000000 in
theorem w_X4_from_69 {p : Program} {l : Launch} {e : Env} {s : State} {m : MethodId} {args : Array Value} {below : List Frame} {meth : Method} {c : Code} {D : va_G} {cA : Nat → ClassId} {B0 : Nat} {ad0 : hp_T → Nat} {x0 : hp_S} (E : hp_E p s m args meth c cX4_from 6 "VersionJoinsModel" hp_ws D cA B0) (hret : meth.sig.returnType = (Option.some Jvm.ClassFile.FieldType.int)) {P : Int32 → hp_S → Prop} (a1 : Int32) (a2 : Int32) (f3 : Int32) : ∀ (n : Nat) (x : hp_S) (l4 : Int32) (l5 : Int32), hp_sh x → k_X4_from_69 P a1 a2 f3 n x l4 l5 → hp_V p l e rm_X4_from s m args below meth c (fun ad0 => MQ below (hp_Q D cA B0 ad0 x0 (hp_pI P)) args s 0 0 (fun q => B0 ≤ q)) D cA B0 6 ad0 x0 0 0 x 69 [(0, aR (20, 0)), (1, aI a1), (2, aI a2), (3, aI f3), (4, aI l4), (5, aI l5)] [] := by
  intro n
  induction n with
  | zero => intro x l4 l5 hs h; exact absurd h id
  | succ n ih =>
    intro x l4 l5 hs h
    unfold k_X4_from_69 at h
    refine hv_iload E dX4_from_69 5 rfl ?_
    refine hv_aload_n E dX4_from_71 rfl 0 rfl ?_
    refine hv_getR (k := 23) (t2 := (38, 0)) E dX4_from_72 rfl rfl hiX4 (by decide) wd_440 rfl rfl (hs _ _ _ rfl) ?_
    refine hv_iload_n E dX4_from_75 rfl 3 rfl ?_
    obtain ⟨h11, h⟩ := h
    refine hv_iald E dX4_from_76 rfl (by decide) rfl h11 ?_
    refine hv_icmp_ge (tgt := 113) E dX4_from_77 (by decide) (fun c12 => ?_) (fun c12 => ?_)
    · have h := h.1 c12
      refine hv_iload E dX4_from_113 4 rfl ?_
      refine hv_if_eq (tgt := 132) E dX4_from_115 (by decide) (fun c13 => ?_) (fun c13 => ?_)
      · have h := h.1 c13
        refine hv_iconst (v := (-1 : Int32)) E dX4_from_132 (by decide) ?_
        exact hv_iret E hret dX4_from_133 (Nat.le_of_ble_eq_true rfl) (Nat.le_of_ble_eq_true rfl) ⟨_, rfl, hs, h⟩
      · have h := h.2 c13
        refine hv_aload_n E dX4_from_118 rfl 0 rfl ?_
        refine hv_getR (k := 17) (t2 := (32, 0)) E dX4_from_119 rfl rfl hiX4 (by decide) wd_434 rfl rfl (hs _ _ _ rfl) ?_
        refine hv_bipush (v := nI 8) E dX4_from_122 (by decide) ?_
        refine hv_iload_n E dX4_from_124 rfl 3 rfl ?_
        refine hv_imul (v := (nI 8) * f3) E dX4_from_125 rfl ?_
        refine hv_iload_n E dX4_from_126 rfl 2 rfl ?_
        refine hv_iadd (v := ((nI 8) * f3) + a2) E dX4_from_127 rfl ?_
        obtain ⟨h14, h⟩ := h
        refine hv_iald E dX4_from_128 rfl (by decide) rfl h14 ?_
        refine hv_goto (tgt := 133) E dX4_from_129 (by decide) ?_
        exact hv_iret E hret dX4_from_133 (Nat.le_of_ble_eq_true rfl) (Nat.le_of_ble_eq_true rfl) ⟨_, rfl, hs, h⟩
    · have h := h.2 c12
      refine hv_iload E dX4_from_80 4 rfl ?_
      refine hv_if_ne (tgt := 100) E dX4_from_82 (by decide) (fun c15 => ?_) (fun c15 => ?_)
      · have h := h.1 c15
        refine hv_iconst (v := nI 1) E dX4_from_100 (by decide) ?_
        refine hv_goto (tgt := 105) E dX4_from_101 (by decide) ?_
        refine hv_istore (lv' := [(0, aR (20, 0)), (1, aI a1), (2, aI a2), (3, aI f3), (5, aI l5)]) E dX4_from_105 (by decide) rfl ?_
        refine hv_iinc (v := l5 + nI 1) (lv' := [(4, aI (nI 1)), (0, aR (20, 0)), (1, aI a1), (2, aI a2), (3, aI f3)]) E 5 dX4_from_107 rfl (hx_i1 _) (by decide) rfl ?_
        refine hv_goto (tgt := 69) E dX4_from_110 (by decide) ?_
        refine hv_lv [2, 3, 4, 5, 1, 0] rfl ?_
        exact ih x (nI 1) (l5 + nI 1) hs h
      · have h := h.2 c15
        refine hv_aload_n E dX4_from_85 rfl 0 rfl ?_
        refine hv_getR (k := 19) (t2 := (34, 0)) E dX4_from_86 rfl rfl hiX4 (by decide) wd_436 rfl rfl (hs _ _ _ rfl) ?_
        refine hv_iconst (v := nI 4) E dX4_from_89 (by decide) ?_
        refine hv_iload_n E dX4_from_90 rfl 3 rfl ?_
        refine hv_imul (v := (nI 4) * f3) E dX4_from_91 rfl ?_
        refine hv_iload E dX4_from_92 5 rfl ?_
        refine hv_iadd (v := ((nI 4) * f3) + l5) E dX4_from_94 rfl ?_
        obtain ⟨h16, h⟩ := h
        refine hv_iald E dX4_from_95 rfl (by decide) rfl h16 ?_
        refine hv_iload_n E dX4_from_96 rfl 1 rfl ?_
        refine hv_icmp_ne (tgt := 104) E dX4_from_97 (by decide) (fun c17 => ?_) (fun c17 => ?_)
        · have h := h.1 c17
          refine hv_iconst (v := nI 0) E dX4_from_104 (by decide) ?_
          refine hv_istore (lv' := [(0, aR (20, 0)), (1, aI a1), (2, aI a2), (3, aI f3), (5, aI l5)]) E dX4_from_105 (by decide) rfl ?_
          refine hv_iinc (v := l5 + nI 1) (lv' := [(4, aI (nI 0)), (0, aR (20, 0)), (1, aI a1), (2, aI a2), (3, aI f3)]) E 5 dX4_from_107 rfl (hx_i1 _) (by decide) rfl ?_
          refine hv_goto (tgt := 69) E dX4_from_110 (by decide) ?_
          refine hv_lv [2, 3, 4, 5, 1, 0] rfl ?_
          exact ih x (nI 0) (l5 + nI 1) hs h
        · have h := h.2 c17
          refine hv_iconst (v := nI 1) E dX4_from_100 (by decide) ?_
          refine hv_goto (tgt := 105) E dX4_from_101 (by decide) ?_
          refine hv_istore (lv' := [(0, aR (20, 0)), (1, aI a1), (2, aI a2), (3, aI f3), (5, aI l5)]) E dX4_from_105 (by decide) rfl ?_
          refine hv_iinc (v := l5 + nI 1) (lv' := [(4, aI (nI 1)), (0, aR (20, 0)), (1, aI a1), (2, aI a2), (3, aI f3)]) E 5 dX4_from_107 rfl (hx_i1 _) (by decide) rfl ?_
          refine hv_goto (tgt := 69) E dX4_from_110 (by decide) ?_
          refine hv_lv [2, 3, 4, 5, 1, 0] rfl ?_
          exact ih x (nI 1) (l5 + nI 1) hs h
set_option maxRecDepth 100000 in
set_option maxHeartbeats 4000000 in
theorem c_X4_from (l : Launch) (P : Int32 → hp_S → Prop) (a1 : Int32) (a2 : Int32) (x : hp_S) (hs : hp_sh x) (h : k_X4_from P a1 a2 x) : hp_C l yX4_from (Cond.code yX4_from cX4_from 6 (Option.some Jvm.ClassFile.FieldType.int) :: hp_ws) rm_X4_from [aR (20, 0), aI a1, aI a2] x (hp_pI P) 0 0 := by
  refine hp_ofV (own := "VersionJoinsModel") (lv := [(0, aR (20, 0)), (1, aI a1), (2, aI a2)]) (by decide) rfl (Nat.le_of_ble_eq_true rfl) rfl ?_
  intro p e s m args below meth c D cA B0 ad0 E hret hnm
  unfold k_X4_from at h
  refine hv_aload_n E dX4_from_0 rfl 0 rfl ?_
  refine hv_iload_n E dX4_from_1 rfl 1 rfl ?_
  refine hv_VI E [aI a1] (c_X4_isThing l _ a1 x hs h) (hp_cwV 1 E wd_524 wd_526 wd_19 wd_41 wd_527 rfl rfl (by decide +kernel) ⟨(Nat.le_of_ble_eq_true rfl), (Nat.le_of_ble_eq_true rfl)⟩) rfl rfl rfl rfl (Nat.le_of_ble_eq_true rfl) dX4_from_2 ⟨(Nat.le_of_ble_eq_true rfl), (Nat.le_of_ble_eq_true rfl)⟩ (fun r2 x2 hs h => ?_)
  refine hv_if_eq (tgt := 16) E dX4_from_5 (by decide) (fun c1 => ?_) (fun c1 => ?_)
  · have h := h.1 c1
    refine hv_iconst (v := (-1 : Int32)) E dX4_from_16 (by decide) ?_
    refine hv_istore_n (lv' := [(0, aR (20, 0)), (1, aI a1), (2, aI a2)]) E dX4_from_17 rfl (by decide) rfl ?_
    refine hv_iload_n E dX4_from_18 rfl 0 rfl ?_
    refine hv_if_lt (tgt := 61) E dX4_from_19 (by decide) (fun c2 => ?_) (fun c2 => ?_)
    · have h := h.1 c2
      refine hv_iconst (v := (-1 : Int32)) E dX4_from_61 (by decide) ?_
      exact hv_iret E hret dX4_from_62 (Nat.le_of_ble_eq_true rfl) (Nat.le_of_ble_eq_true rfl) ⟨_, rfl, hs, h⟩
    · have h := h.2 c2
      refine hv_aload_n E dX4_from_22 rfl 1 rfl ?_
      refine hv_getR (k := 21) (t2 := (36, 0)) E dX4_from_23 rfl rfl hiX4 (by decide) wd_438 rfl rfl (hs _ _ _ rfl) ?_
      refine hv_iload_n E dX4_from_26 rfl 0 rfl ?_
      obtain ⟨h3, h⟩ := h
      refine hv_zald E dX4_from_27 rfl (by decide) rfl h3 ?_
      refine hv_if_eq (tgt := 61) E dX4_from_28 (by decide) (fun c4 => ?_) (fun c4 => ?_)
      · have h := h.1 c4
        refine hv_iconst (v := (-1 : Int32)) E dX4_from_61 (by decide) ?_
        exact hv_iret E hret dX4_from_62 (Nat.le_of_ble_eq_true rfl) (Nat.le_of_ble_eq_true rfl) ⟨_, rfl, hs, h⟩
      · have h := h.2 c4
        refine hv_iload_n E dX4_from_31 rfl 3 rfl ?_
        refine hv_if_lt (tgt := 61) E dX4_from_32 (by decide) (fun c5 => ?_) (fun c5 => ?_)
        · have h := h.1 c5
          refine hv_iconst (v := (-1 : Int32)) E dX4_from_61 (by decide) ?_
          exact hv_iret E hret dX4_from_62 (Nat.le_of_ble_eq_true rfl) (Nat.le_of_ble_eq_true rfl) ⟨_, rfl, hs, h⟩
        · have h := h.2 c5
          refine hv_iload_n E dX4_from_35 rfl 3 rfl ?_
          refine hv_aload_n E dX4_from_36 rfl 1 rfl ?_
          refine hv_getR (k := 22) (t2 := (37, 0)) E dX4_from_37 rfl rfl hiX4 (by decide) wd_439 rfl rfl (hs _ _ _ rfl) ?_
          refine hv_iload_n E dX4_from_40 rfl 0 rfl ?_
          obtain ⟨h6, h⟩ := h
          refine hv_iald E dX4_from_41 rfl (by decide) rfl h6 ?_
          refine hv_icmp_ge (tgt := 61) E dX4_from_42 (by decide) (fun c7 => ?_) (fun c7 => ?_)
          · have h := h.1 c7
            refine hv_iconst (v := (-1 : Int32)) E dX4_from_61 (by decide) ?_
            exact hv_iret E hret dX4_from_62 (Nat.le_of_ble_eq_true rfl) (Nat.le_of_ble_eq_true rfl) ⟨_, rfl, hs, h⟩
          · have h := h.2 c7
            refine hv_aload_n E dX4_from_45 rfl 1 rfl ?_
            refine hv_getR (k := 2) (t2 := (21, 0)) E dX4_from_46 rfl rfl hiX4 (by decide) wd_419 rfl rfl (hs _ _ _ rfl) ?_
            refine hv_iload_n E dX4_from_49 rfl 2 rfl ?_
            obtain ⟨h8, h⟩ := h
            refine hv_lald E dX4_from_50 rfl (by decide) rfl h8 ?_
            refine hv_aload_n E dX4_from_51 rfl 1 rfl ?_
            refine hv_getR (k := 25) (t2 := (40, 0)) E dX4_from_52 rfl rfl hiX4 (by decide) wd_442 rfl rfl (hs _ _ _ rfl) ?_
            refine hv_iload_n E dX4_from_55 rfl 0 rfl ?_
            obtain ⟨h9, h⟩ := h
            refine hv_lald E dX4_from_56 rfl (by decide) rfl h9 ?_
            refine hv_lcmp E dX4_from_57 ?_
            refine hv_if_eq (tgt := 63) E dX4_from_58 (by decide) (fun c10 => ?_) (fun c10 => ?_)
            · have h := h.1 c10
              refine hv_iconst (v := nI 0) E dX4_from_63 (by decide) ?_
              refine hv_istore (lv' := [(3, aI (-1 : Int32)), (0, aR (20, 0)), (1, aI a1), (2, aI a2)]) E dX4_from_64 (by decide) rfl ?_
              refine hv_iconst (v := nI 0) E dX4_from_66 (by decide) ?_
              refine hv_istore (lv' := [(4, aI (nI 0)), (3, aI (-1 : Int32)), (0, aR (20, 0)), (1, aI a1), (2, aI a2)]) E dX4_from_67 (by decide) rfl ?_
              obtain ⟨n18, h⟩ := h
              refine hv_lv [3, 4, 5, 2, 1, 0] rfl ?_
              exact w_X4_from_69 E hret a1 a2 (-1 : Int32) n18 x2 (nI 0) (nI 0) hs h
            · have h := h.2 c10
              refine hv_iconst (v := (-1 : Int32)) E dX4_from_61 (by decide) ?_
              exact hv_iret E hret dX4_from_62 (Nat.le_of_ble_eq_true rfl) (Nat.le_of_ble_eq_true rfl) ⟨_, rfl, hs, h⟩
  · have h := h.2 c1
    refine hv_aload_n E dX4_from_8 rfl 0 rfl ?_
    refine hv_iload_n E dX4_from_9 rfl 1 rfl ?_
    refine hv_VI E [aI a1] (c_X4_maker l _ a1 x2 hs h) (hp_cwV 1 E wd_544 wd_546 wd_24 wd_41 wd_547 rfl rfl (by decide +kernel) ⟨(Nat.le_of_ble_eq_true rfl), (Nat.le_of_ble_eq_true rfl)⟩) rfl rfl rfl rfl (Nat.le_of_ble_eq_true rfl) dX4_from_10 ⟨(Nat.le_of_ble_eq_true rfl), (Nat.le_of_ble_eq_true rfl)⟩ (fun r10 x10 hs h => ?_)
    refine hv_goto (tgt := 17) E dX4_from_13 (by decide) ?_
    refine hv_istore_n (lv' := [(0, aR (20, 0)), (1, aI a1), (2, aI a2)]) E dX4_from_17 rfl (by decide) rfl ?_
    refine hv_iload_n E dX4_from_18 rfl 0 rfl ?_
    refine hv_if_lt (tgt := 61) E dX4_from_19 (by decide) (fun c19 => ?_) (fun c19 => ?_)
    · have h := h.1 c19
      refine hv_iconst (v := (-1 : Int32)) E dX4_from_61 (by decide) ?_
      exact hv_iret E hret dX4_from_62 (Nat.le_of_ble_eq_true rfl) (Nat.le_of_ble_eq_true rfl) ⟨_, rfl, hs, h⟩
    · have h := h.2 c19
      refine hv_aload_n E dX4_from_22 rfl 1 rfl ?_
      refine hv_getR (k := 21) (t2 := (36, 0)) E dX4_from_23 rfl rfl hiX4 (by decide) wd_438 rfl rfl (hs _ _ _ rfl) ?_
      refine hv_iload_n E dX4_from_26 rfl 0 rfl ?_
      obtain ⟨h20, h⟩ := h
      refine hv_zald E dX4_from_27 rfl (by decide) rfl h20 ?_
      refine hv_if_eq (tgt := 61) E dX4_from_28 (by decide) (fun c21 => ?_) (fun c21 => ?_)
      · have h := h.1 c21
        refine hv_iconst (v := (-1 : Int32)) E dX4_from_61 (by decide) ?_
        exact hv_iret E hret dX4_from_62 (Nat.le_of_ble_eq_true rfl) (Nat.le_of_ble_eq_true rfl) ⟨_, rfl, hs, h⟩
      · have h := h.2 c21
        refine hv_iload_n E dX4_from_31 rfl 3 rfl ?_
        refine hv_if_lt (tgt := 61) E dX4_from_32 (by decide) (fun c22 => ?_) (fun c22 => ?_)
        · have h := h.1 c22
          refine hv_iconst (v := (-1 : Int32)) E dX4_from_61 (by decide) ?_
          exact hv_iret E hret dX4_from_62 (Nat.le_of_ble_eq_true rfl) (Nat.le_of_ble_eq_true rfl) ⟨_, rfl, hs, h⟩
        · have h := h.2 c22
          refine hv_iload_n E dX4_from_35 rfl 3 rfl ?_
          refine hv_aload_n E dX4_from_36 rfl 1 rfl ?_
          refine hv_getR (k := 22) (t2 := (37, 0)) E dX4_from_37 rfl rfl hiX4 (by decide) wd_439 rfl rfl (hs _ _ _ rfl) ?_
          refine hv_iload_n E dX4_from_40 rfl 0 rfl ?_
          obtain ⟨h23, h⟩ := h
          refine hv_iald E dX4_from_41 rfl (by decide) rfl h23 ?_
          refine hv_icmp_ge (tgt := 61) E dX4_from_42 (by decide) (fun c24 => ?_) (fun c24 => ?_)
          · have h := h.1 c24
            refine hv_iconst (v := (-1 : Int32)) E dX4_from_61 (by decide) ?_
            exact hv_iret E hret dX4_from_62 (Nat.le_of_ble_eq_true rfl) (Nat.le_of_ble_eq_true rfl) ⟨_, rfl, hs, h⟩
          · have h := h.2 c24
            refine hv_aload_n E dX4_from_45 rfl 1 rfl ?_
            refine hv_getR (k := 2) (t2 := (21, 0)) E dX4_from_46 rfl rfl hiX4 (by decide) wd_419 rfl rfl (hs _ _ _ rfl) ?_
            refine hv_iload_n E dX4_from_49 rfl 2 rfl ?_
            obtain ⟨h25, h⟩ := h
            refine hv_lald E dX4_from_50 rfl (by decide) rfl h25 ?_
            refine hv_aload_n E dX4_from_51 rfl 1 rfl ?_
            refine hv_getR (k := 25) (t2 := (40, 0)) E dX4_from_52 rfl rfl hiX4 (by decide) wd_442 rfl rfl (hs _ _ _ rfl) ?_
            refine hv_iload_n E dX4_from_55 rfl 0 rfl ?_
            obtain ⟨h26, h⟩ := h
            refine hv_lald E dX4_from_56 rfl (by decide) rfl h26 ?_
            refine hv_lcmp E dX4_from_57 ?_
            refine hv_if_eq (tgt := 63) E dX4_from_58 (by decide) (fun c27 => ?_) (fun c27 => ?_)
            · have h := h.1 c27
              refine hv_iconst (v := nI 0) E dX4_from_63 (by decide) ?_
              refine hv_istore (lv' := [(3, aI r10), (0, aR (20, 0)), (1, aI a1), (2, aI a2)]) E dX4_from_64 (by decide) rfl ?_
              refine hv_iconst (v := nI 0) E dX4_from_66 (by decide) ?_
              refine hv_istore (lv' := [(4, aI (nI 0)), (3, aI r10), (0, aR (20, 0)), (1, aI a1), (2, aI a2)]) E dX4_from_67 (by decide) rfl ?_
              obtain ⟨n28, h⟩ := h
              refine hv_lv [3, 4, 5, 2, 1, 0] rfl ?_
              exact w_X4_from_69 E hret a1 a2 r10 n28 x10 (nI 0) (nI 0) hs h
            · have h := h.2 c27
              refine hv_iconst (v := (-1 : Int32)) E dX4_from_61 (by decide) ?_
              exact hv_iret E hret dX4_from_62 (Nat.le_of_ble_eq_true rfl) (Nat.le_of_ble_eq_true rfl) ⟨_, rfl, hs, h⟩
-- VersionJoinsModel.value(II)J
def k_X4_value (P : Int64 → hp_S → Prop) (a1 : Int32) (a2 : Int32) (x : hp_S) : Prop := (a1 < 0 → (P 0 x)) ∧ (¬ a1 < 0 → (((x.2.1 (20, 0) 1) ≤ a1 → (P 0 x)) ∧ (¬ (x.2.1 (20, 0) 1) ≤ a1 → (k_X4_isThing (fun r14 x14 => (r14 = 0 → (P 0 x14)) ∧ (¬ r14 = 0 → (vp_in (((nI 24) * a1) + a2) 144 ∧ (P (x14.2.2.1 (21, 0) (((nI 24) * a1) + a2).toNatClampNeg) x14)))) a2 x))))
abbrev rm_X4_value : Room := ({ frames := 1, cells := 0, slots := 0, locals := 21 } : Room)
set_option maxRecDepth 100000 in
set_option maxHeartbeats 4000000 in
theorem c_X4_value (l : Launch) (P : Int64 → hp_S → Prop) (a1 : Int32) (a2 : Int32) (x : hp_S) (hs : hp_sh x) (h : k_X4_value P a1 a2 x) : hp_C l yX4_value (Cond.code yX4_value cX4_value 3 (Option.some Jvm.ClassFile.FieldType.long) :: hp_ws) rm_X4_value [aR (20, 0), aI a1, aI a2] x (hp_pL P) 0 0 := by
  refine hp_ofV (own := "VersionJoinsModel") (lv := [(0, aR (20, 0)), (1, aI a1), (2, aI a2)]) (by decide) rfl (Nat.le_of_ble_eq_true rfl) rfl ?_
  intro p e s m args below meth c D cA B0 ad0 E hret hnm
  unfold k_X4_value at h
  refine hv_iload_n E dX4_value_0 rfl 1 rfl ?_
  refine hv_if_lt (tgt := 34) E dX4_value_1 (by decide) (fun c1 => ?_) (fun c1 => ?_)
  · have h := h.1 c1
    refine hv_lconst (v := 0) E dX4_value_34 (by decide) ?_
    exact hv_lret E hret dX4_value_35 (Nat.le_of_ble_eq_true rfl) (Nat.le_of_ble_eq_true rfl) ⟨_, rfl, hs, h⟩
  · have h := h.2 c1
    refine hv_iload_n E dX4_value_4 rfl 1 rfl ?_
    refine hv_aload_n E dX4_value_5 rfl 0 rfl ?_
    refine hv_getI (k := 1) E dX4_value_6 rfl rfl hiX4 (by decide) wd_418 rfl rfl ?_
    refine hv_icmp_ge (tgt := 34) E dX4_value_9 (by decide) (fun c2 => ?_) (fun c2 => ?_)
    · have h := h.1 c2
      refine hv_lconst (v := 0) E dX4_value_34 (by decide) ?_
      exact hv_lret E hret dX4_value_35 (Nat.le_of_ble_eq_true rfl) (Nat.le_of_ble_eq_true rfl) ⟨_, rfl, hs, h⟩
    · have h := h.2 c2
      refine hv_aload_n E dX4_value_12 rfl 0 rfl ?_
      refine hv_iload_n E dX4_value_13 rfl 2 rfl ?_
      refine hv_VI E [aI a2] (c_X4_isThing l _ a2 x hs h) (hp_cwV 1 E wd_524 wd_526 wd_19 wd_41 wd_527 rfl rfl (by decide +kernel) ⟨(Nat.le_of_ble_eq_true rfl), (Nat.le_of_ble_eq_true rfl)⟩) rfl rfl rfl rfl (Nat.le_of_ble_eq_true rfl) dX4_value_14 ⟨(Nat.le_of_ble_eq_true rfl), (Nat.le_of_ble_eq_true rfl)⟩ (fun r14 x14 hs h => ?_)
      refine hv_if_eq (tgt := 34) E dX4_value_17 (by decide) (fun c3 => ?_) (fun c3 => ?_)
      · have h := h.1 c3
        refine hv_lconst (v := 0) E dX4_value_34 (by decide) ?_
        exact hv_lret E hret dX4_value_35 (Nat.le_of_ble_eq_true rfl) (Nat.le_of_ble_eq_true rfl) ⟨_, rfl, hs, h⟩
      · have h := h.2 c3
        refine hv_aload_n E dX4_value_20 rfl 0 rfl ?_
        refine hv_getR (k := 2) (t2 := (21, 0)) E dX4_value_21 rfl rfl hiX4 (by decide) wd_419 rfl rfl (hs _ _ _ rfl) ?_
        refine hv_bipush (v := nI 24) E dX4_value_24 (by decide) ?_
        refine hv_iload_n E dX4_value_26 rfl 1 rfl ?_
        refine hv_imul (v := (nI 24) * a1) E dX4_value_27 rfl ?_
        refine hv_iload_n E dX4_value_28 rfl 2 rfl ?_
        refine hv_iadd (v := ((nI 24) * a1) + a2) E dX4_value_29 rfl ?_
        obtain ⟨h4, h⟩ := h
        refine hv_lald E dX4_value_30 rfl (by decide) rfl h4 ?_
        refine hv_goto (tgt := 35) E dX4_value_31 (by decide) ?_
        exact hv_lret E hret dX4_value_35 (Nat.le_of_ble_eq_true rfl) (Nat.le_of_ble_eq_true rfl) ⟨_, rfl, hs, h⟩
-- VersionJoinsModel.play(JI)I
def k_X4_play_121 (P : Int32 → hp_S → Prop) (a1 : Int64) (a2 : Int32) (f4 : Int32) (f5 : Int64) (f7 : Int32) (f8 : Int32) (f9 : Int64) (K : hp_S → Int32 → Prop) : Nat → hp_S → Int32 → Prop
  | 0, _, _ => False
  | n + 1, x, l11 => ((x.2.1 (20, 0) 15) ≤ l11 → (K x l11)) ∧ (¬ (x.2.1 (20, 0) 15) ≤ l11 → ((0 ≤ (lg_cmp f5 0) → (K x l11)) ∧ (¬ 0 ≤ (lg_cmp f5 0) → (k_X4_go (fun x140 => k_X4_play_121 P a1 a2 f4 f5 f7 f8 f9 K n x140 (l11 + nI 1)) l11 x))))
def k_X4_play_35 (P : Int32 → hp_S → Prop) (a1 : Int64) (a2 : Int32) (f4 : Int32) : Nat → hp_S → Int64 → Int32 → Prop
  | 0, _, _, _ => False
  | n + 1, x, l5, l7 => (f4 ≤ l7 → (P (x.2.1 (20, 0) 28) x)) ∧ (¬ f4 ≤ l7 → (¬ ((x.2.1 (20, 0) 0).toInt64) = 0 ∧ (vp_in (((hx_lushr ((l5 * 6364136223846793005) + 1442695040888963407) (nI 33)) - (hx_lushr ((l5 * 6364136223846793005) + 1442695040888963407) (nI 33)) / ((x.2.1 (20, 0) 0).toInt64) * ((x.2.1 (20, 0) 0).toInt64)).toInt32) 144 ∧ (((lg_cmp (x.2.2.1 (21, 0) (((hx_lushr ((l5 * 6364136223846793005) + 1442695040888963407) (nI 33)) - (hx_lushr ((l5 * 6364136223846793005) + 1442695040888963407) (nI 33)) / ((x.2.1 (20, 0) 0).toInt64) * ((x.2.1 (20, 0) 0).toInt64)).toInt32).toNatClampNeg) ((hx_lushr ((l5 * 6364136223846793005) + 1442695040888963407) (nI 20)) &&& 255)) = 0 → (vp_in (((hx_lushr ((l5 * 6364136223846793005) + 1442695040888963407) (nI 33)) - (hx_lushr ((l5 * 6364136223846793005) + 1442695040888963407) (nI 33)) / ((x.2.1 (20, 0) 0).toInt64) * ((x.2.1 (20, 0) 0).toInt64)).toInt32) 144 ∧ (∃ q, k_X4_play_121 P a1 a2 f4 ((l5 * 6364136223846793005) + 1442695040888963407) l7 (((hx_lushr ((l5 * 6364136223846793005) + 1442695040888963407) (nI 33)) - (hx_lushr ((l5 * 6364136223846793005) + 1442695040888963407) (nI 33)) / ((x.2.1 (20, 0) 0).toInt64) * ((x.2.1 (20, 0) 0).toInt64)).toInt32) ((hx_lushr ((l5 * 6364136223846793005) + 1442695040888963407) (nI 20)) &&& 255) (fun x_121 l11_121 => k_X4_play_35 P a1 a2 f4 n x_121 ((l5 * 6364136223846793005) + 1442695040888963407) (l7 + nI 1)) q (hp_uL (hp_uI x (20, 0) 28 (x.2.1 (20, 0) 28)) (21, 0) ((((hx_lushr ((l5 * 6364136223846793005) + 1442695040888963407) (nI 33)) - (hx_lushr ((l5 * 6364136223846793005) + 1442695040888963407) (nI 33)) / ((x.2.1 (20, 0) 0).toInt64) * ((x.2.1 (20, 0) 0).toInt64)).toInt32).toNatClampNeg) ((hx_lushr ((l5 * 6364136223846793005) + 1442695040888963407) (nI 20)) &&& 255)) (nI 0)))) ∧ (¬ (lg_cmp (x.2.2.1 (21, 0) (((hx_lushr ((l5 * 6364136223846793005) + 1442695040888963407) (nI 33)) - (hx_lushr ((l5 * 6364136223846793005) + 1442695040888963407) (nI 33)) / ((x.2.1 (20, 0) 0).toInt64) * ((x.2.1 (20, 0) 0).toInt64)).toInt32).toNatClampNeg) ((hx_lushr ((l5 * 6364136223846793005) + 1442695040888963407) (nI 20)) &&& 255)) = 0 → (vp_in (((hx_lushr ((l5 * 6364136223846793005) + 1442695040888963407) (nI 33)) - (hx_lushr ((l5 * 6364136223846793005) + 1442695040888963407) (nI 33)) / ((x.2.1 (20, 0) 0).toInt64) * ((x.2.1 (20, 0) 0).toInt64)).toInt32) 144 ∧ (∃ q, k_X4_play_121 P a1 a2 f4 ((l5 * 6364136223846793005) + 1442695040888963407) l7 (((hx_lushr ((l5 * 6364136223846793005) + 1442695040888963407) (nI 33)) - (hx_lushr ((l5 * 6364136223846793005) + 1442695040888963407) (nI 33)) / ((x.2.1 (20, 0) 0).toInt64) * ((x.2.1 (20, 0) 0).toInt64)).toInt32) ((hx_lushr ((l5 * 6364136223846793005) + 1442695040888963407) (nI 20)) &&& 255) (fun x_121 l11_121 => k_X4_play_35 P a1 a2 f4 n x_121 ((l5 * 6364136223846793005) + 1442695040888963407) (l7 + nI 1)) q (hp_uL (hp_uI x (20, 0) 28 ((x.2.1 (20, 0) 28) + (nI 1))) (21, 0) ((((hx_lushr ((l5 * 6364136223846793005) + 1442695040888963407) (nI 33)) - (hx_lushr ((l5 * 6364136223846793005) + 1442695040888963407) (nI 33)) / ((x.2.1 (20, 0) 0).toInt64) * ((x.2.1 (20, 0) 0).toInt64)).toInt32).toNatClampNeg) ((hx_lushr ((l5 * 6364136223846793005) + 1442695040888963407) (nI 20)) &&& 255)) (nI 0))))))))
def k_X4_play (P : Int32 → hp_S → Prop) (a1 : Int64) (a2 : Int32) (x : hp_S) : Prop := (a2 < 0 → (∃ q, k_X4_play_35 P a1 a2 (nI 0) q (hp_uI x (20, 0) 28 (nI 0)) a1 (nI 0))) ∧ (¬ a2 < 0 → (((nI 50) < a2 → (∃ q, k_X4_play_35 P a1 a2 (nI 0) q (hp_uI x (20, 0) 28 (nI 0)) a1 (nI 0))) ∧ (¬ (nI 50) < a2 → ((¬ (x.2.1 (20, 0) 0) = 0 → (∃ q, k_X4_play_35 P a1 a2 a2 q (hp_uI x (20, 0) 28 (nI 0)) a1 (nI 0))) ∧ ((x.2.1 (20, 0) 0) = 0 → (∃ q, k_X4_play_35 P a1 a2 (nI 0) q (hp_uI x (20, 0) 28 (nI 0)) a1 (nI 0)))))))
abbrev rm_X4_play : Room := ({ frames := 5, cells := 0, slots := 0, locals := 115 } : Room)
set_option maxRecDepth 100000 in
set_option maxHeartbeats 4000000 in
theorem w_X4_play_121 {p : Program} {l : Launch} {e : Env} {s : State} {m : MethodId} {args : Array Value} {below : List Frame} {meth : Method} {c : Code} {D : va_G} {cA : Nat → ClassId} {B0 : Nat} {ad0 : hp_T → Nat} {x0 : hp_S} (E : hp_E p s m args meth c cX4_play 12 "VersionJoinsModel" hp_ws D cA B0) (hret : meth.sig.returnType = (Option.some Jvm.ClassFile.FieldType.int)) {P : Int32 → hp_S → Prop} (a1 : Int64) (a2 : Int32) (f4 : Int32) (f5 : Int64) (f7 : Int32) (f8 : Int32) (f9 : Int64) {K : hp_S → Int32 → Prop} (hK : ∀ (x : hp_S) (l11 : Int32), hp_sh x → K x l11 → hp_V p l e rm_X4_play s m args below meth c (fun ad0 => MQ below (hp_Q D cA B0 ad0 x0 (hp_pI P)) args s 0 0 (fun q => B0 ≤ q)) D cA B0 12 ad0 x0 0 0 x 149 [(0, aR (20, 0)), (1, aL a1), (3, aI a2), (4, aI f4), (5, aL f5), (7, aI f7), (8, aI f8), (9, aL f9), (11, aI l11)] []) : ∀ (n : Nat) (x : hp_S) (l11 : Int32), hp_sh x → k_X4_play_121 P a1 a2 f4 f5 f7 f8 f9 K n x l11 → hp_V p l e rm_X4_play s m args below meth c (fun ad0 => MQ below (hp_Q D cA B0 ad0 x0 (hp_pI P)) args s 0 0 (fun q => B0 ≤ q)) D cA B0 12 ad0 x0 0 0 x 121 [(0, aR (20, 0)), (1, aL a1), (3, aI a2), (4, aI f4), (5, aL f5), (7, aI f7), (8, aI f8), (9, aL f9), (11, aI l11)] [] := by
  intro n
  induction n with
  | zero => intro x l11 hs h; exact absurd h id
  | succ n ih =>
    intro x l11 hs h
    unfold k_X4_play_121 at h
    refine hv_iload E dX4_play_121 8 rfl ?_
    refine hv_aload_n E dX4_play_123 rfl 0 rfl ?_
    refine hv_getI (k := 15) E dX4_play_124 rfl rfl hiX4 (by decide) wd_432 rfl rfl ?_
    refine hv_icmp_ge (tgt := 149) E dX4_play_127 (by decide) (fun c7 => ?_) (fun c7 => ?_)
    · have h := h.1 c7
      refine hv_lv [0, 1, 2, 3, 4, 5, 6, 7, 8] rfl ?_
      exact hK x l11 hs h
    · have h := h.2 c7
      refine hv_lload E dX4_play_130 4 rfl ?_
      refine hv_lconst (v := 0) E dX4_play_132 (by decide) ?_
      refine hv_lcmp E dX4_play_133 ?_
      refine hv_if_ge (tgt := 149) E dX4_play_134 (by decide) (fun c8 => ?_) (fun c8 => ?_)
      · have h := h.1 c8
        refine hv_lv [0, 1, 2, 3, 4, 5, 6, 7, 8] rfl ?_
        exact hK x l11 hs h
      · have h := h.2 c8
        refine hv_aload_n E dX4_play_137 rfl 0 rfl ?_
        refine hv_iload E dX4_play_138 8 rfl ?_
        refine hv_VV E [aI l11] (c_X4_go l _ l11 x hs h) (hp_cwV 1 E wd_616 wd_618 wd_32 wd_41 wd_619 rfl rfl (by decide +kernel) ⟨(Nat.le_of_ble_eq_true rfl), (Nat.le_of_ble_eq_true rfl)⟩) rfl rfl rfl rfl (Nat.le_of_ble_eq_true rfl) dX4_play_140 ⟨(Nat.le_of_ble_eq_true rfl), (Nat.le_of_ble_eq_true rfl)⟩ (fun x140 hs h => ?_)
        refine hv_iinc (v := l11 + nI 1) (lv' := [(0, aR (20, 0)), (1, aL a1), (3, aI a2), (4, aI f4), (5, aL f5), (7, aI f7), (8, aI f8), (9, aL f9)]) E 8 dX4_play_143 rfl (hx_i1 _) (by decide) rfl ?_
        refine hv_goto (tgt := 121) E dX4_play_146 (by decide) ?_
        refine hv_lv [1, 2, 3, 4, 5, 6, 7, 8, 0] rfl ?_
        exact ih x140 (l11 + nI 1) hs h
set_option maxRecDepth 100000 in
set_option maxHeartbeats 4000000 in
theorem w_X4_play_35 {p : Program} {l : Launch} {e : Env} {s : State} {m : MethodId} {args : Array Value} {below : List Frame} {meth : Method} {c : Code} {D : va_G} {cA : Nat → ClassId} {B0 : Nat} {ad0 : hp_T → Nat} {x0 : hp_S} (E : hp_E p s m args meth c cX4_play 12 "VersionJoinsModel" hp_ws D cA B0) (hret : meth.sig.returnType = (Option.some Jvm.ClassFile.FieldType.int)) {P : Int32 → hp_S → Prop} (a1 : Int64) (a2 : Int32) (f4 : Int32) : ∀ (n : Nat) (x : hp_S) (l5 : Int64) (l7 : Int32), hp_sh x → k_X4_play_35 P a1 a2 f4 n x l5 l7 → hp_V p l e rm_X4_play s m args below meth c (fun ad0 => MQ below (hp_Q D cA B0 ad0 x0 (hp_pI P)) args s 0 0 (fun q => B0 ≤ q)) D cA B0 12 ad0 x0 0 0 x 35 [(0, aR (20, 0)), (1, aL a1), (3, aI a2), (4, aI f4), (5, aL l5), (7, aI l7)] [] := by
  intro n
  induction n with
  | zero => intro x l5 l7 hs h; exact absurd h id
  | succ n ih =>
    intro x l5 l7 hs h
    unfold k_X4_play_35 at h
    refine hv_iload E dX4_play_35 5 rfl ?_
    refine hv_iload E dX4_play_37 3 rfl ?_
    refine hv_icmp_ge (tgt := 155) E dX4_play_39 (by decide) (fun c2 => ?_) (fun c2 => ?_)
    · have h := h.1 c2
      refine hv_aload_n E dX4_play_155 rfl 0 rfl ?_
      refine hv_getI (k := 28) E dX4_play_156 rfl rfl hiX4 (by decide) wd_445 rfl rfl ?_
      exact hv_iret E hret dX4_play_159 (Nat.le_of_ble_eq_true rfl) (Nat.le_of_ble_eq_true rfl) ⟨_, rfl, hs, h⟩
    · have h := h.2 c2
      refine hv_lload E dX4_play_42 4 rfl ?_
      refine hv_ldc2 (v := 6364136223846793005) E wd_657 dX4_play_44 ?_
      refine hv_lmul (v := l5 * 6364136223846793005) E dX4_play_47 rfl ?_
      refine hv_ldc2 (v := 1442695040888963407) E wd_658 dX4_play_48 ?_
      refine hv_ladd (v := (l5 * 6364136223846793005) + 1442695040888963407) E dX4_play_51 rfl ?_
      refine hv_lstore (lv' := [(0, aR (20, 0)), (1, aL a1), (3, aI a2), (4, aI f4), (7, aI l7)]) E dX4_play_52 (by decide) rfl ?_
      refine hv_lload E dX4_play_54 0 rfl ?_
      refine hv_bipush (v := nI 33) E dX4_play_56 (by decide) ?_
      refine hv_lushr (v := hx_lushr ((l5 * 6364136223846793005) + 1442695040888963407) (nI 33)) E dX4_play_58 rfl ?_
      refine hv_aload_n E dX4_play_59 rfl 1 rfl ?_
      refine hv_getI (k := 0) E dX4_play_60 rfl rfl hiX4 (by decide) wd_417 rfl rfl ?_
      refine hv_i2l (v := (x.2.1 (20, 0) 0).toInt64) E dX4_play_63 rfl ?_
      obtain ⟨h3, h⟩ := h
      refine hv_lrem (v := (hx_lushr ((l5 * 6364136223846793005) + 1442695040888963407) (nI 33)) - (hx_lushr ((l5 * 6364136223846793005) + 1442695040888963407) (nI 33)) / ((x.2.1 (20, 0) 0).toInt64) * ((x.2.1 (20, 0) 0).toInt64)) E dX4_play_64 h3 rfl ?_
      refine hv_l2i (v := ((hx_lushr ((l5 * 6364136223846793005) + 1442695040888963407) (nI 33)) - (hx_lushr ((l5 * 6364136223846793005) + 1442695040888963407) (nI 33)) / ((x.2.1 (20, 0) 0).toInt64) * ((x.2.1 (20, 0) 0).toInt64)).toInt32) E dX4_play_65 rfl ?_
      refine hv_istore (lv' := [(5, aL ((l5 * 6364136223846793005) + 1442695040888963407)), (0, aR (20, 0)), (1, aL a1), (3, aI a2), (4, aI f4), (7, aI l7)]) E dX4_play_66 (by decide) rfl ?_
      refine hv_lload E dX4_play_68 1 rfl ?_
      refine hv_bipush (v := nI 20) E dX4_play_70 (by decide) ?_
      refine hv_lushr (v := hx_lushr ((l5 * 6364136223846793005) + 1442695040888963407) (nI 20)) E dX4_play_72 rfl ?_
      refine hv_ldc2 (v := 255) E wd_659 dX4_play_73 ?_
      refine hv_land (v := (hx_lushr ((l5 * 6364136223846793005) + 1442695040888963407) (nI 20)) &&& 255) E dX4_play_76 rfl ?_
      refine hv_lstore (lv' := [(8, aI (((hx_lushr ((l5 * 6364136223846793005) + 1442695040888963407) (nI 33)) - (hx_lushr ((l5 * 6364136223846793005) + 1442695040888963407) (nI 33)) / ((x.2.1 (20, 0) 0).toInt64) * ((x.2.1 (20, 0) 0).toInt64)).toInt32)), (5, aL ((l5 * 6364136223846793005) + 1442695040888963407)), (0, aR (20, 0)), (1, aL a1), (3, aI a2), (4, aI f4), (7, aI l7)]) E dX4_play_77 (by decide) rfl ?_
      refine hv_aload_n E dX4_play_79 rfl 3 rfl ?_
      refine hv_aload_n E dX4_play_80 rfl 3 rfl ?_
      refine hv_getR (k := 2) (t2 := (21, 0)) E dX4_play_81 rfl rfl hiX4 (by decide) wd_419 rfl rfl (hs _ _ _ rfl) ?_
      refine hv_iload E dX4_play_84 1 rfl ?_
      obtain ⟨h4, h⟩ := h
      refine hv_lald E dX4_play_86 rfl (by decide) rfl h4 ?_
      refine hv_lload E dX4_play_87 0 rfl ?_
      refine hv_lcmp E dX4_play_89 ?_
      refine hv_if_eq (tgt := 102) E dX4_play_90 (by decide) (fun c5 => ?_) (fun c5 => ?_)
      · have h := h.1 c5
        refine hv_aload_n E dX4_play_102 rfl 3 rfl ?_
        refine hv_getI (k := 28) E dX4_play_103 rfl rfl hiX4 (by decide) wd_445 rfl rfl ?_
        refine hv_putI (ty := .int) (k := 28) E tyX4 okX4 nmX4 dX4_play_106 rfl rfl hiX4 (by decide) wd_445 rfl rfl (Or.inl rfl) (by decide +kernel) rfl rfl ?_
        refine hv_aload_n E dX4_play_109 rfl 3 rfl ?_
        refine hv_getR (k := 2) (t2 := (21, 0)) E dX4_play_110 rfl rfl hiX4 (by decide) wd_419 rfl rfl (hs _ _ _ rfl) ?_
        refine hv_iload E dX4_play_113 1 rfl ?_
        refine hv_lload E dX4_play_115 0 rfl ?_
        obtain ⟨h6, h⟩ := h
        refine hv_last E dX4_play_117 rfl (by decide) rfl h6 ?_
        refine hv_iconst (v := nI 0) E dX4_play_118 (by decide) ?_
        refine hv_istore (lv' := [(9, aL ((hx_lushr ((l5 * 6364136223846793005) + 1442695040888963407) (nI 20)) &&& 255)), (8, aI (((hx_lushr ((l5 * 6364136223846793005) + 1442695040888963407) (nI 33)) - (hx_lushr ((l5 * 6364136223846793005) + 1442695040888963407) (nI 33)) / ((x.2.1 (20, 0) 0).toInt64) * ((x.2.1 (20, 0) 0).toInt64)).toInt32)), (5, aL ((l5 * 6364136223846793005) + 1442695040888963407)), (0, aR (20, 0)), (1, aL a1), (3, aI a2), (4, aI f4), (7, aI l7)]) E dX4_play_119 (by decide) rfl ?_
        obtain ⟨n9, h⟩ := h
        refine hv_lv [4, 5, 6, 7, 3, 8, 2, 1, 0] rfl ?_
        refine w_X4_play_121 E hret a1 a2 f4 ((l5 * 6364136223846793005) + 1442695040888963407) l7 (((hx_lushr ((l5 * 6364136223846793005) + 1442695040888963407) (nI 33)) - (hx_lushr ((l5 * 6364136223846793005) + 1442695040888963407) (nI 33)) / ((x.2.1 (20, 0) 0).toInt64) * ((x.2.1 (20, 0) 0).toInt64)).toInt32) ((hx_lushr ((l5 * 6364136223846793005) + 1442695040888963407) (nI 20)) &&& 255) (K := _) (fun x_121 l11_121 hs h => ?_) n9 (hp_uL (hp_uI x (20, 0) 28 (x.2.1 (20, 0) 28)) (21, 0) ((((hx_lushr ((l5 * 6364136223846793005) + 1442695040888963407) (nI 33)) - (hx_lushr ((l5 * 6364136223846793005) + 1442695040888963407) (nI 33)) / ((x.2.1 (20, 0) 0).toInt64) * ((x.2.1 (20, 0) 0).toInt64)).toInt32).toNatClampNeg) ((hx_lushr ((l5 * 6364136223846793005) + 1442695040888963407) (nI 20)) &&& 255)) (nI 0) hs h
        refine hv_iinc (v := l7 + nI 1) (lv' := [(0, aR (20, 0)), (1, aL a1), (3, aI a2), (4, aI f4), (5, aL ((l5 * 6364136223846793005) + 1442695040888963407)), (8, aI (((hx_lushr ((l5 * 6364136223846793005) + 1442695040888963407) (nI 33)) - (hx_lushr ((l5 * 6364136223846793005) + 1442695040888963407) (nI 33)) / ((x.2.1 (20, 0) 0).toInt64) * ((x.2.1 (20, 0) 0).toInt64)).toInt32)), (9, aL ((hx_lushr ((l5 * 6364136223846793005) + 1442695040888963407) (nI 20)) &&& 255)), (11, aI l11_121)]) E 5 dX4_play_149 rfl (hx_i1 _) (by decide) rfl ?_
        refine hv_goto (tgt := 35) E dX4_play_152 (by decide) ?_
        refine hv_lv [1, 2, 3, 4, 5, 0] rfl ?_
        exact ih x_121 ((l5 * 6364136223846793005) + 1442695040888963407) (l7 + nI 1) hs h
      · have h := h.2 c5
        refine hv_aload_n E dX4_play_93 rfl 3 rfl ?_
        refine hv_getI (k := 28) E dX4_play_94 rfl rfl hiX4 (by decide) wd_445 rfl rfl ?_
        refine hv_iconst (v := nI 1) E dX4_play_97 (by decide) ?_
        refine hv_iadd (v := (x.2.1 (20, 0) 28) + (nI 1)) E dX4_play_98 rfl ?_
        refine hv_goto (tgt := 106) E dX4_play_99 (by decide) ?_
        refine hv_putI (ty := .int) (k := 28) E tyX4 okX4 nmX4 dX4_play_106 rfl rfl hiX4 (by decide) wd_445 rfl rfl (Or.inl rfl) (by decide +kernel) rfl rfl ?_
        refine hv_aload_n E dX4_play_109 rfl 3 rfl ?_
        refine hv_getR (k := 2) (t2 := (21, 0)) E dX4_play_110 rfl rfl hiX4 (by decide) wd_419 rfl rfl (hs _ _ _ rfl) ?_
        refine hv_iload E dX4_play_113 1 rfl ?_
        refine hv_lload E dX4_play_115 0 rfl ?_
        obtain ⟨h10, h⟩ := h
        refine hv_last E dX4_play_117 rfl (by decide) rfl h10 ?_
        refine hv_iconst (v := nI 0) E dX4_play_118 (by decide) ?_
        refine hv_istore (lv' := [(9, aL ((hx_lushr ((l5 * 6364136223846793005) + 1442695040888963407) (nI 20)) &&& 255)), (8, aI (((hx_lushr ((l5 * 6364136223846793005) + 1442695040888963407) (nI 33)) - (hx_lushr ((l5 * 6364136223846793005) + 1442695040888963407) (nI 33)) / ((x.2.1 (20, 0) 0).toInt64) * ((x.2.1 (20, 0) 0).toInt64)).toInt32)), (5, aL ((l5 * 6364136223846793005) + 1442695040888963407)), (0, aR (20, 0)), (1, aL a1), (3, aI a2), (4, aI f4), (7, aI l7)]) E dX4_play_119 (by decide) rfl ?_
        obtain ⟨n11, h⟩ := h
        refine hv_lv [4, 5, 6, 7, 3, 8, 2, 1, 0] rfl ?_
        refine w_X4_play_121 E hret a1 a2 f4 ((l5 * 6364136223846793005) + 1442695040888963407) l7 (((hx_lushr ((l5 * 6364136223846793005) + 1442695040888963407) (nI 33)) - (hx_lushr ((l5 * 6364136223846793005) + 1442695040888963407) (nI 33)) / ((x.2.1 (20, 0) 0).toInt64) * ((x.2.1 (20, 0) 0).toInt64)).toInt32) ((hx_lushr ((l5 * 6364136223846793005) + 1442695040888963407) (nI 20)) &&& 255) (K := _) (fun x_121 l11_121 hs h => ?_) n11 (hp_uL (hp_uI x (20, 0) 28 ((x.2.1 (20, 0) 28) + (nI 1))) (21, 0) ((((hx_lushr ((l5 * 6364136223846793005) + 1442695040888963407) (nI 33)) - (hx_lushr ((l5 * 6364136223846793005) + 1442695040888963407) (nI 33)) / ((x.2.1 (20, 0) 0).toInt64) * ((x.2.1 (20, 0) 0).toInt64)).toInt32).toNatClampNeg) ((hx_lushr ((l5 * 6364136223846793005) + 1442695040888963407) (nI 20)) &&& 255)) (nI 0) hs h
        refine hv_iinc (v := l7 + nI 1) (lv' := [(0, aR (20, 0)), (1, aL a1), (3, aI a2), (4, aI f4), (5, aL ((l5 * 6364136223846793005) + 1442695040888963407)), (8, aI (((hx_lushr ((l5 * 6364136223846793005) + 1442695040888963407) (nI 33)) - (hx_lushr ((l5 * 6364136223846793005) + 1442695040888963407) (nI 33)) / ((x.2.1 (20, 0) 0).toInt64) * ((x.2.1 (20, 0) 0).toInt64)).toInt32)), (9, aL ((hx_lushr ((l5 * 6364136223846793005) + 1442695040888963407) (nI 20)) &&& 255)), (11, aI l11_121)]) E 5 dX4_play_149 rfl (hx_i1 _) (by decide) rfl ?_
        refine hv_goto (tgt := 35) E dX4_play_152 (by decide) ?_
        refine hv_lv [1, 2, 3, 4, 5, 0] rfl ?_
        exact ih x_121 ((l5 * 6364136223846793005) + 1442695040888963407) (l7 + nI 1) hs h
set_option maxRecDepth 100000 in
set_option maxHeartbeats 4000000 in
theorem c_X4_play (l : Launch) (P : Int32 → hp_S → Prop) (a1 : Int64) (a2 : Int32) (x : hp_S) (hs : hp_sh x) (h : k_X4_play P a1 a2 x) : hp_C l yX4_play (Cond.code yX4_play cX4_play 12 (Option.some Jvm.ClassFile.FieldType.int) :: hp_ws) rm_X4_play [aR (20, 0), aL a1, aI a2] x (hp_pI P) 0 0 := by
  refine hp_ofV (own := "VersionJoinsModel") (lv := [(0, aR (20, 0)), (1, aL a1), (3, aI a2)]) (by decide) rfl (Nat.le_of_ble_eq_true rfl) rfl ?_
  intro p e s m args below meth c D cA B0 ad0 E hret hnm
  unfold k_X4_play at h
  refine hv_iload_n E dX4_play_0 rfl 2 rfl ?_
  refine hv_if_lt (tgt := 17) E dX4_play_1 (by decide) (fun c1 => ?_) (fun c1 => ?_)
  · have h := h.1 c1
    refine hv_iconst (v := nI 0) E dX4_play_17 (by decide) ?_
    refine hv_goto (tgt := 22) E dX4_play_18 (by decide) ?_
    refine hv_istore (lv' := [(0, aR (20, 0)), (1, aL a1), (3, aI a2)]) E dX4_play_22 (by decide) rfl ?_
    refine hv_lload_n E dX4_play_24 rfl 2 rfl ?_
    refine hv_lstore (lv' := [(4, aI (nI 0)), (0, aR (20, 0)), (1, aL a1), (3, aI a2)]) E dX4_play_25 (by decide) rfl ?_
    refine hv_aload_n E dX4_play_27 rfl 2 rfl ?_
    refine hv_iconst (v := nI 0) E dX4_play_28 (by decide) ?_
    refine hv_putI (ty := .int) (k := 28) E tyX4 okX4 nmX4 dX4_play_29 rfl rfl hiX4 (by decide) wd_445 rfl rfl (Or.inl rfl) (by decide +kernel) rfl rfl ?_
    refine hv_iconst (v := nI 0) E dX4_play_32 (by decide) ?_
    refine hv_istore (lv' := [(5, aL a1), (4, aI (nI 0)), (0, aR (20, 0)), (1, aL a1), (3, aI a2)]) E dX4_play_33 (by decide) rfl ?_
    obtain ⟨n12, h⟩ := h
    refine hv_lv [3, 4, 5, 2, 1, 0] rfl ?_
    exact w_X4_play_35 E hret a1 a2 (nI 0) n12 (hp_uI x (20, 0) 28 (nI 0)) a1 (nI 0) hs h
  · have h := h.2 c1
    refine hv_iload_n E dX4_play_4 rfl 2 rfl ?_
    refine hv_bipush (v := nI 50) E dX4_play_5 (by decide) ?_
    refine hv_icmp_gt (tgt := 17) E dX4_play_7 (by decide) (fun c13 => ?_) (fun c13 => ?_)
    · have h := h.1 c13
      refine hv_iconst (v := nI 0) E dX4_play_17 (by decide) ?_
      refine hv_goto (tgt := 22) E dX4_play_18 (by decide) ?_
      refine hv_istore (lv' := [(0, aR (20, 0)), (1, aL a1), (3, aI a2)]) E dX4_play_22 (by decide) rfl ?_
      refine hv_lload_n E dX4_play_24 rfl 2 rfl ?_
      refine hv_lstore (lv' := [(4, aI (nI 0)), (0, aR (20, 0)), (1, aL a1), (3, aI a2)]) E dX4_play_25 (by decide) rfl ?_
      refine hv_aload_n E dX4_play_27 rfl 2 rfl ?_
      refine hv_iconst (v := nI 0) E dX4_play_28 (by decide) ?_
      refine hv_putI (ty := .int) (k := 28) E tyX4 okX4 nmX4 dX4_play_29 rfl rfl hiX4 (by decide) wd_445 rfl rfl (Or.inl rfl) (by decide +kernel) rfl rfl ?_
      refine hv_iconst (v := nI 0) E dX4_play_32 (by decide) ?_
      refine hv_istore (lv' := [(5, aL a1), (4, aI (nI 0)), (0, aR (20, 0)), (1, aL a1), (3, aI a2)]) E dX4_play_33 (by decide) rfl ?_
      obtain ⟨n14, h⟩ := h
      refine hv_lv [3, 4, 5, 2, 1, 0] rfl ?_
      exact w_X4_play_35 E hret a1 a2 (nI 0) n14 (hp_uI x (20, 0) 28 (nI 0)) a1 (nI 0) hs h
    · have h := h.2 c13
      refine hv_aload_n E dX4_play_10 rfl 0 rfl ?_
      refine hv_getI (k := 0) E dX4_play_11 rfl rfl hiX4 (by decide) wd_417 rfl rfl ?_
      refine hv_if_ne (tgt := 21) E dX4_play_14 (by decide) (fun c15 => ?_) (fun c15 => ?_)
      · have h := h.1 c15
        refine hv_iload_n E dX4_play_21 rfl 2 rfl ?_
        refine hv_istore (lv' := [(0, aR (20, 0)), (1, aL a1), (3, aI a2)]) E dX4_play_22 (by decide) rfl ?_
        refine hv_lload_n E dX4_play_24 rfl 2 rfl ?_
        refine hv_lstore (lv' := [(4, aI a2), (0, aR (20, 0)), (1, aL a1), (3, aI a2)]) E dX4_play_25 (by decide) rfl ?_
        refine hv_aload_n E dX4_play_27 rfl 2 rfl ?_
        refine hv_iconst (v := nI 0) E dX4_play_28 (by decide) ?_
        refine hv_putI (ty := .int) (k := 28) E tyX4 okX4 nmX4 dX4_play_29 rfl rfl hiX4 (by decide) wd_445 rfl rfl (Or.inl rfl) (by decide +kernel) rfl rfl ?_
        refine hv_iconst (v := nI 0) E dX4_play_32 (by decide) ?_
        refine hv_istore (lv' := [(5, aL a1), (4, aI a2), (0, aR (20, 0)), (1, aL a1), (3, aI a2)]) E dX4_play_33 (by decide) rfl ?_
        obtain ⟨n16, h⟩ := h
        refine hv_lv [3, 4, 5, 2, 1, 0] rfl ?_
        exact w_X4_play_35 E hret a1 a2 a2 n16 (hp_uI x (20, 0) 28 (nI 0)) a1 (nI 0) hs h
      · have h := h.2 c15
        refine hv_iconst (v := nI 0) E dX4_play_17 (by decide) ?_
        refine hv_goto (tgt := 22) E dX4_play_18 (by decide) ?_
        refine hv_istore (lv' := [(0, aR (20, 0)), (1, aL a1), (3, aI a2)]) E dX4_play_22 (by decide) rfl ?_
        refine hv_lload_n E dX4_play_24 rfl 2 rfl ?_
        refine hv_lstore (lv' := [(4, aI (nI 0)), (0, aR (20, 0)), (1, aL a1), (3, aI a2)]) E dX4_play_25 (by decide) rfl ?_
        refine hv_aload_n E dX4_play_27 rfl 2 rfl ?_
        refine hv_iconst (v := nI 0) E dX4_play_28 (by decide) ?_
        refine hv_putI (ty := .int) (k := 28) E tyX4 okX4 nmX4 dX4_play_29 rfl rfl hiX4 (by decide) wd_445 rfl rfl (Or.inl rfl) (by decide +kernel) rfl rfl ?_
        refine hv_iconst (v := nI 0) E dX4_play_32 (by decide) ?_
        refine hv_istore (lv' := [(5, aL a1), (4, aI (nI 0)), (0, aR (20, 0)), (1, aL a1), (3, aI a2)]) E dX4_play_33 (by decide) rfl ?_
        obtain ⟨n17, h⟩ := h
        refine hv_lv [3, 4, 5, 2, 1, 0] rfl ?_
        exact w_X4_play_35 E hret a1 a2 (nI 0) n17 (hp_uI x (20, 0) 28 (nI 0)) a1 (nI 0) hs h
